abbrev cX11_feed : ByteArray := prog_1_method_2_code
def yX11_feed : MethodName := ⟨RX11, "feed", "(IIIII)I"⟩
abbrev cX11_end : ByteArray := prog_1_method_3_code
def yX11_end : MethodName := ⟨RX11, "end", "(I)I"⟩
abbrev cX11_fault : ByteArray := prog_1_method_5_code
def yX11_fault : MethodName := ⟨RX11, "fault", "(I)I"⟩
abbrev cX11_step : ByteArray := prog_1_method_6_code
def yX11_step : MethodName := ⟨RX11, "step", "(II)I"⟩
abbrev cX11_answers : ByteArray := prog_1_method_7_code
def yX11_answers : MethodName := ⟨RX11, "answers", "(I)I"⟩
abbrev cX11_stumbled : ByteArray := prog_1_method_8_code
def yX11_stumbled : MethodName := ⟨RX11, "stumbled", "(II)I"⟩
abbrev cX11_muddy : ByteArray := prog_1_method_9_code
def yX11_muddy : MethodName := ⟨RX11, "muddy", "(I)I"⟩
abbrev cX11_place : ByteArray := prog_1_method_10_code
def yX11_place : MethodName := ⟨RX11, "place", "(II)I"⟩
abbrev cX11_danced : ByteArray := prog_1_method_11_code
def yX11_danced : MethodName := ⟨RX11, "danced", "(II)I"⟩
abbrev cX11_hears : ByteArray := prog_1_method_12_code
def yX11_hears : MethodName := ⟨RX11, "hears", "(II)I"⟩
abbrev cX11_late : ByteArray := prog_1_method_13_code
def yX11_late : MethodName := ⟨RX11, "late", "(II)I"⟩
abbrev cX11_hole : ByteArray := prog_1_method_14_code
def yX11_hole : MethodName := ⟨RX11, "hole", "(II)I"⟩
abbrev cX11_next : ByteArray := prog_1_method_15_code
def yX11_next : MethodName := ⟨RX11, "next", "(II)I"⟩
abbrev cX11_holes : ByteArray := prog_1_method_16_code
def yX11_holes : MethodName := ⟨RX11, "holes", "(III)I"⟩
abbrev cX11_run : ByteArray := prog_1_method_17_code
def yX11_run : MethodName := ⟨RX11, "run", "(II)I"⟩
abbrev cX11_begins : ByteArray := prog_1_method_18_code
def yX11_begins : MethodName := ⟨RX11, "begins", "(II)I"⟩
abbrev cX11_undoes : ByteArray := prog_1_method_19_code
def yX11_undoes : MethodName := ⟨RX11, "undoes", "(I)I"⟩
abbrev cX11_causes : ByteArray := prog_1_method_20_code
def yX11_causes : MethodName := ⟨RX11, "causes", "(II)I"⟩
abbrev cX11_period : ByteArray := prog_1_method_21_code
def yX11_period : MethodName := ⟨RX11, "period", "()I"⟩
abbrev cX11_meets : ByteArray := prog_1_method_22_code
def yX11_meets : MethodName := ⟨RX11, "meets", "(III)I"⟩
abbrev cX11_shifted : ByteArray := prog_1_method_23_code
def yX11_shifted : MethodName := ⟨RX11, "shifted", "(I)I"⟩
abbrev cX11_shift : ByteArray := prog_1_method_24_code
def yX11_shift : MethodName := ⟨RX11, "shift", "()I"⟩
abbrev cX11_least : ByteArray := prog_1_method_25_code
def yX11_least : MethodName := ⟨RX11, "least", "()I"⟩
abbrev cX11_mend : ByteArray := prog_1_method_26_code
def yX11_mend : MethodName := ⟨RX11, "mend", "(I)I"⟩
abbrev cX11_mended : ByteArray := prog_1_method_27_code
def yX11_mended : MethodName := ⟨RX11, "mended", "(II)I"⟩
abbrev cX11_stuck : ByteArray := prog_1_method_28_code
def yX11_stuck : MethodName := ⟨RX11, "stuck", "(I)I"⟩
abbrev cX11_heard : ByteArray := prog_1_method_29_code
def yX11_heard : MethodName := ⟨RX11, "heard", "(II)I"⟩
abbrev cX11_first : ByteArray := prog_1_method_30_code
def yX11_first : MethodName := ⟨RX11, "first", "(II)I"⟩
abbrev cX11_when : ByteArray := prog_1_method_31_code
def yX11_when : MethodName := ⟨RX11, "when", "(II)J"⟩
abbrev cX11_listen : ByteArray := prog_1_method_32_code
def yX11_listen : MethodName := ⟨RX11, "listen", "(II)I"⟩
abbrev cX11_leaves : ByteArray := prog_1_method_33_code
def yX11_leaves : MethodName := ⟨RX11, "leaves", "(II)I"⟩
abbrev cX11_crosses : ByteArray := prog_1_method_34_code
def yX11_crosses : MethodName := ⟨RX11, "crosses", "(I)I"⟩
abbrev cX11_returns : ByteArray := prog_1_method_35_code
def yX11_returns : MethodName := ⟨RX11, "returns", "(I)I"⟩
abbrev cX11_meet : ByteArray := prog_1_method_36_code
def yX11_meet : MethodName := ⟨RX11, "meet", "(II)I"⟩
abbrev cX11_cell : ByteArray := prog_1_method_37_code
def yX11_cell : MethodName := ⟨RX11, "cell", "(II)I"⟩
abbrev cX11_longest : ByteArray := prog_1_method_38_code
def yX11_longest : MethodName := ⟨RX11, "longest", "()I"⟩
abbrev cX11_half : ByteArray := prog_1_method_39_code
def yX11_half : MethodName := ⟨RX11, "half", "(I)I"⟩
abbrev cX11_fills : ByteArray := prog_1_method_40_code
def yX11_fills : MethodName := ⟨RX11, "fills", "(II)I"⟩
abbrev cX11_open : ByteArray := prog_1_method_41_code
def yX11_open : MethodName := ⟨RX11, "open", "(I)I"⟩
abbrev cX11_together : ByteArray := prog_1_method_42_code
def yX11_together : MethodName := ⟨RX11, "together", "(II)J"⟩
abbrev cX11_again : ByteArray := prog_1_method_43_code
def yX11_again : MethodName := ⟨RX11, "again", "(I)J"⟩
abbrev cX11_most : ByteArray := prog_1_method_44_code
def yX11_most : MethodName := ⟨RX11, "most", "()I"⟩
abbrev cX11_chorus : ByteArray := prog_1_method_45_code
def yX11_chorus : MethodName := ⟨RX11, "chorus", "()I"⟩
abbrev cX11_treaties : ByteArray := prog_1_method_46_code
def yX11_treaties : MethodName := ⟨RX11, "treaties", "()I"⟩
abbrev cX11_leads : ByteArray := prog_1_method_47_code
def yX11_leads : MethodName := ⟨RX11, "leads", "(I)I"⟩
abbrev cX11_game : ByteArray := prog_1_method_48_code
def yX11_game : MethodName := ⟨RX11, "game", "(I)I"⟩
abbrev cX11_plays : ByteArray := prog_1_method_49_code
def yX11_plays : MethodName := ⟨RX11, "plays", "(I)I"⟩
abbrev cX11_dry : ByteArray := prog_1_method_50_code
def yX11_dry : MethodName := ⟨RX11, "dry", "(II)J"⟩
abbrev cX11_wet : ByteArray := prog_1_method_51_code
def yX11_wet : MethodName := ⟨RX11, "wet", "(III)J"⟩
abbrev cX11_drawn : ByteArray := prog_1_method_52_code
def yX11_drawn : MethodName := ⟨RX11, "drawn", "(III)I"⟩
abbrev cX11_nights : ByteArray := prog_1_method_53_code
def yX11_nights : MethodName := ⟨RX11, "nights", "(III)I"⟩
abbrev cX11_stumble : ByteArray := prog_1_method_54_code
def yX11_stumble : MethodName := ⟨RX11, "stumble", "(IIII)I"⟩
abbrev cX11_mud : ByteArray := prog_1_method_55_code
def yX11_mud : MethodName := ⟨RX11, "mud", "(II)I"⟩
abbrev cX11_teach : ByteArray := prog_1_method_56_code
def yX11_teach : MethodName := ⟨RX11, "teach", "(III)I"⟩
abbrev cX11_undo : ByteArray := prog_1_method_57_code
def yX11_undo : MethodName := ⟨RX11, "undo", "()I"⟩
abbrev cX11_count : ByteArray := prog_1_method_58_code
def yX11_count : MethodName := ⟨RX11, "count", "(I)I"⟩
abbrev cX11_row : ByteArray := prog_1_method_61_code
def yX11_row : MethodName := ⟨RX11, "row", "(III)I"⟩
abbrev cX11_write : ByteArray := prog_1_method_62_code
def yX11_write : MethodName := ⟨RX11, "write", "(IIJ)I"⟩
abbrev cX11_paste : ByteArray := prog_1_method_63_code
def yX11_paste : MethodName := ⟨RX11, "paste", "(IIIII)I"⟩
abbrev cX11_has : ByteArray := prog_1_method_64_code
def yX11_has : MethodName := ⟨RX11, "has", "(II)Z"⟩
abbrev cX11_hasSpan : ByteArray := prog_1_method_65_code
def yX11_hasSpan : MethodName := ⟨RX11, "hasSpan", "(II)Z"⟩
abbrev cX11_hasRounds : ByteArray := prog_1_method_66_code
def yX11_hasRounds : MethodName := ⟨RX11, "hasRounds", "()Z"⟩
abbrev cX11_hasSet : ByteArray := prog_1_method_67_code
def yX11_hasSet : MethodName := ⟨RX11, "hasSet", "(I)Z"⟩
abbrev cX11_hasNight : ByteArray := prog_1_method_68_code
def yX11_hasNight : MethodName := ⟨RX11, "hasNight", "(II)Z"⟩
abbrev cX11_plainFloor : ByteArray := prog_1_method_73_code
def yX11_plainFloor : MethodName := ⟨RX11, "plainFloor", "()LOverHill$Floor;"⟩
abbrev cX11_listenTo : ByteArray := prog_1_method_74_code
def yX11_listenTo : MethodName := ⟨RX11, "listenTo", "(II)I"⟩
def wsX11_feed : List Cond := .code yX11_feed cX11_feed 6 (some .int) :: ([.fieldLink RX11 20 "OverHill" "tape" "LOverHill$Tape;", .fieldLink RX11 102 "OverHill$Tape" "length" "I", .methodLink RX11 108 yX8_push, .instanceMethod yX8_push, .selects RX8 yX8_push yX8_push, .initialized RX8, .code yX8_push cX8_push 3 none, .fieldLink RX8 15 "OverHill$Tape" "length" "I", .fieldLink RX8 9 "OverHill$Tape" "bytes" "[B"] ++ wsX110 ++ wsX80)
def wsX11_end : List Cond := .code yX11_end cX11_end 2 (some .int) :: ([.fieldLink RX11 20 "OverHill" "tape" "LOverHill$Tape;", .fieldLink RX11 102 "OverHill$Tape" "length" "I"] ++ wsX110 ++ wsX80)
def wsX11_fault : List Cond := .code yX11_fault cX11_fault 2 (some .int) :: ([.fieldLink RX11 10 "OverHill" "reader" "LOverHill$Reader;", .fieldLink RX11 119 "OverHill$Reader" "fault" "I", .fieldLink RX11 122 "OverHill$Reader" "faultPlace" "I"] ++ wsX110 ++ wsX50)
def wsX11_step : List Cond := .code yX11_step cX11_step 3 (some .int) :: ([.fieldLink RX11 24 "OverHill" "now" "LOverHill$Dance;", .methodLink RX11 125 yX0_stands, .instanceMethod yX0_stands, .selects RX0 yX0_stands yX0_stands, .initialized RX0, .code yX0_stands cX0_stands 1 (some .boolean), .fieldLink RX0 49 "OverHill$Dance" "lines" "I", .methodLink RX11 129 yX11_isSide, .static yX11_isSide, .initialized RX11, .code yX11_isSide cX11_isSide 1 (some .boolean), .methodLink RX11 150 yX11_isWithin, .static yX11_isWithin, .code yX11_isWithin cX11_isWithin 2 (some .boolean), .methodLink RX11 133 yX0_hasPlace, .instanceMethod yX0_hasPlace, .selects RX0 yX0_hasPlace yX0_hasPlace, .code yX0_hasPlace cX0_hasPlace 3 (some .boolean), .fieldLink RX0 15 "OverHill$Dance" "lengths" "[I", .methodLink RX11 137 yX0_stepAt, .instanceMethod yX0_stepAt, .selects RX0 yX0_stepAt yX0_stepAt, .code yX0_stepAt cX0_stepAt 3 (some .int), .fieldLink RX0 9 "OverHill$Dance" "steps" "[I"] ++ wsX110 ++ wsX00)
def wsX11_answers : List Cond := .code yX11_answers cX11_answers 2 (some .int) :: ([.fieldLink RX11 24 "OverHill" "now" "LOverHill$Dance;", .fieldLink RX11 144 "OverHill$Dance" "met" "[I", .methodLink RX11 125 yX0_stands, .instanceMethod yX0_stands, .selects RX0 yX0_stands yX0_stands, .initialized RX0, .code yX0_stands cX0_stands 1 (some .boolean), .fieldLink RX0 49 "OverHill$Dance" "lines" "I", .methodLink RX11 141 yX11_isStep, .static yX11_isStep, .initialized RX11, .code yX11_isStep cX11_isStep 1 (some .boolean), .methodLink RX11 150 yX11_isWithin, .static yX11_isWithin, .code yX11_isWithin cX11_isWithin 2 (some .boolean)] ++ wsX110 ++ wsX00)
def wsX11_stumbled : List Cond := .code yX11_stumbled cX11_stumbled 3 (some .int) :: ([.fieldLink RX11 24 "OverHill" "now" "LOverHill$Dance;", .fieldLink RX11 153 "OverHill$Dance" "stumbles" "[I", .methodLink RX11 147 yX0_hasStumble, .instanceMethod yX0_hasStumble, .selects RX0 yX0_hasStumble yX0_hasStumble, .initialized RX0, .code yX0_hasStumble cX0_hasStumble 2 (some .boolean), .fieldLink RX0 58 "OverHill$Dance" "stumbleCount" "I", .static yX11_isWithin, .initialized RX11, .code yX11_isWithin cX11_isWithin 2 (some .boolean), .methodLink RX11 150 yX11_isWithin] ++ wsX110 ++ wsX00)
def wsX11_muddy : List Cond := .code yX11_muddy cX11_muddy 2 (some .int) :: ([.fieldLink RX11 24 "OverHill" "now" "LOverHill$Dance;", .fieldLink RX11 159 "OverHill$Dance" "muds" "[I", .methodLink RX11 125 yX0_stands, .instanceMethod yX0_stands, .selects RX0 yX0_stands yX0_stands, .initialized RX0, .code yX0_stands cX0_stands 1 (some .boolean), .fieldLink RX0 49 "OverHill$Dance" "lines" "I", .methodLink RX11 156 yX11_isBeat, .static yX11_isBeat, .initialized RX11, .code yX11_isBeat cX11_isBeat 1 (some .boolean), .methodLink RX11 150 yX11_isWithin, .static yX11_isWithin, .code yX11_isWithin cX11_isWithin 2 (some .boolean)] ++ wsX110 ++ wsX00)
def wsX11_has : List Cond := .code yX11_has cX11_has 3 (some .boolean) :: ([.fieldLink RX11 24 "OverHill" "now" "LOverHill$Dance;", .methodLink RX11 125 yX0_stands, .instanceMethod yX0_stands, .selects RX0 yX0_stands yX0_stands, .initialized RX0, .code yX0_stands cX0_stands 1 (some .boolean), .fieldLink RX0 49 "OverHill$Dance" "lines" "I", .methodLink RX11 129 yX11_isSide, .static yX11_isSide, .initialized RX11, .code yX11_isSide cX11_isSide 1 (some .boolean), .methodLink RX11 150 yX11_isWithin, .static yX11_isWithin, .code yX11_isWithin cX11_isWithin 2 (some .boolean), .methodLink RX11 156 yX11_isBeat, .static yX11_isBeat, .code yX11_isBeat cX11_isBeat 1 (some .boolean)] ++ wsX110 ++ wsX00)
def wsX11_plainFloor_r1 : List Cond := [Cond.fieldLink RX11 49 "OverHill" "laid" "Z", Cond.fieldLink RX11 42 "OverHill" "floor" "LOverHill$Floor;", Cond.fieldLink RX11 24 "OverHill" "now" "LOverHill$Dance;", Cond.methodLink RX11 208 yX1_lay, Cond.instanceMethod yX1_lay, Cond.selects RX1 yX1_lay yX1_lay, Cond.initialized RX1, Cond.code yX1_lay cX1_lay 4 none, Cond.fieldLink RX1 21 "OverHill$Dance" "gap" "I", Cond.fieldLink RX1 27 "OverHill$Floor" "gap" "I", Cond.methodLink RX1 28 yX1_findStumbles, Cond.instanceMethod yX1_findStumbles, Cond.selects RX1 yX1_findStumbles yX1_findStumbles, Cond.code yX1_findStumbles cX1_findStumbles 6 none, Cond.fieldLink RX1 18 "OverHill$Floor" "stumbleIn" "[I", Cond.fieldLink RX1 42 "OverHill$Dance" "stumbleCount" "I", Cond.fieldLink RX1 45 "OverHill$Dance" "stumbles" "[I", Cond.methodLink RX1 36 yJ7_fill_53178, Cond.static yJ7_fill_53178, Cond.initialized RJ7, Cond.code yJ7_fill_53178 cJ7_fill_53178 4 none, Cond.methodLink RX1 32 yX1_laySide, Cond.instanceMethod yX1_laySide, Cond.selects RX1 yX1_laySide yX1_laySide]
def wsX11_plainFloor_r2 : List Cond := [Cond.code yX1_laySide cX1_laySide 10 none, Cond.fieldLink RX1 48 "OverHill$Dance" "lengths" "[I", Cond.fieldLink RX1 51 "OverHill$Dance" "starts" "[I", Cond.fieldLink RX1 9 "OverHill$Floor" "places" "[I", Cond.fieldLink RX1 15 "OverHill$Floor" "steps" "[I", Cond.fieldLink RX1 54 "OverHill$Dance" "muds" "[I", Cond.methodLink RX1 57 yX0_stepAt, Cond.instanceMethod yX0_stepAt, Cond.selects RX0 yX0_stepAt yX0_stepAt, Cond.initialized RX0, Cond.code yX0_stepAt cX0_stepAt 3 (some .int), Cond.fieldLink RX0 9 "OverHill$Dance" "steps" "[I", Cond.static yX11_wrap, Cond.initialized RX11, Cond.code yX11_wrap cX11_wrap 2 (some .int), Cond.methodLink RX11 451 yJ9_floorMod_7cf53, Cond.static yJ9_floorMod_7cf53, Cond.initialized RJ9, Cond.code yJ9_floorMod_7cf53 cJ9_floorMod_7cf53 3 (some .int)]
def wsX11_plainFloor : List Cond := .code yX11_plainFloor cX11_plainFloor 1 (some (.object "OverHill$Floor")) :: ((wsX11_plainFloor_r1 ++ wsX11_plainFloor_r2) ++ wsX110 ++ wsX00 ++ wsX10)
def wsX11_place_r1 : List Cond := [Cond.methodLink RX11 162 yX11_has, Cond.instanceMethod yX11_has, Cond.selects RX11 yX11_has yX11_has, Cond.initialized RX11, Cond.code yX11_has cX11_has 3 (some .boolean), Cond.fieldLink RX11 24 "OverHill" "now" "LOverHill$Dance;", Cond.methodLink RX11 125 yX0_stands, Cond.instanceMethod yX0_stands, Cond.selects RX0 yX0_stands yX0_stands, Cond.initialized RX0, Cond.code yX0_stands cX0_stands 1 (some .boolean), Cond.fieldLink RX0 49 "OverHill$Dance" "lines" "I", Cond.methodLink RX11 129 yX11_isSide, Cond.static yX11_isSide, Cond.code yX11_isSide cX11_isSide 1 (some .boolean), Cond.methodLink RX11 150 yX11_isWithin, Cond.static yX11_isWithin, Cond.code yX11_isWithin cX11_isWithin 2 (some .boolean), Cond.methodLink RX11 156 yX11_isBeat, Cond.static yX11_isBeat, Cond.code yX11_isBeat cX11_isBeat 1 (some .boolean), Cond.methodLink RX11 165 yX11_plainFloor, Cond.instanceMethod yX11_plainFloor, Cond.selects RX11 yX11_plainFloor yX11_plainFloor]
def wsX11_place_r2 : List Cond := [Cond.code yX11_plainFloor cX11_plainFloor 1 (some (.object "OverHill$Floor")), Cond.fieldLink RX11 49 "OverHill" "laid" "Z", Cond.fieldLink RX11 42 "OverHill" "floor" "LOverHill$Floor;", Cond.methodLink RX11 208 yX1_lay, Cond.instanceMethod yX1_lay, Cond.selects RX1 yX1_lay yX1_lay, Cond.initialized RX1, Cond.code yX1_lay cX1_lay 4 none, Cond.fieldLink RX1 21 "OverHill$Dance" "gap" "I", Cond.fieldLink RX1 27 "OverHill$Floor" "gap" "I", Cond.methodLink RX1 28 yX1_findStumbles, Cond.instanceMethod yX1_findStumbles, Cond.selects RX1 yX1_findStumbles yX1_findStumbles, Cond.code yX1_findStumbles cX1_findStumbles 6 none, Cond.fieldLink RX1 18 "OverHill$Floor" "stumbleIn" "[I", Cond.fieldLink RX1 42 "OverHill$Dance" "stumbleCount" "I", Cond.fieldLink RX1 45 "OverHill$Dance" "stumbles" "[I", Cond.methodLink RX1 36 yJ7_fill_53178, Cond.static yJ7_fill_53178, Cond.initialized RJ7, Cond.code yJ7_fill_53178 cJ7_fill_53178 4 none, Cond.methodLink RX1 32 yX1_laySide, Cond.instanceMethod yX1_laySide, Cond.selects RX1 yX1_laySide yX1_laySide]
def wsX11_place_r3 : List Cond := [Cond.code yX1_laySide cX1_laySide 10 none, Cond.fieldLink RX1 48 "OverHill$Dance" "lengths" "[I", Cond.fieldLink RX1 51 "OverHill$Dance" "starts" "[I", Cond.fieldLink RX1 9 "OverHill$Floor" "places" "[I", Cond.fieldLink RX1 15 "OverHill$Floor" "steps" "[I", Cond.fieldLink RX1 54 "OverHill$Dance" "muds" "[I", Cond.methodLink RX1 57 yX0_stepAt, Cond.instanceMethod yX0_stepAt, Cond.selects RX0 yX0_stepAt yX0_stepAt, Cond.code yX0_stepAt cX0_stepAt 3 (some .int), Cond.fieldLink RX0 9 "OverHill$Dance" "steps" "[I", Cond.static yX11_wrap, Cond.code yX11_wrap cX11_wrap 2 (some .int), Cond.methodLink RX11 451 yJ9_floorMod_7cf53, Cond.static yJ9_floorMod_7cf53, Cond.initialized RJ9, Cond.code yJ9_floorMod_7cf53 cJ9_floorMod_7cf53 3 (some .int), Cond.methodLink RX11 169 yX1_placeOf, Cond.instanceMethod yX1_placeOf, Cond.selects RX1 yX1_placeOf yX1_placeOf, Cond.code yX1_placeOf cX1_placeOf 3 (some .int)]
def wsX11_place : List Cond := .code yX11_place cX11_place 3 (some .int) :: ((wsX11_place_r1 ++ (wsX11_place_r2 ++ wsX11_place_r3)) ++ wsX110 ++ wsX00 ++ wsX10)
def wsX11_danced_r1 : List Cond := [Cond.methodLink RX11 162 yX11_has, Cond.instanceMethod yX11_has, Cond.selects RX11 yX11_has yX11_has, Cond.initialized RX11, Cond.code yX11_has cX11_has 3 (some .boolean), Cond.fieldLink RX11 24 "OverHill" "now" "LOverHill$Dance;", Cond.methodLink RX11 125 yX0_stands, Cond.instanceMethod yX0_stands, Cond.selects RX0 yX0_stands yX0_stands, Cond.initialized RX0, Cond.code yX0_stands cX0_stands 1 (some .boolean), Cond.fieldLink RX0 49 "OverHill$Dance" "lines" "I", Cond.methodLink RX11 129 yX11_isSide, Cond.static yX11_isSide, Cond.code yX11_isSide cX11_isSide 1 (some .boolean), Cond.methodLink RX11 150 yX11_isWithin, Cond.static yX11_isWithin, Cond.code yX11_isWithin cX11_isWithin 2 (some .boolean), Cond.methodLink RX11 156 yX11_isBeat, Cond.static yX11_isBeat, Cond.code yX11_isBeat cX11_isBeat 1 (some .boolean), Cond.methodLink RX11 165 yX11_plainFloor, Cond.instanceMethod yX11_plainFloor, Cond.selects RX11 yX11_plainFloor yX11_plainFloor]
def wsX11_danced_r2 : List Cond := [Cond.code yX11_plainFloor cX11_plainFloor 1 (some (.object "OverHill$Floor")), Cond.fieldLink RX11 49 "OverHill" "laid" "Z", Cond.fieldLink RX11 42 "OverHill" "floor" "LOverHill$Floor;", Cond.methodLink RX11 208 yX1_lay, Cond.instanceMethod yX1_lay, Cond.selects RX1 yX1_lay yX1_lay, Cond.initialized RX1, Cond.code yX1_lay cX1_lay 4 none, Cond.fieldLink RX1 21 "OverHill$Dance" "gap" "I", Cond.fieldLink RX1 27 "OverHill$Floor" "gap" "I", Cond.methodLink RX1 28 yX1_findStumbles, Cond.instanceMethod yX1_findStumbles, Cond.selects RX1 yX1_findStumbles yX1_findStumbles, Cond.code yX1_findStumbles cX1_findStumbles 6 none, Cond.fieldLink RX1 18 "OverHill$Floor" "stumbleIn" "[I", Cond.fieldLink RX1 42 "OverHill$Dance" "stumbleCount" "I", Cond.fieldLink RX1 45 "OverHill$Dance" "stumbles" "[I", Cond.methodLink RX1 36 yJ7_fill_53178, Cond.static yJ7_fill_53178, Cond.initialized RJ7, Cond.code yJ7_fill_53178 cJ7_fill_53178 4 none, Cond.methodLink RX1 32 yX1_laySide, Cond.instanceMethod yX1_laySide, Cond.selects RX1 yX1_laySide yX1_laySide]
def wsX11_danced_r3 : List Cond := [Cond.code yX1_laySide cX1_laySide 10 none, Cond.fieldLink RX1 48 "OverHill$Dance" "lengths" "[I", Cond.fieldLink RX1 51 "OverHill$Dance" "starts" "[I", Cond.fieldLink RX1 9 "OverHill$Floor" "places" "[I", Cond.fieldLink RX1 15 "OverHill$Floor" "steps" "[I", Cond.fieldLink RX1 54 "OverHill$Dance" "muds" "[I", Cond.methodLink RX1 57 yX0_stepAt, Cond.instanceMethod yX0_stepAt, Cond.selects RX0 yX0_stepAt yX0_stepAt, Cond.code yX0_stepAt cX0_stepAt 3 (some .int), Cond.fieldLink RX0 9 "OverHill$Dance" "steps" "[I", Cond.static yX11_wrap, Cond.code yX11_wrap cX11_wrap 2 (some .int), Cond.methodLink RX11 451 yJ9_floorMod_7cf53, Cond.static yJ9_floorMod_7cf53, Cond.initialized RJ9, Cond.code yJ9_floorMod_7cf53 cJ9_floorMod_7cf53 3 (some .int), Cond.methodLink RX11 172 yX1_stepOf, Cond.instanceMethod yX1_stepOf, Cond.selects RX1 yX1_stepOf yX1_stepOf, Cond.code yX1_stepOf cX1_stepOf 3 (some .int)]
def wsX11_danced : List Cond := .code yX11_danced cX11_danced 3 (some .int) :: ((wsX11_danced_r1 ++ (wsX11_danced_r2 ++ wsX11_danced_r3)) ++ wsX110 ++ wsX00 ++ wsX10)
def wsX11_hears_r1 : List Cond := [Cond.methodLink RX11 162 yX11_has, Cond.instanceMethod yX11_has, Cond.selects RX11 yX11_has yX11_has, Cond.initialized RX11, Cond.code yX11_has cX11_has 3 (some .boolean), Cond.fieldLink RX11 24 "OverHill" "now" "LOverHill$Dance;", Cond.methodLink RX11 125 yX0_stands, Cond.instanceMethod yX0_stands, Cond.selects RX0 yX0_stands yX0_stands, Cond.initialized RX0, Cond.code yX0_stands cX0_stands 1 (some .boolean), Cond.fieldLink RX0 49 "OverHill$Dance" "lines" "I", Cond.methodLink RX11 129 yX11_isSide, Cond.static yX11_isSide, Cond.code yX11_isSide cX11_isSide 1 (some .boolean), Cond.methodLink RX11 150 yX11_isWithin, Cond.static yX11_isWithin, Cond.code yX11_isWithin cX11_isWithin 2 (some .boolean), Cond.methodLink RX11 156 yX11_isBeat, Cond.static yX11_isBeat, Cond.code yX11_isBeat cX11_isBeat 1 (some .boolean), Cond.methodLink RX11 165 yX11_plainFloor, Cond.instanceMethod yX11_plainFloor, Cond.selects RX11 yX11_plainFloor yX11_plainFloor]
def wsX11_hears_r2 : List Cond := [Cond.code yX11_plainFloor cX11_plainFloor 1 (some (.object "OverHill$Floor")), Cond.fieldLink RX11 49 "OverHill" "laid" "Z", Cond.fieldLink RX11 42 "OverHill" "floor" "LOverHill$Floor;", Cond.methodLink RX11 208 yX1_lay, Cond.instanceMethod yX1_lay, Cond.selects RX1 yX1_lay yX1_lay, Cond.initialized RX1, Cond.code yX1_lay cX1_lay 4 none, Cond.fieldLink RX1 21 "OverHill$Dance" "gap" "I", Cond.fieldLink RX1 27 "OverHill$Floor" "gap" "I", Cond.methodLink RX1 28 yX1_findStumbles, Cond.instanceMethod yX1_findStumbles, Cond.selects RX1 yX1_findStumbles yX1_findStumbles, Cond.code yX1_findStumbles cX1_findStumbles 6 none, Cond.fieldLink RX1 18 "OverHill$Floor" "stumbleIn" "[I", Cond.fieldLink RX1 42 "OverHill$Dance" "stumbleCount" "I", Cond.fieldLink RX1 45 "OverHill$Dance" "stumbles" "[I", Cond.methodLink RX1 36 yJ7_fill_53178, Cond.static yJ7_fill_53178, Cond.initialized RJ7, Cond.code yJ7_fill_53178 cJ7_fill_53178 4 none, Cond.methodLink RX1 32 yX1_laySide, Cond.instanceMethod yX1_laySide, Cond.selects RX1 yX1_laySide yX1_laySide]
def wsX11_hears_r3 : List Cond := [Cond.code yX1_laySide cX1_laySide 10 none, Cond.fieldLink RX1 48 "OverHill$Dance" "lengths" "[I", Cond.fieldLink RX1 51 "OverHill$Dance" "starts" "[I", Cond.fieldLink RX1 9 "OverHill$Floor" "places" "[I", Cond.fieldLink RX1 15 "OverHill$Floor" "steps" "[I", Cond.fieldLink RX1 54 "OverHill$Dance" "muds" "[I", Cond.methodLink RX1 57 yX0_stepAt, Cond.instanceMethod yX0_stepAt, Cond.selects RX0 yX0_stepAt yX0_stepAt, Cond.code yX0_stepAt cX0_stepAt 3 (some .int), Cond.fieldLink RX0 9 "OverHill$Dance" "steps" "[I", Cond.static yX11_wrap, Cond.code yX11_wrap cX11_wrap 2 (some .int), Cond.methodLink RX11 451 yJ9_floorMod_7cf53, Cond.static yJ9_floorMod_7cf53, Cond.initialized RJ9, Cond.code yJ9_floorMod_7cf53 cJ9_floorMod_7cf53 3 (some .int), Cond.methodLink RX11 175 yX1_heardBy, Cond.instanceMethod yX1_heardBy, Cond.selects RX1 yX1_heardBy yX1_heardBy, Cond.code yX1_heardBy cX1_heardBy 3 (some .int), Cond.methodLink RX1 64 yX1_stepOf, Cond.instanceMethod yX1_stepOf, Cond.selects RX1 yX1_stepOf yX1_stepOf]
def wsX11_hears_r4 : List Cond := [Cond.code yX1_stepOf cX1_stepOf 3 (some .int)]
def wsX11_hears : List Cond := .code yX11_hears cX11_hears 3 (some .int) :: ((wsX11_hears_r1 ++ (wsX11_hears_r2 ++ (wsX11_hears_r3 ++ wsX11_hears_r4))) ++ wsX110 ++ wsX00 ++ wsX10)
def wsX11_late_r1 : List Cond := [Cond.fieldLink RX11 24 "OverHill" "now" "LOverHill$Dance;", Cond.fieldLink RX11 178 "OverHill$Dance" "lengths" "[I", Cond.fieldLink RX11 181 "OverHill$Dance" "starts" "[I", Cond.methodLink RX11 162 yX11_has, Cond.instanceMethod yX11_has, Cond.selects RX11 yX11_has yX11_has, Cond.initialized RX11, Cond.code yX11_has cX11_has 3 (some .boolean), Cond.methodLink RX11 125 yX0_stands, Cond.instanceMethod yX0_stands, Cond.selects RX0 yX0_stands yX0_stands, Cond.initialized RX0, Cond.code yX0_stands cX0_stands 1 (some .boolean), Cond.fieldLink RX0 49 "OverHill$Dance" "lines" "I", Cond.methodLink RX11 129 yX11_isSide, Cond.static yX11_isSide, Cond.code yX11_isSide cX11_isSide 1 (some .boolean), Cond.methodLink RX11 150 yX11_isWithin, Cond.static yX11_isWithin, Cond.code yX11_isWithin cX11_isWithin 2 (some .boolean), Cond.methodLink RX11 156 yX11_isBeat, Cond.static yX11_isBeat, Cond.code yX11_isBeat cX11_isBeat 1 (some .boolean), Cond.methodLink RX11 165 yX11_plainFloor]
def wsX11_late_r2 : List Cond := [Cond.instanceMethod yX11_plainFloor, Cond.selects RX11 yX11_plainFloor yX11_plainFloor, Cond.code yX11_plainFloor cX11_plainFloor 1 (some (.object "OverHill$Floor")), Cond.fieldLink RX11 49 "OverHill" "laid" "Z", Cond.fieldLink RX11 42 "OverHill" "floor" "LOverHill$Floor;", Cond.methodLink RX11 208 yX1_lay, Cond.instanceMethod yX1_lay, Cond.selects RX1 yX1_lay yX1_lay, Cond.initialized RX1, Cond.code yX1_lay cX1_lay 4 none, Cond.fieldLink RX1 21 "OverHill$Dance" "gap" "I", Cond.fieldLink RX1 27 "OverHill$Floor" "gap" "I", Cond.methodLink RX1 28 yX1_findStumbles, Cond.instanceMethod yX1_findStumbles, Cond.selects RX1 yX1_findStumbles yX1_findStumbles, Cond.code yX1_findStumbles cX1_findStumbles 6 none, Cond.fieldLink RX1 18 "OverHill$Floor" "stumbleIn" "[I", Cond.fieldLink RX1 42 "OverHill$Dance" "stumbleCount" "I", Cond.fieldLink RX1 45 "OverHill$Dance" "stumbles" "[I", Cond.methodLink RX1 36 yJ7_fill_53178, Cond.static yJ7_fill_53178, Cond.initialized RJ7, Cond.code yJ7_fill_53178 cJ7_fill_53178 4 none, Cond.methodLink RX1 32 yX1_laySide]
def wsX11_late_r3 : List Cond := [Cond.instanceMethod yX1_laySide, Cond.selects RX1 yX1_laySide yX1_laySide, Cond.code yX1_laySide cX1_laySide 10 none, Cond.fieldLink RX1 48 "OverHill$Dance" "lengths" "[I", Cond.fieldLink RX1 51 "OverHill$Dance" "starts" "[I", Cond.fieldLink RX1 9 "OverHill$Floor" "places" "[I", Cond.fieldLink RX1 15 "OverHill$Floor" "steps" "[I", Cond.fieldLink RX1 54 "OverHill$Dance" "muds" "[I", Cond.methodLink RX1 57 yX0_stepAt, Cond.instanceMethod yX0_stepAt, Cond.selects RX0 yX0_stepAt yX0_stepAt, Cond.code yX0_stepAt cX0_stepAt 3 (some .int), Cond.fieldLink RX0 9 "OverHill$Dance" "steps" "[I", Cond.static yX11_wrap, Cond.code yX11_wrap cX11_wrap 2 (some .int), Cond.methodLink RX11 451 yJ9_floorMod_7cf53, Cond.static yJ9_floorMod_7cf53, Cond.initialized RJ9, Cond.code yJ9_floorMod_7cf53 cJ9_floorMod_7cf53 3 (some .int), Cond.methodLink RX11 169 yX1_placeOf, Cond.instanceMethod yX1_placeOf, Cond.selects RX1 yX1_placeOf yX1_placeOf, Cond.code yX1_placeOf cX1_placeOf 3 (some .int), Cond.methodLink RX11 184 yX11_wrap]
def wsX11_late : List Cond := .code yX11_late cX11_late 4 (some .int) :: ((wsX11_late_r1 ++ (wsX11_late_r2 ++ wsX11_late_r3)) ++ wsX110 ++ wsX00 ++ wsX10)
def wsX11_hole_r1 : List Cond := [Cond.fieldLink RX11 24 "OverHill" "now" "LOverHill$Dance;", Cond.methodLink RX11 162 yX11_has, Cond.instanceMethod yX11_has, Cond.selects RX11 yX11_has yX11_has, Cond.initialized RX11, Cond.code yX11_has cX11_has 3 (some .boolean), Cond.methodLink RX11 125 yX0_stands, Cond.instanceMethod yX0_stands, Cond.selects RX0 yX0_stands yX0_stands, Cond.initialized RX0, Cond.code yX0_stands cX0_stands 1 (some .boolean), Cond.fieldLink RX0 49 "OverHill$Dance" "lines" "I", Cond.methodLink RX11 129 yX11_isSide, Cond.static yX11_isSide, Cond.code yX11_isSide cX11_isSide 1 (some .boolean), Cond.methodLink RX11 150 yX11_isWithin, Cond.static yX11_isWithin, Cond.code yX11_isWithin cX11_isWithin 2 (some .boolean), Cond.methodLink RX11 156 yX11_isBeat, Cond.static yX11_isBeat, Cond.code yX11_isBeat cX11_isBeat 1 (some .boolean), Cond.methodLink RX11 165 yX11_plainFloor, Cond.instanceMethod yX11_plainFloor, Cond.selects RX11 yX11_plainFloor yX11_plainFloor]
def wsX11_hole_r2 : List Cond := [Cond.code yX11_plainFloor cX11_plainFloor 1 (some (.object "OverHill$Floor")), Cond.fieldLink RX11 49 "OverHill" "laid" "Z", Cond.fieldLink RX11 42 "OverHill" "floor" "LOverHill$Floor;", Cond.methodLink RX11 208 yX1_lay, Cond.instanceMethod yX1_lay, Cond.selects RX1 yX1_lay yX1_lay, Cond.initialized RX1, Cond.code yX1_lay cX1_lay 4 none, Cond.fieldLink RX1 21 "OverHill$Dance" "gap" "I", Cond.fieldLink RX1 27 "OverHill$Floor" "gap" "I", Cond.methodLink RX1 28 yX1_findStumbles, Cond.instanceMethod yX1_findStumbles, Cond.selects RX1 yX1_findStumbles yX1_findStumbles, Cond.code yX1_findStumbles cX1_findStumbles 6 none, Cond.fieldLink RX1 18 "OverHill$Floor" "stumbleIn" "[I", Cond.fieldLink RX1 42 "OverHill$Dance" "stumbleCount" "I", Cond.fieldLink RX1 45 "OverHill$Dance" "stumbles" "[I", Cond.methodLink RX1 36 yJ7_fill_53178, Cond.static yJ7_fill_53178, Cond.initialized RJ7, Cond.code yJ7_fill_53178 cJ7_fill_53178 4 none, Cond.methodLink RX1 32 yX1_laySide, Cond.instanceMethod yX1_laySide, Cond.selects RX1 yX1_laySide yX1_laySide]
def wsX11_hole_r3 : List Cond := [Cond.code yX1_laySide cX1_laySide 10 none, Cond.fieldLink RX1 48 "OverHill$Dance" "lengths" "[I", Cond.fieldLink RX1 51 "OverHill$Dance" "starts" "[I", Cond.fieldLink RX1 9 "OverHill$Floor" "places" "[I", Cond.fieldLink RX1 15 "OverHill$Floor" "steps" "[I", Cond.fieldLink RX1 54 "OverHill$Dance" "muds" "[I", Cond.methodLink RX1 57 yX0_stepAt, Cond.instanceMethod yX0_stepAt, Cond.selects RX0 yX0_stepAt yX0_stepAt, Cond.code yX0_stepAt cX0_stepAt 3 (some .int), Cond.fieldLink RX0 9 "OverHill$Dance" "steps" "[I", Cond.static yX11_wrap, Cond.code yX11_wrap cX11_wrap 2 (some .int), Cond.methodLink RX11 451 yJ9_floorMod_7cf53, Cond.static yJ9_floorMod_7cf53, Cond.initialized RJ9, Cond.code yJ9_floorMod_7cf53 cJ9_floorMod_7cf53 3 (some .int), Cond.methodLink RX11 187 yX1_gapes, Cond.instanceMethod yX1_gapes, Cond.selects RX1 yX1_gapes yX1_gapes, Cond.code yX1_gapes cX1_gapes 4 (some .boolean), Cond.methodLink RX1 64 yX1_stepOf, Cond.instanceMethod yX1_stepOf, Cond.selects RX1 yX1_stepOf yX1_stepOf]
def wsX11_hole_r4 : List Cond := [Cond.code yX1_stepOf cX1_stepOf 3 (some .int), Cond.methodLink RX1 67 yX1_heardBy, Cond.instanceMethod yX1_heardBy, Cond.selects RX1 yX1_heardBy yX1_heardBy, Cond.code yX1_heardBy cX1_heardBy 3 (some .int), Cond.methodLink RX1 70 yX0_isHole, Cond.instanceMethod yX0_isHole, Cond.selects RX0 yX0_isHole yX0_isHole, Cond.code yX0_isHole cX0_isHole 3 (some .boolean), Cond.methodLink RX0 80 yX0_mayMeet, Cond.instanceMethod yX0_mayMeet, Cond.selects RX0 yX0_mayMeet yX0_mayMeet, Cond.code yX0_mayMeet cX0_mayMeet 3 (some .boolean), Cond.fieldLink RX0 21 "OverHill$Dance" "met" "[I"]
def wsX11_hole : List Cond := .code yX11_hole cX11_hole 3 (some .int) :: ((wsX11_hole_r1 ++ (wsX11_hole_r2 ++ (wsX11_hole_r3 ++ wsX11_hole_r4))) ++ wsX110 ++ wsX00 ++ wsX10)
def wsX11_next_r1 : List Cond := [Cond.fieldLink RX11 24 "OverHill" "now" "LOverHill$Dance;", Cond.methodLink RX11 162 yX11_has, Cond.instanceMethod yX11_has, Cond.selects RX11 yX11_has yX11_has, Cond.initialized RX11, Cond.code yX11_has cX11_has 3 (some .boolean), Cond.methodLink RX11 125 yX0_stands, Cond.instanceMethod yX0_stands, Cond.selects RX0 yX0_stands yX0_stands, Cond.initialized RX0, Cond.code yX0_stands cX0_stands 1 (some .boolean), Cond.fieldLink RX0 49 "OverHill$Dance" "lines" "I", Cond.methodLink RX11 129 yX11_isSide, Cond.static yX11_isSide, Cond.code yX11_isSide cX11_isSide 1 (some .boolean), Cond.methodLink RX11 150 yX11_isWithin, Cond.static yX11_isWithin, Cond.code yX11_isWithin cX11_isWithin 2 (some .boolean), Cond.methodLink RX11 156 yX11_isBeat, Cond.static yX11_isBeat, Cond.code yX11_isBeat cX11_isBeat 1 (some .boolean), Cond.methodLink RX11 165 yX11_plainFloor, Cond.instanceMethod yX11_plainFloor, Cond.selects RX11 yX11_plainFloor yX11_plainFloor]
def wsX11_next_r2 : List Cond := [Cond.code yX11_plainFloor cX11_plainFloor 1 (some (.object "OverHill$Floor")), Cond.fieldLink RX11 49 "OverHill" "laid" "Z", Cond.fieldLink RX11 42 "OverHill" "floor" "LOverHill$Floor;", Cond.methodLink RX11 208 yX1_lay, Cond.instanceMethod yX1_lay, Cond.selects RX1 yX1_lay yX1_lay, Cond.initialized RX1, Cond.code yX1_lay cX1_lay 4 none, Cond.fieldLink RX1 21 "OverHill$Dance" "gap" "I", Cond.fieldLink RX1 27 "OverHill$Floor" "gap" "I", Cond.methodLink RX1 28 yX1_findStumbles, Cond.instanceMethod yX1_findStumbles, Cond.selects RX1 yX1_findStumbles yX1_findStumbles, Cond.code yX1_findStumbles cX1_findStumbles 6 none, Cond.fieldLink RX1 18 "OverHill$Floor" "stumbleIn" "[I", Cond.fieldLink RX1 42 "OverHill$Dance" "stumbleCount" "I", Cond.fieldLink RX1 45 "OverHill$Dance" "stumbles" "[I", Cond.methodLink RX1 36 yJ7_fill_53178, Cond.static yJ7_fill_53178, Cond.initialized RJ7, Cond.code yJ7_fill_53178 cJ7_fill_53178 4 none, Cond.methodLink RX1 32 yX1_laySide, Cond.instanceMethod yX1_laySide, Cond.selects RX1 yX1_laySide yX1_laySide]
def wsX11_next_r3 : List Cond := [Cond.code yX1_laySide cX1_laySide 10 none, Cond.fieldLink RX1 48 "OverHill$Dance" "lengths" "[I", Cond.fieldLink RX1 51 "OverHill$Dance" "starts" "[I", Cond.fieldLink RX1 9 "OverHill$Floor" "places" "[I", Cond.fieldLink RX1 15 "OverHill$Floor" "steps" "[I", Cond.fieldLink RX1 54 "OverHill$Dance" "muds" "[I", Cond.methodLink RX1 57 yX0_stepAt, Cond.instanceMethod yX0_stepAt, Cond.selects RX0 yX0_stepAt yX0_stepAt, Cond.code yX0_stepAt cX0_stepAt 3 (some .int), Cond.fieldLink RX0 9 "OverHill$Dance" "steps" "[I", Cond.static yX11_wrap, Cond.code yX11_wrap cX11_wrap 2 (some .int), Cond.methodLink RX11 451 yJ9_floorMod_7cf53, Cond.static yJ9_floorMod_7cf53, Cond.initialized RJ9, Cond.code yJ9_floorMod_7cf53 cJ9_floorMod_7cf53 3 (some .int), Cond.methodLink RX11 187 yX1_gapes, Cond.instanceMethod yX1_gapes, Cond.selects RX1 yX1_gapes yX1_gapes, Cond.code yX1_gapes cX1_gapes 4 (some .boolean), Cond.methodLink RX1 64 yX1_stepOf, Cond.instanceMethod yX1_stepOf, Cond.selects RX1 yX1_stepOf yX1_stepOf]
def wsX11_next_r4 : List Cond := [Cond.code yX1_stepOf cX1_stepOf 3 (some .int), Cond.methodLink RX1 67 yX1_heardBy, Cond.instanceMethod yX1_heardBy, Cond.selects RX1 yX1_heardBy yX1_heardBy, Cond.code yX1_heardBy cX1_heardBy 3 (some .int), Cond.methodLink RX1 70 yX0_isHole, Cond.instanceMethod yX0_isHole, Cond.selects RX0 yX0_isHole yX0_isHole, Cond.code yX0_isHole cX0_isHole 3 (some .boolean), Cond.methodLink RX0 80 yX0_mayMeet, Cond.instanceMethod yX0_mayMeet, Cond.selects RX0 yX0_mayMeet yX0_mayMeet, Cond.code yX0_mayMeet cX0_mayMeet 3 (some .boolean), Cond.fieldLink RX0 21 "OverHill$Dance" "met" "[I"]
def wsX11_next : List Cond := .code yX11_next cX11_next 5 (some .int) :: ((wsX11_next_r1 ++ (wsX11_next_r2 ++ (wsX11_next_r3 ++ wsX11_next_r4))) ++ wsX110 ++ wsX00 ++ wsX10)
def wsX11_hasSpan : List Cond := .code yX11_hasSpan cX11_hasSpan 3 (some .boolean) :: ([.fieldLink RX11 24 "OverHill" "now" "LOverHill$Dance;", .methodLink RX11 125 yX0_stands, .instanceMethod yX0_stands, .selects RX0 yX0_stands yX0_stands, .initialized RX0, .code yX0_stands cX0_stands 1 (some .boolean), .fieldLink RX0 49 "OverHill$Dance" "lines" "I", .methodLink RX11 156 yX11_isBeat, .static yX11_isBeat, .initialized RX11, .code yX11_isBeat cX11_isBeat 1 (some .boolean), .methodLink RX11 150 yX11_isWithin, .static yX11_isWithin, .code yX11_isWithin cX11_isWithin 2 (some .boolean)] ++ wsX110 ++ wsX00)
def wsX11_holes_r1 : List Cond := [Cond.fieldLink RX11 24 "OverHill" "now" "LOverHill$Dance;", Cond.methodLink RX11 129 yX11_isSide, Cond.static yX11_isSide, Cond.initialized RX11, Cond.code yX11_isSide cX11_isSide 1 (some .boolean), Cond.methodLink RX11 150 yX11_isWithin, Cond.static yX11_isWithin, Cond.code yX11_isWithin cX11_isWithin 2 (some .boolean), Cond.methodLink RX11 191 yX11_hasSpan, Cond.instanceMethod yX11_hasSpan, Cond.selects RX11 yX11_hasSpan yX11_hasSpan, Cond.code yX11_hasSpan cX11_hasSpan 3 (some .boolean), Cond.methodLink RX11 125 yX0_stands, Cond.instanceMethod yX0_stands, Cond.selects RX0 yX0_stands yX0_stands, Cond.initialized RX0, Cond.code yX0_stands cX0_stands 1 (some .boolean), Cond.fieldLink RX0 49 "OverHill$Dance" "lines" "I", Cond.methodLink RX11 156 yX11_isBeat, Cond.static yX11_isBeat, Cond.code yX11_isBeat cX11_isBeat 1 (some .boolean), Cond.methodLink RX11 165 yX11_plainFloor, Cond.instanceMethod yX11_plainFloor, Cond.selects RX11 yX11_plainFloor yX11_plainFloor]
def wsX11_holes_r2 : List Cond := [Cond.code yX11_plainFloor cX11_plainFloor 1 (some (.object "OverHill$Floor")), Cond.fieldLink RX11 49 "OverHill" "laid" "Z", Cond.fieldLink RX11 42 "OverHill" "floor" "LOverHill$Floor;", Cond.methodLink RX11 208 yX1_lay, Cond.instanceMethod yX1_lay, Cond.selects RX1 yX1_lay yX1_lay, Cond.initialized RX1, Cond.code yX1_lay cX1_lay 4 none, Cond.fieldLink RX1 21 "OverHill$Dance" "gap" "I", Cond.fieldLink RX1 27 "OverHill$Floor" "gap" "I", Cond.methodLink RX1 28 yX1_findStumbles, Cond.instanceMethod yX1_findStumbles, Cond.selects RX1 yX1_findStumbles yX1_findStumbles, Cond.code yX1_findStumbles cX1_findStumbles 6 none, Cond.fieldLink RX1 18 "OverHill$Floor" "stumbleIn" "[I", Cond.fieldLink RX1 42 "OverHill$Dance" "stumbleCount" "I", Cond.fieldLink RX1 45 "OverHill$Dance" "stumbles" "[I", Cond.methodLink RX1 36 yJ7_fill_53178, Cond.static yJ7_fill_53178, Cond.initialized RJ7, Cond.code yJ7_fill_53178 cJ7_fill_53178 4 none, Cond.methodLink RX1 32 yX1_laySide, Cond.instanceMethod yX1_laySide, Cond.selects RX1 yX1_laySide yX1_laySide]
def wsX11_holes_r3 : List Cond := [Cond.code yX1_laySide cX1_laySide 10 none, Cond.fieldLink RX1 48 "OverHill$Dance" "lengths" "[I", Cond.fieldLink RX1 51 "OverHill$Dance" "starts" "[I", Cond.fieldLink RX1 9 "OverHill$Floor" "places" "[I", Cond.fieldLink RX1 15 "OverHill$Floor" "steps" "[I", Cond.fieldLink RX1 54 "OverHill$Dance" "muds" "[I", Cond.methodLink RX1 57 yX0_stepAt, Cond.instanceMethod yX0_stepAt, Cond.selects RX0 yX0_stepAt yX0_stepAt, Cond.code yX0_stepAt cX0_stepAt 3 (some .int), Cond.fieldLink RX0 9 "OverHill$Dance" "steps" "[I", Cond.static yX11_wrap, Cond.code yX11_wrap cX11_wrap 2 (some .int), Cond.methodLink RX11 451 yJ9_floorMod_7cf53, Cond.static yJ9_floorMod_7cf53, Cond.initialized RJ9, Cond.code yJ9_floorMod_7cf53 cJ9_floorMod_7cf53 3 (some .int), Cond.methodLink RX11 194 yX1_countHoles, Cond.instanceMethod yX1_countHoles, Cond.selects RX1 yX1_countHoles yX1_countHoles, Cond.code yX1_countHoles cX1_countHoles 7 (some .int), Cond.methodLink RX1 74 yX1_gapes, Cond.instanceMethod yX1_gapes, Cond.selects RX1 yX1_gapes yX1_gapes]
def wsX11_holes_r4 : List Cond := [Cond.code yX1_gapes cX1_gapes 4 (some .boolean), Cond.methodLink RX1 64 yX1_stepOf, Cond.instanceMethod yX1_stepOf, Cond.selects RX1 yX1_stepOf yX1_stepOf, Cond.code yX1_stepOf cX1_stepOf 3 (some .int), Cond.methodLink RX1 67 yX1_heardBy, Cond.instanceMethod yX1_heardBy, Cond.selects RX1 yX1_heardBy yX1_heardBy, Cond.code yX1_heardBy cX1_heardBy 3 (some .int), Cond.methodLink RX1 70 yX0_isHole, Cond.instanceMethod yX0_isHole, Cond.selects RX0 yX0_isHole yX0_isHole, Cond.code yX0_isHole cX0_isHole 3 (some .boolean), Cond.methodLink RX0 80 yX0_mayMeet, Cond.instanceMethod yX0_mayMeet, Cond.selects RX0 yX0_mayMeet yX0_mayMeet, Cond.code yX0_mayMeet cX0_mayMeet 3 (some .boolean), Cond.fieldLink RX0 21 "OverHill$Dance" "met" "[I"]
def wsX11_holes : List Cond := .code yX11_holes cX11_holes 4 (some .int) :: ((wsX11_holes_r1 ++ (wsX11_holes_r2 ++ (wsX11_holes_r3 ++ wsX11_holes_r4))) ++ wsX110 ++ wsX00 ++ wsX10)
def wsX11_run_r1 : List Cond := [Cond.fieldLink RX11 24 "OverHill" "now" "LOverHill$Dance;", Cond.fieldLink RX11 42 "OverHill" "floor" "LOverHill$Floor;", Cond.fieldLink RX11 202 "OverHill$Floor" "calmLength" "I", Cond.methodLink RX11 191 yX11_hasSpan, Cond.instanceMethod yX11_hasSpan, Cond.selects RX11 yX11_hasSpan yX11_hasSpan, Cond.initialized RX11, Cond.code yX11_hasSpan cX11_hasSpan 3 (some .boolean), Cond.methodLink RX11 125 yX0_stands, Cond.instanceMethod yX0_stands, Cond.selects RX0 yX0_stands yX0_stands, Cond.initialized RX0, Cond.code yX0_stands cX0_stands 1 (some .boolean), Cond.fieldLink RX0 49 "OverHill$Dance" "lines" "I", Cond.methodLink RX11 156 yX11_isBeat, Cond.static yX11_isBeat, Cond.code yX11_isBeat cX11_isBeat 1 (some .boolean), Cond.methodLink RX11 150 yX11_isWithin, Cond.static yX11_isWithin, Cond.code yX11_isWithin cX11_isWithin 2 (some .boolean), Cond.methodLink RX11 165 yX11_plainFloor, Cond.instanceMethod yX11_plainFloor, Cond.selects RX11 yX11_plainFloor yX11_plainFloor, Cond.code yX11_plainFloor cX11_plainFloor 1 (some (.object "OverHill$Floor"))]
def wsX11_run_r2 : List Cond := [Cond.fieldLink RX11 49 "OverHill" "laid" "Z", Cond.methodLink RX11 208 yX1_lay, Cond.instanceMethod yX1_lay, Cond.selects RX1 yX1_lay yX1_lay, Cond.initialized RX1, Cond.code yX1_lay cX1_lay 4 none, Cond.fieldLink RX1 21 "OverHill$Dance" "gap" "I", Cond.fieldLink RX1 27 "OverHill$Floor" "gap" "I", Cond.methodLink RX1 28 yX1_findStumbles, Cond.instanceMethod yX1_findStumbles, Cond.selects RX1 yX1_findStumbles yX1_findStumbles, Cond.code yX1_findStumbles cX1_findStumbles 6 none, Cond.fieldLink RX1 18 "OverHill$Floor" "stumbleIn" "[I", Cond.fieldLink RX1 42 "OverHill$Dance" "stumbleCount" "I", Cond.fieldLink RX1 45 "OverHill$Dance" "stumbles" "[I", Cond.methodLink RX1 36 yJ7_fill_53178, Cond.static yJ7_fill_53178, Cond.initialized RJ7, Cond.code yJ7_fill_53178 cJ7_fill_53178 4 none, Cond.methodLink RX1 32 yX1_laySide, Cond.instanceMethod yX1_laySide, Cond.selects RX1 yX1_laySide yX1_laySide, Cond.code yX1_laySide cX1_laySide 10 none, Cond.fieldLink RX1 48 "OverHill$Dance" "lengths" "[I"]
def wsX11_run_r3 : List Cond := [Cond.fieldLink RX1 51 "OverHill$Dance" "starts" "[I", Cond.fieldLink RX1 9 "OverHill$Floor" "places" "[I", Cond.fieldLink RX1 15 "OverHill$Floor" "steps" "[I", Cond.fieldLink RX1 54 "OverHill$Dance" "muds" "[I", Cond.methodLink RX1 57 yX0_stepAt, Cond.instanceMethod yX0_stepAt, Cond.selects RX0 yX0_stepAt yX0_stepAt, Cond.code yX0_stepAt cX0_stepAt 3 (some .int), Cond.fieldLink RX0 9 "OverHill$Dance" "steps" "[I", Cond.static yX11_wrap, Cond.code yX11_wrap cX11_wrap 2 (some .int), Cond.methodLink RX11 451 yJ9_floorMod_7cf53, Cond.static yJ9_floorMod_7cf53, Cond.initialized RJ9, Cond.code yJ9_floorMod_7cf53 cJ9_floorMod_7cf53 3 (some .int), Cond.methodLink RX11 198 yX1_findCalm, Cond.instanceMethod yX1_findCalm, Cond.selects RX1 yX1_findCalm yX1_findCalm, Cond.code yX1_findCalm cX1_findCalm 6 none, Cond.fieldLink RX1 82 "OverHill$Floor" "calmLength" "I", Cond.fieldLink RX1 85 "OverHill$Floor" "calmStart" "I", Cond.methodLink RX1 74 yX1_gapes, Cond.instanceMethod yX1_gapes, Cond.selects RX1 yX1_gapes yX1_gapes]
def wsX11_run_r4 : List Cond := [Cond.code yX1_gapes cX1_gapes 4 (some .boolean), Cond.methodLink RX1 64 yX1_stepOf, Cond.instanceMethod yX1_stepOf, Cond.selects RX1 yX1_stepOf yX1_stepOf, Cond.code yX1_stepOf cX1_stepOf 3 (some .int), Cond.methodLink RX1 67 yX1_heardBy, Cond.instanceMethod yX1_heardBy, Cond.selects RX1 yX1_heardBy yX1_heardBy, Cond.code yX1_heardBy cX1_heardBy 3 (some .int), Cond.methodLink RX1 70 yX0_isHole, Cond.instanceMethod yX0_isHole, Cond.selects RX0 yX0_isHole yX0_isHole, Cond.code yX0_isHole cX0_isHole 3 (some .boolean), Cond.methodLink RX0 80 yX0_mayMeet, Cond.instanceMethod yX0_mayMeet, Cond.selects RX0 yX0_mayMeet yX0_mayMeet, Cond.code yX0_mayMeet cX0_mayMeet 3 (some .boolean), Cond.fieldLink RX0 21 "OverHill$Dance" "met" "[I"]
def wsX11_run : List Cond := .code yX11_run cX11_run 3 (some .int) :: ((wsX11_run_r1 ++ (wsX11_run_r2 ++ (wsX11_run_r3 ++ wsX11_run_r4))) ++ wsX110 ++ wsX10 ++ wsX00)
def wsX11_begins_r1 : List Cond := [Cond.fieldLink RX11 24 "OverHill" "now" "LOverHill$Dance;", Cond.fieldLink RX11 42 "OverHill" "floor" "LOverHill$Floor;", Cond.fieldLink RX11 205 "OverHill$Floor" "calmStart" "I", Cond.methodLink RX11 191 yX11_hasSpan, Cond.instanceMethod yX11_hasSpan, Cond.selects RX11 yX11_hasSpan yX11_hasSpan, Cond.initialized RX11, Cond.code yX11_hasSpan cX11_hasSpan 3 (some .boolean), Cond.methodLink RX11 125 yX0_stands, Cond.instanceMethod yX0_stands, Cond.selects RX0 yX0_stands yX0_stands, Cond.initialized RX0, Cond.code yX0_stands cX0_stands 1 (some .boolean), Cond.fieldLink RX0 49 "OverHill$Dance" "lines" "I", Cond.methodLink RX11 156 yX11_isBeat, Cond.static yX11_isBeat, Cond.code yX11_isBeat cX11_isBeat 1 (some .boolean), Cond.methodLink RX11 150 yX11_isWithin, Cond.static yX11_isWithin, Cond.code yX11_isWithin cX11_isWithin 2 (some .boolean), Cond.methodLink RX11 165 yX11_plainFloor, Cond.instanceMethod yX11_plainFloor, Cond.selects RX11 yX11_plainFloor yX11_plainFloor, Cond.code yX11_plainFloor cX11_plainFloor 1 (some (.object "OverHill$Floor"))]
def wsX11_begins_r2 : List Cond := [Cond.fieldLink RX11 49 "OverHill" "laid" "Z", Cond.methodLink RX11 208 yX1_lay, Cond.instanceMethod yX1_lay, Cond.selects RX1 yX1_lay yX1_lay, Cond.initialized RX1, Cond.code yX1_lay cX1_lay 4 none, Cond.fieldLink RX1 21 "OverHill$Dance" "gap" "I", Cond.fieldLink RX1 27 "OverHill$Floor" "gap" "I", Cond.methodLink RX1 28 yX1_findStumbles, Cond.instanceMethod yX1_findStumbles, Cond.selects RX1 yX1_findStumbles yX1_findStumbles, Cond.code yX1_findStumbles cX1_findStumbles 6 none, Cond.fieldLink RX1 18 "OverHill$Floor" "stumbleIn" "[I", Cond.fieldLink RX1 42 "OverHill$Dance" "stumbleCount" "I", Cond.fieldLink RX1 45 "OverHill$Dance" "stumbles" "[I", Cond.methodLink RX1 36 yJ7_fill_53178, Cond.static yJ7_fill_53178, Cond.initialized RJ7, Cond.code yJ7_fill_53178 cJ7_fill_53178 4 none, Cond.methodLink RX1 32 yX1_laySide, Cond.instanceMethod yX1_laySide, Cond.selects RX1 yX1_laySide yX1_laySide, Cond.code yX1_laySide cX1_laySide 10 none, Cond.fieldLink RX1 48 "OverHill$Dance" "lengths" "[I"]
def wsX11_begins_r3 : List Cond := [Cond.fieldLink RX1 51 "OverHill$Dance" "starts" "[I", Cond.fieldLink RX1 9 "OverHill$Floor" "places" "[I", Cond.fieldLink RX1 15 "OverHill$Floor" "steps" "[I", Cond.fieldLink RX1 54 "OverHill$Dance" "muds" "[I", Cond.methodLink RX1 57 yX0_stepAt, Cond.instanceMethod yX0_stepAt, Cond.selects RX0 yX0_stepAt yX0_stepAt, Cond.code yX0_stepAt cX0_stepAt 3 (some .int), Cond.fieldLink RX0 9 "OverHill$Dance" "steps" "[I", Cond.static yX11_wrap, Cond.code yX11_wrap cX11_wrap 2 (some .int), Cond.methodLink RX11 451 yJ9_floorMod_7cf53, Cond.static yJ9_floorMod_7cf53, Cond.initialized RJ9, Cond.code yJ9_floorMod_7cf53 cJ9_floorMod_7cf53 3 (some .int), Cond.methodLink RX11 198 yX1_findCalm, Cond.instanceMethod yX1_findCalm, Cond.selects RX1 yX1_findCalm yX1_findCalm, Cond.code yX1_findCalm cX1_findCalm 6 none, Cond.fieldLink RX1 82 "OverHill$Floor" "calmLength" "I", Cond.fieldLink RX1 85 "OverHill$Floor" "calmStart" "I", Cond.methodLink RX1 74 yX1_gapes, Cond.instanceMethod yX1_gapes, Cond.selects RX1 yX1_gapes yX1_gapes]
def wsX11_begins_r4 : List Cond := [Cond.code yX1_gapes cX1_gapes 4 (some .boolean), Cond.methodLink RX1 64 yX1_stepOf, Cond.instanceMethod yX1_stepOf, Cond.selects RX1 yX1_stepOf yX1_stepOf, Cond.code yX1_stepOf cX1_stepOf 3 (some .int), Cond.methodLink RX1 67 yX1_heardBy, Cond.instanceMethod yX1_heardBy, Cond.selects RX1 yX1_heardBy yX1_heardBy, Cond.code yX1_heardBy cX1_heardBy 3 (some .int), Cond.methodLink RX1 70 yX0_isHole, Cond.instanceMethod yX0_isHole, Cond.selects RX0 yX0_isHole yX0_isHole, Cond.code yX0_isHole cX0_isHole 3 (some .boolean), Cond.methodLink RX0 80 yX0_mayMeet, Cond.instanceMethod yX0_mayMeet, Cond.selects RX0 yX0_mayMeet yX0_mayMeet, Cond.code yX0_mayMeet cX0_mayMeet 3 (some .boolean), Cond.fieldLink RX0 21 "OverHill$Dance" "met" "[I"]
def wsX11_begins : List Cond := .code yX11_begins cX11_begins 3 (some .int) :: ((wsX11_begins_r1 ++ (wsX11_begins_r2 ++ (wsX11_begins_r3 ++ wsX11_begins_r4))) ++ wsX110 ++ wsX10 ++ wsX00)
def wsX11_undoes_r1 : List Cond := [Cond.fieldLink RX11 24 "OverHill" "now" "LOverHill$Dance;", Cond.fieldLink RX11 46 "OverHill" "trial" "LOverHill$Floor;", Cond.methodLink RX11 147 yX0_hasStumble, Cond.instanceMethod yX0_hasStumble, Cond.selects RX0 yX0_hasStumble yX0_hasStumble, Cond.initialized RX0, Cond.code yX0_hasStumble cX0_hasStumble 2 (some .boolean), Cond.fieldLink RX0 58 "OverHill$Dance" "stumbleCount" "I", Cond.static yX11_isWithin, Cond.initialized RX11, Cond.code yX11_isWithin cX11_isWithin 2 (some .boolean), Cond.methodLink RX11 208 yX1_lay, Cond.instanceMethod yX1_lay, Cond.selects RX1 yX1_lay yX1_lay, Cond.initialized RX1, Cond.code yX1_lay cX1_lay 4 none, Cond.fieldLink RX1 21 "OverHill$Dance" "gap" "I", Cond.fieldLink RX1 27 "OverHill$Floor" "gap" "I", Cond.methodLink RX1 28 yX1_findStumbles, Cond.instanceMethod yX1_findStumbles, Cond.selects RX1 yX1_findStumbles yX1_findStumbles, Cond.code yX1_findStumbles cX1_findStumbles 6 none, Cond.fieldLink RX1 18 "OverHill$Floor" "stumbleIn" "[I", Cond.fieldLink RX1 42 "OverHill$Dance" "stumbleCount" "I"]
def wsX11_undoes_r2 : List Cond := [Cond.fieldLink RX1 45 "OverHill$Dance" "stumbles" "[I", Cond.methodLink RX1 36 yJ7_fill_53178, Cond.static yJ7_fill_53178, Cond.initialized RJ7, Cond.code yJ7_fill_53178 cJ7_fill_53178 4 none, Cond.methodLink RX1 32 yX1_laySide, Cond.instanceMethod yX1_laySide, Cond.selects RX1 yX1_laySide yX1_laySide, Cond.code yX1_laySide cX1_laySide 10 none, Cond.fieldLink RX1 48 "OverHill$Dance" "lengths" "[I", Cond.fieldLink RX1 51 "OverHill$Dance" "starts" "[I", Cond.fieldLink RX1 9 "OverHill$Floor" "places" "[I", Cond.fieldLink RX1 15 "OverHill$Floor" "steps" "[I", Cond.fieldLink RX1 54 "OverHill$Dance" "muds" "[I", Cond.methodLink RX1 57 yX0_stepAt, Cond.instanceMethod yX0_stepAt, Cond.selects RX0 yX0_stepAt yX0_stepAt, Cond.code yX0_stepAt cX0_stepAt 3 (some .int), Cond.fieldLink RX0 9 "OverHill$Dance" "steps" "[I", Cond.static yX11_wrap, Cond.code yX11_wrap cX11_wrap 2 (some .int), Cond.methodLink RX11 451 yJ9_floorMod_7cf53, Cond.static yJ9_floorMod_7cf53, Cond.initialized RJ9]
def wsX11_undoes_r3 : List Cond := [Cond.code yJ9_floorMod_7cf53 cJ9_floorMod_7cf53 3 (some .int), Cond.methodLink RX11 165 yX11_plainFloor, Cond.instanceMethod yX11_plainFloor, Cond.selects RX11 yX11_plainFloor yX11_plainFloor, Cond.code yX11_plainFloor cX11_plainFloor 1 (some (.object "OverHill$Floor")), Cond.fieldLink RX11 49 "OverHill" "laid" "Z", Cond.fieldLink RX11 42 "OverHill" "floor" "LOverHill$Floor;", Cond.methodLink RX11 212 yX1_countAllHoles, Cond.instanceMethod yX1_countAllHoles, Cond.selects RX1 yX1_countAllHoles yX1_countAllHoles, Cond.code yX1_countAllHoles cX1_countAllHoles 2 (some .int), Cond.methodLink RX1 78 yX1_countHoles, Cond.instanceMethod yX1_countHoles, Cond.selects RX1 yX1_countHoles yX1_countHoles, Cond.code yX1_countHoles cX1_countHoles 7 (some .int), Cond.methodLink RX1 74 yX1_gapes, Cond.instanceMethod yX1_gapes, Cond.selects RX1 yX1_gapes yX1_gapes, Cond.code yX1_gapes cX1_gapes 4 (some .boolean), Cond.methodLink RX1 64 yX1_stepOf, Cond.instanceMethod yX1_stepOf, Cond.selects RX1 yX1_stepOf yX1_stepOf, Cond.code yX1_stepOf cX1_stepOf 3 (some .int), Cond.methodLink RX1 67 yX1_heardBy]
def wsX11_undoes_r4 : List Cond := [Cond.instanceMethod yX1_heardBy, Cond.selects RX1 yX1_heardBy yX1_heardBy, Cond.code yX1_heardBy cX1_heardBy 3 (some .int), Cond.methodLink RX1 70 yX0_isHole, Cond.instanceMethod yX0_isHole, Cond.selects RX0 yX0_isHole yX0_isHole, Cond.code yX0_isHole cX0_isHole 3 (some .boolean), Cond.methodLink RX0 80 yX0_mayMeet, Cond.instanceMethod yX0_mayMeet, Cond.selects RX0 yX0_mayMeet yX0_mayMeet, Cond.code yX0_mayMeet cX0_mayMeet 3 (some .boolean), Cond.fieldLink RX0 21 "OverHill$Dance" "met" "[I"]
def wsX11_undoes : List Cond := .code yX11_undoes cX11_undoes 2 (some .int) :: ((wsX11_undoes_r1 ++ (wsX11_undoes_r2 ++ (wsX11_undoes_r3 ++ wsX11_undoes_r4))) ++ wsX110 ++ wsX00 ++ wsX10)
def wsX11_causes_r1 : List Cond := [Cond.fieldLink RX11 24 "OverHill" "now" "LOverHill$Dance;", Cond.fieldLink RX11 216 "OverHill$Dance" "stumbleCount" "I", Cond.fieldLink RX11 46 "OverHill" "trial" "LOverHill$Floor;", Cond.methodLink RX11 162 yX11_has, Cond.instanceMethod yX11_has, Cond.selects RX11 yX11_has yX11_has, Cond.initialized RX11, Cond.code yX11_has cX11_has 3 (some .boolean), Cond.methodLink RX11 125 yX0_stands, Cond.instanceMethod yX0_stands, Cond.selects RX0 yX0_stands yX0_stands, Cond.initialized RX0, Cond.code yX0_stands cX0_stands 1 (some .boolean), Cond.fieldLink RX0 49 "OverHill$Dance" "lines" "I", Cond.methodLink RX11 129 yX11_isSide, Cond.static yX11_isSide, Cond.code yX11_isSide cX11_isSide 1 (some .boolean), Cond.methodLink RX11 150 yX11_isWithin, Cond.static yX11_isWithin, Cond.code yX11_isWithin cX11_isWithin 2 (some .boolean), Cond.methodLink RX11 156 yX11_isBeat, Cond.static yX11_isBeat, Cond.code yX11_isBeat cX11_isBeat 1 (some .boolean), Cond.methodLink RX11 165 yX11_plainFloor]
def wsX11_causes_r2 : List Cond := [Cond.instanceMethod yX11_plainFloor, Cond.selects RX11 yX11_plainFloor yX11_plainFloor, Cond.code yX11_plainFloor cX11_plainFloor 1 (some (.object "OverHill$Floor")), Cond.fieldLink RX11 49 "OverHill" "laid" "Z", Cond.fieldLink RX11 42 "OverHill" "floor" "LOverHill$Floor;", Cond.methodLink RX11 208 yX1_lay, Cond.instanceMethod yX1_lay, Cond.selects RX1 yX1_lay yX1_lay, Cond.initialized RX1, Cond.code yX1_lay cX1_lay 4 none, Cond.fieldLink RX1 21 "OverHill$Dance" "gap" "I", Cond.fieldLink RX1 27 "OverHill$Floor" "gap" "I", Cond.methodLink RX1 28 yX1_findStumbles, Cond.instanceMethod yX1_findStumbles, Cond.selects RX1 yX1_findStumbles yX1_findStumbles, Cond.code yX1_findStumbles cX1_findStumbles 6 none, Cond.fieldLink RX1 18 "OverHill$Floor" "stumbleIn" "[I", Cond.fieldLink RX1 42 "OverHill$Dance" "stumbleCount" "I", Cond.fieldLink RX1 45 "OverHill$Dance" "stumbles" "[I", Cond.methodLink RX1 36 yJ7_fill_53178, Cond.static yJ7_fill_53178, Cond.initialized RJ7, Cond.code yJ7_fill_53178 cJ7_fill_53178 4 none, Cond.methodLink RX1 32 yX1_laySide]
def wsX11_causes_r3 : List Cond := [Cond.instanceMethod yX1_laySide, Cond.selects RX1 yX1_laySide yX1_laySide, Cond.code yX1_laySide cX1_laySide 10 none, Cond.fieldLink RX1 48 "OverHill$Dance" "lengths" "[I", Cond.fieldLink RX1 51 "OverHill$Dance" "starts" "[I", Cond.fieldLink RX1 9 "OverHill$Floor" "places" "[I", Cond.fieldLink RX1 15 "OverHill$Floor" "steps" "[I", Cond.fieldLink RX1 54 "OverHill$Dance" "muds" "[I", Cond.methodLink RX1 57 yX0_stepAt, Cond.instanceMethod yX0_stepAt, Cond.selects RX0 yX0_stepAt yX0_stepAt, Cond.code yX0_stepAt cX0_stepAt 3 (some .int), Cond.fieldLink RX0 9 "OverHill$Dance" "steps" "[I", Cond.static yX11_wrap, Cond.code yX11_wrap cX11_wrap 2 (some .int), Cond.methodLink RX11 451 yJ9_floorMod_7cf53, Cond.static yJ9_floorMod_7cf53, Cond.initialized RJ9, Cond.code yJ9_floorMod_7cf53 cJ9_floorMod_7cf53 3 (some .int), Cond.methodLink RX11 187 yX1_gapes, Cond.instanceMethod yX1_gapes, Cond.selects RX1 yX1_gapes yX1_gapes, Cond.code yX1_gapes cX1_gapes 4 (some .boolean), Cond.methodLink RX1 64 yX1_stepOf]
def wsX11_causes_r4 : List Cond := [Cond.instanceMethod yX1_stepOf, Cond.selects RX1 yX1_stepOf yX1_stepOf, Cond.code yX1_stepOf cX1_stepOf 3 (some .int), Cond.methodLink RX1 67 yX1_heardBy, Cond.instanceMethod yX1_heardBy, Cond.selects RX1 yX1_heardBy yX1_heardBy, Cond.code yX1_heardBy cX1_heardBy 3 (some .int), Cond.methodLink RX1 70 yX0_isHole, Cond.instanceMethod yX0_isHole, Cond.selects RX0 yX0_isHole yX0_isHole, Cond.code yX0_isHole cX0_isHole 3 (some .boolean), Cond.methodLink RX0 80 yX0_mayMeet, Cond.instanceMethod yX0_mayMeet, Cond.selects RX0 yX0_mayMeet yX0_mayMeet, Cond.code yX0_mayMeet cX0_mayMeet 3 (some .boolean), Cond.fieldLink RX0 21 "OverHill$Dance" "met" "[I"]
def wsX11_causes : List Cond := .code yX11_causes cX11_causes 5 (some .int) :: ((wsX11_causes_r1 ++ (wsX11_causes_r2 ++ (wsX11_causes_r3 ++ wsX11_causes_r4))) ++ wsX110 ++ wsX00 ++ wsX10)
def wsX11_period : List Cond := .code yX11_period cX11_period 1 (some .int) :: ([.fieldLink RX11 24 "OverHill" "now" "LOverHill$Dance;", .methodLink RX11 125 yX0_stands, .instanceMethod yX0_stands, .selects RX0 yX0_stands yX0_stands, .initialized RX0, .code yX0_stands cX0_stands 1 (some .boolean), .fieldLink RX0 49 "OverHill$Dance" "lines" "I", .methodLink RX11 219 yX0_hasBothRounds, .instanceMethod yX0_hasBothRounds, .selects RX0 yX0_hasBothRounds yX0_hasBothRounds, .code yX0_hasBothRounds cX0_hasBothRounds 1 (some .boolean), .fieldLink RX0 15 "OverHill$Dance" "lengths" "[I", .methodLink RX11 222 yX6_periodOf, .static yX6_periodOf, .initialized RX6, .code yX6_periodOf cX6_periodOf 1 (some .int), .fieldLink RX6 15 "OverHill$Dance" "lengths" "[I", .static yX11_commonMultiple, .initialized RX11, .code yX11_commonMultiple cX11_commonMultiple 6 (some .long), .methodLink RX11 347 yX11_commonDivisor, .static yX11_commonDivisor, .code yX11_commonDivisor cX11_commonDivisor 11 (some .long)] ++ wsX110 ++ wsX00)
def wsX11_meets_r1 : List Cond := [Cond.fieldLink RX11 24 "OverHill" "now" "LOverHill$Dance;", Cond.methodLink RX11 125 yX0_stands, Cond.instanceMethod yX0_stands, Cond.selects RX0 yX0_stands yX0_stands, Cond.initialized RX0, Cond.code yX0_stands cX0_stands 1 (some .boolean), Cond.fieldLink RX0 49 "OverHill$Dance" "lines" "I", Cond.methodLink RX11 133 yX0_hasPlace, Cond.instanceMethod yX0_hasPlace, Cond.selects RX0 yX0_hasPlace yX0_hasPlace, Cond.code yX0_hasPlace cX0_hasPlace 3 (some .boolean), Cond.fieldLink RX0 15 "OverHill$Dance" "lengths" "[I", Cond.static yX11_isWithin, Cond.initialized RX11, Cond.code yX11_isWithin cX11_isWithin 2 (some .boolean), Cond.methodLink RX11 156 yX11_isBeat, Cond.static yX11_isBeat, Cond.code yX11_isBeat cX11_isBeat 1 (some .boolean), Cond.methodLink RX11 150 yX11_isWithin, Cond.methodLink RX11 225 yX6_firstIn, Cond.static yX6_firstIn, Cond.initialized RX6, Cond.code yX6_firstIn cX6_firstIn 6 (some .int), Cond.methodLink RX6 24 yX6_periodOf]
def wsX11_meets_r2 : List Cond := [Cond.static yX6_periodOf, Cond.code yX6_periodOf cX6_periodOf 1 (some .int), Cond.fieldLink RX6 15 "OverHill$Dance" "lengths" "[I", Cond.static yX11_commonMultiple, Cond.code yX11_commonMultiple cX11_commonMultiple 6 (some .long), Cond.methodLink RX11 347 yX11_commonDivisor, Cond.static yX11_commonDivisor, Cond.code yX11_commonDivisor cX11_commonDivisor 11 (some .long), Cond.methodLink RX6 28 yX6_placeIn, Cond.static yX6_placeIn, Cond.code yX6_placeIn cX6_placeIn 3 (some .int), Cond.fieldLink RX6 75 "OverHill$Dance" "starts" "[I", Cond.static yX11_wrap, Cond.code yX11_wrap cX11_wrap 2 (some .int), Cond.methodLink RX11 451 yJ9_floorMod_7cf53, Cond.static yJ9_floorMod_7cf53, Cond.initialized RJ9, Cond.code yJ9_floorMod_7cf53 cJ9_floorMod_7cf53 3 (some .int)]
def wsX11_meets : List Cond := .code yX11_meets cX11_meets 4 (some .int) :: ((wsX11_meets_r1 ++ wsX11_meets_r2) ++ wsX110 ++ wsX00)
def wsX11_hasRounds : List Cond := .code yX11_hasRounds cX11_hasRounds 1 (some .boolean) :: ([.fieldLink RX11 24 "OverHill" "now" "LOverHill$Dance;", .methodLink RX11 125 yX0_stands, .instanceMethod yX0_stands, .selects RX0 yX0_stands yX0_stands, .initialized RX0, .code yX0_stands cX0_stands 1 (some .boolean), .fieldLink RX0 49 "OverHill$Dance" "lines" "I", .methodLink RX11 219 yX0_hasBothRounds, .instanceMethod yX0_hasBothRounds, .selects RX0 yX0_hasBothRounds yX0_hasBothRounds, .code yX0_hasBothRounds cX0_hasBothRounds 1 (some .boolean), .fieldLink RX0 15 "OverHill$Dance" "lengths" "[I"] ++ wsX110 ++ wsX00)
def wsX11_shifted_r1 : List Cond := [Cond.fieldLink RX11 24 "OverHill" "now" "LOverHill$Dance;", Cond.fieldLink RX11 178 "OverHill$Dance" "lengths" "[I", Cond.methodLink RX11 228 yX11_hasRounds, Cond.instanceMethod yX11_hasRounds, Cond.selects RX11 yX11_hasRounds yX11_hasRounds, Cond.initialized RX11, Cond.code yX11_hasRounds cX11_hasRounds 1 (some .boolean), Cond.methodLink RX11 125 yX0_stands, Cond.instanceMethod yX0_stands, Cond.selects RX0 yX0_stands yX0_stands, Cond.initialized RX0, Cond.code yX0_stands cX0_stands 1 (some .boolean), Cond.fieldLink RX0 49 "OverHill$Dance" "lines" "I", Cond.methodLink RX11 219 yX0_hasBothRounds, Cond.instanceMethod yX0_hasBothRounds, Cond.selects RX0 yX0_hasBothRounds yX0_hasBothRounds, Cond.code yX0_hasBothRounds cX0_hasBothRounds 1 (some .boolean), Cond.fieldLink RX0 15 "OverHill$Dance" "lengths" "[I", Cond.methodLink RX11 150 yX11_isWithin, Cond.static yX11_isWithin, Cond.code yX11_isWithin cX11_isWithin 2 (some .boolean), Cond.methodLink RX11 231 yX6_holesShifted, Cond.static yX6_holesShifted, Cond.initialized RX6]
def wsX11_shifted_r2 : List Cond := [Cond.code yX6_holesShifted cX6_holesShifted 6 (some .int), Cond.fieldLink RX6 32 "OverHill$Dance" "gap" "I", Cond.methodLink RX6 24 yX6_periodOf, Cond.static yX6_periodOf, Cond.code yX6_periodOf cX6_periodOf 1 (some .int), Cond.fieldLink RX6 15 "OverHill$Dance" "lengths" "[I", Cond.static yX11_commonMultiple, Cond.code yX11_commonMultiple cX11_commonMultiple 6 (some .long), Cond.methodLink RX11 347 yX11_commonDivisor, Cond.static yX11_commonDivisor, Cond.code yX11_commonDivisor cX11_commonDivisor 11 (some .long), Cond.methodLink RX6 36 yX6_stepIn, Cond.static yX6_stepIn, Cond.code yX6_stepIn cX6_stepIn 3 (some .int), Cond.methodLink RX6 28 yX6_placeIn, Cond.static yX6_placeIn, Cond.code yX6_placeIn cX6_placeIn 3 (some .int), Cond.fieldLink RX6 75 "OverHill$Dance" "starts" "[I", Cond.static yX11_wrap, Cond.code yX11_wrap cX11_wrap 2 (some .int), Cond.methodLink RX11 451 yJ9_floorMod_7cf53, Cond.static yJ9_floorMod_7cf53, Cond.initialized RJ9, Cond.code yJ9_floorMod_7cf53 cJ9_floorMod_7cf53 3 (some .int)]
def wsX11_shifted_r3 : List Cond := [Cond.methodLink RX6 59 yX0_stepAt, Cond.instanceMethod yX0_stepAt, Cond.selects RX0 yX0_stepAt yX0_stepAt, Cond.code yX0_stepAt cX0_stepAt 3 (some .int), Cond.fieldLink RX0 9 "OverHill$Dance" "steps" "[I", Cond.methodLink RX6 39 yX0_isHole, Cond.instanceMethod yX0_isHole, Cond.selects RX0 yX0_isHole yX0_isHole, Cond.code yX0_isHole cX0_isHole 3 (some .boolean), Cond.methodLink RX0 80 yX0_mayMeet, Cond.instanceMethod yX0_mayMeet, Cond.selects RX0 yX0_mayMeet yX0_mayMeet, Cond.code yX0_mayMeet cX0_mayMeet 3 (some .boolean), Cond.fieldLink RX0 21 "OverHill$Dance" "met" "[I"]
def wsX11_shifted : List Cond := .code yX11_shifted cX11_shifted 2 (some .int) :: ((wsX11_shifted_r1 ++ (wsX11_shifted_r2 ++ wsX11_shifted_r3)) ++ wsX110 ++ wsX00)
def wsX11_shift_r1 : List Cond := [Cond.fieldLink RX11 24 "OverHill" "now" "LOverHill$Dance;", Cond.methodLink RX11 228 yX11_hasRounds, Cond.instanceMethod yX11_hasRounds, Cond.selects RX11 yX11_hasRounds yX11_hasRounds, Cond.initialized RX11, Cond.code yX11_hasRounds cX11_hasRounds 1 (some .boolean), Cond.methodLink RX11 125 yX0_stands, Cond.instanceMethod yX0_stands, Cond.selects RX0 yX0_stands yX0_stands, Cond.initialized RX0, Cond.code yX0_stands cX0_stands 1 (some .boolean), Cond.fieldLink RX0 49 "OverHill$Dance" "lines" "I", Cond.methodLink RX11 219 yX0_hasBothRounds, Cond.instanceMethod yX0_hasBothRounds, Cond.selects RX0 yX0_hasBothRounds yX0_hasBothRounds, Cond.code yX0_hasBothRounds cX0_hasBothRounds 1 (some .boolean), Cond.fieldLink RX0 15 "OverHill$Dance" "lengths" "[I", Cond.methodLink RX11 235 yX6_leastShift, Cond.static yX6_leastShift, Cond.initialized RX6, Cond.code yX6_leastShift cX6_leastShift 5 (some .int), Cond.fieldLink RX6 15 "OverHill$Dance" "lengths" "[I", Cond.methodLink RX6 43 yX6_holesShifted, Cond.static yX6_holesShifted]
def wsX11_shift_r2 : List Cond := [Cond.code yX6_holesShifted cX6_holesShifted 6 (some .int), Cond.fieldLink RX6 32 "OverHill$Dance" "gap" "I", Cond.methodLink RX6 24 yX6_periodOf, Cond.static yX6_periodOf, Cond.code yX6_periodOf cX6_periodOf 1 (some .int), Cond.static yX11_commonMultiple, Cond.code yX11_commonMultiple cX11_commonMultiple 6 (some .long), Cond.methodLink RX11 347 yX11_commonDivisor, Cond.static yX11_commonDivisor, Cond.code yX11_commonDivisor cX11_commonDivisor 11 (some .long), Cond.methodLink RX6 36 yX6_stepIn, Cond.static yX6_stepIn, Cond.code yX6_stepIn cX6_stepIn 3 (some .int), Cond.methodLink RX6 28 yX6_placeIn, Cond.static yX6_placeIn, Cond.code yX6_placeIn cX6_placeIn 3 (some .int), Cond.fieldLink RX6 75 "OverHill$Dance" "starts" "[I", Cond.static yX11_wrap, Cond.code yX11_wrap cX11_wrap 2 (some .int), Cond.methodLink RX11 451 yJ9_floorMod_7cf53, Cond.static yJ9_floorMod_7cf53, Cond.initialized RJ9, Cond.code yJ9_floorMod_7cf53 cJ9_floorMod_7cf53 3 (some .int), Cond.methodLink RX6 59 yX0_stepAt]
def wsX11_shift_r3 : List Cond := [Cond.instanceMethod yX0_stepAt, Cond.selects RX0 yX0_stepAt yX0_stepAt, Cond.code yX0_stepAt cX0_stepAt 3 (some .int), Cond.fieldLink RX0 9 "OverHill$Dance" "steps" "[I", Cond.methodLink RX6 39 yX0_isHole, Cond.instanceMethod yX0_isHole, Cond.selects RX0 yX0_isHole yX0_isHole, Cond.code yX0_isHole cX0_isHole 3 (some .boolean), Cond.methodLink RX0 80 yX0_mayMeet, Cond.instanceMethod yX0_mayMeet, Cond.selects RX0 yX0_mayMeet yX0_mayMeet, Cond.code yX0_mayMeet cX0_mayMeet 3 (some .boolean), Cond.fieldLink RX0 21 "OverHill$Dance" "met" "[I", Cond.methodLink RX11 231 yX6_holesShifted]
def wsX11_shift : List Cond := .code yX11_shift cX11_shift 2 (some .int) :: ((wsX11_shift_r1 ++ (wsX11_shift_r2 ++ wsX11_shift_r3)) ++ wsX110 ++ wsX00)
def wsX11_least_r1 : List Cond := [Cond.fieldLink RX11 24 "OverHill" "now" "LOverHill$Dance;", Cond.methodLink RX11 228 yX11_hasRounds, Cond.instanceMethod yX11_hasRounds, Cond.selects RX11 yX11_hasRounds yX11_hasRounds, Cond.initialized RX11, Cond.code yX11_hasRounds cX11_hasRounds 1 (some .boolean), Cond.methodLink RX11 125 yX0_stands, Cond.instanceMethod yX0_stands, Cond.selects RX0 yX0_stands yX0_stands, Cond.initialized RX0, Cond.code yX0_stands cX0_stands 1 (some .boolean), Cond.fieldLink RX0 49 "OverHill$Dance" "lines" "I", Cond.methodLink RX11 219 yX0_hasBothRounds, Cond.instanceMethod yX0_hasBothRounds, Cond.selects RX0 yX0_hasBothRounds yX0_hasBothRounds, Cond.code yX0_hasBothRounds cX0_hasBothRounds 1 (some .boolean), Cond.fieldLink RX0 15 "OverHill$Dance" "lengths" "[I", Cond.methodLink RX11 235 yX6_leastShift, Cond.static yX6_leastShift, Cond.initialized RX6, Cond.code yX6_leastShift cX6_leastShift 5 (some .int), Cond.fieldLink RX6 15 "OverHill$Dance" "lengths" "[I", Cond.methodLink RX6 43 yX6_holesShifted, Cond.static yX6_holesShifted]
def wsX11_least_r2 : List Cond := [Cond.code yX6_holesShifted cX6_holesShifted 6 (some .int), Cond.fieldLink RX6 32 "OverHill$Dance" "gap" "I", Cond.methodLink RX6 24 yX6_periodOf, Cond.static yX6_periodOf, Cond.code yX6_periodOf cX6_periodOf 1 (some .int), Cond.static yX11_commonMultiple, Cond.code yX11_commonMultiple cX11_commonMultiple 6 (some .long), Cond.methodLink RX11 347 yX11_commonDivisor, Cond.static yX11_commonDivisor, Cond.code yX11_commonDivisor cX11_commonDivisor 11 (some .long), Cond.methodLink RX6 36 yX6_stepIn, Cond.static yX6_stepIn, Cond.code yX6_stepIn cX6_stepIn 3 (some .int), Cond.methodLink RX6 28 yX6_placeIn, Cond.static yX6_placeIn, Cond.code yX6_placeIn cX6_placeIn 3 (some .int), Cond.fieldLink RX6 75 "OverHill$Dance" "starts" "[I", Cond.static yX11_wrap, Cond.code yX11_wrap cX11_wrap 2 (some .int), Cond.methodLink RX11 451 yJ9_floorMod_7cf53, Cond.static yJ9_floorMod_7cf53, Cond.initialized RJ9, Cond.code yJ9_floorMod_7cf53 cJ9_floorMod_7cf53 3 (some .int), Cond.methodLink RX6 59 yX0_stepAt]
def wsX11_least_r3 : List Cond := [Cond.instanceMethod yX0_stepAt, Cond.selects RX0 yX0_stepAt yX0_stepAt, Cond.code yX0_stepAt cX0_stepAt 3 (some .int), Cond.fieldLink RX0 9 "OverHill$Dance" "steps" "[I", Cond.methodLink RX6 39 yX0_isHole, Cond.instanceMethod yX0_isHole, Cond.selects RX0 yX0_isHole yX0_isHole, Cond.code yX0_isHole cX0_isHole 3 (some .boolean), Cond.methodLink RX0 80 yX0_mayMeet, Cond.instanceMethod yX0_mayMeet, Cond.selects RX0 yX0_mayMeet yX0_mayMeet, Cond.code yX0_mayMeet cX0_mayMeet 3 (some .boolean), Cond.fieldLink RX0 21 "OverHill$Dance" "met" "[I"]
def wsX11_least : List Cond := .code yX11_least cX11_least 1 (some .int) :: ((wsX11_least_r1 ++ (wsX11_least_r2 ++ wsX11_least_r3)) ++ wsX110 ++ wsX00)
def wsX11_mend_r1 : List Cond := [Cond.fieldLink RX11 56 "OverHill" "rounds" "LOverHill$Rounds;", Cond.fieldLink RX11 24 "OverHill" "now" "LOverHill$Dance;", Cond.methodLink RX11 228 yX11_hasRounds, Cond.instanceMethod yX11_hasRounds, Cond.selects RX11 yX11_hasRounds yX11_hasRounds, Cond.initialized RX11, Cond.code yX11_hasRounds cX11_hasRounds 1 (some .boolean), Cond.methodLink RX11 125 yX0_stands, Cond.instanceMethod yX0_stands, Cond.selects RX0 yX0_stands yX0_stands, Cond.initialized RX0, Cond.code yX0_stands cX0_stands 1 (some .boolean), Cond.fieldLink RX0 49 "OverHill$Dance" "lines" "I", Cond.methodLink RX11 219 yX0_hasBothRounds, Cond.instanceMethod yX0_hasBothRounds, Cond.selects RX0 yX0_hasBothRounds yX0_hasBothRounds, Cond.code yX0_hasBothRounds cX0_hasBothRounds 1 (some .boolean), Cond.fieldLink RX0 15 "OverHill$Dance" "lengths" "[I", Cond.methodLink RX11 129 yX11_isSide, Cond.static yX11_isSide, Cond.code yX11_isSide cX11_isSide 1 (some .boolean), Cond.methodLink RX11 150 yX11_isWithin, Cond.static yX11_isWithin, Cond.code yX11_isWithin cX11_isWithin 2 (some .boolean)]
def wsX11_mend_r2 : List Cond := [Cond.methodLink RX11 238 yX6_findFits, Cond.instanceMethod yX6_findFits, Cond.selects RX6 yX6_findFits yX6_findFits, Cond.initialized RX6, Cond.code yX6_findFits cX6_findFits 7 none, Cond.fieldLink RX6 9 "OverHill$Rounds" "fits" "[I", Cond.fieldLink RX6 32 "OverHill$Dance" "gap" "I", Cond.fieldLink RX6 56 "OverHill$Dance" "met" "[I", Cond.methodLink RX6 47 yJ7_fill_53178, Cond.static yJ7_fill_53178, Cond.initialized RJ7, Cond.code yJ7_fill_53178 cJ7_fill_53178 4 none, Cond.methodLink RX6 24 yX6_periodOf, Cond.static yX6_periodOf, Cond.code yX6_periodOf cX6_periodOf 1 (some .int), Cond.fieldLink RX6 15 "OverHill$Dance" "lengths" "[I", Cond.static yX11_commonMultiple, Cond.code yX11_commonMultiple cX11_commonMultiple 6 (some .long), Cond.methodLink RX11 347 yX11_commonDivisor, Cond.static yX11_commonDivisor, Cond.code yX11_commonDivisor cX11_commonDivisor 11 (some .long), Cond.methodLink RX6 36 yX6_stepIn, Cond.static yX6_stepIn, Cond.code yX6_stepIn cX6_stepIn 3 (some .int)]
def wsX11_mend_r3 : List Cond := [Cond.methodLink RX6 28 yX6_placeIn, Cond.static yX6_placeIn, Cond.code yX6_placeIn cX6_placeIn 3 (some .int), Cond.fieldLink RX6 75 "OverHill$Dance" "starts" "[I", Cond.static yX11_wrap, Cond.code yX11_wrap cX11_wrap 2 (some .int), Cond.methodLink RX11 451 yJ9_floorMod_7cf53, Cond.static yJ9_floorMod_7cf53, Cond.initialized RJ9, Cond.code yJ9_floorMod_7cf53 cJ9_floorMod_7cf53 3 (some .int), Cond.methodLink RX6 59 yX0_stepAt, Cond.instanceMethod yX0_stepAt, Cond.selects RX0 yX0_stepAt yX0_stepAt, Cond.code yX0_stepAt cX0_stepAt 3 (some .int), Cond.fieldLink RX0 9 "OverHill$Dance" "steps" "[I", Cond.methodLink RX6 53 yX6_metBy, Cond.static yX6_metBy, Cond.code yX6_metBy cX6_metBy 4 (some .int), Cond.methodLink RX6 72 yX0_mayMeet, Cond.instanceMethod yX0_mayMeet, Cond.selects RX0 yX0_mayMeet yX0_mayMeet, Cond.code yX0_mayMeet cX0_mayMeet 3 (some .boolean), Cond.fieldLink RX0 21 "OverHill$Dance" "met" "[I", Cond.methodLink RX11 241 yX6_firstStuck]
def wsX11_mend_r4 : List Cond := [Cond.instanceMethod yX6_firstStuck, Cond.selects RX6 yX6_firstStuck yX6_firstStuck, Cond.code yX6_firstStuck cX6_firstStuck 4 (some .int), Cond.methodLink RX11 244 yX6_countChanged, Cond.instanceMethod yX6_countChanged, Cond.selects RX6 yX6_countChanged yX6_countChanged, Cond.code yX6_countChanged cX6_countChanged 5 (some .int), Cond.methodLink RX6 69 yX6_fitting, Cond.instanceMethod yX6_fitting, Cond.selects RX6 yX6_fitting yX6_fitting, Cond.code yX6_fitting cX6_fitting 6 (some .int), Cond.methodLink RX6 63 yJ6_numberOfTrailingZeros_0f7a4, Cond.static yJ6_numberOfTrailingZeros_0f7a4, Cond.initialized RJ6, Cond.code yJ6_numberOfTrailingZeros_0f7a4 cJ6_numberOfTrailingZeros_0f7a4 2 (some .int), Cond.constant RJ6 264 (65536)]
def wsX11_mend : List Cond := .code yX11_mend cX11_mend 2 (some .int) :: ((wsX11_mend_r1 ++ (wsX11_mend_r2 ++ (wsX11_mend_r3 ++ wsX11_mend_r4))) ++ wsX110 ++ wsX00 ++ wsX60)
def wsX11_mended_r1 : List Cond := [Cond.fieldLink RX11 24 "OverHill" "now" "LOverHill$Dance;", Cond.fieldLink RX11 56 "OverHill" "rounds" "LOverHill$Rounds;", Cond.methodLink RX11 228 yX11_hasRounds, Cond.instanceMethod yX11_hasRounds, Cond.selects RX11 yX11_hasRounds yX11_hasRounds, Cond.initialized RX11, Cond.code yX11_hasRounds cX11_hasRounds 1 (some .boolean), Cond.methodLink RX11 125 yX0_stands, Cond.instanceMethod yX0_stands, Cond.selects RX0 yX0_stands yX0_stands, Cond.initialized RX0, Cond.code yX0_stands cX0_stands 1 (some .boolean), Cond.fieldLink RX0 49 "OverHill$Dance" "lines" "I", Cond.methodLink RX11 219 yX0_hasBothRounds, Cond.instanceMethod yX0_hasBothRounds, Cond.selects RX0 yX0_hasBothRounds yX0_hasBothRounds, Cond.code yX0_hasBothRounds cX0_hasBothRounds 1 (some .boolean), Cond.fieldLink RX0 15 "OverHill$Dance" "lengths" "[I", Cond.methodLink RX11 129 yX11_isSide, Cond.static yX11_isSide, Cond.code yX11_isSide cX11_isSide 1 (some .boolean), Cond.methodLink RX11 150 yX11_isWithin, Cond.static yX11_isWithin, Cond.code yX11_isWithin cX11_isWithin 2 (some .boolean)]
def wsX11_mended_r2 : List Cond := [Cond.methodLink RX11 133 yX0_hasPlace, Cond.instanceMethod yX0_hasPlace, Cond.selects RX0 yX0_hasPlace yX0_hasPlace, Cond.code yX0_hasPlace cX0_hasPlace 3 (some .boolean), Cond.methodLink RX11 238 yX6_findFits, Cond.instanceMethod yX6_findFits, Cond.selects RX6 yX6_findFits yX6_findFits, Cond.initialized RX6, Cond.code yX6_findFits cX6_findFits 7 none, Cond.fieldLink RX6 9 "OverHill$Rounds" "fits" "[I", Cond.fieldLink RX6 32 "OverHill$Dance" "gap" "I", Cond.fieldLink RX6 56 "OverHill$Dance" "met" "[I", Cond.methodLink RX6 47 yJ7_fill_53178, Cond.static yJ7_fill_53178, Cond.initialized RJ7, Cond.code yJ7_fill_53178 cJ7_fill_53178 4 none, Cond.methodLink RX6 24 yX6_periodOf, Cond.static yX6_periodOf, Cond.code yX6_periodOf cX6_periodOf 1 (some .int), Cond.fieldLink RX6 15 "OverHill$Dance" "lengths" "[I", Cond.static yX11_commonMultiple, Cond.code yX11_commonMultiple cX11_commonMultiple 6 (some .long), Cond.methodLink RX11 347 yX11_commonDivisor, Cond.static yX11_commonDivisor]
def wsX11_mended_r3 : List Cond := [Cond.code yX11_commonDivisor cX11_commonDivisor 11 (some .long), Cond.methodLink RX6 36 yX6_stepIn, Cond.static yX6_stepIn, Cond.code yX6_stepIn cX6_stepIn 3 (some .int), Cond.methodLink RX6 28 yX6_placeIn, Cond.static yX6_placeIn, Cond.code yX6_placeIn cX6_placeIn 3 (some .int), Cond.fieldLink RX6 75 "OverHill$Dance" "starts" "[I", Cond.static yX11_wrap, Cond.code yX11_wrap cX11_wrap 2 (some .int), Cond.methodLink RX11 451 yJ9_floorMod_7cf53, Cond.static yJ9_floorMod_7cf53, Cond.initialized RJ9, Cond.code yJ9_floorMod_7cf53 cJ9_floorMod_7cf53 3 (some .int), Cond.methodLink RX6 59 yX0_stepAt, Cond.instanceMethod yX0_stepAt, Cond.selects RX0 yX0_stepAt yX0_stepAt, Cond.code yX0_stepAt cX0_stepAt 3 (some .int), Cond.fieldLink RX0 9 "OverHill$Dance" "steps" "[I", Cond.methodLink RX6 53 yX6_metBy, Cond.static yX6_metBy, Cond.code yX6_metBy cX6_metBy 4 (some .int), Cond.methodLink RX6 72 yX0_mayMeet, Cond.instanceMethod yX0_mayMeet]
def wsX11_mended_r4 : List Cond := [Cond.selects RX0 yX0_mayMeet yX0_mayMeet, Cond.code yX0_mayMeet cX0_mayMeet 3 (some .boolean), Cond.fieldLink RX0 21 "OverHill$Dance" "met" "[I", Cond.methodLink RX11 241 yX6_firstStuck, Cond.instanceMethod yX6_firstStuck, Cond.selects RX6 yX6_firstStuck yX6_firstStuck, Cond.code yX6_firstStuck cX6_firstStuck 4 (some .int), Cond.methodLink RX11 247 yX6_fitting, Cond.instanceMethod yX6_fitting, Cond.selects RX6 yX6_fitting yX6_fitting, Cond.code yX6_fitting cX6_fitting 6 (some .int), Cond.methodLink RX6 63 yJ6_numberOfTrailingZeros_0f7a4, Cond.static yJ6_numberOfTrailingZeros_0f7a4, Cond.initialized RJ6, Cond.code yJ6_numberOfTrailingZeros_0f7a4 cJ6_numberOfTrailingZeros_0f7a4 2 (some .int), Cond.constant RJ6 264 (65536)]
def wsX11_mended : List Cond := .code yX11_mended cX11_mended 3 (some .int) :: ((wsX11_mended_r1 ++ (wsX11_mended_r2 ++ (wsX11_mended_r3 ++ wsX11_mended_r4))) ++ wsX110 ++ wsX00 ++ wsX60)
def wsX11_stuck_r1 : List Cond := [Cond.fieldLink RX11 56 "OverHill" "rounds" "LOverHill$Rounds;", Cond.fieldLink RX11 24 "OverHill" "now" "LOverHill$Dance;", Cond.methodLink RX11 228 yX11_hasRounds, Cond.instanceMethod yX11_hasRounds, Cond.selects RX11 yX11_hasRounds yX11_hasRounds, Cond.initialized RX11, Cond.code yX11_hasRounds cX11_hasRounds 1 (some .boolean), Cond.methodLink RX11 125 yX0_stands, Cond.instanceMethod yX0_stands, Cond.selects RX0 yX0_stands yX0_stands, Cond.initialized RX0, Cond.code yX0_stands cX0_stands 1 (some .boolean), Cond.fieldLink RX0 49 "OverHill$Dance" "lines" "I", Cond.methodLink RX11 219 yX0_hasBothRounds, Cond.instanceMethod yX0_hasBothRounds, Cond.selects RX0 yX0_hasBothRounds yX0_hasBothRounds, Cond.code yX0_hasBothRounds cX0_hasBothRounds 1 (some .boolean), Cond.fieldLink RX0 15 "OverHill$Dance" "lengths" "[I", Cond.methodLink RX11 129 yX11_isSide, Cond.static yX11_isSide, Cond.code yX11_isSide cX11_isSide 1 (some .boolean), Cond.methodLink RX11 150 yX11_isWithin, Cond.static yX11_isWithin, Cond.code yX11_isWithin cX11_isWithin 2 (some .boolean)]
def wsX11_stuck_r2 : List Cond := [Cond.methodLink RX11 238 yX6_findFits, Cond.instanceMethod yX6_findFits, Cond.selects RX6 yX6_findFits yX6_findFits, Cond.initialized RX6, Cond.code yX6_findFits cX6_findFits 7 none, Cond.fieldLink RX6 9 "OverHill$Rounds" "fits" "[I", Cond.fieldLink RX6 32 "OverHill$Dance" "gap" "I", Cond.fieldLink RX6 56 "OverHill$Dance" "met" "[I", Cond.methodLink RX6 47 yJ7_fill_53178, Cond.static yJ7_fill_53178, Cond.initialized RJ7, Cond.code yJ7_fill_53178 cJ7_fill_53178 4 none, Cond.methodLink RX6 24 yX6_periodOf, Cond.static yX6_periodOf, Cond.code yX6_periodOf cX6_periodOf 1 (some .int), Cond.fieldLink RX6 15 "OverHill$Dance" "lengths" "[I", Cond.static yX11_commonMultiple, Cond.code yX11_commonMultiple cX11_commonMultiple 6 (some .long), Cond.methodLink RX11 347 yX11_commonDivisor, Cond.static yX11_commonDivisor, Cond.code yX11_commonDivisor cX11_commonDivisor 11 (some .long), Cond.methodLink RX6 36 yX6_stepIn, Cond.static yX6_stepIn, Cond.code yX6_stepIn cX6_stepIn 3 (some .int)]
def wsX11_stuck_r3 : List Cond := [Cond.methodLink RX6 28 yX6_placeIn, Cond.static yX6_placeIn, Cond.code yX6_placeIn cX6_placeIn 3 (some .int), Cond.fieldLink RX6 75 "OverHill$Dance" "starts" "[I", Cond.static yX11_wrap, Cond.code yX11_wrap cX11_wrap 2 (some .int), Cond.methodLink RX11 451 yJ9_floorMod_7cf53, Cond.static yJ9_floorMod_7cf53, Cond.initialized RJ9, Cond.code yJ9_floorMod_7cf53 cJ9_floorMod_7cf53 3 (some .int), Cond.methodLink RX6 59 yX0_stepAt, Cond.instanceMethod yX0_stepAt, Cond.selects RX0 yX0_stepAt yX0_stepAt, Cond.code yX0_stepAt cX0_stepAt 3 (some .int), Cond.fieldLink RX0 9 "OverHill$Dance" "steps" "[I", Cond.methodLink RX6 53 yX6_metBy, Cond.static yX6_metBy, Cond.code yX6_metBy cX6_metBy 4 (some .int), Cond.methodLink RX6 72 yX0_mayMeet, Cond.instanceMethod yX0_mayMeet, Cond.selects RX0 yX0_mayMeet yX0_mayMeet, Cond.code yX0_mayMeet cX0_mayMeet 3 (some .boolean), Cond.fieldLink RX0 21 "OverHill$Dance" "met" "[I", Cond.methodLink RX11 241 yX6_firstStuck]
def wsX11_stuck_r4 : List Cond := [Cond.instanceMethod yX6_firstStuck, Cond.selects RX6 yX6_firstStuck yX6_firstStuck, Cond.code yX6_firstStuck cX6_firstStuck 4 (some .int)]
def wsX11_stuck : List Cond := .code yX11_stuck cX11_stuck 2 (some .int) :: ((wsX11_stuck_r1 ++ (wsX11_stuck_r2 ++ (wsX11_stuck_r3 ++ wsX11_stuck_r4))) ++ wsX110 ++ wsX00 ++ wsX60)
def wsX11_listenTo_r1 : List Cond := [Cond.fieldLink RX11 24 "OverHill" "now" "LOverHill$Dance;", Cond.fieldLink RX11 98 "OverHill" "slots" "LOverHill$Slots;", Cond.fieldLink RX11 63 "OverHill" "guess" "LOverHill$Guess;", Cond.fieldLink RX11 419 "OverHill$Slots" "sizes" "[I", Cond.methodLink RX11 125 yX0_stands, Cond.instanceMethod yX0_stands, Cond.selects RX0 yX0_stands yX0_stands, Cond.initialized RX0, Cond.code yX0_stands cX0_stands 1 (some .boolean), Cond.fieldLink RX0 49 "OverHill$Dance" "lines" "I", Cond.methodLink RX11 129 yX11_isSide, Cond.static yX11_isSide, Cond.initialized RX11, Cond.code yX11_isSide cX11_isSide 1 (some .boolean), Cond.methodLink RX11 150 yX11_isWithin, Cond.static yX11_isWithin, Cond.code yX11_isWithin cX11_isWithin 2 (some .boolean), Cond.methodLink RX11 438 yX7_refusalOfHeard, Cond.instanceMethod yX7_refusalOfHeard, Cond.selects RX7 yX7_refusalOfHeard yX7_refusalOfHeard, Cond.initialized RX7, Cond.code yX7_refusalOfHeard cX7_refusalOfHeard 5 (some .int), Cond.fieldLink RX7 15 "OverHill$Slots" "sizes" "[I", Cond.constantLong RX7 47 (199)]
def wsX11_listenTo_r2 : List Cond := [Cond.methodLink RX7 40 yX7_isSlot, Cond.static yX7_isSlot, Cond.code yX7_isSlot cX7_isSlot 1 (some .boolean), Cond.methodLink RX7 26 yX7_has, Cond.instanceMethod yX7_has, Cond.selects RX7 yX7_has yX7_has, Cond.code yX7_has cX7_has 2 (some .boolean), Cond.methodLink RX7 43 yX7_at, Cond.instanceMethod yX7_at, Cond.selects RX7 yX7_at yX7_at, Cond.code yX7_at cX7_at 3 (some .long), Cond.fieldLink RX7 18 "OverHill$Slots" "numbers" "[J", Cond.methodLink RX7 49 yX7_isBetween, Cond.static yX7_isBetween, Cond.code yX7_isBetween cX7_isBetween 6 (some .boolean), Cond.methodLink RX7 53 yX7_isTold, Cond.static yX7_isTold, Cond.code yX7_isTold cX7_isTold 2 (some .boolean), Cond.constantLong RX7 60 (-1), Cond.constantLong RX7 70 (5), Cond.methodLink RX11 441 yX3_begin, Cond.instanceMethod yX3_begin, Cond.selects RX3 yX3_begin yX3_begin, Cond.initialized RX3]
def wsX11_listenTo_r3 : List Cond := [Cond.code yX3_begin cX3_begin 6 none, Cond.fieldLink RX3 30 "OverHill$Dance" "gap" "I", Cond.fieldLink RX3 36 "OverHill$Guess" "gap" "I", Cond.fieldLink RX3 37 "OverHill$Dance" "lengths" "[I", Cond.fieldLink RX3 40 "OverHill$Guess" "length" "I", Cond.fieldLink RX3 43 "OverHill$Dance" "steps" "[I", Cond.fieldLink RX3 9 "OverHill$Guess" "round" "[I", Cond.methodLink RX3 46 arraycopyName, Cond.native arraycopyName, Cond.static arraycopyName, Cond.initialized "java/lang/System", Cond.fieldLink RX3 52 "OverHill$Guess" "impossible" "Z", Cond.fieldLink RX3 56 "OverHill$Guess" "firstUnlike" "I", Cond.fieldLink RX3 15 "OverHill$Guess" "lastUnlike" "[I", Cond.fieldLink RX3 21 "OverHill$Guess" "stepsIn" "[I", Cond.fieldLink RX3 65 "OverHill$Dance" "starts" "[I", Cond.fieldLink RX3 68 "OverHill$Dance" "muds" "[I", Cond.fieldLink RX3 18 "OverHill$Guess" "places" "[I", Cond.methodLink RX3 59 yJ7_fill_53178, Cond.static yJ7_fill_53178, Cond.initialized RJ7, Cond.code yJ7_fill_53178 cJ7_fill_53178 4 none, Cond.static yX11_wrap, Cond.code yX11_wrap cX11_wrap 2 (some .int)]
def wsX11_listenTo_r4 : List Cond := [Cond.methodLink RX11 451 yJ9_floorMod_7cf53, Cond.static yJ9_floorMod_7cf53, Cond.initialized RJ9, Cond.code yJ9_floorMod_7cf53 cJ9_floorMod_7cf53 3 (some .int), Cond.methodLink RX11 444 yX7_at, Cond.methodLink RX11 447 yX3_hear, Cond.instanceMethod yX3_hear, Cond.selects RX3 yX3_hear yX3_hear, Cond.code yX3_hear cX3_hear 5 none, Cond.methodLink RX3 78 Lib.Math.min.name, Cond.static Lib.Math.min.name, Cond.initialized "java/lang/Math", Cond.code Lib.Math.min.name Lib.Math.min.code 2 (some .int), Cond.methodLink RX3 83 Lib.Math.max.name, Cond.static Lib.Math.max.name, Cond.code Lib.Math.max.name Lib.Math.max.code 2 (some .int), Cond.methodLink RX3 75 yX3_stepBack, Cond.instanceMethod yX3_stepBack, Cond.selects RX3 yX3_stepBack yX3_stepBack, Cond.code yX3_stepBack cX3_stepBack 3 (some .int)]
def wsX11_listenTo : List Cond := .code yX11_listenTo cX11_listenTo 5 (some .int) :: ((wsX11_listenTo_r1 ++ (wsX11_listenTo_r2 ++ (wsX11_listenTo_r3 ++ wsX11_listenTo_r4))) ++ wsX110 ++ wsX70 ++ wsX00 ++ wsX30)
def wsX11_heard_r1 : List Cond := [Cond.fieldLink RX11 63 "OverHill" "guess" "LOverHill$Guess;", Cond.methodLink RX11 251 yX11_listenTo, Cond.instanceMethod yX11_listenTo, Cond.selects RX11 yX11_listenTo yX11_listenTo, Cond.initialized RX11, Cond.code yX11_listenTo cX11_listenTo 5 (some .int), Cond.fieldLink RX11 24 "OverHill" "now" "LOverHill$Dance;", Cond.fieldLink RX11 98 "OverHill" "slots" "LOverHill$Slots;", Cond.fieldLink RX11 419 "OverHill$Slots" "sizes" "[I", Cond.methodLink RX11 125 yX0_stands, Cond.instanceMethod yX0_stands, Cond.selects RX0 yX0_stands yX0_stands, Cond.initialized RX0, Cond.code yX0_stands cX0_stands 1 (some .boolean), Cond.fieldLink RX0 49 "OverHill$Dance" "lines" "I", Cond.methodLink RX11 129 yX11_isSide, Cond.static yX11_isSide, Cond.code yX11_isSide cX11_isSide 1 (some .boolean), Cond.methodLink RX11 150 yX11_isWithin, Cond.static yX11_isWithin, Cond.code yX11_isWithin cX11_isWithin 2 (some .boolean), Cond.methodLink RX11 438 yX7_refusalOfHeard, Cond.instanceMethod yX7_refusalOfHeard, Cond.selects RX7 yX7_refusalOfHeard yX7_refusalOfHeard]
def wsX11_heard_r2 : List Cond := [Cond.initialized RX7, Cond.code yX7_refusalOfHeard cX7_refusalOfHeard 5 (some .int), Cond.fieldLink RX7 15 "OverHill$Slots" "sizes" "[I", Cond.constantLong RX7 47 (199), Cond.methodLink RX7 40 yX7_isSlot, Cond.static yX7_isSlot, Cond.code yX7_isSlot cX7_isSlot 1 (some .boolean), Cond.methodLink RX7 26 yX7_has, Cond.instanceMethod yX7_has, Cond.selects RX7 yX7_has yX7_has, Cond.code yX7_has cX7_has 2 (some .boolean), Cond.methodLink RX7 43 yX7_at, Cond.instanceMethod yX7_at, Cond.selects RX7 yX7_at yX7_at, Cond.code yX7_at cX7_at 3 (some .long), Cond.fieldLink RX7 18 "OverHill$Slots" "numbers" "[J", Cond.methodLink RX7 49 yX7_isBetween, Cond.static yX7_isBetween, Cond.code yX7_isBetween cX7_isBetween 6 (some .boolean), Cond.methodLink RX7 53 yX7_isTold, Cond.static yX7_isTold, Cond.code yX7_isTold cX7_isTold 2 (some .boolean), Cond.constantLong RX7 60 (-1), Cond.constantLong RX7 70 (5)]
def wsX11_heard_r3 : List Cond := [Cond.methodLink RX11 441 yX3_begin, Cond.instanceMethod yX3_begin, Cond.selects RX3 yX3_begin yX3_begin, Cond.initialized RX3, Cond.code yX3_begin cX3_begin 6 none, Cond.fieldLink RX3 30 "OverHill$Dance" "gap" "I", Cond.fieldLink RX3 36 "OverHill$Guess" "gap" "I", Cond.fieldLink RX3 37 "OverHill$Dance" "lengths" "[I", Cond.fieldLink RX3 40 "OverHill$Guess" "length" "I", Cond.fieldLink RX3 43 "OverHill$Dance" "steps" "[I", Cond.fieldLink RX3 9 "OverHill$Guess" "round" "[I", Cond.methodLink RX3 46 arraycopyName, Cond.native arraycopyName, Cond.static arraycopyName, Cond.initialized "java/lang/System", Cond.fieldLink RX3 52 "OverHill$Guess" "impossible" "Z", Cond.fieldLink RX3 56 "OverHill$Guess" "firstUnlike" "I", Cond.fieldLink RX3 15 "OverHill$Guess" "lastUnlike" "[I", Cond.fieldLink RX3 21 "OverHill$Guess" "stepsIn" "[I", Cond.fieldLink RX3 65 "OverHill$Dance" "starts" "[I", Cond.fieldLink RX3 68 "OverHill$Dance" "muds" "[I", Cond.fieldLink RX3 18 "OverHill$Guess" "places" "[I", Cond.methodLink RX3 59 yJ7_fill_53178, Cond.static yJ7_fill_53178]
def wsX11_heard_r4 : List Cond := [Cond.initialized RJ7, Cond.code yJ7_fill_53178 cJ7_fill_53178 4 none, Cond.static yX11_wrap, Cond.code yX11_wrap cX11_wrap 2 (some .int), Cond.methodLink RX11 451 yJ9_floorMod_7cf53, Cond.static yJ9_floorMod_7cf53, Cond.initialized RJ9, Cond.code yJ9_floorMod_7cf53 cJ9_floorMod_7cf53 3 (some .int), Cond.methodLink RX11 444 yX7_at, Cond.methodLink RX11 447 yX3_hear, Cond.instanceMethod yX3_hear, Cond.selects RX3 yX3_hear yX3_hear, Cond.code yX3_hear cX3_hear 5 none, Cond.methodLink RX3 78 Lib.Math.min.name, Cond.static Lib.Math.min.name, Cond.initialized "java/lang/Math", Cond.code Lib.Math.min.name Lib.Math.min.code 2 (some .int), Cond.methodLink RX3 83 Lib.Math.max.name, Cond.static Lib.Math.max.name, Cond.code Lib.Math.max.name Lib.Math.max.code 2 (some .int), Cond.methodLink RX3 75 yX3_stepBack, Cond.instanceMethod yX3_stepBack, Cond.selects RX3 yX3_stepBack yX3_stepBack, Cond.code yX3_stepBack cX3_stepBack 3 (some .int)]
def wsX11_heard_r5 : List Cond := [Cond.methodLink RX11 254 yX3_countFits, Cond.instanceMethod yX3_countFits, Cond.selects RX3 yX3_countFits yX3_countFits, Cond.code yX3_countFits cX3_countFits 4 (some .int), Cond.methodLink RX3 86 yX3_fitsWithout, Cond.instanceMethod yX3_fitsWithout, Cond.selects RX3 yX3_fitsWithout yX3_fitsWithout, Cond.code yX3_fitsWithout cX3_fitsWithout 1 (some .boolean), Cond.methodLink RX3 90 yX3_stepsThatFit, Cond.instanceMethod yX3_stepsThatFit, Cond.selects RX3 yX3_stepsThatFit yX3_stepsThatFit, Cond.code yX3_stepsThatFit cX3_stepsThatFit 4 (some .int), Cond.methodLink RX3 93 yJ6_bitCount_0f7a4, Cond.static yJ6_bitCount_0f7a4, Cond.initialized RJ6, Cond.code yJ6_bitCount_0f7a4 cJ6_bitCount_0f7a4 1 (some .int), Cond.constant RJ6 265 (1431655765), Cond.constant RJ6 266 (858993459), Cond.constant RJ6 267 (252645135)]
def wsX11_heard : List Cond := .code yX11_heard cX11_heard 4 (some .int) :: ((wsX11_heard_r1 ++ (wsX11_heard_r2 ++ (wsX11_heard_r3 ++ (wsX11_heard_r4 ++ wsX11_heard_r5)))) ++ wsX110 ++ wsX70 ++ wsX00 ++ wsX30)
def wsX11_first_r1 : List Cond := [Cond.fieldLink RX11 63 "OverHill" "guess" "LOverHill$Guess;", Cond.methodLink RX11 251 yX11_listenTo, Cond.instanceMethod yX11_listenTo, Cond.selects RX11 yX11_listenTo yX11_listenTo, Cond.initialized RX11, Cond.code yX11_listenTo cX11_listenTo 5 (some .int), Cond.fieldLink RX11 24 "OverHill" "now" "LOverHill$Dance;", Cond.fieldLink RX11 98 "OverHill" "slots" "LOverHill$Slots;", Cond.fieldLink RX11 419 "OverHill$Slots" "sizes" "[I", Cond.methodLink RX11 125 yX0_stands, Cond.instanceMethod yX0_stands, Cond.selects RX0 yX0_stands yX0_stands, Cond.initialized RX0, Cond.code yX0_stands cX0_stands 1 (some .boolean), Cond.fieldLink RX0 49 "OverHill$Dance" "lines" "I", Cond.methodLink RX11 129 yX11_isSide, Cond.static yX11_isSide, Cond.code yX11_isSide cX11_isSide 1 (some .boolean), Cond.methodLink RX11 150 yX11_isWithin, Cond.static yX11_isWithin, Cond.code yX11_isWithin cX11_isWithin 2 (some .boolean), Cond.methodLink RX11 438 yX7_refusalOfHeard, Cond.instanceMethod yX7_refusalOfHeard, Cond.selects RX7 yX7_refusalOfHeard yX7_refusalOfHeard]
def wsX11_first_r2 : List Cond := [Cond.initialized RX7, Cond.code yX7_refusalOfHeard cX7_refusalOfHeard 5 (some .int), Cond.fieldLink RX7 15 "OverHill$Slots" "sizes" "[I", Cond.constantLong RX7 47 (199), Cond.methodLink RX7 40 yX7_isSlot, Cond.static yX7_isSlot, Cond.code yX7_isSlot cX7_isSlot 1 (some .boolean), Cond.methodLink RX7 26 yX7_has, Cond.instanceMethod yX7_has, Cond.selects RX7 yX7_has yX7_has, Cond.code yX7_has cX7_has 2 (some .boolean), Cond.methodLink RX7 43 yX7_at, Cond.instanceMethod yX7_at, Cond.selects RX7 yX7_at yX7_at, Cond.code yX7_at cX7_at 3 (some .long), Cond.fieldLink RX7 18 "OverHill$Slots" "numbers" "[J", Cond.methodLink RX7 49 yX7_isBetween, Cond.static yX7_isBetween, Cond.code yX7_isBetween cX7_isBetween 6 (some .boolean), Cond.methodLink RX7 53 yX7_isTold, Cond.static yX7_isTold, Cond.code yX7_isTold cX7_isTold 2 (some .boolean), Cond.constantLong RX7 60 (-1), Cond.constantLong RX7 70 (5)]
def wsX11_first_r3 : List Cond := [Cond.methodLink RX11 441 yX3_begin, Cond.instanceMethod yX3_begin, Cond.selects RX3 yX3_begin yX3_begin, Cond.initialized RX3, Cond.code yX3_begin cX3_begin 6 none, Cond.fieldLink RX3 30 "OverHill$Dance" "gap" "I", Cond.fieldLink RX3 36 "OverHill$Guess" "gap" "I", Cond.fieldLink RX3 37 "OverHill$Dance" "lengths" "[I", Cond.fieldLink RX3 40 "OverHill$Guess" "length" "I", Cond.fieldLink RX3 43 "OverHill$Dance" "steps" "[I", Cond.fieldLink RX3 9 "OverHill$Guess" "round" "[I", Cond.methodLink RX3 46 arraycopyName, Cond.native arraycopyName, Cond.static arraycopyName, Cond.initialized "java/lang/System", Cond.fieldLink RX3 52 "OverHill$Guess" "impossible" "Z", Cond.fieldLink RX3 56 "OverHill$Guess" "firstUnlike" "I", Cond.fieldLink RX3 15 "OverHill$Guess" "lastUnlike" "[I", Cond.fieldLink RX3 21 "OverHill$Guess" "stepsIn" "[I", Cond.fieldLink RX3 65 "OverHill$Dance" "starts" "[I", Cond.fieldLink RX3 68 "OverHill$Dance" "muds" "[I", Cond.fieldLink RX3 18 "OverHill$Guess" "places" "[I", Cond.methodLink RX3 59 yJ7_fill_53178, Cond.static yJ7_fill_53178]
def wsX11_first_r4 : List Cond := [Cond.initialized RJ7, Cond.code yJ7_fill_53178 cJ7_fill_53178 4 none, Cond.static yX11_wrap, Cond.code yX11_wrap cX11_wrap 2 (some .int), Cond.methodLink RX11 451 yJ9_floorMod_7cf53, Cond.static yJ9_floorMod_7cf53, Cond.initialized RJ9, Cond.code yJ9_floorMod_7cf53 cJ9_floorMod_7cf53 3 (some .int), Cond.methodLink RX11 444 yX7_at, Cond.methodLink RX11 447 yX3_hear, Cond.instanceMethod yX3_hear, Cond.selects RX3 yX3_hear yX3_hear, Cond.code yX3_hear cX3_hear 5 none, Cond.methodLink RX3 78 Lib.Math.min.name, Cond.static Lib.Math.min.name, Cond.initialized "java/lang/Math", Cond.code Lib.Math.min.name Lib.Math.min.code 2 (some .int), Cond.methodLink RX3 83 Lib.Math.max.name, Cond.static Lib.Math.max.name, Cond.code Lib.Math.max.name Lib.Math.max.code 2 (some .int), Cond.methodLink RX3 75 yX3_stepBack, Cond.instanceMethod yX3_stepBack, Cond.selects RX3 yX3_stepBack yX3_stepBack, Cond.code yX3_stepBack cX3_stepBack 3 (some .int)]
def wsX11_first_r5 : List Cond := [Cond.methodLink RX11 258 yX3_leastFit, Cond.instanceMethod yX3_leastFit, Cond.selects RX3 yX3_leastFit yX3_leastFit, Cond.code yX3_leastFit cX3_leastFit 4 (some .int), Cond.methodLink RX3 86 yX3_fitsWithout, Cond.instanceMethod yX3_fitsWithout, Cond.selects RX3 yX3_fitsWithout yX3_fitsWithout, Cond.code yX3_fitsWithout cX3_fitsWithout 1 (some .boolean), Cond.methodLink RX3 90 yX3_stepsThatFit, Cond.instanceMethod yX3_stepsThatFit, Cond.selects RX3 yX3_stepsThatFit yX3_stepsThatFit, Cond.code yX3_stepsThatFit cX3_stepsThatFit 4 (some .int)]
def wsX11_first : List Cond := .code yX11_first cX11_first 4 (some .int) :: ((wsX11_first_r1 ++ (wsX11_first_r2 ++ (wsX11_first_r3 ++ (wsX11_first_r4 ++ wsX11_first_r5)))) ++ wsX110 ++ wsX70 ++ wsX00 ++ wsX30)
def wsX11_when_r1 : List Cond := [Cond.fieldLink RX11 63 "OverHill" "guess" "LOverHill$Guess;", Cond.methodLink RX11 251 yX11_listenTo, Cond.instanceMethod yX11_listenTo, Cond.selects RX11 yX11_listenTo yX11_listenTo, Cond.initialized RX11, Cond.code yX11_listenTo cX11_listenTo 5 (some .int), Cond.fieldLink RX11 24 "OverHill" "now" "LOverHill$Dance;", Cond.fieldLink RX11 98 "OverHill" "slots" "LOverHill$Slots;", Cond.fieldLink RX11 419 "OverHill$Slots" "sizes" "[I", Cond.methodLink RX11 125 yX0_stands, Cond.instanceMethod yX0_stands, Cond.selects RX0 yX0_stands yX0_stands, Cond.initialized RX0, Cond.code yX0_stands cX0_stands 1 (some .boolean), Cond.fieldLink RX0 49 "OverHill$Dance" "lines" "I", Cond.methodLink RX11 129 yX11_isSide, Cond.static yX11_isSide, Cond.code yX11_isSide cX11_isSide 1 (some .boolean), Cond.methodLink RX11 150 yX11_isWithin, Cond.static yX11_isWithin, Cond.code yX11_isWithin cX11_isWithin 2 (some .boolean), Cond.methodLink RX11 438 yX7_refusalOfHeard, Cond.instanceMethod yX7_refusalOfHeard, Cond.selects RX7 yX7_refusalOfHeard yX7_refusalOfHeard]
def wsX11_when_r2 : List Cond := [Cond.initialized RX7, Cond.code yX7_refusalOfHeard cX7_refusalOfHeard 5 (some .int), Cond.fieldLink RX7 15 "OverHill$Slots" "sizes" "[I", Cond.constantLong RX7 47 (199), Cond.methodLink RX7 40 yX7_isSlot, Cond.static yX7_isSlot, Cond.code yX7_isSlot cX7_isSlot 1 (some .boolean), Cond.methodLink RX7 26 yX7_has, Cond.instanceMethod yX7_has, Cond.selects RX7 yX7_has yX7_has, Cond.code yX7_has cX7_has 2 (some .boolean), Cond.methodLink RX7 43 yX7_at, Cond.instanceMethod yX7_at, Cond.selects RX7 yX7_at yX7_at, Cond.code yX7_at cX7_at 3 (some .long), Cond.fieldLink RX7 18 "OverHill$Slots" "numbers" "[J", Cond.methodLink RX7 49 yX7_isBetween, Cond.static yX7_isBetween, Cond.code yX7_isBetween cX7_isBetween 6 (some .boolean), Cond.methodLink RX7 53 yX7_isTold, Cond.static yX7_isTold, Cond.code yX7_isTold cX7_isTold 2 (some .boolean), Cond.constantLong RX7 60 (-1), Cond.constantLong RX7 70 (5)]
def wsX11_when_r3 : List Cond := [Cond.methodLink RX11 441 yX3_begin, Cond.instanceMethod yX3_begin, Cond.selects RX3 yX3_begin yX3_begin, Cond.initialized RX3, Cond.code yX3_begin cX3_begin 6 none, Cond.fieldLink RX3 30 "OverHill$Dance" "gap" "I", Cond.fieldLink RX3 36 "OverHill$Guess" "gap" "I", Cond.fieldLink RX3 37 "OverHill$Dance" "lengths" "[I", Cond.fieldLink RX3 40 "OverHill$Guess" "length" "I", Cond.fieldLink RX3 43 "OverHill$Dance" "steps" "[I", Cond.fieldLink RX3 9 "OverHill$Guess" "round" "[I", Cond.methodLink RX3 46 arraycopyName, Cond.native arraycopyName, Cond.static arraycopyName, Cond.initialized "java/lang/System", Cond.fieldLink RX3 52 "OverHill$Guess" "impossible" "Z", Cond.fieldLink RX3 56 "OverHill$Guess" "firstUnlike" "I", Cond.fieldLink RX3 15 "OverHill$Guess" "lastUnlike" "[I", Cond.fieldLink RX3 21 "OverHill$Guess" "stepsIn" "[I", Cond.fieldLink RX3 65 "OverHill$Dance" "starts" "[I", Cond.fieldLink RX3 68 "OverHill$Dance" "muds" "[I", Cond.fieldLink RX3 18 "OverHill$Guess" "places" "[I", Cond.methodLink RX3 59 yJ7_fill_53178, Cond.static yJ7_fill_53178]
def wsX11_when_r4 : List Cond := [Cond.initialized RJ7, Cond.code yJ7_fill_53178 cJ7_fill_53178 4 none, Cond.static yX11_wrap, Cond.code yX11_wrap cX11_wrap 2 (some .int), Cond.methodLink RX11 451 yJ9_floorMod_7cf53, Cond.static yJ9_floorMod_7cf53, Cond.initialized RJ9, Cond.code yJ9_floorMod_7cf53 cJ9_floorMod_7cf53 3 (some .int), Cond.methodLink RX11 444 yX7_at, Cond.methodLink RX11 447 yX3_hear, Cond.instanceMethod yX3_hear, Cond.selects RX3 yX3_hear yX3_hear, Cond.code yX3_hear cX3_hear 5 none, Cond.methodLink RX3 78 Lib.Math.min.name, Cond.static Lib.Math.min.name, Cond.initialized "java/lang/Math", Cond.code Lib.Math.min.name Lib.Math.min.code 2 (some .int), Cond.methodLink RX3 83 Lib.Math.max.name, Cond.static Lib.Math.max.name, Cond.code Lib.Math.max.name Lib.Math.max.code 2 (some .int), Cond.methodLink RX3 75 yX3_stepBack, Cond.instanceMethod yX3_stepBack, Cond.selects RX3 yX3_stepBack yX3_stepBack, Cond.code yX3_stepBack cX3_stepBack 3 (some .int)]
def wsX11_when_r5 : List Cond := [Cond.methodLink RX11 261 yX3_beatsOfFits, Cond.instanceMethod yX3_beatsOfFits, Cond.selects RX3 yX3_beatsOfFits yX3_beatsOfFits, Cond.code yX3_beatsOfFits cX3_beatsOfFits 5 (some .long), Cond.methodLink RX3 90 yX3_stepsThatFit, Cond.instanceMethod yX3_stepsThatFit, Cond.selects RX3 yX3_stepsThatFit yX3_stepsThatFit, Cond.code yX3_stepsThatFit cX3_stepsThatFit 4 (some .int), Cond.methodLink RX3 86 yX3_fitsWithout, Cond.instanceMethod yX3_fitsWithout, Cond.selects RX3 yX3_fitsWithout yX3_fitsWithout, Cond.code yX3_fitsWithout cX3_fitsWithout 1 (some .boolean)]
def wsX11_when : List Cond := .code yX11_when cX11_when 4 (some .long) :: ((wsX11_when_r1 ++ (wsX11_when_r2 ++ (wsX11_when_r3 ++ (wsX11_when_r4 ++ wsX11_when_r5)))) ++ wsX110 ++ wsX70 ++ wsX00 ++ wsX30)
def wsX11_listen_r1 : List Cond := [Cond.fieldLink RX11 63 "OverHill" "guess" "LOverHill$Guess;", Cond.fieldLink RX11 268 "OverHill$Guess" "bestBeat" "I", Cond.methodLink RX11 251 yX11_listenTo, Cond.instanceMethod yX11_listenTo, Cond.selects RX11 yX11_listenTo yX11_listenTo, Cond.initialized RX11, Cond.code yX11_listenTo cX11_listenTo 5 (some .int), Cond.fieldLink RX11 24 "OverHill" "now" "LOverHill$Dance;", Cond.fieldLink RX11 98 "OverHill" "slots" "LOverHill$Slots;", Cond.fieldLink RX11 419 "OverHill$Slots" "sizes" "[I", Cond.methodLink RX11 125 yX0_stands, Cond.instanceMethod yX0_stands, Cond.selects RX0 yX0_stands yX0_stands, Cond.initialized RX0, Cond.code yX0_stands cX0_stands 1 (some .boolean), Cond.fieldLink RX0 49 "OverHill$Dance" "lines" "I", Cond.methodLink RX11 129 yX11_isSide, Cond.static yX11_isSide, Cond.code yX11_isSide cX11_isSide 1 (some .boolean), Cond.methodLink RX11 150 yX11_isWithin, Cond.static yX11_isWithin, Cond.code yX11_isWithin cX11_isWithin 2 (some .boolean), Cond.methodLink RX11 438 yX7_refusalOfHeard, Cond.instanceMethod yX7_refusalOfHeard]
def wsX11_listen_r2 : List Cond := [Cond.selects RX7 yX7_refusalOfHeard yX7_refusalOfHeard, Cond.initialized RX7, Cond.code yX7_refusalOfHeard cX7_refusalOfHeard 5 (some .int), Cond.fieldLink RX7 15 "OverHill$Slots" "sizes" "[I", Cond.constantLong RX7 47 (199), Cond.methodLink RX7 40 yX7_isSlot, Cond.static yX7_isSlot, Cond.code yX7_isSlot cX7_isSlot 1 (some .boolean), Cond.methodLink RX7 26 yX7_has, Cond.instanceMethod yX7_has, Cond.selects RX7 yX7_has yX7_has, Cond.code yX7_has cX7_has 2 (some .boolean), Cond.methodLink RX7 43 yX7_at, Cond.instanceMethod yX7_at, Cond.selects RX7 yX7_at yX7_at, Cond.code yX7_at cX7_at 3 (some .long), Cond.fieldLink RX7 18 "OverHill$Slots" "numbers" "[J", Cond.methodLink RX7 49 yX7_isBetween, Cond.static yX7_isBetween, Cond.code yX7_isBetween cX7_isBetween 6 (some .boolean), Cond.methodLink RX7 53 yX7_isTold, Cond.static yX7_isTold, Cond.code yX7_isTold cX7_isTold 2 (some .boolean), Cond.constantLong RX7 60 (-1)]
def wsX11_listen_r3 : List Cond := [Cond.constantLong RX7 70 (5), Cond.methodLink RX11 441 yX3_begin, Cond.instanceMethod yX3_begin, Cond.selects RX3 yX3_begin yX3_begin, Cond.initialized RX3, Cond.code yX3_begin cX3_begin 6 none, Cond.fieldLink RX3 30 "OverHill$Dance" "gap" "I", Cond.fieldLink RX3 36 "OverHill$Guess" "gap" "I", Cond.fieldLink RX3 37 "OverHill$Dance" "lengths" "[I", Cond.fieldLink RX3 40 "OverHill$Guess" "length" "I", Cond.fieldLink RX3 43 "OverHill$Dance" "steps" "[I", Cond.fieldLink RX3 9 "OverHill$Guess" "round" "[I", Cond.methodLink RX3 46 arraycopyName, Cond.native arraycopyName, Cond.static arraycopyName, Cond.initialized "java/lang/System", Cond.fieldLink RX3 52 "OverHill$Guess" "impossible" "Z", Cond.fieldLink RX3 56 "OverHill$Guess" "firstUnlike" "I", Cond.fieldLink RX3 15 "OverHill$Guess" "lastUnlike" "[I", Cond.fieldLink RX3 21 "OverHill$Guess" "stepsIn" "[I", Cond.fieldLink RX3 65 "OverHill$Dance" "starts" "[I", Cond.fieldLink RX3 68 "OverHill$Dance" "muds" "[I", Cond.fieldLink RX3 18 "OverHill$Guess" "places" "[I", Cond.methodLink RX3 59 yJ7_fill_53178]
def wsX11_listen_r4 : List Cond := [Cond.static yJ7_fill_53178, Cond.initialized RJ7, Cond.code yJ7_fill_53178 cJ7_fill_53178 4 none, Cond.static yX11_wrap, Cond.code yX11_wrap cX11_wrap 2 (some .int), Cond.methodLink RX11 451 yJ9_floorMod_7cf53, Cond.static yJ9_floorMod_7cf53, Cond.initialized RJ9, Cond.code yJ9_floorMod_7cf53 cJ9_floorMod_7cf53 3 (some .int), Cond.methodLink RX11 444 yX7_at, Cond.methodLink RX11 447 yX3_hear, Cond.instanceMethod yX3_hear, Cond.selects RX3 yX3_hear yX3_hear, Cond.code yX3_hear cX3_hear 5 none, Cond.methodLink RX3 78 Lib.Math.min.name, Cond.static Lib.Math.min.name, Cond.initialized "java/lang/Math", Cond.code Lib.Math.min.name Lib.Math.min.code 2 (some .int), Cond.methodLink RX3 83 Lib.Math.max.name, Cond.static Lib.Math.max.name, Cond.code Lib.Math.max.name Lib.Math.max.code 2 (some .int), Cond.methodLink RX3 75 yX3_stepBack, Cond.instanceMethod yX3_stepBack, Cond.selects RX3 yX3_stepBack yX3_stepBack]
def wsX11_listen_r5 : List Cond := [Cond.code yX3_stepBack cX3_stepBack 3 (some .int), Cond.methodLink RX11 265 yX3_findBeat, Cond.instanceMethod yX3_findBeat, Cond.selects RX3 yX3_findBeat yX3_findBeat, Cond.code yX3_findBeat cX3_findBeat 5 none, Cond.fieldLink RX3 103 "OverHill$Guess" "bestBeat" "I", Cond.fieldLink RX3 106 "OverHill$Guess" "bestLeft" "I", Cond.fieldLink RX3 24 "OverHill$Guess" "passed" "[I", Cond.methodLink RX3 99 yX3_countFits, Cond.instanceMethod yX3_countFits, Cond.selects RX3 yX3_countFits yX3_countFits, Cond.code yX3_countFits cX3_countFits 4 (some .int), Cond.methodLink RX3 86 yX3_fitsWithout, Cond.instanceMethod yX3_fitsWithout, Cond.selects RX3 yX3_fitsWithout yX3_fitsWithout, Cond.code yX3_fitsWithout cX3_fitsWithout 1 (some .boolean), Cond.methodLink RX3 90 yX3_stepsThatFit, Cond.instanceMethod yX3_stepsThatFit, Cond.selects RX3 yX3_stepsThatFit yX3_stepsThatFit, Cond.code yX3_stepsThatFit cX3_stepsThatFit 4 (some .int), Cond.methodLink RX3 93 yJ6_bitCount_0f7a4, Cond.static yJ6_bitCount_0f7a4, Cond.initialized RJ6, Cond.code yJ6_bitCount_0f7a4 cJ6_bitCount_0f7a4 1 (some .int)]
def wsX11_listen_r6 : List Cond := [Cond.constant RJ6 265 (1431655765), Cond.constant RJ6 266 (858993459), Cond.constant RJ6 267 (252645135), Cond.methodLink RX3 109 yX3_mostAlike, Cond.instanceMethod yX3_mostAlike, Cond.selects RX3 yX3_mostAlike yX3_mostAlike, Cond.code yX3_mostAlike cX3_mostAlike 7 (some .int), Cond.fieldLink RX3 27 "OverHill$Guess" "classes" "[I", Cond.methodLink RX3 112 yX3_pass, Cond.instanceMethod yX3_pass, Cond.selects RX3 yX3_pass yX3_pass, Cond.code yX3_pass cX3_pass 3 none]
def wsX11_listen : List Cond := .code yX11_listen cX11_listen 4 (some .int) :: ((wsX11_listen_r1 ++ (wsX11_listen_r2 ++ (wsX11_listen_r3 ++ (wsX11_listen_r4 ++ (wsX11_listen_r5 ++ wsX11_listen_r6))))) ++ wsX110 ++ wsX30 ++ wsX70 ++ wsX00)
def wsX11_leaves_r1 : List Cond := [Cond.fieldLink RX11 63 "OverHill" "guess" "LOverHill$Guess;", Cond.fieldLink RX11 271 "OverHill$Guess" "bestLeft" "I", Cond.methodLink RX11 251 yX11_listenTo, Cond.instanceMethod yX11_listenTo, Cond.selects RX11 yX11_listenTo yX11_listenTo, Cond.initialized RX11, Cond.code yX11_listenTo cX11_listenTo 5 (some .int), Cond.fieldLink RX11 24 "OverHill" "now" "LOverHill$Dance;", Cond.fieldLink RX11 98 "OverHill" "slots" "LOverHill$Slots;", Cond.fieldLink RX11 419 "OverHill$Slots" "sizes" "[I", Cond.methodLink RX11 125 yX0_stands, Cond.instanceMethod yX0_stands, Cond.selects RX0 yX0_stands yX0_stands, Cond.initialized RX0, Cond.code yX0_stands cX0_stands 1 (some .boolean), Cond.fieldLink RX0 49 "OverHill$Dance" "lines" "I", Cond.methodLink RX11 129 yX11_isSide, Cond.static yX11_isSide, Cond.code yX11_isSide cX11_isSide 1 (some .boolean), Cond.methodLink RX11 150 yX11_isWithin, Cond.static yX11_isWithin, Cond.code yX11_isWithin cX11_isWithin 2 (some .boolean), Cond.methodLink RX11 438 yX7_refusalOfHeard, Cond.instanceMethod yX7_refusalOfHeard]
def wsX11_leaves_r2 : List Cond := [Cond.selects RX7 yX7_refusalOfHeard yX7_refusalOfHeard, Cond.initialized RX7, Cond.code yX7_refusalOfHeard cX7_refusalOfHeard 5 (some .int), Cond.fieldLink RX7 15 "OverHill$Slots" "sizes" "[I", Cond.constantLong RX7 47 (199), Cond.methodLink RX7 40 yX7_isSlot, Cond.static yX7_isSlot, Cond.code yX7_isSlot cX7_isSlot 1 (some .boolean), Cond.methodLink RX7 26 yX7_has, Cond.instanceMethod yX7_has, Cond.selects RX7 yX7_has yX7_has, Cond.code yX7_has cX7_has 2 (some .boolean), Cond.methodLink RX7 43 yX7_at, Cond.instanceMethod yX7_at, Cond.selects RX7 yX7_at yX7_at, Cond.code yX7_at cX7_at 3 (some .long), Cond.fieldLink RX7 18 "OverHill$Slots" "numbers" "[J", Cond.methodLink RX7 49 yX7_isBetween, Cond.static yX7_isBetween, Cond.code yX7_isBetween cX7_isBetween 6 (some .boolean), Cond.methodLink RX7 53 yX7_isTold, Cond.static yX7_isTold, Cond.code yX7_isTold cX7_isTold 2 (some .boolean), Cond.constantLong RX7 60 (-1)]
def wsX11_leaves_r3 : List Cond := [Cond.constantLong RX7 70 (5), Cond.methodLink RX11 441 yX3_begin, Cond.instanceMethod yX3_begin, Cond.selects RX3 yX3_begin yX3_begin, Cond.initialized RX3, Cond.code yX3_begin cX3_begin 6 none, Cond.fieldLink RX3 30 "OverHill$Dance" "gap" "I", Cond.fieldLink RX3 36 "OverHill$Guess" "gap" "I", Cond.fieldLink RX3 37 "OverHill$Dance" "lengths" "[I", Cond.fieldLink RX3 40 "OverHill$Guess" "length" "I", Cond.fieldLink RX3 43 "OverHill$Dance" "steps" "[I", Cond.fieldLink RX3 9 "OverHill$Guess" "round" "[I", Cond.methodLink RX3 46 arraycopyName, Cond.native arraycopyName, Cond.static arraycopyName, Cond.initialized "java/lang/System", Cond.fieldLink RX3 52 "OverHill$Guess" "impossible" "Z", Cond.fieldLink RX3 56 "OverHill$Guess" "firstUnlike" "I", Cond.fieldLink RX3 15 "OverHill$Guess" "lastUnlike" "[I", Cond.fieldLink RX3 21 "OverHill$Guess" "stepsIn" "[I", Cond.fieldLink RX3 65 "OverHill$Dance" "starts" "[I", Cond.fieldLink RX3 68 "OverHill$Dance" "muds" "[I", Cond.fieldLink RX3 18 "OverHill$Guess" "places" "[I", Cond.methodLink RX3 59 yJ7_fill_53178]
def wsX11_leaves_r4 : List Cond := [Cond.static yJ7_fill_53178, Cond.initialized RJ7, Cond.code yJ7_fill_53178 cJ7_fill_53178 4 none, Cond.static yX11_wrap, Cond.code yX11_wrap cX11_wrap 2 (some .int), Cond.methodLink RX11 451 yJ9_floorMod_7cf53, Cond.static yJ9_floorMod_7cf53, Cond.initialized RJ9, Cond.code yJ9_floorMod_7cf53 cJ9_floorMod_7cf53 3 (some .int), Cond.methodLink RX11 444 yX7_at, Cond.methodLink RX11 447 yX3_hear, Cond.instanceMethod yX3_hear, Cond.selects RX3 yX3_hear yX3_hear, Cond.code yX3_hear cX3_hear 5 none, Cond.methodLink RX3 78 Lib.Math.min.name, Cond.static Lib.Math.min.name, Cond.initialized "java/lang/Math", Cond.code Lib.Math.min.name Lib.Math.min.code 2 (some .int), Cond.methodLink RX3 83 Lib.Math.max.name, Cond.static Lib.Math.max.name, Cond.code Lib.Math.max.name Lib.Math.max.code 2 (some .int), Cond.methodLink RX3 75 yX3_stepBack, Cond.instanceMethod yX3_stepBack, Cond.selects RX3 yX3_stepBack yX3_stepBack]
def wsX11_leaves_r5 : List Cond := [Cond.code yX3_stepBack cX3_stepBack 3 (some .int), Cond.methodLink RX11 265 yX3_findBeat, Cond.instanceMethod yX3_findBeat, Cond.selects RX3 yX3_findBeat yX3_findBeat, Cond.code yX3_findBeat cX3_findBeat 5 none, Cond.fieldLink RX3 103 "OverHill$Guess" "bestBeat" "I", Cond.fieldLink RX3 106 "OverHill$Guess" "bestLeft" "I", Cond.fieldLink RX3 24 "OverHill$Guess" "passed" "[I", Cond.methodLink RX3 99 yX3_countFits, Cond.instanceMethod yX3_countFits, Cond.selects RX3 yX3_countFits yX3_countFits, Cond.code yX3_countFits cX3_countFits 4 (some .int), Cond.methodLink RX3 86 yX3_fitsWithout, Cond.instanceMethod yX3_fitsWithout, Cond.selects RX3 yX3_fitsWithout yX3_fitsWithout, Cond.code yX3_fitsWithout cX3_fitsWithout 1 (some .boolean), Cond.methodLink RX3 90 yX3_stepsThatFit, Cond.instanceMethod yX3_stepsThatFit, Cond.selects RX3 yX3_stepsThatFit yX3_stepsThatFit, Cond.code yX3_stepsThatFit cX3_stepsThatFit 4 (some .int), Cond.methodLink RX3 93 yJ6_bitCount_0f7a4, Cond.static yJ6_bitCount_0f7a4, Cond.initialized RJ6, Cond.code yJ6_bitCount_0f7a4 cJ6_bitCount_0f7a4 1 (some .int)]
def wsX11_leaves_r6 : List Cond := [Cond.constant RJ6 265 (1431655765), Cond.constant RJ6 266 (858993459), Cond.constant RJ6 267 (252645135), Cond.methodLink RX3 109 yX3_mostAlike, Cond.instanceMethod yX3_mostAlike, Cond.selects RX3 yX3_mostAlike yX3_mostAlike, Cond.code yX3_mostAlike cX3_mostAlike 7 (some .int), Cond.fieldLink RX3 27 "OverHill$Guess" "classes" "[I", Cond.methodLink RX3 112 yX3_pass, Cond.instanceMethod yX3_pass, Cond.selects RX3 yX3_pass yX3_pass, Cond.code yX3_pass cX3_pass 3 none]
def wsX11_leaves : List Cond := .code yX11_leaves cX11_leaves 4 (some .int) :: ((wsX11_leaves_r1 ++ (wsX11_leaves_r2 ++ (wsX11_leaves_r3 ++ (wsX11_leaves_r4 ++ (wsX11_leaves_r5 ++ wsX11_leaves_r6))))) ++ wsX110 ++ wsX30 ++ wsX70 ++ wsX00)
def wsX11_crosses_r1 : List Cond := [Cond.fieldLink RX11 24 "OverHill" "now" "LOverHill$Dance;", Cond.fieldLink RX11 70 "OverHill" "wood" "LOverHill$Wood;", Cond.methodLink RX11 125 yX0_stands, Cond.instanceMethod yX0_stands, Cond.selects RX0 yX0_stands yX0_stands, Cond.initialized RX0, Cond.code yX0_stands cX0_stands 1 (some .boolean), Cond.fieldLink RX0 49 "OverHill$Dance" "lines" "I", Cond.methodLink RX11 156 yX11_isBeat, Cond.static yX11_isBeat, Cond.initialized RX11, Cond.code yX11_isBeat cX11_isBeat 1 (some .boolean), Cond.methodLink RX11 150 yX11_isWithin, Cond.static yX11_isWithin, Cond.code yX11_isWithin cX11_isWithin 2 (some .boolean), Cond.methodLink RX11 274 yX10_through, Cond.instanceMethod yX10_through, Cond.selects RX10 yX10_through yX10_through, Cond.initialized RX10, Cond.code yX10_through cX10_through 9 (some .int), Cond.fieldLink RX10 15 "OverHill$Dance" "cellCount" "I", Cond.fieldLink RX10 21 "OverHill$Dance" "cells" "[I", Cond.fieldLink RX10 9 "OverHill$Wood" "arrivals" "[I", Cond.static yX11_wrap]
def wsX11_crosses_r2 : List Cond := [Cond.code yX11_wrap cX11_wrap 2 (some .int), Cond.methodLink RX11 451 yJ9_floorMod_7cf53, Cond.static yJ9_floorMod_7cf53, Cond.initialized RJ9, Cond.code yJ9_floorMod_7cf53 cJ9_floorMod_7cf53 3 (some .int)]
def wsX11_crosses : List Cond := .code yX11_crosses cX11_crosses 2 (some .int) :: ((wsX11_crosses_r1 ++ wsX11_crosses_r2) ++ wsX110 ++ wsX00 ++ wsX100)
def wsX11_returns_r1 : List Cond := [Cond.fieldLink RX11 24 "OverHill" "now" "LOverHill$Dance;", Cond.fieldLink RX11 70 "OverHill" "wood" "LOverHill$Wood;", Cond.methodLink RX11 125 yX0_stands, Cond.instanceMethod yX0_stands, Cond.selects RX0 yX0_stands yX0_stands, Cond.initialized RX0, Cond.code yX0_stands cX0_stands 1 (some .boolean), Cond.fieldLink RX0 49 "OverHill$Dance" "lines" "I", Cond.methodLink RX11 156 yX11_isBeat, Cond.static yX11_isBeat, Cond.initialized RX11, Cond.code yX11_isBeat cX11_isBeat 1 (some .boolean), Cond.methodLink RX11 150 yX11_isWithin, Cond.static yX11_isWithin, Cond.code yX11_isWithin cX11_isWithin 2 (some .boolean), Cond.methodLink RX11 274 yX10_through, Cond.instanceMethod yX10_through, Cond.selects RX10 yX10_through yX10_through, Cond.initialized RX10, Cond.code yX10_through cX10_through 9 (some .int), Cond.fieldLink RX10 15 "OverHill$Dance" "cellCount" "I", Cond.fieldLink RX10 21 "OverHill$Dance" "cells" "[I", Cond.fieldLink RX10 9 "OverHill$Wood" "arrivals" "[I", Cond.static yX11_wrap]
def wsX11_returns_r2 : List Cond := [Cond.code yX11_wrap cX11_wrap 2 (some .int), Cond.methodLink RX11 451 yJ9_floorMod_7cf53, Cond.static yJ9_floorMod_7cf53, Cond.initialized RJ9, Cond.code yJ9_floorMod_7cf53 cJ9_floorMod_7cf53 3 (some .int)]
def wsX11_returns : List Cond := .code yX11_returns cX11_returns 2 (some .int) :: ((wsX11_returns_r1 ++ wsX11_returns_r2) ++ wsX110 ++ wsX00 ++ wsX100)
def wsX11_meet_r1 : List Cond := [Cond.fieldLink RX11 24 "OverHill" "now" "LOverHill$Dance;", Cond.fieldLink RX11 70 "OverHill" "wood" "LOverHill$Wood;", Cond.fieldLink RX11 280 "OverHill$Wood" "meetingBeat" "I", Cond.methodLink RX11 125 yX0_stands, Cond.instanceMethod yX0_stands, Cond.selects RX0 yX0_stands yX0_stands, Cond.initialized RX0, Cond.code yX0_stands cX0_stands 1 (some .boolean), Cond.fieldLink RX0 49 "OverHill$Dance" "lines" "I", Cond.methodLink RX11 156 yX11_isBeat, Cond.static yX11_isBeat, Cond.initialized RX11, Cond.code yX11_isBeat cX11_isBeat 1 (some .boolean), Cond.methodLink RX11 150 yX11_isWithin, Cond.static yX11_isWithin, Cond.code yX11_isWithin cX11_isWithin 2 (some .boolean), Cond.methodLink RX11 277 yX10_findMeeting, Cond.instanceMethod yX10_findMeeting, Cond.selects RX10 yX10_findMeeting yX10_findMeeting, Cond.initialized RX10, Cond.code yX10_findMeeting cX10_findMeeting 6 none, Cond.fieldLink RX10 32 "OverHill$Wood" "meetingBeat" "I", Cond.fieldLink RX10 35 "OverHill$Wood" "meetingCell" "I", Cond.fieldLink RX10 15 "OverHill$Dance" "cellCount" "I"]
def wsX11_meet_r2 : List Cond := [Cond.fieldLink RX10 9 "OverHill$Wood" "arrivals" "[I", Cond.methodLink RX10 38 Lib.Math.max.name, Cond.static Lib.Math.max.name, Cond.initialized "java/lang/Math", Cond.code Lib.Math.max.name Lib.Math.max.code 2 (some .int), Cond.methodLink RX10 28 yX10_through, Cond.instanceMethod yX10_through, Cond.selects RX10 yX10_through yX10_through, Cond.code yX10_through cX10_through 9 (some .int), Cond.fieldLink RX10 21 "OverHill$Dance" "cells" "[I", Cond.static yX11_wrap, Cond.code yX11_wrap cX11_wrap 2 (some .int), Cond.methodLink RX11 451 yJ9_floorMod_7cf53, Cond.static yJ9_floorMod_7cf53, Cond.initialized RJ9, Cond.code yJ9_floorMod_7cf53 cJ9_floorMod_7cf53 3 (some .int)]
def wsX11_meet : List Cond := .code yX11_meet cX11_meet 3 (some .int) :: ((wsX11_meet_r1 ++ wsX11_meet_r2) ++ wsX110 ++ wsX100 ++ wsX00)
def wsX11_cell_r1 : List Cond := [Cond.fieldLink RX11 24 "OverHill" "now" "LOverHill$Dance;", Cond.fieldLink RX11 70 "OverHill" "wood" "LOverHill$Wood;", Cond.fieldLink RX11 283 "OverHill$Wood" "meetingCell" "I", Cond.methodLink RX11 125 yX0_stands, Cond.instanceMethod yX0_stands, Cond.selects RX0 yX0_stands yX0_stands, Cond.initialized RX0, Cond.code yX0_stands cX0_stands 1 (some .boolean), Cond.fieldLink RX0 49 "OverHill$Dance" "lines" "I", Cond.methodLink RX11 156 yX11_isBeat, Cond.static yX11_isBeat, Cond.initialized RX11, Cond.code yX11_isBeat cX11_isBeat 1 (some .boolean), Cond.methodLink RX11 150 yX11_isWithin, Cond.static yX11_isWithin, Cond.code yX11_isWithin cX11_isWithin 2 (some .boolean), Cond.methodLink RX11 277 yX10_findMeeting, Cond.instanceMethod yX10_findMeeting, Cond.selects RX10 yX10_findMeeting yX10_findMeeting, Cond.initialized RX10, Cond.code yX10_findMeeting cX10_findMeeting 6 none, Cond.fieldLink RX10 32 "OverHill$Wood" "meetingBeat" "I", Cond.fieldLink RX10 35 "OverHill$Wood" "meetingCell" "I", Cond.fieldLink RX10 15 "OverHill$Dance" "cellCount" "I"]
def wsX11_cell_r2 : List Cond := [Cond.fieldLink RX10 9 "OverHill$Wood" "arrivals" "[I", Cond.methodLink RX10 38 Lib.Math.max.name, Cond.static Lib.Math.max.name, Cond.initialized "java/lang/Math", Cond.code Lib.Math.max.name Lib.Math.max.code 2 (some .int), Cond.methodLink RX10 28 yX10_through, Cond.instanceMethod yX10_through, Cond.selects RX10 yX10_through yX10_through, Cond.code yX10_through cX10_through 9 (some .int), Cond.fieldLink RX10 21 "OverHill$Dance" "cells" "[I", Cond.static yX11_wrap, Cond.code yX11_wrap cX11_wrap 2 (some .int), Cond.methodLink RX11 451 yJ9_floorMod_7cf53, Cond.static yJ9_floorMod_7cf53, Cond.initialized RJ9, Cond.code yJ9_floorMod_7cf53 cJ9_floorMod_7cf53 3 (some .int)]
def wsX11_cell : List Cond := .code yX11_cell cX11_cell 3 (some .int) :: ((wsX11_cell_r1 ++ wsX11_cell_r2) ++ wsX110 ++ wsX100 ++ wsX00)
def wsX11_longest_r1 : List Cond := [Cond.fieldLink RX11 24 "OverHill" "now" "LOverHill$Dance;", Cond.fieldLink RX11 70 "OverHill" "wood" "LOverHill$Wood;", Cond.methodLink RX11 125 yX0_stands, Cond.instanceMethod yX0_stands, Cond.selects RX0 yX0_stands yX0_stands, Cond.initialized RX0, Cond.code yX0_stands cX0_stands 1 (some .boolean), Cond.fieldLink RX0 49 "OverHill$Dance" "lines" "I", Cond.methodLink RX11 286 yX10_slowest, Cond.instanceMethod yX10_slowest, Cond.selects RX10 yX10_slowest yX10_slowest, Cond.initialized RX10, Cond.code yX10_slowest cX10_slowest 4 (some .int), Cond.methodLink RX10 38 Lib.Math.max.name, Cond.static Lib.Math.max.name, Cond.initialized "java/lang/Math", Cond.code Lib.Math.max.name Lib.Math.max.code 2 (some .int), Cond.methodLink RX10 28 yX10_through, Cond.instanceMethod yX10_through, Cond.selects RX10 yX10_through yX10_through, Cond.code yX10_through cX10_through 9 (some .int), Cond.fieldLink RX10 15 "OverHill$Dance" "cellCount" "I", Cond.fieldLink RX10 21 "OverHill$Dance" "cells" "[I", Cond.fieldLink RX10 9 "OverHill$Wood" "arrivals" "[I"]
def wsX11_longest_r2 : List Cond := [Cond.static yX11_wrap, Cond.initialized RX11, Cond.code yX11_wrap cX11_wrap 2 (some .int), Cond.methodLink RX11 451 yJ9_floorMod_7cf53, Cond.static yJ9_floorMod_7cf53, Cond.initialized RJ9, Cond.code yJ9_floorMod_7cf53 cJ9_floorMod_7cf53 3 (some .int)]
def wsX11_longest : List Cond := .code yX11_longest cX11_longest 1 (some .int) :: ((wsX11_longest_r1 ++ wsX11_longest_r2) ++ wsX110 ++ wsX00 ++ wsX100)
def wsX11_half_r1 : List Cond := [Cond.fieldLink RX11 98 "OverHill" "slots" "LOverHill$Slots;", Cond.methodLink RX11 289 yX7_refusalOfSteps, Cond.instanceMethod yX7_refusalOfSteps, Cond.selects RX7 yX7_refusalOfSteps yX7_refusalOfSteps, Cond.initialized RX7, Cond.code yX7_refusalOfSteps cX7_refusalOfSteps 3 (some .int), Cond.fieldLink RX7 15 "OverHill$Slots" "sizes" "[I", Cond.methodLink RX7 40 yX7_isSlot, Cond.static yX7_isSlot, Cond.code yX7_isSlot cX7_isSlot 1 (some .boolean), Cond.static yX11_isWithin, Cond.initialized RX11, Cond.code yX11_isWithin cX11_isWithin 2 (some .boolean), Cond.methodLink RX7 26 yX7_has, Cond.instanceMethod yX7_has, Cond.selects RX7 yX7_has yX7_has, Cond.code yX7_has cX7_has 2 (some .boolean), Cond.methodLink RX7 43 yX7_at, Cond.instanceMethod yX7_at, Cond.selects RX7 yX7_at yX7_at, Cond.code yX7_at cX7_at 3 (some .long), Cond.fieldLink RX7 18 "OverHill$Slots" "numbers" "[J", Cond.methodLink RX7 53 yX7_isTold, Cond.static yX7_isTold]
def wsX11_half_r2 : List Cond := [Cond.code yX7_isTold cX7_isTold 2 (some .boolean), Cond.constantLong RX7 60 (-1), Cond.constantLong RX7 70 (5), Cond.methodLink RX7 49 yX7_isBetween, Cond.static yX7_isBetween, Cond.code yX7_isBetween cX7_isBetween 6 (some .boolean), Cond.methodLink RX11 293 yX7_shortest, Cond.instanceMethod yX7_shortest, Cond.selects RX7 yX7_shortest yX7_shortest, Cond.code yX7_shortest cX7_shortest 3 (some .int), Cond.methodLink RX7 57 yX7_goesRound, Cond.instanceMethod yX7_goesRound, Cond.selects RX7 yX7_goesRound yX7_goesRound, Cond.code yX7_goesRound cX7_goesRound 6 (some .boolean), Cond.static yX11_wrap, Cond.code yX11_wrap cX11_wrap 2 (some .int), Cond.methodLink RX11 451 yJ9_floorMod_7cf53, Cond.static yJ9_floorMod_7cf53, Cond.initialized RJ9, Cond.code yJ9_floorMod_7cf53 cJ9_floorMod_7cf53 3 (some .int), Cond.methodLink RX7 62 yX7_told, Cond.instanceMethod yX7_told, Cond.selects RX7 yX7_told yX7_told, Cond.code yX7_told cX7_told 5 (some .int)]
def wsX11_half : List Cond := .code yX11_half cX11_half 3 (some .int) :: ((wsX11_half_r1 ++ wsX11_half_r2) ++ wsX110 ++ wsX70)
def wsX11_fills_r1 : List Cond := [Cond.fieldLink RX11 98 "OverHill" "slots" "LOverHill$Slots;", Cond.methodLink RX11 289 yX7_refusalOfSteps, Cond.instanceMethod yX7_refusalOfSteps, Cond.selects RX7 yX7_refusalOfSteps yX7_refusalOfSteps, Cond.initialized RX7, Cond.code yX7_refusalOfSteps cX7_refusalOfSteps 3 (some .int), Cond.fieldLink RX7 15 "OverHill$Slots" "sizes" "[I", Cond.methodLink RX7 40 yX7_isSlot, Cond.static yX7_isSlot, Cond.code yX7_isSlot cX7_isSlot 1 (some .boolean), Cond.static yX11_isWithin, Cond.initialized RX11, Cond.code yX11_isWithin cX11_isWithin 2 (some .boolean), Cond.methodLink RX7 26 yX7_has, Cond.instanceMethod yX7_has, Cond.selects RX7 yX7_has yX7_has, Cond.code yX7_has cX7_has 2 (some .boolean), Cond.methodLink RX7 43 yX7_at, Cond.instanceMethod yX7_at, Cond.selects RX7 yX7_at yX7_at, Cond.code yX7_at cX7_at 3 (some .long), Cond.fieldLink RX7 18 "OverHill$Slots" "numbers" "[J", Cond.methodLink RX7 53 yX7_isTold, Cond.static yX7_isTold]
def wsX11_fills_r2 : List Cond := [Cond.code yX7_isTold cX7_isTold 2 (some .boolean), Cond.constantLong RX7 60 (-1), Cond.constantLong RX7 70 (5), Cond.methodLink RX7 49 yX7_isBetween, Cond.static yX7_isBetween, Cond.code yX7_isBetween cX7_isBetween 6 (some .boolean), Cond.methodLink RX11 293 yX7_shortest, Cond.instanceMethod yX7_shortest, Cond.selects RX7 yX7_shortest yX7_shortest, Cond.code yX7_shortest cX7_shortest 3 (some .int), Cond.methodLink RX7 57 yX7_goesRound, Cond.instanceMethod yX7_goesRound, Cond.selects RX7 yX7_goesRound yX7_goesRound, Cond.code yX7_goesRound cX7_goesRound 6 (some .boolean), Cond.static yX11_wrap, Cond.code yX11_wrap cX11_wrap 2 (some .int), Cond.methodLink RX11 451 yJ9_floorMod_7cf53, Cond.static yJ9_floorMod_7cf53, Cond.initialized RJ9, Cond.code yJ9_floorMod_7cf53 cJ9_floorMod_7cf53 3 (some .int), Cond.methodLink RX7 62 yX7_told, Cond.instanceMethod yX7_told, Cond.selects RX7 yX7_told yX7_told, Cond.code yX7_told cX7_told 5 (some .int)]
def wsX11_fills_r3 : List Cond := [Cond.methodLink RX11 150 yX11_isWithin, Cond.methodLink RX11 296 yX7_told]
def wsX11_fills : List Cond := .code yX11_fills cX11_fills 5 (some .int) :: ((wsX11_fills_r1 ++ (wsX11_fills_r2 ++ wsX11_fills_r3)) ++ wsX110 ++ wsX70)
def wsX11_open_r1 : List Cond := [Cond.fieldLink RX11 98 "OverHill" "slots" "LOverHill$Slots;", Cond.methodLink RX11 289 yX7_refusalOfSteps, Cond.instanceMethod yX7_refusalOfSteps, Cond.selects RX7 yX7_refusalOfSteps yX7_refusalOfSteps, Cond.initialized RX7, Cond.code yX7_refusalOfSteps cX7_refusalOfSteps 3 (some .int), Cond.fieldLink RX7 15 "OverHill$Slots" "sizes" "[I", Cond.methodLink RX7 40 yX7_isSlot, Cond.static yX7_isSlot, Cond.code yX7_isSlot cX7_isSlot 1 (some .boolean), Cond.static yX11_isWithin, Cond.initialized RX11, Cond.code yX11_isWithin cX11_isWithin 2 (some .boolean), Cond.methodLink RX7 26 yX7_has, Cond.instanceMethod yX7_has, Cond.selects RX7 yX7_has yX7_has, Cond.code yX7_has cX7_has 2 (some .boolean), Cond.methodLink RX7 43 yX7_at, Cond.instanceMethod yX7_at, Cond.selects RX7 yX7_at yX7_at, Cond.code yX7_at cX7_at 3 (some .long), Cond.fieldLink RX7 18 "OverHill$Slots" "numbers" "[J", Cond.methodLink RX7 53 yX7_isTold, Cond.static yX7_isTold]
def wsX11_open_r2 : List Cond := [Cond.code yX7_isTold cX7_isTold 2 (some .boolean), Cond.constantLong RX7 60 (-1), Cond.constantLong RX7 70 (5), Cond.methodLink RX7 49 yX7_isBetween, Cond.static yX7_isBetween, Cond.code yX7_isBetween cX7_isBetween 6 (some .boolean), Cond.methodLink RX11 293 yX7_shortest, Cond.instanceMethod yX7_shortest, Cond.selects RX7 yX7_shortest yX7_shortest, Cond.code yX7_shortest cX7_shortest 3 (some .int), Cond.methodLink RX7 57 yX7_goesRound, Cond.instanceMethod yX7_goesRound, Cond.selects RX7 yX7_goesRound yX7_goesRound, Cond.code yX7_goesRound cX7_goesRound 6 (some .boolean), Cond.static yX11_wrap, Cond.code yX11_wrap cX11_wrap 2 (some .int), Cond.methodLink RX11 451 yJ9_floorMod_7cf53, Cond.static yJ9_floorMod_7cf53, Cond.initialized RJ9, Cond.code yJ9_floorMod_7cf53 cJ9_floorMod_7cf53 3 (some .int), Cond.methodLink RX7 62 yX7_told, Cond.instanceMethod yX7_told, Cond.selects RX7 yX7_told yX7_told, Cond.code yX7_told cX7_told 5 (some .int)]
def wsX11_open_r3 : List Cond := [Cond.methodLink RX11 300 yX7_countUntold, Cond.instanceMethod yX7_countUntold, Cond.selects RX7 yX7_countUntold yX7_countUntold, Cond.code yX7_countUntold cX7_countUntold 5 (some .int)]
def wsX11_open : List Cond := .code yX11_open cX11_open 4 (some .int) :: ((wsX11_open_r1 ++ (wsX11_open_r2 ++ wsX11_open_r3)) ++ wsX110 ++ wsX70)
def wsX11_hasSet : List Cond := .code yX11_hasSet cX11_hasSet 2 (some .boolean) :: ([.fieldLink RX11 24 "OverHill" "now" "LOverHill$Dance;", .fieldLink RX11 401 "OverHill$Dance" "tuneCount" "I", .methodLink RX11 125 yX0_stands, .instanceMethod yX0_stands, .selects RX0 yX0_stands yX0_stands, .initialized RX0, .code yX0_stands cX0_stands 1 (some .boolean), .fieldLink RX0 49 "OverHill$Dance" "lines" "I", .methodLink RX11 150 yX11_isWithin, .static yX11_isWithin, .initialized RX11, .code yX11_isWithin cX11_isWithin 2 (some .boolean)] ++ wsX110 ++ wsX00)
def wsX11_together_r1 : List Cond := [Cond.constantLong RX11 306 (-2), Cond.fieldLink RX11 77 "OverHill" "tunes" "LOverHill$Tunes;", Cond.fieldLink RX11 24 "OverHill" "now" "LOverHill$Dance;", Cond.methodLink RX11 303 yX11_hasSet, Cond.instanceMethod yX11_hasSet, Cond.selects RX11 yX11_hasSet yX11_hasSet, Cond.initialized RX11, Cond.code yX11_hasSet cX11_hasSet 2 (some .boolean), Cond.fieldLink RX11 401 "OverHill$Dance" "tuneCount" "I", Cond.methodLink RX11 125 yX0_stands, Cond.instanceMethod yX0_stands, Cond.selects RX0 yX0_stands yX0_stands, Cond.initialized RX0, Cond.code yX0_stands cX0_stands 1 (some .boolean), Cond.fieldLink RX0 49 "OverHill$Dance" "lines" "I", Cond.methodLink RX11 150 yX11_isWithin, Cond.static yX11_isWithin, Cond.code yX11_isWithin cX11_isWithin 2 (some .boolean), Cond.methodLink RX11 156 yX11_isBeat, Cond.static yX11_isBeat, Cond.code yX11_isBeat cX11_isBeat 1 (some .boolean), Cond.methodLink RX11 308 yX9_join, Cond.instanceMethod yX9_join, Cond.selects RX9 yX9_join yX9_join]
def wsX11_together_r2 : List Cond := [Cond.initialized RX9, Cond.code yX9_join cX9_join 4 none, Cond.fieldLink RX9 9 "OverHill$Tunes" "every" "J", Cond.fieldLink RX9 15 "OverHill$Tunes" "at" "J", Cond.fieldLink RX9 18 "OverHill$Dance" "tuneCount" "I", Cond.fieldLink RX9 24 "OverHill$Dance" "tunes" "[I", Cond.methodLink RX9 28 yX9_joinOne, Cond.instanceMethod yX9_joinOne, Cond.selects RX9 yX9_joinOne yX9_joinOne, Cond.code yX9_joinOne cX9_joinOne 8 none, Cond.constantLong RX9 32 (-1), Cond.static yX11_commonMultiple, Cond.code yX11_commonMultiple cX11_commonMultiple 6 (some .long), Cond.methodLink RX11 347 yX11_commonDivisor, Cond.static yX11_commonDivisor, Cond.code yX11_commonDivisor cX11_commonDivisor 11 (some .long), Cond.methodLink RX11 311 yX9_firstFrom, Cond.instanceMethod yX9_firstFrom, Cond.selects RX9 yX9_firstFrom yX9_firstFrom, Cond.code yX9_firstFrom cX9_firstFrom 2 (some .long), Cond.methodLink RX9 38 yJ9_floorMod_f86c9, Cond.static yJ9_floorMod_f86c9, Cond.initialized RJ9, Cond.code yJ9_floorMod_f86c9 cJ9_floorMod_f86c9 6 (some .long)]
def wsX11_together : List Cond := .code yX11_together cX11_together 3 (some .long) :: ((wsX11_together_r1 ++ wsX11_together_r2) ++ wsX110 ++ wsX00 ++ wsX90)
def wsX11_again_r1 : List Cond := [Cond.constantLong RX11 306 (-2), Cond.fieldLink RX11 77 "OverHill" "tunes" "LOverHill$Tunes;", Cond.fieldLink RX11 24 "OverHill" "now" "LOverHill$Dance;", Cond.fieldLink RX11 315 "OverHill$Tunes" "every" "J", Cond.methodLink RX11 303 yX11_hasSet, Cond.instanceMethod yX11_hasSet, Cond.selects RX11 yX11_hasSet yX11_hasSet, Cond.initialized RX11, Cond.code yX11_hasSet cX11_hasSet 2 (some .boolean), Cond.fieldLink RX11 401 "OverHill$Dance" "tuneCount" "I", Cond.methodLink RX11 125 yX0_stands, Cond.instanceMethod yX0_stands, Cond.selects RX0 yX0_stands yX0_stands, Cond.initialized RX0, Cond.code yX0_stands cX0_stands 1 (some .boolean), Cond.fieldLink RX0 49 "OverHill$Dance" "lines" "I", Cond.methodLink RX11 150 yX11_isWithin, Cond.static yX11_isWithin, Cond.code yX11_isWithin cX11_isWithin 2 (some .boolean), Cond.methodLink RX11 308 yX9_join, Cond.instanceMethod yX9_join, Cond.selects RX9 yX9_join yX9_join, Cond.initialized RX9, Cond.code yX9_join cX9_join 4 none]
def wsX11_again_r2 : List Cond := [Cond.fieldLink RX9 9 "OverHill$Tunes" "every" "J", Cond.fieldLink RX9 15 "OverHill$Tunes" "at" "J", Cond.fieldLink RX9 18 "OverHill$Dance" "tuneCount" "I", Cond.fieldLink RX9 24 "OverHill$Dance" "tunes" "[I", Cond.methodLink RX9 28 yX9_joinOne, Cond.instanceMethod yX9_joinOne, Cond.selects RX9 yX9_joinOne yX9_joinOne, Cond.code yX9_joinOne cX9_joinOne 8 none, Cond.constantLong RX9 32 (-1), Cond.static yX11_commonMultiple, Cond.code yX11_commonMultiple cX11_commonMultiple 6 (some .long), Cond.methodLink RX11 347 yX11_commonDivisor, Cond.static yX11_commonDivisor, Cond.code yX11_commonDivisor cX11_commonDivisor 11 (some .long)]
def wsX11_again : List Cond := .code yX11_again cX11_again 2 (some .long) :: ((wsX11_again_r1 ++ wsX11_again_r2) ++ wsX110 ++ wsX90 ++ wsX00)
def wsX11_most_r1 : List Cond := [Cond.fieldLink RX11 24 "OverHill" "now" "LOverHill$Dance;", Cond.fieldLink RX11 77 "OverHill" "tunes" "LOverHill$Tunes;", Cond.methodLink RX11 125 yX0_stands, Cond.instanceMethod yX0_stands, Cond.selects RX0 yX0_stands yX0_stands, Cond.initialized RX0, Cond.code yX0_stands cX0_stands 1 (some .boolean), Cond.fieldLink RX0 49 "OverHill$Dance" "lines" "I", Cond.methodLink RX11 319 yX9_largestSet, Cond.instanceMethod yX9_largestSet, Cond.selects RX9 yX9_largestSet yX9_largestSet, Cond.initialized RX9, Cond.code yX9_largestSet cX9_largestSet 4 (some .int), Cond.fieldLink RX9 18 "OverHill$Dance" "tuneCount" "I", Cond.fieldLink RX9 15 "OverHill$Tunes" "at" "J", Cond.constantLong RX9 32 (-1), Cond.methodLink RX9 43 yJ6_bitCount_0f7a4, Cond.static yJ6_bitCount_0f7a4, Cond.initialized RJ6, Cond.code yJ6_bitCount_0f7a4 cJ6_bitCount_0f7a4 1 (some .int), Cond.constant RJ6 265 (1431655765), Cond.constant RJ6 266 (858993459), Cond.constant RJ6 267 (252645135), Cond.methodLink RX9 49 yX9_join]
def wsX11_most_r2 : List Cond := [Cond.instanceMethod yX9_join, Cond.selects RX9 yX9_join yX9_join, Cond.code yX9_join cX9_join 4 none, Cond.fieldLink RX9 9 "OverHill$Tunes" "every" "J", Cond.fieldLink RX9 24 "OverHill$Dance" "tunes" "[I", Cond.methodLink RX9 28 yX9_joinOne, Cond.instanceMethod yX9_joinOne, Cond.selects RX9 yX9_joinOne yX9_joinOne, Cond.code yX9_joinOne cX9_joinOne 8 none, Cond.static yX11_commonMultiple, Cond.initialized RX11, Cond.code yX11_commonMultiple cX11_commonMultiple 6 (some .long), Cond.methodLink RX11 347 yX11_commonDivisor, Cond.static yX11_commonDivisor, Cond.code yX11_commonDivisor cX11_commonDivisor 11 (some .long), Cond.methodLink RX11 322 yJ6_bitCount_0f7a4]
def wsX11_most : List Cond := .code yX11_most cX11_most 1 (some .int) :: ((wsX11_most_r1 ++ wsX11_most_r2) ++ wsX110 ++ wsX00 ++ wsX90)
def wsX11_chorus_r1 : List Cond := [Cond.fieldLink RX11 24 "OverHill" "now" "LOverHill$Dance;", Cond.fieldLink RX11 77 "OverHill" "tunes" "LOverHill$Tunes;", Cond.methodLink RX11 125 yX0_stands, Cond.instanceMethod yX0_stands, Cond.selects RX0 yX0_stands yX0_stands, Cond.initialized RX0, Cond.code yX0_stands cX0_stands 1 (some .boolean), Cond.fieldLink RX0 49 "OverHill$Dance" "lines" "I", Cond.methodLink RX11 319 yX9_largestSet, Cond.instanceMethod yX9_largestSet, Cond.selects RX9 yX9_largestSet yX9_largestSet, Cond.initialized RX9, Cond.code yX9_largestSet cX9_largestSet 4 (some .int), Cond.fieldLink RX9 18 "OverHill$Dance" "tuneCount" "I", Cond.fieldLink RX9 15 "OverHill$Tunes" "at" "J", Cond.constantLong RX9 32 (-1), Cond.methodLink RX9 43 yJ6_bitCount_0f7a4, Cond.static yJ6_bitCount_0f7a4, Cond.initialized RJ6, Cond.code yJ6_bitCount_0f7a4 cJ6_bitCount_0f7a4 1 (some .int), Cond.constant RJ6 265 (1431655765), Cond.constant RJ6 266 (858993459), Cond.constant RJ6 267 (252645135), Cond.methodLink RX9 49 yX9_join]
def wsX11_chorus_r2 : List Cond := [Cond.instanceMethod yX9_join, Cond.selects RX9 yX9_join yX9_join, Cond.code yX9_join cX9_join 4 none, Cond.fieldLink RX9 9 "OverHill$Tunes" "every" "J", Cond.fieldLink RX9 24 "OverHill$Dance" "tunes" "[I", Cond.methodLink RX9 28 yX9_joinOne, Cond.instanceMethod yX9_joinOne, Cond.selects RX9 yX9_joinOne yX9_joinOne, Cond.code yX9_joinOne cX9_joinOne 8 none, Cond.static yX11_commonMultiple, Cond.initialized RX11, Cond.code yX11_commonMultiple cX11_commonMultiple 6 (some .long), Cond.methodLink RX11 347 yX11_commonDivisor, Cond.static yX11_commonDivisor, Cond.code yX11_commonDivisor cX11_commonDivisor 11 (some .long)]
def wsX11_chorus : List Cond := .code yX11_chorus cX11_chorus 1 (some .int) :: ((wsX11_chorus_r1 ++ wsX11_chorus_r2) ++ wsX110 ++ wsX00 ++ wsX90)
def wsX11_treaties : List Cond := .code yX11_treaties cX11_treaties 4 (some .int) :: ([.fieldLink RX11 24 "OverHill" "now" "LOverHill$Dance;", .methodLink RX11 125 yX0_stands, .instanceMethod yX0_stands, .selects RX0 yX0_stands yX0_stands, .initialized RX0, .code yX0_stands cX0_stands 1 (some .boolean), .fieldLink RX0 49 "OverHill$Dance" "lines" "I", .methodLink RX11 327 yX0_mayMeet, .instanceMethod yX0_mayMeet, .selects RX0 yX0_mayMeet yX0_mayMeet, .code yX0_mayMeet cX0_mayMeet 3 (some .boolean), .fieldLink RX0 21 "OverHill$Dance" "met" "[I"] ++ wsX110 ++ wsX00)
def wsX11_leads : List Cond := .code yX11_leads cX11_leads 5 (some .int) :: ([.fieldLink RX11 24 "OverHill" "now" "LOverHill$Dance;", .fieldLink RX11 144 "OverHill$Dance" "met" "[I", .methodLink RX11 125 yX0_stands, .instanceMethod yX0_stands, .selects RX0 yX0_stands yX0_stands, .initialized RX0, .code yX0_stands cX0_stands 1 (some .boolean), .fieldLink RX0 49 "OverHill$Dance" "lines" "I", .methodLink RX11 150 yX11_isWithin, .static yX11_isWithin, .initialized RX11, .code yX11_isWithin cX11_isWithin 2 (some .boolean), .methodLink RX11 322 yJ6_bitCount_0f7a4, .static yJ6_bitCount_0f7a4, .initialized RJ6, .code yJ6_bitCount_0f7a4 cJ6_bitCount_0f7a4 1 (some .int), .constant RJ6 265 (1431655765), .constant RJ6 266 (858993459), .constant RJ6 267 (252645135)] ++ wsX110 ++ wsX00)
def wsX11_game_r1 : List Cond := [Cond.fieldLink RX11 24 "OverHill" "now" "LOverHill$Dance;", Cond.fieldLink RX11 84 "OverHill" "games" "LOverHill$Game;", Cond.methodLink RX11 125 yX0_stands, Cond.instanceMethod yX0_stands, Cond.selects RX0 yX0_stands yX0_stands, Cond.initialized RX0, Cond.code yX0_stands cX0_stands 1 (some .boolean), Cond.fieldLink RX0 49 "OverHill$Dance" "lines" "I", Cond.methodLink RX11 141 yX11_isStep, Cond.static yX11_isStep, Cond.initialized RX11, Cond.code yX11_isStep cX11_isStep 1 (some .boolean), Cond.methodLink RX11 150 yX11_isWithin, Cond.static yX11_isWithin, Cond.code yX11_isWithin cX11_isWithin 2 (some .boolean), Cond.methodLink RX11 330 yX2_winningStep, Cond.instanceMethod yX2_winningStep, Cond.selects RX2 yX2_winningStep yX2_winningStep, Cond.initialized RX2, Cond.code yX2_winningStep cX2_winningStep 4 (some .int), Cond.fieldLink RX2 11 "OverHill$Game" "winning" "[I", Cond.fieldLink RX2 19 "OverHill$Game" "POWERS" "[I", Cond.fieldLink RX2 22 "OverHill$Dance" "met" "[I", Cond.methodLink RX2 15 yX2_findWinning]
def wsX11_game_r2 : List Cond := [Cond.instanceMethod yX2_findWinning, Cond.selects RX2 yX2_findWinning yX2_findWinning, Cond.code yX2_findWinning cX2_findWinning 6 (some .int), Cond.methodLink RX2 27 yJ6_numberOfTrailingZeros_0f7a4, Cond.static yJ6_numberOfTrailingZeros_0f7a4, Cond.initialized RJ6, Cond.code yJ6_numberOfTrailingZeros_0f7a4 cJ6_numberOfTrailingZeros_0f7a4 2 (some .int), Cond.constant RJ6 264 (65536)]
def wsX11_game : List Cond := .code yX11_game cX11_game 2 (some .int) :: ((wsX11_game_r1 ++ wsX11_game_r2) ++ wsX110 ++ wsX00 ++ wsX20)
def wsX11_plays_r1 : List Cond := [Cond.fieldLink RX11 24 "OverHill" "now" "LOverHill$Dance;", Cond.fieldLink RX11 84 "OverHill" "games" "LOverHill$Game;", Cond.methodLink RX11 125 yX0_stands, Cond.instanceMethod yX0_stands, Cond.selects RX0 yX0_stands yX0_stands, Cond.initialized RX0, Cond.code yX0_stands cX0_stands 1 (some .boolean), Cond.fieldLink RX0 49 "OverHill$Dance" "lines" "I", Cond.methodLink RX11 141 yX11_isStep, Cond.static yX11_isStep, Cond.initialized RX11, Cond.code yX11_isStep cX11_isStep 1 (some .boolean), Cond.methodLink RX11 150 yX11_isWithin, Cond.static yX11_isWithin, Cond.code yX11_isWithin cX11_isWithin 2 (some .boolean), Cond.methodLink RX11 330 yX2_winningStep, Cond.instanceMethod yX2_winningStep, Cond.selects RX2 yX2_winningStep yX2_winningStep, Cond.initialized RX2, Cond.code yX2_winningStep cX2_winningStep 4 (some .int), Cond.fieldLink RX2 11 "OverHill$Game" "winning" "[I", Cond.fieldLink RX2 19 "OverHill$Game" "POWERS" "[I", Cond.fieldLink RX2 22 "OverHill$Dance" "met" "[I", Cond.methodLink RX2 15 yX2_findWinning]
def wsX11_plays_r2 : List Cond := [Cond.instanceMethod yX2_findWinning, Cond.selects RX2 yX2_findWinning yX2_findWinning, Cond.code yX2_findWinning cX2_findWinning 6 (some .int), Cond.methodLink RX2 27 yJ6_numberOfTrailingZeros_0f7a4, Cond.static yJ6_numberOfTrailingZeros_0f7a4, Cond.initialized RJ6, Cond.code yJ6_numberOfTrailingZeros_0f7a4 cJ6_numberOfTrailingZeros_0f7a4 2 (some .int), Cond.constant RJ6 264 (65536)]
def wsX11_plays : List Cond := .code yX11_plays cX11_plays 2 (some .int) :: ((wsX11_plays_r1 ++ wsX11_plays_r2) ++ wsX110 ++ wsX00 ++ wsX20)
def wsX11_wet : List Cond := .code yX11_wet cX11_wet 10 (some .long) :: ([.fieldLink RX11 24 "OverHill" "now" "LOverHill$Dance;", .constantLong RX11 306 (-2), .fieldLink RX11 341 "OverHill$Dance" "rain" "I", .methodLink RX11 125 yX0_stands, .instanceMethod yX0_stands, .selects RX0 yX0_stands yX0_stands, .initialized RX0, .code yX0_stands cX0_stands 1 (some .boolean), .fieldLink RX0 49 "OverHill$Dance" "lines" "I", .methodLink RX11 150 yX11_isWithin, .static yX11_isWithin, .initialized RX11, .code yX11_isWithin cX11_isWithin 2 (some .boolean), .methodLink RX11 337 yX11_choices, .static yX11_choices, .code yX11_choices cX11_choices 5 (some .long), .methodLink RX11 344 yX11_power, .static yX11_power, .code yX11_power cX11_power 5 (some .long), .methodLink RX11 347 yX11_commonDivisor, .static yX11_commonDivisor, .code yX11_commonDivisor cX11_commonDivisor 11 (some .long)] ++ wsX110 ++ wsX00)
def wsX11_dry_r1 : List Cond := [Cond.methodLink RX11 333 yX11_wet, Cond.instanceMethod yX11_wet, Cond.selects RX11 yX11_wet yX11_wet, Cond.initialized RX11, Cond.code yX11_wet cX11_wet 10 (some .long), Cond.fieldLink RX11 24 "OverHill" "now" "LOverHill$Dance;", Cond.constantLong RX11 306 (-2), Cond.fieldLink RX11 341 "OverHill$Dance" "rain" "I", Cond.methodLink RX11 125 yX0_stands, Cond.instanceMethod yX0_stands, Cond.selects RX0 yX0_stands yX0_stands, Cond.initialized RX0, Cond.code yX0_stands cX0_stands 1 (some .boolean), Cond.fieldLink RX0 49 "OverHill$Dance" "lines" "I", Cond.methodLink RX11 150 yX11_isWithin, Cond.static yX11_isWithin, Cond.code yX11_isWithin cX11_isWithin 2 (some .boolean), Cond.methodLink RX11 337 yX11_choices, Cond.static yX11_choices, Cond.code yX11_choices cX11_choices 5 (some .long), Cond.methodLink RX11 344 yX11_power, Cond.static yX11_power, Cond.code yX11_power cX11_power 5 (some .long), Cond.methodLink RX11 347 yX11_commonDivisor]
def wsX11_dry_r2 : List Cond := [Cond.static yX11_commonDivisor, Cond.code yX11_commonDivisor cX11_commonDivisor 11 (some .long)]
def wsX11_dry : List Cond := .code yX11_dry cX11_dry 3 (some .long) :: ((wsX11_dry_r1 ++ wsX11_dry_r2) ++ wsX110 ++ wsX00)
def wsX11_hasNight : List Cond := .code yX11_hasNight cX11_hasNight 3 (some .boolean) :: ([.fieldLink RX11 24 "OverHill" "now" "LOverHill$Dance;", .constant RX11 437 (2000000000), .methodLink RX11 125 yX0_stands, .instanceMethod yX0_stands, .selects RX0 yX0_stands yX0_stands, .initialized RX0, .code yX0_stands cX0_stands 1 (some .boolean), .fieldLink RX0 49 "OverHill$Dance" "lines" "I"] ++ wsX110 ++ wsX00)
def wsX11_drawn_r1 : List Cond := [Cond.fieldLink RX11 91 "OverHill" "night" "LOverHill$Night;", Cond.fieldLink RX11 24 "OverHill" "now" "LOverHill$Dance;", Cond.fieldLink RX11 357 "OverHill$Night" "holeCount" "I", Cond.fieldLink RX11 360 "OverHill$Night" "firstHole" "I", Cond.fieldLink RX11 363 "OverHill$Night" "mudCount" "I", Cond.fieldLink RX11 366 "OverHill$Night" "slipCount" "I", Cond.methodLink RX11 351 yX11_hasNight, Cond.instanceMethod yX11_hasNight, Cond.selects RX11 yX11_hasNight yX11_hasNight, Cond.initialized RX11, Cond.code yX11_hasNight cX11_hasNight 3 (some .boolean), Cond.constant RX11 437 (2000000000), Cond.methodLink RX11 125 yX0_stands, Cond.instanceMethod yX0_stands, Cond.selects RX0 yX0_stands yX0_stands, Cond.initialized RX0, Cond.code yX0_stands cX0_stands 1 (some .boolean), Cond.fieldLink RX0 49 "OverHill$Dance" "lines" "I", Cond.methodLink RX11 150 yX11_isWithin, Cond.static yX11_isWithin, Cond.code yX11_isWithin cX11_isWithin 2 (some .boolean), Cond.methodLink RX11 354 yX4_play, Cond.instanceMethod yX4_play, Cond.selects RX4 yX4_play yX4_play]
def wsX11_drawn_r2 : List Cond := [Cond.initialized RX4, Cond.code yX4_play cX4_play 5 none, Cond.fieldLink RX4 18 "OverHill$Night" "state" "J", Cond.fieldLink RX4 22 "OverHill$Night" "holeCount" "I", Cond.fieldLink RX4 26 "OverHill$Night" "firstHole" "I", Cond.fieldLink RX4 29 "OverHill$Night" "mudCount" "I", Cond.fieldLink RX4 32 "OverHill$Night" "slipCount" "I", Cond.fieldLink RX4 15 "OverHill$Night" "places" "[I", Cond.fieldLink RX4 35 "OverHill$Dance" "starts" "[I", Cond.methodLink RX4 40 yX4_danceBeat, Cond.instanceMethod yX4_danceBeat, Cond.selects RX4 yX4_danceBeat yX4_danceBeat, Cond.code yX4_danceBeat cX4_danceBeat 6 none, Cond.fieldLink RX4 52 "OverHill$Dance" "rain" "I", Cond.fieldLink RX4 55 "OverHill$Dance" "lengths" "[I", Cond.fieldLink RX4 9 "OverHill$Night" "danced" "[I", Cond.methodLink RX4 48 yX4_draw, Cond.instanceMethod yX4_draw, Cond.selects RX4 yX4_draw yX4_draw, Cond.code yX4_draw cX4_draw 1 (some .int), Cond.constantLong RX4 79 (1103515245), Cond.constantLong RX4 81 (12345), Cond.constantLong RX4 83 (2147483648), Cond.constantLong RX4 85 (65536)]
def wsX11_drawn_r3 : List Cond := [Cond.constantLong RX4 87 (100), Cond.methodLink RX4 58 yX4_danceStep, Cond.instanceMethod yX4_danceStep, Cond.selects RX4 yX4_danceStep yX4_danceStep, Cond.code yX4_danceStep cX4_danceStep 4 (some .int), Cond.fieldLink RX4 69 "OverHill$Dance" "odds" "I", Cond.methodLink RX4 62 yX0_stepAt, Cond.instanceMethod yX0_stepAt, Cond.selects RX0 yX0_stepAt yX0_stepAt, Cond.code yX0_stepAt cX0_stepAt 3 (some .int), Cond.fieldLink RX0 9 "OverHill$Dance" "steps" "[I", Cond.static yX11_wrap, Cond.code yX11_wrap cX11_wrap 2 (some .int), Cond.methodLink RX11 451 yJ9_floorMod_7cf53, Cond.static yJ9_floorMod_7cf53, Cond.initialized RJ9, Cond.code yJ9_floorMod_7cf53 cJ9_floorMod_7cf53 3 (some .int), Cond.methodLink RX4 44 yX4_lookForHole, Cond.instanceMethod yX4_lookForHole, Cond.selects RX4 yX4_lookForHole yX4_lookForHole, Cond.code yX4_lookForHole cX4_lookForHole 6 none, Cond.fieldLink RX4 72 "OverHill$Dance" "gap" "I", Cond.methodLink RX4 75 yX0_isHole, Cond.instanceMethod yX0_isHole]
def wsX11_drawn_r4 : List Cond := [Cond.selects RX0 yX0_isHole yX0_isHole, Cond.code yX0_isHole cX0_isHole 3 (some .boolean), Cond.methodLink RX0 80 yX0_mayMeet, Cond.instanceMethod yX0_mayMeet, Cond.selects RX0 yX0_mayMeet yX0_mayMeet, Cond.code yX0_mayMeet cX0_mayMeet 3 (some .boolean), Cond.fieldLink RX0 21 "OverHill$Dance" "met" "[I"]
def wsX11_drawn : List Cond := .code yX11_drawn cX11_drawn 4 (some .int) :: ((wsX11_drawn_r1 ++ (wsX11_drawn_r2 ++ (wsX11_drawn_r3 ++ wsX11_drawn_r4))) ++ wsX110 ++ wsX40 ++ wsX00)
def wsX11_nights_r1 : List Cond := [Cond.fieldLink RX11 91 "OverHill" "night" "LOverHill$Night;", Cond.fieldLink RX11 24 "OverHill" "now" "LOverHill$Dance;", Cond.fieldLink RX11 357 "OverHill$Night" "holeCount" "I", Cond.methodLink RX11 351 yX11_hasNight, Cond.instanceMethod yX11_hasNight, Cond.selects RX11 yX11_hasNight yX11_hasNight, Cond.initialized RX11, Cond.code yX11_hasNight cX11_hasNight 3 (some .boolean), Cond.constant RX11 437 (2000000000), Cond.methodLink RX11 125 yX0_stands, Cond.instanceMethod yX0_stands, Cond.selects RX0 yX0_stands yX0_stands, Cond.initialized RX0, Cond.code yX0_stands cX0_stands 1 (some .boolean), Cond.fieldLink RX0 49 "OverHill$Dance" "lines" "I", Cond.methodLink RX11 354 yX4_play, Cond.instanceMethod yX4_play, Cond.selects RX4 yX4_play yX4_play, Cond.initialized RX4, Cond.code yX4_play cX4_play 5 none, Cond.fieldLink RX4 18 "OverHill$Night" "state" "J", Cond.fieldLink RX4 22 "OverHill$Night" "holeCount" "I", Cond.fieldLink RX4 26 "OverHill$Night" "firstHole" "I", Cond.fieldLink RX4 29 "OverHill$Night" "mudCount" "I"]
def wsX11_nights_r2 : List Cond := [Cond.fieldLink RX4 32 "OverHill$Night" "slipCount" "I", Cond.fieldLink RX4 15 "OverHill$Night" "places" "[I", Cond.fieldLink RX4 35 "OverHill$Dance" "starts" "[I", Cond.methodLink RX4 40 yX4_danceBeat, Cond.instanceMethod yX4_danceBeat, Cond.selects RX4 yX4_danceBeat yX4_danceBeat, Cond.code yX4_danceBeat cX4_danceBeat 6 none, Cond.fieldLink RX4 52 "OverHill$Dance" "rain" "I", Cond.fieldLink RX4 55 "OverHill$Dance" "lengths" "[I", Cond.fieldLink RX4 9 "OverHill$Night" "danced" "[I", Cond.methodLink RX4 48 yX4_draw, Cond.instanceMethod yX4_draw, Cond.selects RX4 yX4_draw yX4_draw, Cond.code yX4_draw cX4_draw 1 (some .int), Cond.constantLong RX4 79 (1103515245), Cond.constantLong RX4 81 (12345), Cond.constantLong RX4 83 (2147483648), Cond.constantLong RX4 85 (65536), Cond.constantLong RX4 87 (100), Cond.methodLink RX4 58 yX4_danceStep, Cond.instanceMethod yX4_danceStep, Cond.selects RX4 yX4_danceStep yX4_danceStep, Cond.code yX4_danceStep cX4_danceStep 4 (some .int), Cond.fieldLink RX4 69 "OverHill$Dance" "odds" "I"]
def wsX11_nights_r3 : List Cond := [Cond.methodLink RX4 62 yX0_stepAt, Cond.instanceMethod yX0_stepAt, Cond.selects RX0 yX0_stepAt yX0_stepAt, Cond.code yX0_stepAt cX0_stepAt 3 (some .int), Cond.fieldLink RX0 9 "OverHill$Dance" "steps" "[I", Cond.static yX11_wrap, Cond.code yX11_wrap cX11_wrap 2 (some .int), Cond.methodLink RX11 451 yJ9_floorMod_7cf53, Cond.static yJ9_floorMod_7cf53, Cond.initialized RJ9, Cond.code yJ9_floorMod_7cf53 cJ9_floorMod_7cf53 3 (some .int), Cond.methodLink RX4 44 yX4_lookForHole, Cond.instanceMethod yX4_lookForHole, Cond.selects RX4 yX4_lookForHole yX4_lookForHole, Cond.code yX4_lookForHole cX4_lookForHole 6 none, Cond.fieldLink RX4 72 "OverHill$Dance" "gap" "I", Cond.methodLink RX4 75 yX0_isHole, Cond.instanceMethod yX0_isHole, Cond.selects RX0 yX0_isHole yX0_isHole, Cond.code yX0_isHole cX0_isHole 3 (some .boolean), Cond.methodLink RX0 80 yX0_mayMeet, Cond.instanceMethod yX0_mayMeet, Cond.selects RX0 yX0_mayMeet yX0_mayMeet, Cond.code yX0_mayMeet cX0_mayMeet 3 (some .boolean)]
def wsX11_nights_r4 : List Cond := [Cond.fieldLink RX0 21 "OverHill$Dance" "met" "[I"]
def wsX11_nights : List Cond := .code yX11_nights cX11_nights 6 (some .int) :: ((wsX11_nights_r1 ++ (wsX11_nights_r2 ++ (wsX11_nights_r3 ++ wsX11_nights_r4))) ++ wsX110 ++ wsX40 ++ wsX00)
def wsX11_stumble_r1 : List Cond := [Cond.fieldLink RX11 24 "OverHill" "now" "LOverHill$Dance;", Cond.fieldLink RX11 216 "OverHill$Dance" "stumbleCount" "I", Cond.fieldLink RX11 369 "OverHill$Dance" "changeCount" "I", Cond.fieldLink RX11 49 "OverHill" "laid" "Z", Cond.methodLink RX11 162 yX11_has, Cond.instanceMethod yX11_has, Cond.selects RX11 yX11_has yX11_has, Cond.initialized RX11, Cond.code yX11_has cX11_has 3 (some .boolean), Cond.methodLink RX11 125 yX0_stands, Cond.instanceMethod yX0_stands, Cond.selects RX0 yX0_stands yX0_stands, Cond.initialized RX0, Cond.code yX0_stands cX0_stands 1 (some .boolean), Cond.fieldLink RX0 49 "OverHill$Dance" "lines" "I", Cond.methodLink RX11 129 yX11_isSide, Cond.static yX11_isSide, Cond.code yX11_isSide cX11_isSide 1 (some .boolean), Cond.methodLink RX11 150 yX11_isWithin, Cond.static yX11_isWithin, Cond.code yX11_isWithin cX11_isWithin 2 (some .boolean), Cond.methodLink RX11 156 yX11_isBeat, Cond.static yX11_isBeat, Cond.code yX11_isBeat cX11_isBeat 1 (some .boolean)]
def wsX11_stumble_r2 : List Cond := [Cond.methodLink RX11 141 yX11_isStep, Cond.static yX11_isStep, Cond.code yX11_isStep cX11_isStep 1 (some .boolean), Cond.methodLink RX11 372 yX0_stumbleOf, Cond.instanceMethod yX0_stumbleOf, Cond.selects RX0 yX0_stumbleOf yX0_stumbleOf, Cond.code yX0_stumbleOf cX0_stumbleOf 5 (some .int), Cond.fieldLink RX0 58 "OverHill$Dance" "stumbleCount" "I", Cond.fieldLink RX0 24 "OverHill$Dance" "stumbles" "[I", Cond.methodLink RX11 375 yX0_keepChange, Cond.instanceMethod yX0_keepChange, Cond.selects RX0 yX0_keepChange yX0_keepChange, Cond.code yX0_keepChange cX0_keepChange 5 none, Cond.fieldLink RX0 67 "OverHill$Dance" "changeCount" "I", Cond.fieldLink RX0 36 "OverHill$Dance" "changes" "[I", Cond.methodLink RX11 379 yX0_addStumble, Cond.instanceMethod yX0_addStumble, Cond.selects RX0 yX0_addStumble yX0_addStumble, Cond.code yX0_addStumble cX0_addStumble 6 none]
def wsX11_stumble : List Cond := .code yX11_stumble cX11_stumble 6 (some .int) :: ((wsX11_stumble_r1 ++ wsX11_stumble_r2) ++ wsX110 ++ wsX00)
def wsX11_mud : List Cond := .code yX11_mud cX11_mud 4 (some .int) :: ([.fieldLink RX11 24 "OverHill" "now" "LOverHill$Dance;", .fieldLink RX11 369 "OverHill$Dance" "changeCount" "I", .fieldLink RX11 159 "OverHill$Dance" "muds" "[I", .fieldLink RX11 49 "OverHill" "laid" "Z", .methodLink RX11 125 yX0_stands, .instanceMethod yX0_stands, .selects RX0 yX0_stands yX0_stands, .initialized RX0, .code yX0_stands cX0_stands 1 (some .boolean), .fieldLink RX0 49 "OverHill$Dance" "lines" "I", .methodLink RX11 156 yX11_isBeat, .static yX11_isBeat, .initialized RX11, .code yX11_isBeat cX11_isBeat 1 (some .boolean), .methodLink RX11 150 yX11_isWithin, .static yX11_isWithin, .code yX11_isWithin cX11_isWithin 2 (some .boolean), .methodLink RX11 375 yX0_keepChange, .instanceMethod yX0_keepChange, .selects RX0 yX0_keepChange yX0_keepChange, .code yX0_keepChange cX0_keepChange 5 none, .fieldLink RX0 67 "OverHill$Dance" "changeCount" "I", .fieldLink RX0 36 "OverHill$Dance" "changes" "[I"] ++ wsX110 ++ wsX00)
def wsX11_teach_r1 : List Cond := [Cond.fieldLink RX11 24 "OverHill" "now" "LOverHill$Dance;", Cond.fieldLink RX11 369 "OverHill$Dance" "changeCount" "I", Cond.fieldLink RX11 383 "OverHill$Dance" "steps" "[I", Cond.fieldLink RX11 49 "OverHill" "laid" "Z", Cond.methodLink RX11 125 yX0_stands, Cond.instanceMethod yX0_stands, Cond.selects RX0 yX0_stands yX0_stands, Cond.initialized RX0, Cond.code yX0_stands cX0_stands 1 (some .boolean), Cond.fieldLink RX0 49 "OverHill$Dance" "lines" "I", Cond.methodLink RX11 129 yX11_isSide, Cond.static yX11_isSide, Cond.initialized RX11, Cond.code yX11_isSide cX11_isSide 1 (some .boolean), Cond.methodLink RX11 150 yX11_isWithin, Cond.static yX11_isWithin, Cond.code yX11_isWithin cX11_isWithin 2 (some .boolean), Cond.methodLink RX11 133 yX0_hasPlace, Cond.instanceMethod yX0_hasPlace, Cond.selects RX0 yX0_hasPlace yX0_hasPlace, Cond.code yX0_hasPlace cX0_hasPlace 3 (some .boolean), Cond.fieldLink RX0 15 "OverHill$Dance" "lengths" "[I", Cond.methodLink RX11 141 yX11_isStep, Cond.static yX11_isStep]
def wsX11_teach_r2 : List Cond := [Cond.code yX11_isStep cX11_isStep 1 (some .boolean), Cond.methodLink RX11 375 yX0_keepChange, Cond.instanceMethod yX0_keepChange, Cond.selects RX0 yX0_keepChange yX0_keepChange, Cond.code yX0_keepChange cX0_keepChange 5 none, Cond.fieldLink RX0 67 "OverHill$Dance" "changeCount" "I", Cond.fieldLink RX0 36 "OverHill$Dance" "changes" "[I"]
def wsX11_teach : List Cond := .code yX11_teach cX11_teach 6 (some .int) :: ((wsX11_teach_r1 ++ wsX11_teach_r2) ++ wsX110 ++ wsX00)
def wsX11_undo : List Cond := .code yX11_undo cX11_undo 1 (some .int) :: ([.fieldLink RX11 24 "OverHill" "now" "LOverHill$Dance;", .fieldLink RX11 369 "OverHill$Dance" "changeCount" "I", .fieldLink RX11 49 "OverHill" "laid" "Z", .methodLink RX11 125 yX0_stands, .instanceMethod yX0_stands, .selects RX0 yX0_stands yX0_stands, .initialized RX0, .code yX0_stands cX0_stands 1 (some .boolean), .fieldLink RX0 49 "OverHill$Dance" "lines" "I", .methodLink RX11 386 yX0_takeBack, .instanceMethod yX0_takeBack, .selects RX0 yX0_takeBack yX0_takeBack, .code yX0_takeBack cX0_takeBack 4 none, .fieldLink RX0 67 "OverHill$Dance" "changeCount" "I", .fieldLink RX0 36 "OverHill$Dance" "changes" "[I", .fieldLink RX0 58 "OverHill$Dance" "stumbleCount" "I", .fieldLink RX0 27 "OverHill$Dance" "muds" "[I", .fieldLink RX0 9 "OverHill$Dance" "steps" "[I"] ++ wsX110 ++ wsX00)
def wsX11_count_r1 : List Cond := [Cond.fieldLink RX11 24 "OverHill" "now" "LOverHill$Dance;", Cond.fieldLink RX11 389 "OverHill$Dance" "gap" "I", Cond.fieldLink RX11 392 "OverHill$Dance" "odds" "I", Cond.fieldLink RX11 341 "OverHill$Dance" "rain" "I", Cond.fieldLink RX11 178 "OverHill$Dance" "lengths" "[I", Cond.fieldLink RX11 216 "OverHill$Dance" "stumbleCount" "I", Cond.fieldLink RX11 398 "OverHill$Dance" "cellCount" "I", Cond.fieldLink RX11 401 "OverHill$Dance" "tuneCount" "I", Cond.fieldLink RX11 369 "OverHill$Dance" "changeCount" "I", Cond.fieldLink RX11 116 "OverHill$Dance" "lines" "I", Cond.fieldLink RX11 20 "OverHill" "tape" "LOverHill$Tape;", Cond.fieldLink RX11 102 "OverHill$Tape" "length" "I", Cond.fieldLink RX11 98 "OverHill" "slots" "LOverHill$Slots;", Cond.methodLink RX11 395 yX0_countMuds, Cond.instanceMethod yX0_countMuds, Cond.selects RX0 yX0_countMuds yX0_countMuds, Cond.initialized RX0, Cond.code yX0_countMuds cX0_countMuds 3 (some .int), Cond.fieldLink RX0 27 "OverHill$Dance" "muds" "[I", Cond.methodLink RX11 404 yX7_countRows, Cond.instanceMethod yX7_countRows, Cond.selects RX7 yX7_countRows yX7_countRows, Cond.initialized RX7, Cond.code yX7_countRows cX7_countRows 3 (some .int)]
def wsX11_count_r2 : List Cond := [Cond.methodLink RX7 26 yX7_has, Cond.instanceMethod yX7_has, Cond.selects RX7 yX7_has yX7_has, Cond.code yX7_has cX7_has 2 (some .boolean), Cond.fieldLink RX7 15 "OverHill$Slots" "sizes" "[I"]
def wsX11_count : List Cond := .code yX11_count cX11_count 2 (some .int) :: ((wsX11_count_r1 ++ wsX11_count_r2) ++ wsX110 ++ wsX00 ++ wsX80 ++ wsX70)
def wsX11_row : List Cond := .code yX11_row cX11_row 4 (some .int) :: ([.fieldLink RX11 98 "OverHill" "slots" "LOverHill$Slots;", .methodLink RX11 411 yX7_isSlot, .static yX7_isSlot, .initialized RX7, .code yX7_isSlot cX7_isSlot 1 (some .boolean), .static yX11_isWithin, .initialized RX11, .code yX11_isWithin cX11_isWithin 2 (some .boolean), .methodLink RX11 150 yX11_isWithin, .methodLink RX11 414 yX7_make, .instanceMethod yX7_make, .selects RX7 yX7_make yX7_make, .code yX7_make cX7_make 5 none, .fieldLink RX7 11 "OverHill$Slots" "widths" "[I", .fieldLink RX7 15 "OverHill$Slots" "sizes" "[I", .fieldLink RX7 18 "OverHill$Slots" "numbers" "[J"] ++ wsX110 ++ wsX70)
def wsX11_write : List Cond := .code yX11_write cX11_write 5 (some .int) :: ([.fieldLink RX11 98 "OverHill" "slots" "LOverHill$Slots;", .fieldLink RX11 419 "OverHill$Slots" "sizes" "[I", .methodLink RX11 411 yX7_isSlot, .static yX7_isSlot, .initialized RX7, .code yX7_isSlot cX7_isSlot 1 (some .boolean), .static yX11_isWithin, .initialized RX11, .code yX11_isWithin cX11_isWithin 2 (some .boolean), .methodLink RX11 417 yX7_has, .instanceMethod yX7_has, .selects RX7 yX7_has yX7_has, .code yX7_has cX7_has 2 (some .boolean), .fieldLink RX7 15 "OverHill$Slots" "sizes" "[I", .methodLink RX11 150 yX11_isWithin, .methodLink RX11 422 yX7_put, .instanceMethod yX7_put, .selects RX7 yX7_put yX7_put, .code yX7_put cX7_put 5 none, .fieldLink RX7 18 "OverHill$Slots" "numbers" "[J", .fieldLink RX7 11 "OverHill$Slots" "widths" "[I", .methodLink RX7 30 yX7_cut, .static yX7_cut, .code yX7_cut cX7_cut 3 (some .long)] ++ wsX110 ++ wsX70)
def wsX11_paste_r1 : List Cond := [Cond.fieldLink RX11 98 "OverHill" "slots" "LOverHill$Slots;", Cond.fieldLink RX11 426 "OverHill$Slots" "widths" "[I", Cond.methodLink RX11 411 yX7_isSlot, Cond.static yX7_isSlot, Cond.initialized RX7, Cond.code yX7_isSlot cX7_isSlot 1 (some .boolean), Cond.static yX11_isWithin, Cond.initialized RX11, Cond.code yX11_isWithin cX11_isWithin 2 (some .boolean), Cond.methodLink RX11 417 yX7_has, Cond.instanceMethod yX7_has, Cond.selects RX7 yX7_has yX7_has, Cond.code yX7_has cX7_has 2 (some .boolean), Cond.fieldLink RX7 15 "OverHill$Slots" "sizes" "[I", Cond.methodLink RX11 429 yX7_holds, Cond.instanceMethod yX7_holds, Cond.selects RX7 yX7_holds yX7_holds, Cond.code yX7_holds cX7_holds 4 (some .boolean), Cond.methodLink RX11 433 yX7_move, Cond.instanceMethod yX7_move, Cond.selects RX7 yX7_move yX7_move, Cond.code yX7_move cX7_move 6 none, Cond.fieldLink RX7 18 "OverHill$Slots" "numbers" "[J", Cond.methodLink RX7 34 arraycopyName]
def wsX11_paste_r2 : List Cond := [Cond.native arraycopyName, Cond.static arraycopyName, Cond.initialized "java/lang/System"]
def wsX11_paste : List Cond := .code yX11_paste cX11_paste 6 (some .int) :: ((wsX11_paste_r1 ++ wsX11_paste_r2) ++ wsX110 ++ wsX70)
set_option maxRecDepth 20000 in
theorem ggX11_feed_X8_push : GoodIn wsX11_feed wsX8_push := goodIn_r _ [7, 8, 9, 26, 27, 28, 29, 30, 31] (by decide +kernel) (by decide +kernel)
set_option maxRecDepth 20000 in
theorem gX11_feed_X8_push : GoodIn wsX11_feed (wsV RX11 108 RX8 yX8_push wsX8_push) := goodIn_app (goodIn_of _ (by decide +kernel)) ggX11_feed_X8_push
theorem dX11_feed_0 : decode cX11_feed 0 = .ok (.aload_n 0, 1) := by decide +kernel
theorem dX11_feed_1 : decode cX11_feed 1 = .ok (.getfield 20, 3) := by decide +kernel
theorem dX11_feed_4 : decode cX11_feed 4 = .ok (.getfield 102, 3) := by decide +kernel
theorem dX11_feed_7 : decode cX11_feed 7 = .ok (.bipush 20, 2) := by decide +kernel
theorem dX11_feed_9 : decode cX11_feed 9 = .ok (.iadd, 1) := by decide +kernel
theorem dX11_feed_10 : decode cX11_feed 10 = .ok (.sipush 1200, 3) := by decide +kernel
theorem dX11_feed_13 : decode cX11_feed 13 = .ok (.if_icmp .le 5, 3) := by decide +kernel
theorem dX11_feed_16 : decode cX11_feed 16 = .ok (.iconst (-1), 1) := by decide +kernel
theorem dX11_feed_17 : decode cX11_feed 17 = .ok (.ireturn, 1) := by decide +kernel
theorem dX11_feed_18 : decode cX11_feed 18 = .ok (.aload_n 0, 1) := by decide +kernel
theorem dX11_feed_19 : decode cX11_feed 19 = .ok (.getfield 20, 3) := by decide +kernel
theorem dX11_feed_22 : decode cX11_feed 22 = .ok (.iload_n 1, 1) := by decide +kernel
theorem dX11_feed_23 : decode cX11_feed 23 = .ok (.invokevirtual 108, 3) := by decide +kernel
theorem dX11_feed_26 : decode cX11_feed 26 = .ok (.aload_n 0, 1) := by decide +kernel
theorem dX11_feed_27 : decode cX11_feed 27 = .ok (.getfield 20, 3) := by decide +kernel
theorem dX11_feed_30 : decode cX11_feed 30 = .ok (.iload_n 2, 1) := by decide +kernel
theorem dX11_feed_31 : decode cX11_feed 31 = .ok (.invokevirtual 108, 3) := by decide +kernel
theorem dX11_feed_34 : decode cX11_feed 34 = .ok (.aload_n 0, 1) := by decide +kernel
theorem dX11_feed_35 : decode cX11_feed 35 = .ok (.getfield 20, 3) := by decide +kernel
theorem dX11_feed_38 : decode cX11_feed 38 = .ok (.iload_n 3, 1) := by decide +kernel
theorem dX11_feed_39 : decode cX11_feed 39 = .ok (.invokevirtual 108, 3) := by decide +kernel
theorem dX11_feed_42 : decode cX11_feed 42 = .ok (.aload_n 0, 1) := by decide +kernel
theorem dX11_feed_43 : decode cX11_feed 43 = .ok (.getfield 20, 3) := by decide +kernel
theorem dX11_feed_46 : decode cX11_feed 46 = .ok (.iload 4, 2) := by decide +kernel
theorem dX11_feed_48 : decode cX11_feed 48 = .ok (.invokevirtual 108, 3) := by decide +kernel
theorem dX11_feed_51 : decode cX11_feed 51 = .ok (.aload_n 0, 1) := by decide +kernel
theorem dX11_feed_52 : decode cX11_feed 52 = .ok (.getfield 20, 3) := by decide +kernel
theorem dX11_feed_55 : decode cX11_feed 55 = .ok (.iload 5, 2) := by decide +kernel
theorem dX11_feed_57 : decode cX11_feed 57 = .ok (.invokevirtual 108, 3) := by decide +kernel
theorem dX11_feed_60 : decode cX11_feed 60 = .ok (.aload_n 0, 1) := by decide +kernel
theorem dX11_feed_61 : decode cX11_feed 61 = .ok (.getfield 20, 3) := by decide +kernel
theorem dX11_feed_64 : decode cX11_feed 64 = .ok (.getfield 102, 3) := by decide +kernel
theorem dX11_feed_67 : decode cX11_feed 67 = .ok (.ireturn, 1) := by decide +kernel
theorem dX11_end_0 : decode cX11_end 0 = .ok (.iload_n 1, 1) := by decide +kernel
theorem dX11_end_1 : decode cX11_end 1 = .ok (.ifCond .lt 14, 3) := by decide +kernel
theorem dX11_end_4 : decode cX11_end 4 = .ok (.iload_n 1, 1) := by decide +kernel
theorem dX11_end_5 : decode cX11_end 5 = .ok (.aload_n 0, 1) := by decide +kernel
theorem dX11_end_6 : decode cX11_end 6 = .ok (.getfield 20, 3) := by decide +kernel
theorem dX11_end_9 : decode cX11_end 9 = .ok (.getfield 102, 3) := by decide +kernel
theorem dX11_end_12 : decode cX11_end 12 = .ok (.if_icmp .le 5, 3) := by decide +kernel
theorem dX11_end_15 : decode cX11_end 15 = .ok (.iconst (-1), 1) := by decide +kernel
theorem dX11_end_16 : decode cX11_end 16 = .ok (.ireturn, 1) := by decide +kernel
theorem dX11_end_17 : decode cX11_end 17 = .ok (.aload_n 0, 1) := by decide +kernel
theorem dX11_end_18 : decode cX11_end 18 = .ok (.getfield 20, 3) := by decide +kernel
theorem dX11_end_21 : decode cX11_end 21 = .ok (.iload_n 1, 1) := by decide +kernel
theorem dX11_end_22 : decode cX11_end 22 = .ok (.putfield 102, 3) := by decide +kernel
theorem dX11_end_25 : decode cX11_end 25 = .ok (.iload_n 1, 1) := by decide +kernel
theorem dX11_end_26 : decode cX11_end 26 = .ok (.ireturn, 1) := by decide +kernel
theorem dX11_fault_0 : decode cX11_fault 0 = .ok (.iload_n 1, 1) := by decide +kernel
theorem dX11_fault_1 : decode cX11_fault 1 = .ok (.lookupswitch 43 #[(0, 27), (1, 35)], 27) := by decide +kernel
theorem dX11_fault_28 : decode cX11_fault 28 = .ok (.aload_n 0, 1) := by decide +kernel
theorem dX11_fault_29 : decode cX11_fault 29 = .ok (.getfield 10, 3) := by decide +kernel
theorem dX11_fault_32 : decode cX11_fault 32 = .ok (.getfield 119, 3) := by decide +kernel
theorem dX11_fault_35 : decode cX11_fault 35 = .ok (.ireturn, 1) := by decide +kernel
theorem dX11_fault_36 : decode cX11_fault 36 = .ok (.aload_n 0, 1) := by decide +kernel
theorem dX11_fault_37 : decode cX11_fault 37 = .ok (.getfield 10, 3) := by decide +kernel
theorem dX11_fault_40 : decode cX11_fault 40 = .ok (.getfield 122, 3) := by decide +kernel
theorem dX11_fault_43 : decode cX11_fault 43 = .ok (.ireturn, 1) := by decide +kernel
theorem dX11_fault_44 : decode cX11_fault 44 = .ok (.iconst (-1), 1) := by decide +kernel
theorem dX11_fault_45 : decode cX11_fault 45 = .ok (.ireturn, 1) := by decide +kernel
set_option maxRecDepth 20000 in
theorem ggX11_step_X0_stands : GoodIn wsX11_step wsX0_stands := goodIn_r _ [6, 7, 41, 42, 43, 44, 45, 46, 47, 48, 49, 50, 51, 52, 53, 54, 55, 56, 57] (by decide +kernel) (by decide +kernel)
set_option maxRecDepth 20000 in
theorem gX11_step_X0_stands : GoodIn wsX11_step (wsV RX11 125 RX0 yX0_stands wsX0_stands) := goodIn_app (goodIn_of _ (by decide +kernel)) ggX11_step_X0_stands
set_option maxRecDepth 20000 in
theorem ggX11_step_X11_isSide : GoodIn wsX11_step wsX11_isSide := goodIn_r _ [11, 12, 13, 10, 14] (by decide +kernel) (by decide +kernel)
set_option maxRecDepth 20000 in
theorem gX11_step_X11_isSide : GoodIn wsX11_step (va_wsS RX11 129 yX11_isSide wsX11_isSide) := goodIn_app (goodIn_of _ (by decide +kernel)) ggX11_step_X11_isSide
set_option maxRecDepth 20000 in
theorem ggX11_step_X0_hasPlace : GoodIn wsX11_step wsX0_hasPlace := goodIn_r _ [18, 19, 13, 10, 14, 41, 42, 43, 44, 45, 46, 47, 48, 49, 50, 51, 52, 53, 54, 55, 56, 57] (by decide +kernel) (by decide +kernel)
set_option maxRecDepth 20000 in
theorem gX11_step_X0_hasPlace : GoodIn wsX11_step (wsV RX11 133 RX0 yX0_hasPlace wsX0_hasPlace) := goodIn_app (goodIn_of _ (by decide +kernel)) ggX11_step_X0_hasPlace
set_option maxRecDepth 20000 in
theorem ggX11_step_X0_stepAt : GoodIn wsX11_step wsX0_stepAt := goodIn_r _ [23, 24, 41, 42, 43, 44, 45, 46, 47, 48, 49, 50, 51, 52, 53, 54, 55, 56, 57] (by decide +kernel) (by decide +kernel)
set_option maxRecDepth 20000 in
theorem gX11_step_X0_stepAt : GoodIn wsX11_step (wsV RX11 137 RX0 yX0_stepAt wsX0_stepAt) := goodIn_app (goodIn_of _ (by decide +kernel)) ggX11_step_X0_stepAt
theorem dX11_step_0 : decode cX11_step 0 = .ok (.aload_n 0, 1) := by decide +kernel
theorem dX11_step_1 : decode cX11_step 1 = .ok (.getfield 24, 3) := by decide +kernel
theorem dX11_step_4 : decode cX11_step 4 = .ok (.invokevirtual 125, 3) := by decide +kernel
theorem dX11_step_7 : decode cX11_step 7 = .ok (.ifCond .eq 10, 3) := by decide +kernel
theorem dX11_step_10 : decode cX11_step 10 = .ok (.iload_n 1, 1) := by decide +kernel
theorem dX11_step_11 : decode cX11_step 11 = .ok (.invokestatic 129, 3) := by decide +kernel
theorem dX11_step_14 : decode cX11_step 14 = .ok (.ifCond .ne 6, 3) := by decide +kernel
theorem dX11_step_17 : decode cX11_step 17 = .ok (.bipush (-2), 2) := by decide +kernel
theorem dX11_step_19 : decode cX11_step 19 = .ok (.ireturn, 1) := by decide +kernel
theorem dX11_step_20 : decode cX11_step 20 = .ok (.aload_n 0, 1) := by decide +kernel
theorem dX11_step_21 : decode cX11_step 21 = .ok (.getfield 24, 3) := by decide +kernel
theorem dX11_step_24 : decode cX11_step 24 = .ok (.iload_n 1, 1) := by decide +kernel
theorem dX11_step_25 : decode cX11_step 25 = .ok (.iload_n 2, 1) := by decide +kernel
theorem dX11_step_26 : decode cX11_step 26 = .ok (.invokevirtual 133, 3) := by decide +kernel
theorem dX11_step_29 : decode cX11_step 29 = .ok (.ifCond .eq 15, 3) := by decide +kernel
theorem dX11_step_32 : decode cX11_step 32 = .ok (.aload_n 0, 1) := by decide +kernel
theorem dX11_step_33 : decode cX11_step 33 = .ok (.getfield 24, 3) := by decide +kernel
theorem dX11_step_36 : decode cX11_step 36 = .ok (.iload_n 1, 1) := by decide +kernel
theorem dX11_step_37 : decode cX11_step 37 = .ok (.iload_n 2, 1) := by decide +kernel
theorem dX11_step_38 : decode cX11_step 38 = .ok (.invokevirtual 137, 3) := by decide +kernel
theorem dX11_step_41 : decode cX11_step 41 = .ok (.goto 4, 3) := by decide +kernel
theorem dX11_step_44 : decode cX11_step 44 = .ok (.iconst (-1), 1) := by decide +kernel
theorem dX11_step_45 : decode cX11_step 45 = .ok (.ireturn, 1) := by decide +kernel
set_option maxRecDepth 20000 in
theorem ggX11_answers_X0_stands : GoodIn wsX11_answers wsX0_stands := goodIn_r _ [7, 8, 32, 33, 34, 35, 36, 37, 38, 39, 40, 41, 42, 43, 44, 45, 46, 47, 48] (by decide +kernel) (by decide +kernel)
set_option maxRecDepth 20000 in
theorem gX11_answers_X0_stands : GoodIn wsX11_answers (wsV RX11 125 RX0 yX0_stands wsX0_stands) := goodIn_app (goodIn_of _ (by decide +kernel)) ggX11_answers_X0_stands
set_option maxRecDepth 20000 in
theorem ggX11_answers_X11_isStep : GoodIn wsX11_answers wsX11_isStep := goodIn_r _ [12, 13, 14, 11, 15] (by decide +kernel) (by decide +kernel)
set_option maxRecDepth 20000 in
theorem gX11_answers_X11_isStep : GoodIn wsX11_answers (va_wsS RX11 141 yX11_isStep wsX11_isStep) := goodIn_app (goodIn_of _ (by decide +kernel)) ggX11_answers_X11_isStep
theorem dX11_answers_0 : decode cX11_answers 0 = .ok (.aload_n 0, 1) := by decide +kernel
theorem dX11_answers_1 : decode cX11_answers 1 = .ok (.getfield 24, 3) := by decide +kernel
theorem dX11_answers_4 : decode cX11_answers 4 = .ok (.invokevirtual 125, 3) := by decide +kernel
theorem dX11_answers_7 : decode cX11_answers 7 = .ok (.ifCond .eq 22, 3) := by decide +kernel
theorem dX11_answers_10 : decode cX11_answers 10 = .ok (.iload_n 1, 1) := by decide +kernel
theorem dX11_answers_11 : decode cX11_answers 11 = .ok (.invokestatic 141, 3) := by decide +kernel
theorem dX11_answers_14 : decode cX11_answers 14 = .ok (.ifCond .eq 15, 3) := by decide +kernel
theorem dX11_answers_17 : decode cX11_answers 17 = .ok (.aload_n 0, 1) := by decide +kernel
theorem dX11_answers_18 : decode cX11_answers 18 = .ok (.getfield 24, 3) := by decide +kernel
theorem dX11_answers_21 : decode cX11_answers 21 = .ok (.getfield 144, 3) := by decide +kernel
theorem dX11_answers_24 : decode cX11_answers 24 = .ok (.iload_n 1, 1) := by decide +kernel
theorem dX11_answers_25 : decode cX11_answers 25 = .ok (.iaload, 1) := by decide +kernel
theorem dX11_answers_26 : decode cX11_answers 26 = .ok (.goto 5, 3) := by decide +kernel
theorem dX11_answers_29 : decode cX11_answers 29 = .ok (.bipush (-2), 2) := by decide +kernel
theorem dX11_answers_31 : decode cX11_answers 31 = .ok (.ireturn, 1) := by decide +kernel
set_option maxRecDepth 20000 in
theorem ggX11_stumbled_X0_hasStumble : GoodIn wsX11_stumbled wsX0_hasStumble := goodIn_r _ [7, 8, 9, 10, 11, 29, 30, 31, 32, 33, 34, 35, 36, 37, 38, 39, 40, 41, 42, 43, 44, 45] (by decide +kernel) (by decide +kernel)
set_option maxRecDepth 20000 in
theorem gX11_stumbled_X0_hasStumble : GoodIn wsX11_stumbled (wsV RX11 147 RX0 yX0_hasStumble wsX0_hasStumble) := goodIn_app (goodIn_of _ (by decide +kernel)) ggX11_stumbled_X0_hasStumble
set_option maxRecDepth 20000 in
theorem ggX11_stumbled_X11_isWithin : GoodIn wsX11_stumbled wsX11_isWithin := goodIn_r _ [11] (by decide +kernel) (by decide +kernel)
set_option maxRecDepth 20000 in
theorem gX11_stumbled_X11_isWithin : GoodIn wsX11_stumbled (va_wsS RX11 150 yX11_isWithin wsX11_isWithin) := goodIn_app (goodIn_of _ (by decide +kernel)) ggX11_stumbled_X11_isWithin
theorem dX11_stumbled_0 : decode cX11_stumbled 0 = .ok (.aload_n 0, 1) := by decide +kernel
theorem dX11_stumbled_1 : decode cX11_stumbled 1 = .ok (.getfield 24, 3) := by decide +kernel
theorem dX11_stumbled_4 : decode cX11_stumbled 4 = .ok (.iload_n 1, 1) := by decide +kernel
theorem dX11_stumbled_5 : decode cX11_stumbled 5 = .ok (.invokevirtual 147, 3) := by decide +kernel
theorem dX11_stumbled_8 : decode cX11_stumbled 8 = .ok (.ifCond .eq 11, 3) := by decide +kernel
theorem dX11_stumbled_11 : decode cX11_stumbled 11 = .ok (.iload_n 2, 1) := by decide +kernel
theorem dX11_stumbled_12 : decode cX11_stumbled 12 = .ok (.iconst 4, 1) := by decide +kernel
theorem dX11_stumbled_13 : decode cX11_stumbled 13 = .ok (.invokestatic 150, 3) := by decide +kernel
theorem dX11_stumbled_16 : decode cX11_stumbled 16 = .ok (.ifCond .ne 6, 3) := by decide +kernel
theorem dX11_stumbled_19 : decode cX11_stumbled 19 = .ok (.bipush (-2), 2) := by decide +kernel
theorem dX11_stumbled_21 : decode cX11_stumbled 21 = .ok (.ireturn, 1) := by decide +kernel
theorem dX11_stumbled_22 : decode cX11_stumbled 22 = .ok (.aload_n 0, 1) := by decide +kernel
theorem dX11_stumbled_23 : decode cX11_stumbled 23 = .ok (.getfield 24, 3) := by decide +kernel
theorem dX11_stumbled_26 : decode cX11_stumbled 26 = .ok (.getfield 153, 3) := by decide +kernel
theorem dX11_stumbled_29 : decode cX11_stumbled 29 = .ok (.iload_n 1, 1) := by decide +kernel
theorem dX11_stumbled_30 : decode cX11_stumbled 30 = .ok (.iconst 4, 1) := by decide +kernel
theorem dX11_stumbled_31 : decode cX11_stumbled 31 = .ok (.imul, 1) := by decide +kernel
theorem dX11_stumbled_32 : decode cX11_stumbled 32 = .ok (.iload_n 2, 1) := by decide +kernel
theorem dX11_stumbled_33 : decode cX11_stumbled 33 = .ok (.iadd, 1) := by decide +kernel
theorem dX11_stumbled_34 : decode cX11_stumbled 34 = .ok (.iaload, 1) := by decide +kernel
theorem dX11_stumbled_35 : decode cX11_stumbled 35 = .ok (.ireturn, 1) := by decide +kernel
set_option maxRecDepth 20000 in
theorem ggX11_muddy_X0_stands : GoodIn wsX11_muddy wsX0_stands := goodIn_r _ [7, 8, 32, 33, 34, 35, 36, 37, 38, 39, 40, 41, 42, 43, 44, 45, 46, 47, 48] (by decide +kernel) (by decide +kernel)
set_option maxRecDepth 20000 in
theorem gX11_muddy_X0_stands : GoodIn wsX11_muddy (wsV RX11 125 RX0 yX0_stands wsX0_stands) := goodIn_app (goodIn_of _ (by decide +kernel)) ggX11_muddy_X0_stands
set_option maxRecDepth 20000 in
theorem ggX11_muddy_X11_isBeat : GoodIn wsX11_muddy wsX11_isBeat := goodIn_r _ [12, 13, 14, 11, 15] (by decide +kernel) (by decide +kernel)
set_option maxRecDepth 20000 in
theorem gX11_muddy_X11_isBeat : GoodIn wsX11_muddy (va_wsS RX11 156 yX11_isBeat wsX11_isBeat) := goodIn_app (goodIn_of _ (by decide +kernel)) ggX11_muddy_X11_isBeat
theorem dX11_muddy_0 : decode cX11_muddy 0 = .ok (.aload_n 0, 1) := by decide +kernel
theorem dX11_muddy_1 : decode cX11_muddy 1 = .ok (.getfield 24, 3) := by decide +kernel
theorem dX11_muddy_4 : decode cX11_muddy 4 = .ok (.invokevirtual 125, 3) := by decide +kernel
theorem dX11_muddy_7 : decode cX11_muddy 7 = .ok (.ifCond .eq 22, 3) := by decide +kernel
theorem dX11_muddy_10 : decode cX11_muddy 10 = .ok (.iload_n 1, 1) := by decide +kernel
theorem dX11_muddy_11 : decode cX11_muddy 11 = .ok (.invokestatic 156, 3) := by decide +kernel
theorem dX11_muddy_14 : decode cX11_muddy 14 = .ok (.ifCond .eq 15, 3) := by decide +kernel
theorem dX11_muddy_17 : decode cX11_muddy 17 = .ok (.aload_n 0, 1) := by decide +kernel
theorem dX11_muddy_18 : decode cX11_muddy 18 = .ok (.getfield 24, 3) := by decide +kernel
theorem dX11_muddy_21 : decode cX11_muddy 21 = .ok (.getfield 159, 3) := by decide +kernel
theorem dX11_muddy_24 : decode cX11_muddy 24 = .ok (.iload_n 1, 1) := by decide +kernel
theorem dX11_muddy_25 : decode cX11_muddy 25 = .ok (.iaload, 1) := by decide +kernel
theorem dX11_muddy_26 : decode cX11_muddy 26 = .ok (.goto 5, 3) := by decide +kernel
theorem dX11_muddy_29 : decode cX11_muddy 29 = .ok (.bipush (-2), 2) := by decide +kernel
theorem dX11_muddy_31 : decode cX11_muddy 31 = .ok (.ireturn, 1) := by decide +kernel
set_option maxRecDepth 20000 in
theorem ggX11_place_X11_has : GoodIn wsX11_place wsX11_has := goodIn_r _ [5, 6, 7, 8, 9, 10, 11, 12, 13, 14, 4, 15, 16, 17, 18, 19, 20, 21, 70, 71, 72, 73, 74, 75, 76, 77, 78, 79, 80, 81, 82, 83, 84, 85, 86, 87, 88, 89, 90, 91, 92, 93, 94, 95, 96, 97, 98, 99, 100, 101, 102] (by decide +kernel) (by decide +kernel)
set_option maxRecDepth 20000 in
theorem gX11_place_X11_has : GoodIn wsX11_place (wsV RX11 162 RX11 yX11_has wsX11_has) := goodIn_app (goodIn_of _ (by decide +kernel)) ggX11_place_X11_has
set_option maxRecDepth 20000 in
theorem ggX11_place_X11_plainFloor : GoodIn wsX11_place wsX11_plainFloor := goodIn_r _ [25, 26, 27, 6, 28, 29, 30, 31, 32, 33, 34, 35, 36, 37, 38, 39, 40, 41, 42, 43, 44, 45, 46, 47, 48, 49, 50, 51, 52, 53, 54, 55, 56, 57, 10, 58, 59, 60, 4, 61, 62, 63, 64, 65, 70, 71, 72, 73, 74, 75, 76, 77, 78, 79, 80, 81, 82, 83, 84, 85, 86, 87, 88, 89, 90, 91, 92, 93, 94, 95, 96, 97, 98, 99, 100, 101, 102, 103, 104, 105, 106, 107, 108] (by decide +kernel) (by decide +kernel)
set_option maxRecDepth 20000 in
theorem gX11_place_X11_plainFloor : GoodIn wsX11_place (wsV RX11 165 RX11 yX11_plainFloor wsX11_plainFloor) := goodIn_app (goodIn_of _ (by decide +kernel)) ggX11_place_X11_plainFloor
set_option maxRecDepth 20000 in
theorem ggX11_place_X1_placeOf : GoodIn wsX11_place wsX1_placeOf := goodIn_r _ [69, 52, 103, 104, 105, 106, 107, 108] (by decide +kernel) (by decide +kernel)
set_option maxRecDepth 20000 in
theorem gX11_place_X1_placeOf : GoodIn wsX11_place (wsV RX11 169 RX1 yX1_placeOf wsX1_placeOf) := goodIn_app (goodIn_of _ (by decide +kernel)) ggX11_place_X1_placeOf
theorem dX11_place_0 : decode cX11_place 0 = .ok (.aload_n 0, 1) := by decide +kernel
theorem dX11_place_1 : decode cX11_place 1 = .ok (.iload_n 1, 1) := by decide +kernel
theorem dX11_place_2 : decode cX11_place 2 = .ok (.iload_n 2, 1) := by decide +kernel
theorem dX11_place_3 : decode cX11_place 3 = .ok (.invokevirtual 162, 3) := by decide +kernel
theorem dX11_place_6 : decode cX11_place 6 = .ok (.ifCond .eq 15, 3) := by decide +kernel
theorem dX11_place_9 : decode cX11_place 9 = .ok (.aload_n 0, 1) := by decide +kernel
theorem dX11_place_10 : decode cX11_place 10 = .ok (.invokevirtual 165, 3) := by decide +kernel
theorem dX11_place_13 : decode cX11_place 13 = .ok (.iload_n 1, 1) := by decide +kernel
theorem dX11_place_14 : decode cX11_place 14 = .ok (.iload_n 2, 1) := by decide +kernel
theorem dX11_place_15 : decode cX11_place 15 = .ok (.invokevirtual 169, 3) := by decide +kernel
theorem dX11_place_18 : decode cX11_place 18 = .ok (.goto 5, 3) := by decide +kernel
theorem dX11_place_21 : decode cX11_place 21 = .ok (.bipush (-2), 2) := by decide +kernel
theorem dX11_place_23 : decode cX11_place 23 = .ok (.ireturn, 1) := by decide +kernel
set_option maxRecDepth 20000 in
theorem ggX11_danced_X11_has : GoodIn wsX11_danced wsX11_has := goodIn_r _ [5, 6, 7, 8, 9, 10, 11, 12, 13, 14, 4, 15, 16, 17, 18, 19, 20, 21, 70, 71, 72, 73, 74, 75, 76, 77, 78, 79, 80, 81, 82, 83, 84, 85, 86, 87, 88, 89, 90, 91, 92, 93, 94, 95, 96, 97, 98, 99, 100, 101, 102] (by decide +kernel) (by decide +kernel)
set_option maxRecDepth 20000 in
theorem gX11_danced_X11_has : GoodIn wsX11_danced (wsV RX11 162 RX11 yX11_has wsX11_has) := goodIn_app (goodIn_of _ (by decide +kernel)) ggX11_danced_X11_has
set_option maxRecDepth 20000 in
theorem ggX11_danced_X11_plainFloor : GoodIn wsX11_danced wsX11_plainFloor := goodIn_r _ [25, 26, 27, 6, 28, 29, 30, 31, 32, 33, 34, 35, 36, 37, 38, 39, 40, 41, 42, 43, 44, 45, 46, 47, 48, 49, 50, 51, 52, 53, 54, 55, 56, 57, 10, 58, 59, 60, 4, 61, 62, 63, 64, 65, 70, 71, 72, 73, 74, 75, 76, 77, 78, 79, 80, 81, 82, 83, 84, 85, 86, 87, 88, 89, 90, 91, 92, 93, 94, 95, 96, 97, 98, 99, 100, 101, 102, 103, 104, 105, 106, 107, 108] (by decide +kernel) (by decide +kernel)
set_option maxRecDepth 20000 in
theorem gX11_danced_X11_plainFloor : GoodIn wsX11_danced (wsV RX11 165 RX11 yX11_plainFloor wsX11_plainFloor) := goodIn_app (goodIn_of _ (by decide +kernel)) ggX11_danced_X11_plainFloor
set_option maxRecDepth 20000 in
theorem ggX11_danced_X1_stepOf : GoodIn wsX11_danced wsX1_stepOf := goodIn_r _ [69, 53, 103, 104, 105, 106, 107, 108] (by decide +kernel) (by decide +kernel)
set_option maxRecDepth 20000 in
theorem gX11_danced_X1_stepOf : GoodIn wsX11_danced (wsV RX11 172 RX1 yX1_stepOf wsX1_stepOf) := goodIn_app (goodIn_of _ (by decide +kernel)) ggX11_danced_X1_stepOf
theorem dX11_danced_0 : decode cX11_danced 0 = .ok (.aload_n 0, 1) := by decide +kernel
theorem dX11_danced_1 : decode cX11_danced 1 = .ok (.iload_n 1, 1) := by decide +kernel
theorem dX11_danced_2 : decode cX11_danced 2 = .ok (.iload_n 2, 1) := by decide +kernel
theorem dX11_danced_3 : decode cX11_danced 3 = .ok (.invokevirtual 162, 3) := by decide +kernel
theorem dX11_danced_6 : decode cX11_danced 6 = .ok (.ifCond .eq 15, 3) := by decide +kernel
theorem dX11_danced_9 : decode cX11_danced 9 = .ok (.aload_n 0, 1) := by decide +kernel
theorem dX11_danced_10 : decode cX11_danced 10 = .ok (.invokevirtual 165, 3) := by decide +kernel
theorem dX11_danced_13 : decode cX11_danced 13 = .ok (.iload_n 1, 1) := by decide +kernel
theorem dX11_danced_14 : decode cX11_danced 14 = .ok (.iload_n 2, 1) := by decide +kernel
theorem dX11_danced_15 : decode cX11_danced 15 = .ok (.invokevirtual 172, 3) := by decide +kernel
theorem dX11_danced_18 : decode cX11_danced 18 = .ok (.goto 5, 3) := by decide +kernel
theorem dX11_danced_21 : decode cX11_danced 21 = .ok (.bipush (-2), 2) := by decide +kernel
theorem dX11_danced_23 : decode cX11_danced 23 = .ok (.ireturn, 1) := by decide +kernel
set_option maxRecDepth 20000 in
theorem ggX11_hears_X11_has : GoodIn wsX11_hears wsX11_has := goodIn_r _ [5, 6, 7, 8, 9, 10, 11, 12, 13, 14, 4, 15, 16, 17, 18, 19, 20, 21, 74, 75, 76, 77, 78, 79, 80, 81, 82, 83, 84, 85, 86, 87, 88, 89, 90, 91, 92, 93, 94, 95, 96, 97, 98, 99, 100, 101, 102, 103, 104, 105, 106] (by decide +kernel) (by decide +kernel)
set_option maxRecDepth 20000 in
theorem gX11_hears_X11_has : GoodIn wsX11_hears (wsV RX11 162 RX11 yX11_has wsX11_has) := goodIn_app (goodIn_of _ (by decide +kernel)) ggX11_hears_X11_has
set_option maxRecDepth 20000 in
theorem ggX11_hears_X11_plainFloor : GoodIn wsX11_hears wsX11_plainFloor := goodIn_r _ [25, 26, 27, 6, 28, 29, 30, 31, 32, 33, 34, 35, 36, 37, 38, 39, 40, 41, 42, 43, 44, 45, 46, 47, 48, 49, 50, 51, 52, 53, 54, 55, 56, 57, 10, 58, 59, 60, 4, 61, 62, 63, 64, 65, 74, 75, 76, 77, 78, 79, 80, 81, 82, 83, 84, 85, 86, 87, 88, 89, 90, 91, 92, 93, 94, 95, 96, 97, 98, 99, 100, 101, 102, 103, 104, 105, 106, 107, 108, 109, 110, 111, 112] (by decide +kernel) (by decide +kernel)
set_option maxRecDepth 20000 in
theorem gX11_hears_X11_plainFloor : GoodIn wsX11_hears (wsV RX11 165 RX11 yX11_plainFloor wsX11_plainFloor) := goodIn_app (goodIn_of _ (by decide +kernel)) ggX11_hears_X11_plainFloor
set_option maxRecDepth 20000 in
theorem ggX11_hears_X1_heardBy : GoodIn wsX11_hears wsX1_heardBy := goodIn_r _ [69, 34, 70, 71, 72, 31, 73, 53, 107, 108, 109, 110, 111, 112] (by decide +kernel) (by decide +kernel)
set_option maxRecDepth 20000 in
theorem gX11_hears_X1_heardBy : GoodIn wsX11_hears (wsV RX11 175 RX1 yX1_heardBy wsX1_heardBy) := goodIn_app (goodIn_of _ (by decide +kernel)) ggX11_hears_X1_heardBy
theorem dX11_hears_0 : decode cX11_hears 0 = .ok (.aload_n 0, 1) := by decide +kernel
theorem dX11_hears_1 : decode cX11_hears 1 = .ok (.iload_n 1, 1) := by decide +kernel
theorem dX11_hears_2 : decode cX11_hears 2 = .ok (.iload_n 2, 1) := by decide +kernel
theorem dX11_hears_3 : decode cX11_hears 3 = .ok (.invokevirtual 162, 3) := by decide +kernel
theorem dX11_hears_6 : decode cX11_hears 6 = .ok (.ifCond .eq 15, 3) := by decide +kernel
theorem dX11_hears_9 : decode cX11_hears 9 = .ok (.aload_n 0, 1) := by decide +kernel
theorem dX11_hears_10 : decode cX11_hears 10 = .ok (.invokevirtual 165, 3) := by decide +kernel
theorem dX11_hears_13 : decode cX11_hears 13 = .ok (.iload_n 1, 1) := by decide +kernel
theorem dX11_hears_14 : decode cX11_hears 14 = .ok (.iload_n 2, 1) := by decide +kernel
theorem dX11_hears_15 : decode cX11_hears 15 = .ok (.invokevirtual 175, 3) := by decide +kernel
theorem dX11_hears_18 : decode cX11_hears 18 = .ok (.goto 5, 3) := by decide +kernel
theorem dX11_hears_21 : decode cX11_hears 21 = .ok (.bipush (-2), 2) := by decide +kernel
theorem dX11_hears_23 : decode cX11_hears 23 = .ok (.ireturn, 1) := by decide +kernel
set_option maxRecDepth 20000 in
theorem ggX11_late_X11_has : GoodIn wsX11_late wsX11_has := goodIn_r _ [8, 1, 9, 10, 11, 12, 13, 14, 15, 16, 7, 17, 18, 19, 20, 21, 22, 23, 73, 74, 75, 76, 77, 78, 79, 80, 81, 82, 83, 84, 85, 86, 87, 88, 89, 90, 91, 92, 93, 94, 95, 96, 97, 98, 99, 100, 101, 102, 103, 104, 105] (by decide +kernel) (by decide +kernel)
set_option maxRecDepth 20000 in
theorem gX11_late_X11_has : GoodIn wsX11_late (wsV RX11 162 RX11 yX11_has wsX11_has) := goodIn_app (goodIn_of _ (by decide +kernel)) ggX11_late_X11_has
set_option maxRecDepth 20000 in
theorem ggX11_late_X11_plainFloor : GoodIn wsX11_late wsX11_plainFloor := goodIn_r _ [27, 28, 29, 1, 30, 31, 32, 33, 34, 35, 36, 37, 38, 39, 40, 41, 42, 43, 44, 45, 46, 47, 48, 49, 50, 51, 52, 53, 54, 55, 56, 57, 58, 59, 12, 60, 61, 62, 7, 63, 64, 65, 66, 67, 73, 74, 75, 76, 77, 78, 79, 80, 81, 82, 83, 84, 85, 86, 87, 88, 89, 90, 91, 92, 93, 94, 95, 96, 97, 98, 99, 100, 101, 102, 103, 104, 105, 106, 107, 108, 109, 110, 111] (by decide +kernel) (by decide +kernel)
set_option maxRecDepth 20000 in
theorem gX11_late_X11_plainFloor : GoodIn wsX11_late (wsV RX11 165 RX11 yX11_plainFloor wsX11_plainFloor) := goodIn_app (goodIn_of _ (by decide +kernel)) ggX11_late_X11_plainFloor
set_option maxRecDepth 20000 in
theorem ggX11_late_X1_placeOf : GoodIn wsX11_late wsX1_placeOf := goodIn_r _ [71, 54, 106, 107, 108, 109, 110, 111] (by decide +kernel) (by decide +kernel)
set_option maxRecDepth 20000 in
theorem gX11_late_X1_placeOf : GoodIn wsX11_late (wsV RX11 169 RX1 yX1_placeOf wsX1_placeOf) := goodIn_app (goodIn_of _ (by decide +kernel)) ggX11_late_X1_placeOf
set_option maxRecDepth 20000 in
theorem ggX11_late_X11_wrap : GoodIn wsX11_late wsX11_wrap := goodIn_r _ [63, 64, 65, 66, 67] (by decide +kernel) (by decide +kernel)
set_option maxRecDepth 20000 in
theorem gX11_late_X11_wrap : GoodIn wsX11_late (va_wsS RX11 184 yX11_wrap wsX11_wrap) := goodIn_app (goodIn_of _ (by decide +kernel)) ggX11_late_X11_wrap
theorem dX11_late_0 : decode cX11_late 0 = .ok (.aload_n 0, 1) := by decide +kernel
theorem dX11_late_1 : decode cX11_late 1 = .ok (.iload_n 1, 1) := by decide +kernel
theorem dX11_late_2 : decode cX11_late 2 = .ok (.iload_n 2, 1) := by decide +kernel
theorem dX11_late_3 : decode cX11_late 3 = .ok (.invokevirtual 162, 3) := by decide +kernel
theorem dX11_late_6 : decode cX11_late 6 = .ok (.ifCond .ne 6, 3) := by decide +kernel
theorem dX11_late_9 : decode cX11_late 9 = .ok (.bipush (-2), 2) := by decide +kernel
theorem dX11_late_11 : decode cX11_late 11 = .ok (.ireturn, 1) := by decide +kernel
theorem dX11_late_12 : decode cX11_late 12 = .ok (.aload_n 0, 1) := by decide +kernel
theorem dX11_late_13 : decode cX11_late 13 = .ok (.getfield 24, 3) := by decide +kernel
theorem dX11_late_16 : decode cX11_late 16 = .ok (.getfield 178, 3) := by decide +kernel
theorem dX11_late_19 : decode cX11_late 19 = .ok (.iload_n 1, 1) := by decide +kernel
theorem dX11_late_20 : decode cX11_late 20 = .ok (.iaload, 1) := by decide +kernel
theorem dX11_late_21 : decode cX11_late 21 = .ok (.istore_n 3, 1) := by decide +kernel
theorem dX11_late_22 : decode cX11_late 22 = .ok (.iload_n 3, 1) := by decide +kernel
theorem dX11_late_23 : decode cX11_late 23 = .ok (.ifCond .ne 5, 3) := by decide +kernel
theorem dX11_late_26 : decode cX11_late 26 = .ok (.iconst (-1), 1) := by decide +kernel
theorem dX11_late_27 : decode cX11_late 27 = .ok (.ireturn, 1) := by decide +kernel
theorem dX11_late_28 : decode cX11_late 28 = .ok (.aload_n 0, 1) := by decide +kernel
theorem dX11_late_29 : decode cX11_late 29 = .ok (.getfield 24, 3) := by decide +kernel
theorem dX11_late_32 : decode cX11_late 32 = .ok (.getfield 181, 3) := by decide +kernel
theorem dX11_late_35 : decode cX11_late 35 = .ok (.iload_n 1, 1) := by decide +kernel
theorem dX11_late_36 : decode cX11_late 36 = .ok (.iaload, 1) := by decide +kernel
theorem dX11_late_37 : decode cX11_late 37 = .ok (.iload_n 2, 1) := by decide +kernel
theorem dX11_late_38 : decode cX11_late 38 = .ok (.iadd, 1) := by decide +kernel
theorem dX11_late_39 : decode cX11_late 39 = .ok (.aload_n 0, 1) := by decide +kernel
theorem dX11_late_40 : decode cX11_late 40 = .ok (.invokevirtual 165, 3) := by decide +kernel
theorem dX11_late_43 : decode cX11_late 43 = .ok (.iload_n 1, 1) := by decide +kernel
theorem dX11_late_44 : decode cX11_late 44 = .ok (.iload_n 2, 1) := by decide +kernel
theorem dX11_late_45 : decode cX11_late 45 = .ok (.invokevirtual 169, 3) := by decide +kernel
theorem dX11_late_48 : decode cX11_late 48 = .ok (.isub, 1) := by decide +kernel
theorem dX11_late_49 : decode cX11_late 49 = .ok (.iload_n 3, 1) := by decide +kernel
theorem dX11_late_50 : decode cX11_late 50 = .ok (.invokestatic 184, 3) := by decide +kernel
theorem dX11_late_53 : decode cX11_late 53 = .ok (.ireturn, 1) := by decide +kernel
set_option maxRecDepth 20000 in
theorem ggX11_hole_X11_has : GoodIn wsX11_hole wsX11_has := goodIn_r _ [6, 1, 7, 8, 9, 10, 11, 12, 13, 14, 5, 15, 16, 17, 18, 19, 20, 21, 87, 88, 89, 90, 91, 92, 93, 94, 95, 96, 97, 98, 99, 100, 101, 102, 103, 104, 105, 106, 107, 108, 109, 110, 111, 112, 113, 114, 115, 116, 117, 118, 119] (by decide +kernel) (by decide +kernel)
set_option maxRecDepth 20000 in
theorem gX11_hole_X11_has : GoodIn wsX11_hole (wsV RX11 162 RX11 yX11_has wsX11_has) := goodIn_app (goodIn_of _ (by decide +kernel)) ggX11_hole_X11_has
set_option maxRecDepth 20000 in
theorem ggX11_hole_X11_plainFloor : GoodIn wsX11_hole wsX11_plainFloor := goodIn_r _ [25, 26, 27, 1, 28, 29, 30, 31, 32, 33, 34, 35, 36, 37, 38, 39, 40, 41, 42, 43, 44, 45, 46, 47, 48, 49, 50, 51, 52, 53, 54, 55, 56, 57, 10, 58, 59, 60, 5, 61, 62, 63, 64, 65, 87, 88, 89, 90, 91, 92, 93, 94, 95, 96, 97, 98, 99, 100, 101, 102, 103, 104, 105, 106, 107, 108, 109, 110, 111, 112, 113, 114, 115, 116, 117, 118, 119, 120, 121, 122, 123, 124, 125] (by decide +kernel) (by decide +kernel)
set_option maxRecDepth 20000 in
theorem gX11_hole_X11_plainFloor : GoodIn wsX11_hole (wsV RX11 165 RX11 yX11_plainFloor wsX11_plainFloor) := goodIn_app (goodIn_of _ (by decide +kernel)) ggX11_hole_X11_plainFloor
set_option maxRecDepth 20000 in
theorem ggX11_hole_X1_gapes : GoodIn wsX11_hole wsX1_gapes := goodIn_r _ [69, 70, 71, 72, 31, 73, 53, 74, 75, 76, 77, 34, 78, 79, 80, 10, 81, 82, 83, 84, 85, 86, 120, 121, 122, 123, 124, 125, 103, 104, 105, 106, 107, 108, 109, 110, 111, 112, 113, 114, 115, 116, 117, 118, 119] (by decide +kernel) (by decide +kernel)
set_option maxRecDepth 20000 in
theorem gX11_hole_X1_gapes : GoodIn wsX11_hole (wsV RX11 187 RX1 yX1_gapes wsX1_gapes) := goodIn_app (goodIn_of _ (by decide +kernel)) ggX11_hole_X1_gapes
theorem dX11_hole_0 : decode cX11_hole 0 = .ok (.aload_n 0, 1) := by decide +kernel
theorem dX11_hole_1 : decode cX11_hole 1 = .ok (.iload_n 1, 1) := by decide +kernel
theorem dX11_hole_2 : decode cX11_hole 2 = .ok (.iload_n 2, 1) := by decide +kernel
theorem dX11_hole_3 : decode cX11_hole 3 = .ok (.invokevirtual 162, 3) := by decide +kernel
theorem dX11_hole_6 : decode cX11_hole 6 = .ok (.ifCond .ne 6, 3) := by decide +kernel
theorem dX11_hole_9 : decode cX11_hole 9 = .ok (.bipush (-2), 2) := by decide +kernel
theorem dX11_hole_11 : decode cX11_hole 11 = .ok (.ireturn, 1) := by decide +kernel
theorem dX11_hole_12 : decode cX11_hole 12 = .ok (.aload_n 0, 1) := by decide +kernel
theorem dX11_hole_13 : decode cX11_hole 13 = .ok (.invokevirtual 165, 3) := by decide +kernel
theorem dX11_hole_16 : decode cX11_hole 16 = .ok (.aload_n 0, 1) := by decide +kernel
theorem dX11_hole_17 : decode cX11_hole 17 = .ok (.getfield 24, 3) := by decide +kernel
theorem dX11_hole_20 : decode cX11_hole 20 = .ok (.iload_n 1, 1) := by decide +kernel
theorem dX11_hole_21 : decode cX11_hole 21 = .ok (.iload_n 2, 1) := by decide +kernel
theorem dX11_hole_22 : decode cX11_hole 22 = .ok (.invokevirtual 187, 3) := by decide +kernel
theorem dX11_hole_25 : decode cX11_hole 25 = .ok (.ifCond .eq 7, 3) := by decide +kernel
theorem dX11_hole_28 : decode cX11_hole 28 = .ok (.iconst 1, 1) := by decide +kernel
theorem dX11_hole_29 : decode cX11_hole 29 = .ok (.goto 4, 3) := by decide +kernel
theorem dX11_hole_32 : decode cX11_hole 32 = .ok (.iconst 0, 1) := by decide +kernel
theorem dX11_hole_33 : decode cX11_hole 33 = .ok (.ireturn, 1) := by decide +kernel
set_option maxRecDepth 20000 in
theorem ggX11_next_X11_has : GoodIn wsX11_next wsX11_has := goodIn_r _ [6, 1, 7, 8, 9, 10, 11, 12, 13, 14, 5, 15, 16, 17, 18, 19, 20, 21, 87, 88, 89, 90, 91, 92, 93, 94, 95, 96, 97, 98, 99, 100, 101, 102, 103, 104, 105, 106, 107, 108, 109, 110, 111, 112, 113, 114, 115, 116, 117, 118, 119] (by decide +kernel) (by decide +kernel)
set_option maxRecDepth 20000 in
theorem gX11_next_X11_has : GoodIn wsX11_next (wsV RX11 162 RX11 yX11_has wsX11_has) := goodIn_app (goodIn_of _ (by decide +kernel)) ggX11_next_X11_has
set_option maxRecDepth 20000 in
theorem ggX11_next_X11_plainFloor : GoodIn wsX11_next wsX11_plainFloor := goodIn_r _ [25, 26, 27, 1, 28, 29, 30, 31, 32, 33, 34, 35, 36, 37, 38, 39, 40, 41, 42, 43, 44, 45, 46, 47, 48, 49, 50, 51, 52, 53, 54, 55, 56, 57, 10, 58, 59, 60, 5, 61, 62, 63, 64, 65, 87, 88, 89, 90, 91, 92, 93, 94, 95, 96, 97, 98, 99, 100, 101, 102, 103, 104, 105, 106, 107, 108, 109, 110, 111, 112, 113, 114, 115, 116, 117, 118, 119, 120, 121, 122, 123, 124, 125] (by decide +kernel) (by decide +kernel)
set_option maxRecDepth 20000 in
theorem gX11_next_X11_plainFloor : GoodIn wsX11_next (wsV RX11 165 RX11 yX11_plainFloor wsX11_plainFloor) := goodIn_app (goodIn_of _ (by decide +kernel)) ggX11_next_X11_plainFloor
set_option maxRecDepth 20000 in
theorem ggX11_next_X1_gapes : GoodIn wsX11_next wsX1_gapes := goodIn_r _ [69, 70, 71, 72, 31, 73, 53, 74, 75, 76, 77, 34, 78, 79, 80, 10, 81, 82, 83, 84, 85, 86, 120, 121, 122, 123, 124, 125, 103, 104, 105, 106, 107, 108, 109, 110, 111, 112, 113, 114, 115, 116, 117, 118, 119] (by decide +kernel) (by decide +kernel)
set_option maxRecDepth 20000 in
theorem gX11_next_X1_gapes : GoodIn wsX11_next (wsV RX11 187 RX1 yX1_gapes wsX1_gapes) := goodIn_app (goodIn_of _ (by decide +kernel)) ggX11_next_X1_gapes
theorem dX11_next_0 : decode cX11_next 0 = .ok (.aload_n 0, 1) := by decide +kernel
theorem dX11_next_1 : decode cX11_next 1 = .ok (.iload_n 1, 1) := by decide +kernel
theorem dX11_next_2 : decode cX11_next 2 = .ok (.iload_n 2, 1) := by decide +kernel
theorem dX11_next_3 : decode cX11_next 3 = .ok (.invokevirtual 162, 3) := by decide +kernel
theorem dX11_next_6 : decode cX11_next 6 = .ok (.ifCond .ne 6, 3) := by decide +kernel
theorem dX11_next_9 : decode cX11_next 9 = .ok (.bipush (-2), 2) := by decide +kernel
theorem dX11_next_11 : decode cX11_next 11 = .ok (.ireturn, 1) := by decide +kernel
theorem dX11_next_12 : decode cX11_next 12 = .ok (.aload_n 0, 1) := by decide +kernel
theorem dX11_next_13 : decode cX11_next 13 = .ok (.invokevirtual 165, 3) := by decide +kernel
theorem dX11_next_16 : decode cX11_next 16 = .ok (.astore_n 3, 1) := by decide +kernel
theorem dX11_next_17 : decode cX11_next 17 = .ok (.iload_n 2, 1) := by decide +kernel
theorem dX11_next_18 : decode cX11_next 18 = .ok (.istore 4, 2) := by decide +kernel
theorem dX11_next_20 : decode cX11_next 20 = .ok (.iload 4, 2) := by decide +kernel
theorem dX11_next_22 : decode cX11_next 22 = .ok (.sipush 200, 3) := by decide +kernel
theorem dX11_next_25 : decode cX11_next 25 = .ok (.if_icmp .ge 26, 3) := by decide +kernel
theorem dX11_next_28 : decode cX11_next 28 = .ok (.aload_n 3, 1) := by decide +kernel
theorem dX11_next_29 : decode cX11_next 29 = .ok (.aload_n 0, 1) := by decide +kernel
theorem dX11_next_30 : decode cX11_next 30 = .ok (.getfield 24, 3) := by decide +kernel
theorem dX11_next_33 : decode cX11_next 33 = .ok (.iload_n 1, 1) := by decide +kernel
theorem dX11_next_34 : decode cX11_next 34 = .ok (.iload 4, 2) := by decide +kernel
theorem dX11_next_36 : decode cX11_next 36 = .ok (.invokevirtual 187, 3) := by decide +kernel
theorem dX11_next_39 : decode cX11_next 39 = .ok (.ifCond .eq 6, 3) := by decide +kernel
theorem dX11_next_42 : decode cX11_next 42 = .ok (.iload 4, 2) := by decide +kernel
theorem dX11_next_44 : decode cX11_next 44 = .ok (.ireturn, 1) := by decide +kernel
theorem dX11_next_45 : decode cX11_next 45 = .ok (.iinc 4 1, 3) := by decide +kernel
theorem dX11_next_48 : decode cX11_next 48 = .ok (.goto (-28), 3) := by decide +kernel
theorem dX11_next_51 : decode cX11_next 51 = .ok (.iconst (-1), 1) := by decide +kernel
theorem dX11_next_52 : decode cX11_next 52 = .ok (.ireturn, 1) := by decide +kernel
set_option maxRecDepth 20000 in
theorem ggX11_holes_X11_isSide : GoodIn wsX11_holes wsX11_isSide := goodIn_r _ [5, 6, 7, 4, 8] (by decide +kernel) (by decide +kernel)
set_option maxRecDepth 20000 in
theorem gX11_holes_X11_isSide : GoodIn wsX11_holes (va_wsS RX11 129 yX11_isSide wsX11_isSide) := goodIn_app (goodIn_of _ (by decide +kernel)) ggX11_holes_X11_isSide
set_option maxRecDepth 20000 in
theorem ggX11_holes_X11_hasSpan : GoodIn wsX11_holes wsX11_hasSpan := goodIn_r _ [12, 1, 13, 14, 15, 16, 17, 18, 19, 20, 4, 21, 6, 7, 8, 91, 92, 93, 94, 95, 96, 97, 98, 99, 100, 101, 102, 103, 104, 105, 106, 107, 108, 109, 110, 111, 112, 113, 114, 115, 116, 117, 118, 119, 120, 121, 122, 123] (by decide +kernel) (by decide +kernel)
set_option maxRecDepth 20000 in
theorem gX11_holes_X11_hasSpan : GoodIn wsX11_holes (wsV RX11 191 RX11 yX11_hasSpan wsX11_hasSpan) := goodIn_app (goodIn_of _ (by decide +kernel)) ggX11_holes_X11_hasSpan
set_option maxRecDepth 20000 in
theorem ggX11_holes_X11_plainFloor : GoodIn wsX11_holes wsX11_plainFloor := goodIn_r _ [25, 26, 27, 1, 28, 29, 30, 31, 32, 33, 34, 35, 36, 37, 38, 39, 40, 41, 42, 43, 44, 45, 46, 47, 48, 49, 50, 51, 52, 53, 54, 55, 56, 57, 16, 58, 59, 60, 4, 61, 62, 63, 64, 65, 91, 92, 93, 94, 95, 96, 97, 98, 99, 100, 101, 102, 103, 104, 105, 106, 107, 108, 109, 110, 111, 112, 113, 114, 115, 116, 117, 118, 119, 120, 121, 122, 123, 124, 125, 126, 127, 128, 129] (by decide +kernel) (by decide +kernel)
set_option maxRecDepth 20000 in
theorem gX11_holes_X11_plainFloor : GoodIn wsX11_holes (wsV RX11 165 RX11 yX11_plainFloor wsX11_plainFloor) := goodIn_app (goodIn_of _ (by decide +kernel)) ggX11_holes_X11_plainFloor
set_option maxRecDepth 20000 in
theorem ggX11_holes_X1_countHoles : GoodIn wsX11_holes wsX1_countHoles := goodIn_r _ [69, 70, 71, 72, 31, 73, 74, 75, 76, 77, 53, 78, 79, 80, 81, 34, 82, 83, 84, 16, 85, 86, 87, 88, 89, 90, 124, 125, 126, 127, 128, 129, 107, 108, 109, 110, 111, 112, 113, 114, 115, 116, 117, 118, 119, 120, 121, 122, 123] (by decide +kernel) (by decide +kernel)
set_option maxRecDepth 20000 in
theorem gX11_holes_X1_countHoles : GoodIn wsX11_holes (wsV RX11 194 RX1 yX1_countHoles wsX1_countHoles) := goodIn_app (goodIn_of _ (by decide +kernel)) ggX11_holes_X1_countHoles
theorem dX11_holes_0 : decode cX11_holes 0 = .ok (.iload_n 1, 1) := by decide +kernel
theorem dX11_holes_1 : decode cX11_holes 1 = .ok (.invokestatic 129, 3) := by decide +kernel
theorem dX11_holes_4 : decode cX11_holes 4 = .ok (.ifCond .eq 12, 3) := by decide +kernel
theorem dX11_holes_7 : decode cX11_holes 7 = .ok (.aload_n 0, 1) := by decide +kernel
theorem dX11_holes_8 : decode cX11_holes 8 = .ok (.iload_n 2, 1) := by decide +kernel
theorem dX11_holes_9 : decode cX11_holes 9 = .ok (.iload_n 3, 1) := by decide +kernel
theorem dX11_holes_10 : decode cX11_holes 10 = .ok (.invokevirtual 191, 3) := by decide +kernel
theorem dX11_holes_13 : decode cX11_holes 13 = .ok (.ifCond .ne 6, 3) := by decide +kernel
theorem dX11_holes_16 : decode cX11_holes 16 = .ok (.bipush (-2), 2) := by decide +kernel
theorem dX11_holes_18 : decode cX11_holes 18 = .ok (.ireturn, 1) := by decide +kernel
theorem dX11_holes_19 : decode cX11_holes 19 = .ok (.aload_n 0, 1) := by decide +kernel
theorem dX11_holes_20 : decode cX11_holes 20 = .ok (.invokevirtual 165, 3) := by decide +kernel
theorem dX11_holes_23 : decode cX11_holes 23 = .ok (.aload_n 0, 1) := by decide +kernel
theorem dX11_holes_24 : decode cX11_holes 24 = .ok (.getfield 24, 3) := by decide +kernel
theorem dX11_holes_27 : decode cX11_holes 27 = .ok (.iload_n 1, 1) := by decide +kernel
theorem dX11_holes_28 : decode cX11_holes 28 = .ok (.iload_n 2, 1) := by decide +kernel
theorem dX11_holes_29 : decode cX11_holes 29 = .ok (.iload_n 3, 1) := by decide +kernel
theorem dX11_holes_30 : decode cX11_holes 30 = .ok (.invokevirtual 194, 3) := by decide +kernel
theorem dX11_holes_33 : decode cX11_holes 33 = .ok (.ireturn, 1) := by decide +kernel
set_option maxRecDepth 20000 in
theorem ggX11_run_X11_hasSpan : GoodIn wsX11_run wsX11_hasSpan := goodIn_r _ [8, 1, 9, 10, 11, 12, 13, 14, 15, 16, 7, 17, 18, 19, 20, 91, 92, 93, 94, 95, 96, 97, 98, 99, 100, 101, 102, 103, 104, 105, 106, 113, 114, 115, 116, 117, 118, 119, 120, 121, 122, 123, 124, 125, 126, 127, 128, 129] (by decide +kernel) (by decide +kernel)
set_option maxRecDepth 20000 in
theorem gX11_run_X11_hasSpan : GoodIn wsX11_run (wsV RX11 191 RX11 yX11_hasSpan wsX11_hasSpan) := goodIn_app (goodIn_of _ (by decide +kernel)) ggX11_run_X11_hasSpan
set_option maxRecDepth 20000 in
theorem ggX11_run_X11_plainFloor : GoodIn wsX11_run wsX11_plainFloor := goodIn_r _ [24, 25, 2, 1, 26, 27, 28, 29, 30, 31, 32, 33, 34, 35, 36, 37, 38, 39, 40, 41, 42, 43, 44, 45, 46, 47, 48, 49, 50, 51, 52, 53, 54, 55, 12, 56, 57, 58, 7, 59, 60, 61, 62, 63, 91, 92, 93, 94, 95, 96, 97, 98, 99, 100, 101, 102, 103, 104, 105, 106, 113, 114, 115, 116, 117, 118, 119, 120, 121, 122, 123, 124, 125, 126, 127, 128, 129, 107, 108, 109, 110, 111, 112] (by decide +kernel) (by decide +kernel)
set_option maxRecDepth 20000 in
theorem gX11_run_X11_plainFloor : GoodIn wsX11_run (wsV RX11 165 RX11 yX11_plainFloor wsX11_plainFloor) := goodIn_app (goodIn_of _ (by decide +kernel)) ggX11_run_X11_plainFloor
set_option maxRecDepth 20000 in
theorem ggX11_run_X1_findCalm : GoodIn wsX11_run wsX1_findCalm := goodIn_r _ [67, 68, 69, 70, 71, 72, 29, 73, 74, 75, 76, 77, 51, 78, 79, 80, 81, 32, 82, 83, 84, 12, 85, 86, 87, 88, 89, 90, 107, 108, 109, 110, 111, 112, 113, 114, 115, 116, 117, 118, 119, 120, 121, 122, 123, 124, 125, 126, 127, 128, 129] (by decide +kernel) (by decide +kernel)
set_option maxRecDepth 20000 in
theorem gX11_run_X1_findCalm : GoodIn wsX11_run (wsV RX11 198 RX1 yX1_findCalm wsX1_findCalm) := goodIn_app (goodIn_of _ (by decide +kernel)) ggX11_run_X1_findCalm
theorem dX11_run_0 : decode cX11_run 0 = .ok (.aload_n 0, 1) := by decide +kernel
theorem dX11_run_1 : decode cX11_run 1 = .ok (.iload_n 1, 1) := by decide +kernel
theorem dX11_run_2 : decode cX11_run 2 = .ok (.iload_n 2, 1) := by decide +kernel
theorem dX11_run_3 : decode cX11_run 3 = .ok (.invokevirtual 191, 3) := by decide +kernel
theorem dX11_run_6 : decode cX11_run 6 = .ok (.ifCond .ne 6, 3) := by decide +kernel
theorem dX11_run_9 : decode cX11_run 9 = .ok (.bipush (-2), 2) := by decide +kernel
theorem dX11_run_11 : decode cX11_run 11 = .ok (.ireturn, 1) := by decide +kernel
theorem dX11_run_12 : decode cX11_run 12 = .ok (.aload_n 0, 1) := by decide +kernel
theorem dX11_run_13 : decode cX11_run 13 = .ok (.invokevirtual 165, 3) := by decide +kernel
theorem dX11_run_16 : decode cX11_run 16 = .ok (.aload_n 0, 1) := by decide +kernel
theorem dX11_run_17 : decode cX11_run 17 = .ok (.getfield 24, 3) := by decide +kernel
theorem dX11_run_20 : decode cX11_run 20 = .ok (.iload_n 1, 1) := by decide +kernel
theorem dX11_run_21 : decode cX11_run 21 = .ok (.iload_n 2, 1) := by decide +kernel
theorem dX11_run_22 : decode cX11_run 22 = .ok (.invokevirtual 198, 3) := by decide +kernel
theorem dX11_run_25 : decode cX11_run 25 = .ok (.aload_n 0, 1) := by decide +kernel
theorem dX11_run_26 : decode cX11_run 26 = .ok (.getfield 42, 3) := by decide +kernel
theorem dX11_run_29 : decode cX11_run 29 = .ok (.getfield 202, 3) := by decide +kernel
theorem dX11_run_32 : decode cX11_run 32 = .ok (.ireturn, 1) := by decide +kernel
set_option maxRecDepth 20000 in
theorem ggX11_begins_X11_hasSpan : GoodIn wsX11_begins wsX11_hasSpan := goodIn_r _ [8, 1, 9, 10, 11, 12, 13, 14, 15, 16, 7, 17, 18, 19, 20, 91, 92, 93, 94, 95, 96, 97, 98, 99, 100, 101, 102, 103, 104, 105, 106, 113, 114, 115, 116, 117, 118, 119, 120, 121, 122, 123, 124, 125, 126, 127, 128, 129] (by decide +kernel) (by decide +kernel)
set_option maxRecDepth 20000 in
theorem gX11_begins_X11_hasSpan : GoodIn wsX11_begins (wsV RX11 191 RX11 yX11_hasSpan wsX11_hasSpan) := goodIn_app (goodIn_of _ (by decide +kernel)) ggX11_begins_X11_hasSpan
set_option maxRecDepth 20000 in
theorem ggX11_begins_X11_plainFloor : GoodIn wsX11_begins wsX11_plainFloor := goodIn_r _ [24, 25, 2, 1, 26, 27, 28, 29, 30, 31, 32, 33, 34, 35, 36, 37, 38, 39, 40, 41, 42, 43, 44, 45, 46, 47, 48, 49, 50, 51, 52, 53, 54, 55, 12, 56, 57, 58, 7, 59, 60, 61, 62, 63, 91, 92, 93, 94, 95, 96, 97, 98, 99, 100, 101, 102, 103, 104, 105, 106, 113, 114, 115, 116, 117, 118, 119, 120, 121, 122, 123, 124, 125, 126, 127, 128, 129, 107, 108, 109, 110, 111, 112] (by decide +kernel) (by decide +kernel)
set_option maxRecDepth 20000 in
theorem gX11_begins_X11_plainFloor : GoodIn wsX11_begins (wsV RX11 165 RX11 yX11_plainFloor wsX11_plainFloor) := goodIn_app (goodIn_of _ (by decide +kernel)) ggX11_begins_X11_plainFloor
set_option maxRecDepth 20000 in
theorem ggX11_begins_X1_findCalm : GoodIn wsX11_begins wsX1_findCalm := goodIn_r _ [67, 68, 69, 70, 71, 72, 29, 73, 74, 75, 76, 77, 51, 78, 79, 80, 81, 32, 82, 83, 84, 12, 85, 86, 87, 88, 89, 90, 107, 108, 109, 110, 111, 112, 113, 114, 115, 116, 117, 118, 119, 120, 121, 122, 123, 124, 125, 126, 127, 128, 129] (by decide +kernel) (by decide +kernel)
set_option maxRecDepth 20000 in
theorem gX11_begins_X1_findCalm : GoodIn wsX11_begins (wsV RX11 198 RX1 yX1_findCalm wsX1_findCalm) := goodIn_app (goodIn_of _ (by decide +kernel)) ggX11_begins_X1_findCalm
theorem dX11_begins_0 : decode cX11_begins 0 = .ok (.aload_n 0, 1) := by decide +kernel
theorem dX11_begins_1 : decode cX11_begins 1 = .ok (.iload_n 1, 1) := by decide +kernel
theorem dX11_begins_2 : decode cX11_begins 2 = .ok (.iload_n 2, 1) := by decide +kernel
theorem dX11_begins_3 : decode cX11_begins 3 = .ok (.invokevirtual 191, 3) := by decide +kernel
theorem dX11_begins_6 : decode cX11_begins 6 = .ok (.ifCond .ne 6, 3) := by decide +kernel
theorem dX11_begins_9 : decode cX11_begins 9 = .ok (.bipush (-2), 2) := by decide +kernel
theorem dX11_begins_11 : decode cX11_begins 11 = .ok (.ireturn, 1) := by decide +kernel
theorem dX11_begins_12 : decode cX11_begins 12 = .ok (.aload_n 0, 1) := by decide +kernel
theorem dX11_begins_13 : decode cX11_begins 13 = .ok (.invokevirtual 165, 3) := by decide +kernel
theorem dX11_begins_16 : decode cX11_begins 16 = .ok (.aload_n 0, 1) := by decide +kernel
theorem dX11_begins_17 : decode cX11_begins 17 = .ok (.getfield 24, 3) := by decide +kernel
theorem dX11_begins_20 : decode cX11_begins 20 = .ok (.iload_n 1, 1) := by decide +kernel
theorem dX11_begins_21 : decode cX11_begins 21 = .ok (.iload_n 2, 1) := by decide +kernel
theorem dX11_begins_22 : decode cX11_begins 22 = .ok (.invokevirtual 198, 3) := by decide +kernel
theorem dX11_begins_25 : decode cX11_begins 25 = .ok (.aload_n 0, 1) := by decide +kernel
theorem dX11_begins_26 : decode cX11_begins 26 = .ok (.getfield 42, 3) := by decide +kernel
theorem dX11_begins_29 : decode cX11_begins 29 = .ok (.getfield 205, 3) := by decide +kernel
theorem dX11_begins_32 : decode cX11_begins 32 = .ok (.ireturn, 1) := by decide +kernel
set_option maxRecDepth 20000 in
theorem ggX11_undoes_X0_hasStumble : GoodIn wsX11_undoes wsX0_hasStumble := goodIn_r _ [7, 8, 9, 10, 11, 101, 102, 103, 104, 105, 106, 107, 108, 109, 110, 111, 112, 113, 114, 115, 116, 117] (by decide +kernel) (by decide +kernel)
set_option maxRecDepth 20000 in
theorem gX11_undoes_X0_hasStumble : GoodIn wsX11_undoes (wsV RX11 147 RX0 yX0_hasStumble wsX0_hasStumble) := goodIn_app (goodIn_of _ (by decide +kernel)) ggX11_undoes_X0_hasStumble
set_option maxRecDepth 20000 in
theorem ggX11_undoes_X1_lay : GoodIn wsX11_undoes wsX1_lay := goodIn_r _ [16, 17, 18, 19, 20, 21, 15, 22, 23, 24, 25, 26, 27, 28, 29, 30, 31, 32, 33, 34, 35, 36, 37, 38, 39, 40, 41, 6, 42, 43, 44, 10, 45, 46, 47, 48, 49, 101, 102, 103, 104, 105, 106, 107, 108, 109, 110, 111, 112, 113, 114, 115, 116, 117, 118, 119, 120, 121, 122, 123] (by decide +kernel) (by decide +kernel)
set_option maxRecDepth 20000 in
theorem gX11_undoes_X1_lay : GoodIn wsX11_undoes (wsV RX11 208 RX1 yX1_lay wsX1_lay) := goodIn_app (goodIn_of _ (by decide +kernel)) ggX11_undoes_X1_lay
set_option maxRecDepth 20000 in
theorem ggX11_undoes_X11_plainFloor : GoodIn wsX11_undoes wsX11_plainFloor := goodIn_r _ [53, 54, 55, 1, 12, 13, 14, 15, 16, 17, 18, 19, 20, 21, 22, 23, 24, 25, 26, 27, 28, 29, 30, 31, 32, 33, 34, 35, 36, 37, 38, 39, 40, 41, 6, 42, 43, 44, 10, 45, 46, 47, 48, 49, 85, 86, 87, 88, 89, 90, 91, 92, 93, 94, 95, 96, 97, 98, 99, 100, 101, 102, 103, 104, 105, 106, 107, 108, 109, 110, 111, 112, 113, 114, 115, 116, 117, 118, 119, 120, 121, 122, 123] (by decide +kernel) (by decide +kernel)
set_option maxRecDepth 20000 in
theorem gX11_undoes_X11_plainFloor : GoodIn wsX11_undoes (wsV RX11 165 RX11 yX11_plainFloor wsX11_plainFloor) := goodIn_app (goodIn_of _ (by decide +kernel)) ggX11_undoes_X11_plainFloor
set_option maxRecDepth 20000 in
theorem ggX11_undoes_X1_countAllHoles : GoodIn wsX11_undoes wsX1_countAllHoles := goodIn_r _ [59, 60, 61, 62, 15, 63, 64, 65, 66, 67, 68, 69, 70, 71, 37, 72, 73, 74, 75, 18, 76, 77, 78, 6, 79, 80, 81, 82, 83, 84, 118, 119, 120, 121, 122, 123, 101, 102, 103, 104, 105, 106, 107, 108, 109, 110, 111, 112, 113, 114, 115, 116, 117] (by decide +kernel) (by decide +kernel)
set_option maxRecDepth 20000 in
theorem gX11_undoes_X1_countAllHoles : GoodIn wsX11_undoes (wsV RX11 212 RX1 yX1_countAllHoles wsX1_countAllHoles) := goodIn_app (goodIn_of _ (by decide +kernel)) ggX11_undoes_X1_countAllHoles
theorem dX11_undoes_0 : decode cX11_undoes 0 = .ok (.aload_n 0, 1) := by decide +kernel
theorem dX11_undoes_1 : decode cX11_undoes 1 = .ok (.getfield 24, 3) := by decide +kernel
theorem dX11_undoes_4 : decode cX11_undoes 4 = .ok (.iload_n 1, 1) := by decide +kernel
theorem dX11_undoes_5 : decode cX11_undoes 5 = .ok (.invokevirtual 147, 3) := by decide +kernel
theorem dX11_undoes_8 : decode cX11_undoes 8 = .ok (.ifCond .ne 7, 3) := by decide +kernel
theorem dX11_undoes_11 : decode cX11_undoes 11 = .ok (.sipush (-1000), 3) := by decide +kernel
theorem dX11_undoes_14 : decode cX11_undoes 14 = .ok (.ireturn, 1) := by decide +kernel
theorem dX11_undoes_15 : decode cX11_undoes 15 = .ok (.aload_n 0, 1) := by decide +kernel
theorem dX11_undoes_16 : decode cX11_undoes 16 = .ok (.getfield 46, 3) := by decide +kernel
theorem dX11_undoes_19 : decode cX11_undoes 19 = .ok (.aload_n 0, 1) := by decide +kernel
theorem dX11_undoes_20 : decode cX11_undoes 20 = .ok (.getfield 24, 3) := by decide +kernel
theorem dX11_undoes_23 : decode cX11_undoes 23 = .ok (.iload_n 1, 1) := by decide +kernel
theorem dX11_undoes_24 : decode cX11_undoes 24 = .ok (.invokevirtual 208, 3) := by decide +kernel
theorem dX11_undoes_27 : decode cX11_undoes 27 = .ok (.aload_n 0, 1) := by decide +kernel
theorem dX11_undoes_28 : decode cX11_undoes 28 = .ok (.invokevirtual 165, 3) := by decide +kernel
theorem dX11_undoes_31 : decode cX11_undoes 31 = .ok (.aload_n 0, 1) := by decide +kernel
theorem dX11_undoes_32 : decode cX11_undoes 32 = .ok (.getfield 24, 3) := by decide +kernel
theorem dX11_undoes_35 : decode cX11_undoes 35 = .ok (.invokevirtual 212, 3) := by decide +kernel
theorem dX11_undoes_38 : decode cX11_undoes 38 = .ok (.aload_n 0, 1) := by decide +kernel
theorem dX11_undoes_39 : decode cX11_undoes 39 = .ok (.getfield 46, 3) := by decide +kernel
theorem dX11_undoes_42 : decode cX11_undoes 42 = .ok (.aload_n 0, 1) := by decide +kernel
theorem dX11_undoes_43 : decode cX11_undoes 43 = .ok (.getfield 24, 3) := by decide +kernel
theorem dX11_undoes_46 : decode cX11_undoes 46 = .ok (.invokevirtual 212, 3) := by decide +kernel
theorem dX11_undoes_49 : decode cX11_undoes 49 = .ok (.isub, 1) := by decide +kernel
theorem dX11_undoes_50 : decode cX11_undoes 50 = .ok (.ireturn, 1) := by decide +kernel
set_option maxRecDepth 20000 in
theorem ggX11_causes_X11_has : GoodIn wsX11_causes wsX11_has := goodIn_r _ [8, 1, 9, 10, 11, 12, 13, 14, 15, 16, 7, 17, 18, 19, 20, 21, 22, 23, 89, 90, 91, 92, 93, 94, 95, 96, 97, 98, 99, 100, 101, 102, 103, 104, 105, 106, 107, 108, 109, 110, 111, 112, 113, 114, 115, 116, 117, 118, 119, 120, 121] (by decide +kernel) (by decide +kernel)
set_option maxRecDepth 20000 in
theorem gX11_causes_X11_has : GoodIn wsX11_causes (wsV RX11 162 RX11 yX11_has wsX11_has) := goodIn_app (goodIn_of _ (by decide +kernel)) ggX11_causes_X11_has
set_option maxRecDepth 20000 in
theorem ggX11_causes_X11_plainFloor : GoodIn wsX11_causes wsX11_plainFloor := goodIn_r _ [27, 28, 29, 1, 30, 31, 32, 33, 34, 35, 36, 37, 38, 39, 40, 41, 42, 43, 44, 45, 46, 47, 48, 49, 50, 51, 52, 53, 54, 55, 56, 57, 58, 59, 12, 60, 61, 62, 7, 63, 64, 65, 66, 67, 89, 90, 91, 92, 93, 94, 95, 96, 97, 98, 99, 100, 101, 102, 103, 104, 105, 106, 107, 108, 109, 110, 111, 112, 113, 114, 115, 116, 117, 118, 119, 120, 121, 122, 123, 124, 125, 126, 127] (by decide +kernel) (by decide +kernel)
set_option maxRecDepth 20000 in
theorem gX11_causes_X11_plainFloor : GoodIn wsX11_causes (wsV RX11 165 RX11 yX11_plainFloor wsX11_plainFloor) := goodIn_app (goodIn_of _ (by decide +kernel)) ggX11_causes_X11_plainFloor
set_option maxRecDepth 20000 in
theorem ggX11_causes_X1_gapes : GoodIn wsX11_causes wsX1_gapes := goodIn_r _ [71, 72, 73, 74, 33, 75, 55, 76, 77, 78, 79, 36, 80, 81, 82, 12, 83, 84, 85, 86, 87, 88, 122, 123, 124, 125, 126, 127, 105, 106, 107, 108, 109, 110, 111, 112, 113, 114, 115, 116, 117, 118, 119, 120, 121] (by decide +kernel) (by decide +kernel)
set_option maxRecDepth 20000 in
theorem gX11_causes_X1_gapes : GoodIn wsX11_causes (wsV RX11 187 RX1 yX1_gapes wsX1_gapes) := goodIn_app (goodIn_of _ (by decide +kernel)) ggX11_causes_X1_gapes
set_option maxRecDepth 20000 in
theorem ggX11_causes_X1_lay : GoodIn wsX11_causes wsX1_lay := goodIn_r _ [34, 35, 36, 37, 38, 39, 33, 40, 41, 42, 43, 44, 45, 46, 47, 48, 49, 50, 51, 52, 53, 54, 55, 56, 57, 58, 59, 12, 60, 61, 62, 7, 63, 64, 65, 66, 67, 105, 106, 107, 108, 109, 110, 111, 112, 113, 114, 115, 116, 117, 118, 119, 120, 121, 122, 123, 124, 125, 126, 127] (by decide +kernel) (by decide +kernel)
set_option maxRecDepth 20000 in
theorem gX11_causes_X1_lay : GoodIn wsX11_causes (wsV RX11 208 RX1 yX1_lay wsX1_lay) := goodIn_app (goodIn_of _ (by decide +kernel)) ggX11_causes_X1_lay
theorem dX11_causes_0 : decode cX11_causes 0 = .ok (.aload_n 0, 1) := by decide +kernel
theorem dX11_causes_1 : decode cX11_causes 1 = .ok (.iload_n 1, 1) := by decide +kernel
theorem dX11_causes_2 : decode cX11_causes 2 = .ok (.iload_n 2, 1) := by decide +kernel
theorem dX11_causes_3 : decode cX11_causes 3 = .ok (.invokevirtual 162, 3) := by decide +kernel
theorem dX11_causes_6 : decode cX11_causes 6 = .ok (.ifCond .ne 6, 3) := by decide +kernel
theorem dX11_causes_9 : decode cX11_causes 9 = .ok (.bipush (-2), 2) := by decide +kernel
theorem dX11_causes_11 : decode cX11_causes 11 = .ok (.ireturn, 1) := by decide +kernel
theorem dX11_causes_12 : decode cX11_causes 12 = .ok (.aload_n 0, 1) := by decide +kernel
theorem dX11_causes_13 : decode cX11_causes 13 = .ok (.invokevirtual 165, 3) := by decide +kernel
theorem dX11_causes_16 : decode cX11_causes 16 = .ok (.aload_n 0, 1) := by decide +kernel
theorem dX11_causes_17 : decode cX11_causes 17 = .ok (.getfield 24, 3) := by decide +kernel
theorem dX11_causes_20 : decode cX11_causes 20 = .ok (.iload_n 1, 1) := by decide +kernel
theorem dX11_causes_21 : decode cX11_causes 21 = .ok (.iload_n 2, 1) := by decide +kernel
theorem dX11_causes_22 : decode cX11_causes 22 = .ok (.invokevirtual 187, 3) := by decide +kernel
theorem dX11_causes_25 : decode cX11_causes 25 = .ok (.ifCond .ne 5, 3) := by decide +kernel
theorem dX11_causes_28 : decode cX11_causes 28 = .ok (.iconst 0, 1) := by decide +kernel
theorem dX11_causes_29 : decode cX11_causes 29 = .ok (.ireturn, 1) := by decide +kernel
theorem dX11_causes_30 : decode cX11_causes 30 = .ok (.iconst 0, 1) := by decide +kernel
theorem dX11_causes_31 : decode cX11_causes 31 = .ok (.istore_n 3, 1) := by decide +kernel
theorem dX11_causes_32 : decode cX11_causes 32 = .ok (.iconst 0, 1) := by decide +kernel
theorem dX11_causes_33 : decode cX11_causes 33 = .ok (.istore 4, 2) := by decide +kernel
theorem dX11_causes_35 : decode cX11_causes 35 = .ok (.iload 4, 2) := by decide +kernel
theorem dX11_causes_37 : decode cX11_causes 37 = .ok (.aload_n 0, 1) := by decide +kernel
theorem dX11_causes_38 : decode cX11_causes 38 = .ok (.getfield 24, 3) := by decide +kernel
theorem dX11_causes_41 : decode cX11_causes 41 = .ok (.getfield 216, 3) := by decide +kernel
theorem dX11_causes_44 : decode cX11_causes 44 = .ok (.if_icmp .ge 41, 3) := by decide +kernel
theorem dX11_causes_47 : decode cX11_causes 47 = .ok (.aload_n 0, 1) := by decide +kernel
theorem dX11_causes_48 : decode cX11_causes 48 = .ok (.getfield 46, 3) := by decide +kernel
theorem dX11_causes_51 : decode cX11_causes 51 = .ok (.aload_n 0, 1) := by decide +kernel
theorem dX11_causes_52 : decode cX11_causes 52 = .ok (.getfield 24, 3) := by decide +kernel
theorem dX11_causes_55 : decode cX11_causes 55 = .ok (.iload 4, 2) := by decide +kernel
theorem dX11_causes_57 : decode cX11_causes 57 = .ok (.invokevirtual 208, 3) := by decide +kernel
theorem dX11_causes_60 : decode cX11_causes 60 = .ok (.aload_n 0, 1) := by decide +kernel
theorem dX11_causes_61 : decode cX11_causes 61 = .ok (.getfield 46, 3) := by decide +kernel
theorem dX11_causes_64 : decode cX11_causes 64 = .ok (.aload_n 0, 1) := by decide +kernel
theorem dX11_causes_65 : decode cX11_causes 65 = .ok (.getfield 24, 3) := by decide +kernel
theorem dX11_causes_68 : decode cX11_causes 68 = .ok (.iload_n 1, 1) := by decide +kernel
theorem dX11_causes_69 : decode cX11_causes 69 = .ok (.iload_n 2, 1) := by decide +kernel
theorem dX11_causes_70 : decode cX11_causes 70 = .ok (.invokevirtual 187, 3) := by decide +kernel
theorem dX11_causes_73 : decode cX11_causes 73 = .ok (.ifCond .ne 6, 3) := by decide +kernel
theorem dX11_causes_76 : decode cX11_causes 76 = .ok (.iinc 3 1, 3) := by decide +kernel
theorem dX11_causes_79 : decode cX11_causes 79 = .ok (.iinc 4 1, 3) := by decide +kernel
theorem dX11_causes_82 : decode cX11_causes 82 = .ok (.goto (-47), 3) := by decide +kernel
theorem dX11_causes_85 : decode cX11_causes 85 = .ok (.iload_n 3, 1) := by decide +kernel
theorem dX11_causes_86 : decode cX11_causes 86 = .ok (.ireturn, 1) := by decide +kernel
set_option maxRecDepth 20000 in
theorem ggX11_period_X0_stands : GoodIn wsX11_period wsX0_stands := goodIn_r _ [6, 7, 40, 41, 42, 43, 44, 45, 46, 47, 48, 49, 50, 51, 52, 53, 54, 55, 56] (by decide +kernel) (by decide +kernel)
set_option maxRecDepth 20000 in
theorem gX11_period_X0_stands : GoodIn wsX11_period (wsV RX11 125 RX0 yX0_stands wsX0_stands) := goodIn_app (goodIn_of _ (by decide +kernel)) ggX11_period_X0_stands
set_option maxRecDepth 20000 in
theorem ggX11_period_X0_hasBothRounds : GoodIn wsX11_period wsX0_hasBothRounds := goodIn_r _ [11, 12, 40, 41, 42, 43, 44, 45, 46, 47, 48, 49, 50, 51, 52, 53, 54, 55, 56] (by decide +kernel) (by decide +kernel)
set_option maxRecDepth 20000 in
theorem gX11_period_X0_hasBothRounds : GoodIn wsX11_period (wsV RX11 219 RX0 yX0_hasBothRounds wsX0_hasBothRounds) := goodIn_app (goodIn_of _ (by decide +kernel)) ggX11_period_X0_hasBothRounds
set_option maxRecDepth 20000 in
theorem ggX11_period_X6_periodOf : GoodIn wsX11_period wsX6_periodOf := goodIn_r _ [16, 17, 18, 19, 20, 21, 22, 23, 40, 41, 42, 43, 44, 45, 46, 47, 48, 49, 50, 51, 52, 53, 54, 55, 56] (by decide +kernel) (by decide +kernel)
set_option maxRecDepth 20000 in
theorem gX11_period_X6_periodOf : GoodIn wsX11_period (va_wsS RX11 222 yX6_periodOf wsX6_periodOf) := goodIn_app (goodIn_of _ (by decide +kernel)) ggX11_period_X6_periodOf
theorem dX11_period_0 : decode cX11_period 0 = .ok (.aload_n 0, 1) := by decide +kernel
theorem dX11_period_1 : decode cX11_period 1 = .ok (.getfield 24, 3) := by decide +kernel
theorem dX11_period_4 : decode cX11_period 4 = .ok (.invokevirtual 125, 3) := by decide +kernel
theorem dX11_period_7 : decode cX11_period 7 = .ok (.ifCond .ne 6, 3) := by decide +kernel
theorem dX11_period_10 : decode cX11_period 10 = .ok (.bipush (-2), 2) := by decide +kernel
theorem dX11_period_12 : decode cX11_period 12 = .ok (.ireturn, 1) := by decide +kernel
theorem dX11_period_13 : decode cX11_period 13 = .ok (.aload_n 0, 1) := by decide +kernel
theorem dX11_period_14 : decode cX11_period 14 = .ok (.getfield 24, 3) := by decide +kernel
theorem dX11_period_17 : decode cX11_period 17 = .ok (.invokevirtual 219, 3) := by decide +kernel
theorem dX11_period_20 : decode cX11_period 20 = .ok (.ifCond .eq 13, 3) := by decide +kernel
theorem dX11_period_23 : decode cX11_period 23 = .ok (.aload_n 0, 1) := by decide +kernel
theorem dX11_period_24 : decode cX11_period 24 = .ok (.getfield 24, 3) := by decide +kernel
theorem dX11_period_27 : decode cX11_period 27 = .ok (.invokestatic 222, 3) := by decide +kernel
theorem dX11_period_30 : decode cX11_period 30 = .ok (.goto 4, 3) := by decide +kernel
theorem dX11_period_33 : decode cX11_period 33 = .ok (.iconst (-1), 1) := by decide +kernel
theorem dX11_period_34 : decode cX11_period 34 = .ok (.ireturn, 1) := by decide +kernel
set_option maxRecDepth 20000 in
theorem ggX11_meets_X0_stands : GoodIn wsX11_meets wsX0_stands := goodIn_r _ [6, 7, 59, 60, 61, 62, 63, 64, 65, 66, 67, 68, 69, 70, 71, 72, 73, 74, 75] (by decide +kernel) (by decide +kernel)
set_option maxRecDepth 20000 in
theorem gX11_meets_X0_stands : GoodIn wsX11_meets (wsV RX11 125 RX0 yX0_stands wsX0_stands) := goodIn_app (goodIn_of _ (by decide +kernel)) ggX11_meets_X0_stands
set_option maxRecDepth 20000 in
theorem ggX11_meets_X0_hasPlace : GoodIn wsX11_meets wsX0_hasPlace := goodIn_r _ [11, 12, 13, 14, 15, 59, 60, 61, 62, 63, 64, 65, 66, 67, 68, 69, 70, 71, 72, 73, 74, 75] (by decide +kernel) (by decide +kernel)
set_option maxRecDepth 20000 in
theorem gX11_meets_X0_hasPlace : GoodIn wsX11_meets (wsV RX11 133 RX0 yX0_hasPlace wsX0_hasPlace) := goodIn_app (goodIn_of _ (by decide +kernel)) ggX11_meets_X0_hasPlace
set_option maxRecDepth 20000 in
theorem ggX11_meets_X11_isBeat : GoodIn wsX11_meets wsX11_isBeat := goodIn_r _ [18, 19, 13, 14, 15] (by decide +kernel) (by decide +kernel)
set_option maxRecDepth 20000 in
theorem gX11_meets_X11_isBeat : GoodIn wsX11_meets (va_wsS RX11 156 yX11_isBeat wsX11_isBeat) := goodIn_app (goodIn_of _ (by decide +kernel)) ggX11_meets_X11_isBeat
set_option maxRecDepth 20000 in
theorem ggX11_meets_X6_firstIn : GoodIn wsX11_meets wsX6_firstIn := goodIn_r _ [23, 24, 25, 22, 26, 27, 28, 14, 29, 30, 31, 32, 33, 34, 35, 36, 37, 38, 39, 40, 41, 42, 59, 60, 61, 62, 63, 64, 65, 66, 67, 68, 69, 70, 71, 72, 73, 74, 75] (by decide +kernel) (by decide +kernel)
set_option maxRecDepth 20000 in
theorem gX11_meets_X6_firstIn : GoodIn wsX11_meets (va_wsS RX11 225 yX6_firstIn wsX6_firstIn) := goodIn_app (goodIn_of _ (by decide +kernel)) ggX11_meets_X6_firstIn
theorem dX11_meets_0 : decode cX11_meets 0 = .ok (.aload_n 0, 1) := by decide +kernel
theorem dX11_meets_1 : decode cX11_meets 1 = .ok (.getfield 24, 3) := by decide +kernel
theorem dX11_meets_4 : decode cX11_meets 4 = .ok (.invokevirtual 125, 3) := by decide +kernel
theorem dX11_meets_7 : decode cX11_meets 7 = .ok (.ifCond .eq 34, 3) := by decide +kernel
theorem dX11_meets_10 : decode cX11_meets 10 = .ok (.aload_n 0, 1) := by decide +kernel
theorem dX11_meets_11 : decode cX11_meets 11 = .ok (.getfield 24, 3) := by decide +kernel
theorem dX11_meets_14 : decode cX11_meets 14 = .ok (.iconst 0, 1) := by decide +kernel
theorem dX11_meets_15 : decode cX11_meets 15 = .ok (.iload_n 1, 1) := by decide +kernel
theorem dX11_meets_16 : decode cX11_meets 16 = .ok (.invokevirtual 133, 3) := by decide +kernel
theorem dX11_meets_19 : decode cX11_meets 19 = .ok (.ifCond .eq 22, 3) := by decide +kernel
theorem dX11_meets_22 : decode cX11_meets 22 = .ok (.aload_n 0, 1) := by decide +kernel
theorem dX11_meets_23 : decode cX11_meets 23 = .ok (.getfield 24, 3) := by decide +kernel
theorem dX11_meets_26 : decode cX11_meets 26 = .ok (.iconst 1, 1) := by decide +kernel
theorem dX11_meets_27 : decode cX11_meets 27 = .ok (.iload_n 2, 1) := by decide +kernel
theorem dX11_meets_28 : decode cX11_meets 28 = .ok (.invokevirtual 133, 3) := by decide +kernel
theorem dX11_meets_31 : decode cX11_meets 31 = .ok (.ifCond .eq 10, 3) := by decide +kernel
theorem dX11_meets_34 : decode cX11_meets 34 = .ok (.iload_n 3, 1) := by decide +kernel
theorem dX11_meets_35 : decode cX11_meets 35 = .ok (.invokestatic 156, 3) := by decide +kernel
theorem dX11_meets_38 : decode cX11_meets 38 = .ok (.ifCond .ne 6, 3) := by decide +kernel
theorem dX11_meets_41 : decode cX11_meets 41 = .ok (.bipush (-2), 2) := by decide +kernel
theorem dX11_meets_43 : decode cX11_meets 43 = .ok (.ireturn, 1) := by decide +kernel
theorem dX11_meets_44 : decode cX11_meets 44 = .ok (.aload_n 0, 1) := by decide +kernel
theorem dX11_meets_45 : decode cX11_meets 45 = .ok (.getfield 24, 3) := by decide +kernel
theorem dX11_meets_48 : decode cX11_meets 48 = .ok (.iload_n 1, 1) := by decide +kernel
theorem dX11_meets_49 : decode cX11_meets 49 = .ok (.iload_n 2, 1) := by decide +kernel
theorem dX11_meets_50 : decode cX11_meets 50 = .ok (.iload_n 3, 1) := by decide +kernel
theorem dX11_meets_51 : decode cX11_meets 51 = .ok (.invokestatic 225, 3) := by decide +kernel
theorem dX11_meets_54 : decode cX11_meets 54 = .ok (.ireturn, 1) := by decide +kernel
set_option maxRecDepth 20000 in
theorem ggX11_shifted_X11_hasRounds : GoodIn wsX11_shifted wsX11_hasRounds := goodIn_r _ [7, 1, 8, 9, 10, 11, 12, 13, 14, 15, 16, 17, 18, 63, 64, 65, 66, 67, 68, 69, 70, 71, 72, 73, 74, 75, 76, 77, 78, 79, 80, 81, 82, 83, 84, 85, 86, 87, 88, 89, 90, 91, 92, 93, 94, 95] (by decide +kernel) (by decide +kernel)
set_option maxRecDepth 20000 in
theorem gX11_shifted_X11_hasRounds : GoodIn wsX11_shifted (wsV RX11 228 RX11 yX11_hasRounds wsX11_hasRounds) := goodIn_app (goodIn_of _ (by decide +kernel)) ggX11_shifted_X11_hasRounds
set_option maxRecDepth 20000 in
theorem ggX11_shifted_X11_isWithin : GoodIn wsX11_shifted wsX11_isWithin := goodIn_r _ [21] (by decide +kernel) (by decide +kernel)
set_option maxRecDepth 20000 in
theorem gX11_shifted_X11_isWithin : GoodIn wsX11_shifted (va_wsS RX11 150 yX11_isWithin wsX11_isWithin) := goodIn_app (goodIn_of _ (by decide +kernel)) ggX11_shifted_X11_isWithin
set_option maxRecDepth 20000 in
theorem ggX11_shifted_X6_holesShifted : GoodIn wsX11_shifted wsX6_holesShifted := goodIn_r _ [25, 26, 27, 28, 24, 29, 30, 31, 6, 32, 33, 34, 35, 36, 37, 38, 39, 40, 41, 42, 43, 44, 45, 46, 47, 48, 49, 50, 51, 11, 52, 53, 54, 55, 56, 57, 58, 59, 60, 61, 62, 79, 80, 81, 82, 83, 84, 85, 86, 87, 88, 89, 90, 91, 92, 93, 94, 95] (by decide +kernel) (by decide +kernel)
set_option maxRecDepth 20000 in
theorem gX11_shifted_X6_holesShifted : GoodIn wsX11_shifted (va_wsS RX11 231 yX6_holesShifted wsX6_holesShifted) := goodIn_app (goodIn_of _ (by decide +kernel)) ggX11_shifted_X6_holesShifted
theorem dX11_shifted_0 : decode cX11_shifted 0 = .ok (.aload_n 0, 1) := by decide +kernel
theorem dX11_shifted_1 : decode cX11_shifted 1 = .ok (.invokevirtual 228, 3) := by decide +kernel
theorem dX11_shifted_4 : decode cX11_shifted 4 = .ok (.ifCond .eq 19, 3) := by decide +kernel
theorem dX11_shifted_7 : decode cX11_shifted 7 = .ok (.iload_n 1, 1) := by decide +kernel
theorem dX11_shifted_8 : decode cX11_shifted 8 = .ok (.aload_n 0, 1) := by decide +kernel
theorem dX11_shifted_9 : decode cX11_shifted 9 = .ok (.getfield 24, 3) := by decide +kernel
theorem dX11_shifted_12 : decode cX11_shifted 12 = .ok (.getfield 178, 3) := by decide +kernel
theorem dX11_shifted_15 : decode cX11_shifted 15 = .ok (.iconst 1, 1) := by decide +kernel
theorem dX11_shifted_16 : decode cX11_shifted 16 = .ok (.iaload, 1) := by decide +kernel
theorem dX11_shifted_17 : decode cX11_shifted 17 = .ok (.invokestatic 150, 3) := by decide +kernel
theorem dX11_shifted_20 : decode cX11_shifted 20 = .ok (.ifCond .ne 6, 3) := by decide +kernel
theorem dX11_shifted_23 : decode cX11_shifted 23 = .ok (.bipush (-2), 2) := by decide +kernel
theorem dX11_shifted_25 : decode cX11_shifted 25 = .ok (.ireturn, 1) := by decide +kernel
theorem dX11_shifted_26 : decode cX11_shifted 26 = .ok (.aload_n 0, 1) := by decide +kernel
theorem dX11_shifted_27 : decode cX11_shifted 27 = .ok (.getfield 24, 3) := by decide +kernel
theorem dX11_shifted_30 : decode cX11_shifted 30 = .ok (.iload_n 1, 1) := by decide +kernel
theorem dX11_shifted_31 : decode cX11_shifted 31 = .ok (.invokestatic 231, 3) := by decide +kernel
theorem dX11_shifted_34 : decode cX11_shifted 34 = .ok (.ireturn, 1) := by decide +kernel
set_option maxRecDepth 20000 in
theorem ggX11_shift_X11_hasRounds : GoodIn wsX11_shift wsX11_hasRounds := goodIn_r _ [6, 1, 7, 8, 9, 10, 11, 12, 13, 14, 15, 16, 17, 63, 64, 65, 66, 67, 68, 69, 70, 71, 72, 73, 74, 75, 76, 77, 78, 79, 80, 81, 82, 83, 84, 85, 86, 87, 88, 89, 90, 91, 92, 93, 94, 95] (by decide +kernel) (by decide +kernel)
set_option maxRecDepth 20000 in
theorem gX11_shift_X11_hasRounds : GoodIn wsX11_shift (wsV RX11 228 RX11 yX11_hasRounds wsX11_hasRounds) := goodIn_app (goodIn_of _ (by decide +kernel)) ggX11_shift_X11_hasRounds
set_option maxRecDepth 20000 in
theorem ggX11_shift_X6_leastShift : GoodIn wsX11_shift wsX6_leastShift := goodIn_r _ [21, 22, 23, 24, 20, 25, 26, 27, 28, 29, 30, 5, 31, 32, 33, 34, 35, 36, 37, 38, 39, 40, 41, 42, 43, 44, 45, 46, 47, 48, 49, 50, 10, 51, 52, 53, 54, 55, 56, 57, 58, 59, 60, 61, 79, 80, 81, 82, 83, 84, 85, 86, 87, 88, 89, 90, 91, 92, 93, 94, 95] (by decide +kernel) (by decide +kernel)
set_option maxRecDepth 20000 in
theorem gX11_shift_X6_leastShift : GoodIn wsX11_shift (va_wsS RX11 235 yX6_leastShift wsX6_leastShift) := goodIn_app (goodIn_of _ (by decide +kernel)) ggX11_shift_X6_leastShift
set_option maxRecDepth 20000 in
theorem ggX11_shift_X6_holesShifted : GoodIn wsX11_shift wsX6_holesShifted := goodIn_r _ [25, 26, 27, 28, 20, 29, 22, 30, 5, 31, 32, 33, 34, 35, 36, 37, 38, 39, 40, 41, 42, 43, 44, 45, 46, 47, 48, 49, 50, 10, 51, 52, 53, 54, 55, 56, 57, 58, 59, 60, 61, 79, 80, 81, 82, 83, 84, 85, 86, 87, 88, 89, 90, 91, 92, 93, 94, 95] (by decide +kernel) (by decide +kernel)
set_option maxRecDepth 20000 in
theorem gX11_shift_X6_holesShifted : GoodIn wsX11_shift (va_wsS RX11 231 yX6_holesShifted wsX6_holesShifted) := goodIn_app (goodIn_of _ (by decide +kernel)) ggX11_shift_X6_holesShifted
theorem dX11_shift_0 : decode cX11_shift 0 = .ok (.aload_n 0, 1) := by decide +kernel
theorem dX11_shift_1 : decode cX11_shift 1 = .ok (.invokevirtual 228, 3) := by decide +kernel
theorem dX11_shift_4 : decode cX11_shift 4 = .ok (.ifCond .ne 6, 3) := by decide +kernel
theorem dX11_shift_7 : decode cX11_shift 7 = .ok (.bipush (-2), 2) := by decide +kernel
theorem dX11_shift_9 : decode cX11_shift 9 = .ok (.ireturn, 1) := by decide +kernel
theorem dX11_shift_10 : decode cX11_shift 10 = .ok (.aload_n 0, 1) := by decide +kernel
theorem dX11_shift_11 : decode cX11_shift 11 = .ok (.getfield 24, 3) := by decide +kernel
theorem dX11_shift_14 : decode cX11_shift 14 = .ok (.invokestatic 235, 3) := by decide +kernel
theorem dX11_shift_17 : decode cX11_shift 17 = .ok (.istore_n 1, 1) := by decide +kernel
theorem dX11_shift_18 : decode cX11_shift 18 = .ok (.aload_n 0, 1) := by decide +kernel
theorem dX11_shift_19 : decode cX11_shift 19 = .ok (.getfield 24, 3) := by decide +kernel
theorem dX11_shift_22 : decode cX11_shift 22 = .ok (.iload_n 1, 1) := by decide +kernel
theorem dX11_shift_23 : decode cX11_shift 23 = .ok (.invokestatic 231, 3) := by decide +kernel
theorem dX11_shift_26 : decode cX11_shift 26 = .ok (.ifCond .ne 7, 3) := by decide +kernel
theorem dX11_shift_29 : decode cX11_shift 29 = .ok (.iload_n 1, 1) := by decide +kernel
theorem dX11_shift_30 : decode cX11_shift 30 = .ok (.goto 4, 3) := by decide +kernel
theorem dX11_shift_33 : decode cX11_shift 33 = .ok (.iconst (-1), 1) := by decide +kernel
theorem dX11_shift_34 : decode cX11_shift 34 = .ok (.ireturn, 1) := by decide +kernel
set_option maxRecDepth 20000 in
theorem ggX11_least_X11_hasRounds : GoodIn wsX11_least wsX11_hasRounds := goodIn_r _ [6, 1, 7, 8, 9, 10, 11, 12, 13, 14, 15, 16, 17, 62, 63, 64, 65, 66, 67, 68, 69, 70, 71, 72, 73, 74, 75, 76, 77, 78, 79, 80, 81, 82, 83, 84, 85, 86, 87, 88, 89, 90, 91, 92, 93, 94] (by decide +kernel) (by decide +kernel)
set_option maxRecDepth 20000 in
theorem gX11_least_X11_hasRounds : GoodIn wsX11_least (wsV RX11 228 RX11 yX11_hasRounds wsX11_hasRounds) := goodIn_app (goodIn_of _ (by decide +kernel)) ggX11_least_X11_hasRounds
set_option maxRecDepth 20000 in
theorem ggX11_least_X6_leastShift : GoodIn wsX11_least wsX6_leastShift := goodIn_r _ [21, 22, 23, 24, 20, 25, 26, 27, 28, 29, 30, 5, 31, 32, 33, 34, 35, 36, 37, 38, 39, 40, 41, 42, 43, 44, 45, 46, 47, 48, 49, 50, 10, 51, 52, 53, 54, 55, 56, 57, 58, 59, 60, 61, 78, 79, 80, 81, 82, 83, 84, 85, 86, 87, 88, 89, 90, 91, 92, 93, 94] (by decide +kernel) (by decide +kernel)
set_option maxRecDepth 20000 in
theorem gX11_least_X6_leastShift : GoodIn wsX11_least (va_wsS RX11 235 yX6_leastShift wsX6_leastShift) := goodIn_app (goodIn_of _ (by decide +kernel)) ggX11_least_X6_leastShift
theorem dX11_least_0 : decode cX11_least 0 = .ok (.aload_n 0, 1) := by decide +kernel
theorem dX11_least_1 : decode cX11_least 1 = .ok (.invokevirtual 228, 3) := by decide +kernel
theorem dX11_least_4 : decode cX11_least 4 = .ok (.ifCond .eq 13, 3) := by decide +kernel
theorem dX11_least_7 : decode cX11_least 7 = .ok (.aload_n 0, 1) := by decide +kernel
theorem dX11_least_8 : decode cX11_least 8 = .ok (.getfield 24, 3) := by decide +kernel
theorem dX11_least_11 : decode cX11_least 11 = .ok (.invokestatic 235, 3) := by decide +kernel
theorem dX11_least_14 : decode cX11_least 14 = .ok (.goto 5, 3) := by decide +kernel
theorem dX11_least_17 : decode cX11_least 17 = .ok (.bipush (-2), 2) := by decide +kernel
theorem dX11_least_19 : decode cX11_least 19 = .ok (.ireturn, 1) := by decide +kernel
set_option maxRecDepth 20000 in
theorem ggX11_mend_X11_hasRounds : GoodIn wsX11_mend wsX11_hasRounds := goodIn_r _ [7, 2, 8, 9, 10, 11, 12, 13, 14, 15, 16, 17, 18, 89, 90, 91, 92, 93, 94, 95, 96, 97, 98, 99, 100, 101, 102, 103, 104, 105, 106, 107, 108, 109, 110, 111, 112, 113, 114, 115, 116, 117, 118, 119, 120, 121] (by decide +kernel) (by decide +kernel)
set_option maxRecDepth 20000 in
theorem gX11_mend_X11_hasRounds : GoodIn wsX11_mend (wsV RX11 228 RX11 yX11_hasRounds wsX11_hasRounds) := goodIn_app (goodIn_of _ (by decide +kernel)) ggX11_mend_X11_hasRounds
set_option maxRecDepth 20000 in
theorem ggX11_mend_X11_isSide : GoodIn wsX11_mend wsX11_isSide := goodIn_r _ [21, 22, 23, 6, 24] (by decide +kernel) (by decide +kernel)
set_option maxRecDepth 20000 in
theorem gX11_mend_X11_isSide : GoodIn wsX11_mend (va_wsS RX11 129 yX11_isSide wsX11_isSide) := goodIn_app (goodIn_of _ (by decide +kernel)) ggX11_mend_X11_isSide
set_option maxRecDepth 20000 in
theorem ggX11_mend_X6_findFits : GoodIn wsX11_mend wsX6_findFits := goodIn_r _ [29, 30, 31, 32, 33, 34, 35, 36, 37, 38, 28, 39, 40, 41, 6, 42, 43, 44, 45, 46, 47, 48, 49, 50, 51, 52, 53, 54, 55, 56, 57, 58, 59, 60, 61, 11, 62, 63, 64, 65, 66, 67, 68, 69, 70, 71, 122, 105, 106, 107, 108, 109, 110, 111, 112, 113, 114, 115, 116, 117, 118, 119, 120, 121] (by decide +kernel) (by decide +kernel)
set_option maxRecDepth 20000 in
theorem gX11_mend_X6_findFits : GoodIn wsX11_mend (wsV RX11 238 RX6 yX6_findFits wsX6_findFits) := goodIn_app (goodIn_of _ (by decide +kernel)) ggX11_mend_X6_findFits
set_option maxRecDepth 20000 in
theorem ggX11_mend_X6_firstStuck : GoodIn wsX11_mend wsX6_firstStuck := goodIn_r _ [75, 40, 30, 105, 106, 107, 108, 109, 110, 111, 112, 113, 114, 115, 116, 117, 118, 119, 120, 121, 122] (by decide +kernel) (by decide +kernel)
set_option maxRecDepth 20000 in
theorem gX11_mend_X6_firstStuck : GoodIn wsX11_mend (wsV RX11 241 RX6 yX6_firstStuck wsX6_firstStuck) := goodIn_app (goodIn_of _ (by decide +kernel)) ggX11_mend_X6_firstStuck
set_option maxRecDepth 20000 in
theorem ggX11_mend_X6_countChanged : GoodIn wsX11_mend wsX6_countChanged := goodIn_r _ [79, 40, 80, 81, 82, 28, 83, 30, 59, 60, 61, 11, 62, 63, 84, 85, 86, 87, 88, 105, 106, 107, 108, 109, 110, 111, 112, 113, 114, 115, 116, 117, 118, 119, 120, 121, 122] (by decide +kernel) (by decide +kernel)
set_option maxRecDepth 20000 in
theorem gX11_mend_X6_countChanged : GoodIn wsX11_mend (wsV RX11 244 RX6 yX6_countChanged wsX6_countChanged) := goodIn_app (goodIn_of _ (by decide +kernel)) ggX11_mend_X6_countChanged
theorem dX11_mend_0 : decode cX11_mend 0 = .ok (.aload_n 0, 1) := by decide +kernel
theorem dX11_mend_1 : decode cX11_mend 1 = .ok (.invokevirtual 228, 3) := by decide +kernel
theorem dX11_mend_4 : decode cX11_mend 4 = .ok (.ifCond .eq 10, 3) := by decide +kernel
theorem dX11_mend_7 : decode cX11_mend 7 = .ok (.iload_n 1, 1) := by decide +kernel
theorem dX11_mend_8 : decode cX11_mend 8 = .ok (.invokestatic 129, 3) := by decide +kernel
theorem dX11_mend_11 : decode cX11_mend 11 = .ok (.ifCond .ne 6, 3) := by decide +kernel
theorem dX11_mend_14 : decode cX11_mend 14 = .ok (.bipush (-2), 2) := by decide +kernel
theorem dX11_mend_16 : decode cX11_mend 16 = .ok (.ireturn, 1) := by decide +kernel
theorem dX11_mend_17 : decode cX11_mend 17 = .ok (.aload_n 0, 1) := by decide +kernel
theorem dX11_mend_18 : decode cX11_mend 18 = .ok (.getfield 56, 3) := by decide +kernel
theorem dX11_mend_21 : decode cX11_mend 21 = .ok (.aload_n 0, 1) := by decide +kernel
theorem dX11_mend_22 : decode cX11_mend 22 = .ok (.getfield 24, 3) := by decide +kernel
theorem dX11_mend_25 : decode cX11_mend 25 = .ok (.iload_n 1, 1) := by decide +kernel
theorem dX11_mend_26 : decode cX11_mend 26 = .ok (.invokevirtual 238, 3) := by decide +kernel
theorem dX11_mend_29 : decode cX11_mend 29 = .ok (.aload_n 0, 1) := by decide +kernel
theorem dX11_mend_30 : decode cX11_mend 30 = .ok (.getfield 56, 3) := by decide +kernel
theorem dX11_mend_33 : decode cX11_mend 33 = .ok (.aload_n 0, 1) := by decide +kernel
theorem dX11_mend_34 : decode cX11_mend 34 = .ok (.getfield 24, 3) := by decide +kernel
theorem dX11_mend_37 : decode cX11_mend 37 = .ok (.iload_n 1, 1) := by decide +kernel
theorem dX11_mend_38 : decode cX11_mend 38 = .ok (.invokevirtual 241, 3) := by decide +kernel
theorem dX11_mend_41 : decode cX11_mend 41 = .ok (.iconst (-1), 1) := by decide +kernel
theorem dX11_mend_42 : decode cX11_mend 42 = .ok (.if_icmp .ne 18, 3) := by decide +kernel
theorem dX11_mend_45 : decode cX11_mend 45 = .ok (.aload_n 0, 1) := by decide +kernel
theorem dX11_mend_46 : decode cX11_mend 46 = .ok (.getfield 56, 3) := by decide +kernel
theorem dX11_mend_49 : decode cX11_mend 49 = .ok (.aload_n 0, 1) := by decide +kernel
theorem dX11_mend_50 : decode cX11_mend 50 = .ok (.getfield 24, 3) := by decide +kernel
theorem dX11_mend_53 : decode cX11_mend 53 = .ok (.iload_n 1, 1) := by decide +kernel
theorem dX11_mend_54 : decode cX11_mend 54 = .ok (.invokevirtual 244, 3) := by decide +kernel
theorem dX11_mend_57 : decode cX11_mend 57 = .ok (.goto 4, 3) := by decide +kernel
theorem dX11_mend_60 : decode cX11_mend 60 = .ok (.iconst (-1), 1) := by decide +kernel
theorem dX11_mend_61 : decode cX11_mend 61 = .ok (.ireturn, 1) := by decide +kernel
set_option maxRecDepth 20000 in
theorem ggX11_mended_X11_hasRounds : GoodIn wsX11_mended wsX11_hasRounds := goodIn_r _ [7, 1, 8, 9, 10, 11, 12, 13, 14, 15, 16, 17, 18, 89, 90, 91, 92, 93, 94, 95, 96, 97, 98, 99, 100, 101, 102, 103, 104, 105, 106, 107, 108, 109, 110, 111, 112, 113, 114, 115, 116, 117, 118, 119, 120, 121] (by decide +kernel) (by decide +kernel)
set_option maxRecDepth 20000 in
theorem gX11_mended_X11_hasRounds : GoodIn wsX11_mended (wsV RX11 228 RX11 yX11_hasRounds wsX11_hasRounds) := goodIn_app (goodIn_of _ (by decide +kernel)) ggX11_mended_X11_hasRounds
set_option maxRecDepth 20000 in
theorem ggX11_mended_X11_isSide : GoodIn wsX11_mended wsX11_isSide := goodIn_r _ [21, 22, 23, 6, 24] (by decide +kernel) (by decide +kernel)
set_option maxRecDepth 20000 in
theorem gX11_mended_X11_isSide : GoodIn wsX11_mended (va_wsS RX11 129 yX11_isSide wsX11_isSide) := goodIn_app (goodIn_of _ (by decide +kernel)) ggX11_mended_X11_isSide
set_option maxRecDepth 20000 in
theorem ggX11_mended_X0_hasPlace : GoodIn wsX11_mended wsX0_hasPlace := goodIn_r _ [28, 18, 23, 6, 24, 105, 106, 107, 108, 109, 110, 111, 112, 113, 114, 115, 116, 117, 118, 119, 120, 121] (by decide +kernel) (by decide +kernel)
set_option maxRecDepth 20000 in
theorem gX11_mended_X0_hasPlace : GoodIn wsX11_mended (wsV RX11 133 RX0 yX0_hasPlace wsX0_hasPlace) := goodIn_app (goodIn_of _ (by decide +kernel)) ggX11_mended_X0_hasPlace
set_option maxRecDepth 20000 in
theorem ggX11_mended_X6_findFits : GoodIn wsX11_mended wsX6_findFits := goodIn_r _ [33, 34, 35, 36, 37, 38, 39, 40, 41, 42, 32, 43, 44, 45, 6, 46, 47, 48, 49, 50, 51, 52, 53, 54, 55, 56, 57, 58, 59, 60, 61, 62, 63, 64, 65, 11, 66, 67, 68, 69, 70, 71, 72, 73, 74, 75, 122, 105, 106, 107, 108, 109, 110, 111, 112, 113, 114, 115, 116, 117, 118, 119, 120, 121] (by decide +kernel) (by decide +kernel)
set_option maxRecDepth 20000 in
theorem gX11_mended_X6_findFits : GoodIn wsX11_mended (wsV RX11 238 RX6 yX6_findFits wsX6_findFits) := goodIn_app (goodIn_of _ (by decide +kernel)) ggX11_mended_X6_findFits
set_option maxRecDepth 20000 in
theorem ggX11_mended_X6_firstStuck : GoodIn wsX11_mended wsX6_firstStuck := goodIn_r _ [79, 44, 34, 105, 106, 107, 108, 109, 110, 111, 112, 113, 114, 115, 116, 117, 118, 119, 120, 121, 122] (by decide +kernel) (by decide +kernel)
set_option maxRecDepth 20000 in
theorem gX11_mended_X6_firstStuck : GoodIn wsX11_mended (wsV RX11 241 RX6 yX6_firstStuck wsX6_firstStuck) := goodIn_app (goodIn_of _ (by decide +kernel)) ggX11_mended_X6_firstStuck
set_option maxRecDepth 20000 in
theorem ggX11_mended_X6_fitting : GoodIn wsX11_mended wsX6_fitting := goodIn_r _ [83, 34, 63, 64, 65, 11, 66, 67, 84, 85, 86, 87, 88, 122, 105, 106, 107, 108, 109, 110, 111, 112, 113, 114, 115, 116, 117, 118, 119, 120, 121] (by decide +kernel) (by decide +kernel)
set_option maxRecDepth 20000 in
theorem gX11_mended_X6_fitting : GoodIn wsX11_mended (wsV RX11 247 RX6 yX6_fitting wsX6_fitting) := goodIn_app (goodIn_of _ (by decide +kernel)) ggX11_mended_X6_fitting
theorem dX11_mended_0 : decode cX11_mended 0 = .ok (.aload_n 0, 1) := by decide +kernel
theorem dX11_mended_1 : decode cX11_mended 1 = .ok (.invokevirtual 228, 3) := by decide +kernel
theorem dX11_mended_4 : decode cX11_mended 4 = .ok (.ifCond .eq 22, 3) := by decide +kernel
theorem dX11_mended_7 : decode cX11_mended 7 = .ok (.iload_n 1, 1) := by decide +kernel
theorem dX11_mended_8 : decode cX11_mended 8 = .ok (.invokestatic 129, 3) := by decide +kernel
theorem dX11_mended_11 : decode cX11_mended 11 = .ok (.ifCond .eq 15, 3) := by decide +kernel
theorem dX11_mended_14 : decode cX11_mended 14 = .ok (.aload_n 0, 1) := by decide +kernel
theorem dX11_mended_15 : decode cX11_mended 15 = .ok (.getfield 24, 3) := by decide +kernel
theorem dX11_mended_18 : decode cX11_mended 18 = .ok (.iload_n 1, 1) := by decide +kernel
theorem dX11_mended_19 : decode cX11_mended 19 = .ok (.iload_n 2, 1) := by decide +kernel
theorem dX11_mended_20 : decode cX11_mended 20 = .ok (.invokevirtual 133, 3) := by decide +kernel
theorem dX11_mended_23 : decode cX11_mended 23 = .ok (.ifCond .ne 6, 3) := by decide +kernel
theorem dX11_mended_26 : decode cX11_mended 26 = .ok (.bipush (-2), 2) := by decide +kernel
theorem dX11_mended_28 : decode cX11_mended 28 = .ok (.ireturn, 1) := by decide +kernel
theorem dX11_mended_29 : decode cX11_mended 29 = .ok (.aload_n 0, 1) := by decide +kernel
theorem dX11_mended_30 : decode cX11_mended 30 = .ok (.getfield 56, 3) := by decide +kernel
theorem dX11_mended_33 : decode cX11_mended 33 = .ok (.aload_n 0, 1) := by decide +kernel
theorem dX11_mended_34 : decode cX11_mended 34 = .ok (.getfield 24, 3) := by decide +kernel
theorem dX11_mended_37 : decode cX11_mended 37 = .ok (.iload_n 1, 1) := by decide +kernel
theorem dX11_mended_38 : decode cX11_mended 38 = .ok (.invokevirtual 238, 3) := by decide +kernel
theorem dX11_mended_41 : decode cX11_mended 41 = .ok (.aload_n 0, 1) := by decide +kernel
theorem dX11_mended_42 : decode cX11_mended 42 = .ok (.getfield 56, 3) := by decide +kernel
theorem dX11_mended_45 : decode cX11_mended 45 = .ok (.aload_n 0, 1) := by decide +kernel
theorem dX11_mended_46 : decode cX11_mended 46 = .ok (.getfield 24, 3) := by decide +kernel
theorem dX11_mended_49 : decode cX11_mended 49 = .ok (.iload_n 1, 1) := by decide +kernel
theorem dX11_mended_50 : decode cX11_mended 50 = .ok (.invokevirtual 241, 3) := by decide +kernel
theorem dX11_mended_53 : decode cX11_mended 53 = .ok (.iconst (-1), 1) := by decide +kernel
theorem dX11_mended_54 : decode cX11_mended 54 = .ok (.if_icmp .ne 19, 3) := by decide +kernel
theorem dX11_mended_57 : decode cX11_mended 57 = .ok (.aload_n 0, 1) := by decide +kernel
theorem dX11_mended_58 : decode cX11_mended 58 = .ok (.getfield 56, 3) := by decide +kernel
theorem dX11_mended_61 : decode cX11_mended 61 = .ok (.aload_n 0, 1) := by decide +kernel
theorem dX11_mended_62 : decode cX11_mended 62 = .ok (.getfield 24, 3) := by decide +kernel
theorem dX11_mended_65 : decode cX11_mended 65 = .ok (.iload_n 1, 1) := by decide +kernel
theorem dX11_mended_66 : decode cX11_mended 66 = .ok (.iload_n 2, 1) := by decide +kernel
theorem dX11_mended_67 : decode cX11_mended 67 = .ok (.invokevirtual 247, 3) := by decide +kernel
theorem dX11_mended_70 : decode cX11_mended 70 = .ok (.goto 4, 3) := by decide +kernel
theorem dX11_mended_73 : decode cX11_mended 73 = .ok (.iconst (-1), 1) := by decide +kernel
theorem dX11_mended_74 : decode cX11_mended 74 = .ok (.ireturn, 1) := by decide +kernel
set_option maxRecDepth 20000 in
theorem ggX11_stuck_X11_hasRounds : GoodIn wsX11_stuck wsX11_hasRounds := goodIn_r _ [7, 2, 8, 9, 10, 11, 12, 13, 14, 15, 16, 17, 18, 76, 77, 78, 79, 80, 81, 82, 83, 84, 85, 86, 87, 88, 89, 90, 91, 92, 93, 94, 95, 96, 97, 98, 99, 100, 101, 102, 103, 104, 105, 106, 107, 108] (by decide +kernel) (by decide +kernel)
set_option maxRecDepth 20000 in
theorem gX11_stuck_X11_hasRounds : GoodIn wsX11_stuck (wsV RX11 228 RX11 yX11_hasRounds wsX11_hasRounds) := goodIn_app (goodIn_of _ (by decide +kernel)) ggX11_stuck_X11_hasRounds
set_option maxRecDepth 20000 in
theorem ggX11_stuck_X11_isSide : GoodIn wsX11_stuck wsX11_isSide := goodIn_r _ [21, 22, 23, 6, 24] (by decide +kernel) (by decide +kernel)
set_option maxRecDepth 20000 in
theorem gX11_stuck_X11_isSide : GoodIn wsX11_stuck (va_wsS RX11 129 yX11_isSide wsX11_isSide) := goodIn_app (goodIn_of _ (by decide +kernel)) ggX11_stuck_X11_isSide
set_option maxRecDepth 20000 in
theorem ggX11_stuck_X6_findFits : GoodIn wsX11_stuck wsX6_findFits := goodIn_r _ [29, 30, 31, 32, 33, 34, 35, 36, 37, 38, 28, 39, 40, 41, 6, 42, 43, 44, 45, 46, 47, 48, 49, 50, 51, 52, 53, 54, 55, 56, 57, 58, 59, 60, 61, 11, 62, 63, 64, 65, 66, 67, 68, 69, 70, 71, 109, 92, 93, 94, 95, 96, 97, 98, 99, 100, 101, 102, 103, 104, 105, 106, 107, 108] (by decide +kernel) (by decide +kernel)
set_option maxRecDepth 20000 in
theorem gX11_stuck_X6_findFits : GoodIn wsX11_stuck (wsV RX11 238 RX6 yX6_findFits wsX6_findFits) := goodIn_app (goodIn_of _ (by decide +kernel)) ggX11_stuck_X6_findFits
set_option maxRecDepth 20000 in
theorem ggX11_stuck_X6_firstStuck : GoodIn wsX11_stuck wsX6_firstStuck := goodIn_r _ [75, 40, 30, 92, 93, 94, 95, 96, 97, 98, 99, 100, 101, 102, 103, 104, 105, 106, 107, 108, 109] (by decide +kernel) (by decide +kernel)
set_option maxRecDepth 20000 in
theorem gX11_stuck_X6_firstStuck : GoodIn wsX11_stuck (wsV RX11 241 RX6 yX6_firstStuck wsX6_firstStuck) := goodIn_app (goodIn_of _ (by decide +kernel)) ggX11_stuck_X6_firstStuck
theorem dX11_stuck_0 : decode cX11_stuck 0 = .ok (.aload_n 0, 1) := by decide +kernel
theorem dX11_stuck_1 : decode cX11_stuck 1 = .ok (.invokevirtual 228, 3) := by decide +kernel
theorem dX11_stuck_4 : decode cX11_stuck 4 = .ok (.ifCond .eq 10, 3) := by decide +kernel
theorem dX11_stuck_7 : decode cX11_stuck 7 = .ok (.iload_n 1, 1) := by decide +kernel
theorem dX11_stuck_8 : decode cX11_stuck 8 = .ok (.invokestatic 129, 3) := by decide +kernel
theorem dX11_stuck_11 : decode cX11_stuck 11 = .ok (.ifCond .ne 6, 3) := by decide +kernel
theorem dX11_stuck_14 : decode cX11_stuck 14 = .ok (.bipush (-2), 2) := by decide +kernel
theorem dX11_stuck_16 : decode cX11_stuck 16 = .ok (.ireturn, 1) := by decide +kernel
theorem dX11_stuck_17 : decode cX11_stuck 17 = .ok (.aload_n 0, 1) := by decide +kernel
theorem dX11_stuck_18 : decode cX11_stuck 18 = .ok (.getfield 56, 3) := by decide +kernel
theorem dX11_stuck_21 : decode cX11_stuck 21 = .ok (.aload_n 0, 1) := by decide +kernel
theorem dX11_stuck_22 : decode cX11_stuck 22 = .ok (.getfield 24, 3) := by decide +kernel
theorem dX11_stuck_25 : decode cX11_stuck 25 = .ok (.iload_n 1, 1) := by decide +kernel
theorem dX11_stuck_26 : decode cX11_stuck 26 = .ok (.invokevirtual 238, 3) := by decide +kernel
theorem dX11_stuck_29 : decode cX11_stuck 29 = .ok (.aload_n 0, 1) := by decide +kernel
theorem dX11_stuck_30 : decode cX11_stuck 30 = .ok (.getfield 56, 3) := by decide +kernel
theorem dX11_stuck_33 : decode cX11_stuck 33 = .ok (.aload_n 0, 1) := by decide +kernel
theorem dX11_stuck_34 : decode cX11_stuck 34 = .ok (.getfield 24, 3) := by decide +kernel
theorem dX11_stuck_37 : decode cX11_stuck 37 = .ok (.iload_n 1, 1) := by decide +kernel
theorem dX11_stuck_38 : decode cX11_stuck 38 = .ok (.invokevirtual 241, 3) := by decide +kernel
theorem dX11_stuck_41 : decode cX11_stuck 41 = .ok (.ireturn, 1) := by decide +kernel
set_option maxRecDepth 20000 in
theorem ggX11_heard_X11_listenTo : GoodIn wsX11_heard wsX11_listenTo := goodIn_r _ [6, 7, 8, 1, 9, 10, 11, 12, 13, 14, 15, 16, 17, 5, 18, 19, 20, 21, 22, 23, 24, 25, 26, 27, 28, 29, 30, 31, 32, 33, 34, 35, 36, 37, 38, 39, 40, 41, 42, 43, 44, 45, 46, 47, 48, 49, 50, 51, 52, 53, 54, 55, 56, 57, 58, 59, 60, 61, 62, 63, 64, 65, 66, 67, 68, 69, 70, 71, 72, 73, 74, 75, 76, 77, 78, 79, 80, 81, 82, 83, 84, 85, 86, 87, 88, 89, 90, 91, 92, 93, 94, 95, 96, 116, 117, 118, 119, 120, 121, 122, 123, 124, 125, 126, 127, 128, 129, 130, 131, 132, 133, 134, 135, 136, 137, 138, 139, 140, 141, 142, 143, 144, 145, 146, 147, 148, 149, 150, 151, 152, 153, 154, 155, 156, 157, 158, 159, 160, 161, 162, 163] (by decide +kernel) (by decide +kernel)
set_option maxRecDepth 20000 in
theorem gX11_heard_X11_listenTo : GoodIn wsX11_heard (wsV RX11 251 RX11 yX11_listenTo wsX11_listenTo) := goodIn_app (goodIn_of _ (by decide +kernel)) ggX11_heard_X11_listenTo
set_option maxRecDepth 20000 in
theorem ggX11_heard_X3_countFits : GoodIn wsX11_heard wsX3_countFits := goodIn_r _ [100, 101, 102, 103, 52, 104, 64, 65, 105, 106, 107, 108, 70, 66, 67, 109, 110, 111, 112, 113, 114, 115, 152, 153, 154, 155, 156, 157, 158, 159, 160, 161, 162, 163] (by decide +kernel) (by decide +kernel)
set_option maxRecDepth 20000 in
theorem gX11_heard_X3_countFits : GoodIn wsX11_heard (wsV RX11 254 RX3 yX3_countFits wsX3_countFits) := goodIn_app (goodIn_of _ (by decide +kernel)) ggX11_heard_X3_countFits
theorem dX11_heard_0 : decode cX11_heard 0 = .ok (.aload_n 0, 1) := by decide +kernel
theorem dX11_heard_1 : decode cX11_heard 1 = .ok (.iload_n 1, 1) := by decide +kernel
theorem dX11_heard_2 : decode cX11_heard 2 = .ok (.iload_n 2, 1) := by decide +kernel
theorem dX11_heard_3 : decode cX11_heard 3 = .ok (.invokevirtual 251, 3) := by decide +kernel
theorem dX11_heard_6 : decode cX11_heard 6 = .ok (.istore_n 3, 1) := by decide +kernel
theorem dX11_heard_7 : decode cX11_heard 7 = .ok (.iload_n 3, 1) := by decide +kernel
theorem dX11_heard_8 : decode cX11_heard 8 = .ok (.ifCond .ge 7, 3) := by decide +kernel
theorem dX11_heard_11 : decode cX11_heard 11 = .ok (.iload_n 3, 1) := by decide +kernel
theorem dX11_heard_12 : decode cX11_heard 12 = .ok (.goto 10, 3) := by decide +kernel
theorem dX11_heard_15 : decode cX11_heard 15 = .ok (.aload_n 0, 1) := by decide +kernel
theorem dX11_heard_16 : decode cX11_heard 16 = .ok (.getfield 63, 3) := by decide +kernel
theorem dX11_heard_19 : decode cX11_heard 19 = .ok (.invokevirtual 254, 3) := by decide +kernel
theorem dX11_heard_22 : decode cX11_heard 22 = .ok (.ireturn, 1) := by decide +kernel
set_option maxRecDepth 20000 in
theorem ggX11_first_X11_listenTo : GoodIn wsX11_first wsX11_listenTo := goodIn_r _ [6, 7, 8, 1, 9, 10, 11, 12, 13, 14, 15, 16, 17, 5, 18, 19, 20, 21, 22, 23, 24, 25, 26, 27, 28, 29, 30, 31, 32, 33, 34, 35, 36, 37, 38, 39, 40, 41, 42, 43, 44, 45, 46, 47, 48, 49, 50, 51, 52, 53, 54, 55, 56, 57, 58, 59, 60, 61, 62, 63, 64, 65, 66, 67, 68, 69, 70, 71, 72, 73, 74, 75, 76, 77, 78, 79, 80, 81, 82, 83, 84, 85, 86, 87, 88, 89, 90, 91, 92, 93, 94, 95, 96, 109, 110, 111, 112, 113, 114, 115, 116, 117, 118, 119, 120, 121, 122, 123, 124, 125, 126, 127, 128, 129, 130, 131, 132, 133, 134, 135, 136, 137, 138, 139, 140, 141, 142, 143, 144, 145, 146, 147, 148, 149, 150, 151, 152, 153, 154, 155, 156] (by decide +kernel) (by decide +kernel)
set_option maxRecDepth 20000 in
theorem gX11_first_X11_listenTo : GoodIn wsX11_first (wsV RX11 251 RX11 yX11_listenTo wsX11_listenTo) := goodIn_app (goodIn_of _ (by decide +kernel)) ggX11_first_X11_listenTo
set_option maxRecDepth 20000 in
theorem ggX11_first_X3_leastFit : GoodIn wsX11_first wsX3_leastFit := goodIn_r _ [100, 101, 102, 103, 52, 104, 64, 65, 105, 106, 107, 108, 70, 66, 67, 145, 146, 147, 148, 149, 150, 151, 152, 153, 154, 155, 156] (by decide +kernel) (by decide +kernel)
set_option maxRecDepth 20000 in
theorem gX11_first_X3_leastFit : GoodIn wsX11_first (wsV RX11 258 RX3 yX3_leastFit wsX3_leastFit) := goodIn_app (goodIn_of _ (by decide +kernel)) ggX11_first_X3_leastFit
theorem dX11_first_0 : decode cX11_first 0 = .ok (.aload_n 0, 1) := by decide +kernel
theorem dX11_first_1 : decode cX11_first 1 = .ok (.iload_n 1, 1) := by decide +kernel
theorem dX11_first_2 : decode cX11_first 2 = .ok (.iload_n 2, 1) := by decide +kernel
theorem dX11_first_3 : decode cX11_first 3 = .ok (.invokevirtual 251, 3) := by decide +kernel
theorem dX11_first_6 : decode cX11_first 6 = .ok (.istore_n 3, 1) := by decide +kernel
theorem dX11_first_7 : decode cX11_first 7 = .ok (.iload_n 3, 1) := by decide +kernel
theorem dX11_first_8 : decode cX11_first 8 = .ok (.ifCond .ge 7, 3) := by decide +kernel
theorem dX11_first_11 : decode cX11_first 11 = .ok (.iload_n 3, 1) := by decide +kernel
theorem dX11_first_12 : decode cX11_first 12 = .ok (.goto 10, 3) := by decide +kernel
theorem dX11_first_15 : decode cX11_first 15 = .ok (.aload_n 0, 1) := by decide +kernel
theorem dX11_first_16 : decode cX11_first 16 = .ok (.getfield 63, 3) := by decide +kernel
theorem dX11_first_19 : decode cX11_first 19 = .ok (.invokevirtual 258, 3) := by decide +kernel
theorem dX11_first_22 : decode cX11_first 22 = .ok (.ireturn, 1) := by decide +kernel
set_option maxRecDepth 20000 in
theorem ggX11_when_X11_listenTo : GoodIn wsX11_when wsX11_listenTo := goodIn_r _ [6, 7, 8, 1, 9, 10, 11, 12, 13, 14, 15, 16, 17, 5, 18, 19, 20, 21, 22, 23, 24, 25, 26, 27, 28, 29, 30, 31, 32, 33, 34, 35, 36, 37, 38, 39, 40, 41, 42, 43, 44, 45, 46, 47, 48, 49, 50, 51, 52, 53, 54, 55, 56, 57, 58, 59, 60, 61, 62, 63, 64, 65, 66, 67, 68, 69, 70, 71, 72, 73, 74, 75, 76, 77, 78, 79, 80, 81, 82, 83, 84, 85, 86, 87, 88, 89, 90, 91, 92, 93, 94, 95, 96, 109, 110, 111, 112, 113, 114, 115, 116, 117, 118, 119, 120, 121, 122, 123, 124, 125, 126, 127, 128, 129, 130, 131, 132, 133, 134, 135, 136, 137, 138, 139, 140, 141, 142, 143, 144, 145, 146, 147, 148, 149, 150, 151, 152, 153, 154, 155, 156] (by decide +kernel) (by decide +kernel)
set_option maxRecDepth 20000 in
theorem gX11_when_X11_listenTo : GoodIn wsX11_when (wsV RX11 251 RX11 yX11_listenTo wsX11_listenTo) := goodIn_app (goodIn_of _ (by decide +kernel)) ggX11_when_X11_listenTo
set_option maxRecDepth 20000 in
theorem ggX11_when_X3_beatsOfFits : GoodIn wsX11_when wsX3_beatsOfFits := goodIn_r _ [100, 101, 102, 103, 52, 104, 70, 64, 65, 66, 67, 105, 106, 107, 108, 145, 146, 147, 148, 149, 150, 151, 152, 153, 154, 155, 156] (by decide +kernel) (by decide +kernel)
set_option maxRecDepth 20000 in
theorem gX11_when_X3_beatsOfFits : GoodIn wsX11_when (wsV RX11 261 RX3 yX3_beatsOfFits wsX3_beatsOfFits) := goodIn_app (goodIn_of _ (by decide +kernel)) ggX11_when_X3_beatsOfFits
theorem dX11_when_0 : decode cX11_when 0 = .ok (.aload_n 0, 1) := by decide +kernel
theorem dX11_when_1 : decode cX11_when 1 = .ok (.iload_n 1, 1) := by decide +kernel
theorem dX11_when_2 : decode cX11_when 2 = .ok (.iload_n 2, 1) := by decide +kernel
theorem dX11_when_3 : decode cX11_when 3 = .ok (.invokevirtual 251, 3) := by decide +kernel
theorem dX11_when_6 : decode cX11_when 6 = .ok (.istore_n 3, 1) := by decide +kernel
theorem dX11_when_7 : decode cX11_when 7 = .ok (.iload_n 3, 1) := by decide +kernel
theorem dX11_when_8 : decode cX11_when 8 = .ok (.ifCond .ge 8, 3) := by decide +kernel
theorem dX11_when_11 : decode cX11_when 11 = .ok (.iload_n 3, 1) := by decide +kernel
theorem dX11_when_12 : decode cX11_when 12 = .ok (.i2l, 1) := by decide +kernel
theorem dX11_when_13 : decode cX11_when 13 = .ok (.goto 10, 3) := by decide +kernel
theorem dX11_when_16 : decode cX11_when 16 = .ok (.aload_n 0, 1) := by decide +kernel
theorem dX11_when_17 : decode cX11_when 17 = .ok (.getfield 63, 3) := by decide +kernel
theorem dX11_when_20 : decode cX11_when 20 = .ok (.invokevirtual 261, 3) := by decide +kernel
theorem dX11_when_23 : decode cX11_when 23 = .ok (.lreturn, 1) := by decide +kernel
set_option maxRecDepth 20000 in
theorem ggX11_listen_X11_listenTo : GoodIn wsX11_listen wsX11_listenTo := goodIn_r _ [7, 8, 9, 1, 10, 11, 12, 13, 14, 15, 16, 17, 18, 6, 19, 20, 21, 22, 23, 24, 25, 26, 27, 28, 29, 30, 31, 32, 33, 34, 35, 36, 37, 38, 39, 40, 41, 42, 43, 44, 45, 46, 47, 48, 49, 50, 51, 52, 53, 54, 55, 56, 57, 58, 59, 60, 61, 62, 63, 64, 65, 66, 67, 68, 69, 70, 71, 72, 73, 74, 75, 76, 77, 78, 79, 80, 81, 82, 83, 84, 85, 86, 87, 88, 89, 90, 91, 92, 93, 94, 95, 96, 97, 133, 134, 135, 136, 137, 138, 139, 140, 141, 142, 143, 144, 145, 146, 147, 148, 161, 162, 163, 164, 165, 166, 167, 168, 169, 170, 171, 172, 173, 174, 175, 176, 177, 178, 179, 180, 149, 150, 151, 152, 153, 154, 155, 156, 157, 158, 159, 160] (by decide +kernel) (by decide +kernel)
set_option maxRecDepth 20000 in
theorem gX11_listen_X11_listenTo : GoodIn wsX11_listen (wsV RX11 251 RX11 yX11_listenTo wsX11_listenTo) := goodIn_app (goodIn_of _ (by decide +kernel)) ggX11_listen_X11_listenTo
set_option maxRecDepth 20000 in
theorem ggX11_listen_X3_findBeat : GoodIn wsX11_listen wsX3_findBeat := goodIn_r _ [101, 102, 103, 104, 56, 71, 105, 106, 107, 53, 108, 109, 110, 111, 112, 65, 66, 113, 114, 115, 116, 67, 68, 117, 118, 119, 120, 121, 122, 123, 72, 73, 74, 75, 124, 125, 126, 127, 128, 91, 92, 89, 93, 94, 95, 96, 97, 60, 58, 76, 6, 77, 78, 79, 80, 81, 129, 130, 131, 132, 149, 150, 151, 152, 153, 154, 155, 156, 157, 158, 159, 160] (by decide +kernel) (by decide +kernel)
set_option maxRecDepth 20000 in
theorem gX11_listen_X3_findBeat : GoodIn wsX11_listen (wsV RX11 265 RX3 yX3_findBeat wsX3_findBeat) := goodIn_app (goodIn_of _ (by decide +kernel)) ggX11_listen_X3_findBeat
theorem dX11_listen_0 : decode cX11_listen 0 = .ok (.aload_n 0, 1) := by decide +kernel
theorem dX11_listen_1 : decode cX11_listen 1 = .ok (.iload_n 1, 1) := by decide +kernel
theorem dX11_listen_2 : decode cX11_listen 2 = .ok (.iload_n 2, 1) := by decide +kernel
theorem dX11_listen_3 : decode cX11_listen 3 = .ok (.invokevirtual 251, 3) := by decide +kernel
theorem dX11_listen_6 : decode cX11_listen 6 = .ok (.istore_n 3, 1) := by decide +kernel
theorem dX11_listen_7 : decode cX11_listen 7 = .ok (.iload_n 3, 1) := by decide +kernel
theorem dX11_listen_8 : decode cX11_listen 8 = .ok (.ifCond .ge 5, 3) := by decide +kernel
theorem dX11_listen_11 : decode cX11_listen 11 = .ok (.iload_n 3, 1) := by decide +kernel
theorem dX11_listen_12 : decode cX11_listen 12 = .ok (.ireturn, 1) := by decide +kernel
theorem dX11_listen_13 : decode cX11_listen 13 = .ok (.aload_n 0, 1) := by decide +kernel
theorem dX11_listen_14 : decode cX11_listen 14 = .ok (.getfield 63, 3) := by decide +kernel
theorem dX11_listen_17 : decode cX11_listen 17 = .ok (.invokevirtual 265, 3) := by decide +kernel
theorem dX11_listen_20 : decode cX11_listen 20 = .ok (.aload_n 0, 1) := by decide +kernel
theorem dX11_listen_21 : decode cX11_listen 21 = .ok (.getfield 63, 3) := by decide +kernel
theorem dX11_listen_24 : decode cX11_listen 24 = .ok (.getfield 268, 3) := by decide +kernel
theorem dX11_listen_27 : decode cX11_listen 27 = .ok (.ireturn, 1) := by decide +kernel
set_option maxRecDepth 20000 in
theorem ggX11_leaves_X11_listenTo : GoodIn wsX11_leaves wsX11_listenTo := goodIn_r _ [7, 8, 9, 1, 10, 11, 12, 13, 14, 15, 16, 17, 18, 6, 19, 20, 21, 22, 23, 24, 25, 26, 27, 28, 29, 30, 31, 32, 33, 34, 35, 36, 37, 38, 39, 40, 41, 42, 43, 44, 45, 46, 47, 48, 49, 50, 51, 52, 53, 54, 55, 56, 57, 58, 59, 60, 61, 62, 63, 64, 65, 66, 67, 68, 69, 70, 71, 72, 73, 74, 75, 76, 77, 78, 79, 80, 81, 82, 83, 84, 85, 86, 87, 88, 89, 90, 91, 92, 93, 94, 95, 96, 97, 133, 134, 135, 136, 137, 138, 139, 140, 141, 142, 143, 144, 145, 146, 147, 148, 161, 162, 163, 164, 165, 166, 167, 168, 169, 170, 171, 172, 173, 174, 175, 176, 177, 178, 179, 180, 149, 150, 151, 152, 153, 154, 155, 156, 157, 158, 159, 160] (by decide +kernel) (by decide +kernel)
set_option maxRecDepth 20000 in
theorem gX11_leaves_X11_listenTo : GoodIn wsX11_leaves (wsV RX11 251 RX11 yX11_listenTo wsX11_listenTo) := goodIn_app (goodIn_of _ (by decide +kernel)) ggX11_leaves_X11_listenTo
set_option maxRecDepth 20000 in
theorem ggX11_leaves_X3_findBeat : GoodIn wsX11_leaves wsX3_findBeat := goodIn_r _ [101, 102, 103, 104, 56, 71, 105, 106, 107, 53, 108, 109, 110, 111, 112, 65, 66, 113, 114, 115, 116, 67, 68, 117, 118, 119, 120, 121, 122, 123, 72, 73, 74, 75, 124, 125, 126, 127, 128, 91, 92, 89, 93, 94, 95, 96, 97, 60, 58, 76, 6, 77, 78, 79, 80, 81, 129, 130, 131, 132, 149, 150, 151, 152, 153, 154, 155, 156, 157, 158, 159, 160] (by decide +kernel) (by decide +kernel)
set_option maxRecDepth 20000 in
theorem gX11_leaves_X3_findBeat : GoodIn wsX11_leaves (wsV RX11 265 RX3 yX3_findBeat wsX3_findBeat) := goodIn_app (goodIn_of _ (by decide +kernel)) ggX11_leaves_X3_findBeat
theorem dX11_leaves_0 : decode cX11_leaves 0 = .ok (.aload_n 0, 1) := by decide +kernel
theorem dX11_leaves_1 : decode cX11_leaves 1 = .ok (.iload_n 1, 1) := by decide +kernel
theorem dX11_leaves_2 : decode cX11_leaves 2 = .ok (.iload_n 2, 1) := by decide +kernel
theorem dX11_leaves_3 : decode cX11_leaves 3 = .ok (.invokevirtual 251, 3) := by decide +kernel
theorem dX11_leaves_6 : decode cX11_leaves 6 = .ok (.istore_n 3, 1) := by decide +kernel
theorem dX11_leaves_7 : decode cX11_leaves 7 = .ok (.iload_n 3, 1) := by decide +kernel
theorem dX11_leaves_8 : decode cX11_leaves 8 = .ok (.ifCond .ge 5, 3) := by decide +kernel
theorem dX11_leaves_11 : decode cX11_leaves 11 = .ok (.iload_n 3, 1) := by decide +kernel
theorem dX11_leaves_12 : decode cX11_leaves 12 = .ok (.ireturn, 1) := by decide +kernel
theorem dX11_leaves_13 : decode cX11_leaves 13 = .ok (.aload_n 0, 1) := by decide +kernel
theorem dX11_leaves_14 : decode cX11_leaves 14 = .ok (.getfield 63, 3) := by decide +kernel
theorem dX11_leaves_17 : decode cX11_leaves 17 = .ok (.invokevirtual 265, 3) := by decide +kernel
theorem dX11_leaves_20 : decode cX11_leaves 20 = .ok (.aload_n 0, 1) := by decide +kernel
theorem dX11_leaves_21 : decode cX11_leaves 21 = .ok (.getfield 63, 3) := by decide +kernel
theorem dX11_leaves_24 : decode cX11_leaves 24 = .ok (.getfield 271, 3) := by decide +kernel
theorem dX11_leaves_27 : decode cX11_leaves 27 = .ok (.ireturn, 1) := by decide +kernel
set_option maxRecDepth 20000 in
theorem ggX11_crosses_X0_stands : GoodIn wsX11_crosses wsX0_stands := goodIn_r _ [7, 8, 46, 47, 48, 49, 50, 51, 52, 53, 54, 55, 56, 57, 58, 59, 60, 61, 62] (by decide +kernel) (by decide +kernel)
set_option maxRecDepth 20000 in
theorem gX11_crosses_X0_stands : GoodIn wsX11_crosses (wsV RX11 125 RX0 yX0_stands wsX0_stands) := goodIn_app (goodIn_of _ (by decide +kernel)) ggX11_crosses_X0_stands
set_option maxRecDepth 20000 in
theorem ggX11_crosses_X11_isBeat : GoodIn wsX11_crosses wsX11_isBeat := goodIn_r _ [12, 13, 14, 11, 15] (by decide +kernel) (by decide +kernel)
set_option maxRecDepth 20000 in
theorem gX11_crosses_X11_isBeat : GoodIn wsX11_crosses (va_wsS RX11 156 yX11_isBeat wsX11_isBeat) := goodIn_app (goodIn_of _ (by decide +kernel)) ggX11_crosses_X11_isBeat
set_option maxRecDepth 20000 in
theorem ggX11_crosses_X10_through : GoodIn wsX11_crosses wsX10_through := goodIn_r _ [20, 21, 22, 23, 24, 11, 25, 26, 27, 28, 29, 46, 47, 48, 49, 50, 51, 52, 53, 54, 55, 56, 57, 58, 59, 60, 61, 62, 63, 64, 65] (by decide +kernel) (by decide +kernel)
set_option maxRecDepth 20000 in
theorem gX11_crosses_X10_through : GoodIn wsX11_crosses (wsV RX11 274 RX10 yX10_through wsX10_through) := goodIn_app (goodIn_of _ (by decide +kernel)) ggX11_crosses_X10_through
theorem dX11_crosses_0 : decode cX11_crosses 0 = .ok (.aload_n 0, 1) := by decide +kernel
theorem dX11_crosses_1 : decode cX11_crosses 1 = .ok (.getfield 24, 3) := by decide +kernel
theorem dX11_crosses_4 : decode cX11_crosses 4 = .ok (.invokevirtual 125, 3) := by decide +kernel
theorem dX11_crosses_7 : decode cX11_crosses 7 = .ok (.ifCond .eq 26, 3) := by decide +kernel
theorem dX11_crosses_10 : decode cX11_crosses 10 = .ok (.iload_n 1, 1) := by decide +kernel
theorem dX11_crosses_11 : decode cX11_crosses 11 = .ok (.invokestatic 156, 3) := by decide +kernel
theorem dX11_crosses_14 : decode cX11_crosses 14 = .ok (.ifCond .eq 19, 3) := by decide +kernel
theorem dX11_crosses_17 : decode cX11_crosses 17 = .ok (.aload_n 0, 1) := by decide +kernel
theorem dX11_crosses_18 : decode cX11_crosses 18 = .ok (.getfield 70, 3) := by decide +kernel
theorem dX11_crosses_21 : decode cX11_crosses 21 = .ok (.aload_n 0, 1) := by decide +kernel
theorem dX11_crosses_22 : decode cX11_crosses 22 = .ok (.getfield 24, 3) := by decide +kernel
theorem dX11_crosses_25 : decode cX11_crosses 25 = .ok (.iconst 0, 1) := by decide +kernel
theorem dX11_crosses_26 : decode cX11_crosses 26 = .ok (.iload_n 1, 1) := by decide +kernel
theorem dX11_crosses_27 : decode cX11_crosses 27 = .ok (.invokevirtual 274, 3) := by decide +kernel
theorem dX11_crosses_30 : decode cX11_crosses 30 = .ok (.goto 5, 3) := by decide +kernel
theorem dX11_crosses_33 : decode cX11_crosses 33 = .ok (.bipush (-2), 2) := by decide +kernel
theorem dX11_crosses_35 : decode cX11_crosses 35 = .ok (.ireturn, 1) := by decide +kernel
set_option maxRecDepth 20000 in
theorem ggX11_returns_X0_stands : GoodIn wsX11_returns wsX0_stands := goodIn_r _ [7, 8, 46, 47, 48, 49, 50, 51, 52, 53, 54, 55, 56, 57, 58, 59, 60, 61, 62] (by decide +kernel) (by decide +kernel)
set_option maxRecDepth 20000 in
theorem gX11_returns_X0_stands : GoodIn wsX11_returns (wsV RX11 125 RX0 yX0_stands wsX0_stands) := goodIn_app (goodIn_of _ (by decide +kernel)) ggX11_returns_X0_stands
set_option maxRecDepth 20000 in
theorem ggX11_returns_X11_isBeat : GoodIn wsX11_returns wsX11_isBeat := goodIn_r _ [12, 13, 14, 11, 15] (by decide +kernel) (by decide +kernel)
set_option maxRecDepth 20000 in
theorem gX11_returns_X11_isBeat : GoodIn wsX11_returns (va_wsS RX11 156 yX11_isBeat wsX11_isBeat) := goodIn_app (goodIn_of _ (by decide +kernel)) ggX11_returns_X11_isBeat
set_option maxRecDepth 20000 in
theorem ggX11_returns_X10_through : GoodIn wsX11_returns wsX10_through := goodIn_r _ [20, 21, 22, 23, 24, 11, 25, 26, 27, 28, 29, 46, 47, 48, 49, 50, 51, 52, 53, 54, 55, 56, 57, 58, 59, 60, 61, 62, 63, 64, 65] (by decide +kernel) (by decide +kernel)
set_option maxRecDepth 20000 in
theorem gX11_returns_X10_through : GoodIn wsX11_returns (wsV RX11 274 RX10 yX10_through wsX10_through) := goodIn_app (goodIn_of _ (by decide +kernel)) ggX11_returns_X10_through
theorem dX11_returns_0 : decode cX11_returns 0 = .ok (.aload_n 0, 1) := by decide +kernel
theorem dX11_returns_1 : decode cX11_returns 1 = .ok (.getfield 24, 3) := by decide +kernel
theorem dX11_returns_4 : decode cX11_returns 4 = .ok (.invokevirtual 125, 3) := by decide +kernel
theorem dX11_returns_7 : decode cX11_returns 7 = .ok (.ifCond .eq 26, 3) := by decide +kernel
theorem dX11_returns_10 : decode cX11_returns 10 = .ok (.iload_n 1, 1) := by decide +kernel
theorem dX11_returns_11 : decode cX11_returns 11 = .ok (.invokestatic 156, 3) := by decide +kernel
theorem dX11_returns_14 : decode cX11_returns 14 = .ok (.ifCond .eq 19, 3) := by decide +kernel
theorem dX11_returns_17 : decode cX11_returns 17 = .ok (.aload_n 0, 1) := by decide +kernel
theorem dX11_returns_18 : decode cX11_returns 18 = .ok (.getfield 70, 3) := by decide +kernel
theorem dX11_returns_21 : decode cX11_returns 21 = .ok (.aload_n 0, 1) := by decide +kernel
theorem dX11_returns_22 : decode cX11_returns 22 = .ok (.getfield 24, 3) := by decide +kernel
theorem dX11_returns_25 : decode cX11_returns 25 = .ok (.iconst 1, 1) := by decide +kernel
theorem dX11_returns_26 : decode cX11_returns 26 = .ok (.iload_n 1, 1) := by decide +kernel
theorem dX11_returns_27 : decode cX11_returns 27 = .ok (.invokevirtual 274, 3) := by decide +kernel
theorem dX11_returns_30 : decode cX11_returns 30 = .ok (.goto 5, 3) := by decide +kernel
theorem dX11_returns_33 : decode cX11_returns 33 = .ok (.bipush (-2), 2) := by decide +kernel
theorem dX11_returns_35 : decode cX11_returns 35 = .ok (.ireturn, 1) := by decide +kernel
set_option maxRecDepth 20000 in
theorem ggX11_meet_X0_stands : GoodIn wsX11_meet wsX0_stands := goodIn_r _ [8, 9, 60, 61, 62, 63, 64, 65, 66, 67, 68, 69, 70, 71, 72, 73, 74, 75, 76] (by decide +kernel) (by decide +kernel)
set_option maxRecDepth 20000 in
theorem gX11_meet_X0_stands : GoodIn wsX11_meet (wsV RX11 125 RX0 yX0_stands wsX0_stands) := goodIn_app (goodIn_of _ (by decide +kernel)) ggX11_meet_X0_stands
set_option maxRecDepth 20000 in
theorem ggX11_meet_X11_isBeat : GoodIn wsX11_meet wsX11_isBeat := goodIn_r _ [13, 14, 15, 12, 16] (by decide +kernel) (by decide +kernel)
set_option maxRecDepth 20000 in
theorem gX11_meet_X11_isBeat : GoodIn wsX11_meet (va_wsS RX11 156 yX11_isBeat wsX11_isBeat) := goodIn_app (goodIn_of _ (by decide +kernel)) ggX11_meet_X11_isBeat
set_option maxRecDepth 20000 in
theorem ggX11_meet_X10_findMeeting : GoodIn wsX11_meet wsX10_findMeeting := goodIn_r _ [21, 22, 23, 24, 25, 26, 27, 28, 29, 30, 31, 32, 20, 33, 34, 35, 12, 36, 37, 38, 39, 40, 57, 58, 59, 60, 61, 62, 63, 64, 65, 66, 67, 68, 69, 70, 71, 72, 73, 74, 75, 76] (by decide +kernel) (by decide +kernel)
set_option maxRecDepth 20000 in
theorem gX11_meet_X10_findMeeting : GoodIn wsX11_meet (wsV RX11 277 RX10 yX10_findMeeting wsX10_findMeeting) := goodIn_app (goodIn_of _ (by decide +kernel)) ggX11_meet_X10_findMeeting
theorem dX11_meet_0 : decode cX11_meet 0 = .ok (.aload_n 0, 1) := by decide +kernel
theorem dX11_meet_1 : decode cX11_meet 1 = .ok (.getfield 24, 3) := by decide +kernel
theorem dX11_meet_4 : decode cX11_meet 4 = .ok (.invokevirtual 125, 3) := by decide +kernel
theorem dX11_meet_7 : decode cX11_meet 7 = .ok (.ifCond .eq 17, 3) := by decide +kernel
theorem dX11_meet_10 : decode cX11_meet 10 = .ok (.iload_n 1, 1) := by decide +kernel
theorem dX11_meet_11 : decode cX11_meet 11 = .ok (.invokestatic 156, 3) := by decide +kernel
theorem dX11_meet_14 : decode cX11_meet 14 = .ok (.ifCond .eq 10, 3) := by decide +kernel
theorem dX11_meet_17 : decode cX11_meet 17 = .ok (.iload_n 2, 1) := by decide +kernel
theorem dX11_meet_18 : decode cX11_meet 18 = .ok (.invokestatic 156, 3) := by decide +kernel
theorem dX11_meet_21 : decode cX11_meet 21 = .ok (.ifCond .ne 6, 3) := by decide +kernel
theorem dX11_meet_24 : decode cX11_meet 24 = .ok (.bipush (-2), 2) := by decide +kernel
theorem dX11_meet_26 : decode cX11_meet 26 = .ok (.ireturn, 1) := by decide +kernel
theorem dX11_meet_27 : decode cX11_meet 27 = .ok (.aload_n 0, 1) := by decide +kernel
theorem dX11_meet_28 : decode cX11_meet 28 = .ok (.getfield 70, 3) := by decide +kernel
theorem dX11_meet_31 : decode cX11_meet 31 = .ok (.aload_n 0, 1) := by decide +kernel
theorem dX11_meet_32 : decode cX11_meet 32 = .ok (.getfield 24, 3) := by decide +kernel
theorem dX11_meet_35 : decode cX11_meet 35 = .ok (.iload_n 1, 1) := by decide +kernel
theorem dX11_meet_36 : decode cX11_meet 36 = .ok (.iload_n 2, 1) := by decide +kernel
theorem dX11_meet_37 : decode cX11_meet 37 = .ok (.invokevirtual 277, 3) := by decide +kernel
theorem dX11_meet_40 : decode cX11_meet 40 = .ok (.aload_n 0, 1) := by decide +kernel
theorem dX11_meet_41 : decode cX11_meet 41 = .ok (.getfield 70, 3) := by decide +kernel
theorem dX11_meet_44 : decode cX11_meet 44 = .ok (.getfield 280, 3) := by decide +kernel
theorem dX11_meet_47 : decode cX11_meet 47 = .ok (.ireturn, 1) := by decide +kernel
set_option maxRecDepth 20000 in
theorem ggX11_cell_X0_stands : GoodIn wsX11_cell wsX0_stands := goodIn_r _ [8, 9, 60, 61, 62, 63, 64, 65, 66, 67, 68, 69, 70, 71, 72, 73, 74, 75, 76] (by decide +kernel) (by decide +kernel)
set_option maxRecDepth 20000 in
theorem gX11_cell_X0_stands : GoodIn wsX11_cell (wsV RX11 125 RX0 yX0_stands wsX0_stands) := goodIn_app (goodIn_of _ (by decide +kernel)) ggX11_cell_X0_stands
set_option maxRecDepth 20000 in
theorem ggX11_cell_X11_isBeat : GoodIn wsX11_cell wsX11_isBeat := goodIn_r _ [13, 14, 15, 12, 16] (by decide +kernel) (by decide +kernel)
set_option maxRecDepth 20000 in
theorem gX11_cell_X11_isBeat : GoodIn wsX11_cell (va_wsS RX11 156 yX11_isBeat wsX11_isBeat) := goodIn_app (goodIn_of _ (by decide +kernel)) ggX11_cell_X11_isBeat
set_option maxRecDepth 20000 in
theorem ggX11_cell_X10_findMeeting : GoodIn wsX11_cell wsX10_findMeeting := goodIn_r _ [21, 22, 23, 24, 25, 26, 27, 28, 29, 30, 31, 32, 20, 33, 34, 35, 12, 36, 37, 38, 39, 40, 57, 58, 59, 60, 61, 62, 63, 64, 65, 66, 67, 68, 69, 70, 71, 72, 73, 74, 75, 76] (by decide +kernel) (by decide +kernel)
set_option maxRecDepth 20000 in
theorem gX11_cell_X10_findMeeting : GoodIn wsX11_cell (wsV RX11 277 RX10 yX10_findMeeting wsX10_findMeeting) := goodIn_app (goodIn_of _ (by decide +kernel)) ggX11_cell_X10_findMeeting
theorem dX11_cell_0 : decode cX11_cell 0 = .ok (.aload_n 0, 1) := by decide +kernel
theorem dX11_cell_1 : decode cX11_cell 1 = .ok (.getfield 24, 3) := by decide +kernel
theorem dX11_cell_4 : decode cX11_cell 4 = .ok (.invokevirtual 125, 3) := by decide +kernel
theorem dX11_cell_7 : decode cX11_cell 7 = .ok (.ifCond .eq 17, 3) := by decide +kernel
theorem dX11_cell_10 : decode cX11_cell 10 = .ok (.iload_n 1, 1) := by decide +kernel
theorem dX11_cell_11 : decode cX11_cell 11 = .ok (.invokestatic 156, 3) := by decide +kernel
theorem dX11_cell_14 : decode cX11_cell 14 = .ok (.ifCond .eq 10, 3) := by decide +kernel
theorem dX11_cell_17 : decode cX11_cell 17 = .ok (.iload_n 2, 1) := by decide +kernel
theorem dX11_cell_18 : decode cX11_cell 18 = .ok (.invokestatic 156, 3) := by decide +kernel
theorem dX11_cell_21 : decode cX11_cell 21 = .ok (.ifCond .ne 6, 3) := by decide +kernel
theorem dX11_cell_24 : decode cX11_cell 24 = .ok (.bipush (-2), 2) := by decide +kernel
theorem dX11_cell_26 : decode cX11_cell 26 = .ok (.ireturn, 1) := by decide +kernel
theorem dX11_cell_27 : decode cX11_cell 27 = .ok (.aload_n 0, 1) := by decide +kernel
theorem dX11_cell_28 : decode cX11_cell 28 = .ok (.getfield 70, 3) := by decide +kernel
theorem dX11_cell_31 : decode cX11_cell 31 = .ok (.aload_n 0, 1) := by decide +kernel
theorem dX11_cell_32 : decode cX11_cell 32 = .ok (.getfield 24, 3) := by decide +kernel
theorem dX11_cell_35 : decode cX11_cell 35 = .ok (.iload_n 1, 1) := by decide +kernel
theorem dX11_cell_36 : decode cX11_cell 36 = .ok (.iload_n 2, 1) := by decide +kernel
theorem dX11_cell_37 : decode cX11_cell 37 = .ok (.invokevirtual 277, 3) := by decide +kernel
theorem dX11_cell_40 : decode cX11_cell 40 = .ok (.aload_n 0, 1) := by decide +kernel
theorem dX11_cell_41 : decode cX11_cell 41 = .ok (.getfield 70, 3) := by decide +kernel
theorem dX11_cell_44 : decode cX11_cell 44 = .ok (.getfield 283, 3) := by decide +kernel
theorem dX11_cell_47 : decode cX11_cell 47 = .ok (.ireturn, 1) := by decide +kernel
set_option maxRecDepth 20000 in
theorem ggX11_longest_X0_stands : GoodIn wsX11_longest wsX0_stands := goodIn_r _ [7, 8, 48, 49, 50, 51, 52, 53, 54, 55, 56, 57, 58, 59, 60, 61, 62, 63, 64] (by decide +kernel) (by decide +kernel)
set_option maxRecDepth 20000 in
theorem gX11_longest_X0_stands : GoodIn wsX11_longest (wsV RX11 125 RX0 yX0_stands wsX0_stands) := goodIn_app (goodIn_of _ (by decide +kernel)) ggX11_longest_X0_stands
set_option maxRecDepth 20000 in
theorem ggX11_longest_X10_slowest : GoodIn wsX11_longest wsX10_slowest := goodIn_r _ [13, 14, 15, 16, 17, 18, 19, 20, 12, 21, 22, 23, 24, 25, 26, 27, 28, 29, 30, 31, 48, 49, 50, 51, 52, 53, 54, 55, 56, 57, 58, 59, 60, 61, 62, 63, 64, 65, 66, 67] (by decide +kernel) (by decide +kernel)
set_option maxRecDepth 20000 in
theorem gX11_longest_X10_slowest : GoodIn wsX11_longest (wsV RX11 286 RX10 yX10_slowest wsX10_slowest) := goodIn_app (goodIn_of _ (by decide +kernel)) ggX11_longest_X10_slowest
theorem dX11_longest_0 : decode cX11_longest 0 = .ok (.aload_n 0, 1) := by decide +kernel
theorem dX11_longest_1 : decode cX11_longest 1 = .ok (.getfield 24, 3) := by decide +kernel
theorem dX11_longest_4 : decode cX11_longest 4 = .ok (.invokevirtual 125, 3) := by decide +kernel
theorem dX11_longest_7 : decode cX11_longest 7 = .ok (.ifCond .eq 17, 3) := by decide +kernel
theorem dX11_longest_10 : decode cX11_longest 10 = .ok (.aload_n 0, 1) := by decide +kernel
theorem dX11_longest_11 : decode cX11_longest 11 = .ok (.getfield 70, 3) := by decide +kernel
theorem dX11_longest_14 : decode cX11_longest 14 = .ok (.aload_n 0, 1) := by decide +kernel
theorem dX11_longest_15 : decode cX11_longest 15 = .ok (.getfield 24, 3) := by decide +kernel
theorem dX11_longest_18 : decode cX11_longest 18 = .ok (.invokevirtual 286, 3) := by decide +kernel
theorem dX11_longest_21 : decode cX11_longest 21 = .ok (.goto 5, 3) := by decide +kernel
theorem dX11_longest_24 : decode cX11_longest 24 = .ok (.bipush (-2), 2) := by decide +kernel
theorem dX11_longest_26 : decode cX11_longest 26 = .ok (.ireturn, 1) := by decide +kernel
set_option maxRecDepth 20000 in
theorem ggX11_half_X7_refusalOfSteps : GoodIn wsX11_half wsX7_refusalOfSteps := goodIn_r _ [6, 7, 8, 9, 5, 10, 11, 12, 13, 14, 15, 16, 17, 18, 19, 20, 21, 22, 23, 24, 25, 26, 27, 28, 29, 30, 65, 66, 67] (by decide +kernel) (by decide +kernel)
set_option maxRecDepth 20000 in
theorem gX11_half_X7_refusalOfSteps : GoodIn wsX11_half (wsV RX11 289 RX7 yX7_refusalOfSteps wsX7_refusalOfSteps) := goodIn_app (goodIn_of _ (by decide +kernel)) ggX11_half_X7_refusalOfSteps
set_option maxRecDepth 20000 in
theorem ggX11_half_X7_shortest : GoodIn wsX11_half wsX7_shortest := goodIn_r _ [34, 35, 36, 37, 5, 38, 7, 26, 18, 19, 20, 21, 22, 39, 12, 40, 41, 42, 43, 44, 45, 46, 47, 48, 65, 66, 67] (by decide +kernel) (by decide +kernel)
set_option maxRecDepth 20000 in
theorem gX11_half_X7_shortest : GoodIn wsX11_half (wsV RX11 293 RX7 yX7_shortest wsX7_shortest) := goodIn_app (goodIn_of _ (by decide +kernel)) ggX11_half_X7_shortest
theorem dX11_half_0 : decode cX11_half 0 = .ok (.aload_n 0, 1) := by decide +kernel
theorem dX11_half_1 : decode cX11_half 1 = .ok (.getfield 98, 3) := by decide +kernel
theorem dX11_half_4 : decode cX11_half 4 = .ok (.iload_n 1, 1) := by decide +kernel
theorem dX11_half_5 : decode cX11_half 5 = .ok (.invokevirtual 289, 3) := by decide +kernel
theorem dX11_half_8 : decode cX11_half 8 = .ok (.istore_n 2, 1) := by decide +kernel
theorem dX11_half_9 : decode cX11_half 9 = .ok (.iload_n 2, 1) := by decide +kernel
theorem dX11_half_10 : decode cX11_half 10 = .ok (.ifCond .ge 7, 3) := by decide +kernel
theorem dX11_half_13 : decode cX11_half 13 = .ok (.iload_n 2, 1) := by decide +kernel
theorem dX11_half_14 : decode cX11_half 14 = .ok (.goto 11, 3) := by decide +kernel
theorem dX11_half_17 : decode cX11_half 17 = .ok (.aload_n 0, 1) := by decide +kernel
theorem dX11_half_18 : decode cX11_half 18 = .ok (.getfield 98, 3) := by decide +kernel
theorem dX11_half_21 : decode cX11_half 21 = .ok (.iload_n 1, 1) := by decide +kernel
theorem dX11_half_22 : decode cX11_half 22 = .ok (.invokevirtual 293, 3) := by decide +kernel
theorem dX11_half_25 : decode cX11_half 25 = .ok (.ireturn, 1) := by decide +kernel
set_option maxRecDepth 20000 in
theorem ggX11_fills_X7_refusalOfSteps : GoodIn wsX11_fills wsX7_refusalOfSteps := goodIn_r _ [6, 7, 8, 9, 5, 10, 11, 12, 13, 14, 15, 16, 17, 18, 19, 20, 21, 22, 23, 24, 25, 26, 27, 28, 29, 30, 67, 68, 69] (by decide +kernel) (by decide +kernel)
set_option maxRecDepth 20000 in
theorem gX11_fills_X7_refusalOfSteps : GoodIn wsX11_fills (wsV RX11 289 RX7 yX7_refusalOfSteps wsX7_refusalOfSteps) := goodIn_app (goodIn_of _ (by decide +kernel)) ggX11_fills_X7_refusalOfSteps
set_option maxRecDepth 20000 in
theorem ggX11_fills_X7_shortest : GoodIn wsX11_fills wsX7_shortest := goodIn_r _ [34, 35, 36, 37, 5, 38, 7, 26, 18, 19, 20, 21, 22, 39, 12, 40, 41, 42, 43, 44, 45, 46, 47, 48, 67, 68, 69] (by decide +kernel) (by decide +kernel)
set_option maxRecDepth 20000 in
theorem gX11_fills_X7_shortest : GoodIn wsX11_fills (wsV RX11 293 RX7 yX7_shortest wsX7_shortest) := goodIn_app (goodIn_of _ (by decide +kernel)) ggX11_fills_X7_shortest
set_option maxRecDepth 20000 in
theorem ggX11_fills_X11_isWithin : GoodIn wsX11_fills wsX11_isWithin := goodIn_r _ [13] (by decide +kernel) (by decide +kernel)
set_option maxRecDepth 20000 in
theorem gX11_fills_X11_isWithin : GoodIn wsX11_fills (va_wsS RX11 150 yX11_isWithin wsX11_isWithin) := goodIn_app (goodIn_of _ (by decide +kernel)) ggX11_fills_X11_isWithin
set_option maxRecDepth 20000 in
theorem ggX11_fills_X7_told : GoodIn wsX11_fills wsX7_told := goodIn_r _ [48, 7, 26, 18, 19, 20, 5, 21, 22, 67, 68, 69] (by decide +kernel) (by decide +kernel)
set_option maxRecDepth 20000 in
theorem gX11_fills_X7_told : GoodIn wsX11_fills (wsV RX11 296 RX7 yX7_told wsX7_told) := goodIn_app (goodIn_of _ (by decide +kernel)) ggX11_fills_X7_told
theorem dX11_fills_0 : decode cX11_fills 0 = .ok (.aload_n 0, 1) := by decide +kernel
theorem dX11_fills_1 : decode cX11_fills 1 = .ok (.getfield 98, 3) := by decide +kernel
theorem dX11_fills_4 : decode cX11_fills 4 = .ok (.iload_n 1, 1) := by decide +kernel
theorem dX11_fills_5 : decode cX11_fills 5 = .ok (.invokevirtual 289, 3) := by decide +kernel
theorem dX11_fills_8 : decode cX11_fills 8 = .ok (.istore_n 3, 1) := by decide +kernel
theorem dX11_fills_9 : decode cX11_fills 9 = .ok (.iload_n 3, 1) := by decide +kernel
theorem dX11_fills_10 : decode cX11_fills 10 = .ok (.ifCond .ge 5, 3) := by decide +kernel
theorem dX11_fills_13 : decode cX11_fills 13 = .ok (.iload_n 3, 1) := by decide +kernel
theorem dX11_fills_14 : decode cX11_fills 14 = .ok (.ireturn, 1) := by decide +kernel
theorem dX11_fills_15 : decode cX11_fills 15 = .ok (.aload_n 0, 1) := by decide +kernel
theorem dX11_fills_16 : decode cX11_fills 16 = .ok (.getfield 98, 3) := by decide +kernel
theorem dX11_fills_19 : decode cX11_fills 19 = .ok (.iload_n 1, 1) := by decide +kernel
theorem dX11_fills_20 : decode cX11_fills 20 = .ok (.invokevirtual 293, 3) := by decide +kernel
theorem dX11_fills_23 : decode cX11_fills 23 = .ok (.istore 4, 2) := by decide +kernel
theorem dX11_fills_25 : decode cX11_fills 25 = .ok (.iload_n 2, 1) := by decide +kernel
theorem dX11_fills_26 : decode cX11_fills 26 = .ok (.iload 4, 2) := by decide +kernel
theorem dX11_fills_28 : decode cX11_fills 28 = .ok (.invokestatic 150, 3) := by decide +kernel
theorem dX11_fills_31 : decode cX11_fills 31 = .ok (.ifCond .eq 17, 3) := by decide +kernel
theorem dX11_fills_34 : decode cX11_fills 34 = .ok (.aload_n 0, 1) := by decide +kernel
theorem dX11_fills_35 : decode cX11_fills 35 = .ok (.getfield 98, 3) := by decide +kernel
theorem dX11_fills_38 : decode cX11_fills 38 = .ok (.iload_n 1, 1) := by decide +kernel
theorem dX11_fills_39 : decode cX11_fills 39 = .ok (.iload 4, 2) := by decide +kernel
theorem dX11_fills_41 : decode cX11_fills 41 = .ok (.iload_n 2, 1) := by decide +kernel
theorem dX11_fills_42 : decode cX11_fills 42 = .ok (.invokevirtual 296, 3) := by decide +kernel
theorem dX11_fills_45 : decode cX11_fills 45 = .ok (.goto 4, 3) := by decide +kernel
theorem dX11_fills_48 : decode cX11_fills 48 = .ok (.iconst (-1), 1) := by decide +kernel
theorem dX11_fills_49 : decode cX11_fills 49 = .ok (.ireturn, 1) := by decide +kernel
set_option maxRecDepth 20000 in
theorem ggX11_open_X7_refusalOfSteps : GoodIn wsX11_open wsX7_refusalOfSteps := goodIn_r _ [6, 7, 8, 9, 5, 10, 11, 12, 13, 14, 15, 16, 17, 18, 19, 20, 21, 22, 23, 24, 25, 26, 27, 28, 29, 30, 69, 70, 71] (by decide +kernel) (by decide +kernel)
set_option maxRecDepth 20000 in
theorem gX11_open_X7_refusalOfSteps : GoodIn wsX11_open (wsV RX11 289 RX7 yX7_refusalOfSteps wsX7_refusalOfSteps) := goodIn_app (goodIn_of _ (by decide +kernel)) ggX11_open_X7_refusalOfSteps
set_option maxRecDepth 20000 in
theorem ggX11_open_X7_shortest : GoodIn wsX11_open wsX7_shortest := goodIn_r _ [34, 35, 36, 37, 5, 38, 7, 26, 18, 19, 20, 21, 22, 39, 12, 40, 41, 42, 43, 44, 45, 46, 47, 48, 69, 70, 71] (by decide +kernel) (by decide +kernel)
set_option maxRecDepth 20000 in
theorem gX11_open_X7_shortest : GoodIn wsX11_open (wsV RX11 293 RX7 yX7_shortest wsX7_shortest) := goodIn_app (goodIn_of _ (by decide +kernel)) ggX11_open_X7_shortest
set_option maxRecDepth 20000 in
theorem ggX11_open_X7_countUntold : GoodIn wsX11_open wsX7_countUntold := goodIn_r _ [52, 45, 46, 47, 5, 48, 7, 26, 18, 19, 20, 21, 22, 69, 70, 71] (by decide +kernel) (by decide +kernel)
set_option maxRecDepth 20000 in
theorem gX11_open_X7_countUntold : GoodIn wsX11_open (wsV RX11 300 RX7 yX7_countUntold wsX7_countUntold) := goodIn_app (goodIn_of _ (by decide +kernel)) ggX11_open_X7_countUntold
theorem dX11_open_0 : decode cX11_open 0 = .ok (.aload_n 0, 1) := by decide +kernel
theorem dX11_open_1 : decode cX11_open 1 = .ok (.getfield 98, 3) := by decide +kernel
theorem dX11_open_4 : decode cX11_open 4 = .ok (.iload_n 1, 1) := by decide +kernel
theorem dX11_open_5 : decode cX11_open 5 = .ok (.invokevirtual 289, 3) := by decide +kernel
theorem dX11_open_8 : decode cX11_open 8 = .ok (.istore_n 2, 1) := by decide +kernel
theorem dX11_open_9 : decode cX11_open 9 = .ok (.iload_n 2, 1) := by decide +kernel
theorem dX11_open_10 : decode cX11_open 10 = .ok (.ifCond .ge 5, 3) := by decide +kernel
theorem dX11_open_13 : decode cX11_open 13 = .ok (.iload_n 2, 1) := by decide +kernel
theorem dX11_open_14 : decode cX11_open 14 = .ok (.ireturn, 1) := by decide +kernel
theorem dX11_open_15 : decode cX11_open 15 = .ok (.aload_n 0, 1) := by decide +kernel
theorem dX11_open_16 : decode cX11_open 16 = .ok (.getfield 98, 3) := by decide +kernel
theorem dX11_open_19 : decode cX11_open 19 = .ok (.iload_n 1, 1) := by decide +kernel
theorem dX11_open_20 : decode cX11_open 20 = .ok (.invokevirtual 293, 3) := by decide +kernel
theorem dX11_open_23 : decode cX11_open 23 = .ok (.istore_n 3, 1) := by decide +kernel
theorem dX11_open_24 : decode cX11_open 24 = .ok (.iload_n 3, 1) := by decide +kernel
theorem dX11_open_25 : decode cX11_open 25 = .ok (.iconst (-1), 1) := by decide +kernel
theorem dX11_open_26 : decode cX11_open 26 = .ok (.if_icmp .ne 7, 3) := by decide +kernel
theorem dX11_open_29 : decode cX11_open 29 = .ok (.iconst (-1), 1) := by decide +kernel
theorem dX11_open_30 : decode cX11_open 30 = .ok (.goto 12, 3) := by decide +kernel
theorem dX11_open_33 : decode cX11_open 33 = .ok (.aload_n 0, 1) := by decide +kernel
theorem dX11_open_34 : decode cX11_open 34 = .ok (.getfield 98, 3) := by decide +kernel
theorem dX11_open_37 : decode cX11_open 37 = .ok (.iload_n 1, 1) := by decide +kernel
theorem dX11_open_38 : decode cX11_open 38 = .ok (.iload_n 3, 1) := by decide +kernel
theorem dX11_open_39 : decode cX11_open 39 = .ok (.invokevirtual 300, 3) := by decide +kernel
theorem dX11_open_42 : decode cX11_open 42 = .ok (.ireturn, 1) := by decide +kernel
set_option maxRecDepth 20000 in
theorem ggX11_together_X11_hasSet : GoodIn wsX11_together wsX11_hasSet := goodIn_r _ [8, 3, 9, 10, 11, 12, 13, 14, 15, 16, 17, 7, 18, 49, 50, 51, 52, 53, 54, 55, 56, 57, 58, 59, 60, 61, 62, 63, 64, 65, 66, 67, 68, 69, 70, 71, 72, 73, 74, 75, 76, 77, 78, 79, 80, 81] (by decide +kernel) (by decide +kernel)
set_option maxRecDepth 20000 in
theorem gX11_together_X11_hasSet : GoodIn wsX11_together (wsV RX11 303 RX11 yX11_hasSet wsX11_hasSet) := goodIn_app (goodIn_of _ (by decide +kernel)) ggX11_together_X11_hasSet
set_option maxRecDepth 20000 in
theorem ggX11_together_X11_isBeat : GoodIn wsX11_together wsX11_isBeat := goodIn_r _ [21, 16, 17, 7, 18] (by decide +kernel) (by decide +kernel)
set_option maxRecDepth 20000 in
theorem gX11_together_X11_isBeat : GoodIn wsX11_together (va_wsS RX11 156 yX11_isBeat wsX11_isBeat) := goodIn_app (goodIn_of _ (by decide +kernel)) ggX11_together_X11_isBeat
set_option maxRecDepth 20000 in
theorem ggX11_together_X9_join : GoodIn wsX11_together wsX9_join := goodIn_r _ [26, 27, 28, 29, 30, 31, 32, 33, 25, 34, 35, 36, 7, 37, 38, 39, 40, 82, 83, 65, 66, 67, 68, 69, 70, 71, 72, 73, 74, 75, 76, 77, 78, 79, 80, 81] (by decide +kernel) (by decide +kernel)
set_option maxRecDepth 20000 in
theorem gX11_together_X9_join : GoodIn wsX11_together (wsV RX11 308 RX9 yX9_join wsX9_join) := goodIn_app (goodIn_of _ (by decide +kernel)) ggX11_together_X9_join
set_option maxRecDepth 20000 in
theorem ggX11_together_X9_firstFrom : GoodIn wsX11_together wsX9_firstFrom := goodIn_r _ [44, 28, 35, 27, 45, 46, 47, 48, 82, 83] (by decide +kernel) (by decide +kernel)
set_option maxRecDepth 20000 in
theorem gX11_together_X9_firstFrom : GoodIn wsX11_together (wsV RX11 311 RX9 yX9_firstFrom wsX9_firstFrom) := goodIn_app (goodIn_of _ (by decide +kernel)) ggX11_together_X9_firstFrom
theorem dX11_together_0 : decode cX11_together 0 = .ok (.aload_n 0, 1) := by decide +kernel
theorem dX11_together_1 : decode cX11_together 1 = .ok (.iload_n 1, 1) := by decide +kernel
theorem dX11_together_2 : decode cX11_together 2 = .ok (.invokevirtual 303, 3) := by decide +kernel
theorem dX11_together_5 : decode cX11_together 5 = .ok (.ifCond .eq 10, 3) := by decide +kernel
theorem dX11_together_8 : decode cX11_together 8 = .ok (.iload_n 2, 1) := by decide +kernel
theorem dX11_together_9 : decode cX11_together 9 = .ok (.invokestatic 156, 3) := by decide +kernel
theorem dX11_together_12 : decode cX11_together 12 = .ok (.ifCond .ne 7, 3) := by decide +kernel
theorem dX11_together_15 : decode cX11_together 15 = .ok (.ldc2_w 306, 3) := by decide +kernel
theorem dX11_together_18 : decode cX11_together 18 = .ok (.lreturn, 1) := by decide +kernel
theorem dX11_together_19 : decode cX11_together 19 = .ok (.aload_n 0, 1) := by decide +kernel
theorem dX11_together_20 : decode cX11_together 20 = .ok (.getfield 77, 3) := by decide +kernel
theorem dX11_together_23 : decode cX11_together 23 = .ok (.aload_n 0, 1) := by decide +kernel
theorem dX11_together_24 : decode cX11_together 24 = .ok (.getfield 24, 3) := by decide +kernel
theorem dX11_together_27 : decode cX11_together 27 = .ok (.iload_n 1, 1) := by decide +kernel
theorem dX11_together_28 : decode cX11_together 28 = .ok (.invokevirtual 308, 3) := by decide +kernel
theorem dX11_together_31 : decode cX11_together 31 = .ok (.aload_n 0, 1) := by decide +kernel
theorem dX11_together_32 : decode cX11_together 32 = .ok (.getfield 77, 3) := by decide +kernel
theorem dX11_together_35 : decode cX11_together 35 = .ok (.iload_n 2, 1) := by decide +kernel
theorem dX11_together_36 : decode cX11_together 36 = .ok (.invokevirtual 311, 3) := by decide +kernel
theorem dX11_together_39 : decode cX11_together 39 = .ok (.lreturn, 1) := by decide +kernel
set_option maxRecDepth 20000 in
theorem ggX11_again_X11_hasSet : GoodIn wsX11_again wsX11_hasSet := goodIn_r _ [9, 3, 10, 11, 12, 13, 14, 15, 16, 17, 18, 8, 19, 39, 40, 41, 42, 43, 44, 45, 46, 47, 48, 49, 50, 51, 52, 53, 54, 57, 58, 59, 60, 61, 62, 63, 64, 65, 66, 67, 68, 69, 70, 71, 72, 73] (by decide +kernel) (by decide +kernel)
set_option maxRecDepth 20000 in
theorem gX11_again_X11_hasSet : GoodIn wsX11_again (wsV RX11 303 RX11 yX11_hasSet wsX11_hasSet) := goodIn_app (goodIn_of _ (by decide +kernel)) ggX11_again_X11_hasSet
set_option maxRecDepth 20000 in
theorem ggX11_again_X9_join : GoodIn wsX11_again wsX9_join := goodIn_r _ [24, 25, 26, 27, 28, 29, 30, 31, 23, 32, 33, 34, 8, 35, 36, 37, 38, 55, 56, 57, 58, 59, 60, 61, 62, 63, 64, 65, 66, 67, 68, 69, 70, 71, 72, 73] (by decide +kernel) (by decide +kernel)
set_option maxRecDepth 20000 in
theorem gX11_again_X9_join : GoodIn wsX11_again (wsV RX11 308 RX9 yX9_join wsX9_join) := goodIn_app (goodIn_of _ (by decide +kernel)) ggX11_again_X9_join
theorem dX11_again_0 : decode cX11_again 0 = .ok (.aload_n 0, 1) := by decide +kernel
theorem dX11_again_1 : decode cX11_again 1 = .ok (.iload_n 1, 1) := by decide +kernel
theorem dX11_again_2 : decode cX11_again 2 = .ok (.invokevirtual 303, 3) := by decide +kernel
theorem dX11_again_5 : decode cX11_again 5 = .ok (.ifCond .ne 7, 3) := by decide +kernel
theorem dX11_again_8 : decode cX11_again 8 = .ok (.ldc2_w 306, 3) := by decide +kernel
theorem dX11_again_11 : decode cX11_again 11 = .ok (.lreturn, 1) := by decide +kernel
theorem dX11_again_12 : decode cX11_again 12 = .ok (.aload_n 0, 1) := by decide +kernel
theorem dX11_again_13 : decode cX11_again 13 = .ok (.getfield 77, 3) := by decide +kernel
theorem dX11_again_16 : decode cX11_again 16 = .ok (.aload_n 0, 1) := by decide +kernel
theorem dX11_again_17 : decode cX11_again 17 = .ok (.getfield 24, 3) := by decide +kernel
theorem dX11_again_20 : decode cX11_again 20 = .ok (.iload_n 1, 1) := by decide +kernel
theorem dX11_again_21 : decode cX11_again 21 = .ok (.invokevirtual 308, 3) := by decide +kernel
theorem dX11_again_24 : decode cX11_again 24 = .ok (.aload_n 0, 1) := by decide +kernel
theorem dX11_again_25 : decode cX11_again 25 = .ok (.getfield 77, 3) := by decide +kernel
theorem dX11_again_28 : decode cX11_again 28 = .ok (.getfield 315, 3) := by decide +kernel
theorem dX11_again_31 : decode cX11_again 31 = .ok (.lreturn, 1) := by decide +kernel
set_option maxRecDepth 20000 in
theorem ggX11_most_X0_stands : GoodIn wsX11_most wsX0_stands := goodIn_r _ [7, 8, 57, 58, 59, 60, 61, 62, 63, 64, 65, 66, 67, 68, 69, 70, 71, 72, 73] (by decide +kernel) (by decide +kernel)
set_option maxRecDepth 20000 in
theorem gX11_most_X0_stands : GoodIn wsX11_most (wsV RX11 125 RX0 yX0_stands wsX0_stands) := goodIn_app (goodIn_of _ (by decide +kernel)) ggX11_most_X0_stands
set_option maxRecDepth 20000 in
theorem ggX11_most_X9_largestSet : GoodIn wsX11_most wsX9_largestSet := goodIn_r _ [13, 14, 15, 16, 17, 18, 19, 20, 21, 22, 23, 24, 25, 26, 12, 27, 28, 29, 30, 31, 32, 33, 34, 35, 36, 37, 38, 39, 57, 58, 59, 60, 61, 62, 63, 64, 65, 66, 67, 68, 69, 70, 71, 72, 73, 74, 75] (by decide +kernel) (by decide +kernel)
set_option maxRecDepth 20000 in
theorem gX11_most_X9_largestSet : GoodIn wsX11_most (wsV RX11 319 RX9 yX9_largestSet wsX9_largestSet) := goodIn_app (goodIn_of _ (by decide +kernel)) ggX11_most_X9_largestSet
set_option maxRecDepth 20000 in
theorem ggX11_most_J6_bitCount_0f7a4 : GoodIn wsX11_most wsJ6_bitCount_0f7a4 := goodIn_r _ [20, 21, 22, 23] (by decide +kernel) (by decide +kernel)
set_option maxRecDepth 20000 in
theorem gX11_most_J6_bitCount_0f7a4 : GoodIn wsX11_most (va_wsS RX11 322 yJ6_bitCount_0f7a4 wsJ6_bitCount_0f7a4) := goodIn_app (goodIn_of _ (by decide +kernel)) ggX11_most_J6_bitCount_0f7a4
theorem dX11_most_0 : decode cX11_most 0 = .ok (.aload_n 0, 1) := by decide +kernel
theorem dX11_most_1 : decode cX11_most 1 = .ok (.getfield 24, 3) := by decide +kernel
theorem dX11_most_4 : decode cX11_most 4 = .ok (.invokevirtual 125, 3) := by decide +kernel
theorem dX11_most_7 : decode cX11_most 7 = .ok (.ifCond .eq 20, 3) := by decide +kernel
theorem dX11_most_10 : decode cX11_most 10 = .ok (.aload_n 0, 1) := by decide +kernel
theorem dX11_most_11 : decode cX11_most 11 = .ok (.getfield 77, 3) := by decide +kernel
theorem dX11_most_14 : decode cX11_most 14 = .ok (.aload_n 0, 1) := by decide +kernel
theorem dX11_most_15 : decode cX11_most 15 = .ok (.getfield 24, 3) := by decide +kernel
theorem dX11_most_18 : decode cX11_most 18 = .ok (.invokevirtual 319, 3) := by decide +kernel
theorem dX11_most_21 : decode cX11_most 21 = .ok (.invokestatic 322, 3) := by decide +kernel
theorem dX11_most_24 : decode cX11_most 24 = .ok (.goto 5, 3) := by decide +kernel
theorem dX11_most_27 : decode cX11_most 27 = .ok (.bipush (-2), 2) := by decide +kernel
theorem dX11_most_29 : decode cX11_most 29 = .ok (.ireturn, 1) := by decide +kernel
set_option maxRecDepth 20000 in
theorem ggX11_chorus_X0_stands : GoodIn wsX11_chorus wsX0_stands := goodIn_r _ [7, 8, 56, 57, 58, 59, 60, 61, 62, 63, 64, 65, 66, 67, 68, 69, 70, 71, 72] (by decide +kernel) (by decide +kernel)
set_option maxRecDepth 20000 in
theorem gX11_chorus_X0_stands : GoodIn wsX11_chorus (wsV RX11 125 RX0 yX0_stands wsX0_stands) := goodIn_app (goodIn_of _ (by decide +kernel)) ggX11_chorus_X0_stands
set_option maxRecDepth 20000 in
theorem ggX11_chorus_X9_largestSet : GoodIn wsX11_chorus wsX9_largestSet := goodIn_r _ [13, 14, 15, 16, 17, 18, 19, 20, 21, 22, 23, 24, 25, 26, 12, 27, 28, 29, 30, 31, 32, 33, 34, 35, 36, 37, 38, 39, 56, 57, 58, 59, 60, 61, 62, 63, 64, 65, 66, 67, 68, 69, 70, 71, 72, 73, 74] (by decide +kernel) (by decide +kernel)
set_option maxRecDepth 20000 in
theorem gX11_chorus_X9_largestSet : GoodIn wsX11_chorus (wsV RX11 319 RX9 yX9_largestSet wsX9_largestSet) := goodIn_app (goodIn_of _ (by decide +kernel)) ggX11_chorus_X9_largestSet
theorem dX11_chorus_0 : decode cX11_chorus 0 = .ok (.aload_n 0, 1) := by decide +kernel
theorem dX11_chorus_1 : decode cX11_chorus 1 = .ok (.getfield 24, 3) := by decide +kernel
theorem dX11_chorus_4 : decode cX11_chorus 4 = .ok (.invokevirtual 125, 3) := by decide +kernel
theorem dX11_chorus_7 : decode cX11_chorus 7 = .ok (.ifCond .eq 17, 3) := by decide +kernel
theorem dX11_chorus_10 : decode cX11_chorus 10 = .ok (.aload_n 0, 1) := by decide +kernel
theorem dX11_chorus_11 : decode cX11_chorus 11 = .ok (.getfield 77, 3) := by decide +kernel
theorem dX11_chorus_14 : decode cX11_chorus 14 = .ok (.aload_n 0, 1) := by decide +kernel
theorem dX11_chorus_15 : decode cX11_chorus 15 = .ok (.getfield 24, 3) := by decide +kernel
theorem dX11_chorus_18 : decode cX11_chorus 18 = .ok (.invokevirtual 319, 3) := by decide +kernel
theorem dX11_chorus_21 : decode cX11_chorus 21 = .ok (.goto 5, 3) := by decide +kernel
theorem dX11_chorus_24 : decode cX11_chorus 24 = .ok (.bipush (-2), 2) := by decide +kernel
theorem dX11_chorus_26 : decode cX11_chorus 26 = .ok (.ireturn, 1) := by decide +kernel
set_option maxRecDepth 20000 in
theorem ggX11_treaties_X0_stands : GoodIn wsX11_treaties wsX0_stands := goodIn_r _ [6, 7, 29, 30, 31, 32, 33, 34, 35, 36, 37, 38, 39, 40, 41, 42, 43, 44, 45] (by decide +kernel) (by decide +kernel)
set_option maxRecDepth 20000 in
theorem gX11_treaties_X0_stands : GoodIn wsX11_treaties (wsV RX11 125 RX0 yX0_stands wsX0_stands) := goodIn_app (goodIn_of _ (by decide +kernel)) ggX11_treaties_X0_stands
set_option maxRecDepth 20000 in
theorem ggX11_treaties_X0_mayMeet : GoodIn wsX11_treaties wsX0_mayMeet := goodIn_r _ [11, 12, 29, 30, 31, 32, 33, 34, 35, 36, 37, 38, 39, 40, 41, 42, 43, 44, 45] (by decide +kernel) (by decide +kernel)
set_option maxRecDepth 20000 in
theorem gX11_treaties_X0_mayMeet : GoodIn wsX11_treaties (wsV RX11 327 RX0 yX0_mayMeet wsX0_mayMeet) := goodIn_app (goodIn_of _ (by decide +kernel)) ggX11_treaties_X0_mayMeet
theorem dX11_treaties_0 : decode cX11_treaties 0 = .ok (.aload_n 0, 1) := by decide +kernel
theorem dX11_treaties_1 : decode cX11_treaties 1 = .ok (.getfield 24, 3) := by decide +kernel
theorem dX11_treaties_4 : decode cX11_treaties 4 = .ok (.invokevirtual 125, 3) := by decide +kernel
theorem dX11_treaties_7 : decode cX11_treaties 7 = .ok (.ifCond .ne 6, 3) := by decide +kernel
theorem dX11_treaties_10 : decode cX11_treaties 10 = .ok (.bipush (-2), 2) := by decide +kernel
theorem dX11_treaties_12 : decode cX11_treaties 12 = .ok (.ireturn, 1) := by decide +kernel
theorem dX11_treaties_13 : decode cX11_treaties 13 = .ok (.iconst 0, 1) := by decide +kernel
theorem dX11_treaties_14 : decode cX11_treaties 14 = .ok (.istore_n 1, 1) := by decide +kernel
theorem dX11_treaties_15 : decode cX11_treaties 15 = .ok (.iconst 0, 1) := by decide +kernel
theorem dX11_treaties_16 : decode cX11_treaties 16 = .ok (.istore_n 2, 1) := by decide +kernel
theorem dX11_treaties_17 : decode cX11_treaties 17 = .ok (.iload_n 2, 1) := by decide +kernel
theorem dX11_treaties_18 : decode cX11_treaties 18 = .ok (.bipush 6, 2) := by decide +kernel
theorem dX11_treaties_20 : decode cX11_treaties 20 = .ok (.if_icmp .ge 50, 3) := by decide +kernel
theorem dX11_treaties_23 : decode cX11_treaties 23 = .ok (.iconst 0, 1) := by decide +kernel
theorem dX11_treaties_24 : decode cX11_treaties 24 = .ok (.istore_n 3, 1) := by decide +kernel
theorem dX11_treaties_25 : decode cX11_treaties 25 = .ok (.iload_n 3, 1) := by decide +kernel
theorem dX11_treaties_26 : decode cX11_treaties 26 = .ok (.bipush 6, 2) := by decide +kernel
theorem dX11_treaties_28 : decode cX11_treaties 28 = .ok (.if_icmp .ge 36, 3) := by decide +kernel
theorem dX11_treaties_31 : decode cX11_treaties 31 = .ok (.aload_n 0, 1) := by decide +kernel
theorem dX11_treaties_32 : decode cX11_treaties 32 = .ok (.getfield 24, 3) := by decide +kernel
theorem dX11_treaties_35 : decode cX11_treaties 35 = .ok (.iload_n 2, 1) := by decide +kernel
theorem dX11_treaties_36 : decode cX11_treaties 36 = .ok (.iload_n 3, 1) := by decide +kernel
theorem dX11_treaties_37 : decode cX11_treaties 37 = .ok (.invokevirtual 327, 3) := by decide +kernel
theorem dX11_treaties_40 : decode cX11_treaties 40 = .ok (.ifCond .eq 18, 3) := by decide +kernel
theorem dX11_treaties_43 : decode cX11_treaties 43 = .ok (.aload_n 0, 1) := by decide +kernel
theorem dX11_treaties_44 : decode cX11_treaties 44 = .ok (.getfield 24, 3) := by decide +kernel
theorem dX11_treaties_47 : decode cX11_treaties 47 = .ok (.iload_n 3, 1) := by decide +kernel
theorem dX11_treaties_48 : decode cX11_treaties 48 = .ok (.iload_n 2, 1) := by decide +kernel
theorem dX11_treaties_49 : decode cX11_treaties 49 = .ok (.invokevirtual 327, 3) := by decide +kernel
theorem dX11_treaties_52 : decode cX11_treaties 52 = .ok (.ifCond .eq 6, 3) := by decide +kernel
theorem dX11_treaties_55 : decode cX11_treaties 55 = .ok (.iinc 1 1, 3) := by decide +kernel
theorem dX11_treaties_58 : decode cX11_treaties 58 = .ok (.iinc 3 1, 3) := by decide +kernel
theorem dX11_treaties_61 : decode cX11_treaties 61 = .ok (.goto (-36), 3) := by decide +kernel
theorem dX11_treaties_64 : decode cX11_treaties 64 = .ok (.iinc 2 1, 3) := by decide +kernel
theorem dX11_treaties_67 : decode cX11_treaties 67 = .ok (.goto (-50), 3) := by decide +kernel
theorem dX11_treaties_70 : decode cX11_treaties 70 = .ok (.iload_n 1, 1) := by decide +kernel
theorem dX11_treaties_71 : decode cX11_treaties 71 = .ok (.ireturn, 1) := by decide +kernel
set_option maxRecDepth 20000 in
theorem ggX11_leads_X0_stands : GoodIn wsX11_leads wsX0_stands := goodIn_r _ [7, 8, 36, 37, 38, 39, 40, 41, 42, 43, 44, 45, 46, 47, 48, 49, 50, 51, 52] (by decide +kernel) (by decide +kernel)
set_option maxRecDepth 20000 in
theorem gX11_leads_X0_stands : GoodIn wsX11_leads (wsV RX11 125 RX0 yX0_stands wsX0_stands) := goodIn_app (goodIn_of _ (by decide +kernel)) ggX11_leads_X0_stands
set_option maxRecDepth 20000 in
theorem ggX11_leads_X11_isWithin : GoodIn wsX11_leads wsX11_isWithin := goodIn_r _ [12] (by decide +kernel) (by decide +kernel)
set_option maxRecDepth 20000 in
theorem gX11_leads_X11_isWithin : GoodIn wsX11_leads (va_wsS RX11 150 yX11_isWithin wsX11_isWithin) := goodIn_app (goodIn_of _ (by decide +kernel)) ggX11_leads_X11_isWithin
set_option maxRecDepth 20000 in
theorem ggX11_leads_J6_bitCount_0f7a4 : GoodIn wsX11_leads wsJ6_bitCount_0f7a4 := goodIn_r _ [16, 17, 18, 19] (by decide +kernel) (by decide +kernel)
set_option maxRecDepth 20000 in
theorem gX11_leads_J6_bitCount_0f7a4 : GoodIn wsX11_leads (va_wsS RX11 322 yJ6_bitCount_0f7a4 wsJ6_bitCount_0f7a4) := goodIn_app (goodIn_of _ (by decide +kernel)) ggX11_leads_J6_bitCount_0f7a4
theorem dX11_leads_0 : decode cX11_leads 0 = .ok (.aload_n 0, 1) := by decide +kernel
theorem dX11_leads_1 : decode cX11_leads 1 = .ok (.getfield 24, 3) := by decide +kernel
theorem dX11_leads_4 : decode cX11_leads 4 = .ok (.invokevirtual 125, 3) := by decide +kernel
theorem dX11_leads_7 : decode cX11_leads 7 = .ok (.ifCond .eq 11, 3) := by decide +kernel
theorem dX11_leads_10 : decode cX11_leads 10 = .ok (.iload_n 1, 1) := by decide +kernel
theorem dX11_leads_11 : decode cX11_leads 11 = .ok (.iconst 2, 1) := by decide +kernel
theorem dX11_leads_12 : decode cX11_leads 12 = .ok (.invokestatic 150, 3) := by decide +kernel
theorem dX11_leads_15 : decode cX11_leads 15 = .ok (.ifCond .ne 6, 3) := by decide +kernel
theorem dX11_leads_18 : decode cX11_leads 18 = .ok (.bipush (-2), 2) := by decide +kernel
theorem dX11_leads_20 : decode cX11_leads 20 = .ok (.ireturn, 1) := by decide +kernel
theorem dX11_leads_21 : decode cX11_leads 21 = .ok (.iload_n 1, 1) := by decide +kernel
theorem dX11_leads_22 : decode cX11_leads 22 = .ok (.ifCond .ne 7, 3) := by decide +kernel
theorem dX11_leads_25 : decode cX11_leads 25 = .ok (.iconst 1, 1) := by decide +kernel
theorem dX11_leads_26 : decode cX11_leads 26 = .ok (.goto 4, 3) := by decide +kernel
theorem dX11_leads_29 : decode cX11_leads 29 = .ok (.iconst (-1), 1) := by decide +kernel
theorem dX11_leads_30 : decode cX11_leads 30 = .ok (.istore_n 2, 1) := by decide +kernel
theorem dX11_leads_31 : decode cX11_leads 31 = .ok (.iconst 0, 1) := by decide +kernel
theorem dX11_leads_32 : decode cX11_leads 32 = .ok (.istore_n 3, 1) := by decide +kernel
theorem dX11_leads_33 : decode cX11_leads 33 = .ok (.iconst 1, 1) := by decide +kernel
theorem dX11_leads_34 : decode cX11_leads 34 = .ok (.istore 4, 2) := by decide +kernel
theorem dX11_leads_36 : decode cX11_leads 36 = .ok (.iload 4, 2) := by decide +kernel
theorem dX11_leads_38 : decode cX11_leads 38 = .ok (.bipush 6, 2) := by decide +kernel
theorem dX11_leads_40 : decode cX11_leads 40 = .ok (.if_icmp .ge 44, 3) := by decide +kernel
theorem dX11_leads_43 : decode cX11_leads 43 = .ok (.iload_n 2, 1) := by decide +kernel
theorem dX11_leads_44 : decode cX11_leads 44 = .ok (.aload_n 0, 1) := by decide +kernel
theorem dX11_leads_45 : decode cX11_leads 45 = .ok (.getfield 24, 3) := by decide +kernel
theorem dX11_leads_48 : decode cX11_leads 48 = .ok (.getfield 144, 3) := by decide +kernel
theorem dX11_leads_51 : decode cX11_leads 51 = .ok (.iload 4, 2) := by decide +kernel
theorem dX11_leads_53 : decode cX11_leads 53 = .ok (.iaload, 1) := by decide +kernel
theorem dX11_leads_54 : decode cX11_leads 54 = .ok (.invokestatic 322, 3) := by decide +kernel
theorem dX11_leads_57 : decode cX11_leads 57 = .ok (.imul, 1) := by decide +kernel
theorem dX11_leads_58 : decode cX11_leads 58 = .ok (.iload_n 2, 1) := by decide +kernel
theorem dX11_leads_59 : decode cX11_leads 59 = .ok (.aload_n 0, 1) := by decide +kernel
theorem dX11_leads_60 : decode cX11_leads 60 = .ok (.getfield 24, 3) := by decide +kernel
theorem dX11_leads_63 : decode cX11_leads 63 = .ok (.getfield 144, 3) := by decide +kernel
theorem dX11_leads_66 : decode cX11_leads 66 = .ok (.iload_n 3, 1) := by decide +kernel
theorem dX11_leads_67 : decode cX11_leads 67 = .ok (.iaload, 1) := by decide +kernel
theorem dX11_leads_68 : decode cX11_leads 68 = .ok (.invokestatic 322, 3) := by decide +kernel
theorem dX11_leads_71 : decode cX11_leads 71 = .ok (.imul, 1) := by decide +kernel
theorem dX11_leads_72 : decode cX11_leads 72 = .ok (.if_icmp .le 6, 3) := by decide +kernel
theorem dX11_leads_75 : decode cX11_leads 75 = .ok (.iload 4, 2) := by decide +kernel
theorem dX11_leads_77 : decode cX11_leads 77 = .ok (.istore_n 3, 1) := by decide +kernel
theorem dX11_leads_78 : decode cX11_leads 78 = .ok (.iinc 4 1, 3) := by decide +kernel
theorem dX11_leads_81 : decode cX11_leads 81 = .ok (.goto (-45), 3) := by decide +kernel
theorem dX11_leads_84 : decode cX11_leads 84 = .ok (.iload_n 3, 1) := by decide +kernel
theorem dX11_leads_85 : decode cX11_leads 85 = .ok (.ireturn, 1) := by decide +kernel
set_option maxRecDepth 20000 in
theorem ggX11_game_X0_stands : GoodIn wsX11_game wsX0_stands := goodIn_r _ [7, 8, 49, 50, 51, 52, 53, 54, 55, 56, 57, 58, 59, 60, 61, 62, 63, 64, 65] (by decide +kernel) (by decide +kernel)
set_option maxRecDepth 20000 in
theorem gX11_game_X0_stands : GoodIn wsX11_game (wsV RX11 125 RX0 yX0_stands wsX0_stands) := goodIn_app (goodIn_of _ (by decide +kernel)) ggX11_game_X0_stands
set_option maxRecDepth 20000 in
theorem ggX11_game_X11_isStep : GoodIn wsX11_game wsX11_isStep := goodIn_r _ [12, 13, 14, 11, 15] (by decide +kernel) (by decide +kernel)
set_option maxRecDepth 20000 in
theorem gX11_game_X11_isStep : GoodIn wsX11_game (va_wsS RX11 141 yX11_isStep wsX11_isStep) := goodIn_app (goodIn_of _ (by decide +kernel)) ggX11_game_X11_isStep
set_option maxRecDepth 20000 in
theorem ggX11_game_X2_winningStep : GoodIn wsX11_game wsX2_winningStep := goodIn_r _ [20, 21, 22, 23, 24, 25, 26, 19, 27, 28, 29, 30, 31, 32, 66, 49, 50, 51, 52, 53, 54, 55, 56, 57, 58, 59, 60, 61, 62, 63, 64, 65] (by decide +kernel) (by decide +kernel)
set_option maxRecDepth 20000 in
theorem gX11_game_X2_winningStep : GoodIn wsX11_game (wsV RX11 330 RX2 yX2_winningStep wsX2_winningStep) := goodIn_app (goodIn_of _ (by decide +kernel)) ggX11_game_X2_winningStep
theorem dX11_game_0 : decode cX11_game 0 = .ok (.aload_n 0, 1) := by decide +kernel
theorem dX11_game_1 : decode cX11_game 1 = .ok (.getfield 24, 3) := by decide +kernel
theorem dX11_game_4 : decode cX11_game 4 = .ok (.invokevirtual 125, 3) := by decide +kernel
theorem dX11_game_7 : decode cX11_game 7 = .ok (.ifCond .eq 10, 3) := by decide +kernel
theorem dX11_game_10 : decode cX11_game 10 = .ok (.iload_n 1, 1) := by decide +kernel
theorem dX11_game_11 : decode cX11_game 11 = .ok (.invokestatic 141, 3) := by decide +kernel
theorem dX11_game_14 : decode cX11_game 14 = .ok (.ifCond .ne 6, 3) := by decide +kernel
theorem dX11_game_17 : decode cX11_game 17 = .ok (.bipush (-2), 2) := by decide +kernel
theorem dX11_game_19 : decode cX11_game 19 = .ok (.ireturn, 1) := by decide +kernel
theorem dX11_game_20 : decode cX11_game 20 = .ok (.aload_n 0, 1) := by decide +kernel
theorem dX11_game_21 : decode cX11_game 21 = .ok (.getfield 84, 3) := by decide +kernel
theorem dX11_game_24 : decode cX11_game 24 = .ok (.aload_n 0, 1) := by decide +kernel
theorem dX11_game_25 : decode cX11_game 25 = .ok (.getfield 24, 3) := by decide +kernel
theorem dX11_game_28 : decode cX11_game 28 = .ok (.iload_n 1, 1) := by decide +kernel
theorem dX11_game_29 : decode cX11_game 29 = .ok (.invokevirtual 330, 3) := by decide +kernel
theorem dX11_game_32 : decode cX11_game 32 = .ok (.iconst (-1), 1) := by decide +kernel
theorem dX11_game_33 : decode cX11_game 33 = .ok (.if_icmp .ne 7, 3) := by decide +kernel
theorem dX11_game_36 : decode cX11_game 36 = .ok (.iconst 0, 1) := by decide +kernel
theorem dX11_game_37 : decode cX11_game 37 = .ok (.goto 4, 3) := by decide +kernel
theorem dX11_game_40 : decode cX11_game 40 = .ok (.iconst 1, 1) := by decide +kernel
theorem dX11_game_41 : decode cX11_game 41 = .ok (.ireturn, 1) := by decide +kernel
set_option maxRecDepth 20000 in
theorem ggX11_plays_X0_stands : GoodIn wsX11_plays wsX0_stands := goodIn_r _ [7, 8, 49, 50, 51, 52, 53, 54, 55, 56, 57, 58, 59, 60, 61, 62, 63, 64, 65] (by decide +kernel) (by decide +kernel)
set_option maxRecDepth 20000 in
theorem gX11_plays_X0_stands : GoodIn wsX11_plays (wsV RX11 125 RX0 yX0_stands wsX0_stands) := goodIn_app (goodIn_of _ (by decide +kernel)) ggX11_plays_X0_stands
set_option maxRecDepth 20000 in
theorem ggX11_plays_X11_isStep : GoodIn wsX11_plays wsX11_isStep := goodIn_r _ [12, 13, 14, 11, 15] (by decide +kernel) (by decide +kernel)
set_option maxRecDepth 20000 in
theorem gX11_plays_X11_isStep : GoodIn wsX11_plays (va_wsS RX11 141 yX11_isStep wsX11_isStep) := goodIn_app (goodIn_of _ (by decide +kernel)) ggX11_plays_X11_isStep
set_option maxRecDepth 20000 in
theorem ggX11_plays_X2_winningStep : GoodIn wsX11_plays wsX2_winningStep := goodIn_r _ [20, 21, 22, 23, 24, 25, 26, 19, 27, 28, 29, 30, 31, 32, 66, 49, 50, 51, 52, 53, 54, 55, 56, 57, 58, 59, 60, 61, 62, 63, 64, 65] (by decide +kernel) (by decide +kernel)
set_option maxRecDepth 20000 in
theorem gX11_plays_X2_winningStep : GoodIn wsX11_plays (wsV RX11 330 RX2 yX2_winningStep wsX2_winningStep) := goodIn_app (goodIn_of _ (by decide +kernel)) ggX11_plays_X2_winningStep
theorem dX11_plays_0 : decode cX11_plays 0 = .ok (.aload_n 0, 1) := by decide +kernel
theorem dX11_plays_1 : decode cX11_plays 1 = .ok (.getfield 24, 3) := by decide +kernel
theorem dX11_plays_4 : decode cX11_plays 4 = .ok (.invokevirtual 125, 3) := by decide +kernel
theorem dX11_plays_7 : decode cX11_plays 7 = .ok (.ifCond .eq 25, 3) := by decide +kernel
theorem dX11_plays_10 : decode cX11_plays 10 = .ok (.iload_n 1, 1) := by decide +kernel
theorem dX11_plays_11 : decode cX11_plays 11 = .ok (.invokestatic 141, 3) := by decide +kernel
theorem dX11_plays_14 : decode cX11_plays 14 = .ok (.ifCond .eq 18, 3) := by decide +kernel
theorem dX11_plays_17 : decode cX11_plays 17 = .ok (.aload_n 0, 1) := by decide +kernel
theorem dX11_plays_18 : decode cX11_plays 18 = .ok (.getfield 84, 3) := by decide +kernel
theorem dX11_plays_21 : decode cX11_plays 21 = .ok (.aload_n 0, 1) := by decide +kernel
theorem dX11_plays_22 : decode cX11_plays 22 = .ok (.getfield 24, 3) := by decide +kernel
theorem dX11_plays_25 : decode cX11_plays 25 = .ok (.iload_n 1, 1) := by decide +kernel
theorem dX11_plays_26 : decode cX11_plays 26 = .ok (.invokevirtual 330, 3) := by decide +kernel
theorem dX11_plays_29 : decode cX11_plays 29 = .ok (.goto 5, 3) := by decide +kernel
theorem dX11_plays_32 : decode cX11_plays 32 = .ok (.bipush (-2), 2) := by decide +kernel
theorem dX11_plays_34 : decode cX11_plays 34 = .ok (.ireturn, 1) := by decide +kernel
set_option maxRecDepth 20000 in
theorem ggX11_dry_X11_wet : GoodIn wsX11_dry wsX11_wet := goodIn_r _ [5, 6, 7, 8, 9, 10, 11, 12, 13, 14, 15, 16, 4, 17, 18, 19, 20, 21, 22, 23, 24, 25, 26, 27, 28, 29, 30, 31, 32, 33, 34, 35, 36, 37, 38, 39, 40, 41, 42, 43, 44, 45, 46, 47, 48, 49, 50, 51, 52, 53, 54, 55, 56, 57, 58, 59] (by decide +kernel) (by decide +kernel)
set_option maxRecDepth 20000 in
theorem gX11_dry_X11_wet : GoodIn wsX11_dry (wsV RX11 333 RX11 yX11_wet wsX11_wet) := goodIn_app (goodIn_of _ (by decide +kernel)) ggX11_dry_X11_wet
theorem dX11_dry_0 : decode cX11_dry 0 = .ok (.aload_n 0, 1) := by decide +kernel
theorem dX11_dry_1 : decode cX11_dry 1 = .ok (.iload_n 1, 1) := by decide +kernel
theorem dX11_dry_2 : decode cX11_dry 2 = .ok (.iconst 0, 1) := by decide +kernel
theorem dX11_dry_3 : decode cX11_dry 3 = .ok (.iload_n 2, 1) := by decide +kernel
theorem dX11_dry_4 : decode cX11_dry 4 = .ok (.invokevirtual 333, 3) := by decide +kernel
theorem dX11_dry_7 : decode cX11_dry 7 = .ok (.lreturn, 1) := by decide +kernel
set_option maxRecDepth 20000 in
theorem ggX11_wet_X0_stands : GoodIn wsX11_wet wsX0_stands := goodIn_r _ [8, 9, 39, 40, 41, 42, 43, 44, 45, 46, 47, 48, 49, 50, 51, 52, 53, 54, 55] (by decide +kernel) (by decide +kernel)
set_option maxRecDepth 20000 in
theorem gX11_wet_X0_stands : GoodIn wsX11_wet (wsV RX11 125 RX0 yX0_stands wsX0_stands) := goodIn_app (goodIn_of _ (by decide +kernel)) ggX11_wet_X0_stands
set_option maxRecDepth 20000 in
theorem ggX11_wet_X11_isWithin : GoodIn wsX11_wet wsX11_isWithin := goodIn_r _ [13] (by decide +kernel) (by decide +kernel)
set_option maxRecDepth 20000 in
theorem gX11_wet_X11_isWithin : GoodIn wsX11_wet (va_wsS RX11 150 yX11_isWithin wsX11_isWithin) := goodIn_app (goodIn_of _ (by decide +kernel)) ggX11_wet_X11_isWithin
set_option maxRecDepth 20000 in
theorem ggX11_wet_X11_choices : GoodIn wsX11_wet wsX11_choices := goodIn_r _ [16] (by decide +kernel) (by decide +kernel)
set_option maxRecDepth 20000 in
theorem gX11_wet_X11_choices : GoodIn wsX11_wet (va_wsS RX11 337 yX11_choices wsX11_choices) := goodIn_app (goodIn_of _ (by decide +kernel)) ggX11_wet_X11_choices
set_option maxRecDepth 20000 in
theorem ggX11_wet_X11_power : GoodIn wsX11_wet wsX11_power := goodIn_r _ [19] (by decide +kernel) (by decide +kernel)
set_option maxRecDepth 20000 in
theorem gX11_wet_X11_power : GoodIn wsX11_wet (va_wsS RX11 344 yX11_power wsX11_power) := goodIn_app (goodIn_of _ (by decide +kernel)) ggX11_wet_X11_power
set_option maxRecDepth 20000 in
theorem ggX11_wet_X11_commonDivisor : GoodIn wsX11_wet wsX11_commonDivisor := goodIn_r _ [22] (by decide +kernel) (by decide +kernel)
set_option maxRecDepth 20000 in
theorem gX11_wet_X11_commonDivisor : GoodIn wsX11_wet (va_wsS RX11 347 yX11_commonDivisor wsX11_commonDivisor) := goodIn_app (goodIn_of _ (by decide +kernel)) ggX11_wet_X11_commonDivisor
theorem dX11_wet_0 : decode cX11_wet 0 = .ok (.aload_n 0, 1) := by decide +kernel
theorem dX11_wet_1 : decode cX11_wet 1 = .ok (.getfield 24, 3) := by decide +kernel
theorem dX11_wet_4 : decode cX11_wet 4 = .ok (.invokevirtual 125, 3) := by decide +kernel
theorem dX11_wet_7 : decode cX11_wet 7 = .ok (.ifCond .eq 32, 3) := by decide +kernel
theorem dX11_wet_10 : decode cX11_wet 10 = .ok (.iload_n 1, 1) := by decide +kernel
theorem dX11_wet_11 : decode cX11_wet 11 = .ok (.iconst 1, 1) := by decide +kernel
theorem dX11_wet_12 : decode cX11_wet 12 = .ok (.if_icmp .lt 27, 3) := by decide +kernel
theorem dX11_wet_15 : decode cX11_wet 15 = .ok (.iload_n 1, 1) := by decide +kernel
theorem dX11_wet_16 : decode cX11_wet 16 = .ok (.bipush 9, 2) := by decide +kernel
theorem dX11_wet_18 : decode cX11_wet 18 = .ok (.if_icmp .gt 21, 3) := by decide +kernel
theorem dX11_wet_21 : decode cX11_wet 21 = .ok (.iload_n 2, 1) := by decide +kernel
theorem dX11_wet_22 : decode cX11_wet 22 = .ok (.iload_n 1, 1) := by decide +kernel
theorem dX11_wet_23 : decode cX11_wet 23 = .ok (.iconst 1, 1) := by decide +kernel
theorem dX11_wet_24 : decode cX11_wet 24 = .ok (.iadd, 1) := by decide +kernel
theorem dX11_wet_25 : decode cX11_wet 25 = .ok (.invokestatic 150, 3) := by decide +kernel
theorem dX11_wet_28 : decode cX11_wet 28 = .ok (.ifCond .eq 11, 3) := by decide +kernel
theorem dX11_wet_31 : decode cX11_wet 31 = .ok (.iload_n 3, 1) := by decide +kernel
theorem dX11_wet_32 : decode cX11_wet 32 = .ok (.iconst 2, 1) := by decide +kernel
theorem dX11_wet_33 : decode cX11_wet 33 = .ok (.invokestatic 150, 3) := by decide +kernel
theorem dX11_wet_36 : decode cX11_wet 36 = .ok (.ifCond .ne 7, 3) := by decide +kernel
theorem dX11_wet_39 : decode cX11_wet 39 = .ok (.ldc2_w 306, 3) := by decide +kernel
theorem dX11_wet_42 : decode cX11_wet 42 = .ok (.lreturn, 1) := by decide +kernel
theorem dX11_wet_43 : decode cX11_wet 43 = .ok (.iload_n 1, 1) := by decide +kernel
theorem dX11_wet_44 : decode cX11_wet 44 = .ok (.iload_n 2, 1) := by decide +kernel
theorem dX11_wet_45 : decode cX11_wet 45 = .ok (.invokestatic 337, 3) := by decide +kernel
theorem dX11_wet_48 : decode cX11_wet 48 = .ok (.aload_n 0, 1) := by decide +kernel
theorem dX11_wet_49 : decode cX11_wet 49 = .ok (.getfield 24, 3) := by decide +kernel
theorem dX11_wet_52 : decode cX11_wet 52 = .ok (.getfield 341, 3) := by decide +kernel
theorem dX11_wet_55 : decode cX11_wet 55 = .ok (.iload_n 2, 1) := by decide +kernel
theorem dX11_wet_56 : decode cX11_wet 56 = .ok (.invokestatic 344, 3) := by decide +kernel
theorem dX11_wet_59 : decode cX11_wet 59 = .ok (.lmul, 1) := by decide +kernel
theorem dX11_wet_60 : decode cX11_wet 60 = .ok (.bipush 100, 2) := by decide +kernel
theorem dX11_wet_62 : decode cX11_wet 62 = .ok (.aload_n 0, 1) := by decide +kernel
theorem dX11_wet_63 : decode cX11_wet 63 = .ok (.getfield 24, 3) := by decide +kernel
theorem dX11_wet_66 : decode cX11_wet 66 = .ok (.getfield 341, 3) := by decide +kernel
theorem dX11_wet_69 : decode cX11_wet 69 = .ok (.isub, 1) := by decide +kernel
theorem dX11_wet_70 : decode cX11_wet 70 = .ok (.iload_n 1, 1) := by decide +kernel
theorem dX11_wet_71 : decode cX11_wet 71 = .ok (.iload_n 2, 1) := by decide +kernel
theorem dX11_wet_72 : decode cX11_wet 72 = .ok (.isub, 1) := by decide +kernel
theorem dX11_wet_73 : decode cX11_wet 73 = .ok (.invokestatic 344, 3) := by decide +kernel
theorem dX11_wet_76 : decode cX11_wet 76 = .ok (.lmul, 1) := by decide +kernel
theorem dX11_wet_77 : decode cX11_wet 77 = .ok (.lstore 4, 2) := by decide +kernel
theorem dX11_wet_79 : decode cX11_wet 79 = .ok (.bipush 100, 2) := by decide +kernel
theorem dX11_wet_81 : decode cX11_wet 81 = .ok (.iload_n 1, 1) := by decide +kernel
theorem dX11_wet_82 : decode cX11_wet 82 = .ok (.invokestatic 344, 3) := by decide +kernel
theorem dX11_wet_85 : decode cX11_wet 85 = .ok (.lstore 6, 2) := by decide +kernel
theorem dX11_wet_87 : decode cX11_wet 87 = .ok (.lload 4, 2) := by decide +kernel
theorem dX11_wet_89 : decode cX11_wet 89 = .ok (.lload 6, 2) := by decide +kernel
theorem dX11_wet_91 : decode cX11_wet 91 = .ok (.invokestatic 347, 3) := by decide +kernel
theorem dX11_wet_94 : decode cX11_wet 94 = .ok (.lstore 8, 2) := by decide +kernel
theorem dX11_wet_96 : decode cX11_wet 96 = .ok (.lload 8, 2) := by decide +kernel
theorem dX11_wet_98 : decode cX11_wet 98 = .ok (.lconst 0, 1) := by decide +kernel
theorem dX11_wet_99 : decode cX11_wet 99 = .ok (.lcmp, 1) := by decide +kernel
theorem dX11_wet_100 : decode cX11_wet 100 = .ok (.ifCond .ne 7, 3) := by decide +kernel
theorem dX11_wet_103 : decode cX11_wet 103 = .ok (.ldc2_w 306, 3) := by decide +kernel
theorem dX11_wet_106 : decode cX11_wet 106 = .ok (.lreturn, 1) := by decide +kernel
theorem dX11_wet_107 : decode cX11_wet 107 = .ok (.iload_n 3, 1) := by decide +kernel
theorem dX11_wet_108 : decode cX11_wet 108 = .ok (.ifCond .ne 8, 3) := by decide +kernel
theorem dX11_wet_111 : decode cX11_wet 111 = .ok (.lload 4, 2) := by decide +kernel
theorem dX11_wet_113 : decode cX11_wet 113 = .ok (.goto 5, 3) := by decide +kernel
theorem dX11_wet_116 : decode cX11_wet 116 = .ok (.lload 6, 2) := by decide +kernel
theorem dX11_wet_118 : decode cX11_wet 118 = .ok (.lload 8, 2) := by decide +kernel
theorem dX11_wet_120 : decode cX11_wet 120 = .ok (.ldiv, 1) := by decide +kernel
theorem dX11_wet_121 : decode cX11_wet 121 = .ok (.lreturn, 1) := by decide +kernel
set_option maxRecDepth 20000 in
theorem ggX11_drawn_X11_hasNight : GoodIn wsX11_drawn wsX11_hasNight := goodIn_r _ [11, 2, 12, 13, 14, 15, 16, 17, 18, 80, 81, 82, 83, 84, 85, 86, 87, 88, 89, 90, 91, 92, 93, 94, 95, 103, 104, 105, 106, 107, 108, 109, 110, 111, 112, 113, 114, 115, 116, 117, 118, 119] (by decide +kernel) (by decide +kernel)
set_option maxRecDepth 20000 in
theorem gX11_drawn_X11_hasNight : GoodIn wsX11_drawn (wsV RX11 351 RX11 yX11_hasNight wsX11_hasNight) := goodIn_app (goodIn_of _ (by decide +kernel)) ggX11_drawn_X11_hasNight
set_option maxRecDepth 20000 in
theorem ggX11_drawn_X11_isWithin : GoodIn wsX11_drawn wsX11_isWithin := goodIn_r _ [21] (by decide +kernel) (by decide +kernel)
set_option maxRecDepth 20000 in
theorem gX11_drawn_X11_isWithin : GoodIn wsX11_drawn (va_wsS RX11 150 yX11_isWithin wsX11_isWithin) := goodIn_app (goodIn_of _ (by decide +kernel)) ggX11_drawn_X11_isWithin
set_option maxRecDepth 20000 in
theorem ggX11_drawn_X4_play : GoodIn wsX11_drawn wsX4_play := goodIn_r _ [26, 27, 28, 29, 30, 31, 32, 33, 34, 35, 36, 25, 37, 38, 39, 40, 41, 42, 43, 44, 45, 46, 47, 48, 49, 50, 51, 52, 53, 54, 55, 56, 57, 16, 58, 59, 60, 10, 61, 62, 63, 64, 65, 66, 67, 68, 69, 70, 71, 72, 73, 74, 75, 76, 77, 78, 79, 96, 97, 98, 99, 100, 101, 102, 103, 104, 105, 106, 107, 108, 109, 110, 111, 112, 113, 114, 115, 116, 117, 118, 119] (by decide +kernel) (by decide +kernel)
set_option maxRecDepth 20000 in
theorem gX11_drawn_X4_play : GoodIn wsX11_drawn (wsV RX11 354 RX4 yX4_play wsX4_play) := goodIn_app (goodIn_of _ (by decide +kernel)) ggX11_drawn_X4_play
theorem dX11_drawn_0 : decode cX11_drawn 0 = .ok (.aload_n 0, 1) := by decide +kernel
theorem dX11_drawn_1 : decode cX11_drawn 1 = .ok (.iload_n 1, 1) := by decide +kernel
theorem dX11_drawn_2 : decode cX11_drawn 2 = .ok (.iload_n 2, 1) := by decide +kernel
theorem dX11_drawn_3 : decode cX11_drawn 3 = .ok (.invokevirtual 351, 3) := by decide +kernel
theorem dX11_drawn_6 : decode cX11_drawn 6 = .ok (.ifCond .eq 11, 3) := by decide +kernel
theorem dX11_drawn_9 : decode cX11_drawn 9 = .ok (.iload_n 3, 1) := by decide +kernel
theorem dX11_drawn_10 : decode cX11_drawn 10 = .ok (.iconst 4, 1) := by decide +kernel
theorem dX11_drawn_11 : decode cX11_drawn 11 = .ok (.invokestatic 150, 3) := by decide +kernel
theorem dX11_drawn_14 : decode cX11_drawn 14 = .ok (.ifCond .ne 6, 3) := by decide +kernel
theorem dX11_drawn_17 : decode cX11_drawn 17 = .ok (.bipush (-2), 2) := by decide +kernel
theorem dX11_drawn_19 : decode cX11_drawn 19 = .ok (.ireturn, 1) := by decide +kernel
theorem dX11_drawn_20 : decode cX11_drawn 20 = .ok (.aload_n 0, 1) := by decide +kernel
theorem dX11_drawn_21 : decode cX11_drawn 21 = .ok (.getfield 91, 3) := by decide +kernel
theorem dX11_drawn_24 : decode cX11_drawn 24 = .ok (.aload_n 0, 1) := by decide +kernel
theorem dX11_drawn_25 : decode cX11_drawn 25 = .ok (.getfield 24, 3) := by decide +kernel
theorem dX11_drawn_28 : decode cX11_drawn 28 = .ok (.iload_n 1, 1) := by decide +kernel
theorem dX11_drawn_29 : decode cX11_drawn 29 = .ok (.iload_n 2, 1) := by decide +kernel
theorem dX11_drawn_30 : decode cX11_drawn 30 = .ok (.invokevirtual 354, 3) := by decide +kernel
theorem dX11_drawn_33 : decode cX11_drawn 33 = .ok (.iload_n 3, 1) := by decide +kernel
theorem dX11_drawn_34 : decode cX11_drawn 34 = .ok (.tableswitch 50 0 2 #[26, 34, 42], 26) := by decide +kernel
theorem dX11_drawn_60 : decode cX11_drawn 60 = .ok (.aload_n 0, 1) := by decide +kernel
theorem dX11_drawn_61 : decode cX11_drawn 61 = .ok (.getfield 91, 3) := by decide +kernel
theorem dX11_drawn_64 : decode cX11_drawn 64 = .ok (.getfield 357, 3) := by decide +kernel
theorem dX11_drawn_67 : decode cX11_drawn 67 = .ok (.ireturn, 1) := by decide +kernel
theorem dX11_drawn_68 : decode cX11_drawn 68 = .ok (.aload_n 0, 1) := by decide +kernel
theorem dX11_drawn_69 : decode cX11_drawn 69 = .ok (.getfield 91, 3) := by decide +kernel
theorem dX11_drawn_72 : decode cX11_drawn 72 = .ok (.getfield 360, 3) := by decide +kernel
theorem dX11_drawn_75 : decode cX11_drawn 75 = .ok (.ireturn, 1) := by decide +kernel
theorem dX11_drawn_76 : decode cX11_drawn 76 = .ok (.aload_n 0, 1) := by decide +kernel
theorem dX11_drawn_77 : decode cX11_drawn 77 = .ok (.getfield 91, 3) := by decide +kernel
theorem dX11_drawn_80 : decode cX11_drawn 80 = .ok (.getfield 363, 3) := by decide +kernel
theorem dX11_drawn_83 : decode cX11_drawn 83 = .ok (.ireturn, 1) := by decide +kernel
theorem dX11_drawn_84 : decode cX11_drawn 84 = .ok (.aload_n 0, 1) := by decide +kernel
theorem dX11_drawn_85 : decode cX11_drawn 85 = .ok (.getfield 91, 3) := by decide +kernel
theorem dX11_drawn_88 : decode cX11_drawn 88 = .ok (.getfield 366, 3) := by decide +kernel
theorem dX11_drawn_91 : decode cX11_drawn 91 = .ok (.ireturn, 1) := by decide +kernel
set_option maxRecDepth 20000 in
theorem ggX11_nights_X11_hasNight : GoodIn wsX11_nights wsX11_hasNight := goodIn_r _ [8, 2, 9, 10, 11, 12, 13, 14, 15, 74, 75, 76, 77, 78, 79, 80, 81, 82, 83, 84, 85, 86, 87, 88, 89, 97, 98, 99, 100, 101, 102, 103, 104, 105, 106, 107, 108, 109, 110, 111, 112, 113] (by decide +kernel) (by decide +kernel)
set_option maxRecDepth 20000 in
theorem gX11_nights_X11_hasNight : GoodIn wsX11_nights (wsV RX11 351 RX11 yX11_hasNight wsX11_hasNight) := goodIn_app (goodIn_of _ (by decide +kernel)) ggX11_nights_X11_hasNight
set_option maxRecDepth 20000 in
theorem ggX11_nights_X4_play : GoodIn wsX11_nights wsX4_play := goodIn_r _ [20, 21, 22, 23, 24, 25, 26, 27, 28, 29, 30, 19, 31, 32, 33, 34, 35, 36, 37, 38, 39, 40, 41, 42, 43, 44, 45, 46, 47, 48, 49, 50, 51, 13, 52, 53, 54, 7, 55, 56, 57, 58, 59, 60, 61, 62, 63, 64, 65, 66, 67, 68, 69, 70, 71, 72, 73, 90, 91, 92, 93, 94, 95, 96, 97, 98, 99, 100, 101, 102, 103, 104, 105, 106, 107, 108, 109, 110, 111, 112, 113] (by decide +kernel) (by decide +kernel)
set_option maxRecDepth 20000 in
theorem gX11_nights_X4_play : GoodIn wsX11_nights (wsV RX11 354 RX4 yX4_play wsX4_play) := goodIn_app (goodIn_of _ (by decide +kernel)) ggX11_nights_X4_play
theorem dX11_nights_0 : decode cX11_nights 0 = .ok (.aload_n 0, 1) := by decide +kernel
theorem dX11_nights_1 : decode cX11_nights 1 = .ok (.iload_n 1, 1) := by decide +kernel
theorem dX11_nights_2 : decode cX11_nights 2 = .ok (.iload_n 3, 1) := by decide +kernel
theorem dX11_nights_3 : decode cX11_nights 3 = .ok (.invokevirtual 351, 3) := by decide +kernel
theorem dX11_nights_6 : decode cX11_nights 6 = .ok (.ifCond .eq 14, 3) := by decide +kernel
theorem dX11_nights_9 : decode cX11_nights 9 = .ok (.iload_n 2, 1) := by decide +kernel
theorem dX11_nights_10 : decode cX11_nights 10 = .ok (.iconst 1, 1) := by decide +kernel
theorem dX11_nights_11 : decode cX11_nights 11 = .ok (.if_icmp .lt 9, 3) := by decide +kernel
theorem dX11_nights_14 : decode cX11_nights 14 = .ok (.iload_n 2, 1) := by decide +kernel
theorem dX11_nights_15 : decode cX11_nights 15 = .ok (.bipush 20, 2) := by decide +kernel
theorem dX11_nights_17 : decode cX11_nights 17 = .ok (.if_icmp .le 6, 3) := by decide +kernel
theorem dX11_nights_20 : decode cX11_nights 20 = .ok (.bipush (-2), 2) := by decide +kernel
theorem dX11_nights_22 : decode cX11_nights 22 = .ok (.ireturn, 1) := by decide +kernel
theorem dX11_nights_23 : decode cX11_nights 23 = .ok (.iconst 0, 1) := by decide +kernel
theorem dX11_nights_24 : decode cX11_nights 24 = .ok (.istore 4, 2) := by decide +kernel
theorem dX11_nights_26 : decode cX11_nights 26 = .ok (.iconst 0, 1) := by decide +kernel
theorem dX11_nights_27 : decode cX11_nights 27 = .ok (.istore 5, 2) := by decide +kernel
theorem dX11_nights_29 : decode cX11_nights 29 = .ok (.iload 5, 2) := by decide +kernel
theorem dX11_nights_31 : decode cX11_nights 31 = .ok (.iload_n 2, 1) := by decide +kernel
theorem dX11_nights_32 : decode cX11_nights 32 = .ok (.if_icmp .ge 38, 3) := by decide +kernel
theorem dX11_nights_35 : decode cX11_nights 35 = .ok (.aload_n 0, 1) := by decide +kernel
theorem dX11_nights_36 : decode cX11_nights 36 = .ok (.getfield 91, 3) := by decide +kernel
theorem dX11_nights_39 : decode cX11_nights 39 = .ok (.aload_n 0, 1) := by decide +kernel
theorem dX11_nights_40 : decode cX11_nights 40 = .ok (.getfield 24, 3) := by decide +kernel
theorem dX11_nights_43 : decode cX11_nights 43 = .ok (.iload_n 1, 1) := by decide +kernel
theorem dX11_nights_44 : decode cX11_nights 44 = .ok (.iload 5, 2) := by decide +kernel
theorem dX11_nights_46 : decode cX11_nights 46 = .ok (.iadd, 1) := by decide +kernel
theorem dX11_nights_47 : decode cX11_nights 47 = .ok (.iload_n 3, 1) := by decide +kernel
theorem dX11_nights_48 : decode cX11_nights 48 = .ok (.invokevirtual 354, 3) := by decide +kernel
theorem dX11_nights_51 : decode cX11_nights 51 = .ok (.aload_n 0, 1) := by decide +kernel
theorem dX11_nights_52 : decode cX11_nights 52 = .ok (.getfield 91, 3) := by decide +kernel
theorem dX11_nights_55 : decode cX11_nights 55 = .ok (.getfield 357, 3) := by decide +kernel
theorem dX11_nights_58 : decode cX11_nights 58 = .ok (.ifCond .ne 6, 3) := by decide +kernel
theorem dX11_nights_61 : decode cX11_nights 61 = .ok (.iinc 4 1, 3) := by decide +kernel
theorem dX11_nights_64 : decode cX11_nights 64 = .ok (.iinc 5 1, 3) := by decide +kernel
theorem dX11_nights_67 : decode cX11_nights 67 = .ok (.goto (-38), 3) := by decide +kernel
theorem dX11_nights_70 : decode cX11_nights 70 = .ok (.iload 4, 2) := by decide +kernel
theorem dX11_nights_72 : decode cX11_nights 72 = .ok (.ireturn, 1) := by decide +kernel
set_option maxRecDepth 20000 in
theorem ggX11_stumble_X11_has : GoodIn wsX11_stumble wsX11_has := goodIn_r _ [9, 1, 10, 11, 12, 13, 14, 15, 16, 17, 8, 18, 19, 20, 21, 22, 23, 24, 44, 45, 46, 47, 48, 49, 50, 51, 52, 53, 54, 55, 56, 57, 58, 59, 60, 61, 62, 63, 64, 65, 66, 67, 68, 69, 70, 71, 72, 73, 74, 75, 76] (by decide +kernel) (by decide +kernel)
set_option maxRecDepth 20000 in
theorem gX11_stumble_X11_has : GoodIn wsX11_stumble (wsV RX11 162 RX11 yX11_has wsX11_has) := goodIn_app (goodIn_of _ (by decide +kernel)) ggX11_stumble_X11_has
set_option maxRecDepth 20000 in
theorem ggX11_stumble_X11_isStep : GoodIn wsX11_stumble wsX11_isStep := goodIn_r _ [27, 19, 20, 8, 21] (by decide +kernel) (by decide +kernel)
set_option maxRecDepth 20000 in
theorem gX11_stumble_X11_isStep : GoodIn wsX11_stumble (va_wsS RX11 141 yX11_isStep wsX11_isStep) := goodIn_app (goodIn_of _ (by decide +kernel)) ggX11_stumble_X11_isStep
set_option maxRecDepth 20000 in
theorem ggX11_stumble_X11_isWithin : GoodIn wsX11_stumble wsX11_isWithin := goodIn_r _ [21] (by decide +kernel) (by decide +kernel)
set_option maxRecDepth 20000 in
theorem gX11_stumble_X11_isWithin : GoodIn wsX11_stumble (va_wsS RX11 150 yX11_isWithin wsX11_isWithin) := goodIn_app (goodIn_of _ (by decide +kernel)) ggX11_stumble_X11_isWithin
set_option maxRecDepth 20000 in
theorem ggX11_stumble_X0_stumbleOf : GoodIn wsX11_stumble wsX0_stumbleOf := goodIn_r _ [31, 32, 33, 60, 61, 62, 63, 64, 65, 66, 67, 68, 69, 70, 71, 72, 73, 74, 75, 76] (by decide +kernel) (by decide +kernel)
set_option maxRecDepth 20000 in
theorem gX11_stumble_X0_stumbleOf : GoodIn wsX11_stumble (wsV RX11 372 RX0 yX0_stumbleOf wsX0_stumbleOf) := goodIn_app (goodIn_of _ (by decide +kernel)) ggX11_stumble_X0_stumbleOf
set_option maxRecDepth 20000 in
theorem ggX11_stumble_X0_keepChange : GoodIn wsX11_stumble wsX0_keepChange := goodIn_r _ [37, 38, 39, 60, 61, 62, 63, 64, 65, 66, 67, 68, 69, 70, 71, 72, 73, 74, 75, 76] (by decide +kernel) (by decide +kernel)
set_option maxRecDepth 20000 in
theorem gX11_stumble_X0_keepChange : GoodIn wsX11_stumble (wsV RX11 375 RX0 yX0_keepChange wsX0_keepChange) := goodIn_app (goodIn_of _ (by decide +kernel)) ggX11_stumble_X0_keepChange
set_option maxRecDepth 20000 in
theorem ggX11_stumble_X0_addStumble : GoodIn wsX11_stumble wsX0_addStumble := goodIn_r _ [43, 32, 33, 60, 61, 62, 63, 64, 65, 66, 67, 68, 69, 70, 71, 72, 73, 74, 75, 76] (by decide +kernel) (by decide +kernel)
set_option maxRecDepth 20000 in
theorem gX11_stumble_X0_addStumble : GoodIn wsX11_stumble (wsV RX11 379 RX0 yX0_addStumble wsX0_addStumble) := goodIn_app (goodIn_of _ (by decide +kernel)) ggX11_stumble_X0_addStumble
theorem dX11_stumble_0 : decode cX11_stumble 0 = .ok (.aload_n 0, 1) := by decide +kernel
theorem dX11_stumble_1 : decode cX11_stumble 1 = .ok (.iload_n 1, 1) := by decide +kernel
theorem dX11_stumble_2 : decode cX11_stumble 2 = .ok (.iload_n 2, 1) := by decide +kernel
theorem dX11_stumble_3 : decode cX11_stumble 3 = .ok (.invokevirtual 162, 3) := by decide +kernel
theorem dX11_stumble_6 : decode cX11_stumble 6 = .ok (.ifCond .eq 20, 3) := by decide +kernel
theorem dX11_stumble_9 : decode cX11_stumble 9 = .ok (.iload_n 3, 1) := by decide +kernel
theorem dX11_stumble_10 : decode cX11_stumble 10 = .ok (.invokestatic 141, 3) := by decide +kernel
theorem dX11_stumble_13 : decode cX11_stumble 13 = .ok (.ifCond .eq 13, 3) := by decide +kernel
theorem dX11_stumble_16 : decode cX11_stumble 16 = .ok (.iload 4, 2) := by decide +kernel
theorem dX11_stumble_18 : decode cX11_stumble 18 = .ok (.bipush 10, 2) := by decide +kernel
theorem dX11_stumble_20 : decode cX11_stumble 20 = .ok (.invokestatic 150, 3) := by decide +kernel
theorem dX11_stumble_23 : decode cX11_stumble 23 = .ok (.ifCond .ne 6, 3) := by decide +kernel
theorem dX11_stumble_26 : decode cX11_stumble 26 = .ok (.bipush (-2), 2) := by decide +kernel
theorem dX11_stumble_28 : decode cX11_stumble 28 = .ok (.ireturn, 1) := by decide +kernel
theorem dX11_stumble_29 : decode cX11_stumble 29 = .ok (.aload_n 0, 1) := by decide +kernel
theorem dX11_stumble_30 : decode cX11_stumble 30 = .ok (.getfield 24, 3) := by decide +kernel
theorem dX11_stumble_33 : decode cX11_stumble 33 = .ok (.getfield 216, 3) := by decide +kernel
theorem dX11_stumble_36 : decode cX11_stumble 36 = .ok (.bipush 8, 2) := by decide +kernel
theorem dX11_stumble_38 : decode cX11_stumble 38 = .ok (.if_icmp .ge 15, 3) := by decide +kernel
theorem dX11_stumble_41 : decode cX11_stumble 41 = .ok (.aload_n 0, 1) := by decide +kernel
theorem dX11_stumble_42 : decode cX11_stumble 42 = .ok (.getfield 24, 3) := by decide +kernel
theorem dX11_stumble_45 : decode cX11_stumble 45 = .ok (.getfield 369, 3) := by decide +kernel
theorem dX11_stumble_48 : decode cX11_stumble 48 = .ok (.bipush 40, 2) := by decide +kernel
theorem dX11_stumble_50 : decode cX11_stumble 50 = .ok (.if_icmp .lt 7, 3) := by decide +kernel
theorem dX11_stumble_53 : decode cX11_stumble 53 = .ok (.iconst 1, 1) := by decide +kernel
theorem dX11_stumble_54 : decode cX11_stumble 54 = .ok (.goto 4, 3) := by decide +kernel
theorem dX11_stumble_57 : decode cX11_stumble 57 = .ok (.iconst 0, 1) := by decide +kernel
theorem dX11_stumble_58 : decode cX11_stumble 58 = .ok (.istore 5, 2) := by decide +kernel
theorem dX11_stumble_60 : decode cX11_stumble 60 = .ok (.iload 5, 2) := by decide +kernel
theorem dX11_stumble_62 : decode cX11_stumble 62 = .ok (.ifCond .ne 16, 3) := by decide +kernel
theorem dX11_stumble_65 : decode cX11_stumble 65 = .ok (.aload_n 0, 1) := by decide +kernel
theorem dX11_stumble_66 : decode cX11_stumble 66 = .ok (.getfield 24, 3) := by decide +kernel
theorem dX11_stumble_69 : decode cX11_stumble 69 = .ok (.iload_n 1, 1) := by decide +kernel
theorem dX11_stumble_70 : decode cX11_stumble 70 = .ok (.iload_n 2, 1) := by decide +kernel
theorem dX11_stumble_71 : decode cX11_stumble 71 = .ok (.invokevirtual 372, 3) := by decide +kernel
theorem dX11_stumble_74 : decode cX11_stumble 74 = .ok (.iconst (-1), 1) := by decide +kernel
theorem dX11_stumble_75 : decode cX11_stumble 75 = .ok (.if_icmp .eq 6, 3) := by decide +kernel
theorem dX11_stumble_78 : decode cX11_stumble 78 = .ok (.bipush (-5), 2) := by decide +kernel
theorem dX11_stumble_80 : decode cX11_stumble 80 = .ok (.ireturn, 1) := by decide +kernel
theorem dX11_stumble_81 : decode cX11_stumble 81 = .ok (.aload_n 0, 1) := by decide +kernel
theorem dX11_stumble_82 : decode cX11_stumble 82 = .ok (.getfield 24, 3) := by decide +kernel
theorem dX11_stumble_85 : decode cX11_stumble 85 = .ok (.iconst 0, 1) := by decide +kernel
theorem dX11_stumble_86 : decode cX11_stumble 86 = .ok (.iconst 0, 1) := by decide +kernel
theorem dX11_stumble_87 : decode cX11_stumble 87 = .ok (.iconst 0, 1) := by decide +kernel
theorem dX11_stumble_88 : decode cX11_stumble 88 = .ok (.invokevirtual 375, 3) := by decide +kernel
theorem dX11_stumble_91 : decode cX11_stumble 91 = .ok (.aload_n 0, 1) := by decide +kernel
theorem dX11_stumble_92 : decode cX11_stumble 92 = .ok (.getfield 24, 3) := by decide +kernel
theorem dX11_stumble_95 : decode cX11_stumble 95 = .ok (.iload_n 1, 1) := by decide +kernel
theorem dX11_stumble_96 : decode cX11_stumble 96 = .ok (.iload_n 2, 1) := by decide +kernel
theorem dX11_stumble_97 : decode cX11_stumble 97 = .ok (.iload_n 3, 1) := by decide +kernel
theorem dX11_stumble_98 : decode cX11_stumble 98 = .ok (.iload 4, 2) := by decide +kernel
theorem dX11_stumble_100 : decode cX11_stumble 100 = .ok (.invokevirtual 379, 3) := by decide +kernel
theorem dX11_stumble_103 : decode cX11_stumble 103 = .ok (.aload_n 0, 1) := by decide +kernel
theorem dX11_stumble_104 : decode cX11_stumble 104 = .ok (.iconst 0, 1) := by decide +kernel
theorem dX11_stumble_105 : decode cX11_stumble 105 = .ok (.putfield 49, 3) := by decide +kernel
theorem dX11_stumble_108 : decode cX11_stumble 108 = .ok (.aload_n 0, 1) := by decide +kernel
theorem dX11_stumble_109 : decode cX11_stumble 109 = .ok (.getfield 24, 3) := by decide +kernel
theorem dX11_stumble_112 : decode cX11_stumble 112 = .ok (.getfield 216, 3) := by decide +kernel
theorem dX11_stumble_115 : decode cX11_stumble 115 = .ok (.iconst 1, 1) := by decide +kernel
theorem dX11_stumble_116 : decode cX11_stumble 116 = .ok (.isub, 1) := by decide +kernel
theorem dX11_stumble_117 : decode cX11_stumble 117 = .ok (.ireturn, 1) := by decide +kernel
set_option maxRecDepth 20000 in
theorem ggX11_mud_X0_stands : GoodIn wsX11_mud wsX0_stands := goodIn_r _ [9, 10, 40, 41, 42, 43, 44, 45, 46, 47, 48, 49, 50, 51, 52, 53, 54, 55, 56] (by decide +kernel) (by decide +kernel)
set_option maxRecDepth 20000 in
theorem gX11_mud_X0_stands : GoodIn wsX11_mud (wsV RX11 125 RX0 yX0_stands wsX0_stands) := goodIn_app (goodIn_of _ (by decide +kernel)) ggX11_mud_X0_stands
set_option maxRecDepth 20000 in
theorem ggX11_mud_X11_isBeat : GoodIn wsX11_mud wsX11_isBeat := goodIn_r _ [14, 15, 16, 13, 17] (by decide +kernel) (by decide +kernel)
set_option maxRecDepth 20000 in
theorem gX11_mud_X11_isBeat : GoodIn wsX11_mud (va_wsS RX11 156 yX11_isBeat wsX11_isBeat) := goodIn_app (goodIn_of _ (by decide +kernel)) ggX11_mud_X11_isBeat
set_option maxRecDepth 20000 in
theorem ggX11_mud_X11_isWithin : GoodIn wsX11_mud wsX11_isWithin := goodIn_r _ [17] (by decide +kernel) (by decide +kernel)
set_option maxRecDepth 20000 in
theorem gX11_mud_X11_isWithin : GoodIn wsX11_mud (va_wsS RX11 150 yX11_isWithin wsX11_isWithin) := goodIn_app (goodIn_of _ (by decide +kernel)) ggX11_mud_X11_isWithin
set_option maxRecDepth 20000 in
theorem ggX11_mud_X0_keepChange : GoodIn wsX11_mud wsX0_keepChange := goodIn_r _ [21, 22, 23, 40, 41, 42, 43, 44, 45, 46, 47, 48, 49, 50, 51, 52, 53, 54, 55, 56] (by decide +kernel) (by decide +kernel)
set_option maxRecDepth 20000 in
theorem gX11_mud_X0_keepChange : GoodIn wsX11_mud (wsV RX11 375 RX0 yX0_keepChange wsX0_keepChange) := goodIn_app (goodIn_of _ (by decide +kernel)) ggX11_mud_X0_keepChange
theorem dX11_mud_0 : decode cX11_mud 0 = .ok (.aload_n 0, 1) := by decide +kernel
theorem dX11_mud_1 : decode cX11_mud 1 = .ok (.getfield 24, 3) := by decide +kernel
theorem dX11_mud_4 : decode cX11_mud 4 = .ok (.invokevirtual 125, 3) := by decide +kernel
theorem dX11_mud_7 : decode cX11_mud 7 = .ok (.ifCond .eq 18, 3) := by decide +kernel
theorem dX11_mud_10 : decode cX11_mud 10 = .ok (.iload_n 1, 1) := by decide +kernel
theorem dX11_mud_11 : decode cX11_mud 11 = .ok (.invokestatic 156, 3) := by decide +kernel
theorem dX11_mud_14 : decode cX11_mud 14 = .ok (.ifCond .eq 11, 3) := by decide +kernel
theorem dX11_mud_17 : decode cX11_mud 17 = .ok (.iload_n 2, 1) := by decide +kernel
theorem dX11_mud_18 : decode cX11_mud 18 = .ok (.iconst 2, 1) := by decide +kernel
theorem dX11_mud_19 : decode cX11_mud 19 = .ok (.invokestatic 150, 3) := by decide +kernel
theorem dX11_mud_22 : decode cX11_mud 22 = .ok (.ifCond .ne 6, 3) := by decide +kernel
theorem dX11_mud_25 : decode cX11_mud 25 = .ok (.bipush (-2), 2) := by decide +kernel
theorem dX11_mud_27 : decode cX11_mud 27 = .ok (.ireturn, 1) := by decide +kernel
theorem dX11_mud_28 : decode cX11_mud 28 = .ok (.aload_n 0, 1) := by decide +kernel
theorem dX11_mud_29 : decode cX11_mud 29 = .ok (.getfield 24, 3) := by decide +kernel
theorem dX11_mud_32 : decode cX11_mud 32 = .ok (.getfield 369, 3) := by decide +kernel
theorem dX11_mud_35 : decode cX11_mud 35 = .ok (.bipush 40, 2) := by decide +kernel
theorem dX11_mud_37 : decode cX11_mud 37 = .ok (.if_icmp .lt 6, 3) := by decide +kernel
theorem dX11_mud_40 : decode cX11_mud 40 = .ok (.bipush (-5), 2) := by decide +kernel
theorem dX11_mud_42 : decode cX11_mud 42 = .ok (.ireturn, 1) := by decide +kernel
theorem dX11_mud_43 : decode cX11_mud 43 = .ok (.aload_n 0, 1) := by decide +kernel
theorem dX11_mud_44 : decode cX11_mud 44 = .ok (.getfield 24, 3) := by decide +kernel
theorem dX11_mud_47 : decode cX11_mud 47 = .ok (.getfield 159, 3) := by decide +kernel
theorem dX11_mud_50 : decode cX11_mud 50 = .ok (.iload_n 1, 1) := by decide +kernel
theorem dX11_mud_51 : decode cX11_mud 51 = .ok (.iaload, 1) := by decide +kernel
theorem dX11_mud_52 : decode cX11_mud 52 = .ok (.istore_n 3, 1) := by decide +kernel
theorem dX11_mud_53 : decode cX11_mud 53 = .ok (.aload_n 0, 1) := by decide +kernel
theorem dX11_mud_54 : decode cX11_mud 54 = .ok (.getfield 24, 3) := by decide +kernel
theorem dX11_mud_57 : decode cX11_mud 57 = .ok (.iconst 1, 1) := by decide +kernel
theorem dX11_mud_58 : decode cX11_mud 58 = .ok (.iload_n 1, 1) := by decide +kernel
theorem dX11_mud_59 : decode cX11_mud 59 = .ok (.iload_n 3, 1) := by decide +kernel
theorem dX11_mud_60 : decode cX11_mud 60 = .ok (.invokevirtual 375, 3) := by decide +kernel
theorem dX11_mud_63 : decode cX11_mud 63 = .ok (.aload_n 0, 1) := by decide +kernel
theorem dX11_mud_64 : decode cX11_mud 64 = .ok (.getfield 24, 3) := by decide +kernel
theorem dX11_mud_67 : decode cX11_mud 67 = .ok (.getfield 159, 3) := by decide +kernel
theorem dX11_mud_70 : decode cX11_mud 70 = .ok (.iload_n 1, 1) := by decide +kernel
theorem dX11_mud_71 : decode cX11_mud 71 = .ok (.iload_n 2, 1) := by decide +kernel
theorem dX11_mud_72 : decode cX11_mud 72 = .ok (.iastore, 1) := by decide +kernel
theorem dX11_mud_73 : decode cX11_mud 73 = .ok (.aload_n 0, 1) := by decide +kernel
theorem dX11_mud_74 : decode cX11_mud 74 = .ok (.iconst 0, 1) := by decide +kernel
theorem dX11_mud_75 : decode cX11_mud 75 = .ok (.putfield 49, 3) := by decide +kernel
theorem dX11_mud_78 : decode cX11_mud 78 = .ok (.iload_n 3, 1) := by decide +kernel
theorem dX11_mud_79 : decode cX11_mud 79 = .ok (.ireturn, 1) := by decide +kernel
set_option maxRecDepth 20000 in
theorem ggX11_teach_X0_stands : GoodIn wsX11_teach wsX0_stands := goodIn_r _ [9, 10, 48, 49, 50, 51, 52, 53, 54, 55, 56, 57, 58, 59, 60, 61, 62, 63, 64] (by decide +kernel) (by decide +kernel)
set_option maxRecDepth 20000 in
theorem gX11_teach_X0_stands : GoodIn wsX11_teach (wsV RX11 125 RX0 yX0_stands wsX0_stands) := goodIn_app (goodIn_of _ (by decide +kernel)) ggX11_teach_X0_stands
set_option maxRecDepth 20000 in
theorem ggX11_teach_X11_isSide : GoodIn wsX11_teach wsX11_isSide := goodIn_r _ [14, 15, 16, 13, 17] (by decide +kernel) (by decide +kernel)
set_option maxRecDepth 20000 in
theorem gX11_teach_X11_isSide : GoodIn wsX11_teach (va_wsS RX11 129 yX11_isSide wsX11_isSide) := goodIn_app (goodIn_of _ (by decide +kernel)) ggX11_teach_X11_isSide
set_option maxRecDepth 20000 in
theorem ggX11_teach_X0_hasPlace : GoodIn wsX11_teach wsX0_hasPlace := goodIn_r _ [21, 22, 16, 13, 17, 48, 49, 50, 51, 52, 53, 54, 55, 56, 57, 58, 59, 60, 61, 62, 63, 64] (by decide +kernel) (by decide +kernel)
set_option maxRecDepth 20000 in
theorem gX11_teach_X0_hasPlace : GoodIn wsX11_teach (wsV RX11 133 RX0 yX0_hasPlace wsX0_hasPlace) := goodIn_app (goodIn_of _ (by decide +kernel)) ggX11_teach_X0_hasPlace
set_option maxRecDepth 20000 in
theorem ggX11_teach_X11_isStep : GoodIn wsX11_teach wsX11_isStep := goodIn_r _ [25, 15, 16, 13, 17] (by decide +kernel) (by decide +kernel)
set_option maxRecDepth 20000 in
theorem gX11_teach_X11_isStep : GoodIn wsX11_teach (va_wsS RX11 141 yX11_isStep wsX11_isStep) := goodIn_app (goodIn_of _ (by decide +kernel)) ggX11_teach_X11_isStep
set_option maxRecDepth 20000 in
theorem ggX11_teach_X0_keepChange : GoodIn wsX11_teach wsX0_keepChange := goodIn_r _ [29, 30, 31, 48, 49, 50, 51, 52, 53, 54, 55, 56, 57, 58, 59, 60, 61, 62, 63, 64] (by decide +kernel) (by decide +kernel)
set_option maxRecDepth 20000 in
theorem gX11_teach_X0_keepChange : GoodIn wsX11_teach (wsV RX11 375 RX0 yX0_keepChange wsX0_keepChange) := goodIn_app (goodIn_of _ (by decide +kernel)) ggX11_teach_X0_keepChange
theorem dX11_teach_0 : decode cX11_teach 0 = .ok (.aload_n 0, 1) := by decide +kernel
theorem dX11_teach_1 : decode cX11_teach 1 = .ok (.getfield 24, 3) := by decide +kernel
theorem dX11_teach_4 : decode cX11_teach 4 = .ok (.invokevirtual 125, 3) := by decide +kernel
theorem dX11_teach_7 : decode cX11_teach 7 = .ok (.ifCond .eq 29, 3) := by decide +kernel
theorem dX11_teach_10 : decode cX11_teach 10 = .ok (.iload_n 1, 1) := by decide +kernel
theorem dX11_teach_11 : decode cX11_teach 11 = .ok (.invokestatic 129, 3) := by decide +kernel
theorem dX11_teach_14 : decode cX11_teach 14 = .ok (.ifCond .eq 22, 3) := by decide +kernel
theorem dX11_teach_17 : decode cX11_teach 17 = .ok (.aload_n 0, 1) := by decide +kernel
theorem dX11_teach_18 : decode cX11_teach 18 = .ok (.getfield 24, 3) := by decide +kernel
theorem dX11_teach_21 : decode cX11_teach 21 = .ok (.iload_n 1, 1) := by decide +kernel
theorem dX11_teach_22 : decode cX11_teach 22 = .ok (.iload_n 2, 1) := by decide +kernel
theorem dX11_teach_23 : decode cX11_teach 23 = .ok (.invokevirtual 133, 3) := by decide +kernel
theorem dX11_teach_26 : decode cX11_teach 26 = .ok (.ifCond .eq 10, 3) := by decide +kernel
theorem dX11_teach_29 : decode cX11_teach 29 = .ok (.iload_n 3, 1) := by decide +kernel
theorem dX11_teach_30 : decode cX11_teach 30 = .ok (.invokestatic 141, 3) := by decide +kernel
theorem dX11_teach_33 : decode cX11_teach 33 = .ok (.ifCond .ne 6, 3) := by decide +kernel
theorem dX11_teach_36 : decode cX11_teach 36 = .ok (.bipush (-2), 2) := by decide +kernel
theorem dX11_teach_38 : decode cX11_teach 38 = .ok (.ireturn, 1) := by decide +kernel
theorem dX11_teach_39 : decode cX11_teach 39 = .ok (.aload_n 0, 1) := by decide +kernel
theorem dX11_teach_40 : decode cX11_teach 40 = .ok (.getfield 24, 3) := by decide +kernel
theorem dX11_teach_43 : decode cX11_teach 43 = .ok (.getfield 369, 3) := by decide +kernel
theorem dX11_teach_46 : decode cX11_teach 46 = .ok (.bipush 40, 2) := by decide +kernel
theorem dX11_teach_48 : decode cX11_teach 48 = .ok (.if_icmp .lt 6, 3) := by decide +kernel
theorem dX11_teach_51 : decode cX11_teach 51 = .ok (.bipush (-5), 2) := by decide +kernel
theorem dX11_teach_53 : decode cX11_teach 53 = .ok (.ireturn, 1) := by decide +kernel
theorem dX11_teach_54 : decode cX11_teach 54 = .ok (.iload_n 1, 1) := by decide +kernel
theorem dX11_teach_55 : decode cX11_teach 55 = .ok (.bipush 12, 2) := by decide +kernel
theorem dX11_teach_57 : decode cX11_teach 57 = .ok (.imul, 1) := by decide +kernel
theorem dX11_teach_58 : decode cX11_teach 58 = .ok (.iload_n 2, 1) := by decide +kernel
theorem dX11_teach_59 : decode cX11_teach 59 = .ok (.iadd, 1) := by decide +kernel
theorem dX11_teach_60 : decode cX11_teach 60 = .ok (.istore 4, 2) := by decide +kernel
theorem dX11_teach_62 : decode cX11_teach 62 = .ok (.aload_n 0, 1) := by decide +kernel
theorem dX11_teach_63 : decode cX11_teach 63 = .ok (.getfield 24, 3) := by decide +kernel
theorem dX11_teach_66 : decode cX11_teach 66 = .ok (.getfield 383, 3) := by decide +kernel
theorem dX11_teach_69 : decode cX11_teach 69 = .ok (.iload 4, 2) := by decide +kernel
theorem dX11_teach_71 : decode cX11_teach 71 = .ok (.iaload, 1) := by decide +kernel
theorem dX11_teach_72 : decode cX11_teach 72 = .ok (.istore 5, 2) := by decide +kernel
theorem dX11_teach_74 : decode cX11_teach 74 = .ok (.aload_n 0, 1) := by decide +kernel
theorem dX11_teach_75 : decode cX11_teach 75 = .ok (.getfield 24, 3) := by decide +kernel
theorem dX11_teach_78 : decode cX11_teach 78 = .ok (.iconst 2, 1) := by decide +kernel
theorem dX11_teach_79 : decode cX11_teach 79 = .ok (.iload 4, 2) := by decide +kernel
theorem dX11_teach_81 : decode cX11_teach 81 = .ok (.iload 5, 2) := by decide +kernel
theorem dX11_teach_83 : decode cX11_teach 83 = .ok (.invokevirtual 375, 3) := by decide +kernel
theorem dX11_teach_86 : decode cX11_teach 86 = .ok (.aload_n 0, 1) := by decide +kernel
theorem dX11_teach_87 : decode cX11_teach 87 = .ok (.getfield 24, 3) := by decide +kernel
theorem dX11_teach_90 : decode cX11_teach 90 = .ok (.getfield 383, 3) := by decide +kernel
theorem dX11_teach_93 : decode cX11_teach 93 = .ok (.iload 4, 2) := by decide +kernel
theorem dX11_teach_95 : decode cX11_teach 95 = .ok (.iload_n 3, 1) := by decide +kernel
theorem dX11_teach_96 : decode cX11_teach 96 = .ok (.iastore, 1) := by decide +kernel
theorem dX11_teach_97 : decode cX11_teach 97 = .ok (.aload_n 0, 1) := by decide +kernel
theorem dX11_teach_98 : decode cX11_teach 98 = .ok (.iconst 0, 1) := by decide +kernel
theorem dX11_teach_99 : decode cX11_teach 99 = .ok (.putfield 49, 3) := by decide +kernel
theorem dX11_teach_102 : decode cX11_teach 102 = .ok (.iload 5, 2) := by decide +kernel
theorem dX11_teach_104 : decode cX11_teach 104 = .ok (.ireturn, 1) := by decide +kernel
set_option maxRecDepth 20000 in
theorem ggX11_undo_X0_stands : GoodIn wsX11_undo wsX0_stands := goodIn_r _ [8, 9, 35, 36, 37, 38, 39, 40, 41, 42, 43, 44, 45, 46, 47, 48, 49, 50, 51] (by decide +kernel) (by decide +kernel)
set_option maxRecDepth 20000 in
theorem gX11_undo_X0_stands : GoodIn wsX11_undo (wsV RX11 125 RX0 yX0_stands wsX0_stands) := goodIn_app (goodIn_of _ (by decide +kernel)) ggX11_undo_X0_stands
set_option maxRecDepth 20000 in
theorem ggX11_undo_X0_takeBack : GoodIn wsX11_undo wsX0_takeBack := goodIn_r _ [13, 14, 15, 16, 17, 18, 35, 36, 37, 38, 39, 40, 41, 42, 43, 44, 45, 46, 47, 48, 49, 50, 51] (by decide +kernel) (by decide +kernel)
set_option maxRecDepth 20000 in
theorem gX11_undo_X0_takeBack : GoodIn wsX11_undo (wsV RX11 386 RX0 yX0_takeBack wsX0_takeBack) := goodIn_app (goodIn_of _ (by decide +kernel)) ggX11_undo_X0_takeBack
theorem dX11_undo_0 : decode cX11_undo 0 = .ok (.aload_n 0, 1) := by decide +kernel
theorem dX11_undo_1 : decode cX11_undo 1 = .ok (.getfield 24, 3) := by decide +kernel
theorem dX11_undo_4 : decode cX11_undo 4 = .ok (.invokevirtual 125, 3) := by decide +kernel
theorem dX11_undo_7 : decode cX11_undo 7 = .ok (.ifCond .ne 6, 3) := by decide +kernel
theorem dX11_undo_10 : decode cX11_undo 10 = .ok (.bipush (-2), 2) := by decide +kernel
theorem dX11_undo_12 : decode cX11_undo 12 = .ok (.ireturn, 1) := by decide +kernel
theorem dX11_undo_13 : decode cX11_undo 13 = .ok (.aload_n 0, 1) := by decide +kernel
theorem dX11_undo_14 : decode cX11_undo 14 = .ok (.getfield 24, 3) := by decide +kernel
theorem dX11_undo_17 : decode cX11_undo 17 = .ok (.getfield 369, 3) := by decide +kernel
theorem dX11_undo_20 : decode cX11_undo 20 = .ok (.ifCond .ne 6, 3) := by decide +kernel
theorem dX11_undo_23 : decode cX11_undo 23 = .ok (.bipush (-5), 2) := by decide +kernel
theorem dX11_undo_25 : decode cX11_undo 25 = .ok (.ireturn, 1) := by decide +kernel
theorem dX11_undo_26 : decode cX11_undo 26 = .ok (.aload_n 0, 1) := by decide +kernel
theorem dX11_undo_27 : decode cX11_undo 27 = .ok (.getfield 24, 3) := by decide +kernel
theorem dX11_undo_30 : decode cX11_undo 30 = .ok (.invokevirtual 386, 3) := by decide +kernel
theorem dX11_undo_33 : decode cX11_undo 33 = .ok (.aload_n 0, 1) := by decide +kernel
theorem dX11_undo_34 : decode cX11_undo 34 = .ok (.iconst 0, 1) := by decide +kernel
theorem dX11_undo_35 : decode cX11_undo 35 = .ok (.putfield 49, 3) := by decide +kernel
theorem dX11_undo_38 : decode cX11_undo 38 = .ok (.aload_n 0, 1) := by decide +kernel
theorem dX11_undo_39 : decode cX11_undo 39 = .ok (.getfield 24, 3) := by decide +kernel
theorem dX11_undo_42 : decode cX11_undo 42 = .ok (.getfield 369, 3) := by decide +kernel
theorem dX11_undo_45 : decode cX11_undo 45 = .ok (.ireturn, 1) := by decide +kernel
set_option maxRecDepth 20000 in
theorem ggX11_count_X0_countMuds : GoodIn wsX11_count wsX0_countMuds := goodIn_r _ [18, 19, 46, 47, 48, 49, 50, 51, 52, 53, 54, 55, 56, 57, 58, 59, 60, 61, 62] (by decide +kernel) (by decide +kernel)
set_option maxRecDepth 20000 in
theorem gX11_count_X0_countMuds : GoodIn wsX11_count (wsV RX11 395 RX0 yX0_countMuds wsX0_countMuds) := goodIn_app (goodIn_of _ (by decide +kernel)) ggX11_count_X0_countMuds
set_option maxRecDepth 20000 in
theorem ggX11_count_X7_countRows : GoodIn wsX11_count wsX7_countRows := goodIn_r _ [24, 25, 26, 27, 23, 28, 29, 69, 70, 71] (by decide +kernel) (by decide +kernel)
set_option maxRecDepth 20000 in
theorem gX11_count_X7_countRows : GoodIn wsX11_count (wsV RX11 404 RX7 yX7_countRows wsX7_countRows) := goodIn_app (goodIn_of _ (by decide +kernel)) ggX11_count_X7_countRows
theorem dX11_count_0 : decode cX11_count 0 = .ok (.iload_n 1, 1) := by decide +kernel
theorem dX11_count_1 : decode cX11_count 1 = .ok (.tableswitch 175 0 12 #[67, 75, 83, 91, 101, 111, 119, 127, 135, 143, 151, 159, 167], 67) := by decide +kernel
theorem dX11_count_68 : decode cX11_count 68 = .ok (.aload_n 0, 1) := by decide +kernel
theorem dX11_count_69 : decode cX11_count 69 = .ok (.getfield 24, 3) := by decide +kernel
theorem dX11_count_72 : decode cX11_count 72 = .ok (.getfield 389, 3) := by decide +kernel
theorem dX11_count_75 : decode cX11_count 75 = .ok (.ireturn, 1) := by decide +kernel
theorem dX11_count_76 : decode cX11_count 76 = .ok (.aload_n 0, 1) := by decide +kernel
theorem dX11_count_77 : decode cX11_count 77 = .ok (.getfield 24, 3) := by decide +kernel
theorem dX11_count_80 : decode cX11_count 80 = .ok (.getfield 392, 3) := by decide +kernel
theorem dX11_count_83 : decode cX11_count 83 = .ok (.ireturn, 1) := by decide +kernel
theorem dX11_count_84 : decode cX11_count 84 = .ok (.aload_n 0, 1) := by decide +kernel
theorem dX11_count_85 : decode cX11_count 85 = .ok (.getfield 24, 3) := by decide +kernel
theorem dX11_count_88 : decode cX11_count 88 = .ok (.getfield 341, 3) := by decide +kernel
theorem dX11_count_91 : decode cX11_count 91 = .ok (.ireturn, 1) := by decide +kernel
theorem dX11_count_92 : decode cX11_count 92 = .ok (.aload_n 0, 1) := by decide +kernel
theorem dX11_count_93 : decode cX11_count 93 = .ok (.getfield 24, 3) := by decide +kernel
theorem dX11_count_96 : decode cX11_count 96 = .ok (.getfield 178, 3) := by decide +kernel
theorem dX11_count_99 : decode cX11_count 99 = .ok (.iconst 0, 1) := by decide +kernel
theorem dX11_count_100 : decode cX11_count 100 = .ok (.iaload, 1) := by decide +kernel
theorem dX11_count_101 : decode cX11_count 101 = .ok (.ireturn, 1) := by decide +kernel
theorem dX11_count_102 : decode cX11_count 102 = .ok (.aload_n 0, 1) := by decide +kernel
theorem dX11_count_103 : decode cX11_count 103 = .ok (.getfield 24, 3) := by decide +kernel
theorem dX11_count_106 : decode cX11_count 106 = .ok (.getfield 178, 3) := by decide +kernel
theorem dX11_count_109 : decode cX11_count 109 = .ok (.iconst 1, 1) := by decide +kernel
theorem dX11_count_110 : decode cX11_count 110 = .ok (.iaload, 1) := by decide +kernel
theorem dX11_count_111 : decode cX11_count 111 = .ok (.ireturn, 1) := by decide +kernel
theorem dX11_count_112 : decode cX11_count 112 = .ok (.aload_n 0, 1) := by decide +kernel
theorem dX11_count_113 : decode cX11_count 113 = .ok (.getfield 24, 3) := by decide +kernel
theorem dX11_count_116 : decode cX11_count 116 = .ok (.getfield 216, 3) := by decide +kernel
theorem dX11_count_119 : decode cX11_count 119 = .ok (.ireturn, 1) := by decide +kernel
theorem dX11_count_120 : decode cX11_count 120 = .ok (.aload_n 0, 1) := by decide +kernel
theorem dX11_count_121 : decode cX11_count 121 = .ok (.getfield 24, 3) := by decide +kernel
theorem dX11_count_124 : decode cX11_count 124 = .ok (.invokevirtual 395, 3) := by decide +kernel
theorem dX11_count_127 : decode cX11_count 127 = .ok (.ireturn, 1) := by decide +kernel
theorem dX11_count_128 : decode cX11_count 128 = .ok (.aload_n 0, 1) := by decide +kernel
theorem dX11_count_129 : decode cX11_count 129 = .ok (.getfield 24, 3) := by decide +kernel
theorem dX11_count_132 : decode cX11_count 132 = .ok (.getfield 398, 3) := by decide +kernel
theorem dX11_count_135 : decode cX11_count 135 = .ok (.ireturn, 1) := by decide +kernel
theorem dX11_count_136 : decode cX11_count 136 = .ok (.aload_n 0, 1) := by decide +kernel
theorem dX11_count_137 : decode cX11_count 137 = .ok (.getfield 24, 3) := by decide +kernel
theorem dX11_count_140 : decode cX11_count 140 = .ok (.getfield 401, 3) := by decide +kernel
theorem dX11_count_143 : decode cX11_count 143 = .ok (.ireturn, 1) := by decide +kernel
theorem dX11_count_144 : decode cX11_count 144 = .ok (.aload_n 0, 1) := by decide +kernel
theorem dX11_count_145 : decode cX11_count 145 = .ok (.getfield 24, 3) := by decide +kernel
theorem dX11_count_148 : decode cX11_count 148 = .ok (.getfield 369, 3) := by decide +kernel
theorem dX11_count_151 : decode cX11_count 151 = .ok (.ireturn, 1) := by decide +kernel
theorem dX11_count_152 : decode cX11_count 152 = .ok (.aload_n 0, 1) := by decide +kernel
theorem dX11_count_153 : decode cX11_count 153 = .ok (.getfield 24, 3) := by decide +kernel
theorem dX11_count_156 : decode cX11_count 156 = .ok (.getfield 116, 3) := by decide +kernel
theorem dX11_count_159 : decode cX11_count 159 = .ok (.ireturn, 1) := by decide +kernel
theorem dX11_count_160 : decode cX11_count 160 = .ok (.aload_n 0, 1) := by decide +kernel
theorem dX11_count_161 : decode cX11_count 161 = .ok (.getfield 20, 3) := by decide +kernel
theorem dX11_count_164 : decode cX11_count 164 = .ok (.getfield 102, 3) := by decide +kernel
theorem dX11_count_167 : decode cX11_count 167 = .ok (.ireturn, 1) := by decide +kernel
theorem dX11_count_168 : decode cX11_count 168 = .ok (.aload_n 0, 1) := by decide +kernel
theorem dX11_count_169 : decode cX11_count 169 = .ok (.getfield 98, 3) := by decide +kernel
theorem dX11_count_172 : decode cX11_count 172 = .ok (.invokevirtual 404, 3) := by decide +kernel
theorem dX11_count_175 : decode cX11_count 175 = .ok (.ireturn, 1) := by decide +kernel
theorem dX11_count_176 : decode cX11_count 176 = .ok (.iconst (-1), 1) := by decide +kernel
theorem dX11_count_177 : decode cX11_count 177 = .ok (.ireturn, 1) := by decide +kernel
set_option maxRecDepth 20000 in
theorem ggX11_row_X7_isSlot : GoodIn wsX11_row wsX7_isSlot := goodIn_r _ [5, 6, 7, 8] (by decide +kernel) (by decide +kernel)
set_option maxRecDepth 20000 in
theorem gX11_row_X7_isSlot : GoodIn wsX11_row (va_wsS RX11 411 yX7_isSlot wsX7_isSlot) := goodIn_app (goodIn_of _ (by decide +kernel)) ggX11_row_X7_isSlot
set_option maxRecDepth 20000 in
theorem ggX11_row_X11_isWithin : GoodIn wsX11_row wsX11_isWithin := goodIn_r _ [8] (by decide +kernel) (by decide +kernel)
set_option maxRecDepth 20000 in
theorem gX11_row_X11_isWithin : GoodIn wsX11_row (va_wsS RX11 150 yX11_isWithin wsX11_isWithin) := goodIn_app (goodIn_of _ (by decide +kernel)) ggX11_row_X11_isWithin
set_option maxRecDepth 20000 in
theorem ggX11_row_X7_make : GoodIn wsX11_row wsX7_make := goodIn_r _ [13, 14, 15, 16, 33, 34, 35] (by decide +kernel) (by decide +kernel)
set_option maxRecDepth 20000 in
theorem gX11_row_X7_make : GoodIn wsX11_row (wsV RX11 414 RX7 yX7_make wsX7_make) := goodIn_app (goodIn_of _ (by decide +kernel)) ggX11_row_X7_make
theorem dX11_row_0 : decode cX11_row 0 = .ok (.iload_n 1, 1) := by decide +kernel
theorem dX11_row_1 : decode cX11_row 1 = .ok (.invokestatic 411, 3) := by decide +kernel
theorem dX11_row_4 : decode cX11_row 4 = .ok (.ifCond .eq 17, 3) := by decide +kernel
theorem dX11_row_7 : decode cX11_row 7 = .ok (.iload_n 2, 1) := by decide +kernel
theorem dX11_row_8 : decode cX11_row 8 = .ok (.iconst 4, 1) := by decide +kernel
theorem dX11_row_9 : decode cX11_row 9 = .ok (.invokestatic 150, 3) := by decide +kernel
theorem dX11_row_12 : decode cX11_row 12 = .ok (.ifCond .eq 9, 3) := by decide +kernel
theorem dX11_row_15 : decode cX11_row 15 = .ok (.iload_n 3, 1) := by decide +kernel
theorem dX11_row_16 : decode cX11_row 16 = .ok (.bipush 60, 2) := by decide +kernel
theorem dX11_row_18 : decode cX11_row 18 = .ok (.if_icmp .le 6, 3) := by decide +kernel
theorem dX11_row_21 : decode cX11_row 21 = .ok (.bipush (-2), 2) := by decide +kernel
theorem dX11_row_23 : decode cX11_row 23 = .ok (.ireturn, 1) := by decide +kernel
theorem dX11_row_24 : decode cX11_row 24 = .ok (.iload_n 3, 1) := by decide +kernel
theorem dX11_row_25 : decode cX11_row 25 = .ok (.ifCond .ge 6, 3) := by decide +kernel
theorem dX11_row_28 : decode cX11_row 28 = .ok (.bipush (-3), 2) := by decide +kernel
theorem dX11_row_30 : decode cX11_row 30 = .ok (.ireturn, 1) := by decide +kernel
theorem dX11_row_31 : decode cX11_row 31 = .ok (.aload_n 0, 1) := by decide +kernel
theorem dX11_row_32 : decode cX11_row 32 = .ok (.getfield 98, 3) := by decide +kernel
theorem dX11_row_35 : decode cX11_row 35 = .ok (.iload_n 1, 1) := by decide +kernel
theorem dX11_row_36 : decode cX11_row 36 = .ok (.iload_n 2, 1) := by decide +kernel
theorem dX11_row_37 : decode cX11_row 37 = .ok (.iload_n 3, 1) := by decide +kernel
theorem dX11_row_38 : decode cX11_row 38 = .ok (.invokevirtual 414, 3) := by decide +kernel
theorem dX11_row_41 : decode cX11_row 41 = .ok (.iconst 0, 1) := by decide +kernel
theorem dX11_row_42 : decode cX11_row 42 = .ok (.ireturn, 1) := by decide +kernel
set_option maxRecDepth 20000 in
theorem ggX11_write_X7_isSlot : GoodIn wsX11_write wsX7_isSlot := goodIn_r _ [6, 7, 8, 9] (by decide +kernel) (by decide +kernel)
set_option maxRecDepth 20000 in
theorem gX11_write_X7_isSlot : GoodIn wsX11_write (va_wsS RX11 411 yX7_isSlot wsX7_isSlot) := goodIn_app (goodIn_of _ (by decide +kernel)) ggX11_write_X7_isSlot
set_option maxRecDepth 20000 in
theorem ggX11_write_X7_has : GoodIn wsX11_write wsX7_has := goodIn_r _ [13, 14, 41, 42, 43] (by decide +kernel) (by decide +kernel)
set_option maxRecDepth 20000 in
theorem gX11_write_X7_has : GoodIn wsX11_write (wsV RX11 417 RX7 yX7_has wsX7_has) := goodIn_app (goodIn_of _ (by decide +kernel)) ggX11_write_X7_has
set_option maxRecDepth 20000 in
theorem ggX11_write_X11_isWithin : GoodIn wsX11_write wsX11_isWithin := goodIn_r _ [9] (by decide +kernel) (by decide +kernel)
set_option maxRecDepth 20000 in
theorem gX11_write_X11_isWithin : GoodIn wsX11_write (va_wsS RX11 150 yX11_isWithin wsX11_isWithin) := goodIn_app (goodIn_of _ (by decide +kernel)) ggX11_write_X11_isWithin
set_option maxRecDepth 20000 in
theorem ggX11_write_X7_put : GoodIn wsX11_write wsX7_put := goodIn_r _ [19, 20, 21, 22, 23, 5, 24, 41, 42, 43] (by decide +kernel) (by decide +kernel)
set_option maxRecDepth 20000 in
theorem gX11_write_X7_put : GoodIn wsX11_write (wsV RX11 422 RX7 yX7_put wsX7_put) := goodIn_app (goodIn_of _ (by decide +kernel)) ggX11_write_X7_put
theorem dX11_write_0 : decode cX11_write 0 = .ok (.iload_n 1, 1) := by decide +kernel
theorem dX11_write_1 : decode cX11_write 1 = .ok (.invokestatic 411, 3) := by decide +kernel
theorem dX11_write_4 : decode cX11_write 4 = .ok (.ifCond .ne 6, 3) := by decide +kernel
theorem dX11_write_7 : decode cX11_write 7 = .ok (.bipush (-2), 2) := by decide +kernel
theorem dX11_write_9 : decode cX11_write 9 = .ok (.ireturn, 1) := by decide +kernel
theorem dX11_write_10 : decode cX11_write 10 = .ok (.aload_n 0, 1) := by decide +kernel
theorem dX11_write_11 : decode cX11_write 11 = .ok (.getfield 98, 3) := by decide +kernel
theorem dX11_write_14 : decode cX11_write 14 = .ok (.iload_n 1, 1) := by decide +kernel
theorem dX11_write_15 : decode cX11_write 15 = .ok (.invokevirtual 417, 3) := by decide +kernel
theorem dX11_write_18 : decode cX11_write 18 = .ok (.ifCond .ne 6, 3) := by decide +kernel
theorem dX11_write_21 : decode cX11_write 21 = .ok (.bipush (-6), 2) := by decide +kernel
theorem dX11_write_23 : decode cX11_write 23 = .ok (.ireturn, 1) := by decide +kernel
theorem dX11_write_24 : decode cX11_write 24 = .ok (.iload_n 2, 1) := by decide +kernel
theorem dX11_write_25 : decode cX11_write 25 = .ok (.aload_n 0, 1) := by decide +kernel
theorem dX11_write_26 : decode cX11_write 26 = .ok (.getfield 98, 3) := by decide +kernel
theorem dX11_write_29 : decode cX11_write 29 = .ok (.getfield 419, 3) := by decide +kernel
theorem dX11_write_32 : decode cX11_write 32 = .ok (.iload_n 1, 1) := by decide +kernel
theorem dX11_write_33 : decode cX11_write 33 = .ok (.iaload, 1) := by decide +kernel
theorem dX11_write_34 : decode cX11_write 34 = .ok (.invokestatic 150, 3) := by decide +kernel
theorem dX11_write_37 : decode cX11_write 37 = .ok (.ifCond .ne 6, 3) := by decide +kernel
theorem dX11_write_40 : decode cX11_write 40 = .ok (.bipush (-7), 2) := by decide +kernel
theorem dX11_write_42 : decode cX11_write 42 = .ok (.ireturn, 1) := by decide +kernel
theorem dX11_write_43 : decode cX11_write 43 = .ok (.aload_n 0, 1) := by decide +kernel
theorem dX11_write_44 : decode cX11_write 44 = .ok (.getfield 98, 3) := by decide +kernel
theorem dX11_write_47 : decode cX11_write 47 = .ok (.iload_n 1, 1) := by decide +kernel
theorem dX11_write_48 : decode cX11_write 48 = .ok (.iload_n 2, 1) := by decide +kernel
theorem dX11_write_49 : decode cX11_write 49 = .ok (.lload_n 3, 1) := by decide +kernel
theorem dX11_write_50 : decode cX11_write 50 = .ok (.invokevirtual 422, 3) := by decide +kernel
theorem dX11_write_53 : decode cX11_write 53 = .ok (.iconst 0, 1) := by decide +kernel
theorem dX11_write_54 : decode cX11_write 54 = .ok (.ireturn, 1) := by decide +kernel
set_option maxRecDepth 20000 in
theorem ggX11_paste_X7_isSlot : GoodIn wsX11_paste wsX7_isSlot := goodIn_r _ [6, 7, 8, 9] (by decide +kernel) (by decide +kernel)
set_option maxRecDepth 20000 in
theorem gX11_paste_X7_isSlot : GoodIn wsX11_paste (va_wsS RX11 411 yX7_isSlot wsX7_isSlot) := goodIn_app (goodIn_of _ (by decide +kernel)) ggX11_paste_X7_isSlot
set_option maxRecDepth 20000 in
theorem ggX11_paste_X7_has : GoodIn wsX11_paste wsX7_has := goodIn_r _ [13, 14, 44, 45, 46] (by decide +kernel) (by decide +kernel)
set_option maxRecDepth 20000 in
theorem gX11_paste_X7_has : GoodIn wsX11_paste (wsV RX11 417 RX7 yX7_has wsX7_has) := goodIn_app (goodIn_of _ (by decide +kernel)) ggX11_paste_X7_has
set_option maxRecDepth 20000 in
theorem ggX11_paste_X7_holds : GoodIn wsX11_paste wsX7_holds := goodIn_r _ [18, 14, 44, 45, 46] (by decide +kernel) (by decide +kernel)
set_option maxRecDepth 20000 in
theorem gX11_paste_X7_holds : GoodIn wsX11_paste (wsV RX11 429 RX7 yX7_holds wsX7_holds) := goodIn_app (goodIn_of _ (by decide +kernel)) ggX11_paste_X7_holds
set_option maxRecDepth 20000 in
theorem ggX11_paste_X7_move : GoodIn wsX11_paste wsX7_move := goodIn_r _ [22, 23, 24, 25, 26, 27, 44, 45, 46] (by decide +kernel) (by decide +kernel)
set_option maxRecDepth 20000 in
theorem gX11_paste_X7_move : GoodIn wsX11_paste (wsV RX11 433 RX7 yX7_move wsX7_move) := goodIn_app (goodIn_of _ (by decide +kernel)) ggX11_paste_X7_move
theorem dX11_paste_0 : decode cX11_paste 0 = .ok (.iload_n 1, 1) := by decide +kernel
theorem dX11_paste_1 : decode cX11_paste 1 = .ok (.invokestatic 411, 3) := by decide +kernel
theorem dX11_paste_4 : decode cX11_paste 4 = .ok (.ifCond .eq 10, 3) := by decide +kernel
theorem dX11_paste_7 : decode cX11_paste 7 = .ok (.iload_n 3, 1) := by decide +kernel
theorem dX11_paste_8 : decode cX11_paste 8 = .ok (.invokestatic 411, 3) := by decide +kernel
theorem dX11_paste_11 : decode cX11_paste 11 = .ok (.ifCond .ne 6, 3) := by decide +kernel
theorem dX11_paste_14 : decode cX11_paste 14 = .ok (.bipush (-2), 2) := by decide +kernel
theorem dX11_paste_16 : decode cX11_paste 16 = .ok (.ireturn, 1) := by decide +kernel
theorem dX11_paste_17 : decode cX11_paste 17 = .ok (.aload_n 0, 1) := by decide +kernel
theorem dX11_paste_18 : decode cX11_paste 18 = .ok (.getfield 98, 3) := by decide +kernel
theorem dX11_paste_21 : decode cX11_paste 21 = .ok (.iload_n 1, 1) := by decide +kernel
theorem dX11_paste_22 : decode cX11_paste 22 = .ok (.invokevirtual 417, 3) := by decide +kernel
theorem dX11_paste_25 : decode cX11_paste 25 = .ok (.ifCond .eq 14, 3) := by decide +kernel
theorem dX11_paste_28 : decode cX11_paste 28 = .ok (.aload_n 0, 1) := by decide +kernel
theorem dX11_paste_29 : decode cX11_paste 29 = .ok (.getfield 98, 3) := by decide +kernel
theorem dX11_paste_32 : decode cX11_paste 32 = .ok (.iload_n 3, 1) := by decide +kernel
theorem dX11_paste_33 : decode cX11_paste 33 = .ok (.invokevirtual 417, 3) := by decide +kernel
theorem dX11_paste_36 : decode cX11_paste 36 = .ok (.ifCond .ne 6, 3) := by decide +kernel
theorem dX11_paste_39 : decode cX11_paste 39 = .ok (.bipush (-6), 2) := by decide +kernel
theorem dX11_paste_41 : decode cX11_paste 41 = .ok (.ireturn, 1) := by decide +kernel
theorem dX11_paste_42 : decode cX11_paste 42 = .ok (.aload_n 0, 1) := by decide +kernel
theorem dX11_paste_43 : decode cX11_paste 43 = .ok (.getfield 98, 3) := by decide +kernel
theorem dX11_paste_46 : decode cX11_paste 46 = .ok (.getfield 426, 3) := by decide +kernel
theorem dX11_paste_49 : decode cX11_paste 49 = .ok (.iload_n 1, 1) := by decide +kernel
theorem dX11_paste_50 : decode cX11_paste 50 = .ok (.iaload, 1) := by decide +kernel
theorem dX11_paste_51 : decode cX11_paste 51 = .ok (.aload_n 0, 1) := by decide +kernel
theorem dX11_paste_52 : decode cX11_paste 52 = .ok (.getfield 98, 3) := by decide +kernel
theorem dX11_paste_55 : decode cX11_paste 55 = .ok (.getfield 426, 3) := by decide +kernel
theorem dX11_paste_58 : decode cX11_paste 58 = .ok (.iload_n 3, 1) := by decide +kernel
theorem dX11_paste_59 : decode cX11_paste 59 = .ok (.iaload, 1) := by decide +kernel
theorem dX11_paste_60 : decode cX11_paste 60 = .ok (.if_icmp .eq 6, 3) := by decide +kernel
theorem dX11_paste_63 : decode cX11_paste 63 = .ok (.bipush (-8), 2) := by decide +kernel
theorem dX11_paste_65 : decode cX11_paste 65 = .ok (.ireturn, 1) := by decide +kernel
theorem dX11_paste_66 : decode cX11_paste 66 = .ok (.aload_n 0, 1) := by decide +kernel
theorem dX11_paste_67 : decode cX11_paste 67 = .ok (.getfield 98, 3) := by decide +kernel
theorem dX11_paste_70 : decode cX11_paste 70 = .ok (.iload_n 1, 1) := by decide +kernel
theorem dX11_paste_71 : decode cX11_paste 71 = .ok (.iload_n 2, 1) := by decide +kernel
theorem dX11_paste_72 : decode cX11_paste 72 = .ok (.iload 5, 2) := by decide +kernel
theorem dX11_paste_74 : decode cX11_paste 74 = .ok (.invokevirtual 429, 3) := by decide +kernel
theorem dX11_paste_77 : decode cX11_paste 77 = .ok (.ifCond .eq 18, 3) := by decide +kernel
theorem dX11_paste_80 : decode cX11_paste 80 = .ok (.aload_n 0, 1) := by decide +kernel
theorem dX11_paste_81 : decode cX11_paste 81 = .ok (.getfield 98, 3) := by decide +kernel
theorem dX11_paste_84 : decode cX11_paste 84 = .ok (.iload_n 3, 1) := by decide +kernel
theorem dX11_paste_85 : decode cX11_paste 85 = .ok (.iload 4, 2) := by decide +kernel
theorem dX11_paste_87 : decode cX11_paste 87 = .ok (.iload 5, 2) := by decide +kernel
theorem dX11_paste_89 : decode cX11_paste 89 = .ok (.invokevirtual 429, 3) := by decide +kernel
theorem dX11_paste_92 : decode cX11_paste 92 = .ok (.ifCond .ne 6, 3) := by decide +kernel
theorem dX11_paste_95 : decode cX11_paste 95 = .ok (.bipush (-7), 2) := by decide +kernel
theorem dX11_paste_97 : decode cX11_paste 97 = .ok (.ireturn, 1) := by decide +kernel
theorem dX11_paste_98 : decode cX11_paste 98 = .ok (.aload_n 0, 1) := by decide +kernel
theorem dX11_paste_99 : decode cX11_paste 99 = .ok (.getfield 98, 3) := by decide +kernel
theorem dX11_paste_102 : decode cX11_paste 102 = .ok (.iload_n 1, 1) := by decide +kernel
theorem dX11_paste_103 : decode cX11_paste 103 = .ok (.iload_n 2, 1) := by decide +kernel
theorem dX11_paste_104 : decode cX11_paste 104 = .ok (.iload_n 3, 1) := by decide +kernel
theorem dX11_paste_105 : decode cX11_paste 105 = .ok (.iload 4, 2) := by decide +kernel
theorem dX11_paste_107 : decode cX11_paste 107 = .ok (.iload 5, 2) := by decide +kernel
theorem dX11_paste_109 : decode cX11_paste 109 = .ok (.invokevirtual 433, 3) := by decide +kernel
theorem dX11_paste_112 : decode cX11_paste 112 = .ok (.iconst 0, 1) := by decide +kernel
theorem dX11_paste_113 : decode cX11_paste 113 = .ok (.ireturn, 1) := by decide +kernel
set_option maxRecDepth 20000 in
theorem ggX11_has_X0_stands : GoodIn wsX11_has wsX0_stands := goodIn_r _ [6, 7, 34, 35, 36, 37, 38, 39, 40, 41, 42, 43, 44, 45, 46, 47, 48, 49, 50] (by decide +kernel) (by decide +kernel)
set_option maxRecDepth 20000 in
theorem gX11_has_X0_stands : GoodIn wsX11_has (wsV RX11 125 RX0 yX0_stands wsX0_stands) := goodIn_app (goodIn_of _ (by decide +kernel)) ggX11_has_X0_stands
set_option maxRecDepth 20000 in
theorem ggX11_has_X11_isSide : GoodIn wsX11_has wsX11_isSide := goodIn_r _ [11, 12, 13, 10, 14] (by decide +kernel) (by decide +kernel)
set_option maxRecDepth 20000 in
theorem gX11_has_X11_isSide : GoodIn wsX11_has (va_wsS RX11 129 yX11_isSide wsX11_isSide) := goodIn_app (goodIn_of _ (by decide +kernel)) ggX11_has_X11_isSide
set_option maxRecDepth 20000 in
theorem ggX11_has_X11_isBeat : GoodIn wsX11_has wsX11_isBeat := goodIn_r _ [17, 12, 13, 10, 14] (by decide +kernel) (by decide +kernel)
set_option maxRecDepth 20000 in
theorem gX11_has_X11_isBeat : GoodIn wsX11_has (va_wsS RX11 156 yX11_isBeat wsX11_isBeat) := goodIn_app (goodIn_of _ (by decide +kernel)) ggX11_has_X11_isBeat
theorem dX11_has_0 : decode cX11_has 0 = .ok (.aload_n 0, 1) := by decide +kernel
theorem dX11_has_1 : decode cX11_has 1 = .ok (.getfield 24, 3) := by decide +kernel
theorem dX11_has_4 : decode cX11_has 4 = .ok (.invokevirtual 125, 3) := by decide +kernel
theorem dX11_has_7 : decode cX11_has 7 = .ok (.ifCond .eq 21, 3) := by decide +kernel
theorem dX11_has_10 : decode cX11_has 10 = .ok (.iload_n 1, 1) := by decide +kernel
theorem dX11_has_11 : decode cX11_has 11 = .ok (.invokestatic 129, 3) := by decide +kernel
theorem dX11_has_14 : decode cX11_has 14 = .ok (.ifCond .eq 14, 3) := by decide +kernel
theorem dX11_has_17 : decode cX11_has 17 = .ok (.iload_n 2, 1) := by decide +kernel
theorem dX11_has_18 : decode cX11_has 18 = .ok (.invokestatic 156, 3) := by decide +kernel
theorem dX11_has_21 : decode cX11_has 21 = .ok (.ifCond .eq 7, 3) := by decide +kernel
theorem dX11_has_24 : decode cX11_has 24 = .ok (.iconst 1, 1) := by decide +kernel
theorem dX11_has_25 : decode cX11_has 25 = .ok (.goto 4, 3) := by decide +kernel
theorem dX11_has_28 : decode cX11_has 28 = .ok (.iconst 0, 1) := by decide +kernel
theorem dX11_has_29 : decode cX11_has 29 = .ok (.ireturn, 1) := by decide +kernel
set_option maxRecDepth 20000 in
theorem ggX11_hasSpan_X0_stands : GoodIn wsX11_hasSpan wsX0_stands := goodIn_r _ [6, 7, 31, 32, 33, 34, 35, 36, 37, 38, 39, 40, 41, 42, 43, 44, 45, 46, 47] (by decide +kernel) (by decide +kernel)
set_option maxRecDepth 20000 in
theorem gX11_hasSpan_X0_stands : GoodIn wsX11_hasSpan (wsV RX11 125 RX0 yX0_stands wsX0_stands) := goodIn_app (goodIn_of _ (by decide +kernel)) ggX11_hasSpan_X0_stands
set_option maxRecDepth 20000 in
theorem ggX11_hasSpan_X11_isBeat : GoodIn wsX11_hasSpan wsX11_isBeat := goodIn_r _ [11, 12, 13, 10, 14] (by decide +kernel) (by decide +kernel)
set_option maxRecDepth 20000 in
theorem gX11_hasSpan_X11_isBeat : GoodIn wsX11_hasSpan (va_wsS RX11 156 yX11_isBeat wsX11_isBeat) := goodIn_app (goodIn_of _ (by decide +kernel)) ggX11_hasSpan_X11_isBeat
theorem dX11_hasSpan_0 : decode cX11_hasSpan 0 = .ok (.aload_n 0, 1) := by decide +kernel
theorem dX11_hasSpan_1 : decode cX11_hasSpan 1 = .ok (.getfield 24, 3) := by decide +kernel
theorem dX11_hasSpan_4 : decode cX11_hasSpan 4 = .ok (.invokevirtual 125, 3) := by decide +kernel
theorem dX11_hasSpan_7 : decode cX11_hasSpan 7 = .ok (.ifCond .eq 26, 3) := by decide +kernel
theorem dX11_hasSpan_10 : decode cX11_hasSpan 10 = .ok (.iload_n 1, 1) := by decide +kernel
theorem dX11_hasSpan_11 : decode cX11_hasSpan 11 = .ok (.invokestatic 156, 3) := by decide +kernel
theorem dX11_hasSpan_14 : decode cX11_hasSpan 14 = .ok (.ifCond .eq 19, 3) := by decide +kernel
theorem dX11_hasSpan_17 : decode cX11_hasSpan 17 = .ok (.iload_n 2, 1) := by decide +kernel
theorem dX11_hasSpan_18 : decode cX11_hasSpan 18 = .ok (.invokestatic 156, 3) := by decide +kernel
theorem dX11_hasSpan_21 : decode cX11_hasSpan 21 = .ok (.ifCond .eq 12, 3) := by decide +kernel
theorem dX11_hasSpan_24 : decode cX11_hasSpan 24 = .ok (.iload_n 1, 1) := by decide +kernel
theorem dX11_hasSpan_25 : decode cX11_hasSpan 25 = .ok (.iload_n 2, 1) := by decide +kernel
theorem dX11_hasSpan_26 : decode cX11_hasSpan 26 = .ok (.if_icmp .gt 7, 3) := by decide +kernel
theorem dX11_hasSpan_29 : decode cX11_hasSpan 29 = .ok (.iconst 1, 1) := by decide +kernel
theorem dX11_hasSpan_30 : decode cX11_hasSpan 30 = .ok (.goto 4, 3) := by decide +kernel
theorem dX11_hasSpan_33 : decode cX11_hasSpan 33 = .ok (.iconst 0, 1) := by decide +kernel
theorem dX11_hasSpan_34 : decode cX11_hasSpan 34 = .ok (.ireturn, 1) := by decide +kernel
set_option maxRecDepth 20000 in
theorem ggX11_hasRounds_X0_stands : GoodIn wsX11_hasRounds wsX0_stands := goodIn_r _ [6, 7, 29, 30, 31, 32, 33, 34, 35, 36, 37, 38, 39, 40, 41, 42, 43, 44, 45] (by decide +kernel) (by decide +kernel)
set_option maxRecDepth 20000 in
theorem gX11_hasRounds_X0_stands : GoodIn wsX11_hasRounds (wsV RX11 125 RX0 yX0_stands wsX0_stands) := goodIn_app (goodIn_of _ (by decide +kernel)) ggX11_hasRounds_X0_stands
set_option maxRecDepth 20000 in
theorem ggX11_hasRounds_X0_hasBothRounds : GoodIn wsX11_hasRounds wsX0_hasBothRounds := goodIn_r _ [11, 12, 29, 30, 31, 32, 33, 34, 35, 36, 37, 38, 39, 40, 41, 42, 43, 44, 45] (by decide +kernel) (by decide +kernel)
set_option maxRecDepth 20000 in
theorem gX11_hasRounds_X0_hasBothRounds : GoodIn wsX11_hasRounds (wsV RX11 219 RX0 yX0_hasBothRounds wsX0_hasBothRounds) := goodIn_app (goodIn_of _ (by decide +kernel)) ggX11_hasRounds_X0_hasBothRounds
theorem dX11_hasRounds_0 : decode cX11_hasRounds 0 = .ok (.aload_n 0, 1) := by decide +kernel
theorem dX11_hasRounds_1 : decode cX11_hasRounds 1 = .ok (.getfield 24, 3) := by decide +kernel
theorem dX11_hasRounds_4 : decode cX11_hasRounds 4 = .ok (.invokevirtual 125, 3) := by decide +kernel
theorem dX11_hasRounds_7 : decode cX11_hasRounds 7 = .ok (.ifCond .eq 17, 3) := by decide +kernel
theorem dX11_hasRounds_10 : decode cX11_hasRounds 10 = .ok (.aload_n 0, 1) := by decide +kernel
theorem dX11_hasRounds_11 : decode cX11_hasRounds 11 = .ok (.getfield 24, 3) := by decide +kernel
theorem dX11_hasRounds_14 : decode cX11_hasRounds 14 = .ok (.invokevirtual 219, 3) := by decide +kernel
theorem dX11_hasRounds_17 : decode cX11_hasRounds 17 = .ok (.ifCond .eq 7, 3) := by decide +kernel
theorem dX11_hasRounds_20 : decode cX11_hasRounds 20 = .ok (.iconst 1, 1) := by decide +kernel
theorem dX11_hasRounds_21 : decode cX11_hasRounds 21 = .ok (.goto 4, 3) := by decide +kernel
theorem dX11_hasRounds_24 : decode cX11_hasRounds 24 = .ok (.iconst 0, 1) := by decide +kernel
theorem dX11_hasRounds_25 : decode cX11_hasRounds 25 = .ok (.ireturn, 1) := by decide +kernel
set_option maxRecDepth 20000 in
theorem ggX11_hasSet_X0_stands : GoodIn wsX11_hasSet wsX0_stands := goodIn_r _ [7, 8, 29, 30, 31, 32, 33, 34, 35, 36, 37, 38, 39, 40, 41, 42, 43, 44, 45] (by decide +kernel) (by decide +kernel)
set_option maxRecDepth 20000 in
theorem gX11_hasSet_X0_stands : GoodIn wsX11_hasSet (wsV RX11 125 RX0 yX0_stands wsX0_stands) := goodIn_app (goodIn_of _ (by decide +kernel)) ggX11_hasSet_X0_stands
set_option maxRecDepth 20000 in
theorem ggX11_hasSet_X11_isWithin : GoodIn wsX11_hasSet wsX11_isWithin := goodIn_r _ [12] (by decide +kernel) (by decide +kernel)
set_option maxRecDepth 20000 in
theorem gX11_hasSet_X11_isWithin : GoodIn wsX11_hasSet (va_wsS RX11 150 yX11_isWithin wsX11_isWithin) := goodIn_app (goodIn_of _ (by decide +kernel)) ggX11_hasSet_X11_isWithin
theorem dX11_hasSet_0 : decode cX11_hasSet 0 = .ok (.aload_n 0, 1) := by decide +kernel
theorem dX11_hasSet_1 : decode cX11_hasSet 1 = .ok (.getfield 24, 3) := by decide +kernel
theorem dX11_hasSet_4 : decode cX11_hasSet 4 = .ok (.invokevirtual 125, 3) := by decide +kernel
theorem dX11_hasSet_7 : decode cX11_hasSet 7 = .ok (.ifCond .eq 23, 3) := by decide +kernel
theorem dX11_hasSet_10 : decode cX11_hasSet 10 = .ok (.iload_n 1, 1) := by decide +kernel
theorem dX11_hasSet_11 : decode cX11_hasSet 11 = .ok (.iconst 1, 1) := by decide +kernel
theorem dX11_hasSet_12 : decode cX11_hasSet 12 = .ok (.aload_n 0, 1) := by decide +kernel
theorem dX11_hasSet_13 : decode cX11_hasSet 13 = .ok (.getfield 24, 3) := by decide +kernel
theorem dX11_hasSet_16 : decode cX11_hasSet 16 = .ok (.getfield 401, 3) := by decide +kernel
theorem dX11_hasSet_19 : decode cX11_hasSet 19 = .ok (.ishl, 1) := by decide +kernel
theorem dX11_hasSet_20 : decode cX11_hasSet 20 = .ok (.invokestatic 150, 3) := by decide +kernel
theorem dX11_hasSet_23 : decode cX11_hasSet 23 = .ok (.ifCond .eq 7, 3) := by decide +kernel
theorem dX11_hasSet_26 : decode cX11_hasSet 26 = .ok (.iconst 1, 1) := by decide +kernel
theorem dX11_hasSet_27 : decode cX11_hasSet 27 = .ok (.goto 4, 3) := by decide +kernel
theorem dX11_hasSet_30 : decode cX11_hasSet 30 = .ok (.iconst 0, 1) := by decide +kernel
theorem dX11_hasSet_31 : decode cX11_hasSet 31 = .ok (.ireturn, 1) := by decide +kernel
set_option maxRecDepth 20000 in
theorem ggX11_hasNight_X0_stands : GoodIn wsX11_hasNight wsX0_stands := goodIn_r _ [7, 8, 25, 26, 27, 28, 29, 30, 31, 32, 33, 34, 35, 36, 37, 38, 39, 40, 41] (by decide +kernel) (by decide +kernel)
set_option maxRecDepth 20000 in
theorem gX11_hasNight_X0_stands : GoodIn wsX11_hasNight (wsV RX11 125 RX0 yX0_stands wsX0_stands) := goodIn_app (goodIn_of _ (by decide +kernel)) ggX11_hasNight_X0_stands
theorem dX11_hasNight_0 : decode cX11_hasNight 0 = .ok (.aload_n 0, 1) := by decide +kernel
theorem dX11_hasNight_1 : decode cX11_hasNight 1 = .ok (.getfield 24, 3) := by decide +kernel
theorem dX11_hasNight_4 : decode cX11_hasNight 4 = .ok (.invokevirtual 125, 3) := by decide +kernel
theorem dX11_hasNight_7 : decode cX11_hasNight 7 = .ok (.ifCond .eq 29, 3) := by decide +kernel
theorem dX11_hasNight_10 : decode cX11_hasNight 10 = .ok (.iload_n 1, 1) := by decide +kernel
theorem dX11_hasNight_11 : decode cX11_hasNight 11 = .ok (.ifCond .lt 25, 3) := by decide +kernel
theorem dX11_hasNight_14 : decode cX11_hasNight 14 = .ok (.iload_n 1, 1) := by decide +kernel
theorem dX11_hasNight_15 : decode cX11_hasNight 15 = .ok (.ldc_w 437, 3) := by decide +kernel
theorem dX11_hasNight_18 : decode cX11_hasNight 18 = .ok (.if_icmp .gt 18, 3) := by decide +kernel
theorem dX11_hasNight_21 : decode cX11_hasNight 21 = .ok (.iload_n 2, 1) := by decide +kernel
theorem dX11_hasNight_22 : decode cX11_hasNight 22 = .ok (.iconst 1, 1) := by decide +kernel
theorem dX11_hasNight_23 : decode cX11_hasNight 23 = .ok (.if_icmp .lt 13, 3) := by decide +kernel
theorem dX11_hasNight_26 : decode cX11_hasNight 26 = .ok (.iload_n 2, 1) := by decide +kernel
theorem dX11_hasNight_27 : decode cX11_hasNight 27 = .ok (.bipush 100, 2) := by decide +kernel
theorem dX11_hasNight_29 : decode cX11_hasNight 29 = .ok (.if_icmp .gt 7, 3) := by decide +kernel
theorem dX11_hasNight_32 : decode cX11_hasNight 32 = .ok (.iconst 1, 1) := by decide +kernel
theorem dX11_hasNight_33 : decode cX11_hasNight 33 = .ok (.goto 4, 3) := by decide +kernel
theorem dX11_hasNight_36 : decode cX11_hasNight 36 = .ok (.iconst 0, 1) := by decide +kernel
theorem dX11_hasNight_37 : decode cX11_hasNight 37 = .ok (.ireturn, 1) := by decide +kernel
set_option maxRecDepth 20000 in
theorem ggX11_plainFloor_X1_lay : GoodIn wsX11_plainFloor wsX1_lay := goodIn_r _ [8, 9, 10, 11, 12, 13, 7, 14, 15, 16, 17, 18, 19, 20, 21, 22, 23, 24, 25, 26, 27, 28, 29, 30, 31, 32, 33, 34, 35, 36, 37, 38, 39, 40, 41, 42, 43, 60, 61, 62, 63, 64, 65, 66, 67, 68, 69, 70, 71, 72, 73, 74, 75, 76, 77, 78, 79, 80, 81, 82] (by decide +kernel) (by decide +kernel)
set_option maxRecDepth 20000 in
theorem gX11_plainFloor_X1_lay : GoodIn wsX11_plainFloor (wsV RX11 208 RX1 yX1_lay wsX1_lay) := goodIn_app (goodIn_of _ (by decide +kernel)) ggX11_plainFloor_X1_lay
theorem dX11_plainFloor_0 : decode cX11_plainFloor 0 = .ok (.aload_n 0, 1) := by decide +kernel
theorem dX11_plainFloor_1 : decode cX11_plainFloor 1 = .ok (.getfield 49, 3) := by decide +kernel
theorem dX11_plainFloor_4 : decode cX11_plainFloor 4 = .ok (.ifCond .ne 20, 3) := by decide +kernel
theorem dX11_plainFloor_7 : decode cX11_plainFloor 7 = .ok (.aload_n 0, 1) := by decide +kernel
theorem dX11_plainFloor_8 : decode cX11_plainFloor 8 = .ok (.getfield 42, 3) := by decide +kernel
theorem dX11_plainFloor_11 : decode cX11_plainFloor 11 = .ok (.aload_n 0, 1) := by decide +kernel
theorem dX11_plainFloor_12 : decode cX11_plainFloor 12 = .ok (.getfield 24, 3) := by decide +kernel
theorem dX11_plainFloor_15 : decode cX11_plainFloor 15 = .ok (.iconst (-1), 1) := by decide +kernel
theorem dX11_plainFloor_16 : decode cX11_plainFloor 16 = .ok (.invokevirtual 208, 3) := by decide +kernel
theorem dX11_plainFloor_19 : decode cX11_plainFloor 19 = .ok (.aload_n 0, 1) := by decide +kernel
theorem dX11_plainFloor_20 : decode cX11_plainFloor 20 = .ok (.iconst 1, 1) := by decide +kernel
theorem dX11_plainFloor_21 : decode cX11_plainFloor 21 = .ok (.putfield 49, 3) := by decide +kernel
theorem dX11_plainFloor_24 : decode cX11_plainFloor 24 = .ok (.aload_n 0, 1) := by decide +kernel
theorem dX11_plainFloor_25 : decode cX11_plainFloor 25 = .ok (.getfield 42, 3) := by decide +kernel
theorem dX11_plainFloor_28 : decode cX11_plainFloor 28 = .ok (.areturn, 1) := by decide +kernel
set_option maxRecDepth 20000 in
theorem ggX11_listenTo_X0_stands : GoodIn wsX11_listenTo wsX0_stands := goodIn_r _ [9, 10, 112, 113, 114, 115, 116, 117, 118, 119, 120, 121, 122, 123, 124, 125, 126, 127, 128] (by decide +kernel) (by decide +kernel)
set_option maxRecDepth 20000 in
theorem gX11_listenTo_X0_stands : GoodIn wsX11_listenTo (wsV RX11 125 RX0 yX0_stands wsX0_stands) := goodIn_app (goodIn_of _ (by decide +kernel)) ggX11_listenTo_X0_stands
set_option maxRecDepth 20000 in
theorem ggX11_listenTo_X11_isSide : GoodIn wsX11_listenTo wsX11_isSide := goodIn_r _ [14, 15, 16, 13, 17] (by decide +kernel) (by decide +kernel)
set_option maxRecDepth 20000 in
theorem gX11_listenTo_X11_isSide : GoodIn wsX11_listenTo (va_wsS RX11 129 yX11_isSide wsX11_isSide) := goodIn_app (goodIn_of _ (by decide +kernel)) ggX11_listenTo_X11_isSide
set_option maxRecDepth 20000 in
theorem ggX11_listenTo_X7_refusalOfHeard : GoodIn wsX11_listenTo wsX7_refusalOfHeard := goodIn_r _ [22, 23, 24, 25, 26, 21, 27, 16, 13, 17, 28, 29, 30, 31, 32, 33, 34, 35, 36, 37, 38, 39, 40, 41, 42, 43, 44, 109, 110, 111] (by decide +kernel) (by decide +kernel)
set_option maxRecDepth 20000 in
theorem gX11_listenTo_X7_refusalOfHeard : GoodIn wsX11_listenTo (wsV RX11 438 RX7 yX7_refusalOfHeard wsX7_refusalOfHeard) := goodIn_app (goodIn_of _ (by decide +kernel)) ggX11_listenTo_X7_refusalOfHeard
set_option maxRecDepth 20000 in
theorem ggX11_listenTo_X3_begin : GoodIn wsX11_listenTo wsX3_begin := goodIn_r _ [49, 50, 51, 52, 53, 54, 55, 56, 57, 58, 59, 60, 61, 62, 63, 64, 65, 66, 67, 68, 69, 70, 71, 13, 72, 73, 74, 75, 76, 112, 113, 114, 115, 116, 117, 118, 119, 120, 121, 122, 123, 124, 125, 126, 127, 128, 129, 130, 131, 132, 133, 134, 135, 136, 137, 138, 139, 140] (by decide +kernel) (by decide +kernel)
set_option maxRecDepth 20000 in
theorem gX11_listenTo_X3_begin : GoodIn wsX11_listenTo (wsV RX11 441 RX3 yX3_begin wsX3_begin) := goodIn_app (goodIn_of _ (by decide +kernel)) ggX11_listenTo_X3_begin
set_option maxRecDepth 20000 in
theorem ggX11_listenTo_X7_at : GoodIn wsX11_listenTo wsX7_at := goodIn_r _ [35, 36, 109, 110, 111] (by decide +kernel) (by decide +kernel)
set_option maxRecDepth 20000 in
theorem gX11_listenTo_X7_at : GoodIn wsX11_listenTo (wsV RX11 444 RX7 yX7_at wsX7_at) := goodIn_app (goodIn_of _ (by decide +kernel)) ggX11_listenTo_X7_at
set_option maxRecDepth 20000 in
theorem ggX11_listenTo_X3_hear : GoodIn wsX11_listenTo wsX3_hear := goodIn_r _ [81, 51, 66, 60, 61, 82, 83, 84, 85, 62, 86, 87, 88, 63, 89, 90, 91, 48, 92, 55, 53, 71, 13, 72, 73, 74, 75, 76, 129, 130, 131, 132, 133, 134, 135, 136, 137, 138, 139, 140] (by decide +kernel) (by decide +kernel)
set_option maxRecDepth 20000 in
theorem gX11_listenTo_X3_hear : GoodIn wsX11_listenTo (wsV RX11 447 RX3 yX3_hear wsX3_hear) := goodIn_app (goodIn_of _ (by decide +kernel)) ggX11_listenTo_X3_hear
theorem dX11_listenTo_0 : decode cX11_listenTo 0 = .ok (.aload_n 0, 1) := by decide +kernel
theorem dX11_listenTo_1 : decode cX11_listenTo 1 = .ok (.getfield 24, 3) := by decide +kernel
theorem dX11_listenTo_4 : decode cX11_listenTo 4 = .ok (.invokevirtual 125, 3) := by decide +kernel
theorem dX11_listenTo_7 : decode cX11_listenTo 7 = .ok (.ifCond .eq 10, 3) := by decide +kernel
theorem dX11_listenTo_10 : decode cX11_listenTo 10 = .ok (.iload_n 2, 1) := by decide +kernel
theorem dX11_listenTo_11 : decode cX11_listenTo 11 = .ok (.invokestatic 129, 3) := by decide +kernel
theorem dX11_listenTo_14 : decode cX11_listenTo 14 = .ok (.ifCond .ne 6, 3) := by decide +kernel
theorem dX11_listenTo_17 : decode cX11_listenTo 17 = .ok (.bipush (-2), 2) := by decide +kernel
theorem dX11_listenTo_19 : decode cX11_listenTo 19 = .ok (.ireturn, 1) := by decide +kernel
theorem dX11_listenTo_20 : decode cX11_listenTo 20 = .ok (.aload_n 0, 1) := by decide +kernel
theorem dX11_listenTo_21 : decode cX11_listenTo 21 = .ok (.getfield 98, 3) := by decide +kernel
theorem dX11_listenTo_24 : decode cX11_listenTo 24 = .ok (.iload_n 1, 1) := by decide +kernel
theorem dX11_listenTo_25 : decode cX11_listenTo 25 = .ok (.invokevirtual 438, 3) := by decide +kernel
theorem dX11_listenTo_28 : decode cX11_listenTo 28 = .ok (.istore_n 3, 1) := by decide +kernel
theorem dX11_listenTo_29 : decode cX11_listenTo 29 = .ok (.iload_n 3, 1) := by decide +kernel
theorem dX11_listenTo_30 : decode cX11_listenTo 30 = .ok (.ifCond .ge 5, 3) := by decide +kernel
theorem dX11_listenTo_33 : decode cX11_listenTo 33 = .ok (.iload_n 3, 1) := by decide +kernel
theorem dX11_listenTo_34 : decode cX11_listenTo 34 = .ok (.ireturn, 1) := by decide +kernel
theorem dX11_listenTo_35 : decode cX11_listenTo 35 = .ok (.aload_n 0, 1) := by decide +kernel
theorem dX11_listenTo_36 : decode cX11_listenTo 36 = .ok (.getfield 63, 3) := by decide +kernel
theorem dX11_listenTo_39 : decode cX11_listenTo 39 = .ok (.aload_n 0, 1) := by decide +kernel
theorem dX11_listenTo_40 : decode cX11_listenTo 40 = .ok (.getfield 24, 3) := by decide +kernel
theorem dX11_listenTo_43 : decode cX11_listenTo 43 = .ok (.iconst 1, 1) := by decide +kernel
theorem dX11_listenTo_44 : decode cX11_listenTo 44 = .ok (.iload_n 2, 1) := by decide +kernel
theorem dX11_listenTo_45 : decode cX11_listenTo 45 = .ok (.isub, 1) := by decide +kernel
theorem dX11_listenTo_46 : decode cX11_listenTo 46 = .ok (.invokevirtual 441, 3) := by decide +kernel
theorem dX11_listenTo_49 : decode cX11_listenTo 49 = .ok (.iconst 0, 1) := by decide +kernel
theorem dX11_listenTo_50 : decode cX11_listenTo 50 = .ok (.istore 4, 2) := by decide +kernel
theorem dX11_listenTo_52 : decode cX11_listenTo 52 = .ok (.iload 4, 2) := by decide +kernel
theorem dX11_listenTo_54 : decode cX11_listenTo 54 = .ok (.iconst 1, 1) := by decide +kernel
theorem dX11_listenTo_55 : decode cX11_listenTo 55 = .ok (.iadd, 1) := by decide +kernel
theorem dX11_listenTo_56 : decode cX11_listenTo 56 = .ok (.aload_n 0, 1) := by decide +kernel
theorem dX11_listenTo_57 : decode cX11_listenTo 57 = .ok (.getfield 98, 3) := by decide +kernel
theorem dX11_listenTo_60 : decode cX11_listenTo 60 = .ok (.getfield 419, 3) := by decide +kernel
theorem dX11_listenTo_63 : decode cX11_listenTo 63 = .ok (.iload_n 1, 1) := by decide +kernel
theorem dX11_listenTo_64 : decode cX11_listenTo 64 = .ok (.iaload, 1) := by decide +kernel
theorem dX11_listenTo_65 : decode cX11_listenTo 65 = .ok (.if_icmp .ge 40, 3) := by decide +kernel
theorem dX11_listenTo_68 : decode cX11_listenTo 68 = .ok (.aload_n 0, 1) := by decide +kernel
theorem dX11_listenTo_69 : decode cX11_listenTo 69 = .ok (.getfield 63, 3) := by decide +kernel
theorem dX11_listenTo_72 : decode cX11_listenTo 72 = .ok (.aload_n 0, 1) := by decide +kernel
theorem dX11_listenTo_73 : decode cX11_listenTo 73 = .ok (.getfield 98, 3) := by decide +kernel
theorem dX11_listenTo_76 : decode cX11_listenTo 76 = .ok (.iload_n 1, 1) := by decide +kernel
theorem dX11_listenTo_77 : decode cX11_listenTo 77 = .ok (.iload 4, 2) := by decide +kernel
theorem dX11_listenTo_79 : decode cX11_listenTo 79 = .ok (.invokevirtual 444, 3) := by decide +kernel
theorem dX11_listenTo_82 : decode cX11_listenTo 82 = .ok (.l2i, 1) := by decide +kernel
theorem dX11_listenTo_83 : decode cX11_listenTo 83 = .ok (.aload_n 0, 1) := by decide +kernel
theorem dX11_listenTo_84 : decode cX11_listenTo 84 = .ok (.getfield 98, 3) := by decide +kernel
theorem dX11_listenTo_87 : decode cX11_listenTo 87 = .ok (.iload_n 1, 1) := by decide +kernel
theorem dX11_listenTo_88 : decode cX11_listenTo 88 = .ok (.iload 4, 2) := by decide +kernel
theorem dX11_listenTo_90 : decode cX11_listenTo 90 = .ok (.iconst 1, 1) := by decide +kernel
theorem dX11_listenTo_91 : decode cX11_listenTo 91 = .ok (.iadd, 1) := by decide +kernel
theorem dX11_listenTo_92 : decode cX11_listenTo 92 = .ok (.invokevirtual 444, 3) := by decide +kernel
theorem dX11_listenTo_95 : decode cX11_listenTo 95 = .ok (.l2i, 1) := by decide +kernel
theorem dX11_listenTo_96 : decode cX11_listenTo 96 = .ok (.invokevirtual 447, 3) := by decide +kernel
theorem dX11_listenTo_99 : decode cX11_listenTo 99 = .ok (.iinc 4 2, 3) := by decide +kernel
theorem dX11_listenTo_102 : decode cX11_listenTo 102 = .ok (.goto (-50), 3) := by decide +kernel
theorem dX11_listenTo_105 : decode cX11_listenTo 105 = .ok (.iconst 0, 1) := by decide +kernel
theorem dX11_listenTo_106 : decode cX11_listenTo 106 = .ok (.ireturn, 1) := by decide +kernel
