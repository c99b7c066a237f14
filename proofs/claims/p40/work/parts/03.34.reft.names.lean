abbrev cX12_isSet : ByteArray := prog_14_method_111_code
def yX12_isSet : MethodName := ⟨RX12, "isSet", "(I)Z"⟩
abbrev cX12_againOf : ByteArray := prog_14_method_112_code
def yX12_againOf : MethodName := ⟨RX12, "againOf", "(I)J"⟩
abbrev cX12_togetherOf : ByteArray := prog_14_method_113_code
def yX12_togetherOf : MethodName := ⟨RX12, "togetherOf", "(II)J"⟩
abbrev cX12_together : ByteArray := prog_14_method_114_code
def yX12_together : MethodName := ⟨RX12, "together", "(II)J"⟩
abbrev cX12_again : ByteArray := prog_14_method_115_code
def yX12_again : MethodName := ⟨RX12, "again", "(I)J"⟩
abbrev cX12_chorusOf : ByteArray := prog_14_method_116_code
def yX12_chorusOf : MethodName := ⟨RX12, "chorusOf", "()I"⟩
abbrev cX12_most : ByteArray := prog_14_method_117_code
def yX12_most : MethodName := ⟨RX12, "most", "()I"⟩
abbrev cX12_chorus : ByteArray := prog_14_method_118_code
def yX12_chorus : MethodName := ⟨RX12, "chorus", "()I"⟩
abbrev cX12_treaties : ByteArray := prog_14_method_119_code
def yX12_treaties : MethodName := ⟨RX12, "treaties", "()I"⟩
abbrev cX12_leads : ByteArray := prog_14_method_120_code
def yX12_leads : MethodName := ⟨RX12, "leads", "(I)I"⟩
abbrev cX12_laysGame : ByteArray := prog_14_method_123_code
def yX12_laysGame : MethodName := ⟨RX12, "laysGame", "()V"⟩
abbrev cX12_power : ByteArray := prog_14_method_126_code
def yX12_power : MethodName := ⟨RX12, "power", "(JI)J"⟩
abbrev cX12_part : ByteArray := prog_14_method_127_code
def yX12_part : MethodName := ⟨RX12, "part", "(JJI)J"⟩
abbrev cX12_isRain : ByteArray := prog_14_method_128_code
def yX12_isRain : MethodName := ⟨RX12, "isRain", "(II)Z"⟩
abbrev cX12_dry : ByteArray := prog_14_method_129_code
def yX12_dry : MethodName := ⟨RX12, "dry", "(II)J"⟩
abbrev cX12_wet : ByteArray := prog_14_method_130_code
def yX12_wet : MethodName := ⟨RX12, "wet", "(III)J"⟩
abbrev cX12_isBelow : ByteArray := prog_14_method_131_code
def yX12_isBelow : MethodName := ⟨RX12, "isBelow", "(I)Z"⟩
abbrev cX12_draws : ByteArray := prog_14_method_132_code
def yX12_draws : MethodName := ⟨RX12, "draws", "(JI)V"⟩
abbrev cX12_slips : ByteArray := prog_14_method_133_code
def yX12_slips : MethodName := ⟨RX12, "slips", "(I)I"⟩
abbrev cX12_isDraw : ByteArray := prog_14_method_134_code
def yX12_isDraw : MethodName := ⟨RX12, "isDraw", "(II)Z"⟩
abbrev cX12_drawn : ByteArray := prog_14_method_135_code
def yX12_drawn : MethodName := ⟨RX12, "drawn", "(III)I"⟩
abbrev cX12_nights : ByteArray := prog_14_method_136_code
def yX12_nights : MethodName := ⟨RX12, "nights", "(III)I"⟩
def wsX12_isSet : List Cond := .code yX12_isSet cX12_isSet 2 (some .boolean) :: ([.fieldLink RX12 34 "OverHillModel" "has" "[I", .methodLink RX12 254 yX12_isDance, .instanceMethod yX12_isDance, .selects RX12 yX12_isDance yX12_isDance, .initialized RX12, .code yX12_isDance cX12_isDance 1 (some .boolean), .fieldLink RX12 31 "OverHillModel" "lines" "[I", .methodLink RX12 85 yX12_in, .static yX12_in, .code yX12_in cX12_in 6 (some .boolean)] ++ wsX120)
def wsX12_againOf : List Cond := .code yX12_againOf cX12_againOf 5 (some .long) :: ([.fieldLink RX12 34 "OverHillModel" "has" "[I", .fieldLink RX12 53 "OverHillModel" "tune" "[I", .methodLink RX12 280 yX12_isBit, .static yX12_isBit, .initialized RX12, .code yX12_isBit cX12_isBit 2 (some .boolean), .methodLink RX12 318 yX12_commonLong, .static yX12_commonLong, .code yX12_commonLong cX12_commonLong 4 (some .long)] ++ wsX120)
def wsX12_togetherOf : List Cond := .code yX12_togetherOf cX12_togetherOf 9 (some .long) :: ([.fieldLink RX12 34 "OverHillModel" "has" "[I", .fieldLink RX12 53 "OverHillModel" "tune" "[I", .constantLong RX12 124 (-1), .methodLink RX12 280 yX12_isBit, .static yX12_isBit, .initialized RX12, .code yX12_isBit cX12_isBit 2 (some .boolean), .methodLink RX12 318 yX12_commonLong, .static yX12_commonLong, .code yX12_commonLong cX12_commonLong 4 (some .long)] ++ wsX120)
def wsX12_together_r1 : List Cond := [Cond.fieldLink RX12 80 "OverHillModel" "thrown" "I", Cond.constantLong RX12 398 (-2), Cond.methodLink RX12 391 yX12_isSet, Cond.instanceMethod yX12_isSet, Cond.selects RX12 yX12_isSet yX12_isSet, Cond.initialized RX12, Cond.code yX12_isSet cX12_isSet 2 (some .boolean), Cond.fieldLink RX12 34 "OverHillModel" "has" "[I", Cond.methodLink RX12 254 yX12_isDance, Cond.instanceMethod yX12_isDance, Cond.selects RX12 yX12_isDance yX12_isDance, Cond.code yX12_isDance cX12_isDance 1 (some .boolean), Cond.fieldLink RX12 31 "OverHillModel" "lines" "[I", Cond.methodLink RX12 85 yX12_in, Cond.static yX12_in, Cond.code yX12_in cX12_in 6 (some .boolean), Cond.methodLink RX12 270 yX12_isBeat, Cond.static yX12_isBeat, Cond.code yX12_isBeat cX12_isBeat 2 (some .boolean), Cond.constantLong RX12 257 (199), Cond.methodLink RX12 394 yX12_togetherOf, Cond.instanceMethod yX12_togetherOf, Cond.selects RX12 yX12_togetherOf yX12_togetherOf, Cond.code yX12_togetherOf cX12_togetherOf 9 (some .long)]
def wsX12_together_r2 : List Cond := [Cond.fieldLink RX12 53 "OverHillModel" "tune" "[I", Cond.constantLong RX12 124 (-1), Cond.methodLink RX12 280 yX12_isBit, Cond.static yX12_isBit, Cond.code yX12_isBit cX12_isBit 2 (some .boolean), Cond.methodLink RX12 318 yX12_commonLong, Cond.static yX12_commonLong, Cond.code yX12_commonLong cX12_commonLong 4 (some .long)]
def wsX12_together : List Cond := .code yX12_together cX12_together 3 (some .long) :: ((wsX12_together_r1 ++ wsX12_together_r2) ++ wsX120)
def wsX12_again_r1 : List Cond := [Cond.fieldLink RX12 80 "OverHillModel" "thrown" "I", Cond.constantLong RX12 398 (-2), Cond.methodLink RX12 391 yX12_isSet, Cond.instanceMethod yX12_isSet, Cond.selects RX12 yX12_isSet yX12_isSet, Cond.initialized RX12, Cond.code yX12_isSet cX12_isSet 2 (some .boolean), Cond.fieldLink RX12 34 "OverHillModel" "has" "[I", Cond.methodLink RX12 254 yX12_isDance, Cond.instanceMethod yX12_isDance, Cond.selects RX12 yX12_isDance yX12_isDance, Cond.code yX12_isDance cX12_isDance 1 (some .boolean), Cond.fieldLink RX12 31 "OverHillModel" "lines" "[I", Cond.methodLink RX12 85 yX12_in, Cond.static yX12_in, Cond.code yX12_in cX12_in 6 (some .boolean), Cond.methodLink RX12 400 yX12_againOf, Cond.instanceMethod yX12_againOf, Cond.selects RX12 yX12_againOf yX12_againOf, Cond.code yX12_againOf cX12_againOf 5 (some .long), Cond.fieldLink RX12 53 "OverHillModel" "tune" "[I", Cond.methodLink RX12 280 yX12_isBit, Cond.static yX12_isBit, Cond.code yX12_isBit cX12_isBit 2 (some .boolean)]
def wsX12_again_r2 : List Cond := [Cond.methodLink RX12 318 yX12_commonLong, Cond.static yX12_commonLong, Cond.code yX12_commonLong cX12_commonLong 4 (some .long)]
def wsX12_again : List Cond := .code yX12_again cX12_again 2 (some .long) :: ((wsX12_again_r1 ++ wsX12_again_r2) ++ wsX120)
def wsX12_chorusOf : List Cond := .code yX12_chorusOf cX12_chorusOf 3 (some .int) :: ([.fieldLink RX12 34 "OverHillModel" "has" "[I", .constantLong RX12 124 (-1), .methodLink RX12 404 yX12_sizeOf, .static yX12_sizeOf, .initialized RX12, .code yX12_sizeOf cX12_sizeOf 3 (some .int), .methodLink RX12 394 yX12_togetherOf, .instanceMethod yX12_togetherOf, .selects RX12 yX12_togetherOf yX12_togetherOf, .code yX12_togetherOf cX12_togetherOf 9 (some .long), .fieldLink RX12 53 "OverHillModel" "tune" "[I", .methodLink RX12 280 yX12_isBit, .static yX12_isBit, .code yX12_isBit cX12_isBit 2 (some .boolean), .methodLink RX12 318 yX12_commonLong, .static yX12_commonLong, .code yX12_commonLong cX12_commonLong 4 (some .long)] ++ wsX120)
def wsX12_most_r1 : List Cond := [Cond.fieldLink RX12 80 "OverHillModel" "thrown" "I", Cond.methodLink RX12 254 yX12_isDance, Cond.instanceMethod yX12_isDance, Cond.selects RX12 yX12_isDance yX12_isDance, Cond.initialized RX12, Cond.code yX12_isDance cX12_isDance 1 (some .boolean), Cond.fieldLink RX12 31 "OverHillModel" "lines" "[I", Cond.methodLink RX12 407 yX12_chorusOf, Cond.instanceMethod yX12_chorusOf, Cond.selects RX12 yX12_chorusOf yX12_chorusOf, Cond.code yX12_chorusOf cX12_chorusOf 3 (some .int), Cond.fieldLink RX12 34 "OverHillModel" "has" "[I", Cond.constantLong RX12 124 (-1), Cond.methodLink RX12 404 yX12_sizeOf, Cond.static yX12_sizeOf, Cond.code yX12_sizeOf cX12_sizeOf 3 (some .int), Cond.methodLink RX12 394 yX12_togetherOf, Cond.instanceMethod yX12_togetherOf, Cond.selects RX12 yX12_togetherOf yX12_togetherOf, Cond.code yX12_togetherOf cX12_togetherOf 9 (some .long), Cond.fieldLink RX12 53 "OverHillModel" "tune" "[I", Cond.methodLink RX12 280 yX12_isBit, Cond.static yX12_isBit, Cond.code yX12_isBit cX12_isBit 2 (some .boolean)]
def wsX12_most_r2 : List Cond := [Cond.methodLink RX12 318 yX12_commonLong, Cond.static yX12_commonLong, Cond.code yX12_commonLong cX12_commonLong 4 (some .long)]
def wsX12_most : List Cond := .code yX12_most cX12_most 1 (some .int) :: ((wsX12_most_r1 ++ wsX12_most_r2) ++ wsX120)
def wsX12_chorus_r1 : List Cond := [Cond.fieldLink RX12 80 "OverHillModel" "thrown" "I", Cond.methodLink RX12 254 yX12_isDance, Cond.instanceMethod yX12_isDance, Cond.selects RX12 yX12_isDance yX12_isDance, Cond.initialized RX12, Cond.code yX12_isDance cX12_isDance 1 (some .boolean), Cond.fieldLink RX12 31 "OverHillModel" "lines" "[I", Cond.methodLink RX12 407 yX12_chorusOf, Cond.instanceMethod yX12_chorusOf, Cond.selects RX12 yX12_chorusOf yX12_chorusOf, Cond.code yX12_chorusOf cX12_chorusOf 3 (some .int), Cond.fieldLink RX12 34 "OverHillModel" "has" "[I", Cond.constantLong RX12 124 (-1), Cond.methodLink RX12 404 yX12_sizeOf, Cond.static yX12_sizeOf, Cond.code yX12_sizeOf cX12_sizeOf 3 (some .int), Cond.methodLink RX12 394 yX12_togetherOf, Cond.instanceMethod yX12_togetherOf, Cond.selects RX12 yX12_togetherOf yX12_togetherOf, Cond.code yX12_togetherOf cX12_togetherOf 9 (some .long), Cond.fieldLink RX12 53 "OverHillModel" "tune" "[I", Cond.methodLink RX12 280 yX12_isBit, Cond.static yX12_isBit, Cond.code yX12_isBit cX12_isBit 2 (some .boolean)]
def wsX12_chorus_r2 : List Cond := [Cond.methodLink RX12 318 yX12_commonLong, Cond.static yX12_commonLong, Cond.code yX12_commonLong cX12_commonLong 4 (some .long)]
def wsX12_chorus : List Cond := .code yX12_chorus cX12_chorus 1 (some .int) :: ((wsX12_chorus_r1 ++ wsX12_chorus_r2) ++ wsX120)
def wsX12_treaties : List Cond := .code yX12_treaties cX12_treaties 4 (some .int) :: ([.fieldLink RX12 80 "OverHillModel" "thrown" "I", .fieldLink RX12 40 "OverHillModel" "meets" "[I", .methodLink RX12 254 yX12_isDance, .instanceMethod yX12_isDance, .selects RX12 yX12_isDance yX12_isDance, .initialized RX12, .code yX12_isDance cX12_isDance 1 (some .boolean), .fieldLink RX12 31 "OverHillModel" "lines" "[I", .methodLink RX12 280 yX12_isBit, .static yX12_isBit, .code yX12_isBit cX12_isBit 2 (some .boolean)] ++ wsX120)
def wsX12_leads : List Cond := .code yX12_leads cX12_leads 4 (some .int) :: ([.fieldLink RX12 80 "OverHillModel" "thrown" "I", .fieldLink RX12 40 "OverHillModel" "meets" "[I", .methodLink RX12 254 yX12_isDance, .instanceMethod yX12_isDance, .selects RX12 yX12_isDance yX12_isDance, .initialized RX12, .code yX12_isDance cX12_isDance 1 (some .boolean), .fieldLink RX12 31 "OverHillModel" "lines" "[I", .methodLink RX12 85 yX12_in, .static yX12_in, .code yX12_in cX12_in 6 (some .boolean), .methodLink RX12 404 yX12_sizeOf, .static yX12_sizeOf, .code yX12_sizeOf cX12_sizeOf 3 (some .int)] ++ wsX120)
def wsX12_laysGame : List Cond := .code yX12_laysGame cX12_laysGame 2 none :: ([.fieldLink RX12 77 "OverHillModel" "wins" "[I"] ++ wsX120)
def wsX12_power : List Cond := .code yX12_power cX12_power 6 (some .long) :: ([])
def wsX12_part : List Cond := .code yX12_part cX12_part 5 (some .long) :: ([.methodLink RX12 318 yX12_commonLong, .static yX12_commonLong, .initialized RX12, .code yX12_commonLong cX12_commonLong 4 (some .long)])
def wsX12_isRain : List Cond := .code yX12_isRain cX12_isRain 3 (some .boolean) :: ([.constantLong RX12 419 (9), .methodLink RX12 254 yX12_isDance, .instanceMethod yX12_isDance, .selects RX12 yX12_isDance yX12_isDance, .initialized RX12, .code yX12_isDance cX12_isDance 1 (some .boolean), .fieldLink RX12 31 "OverHillModel" "lines" "[I", .methodLink RX12 85 yX12_in, .static yX12_in, .code yX12_in cX12_in 6 (some .boolean)] ++ wsX120)
def wsX12_dry_r1 : List Cond := [Cond.fieldLink RX12 80 "OverHillModel" "thrown" "I", Cond.constantLong RX12 424 (100), Cond.fieldLink RX12 34 "OverHillModel" "has" "[I", Cond.constantLong RX12 398 (-2), Cond.methodLink RX12 421 yX12_isRain, Cond.instanceMethod yX12_isRain, Cond.selects RX12 yX12_isRain yX12_isRain, Cond.initialized RX12, Cond.code yX12_isRain cX12_isRain 3 (some .boolean), Cond.constantLong RX12 419 (9), Cond.methodLink RX12 254 yX12_isDance, Cond.instanceMethod yX12_isDance, Cond.selects RX12 yX12_isDance yX12_isDance, Cond.code yX12_isDance cX12_isDance 1 (some .boolean), Cond.fieldLink RX12 31 "OverHillModel" "lines" "[I", Cond.methodLink RX12 85 yX12_in, Cond.static yX12_in, Cond.code yX12_in cX12_in 6 (some .boolean), Cond.methodLink RX12 426 yX12_power, Cond.static yX12_power, Cond.code yX12_power cX12_power 6 (some .long), Cond.methodLink RX12 429 yX12_part, Cond.static yX12_part, Cond.code yX12_part cX12_part 5 (some .long)]
def wsX12_dry_r2 : List Cond := [Cond.methodLink RX12 318 yX12_commonLong, Cond.static yX12_commonLong, Cond.code yX12_commonLong cX12_commonLong 4 (some .long)]
def wsX12_dry : List Cond := .code yX12_dry cX12_dry 3 (some .long) :: ((wsX12_dry_r1 ++ wsX12_dry_r2) ++ wsX120)
def wsX12_wet_r1 : List Cond := [Cond.fieldLink RX12 80 "OverHillModel" "thrown" "I", Cond.constantLong RX12 398 (-2), Cond.fieldLink RX12 34 "OverHillModel" "has" "[I", Cond.constantLong RX12 424 (100), Cond.methodLink RX12 421 yX12_isRain, Cond.instanceMethod yX12_isRain, Cond.selects RX12 yX12_isRain yX12_isRain, Cond.initialized RX12, Cond.code yX12_isRain cX12_isRain 3 (some .boolean), Cond.constantLong RX12 419 (9), Cond.methodLink RX12 254 yX12_isDance, Cond.instanceMethod yX12_isDance, Cond.selects RX12 yX12_isDance yX12_isDance, Cond.code yX12_isDance cX12_isDance 1 (some .boolean), Cond.fieldLink RX12 31 "OverHillModel" "lines" "[I", Cond.methodLink RX12 85 yX12_in, Cond.static yX12_in, Cond.code yX12_in cX12_in 6 (some .boolean), Cond.methodLink RX12 426 yX12_power, Cond.static yX12_power, Cond.code yX12_power cX12_power 6 (some .long), Cond.methodLink RX12 429 yX12_part, Cond.static yX12_part, Cond.code yX12_part cX12_part 5 (some .long)]
def wsX12_wet_r2 : List Cond := [Cond.methodLink RX12 318 yX12_commonLong, Cond.static yX12_commonLong, Cond.code yX12_commonLong cX12_commonLong 4 (some .long)]
def wsX12_wet : List Cond := .code yX12_wet cX12_wet 7 (some .long) :: ((wsX12_wet_r1 ++ wsX12_wet_r2) ++ wsX120)
def wsX12_isBelow : List Cond := .code yX12_isBelow cX12_isBelow 2 (some .boolean) :: ([.constantLong RX12 433 (1103515245), .fieldLink RX12 435 "OverHillModel" "drawnNow" "J", .constantLong RX12 438 (12345), .constantLong RX12 440 (2147483648), .constantLong RX12 442 (65536), .constantLong RX12 424 (100)] ++ wsX120)
def wsX12_slips : List Cond := .code yX12_slips cX12_slips 2 (some .int) :: ([.fieldLink RX12 34 "OverHillModel" "has" "[I", .fieldLink RX12 453 "OverHillModel" "nightSlips" "I", .methodLink RX12 456 yX12_isBelow, .instanceMethod yX12_isBelow, .selects RX12 yX12_isBelow yX12_isBelow, .initialized RX12, .code yX12_isBelow cX12_isBelow 2 (some .boolean), .constantLong RX12 433 (1103515245), .fieldLink RX12 435 "OverHillModel" "drawnNow" "J", .constantLong RX12 438 (12345), .constantLong RX12 440 (2147483648), .constantLong RX12 442 (65536), .constantLong RX12 424 (100)] ++ wsX120)
def wsX12_draws_r1 : List Cond := [Cond.fieldLink RX12 435 "OverHillModel" "drawnNow" "J", Cond.fieldLink RX12 444 "OverHillModel" "nightHoles" "I", Cond.fieldLink RX12 447 "OverHillModel" "nightFirst" "I", Cond.fieldLink RX12 450 "OverHillModel" "nightMud" "I", Cond.fieldLink RX12 453 "OverHillModel" "nightSlips" "I", Cond.fieldLink RX12 34 "OverHillModel" "has" "[I", Cond.fieldLink RX12 68 "OverHillModel" "danced" "[I", Cond.fieldLink RX12 37 "OverHillModel" "round" "[I", Cond.methodLink RX12 456 yX12_isBelow, Cond.instanceMethod yX12_isBelow, Cond.selects RX12 yX12_isBelow yX12_isBelow, Cond.initialized RX12, Cond.code yX12_isBelow cX12_isBelow 2 (some .boolean), Cond.constantLong RX12 433 (1103515245), Cond.constantLong RX12 438 (12345), Cond.constantLong RX12 440 (2147483648), Cond.constantLong RX12 442 (65536), Cond.constantLong RX12 424 (100), Cond.methodLink RX12 264 yX12_lengthOf, Cond.instanceMethod yX12_lengthOf, Cond.selects RX12 yX12_lengthOf yX12_lengthOf, Cond.code yX12_lengthOf cX12_lengthOf 2 (some .int), Cond.methodLink RX12 459 yX12_slips, Cond.instanceMethod yX12_slips]
def wsX12_draws_r2 : List Cond := [Cond.selects RX12 yX12_slips yX12_slips, Cond.code yX12_slips cX12_slips 2 (some .int), Cond.methodLink RX12 293 yX12_isHole, Cond.instanceMethod yX12_isHole, Cond.selects RX12 yX12_isHole yX12_isHole, Cond.code yX12_isHole cX12_isHole 3 (some .boolean), Cond.methodLink RX12 284 yX12_hearsAt, Cond.instanceMethod yX12_hearsAt, Cond.selects RX12 yX12_hearsAt yX12_hearsAt, Cond.code yX12_hearsAt cX12_hearsAt 3 (some .int), Cond.methodLink RX12 287 yX12_clashes, Cond.instanceMethod yX12_clashes, Cond.selects RX12 yX12_clashes yX12_clashes, Cond.code yX12_clashes cX12_clashes 3 (some .boolean), Cond.fieldLink RX12 40 "OverHillModel" "meets" "[I", Cond.methodLink RX12 280 yX12_isBit, Cond.static yX12_isBit, Cond.code yX12_isBit cX12_isBit 2 (some .boolean)]
def wsX12_draws : List Cond := .code yX12_draws cX12_draws 8 none :: ((wsX12_draws_r1 ++ wsX12_draws_r2) ++ wsX120)
def wsX12_isDraw : List Cond := .code yX12_isDraw cX12_isDraw 3 (some .boolean) :: ([.constantLong RX12 462 (2000000000), .constantLong RX12 424 (100), .methodLink RX12 254 yX12_isDance, .instanceMethod yX12_isDance, .selects RX12 yX12_isDance yX12_isDance, .initialized RX12, .code yX12_isDance cX12_isDance 1 (some .boolean), .fieldLink RX12 31 "OverHillModel" "lines" "[I", .methodLink RX12 85 yX12_in, .static yX12_in, .code yX12_in cX12_in 6 (some .boolean)] ++ wsX120)
def wsX12_drawn_r1 : List Cond := [Cond.fieldLink RX12 80 "OverHillModel" "thrown" "I", Cond.constantLong RX12 83 (3), Cond.fieldLink RX12 444 "OverHillModel" "nightHoles" "I", Cond.fieldLink RX12 447 "OverHillModel" "nightFirst" "I", Cond.fieldLink RX12 450 "OverHillModel" "nightMud" "I", Cond.fieldLink RX12 453 "OverHillModel" "nightSlips" "I", Cond.methodLink RX12 464 yX12_isDraw, Cond.instanceMethod yX12_isDraw, Cond.selects RX12 yX12_isDraw yX12_isDraw, Cond.initialized RX12, Cond.code yX12_isDraw cX12_isDraw 3 (some .boolean), Cond.constantLong RX12 462 (2000000000), Cond.constantLong RX12 424 (100), Cond.methodLink RX12 254 yX12_isDance, Cond.instanceMethod yX12_isDance, Cond.selects RX12 yX12_isDance yX12_isDance, Cond.code yX12_isDance cX12_isDance 1 (some .boolean), Cond.fieldLink RX12 31 "OverHillModel" "lines" "[I", Cond.methodLink RX12 85 yX12_in, Cond.static yX12_in, Cond.code yX12_in cX12_in 6 (some .boolean), Cond.methodLink RX12 467 yX12_draws, Cond.instanceMethod yX12_draws, Cond.selects RX12 yX12_draws yX12_draws]
def wsX12_drawn_r2 : List Cond := [Cond.code yX12_draws cX12_draws 8 none, Cond.fieldLink RX12 435 "OverHillModel" "drawnNow" "J", Cond.fieldLink RX12 34 "OverHillModel" "has" "[I", Cond.fieldLink RX12 68 "OverHillModel" "danced" "[I", Cond.fieldLink RX12 37 "OverHillModel" "round" "[I", Cond.methodLink RX12 456 yX12_isBelow, Cond.instanceMethod yX12_isBelow, Cond.selects RX12 yX12_isBelow yX12_isBelow, Cond.code yX12_isBelow cX12_isBelow 2 (some .boolean), Cond.constantLong RX12 433 (1103515245), Cond.constantLong RX12 438 (12345), Cond.constantLong RX12 440 (2147483648), Cond.constantLong RX12 442 (65536), Cond.methodLink RX12 264 yX12_lengthOf, Cond.instanceMethod yX12_lengthOf, Cond.selects RX12 yX12_lengthOf yX12_lengthOf, Cond.code yX12_lengthOf cX12_lengthOf 2 (some .int), Cond.methodLink RX12 459 yX12_slips, Cond.instanceMethod yX12_slips, Cond.selects RX12 yX12_slips yX12_slips, Cond.code yX12_slips cX12_slips 2 (some .int), Cond.methodLink RX12 293 yX12_isHole, Cond.instanceMethod yX12_isHole, Cond.selects RX12 yX12_isHole yX12_isHole]
def wsX12_drawn_r3 : List Cond := [Cond.code yX12_isHole cX12_isHole 3 (some .boolean), Cond.methodLink RX12 284 yX12_hearsAt, Cond.instanceMethod yX12_hearsAt, Cond.selects RX12 yX12_hearsAt yX12_hearsAt, Cond.code yX12_hearsAt cX12_hearsAt 3 (some .int), Cond.methodLink RX12 287 yX12_clashes, Cond.instanceMethod yX12_clashes, Cond.selects RX12 yX12_clashes yX12_clashes, Cond.code yX12_clashes cX12_clashes 3 (some .boolean), Cond.fieldLink RX12 40 "OverHillModel" "meets" "[I", Cond.methodLink RX12 280 yX12_isBit, Cond.static yX12_isBit, Cond.code yX12_isBit cX12_isBit 2 (some .boolean)]
def wsX12_drawn : List Cond := .code yX12_drawn cX12_drawn 4 (some .int) :: ((wsX12_drawn_r1 ++ (wsX12_drawn_r2 ++ wsX12_drawn_r3)) ++ wsX120)
def wsX12_nights_r1 : List Cond := [Cond.fieldLink RX12 80 "OverHillModel" "thrown" "I", Cond.constantLong RX12 471 (20), Cond.fieldLink RX12 444 "OverHillModel" "nightHoles" "I", Cond.methodLink RX12 464 yX12_isDraw, Cond.instanceMethod yX12_isDraw, Cond.selects RX12 yX12_isDraw yX12_isDraw, Cond.initialized RX12, Cond.code yX12_isDraw cX12_isDraw 3 (some .boolean), Cond.constantLong RX12 462 (2000000000), Cond.constantLong RX12 424 (100), Cond.methodLink RX12 254 yX12_isDance, Cond.instanceMethod yX12_isDance, Cond.selects RX12 yX12_isDance yX12_isDance, Cond.code yX12_isDance cX12_isDance 1 (some .boolean), Cond.fieldLink RX12 31 "OverHillModel" "lines" "[I", Cond.methodLink RX12 85 yX12_in, Cond.static yX12_in, Cond.code yX12_in cX12_in 6 (some .boolean), Cond.methodLink RX12 467 yX12_draws, Cond.instanceMethod yX12_draws, Cond.selects RX12 yX12_draws yX12_draws, Cond.code yX12_draws cX12_draws 8 none, Cond.fieldLink RX12 435 "OverHillModel" "drawnNow" "J", Cond.fieldLink RX12 447 "OverHillModel" "nightFirst" "I"]
def wsX12_nights_r2 : List Cond := [Cond.fieldLink RX12 450 "OverHillModel" "nightMud" "I", Cond.fieldLink RX12 453 "OverHillModel" "nightSlips" "I", Cond.fieldLink RX12 34 "OverHillModel" "has" "[I", Cond.fieldLink RX12 68 "OverHillModel" "danced" "[I", Cond.fieldLink RX12 37 "OverHillModel" "round" "[I", Cond.methodLink RX12 456 yX12_isBelow, Cond.instanceMethod yX12_isBelow, Cond.selects RX12 yX12_isBelow yX12_isBelow, Cond.code yX12_isBelow cX12_isBelow 2 (some .boolean), Cond.constantLong RX12 433 (1103515245), Cond.constantLong RX12 438 (12345), Cond.constantLong RX12 440 (2147483648), Cond.constantLong RX12 442 (65536), Cond.methodLink RX12 264 yX12_lengthOf, Cond.instanceMethod yX12_lengthOf, Cond.selects RX12 yX12_lengthOf yX12_lengthOf, Cond.code yX12_lengthOf cX12_lengthOf 2 (some .int), Cond.methodLink RX12 459 yX12_slips, Cond.instanceMethod yX12_slips, Cond.selects RX12 yX12_slips yX12_slips, Cond.code yX12_slips cX12_slips 2 (some .int), Cond.methodLink RX12 293 yX12_isHole, Cond.instanceMethod yX12_isHole, Cond.selects RX12 yX12_isHole yX12_isHole]
def wsX12_nights_r3 : List Cond := [Cond.code yX12_isHole cX12_isHole 3 (some .boolean), Cond.methodLink RX12 284 yX12_hearsAt, Cond.instanceMethod yX12_hearsAt, Cond.selects RX12 yX12_hearsAt yX12_hearsAt, Cond.code yX12_hearsAt cX12_hearsAt 3 (some .int), Cond.methodLink RX12 287 yX12_clashes, Cond.instanceMethod yX12_clashes, Cond.selects RX12 yX12_clashes yX12_clashes, Cond.code yX12_clashes cX12_clashes 3 (some .boolean), Cond.fieldLink RX12 40 "OverHillModel" "meets" "[I", Cond.methodLink RX12 280 yX12_isBit, Cond.static yX12_isBit, Cond.code yX12_isBit cX12_isBit 2 (some .boolean)]
def wsX12_nights : List Cond := .code yX12_nights cX12_nights 6 (some .int) :: ((wsX12_nights_r1 ++ (wsX12_nights_r2 ++ wsX12_nights_r3)) ++ wsX120)
theorem wrr_wsX12_isSet {i : Nat} {w : Cond} (h : wsX12_isSet[i]? = some w) : w ∈ wsX12_isSet := List.mem_of_getElem? h
theorem wru_wsX12_isSet_wsX120 : ∀ w ∈ wsX120, w ∈ wsX12_isSet := fun w h => (List.mem_cons_of_mem _ (List.mem_append_right _ h))
set_option maxRecDepth 20000 in
theorem ggX12_isSet_X12_isDance : GoodIn wsX12_isSet wsX12_isDance := goodIn_sub (List.forall_mem_cons.mpr ⟨wrr_wsX12_isSet (i := 6) rfl, (List.forall_mem_append.mpr ⟨(List.forall_mem_cons.mpr ⟨wrr_wsX12_isSet (i := 7) rfl, (fun _ h => absurd h List.not_mem_nil)⟩), wru_wsX12_isSet_wsX120⟩)⟩) gw_wsX12_isDance
set_option maxRecDepth 20000 in
theorem gX12_isSet_X12_isDance : GoodIn wsX12_isSet (wsV RX12 254 RX12 yX12_isDance wsX12_isDance) := goodIn_app (goodIn_sub (List.forall_mem_cons.mpr ⟨wrr_wsX12_isSet (i := 2) rfl, (List.forall_mem_cons.mpr ⟨wrr_wsX12_isSet (i := 3) rfl, (List.forall_mem_cons.mpr ⟨wrr_wsX12_isSet (i := 4) rfl, (List.forall_mem_cons.mpr ⟨wrr_wsX12_isSet (i := 5) rfl, (fun _ h => absurd h List.not_mem_nil)⟩)⟩)⟩)⟩) (by decide +kernel)) ggX12_isSet_X12_isDance
set_option maxRecDepth 20000 in
theorem ggX12_isSet_X12_in : GoodIn wsX12_isSet wsX12_in := goodIn_sub (List.forall_mem_cons.mpr ⟨wrr_wsX12_isSet (i := 10) rfl, (fun _ h => absurd h List.not_mem_nil)⟩) gw_wsX12_in
set_option maxRecDepth 20000 in
theorem gX12_isSet_X12_in : GoodIn wsX12_isSet (va_wsS RX12 85 yX12_in wsX12_in) := goodIn_app (goodIn_sub (List.forall_mem_cons.mpr ⟨wrr_wsX12_isSet (i := 8) rfl, (List.forall_mem_cons.mpr ⟨wrr_wsX12_isSet (i := 9) rfl, (List.forall_mem_cons.mpr ⟨wrr_wsX12_isSet (i := 5) rfl, (fun _ h => absurd h List.not_mem_nil)⟩)⟩)⟩) (by decide +kernel)) ggX12_isSet_X12_in
theorem dX12_isSet_0 : decode cX12_isSet 0 = .ok (.aload_n 0, 1) := by decide +kernel
theorem dX12_isSet_1 : decode cX12_isSet 1 = .ok (.invokevirtual 254, 3) := by decide +kernel
theorem dX12_isSet_4 : decode cX12_isSet 4 = .ok (.ifCond .eq 28, 3) := by decide +kernel
theorem dX12_isSet_7 : decode cX12_isSet 7 = .ok (.iload_n 1, 1) := by decide +kernel
theorem dX12_isSet_8 : decode cX12_isSet 8 = .ok (.i2l, 1) := by decide +kernel
theorem dX12_isSet_9 : decode cX12_isSet 9 = .ok (.lconst 0, 1) := by decide +kernel
theorem dX12_isSet_10 : decode cX12_isSet 10 = .ok (.iconst 1, 1) := by decide +kernel
theorem dX12_isSet_11 : decode cX12_isSet 11 = .ok (.aload_n 0, 1) := by decide +kernel
theorem dX12_isSet_12 : decode cX12_isSet 12 = .ok (.getfield 34, 3) := by decide +kernel
theorem dX12_isSet_15 : decode cX12_isSet 15 = .ok (.bipush 9, 2) := by decide +kernel
theorem dX12_isSet_17 : decode cX12_isSet 17 = .ok (.iaload, 1) := by decide +kernel
theorem dX12_isSet_18 : decode cX12_isSet 18 = .ok (.ishl, 1) := by decide +kernel
theorem dX12_isSet_19 : decode cX12_isSet 19 = .ok (.iconst 1, 1) := by decide +kernel
theorem dX12_isSet_20 : decode cX12_isSet 20 = .ok (.isub, 1) := by decide +kernel
theorem dX12_isSet_21 : decode cX12_isSet 21 = .ok (.i2l, 1) := by decide +kernel
theorem dX12_isSet_22 : decode cX12_isSet 22 = .ok (.invokestatic 85, 3) := by decide +kernel
theorem dX12_isSet_25 : decode cX12_isSet 25 = .ok (.ifCond .eq 7, 3) := by decide +kernel
theorem dX12_isSet_28 : decode cX12_isSet 28 = .ok (.iconst 1, 1) := by decide +kernel
theorem dX12_isSet_29 : decode cX12_isSet 29 = .ok (.goto 4, 3) := by decide +kernel
theorem dX12_isSet_32 : decode cX12_isSet 32 = .ok (.iconst 0, 1) := by decide +kernel
theorem dX12_isSet_33 : decode cX12_isSet 33 = .ok (.ireturn, 1) := by decide +kernel
theorem wrr_wsX12_againOf {i : Nat} {w : Cond} (h : wsX12_againOf[i]? = some w) : w ∈ wsX12_againOf := List.mem_of_getElem? h
theorem wru_wsX12_againOf_wsX120 : ∀ w ∈ wsX120, w ∈ wsX12_againOf := fun w h => (List.mem_cons_of_mem _ (List.mem_append_right _ h))
set_option maxRecDepth 20000 in
theorem ggX12_againOf_X12_isBit : GoodIn wsX12_againOf wsX12_isBit := goodIn_sub (List.forall_mem_cons.mpr ⟨wrr_wsX12_againOf (i := 6) rfl, (fun _ h => absurd h List.not_mem_nil)⟩) gw_wsX12_isBit
set_option maxRecDepth 20000 in
theorem gX12_againOf_X12_isBit : GoodIn wsX12_againOf (va_wsS RX12 280 yX12_isBit wsX12_isBit) := goodIn_app (goodIn_sub (List.forall_mem_cons.mpr ⟨wrr_wsX12_againOf (i := 3) rfl, (List.forall_mem_cons.mpr ⟨wrr_wsX12_againOf (i := 4) rfl, (List.forall_mem_cons.mpr ⟨wrr_wsX12_againOf (i := 5) rfl, (fun _ h => absurd h List.not_mem_nil)⟩)⟩)⟩) (by decide +kernel)) ggX12_againOf_X12_isBit
set_option maxRecDepth 20000 in
theorem ggX12_againOf_X12_commonLong : GoodIn wsX12_againOf wsX12_commonLong := goodIn_sub (List.forall_mem_cons.mpr ⟨wrr_wsX12_againOf (i := 9) rfl, (List.forall_mem_cons.mpr ⟨wrr_wsX12_againOf (i := 7) rfl, (List.forall_mem_cons.mpr ⟨wrr_wsX12_againOf (i := 8) rfl, (List.forall_mem_cons.mpr ⟨wrr_wsX12_againOf (i := 5) rfl, (fun _ h => absurd h List.not_mem_nil)⟩)⟩)⟩)⟩) gw_wsX12_commonLong
set_option maxRecDepth 20000 in
theorem gX12_againOf_X12_commonLong : GoodIn wsX12_againOf (va_wsS RX12 318 yX12_commonLong wsX12_commonLong) := goodIn_app (goodIn_sub (List.forall_mem_cons.mpr ⟨wrr_wsX12_againOf (i := 7) rfl, (List.forall_mem_cons.mpr ⟨wrr_wsX12_againOf (i := 8) rfl, (List.forall_mem_cons.mpr ⟨wrr_wsX12_againOf (i := 5) rfl, (fun _ h => absurd h List.not_mem_nil)⟩)⟩)⟩) (by decide +kernel)) ggX12_againOf_X12_commonLong
theorem dX12_againOf_0 : decode cX12_againOf 0 = .ok (.lconst 1, 1) := by decide +kernel
theorem dX12_againOf_1 : decode cX12_againOf 1 = .ok (.lstore_n 2, 1) := by decide +kernel
theorem dX12_againOf_2 : decode cX12_againOf 2 = .ok (.iconst 0, 1) := by decide +kernel
theorem dX12_againOf_3 : decode cX12_againOf 3 = .ok (.istore 4, 2) := by decide +kernel
theorem dX12_againOf_5 : decode cX12_againOf 5 = .ok (.iload 4, 2) := by decide +kernel
theorem dX12_againOf_7 : decode cX12_againOf 7 = .ok (.aload_n 0, 1) := by decide +kernel
theorem dX12_againOf_8 : decode cX12_againOf 8 = .ok (.getfield 34, 3) := by decide +kernel
theorem dX12_againOf_11 : decode cX12_againOf 11 = .ok (.bipush 9, 2) := by decide +kernel
theorem dX12_againOf_13 : decode cX12_againOf 13 = .ok (.iaload, 1) := by decide +kernel
theorem dX12_againOf_14 : decode cX12_againOf 14 = .ok (.if_icmp .ge 46, 3) := by decide +kernel
theorem dX12_againOf_17 : decode cX12_againOf 17 = .ok (.iload_n 1, 1) := by decide +kernel
theorem dX12_againOf_18 : decode cX12_againOf 18 = .ok (.iload 4, 2) := by decide +kernel
theorem dX12_againOf_20 : decode cX12_againOf 20 = .ok (.invokestatic 280, 3) := by decide +kernel
theorem dX12_againOf_23 : decode cX12_againOf 23 = .ok (.ifCond .eq 31, 3) := by decide +kernel
theorem dX12_againOf_26 : decode cX12_againOf 26 = .ok (.lload_n 2, 1) := by decide +kernel
theorem dX12_againOf_27 : decode cX12_againOf 27 = .ok (.lload_n 2, 1) := by decide +kernel
theorem dX12_againOf_28 : decode cX12_againOf 28 = .ok (.aload_n 0, 1) := by decide +kernel
theorem dX12_againOf_29 : decode cX12_againOf 29 = .ok (.getfield 53, 3) := by decide +kernel
theorem dX12_againOf_32 : decode cX12_againOf 32 = .ok (.iconst 2, 1) := by decide +kernel
theorem dX12_againOf_33 : decode cX12_againOf 33 = .ok (.iload 4, 2) := by decide +kernel
theorem dX12_againOf_35 : decode cX12_againOf 35 = .ok (.imul, 1) := by decide +kernel
theorem dX12_againOf_36 : decode cX12_againOf 36 = .ok (.iaload, 1) := by decide +kernel
theorem dX12_againOf_37 : decode cX12_againOf 37 = .ok (.i2l, 1) := by decide +kernel
theorem dX12_againOf_38 : decode cX12_againOf 38 = .ok (.invokestatic 318, 3) := by decide +kernel
theorem dX12_againOf_41 : decode cX12_againOf 41 = .ok (.ldiv, 1) := by decide +kernel
theorem dX12_againOf_42 : decode cX12_againOf 42 = .ok (.aload_n 0, 1) := by decide +kernel
theorem dX12_againOf_43 : decode cX12_againOf 43 = .ok (.getfield 53, 3) := by decide +kernel
theorem dX12_againOf_46 : decode cX12_againOf 46 = .ok (.iconst 2, 1) := by decide +kernel
theorem dX12_againOf_47 : decode cX12_againOf 47 = .ok (.iload 4, 2) := by decide +kernel
theorem dX12_againOf_49 : decode cX12_againOf 49 = .ok (.imul, 1) := by decide +kernel
theorem dX12_againOf_50 : decode cX12_againOf 50 = .ok (.iaload, 1) := by decide +kernel
theorem dX12_againOf_51 : decode cX12_againOf 51 = .ok (.i2l, 1) := by decide +kernel
theorem dX12_againOf_52 : decode cX12_againOf 52 = .ok (.lmul, 1) := by decide +kernel
theorem dX12_againOf_53 : decode cX12_againOf 53 = .ok (.lstore_n 2, 1) := by decide +kernel
theorem dX12_againOf_54 : decode cX12_againOf 54 = .ok (.iinc 4 1, 3) := by decide +kernel
theorem dX12_againOf_57 : decode cX12_againOf 57 = .ok (.goto (-52), 3) := by decide +kernel
theorem dX12_againOf_60 : decode cX12_againOf 60 = .ok (.lload_n 2, 1) := by decide +kernel
theorem dX12_againOf_61 : decode cX12_againOf 61 = .ok (.lreturn, 1) := by decide +kernel
theorem wrr_wsX12_togetherOf {i : Nat} {w : Cond} (h : wsX12_togetherOf[i]? = some w) : w ∈ wsX12_togetherOf := List.mem_of_getElem? h
theorem wru_wsX12_togetherOf_wsX120 : ∀ w ∈ wsX120, w ∈ wsX12_togetherOf := fun w h => (List.mem_cons_of_mem _ (List.mem_append_right _ h))
set_option maxRecDepth 20000 in
theorem ggX12_togetherOf_X12_isBit : GoodIn wsX12_togetherOf wsX12_isBit := goodIn_sub (List.forall_mem_cons.mpr ⟨wrr_wsX12_togetherOf (i := 7) rfl, (fun _ h => absurd h List.not_mem_nil)⟩) gw_wsX12_isBit
set_option maxRecDepth 20000 in
theorem gX12_togetherOf_X12_isBit : GoodIn wsX12_togetherOf (va_wsS RX12 280 yX12_isBit wsX12_isBit) := goodIn_app (goodIn_sub (List.forall_mem_cons.mpr ⟨wrr_wsX12_togetherOf (i := 4) rfl, (List.forall_mem_cons.mpr ⟨wrr_wsX12_togetherOf (i := 5) rfl, (List.forall_mem_cons.mpr ⟨wrr_wsX12_togetherOf (i := 6) rfl, (fun _ h => absurd h List.not_mem_nil)⟩)⟩)⟩) (by decide +kernel)) ggX12_togetherOf_X12_isBit
set_option maxRecDepth 20000 in
theorem ggX12_togetherOf_X12_commonLong : GoodIn wsX12_togetherOf wsX12_commonLong := goodIn_sub (List.forall_mem_cons.mpr ⟨wrr_wsX12_togetherOf (i := 10) rfl, (List.forall_mem_cons.mpr ⟨wrr_wsX12_togetherOf (i := 8) rfl, (List.forall_mem_cons.mpr ⟨wrr_wsX12_togetherOf (i := 9) rfl, (List.forall_mem_cons.mpr ⟨wrr_wsX12_togetherOf (i := 6) rfl, (fun _ h => absurd h List.not_mem_nil)⟩)⟩)⟩)⟩) gw_wsX12_commonLong
set_option maxRecDepth 20000 in
theorem gX12_togetherOf_X12_commonLong : GoodIn wsX12_togetherOf (va_wsS RX12 318 yX12_commonLong wsX12_commonLong) := goodIn_app (goodIn_sub (List.forall_mem_cons.mpr ⟨wrr_wsX12_togetherOf (i := 8) rfl, (List.forall_mem_cons.mpr ⟨wrr_wsX12_togetherOf (i := 9) rfl, (List.forall_mem_cons.mpr ⟨wrr_wsX12_togetherOf (i := 6) rfl, (fun _ h => absurd h List.not_mem_nil)⟩)⟩)⟩) (by decide +kernel)) ggX12_togetherOf_X12_commonLong
theorem dX12_togetherOf_0 : decode cX12_togetherOf 0 = .ok (.iload_n 2, 1) := by decide +kernel
theorem dX12_togetherOf_1 : decode cX12_togetherOf 1 = .ok (.i2l, 1) := by decide +kernel
theorem dX12_togetherOf_2 : decode cX12_togetherOf 2 = .ok (.lstore_n 3, 1) := by decide +kernel
theorem dX12_togetherOf_3 : decode cX12_togetherOf 3 = .ok (.lconst 1, 1) := by decide +kernel
theorem dX12_togetherOf_4 : decode cX12_togetherOf 4 = .ok (.lstore 5, 2) := by decide +kernel
theorem dX12_togetherOf_6 : decode cX12_togetherOf 6 = .ok (.iconst 0, 1) := by decide +kernel
theorem dX12_togetherOf_7 : decode cX12_togetherOf 7 = .ok (.istore 7, 2) := by decide +kernel
theorem dX12_togetherOf_9 : decode cX12_togetherOf 9 = .ok (.iload 7, 2) := by decide +kernel
theorem dX12_togetherOf_11 : decode cX12_togetherOf 11 = .ok (.aload_n 0, 1) := by decide +kernel
theorem dX12_togetherOf_12 : decode cX12_togetherOf 12 = .ok (.getfield 34, 3) := by decide +kernel
theorem dX12_togetherOf_15 : decode cX12_togetherOf 15 = .ok (.bipush 9, 2) := by decide +kernel
theorem dX12_togetherOf_17 : decode cX12_togetherOf 17 = .ok (.iaload, 1) := by decide +kernel
theorem dX12_togetherOf_18 : decode cX12_togetherOf 18 = .ok (.if_icmp .ge 140, 3) := by decide +kernel
theorem dX12_togetherOf_21 : decode cX12_togetherOf 21 = .ok (.iload_n 1, 1) := by decide +kernel
theorem dX12_togetherOf_22 : decode cX12_togetherOf 22 = .ok (.iload 7, 2) := by decide +kernel
theorem dX12_togetherOf_24 : decode cX12_togetherOf 24 = .ok (.invokestatic 280, 3) := by decide +kernel
theorem dX12_togetherOf_27 : decode cX12_togetherOf 27 = .ok (.ifCond .ne 6, 3) := by decide +kernel
theorem dX12_togetherOf_30 : decode cX12_togetherOf 30 = .ok (.goto 122, 3) := by decide +kernel
theorem dX12_togetherOf_33 : decode cX12_togetherOf 33 = .ok (.iconst 0, 1) := by decide +kernel
theorem dX12_togetherOf_34 : decode cX12_togetherOf 34 = .ok (.istore 8, 2) := by decide +kernel
theorem dX12_togetherOf_36 : decode cX12_togetherOf 36 = .ok (.lload_n 3, 1) := by decide +kernel
theorem dX12_togetherOf_37 : decode cX12_togetherOf 37 = .ok (.aload_n 0, 1) := by decide +kernel
theorem dX12_togetherOf_38 : decode cX12_togetherOf 38 = .ok (.getfield 53, 3) := by decide +kernel
theorem dX12_togetherOf_41 : decode cX12_togetherOf 41 = .ok (.iconst 2, 1) := by decide +kernel
theorem dX12_togetherOf_42 : decode cX12_togetherOf 42 = .ok (.iload 7, 2) := by decide +kernel
theorem dX12_togetherOf_44 : decode cX12_togetherOf 44 = .ok (.imul, 1) := by decide +kernel
theorem dX12_togetherOf_45 : decode cX12_togetherOf 45 = .ok (.iaload, 1) := by decide +kernel
theorem dX12_togetherOf_46 : decode cX12_togetherOf 46 = .ok (.i2l, 1) := by decide +kernel
theorem dX12_togetherOf_47 : decode cX12_togetherOf 47 = .ok (.lrem, 1) := by decide +kernel
theorem dX12_togetherOf_48 : decode cX12_togetherOf 48 = .ok (.aload_n 0, 1) := by decide +kernel
theorem dX12_togetherOf_49 : decode cX12_togetherOf 49 = .ok (.getfield 53, 3) := by decide +kernel
theorem dX12_togetherOf_52 : decode cX12_togetherOf 52 = .ok (.iconst 2, 1) := by decide +kernel
theorem dX12_togetherOf_53 : decode cX12_togetherOf 53 = .ok (.iload 7, 2) := by decide +kernel
theorem dX12_togetherOf_55 : decode cX12_togetherOf 55 = .ok (.imul, 1) := by decide +kernel
theorem dX12_togetherOf_56 : decode cX12_togetherOf 56 = .ok (.iconst 1, 1) := by decide +kernel
theorem dX12_togetherOf_57 : decode cX12_togetherOf 57 = .ok (.iadd, 1) := by decide +kernel
theorem dX12_togetherOf_58 : decode cX12_togetherOf 58 = .ok (.iaload, 1) := by decide +kernel
theorem dX12_togetherOf_59 : decode cX12_togetherOf 59 = .ok (.i2l, 1) := by decide +kernel
theorem dX12_togetherOf_60 : decode cX12_togetherOf 60 = .ok (.lcmp, 1) := by decide +kernel
theorem dX12_togetherOf_61 : decode cX12_togetherOf 61 = .ok (.ifCond .eq 28, 3) := by decide +kernel
theorem dX12_togetherOf_64 : decode cX12_togetherOf 64 = .ok (.iload 8, 2) := by decide +kernel
theorem dX12_togetherOf_66 : decode cX12_togetherOf 66 = .ok (.aload_n 0, 1) := by decide +kernel
theorem dX12_togetherOf_67 : decode cX12_togetherOf 67 = .ok (.getfield 53, 3) := by decide +kernel
theorem dX12_togetherOf_70 : decode cX12_togetherOf 70 = .ok (.iconst 2, 1) := by decide +kernel
theorem dX12_togetherOf_71 : decode cX12_togetherOf 71 = .ok (.iload 7, 2) := by decide +kernel
theorem dX12_togetherOf_73 : decode cX12_togetherOf 73 = .ok (.imul, 1) := by decide +kernel
theorem dX12_togetherOf_74 : decode cX12_togetherOf 74 = .ok (.iaload, 1) := by decide +kernel
theorem dX12_togetherOf_75 : decode cX12_togetherOf 75 = .ok (.if_icmp .ge 14, 3) := by decide +kernel
theorem dX12_togetherOf_78 : decode cX12_togetherOf 78 = .ok (.lload_n 3, 1) := by decide +kernel
theorem dX12_togetherOf_79 : decode cX12_togetherOf 79 = .ok (.lload 5, 2) := by decide +kernel
theorem dX12_togetherOf_81 : decode cX12_togetherOf 81 = .ok (.ladd, 1) := by decide +kernel
theorem dX12_togetherOf_82 : decode cX12_togetherOf 82 = .ok (.lstore_n 3, 1) := by decide +kernel
theorem dX12_togetherOf_83 : decode cX12_togetherOf 83 = .ok (.iinc 8 1, 3) := by decide +kernel
theorem dX12_togetherOf_86 : decode cX12_togetherOf 86 = .ok (.goto (-50), 3) := by decide +kernel
theorem dX12_togetherOf_89 : decode cX12_togetherOf 89 = .ok (.lload_n 3, 1) := by decide +kernel
theorem dX12_togetherOf_90 : decode cX12_togetherOf 90 = .ok (.aload_n 0, 1) := by decide +kernel
theorem dX12_togetherOf_91 : decode cX12_togetherOf 91 = .ok (.getfield 53, 3) := by decide +kernel
theorem dX12_togetherOf_94 : decode cX12_togetherOf 94 = .ok (.iconst 2, 1) := by decide +kernel
theorem dX12_togetherOf_95 : decode cX12_togetherOf 95 = .ok (.iload 7, 2) := by decide +kernel
theorem dX12_togetherOf_97 : decode cX12_togetherOf 97 = .ok (.imul, 1) := by decide +kernel
theorem dX12_togetherOf_98 : decode cX12_togetherOf 98 = .ok (.iaload, 1) := by decide +kernel
theorem dX12_togetherOf_99 : decode cX12_togetherOf 99 = .ok (.i2l, 1) := by decide +kernel
theorem dX12_togetherOf_100 : decode cX12_togetherOf 100 = .ok (.lrem, 1) := by decide +kernel
theorem dX12_togetherOf_101 : decode cX12_togetherOf 101 = .ok (.aload_n 0, 1) := by decide +kernel
theorem dX12_togetherOf_102 : decode cX12_togetherOf 102 = .ok (.getfield 53, 3) := by decide +kernel
theorem dX12_togetherOf_105 : decode cX12_togetherOf 105 = .ok (.iconst 2, 1) := by decide +kernel
theorem dX12_togetherOf_106 : decode cX12_togetherOf 106 = .ok (.iload 7, 2) := by decide +kernel
theorem dX12_togetherOf_108 : decode cX12_togetherOf 108 = .ok (.imul, 1) := by decide +kernel
theorem dX12_togetherOf_109 : decode cX12_togetherOf 109 = .ok (.iconst 1, 1) := by decide +kernel
theorem dX12_togetherOf_110 : decode cX12_togetherOf 110 = .ok (.iadd, 1) := by decide +kernel
theorem dX12_togetherOf_111 : decode cX12_togetherOf 111 = .ok (.iaload, 1) := by decide +kernel
theorem dX12_togetherOf_112 : decode cX12_togetherOf 112 = .ok (.i2l, 1) := by decide +kernel
theorem dX12_togetherOf_113 : decode cX12_togetherOf 113 = .ok (.lcmp, 1) := by decide +kernel
theorem dX12_togetherOf_114 : decode cX12_togetherOf 114 = .ok (.ifCond .eq 7, 3) := by decide +kernel
theorem dX12_togetherOf_117 : decode cX12_togetherOf 117 = .ok (.ldc2_w 124, 3) := by decide +kernel
theorem dX12_togetherOf_120 : decode cX12_togetherOf 120 = .ok (.lreturn, 1) := by decide +kernel
theorem dX12_togetherOf_121 : decode cX12_togetherOf 121 = .ok (.lload 5, 2) := by decide +kernel
theorem dX12_togetherOf_123 : decode cX12_togetherOf 123 = .ok (.lload 5, 2) := by decide +kernel
theorem dX12_togetherOf_125 : decode cX12_togetherOf 125 = .ok (.aload_n 0, 1) := by decide +kernel
theorem dX12_togetherOf_126 : decode cX12_togetherOf 126 = .ok (.getfield 53, 3) := by decide +kernel
theorem dX12_togetherOf_129 : decode cX12_togetherOf 129 = .ok (.iconst 2, 1) := by decide +kernel
theorem dX12_togetherOf_130 : decode cX12_togetherOf 130 = .ok (.iload 7, 2) := by decide +kernel
theorem dX12_togetherOf_132 : decode cX12_togetherOf 132 = .ok (.imul, 1) := by decide +kernel
theorem dX12_togetherOf_133 : decode cX12_togetherOf 133 = .ok (.iaload, 1) := by decide +kernel
theorem dX12_togetherOf_134 : decode cX12_togetherOf 134 = .ok (.i2l, 1) := by decide +kernel
theorem dX12_togetherOf_135 : decode cX12_togetherOf 135 = .ok (.invokestatic 318, 3) := by decide +kernel
theorem dX12_togetherOf_138 : decode cX12_togetherOf 138 = .ok (.ldiv, 1) := by decide +kernel
theorem dX12_togetherOf_139 : decode cX12_togetherOf 139 = .ok (.aload_n 0, 1) := by decide +kernel
theorem dX12_togetherOf_140 : decode cX12_togetherOf 140 = .ok (.getfield 53, 3) := by decide +kernel
theorem dX12_togetherOf_143 : decode cX12_togetherOf 143 = .ok (.iconst 2, 1) := by decide +kernel
theorem dX12_togetherOf_144 : decode cX12_togetherOf 144 = .ok (.iload 7, 2) := by decide +kernel
theorem dX12_togetherOf_146 : decode cX12_togetherOf 146 = .ok (.imul, 1) := by decide +kernel
theorem dX12_togetherOf_147 : decode cX12_togetherOf 147 = .ok (.iaload, 1) := by decide +kernel
theorem dX12_togetherOf_148 : decode cX12_togetherOf 148 = .ok (.i2l, 1) := by decide +kernel
theorem dX12_togetherOf_149 : decode cX12_togetherOf 149 = .ok (.lmul, 1) := by decide +kernel
theorem dX12_togetherOf_150 : decode cX12_togetherOf 150 = .ok (.lstore 5, 2) := by decide +kernel
theorem dX12_togetherOf_152 : decode cX12_togetherOf 152 = .ok (.iinc 7 1, 3) := by decide +kernel
theorem dX12_togetherOf_155 : decode cX12_togetherOf 155 = .ok (.goto (-146), 3) := by decide +kernel
theorem dX12_togetherOf_158 : decode cX12_togetherOf 158 = .ok (.lload_n 3, 1) := by decide +kernel
theorem dX12_togetherOf_159 : decode cX12_togetherOf 159 = .ok (.lreturn, 1) := by decide +kernel
theorem wrr_wsX12_together {i : Nat} {w : Cond} (h : wsX12_together[i]? = some w) : w ∈ wsX12_together := List.mem_of_getElem? h
theorem wrr_wsX12_together_wsX12_together_r1 {i : Nat} {w : Cond} (h : wsX12_together_r1[i]? = some w) : w ∈ wsX12_together := (List.mem_cons_of_mem _ (List.mem_append_left _ (List.mem_append_left _ (List.mem_of_getElem? h))))
theorem wrr_wsX12_together_wsX12_together_r2 {i : Nat} {w : Cond} (h : wsX12_together_r2[i]? = some w) : w ∈ wsX12_together := (List.mem_cons_of_mem _ (List.mem_append_left _ (List.mem_append_right _ (List.mem_of_getElem? h))))
theorem wru_wsX12_together_wsX120 : ∀ w ∈ wsX120, w ∈ wsX12_together := fun w h => (List.mem_cons_of_mem _ (List.mem_append_right _ h))
set_option maxRecDepth 20000 in
theorem gw_wsX12_isSet : wsX12_isSet.all goodWord = true := by decide +kernel
set_option maxRecDepth 20000 in
theorem ggX12_together_X12_isSet : GoodIn wsX12_together wsX12_isSet := goodIn_sub (List.forall_mem_cons.mpr ⟨wrr_wsX12_together_wsX12_together_r1 (i := 6) rfl, (List.forall_mem_append.mpr ⟨(List.forall_mem_cons.mpr ⟨wrr_wsX12_together_wsX12_together_r1 (i := 7) rfl, (List.forall_mem_cons.mpr ⟨wrr_wsX12_together_wsX12_together_r1 (i := 8) rfl, (List.forall_mem_cons.mpr ⟨wrr_wsX12_together_wsX12_together_r1 (i := 9) rfl, (List.forall_mem_cons.mpr ⟨wrr_wsX12_together_wsX12_together_r1 (i := 10) rfl, (List.forall_mem_cons.mpr ⟨wrr_wsX12_together_wsX12_together_r1 (i := 5) rfl, (List.forall_mem_cons.mpr ⟨wrr_wsX12_together_wsX12_together_r1 (i := 11) rfl, (List.forall_mem_cons.mpr ⟨wrr_wsX12_together_wsX12_together_r1 (i := 12) rfl, (List.forall_mem_cons.mpr ⟨wrr_wsX12_together_wsX12_together_r1 (i := 13) rfl, (List.forall_mem_cons.mpr ⟨wrr_wsX12_together_wsX12_together_r1 (i := 14) rfl, (List.forall_mem_cons.mpr ⟨wrr_wsX12_together_wsX12_together_r1 (i := 15) rfl, (fun _ h => absurd h List.not_mem_nil)⟩)⟩)⟩)⟩)⟩)⟩)⟩)⟩)⟩)⟩), wru_wsX12_together_wsX120⟩)⟩) gw_wsX12_isSet
set_option maxRecDepth 20000 in
theorem gX12_together_X12_isSet : GoodIn wsX12_together (wsV RX12 391 RX12 yX12_isSet wsX12_isSet) := goodIn_app (goodIn_sub (List.forall_mem_cons.mpr ⟨wrr_wsX12_together_wsX12_together_r1 (i := 2) rfl, (List.forall_mem_cons.mpr ⟨wrr_wsX12_together_wsX12_together_r1 (i := 3) rfl, (List.forall_mem_cons.mpr ⟨wrr_wsX12_together_wsX12_together_r1 (i := 4) rfl, (List.forall_mem_cons.mpr ⟨wrr_wsX12_together_wsX12_together_r1 (i := 5) rfl, (fun _ h => absurd h List.not_mem_nil)⟩)⟩)⟩)⟩) (by decide +kernel)) ggX12_together_X12_isSet
set_option maxRecDepth 20000 in
theorem ggX12_together_X12_isBeat : GoodIn wsX12_together wsX12_isBeat := goodIn_sub (List.forall_mem_cons.mpr ⟨wrr_wsX12_together_wsX12_together_r1 (i := 18) rfl, (List.forall_mem_cons.mpr ⟨wrr_wsX12_together_wsX12_together_r1 (i := 19) rfl, (List.forall_mem_cons.mpr ⟨wrr_wsX12_together_wsX12_together_r1 (i := 13) rfl, (List.forall_mem_cons.mpr ⟨wrr_wsX12_together_wsX12_together_r1 (i := 14) rfl, (List.forall_mem_cons.mpr ⟨wrr_wsX12_together_wsX12_together_r1 (i := 5) rfl, (List.forall_mem_cons.mpr ⟨wrr_wsX12_together_wsX12_together_r1 (i := 15) rfl, (fun _ h => absurd h List.not_mem_nil)⟩)⟩)⟩)⟩)⟩)⟩) gw_wsX12_isBeat
set_option maxRecDepth 20000 in
theorem gX12_together_X12_isBeat : GoodIn wsX12_together (va_wsS RX12 270 yX12_isBeat wsX12_isBeat) := goodIn_app (goodIn_sub (List.forall_mem_cons.mpr ⟨wrr_wsX12_together_wsX12_together_r1 (i := 16) rfl, (List.forall_mem_cons.mpr ⟨wrr_wsX12_together_wsX12_together_r1 (i := 17) rfl, (List.forall_mem_cons.mpr ⟨wrr_wsX12_together_wsX12_together_r1 (i := 5) rfl, (fun _ h => absurd h List.not_mem_nil)⟩)⟩)⟩) (by decide +kernel)) ggX12_together_X12_isBeat
set_option maxRecDepth 20000 in
theorem gw_wsX12_togetherOf : wsX12_togetherOf.all goodWord = true := by decide +kernel
set_option maxRecDepth 20000 in
theorem ggX12_together_X12_togetherOf : GoodIn wsX12_together wsX12_togetherOf := goodIn_sub (List.forall_mem_cons.mpr ⟨wrr_wsX12_together_wsX12_together_r1 (i := 23) rfl, (List.forall_mem_append.mpr ⟨(List.forall_mem_cons.mpr ⟨wrr_wsX12_together_wsX12_together_r1 (i := 7) rfl, (List.forall_mem_cons.mpr ⟨wrr_wsX12_together_wsX12_together_r2 (i := 0) rfl, (List.forall_mem_cons.mpr ⟨wrr_wsX12_together_wsX12_together_r2 (i := 1) rfl, (List.forall_mem_cons.mpr ⟨wrr_wsX12_together_wsX12_together_r2 (i := 2) rfl, (List.forall_mem_cons.mpr ⟨wrr_wsX12_together_wsX12_together_r2 (i := 3) rfl, (List.forall_mem_cons.mpr ⟨wrr_wsX12_together_wsX12_together_r1 (i := 5) rfl, (List.forall_mem_cons.mpr ⟨wrr_wsX12_together_wsX12_together_r2 (i := 4) rfl, (List.forall_mem_cons.mpr ⟨wrr_wsX12_together_wsX12_together_r2 (i := 5) rfl, (List.forall_mem_cons.mpr ⟨wrr_wsX12_together_wsX12_together_r2 (i := 6) rfl, (List.forall_mem_cons.mpr ⟨wrr_wsX12_together_wsX12_together_r2 (i := 7) rfl, (fun _ h => absurd h List.not_mem_nil)⟩)⟩)⟩)⟩)⟩)⟩)⟩)⟩)⟩)⟩), wru_wsX12_together_wsX120⟩)⟩) gw_wsX12_togetherOf
set_option maxRecDepth 20000 in
theorem gX12_together_X12_togetherOf : GoodIn wsX12_together (wsV RX12 394 RX12 yX12_togetherOf wsX12_togetherOf) := goodIn_app (goodIn_sub (List.forall_mem_cons.mpr ⟨wrr_wsX12_together_wsX12_together_r1 (i := 20) rfl, (List.forall_mem_cons.mpr ⟨wrr_wsX12_together_wsX12_together_r1 (i := 21) rfl, (List.forall_mem_cons.mpr ⟨wrr_wsX12_together_wsX12_together_r1 (i := 22) rfl, (List.forall_mem_cons.mpr ⟨wrr_wsX12_together_wsX12_together_r1 (i := 5) rfl, (fun _ h => absurd h List.not_mem_nil)⟩)⟩)⟩)⟩) (by decide +kernel)) ggX12_together_X12_togetherOf
theorem dX12_together_0 : decode cX12_together 0 = .ok (.aload_n 0, 1) := by decide +kernel
theorem dX12_together_1 : decode cX12_together 1 = .ok (.iconst 0, 1) := by decide +kernel
theorem dX12_together_2 : decode cX12_together 2 = .ok (.putfield 80, 3) := by decide +kernel
theorem dX12_together_5 : decode cX12_together 5 = .ok (.aload_n 0, 1) := by decide +kernel
theorem dX12_together_6 : decode cX12_together 6 = .ok (.iload_n 1, 1) := by decide +kernel
theorem dX12_together_7 : decode cX12_together 7 = .ok (.invokevirtual 391, 3) := by decide +kernel
theorem dX12_together_10 : decode cX12_together 10 = .ok (.ifCond .eq 20, 3) := by decide +kernel
theorem dX12_together_13 : decode cX12_together 13 = .ok (.iload_n 2, 1) := by decide +kernel
theorem dX12_together_14 : decode cX12_together 14 = .ok (.i2l, 1) := by decide +kernel
theorem dX12_together_15 : decode cX12_together 15 = .ok (.invokestatic 270, 3) := by decide +kernel
theorem dX12_together_18 : decode cX12_together 18 = .ok (.ifCond .eq 12, 3) := by decide +kernel
theorem dX12_together_21 : decode cX12_together 21 = .ok (.aload_n 0, 1) := by decide +kernel
theorem dX12_together_22 : decode cX12_together 22 = .ok (.iload_n 1, 1) := by decide +kernel
theorem dX12_together_23 : decode cX12_together 23 = .ok (.iload_n 2, 1) := by decide +kernel
theorem dX12_together_24 : decode cX12_together 24 = .ok (.invokevirtual 394, 3) := by decide +kernel
theorem dX12_together_27 : decode cX12_together 27 = .ok (.goto 6, 3) := by decide +kernel
theorem dX12_together_30 : decode cX12_together 30 = .ok (.ldc2_w 398, 3) := by decide +kernel
theorem dX12_together_33 : decode cX12_together 33 = .ok (.lreturn, 1) := by decide +kernel
theorem wrr_wsX12_again {i : Nat} {w : Cond} (h : wsX12_again[i]? = some w) : w ∈ wsX12_again := List.mem_of_getElem? h
theorem wrr_wsX12_again_wsX12_again_r1 {i : Nat} {w : Cond} (h : wsX12_again_r1[i]? = some w) : w ∈ wsX12_again := (List.mem_cons_of_mem _ (List.mem_append_left _ (List.mem_append_left _ (List.mem_of_getElem? h))))
theorem wrr_wsX12_again_wsX12_again_r2 {i : Nat} {w : Cond} (h : wsX12_again_r2[i]? = some w) : w ∈ wsX12_again := (List.mem_cons_of_mem _ (List.mem_append_left _ (List.mem_append_right _ (List.mem_of_getElem? h))))
theorem wru_wsX12_again_wsX120 : ∀ w ∈ wsX120, w ∈ wsX12_again := fun w h => (List.mem_cons_of_mem _ (List.mem_append_right _ h))
set_option maxRecDepth 20000 in
theorem ggX12_again_X12_isSet : GoodIn wsX12_again wsX12_isSet := goodIn_sub (List.forall_mem_cons.mpr ⟨wrr_wsX12_again_wsX12_again_r1 (i := 6) rfl, (List.forall_mem_append.mpr ⟨(List.forall_mem_cons.mpr ⟨wrr_wsX12_again_wsX12_again_r1 (i := 7) rfl, (List.forall_mem_cons.mpr ⟨wrr_wsX12_again_wsX12_again_r1 (i := 8) rfl, (List.forall_mem_cons.mpr ⟨wrr_wsX12_again_wsX12_again_r1 (i := 9) rfl, (List.forall_mem_cons.mpr ⟨wrr_wsX12_again_wsX12_again_r1 (i := 10) rfl, (List.forall_mem_cons.mpr ⟨wrr_wsX12_again_wsX12_again_r1 (i := 5) rfl, (List.forall_mem_cons.mpr ⟨wrr_wsX12_again_wsX12_again_r1 (i := 11) rfl, (List.forall_mem_cons.mpr ⟨wrr_wsX12_again_wsX12_again_r1 (i := 12) rfl, (List.forall_mem_cons.mpr ⟨wrr_wsX12_again_wsX12_again_r1 (i := 13) rfl, (List.forall_mem_cons.mpr ⟨wrr_wsX12_again_wsX12_again_r1 (i := 14) rfl, (List.forall_mem_cons.mpr ⟨wrr_wsX12_again_wsX12_again_r1 (i := 15) rfl, (fun _ h => absurd h List.not_mem_nil)⟩)⟩)⟩)⟩)⟩)⟩)⟩)⟩)⟩)⟩), wru_wsX12_again_wsX120⟩)⟩) gw_wsX12_isSet
set_option maxRecDepth 20000 in
theorem gX12_again_X12_isSet : GoodIn wsX12_again (wsV RX12 391 RX12 yX12_isSet wsX12_isSet) := goodIn_app (goodIn_sub (List.forall_mem_cons.mpr ⟨wrr_wsX12_again_wsX12_again_r1 (i := 2) rfl, (List.forall_mem_cons.mpr ⟨wrr_wsX12_again_wsX12_again_r1 (i := 3) rfl, (List.forall_mem_cons.mpr ⟨wrr_wsX12_again_wsX12_again_r1 (i := 4) rfl, (List.forall_mem_cons.mpr ⟨wrr_wsX12_again_wsX12_again_r1 (i := 5) rfl, (fun _ h => absurd h List.not_mem_nil)⟩)⟩)⟩)⟩) (by decide +kernel)) ggX12_again_X12_isSet
set_option maxRecDepth 20000 in
theorem gw_wsX12_againOf : wsX12_againOf.all goodWord = true := by decide +kernel
set_option maxRecDepth 20000 in
theorem ggX12_again_X12_againOf : GoodIn wsX12_again wsX12_againOf := goodIn_sub (List.forall_mem_cons.mpr ⟨wrr_wsX12_again_wsX12_again_r1 (i := 19) rfl, (List.forall_mem_append.mpr ⟨(List.forall_mem_cons.mpr ⟨wrr_wsX12_again_wsX12_again_r1 (i := 7) rfl, (List.forall_mem_cons.mpr ⟨wrr_wsX12_again_wsX12_again_r1 (i := 20) rfl, (List.forall_mem_cons.mpr ⟨wrr_wsX12_again_wsX12_again_r1 (i := 21) rfl, (List.forall_mem_cons.mpr ⟨wrr_wsX12_again_wsX12_again_r1 (i := 22) rfl, (List.forall_mem_cons.mpr ⟨wrr_wsX12_again_wsX12_again_r1 (i := 5) rfl, (List.forall_mem_cons.mpr ⟨wrr_wsX12_again_wsX12_again_r1 (i := 23) rfl, (List.forall_mem_cons.mpr ⟨wrr_wsX12_again_wsX12_again_r2 (i := 0) rfl, (List.forall_mem_cons.mpr ⟨wrr_wsX12_again_wsX12_again_r2 (i := 1) rfl, (List.forall_mem_cons.mpr ⟨wrr_wsX12_again_wsX12_again_r2 (i := 2) rfl, (fun _ h => absurd h List.not_mem_nil)⟩)⟩)⟩)⟩)⟩)⟩)⟩)⟩)⟩), wru_wsX12_again_wsX120⟩)⟩) gw_wsX12_againOf
set_option maxRecDepth 20000 in
theorem gX12_again_X12_againOf : GoodIn wsX12_again (wsV RX12 400 RX12 yX12_againOf wsX12_againOf) := goodIn_app (goodIn_sub (List.forall_mem_cons.mpr ⟨wrr_wsX12_again_wsX12_again_r1 (i := 16) rfl, (List.forall_mem_cons.mpr ⟨wrr_wsX12_again_wsX12_again_r1 (i := 17) rfl, (List.forall_mem_cons.mpr ⟨wrr_wsX12_again_wsX12_again_r1 (i := 18) rfl, (List.forall_mem_cons.mpr ⟨wrr_wsX12_again_wsX12_again_r1 (i := 5) rfl, (fun _ h => absurd h List.not_mem_nil)⟩)⟩)⟩)⟩) (by decide +kernel)) ggX12_again_X12_againOf
theorem dX12_again_0 : decode cX12_again 0 = .ok (.aload_n 0, 1) := by decide +kernel
theorem dX12_again_1 : decode cX12_again 1 = .ok (.iconst 0, 1) := by decide +kernel
theorem dX12_again_2 : decode cX12_again 2 = .ok (.putfield 80, 3) := by decide +kernel
theorem dX12_again_5 : decode cX12_again 5 = .ok (.aload_n 0, 1) := by decide +kernel
theorem dX12_again_6 : decode cX12_again 6 = .ok (.iload_n 1, 1) := by decide +kernel
theorem dX12_again_7 : decode cX12_again 7 = .ok (.invokevirtual 391, 3) := by decide +kernel
theorem dX12_again_10 : decode cX12_again 10 = .ok (.ifCond .eq 11, 3) := by decide +kernel
theorem dX12_again_13 : decode cX12_again 13 = .ok (.aload_n 0, 1) := by decide +kernel
theorem dX12_again_14 : decode cX12_again 14 = .ok (.iload_n 1, 1) := by decide +kernel
theorem dX12_again_15 : decode cX12_again 15 = .ok (.invokevirtual 400, 3) := by decide +kernel
theorem dX12_again_18 : decode cX12_again 18 = .ok (.goto 6, 3) := by decide +kernel
theorem dX12_again_21 : decode cX12_again 21 = .ok (.ldc2_w 398, 3) := by decide +kernel
theorem dX12_again_24 : decode cX12_again 24 = .ok (.lreturn, 1) := by decide +kernel
theorem wrr_wsX12_chorusOf {i : Nat} {w : Cond} (h : wsX12_chorusOf[i]? = some w) : w ∈ wsX12_chorusOf := List.mem_of_getElem? h
theorem wru_wsX12_chorusOf_wsX120 : ∀ w ∈ wsX120, w ∈ wsX12_chorusOf := fun w h => (List.mem_cons_of_mem _ (List.mem_append_right _ h))
set_option maxRecDepth 20000 in
theorem gw_wsX12_sizeOf : wsX12_sizeOf.all goodWord = true := by decide +kernel
set_option maxRecDepth 20000 in
theorem ggX12_chorusOf_X12_sizeOf : GoodIn wsX12_chorusOf wsX12_sizeOf := goodIn_sub (List.forall_mem_cons.mpr ⟨wrr_wsX12_chorusOf (i := 6) rfl, (fun _ h => absurd h List.not_mem_nil)⟩) gw_wsX12_sizeOf
set_option maxRecDepth 20000 in
theorem gX12_chorusOf_X12_sizeOf : GoodIn wsX12_chorusOf (va_wsS RX12 404 yX12_sizeOf wsX12_sizeOf) := goodIn_app (goodIn_sub (List.forall_mem_cons.mpr ⟨wrr_wsX12_chorusOf (i := 3) rfl, (List.forall_mem_cons.mpr ⟨wrr_wsX12_chorusOf (i := 4) rfl, (List.forall_mem_cons.mpr ⟨wrr_wsX12_chorusOf (i := 5) rfl, (fun _ h => absurd h List.not_mem_nil)⟩)⟩)⟩) (by decide +kernel)) ggX12_chorusOf_X12_sizeOf
set_option maxRecDepth 20000 in
theorem ggX12_chorusOf_X12_togetherOf : GoodIn wsX12_chorusOf wsX12_togetherOf := goodIn_sub (List.forall_mem_cons.mpr ⟨wrr_wsX12_chorusOf (i := 10) rfl, (List.forall_mem_append.mpr ⟨(List.forall_mem_cons.mpr ⟨wrr_wsX12_chorusOf (i := 1) rfl, (List.forall_mem_cons.mpr ⟨wrr_wsX12_chorusOf (i := 11) rfl, (List.forall_mem_cons.mpr ⟨wrr_wsX12_chorusOf (i := 2) rfl, (List.forall_mem_cons.mpr ⟨wrr_wsX12_chorusOf (i := 12) rfl, (List.forall_mem_cons.mpr ⟨wrr_wsX12_chorusOf (i := 13) rfl, (List.forall_mem_cons.mpr ⟨wrr_wsX12_chorusOf (i := 5) rfl, (List.forall_mem_cons.mpr ⟨wrr_wsX12_chorusOf (i := 14) rfl, (List.forall_mem_cons.mpr ⟨wrr_wsX12_chorusOf (i := 15) rfl, (List.forall_mem_cons.mpr ⟨wrr_wsX12_chorusOf (i := 16) rfl, (List.forall_mem_cons.mpr ⟨wrr_wsX12_chorusOf (i := 17) rfl, (fun _ h => absurd h List.not_mem_nil)⟩)⟩)⟩)⟩)⟩)⟩)⟩)⟩)⟩)⟩), wru_wsX12_chorusOf_wsX120⟩)⟩) gw_wsX12_togetherOf
set_option maxRecDepth 20000 in
theorem gX12_chorusOf_X12_togetherOf : GoodIn wsX12_chorusOf (wsV RX12 394 RX12 yX12_togetherOf wsX12_togetherOf) := goodIn_app (goodIn_sub (List.forall_mem_cons.mpr ⟨wrr_wsX12_chorusOf (i := 7) rfl, (List.forall_mem_cons.mpr ⟨wrr_wsX12_chorusOf (i := 8) rfl, (List.forall_mem_cons.mpr ⟨wrr_wsX12_chorusOf (i := 9) rfl, (List.forall_mem_cons.mpr ⟨wrr_wsX12_chorusOf (i := 5) rfl, (fun _ h => absurd h List.not_mem_nil)⟩)⟩)⟩)⟩) (by decide +kernel)) ggX12_chorusOf_X12_togetherOf
theorem dX12_chorusOf_0 : decode cX12_chorusOf 0 = .ok (.iconst 0, 1) := by decide +kernel
theorem dX12_chorusOf_1 : decode cX12_chorusOf 1 = .ok (.istore_n 1, 1) := by decide +kernel
theorem dX12_chorusOf_2 : decode cX12_chorusOf 2 = .ok (.iconst 1, 1) := by decide +kernel
theorem dX12_chorusOf_3 : decode cX12_chorusOf 3 = .ok (.istore_n 2, 1) := by decide +kernel
theorem dX12_chorusOf_4 : decode cX12_chorusOf 4 = .ok (.iload_n 2, 1) := by decide +kernel
theorem dX12_chorusOf_5 : decode cX12_chorusOf 5 = .ok (.iconst 1, 1) := by decide +kernel
theorem dX12_chorusOf_6 : decode cX12_chorusOf 6 = .ok (.aload_n 0, 1) := by decide +kernel
theorem dX12_chorusOf_7 : decode cX12_chorusOf 7 = .ok (.getfield 34, 3) := by decide +kernel
theorem dX12_chorusOf_10 : decode cX12_chorusOf 10 = .ok (.bipush 9, 2) := by decide +kernel
theorem dX12_chorusOf_12 : decode cX12_chorusOf 12 = .ok (.iaload, 1) := by decide +kernel
theorem dX12_chorusOf_13 : decode cX12_chorusOf 13 = .ok (.ishl, 1) := by decide +kernel
theorem dX12_chorusOf_14 : decode cX12_chorusOf 14 = .ok (.if_icmp .ge 35, 3) := by decide +kernel
theorem dX12_chorusOf_17 : decode cX12_chorusOf 17 = .ok (.iload_n 2, 1) := by decide +kernel
theorem dX12_chorusOf_18 : decode cX12_chorusOf 18 = .ok (.invokestatic 404, 3) := by decide +kernel
theorem dX12_chorusOf_21 : decode cX12_chorusOf 21 = .ok (.iload_n 1, 1) := by decide +kernel
theorem dX12_chorusOf_22 : decode cX12_chorusOf 22 = .ok (.invokestatic 404, 3) := by decide +kernel
theorem dX12_chorusOf_25 : decode cX12_chorusOf 25 = .ok (.if_icmp .le 18, 3) := by decide +kernel
theorem dX12_chorusOf_28 : decode cX12_chorusOf 28 = .ok (.aload_n 0, 1) := by decide +kernel
theorem dX12_chorusOf_29 : decode cX12_chorusOf 29 = .ok (.iload_n 2, 1) := by decide +kernel
theorem dX12_chorusOf_30 : decode cX12_chorusOf 30 = .ok (.iconst 0, 1) := by decide +kernel
theorem dX12_chorusOf_31 : decode cX12_chorusOf 31 = .ok (.invokevirtual 394, 3) := by decide +kernel
theorem dX12_chorusOf_34 : decode cX12_chorusOf 34 = .ok (.ldc2_w 124, 3) := by decide +kernel
theorem dX12_chorusOf_37 : decode cX12_chorusOf 37 = .ok (.lcmp, 1) := by decide +kernel
theorem dX12_chorusOf_38 : decode cX12_chorusOf 38 = .ok (.ifCond .eq 5, 3) := by decide +kernel
theorem dX12_chorusOf_41 : decode cX12_chorusOf 41 = .ok (.iload_n 2, 1) := by decide +kernel
theorem dX12_chorusOf_42 : decode cX12_chorusOf 42 = .ok (.istore_n 1, 1) := by decide +kernel
theorem dX12_chorusOf_43 : decode cX12_chorusOf 43 = .ok (.iinc 2 1, 3) := by decide +kernel
theorem dX12_chorusOf_46 : decode cX12_chorusOf 46 = .ok (.goto (-42), 3) := by decide +kernel
theorem dX12_chorusOf_49 : decode cX12_chorusOf 49 = .ok (.iload_n 1, 1) := by decide +kernel
theorem dX12_chorusOf_50 : decode cX12_chorusOf 50 = .ok (.ireturn, 1) := by decide +kernel
theorem wrr_wsX12_most {i : Nat} {w : Cond} (h : wsX12_most[i]? = some w) : w ∈ wsX12_most := List.mem_of_getElem? h
theorem wrr_wsX12_most_wsX12_most_r1 {i : Nat} {w : Cond} (h : wsX12_most_r1[i]? = some w) : w ∈ wsX12_most := (List.mem_cons_of_mem _ (List.mem_append_left _ (List.mem_append_left _ (List.mem_of_getElem? h))))
theorem wrr_wsX12_most_wsX12_most_r2 {i : Nat} {w : Cond} (h : wsX12_most_r2[i]? = some w) : w ∈ wsX12_most := (List.mem_cons_of_mem _ (List.mem_append_left _ (List.mem_append_right _ (List.mem_of_getElem? h))))
theorem wru_wsX12_most_wsX120 : ∀ w ∈ wsX120, w ∈ wsX12_most := fun w h => (List.mem_cons_of_mem _ (List.mem_append_right _ h))
set_option maxRecDepth 20000 in
theorem ggX12_most_X12_isDance : GoodIn wsX12_most wsX12_isDance := goodIn_sub (List.forall_mem_cons.mpr ⟨wrr_wsX12_most_wsX12_most_r1 (i := 5) rfl, (List.forall_mem_append.mpr ⟨(List.forall_mem_cons.mpr ⟨wrr_wsX12_most_wsX12_most_r1 (i := 6) rfl, (fun _ h => absurd h List.not_mem_nil)⟩), wru_wsX12_most_wsX120⟩)⟩) gw_wsX12_isDance
set_option maxRecDepth 20000 in
theorem gX12_most_X12_isDance : GoodIn wsX12_most (wsV RX12 254 RX12 yX12_isDance wsX12_isDance) := goodIn_app (goodIn_sub (List.forall_mem_cons.mpr ⟨wrr_wsX12_most_wsX12_most_r1 (i := 1) rfl, (List.forall_mem_cons.mpr ⟨wrr_wsX12_most_wsX12_most_r1 (i := 2) rfl, (List.forall_mem_cons.mpr ⟨wrr_wsX12_most_wsX12_most_r1 (i := 3) rfl, (List.forall_mem_cons.mpr ⟨wrr_wsX12_most_wsX12_most_r1 (i := 4) rfl, (fun _ h => absurd h List.not_mem_nil)⟩)⟩)⟩)⟩) (by decide +kernel)) ggX12_most_X12_isDance
set_option maxRecDepth 20000 in
theorem gw_wsX12_chorusOf : wsX12_chorusOf.all goodWord = true := by decide +kernel
set_option maxRecDepth 20000 in
theorem ggX12_most_X12_chorusOf : GoodIn wsX12_most wsX12_chorusOf := goodIn_sub (List.forall_mem_cons.mpr ⟨wrr_wsX12_most_wsX12_most_r1 (i := 10) rfl, (List.forall_mem_append.mpr ⟨(List.forall_mem_cons.mpr ⟨wrr_wsX12_most_wsX12_most_r1 (i := 11) rfl, (List.forall_mem_cons.mpr ⟨wrr_wsX12_most_wsX12_most_r1 (i := 12) rfl, (List.forall_mem_cons.mpr ⟨wrr_wsX12_most_wsX12_most_r1 (i := 13) rfl, (List.forall_mem_cons.mpr ⟨wrr_wsX12_most_wsX12_most_r1 (i := 14) rfl, (List.forall_mem_cons.mpr ⟨wrr_wsX12_most_wsX12_most_r1 (i := 4) rfl, (List.forall_mem_cons.mpr ⟨wrr_wsX12_most_wsX12_most_r1 (i := 15) rfl, (List.forall_mem_cons.mpr ⟨wrr_wsX12_most_wsX12_most_r1 (i := 16) rfl, (List.forall_mem_cons.mpr ⟨wrr_wsX12_most_wsX12_most_r1 (i := 17) rfl, (List.forall_mem_cons.mpr ⟨wrr_wsX12_most_wsX12_most_r1 (i := 18) rfl, (List.forall_mem_cons.mpr ⟨wrr_wsX12_most_wsX12_most_r1 (i := 19) rfl, (List.forall_mem_cons.mpr ⟨wrr_wsX12_most_wsX12_most_r1 (i := 20) rfl, (List.forall_mem_cons.mpr ⟨wrr_wsX12_most_wsX12_most_r1 (i := 21) rfl, (List.forall_mem_cons.mpr ⟨wrr_wsX12_most_wsX12_most_r1 (i := 22) rfl, (List.forall_mem_cons.mpr ⟨wrr_wsX12_most_wsX12_most_r1 (i := 23) rfl, (List.forall_mem_cons.mpr ⟨wrr_wsX12_most_wsX12_most_r2 (i := 0) rfl, (List.forall_mem_cons.mpr ⟨wrr_wsX12_most_wsX12_most_r2 (i := 1) rfl, (List.forall_mem_cons.mpr ⟨wrr_wsX12_most_wsX12_most_r2 (i := 2) rfl, (fun _ h => absurd h List.not_mem_nil)⟩)⟩)⟩)⟩)⟩)⟩)⟩)⟩)⟩)⟩)⟩)⟩)⟩)⟩)⟩)⟩)⟩), wru_wsX12_most_wsX120⟩)⟩) gw_wsX12_chorusOf
set_option maxRecDepth 20000 in
theorem gX12_most_X12_chorusOf : GoodIn wsX12_most (wsV RX12 407 RX12 yX12_chorusOf wsX12_chorusOf) := goodIn_app (goodIn_sub (List.forall_mem_cons.mpr ⟨wrr_wsX12_most_wsX12_most_r1 (i := 7) rfl, (List.forall_mem_cons.mpr ⟨wrr_wsX12_most_wsX12_most_r1 (i := 8) rfl, (List.forall_mem_cons.mpr ⟨wrr_wsX12_most_wsX12_most_r1 (i := 9) rfl, (List.forall_mem_cons.mpr ⟨wrr_wsX12_most_wsX12_most_r1 (i := 4) rfl, (fun _ h => absurd h List.not_mem_nil)⟩)⟩)⟩)⟩) (by decide +kernel)) ggX12_most_X12_chorusOf
set_option maxRecDepth 20000 in
theorem ggX12_most_X12_sizeOf : GoodIn wsX12_most wsX12_sizeOf := goodIn_sub (List.forall_mem_cons.mpr ⟨wrr_wsX12_most_wsX12_most_r1 (i := 15) rfl, (fun _ h => absurd h List.not_mem_nil)⟩) gw_wsX12_sizeOf
set_option maxRecDepth 20000 in
theorem gX12_most_X12_sizeOf : GoodIn wsX12_most (va_wsS RX12 404 yX12_sizeOf wsX12_sizeOf) := goodIn_app (goodIn_sub (List.forall_mem_cons.mpr ⟨wrr_wsX12_most_wsX12_most_r1 (i := 13) rfl, (List.forall_mem_cons.mpr ⟨wrr_wsX12_most_wsX12_most_r1 (i := 14) rfl, (List.forall_mem_cons.mpr ⟨wrr_wsX12_most_wsX12_most_r1 (i := 4) rfl, (fun _ h => absurd h List.not_mem_nil)⟩)⟩)⟩) (by decide +kernel)) ggX12_most_X12_sizeOf
theorem dX12_most_0 : decode cX12_most 0 = .ok (.aload_n 0, 1) := by decide +kernel
theorem dX12_most_1 : decode cX12_most 1 = .ok (.iconst 0, 1) := by decide +kernel
theorem dX12_most_2 : decode cX12_most 2 = .ok (.putfield 80, 3) := by decide +kernel
theorem dX12_most_5 : decode cX12_most 5 = .ok (.aload_n 0, 1) := by decide +kernel
theorem dX12_most_6 : decode cX12_most 6 = .ok (.invokevirtual 254, 3) := by decide +kernel
theorem dX12_most_9 : decode cX12_most 9 = .ok (.ifCond .eq 13, 3) := by decide +kernel
theorem dX12_most_12 : decode cX12_most 12 = .ok (.aload_n 0, 1) := by decide +kernel
theorem dX12_most_13 : decode cX12_most 13 = .ok (.invokevirtual 407, 3) := by decide +kernel
theorem dX12_most_16 : decode cX12_most 16 = .ok (.invokestatic 404, 3) := by decide +kernel
theorem dX12_most_19 : decode cX12_most 19 = .ok (.goto 5, 3) := by decide +kernel
theorem dX12_most_22 : decode cX12_most 22 = .ok (.bipush (-2), 2) := by decide +kernel
theorem dX12_most_24 : decode cX12_most 24 = .ok (.ireturn, 1) := by decide +kernel
theorem wrr_wsX12_chorus {i : Nat} {w : Cond} (h : wsX12_chorus[i]? = some w) : w ∈ wsX12_chorus := List.mem_of_getElem? h
theorem wrr_wsX12_chorus_wsX12_chorus_r1 {i : Nat} {w : Cond} (h : wsX12_chorus_r1[i]? = some w) : w ∈ wsX12_chorus := (List.mem_cons_of_mem _ (List.mem_append_left _ (List.mem_append_left _ (List.mem_of_getElem? h))))
theorem wrr_wsX12_chorus_wsX12_chorus_r2 {i : Nat} {w : Cond} (h : wsX12_chorus_r2[i]? = some w) : w ∈ wsX12_chorus := (List.mem_cons_of_mem _ (List.mem_append_left _ (List.mem_append_right _ (List.mem_of_getElem? h))))
theorem wru_wsX12_chorus_wsX120 : ∀ w ∈ wsX120, w ∈ wsX12_chorus := fun w h => (List.mem_cons_of_mem _ (List.mem_append_right _ h))
set_option maxRecDepth 20000 in
theorem ggX12_chorus_X12_isDance : GoodIn wsX12_chorus wsX12_isDance := goodIn_sub (List.forall_mem_cons.mpr ⟨wrr_wsX12_chorus_wsX12_chorus_r1 (i := 5) rfl, (List.forall_mem_append.mpr ⟨(List.forall_mem_cons.mpr ⟨wrr_wsX12_chorus_wsX12_chorus_r1 (i := 6) rfl, (fun _ h => absurd h List.not_mem_nil)⟩), wru_wsX12_chorus_wsX120⟩)⟩) gw_wsX12_isDance
set_option maxRecDepth 20000 in
theorem gX12_chorus_X12_isDance : GoodIn wsX12_chorus (wsV RX12 254 RX12 yX12_isDance wsX12_isDance) := goodIn_app (goodIn_sub (List.forall_mem_cons.mpr ⟨wrr_wsX12_chorus_wsX12_chorus_r1 (i := 1) rfl, (List.forall_mem_cons.mpr ⟨wrr_wsX12_chorus_wsX12_chorus_r1 (i := 2) rfl, (List.forall_mem_cons.mpr ⟨wrr_wsX12_chorus_wsX12_chorus_r1 (i := 3) rfl, (List.forall_mem_cons.mpr ⟨wrr_wsX12_chorus_wsX12_chorus_r1 (i := 4) rfl, (fun _ h => absurd h List.not_mem_nil)⟩)⟩)⟩)⟩) (by decide +kernel)) ggX12_chorus_X12_isDance
set_option maxRecDepth 20000 in
theorem ggX12_chorus_X12_chorusOf : GoodIn wsX12_chorus wsX12_chorusOf := goodIn_sub (List.forall_mem_cons.mpr ⟨wrr_wsX12_chorus_wsX12_chorus_r1 (i := 10) rfl, (List.forall_mem_append.mpr ⟨(List.forall_mem_cons.mpr ⟨wrr_wsX12_chorus_wsX12_chorus_r1 (i := 11) rfl, (List.forall_mem_cons.mpr ⟨wrr_wsX12_chorus_wsX12_chorus_r1 (i := 12) rfl, (List.forall_mem_cons.mpr ⟨wrr_wsX12_chorus_wsX12_chorus_r1 (i := 13) rfl, (List.forall_mem_cons.mpr ⟨wrr_wsX12_chorus_wsX12_chorus_r1 (i := 14) rfl, (List.forall_mem_cons.mpr ⟨wrr_wsX12_chorus_wsX12_chorus_r1 (i := 4) rfl, (List.forall_mem_cons.mpr ⟨wrr_wsX12_chorus_wsX12_chorus_r1 (i := 15) rfl, (List.forall_mem_cons.mpr ⟨wrr_wsX12_chorus_wsX12_chorus_r1 (i := 16) rfl, (List.forall_mem_cons.mpr ⟨wrr_wsX12_chorus_wsX12_chorus_r1 (i := 17) rfl, (List.forall_mem_cons.mpr ⟨wrr_wsX12_chorus_wsX12_chorus_r1 (i := 18) rfl, (List.forall_mem_cons.mpr ⟨wrr_wsX12_chorus_wsX12_chorus_r1 (i := 19) rfl, (List.forall_mem_cons.mpr ⟨wrr_wsX12_chorus_wsX12_chorus_r1 (i := 20) rfl, (List.forall_mem_cons.mpr ⟨wrr_wsX12_chorus_wsX12_chorus_r1 (i := 21) rfl, (List.forall_mem_cons.mpr ⟨wrr_wsX12_chorus_wsX12_chorus_r1 (i := 22) rfl, (List.forall_mem_cons.mpr ⟨wrr_wsX12_chorus_wsX12_chorus_r1 (i := 23) rfl, (List.forall_mem_cons.mpr ⟨wrr_wsX12_chorus_wsX12_chorus_r2 (i := 0) rfl, (List.forall_mem_cons.mpr ⟨wrr_wsX12_chorus_wsX12_chorus_r2 (i := 1) rfl, (List.forall_mem_cons.mpr ⟨wrr_wsX12_chorus_wsX12_chorus_r2 (i := 2) rfl, (fun _ h => absurd h List.not_mem_nil)⟩)⟩)⟩)⟩)⟩)⟩)⟩)⟩)⟩)⟩)⟩)⟩)⟩)⟩)⟩)⟩)⟩), wru_wsX12_chorus_wsX120⟩)⟩) gw_wsX12_chorusOf
set_option maxRecDepth 20000 in
theorem gX12_chorus_X12_chorusOf : GoodIn wsX12_chorus (wsV RX12 407 RX12 yX12_chorusOf wsX12_chorusOf) := goodIn_app (goodIn_sub (List.forall_mem_cons.mpr ⟨wrr_wsX12_chorus_wsX12_chorus_r1 (i := 7) rfl, (List.forall_mem_cons.mpr ⟨wrr_wsX12_chorus_wsX12_chorus_r1 (i := 8) rfl, (List.forall_mem_cons.mpr ⟨wrr_wsX12_chorus_wsX12_chorus_r1 (i := 9) rfl, (List.forall_mem_cons.mpr ⟨wrr_wsX12_chorus_wsX12_chorus_r1 (i := 4) rfl, (fun _ h => absurd h List.not_mem_nil)⟩)⟩)⟩)⟩) (by decide +kernel)) ggX12_chorus_X12_chorusOf
theorem dX12_chorus_0 : decode cX12_chorus 0 = .ok (.aload_n 0, 1) := by decide +kernel
theorem dX12_chorus_1 : decode cX12_chorus 1 = .ok (.iconst 0, 1) := by decide +kernel
theorem dX12_chorus_2 : decode cX12_chorus 2 = .ok (.putfield 80, 3) := by decide +kernel
theorem dX12_chorus_5 : decode cX12_chorus 5 = .ok (.aload_n 0, 1) := by decide +kernel
theorem dX12_chorus_6 : decode cX12_chorus 6 = .ok (.invokevirtual 254, 3) := by decide +kernel
theorem dX12_chorus_9 : decode cX12_chorus 9 = .ok (.ifCond .eq 10, 3) := by decide +kernel
theorem dX12_chorus_12 : decode cX12_chorus 12 = .ok (.aload_n 0, 1) := by decide +kernel
theorem dX12_chorus_13 : decode cX12_chorus 13 = .ok (.invokevirtual 407, 3) := by decide +kernel
theorem dX12_chorus_16 : decode cX12_chorus 16 = .ok (.goto 5, 3) := by decide +kernel
theorem dX12_chorus_19 : decode cX12_chorus 19 = .ok (.bipush (-2), 2) := by decide +kernel
theorem dX12_chorus_21 : decode cX12_chorus 21 = .ok (.ireturn, 1) := by decide +kernel
theorem wrr_wsX12_treaties {i : Nat} {w : Cond} (h : wsX12_treaties[i]? = some w) : w ∈ wsX12_treaties := List.mem_of_getElem? h
theorem wru_wsX12_treaties_wsX120 : ∀ w ∈ wsX120, w ∈ wsX12_treaties := fun w h => (List.mem_cons_of_mem _ (List.mem_append_right _ h))
set_option maxRecDepth 20000 in
theorem ggX12_treaties_X12_isDance : GoodIn wsX12_treaties wsX12_isDance := goodIn_sub (List.forall_mem_cons.mpr ⟨wrr_wsX12_treaties (i := 7) rfl, (List.forall_mem_append.mpr ⟨(List.forall_mem_cons.mpr ⟨wrr_wsX12_treaties (i := 8) rfl, (fun _ h => absurd h List.not_mem_nil)⟩), wru_wsX12_treaties_wsX120⟩)⟩) gw_wsX12_isDance
set_option maxRecDepth 20000 in
theorem gX12_treaties_X12_isDance : GoodIn wsX12_treaties (wsV RX12 254 RX12 yX12_isDance wsX12_isDance) := goodIn_app (goodIn_sub (List.forall_mem_cons.mpr ⟨wrr_wsX12_treaties (i := 3) rfl, (List.forall_mem_cons.mpr ⟨wrr_wsX12_treaties (i := 4) rfl, (List.forall_mem_cons.mpr ⟨wrr_wsX12_treaties (i := 5) rfl, (List.forall_mem_cons.mpr ⟨wrr_wsX12_treaties (i := 6) rfl, (fun _ h => absurd h List.not_mem_nil)⟩)⟩)⟩)⟩) (by decide +kernel)) ggX12_treaties_X12_isDance
set_option maxRecDepth 20000 in
theorem ggX12_treaties_X12_isBit : GoodIn wsX12_treaties wsX12_isBit := goodIn_sub (List.forall_mem_cons.mpr ⟨wrr_wsX12_treaties (i := 11) rfl, (fun _ h => absurd h List.not_mem_nil)⟩) gw_wsX12_isBit
set_option maxRecDepth 20000 in
theorem gX12_treaties_X12_isBit : GoodIn wsX12_treaties (va_wsS RX12 280 yX12_isBit wsX12_isBit) := goodIn_app (goodIn_sub (List.forall_mem_cons.mpr ⟨wrr_wsX12_treaties (i := 9) rfl, (List.forall_mem_cons.mpr ⟨wrr_wsX12_treaties (i := 10) rfl, (List.forall_mem_cons.mpr ⟨wrr_wsX12_treaties (i := 6) rfl, (fun _ h => absurd h List.not_mem_nil)⟩)⟩)⟩) (by decide +kernel)) ggX12_treaties_X12_isBit
theorem dX12_treaties_0 : decode cX12_treaties 0 = .ok (.aload_n 0, 1) := by decide +kernel
theorem dX12_treaties_1 : decode cX12_treaties 1 = .ok (.iconst 0, 1) := by decide +kernel
theorem dX12_treaties_2 : decode cX12_treaties 2 = .ok (.putfield 80, 3) := by decide +kernel
theorem dX12_treaties_5 : decode cX12_treaties 5 = .ok (.aload_n 0, 1) := by decide +kernel
theorem dX12_treaties_6 : decode cX12_treaties 6 = .ok (.invokevirtual 254, 3) := by decide +kernel
theorem dX12_treaties_9 : decode cX12_treaties 9 = .ok (.ifCond .ne 6, 3) := by decide +kernel
theorem dX12_treaties_12 : decode cX12_treaties 12 = .ok (.bipush (-2), 2) := by decide +kernel
theorem dX12_treaties_14 : decode cX12_treaties 14 = .ok (.ireturn, 1) := by decide +kernel
theorem dX12_treaties_15 : decode cX12_treaties 15 = .ok (.iconst 0, 1) := by decide +kernel
theorem dX12_treaties_16 : decode cX12_treaties 16 = .ok (.istore_n 1, 1) := by decide +kernel
theorem dX12_treaties_17 : decode cX12_treaties 17 = .ok (.iconst 0, 1) := by decide +kernel
theorem dX12_treaties_18 : decode cX12_treaties 18 = .ok (.istore_n 2, 1) := by decide +kernel
theorem dX12_treaties_19 : decode cX12_treaties 19 = .ok (.iload_n 2, 1) := by decide +kernel
theorem dX12_treaties_20 : decode cX12_treaties 20 = .ok (.bipush 6, 2) := by decide +kernel
theorem dX12_treaties_22 : decode cX12_treaties 22 = .ok (.if_icmp .ge 57, 3) := by decide +kernel
theorem dX12_treaties_25 : decode cX12_treaties 25 = .ok (.iconst 0, 1) := by decide +kernel
theorem dX12_treaties_26 : decode cX12_treaties 26 = .ok (.istore_n 3, 1) := by decide +kernel
theorem dX12_treaties_27 : decode cX12_treaties 27 = .ok (.iload_n 3, 1) := by decide +kernel
theorem dX12_treaties_28 : decode cX12_treaties 28 = .ok (.bipush 6, 2) := by decide +kernel
theorem dX12_treaties_30 : decode cX12_treaties 30 = .ok (.if_icmp .ge 43, 3) := by decide +kernel
theorem dX12_treaties_33 : decode cX12_treaties 33 = .ok (.iload_n 1, 1) := by decide +kernel
theorem dX12_treaties_34 : decode cX12_treaties 34 = .ok (.aload_n 0, 1) := by decide +kernel
theorem dX12_treaties_35 : decode cX12_treaties 35 = .ok (.getfield 40, 3) := by decide +kernel
theorem dX12_treaties_38 : decode cX12_treaties 38 = .ok (.iload_n 2, 1) := by decide +kernel
theorem dX12_treaties_39 : decode cX12_treaties 39 = .ok (.iaload, 1) := by decide +kernel
theorem dX12_treaties_40 : decode cX12_treaties 40 = .ok (.iload_n 3, 1) := by decide +kernel
theorem dX12_treaties_41 : decode cX12_treaties 41 = .ok (.invokestatic 280, 3) := by decide +kernel
theorem dX12_treaties_44 : decode cX12_treaties 44 = .ok (.ifCond .eq 20, 3) := by decide +kernel
theorem dX12_treaties_47 : decode cX12_treaties 47 = .ok (.aload_n 0, 1) := by decide +kernel
theorem dX12_treaties_48 : decode cX12_treaties 48 = .ok (.getfield 40, 3) := by decide +kernel
theorem dX12_treaties_51 : decode cX12_treaties 51 = .ok (.iload_n 3, 1) := by decide +kernel
theorem dX12_treaties_52 : decode cX12_treaties 52 = .ok (.iaload, 1) := by decide +kernel
theorem dX12_treaties_53 : decode cX12_treaties 53 = .ok (.iload_n 2, 1) := by decide +kernel
theorem dX12_treaties_54 : decode cX12_treaties 54 = .ok (.invokestatic 280, 3) := by decide +kernel
theorem dX12_treaties_57 : decode cX12_treaties 57 = .ok (.ifCond .eq 7, 3) := by decide +kernel
theorem dX12_treaties_60 : decode cX12_treaties 60 = .ok (.iconst 1, 1) := by decide +kernel
theorem dX12_treaties_61 : decode cX12_treaties 61 = .ok (.goto 4, 3) := by decide +kernel
theorem dX12_treaties_64 : decode cX12_treaties 64 = .ok (.iconst 0, 1) := by decide +kernel
theorem dX12_treaties_65 : decode cX12_treaties 65 = .ok (.iadd, 1) := by decide +kernel
theorem dX12_treaties_66 : decode cX12_treaties 66 = .ok (.istore_n 1, 1) := by decide +kernel
theorem dX12_treaties_67 : decode cX12_treaties 67 = .ok (.iinc 3 1, 3) := by decide +kernel
theorem dX12_treaties_70 : decode cX12_treaties 70 = .ok (.goto (-43), 3) := by decide +kernel
theorem dX12_treaties_73 : decode cX12_treaties 73 = .ok (.iinc 2 1, 3) := by decide +kernel
theorem dX12_treaties_76 : decode cX12_treaties 76 = .ok (.goto (-57), 3) := by decide +kernel
theorem dX12_treaties_79 : decode cX12_treaties 79 = .ok (.iload_n 1, 1) := by decide +kernel
theorem dX12_treaties_80 : decode cX12_treaties 80 = .ok (.ireturn, 1) := by decide +kernel
theorem wrr_wsX12_leads {i : Nat} {w : Cond} (h : wsX12_leads[i]? = some w) : w ∈ wsX12_leads := List.mem_of_getElem? h
theorem wru_wsX12_leads_wsX120 : ∀ w ∈ wsX120, w ∈ wsX12_leads := fun w h => (List.mem_cons_of_mem _ (List.mem_append_right _ h))
set_option maxRecDepth 20000 in
theorem ggX12_leads_X12_isDance : GoodIn wsX12_leads wsX12_isDance := goodIn_sub (List.forall_mem_cons.mpr ⟨wrr_wsX12_leads (i := 7) rfl, (List.forall_mem_append.mpr ⟨(List.forall_mem_cons.mpr ⟨wrr_wsX12_leads (i := 8) rfl, (fun _ h => absurd h List.not_mem_nil)⟩), wru_wsX12_leads_wsX120⟩)⟩) gw_wsX12_isDance
set_option maxRecDepth 20000 in
theorem gX12_leads_X12_isDance : GoodIn wsX12_leads (wsV RX12 254 RX12 yX12_isDance wsX12_isDance) := goodIn_app (goodIn_sub (List.forall_mem_cons.mpr ⟨wrr_wsX12_leads (i := 3) rfl, (List.forall_mem_cons.mpr ⟨wrr_wsX12_leads (i := 4) rfl, (List.forall_mem_cons.mpr ⟨wrr_wsX12_leads (i := 5) rfl, (List.forall_mem_cons.mpr ⟨wrr_wsX12_leads (i := 6) rfl, (fun _ h => absurd h List.not_mem_nil)⟩)⟩)⟩)⟩) (by decide +kernel)) ggX12_leads_X12_isDance
set_option maxRecDepth 20000 in
theorem ggX12_leads_X12_in : GoodIn wsX12_leads wsX12_in := goodIn_sub (List.forall_mem_cons.mpr ⟨wrr_wsX12_leads (i := 11) rfl, (fun _ h => absurd h List.not_mem_nil)⟩) gw_wsX12_in
set_option maxRecDepth 20000 in
theorem gX12_leads_X12_in : GoodIn wsX12_leads (va_wsS RX12 85 yX12_in wsX12_in) := goodIn_app (goodIn_sub (List.forall_mem_cons.mpr ⟨wrr_wsX12_leads (i := 9) rfl, (List.forall_mem_cons.mpr ⟨wrr_wsX12_leads (i := 10) rfl, (List.forall_mem_cons.mpr ⟨wrr_wsX12_leads (i := 6) rfl, (fun _ h => absurd h List.not_mem_nil)⟩)⟩)⟩) (by decide +kernel)) ggX12_leads_X12_in
set_option maxRecDepth 20000 in
theorem ggX12_leads_X12_sizeOf : GoodIn wsX12_leads wsX12_sizeOf := goodIn_sub (List.forall_mem_cons.mpr ⟨wrr_wsX12_leads (i := 14) rfl, (fun _ h => absurd h List.not_mem_nil)⟩) gw_wsX12_sizeOf
set_option maxRecDepth 20000 in
theorem gX12_leads_X12_sizeOf : GoodIn wsX12_leads (va_wsS RX12 404 yX12_sizeOf wsX12_sizeOf) := goodIn_app (goodIn_sub (List.forall_mem_cons.mpr ⟨wrr_wsX12_leads (i := 12) rfl, (List.forall_mem_cons.mpr ⟨wrr_wsX12_leads (i := 13) rfl, (List.forall_mem_cons.mpr ⟨wrr_wsX12_leads (i := 6) rfl, (fun _ h => absurd h List.not_mem_nil)⟩)⟩)⟩) (by decide +kernel)) ggX12_leads_X12_sizeOf
theorem dX12_leads_0 : decode cX12_leads 0 = .ok (.aload_n 0, 1) := by decide +kernel
theorem dX12_leads_1 : decode cX12_leads 1 = .ok (.iconst 0, 1) := by decide +kernel
theorem dX12_leads_2 : decode cX12_leads 2 = .ok (.putfield 80, 3) := by decide +kernel
theorem dX12_leads_5 : decode cX12_leads 5 = .ok (.aload_n 0, 1) := by decide +kernel
theorem dX12_leads_6 : decode cX12_leads 6 = .ok (.invokevirtual 254, 3) := by decide +kernel
theorem dX12_leads_9 : decode cX12_leads 9 = .ok (.ifCond .eq 13, 3) := by decide +kernel
theorem dX12_leads_12 : decode cX12_leads 12 = .ok (.iload_n 1, 1) := by decide +kernel
theorem dX12_leads_13 : decode cX12_leads 13 = .ok (.i2l, 1) := by decide +kernel
theorem dX12_leads_14 : decode cX12_leads 14 = .ok (.lconst 0, 1) := by decide +kernel
theorem dX12_leads_15 : decode cX12_leads 15 = .ok (.lconst 1, 1) := by decide +kernel
theorem dX12_leads_16 : decode cX12_leads 16 = .ok (.invokestatic 85, 3) := by decide +kernel
theorem dX12_leads_19 : decode cX12_leads 19 = .ok (.ifCond .ne 6, 3) := by decide +kernel
theorem dX12_leads_22 : decode cX12_leads 22 = .ok (.bipush (-2), 2) := by decide +kernel
theorem dX12_leads_24 : decode cX12_leads 24 = .ok (.ireturn, 1) := by decide +kernel
theorem dX12_leads_25 : decode cX12_leads 25 = .ok (.iconst 0, 1) := by decide +kernel
theorem dX12_leads_26 : decode cX12_leads 26 = .ok (.istore_n 2, 1) := by decide +kernel
theorem dX12_leads_27 : decode cX12_leads 27 = .ok (.iconst 1, 1) := by decide +kernel
theorem dX12_leads_28 : decode cX12_leads 28 = .ok (.istore_n 3, 1) := by decide +kernel
theorem dX12_leads_29 : decode cX12_leads 29 = .ok (.iload_n 3, 1) := by decide +kernel
theorem dX12_leads_30 : decode cX12_leads 30 = .ok (.bipush 6, 2) := by decide +kernel
theorem dX12_leads_32 : decode cX12_leads 32 = .ok (.if_icmp .ge 60, 3) := by decide +kernel
theorem dX12_leads_35 : decode cX12_leads 35 = .ok (.iload_n 1, 1) := by decide +kernel
theorem dX12_leads_36 : decode cX12_leads 36 = .ok (.ifCond .ne 27, 3) := by decide +kernel
theorem dX12_leads_39 : decode cX12_leads 39 = .ok (.aload_n 0, 1) := by decide +kernel
theorem dX12_leads_40 : decode cX12_leads 40 = .ok (.getfield 40, 3) := by decide +kernel
theorem dX12_leads_43 : decode cX12_leads 43 = .ok (.iload_n 3, 1) := by decide +kernel
theorem dX12_leads_44 : decode cX12_leads 44 = .ok (.iaload, 1) := by decide +kernel
theorem dX12_leads_45 : decode cX12_leads 45 = .ok (.invokestatic 404, 3) := by decide +kernel
theorem dX12_leads_48 : decode cX12_leads 48 = .ok (.aload_n 0, 1) := by decide +kernel
theorem dX12_leads_49 : decode cX12_leads 49 = .ok (.getfield 40, 3) := by decide +kernel
theorem dX12_leads_52 : decode cX12_leads 52 = .ok (.iload_n 2, 1) := by decide +kernel
theorem dX12_leads_53 : decode cX12_leads 53 = .ok (.iaload, 1) := by decide +kernel
theorem dX12_leads_54 : decode cX12_leads 54 = .ok (.invokestatic 404, 3) := by decide +kernel
theorem dX12_leads_57 : decode cX12_leads 57 = .ok (.if_icmp .le 29, 3) := by decide +kernel
theorem dX12_leads_60 : decode cX12_leads 60 = .ok (.goto 24, 3) := by decide +kernel
theorem dX12_leads_63 : decode cX12_leads 63 = .ok (.aload_n 0, 1) := by decide +kernel
theorem dX12_leads_64 : decode cX12_leads 64 = .ok (.getfield 40, 3) := by decide +kernel
theorem dX12_leads_67 : decode cX12_leads 67 = .ok (.iload_n 3, 1) := by decide +kernel
theorem dX12_leads_68 : decode cX12_leads 68 = .ok (.iaload, 1) := by decide +kernel
theorem dX12_leads_69 : decode cX12_leads 69 = .ok (.invokestatic 404, 3) := by decide +kernel
theorem dX12_leads_72 : decode cX12_leads 72 = .ok (.aload_n 0, 1) := by decide +kernel
theorem dX12_leads_73 : decode cX12_leads 73 = .ok (.getfield 40, 3) := by decide +kernel
theorem dX12_leads_76 : decode cX12_leads 76 = .ok (.iload_n 2, 1) := by decide +kernel
theorem dX12_leads_77 : decode cX12_leads 77 = .ok (.iaload, 1) := by decide +kernel
theorem dX12_leads_78 : decode cX12_leads 78 = .ok (.invokestatic 404, 3) := by decide +kernel
theorem dX12_leads_81 : decode cX12_leads 81 = .ok (.if_icmp .ge 5, 3) := by decide +kernel
theorem dX12_leads_84 : decode cX12_leads 84 = .ok (.iload_n 3, 1) := by decide +kernel
theorem dX12_leads_85 : decode cX12_leads 85 = .ok (.istore_n 2, 1) := by decide +kernel
theorem dX12_leads_86 : decode cX12_leads 86 = .ok (.iinc 3 1, 3) := by decide +kernel
theorem dX12_leads_89 : decode cX12_leads 89 = .ok (.goto (-60), 3) := by decide +kernel
theorem dX12_leads_92 : decode cX12_leads 92 = .ok (.iload_n 2, 1) := by decide +kernel
theorem dX12_leads_93 : decode cX12_leads 93 = .ok (.ireturn, 1) := by decide +kernel
theorem dX12_laysGame_0 : decode cX12_laysGame 0 = .ok (.iconst 0, 1) := by decide +kernel
theorem dX12_laysGame_1 : decode cX12_laysGame 1 = .ok (.istore_n 1, 1) := by decide +kernel
theorem dX12_laysGame_2 : decode cX12_laysGame 2 = .ok (.iload_n 1, 1) := by decide +kernel
theorem dX12_laysGame_3 : decode cX12_laysGame 3 = .ok (.sipush 24576, 3) := by decide +kernel
theorem dX12_laysGame_6 : decode cX12_laysGame 6 = .ok (.if_icmp .ge 16, 3) := by decide +kernel
theorem dX12_laysGame_9 : decode cX12_laysGame 9 = .ok (.aload_n 0, 1) := by decide +kernel
theorem dX12_laysGame_10 : decode cX12_laysGame 10 = .ok (.getfield 77, 3) := by decide +kernel
theorem dX12_laysGame_13 : decode cX12_laysGame 13 = .ok (.iload_n 1, 1) := by decide +kernel
theorem dX12_laysGame_14 : decode cX12_laysGame 14 = .ok (.iconst 0, 1) := by decide +kernel
theorem dX12_laysGame_15 : decode cX12_laysGame 15 = .ok (.iastore, 1) := by decide +kernel
theorem dX12_laysGame_16 : decode cX12_laysGame 16 = .ok (.iinc 1 1, 3) := by decide +kernel
theorem dX12_laysGame_19 : decode cX12_laysGame 19 = .ok (.goto (-17), 3) := by decide +kernel
theorem dX12_laysGame_22 : decode cX12_laysGame 22 = .ok (.return_, 1) := by decide +kernel
theorem dX12_power_0 : decode cX12_power 0 = .ok (.lconst 1, 1) := by decide +kernel
theorem dX12_power_1 : decode cX12_power 1 = .ok (.lstore_n 3, 1) := by decide +kernel
theorem dX12_power_2 : decode cX12_power 2 = .ok (.iconst 0, 1) := by decide +kernel
theorem dX12_power_3 : decode cX12_power 3 = .ok (.istore 5, 2) := by decide +kernel
theorem dX12_power_5 : decode cX12_power 5 = .ok (.iload 5, 2) := by decide +kernel
theorem dX12_power_7 : decode cX12_power 7 = .ok (.iload_n 2, 1) := by decide +kernel
theorem dX12_power_8 : decode cX12_power 8 = .ok (.if_icmp .ge 13, 3) := by decide +kernel
theorem dX12_power_11 : decode cX12_power 11 = .ok (.lload_n 3, 1) := by decide +kernel
theorem dX12_power_12 : decode cX12_power 12 = .ok (.lload_n 0, 1) := by decide +kernel
theorem dX12_power_13 : decode cX12_power 13 = .ok (.lmul, 1) := by decide +kernel
theorem dX12_power_14 : decode cX12_power 14 = .ok (.lstore_n 3, 1) := by decide +kernel
theorem dX12_power_15 : decode cX12_power 15 = .ok (.iinc 5 1, 3) := by decide +kernel
theorem dX12_power_18 : decode cX12_power 18 = .ok (.goto (-13), 3) := by decide +kernel
theorem dX12_power_21 : decode cX12_power 21 = .ok (.lload_n 3, 1) := by decide +kernel
theorem dX12_power_22 : decode cX12_power 22 = .ok (.lreturn, 1) := by decide +kernel
theorem wrr_wsX12_part {i : Nat} {w : Cond} (h : wsX12_part[i]? = some w) : w ∈ wsX12_part := List.mem_of_getElem? h
set_option maxRecDepth 20000 in
theorem ggX12_part_X12_commonLong : GoodIn wsX12_part wsX12_commonLong := goodIn_sub (List.forall_mem_cons.mpr ⟨wrr_wsX12_part (i := 4) rfl, (List.forall_mem_cons.mpr ⟨wrr_wsX12_part (i := 1) rfl, (List.forall_mem_cons.mpr ⟨wrr_wsX12_part (i := 2) rfl, (List.forall_mem_cons.mpr ⟨wrr_wsX12_part (i := 3) rfl, (fun _ h => absurd h List.not_mem_nil)⟩)⟩)⟩)⟩) gw_wsX12_commonLong
set_option maxRecDepth 20000 in
theorem gX12_part_X12_commonLong : GoodIn wsX12_part (va_wsS RX12 318 yX12_commonLong wsX12_commonLong) := goodIn_app (goodIn_sub (List.forall_mem_cons.mpr ⟨wrr_wsX12_part (i := 1) rfl, (List.forall_mem_cons.mpr ⟨wrr_wsX12_part (i := 2) rfl, (List.forall_mem_cons.mpr ⟨wrr_wsX12_part (i := 3) rfl, (fun _ h => absurd h List.not_mem_nil)⟩)⟩)⟩) (by decide +kernel)) ggX12_part_X12_commonLong
theorem dX12_part_0 : decode cX12_part 0 = .ok (.iload 4, 2) := by decide +kernel
theorem dX12_part_2 : decode cX12_part 2 = .ok (.ifCond .ne 7, 3) := by decide +kernel
theorem dX12_part_5 : decode cX12_part 5 = .ok (.lload_n 0, 1) := by decide +kernel
theorem dX12_part_6 : decode cX12_part 6 = .ok (.goto 4, 3) := by decide +kernel
theorem dX12_part_9 : decode cX12_part 9 = .ok (.lload_n 2, 1) := by decide +kernel
theorem dX12_part_10 : decode cX12_part 10 = .ok (.lload_n 0, 1) := by decide +kernel
theorem dX12_part_11 : decode cX12_part 11 = .ok (.lload_n 2, 1) := by decide +kernel
theorem dX12_part_12 : decode cX12_part 12 = .ok (.invokestatic 318, 3) := by decide +kernel
theorem dX12_part_15 : decode cX12_part 15 = .ok (.ldiv, 1) := by decide +kernel
theorem dX12_part_16 : decode cX12_part 16 = .ok (.lreturn, 1) := by decide +kernel
theorem wrr_wsX12_isRain {i : Nat} {w : Cond} (h : wsX12_isRain[i]? = some w) : w ∈ wsX12_isRain := List.mem_of_getElem? h
theorem wru_wsX12_isRain_wsX120 : ∀ w ∈ wsX120, w ∈ wsX12_isRain := fun w h => (List.mem_cons_of_mem _ (List.mem_append_right _ h))
set_option maxRecDepth 20000 in
theorem ggX12_isRain_X12_isDance : GoodIn wsX12_isRain wsX12_isDance := goodIn_sub (List.forall_mem_cons.mpr ⟨wrr_wsX12_isRain (i := 6) rfl, (List.forall_mem_append.mpr ⟨(List.forall_mem_cons.mpr ⟨wrr_wsX12_isRain (i := 7) rfl, (fun _ h => absurd h List.not_mem_nil)⟩), wru_wsX12_isRain_wsX120⟩)⟩) gw_wsX12_isDance
set_option maxRecDepth 20000 in
theorem gX12_isRain_X12_isDance : GoodIn wsX12_isRain (wsV RX12 254 RX12 yX12_isDance wsX12_isDance) := goodIn_app (goodIn_sub (List.forall_mem_cons.mpr ⟨wrr_wsX12_isRain (i := 2) rfl, (List.forall_mem_cons.mpr ⟨wrr_wsX12_isRain (i := 3) rfl, (List.forall_mem_cons.mpr ⟨wrr_wsX12_isRain (i := 4) rfl, (List.forall_mem_cons.mpr ⟨wrr_wsX12_isRain (i := 5) rfl, (fun _ h => absurd h List.not_mem_nil)⟩)⟩)⟩)⟩) (by decide +kernel)) ggX12_isRain_X12_isDance
set_option maxRecDepth 20000 in
theorem ggX12_isRain_X12_in : GoodIn wsX12_isRain wsX12_in := goodIn_sub (List.forall_mem_cons.mpr ⟨wrr_wsX12_isRain (i := 10) rfl, (fun _ h => absurd h List.not_mem_nil)⟩) gw_wsX12_in
set_option maxRecDepth 20000 in
theorem gX12_isRain_X12_in : GoodIn wsX12_isRain (va_wsS RX12 85 yX12_in wsX12_in) := goodIn_app (goodIn_sub (List.forall_mem_cons.mpr ⟨wrr_wsX12_isRain (i := 8) rfl, (List.forall_mem_cons.mpr ⟨wrr_wsX12_isRain (i := 9) rfl, (List.forall_mem_cons.mpr ⟨wrr_wsX12_isRain (i := 5) rfl, (fun _ h => absurd h List.not_mem_nil)⟩)⟩)⟩) (by decide +kernel)) ggX12_isRain_X12_in
theorem dX12_isRain_0 : decode cX12_isRain 0 = .ok (.aload_n 0, 1) := by decide +kernel
theorem dX12_isRain_1 : decode cX12_isRain 1 = .ok (.invokevirtual 254, 3) := by decide +kernel
theorem dX12_isRain_4 : decode cX12_isRain 4 = .ok (.ifCond .eq 29, 3) := by decide +kernel
theorem dX12_isRain_7 : decode cX12_isRain 7 = .ok (.iload_n 1, 1) := by decide +kernel
theorem dX12_isRain_8 : decode cX12_isRain 8 = .ok (.i2l, 1) := by decide +kernel
theorem dX12_isRain_9 : decode cX12_isRain 9 = .ok (.lconst 1, 1) := by decide +kernel
theorem dX12_isRain_10 : decode cX12_isRain 10 = .ok (.ldc2_w 419, 3) := by decide +kernel
theorem dX12_isRain_13 : decode cX12_isRain 13 = .ok (.invokestatic 85, 3) := by decide +kernel
theorem dX12_isRain_16 : decode cX12_isRain 16 = .ok (.ifCond .eq 17, 3) := by decide +kernel
theorem dX12_isRain_19 : decode cX12_isRain 19 = .ok (.iload_n 2, 1) := by decide +kernel
theorem dX12_isRain_20 : decode cX12_isRain 20 = .ok (.i2l, 1) := by decide +kernel
theorem dX12_isRain_21 : decode cX12_isRain 21 = .ok (.lconst 0, 1) := by decide +kernel
theorem dX12_isRain_22 : decode cX12_isRain 22 = .ok (.lconst 1, 1) := by decide +kernel
theorem dX12_isRain_23 : decode cX12_isRain 23 = .ok (.invokestatic 85, 3) := by decide +kernel
theorem dX12_isRain_26 : decode cX12_isRain 26 = .ok (.ifCond .eq 7, 3) := by decide +kernel
theorem dX12_isRain_29 : decode cX12_isRain 29 = .ok (.iconst 1, 1) := by decide +kernel
theorem dX12_isRain_30 : decode cX12_isRain 30 = .ok (.goto 4, 3) := by decide +kernel
theorem dX12_isRain_33 : decode cX12_isRain 33 = .ok (.iconst 0, 1) := by decide +kernel
theorem dX12_isRain_34 : decode cX12_isRain 34 = .ok (.ireturn, 1) := by decide +kernel
theorem wrr_wsX12_dry {i : Nat} {w : Cond} (h : wsX12_dry[i]? = some w) : w ∈ wsX12_dry := List.mem_of_getElem? h
theorem wrr_wsX12_dry_wsX12_dry_r1 {i : Nat} {w : Cond} (h : wsX12_dry_r1[i]? = some w) : w ∈ wsX12_dry := (List.mem_cons_of_mem _ (List.mem_append_left _ (List.mem_append_left _ (List.mem_of_getElem? h))))
theorem wrr_wsX12_dry_wsX12_dry_r2 {i : Nat} {w : Cond} (h : wsX12_dry_r2[i]? = some w) : w ∈ wsX12_dry := (List.mem_cons_of_mem _ (List.mem_append_left _ (List.mem_append_right _ (List.mem_of_getElem? h))))
theorem wru_wsX12_dry_wsX120 : ∀ w ∈ wsX120, w ∈ wsX12_dry := fun w h => (List.mem_cons_of_mem _ (List.mem_append_right _ h))
set_option maxRecDepth 20000 in
theorem gw_wsX12_isRain : wsX12_isRain.all goodWord = true := by decide +kernel
set_option maxRecDepth 20000 in
theorem ggX12_dry_X12_isRain : GoodIn wsX12_dry wsX12_isRain := goodIn_sub (List.forall_mem_cons.mpr ⟨wrr_wsX12_dry_wsX12_dry_r1 (i := 8) rfl, (List.forall_mem_append.mpr ⟨(List.forall_mem_cons.mpr ⟨wrr_wsX12_dry_wsX12_dry_r1 (i := 9) rfl, (List.forall_mem_cons.mpr ⟨wrr_wsX12_dry_wsX12_dry_r1 (i := 10) rfl, (List.forall_mem_cons.mpr ⟨wrr_wsX12_dry_wsX12_dry_r1 (i := 11) rfl, (List.forall_mem_cons.mpr ⟨wrr_wsX12_dry_wsX12_dry_r1 (i := 12) rfl, (List.forall_mem_cons.mpr ⟨wrr_wsX12_dry_wsX12_dry_r1 (i := 7) rfl, (List.forall_mem_cons.mpr ⟨wrr_wsX12_dry_wsX12_dry_r1 (i := 13) rfl, (List.forall_mem_cons.mpr ⟨wrr_wsX12_dry_wsX12_dry_r1 (i := 14) rfl, (List.forall_mem_cons.mpr ⟨wrr_wsX12_dry_wsX12_dry_r1 (i := 15) rfl, (List.forall_mem_cons.mpr ⟨wrr_wsX12_dry_wsX12_dry_r1 (i := 16) rfl, (List.forall_mem_cons.mpr ⟨wrr_wsX12_dry_wsX12_dry_r1 (i := 17) rfl, (fun _ h => absurd h List.not_mem_nil)⟩)⟩)⟩)⟩)⟩)⟩)⟩)⟩)⟩)⟩), wru_wsX12_dry_wsX120⟩)⟩) gw_wsX12_isRain
set_option maxRecDepth 20000 in
theorem gX12_dry_X12_isRain : GoodIn wsX12_dry (wsV RX12 421 RX12 yX12_isRain wsX12_isRain) := goodIn_app (goodIn_sub (List.forall_mem_cons.mpr ⟨wrr_wsX12_dry_wsX12_dry_r1 (i := 4) rfl, (List.forall_mem_cons.mpr ⟨wrr_wsX12_dry_wsX12_dry_r1 (i := 5) rfl, (List.forall_mem_cons.mpr ⟨wrr_wsX12_dry_wsX12_dry_r1 (i := 6) rfl, (List.forall_mem_cons.mpr ⟨wrr_wsX12_dry_wsX12_dry_r1 (i := 7) rfl, (fun _ h => absurd h List.not_mem_nil)⟩)⟩)⟩)⟩) (by decide +kernel)) ggX12_dry_X12_isRain
set_option maxRecDepth 20000 in
theorem gw_wsX12_power : wsX12_power.all goodWord = true := by decide +kernel
set_option maxRecDepth 20000 in
theorem ggX12_dry_X12_power : GoodIn wsX12_dry wsX12_power := goodIn_sub (List.forall_mem_cons.mpr ⟨wrr_wsX12_dry_wsX12_dry_r1 (i := 20) rfl, (fun _ h => absurd h List.not_mem_nil)⟩) gw_wsX12_power
set_option maxRecDepth 20000 in
theorem gX12_dry_X12_power : GoodIn wsX12_dry (va_wsS RX12 426 yX12_power wsX12_power) := goodIn_app (goodIn_sub (List.forall_mem_cons.mpr ⟨wrr_wsX12_dry_wsX12_dry_r1 (i := 18) rfl, (List.forall_mem_cons.mpr ⟨wrr_wsX12_dry_wsX12_dry_r1 (i := 19) rfl, (List.forall_mem_cons.mpr ⟨wrr_wsX12_dry_wsX12_dry_r1 (i := 7) rfl, (fun _ h => absurd h List.not_mem_nil)⟩)⟩)⟩) (by decide +kernel)) ggX12_dry_X12_power
set_option maxRecDepth 20000 in
theorem gw_wsX12_part : wsX12_part.all goodWord = true := by decide +kernel
set_option maxRecDepth 20000 in
theorem ggX12_dry_X12_part : GoodIn wsX12_dry wsX12_part := goodIn_sub (List.forall_mem_cons.mpr ⟨wrr_wsX12_dry_wsX12_dry_r1 (i := 23) rfl, (List.forall_mem_cons.mpr ⟨wrr_wsX12_dry_wsX12_dry_r2 (i := 0) rfl, (List.forall_mem_cons.mpr ⟨wrr_wsX12_dry_wsX12_dry_r2 (i := 1) rfl, (List.forall_mem_cons.mpr ⟨wrr_wsX12_dry_wsX12_dry_r1 (i := 7) rfl, (List.forall_mem_cons.mpr ⟨wrr_wsX12_dry_wsX12_dry_r2 (i := 2) rfl, (fun _ h => absurd h List.not_mem_nil)⟩)⟩)⟩)⟩)⟩) gw_wsX12_part
set_option maxRecDepth 20000 in
theorem gX12_dry_X12_part : GoodIn wsX12_dry (va_wsS RX12 429 yX12_part wsX12_part) := goodIn_app (goodIn_sub (List.forall_mem_cons.mpr ⟨wrr_wsX12_dry_wsX12_dry_r1 (i := 21) rfl, (List.forall_mem_cons.mpr ⟨wrr_wsX12_dry_wsX12_dry_r1 (i := 22) rfl, (List.forall_mem_cons.mpr ⟨wrr_wsX12_dry_wsX12_dry_r1 (i := 7) rfl, (fun _ h => absurd h List.not_mem_nil)⟩)⟩)⟩) (by decide +kernel)) ggX12_dry_X12_part
theorem dX12_dry_0 : decode cX12_dry 0 = .ok (.aload_n 0, 1) := by decide +kernel
theorem dX12_dry_1 : decode cX12_dry 1 = .ok (.iconst 0, 1) := by decide +kernel
theorem dX12_dry_2 : decode cX12_dry 2 = .ok (.putfield 80, 3) := by decide +kernel
theorem dX12_dry_5 : decode cX12_dry 5 = .ok (.aload_n 0, 1) := by decide +kernel
theorem dX12_dry_6 : decode cX12_dry 6 = .ok (.iload_n 1, 1) := by decide +kernel
theorem dX12_dry_7 : decode cX12_dry 7 = .ok (.iload_n 2, 1) := by decide +kernel
theorem dX12_dry_8 : decode cX12_dry 8 = .ok (.invokevirtual 421, 3) := by decide +kernel
theorem dX12_dry_11 : decode cX12_dry 11 = .ok (.ifCond .eq 32, 3) := by decide +kernel
theorem dX12_dry_14 : decode cX12_dry 14 = .ok (.ldc2_w 424, 3) := by decide +kernel
theorem dX12_dry_17 : decode cX12_dry 17 = .ok (.aload_n 0, 1) := by decide +kernel
theorem dX12_dry_18 : decode cX12_dry 18 = .ok (.getfield 34, 3) := by decide +kernel
theorem dX12_dry_21 : decode cX12_dry 21 = .ok (.iconst 2, 1) := by decide +kernel
theorem dX12_dry_22 : decode cX12_dry 22 = .ok (.iaload, 1) := by decide +kernel
theorem dX12_dry_23 : decode cX12_dry 23 = .ok (.i2l, 1) := by decide +kernel
theorem dX12_dry_24 : decode cX12_dry 24 = .ok (.lsub, 1) := by decide +kernel
theorem dX12_dry_25 : decode cX12_dry 25 = .ok (.iload_n 1, 1) := by decide +kernel
theorem dX12_dry_26 : decode cX12_dry 26 = .ok (.invokestatic 426, 3) := by decide +kernel
theorem dX12_dry_29 : decode cX12_dry 29 = .ok (.ldc2_w 424, 3) := by decide +kernel
theorem dX12_dry_32 : decode cX12_dry 32 = .ok (.iload_n 1, 1) := by decide +kernel
theorem dX12_dry_33 : decode cX12_dry 33 = .ok (.invokestatic 426, 3) := by decide +kernel
theorem dX12_dry_36 : decode cX12_dry 36 = .ok (.iload_n 2, 1) := by decide +kernel
theorem dX12_dry_37 : decode cX12_dry 37 = .ok (.invokestatic 429, 3) := by decide +kernel
theorem dX12_dry_40 : decode cX12_dry 40 = .ok (.goto 6, 3) := by decide +kernel
theorem dX12_dry_43 : decode cX12_dry 43 = .ok (.ldc2_w 398, 3) := by decide +kernel
theorem dX12_dry_46 : decode cX12_dry 46 = .ok (.lreturn, 1) := by decide +kernel
theorem wrr_wsX12_wet {i : Nat} {w : Cond} (h : wsX12_wet[i]? = some w) : w ∈ wsX12_wet := List.mem_of_getElem? h
theorem wrr_wsX12_wet_wsX12_wet_r1 {i : Nat} {w : Cond} (h : wsX12_wet_r1[i]? = some w) : w ∈ wsX12_wet := (List.mem_cons_of_mem _ (List.mem_append_left _ (List.mem_append_left _ (List.mem_of_getElem? h))))
theorem wrr_wsX12_wet_wsX12_wet_r2 {i : Nat} {w : Cond} (h : wsX12_wet_r2[i]? = some w) : w ∈ wsX12_wet := (List.mem_cons_of_mem _ (List.mem_append_left _ (List.mem_append_right _ (List.mem_of_getElem? h))))
theorem wru_wsX12_wet_wsX120 : ∀ w ∈ wsX120, w ∈ wsX12_wet := fun w h => (List.mem_cons_of_mem _ (List.mem_append_right _ h))
set_option maxRecDepth 20000 in
theorem ggX12_wet_X12_isRain : GoodIn wsX12_wet wsX12_isRain := goodIn_sub (List.forall_mem_cons.mpr ⟨wrr_wsX12_wet_wsX12_wet_r1 (i := 8) rfl, (List.forall_mem_append.mpr ⟨(List.forall_mem_cons.mpr ⟨wrr_wsX12_wet_wsX12_wet_r1 (i := 9) rfl, (List.forall_mem_cons.mpr ⟨wrr_wsX12_wet_wsX12_wet_r1 (i := 10) rfl, (List.forall_mem_cons.mpr ⟨wrr_wsX12_wet_wsX12_wet_r1 (i := 11) rfl, (List.forall_mem_cons.mpr ⟨wrr_wsX12_wet_wsX12_wet_r1 (i := 12) rfl, (List.forall_mem_cons.mpr ⟨wrr_wsX12_wet_wsX12_wet_r1 (i := 7) rfl, (List.forall_mem_cons.mpr ⟨wrr_wsX12_wet_wsX12_wet_r1 (i := 13) rfl, (List.forall_mem_cons.mpr ⟨wrr_wsX12_wet_wsX12_wet_r1 (i := 14) rfl, (List.forall_mem_cons.mpr ⟨wrr_wsX12_wet_wsX12_wet_r1 (i := 15) rfl, (List.forall_mem_cons.mpr ⟨wrr_wsX12_wet_wsX12_wet_r1 (i := 16) rfl, (List.forall_mem_cons.mpr ⟨wrr_wsX12_wet_wsX12_wet_r1 (i := 17) rfl, (fun _ h => absurd h List.not_mem_nil)⟩)⟩)⟩)⟩)⟩)⟩)⟩)⟩)⟩)⟩), wru_wsX12_wet_wsX120⟩)⟩) gw_wsX12_isRain
set_option maxRecDepth 20000 in
theorem gX12_wet_X12_isRain : GoodIn wsX12_wet (wsV RX12 421 RX12 yX12_isRain wsX12_isRain) := goodIn_app (goodIn_sub (List.forall_mem_cons.mpr ⟨wrr_wsX12_wet_wsX12_wet_r1 (i := 4) rfl, (List.forall_mem_cons.mpr ⟨wrr_wsX12_wet_wsX12_wet_r1 (i := 5) rfl, (List.forall_mem_cons.mpr ⟨wrr_wsX12_wet_wsX12_wet_r1 (i := 6) rfl, (List.forall_mem_cons.mpr ⟨wrr_wsX12_wet_wsX12_wet_r1 (i := 7) rfl, (fun _ h => absurd h List.not_mem_nil)⟩)⟩)⟩)⟩) (by decide +kernel)) ggX12_wet_X12_isRain
set_option maxRecDepth 20000 in
theorem ggX12_wet_X12_in : GoodIn wsX12_wet wsX12_in := goodIn_sub (List.forall_mem_cons.mpr ⟨wrr_wsX12_wet_wsX12_wet_r1 (i := 17) rfl, (fun _ h => absurd h List.not_mem_nil)⟩) gw_wsX12_in
set_option maxRecDepth 20000 in
theorem gX12_wet_X12_in : GoodIn wsX12_wet (va_wsS RX12 85 yX12_in wsX12_in) := goodIn_app (goodIn_sub (List.forall_mem_cons.mpr ⟨wrr_wsX12_wet_wsX12_wet_r1 (i := 15) rfl, (List.forall_mem_cons.mpr ⟨wrr_wsX12_wet_wsX12_wet_r1 (i := 16) rfl, (List.forall_mem_cons.mpr ⟨wrr_wsX12_wet_wsX12_wet_r1 (i := 7) rfl, (fun _ h => absurd h List.not_mem_nil)⟩)⟩)⟩) (by decide +kernel)) ggX12_wet_X12_in
set_option maxRecDepth 20000 in
theorem ggX12_wet_X12_power : GoodIn wsX12_wet wsX12_power := goodIn_sub (List.forall_mem_cons.mpr ⟨wrr_wsX12_wet_wsX12_wet_r1 (i := 20) rfl, (fun _ h => absurd h List.not_mem_nil)⟩) gw_wsX12_power
set_option maxRecDepth 20000 in
theorem gX12_wet_X12_power : GoodIn wsX12_wet (va_wsS RX12 426 yX12_power wsX12_power) := goodIn_app (goodIn_sub (List.forall_mem_cons.mpr ⟨wrr_wsX12_wet_wsX12_wet_r1 (i := 18) rfl, (List.forall_mem_cons.mpr ⟨wrr_wsX12_wet_wsX12_wet_r1 (i := 19) rfl, (List.forall_mem_cons.mpr ⟨wrr_wsX12_wet_wsX12_wet_r1 (i := 7) rfl, (fun _ h => absurd h List.not_mem_nil)⟩)⟩)⟩) (by decide +kernel)) ggX12_wet_X12_power
set_option maxRecDepth 20000 in
theorem ggX12_wet_X12_part : GoodIn wsX12_wet wsX12_part := goodIn_sub (List.forall_mem_cons.mpr ⟨wrr_wsX12_wet_wsX12_wet_r1 (i := 23) rfl, (List.forall_mem_cons.mpr ⟨wrr_wsX12_wet_wsX12_wet_r2 (i := 0) rfl, (List.forall_mem_cons.mpr ⟨wrr_wsX12_wet_wsX12_wet_r2 (i := 1) rfl, (List.forall_mem_cons.mpr ⟨wrr_wsX12_wet_wsX12_wet_r1 (i := 7) rfl, (List.forall_mem_cons.mpr ⟨wrr_wsX12_wet_wsX12_wet_r2 (i := 2) rfl, (fun _ h => absurd h List.not_mem_nil)⟩)⟩)⟩)⟩)⟩) gw_wsX12_part
set_option maxRecDepth 20000 in
theorem gX12_wet_X12_part : GoodIn wsX12_wet (va_wsS RX12 429 yX12_part wsX12_part) := goodIn_app (goodIn_sub (List.forall_mem_cons.mpr ⟨wrr_wsX12_wet_wsX12_wet_r1 (i := 21) rfl, (List.forall_mem_cons.mpr ⟨wrr_wsX12_wet_wsX12_wet_r1 (i := 22) rfl, (List.forall_mem_cons.mpr ⟨wrr_wsX12_wet_wsX12_wet_r1 (i := 7) rfl, (fun _ h => absurd h List.not_mem_nil)⟩)⟩)⟩) (by decide +kernel)) ggX12_wet_X12_part
theorem dX12_wet_0 : decode cX12_wet 0 = .ok (.aload_n 0, 1) := by decide +kernel
theorem dX12_wet_1 : decode cX12_wet 1 = .ok (.iconst 0, 1) := by decide +kernel
theorem dX12_wet_2 : decode cX12_wet 2 = .ok (.putfield 80, 3) := by decide +kernel
theorem dX12_wet_5 : decode cX12_wet 5 = .ok (.aload_n 0, 1) := by decide +kernel
theorem dX12_wet_6 : decode cX12_wet 6 = .ok (.iload_n 1, 1) := by decide +kernel
theorem dX12_wet_7 : decode cX12_wet 7 = .ok (.iload_n 3, 1) := by decide +kernel
theorem dX12_wet_8 : decode cX12_wet 8 = .ok (.invokevirtual 421, 3) := by decide +kernel
theorem dX12_wet_11 : decode cX12_wet 11 = .ok (.ifCond .eq 14, 3) := by decide +kernel
theorem dX12_wet_14 : decode cX12_wet 14 = .ok (.iload_n 2, 1) := by decide +kernel
theorem dX12_wet_15 : decode cX12_wet 15 = .ok (.i2l, 1) := by decide +kernel
theorem dX12_wet_16 : decode cX12_wet 16 = .ok (.lconst 0, 1) := by decide +kernel
theorem dX12_wet_17 : decode cX12_wet 17 = .ok (.iload_n 1, 1) := by decide +kernel
theorem dX12_wet_18 : decode cX12_wet 18 = .ok (.i2l, 1) := by decide +kernel
theorem dX12_wet_19 : decode cX12_wet 19 = .ok (.invokestatic 85, 3) := by decide +kernel
theorem dX12_wet_22 : decode cX12_wet 22 = .ok (.ifCond .ne 7, 3) := by decide +kernel
theorem dX12_wet_25 : decode cX12_wet 25 = .ok (.ldc2_w 398, 3) := by decide +kernel
theorem dX12_wet_28 : decode cX12_wet 28 = .ok (.lreturn, 1) := by decide +kernel
theorem dX12_wet_29 : decode cX12_wet 29 = .ok (.lconst 1, 1) := by decide +kernel
theorem dX12_wet_30 : decode cX12_wet 30 = .ok (.lstore 4, 2) := by decide +kernel
theorem dX12_wet_32 : decode cX12_wet 32 = .ok (.iconst 0, 1) := by decide +kernel
theorem dX12_wet_33 : decode cX12_wet 33 = .ok (.istore 6, 2) := by decide +kernel
theorem dX12_wet_35 : decode cX12_wet 35 = .ok (.iload 6, 2) := by decide +kernel
theorem dX12_wet_37 : decode cX12_wet 37 = .ok (.iload_n 2, 1) := by decide +kernel
theorem dX12_wet_38 : decode cX12_wet 38 = .ok (.if_icmp .ge 25, 3) := by decide +kernel
theorem dX12_wet_41 : decode cX12_wet 41 = .ok (.lload 4, 2) := by decide +kernel
theorem dX12_wet_43 : decode cX12_wet 43 = .ok (.iload_n 1, 1) := by decide +kernel
theorem dX12_wet_44 : decode cX12_wet 44 = .ok (.iload 6, 2) := by decide +kernel
theorem dX12_wet_46 : decode cX12_wet 46 = .ok (.isub, 1) := by decide +kernel
theorem dX12_wet_47 : decode cX12_wet 47 = .ok (.i2l, 1) := by decide +kernel
theorem dX12_wet_48 : decode cX12_wet 48 = .ok (.lmul, 1) := by decide +kernel
theorem dX12_wet_49 : decode cX12_wet 49 = .ok (.iload 6, 2) := by decide +kernel
theorem dX12_wet_51 : decode cX12_wet 51 = .ok (.iconst 1, 1) := by decide +kernel
theorem dX12_wet_52 : decode cX12_wet 52 = .ok (.iadd, 1) := by decide +kernel
theorem dX12_wet_53 : decode cX12_wet 53 = .ok (.i2l, 1) := by decide +kernel
theorem dX12_wet_54 : decode cX12_wet 54 = .ok (.ldiv, 1) := by decide +kernel
theorem dX12_wet_55 : decode cX12_wet 55 = .ok (.lstore 4, 2) := by decide +kernel
theorem dX12_wet_57 : decode cX12_wet 57 = .ok (.iinc 6 1, 3) := by decide +kernel
theorem dX12_wet_60 : decode cX12_wet 60 = .ok (.goto (-25), 3) := by decide +kernel
theorem dX12_wet_63 : decode cX12_wet 63 = .ok (.lload 4, 2) := by decide +kernel
theorem dX12_wet_65 : decode cX12_wet 65 = .ok (.aload_n 0, 1) := by decide +kernel
theorem dX12_wet_66 : decode cX12_wet 66 = .ok (.getfield 34, 3) := by decide +kernel
theorem dX12_wet_69 : decode cX12_wet 69 = .ok (.iconst 2, 1) := by decide +kernel
theorem dX12_wet_70 : decode cX12_wet 70 = .ok (.iaload, 1) := by decide +kernel
theorem dX12_wet_71 : decode cX12_wet 71 = .ok (.i2l, 1) := by decide +kernel
theorem dX12_wet_72 : decode cX12_wet 72 = .ok (.iload_n 2, 1) := by decide +kernel
theorem dX12_wet_73 : decode cX12_wet 73 = .ok (.invokestatic 426, 3) := by decide +kernel
theorem dX12_wet_76 : decode cX12_wet 76 = .ok (.lmul, 1) := by decide +kernel
theorem dX12_wet_77 : decode cX12_wet 77 = .ok (.ldc2_w 424, 3) := by decide +kernel
theorem dX12_wet_80 : decode cX12_wet 80 = .ok (.aload_n 0, 1) := by decide +kernel
theorem dX12_wet_81 : decode cX12_wet 81 = .ok (.getfield 34, 3) := by decide +kernel
theorem dX12_wet_84 : decode cX12_wet 84 = .ok (.iconst 2, 1) := by decide +kernel
theorem dX12_wet_85 : decode cX12_wet 85 = .ok (.iaload, 1) := by decide +kernel
theorem dX12_wet_86 : decode cX12_wet 86 = .ok (.i2l, 1) := by decide +kernel
theorem dX12_wet_87 : decode cX12_wet 87 = .ok (.lsub, 1) := by decide +kernel
theorem dX12_wet_88 : decode cX12_wet 88 = .ok (.iload_n 1, 1) := by decide +kernel
theorem dX12_wet_89 : decode cX12_wet 89 = .ok (.iload_n 2, 1) := by decide +kernel
theorem dX12_wet_90 : decode cX12_wet 90 = .ok (.isub, 1) := by decide +kernel
theorem dX12_wet_91 : decode cX12_wet 91 = .ok (.invokestatic 426, 3) := by decide +kernel
theorem dX12_wet_94 : decode cX12_wet 94 = .ok (.lmul, 1) := by decide +kernel
theorem dX12_wet_95 : decode cX12_wet 95 = .ok (.ldc2_w 424, 3) := by decide +kernel
theorem dX12_wet_98 : decode cX12_wet 98 = .ok (.iload_n 1, 1) := by decide +kernel
theorem dX12_wet_99 : decode cX12_wet 99 = .ok (.invokestatic 426, 3) := by decide +kernel
theorem dX12_wet_102 : decode cX12_wet 102 = .ok (.iload_n 3, 1) := by decide +kernel
theorem dX12_wet_103 : decode cX12_wet 103 = .ok (.invokestatic 429, 3) := by decide +kernel
theorem dX12_wet_106 : decode cX12_wet 106 = .ok (.lreturn, 1) := by decide +kernel
theorem dX12_isBelow_0 : decode cX12_isBelow 0 = .ok (.aload_n 0, 1) := by decide +kernel
theorem dX12_isBelow_1 : decode cX12_isBelow 1 = .ok (.ldc2_w 433, 3) := by decide +kernel
theorem dX12_isBelow_4 : decode cX12_isBelow 4 = .ok (.aload_n 0, 1) := by decide +kernel
theorem dX12_isBelow_5 : decode cX12_isBelow 5 = .ok (.getfield 435, 3) := by decide +kernel
theorem dX12_isBelow_8 : decode cX12_isBelow 8 = .ok (.lmul, 1) := by decide +kernel
theorem dX12_isBelow_9 : decode cX12_isBelow 9 = .ok (.ldc2_w 438, 3) := by decide +kernel
theorem dX12_isBelow_12 : decode cX12_isBelow 12 = .ok (.ladd, 1) := by decide +kernel
theorem dX12_isBelow_13 : decode cX12_isBelow 13 = .ok (.ldc2_w 440, 3) := by decide +kernel
theorem dX12_isBelow_16 : decode cX12_isBelow 16 = .ok (.lrem, 1) := by decide +kernel
theorem dX12_isBelow_17 : decode cX12_isBelow 17 = .ok (.putfield 435, 3) := by decide +kernel
theorem dX12_isBelow_20 : decode cX12_isBelow 20 = .ok (.aload_n 0, 1) := by decide +kernel
theorem dX12_isBelow_21 : decode cX12_isBelow 21 = .ok (.getfield 435, 3) := by decide +kernel
theorem dX12_isBelow_24 : decode cX12_isBelow 24 = .ok (.ldc2_w 442, 3) := by decide +kernel
theorem dX12_isBelow_27 : decode cX12_isBelow 27 = .ok (.ldiv, 1) := by decide +kernel
theorem dX12_isBelow_28 : decode cX12_isBelow 28 = .ok (.ldc2_w 424, 3) := by decide +kernel
theorem dX12_isBelow_31 : decode cX12_isBelow 31 = .ok (.lrem, 1) := by decide +kernel
theorem dX12_isBelow_32 : decode cX12_isBelow 32 = .ok (.iload_n 1, 1) := by decide +kernel
theorem dX12_isBelow_33 : decode cX12_isBelow 33 = .ok (.i2l, 1) := by decide +kernel
theorem dX12_isBelow_34 : decode cX12_isBelow 34 = .ok (.lcmp, 1) := by decide +kernel
theorem dX12_isBelow_35 : decode cX12_isBelow 35 = .ok (.ifCond .ge 7, 3) := by decide +kernel
theorem dX12_isBelow_38 : decode cX12_isBelow 38 = .ok (.iconst 1, 1) := by decide +kernel
theorem dX12_isBelow_39 : decode cX12_isBelow 39 = .ok (.goto 4, 3) := by decide +kernel
theorem dX12_isBelow_42 : decode cX12_isBelow 42 = .ok (.iconst 0, 1) := by decide +kernel
theorem dX12_isBelow_43 : decode cX12_isBelow 43 = .ok (.ireturn, 1) := by decide +kernel
theorem wrr_wsX12_draws {i : Nat} {w : Cond} (h : wsX12_draws[i]? = some w) : w ∈ wsX12_draws := List.mem_of_getElem? h
theorem wrr_wsX12_draws_wsX12_draws_r1 {i : Nat} {w : Cond} (h : wsX12_draws_r1[i]? = some w) : w ∈ wsX12_draws := (List.mem_cons_of_mem _ (List.mem_append_left _ (List.mem_append_left _ (List.mem_of_getElem? h))))
theorem wrr_wsX12_draws_wsX12_draws_r2 {i : Nat} {w : Cond} (h : wsX12_draws_r2[i]? = some w) : w ∈ wsX12_draws := (List.mem_cons_of_mem _ (List.mem_append_left _ (List.mem_append_right _ (List.mem_of_getElem? h))))
theorem wru_wsX12_draws_wsX120 : ∀ w ∈ wsX120, w ∈ wsX12_draws := fun w h => (List.mem_cons_of_mem _ (List.mem_append_right _ h))
set_option maxRecDepth 20000 in
theorem gw_wsX12_isBelow : wsX12_isBelow.all goodWord = true := by decide +kernel
set_option maxRecDepth 20000 in
theorem ggX12_draws_X12_isBelow : GoodIn wsX12_draws wsX12_isBelow := goodIn_sub (List.forall_mem_cons.mpr ⟨wrr_wsX12_draws_wsX12_draws_r1 (i := 12) rfl, (List.forall_mem_append.mpr ⟨(List.forall_mem_cons.mpr ⟨wrr_wsX12_draws_wsX12_draws_r1 (i := 13) rfl, (List.forall_mem_cons.mpr ⟨wrr_wsX12_draws_wsX12_draws_r1 (i := 0) rfl, (List.forall_mem_cons.mpr ⟨wrr_wsX12_draws_wsX12_draws_r1 (i := 14) rfl, (List.forall_mem_cons.mpr ⟨wrr_wsX12_draws_wsX12_draws_r1 (i := 15) rfl, (List.forall_mem_cons.mpr ⟨wrr_wsX12_draws_wsX12_draws_r1 (i := 16) rfl, (List.forall_mem_cons.mpr ⟨wrr_wsX12_draws_wsX12_draws_r1 (i := 17) rfl, (fun _ h => absurd h List.not_mem_nil)⟩)⟩)⟩)⟩)⟩)⟩), wru_wsX12_draws_wsX120⟩)⟩) gw_wsX12_isBelow
set_option maxRecDepth 20000 in
theorem gX12_draws_X12_isBelow : GoodIn wsX12_draws (wsV RX12 456 RX12 yX12_isBelow wsX12_isBelow) := goodIn_app (goodIn_sub (List.forall_mem_cons.mpr ⟨wrr_wsX12_draws_wsX12_draws_r1 (i := 8) rfl, (List.forall_mem_cons.mpr ⟨wrr_wsX12_draws_wsX12_draws_r1 (i := 9) rfl, (List.forall_mem_cons.mpr ⟨wrr_wsX12_draws_wsX12_draws_r1 (i := 10) rfl, (List.forall_mem_cons.mpr ⟨wrr_wsX12_draws_wsX12_draws_r1 (i := 11) rfl, (fun _ h => absurd h List.not_mem_nil)⟩)⟩)⟩)⟩) (by decide +kernel)) ggX12_draws_X12_isBelow
set_option maxRecDepth 20000 in
theorem ggX12_draws_X12_lengthOf : GoodIn wsX12_draws wsX12_lengthOf := goodIn_sub (List.forall_mem_cons.mpr ⟨wrr_wsX12_draws_wsX12_draws_r1 (i := 21) rfl, (List.forall_mem_append.mpr ⟨(List.forall_mem_cons.mpr ⟨wrr_wsX12_draws_wsX12_draws_r1 (i := 5) rfl, (fun _ h => absurd h List.not_mem_nil)⟩), wru_wsX12_draws_wsX120⟩)⟩) gw_wsX12_lengthOf
set_option maxRecDepth 20000 in
theorem gX12_draws_X12_lengthOf : GoodIn wsX12_draws (wsV RX12 264 RX12 yX12_lengthOf wsX12_lengthOf) := goodIn_app (goodIn_sub (List.forall_mem_cons.mpr ⟨wrr_wsX12_draws_wsX12_draws_r1 (i := 18) rfl, (List.forall_mem_cons.mpr ⟨wrr_wsX12_draws_wsX12_draws_r1 (i := 19) rfl, (List.forall_mem_cons.mpr ⟨wrr_wsX12_draws_wsX12_draws_r1 (i := 20) rfl, (List.forall_mem_cons.mpr ⟨wrr_wsX12_draws_wsX12_draws_r1 (i := 11) rfl, (fun _ h => absurd h List.not_mem_nil)⟩)⟩)⟩)⟩) (by decide +kernel)) ggX12_draws_X12_lengthOf
set_option maxRecDepth 20000 in
theorem gw_wsX12_slips : wsX12_slips.all goodWord = true := by decide +kernel
set_option maxRecDepth 20000 in
theorem ggX12_draws_X12_slips : GoodIn wsX12_draws wsX12_slips := goodIn_sub (List.forall_mem_cons.mpr ⟨wrr_wsX12_draws_wsX12_draws_r2 (i := 1) rfl, (List.forall_mem_append.mpr ⟨(List.forall_mem_cons.mpr ⟨wrr_wsX12_draws_wsX12_draws_r1 (i := 5) rfl, (List.forall_mem_cons.mpr ⟨wrr_wsX12_draws_wsX12_draws_r1 (i := 4) rfl, (List.forall_mem_cons.mpr ⟨wrr_wsX12_draws_wsX12_draws_r1 (i := 8) rfl, (List.forall_mem_cons.mpr ⟨wrr_wsX12_draws_wsX12_draws_r1 (i := 9) rfl, (List.forall_mem_cons.mpr ⟨wrr_wsX12_draws_wsX12_draws_r1 (i := 10) rfl, (List.forall_mem_cons.mpr ⟨wrr_wsX12_draws_wsX12_draws_r1 (i := 11) rfl, (List.forall_mem_cons.mpr ⟨wrr_wsX12_draws_wsX12_draws_r1 (i := 12) rfl, (List.forall_mem_cons.mpr ⟨wrr_wsX12_draws_wsX12_draws_r1 (i := 13) rfl, (List.forall_mem_cons.mpr ⟨wrr_wsX12_draws_wsX12_draws_r1 (i := 0) rfl, (List.forall_mem_cons.mpr ⟨wrr_wsX12_draws_wsX12_draws_r1 (i := 14) rfl, (List.forall_mem_cons.mpr ⟨wrr_wsX12_draws_wsX12_draws_r1 (i := 15) rfl, (List.forall_mem_cons.mpr ⟨wrr_wsX12_draws_wsX12_draws_r1 (i := 16) rfl, (List.forall_mem_cons.mpr ⟨wrr_wsX12_draws_wsX12_draws_r1 (i := 17) rfl, (fun _ h => absurd h List.not_mem_nil)⟩)⟩)⟩)⟩)⟩)⟩)⟩)⟩)⟩)⟩)⟩)⟩)⟩), wru_wsX12_draws_wsX120⟩)⟩) gw_wsX12_slips
set_option maxRecDepth 20000 in
theorem gX12_draws_X12_slips : GoodIn wsX12_draws (wsV RX12 459 RX12 yX12_slips wsX12_slips) := goodIn_app (goodIn_sub (List.forall_mem_cons.mpr ⟨wrr_wsX12_draws_wsX12_draws_r1 (i := 22) rfl, (List.forall_mem_cons.mpr ⟨wrr_wsX12_draws_wsX12_draws_r1 (i := 23) rfl, (List.forall_mem_cons.mpr ⟨wrr_wsX12_draws_wsX12_draws_r2 (i := 0) rfl, (List.forall_mem_cons.mpr ⟨wrr_wsX12_draws_wsX12_draws_r1 (i := 11) rfl, (fun _ h => absurd h List.not_mem_nil)⟩)⟩)⟩)⟩) (by decide +kernel)) ggX12_draws_X12_slips
set_option maxRecDepth 20000 in
theorem ggX12_draws_X12_isHole : GoodIn wsX12_draws wsX12_isHole := goodIn_sub (List.forall_mem_cons.mpr ⟨wrr_wsX12_draws_wsX12_draws_r2 (i := 5) rfl, (List.forall_mem_append.mpr ⟨(List.forall_mem_cons.mpr ⟨wrr_wsX12_draws_wsX12_draws_r1 (i := 6) rfl, (List.forall_mem_cons.mpr ⟨wrr_wsX12_draws_wsX12_draws_r2 (i := 6) rfl, (List.forall_mem_cons.mpr ⟨wrr_wsX12_draws_wsX12_draws_r2 (i := 7) rfl, (List.forall_mem_cons.mpr ⟨wrr_wsX12_draws_wsX12_draws_r2 (i := 8) rfl, (List.forall_mem_cons.mpr ⟨wrr_wsX12_draws_wsX12_draws_r1 (i := 11) rfl, (List.forall_mem_cons.mpr ⟨wrr_wsX12_draws_wsX12_draws_r2 (i := 9) rfl, (List.forall_mem_cons.mpr ⟨wrr_wsX12_draws_wsX12_draws_r1 (i := 5) rfl, (List.forall_mem_cons.mpr ⟨wrr_wsX12_draws_wsX12_draws_r2 (i := 10) rfl, (List.forall_mem_cons.mpr ⟨wrr_wsX12_draws_wsX12_draws_r2 (i := 11) rfl, (List.forall_mem_cons.mpr ⟨wrr_wsX12_draws_wsX12_draws_r2 (i := 12) rfl, (List.forall_mem_cons.mpr ⟨wrr_wsX12_draws_wsX12_draws_r2 (i := 13) rfl, (List.forall_mem_cons.mpr ⟨wrr_wsX12_draws_wsX12_draws_r2 (i := 14) rfl, (List.forall_mem_cons.mpr ⟨wrr_wsX12_draws_wsX12_draws_r2 (i := 15) rfl, (List.forall_mem_cons.mpr ⟨wrr_wsX12_draws_wsX12_draws_r2 (i := 16) rfl, (List.forall_mem_cons.mpr ⟨wrr_wsX12_draws_wsX12_draws_r2 (i := 17) rfl, (fun _ h => absurd h List.not_mem_nil)⟩)⟩)⟩)⟩)⟩)⟩)⟩)⟩)⟩)⟩)⟩)⟩)⟩)⟩)⟩), wru_wsX12_draws_wsX120⟩)⟩) gw_wsX12_isHole
set_option maxRecDepth 20000 in
theorem gX12_draws_X12_isHole : GoodIn wsX12_draws (wsV RX12 293 RX12 yX12_isHole wsX12_isHole) := goodIn_app (goodIn_sub (List.forall_mem_cons.mpr ⟨wrr_wsX12_draws_wsX12_draws_r2 (i := 2) rfl, (List.forall_mem_cons.mpr ⟨wrr_wsX12_draws_wsX12_draws_r2 (i := 3) rfl, (List.forall_mem_cons.mpr ⟨wrr_wsX12_draws_wsX12_draws_r2 (i := 4) rfl, (List.forall_mem_cons.mpr ⟨wrr_wsX12_draws_wsX12_draws_r1 (i := 11) rfl, (fun _ h => absurd h List.not_mem_nil)⟩)⟩)⟩)⟩) (by decide +kernel)) ggX12_draws_X12_isHole
theorem dX12_draws_0 : decode cX12_draws 0 = .ok (.aload_n 0, 1) := by decide +kernel
theorem dX12_draws_1 : decode cX12_draws 1 = .ok (.lload_n 1, 1) := by decide +kernel
theorem dX12_draws_2 : decode cX12_draws 2 = .ok (.putfield 435, 3) := by decide +kernel
theorem dX12_draws_5 : decode cX12_draws 5 = .ok (.aload_n 0, 1) := by decide +kernel
theorem dX12_draws_6 : decode cX12_draws 6 = .ok (.iconst 0, 1) := by decide +kernel
theorem dX12_draws_7 : decode cX12_draws 7 = .ok (.putfield 444, 3) := by decide +kernel
theorem dX12_draws_10 : decode cX12_draws 10 = .ok (.aload_n 0, 1) := by decide +kernel
theorem dX12_draws_11 : decode cX12_draws 11 = .ok (.iconst (-1), 1) := by decide +kernel
theorem dX12_draws_12 : decode cX12_draws 12 = .ok (.putfield 447, 3) := by decide +kernel
theorem dX12_draws_15 : decode cX12_draws 15 = .ok (.aload_n 0, 1) := by decide +kernel
theorem dX12_draws_16 : decode cX12_draws 16 = .ok (.iconst 0, 1) := by decide +kernel
theorem dX12_draws_17 : decode cX12_draws 17 = .ok (.putfield 450, 3) := by decide +kernel
theorem dX12_draws_20 : decode cX12_draws 20 = .ok (.aload_n 0, 1) := by decide +kernel
theorem dX12_draws_21 : decode cX12_draws 21 = .ok (.iconst 0, 1) := by decide +kernel
theorem dX12_draws_22 : decode cX12_draws 22 = .ok (.putfield 453, 3) := by decide +kernel
theorem dX12_draws_25 : decode cX12_draws 25 = .ok (.aload_n 0, 1) := by decide +kernel
theorem dX12_draws_26 : decode cX12_draws 26 = .ok (.getfield 34, 3) := by decide +kernel
theorem dX12_draws_29 : decode cX12_draws 29 = .ok (.iconst 5, 1) := by decide +kernel
theorem dX12_draws_30 : decode cX12_draws 30 = .ok (.iaload, 1) := by decide +kernel
theorem dX12_draws_31 : decode cX12_draws 31 = .ok (.istore 4, 2) := by decide +kernel
theorem dX12_draws_33 : decode cX12_draws 33 = .ok (.aload_n 0, 1) := by decide +kernel
theorem dX12_draws_34 : decode cX12_draws 34 = .ok (.getfield 34, 3) := by decide +kernel
theorem dX12_draws_37 : decode cX12_draws 37 = .ok (.bipush 6, 2) := by decide +kernel
theorem dX12_draws_39 : decode cX12_draws 39 = .ok (.iaload, 1) := by decide +kernel
theorem dX12_draws_40 : decode cX12_draws 40 = .ok (.istore 5, 2) := by decide +kernel
theorem dX12_draws_42 : decode cX12_draws 42 = .ok (.iconst 0, 1) := by decide +kernel
theorem dX12_draws_43 : decode cX12_draws 43 = .ok (.istore 6, 2) := by decide +kernel
theorem dX12_draws_45 : decode cX12_draws 45 = .ok (.iload 6, 2) := by decide +kernel
theorem dX12_draws_47 : decode cX12_draws 47 = .ok (.iload_n 3, 1) := by decide +kernel
theorem dX12_draws_48 : decode cX12_draws 48 = .ok (.if_icmp .ge 201, 3) := by decide +kernel
theorem dX12_draws_51 : decode cX12_draws 51 = .ok (.aload_n 0, 1) := by decide +kernel
theorem dX12_draws_52 : decode cX12_draws 52 = .ok (.getfield 68, 3) := by decide +kernel
theorem dX12_draws_55 : decode cX12_draws 55 = .ok (.iload 6, 2) := by decide +kernel
theorem dX12_draws_57 : decode cX12_draws 57 = .ok (.iconst (-1), 1) := by decide +kernel
theorem dX12_draws_58 : decode cX12_draws 58 = .ok (.iastore, 1) := by decide +kernel
theorem dX12_draws_59 : decode cX12_draws 59 = .ok (.aload_n 0, 1) := by decide +kernel
theorem dX12_draws_60 : decode cX12_draws 60 = .ok (.getfield 68, 3) := by decide +kernel
theorem dX12_draws_63 : decode cX12_draws 63 = .ok (.sipush 200, 3) := by decide +kernel
theorem dX12_draws_66 : decode cX12_draws 66 = .ok (.iload 6, 2) := by decide +kernel
theorem dX12_draws_68 : decode cX12_draws 68 = .ok (.iadd, 1) := by decide +kernel
theorem dX12_draws_69 : decode cX12_draws 69 = .ok (.iconst (-1), 1) := by decide +kernel
theorem dX12_draws_70 : decode cX12_draws 70 = .ok (.iastore, 1) := by decide +kernel
theorem dX12_draws_71 : decode cX12_draws 71 = .ok (.aload_n 0, 1) := by decide +kernel
theorem dX12_draws_72 : decode cX12_draws 72 = .ok (.aload_n 0, 1) := by decide +kernel
theorem dX12_draws_73 : decode cX12_draws 73 = .ok (.getfield 34, 3) := by decide +kernel
theorem dX12_draws_76 : decode cX12_draws 76 = .ok (.iconst 2, 1) := by decide +kernel
theorem dX12_draws_77 : decode cX12_draws 77 = .ok (.iaload, 1) := by decide +kernel
theorem dX12_draws_78 : decode cX12_draws 78 = .ok (.invokevirtual 456, 3) := by decide +kernel
theorem dX12_draws_81 : decode cX12_draws 81 = .ok (.ifCond .eq 16, 3) := by decide +kernel
theorem dX12_draws_84 : decode cX12_draws 84 = .ok (.aload_n 0, 1) := by decide +kernel
theorem dX12_draws_85 : decode cX12_draws 85 = .ok (.dup, 1) := by decide +kernel
theorem dX12_draws_86 : decode cX12_draws 86 = .ok (.getfield 450, 3) := by decide +kernel
theorem dX12_draws_89 : decode cX12_draws 89 = .ok (.iconst 1, 1) := by decide +kernel
theorem dX12_draws_90 : decode cX12_draws 90 = .ok (.iadd, 1) := by decide +kernel
theorem dX12_draws_91 : decode cX12_draws 91 = .ok (.putfield 450, 3) := by decide +kernel
theorem dX12_draws_94 : decode cX12_draws 94 = .ok (.goto 86, 3) := by decide +kernel
theorem dX12_draws_97 : decode cX12_draws 97 = .ok (.aload_n 0, 1) := by decide +kernel
theorem dX12_draws_98 : decode cX12_draws 98 = .ok (.iconst 0, 1) := by decide +kernel
theorem dX12_draws_99 : decode cX12_draws 99 = .ok (.invokevirtual 264, 3) := by decide +kernel
theorem dX12_draws_102 : decode cX12_draws 102 = .ok (.ifCond .le 33, 3) := by decide +kernel
theorem dX12_draws_105 : decode cX12_draws 105 = .ok (.aload_n 0, 1) := by decide +kernel
theorem dX12_draws_106 : decode cX12_draws 106 = .ok (.getfield 68, 3) := by decide +kernel
theorem dX12_draws_109 : decode cX12_draws 109 = .ok (.iload 6, 2) := by decide +kernel
theorem dX12_draws_111 : decode cX12_draws 111 = .ok (.aload_n 0, 1) := by decide +kernel
theorem dX12_draws_112 : decode cX12_draws 112 = .ok (.aload_n 0, 1) := by decide +kernel
theorem dX12_draws_113 : decode cX12_draws 113 = .ok (.getfield 37, 3) := by decide +kernel
theorem dX12_draws_116 : decode cX12_draws 116 = .ok (.iload 4, 2) := by decide +kernel
theorem dX12_draws_118 : decode cX12_draws 118 = .ok (.iaload, 1) := by decide +kernel
theorem dX12_draws_119 : decode cX12_draws 119 = .ok (.invokevirtual 459, 3) := by decide +kernel
theorem dX12_draws_122 : decode cX12_draws 122 = .ok (.iastore, 1) := by decide +kernel
theorem dX12_draws_123 : decode cX12_draws 123 = .ok (.iload 4, 2) := by decide +kernel
theorem dX12_draws_125 : decode cX12_draws 125 = .ok (.iconst 1, 1) := by decide +kernel
theorem dX12_draws_126 : decode cX12_draws 126 = .ok (.iadd, 1) := by decide +kernel
theorem dX12_draws_127 : decode cX12_draws 127 = .ok (.aload_n 0, 1) := by decide +kernel
theorem dX12_draws_128 : decode cX12_draws 128 = .ok (.iconst 0, 1) := by decide +kernel
theorem dX12_draws_129 : decode cX12_draws 129 = .ok (.invokevirtual 264, 3) := by decide +kernel
theorem dX12_draws_132 : decode cX12_draws 132 = .ok (.irem, 1) := by decide +kernel
theorem dX12_draws_133 : decode cX12_draws 133 = .ok (.istore 4, 2) := by decide +kernel
theorem dX12_draws_135 : decode cX12_draws 135 = .ok (.aload_n 0, 1) := by decide +kernel
theorem dX12_draws_136 : decode cX12_draws 136 = .ok (.iconst 1, 1) := by decide +kernel
theorem dX12_draws_137 : decode cX12_draws 137 = .ok (.invokevirtual 264, 3) := by decide +kernel
theorem dX12_draws_140 : decode cX12_draws 140 = .ok (.ifCond .le 40, 3) := by decide +kernel
theorem dX12_draws_143 : decode cX12_draws 143 = .ok (.aload_n 0, 1) := by decide +kernel
theorem dX12_draws_144 : decode cX12_draws 144 = .ok (.getfield 68, 3) := by decide +kernel
theorem dX12_draws_147 : decode cX12_draws 147 = .ok (.sipush 200, 3) := by decide +kernel
theorem dX12_draws_150 : decode cX12_draws 150 = .ok (.iload 6, 2) := by decide +kernel
theorem dX12_draws_152 : decode cX12_draws 152 = .ok (.iadd, 1) := by decide +kernel
theorem dX12_draws_153 : decode cX12_draws 153 = .ok (.aload_n 0, 1) := by decide +kernel
theorem dX12_draws_154 : decode cX12_draws 154 = .ok (.aload_n 0, 1) := by decide +kernel
theorem dX12_draws_155 : decode cX12_draws 155 = .ok (.getfield 37, 3) := by decide +kernel
theorem dX12_draws_158 : decode cX12_draws 158 = .ok (.bipush 12, 2) := by decide +kernel
theorem dX12_draws_160 : decode cX12_draws 160 = .ok (.iload 5, 2) := by decide +kernel
theorem dX12_draws_162 : decode cX12_draws 162 = .ok (.iadd, 1) := by decide +kernel
theorem dX12_draws_163 : decode cX12_draws 163 = .ok (.iaload, 1) := by decide +kernel
theorem dX12_draws_164 : decode cX12_draws 164 = .ok (.invokevirtual 459, 3) := by decide +kernel
theorem dX12_draws_167 : decode cX12_draws 167 = .ok (.iastore, 1) := by decide +kernel
theorem dX12_draws_168 : decode cX12_draws 168 = .ok (.iload 5, 2) := by decide +kernel
theorem dX12_draws_170 : decode cX12_draws 170 = .ok (.iconst 1, 1) := by decide +kernel
theorem dX12_draws_171 : decode cX12_draws 171 = .ok (.iadd, 1) := by decide +kernel
theorem dX12_draws_172 : decode cX12_draws 172 = .ok (.aload_n 0, 1) := by decide +kernel
theorem dX12_draws_173 : decode cX12_draws 173 = .ok (.iconst 1, 1) := by decide +kernel
theorem dX12_draws_174 : decode cX12_draws 174 = .ok (.invokevirtual 264, 3) := by decide +kernel
theorem dX12_draws_177 : decode cX12_draws 177 = .ok (.irem, 1) := by decide +kernel
theorem dX12_draws_178 : decode cX12_draws 178 = .ok (.istore 5, 2) := by decide +kernel
theorem dX12_draws_180 : decode cX12_draws 180 = .ok (.aload_n 0, 1) := by decide +kernel
theorem dX12_draws_181 : decode cX12_draws 181 = .ok (.iconst 0, 1) := by decide +kernel
theorem dX12_draws_182 : decode cX12_draws 182 = .ok (.iload 6, 2) := by decide +kernel
theorem dX12_draws_184 : decode cX12_draws 184 = .ok (.invokevirtual 293, 3) := by decide +kernel
theorem dX12_draws_187 : decode cX12_draws 187 = .ok (.ifCond .eq 7, 3) := by decide +kernel
theorem dX12_draws_190 : decode cX12_draws 190 = .ok (.iconst 1, 1) := by decide +kernel
theorem dX12_draws_191 : decode cX12_draws 191 = .ok (.goto 4, 3) := by decide +kernel
theorem dX12_draws_194 : decode cX12_draws 194 = .ok (.iconst 0, 1) := by decide +kernel
theorem dX12_draws_195 : decode cX12_draws 195 = .ok (.aload_n 0, 1) := by decide +kernel
theorem dX12_draws_196 : decode cX12_draws 196 = .ok (.iconst 1, 1) := by decide +kernel
theorem dX12_draws_197 : decode cX12_draws 197 = .ok (.iload 6, 2) := by decide +kernel
theorem dX12_draws_199 : decode cX12_draws 199 = .ok (.invokevirtual 293, 3) := by decide +kernel
theorem dX12_draws_202 : decode cX12_draws 202 = .ok (.ifCond .eq 7, 3) := by decide +kernel
theorem dX12_draws_205 : decode cX12_draws 205 = .ok (.iconst 1, 1) := by decide +kernel
theorem dX12_draws_206 : decode cX12_draws 206 = .ok (.goto 4, 3) := by decide +kernel
theorem dX12_draws_209 : decode cX12_draws 209 = .ok (.iconst 0, 1) := by decide +kernel
theorem dX12_draws_210 : decode cX12_draws 210 = .ok (.iadd, 1) := by decide +kernel
theorem dX12_draws_211 : decode cX12_draws 211 = .ok (.istore 7, 2) := by decide +kernel
theorem dX12_draws_213 : decode cX12_draws 213 = .ok (.aload_n 0, 1) := by decide +kernel
theorem dX12_draws_214 : decode cX12_draws 214 = .ok (.dup, 1) := by decide +kernel
theorem dX12_draws_215 : decode cX12_draws 215 = .ok (.getfield 444, 3) := by decide +kernel
theorem dX12_draws_218 : decode cX12_draws 218 = .ok (.iload 7, 2) := by decide +kernel
theorem dX12_draws_220 : decode cX12_draws 220 = .ok (.iadd, 1) := by decide +kernel
theorem dX12_draws_221 : decode cX12_draws 221 = .ok (.putfield 444, 3) := by decide +kernel
theorem dX12_draws_224 : decode cX12_draws 224 = .ok (.iload 7, 2) := by decide +kernel
theorem dX12_draws_226 : decode cX12_draws 226 = .ok (.ifCond .le 17, 3) := by decide +kernel
theorem dX12_draws_229 : decode cX12_draws 229 = .ok (.aload_n 0, 1) := by decide +kernel
theorem dX12_draws_230 : decode cX12_draws 230 = .ok (.getfield 447, 3) := by decide +kernel
theorem dX12_draws_233 : decode cX12_draws 233 = .ok (.iconst (-1), 1) := by decide +kernel
theorem dX12_draws_234 : decode cX12_draws 234 = .ok (.if_icmp .ne 9, 3) := by decide +kernel
theorem dX12_draws_237 : decode cX12_draws 237 = .ok (.aload_n 0, 1) := by decide +kernel
theorem dX12_draws_238 : decode cX12_draws 238 = .ok (.iload 6, 2) := by decide +kernel
theorem dX12_draws_240 : decode cX12_draws 240 = .ok (.putfield 447, 3) := by decide +kernel
theorem dX12_draws_243 : decode cX12_draws 243 = .ok (.iinc 6 1, 3) := by decide +kernel
theorem dX12_draws_246 : decode cX12_draws 246 = .ok (.goto (-201), 3) := by decide +kernel
theorem dX12_draws_249 : decode cX12_draws 249 = .ok (.return_, 1) := by decide +kernel
theorem wrr_wsX12_slips {i : Nat} {w : Cond} (h : wsX12_slips[i]? = some w) : w ∈ wsX12_slips := List.mem_of_getElem? h
theorem wru_wsX12_slips_wsX120 : ∀ w ∈ wsX120, w ∈ wsX12_slips := fun w h => (List.mem_cons_of_mem _ (List.mem_append_right _ h))
set_option maxRecDepth 20000 in
theorem ggX12_slips_X12_isBelow : GoodIn wsX12_slips wsX12_isBelow := goodIn_sub (List.forall_mem_cons.mpr ⟨wrr_wsX12_slips (i := 7) rfl, (List.forall_mem_append.mpr ⟨(List.forall_mem_cons.mpr ⟨wrr_wsX12_slips (i := 8) rfl, (List.forall_mem_cons.mpr ⟨wrr_wsX12_slips (i := 9) rfl, (List.forall_mem_cons.mpr ⟨wrr_wsX12_slips (i := 10) rfl, (List.forall_mem_cons.mpr ⟨wrr_wsX12_slips (i := 11) rfl, (List.forall_mem_cons.mpr ⟨wrr_wsX12_slips (i := 12) rfl, (List.forall_mem_cons.mpr ⟨wrr_wsX12_slips (i := 13) rfl, (fun _ h => absurd h List.not_mem_nil)⟩)⟩)⟩)⟩)⟩)⟩), wru_wsX12_slips_wsX120⟩)⟩) gw_wsX12_isBelow
set_option maxRecDepth 20000 in
theorem gX12_slips_X12_isBelow : GoodIn wsX12_slips (wsV RX12 456 RX12 yX12_isBelow wsX12_isBelow) := goodIn_app (goodIn_sub (List.forall_mem_cons.mpr ⟨wrr_wsX12_slips (i := 3) rfl, (List.forall_mem_cons.mpr ⟨wrr_wsX12_slips (i := 4) rfl, (List.forall_mem_cons.mpr ⟨wrr_wsX12_slips (i := 5) rfl, (List.forall_mem_cons.mpr ⟨wrr_wsX12_slips (i := 6) rfl, (fun _ h => absurd h List.not_mem_nil)⟩)⟩)⟩)⟩) (by decide +kernel)) ggX12_slips_X12_isBelow
theorem dX12_slips_0 : decode cX12_slips 0 = .ok (.aload_n 0, 1) := by decide +kernel
theorem dX12_slips_1 : decode cX12_slips 1 = .ok (.aload_n 0, 1) := by decide +kernel
theorem dX12_slips_2 : decode cX12_slips 2 = .ok (.getfield 34, 3) := by decide +kernel
theorem dX12_slips_5 : decode cX12_slips 5 = .ok (.iconst 1, 1) := by decide +kernel
theorem dX12_slips_6 : decode cX12_slips 6 = .ok (.iaload, 1) := by decide +kernel
theorem dX12_slips_7 : decode cX12_slips 7 = .ok (.invokevirtual 456, 3) := by decide +kernel
theorem dX12_slips_10 : decode cX12_slips 10 = .ok (.ifCond .ne 5, 3) := by decide +kernel
theorem dX12_slips_13 : decode cX12_slips 13 = .ok (.iload_n 1, 1) := by decide +kernel
theorem dX12_slips_14 : decode cX12_slips 14 = .ok (.ireturn, 1) := by decide +kernel
theorem dX12_slips_15 : decode cX12_slips 15 = .ok (.aload_n 0, 1) := by decide +kernel
theorem dX12_slips_16 : decode cX12_slips 16 = .ok (.dup, 1) := by decide +kernel
theorem dX12_slips_17 : decode cX12_slips 17 = .ok (.getfield 453, 3) := by decide +kernel
theorem dX12_slips_20 : decode cX12_slips 20 = .ok (.iconst 1, 1) := by decide +kernel
theorem dX12_slips_21 : decode cX12_slips 21 = .ok (.iadd, 1) := by decide +kernel
theorem dX12_slips_22 : decode cX12_slips 22 = .ok (.putfield 453, 3) := by decide +kernel
theorem dX12_slips_25 : decode cX12_slips 25 = .ok (.iload_n 1, 1) := by decide +kernel
theorem dX12_slips_26 : decode cX12_slips 26 = .ok (.iconst 1, 1) := by decide +kernel
theorem dX12_slips_27 : decode cX12_slips 27 = .ok (.iadd, 1) := by decide +kernel
theorem dX12_slips_28 : decode cX12_slips 28 = .ok (.bipush 6, 2) := by decide +kernel
theorem dX12_slips_30 : decode cX12_slips 30 = .ok (.irem, 1) := by decide +kernel
theorem dX12_slips_31 : decode cX12_slips 31 = .ok (.ireturn, 1) := by decide +kernel
theorem wrr_wsX12_isDraw {i : Nat} {w : Cond} (h : wsX12_isDraw[i]? = some w) : w ∈ wsX12_isDraw := List.mem_of_getElem? h
theorem wru_wsX12_isDraw_wsX120 : ∀ w ∈ wsX120, w ∈ wsX12_isDraw := fun w h => (List.mem_cons_of_mem _ (List.mem_append_right _ h))
set_option maxRecDepth 20000 in
theorem ggX12_isDraw_X12_isDance : GoodIn wsX12_isDraw wsX12_isDance := goodIn_sub (List.forall_mem_cons.mpr ⟨wrr_wsX12_isDraw (i := 7) rfl, (List.forall_mem_append.mpr ⟨(List.forall_mem_cons.mpr ⟨wrr_wsX12_isDraw (i := 8) rfl, (fun _ h => absurd h List.not_mem_nil)⟩), wru_wsX12_isDraw_wsX120⟩)⟩) gw_wsX12_isDance
set_option maxRecDepth 20000 in
theorem gX12_isDraw_X12_isDance : GoodIn wsX12_isDraw (wsV RX12 254 RX12 yX12_isDance wsX12_isDance) := goodIn_app (goodIn_sub (List.forall_mem_cons.mpr ⟨wrr_wsX12_isDraw (i := 3) rfl, (List.forall_mem_cons.mpr ⟨wrr_wsX12_isDraw (i := 4) rfl, (List.forall_mem_cons.mpr ⟨wrr_wsX12_isDraw (i := 5) rfl, (List.forall_mem_cons.mpr ⟨wrr_wsX12_isDraw (i := 6) rfl, (fun _ h => absurd h List.not_mem_nil)⟩)⟩)⟩)⟩) (by decide +kernel)) ggX12_isDraw_X12_isDance
set_option maxRecDepth 20000 in
theorem ggX12_isDraw_X12_in : GoodIn wsX12_isDraw wsX12_in := goodIn_sub (List.forall_mem_cons.mpr ⟨wrr_wsX12_isDraw (i := 11) rfl, (fun _ h => absurd h List.not_mem_nil)⟩) gw_wsX12_in
set_option maxRecDepth 20000 in
theorem gX12_isDraw_X12_in : GoodIn wsX12_isDraw (va_wsS RX12 85 yX12_in wsX12_in) := goodIn_app (goodIn_sub (List.forall_mem_cons.mpr ⟨wrr_wsX12_isDraw (i := 9) rfl, (List.forall_mem_cons.mpr ⟨wrr_wsX12_isDraw (i := 10) rfl, (List.forall_mem_cons.mpr ⟨wrr_wsX12_isDraw (i := 6) rfl, (fun _ h => absurd h List.not_mem_nil)⟩)⟩)⟩) (by decide +kernel)) ggX12_isDraw_X12_in
theorem dX12_isDraw_0 : decode cX12_isDraw 0 = .ok (.aload_n 0, 1) := by decide +kernel
theorem dX12_isDraw_1 : decode cX12_isDraw 1 = .ok (.invokevirtual 254, 3) := by decide +kernel
theorem dX12_isDraw_4 : decode cX12_isDraw 4 = .ok (.ifCond .eq 31, 3) := by decide +kernel
theorem dX12_isDraw_7 : decode cX12_isDraw 7 = .ok (.iload_n 1, 1) := by decide +kernel
theorem dX12_isDraw_8 : decode cX12_isDraw 8 = .ok (.i2l, 1) := by decide +kernel
theorem dX12_isDraw_9 : decode cX12_isDraw 9 = .ok (.lconst 0, 1) := by decide +kernel
theorem dX12_isDraw_10 : decode cX12_isDraw 10 = .ok (.ldc2_w 462, 3) := by decide +kernel
theorem dX12_isDraw_13 : decode cX12_isDraw 13 = .ok (.invokestatic 85, 3) := by decide +kernel
theorem dX12_isDraw_16 : decode cX12_isDraw 16 = .ok (.ifCond .eq 19, 3) := by decide +kernel
theorem dX12_isDraw_19 : decode cX12_isDraw 19 = .ok (.iload_n 2, 1) := by decide +kernel
theorem dX12_isDraw_20 : decode cX12_isDraw 20 = .ok (.i2l, 1) := by decide +kernel
theorem dX12_isDraw_21 : decode cX12_isDraw 21 = .ok (.lconst 1, 1) := by decide +kernel
theorem dX12_isDraw_22 : decode cX12_isDraw 22 = .ok (.ldc2_w 424, 3) := by decide +kernel
theorem dX12_isDraw_25 : decode cX12_isDraw 25 = .ok (.invokestatic 85, 3) := by decide +kernel
theorem dX12_isDraw_28 : decode cX12_isDraw 28 = .ok (.ifCond .eq 7, 3) := by decide +kernel
theorem dX12_isDraw_31 : decode cX12_isDraw 31 = .ok (.iconst 1, 1) := by decide +kernel
theorem dX12_isDraw_32 : decode cX12_isDraw 32 = .ok (.goto 4, 3) := by decide +kernel
theorem dX12_isDraw_35 : decode cX12_isDraw 35 = .ok (.iconst 0, 1) := by decide +kernel
theorem dX12_isDraw_36 : decode cX12_isDraw 36 = .ok (.ireturn, 1) := by decide +kernel
theorem wrr_wsX12_drawn {i : Nat} {w : Cond} (h : wsX12_drawn[i]? = some w) : w ∈ wsX12_drawn := List.mem_of_getElem? h
theorem wrr_wsX12_drawn_wsX12_drawn_r1 {i : Nat} {w : Cond} (h : wsX12_drawn_r1[i]? = some w) : w ∈ wsX12_drawn := (List.mem_cons_of_mem _ (List.mem_append_left _ (List.mem_append_left _ (List.mem_of_getElem? h))))
theorem wrr_wsX12_drawn_wsX12_drawn_r2 {i : Nat} {w : Cond} (h : wsX12_drawn_r2[i]? = some w) : w ∈ wsX12_drawn := (List.mem_cons_of_mem _ (List.mem_append_left _ (List.mem_append_right _ (List.mem_append_left _ (List.mem_of_getElem? h)))))
theorem wrr_wsX12_drawn_wsX12_drawn_r3 {i : Nat} {w : Cond} (h : wsX12_drawn_r3[i]? = some w) : w ∈ wsX12_drawn := (List.mem_cons_of_mem _ (List.mem_append_left _ (List.mem_append_right _ (List.mem_append_right _ (List.mem_of_getElem? h)))))
theorem wru_wsX12_drawn_wsX120 : ∀ w ∈ wsX120, w ∈ wsX12_drawn := fun w h => (List.mem_cons_of_mem _ (List.mem_append_right _ h))
set_option maxRecDepth 20000 in
theorem gw_wsX12_isDraw : wsX12_isDraw.all goodWord = true := by decide +kernel
set_option maxRecDepth 20000 in
theorem ggX12_drawn_X12_isDraw : GoodIn wsX12_drawn wsX12_isDraw := goodIn_sub (List.forall_mem_cons.mpr ⟨wrr_wsX12_drawn_wsX12_drawn_r1 (i := 10) rfl, (List.forall_mem_append.mpr ⟨(List.forall_mem_cons.mpr ⟨wrr_wsX12_drawn_wsX12_drawn_r1 (i := 11) rfl, (List.forall_mem_cons.mpr ⟨wrr_wsX12_drawn_wsX12_drawn_r1 (i := 12) rfl, (List.forall_mem_cons.mpr ⟨wrr_wsX12_drawn_wsX12_drawn_r1 (i := 13) rfl, (List.forall_mem_cons.mpr ⟨wrr_wsX12_drawn_wsX12_drawn_r1 (i := 14) rfl, (List.forall_mem_cons.mpr ⟨wrr_wsX12_drawn_wsX12_drawn_r1 (i := 15) rfl, (List.forall_mem_cons.mpr ⟨wrr_wsX12_drawn_wsX12_drawn_r1 (i := 9) rfl, (List.forall_mem_cons.mpr ⟨wrr_wsX12_drawn_wsX12_drawn_r1 (i := 16) rfl, (List.forall_mem_cons.mpr ⟨wrr_wsX12_drawn_wsX12_drawn_r1 (i := 17) rfl, (List.forall_mem_cons.mpr ⟨wrr_wsX12_drawn_wsX12_drawn_r1 (i := 18) rfl, (List.forall_mem_cons.mpr ⟨wrr_wsX12_drawn_wsX12_drawn_r1 (i := 19) rfl, (List.forall_mem_cons.mpr ⟨wrr_wsX12_drawn_wsX12_drawn_r1 (i := 20) rfl, (fun _ h => absurd h List.not_mem_nil)⟩)⟩)⟩)⟩)⟩)⟩)⟩)⟩)⟩)⟩)⟩), wru_wsX12_drawn_wsX120⟩)⟩) gw_wsX12_isDraw
set_option maxRecDepth 20000 in
theorem gX12_drawn_X12_isDraw : GoodIn wsX12_drawn (wsV RX12 464 RX12 yX12_isDraw wsX12_isDraw) := goodIn_app (goodIn_sub (List.forall_mem_cons.mpr ⟨wrr_wsX12_drawn_wsX12_drawn_r1 (i := 6) rfl, (List.forall_mem_cons.mpr ⟨wrr_wsX12_drawn_wsX12_drawn_r1 (i := 7) rfl, (List.forall_mem_cons.mpr ⟨wrr_wsX12_drawn_wsX12_drawn_r1 (i := 8) rfl, (List.forall_mem_cons.mpr ⟨wrr_wsX12_drawn_wsX12_drawn_r1 (i := 9) rfl, (fun _ h => absurd h List.not_mem_nil)⟩)⟩)⟩)⟩) (by decide +kernel)) ggX12_drawn_X12_isDraw
set_option maxRecDepth 20000 in
theorem ggX12_drawn_X12_in : GoodIn wsX12_drawn wsX12_in := goodIn_sub (List.forall_mem_cons.mpr ⟨wrr_wsX12_drawn_wsX12_drawn_r1 (i := 20) rfl, (fun _ h => absurd h List.not_mem_nil)⟩) gw_wsX12_in
set_option maxRecDepth 20000 in
theorem gX12_drawn_X12_in : GoodIn wsX12_drawn (va_wsS RX12 85 yX12_in wsX12_in) := goodIn_app (goodIn_sub (List.forall_mem_cons.mpr ⟨wrr_wsX12_drawn_wsX12_drawn_r1 (i := 18) rfl, (List.forall_mem_cons.mpr ⟨wrr_wsX12_drawn_wsX12_drawn_r1 (i := 19) rfl, (List.forall_mem_cons.mpr ⟨wrr_wsX12_drawn_wsX12_drawn_r1 (i := 9) rfl, (fun _ h => absurd h List.not_mem_nil)⟩)⟩)⟩) (by decide +kernel)) ggX12_drawn_X12_in
set_option maxRecDepth 20000 in
theorem gw_wsX12_draws : wsX12_draws.all goodWord = true := by decide +kernel
set_option maxRecDepth 20000 in
theorem ggX12_drawn_X12_draws : GoodIn wsX12_drawn wsX12_draws := goodIn_sub (List.forall_mem_cons.mpr ⟨wrr_wsX12_drawn_wsX12_drawn_r2 (i := 0) rfl, (List.forall_mem_append.mpr ⟨(List.forall_mem_append.mpr ⟨(List.forall_mem_cons.mpr ⟨wrr_wsX12_drawn_wsX12_drawn_r2 (i := 1) rfl, (List.forall_mem_cons.mpr ⟨wrr_wsX12_drawn_wsX12_drawn_r1 (i := 2) rfl, (List.forall_mem_cons.mpr ⟨wrr_wsX12_drawn_wsX12_drawn_r1 (i := 3) rfl, (List.forall_mem_cons.mpr ⟨wrr_wsX12_drawn_wsX12_drawn_r1 (i := 4) rfl, (List.forall_mem_cons.mpr ⟨wrr_wsX12_drawn_wsX12_drawn_r1 (i := 5) rfl, (List.forall_mem_cons.mpr ⟨wrr_wsX12_drawn_wsX12_drawn_r2 (i := 2) rfl, (List.forall_mem_cons.mpr ⟨wrr_wsX12_drawn_wsX12_drawn_r2 (i := 3) rfl, (List.forall_mem_cons.mpr ⟨wrr_wsX12_drawn_wsX12_drawn_r2 (i := 4) rfl, (List.forall_mem_cons.mpr ⟨wrr_wsX12_drawn_wsX12_drawn_r2 (i := 5) rfl, (List.forall_mem_cons.mpr ⟨wrr_wsX12_drawn_wsX12_drawn_r2 (i := 6) rfl, (List.forall_mem_cons.mpr ⟨wrr_wsX12_drawn_wsX12_drawn_r2 (i := 7) rfl, (List.forall_mem_cons.mpr ⟨wrr_wsX12_drawn_wsX12_drawn_r1 (i := 9) rfl, (List.forall_mem_cons.mpr ⟨wrr_wsX12_drawn_wsX12_drawn_r2 (i := 8) rfl, (List.forall_mem_cons.mpr ⟨wrr_wsX12_drawn_wsX12_drawn_r2 (i := 9) rfl, (List.forall_mem_cons.mpr ⟨wrr_wsX12_drawn_wsX12_drawn_r2 (i := 10) rfl, (List.forall_mem_cons.mpr ⟨wrr_wsX12_drawn_wsX12_drawn_r2 (i := 11) rfl, (List.forall_mem_cons.mpr ⟨wrr_wsX12_drawn_wsX12_drawn_r2 (i := 12) rfl, (List.forall_mem_cons.mpr ⟨wrr_wsX12_drawn_wsX12_drawn_r1 (i := 12) rfl, (List.forall_mem_cons.mpr ⟨wrr_wsX12_drawn_wsX12_drawn_r2 (i := 13) rfl, (List.forall_mem_cons.mpr ⟨wrr_wsX12_drawn_wsX12_drawn_r2 (i := 14) rfl, (List.forall_mem_cons.mpr ⟨wrr_wsX12_drawn_wsX12_drawn_r2 (i := 15) rfl, (List.forall_mem_cons.mpr ⟨wrr_wsX12_drawn_wsX12_drawn_r2 (i := 16) rfl, (List.forall_mem_cons.mpr ⟨wrr_wsX12_drawn_wsX12_drawn_r2 (i := 17) rfl, (List.forall_mem_cons.mpr ⟨wrr_wsX12_drawn_wsX12_drawn_r2 (i := 18) rfl, (fun _ h => absurd h List.not_mem_nil)⟩)⟩)⟩)⟩)⟩)⟩)⟩)⟩)⟩)⟩)⟩)⟩)⟩)⟩)⟩)⟩)⟩)⟩)⟩)⟩)⟩)⟩)⟩)⟩), (List.forall_mem_cons.mpr ⟨wrr_wsX12_drawn_wsX12_drawn_r2 (i := 19) rfl, (List.forall_mem_cons.mpr ⟨wrr_wsX12_drawn_wsX12_drawn_r2 (i := 20) rfl, (List.forall_mem_cons.mpr ⟨wrr_wsX12_drawn_wsX12_drawn_r2 (i := 21) rfl, (List.forall_mem_cons.mpr ⟨wrr_wsX12_drawn_wsX12_drawn_r2 (i := 22) rfl, (List.forall_mem_cons.mpr ⟨wrr_wsX12_drawn_wsX12_drawn_r2 (i := 23) rfl, (List.forall_mem_cons.mpr ⟨wrr_wsX12_drawn_wsX12_drawn_r3 (i := 0) rfl, (List.forall_mem_cons.mpr ⟨wrr_wsX12_drawn_wsX12_drawn_r3 (i := 1) rfl, (List.forall_mem_cons.mpr ⟨wrr_wsX12_drawn_wsX12_drawn_r3 (i := 2) rfl, (List.forall_mem_cons.mpr ⟨wrr_wsX12_drawn_wsX12_drawn_r3 (i := 3) rfl, (List.forall_mem_cons.mpr ⟨wrr_wsX12_drawn_wsX12_drawn_r3 (i := 4) rfl, (List.forall_mem_cons.mpr ⟨wrr_wsX12_drawn_wsX12_drawn_r3 (i := 5) rfl, (List.forall_mem_cons.mpr ⟨wrr_wsX12_drawn_wsX12_drawn_r3 (i := 6) rfl, (List.forall_mem_cons.mpr ⟨wrr_wsX12_drawn_wsX12_drawn_r3 (i := 7) rfl, (List.forall_mem_cons.mpr ⟨wrr_wsX12_drawn_wsX12_drawn_r3 (i := 8) rfl, (List.forall_mem_cons.mpr ⟨wrr_wsX12_drawn_wsX12_drawn_r3 (i := 9) rfl, (List.forall_mem_cons.mpr ⟨wrr_wsX12_drawn_wsX12_drawn_r3 (i := 10) rfl, (List.forall_mem_cons.mpr ⟨wrr_wsX12_drawn_wsX12_drawn_r3 (i := 11) rfl, (List.forall_mem_cons.mpr ⟨wrr_wsX12_drawn_wsX12_drawn_r3 (i := 12) rfl, (fun _ h => absurd h List.not_mem_nil)⟩)⟩)⟩)⟩)⟩)⟩)⟩)⟩)⟩)⟩)⟩)⟩)⟩)⟩)⟩)⟩)⟩)⟩)⟩), wru_wsX12_drawn_wsX120⟩)⟩) gw_wsX12_draws
set_option maxRecDepth 20000 in
theorem gX12_drawn_X12_draws : GoodIn wsX12_drawn (wsV RX12 467 RX12 yX12_draws wsX12_draws) := goodIn_app (goodIn_sub (List.forall_mem_cons.mpr ⟨wrr_wsX12_drawn_wsX12_drawn_r1 (i := 21) rfl, (List.forall_mem_cons.mpr ⟨wrr_wsX12_drawn_wsX12_drawn_r1 (i := 22) rfl, (List.forall_mem_cons.mpr ⟨wrr_wsX12_drawn_wsX12_drawn_r1 (i := 23) rfl, (List.forall_mem_cons.mpr ⟨wrr_wsX12_drawn_wsX12_drawn_r1 (i := 9) rfl, (fun _ h => absurd h List.not_mem_nil)⟩)⟩)⟩)⟩) (by decide +kernel)) ggX12_drawn_X12_draws
theorem dX12_drawn_0 : decode cX12_drawn 0 = .ok (.aload_n 0, 1) := by decide +kernel
theorem dX12_drawn_1 : decode cX12_drawn 1 = .ok (.iconst 0, 1) := by decide +kernel
theorem dX12_drawn_2 : decode cX12_drawn 2 = .ok (.putfield 80, 3) := by decide +kernel
theorem dX12_drawn_5 : decode cX12_drawn 5 = .ok (.aload_n 0, 1) := by decide +kernel
theorem dX12_drawn_6 : decode cX12_drawn 6 = .ok (.iload_n 1, 1) := by decide +kernel
theorem dX12_drawn_7 : decode cX12_drawn 7 = .ok (.iload_n 2, 1) := by decide +kernel
theorem dX12_drawn_8 : decode cX12_drawn 8 = .ok (.invokevirtual 464, 3) := by decide +kernel
theorem dX12_drawn_11 : decode cX12_drawn 11 = .ok (.ifCond .eq 15, 3) := by decide +kernel
theorem dX12_drawn_14 : decode cX12_drawn 14 = .ok (.iload_n 3, 1) := by decide +kernel
theorem dX12_drawn_15 : decode cX12_drawn 15 = .ok (.i2l, 1) := by decide +kernel
theorem dX12_drawn_16 : decode cX12_drawn 16 = .ok (.lconst 0, 1) := by decide +kernel
theorem dX12_drawn_17 : decode cX12_drawn 17 = .ok (.ldc2_w 83, 3) := by decide +kernel
theorem dX12_drawn_20 : decode cX12_drawn 20 = .ok (.invokestatic 85, 3) := by decide +kernel
theorem dX12_drawn_23 : decode cX12_drawn 23 = .ok (.ifCond .ne 6, 3) := by decide +kernel
theorem dX12_drawn_26 : decode cX12_drawn 26 = .ok (.bipush (-2), 2) := by decide +kernel
theorem dX12_drawn_28 : decode cX12_drawn 28 = .ok (.ireturn, 1) := by decide +kernel
theorem dX12_drawn_29 : decode cX12_drawn 29 = .ok (.aload_n 0, 1) := by decide +kernel
theorem dX12_drawn_30 : decode cX12_drawn 30 = .ok (.iload_n 1, 1) := by decide +kernel
theorem dX12_drawn_31 : decode cX12_drawn 31 = .ok (.i2l, 1) := by decide +kernel
theorem dX12_drawn_32 : decode cX12_drawn 32 = .ok (.iload_n 2, 1) := by decide +kernel
theorem dX12_drawn_33 : decode cX12_drawn 33 = .ok (.invokevirtual 467, 3) := by decide +kernel
theorem dX12_drawn_36 : decode cX12_drawn 36 = .ok (.iload_n 3, 1) := by decide +kernel
theorem dX12_drawn_37 : decode cX12_drawn 37 = .ok (.ifCond .ne 10, 3) := by decide +kernel
theorem dX12_drawn_40 : decode cX12_drawn 40 = .ok (.aload_n 0, 1) := by decide +kernel
theorem dX12_drawn_41 : decode cX12_drawn 41 = .ok (.getfield 444, 3) := by decide +kernel
theorem dX12_drawn_44 : decode cX12_drawn 44 = .ok (.goto 31, 3) := by decide +kernel
theorem dX12_drawn_47 : decode cX12_drawn 47 = .ok (.iload_n 3, 1) := by decide +kernel
theorem dX12_drawn_48 : decode cX12_drawn 48 = .ok (.iconst 1, 1) := by decide +kernel
theorem dX12_drawn_49 : decode cX12_drawn 49 = .ok (.if_icmp .ne 10, 3) := by decide +kernel
theorem dX12_drawn_52 : decode cX12_drawn 52 = .ok (.aload_n 0, 1) := by decide +kernel
theorem dX12_drawn_53 : decode cX12_drawn 53 = .ok (.getfield 447, 3) := by decide +kernel
theorem dX12_drawn_56 : decode cX12_drawn 56 = .ok (.goto 19, 3) := by decide +kernel
theorem dX12_drawn_59 : decode cX12_drawn 59 = .ok (.iload_n 3, 1) := by decide +kernel
theorem dX12_drawn_60 : decode cX12_drawn 60 = .ok (.iconst 2, 1) := by decide +kernel
theorem dX12_drawn_61 : decode cX12_drawn 61 = .ok (.if_icmp .ne 10, 3) := by decide +kernel
theorem dX12_drawn_64 : decode cX12_drawn 64 = .ok (.aload_n 0, 1) := by decide +kernel
theorem dX12_drawn_65 : decode cX12_drawn 65 = .ok (.getfield 450, 3) := by decide +kernel
theorem dX12_drawn_68 : decode cX12_drawn 68 = .ok (.goto 7, 3) := by decide +kernel
theorem dX12_drawn_71 : decode cX12_drawn 71 = .ok (.aload_n 0, 1) := by decide +kernel
theorem dX12_drawn_72 : decode cX12_drawn 72 = .ok (.getfield 453, 3) := by decide +kernel
theorem dX12_drawn_75 : decode cX12_drawn 75 = .ok (.ireturn, 1) := by decide +kernel
theorem wrr_wsX12_nights {i : Nat} {w : Cond} (h : wsX12_nights[i]? = some w) : w ∈ wsX12_nights := List.mem_of_getElem? h
theorem wrr_wsX12_nights_wsX12_nights_r1 {i : Nat} {w : Cond} (h : wsX12_nights_r1[i]? = some w) : w ∈ wsX12_nights := (List.mem_cons_of_mem _ (List.mem_append_left _ (List.mem_append_left _ (List.mem_of_getElem? h))))
theorem wrr_wsX12_nights_wsX12_nights_r2 {i : Nat} {w : Cond} (h : wsX12_nights_r2[i]? = some w) : w ∈ wsX12_nights := (List.mem_cons_of_mem _ (List.mem_append_left _ (List.mem_append_right _ (List.mem_append_left _ (List.mem_of_getElem? h)))))
theorem wrr_wsX12_nights_wsX12_nights_r3 {i : Nat} {w : Cond} (h : wsX12_nights_r3[i]? = some w) : w ∈ wsX12_nights := (List.mem_cons_of_mem _ (List.mem_append_left _ (List.mem_append_right _ (List.mem_append_right _ (List.mem_of_getElem? h)))))
theorem wru_wsX12_nights_wsX120 : ∀ w ∈ wsX120, w ∈ wsX12_nights := fun w h => (List.mem_cons_of_mem _ (List.mem_append_right _ h))
set_option maxRecDepth 20000 in
theorem ggX12_nights_X12_isDraw : GoodIn wsX12_nights wsX12_isDraw := goodIn_sub (List.forall_mem_cons.mpr ⟨wrr_wsX12_nights_wsX12_nights_r1 (i := 7) rfl, (List.forall_mem_append.mpr ⟨(List.forall_mem_cons.mpr ⟨wrr_wsX12_nights_wsX12_nights_r1 (i := 8) rfl, (List.forall_mem_cons.mpr ⟨wrr_wsX12_nights_wsX12_nights_r1 (i := 9) rfl, (List.forall_mem_cons.mpr ⟨wrr_wsX12_nights_wsX12_nights_r1 (i := 10) rfl, (List.forall_mem_cons.mpr ⟨wrr_wsX12_nights_wsX12_nights_r1 (i := 11) rfl, (List.forall_mem_cons.mpr ⟨wrr_wsX12_nights_wsX12_nights_r1 (i := 12) rfl, (List.forall_mem_cons.mpr ⟨wrr_wsX12_nights_wsX12_nights_r1 (i := 6) rfl, (List.forall_mem_cons.mpr ⟨wrr_wsX12_nights_wsX12_nights_r1 (i := 13) rfl, (List.forall_mem_cons.mpr ⟨wrr_wsX12_nights_wsX12_nights_r1 (i := 14) rfl, (List.forall_mem_cons.mpr ⟨wrr_wsX12_nights_wsX12_nights_r1 (i := 15) rfl, (List.forall_mem_cons.mpr ⟨wrr_wsX12_nights_wsX12_nights_r1 (i := 16) rfl, (List.forall_mem_cons.mpr ⟨wrr_wsX12_nights_wsX12_nights_r1 (i := 17) rfl, (fun _ h => absurd h List.not_mem_nil)⟩)⟩)⟩)⟩)⟩)⟩)⟩)⟩)⟩)⟩)⟩), wru_wsX12_nights_wsX120⟩)⟩) gw_wsX12_isDraw
set_option maxRecDepth 20000 in
theorem gX12_nights_X12_isDraw : GoodIn wsX12_nights (wsV RX12 464 RX12 yX12_isDraw wsX12_isDraw) := goodIn_app (goodIn_sub (List.forall_mem_cons.mpr ⟨wrr_wsX12_nights_wsX12_nights_r1 (i := 3) rfl, (List.forall_mem_cons.mpr ⟨wrr_wsX12_nights_wsX12_nights_r1 (i := 4) rfl, (List.forall_mem_cons.mpr ⟨wrr_wsX12_nights_wsX12_nights_r1 (i := 5) rfl, (List.forall_mem_cons.mpr ⟨wrr_wsX12_nights_wsX12_nights_r1 (i := 6) rfl, (fun _ h => absurd h List.not_mem_nil)⟩)⟩)⟩)⟩) (by decide +kernel)) ggX12_nights_X12_isDraw
set_option maxRecDepth 20000 in
theorem ggX12_nights_X12_in : GoodIn wsX12_nights wsX12_in := goodIn_sub (List.forall_mem_cons.mpr ⟨wrr_wsX12_nights_wsX12_nights_r1 (i := 17) rfl, (fun _ h => absurd h List.not_mem_nil)⟩) gw_wsX12_in
set_option maxRecDepth 20000 in
theorem gX12_nights_X12_in : GoodIn wsX12_nights (va_wsS RX12 85 yX12_in wsX12_in) := goodIn_app (goodIn_sub (List.forall_mem_cons.mpr ⟨wrr_wsX12_nights_wsX12_nights_r1 (i := 15) rfl, (List.forall_mem_cons.mpr ⟨wrr_wsX12_nights_wsX12_nights_r1 (i := 16) rfl, (List.forall_mem_cons.mpr ⟨wrr_wsX12_nights_wsX12_nights_r1 (i := 6) rfl, (fun _ h => absurd h List.not_mem_nil)⟩)⟩)⟩) (by decide +kernel)) ggX12_nights_X12_in
set_option maxRecDepth 20000 in
theorem ggX12_nights_X12_draws : GoodIn wsX12_nights wsX12_draws := goodIn_sub (List.forall_mem_cons.mpr ⟨wrr_wsX12_nights_wsX12_nights_r1 (i := 21) rfl, (List.forall_mem_append.mpr ⟨(List.forall_mem_append.mpr ⟨(List.forall_mem_cons.mpr ⟨wrr_wsX12_nights_wsX12_nights_r1 (i := 22) rfl, (List.forall_mem_cons.mpr ⟨wrr_wsX12_nights_wsX12_nights_r1 (i := 2) rfl, (List.forall_mem_cons.mpr ⟨wrr_wsX12_nights_wsX12_nights_r1 (i := 23) rfl, (List.forall_mem_cons.mpr ⟨wrr_wsX12_nights_wsX12_nights_r2 (i := 0) rfl, (List.forall_mem_cons.mpr ⟨wrr_wsX12_nights_wsX12_nights_r2 (i := 1) rfl, (List.forall_mem_cons.mpr ⟨wrr_wsX12_nights_wsX12_nights_r2 (i := 2) rfl, (List.forall_mem_cons.mpr ⟨wrr_wsX12_nights_wsX12_nights_r2 (i := 3) rfl, (List.forall_mem_cons.mpr ⟨wrr_wsX12_nights_wsX12_nights_r2 (i := 4) rfl, (List.forall_mem_cons.mpr ⟨wrr_wsX12_nights_wsX12_nights_r2 (i := 5) rfl, (List.forall_mem_cons.mpr ⟨wrr_wsX12_nights_wsX12_nights_r2 (i := 6) rfl, (List.forall_mem_cons.mpr ⟨wrr_wsX12_nights_wsX12_nights_r2 (i := 7) rfl, (List.forall_mem_cons.mpr ⟨wrr_wsX12_nights_wsX12_nights_r1 (i := 6) rfl, (List.forall_mem_cons.mpr ⟨wrr_wsX12_nights_wsX12_nights_r2 (i := 8) rfl, (List.forall_mem_cons.mpr ⟨wrr_wsX12_nights_wsX12_nights_r2 (i := 9) rfl, (List.forall_mem_cons.mpr ⟨wrr_wsX12_nights_wsX12_nights_r2 (i := 10) rfl, (List.forall_mem_cons.mpr ⟨wrr_wsX12_nights_wsX12_nights_r2 (i := 11) rfl, (List.forall_mem_cons.mpr ⟨wrr_wsX12_nights_wsX12_nights_r2 (i := 12) rfl, (List.forall_mem_cons.mpr ⟨wrr_wsX12_nights_wsX12_nights_r1 (i := 9) rfl, (List.forall_mem_cons.mpr ⟨wrr_wsX12_nights_wsX12_nights_r2 (i := 13) rfl, (List.forall_mem_cons.mpr ⟨wrr_wsX12_nights_wsX12_nights_r2 (i := 14) rfl, (List.forall_mem_cons.mpr ⟨wrr_wsX12_nights_wsX12_nights_r2 (i := 15) rfl, (List.forall_mem_cons.mpr ⟨wrr_wsX12_nights_wsX12_nights_r2 (i := 16) rfl, (List.forall_mem_cons.mpr ⟨wrr_wsX12_nights_wsX12_nights_r2 (i := 17) rfl, (List.forall_mem_cons.mpr ⟨wrr_wsX12_nights_wsX12_nights_r2 (i := 18) rfl, (fun _ h => absurd h List.not_mem_nil)⟩)⟩)⟩)⟩)⟩)⟩)⟩)⟩)⟩)⟩)⟩)⟩)⟩)⟩)⟩)⟩)⟩)⟩)⟩)⟩)⟩)⟩)⟩)⟩), (List.forall_mem_cons.mpr ⟨wrr_wsX12_nights_wsX12_nights_r2 (i := 19) rfl, (List.forall_mem_cons.mpr ⟨wrr_wsX12_nights_wsX12_nights_r2 (i := 20) rfl, (List.forall_mem_cons.mpr ⟨wrr_wsX12_nights_wsX12_nights_r2 (i := 21) rfl, (List.forall_mem_cons.mpr ⟨wrr_wsX12_nights_wsX12_nights_r2 (i := 22) rfl, (List.forall_mem_cons.mpr ⟨wrr_wsX12_nights_wsX12_nights_r2 (i := 23) rfl, (List.forall_mem_cons.mpr ⟨wrr_wsX12_nights_wsX12_nights_r3 (i := 0) rfl, (List.forall_mem_cons.mpr ⟨wrr_wsX12_nights_wsX12_nights_r3 (i := 1) rfl, (List.forall_mem_cons.mpr ⟨wrr_wsX12_nights_wsX12_nights_r3 (i := 2) rfl, (List.forall_mem_cons.mpr ⟨wrr_wsX12_nights_wsX12_nights_r3 (i := 3) rfl, (List.forall_mem_cons.mpr ⟨wrr_wsX12_nights_wsX12_nights_r3 (i := 4) rfl, (List.forall_mem_cons.mpr ⟨wrr_wsX12_nights_wsX12_nights_r3 (i := 5) rfl, (List.forall_mem_cons.mpr ⟨wrr_wsX12_nights_wsX12_nights_r3 (i := 6) rfl, (List.forall_mem_cons.mpr ⟨wrr_wsX12_nights_wsX12_nights_r3 (i := 7) rfl, (List.forall_mem_cons.mpr ⟨wrr_wsX12_nights_wsX12_nights_r3 (i := 8) rfl, (List.forall_mem_cons.mpr ⟨wrr_wsX12_nights_wsX12_nights_r3 (i := 9) rfl, (List.forall_mem_cons.mpr ⟨wrr_wsX12_nights_wsX12_nights_r3 (i := 10) rfl, (List.forall_mem_cons.mpr ⟨wrr_wsX12_nights_wsX12_nights_r3 (i := 11) rfl, (List.forall_mem_cons.mpr ⟨wrr_wsX12_nights_wsX12_nights_r3 (i := 12) rfl, (fun _ h => absurd h List.not_mem_nil)⟩)⟩)⟩)⟩)⟩)⟩)⟩)⟩)⟩)⟩)⟩)⟩)⟩)⟩)⟩)⟩)⟩)⟩)⟩), wru_wsX12_nights_wsX120⟩)⟩) gw_wsX12_draws
set_option maxRecDepth 20000 in
theorem gX12_nights_X12_draws : GoodIn wsX12_nights (wsV RX12 467 RX12 yX12_draws wsX12_draws) := goodIn_app (goodIn_sub (List.forall_mem_cons.mpr ⟨wrr_wsX12_nights_wsX12_nights_r1 (i := 18) rfl, (List.forall_mem_cons.mpr ⟨wrr_wsX12_nights_wsX12_nights_r1 (i := 19) rfl, (List.forall_mem_cons.mpr ⟨wrr_wsX12_nights_wsX12_nights_r1 (i := 20) rfl, (List.forall_mem_cons.mpr ⟨wrr_wsX12_nights_wsX12_nights_r1 (i := 6) rfl, (fun _ h => absurd h List.not_mem_nil)⟩)⟩)⟩)⟩) (by decide +kernel)) ggX12_nights_X12_draws
theorem dX12_nights_0 : decode cX12_nights 0 = .ok (.aload_n 0, 1) := by decide +kernel
theorem dX12_nights_1 : decode cX12_nights 1 = .ok (.iconst 0, 1) := by decide +kernel
theorem dX12_nights_2 : decode cX12_nights 2 = .ok (.putfield 80, 3) := by decide +kernel
theorem dX12_nights_5 : decode cX12_nights 5 = .ok (.aload_n 0, 1) := by decide +kernel
theorem dX12_nights_6 : decode cX12_nights 6 = .ok (.iload_n 1, 1) := by decide +kernel
theorem dX12_nights_7 : decode cX12_nights 7 = .ok (.iload_n 3, 1) := by decide +kernel
theorem dX12_nights_8 : decode cX12_nights 8 = .ok (.invokevirtual 464, 3) := by decide +kernel
theorem dX12_nights_11 : decode cX12_nights 11 = .ok (.ifCond .eq 15, 3) := by decide +kernel
theorem dX12_nights_14 : decode cX12_nights 14 = .ok (.iload_n 2, 1) := by decide +kernel
theorem dX12_nights_15 : decode cX12_nights 15 = .ok (.i2l, 1) := by decide +kernel
theorem dX12_nights_16 : decode cX12_nights 16 = .ok (.lconst 1, 1) := by decide +kernel
theorem dX12_nights_17 : decode cX12_nights 17 = .ok (.ldc2_w 471, 3) := by decide +kernel
theorem dX12_nights_20 : decode cX12_nights 20 = .ok (.invokestatic 85, 3) := by decide +kernel
theorem dX12_nights_23 : decode cX12_nights 23 = .ok (.ifCond .ne 6, 3) := by decide +kernel
theorem dX12_nights_26 : decode cX12_nights 26 = .ok (.bipush (-2), 2) := by decide +kernel
theorem dX12_nights_28 : decode cX12_nights 28 = .ok (.ireturn, 1) := by decide +kernel
theorem dX12_nights_29 : decode cX12_nights 29 = .ok (.iconst 0, 1) := by decide +kernel
theorem dX12_nights_30 : decode cX12_nights 30 = .ok (.istore 4, 2) := by decide +kernel
theorem dX12_nights_32 : decode cX12_nights 32 = .ok (.iconst 0, 1) := by decide +kernel
theorem dX12_nights_33 : decode cX12_nights 33 = .ok (.istore 5, 2) := by decide +kernel
theorem dX12_nights_35 : decode cX12_nights 35 = .ok (.iload 5, 2) := by decide +kernel
theorem dX12_nights_37 : decode cX12_nights 37 = .ok (.iload_n 2, 1) := by decide +kernel
theorem dX12_nights_38 : decode cX12_nights 38 = .ok (.if_icmp .ge 37, 3) := by decide +kernel
theorem dX12_nights_41 : decode cX12_nights 41 = .ok (.aload_n 0, 1) := by decide +kernel
theorem dX12_nights_42 : decode cX12_nights 42 = .ok (.iload_n 1, 1) := by decide +kernel
theorem dX12_nights_43 : decode cX12_nights 43 = .ok (.i2l, 1) := by decide +kernel
theorem dX12_nights_44 : decode cX12_nights 44 = .ok (.iload 5, 2) := by decide +kernel
theorem dX12_nights_46 : decode cX12_nights 46 = .ok (.i2l, 1) := by decide +kernel
theorem dX12_nights_47 : decode cX12_nights 47 = .ok (.ladd, 1) := by decide +kernel
theorem dX12_nights_48 : decode cX12_nights 48 = .ok (.iload_n 3, 1) := by decide +kernel
theorem dX12_nights_49 : decode cX12_nights 49 = .ok (.invokevirtual 467, 3) := by decide +kernel
theorem dX12_nights_52 : decode cX12_nights 52 = .ok (.iload 4, 2) := by decide +kernel
theorem dX12_nights_54 : decode cX12_nights 54 = .ok (.aload_n 0, 1) := by decide +kernel
theorem dX12_nights_55 : decode cX12_nights 55 = .ok (.getfield 444, 3) := by decide +kernel
theorem dX12_nights_58 : decode cX12_nights 58 = .ok (.ifCond .ne 7, 3) := by decide +kernel
theorem dX12_nights_61 : decode cX12_nights 61 = .ok (.iconst 1, 1) := by decide +kernel
theorem dX12_nights_62 : decode cX12_nights 62 = .ok (.goto 4, 3) := by decide +kernel
theorem dX12_nights_65 : decode cX12_nights 65 = .ok (.iconst 0, 1) := by decide +kernel
theorem dX12_nights_66 : decode cX12_nights 66 = .ok (.iadd, 1) := by decide +kernel
theorem dX12_nights_67 : decode cX12_nights 67 = .ok (.istore 4, 2) := by decide +kernel
theorem dX12_nights_69 : decode cX12_nights 69 = .ok (.iinc 5 1, 3) := by decide +kernel
theorem dX12_nights_72 : decode cX12_nights 72 = .ok (.goto (-37), 3) := by decide +kernel
theorem dX12_nights_75 : decode cX12_nights 75 = .ok (.iload 4, 2) := by decide +kernel
theorem dX12_nights_77 : decode cX12_nights 77 = .ok (.ireturn, 1) := by decide +kernel
