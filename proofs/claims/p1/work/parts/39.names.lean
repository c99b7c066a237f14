abbrev cL_law : ByteArray := code
def yL_law : MethodName := ⟨RL, "law", "([I)Z"⟩
def wsL_law_r1 : List Cond := [Cond.classLink RL 7 RX11, Cond.instantiable RX11 16, Cond.initialized RX11, Cond.classLink RL 10 RX12, Cond.instantiable RX12 45, Cond.initialized RX12, Cond.constantLong RL 262 (4294967295), Cond.methodLink RL 9 yX11_init, Cond.instanceMethod yX11_init, Cond.code yX11_init cX11_init 2 none, Cond.methodLink RX11 1 objectInit, Cond.instanceMethod objectInit, Cond.code objectInit ⟨#[0xb1]⟩ 1 none, Cond.classLink RX11 7 RX5, Cond.instantiable RX5 4, Cond.initialized RX5, Cond.fieldLink RX11 10 "OverHill" "reader" "LOverHill$Reader;", Cond.fieldLink RX11 16 "OverHill$Reader" "tape" "LOverHill$Tape;", Cond.fieldLink RX11 20 "OverHill" "tape" "LOverHill$Tape;", Cond.classLink RX11 21 RX0, Cond.instantiable RX0 17, Cond.initialized RX0, Cond.fieldLink RX11 24 "OverHill" "now" "LOverHill$Dance;", Cond.fieldLink RX11 28 "OverHill" "spare" "LOverHill$Dance;"]
def wsL_law_r2 : List Cond := [Cond.fieldLink RX11 31 "OverHill" "images" "[LOverHill$Dance;", Cond.arrayClass .int, Cond.fieldLink RX11 35 "OverHill" "kept" "[I", Cond.classLink RX11 39 RX1, Cond.instantiable RX1 6, Cond.initialized RX1, Cond.fieldLink RX11 42 "OverHill" "floor" "LOverHill$Floor;", Cond.fieldLink RX11 46 "OverHill" "trial" "LOverHill$Floor;", Cond.fieldLink RX11 49 "OverHill" "laid" "Z", Cond.classLink RX11 53 RX6, Cond.instantiable RX6 1, Cond.initialized RX6, Cond.fieldLink RX11 56 "OverHill" "rounds" "LOverHill$Rounds;", Cond.classLink RX11 60 RX3, Cond.instantiable RX3 12, Cond.initialized RX3, Cond.fieldLink RX11 63 "OverHill" "guess" "LOverHill$Guess;", Cond.classLink RX11 67 RX10, Cond.instantiable RX10 3, Cond.initialized RX10, Cond.fieldLink RX11 70 "OverHill" "wood" "LOverHill$Wood;", Cond.classLink RX11 74 RX9, Cond.instantiable RX9 2, Cond.initialized RX9]
def wsL_law_r3 : List Cond := [Cond.fieldLink RX11 77 "OverHill" "tunes" "LOverHill$Tunes;", Cond.classLink RX11 81 RX2, Cond.instantiable RX2 1, Cond.initialized RX2, Cond.fieldLink RX11 84 "OverHill" "games" "LOverHill$Game;", Cond.classLink RX11 88 RX4, Cond.instantiable RX4 7, Cond.initialized RX4, Cond.fieldLink RX11 91 "OverHill" "night" "LOverHill$Night;", Cond.classLink RX11 95 RX7, Cond.instantiable RX7 3, Cond.initialized RX7, Cond.fieldLink RX11 98 "OverHill" "slots" "LOverHill$Slots;", Cond.instanceMethod yX5_init, Cond.code yX5_init cX5_init 1 none, Cond.methodLink RX5 3 objectInit, Cond.classLink RX5 9 RX8, Cond.instantiable RX8 6, Cond.initialized RX8, Cond.fieldLink RX5 12 "OverHill$Reader" "tape" "LOverHill$Tape;", Cond.fieldLink RX5 18 "OverHill$Reader" "faultPlace" "I", Cond.instanceMethod yX8_init, Cond.code yX8_init cX8_init 1 none, Cond.methodLink RX8 3 objectInit]
def wsL_law_r4 : List Cond := [Cond.arrayClass .byte, Cond.fieldLink RX8 9 "OverHill$Tape" "bytes" "[B", Cond.instanceMethod yX0_init, Cond.code yX0_init cX0_init 1 none, Cond.methodLink RX0 3 objectInit, Cond.fieldLink RX0 9 "OverHill$Dance" "steps" "[I", Cond.fieldLink RX0 15 "OverHill$Dance" "lengths" "[I", Cond.fieldLink RX0 18 "OverHill$Dance" "starts" "[I", Cond.fieldLink RX0 21 "OverHill$Dance" "met" "[I", Cond.fieldLink RX0 24 "OverHill$Dance" "stumbles" "[I", Cond.fieldLink RX0 27 "OverHill$Dance" "muds" "[I", Cond.fieldLink RX0 30 "OverHill$Dance" "cells" "[I", Cond.fieldLink RX0 33 "OverHill$Dance" "tunes" "[I", Cond.fieldLink RX0 36 "OverHill$Dance" "changes" "[I", Cond.instanceMethod yX1_init, Cond.code yX1_init cX1_init 1 none, Cond.methodLink RX1 3 objectInit, Cond.fieldLink RX1 9 "OverHill$Floor" "places" "[I", Cond.fieldLink RX1 15 "OverHill$Floor" "steps" "[I", Cond.fieldLink RX1 18 "OverHill$Floor" "stumbleIn" "[I", Cond.instanceMethod yX6_init, Cond.code yX6_init cX6_init 1 none, Cond.methodLink RX6 3 objectInit, Cond.fieldLink RX6 9 "OverHill$Rounds" "fits" "[I"]
def wsL_law_r5 : List Cond := [Cond.instanceMethod yX3_init, Cond.code yX3_init cX3_init 1 none, Cond.methodLink RX3 3 objectInit, Cond.fieldLink RX3 9 "OverHill$Guess" "round" "[I", Cond.fieldLink RX3 15 "OverHill$Guess" "lastUnlike" "[I", Cond.fieldLink RX3 18 "OverHill$Guess" "places" "[I", Cond.fieldLink RX3 21 "OverHill$Guess" "stepsIn" "[I", Cond.fieldLink RX3 24 "OverHill$Guess" "passed" "[I", Cond.fieldLink RX3 27 "OverHill$Guess" "classes" "[I", Cond.instanceMethod yX10_init, Cond.code yX10_init cX10_init 1 none, Cond.methodLink RX10 3 objectInit, Cond.fieldLink RX10 9 "OverHill$Wood" "arrivals" "[I", Cond.instanceMethod yX9_init, Cond.code yX9_init cX9_init 1 none, Cond.methodLink RX9 3 objectInit, Cond.instanceMethod yX2_init, Cond.code yX2_init cX2_init 1 none, Cond.methodLink RX2 3 objectInit, Cond.fieldLink RX2 11 "OverHill$Game" "winning" "[I", Cond.instanceMethod yX4_init, Cond.code yX4_init cX4_init 1 none, Cond.methodLink RX4 3 objectInit, Cond.fieldLink RX4 9 "OverHill$Night" "danced" "[I"]
def wsL_law_r6 : List Cond := [Cond.fieldLink RX4 15 "OverHill$Night" "places" "[I", Cond.instanceMethod yX7_init, Cond.code yX7_init cX7_init 1 none, Cond.methodLink RX7 3 objectInit, Cond.fieldLink RX7 11 "OverHill$Slots" "widths" "[I", Cond.fieldLink RX7 15 "OverHill$Slots" "sizes" "[I", Cond.arrayClass .long, Cond.fieldLink RX7 18 "OverHill$Slots" "numbers" "[J", Cond.methodLink RL 12 yX12_init, Cond.instanceMethod yX12_init, Cond.code yX12_init cX12_init 2 none, Cond.methodLink RX12 1 objectInit, Cond.fieldLink RX12 7 "OverHillModel" "width" "[I", Cond.fieldLink RX12 13 "OverHillModel" "many" "[I", Cond.fieldLink RX12 16 "OverHillModel" "cells" "[J", Cond.fieldLink RX12 20 "OverHillModel" "moved" "[J", Cond.fieldLink RX12 23 "OverHillModel" "tape" "[B", Cond.fieldLink RX12 27 "OverHillModel" "faultPlace" "I", Cond.fieldLink RX12 31 "OverHillModel" "lines" "[I", Cond.fieldLink RX12 34 "OverHillModel" "has" "[I", Cond.fieldLink RX12 37 "OverHillModel" "round" "[I", Cond.fieldLink RX12 40 "OverHillModel" "meets" "[I", Cond.fieldLink RX12 43 "OverHillModel" "stumble" "[I", Cond.arrayClass .boolean]
def wsL_law_r7 : List Cond := [Cond.fieldLink RX12 46 "OverHillModel" "isMud" "[Z", Cond.fieldLink RX12 50 "OverHillModel" "cell" "[I", Cond.fieldLink RX12 53 "OverHillModel" "tune" "[I", Cond.fieldLink RX12 56 "OverHillModel" "change" "[I", Cond.fieldLink RX12 59 "OverHillModel" "isKept" "[Z", Cond.fieldLink RX12 62 "OverHillModel" "steps" "[I", Cond.fieldLink RX12 65 "OverHillModel" "places" "[I", Cond.fieldLink RX12 68 "OverHillModel" "danced" "[I", Cond.fieldLink RX12 71 "OverHillModel" "heardBy" "[I", Cond.fieldLink RX12 74 "OverHillModel" "there" "[I", Cond.fieldLink RX12 77 "OverHillModel" "wins" "[I", Cond.methodLink RL 13 yX11_feed, Cond.instanceMethod yX11_feed, Cond.selects RX11 yX11_feed yX11_feed, Cond.code yX11_feed cX11_feed 6 (some .int), Cond.fieldLink RX11 102 "OverHill$Tape" "length" "I", Cond.methodLink RX11 108 yX8_push, Cond.instanceMethod yX8_push, Cond.selects RX8 yX8_push yX8_push, Cond.code yX8_push cX8_push 3 none, Cond.fieldLink RX8 15 "OverHill$Tape" "length" "I", Cond.methodLink RL 17 yX12_feed, Cond.instanceMethod yX12_feed, Cond.selects RX12 yX12_feed yX12_feed]
def wsL_law_r8 : List Cond := [Cond.code yX12_feed cX12_feed 6 (some .int), Cond.fieldLink RX12 80 "OverHillModel" "thrown" "I", Cond.fieldLink RX12 97 "OverHillModel" "taped" "I", Cond.methodLink RX12 100 yX12_four, Cond.instanceMethod yX12_four, Cond.selects RX12 yX12_four yX12_four, Cond.code yX12_four cX12_four 3 none, Cond.methodLink RL 18 yX11_end, Cond.instanceMethod yX11_end, Cond.selects RX11 yX11_end yX11_end, Cond.code yX11_end cX11_end 2 (some .int), Cond.methodLink RL 22 yX12_end, Cond.instanceMethod yX12_end, Cond.selects RX12 yX12_end yX12_end, Cond.code yX12_end cX12_end 2 (some .int), Cond.methodLink RX12 85 yX12_in, Cond.static yX12_in, Cond.code yX12_in cX12_in 6 (some .boolean), Cond.methodLink RL 23 yX11_dance, Cond.instanceMethod yX11_dance, Cond.selects RX11 yX11_dance yX11_dance, Cond.code yX11_dance cX11_dance 2 (some .int), Cond.fieldLink RX11 116 "OverHill$Dance" "lines" "I", Cond.methodLink RX11 112 yX5_read]
def wsL_law_r9 : List Cond := [Cond.instanceMethod yX5_read, Cond.selects RX5 yX5_read yX5_read, Cond.code yX5_read cX5_read 3 (some .boolean), Cond.fieldLink RX5 27 "OverHill$Reader" "fault" "I", Cond.fieldLink RX5 33 "OverHill$Tape" "kind" "I", Cond.fieldLink RX5 43 "OverHill$Dance" "lines" "I", Cond.methodLink RX5 22 yX0_clear, Cond.instanceMethod yX0_clear, Cond.selects RX0 yX0_clear yX0_clear, Cond.code yX0_clear cX0_clear 1 none, Cond.fieldLink RX0 39 "OverHill$Dance" "gap" "I", Cond.fieldLink RX0 43 "OverHill$Dance" "odds" "I", Cond.fieldLink RX0 46 "OverHill$Dance" "rain" "I", Cond.fieldLink RX0 49 "OverHill$Dance" "lines" "I", Cond.fieldLink RX0 58 "OverHill$Dance" "stumbleCount" "I", Cond.fieldLink RX0 61 "OverHill$Dance" "cellCount" "I", Cond.fieldLink RX0 64 "OverHill$Dance" "tuneCount" "I", Cond.fieldLink RX0 67 "OverHill$Dance" "changeCount" "I", Cond.methodLink RX0 52 yJ7_fill_53178, Cond.static yJ7_fill_53178, Cond.initialized RJ7, Cond.code yJ7_fill_53178 cJ7_fill_53178 4 none, Cond.methodLink RX5 30 yX8_rewind, Cond.instanceMethod yX8_rewind]
def wsL_law_r10 : List Cond := [Cond.selects RX8 yX8_rewind yX8_rewind, Cond.code yX8_rewind cX8_rewind 1 none, Cond.fieldLink RX8 19 "OverHill$Tape" "upto" "I", Cond.methodLink RX8 22 yX8_advance, Cond.instanceMethod yX8_advance, Cond.selects RX8 yX8_advance yX8_advance, Cond.code yX8_advance cX8_advance 1 none, Cond.fieldLink RX8 25 "OverHill$Tape" "from" "I", Cond.fieldLink RX8 32 "OverHill$Tape" "value" "I", Cond.fieldLink RX8 35 "OverHill$Tape" "kind" "I", Cond.methodLink RX8 38 Lib.Math.min.name, Cond.static Lib.Math.min.name, Cond.initialized "java/lang/Math", Cond.code Lib.Math.min.name Lib.Math.min.code 2 (some .int), Cond.methodLink RX8 28 yX8_kindOf, Cond.static yX8_kindOf, Cond.code yX8_kindOf cX8_kindOf 1 (some .int), Cond.methodLink RX5 36 yX5_readLine, Cond.instanceMethod yX5_readLine, Cond.selects RX5 yX5_readLine yX5_readLine, Cond.code yX5_readLine cX5_readLine 3 none, Cond.fieldLink RX5 52 "OverHill$Tape" "from" "I", Cond.methodLink RX5 48 yX8_isWord, Cond.instanceMethod yX8_isWord]
def wsL_law_r11 : List Cond := [Cond.selects RX8 yX8_isWord yX8_isWord, Cond.code yX8_isWord cX8_isWord 3 (some .boolean), Cond.methodLink RX8 44 yJ0_length_8abf5, Cond.instanceMethod yJ0_length_8abf5, Cond.selects RJ0 yJ0_length_8abf5 yJ0_length_8abf5, Cond.initialized RJ0, Cond.code yJ0_length_8abf5 cJ0_length_8abf5 1 (some .int), Cond.fieldLink RJ0 9 "java/lang/String" "value" "[B", Cond.methodLink RJ0 335 yJ0_coder_7d493, Cond.instanceMethod yJ0_coder_7d493, Cond.selects RJ0 yJ0_coder_7d493 yJ0_coder_7d493, Cond.code yJ0_coder_7d493 cJ0_coder_7d493 1 (some .byte), Cond.fieldLink RJ0 38 "java/lang/String" "COMPACT_STRINGS" "Z", Cond.fieldLink RJ0 15 "java/lang/String" "coder" "B", Cond.methodLink RX8 49 yJ0_charAt_5068e, Cond.instanceMethod yJ0_charAt_5068e, Cond.selects RJ0 yJ0_charAt_5068e yJ0_charAt_5068e, Cond.code yJ0_charAt_5068e cJ0_charAt_5068e 2 (some .char), Cond.methodLink RJ0 492 yJ0_isLatin1_aae02, Cond.instanceMethod yJ0_isLatin1_aae02, Cond.selects RJ0 yJ0_isLatin1_aae02 yJ0_isLatin1_aae02, Cond.code yJ0_isLatin1_aae02 cJ0_isLatin1_aae02 1 (some .boolean), Cond.methodLink RJ0 495 yJ1_charAt_3b067, Cond.static yJ1_charAt_3b067]
def wsL_law_r12 : List Cond := [Cond.initialized RJ1, Cond.code yJ1_charAt_3b067 cJ1_charAt_3b067 2 (some .char), Cond.methodLink RJ1 9 yJ0_checkIndex_df160, Cond.static yJ0_checkIndex_df160, Cond.code yJ0_checkIndex_df160 cJ0_checkIndex_df160 2 none, Cond.fieldLink RJ0 1053 "jdk/internal/util/Preconditions" "SIOOBE_FORMATTER" "Ljava/util/function/BiFunction;", Cond.methodLink RJ0 1059 yJ3_checkIndex_8e157, Cond.static yJ3_checkIndex_8e157, Cond.initialized RJ3, Cond.code yJ3_checkIndex_8e157 cJ3_checkIndex_8e157 3 (some .int), Cond.methodLink RJ0 498 yJ2_charAt_3b067, Cond.static yJ2_charAt_3b067, Cond.initialized RJ2, Cond.code yJ2_charAt_3b067 cJ2_charAt_3b067 2 (some .char), Cond.methodLink RJ2 67 yJ2_checkIndex_2214a, Cond.static yJ2_checkIndex_2214a, Cond.code yJ2_checkIndex_2214a cJ2_checkIndex_2214a 2 none, Cond.methodLink RJ2 48 yJ2_length_9d52b, Cond.static yJ2_length_9d52b, Cond.code yJ2_length_9d52b cJ2_length_9d52b 1 (some .int), Cond.methodLink RJ2 414 yJ0_checkIndex_df160, Cond.methodLink RJ2 71 yJ2_getChar_3b067, Cond.static yJ2_getChar_3b067, Cond.code yJ2_getChar_3b067 cJ2_getChar_3b067 2 (some .char)]
def wsL_law_r13 : List Cond := [Cond.fieldLink RJ2 44 "java/lang/StringUTF16" "$assertionsDisabled" "Z", Cond.fieldLink RJ2 59 "java/lang/StringUTF16" "HI_BYTE_SHIFT" "I", Cond.fieldLink RJ2 63 "java/lang/StringUTF16" "LO_BYTE_SHIFT" "I", Cond.methodLink RX5 55 yX5_fail, Cond.instanceMethod yX5_fail, Cond.selects RX5 yX5_fail yX5_fail, Cond.code yX5_fail cX5_fail 3 none, Cond.methodLink RX5 59 yX5_readDance, Cond.instanceMethod yX5_readDance, Cond.selects RX5 yX5_readDance yX5_readDance, Cond.code yX5_readDance cX5_readDance 2 none, Cond.fieldLink RX5 105 "OverHill$Dance" "gap" "I", Cond.fieldLink RX5 109 "OverHill$Dance" "odds" "I", Cond.fieldLink RX5 113 "OverHill$Dance" "rain" "I", Cond.methodLink RX5 92 yX8_advance, Cond.methodLink RX5 97 yX5_takeWord, Cond.instanceMethod yX5_takeWord, Cond.selects RX5 yX5_takeWord yX5_takeWord, Cond.code yX5_takeWord cX5_takeWord 2 none, Cond.methodLink RX5 101 yX5_takeNumber, Cond.instanceMethod yX5_takeNumber, Cond.selects RX5 yX5_takeNumber yX5_takeNumber, Cond.code yX5_takeNumber cX5_takeNumber 4 (some .int), Cond.fieldLink RX5 175 "OverHill$Tape" "value" "I"]
def wsL_law_r14 : List Cond := [Cond.fieldLink RX5 121 "OverHill$Reader" "numberPlace" "I", Cond.methodLink RX5 64 yX5_readRound, Cond.instanceMethod yX5_readRound, Cond.selects RX5 yX5_readRound yX5_readRound, Cond.code yX5_readRound cX5_readRound 6 none, Cond.fieldLink RX5 124 "OverHill$Dance" "steps" "[I", Cond.fieldLink RX5 130 "OverHill$Dance" "starts" "[I", Cond.fieldLink RX5 133 "OverHill$Dance" "lengths" "[I", Cond.methodLink RX5 117 yX5_seesNumber, Cond.instanceMethod yX5_seesNumber, Cond.selects RX5 yX5_seesNumber yX5_seesNumber, Cond.code yX5_seesNumber cX5_seesNumber 1 (some .boolean), Cond.methodLink RX5 69 yX5_readAnswers, Cond.instanceMethod yX5_readAnswers, Cond.selects RX5 yX5_readAnswers yX5_readAnswers, Cond.code yX5_readAnswers cX5_readAnswers 5 none, Cond.fieldLink RX5 136 "OverHill$Dance" "met" "[I", Cond.methodLink RX5 74 yX5_readStumble, Cond.instanceMethod yX5_readStumble, Cond.selects RX5 yX5_readStumble yX5_readStumble, Cond.code yX5_readStumble cX5_readStumble 6 none, Cond.fieldLink RX5 139 "OverHill$Dance" "stumbleCount" "I", Cond.methodLink RX5 142 yX5_beginOneOf, Cond.instanceMethod yX5_beginOneOf]
def wsL_law_r15 : List Cond := [Cond.selects RX5 yX5_beginOneOf yX5_beginOneOf, Cond.code yX5_beginOneOf cX5_beginOneOf 3 none, Cond.methodLink RX5 147 yX0_stumbleOf, Cond.instanceMethod yX0_stumbleOf, Cond.selects RX0 yX0_stumbleOf yX0_stumbleOf, Cond.code yX0_stumbleOf cX0_stumbleOf 5 (some .int), Cond.methodLink RX5 154 yX0_addStumble, Cond.instanceMethod yX0_addStumble, Cond.selects RX0 yX0_addStumble yX0_addStumble, Cond.code yX0_addStumble cX0_addStumble 6 none, Cond.methodLink RX5 79 yX5_readMud, Cond.instanceMethod yX5_readMud, Cond.selects RX5 yX5_readMud yX5_readMud, Cond.code yX5_readMud cX5_readMud 3 none, Cond.fieldLink RX5 158 "OverHill$Dance" "muds" "[I", Cond.methodLink RX5 84 yX5_readWood, Cond.instanceMethod yX5_readWood, Cond.selects RX5 yX5_readWood yX5_readWood, Cond.code yX5_readWood cX5_readWood 3 none, Cond.fieldLink RX5 161 "OverHill$Dance" "cellCount" "I", Cond.methodLink RX5 166 yX0_addCell, Cond.instanceMethod yX0_addCell, Cond.selects RX0 yX0_addCell yX0_addCell, Cond.code yX0_addCell cX0_addCell 3 none]
def wsL_law_r16 : List Cond := [Cond.methodLink RX5 89 yX5_readTune, Cond.instanceMethod yX5_readTune, Cond.selects RX5 yX5_readTune yX5_readTune, Cond.code yX5_readTune cX5_readTune 3 none, Cond.fieldLink RX5 169 "OverHill$Dance" "tuneCount" "I", Cond.methodLink RX5 172 yX0_addTune, Cond.instanceMethod yX0_addTune, Cond.selects RX0 yX0_addTune yX0_addTune, Cond.code yX0_addTune cX0_addTune 3 none, Cond.methodLink RX5 40 yX5_takeSemicolon, Cond.instanceMethod yX5_takeSemicolon, Cond.selects RX5 yX5_takeSemicolon yX5_takeSemicolon, Cond.code yX5_takeSemicolon cX5_takeSemicolon 1 none, Cond.methodLink RL 27 yX12_dance, Cond.instanceMethod yX12_dance, Cond.selects RX12 yX12_dance yX12_dance, Cond.code yX12_dance cX12_dance 1 (some .int), Cond.fieldLink RX12 121 "OverHillModel" "token" "I", Cond.constantLong RX12 230 (2155739), Cond.constantLong RX12 232 (5146), Cond.constantLong RX12 234 (298288), Cond.constantLong RX12 236 (355280), Cond.fieldLink RX12 132 "OverHillModel" "bad" "I", Cond.methodLink RX12 224 yX12_clears]
def wsL_law_r17 : List Cond := [Cond.instanceMethod yX12_clears, Cond.selects RX12 yX12_clears yX12_clears, Cond.code yX12_clears cX12_clears 2 none, Cond.methodLink RX12 177 yX12_reads, Cond.instanceMethod yX12_reads, Cond.selects RX12 yX12_reads yX12_reads, Cond.code yX12_reads cX12_reads 3 none, Cond.methodLink RX12 227 yX12_begins, Cond.instanceMethod yX12_begins, Cond.selects RX12 yX12_begins yX12_begins, Cond.code yX12_begins cX12_begins 1 none, Cond.fieldLink RX12 135 "OverHillModel" "badPlace" "I", Cond.fieldLink RX12 104 "OverHillModel" "at" "I", Cond.methodLink RX12 142 yX12_next, Cond.instanceMethod yX12_next, Cond.selects RX12 yX12_next yX12_next, Cond.code yX12_next cX12_next 2 none, Cond.fieldLink RX12 111 "OverHillModel" "place" "I", Cond.fieldLink RX12 114 "OverHillModel" "value" "I", Cond.fieldLink RX12 117 "OverHillModel" "word" "J", Cond.constantLong RX12 124 (-1), Cond.constantLong RX12 126 (27), Cond.constantLong RX12 128 (96), Cond.constant RX12 130 (100000)]
def wsL_law_r18 : List Cond := [Cond.constant RX12 131 (1000000), Cond.methodLink RX12 107 yX12_isByte, Cond.instanceMethod yX12_isByte, Cond.selects RX12 yX12_isByte yX12_isByte, Cond.code yX12_isByte cX12_isByte 4 (some .boolean), Cond.methodLink RX12 168 yX12_isGood, Cond.instanceMethod yX12_isGood, Cond.selects RX12 yX12_isGood yX12_isGood, Cond.code yX12_isGood cX12_isGood 1 (some .boolean), Cond.methodLink RX12 151 yX12_asks, Cond.instanceMethod yX12_asks, Cond.selects RX12 yX12_asks yX12_asks, Cond.code yX12_asks cX12_asks 3 none, Cond.methodLink RX12 145 yX12_takes, Cond.instanceMethod yX12_takes, Cond.selects RX12 yX12_takes yX12_takes, Cond.code yX12_takes cX12_takes 3 (some .boolean), Cond.methodLink RX12 138 yX12_is, Cond.instanceMethod yX12_is, Cond.selects RX12 yX12_is yX12_is, Cond.code yX12_is cX12_is 3 (some .boolean), Cond.methodLink RX12 148 yX12_fails, Cond.instanceMethod yX12_fails, Cond.selects RX12 yX12_fails yX12_fails]
def wsL_law_r19 : List Cond := [Cond.code yX12_fails cX12_fails 2 none, Cond.methodLink RX12 174 yX12_number_, Cond.instanceMethod yX12_number_, Cond.selects RX12 yX12_number_ yX12_number_, Cond.code yX12_number_ cX12_number_ 5 (some .int), Cond.methodLink RX12 155 yX12_number, Cond.instanceMethod yX12_number, Cond.selects RX12 yX12_number yX12_number, Cond.code yX12_number cX12_number 4 (some .int), Cond.methodLink RX12 238 yX12_line, Cond.instanceMethod yX12_line, Cond.selects RX12 yX12_line yX12_line, Cond.code yX12_line cX12_line 5 none, Cond.constantLong RX12 197 (7659385358), Cond.constantLong RX12 199 (464053), Cond.constantLong RX12 201 (409352), Cond.constantLong RX12 206 (3094387), Cond.constantLong RX12 212 (9876874), Cond.constantLong RX12 217 (598859425), Cond.constantLong RX12 222 (10048), Cond.methodLink RX12 181 yX12_hasRead, Cond.instanceMethod yX12_hasRead, Cond.selects RX12 yX12_hasRead yX12_hasRead, Cond.code yX12_hasRead cX12_hasRead 2 (some .int)]
def wsL_law_r20 : List Cond := [Cond.methodLink RX12 203 yX12_stumbleLine, Cond.instanceMethod yX12_stumbleLine, Cond.selects RX12 yX12_stumbleLine yX12_stumbleLine, Cond.code yX12_stumbleLine cX12_stumbleLine 3 none, Cond.constantLong RX12 185 (47), Cond.constantLong RX12 193 (89821), Cond.constantLong RX12 195 (8782), Cond.methodLink RX12 187 yX12_isStumbled, Cond.instanceMethod yX12_isStumbled, Cond.selects RX12 yX12_isStumbled yX12_isStumbled, Cond.code yX12_isStumbled cX12_isStumbled 5 (some .boolean), Cond.methodLink RX12 190 yX12_beatHere, Cond.instanceMethod yX12_beatHere, Cond.selects RX12 yX12_beatHere yX12_beatHere, Cond.code yX12_beatHere cX12_beatHere 1 (some .int), Cond.methodLink RX12 208 yX12_everyLine, Cond.instanceMethod yX12_everyLine, Cond.selects RX12 yX12_everyLine yX12_everyLine, Cond.code yX12_everyLine cX12_everyLine 4 none, Cond.methodLink RX12 214 yX12_roundLine, Cond.instanceMethod yX12_roundLine, Cond.selects RX12 yX12_roundLine yX12_roundLine, Cond.code yX12_roundLine cX12_roundLine 5 none, Cond.constantLong RX12 162 (411)]
def wsL_law_r21 : List Cond := [Cond.constantLong RX12 172 (31499758), Cond.methodLink RX12 164 yX12_stepHere, Cond.instanceMethod yX12_stepHere, Cond.selects RX12 yX12_stepHere yX12_stepHere, Cond.code yX12_stepHere cX12_stepHere 1 (some .int), Cond.methodLink RX12 219 yX12_answersLine, Cond.instanceMethod yX12_answersLine, Cond.selects RX12 yX12_answersLine yX12_answersLine, Cond.code yX12_answersLine cX12_answersLine 3 none, Cond.methodLink RX12 241 yX12_ends, Cond.instanceMethod yX12_ends, Cond.selects RX12 yX12_ends yX12_ends, Cond.code yX12_ends cX12_ends 1 none, Cond.methodLink RX12 244 yX12_isOver, Cond.instanceMethod yX12_isOver, Cond.selects RX12 yX12_isOver yX12_isOver, Cond.code yX12_isOver cX12_isOver 1 none, Cond.fieldLink RX12 159 "OverHillModel" "fault" "I", Cond.methodLink RX12 247 yX12_copyDance, Cond.instanceMethod yX12_copyDance, Cond.selects RX12 yX12_copyDance yX12_copyDance, Cond.code yX12_copyDance cX12_copyDance 4 none, Cond.methodLink RX12 250 yX12_copyRow, Cond.static yX12_copyRow]
def wsL_law_r22 : List Cond := [Cond.code yX12_copyRow cX12_copyRow 5 none, Cond.methodLink RL 28 yX11_fault, Cond.instanceMethod yX11_fault, Cond.selects RX11 yX11_fault yX11_fault, Cond.code yX11_fault cX11_fault 2 (some .int), Cond.fieldLink RX11 119 "OverHill$Reader" "fault" "I", Cond.fieldLink RX11 122 "OverHill$Reader" "faultPlace" "I", Cond.methodLink RL 31 yX12_fault, Cond.instanceMethod yX12_fault, Cond.selects RX12 yX12_fault yX12_fault, Cond.code yX12_fault cX12_fault 2 (some .int), Cond.methodLink RL 32 yX11_step, Cond.instanceMethod yX11_step, Cond.selects RX11 yX11_step yX11_step, Cond.code yX11_step cX11_step 3 (some .int), Cond.methodLink RX11 125 yX0_stands, Cond.instanceMethod yX0_stands, Cond.selects RX0 yX0_stands yX0_stands, Cond.code yX0_stands cX0_stands 1 (some .boolean), Cond.methodLink RX11 129 yX11_isSide, Cond.static yX11_isSide, Cond.code yX11_isSide cX11_isSide 1 (some .boolean), Cond.methodLink RX11 150 yX11_isWithin, Cond.static yX11_isWithin]
def wsL_law_r23 : List Cond := [Cond.code yX11_isWithin cX11_isWithin 2 (some .boolean), Cond.methodLink RX11 133 yX0_hasPlace, Cond.instanceMethod yX0_hasPlace, Cond.selects RX0 yX0_hasPlace yX0_hasPlace, Cond.code yX0_hasPlace cX0_hasPlace 3 (some .boolean), Cond.methodLink RX11 137 yX0_stepAt, Cond.instanceMethod yX0_stepAt, Cond.selects RX0 yX0_stepAt yX0_stepAt, Cond.code yX0_stepAt cX0_stepAt 3 (some .int), Cond.methodLink RL 36 yX12_step, Cond.instanceMethod yX12_step, Cond.selects RX12 yX12_step yX12_step, Cond.code yX12_step cX12_step 3 (some .int), Cond.methodLink RX12 261 yX12_isSide, Cond.instanceMethod yX12_isSide, Cond.selects RX12 yX12_isSide yX12_isSide, Cond.code yX12_isSide cX12_isSide 2 (some .boolean), Cond.methodLink RX12 254 yX12_isDance, Cond.instanceMethod yX12_isDance, Cond.selects RX12 yX12_isDance yX12_isDance, Cond.code yX12_isDance cX12_isDance 1 (some .boolean), Cond.methodLink RX12 264 yX12_lengthOf, Cond.instanceMethod yX12_lengthOf, Cond.selects RX12 yX12_lengthOf yX12_lengthOf]
def wsL_law_r24 : List Cond := [Cond.code yX12_lengthOf cX12_lengthOf 2 (some .int), Cond.methodLink RL 37 yX11_answers, Cond.instanceMethod yX11_answers, Cond.selects RX11 yX11_answers yX11_answers, Cond.code yX11_answers cX11_answers 2 (some .int), Cond.fieldLink RX11 144 "OverHill$Dance" "met" "[I", Cond.methodLink RX11 141 yX11_isStep, Cond.static yX11_isStep, Cond.code yX11_isStep cX11_isStep 1 (some .boolean), Cond.methodLink RL 40 yX12_answers, Cond.instanceMethod yX12_answers, Cond.selects RX12 yX12_answers yX12_answers, Cond.code yX12_answers cX12_answers 2 (some .int), Cond.methodLink RX12 267 yX12_isStep, Cond.static yX12_isStep, Cond.code yX12_isStep cX12_isStep 2 (some .boolean), Cond.constantLong RX12 259 (5), Cond.methodLink RL 41 yX11_stumbled, Cond.instanceMethod yX11_stumbled, Cond.selects RX11 yX11_stumbled yX11_stumbled, Cond.code yX11_stumbled cX11_stumbled 3 (some .int), Cond.fieldLink RX11 153 "OverHill$Dance" "stumbles" "[I", Cond.methodLink RX11 147 yX0_hasStumble, Cond.instanceMethod yX0_hasStumble]
def wsL_law_r25 : List Cond := [Cond.selects RX0 yX0_hasStumble yX0_hasStumble, Cond.code yX0_hasStumble cX0_hasStumble 2 (some .boolean), Cond.methodLink RL 44 yX12_stumbled, Cond.instanceMethod yX12_stumbled, Cond.selects RX12 yX12_stumbled yX12_stumbled, Cond.code yX12_stumbled cX12_stumbled 3 (some .int), Cond.constantLong RX12 83 (3), Cond.methodLink RL 45 yX11_muddy, Cond.instanceMethod yX11_muddy, Cond.selects RX11 yX11_muddy yX11_muddy, Cond.code yX11_muddy cX11_muddy 2 (some .int), Cond.fieldLink RX11 159 "OverHill$Dance" "muds" "[I", Cond.methodLink RX11 156 yX11_isBeat, Cond.static yX11_isBeat, Cond.code yX11_isBeat cX11_isBeat 1 (some .boolean), Cond.methodLink RL 48 yX12_muddy, Cond.instanceMethod yX12_muddy, Cond.selects RX12 yX12_muddy yX12_muddy, Cond.code yX12_muddy cX12_muddy 2 (some .int), Cond.methodLink RX12 270 yX12_isBeat, Cond.static yX12_isBeat, Cond.code yX12_isBeat cX12_isBeat 2 (some .boolean), Cond.constantLong RX12 257 (199), Cond.methodLink RL 49 yX11_place]
def wsL_law_r26 : List Cond := [Cond.instanceMethod yX11_place, Cond.selects RX11 yX11_place yX11_place, Cond.code yX11_place cX11_place 3 (some .int), Cond.methodLink RX11 162 yX11_has, Cond.instanceMethod yX11_has, Cond.selects RX11 yX11_has yX11_has, Cond.code yX11_has cX11_has 3 (some .boolean), Cond.methodLink RX11 165 yX11_plainFloor, Cond.instanceMethod yX11_plainFloor, Cond.selects RX11 yX11_plainFloor yX11_plainFloor, Cond.code yX11_plainFloor cX11_plainFloor 1 (some (.object "OverHill$Floor")), Cond.methodLink RX11 208 yX1_lay, Cond.instanceMethod yX1_lay, Cond.selects RX1 yX1_lay yX1_lay, Cond.code yX1_lay cX1_lay 4 none, Cond.fieldLink RX1 21 "OverHill$Dance" "gap" "I", Cond.fieldLink RX1 27 "OverHill$Floor" "gap" "I", Cond.methodLink RX1 28 yX1_findStumbles, Cond.instanceMethod yX1_findStumbles, Cond.selects RX1 yX1_findStumbles yX1_findStumbles, Cond.code yX1_findStumbles cX1_findStumbles 6 none, Cond.fieldLink RX1 42 "OverHill$Dance" "stumbleCount" "I", Cond.fieldLink RX1 45 "OverHill$Dance" "stumbles" "[I", Cond.methodLink RX1 36 yJ7_fill_53178]
def wsL_law_r27 : List Cond := [Cond.methodLink RX1 32 yX1_laySide, Cond.instanceMethod yX1_laySide, Cond.selects RX1 yX1_laySide yX1_laySide, Cond.code yX1_laySide cX1_laySide 10 none, Cond.fieldLink RX1 48 "OverHill$Dance" "lengths" "[I", Cond.fieldLink RX1 51 "OverHill$Dance" "starts" "[I", Cond.fieldLink RX1 54 "OverHill$Dance" "muds" "[I", Cond.methodLink RX1 57 yX0_stepAt, Cond.static yX11_wrap, Cond.code yX11_wrap cX11_wrap 2 (some .int), Cond.methodLink RX11 451 yJ9_floorMod_7cf53, Cond.static yJ9_floorMod_7cf53, Cond.initialized RJ9, Cond.code yJ9_floorMod_7cf53 cJ9_floorMod_7cf53 3 (some .int), Cond.methodLink RX11 169 yX1_placeOf, Cond.instanceMethod yX1_placeOf, Cond.selects RX1 yX1_placeOf yX1_placeOf, Cond.code yX1_placeOf cX1_placeOf 3 (some .int), Cond.methodLink RL 52 yX12_place, Cond.instanceMethod yX12_place, Cond.selects RX12 yX12_place yX12_place, Cond.code yX12_place cX12_place 3 (some .int), Cond.methodLink RX12 290 yX12_lays, Cond.instanceMethod yX12_lays]
def wsL_law_r28 : List Cond := [Cond.selects RX12 yX12_lays yX12_lays, Cond.code yX12_lays cX12_lays 1 none, Cond.methodLink RX12 277 yX12_laysBut, Cond.instanceMethod yX12_laysBut, Cond.selects RX12 yX12_laysBut yX12_laysBut, Cond.code yX12_laysBut cX12_laysBut 2 none, Cond.methodLink RX12 273 yX12_dances, Cond.instanceMethod yX12_dances, Cond.selects RX12 yX12_dances yX12_dances, Cond.code yX12_dances cX12_dances 13 none, Cond.methodLink RL 53 yX11_danced, Cond.instanceMethod yX11_danced, Cond.selects RX11 yX11_danced yX11_danced, Cond.code yX11_danced cX11_danced 3 (some .int), Cond.methodLink RX11 172 yX1_stepOf, Cond.instanceMethod yX1_stepOf, Cond.selects RX1 yX1_stepOf yX1_stepOf, Cond.code yX1_stepOf cX1_stepOf 3 (some .int), Cond.methodLink RL 56 yX12_danced, Cond.instanceMethod yX12_danced, Cond.selects RX12 yX12_danced yX12_danced, Cond.code yX12_danced cX12_danced 3 (some .int), Cond.methodLink RL 57 yX11_hears, Cond.instanceMethod yX11_hears]
def wsL_law_r29 : List Cond := [Cond.selects RX11 yX11_hears yX11_hears, Cond.code yX11_hears cX11_hears 3 (some .int), Cond.methodLink RX11 175 yX1_heardBy, Cond.instanceMethod yX1_heardBy, Cond.selects RX1 yX1_heardBy yX1_heardBy, Cond.code yX1_heardBy cX1_heardBy 3 (some .int), Cond.methodLink RX1 64 yX1_stepOf, Cond.methodLink RL 60 yX12_hears, Cond.instanceMethod yX12_hears, Cond.selects RX12 yX12_hears yX12_hears, Cond.code yX12_hears cX12_hears 3 (some .int), Cond.methodLink RX12 284 yX12_hearsAt, Cond.instanceMethod yX12_hearsAt, Cond.selects RX12 yX12_hearsAt yX12_hearsAt, Cond.code yX12_hearsAt cX12_hearsAt 3 (some .int), Cond.methodLink RL 61 yX11_late, Cond.instanceMethod yX11_late, Cond.selects RX11 yX11_late yX11_late, Cond.code yX11_late cX11_late 4 (some .int), Cond.fieldLink RX11 178 "OverHill$Dance" "lengths" "[I", Cond.fieldLink RX11 181 "OverHill$Dance" "starts" "[I", Cond.methodLink RX11 184 yX11_wrap, Cond.methodLink RL 64 yX12_late, Cond.instanceMethod yX12_late]
def wsL_law_r30 : List Cond := [Cond.selects RX12 yX12_late yX12_late, Cond.code yX12_late cX12_late 4 (some .int), Cond.methodLink RL 65 yX11_hole, Cond.instanceMethod yX11_hole, Cond.selects RX11 yX11_hole yX11_hole, Cond.code yX11_hole cX11_hole 3 (some .int), Cond.methodLink RX11 187 yX1_gapes, Cond.instanceMethod yX1_gapes, Cond.selects RX1 yX1_gapes yX1_gapes, Cond.code yX1_gapes cX1_gapes 4 (some .boolean), Cond.methodLink RX1 67 yX1_heardBy, Cond.methodLink RX1 70 yX0_isHole, Cond.instanceMethod yX0_isHole, Cond.selects RX0 yX0_isHole yX0_isHole, Cond.code yX0_isHole cX0_isHole 3 (some .boolean), Cond.methodLink RX0 80 yX0_mayMeet, Cond.instanceMethod yX0_mayMeet, Cond.selects RX0 yX0_mayMeet yX0_mayMeet, Cond.code yX0_mayMeet cX0_mayMeet 3 (some .boolean), Cond.methodLink RL 68 yX12_hole, Cond.instanceMethod yX12_hole, Cond.selects RX12 yX12_hole yX12_hole, Cond.code yX12_hole cX12_hole 3 (some .int), Cond.methodLink RX12 293 yX12_isHole]
def wsL_law_r31 : List Cond := [Cond.instanceMethod yX12_isHole, Cond.selects RX12 yX12_isHole yX12_isHole, Cond.code yX12_isHole cX12_isHole 3 (some .boolean), Cond.methodLink RX12 287 yX12_clashes, Cond.instanceMethod yX12_clashes, Cond.selects RX12 yX12_clashes yX12_clashes, Cond.code yX12_clashes cX12_clashes 3 (some .boolean), Cond.methodLink RX12 280 yX12_isBit, Cond.static yX12_isBit, Cond.code yX12_isBit cX12_isBit 2 (some .boolean), Cond.methodLink RL 69 yX11_next, Cond.instanceMethod yX11_next, Cond.selects RX11 yX11_next yX11_next, Cond.code yX11_next cX11_next 5 (some .int), Cond.methodLink RL 72 yX12_next_, Cond.instanceMethod yX12_next_, Cond.selects RX12 yX12_next_ yX12_next_, Cond.code yX12_next_ cX12_next_ 4 (some .int), Cond.methodLink RL 73 yX11_holes, Cond.instanceMethod yX11_holes, Cond.selects RX11 yX11_holes yX11_holes, Cond.code yX11_holes cX11_holes 4 (some .int), Cond.methodLink RX11 191 yX11_hasSpan, Cond.instanceMethod yX11_hasSpan]
def wsL_law_r32 : List Cond := [Cond.selects RX11 yX11_hasSpan yX11_hasSpan, Cond.code yX11_hasSpan cX11_hasSpan 3 (some .boolean), Cond.methodLink RX11 194 yX1_countHoles, Cond.instanceMethod yX1_countHoles, Cond.selects RX1 yX1_countHoles yX1_countHoles, Cond.code yX1_countHoles cX1_countHoles 7 (some .int), Cond.methodLink RX1 74 yX1_gapes, Cond.methodLink RL 77 yX12_holes, Cond.instanceMethod yX12_holes, Cond.selects RX12 yX12_holes yX12_holes, Cond.code yX12_holes cX12_holes 4 (some .int), Cond.methodLink RX12 296 yX12_isSpan, Cond.instanceMethod yX12_isSpan, Cond.selects RX12 yX12_isSpan yX12_isSpan, Cond.code yX12_isSpan cX12_isSpan 3 (some .boolean), Cond.methodLink RX12 299 yX12_holesOf, Cond.instanceMethod yX12_holesOf, Cond.selects RX12 yX12_holesOf yX12_holesOf, Cond.code yX12_holesOf cX12_holesOf 6 (some .int), Cond.methodLink RL 78 yX11_run, Cond.instanceMethod yX11_run, Cond.selects RX11 yX11_run yX11_run, Cond.code yX11_run cX11_run 3 (some .int), Cond.fieldLink RX11 202 "OverHill$Floor" "calmLength" "I"]
def wsL_law_r33 : List Cond := [Cond.methodLink RX11 198 yX1_findCalm, Cond.instanceMethod yX1_findCalm, Cond.selects RX1 yX1_findCalm yX1_findCalm, Cond.code yX1_findCalm cX1_findCalm 6 none, Cond.fieldLink RX1 82 "OverHill$Floor" "calmLength" "I", Cond.fieldLink RX1 85 "OverHill$Floor" "calmStart" "I", Cond.methodLink RL 81 yX12_run, Cond.instanceMethod yX12_run, Cond.selects RX12 yX12_run yX12_run, Cond.code yX12_run cX12_run 3 (some .int), Cond.fieldLink RX12 303 "OverHillModel" "runMost" "I", Cond.methodLink RX12 309 yX12_laysRun, Cond.instanceMethod yX12_laysRun, Cond.selects RX12 yX12_laysRun yX12_laysRun, Cond.code yX12_laysRun cX12_laysRun 5 none, Cond.fieldLink RX12 306 "OverHillModel" "runBegins" "I", Cond.methodLink RL 82 yX11_begins, Cond.instanceMethod yX11_begins, Cond.selects RX11 yX11_begins yX11_begins, Cond.code yX11_begins cX11_begins 3 (some .int), Cond.fieldLink RX11 205 "OverHill$Floor" "calmStart" "I", Cond.methodLink RL 85 yX12_begins_, Cond.instanceMethod yX12_begins_, Cond.selects RX12 yX12_begins_ yX12_begins_]
def wsL_law_r34 : List Cond := [Cond.code yX12_begins_ cX12_begins_ 3 (some .int), Cond.methodLink RL 86 yX11_undoes, Cond.instanceMethod yX11_undoes, Cond.selects RX11 yX11_undoes yX11_undoes, Cond.code yX11_undoes cX11_undoes 2 (some .int), Cond.methodLink RX11 212 yX1_countAllHoles, Cond.instanceMethod yX1_countAllHoles, Cond.selects RX1 yX1_countAllHoles yX1_countAllHoles, Cond.code yX1_countAllHoles cX1_countAllHoles 2 (some .int), Cond.methodLink RX1 78 yX1_countHoles, Cond.methodLink RL 89 yX12_undoes, Cond.instanceMethod yX12_undoes, Cond.selects RX12 yX12_undoes yX12_undoes, Cond.code yX12_undoes cX12_undoes 3 (some .int), Cond.methodLink RX12 312 yX12_allHoles, Cond.instanceMethod yX12_allHoles, Cond.selects RX12 yX12_allHoles yX12_allHoles, Cond.code yX12_allHoles cX12_allHoles 1 (some .int), Cond.methodLink RL 90 yX11_causes, Cond.instanceMethod yX11_causes, Cond.selects RX11 yX11_causes yX11_causes, Cond.code yX11_causes cX11_causes 5 (some .int), Cond.fieldLink RX11 216 "OverHill$Dance" "stumbleCount" "I", Cond.methodLink RL 93 yX12_causes]
def wsL_law_r35 : List Cond := [Cond.instanceMethod yX12_causes, Cond.selects RX12 yX12_causes yX12_causes, Cond.code yX12_causes cX12_causes 5 (some .int), Cond.methodLink RL 94 yX11_period, Cond.instanceMethod yX11_period, Cond.selects RX11 yX11_period yX11_period, Cond.code yX11_period cX11_period 1 (some .int), Cond.methodLink RX11 219 yX0_hasBothRounds, Cond.instanceMethod yX0_hasBothRounds, Cond.selects RX0 yX0_hasBothRounds yX0_hasBothRounds, Cond.code yX0_hasBothRounds cX0_hasBothRounds 1 (some .boolean), Cond.methodLink RX11 222 yX6_periodOf, Cond.static yX6_periodOf, Cond.code yX6_periodOf cX6_periodOf 1 (some .int), Cond.fieldLink RX6 15 "OverHill$Dance" "lengths" "[I", Cond.static yX11_commonMultiple, Cond.code yX11_commonMultiple cX11_commonMultiple 6 (some .long), Cond.methodLink RX11 347 yX11_commonDivisor, Cond.static yX11_commonDivisor, Cond.code yX11_commonDivisor cX11_commonDivisor 11 (some .long), Cond.methodLink RL 97 yX12_period, Cond.instanceMethod yX12_period, Cond.selects RX12 yX12_period yX12_period, Cond.code yX12_period cX12_period 1 (some .int)]
def wsL_law_r36 : List Cond := [Cond.methodLink RX12 322 yX12_areRounds, Cond.instanceMethod yX12_areRounds, Cond.selects RX12 yX12_areRounds yX12_areRounds, Cond.code yX12_areRounds cX12_areRounds 1 (some .boolean), Cond.methodLink RX12 325 yX12_periodOf, Cond.instanceMethod yX12_periodOf, Cond.selects RX12 yX12_periodOf yX12_periodOf, Cond.code yX12_periodOf cX12_periodOf 1 (some .int), Cond.methodLink RX12 315 yX12_common, Cond.static yX12_common, Cond.code yX12_common cX12_common 2 (some .int), Cond.methodLink RL 98 yX11_meets, Cond.instanceMethod yX11_meets, Cond.selects RX11 yX11_meets yX11_meets, Cond.code yX11_meets cX11_meets 4 (some .int), Cond.methodLink RX11 225 yX6_firstIn, Cond.static yX6_firstIn, Cond.code yX6_firstIn cX6_firstIn 6 (some .int), Cond.methodLink RX6 24 yX6_periodOf, Cond.methodLink RX6 28 yX6_placeIn, Cond.static yX6_placeIn, Cond.code yX6_placeIn cX6_placeIn 3 (some .int), Cond.fieldLink RX6 75 "OverHill$Dance" "starts" "[I", Cond.methodLink RL 101 yX12_meets]
def wsL_law_r37 : List Cond := [Cond.instanceMethod yX12_meets, Cond.selects RX12 yX12_meets yX12_meets, Cond.code yX12_meets cX12_meets 5 (some .int), Cond.methodLink RL 102 yX11_shifted, Cond.instanceMethod yX11_shifted, Cond.selects RX11 yX11_shifted yX11_shifted, Cond.code yX11_shifted cX11_shifted 2 (some .int), Cond.methodLink RX11 228 yX11_hasRounds, Cond.instanceMethod yX11_hasRounds, Cond.selects RX11 yX11_hasRounds yX11_hasRounds, Cond.code yX11_hasRounds cX11_hasRounds 1 (some .boolean), Cond.methodLink RX11 231 yX6_holesShifted, Cond.static yX6_holesShifted, Cond.code yX6_holesShifted cX6_holesShifted 6 (some .int), Cond.fieldLink RX6 32 "OverHill$Dance" "gap" "I", Cond.methodLink RX6 36 yX6_stepIn, Cond.static yX6_stepIn, Cond.code yX6_stepIn cX6_stepIn 3 (some .int), Cond.methodLink RX6 59 yX0_stepAt, Cond.methodLink RX6 39 yX0_isHole, Cond.methodLink RL 105 yX12_shifted, Cond.instanceMethod yX12_shifted, Cond.selects RX12 yX12_shifted yX12_shifted, Cond.code yX12_shifted cX12_shifted 2 (some .int)]
def wsL_law_r38 : List Cond := [Cond.methodLink RX12 331 yX12_shiftedOf, Cond.instanceMethod yX12_shiftedOf, Cond.selects RX12 yX12_shiftedOf yX12_shiftedOf, Cond.code yX12_shiftedOf cX12_shiftedOf 5 (some .int), Cond.methodLink RX12 328 yX12_plain, Cond.instanceMethod yX12_plain, Cond.selects RX12 yX12_plain yX12_plain, Cond.code yX12_plain cX12_plain 4 (some .int), Cond.methodLink RL 106 yX11_shift, Cond.instanceMethod yX11_shift, Cond.selects RX11 yX11_shift yX11_shift, Cond.code yX11_shift cX11_shift 2 (some .int), Cond.methodLink RX11 235 yX6_leastShift, Cond.static yX6_leastShift, Cond.code yX6_leastShift cX6_leastShift 5 (some .int), Cond.methodLink RX6 43 yX6_holesShifted, Cond.methodLink RL 109 yX12_shift, Cond.instanceMethod yX12_shift, Cond.selects RX12 yX12_shift yX12_shift, Cond.code yX12_shift cX12_shift 2 (some .int), Cond.methodLink RL 110 yX11_least, Cond.instanceMethod yX11_least, Cond.selects RX11 yX11_least yX11_least, Cond.code yX11_least cX11_least 1 (some .int)]
def wsL_law_r39 : List Cond := [Cond.methodLink RL 113 yX12_least, Cond.instanceMethod yX12_least, Cond.selects RX12 yX12_least yX12_least, Cond.code yX12_least cX12_least 3 (some .int), Cond.methodLink RL 114 yX11_mend, Cond.instanceMethod yX11_mend, Cond.selects RX11 yX11_mend yX11_mend, Cond.code yX11_mend cX11_mend 2 (some .int), Cond.methodLink RX11 238 yX6_findFits, Cond.instanceMethod yX6_findFits, Cond.selects RX6 yX6_findFits yX6_findFits, Cond.code yX6_findFits cX6_findFits 7 none, Cond.fieldLink RX6 56 "OverHill$Dance" "met" "[I", Cond.methodLink RX6 47 yJ7_fill_53178, Cond.methodLink RX6 53 yX6_metBy, Cond.static yX6_metBy, Cond.code yX6_metBy cX6_metBy 4 (some .int), Cond.methodLink RX6 72 yX0_mayMeet, Cond.methodLink RX11 241 yX6_firstStuck, Cond.instanceMethod yX6_firstStuck, Cond.selects RX6 yX6_firstStuck yX6_firstStuck, Cond.code yX6_firstStuck cX6_firstStuck 4 (some .int), Cond.methodLink RX11 244 yX6_countChanged, Cond.instanceMethod yX6_countChanged]
def wsL_law_r40 : List Cond := [Cond.selects RX6 yX6_countChanged yX6_countChanged, Cond.code yX6_countChanged cX6_countChanged 5 (some .int), Cond.methodLink RX6 69 yX6_fitting, Cond.instanceMethod yX6_fitting, Cond.selects RX6 yX6_fitting yX6_fitting, Cond.code yX6_fitting cX6_fitting 6 (some .int), Cond.methodLink RX6 63 yJ6_numberOfTrailingZeros_0f7a4, Cond.static yJ6_numberOfTrailingZeros_0f7a4, Cond.initialized RJ6, Cond.code yJ6_numberOfTrailingZeros_0f7a4 cJ6_numberOfTrailingZeros_0f7a4 2 (some .int), Cond.constant RJ6 264 (65536), Cond.methodLink RL 117 yX12_mend, Cond.instanceMethod yX12_mend, Cond.selects RX12 yX12_mend yX12_mend, Cond.code yX12_mend cX12_mend 4 (some .int), Cond.methodLink RX12 340 yX12_stuckOf, Cond.instanceMethod yX12_stuckOf, Cond.selects RX12 yX12_stuckOf yX12_stuckOf, Cond.code yX12_stuckOf cX12_stuckOf 3 (some .int), Cond.methodLink RX12 337 yX12_mendedOf, Cond.instanceMethod yX12_mendedOf, Cond.selects RX12 yX12_mendedOf yX12_mendedOf, Cond.code yX12_mendedOf cX12_mendedOf 6 (some .int), Cond.methodLink RX12 334 yX12_mayBe]
def wsL_law_r41 : List Cond := [Cond.instanceMethod yX12_mayBe, Cond.selects RX12 yX12_mayBe yX12_mayBe, Cond.code yX12_mayBe cX12_mayBe 9 (some .int), Cond.methodLink RL 118 yX11_mended, Cond.instanceMethod yX11_mended, Cond.selects RX11 yX11_mended yX11_mended, Cond.code yX11_mended cX11_mended 3 (some .int), Cond.methodLink RX11 247 yX6_fitting, Cond.methodLink RL 121 yX12_mended, Cond.instanceMethod yX12_mended, Cond.selects RX12 yX12_mended yX12_mended, Cond.code yX12_mended cX12_mended 3 (some .int), Cond.methodLink RL 122 yX11_stuck, Cond.instanceMethod yX11_stuck, Cond.selects RX11 yX11_stuck yX11_stuck, Cond.code yX11_stuck cX11_stuck 2 (some .int), Cond.methodLink RL 125 yX12_stuck, Cond.instanceMethod yX12_stuck, Cond.selects RX12 yX12_stuck yX12_stuck, Cond.code yX12_stuck cX12_stuck 2 (some .int), Cond.methodLink RL 126 yX11_heard, Cond.instanceMethod yX11_heard, Cond.selects RX11 yX11_heard yX11_heard, Cond.code yX11_heard cX11_heard 4 (some .int)]
def wsL_law_r42 : List Cond := [Cond.methodLink RX11 251 yX11_listenTo, Cond.instanceMethod yX11_listenTo, Cond.selects RX11 yX11_listenTo yX11_listenTo, Cond.code yX11_listenTo cX11_listenTo 5 (some .int), Cond.fieldLink RX11 419 "OverHill$Slots" "sizes" "[I", Cond.methodLink RX11 438 yX7_refusalOfHeard, Cond.instanceMethod yX7_refusalOfHeard, Cond.selects RX7 yX7_refusalOfHeard yX7_refusalOfHeard, Cond.code yX7_refusalOfHeard cX7_refusalOfHeard 5 (some .int), Cond.constantLong RX7 47 (199), Cond.methodLink RX7 40 yX7_isSlot, Cond.static yX7_isSlot, Cond.code yX7_isSlot cX7_isSlot 1 (some .boolean), Cond.methodLink RX7 26 yX7_has, Cond.instanceMethod yX7_has, Cond.selects RX7 yX7_has yX7_has, Cond.code yX7_has cX7_has 2 (some .boolean), Cond.methodLink RX7 43 yX7_at, Cond.instanceMethod yX7_at, Cond.selects RX7 yX7_at yX7_at, Cond.code yX7_at cX7_at 3 (some .long), Cond.methodLink RX7 49 yX7_isBetween, Cond.static yX7_isBetween, Cond.code yX7_isBetween cX7_isBetween 6 (some .boolean)]
def wsL_law_r43 : List Cond := [Cond.methodLink RX7 53 yX7_isTold, Cond.static yX7_isTold, Cond.code yX7_isTold cX7_isTold 2 (some .boolean), Cond.constantLong RX7 60 (-1), Cond.constantLong RX7 70 (5), Cond.methodLink RX11 441 yX3_begin, Cond.instanceMethod yX3_begin, Cond.selects RX3 yX3_begin yX3_begin, Cond.code yX3_begin cX3_begin 6 none, Cond.fieldLink RX3 30 "OverHill$Dance" "gap" "I", Cond.fieldLink RX3 36 "OverHill$Guess" "gap" "I", Cond.fieldLink RX3 37 "OverHill$Dance" "lengths" "[I", Cond.fieldLink RX3 40 "OverHill$Guess" "length" "I", Cond.fieldLink RX3 43 "OverHill$Dance" "steps" "[I", Cond.methodLink RX3 46 arraycopyName, Cond.native arraycopyName, Cond.static arraycopyName, Cond.initialized "java/lang/System", Cond.fieldLink RX3 52 "OverHill$Guess" "impossible" "Z", Cond.fieldLink RX3 56 "OverHill$Guess" "firstUnlike" "I", Cond.fieldLink RX3 65 "OverHill$Dance" "starts" "[I", Cond.fieldLink RX3 68 "OverHill$Dance" "muds" "[I", Cond.methodLink RX3 59 yJ7_fill_53178, Cond.methodLink RX11 444 yX7_at]
def wsL_law_r44 : List Cond := [Cond.methodLink RX11 447 yX3_hear, Cond.instanceMethod yX3_hear, Cond.selects RX3 yX3_hear yX3_hear, Cond.code yX3_hear cX3_hear 5 none, Cond.methodLink RX3 78 Lib.Math.min.name, Cond.methodLink RX3 83 Lib.Math.max.name, Cond.static Lib.Math.max.name, Cond.code Lib.Math.max.name Lib.Math.max.code 2 (some .int), Cond.methodLink RX3 75 yX3_stepBack, Cond.instanceMethod yX3_stepBack, Cond.selects RX3 yX3_stepBack yX3_stepBack, Cond.code yX3_stepBack cX3_stepBack 3 (some .int), Cond.methodLink RX11 254 yX3_countFits, Cond.instanceMethod yX3_countFits, Cond.selects RX3 yX3_countFits yX3_countFits, Cond.code yX3_countFits cX3_countFits 4 (some .int), Cond.methodLink RX3 86 yX3_fitsWithout, Cond.instanceMethod yX3_fitsWithout, Cond.selects RX3 yX3_fitsWithout yX3_fitsWithout, Cond.code yX3_fitsWithout cX3_fitsWithout 1 (some .boolean), Cond.methodLink RX3 90 yX3_stepsThatFit, Cond.instanceMethod yX3_stepsThatFit, Cond.selects RX3 yX3_stepsThatFit yX3_stepsThatFit, Cond.code yX3_stepsThatFit cX3_stepsThatFit 4 (some .int)]
def wsL_law_r45 : List Cond := [Cond.methodLink RX3 93 yJ6_bitCount_0f7a4, Cond.static yJ6_bitCount_0f7a4, Cond.code yJ6_bitCount_0f7a4 cJ6_bitCount_0f7a4 1 (some .int), Cond.constant RJ6 265 (1431655765), Cond.constant RJ6 266 (858993459), Cond.constant RJ6 267 (252645135), Cond.methodLink RL 129 yX12_heard, Cond.instanceMethod yX12_heard, Cond.selects RX12 yX12_heard yX12_heard, Cond.code yX12_heard cX12_heard 4 (some .int), Cond.fieldLink RX12 343 "OverHillModel" "fitMany" "I", Cond.methodLink RX12 355 yX12_whyNot, Cond.instanceMethod yX12_whyNot, Cond.selects RX12 yX12_whyNot yX12_whyNot, Cond.code yX12_whyNot cX12_whyNot 4 (some .int), Cond.methodLink RX12 89 yX12_isSlot, Cond.static yX12_isSlot, Cond.code yX12_isSlot cX12_isSlot 1 (some .boolean), Cond.methodLink RX12 358 yX12_laysFits, Cond.instanceMethod yX12_laysFits, Cond.selects RX12 yX12_laysFits yX12_laysFits, Cond.code yX12_laysFits cX12_laysFits 6 none, Cond.fieldLink RX12 346 "OverHillModel" "fitFirst" "I", Cond.fieldLink RX12 349 "OverHillModel" "fitBeats" "J"]
def wsL_law_r46 : List Cond := [Cond.methodLink RX12 352 yX12_isHeard, Cond.instanceMethod yX12_isHeard, Cond.selects RX12 yX12_isHeard yX12_isHeard, Cond.code yX12_isHeard cX12_isHeard 4 (some .boolean), Cond.methodLink RL 130 yX11_first, Cond.instanceMethod yX11_first, Cond.selects RX11 yX11_first yX11_first, Cond.code yX11_first cX11_first 4 (some .int), Cond.methodLink RX11 258 yX3_leastFit, Cond.instanceMethod yX3_leastFit, Cond.selects RX3 yX3_leastFit yX3_leastFit, Cond.code yX3_leastFit cX3_leastFit 4 (some .int), Cond.methodLink RL 133 yX12_first, Cond.instanceMethod yX12_first, Cond.selects RX12 yX12_first yX12_first, Cond.code yX12_first cX12_first 4 (some .int), Cond.methodLink RL 134 yX11_when, Cond.instanceMethod yX11_when, Cond.selects RX11 yX11_when yX11_when, Cond.code yX11_when cX11_when 4 (some .long), Cond.methodLink RX11 261 yX3_beatsOfFits, Cond.instanceMethod yX3_beatsOfFits, Cond.selects RX3 yX3_beatsOfFits yX3_beatsOfFits, Cond.code yX3_beatsOfFits cX3_beatsOfFits 5 (some .long)]
def wsL_law_r47 : List Cond := [Cond.methodLink RL 138 yX12_when, Cond.instanceMethod yX12_when, Cond.selects RX12 yX12_when yX12_when, Cond.code yX12_when cX12_when 4 (some .long), Cond.methodLink RL 139 yX11_listen, Cond.instanceMethod yX11_listen, Cond.selects RX11 yX11_listen yX11_listen, Cond.code yX11_listen cX11_listen 4 (some .int), Cond.fieldLink RX11 268 "OverHill$Guess" "bestBeat" "I", Cond.methodLink RX11 265 yX3_findBeat, Cond.instanceMethod yX3_findBeat, Cond.selects RX3 yX3_findBeat yX3_findBeat, Cond.code yX3_findBeat cX3_findBeat 5 none, Cond.fieldLink RX3 103 "OverHill$Guess" "bestBeat" "I", Cond.fieldLink RX3 106 "OverHill$Guess" "bestLeft" "I", Cond.methodLink RX3 99 yX3_countFits, Cond.methodLink RX3 109 yX3_mostAlike, Cond.instanceMethod yX3_mostAlike, Cond.selects RX3 yX3_mostAlike yX3_mostAlike, Cond.code yX3_mostAlike cX3_mostAlike 7 (some .int), Cond.methodLink RX3 112 yX3_pass, Cond.instanceMethod yX3_pass, Cond.selects RX3 yX3_pass yX3_pass, Cond.code yX3_pass cX3_pass 3 none]
def wsL_law_r48 : List Cond := [Cond.methodLink RL 142 yX12_listen, Cond.instanceMethod yX12_listen, Cond.selects RX12 yX12_listen yX12_listen, Cond.code yX12_listen cX12_listen 4 (some .int), Cond.methodLink RX12 364 yX12_listens, Cond.instanceMethod yX12_listens, Cond.selects RX12 yX12_listens yX12_listens, Cond.code yX12_listens cX12_listens 7 (some .int), Cond.fieldLink RX12 361 "OverHillModel" "listenLeaves" "I", Cond.methodLink RL 143 yX11_leaves, Cond.instanceMethod yX11_leaves, Cond.selects RX11 yX11_leaves yX11_leaves, Cond.code yX11_leaves cX11_leaves 4 (some .int), Cond.fieldLink RX11 271 "OverHill$Guess" "bestLeft" "I", Cond.methodLink RL 146 yX12_leaves, Cond.instanceMethod yX12_leaves, Cond.selects RX12 yX12_leaves yX12_leaves, Cond.code yX12_leaves cX12_leaves 4 (some .int), Cond.methodLink RL 147 yX11_crosses, Cond.instanceMethod yX11_crosses, Cond.selects RX11 yX11_crosses yX11_crosses, Cond.code yX11_crosses cX11_crosses 2 (some .int), Cond.methodLink RX11 274 yX10_through, Cond.instanceMethod yX10_through]
def wsL_law_r49 : List Cond := [Cond.selects RX10 yX10_through yX10_through, Cond.code yX10_through cX10_through 9 (some .int), Cond.fieldLink RX10 15 "OverHill$Dance" "cellCount" "I", Cond.fieldLink RX10 21 "OverHill$Dance" "cells" "[I", Cond.methodLink RL 150 yX12_crosses, Cond.instanceMethod yX12_crosses, Cond.selects RX12 yX12_crosses yX12_crosses, Cond.code yX12_crosses cX12_crosses 2 (some .int), Cond.methodLink RX12 367 yX12_walks, Cond.instanceMethod yX12_walks, Cond.selects RX12 yX12_walks yX12_walks, Cond.code yX12_walks cX12_walks 6 (some .int), Cond.methodLink RX12 370 yX12_known, Cond.static yX12_known, Cond.code yX12_known cX12_known 1 (some .int), Cond.methodLink RL 151 yX11_returns, Cond.instanceMethod yX11_returns, Cond.selects RX11 yX11_returns yX11_returns, Cond.code yX11_returns cX11_returns 2 (some .int), Cond.methodLink RL 154 yX12_returns, Cond.instanceMethod yX12_returns, Cond.selects RX12 yX12_returns yX12_returns, Cond.code yX12_returns cX12_returns 2 (some .int), Cond.methodLink RL 155 yX11_meet]
def wsL_law_r50 : List Cond := [Cond.instanceMethod yX11_meet, Cond.selects RX11 yX11_meet yX11_meet, Cond.code yX11_meet cX11_meet 3 (some .int), Cond.fieldLink RX11 280 "OverHill$Wood" "meetingBeat" "I", Cond.methodLink RX11 277 yX10_findMeeting, Cond.instanceMethod yX10_findMeeting, Cond.selects RX10 yX10_findMeeting yX10_findMeeting, Cond.code yX10_findMeeting cX10_findMeeting 6 none, Cond.fieldLink RX10 32 "OverHill$Wood" "meetingBeat" "I", Cond.fieldLink RX10 35 "OverHill$Wood" "meetingCell" "I", Cond.methodLink RX10 38 Lib.Math.max.name, Cond.methodLink RX10 28 yX10_through, Cond.methodLink RL 158 yX12_meet, Cond.instanceMethod yX12_meet, Cond.selects RX12 yX12_meet yX12_meet, Cond.code yX12_meet cX12_meet 3 (some .int), Cond.fieldLink RX12 373 "OverHillModel" "metAt" "I", Cond.methodLink RX12 379 yX12_laysMeet, Cond.instanceMethod yX12_laysMeet, Cond.selects RX12 yX12_laysMeet yX12_laysMeet, Cond.code yX12_laysMeet cX12_laysMeet 5 none, Cond.fieldLink RX12 376 "OverHillModel" "metIn" "I", Cond.methodLink RL 159 yX11_cell, Cond.instanceMethod yX11_cell]
def wsL_law_r51 : List Cond := [Cond.selects RX11 yX11_cell yX11_cell, Cond.code yX11_cell cX11_cell 3 (some .int), Cond.fieldLink RX11 283 "OverHill$Wood" "meetingCell" "I", Cond.methodLink RL 162 yX12_cell, Cond.instanceMethod yX12_cell, Cond.selects RX12 yX12_cell yX12_cell, Cond.code yX12_cell cX12_cell 3 (some .int), Cond.methodLink RL 163 yX11_longest, Cond.instanceMethod yX11_longest, Cond.selects RX11 yX11_longest yX11_longest, Cond.code yX11_longest cX11_longest 1 (some .int), Cond.methodLink RX11 286 yX10_slowest, Cond.instanceMethod yX10_slowest, Cond.selects RX10 yX10_slowest yX10_slowest, Cond.code yX10_slowest cX10_slowest 4 (some .int), Cond.methodLink RL 166 yX12_longest, Cond.instanceMethod yX12_longest, Cond.selects RX12 yX12_longest yX12_longest, Cond.code yX12_longest cX12_longest 4 (some .int), Cond.methodLink RL 167 yX11_half, Cond.instanceMethod yX11_half, Cond.selects RX11 yX11_half yX11_half, Cond.code yX11_half cX11_half 3 (some .int), Cond.methodLink RX11 289 yX7_refusalOfSteps]
def wsL_law_r52 : List Cond := [Cond.instanceMethod yX7_refusalOfSteps, Cond.selects RX7 yX7_refusalOfSteps yX7_refusalOfSteps, Cond.code yX7_refusalOfSteps cX7_refusalOfSteps 3 (some .int), Cond.methodLink RX11 293 yX7_shortest, Cond.instanceMethod yX7_shortest, Cond.selects RX7 yX7_shortest yX7_shortest, Cond.code yX7_shortest cX7_shortest 3 (some .int), Cond.methodLink RX7 57 yX7_goesRound, Cond.instanceMethod yX7_goesRound, Cond.selects RX7 yX7_goesRound yX7_goesRound, Cond.code yX7_goesRound cX7_goesRound 6 (some .boolean), Cond.methodLink RX7 62 yX7_told, Cond.instanceMethod yX7_told, Cond.selects RX7 yX7_told yX7_told, Cond.code yX7_told cX7_told 5 (some .int), Cond.methodLink RL 170 yX12_half, Cond.instanceMethod yX12_half, Cond.selects RX12 yX12_half yX12_half, Cond.code yX12_half cX12_half 3 (some .int), Cond.methodLink RX12 385 yX12_whyNotHalf, Cond.instanceMethod yX12_whyNotHalf, Cond.selects RX12 yX12_whyNotHalf yX12_whyNotHalf, Cond.code yX12_whyNotHalf cX12_whyNotHalf 3 (some .int), Cond.methodLink RX12 388 yX12_halfOf]
def wsL_law_r53 : List Cond := [Cond.instanceMethod yX12_halfOf, Cond.selects RX12 yX12_halfOf yX12_halfOf, Cond.code yX12_halfOf cX12_halfOf 3 (some .int), Cond.methodLink RX12 382 yX12_isHalf, Cond.instanceMethod yX12_isHalf, Cond.selects RX12 yX12_isHalf yX12_isHalf, Cond.code yX12_isHalf cX12_isHalf 5 (some .boolean), Cond.methodLink RL 171 yX11_fills, Cond.instanceMethod yX11_fills, Cond.selects RX11 yX11_fills yX11_fills, Cond.code yX11_fills cX11_fills 5 (some .int), Cond.methodLink RX11 296 yX7_told, Cond.methodLink RL 174 yX12_fills, Cond.instanceMethod yX12_fills, Cond.selects RX12 yX12_fills yX12_fills, Cond.code yX12_fills cX12_fills 4 (some .int), Cond.methodLink RL 175 yX11_open, Cond.instanceMethod yX11_open, Cond.selects RX11 yX11_open yX11_open, Cond.code yX11_open cX11_open 4 (some .int), Cond.methodLink RX11 300 yX7_countUntold, Cond.instanceMethod yX7_countUntold, Cond.selects RX7 yX7_countUntold yX7_countUntold, Cond.code yX7_countUntold cX7_countUntold 5 (some .int)]
def wsL_law_r54 : List Cond := [Cond.methodLink RL 178 yX12_open, Cond.instanceMethod yX12_open, Cond.selects RX12 yX12_open yX12_open, Cond.code yX12_open cX12_open 6 (some .int), Cond.methodLink RL 179 yX11_together, Cond.instanceMethod yX11_together, Cond.selects RX11 yX11_together yX11_together, Cond.code yX11_together cX11_together 3 (some .long), Cond.constantLong RX11 306 (-2), Cond.methodLink RX11 303 yX11_hasSet, Cond.instanceMethod yX11_hasSet, Cond.selects RX11 yX11_hasSet yX11_hasSet, Cond.code yX11_hasSet cX11_hasSet 2 (some .boolean), Cond.fieldLink RX11 401 "OverHill$Dance" "tuneCount" "I", Cond.methodLink RX11 308 yX9_join, Cond.instanceMethod yX9_join, Cond.selects RX9 yX9_join yX9_join, Cond.code yX9_join cX9_join 4 none, Cond.fieldLink RX9 9 "OverHill$Tunes" "every" "J", Cond.fieldLink RX9 15 "OverHill$Tunes" "at" "J", Cond.fieldLink RX9 18 "OverHill$Dance" "tuneCount" "I", Cond.fieldLink RX9 24 "OverHill$Dance" "tunes" "[I", Cond.methodLink RX9 28 yX9_joinOne, Cond.instanceMethod yX9_joinOne]
def wsL_law_r55 : List Cond := [Cond.selects RX9 yX9_joinOne yX9_joinOne, Cond.code yX9_joinOne cX9_joinOne 8 none, Cond.constantLong RX9 32 (-1), Cond.methodLink RX11 311 yX9_firstFrom, Cond.instanceMethod yX9_firstFrom, Cond.selects RX9 yX9_firstFrom yX9_firstFrom, Cond.code yX9_firstFrom cX9_firstFrom 2 (some .long), Cond.methodLink RX9 38 yJ9_floorMod_f86c9, Cond.static yJ9_floorMod_f86c9, Cond.code yJ9_floorMod_f86c9 cJ9_floorMod_f86c9 6 (some .long), Cond.methodLink RL 182 yX12_together, Cond.instanceMethod yX12_together, Cond.selects RX12 yX12_together yX12_together, Cond.code yX12_together cX12_together 3 (some .long), Cond.constantLong RX12 398 (-2), Cond.methodLink RX12 391 yX12_isSet, Cond.instanceMethod yX12_isSet, Cond.selects RX12 yX12_isSet yX12_isSet, Cond.code yX12_isSet cX12_isSet 2 (some .boolean), Cond.methodLink RX12 394 yX12_togetherOf, Cond.instanceMethod yX12_togetherOf, Cond.selects RX12 yX12_togetherOf yX12_togetherOf, Cond.code yX12_togetherOf cX12_togetherOf 9 (some .long), Cond.methodLink RX12 318 yX12_commonLong]
def wsL_law_r56 : List Cond := [Cond.static yX12_commonLong, Cond.code yX12_commonLong cX12_commonLong 4 (some .long), Cond.methodLink RL 183 yX11_again, Cond.instanceMethod yX11_again, Cond.selects RX11 yX11_again yX11_again, Cond.code yX11_again cX11_again 2 (some .long), Cond.fieldLink RX11 315 "OverHill$Tunes" "every" "J", Cond.methodLink RL 187 yX12_again, Cond.instanceMethod yX12_again, Cond.selects RX12 yX12_again yX12_again, Cond.code yX12_again cX12_again 2 (some .long), Cond.methodLink RX12 400 yX12_againOf, Cond.instanceMethod yX12_againOf, Cond.selects RX12 yX12_againOf yX12_againOf, Cond.code yX12_againOf cX12_againOf 5 (some .long), Cond.methodLink RL 188 yX11_most, Cond.instanceMethod yX11_most, Cond.selects RX11 yX11_most yX11_most, Cond.code yX11_most cX11_most 1 (some .int), Cond.methodLink RX11 319 yX9_largestSet, Cond.instanceMethod yX9_largestSet, Cond.selects RX9 yX9_largestSet yX9_largestSet, Cond.code yX9_largestSet cX9_largestSet 4 (some .int), Cond.methodLink RX9 43 yJ6_bitCount_0f7a4]
def wsL_law_r57 : List Cond := [Cond.methodLink RX9 49 yX9_join, Cond.methodLink RX11 322 yJ6_bitCount_0f7a4, Cond.methodLink RL 191 yX12_most, Cond.instanceMethod yX12_most, Cond.selects RX12 yX12_most yX12_most, Cond.code yX12_most cX12_most 1 (some .int), Cond.methodLink RX12 407 yX12_chorusOf, Cond.instanceMethod yX12_chorusOf, Cond.selects RX12 yX12_chorusOf yX12_chorusOf, Cond.code yX12_chorusOf cX12_chorusOf 3 (some .int), Cond.methodLink RX12 404 yX12_sizeOf, Cond.static yX12_sizeOf, Cond.code yX12_sizeOf cX12_sizeOf 3 (some .int), Cond.methodLink RL 192 yX11_chorus, Cond.instanceMethod yX11_chorus, Cond.selects RX11 yX11_chorus yX11_chorus, Cond.code yX11_chorus cX11_chorus 1 (some .int), Cond.methodLink RL 195 yX12_chorus, Cond.instanceMethod yX12_chorus, Cond.selects RX12 yX12_chorus yX12_chorus, Cond.code yX12_chorus cX12_chorus 1 (some .int), Cond.methodLink RL 196 yX11_treaties, Cond.instanceMethod yX11_treaties, Cond.selects RX11 yX11_treaties yX11_treaties]
def wsL_law_r58 : List Cond := [Cond.code yX11_treaties cX11_treaties 4 (some .int), Cond.methodLink RX11 327 yX0_mayMeet, Cond.methodLink RL 199 yX12_treaties, Cond.instanceMethod yX12_treaties, Cond.selects RX12 yX12_treaties yX12_treaties, Cond.code yX12_treaties cX12_treaties 4 (some .int), Cond.methodLink RL 200 yX11_leads, Cond.instanceMethod yX11_leads, Cond.selects RX11 yX11_leads yX11_leads, Cond.code yX11_leads cX11_leads 5 (some .int), Cond.methodLink RL 203 yX12_leads, Cond.instanceMethod yX12_leads, Cond.selects RX12 yX12_leads yX12_leads, Cond.code yX12_leads cX12_leads 4 (some .int), Cond.methodLink RL 204 yX11_game, Cond.instanceMethod yX11_game, Cond.selects RX11 yX11_game yX11_game, Cond.code yX11_game cX11_game 2 (some .int), Cond.methodLink RX11 330 yX2_winningStep, Cond.instanceMethod yX2_winningStep, Cond.selects RX2 yX2_winningStep yX2_winningStep, Cond.code yX2_winningStep cX2_winningStep 4 (some .int), Cond.fieldLink RX2 19 "OverHill$Game" "POWERS" "[I", Cond.fieldLink RX2 22 "OverHill$Dance" "met" "[I"]
def wsL_law_r59 : List Cond := [Cond.methodLink RX2 15 yX2_findWinning, Cond.instanceMethod yX2_findWinning, Cond.selects RX2 yX2_findWinning yX2_findWinning, Cond.code yX2_findWinning cX2_findWinning 6 (some .int), Cond.methodLink RX2 27 yJ6_numberOfTrailingZeros_0f7a4, Cond.methodLink RL 207 yX12_game, Cond.instanceMethod yX12_game, Cond.selects RX12 yX12_game yX12_game, Cond.code yX12_game cX12_game 2 (some .int), Cond.methodLink RX12 416 yX12_laysGame, Cond.instanceMethod yX12_laysGame, Cond.selects RX12 yX12_laysGame yX12_laysGame, Cond.code yX12_laysGame cX12_laysGame 2 none, Cond.methodLink RX12 413 yX12_winsFrom, Cond.instanceMethod yX12_winsFrom, Cond.selects RX12 yX12_winsFrom yX12_winsFrom, Cond.code yX12_winsFrom cX12_winsFrom 5 (some .boolean), Cond.methodLink RX12 410 yX12_isPlay, Cond.instanceMethod yX12_isPlay, Cond.selects RX12 yX12_isPlay yX12_isPlay, Cond.code yX12_isPlay cX12_isPlay 4 (some .boolean), Cond.methodLink RL 208 yX11_plays, Cond.instanceMethod yX11_plays, Cond.selects RX11 yX11_plays yX11_plays]
def wsL_law_r60 : List Cond := [Cond.code yX11_plays cX11_plays 2 (some .int), Cond.methodLink RL 211 yX12_plays, Cond.instanceMethod yX12_plays, Cond.selects RX12 yX12_plays yX12_plays, Cond.code yX12_plays cX12_plays 4 (some .int), Cond.methodLink RL 212 yX11_dry, Cond.instanceMethod yX11_dry, Cond.selects RX11 yX11_dry yX11_dry, Cond.code yX11_dry cX11_dry 3 (some .long), Cond.methodLink RX11 333 yX11_wet, Cond.instanceMethod yX11_wet, Cond.selects RX11 yX11_wet yX11_wet, Cond.code yX11_wet cX11_wet 10 (some .long), Cond.fieldLink RX11 341 "OverHill$Dance" "rain" "I", Cond.methodLink RX11 337 yX11_choices, Cond.static yX11_choices, Cond.code yX11_choices cX11_choices 5 (some .long), Cond.methodLink RX11 344 yX11_power, Cond.static yX11_power, Cond.code yX11_power cX11_power 5 (some .long), Cond.methodLink RL 215 yX12_dry, Cond.instanceMethod yX12_dry, Cond.selects RX12 yX12_dry yX12_dry, Cond.code yX12_dry cX12_dry 3 (some .long)]
def wsL_law_r61 : List Cond := [Cond.constantLong RX12 424 (100), Cond.methodLink RX12 421 yX12_isRain, Cond.instanceMethod yX12_isRain, Cond.selects RX12 yX12_isRain yX12_isRain, Cond.code yX12_isRain cX12_isRain 3 (some .boolean), Cond.constantLong RX12 419 (9), Cond.methodLink RX12 426 yX12_power, Cond.static yX12_power, Cond.code yX12_power cX12_power 6 (some .long), Cond.methodLink RX12 429 yX12_part, Cond.static yX12_part, Cond.code yX12_part cX12_part 5 (some .long), Cond.methodLink RL 216 yX11_wet, Cond.methodLink RL 220 yX12_wet, Cond.instanceMethod yX12_wet, Cond.selects RX12 yX12_wet yX12_wet, Cond.code yX12_wet cX12_wet 7 (some .long), Cond.methodLink RL 221 yX11_drawn, Cond.instanceMethod yX11_drawn, Cond.selects RX11 yX11_drawn yX11_drawn, Cond.code yX11_drawn cX11_drawn 4 (some .int), Cond.fieldLink RX11 357 "OverHill$Night" "holeCount" "I", Cond.fieldLink RX11 360 "OverHill$Night" "firstHole" "I", Cond.fieldLink RX11 363 "OverHill$Night" "mudCount" "I"]
def wsL_law_r62 : List Cond := [Cond.fieldLink RX11 366 "OverHill$Night" "slipCount" "I", Cond.methodLink RX11 351 yX11_hasNight, Cond.instanceMethod yX11_hasNight, Cond.selects RX11 yX11_hasNight yX11_hasNight, Cond.code yX11_hasNight cX11_hasNight 3 (some .boolean), Cond.constant RX11 437 (2000000000), Cond.methodLink RX11 354 yX4_play, Cond.instanceMethod yX4_play, Cond.selects RX4 yX4_play yX4_play, Cond.code yX4_play cX4_play 5 none, Cond.fieldLink RX4 18 "OverHill$Night" "state" "J", Cond.fieldLink RX4 22 "OverHill$Night" "holeCount" "I", Cond.fieldLink RX4 26 "OverHill$Night" "firstHole" "I", Cond.fieldLink RX4 29 "OverHill$Night" "mudCount" "I", Cond.fieldLink RX4 32 "OverHill$Night" "slipCount" "I", Cond.fieldLink RX4 35 "OverHill$Dance" "starts" "[I", Cond.methodLink RX4 40 yX4_danceBeat, Cond.instanceMethod yX4_danceBeat, Cond.selects RX4 yX4_danceBeat yX4_danceBeat, Cond.code yX4_danceBeat cX4_danceBeat 6 none, Cond.fieldLink RX4 52 "OverHill$Dance" "rain" "I", Cond.fieldLink RX4 55 "OverHill$Dance" "lengths" "[I", Cond.methodLink RX4 48 yX4_draw, Cond.instanceMethod yX4_draw]
def wsL_law_r63 : List Cond := [Cond.selects RX4 yX4_draw yX4_draw, Cond.code yX4_draw cX4_draw 1 (some .int), Cond.constantLong RX4 79 (1103515245), Cond.constantLong RX4 81 (12345), Cond.constantLong RX4 83 (2147483648), Cond.constantLong RX4 85 (65536), Cond.constantLong RX4 87 (100), Cond.methodLink RX4 58 yX4_danceStep, Cond.instanceMethod yX4_danceStep, Cond.selects RX4 yX4_danceStep yX4_danceStep, Cond.code yX4_danceStep cX4_danceStep 4 (some .int), Cond.fieldLink RX4 69 "OverHill$Dance" "odds" "I", Cond.methodLink RX4 62 yX0_stepAt, Cond.methodLink RX4 44 yX4_lookForHole, Cond.instanceMethod yX4_lookForHole, Cond.selects RX4 yX4_lookForHole yX4_lookForHole, Cond.code yX4_lookForHole cX4_lookForHole 6 none, Cond.fieldLink RX4 72 "OverHill$Dance" "gap" "I", Cond.methodLink RX4 75 yX0_isHole, Cond.methodLink RL 224 yX12_drawn, Cond.instanceMethod yX12_drawn, Cond.selects RX12 yX12_drawn yX12_drawn, Cond.code yX12_drawn cX12_drawn 4 (some .int), Cond.fieldLink RX12 444 "OverHillModel" "nightHoles" "I"]
def wsL_law_r64 : List Cond := [Cond.fieldLink RX12 447 "OverHillModel" "nightFirst" "I", Cond.fieldLink RX12 450 "OverHillModel" "nightMud" "I", Cond.fieldLink RX12 453 "OverHillModel" "nightSlips" "I", Cond.methodLink RX12 464 yX12_isDraw, Cond.instanceMethod yX12_isDraw, Cond.selects RX12 yX12_isDraw yX12_isDraw, Cond.code yX12_isDraw cX12_isDraw 3 (some .boolean), Cond.constantLong RX12 462 (2000000000), Cond.methodLink RX12 467 yX12_draws, Cond.instanceMethod yX12_draws, Cond.selects RX12 yX12_draws yX12_draws, Cond.code yX12_draws cX12_draws 8 none, Cond.fieldLink RX12 435 "OverHillModel" "drawnNow" "J", Cond.methodLink RX12 456 yX12_isBelow, Cond.instanceMethod yX12_isBelow, Cond.selects RX12 yX12_isBelow yX12_isBelow, Cond.code yX12_isBelow cX12_isBelow 2 (some .boolean), Cond.constantLong RX12 433 (1103515245), Cond.constantLong RX12 438 (12345), Cond.constantLong RX12 440 (2147483648), Cond.constantLong RX12 442 (65536), Cond.methodLink RX12 459 yX12_slips, Cond.instanceMethod yX12_slips, Cond.selects RX12 yX12_slips yX12_slips]
def wsL_law_r65 : List Cond := [Cond.code yX12_slips cX12_slips 2 (some .int), Cond.methodLink RL 225 yX11_nights, Cond.instanceMethod yX11_nights, Cond.selects RX11 yX11_nights yX11_nights, Cond.code yX11_nights cX11_nights 6 (some .int), Cond.methodLink RL 228 yX12_nights, Cond.instanceMethod yX12_nights, Cond.selects RX12 yX12_nights yX12_nights, Cond.code yX12_nights cX12_nights 6 (some .int), Cond.constantLong RX12 471 (20), Cond.methodLink RL 229 yX11_stumble, Cond.instanceMethod yX11_stumble, Cond.selects RX11 yX11_stumble yX11_stumble, Cond.code yX11_stumble cX11_stumble 6 (some .int), Cond.fieldLink RX11 369 "OverHill$Dance" "changeCount" "I", Cond.methodLink RX11 372 yX0_stumbleOf, Cond.methodLink RX11 375 yX0_keepChange, Cond.instanceMethod yX0_keepChange, Cond.selects RX0 yX0_keepChange yX0_keepChange, Cond.code yX0_keepChange cX0_keepChange 5 none, Cond.methodLink RX11 379 yX0_addStumble, Cond.methodLink RL 233 yX12_stumble, Cond.instanceMethod yX12_stumble, Cond.selects RX12 yX12_stumble yX12_stumble]
def wsL_law_r66 : List Cond := [Cond.code yX12_stumble cX12_stumble 6 (some .int), Cond.methodLink RX12 473 yX12_changes, Cond.instanceMethod yX12_changes, Cond.selects RX12 yX12_changes yX12_changes, Cond.code yX12_changes cX12_changes 6 none, Cond.methodLink RL 234 yX11_mud, Cond.instanceMethod yX11_mud, Cond.selects RX11 yX11_mud yX11_mud, Cond.code yX11_mud cX11_mud 4 (some .int), Cond.methodLink RL 237 yX12_mud, Cond.instanceMethod yX12_mud, Cond.selects RX12 yX12_mud yX12_mud, Cond.code yX12_mud cX12_mud 4 (some .int), Cond.methodLink RL 238 yX11_teach, Cond.instanceMethod yX11_teach, Cond.selects RX11 yX11_teach yX11_teach, Cond.code yX11_teach cX11_teach 6 (some .int), Cond.fieldLink RX11 383 "OverHill$Dance" "steps" "[I", Cond.methodLink RL 241 yX12_teach, Cond.instanceMethod yX12_teach, Cond.selects RX12 yX12_teach yX12_teach, Cond.code yX12_teach cX12_teach 5 (some .int), Cond.methodLink RL 242 yX11_undo, Cond.instanceMethod yX11_undo]
def wsL_law_r67 : List Cond := [Cond.selects RX11 yX11_undo yX11_undo, Cond.code yX11_undo cX11_undo 1 (some .int), Cond.methodLink RX11 386 yX0_takeBack, Cond.instanceMethod yX0_takeBack, Cond.selects RX0 yX0_takeBack yX0_takeBack, Cond.code yX0_takeBack cX0_takeBack 4 none, Cond.methodLink RL 245 yX12_undo, Cond.instanceMethod yX12_undo, Cond.selects RX12 yX12_undo yX12_undo, Cond.code yX12_undo cX12_undo 2 (some .int), Cond.methodLink RL 246 yX11_count, Cond.instanceMethod yX11_count, Cond.selects RX11 yX11_count yX11_count, Cond.code yX11_count cX11_count 2 (some .int), Cond.fieldLink RX11 389 "OverHill$Dance" "gap" "I", Cond.fieldLink RX11 392 "OverHill$Dance" "odds" "I", Cond.fieldLink RX11 398 "OverHill$Dance" "cellCount" "I", Cond.methodLink RX11 395 yX0_countMuds, Cond.instanceMethod yX0_countMuds, Cond.selects RX0 yX0_countMuds yX0_countMuds, Cond.code yX0_countMuds cX0_countMuds 3 (some .int), Cond.methodLink RX11 404 yX7_countRows, Cond.instanceMethod yX7_countRows, Cond.selects RX7 yX7_countRows yX7_countRows]
def wsL_law_r68 : List Cond := [Cond.code yX7_countRows cX7_countRows 3 (some .int), Cond.methodLink RL 249 yX12_count, Cond.instanceMethod yX12_count, Cond.selects RX12 yX12_count yX12_count, Cond.code yX12_count cX12_count 4 (some .int), Cond.methodLink RL 250 yX11_image, Cond.instanceMethod yX11_image, Cond.selects RX11 yX11_image yX11_image, Cond.code yX11_image cX11_image 2 (some .int), Cond.methodLink RX11 407 yX0_copyFrom, Cond.instanceMethod yX0_copyFrom, Cond.selects RX0 yX0_copyFrom yX0_copyFrom, Cond.code yX0_copyFrom cX0_copyFrom 2 none, Cond.methodLink RX0 70 arraycopyName, Cond.methodLink RL 253 yX12_image, Cond.instanceMethod yX12_image, Cond.selects RX12 yX12_image yX12_image, Cond.code yX12_image cX12_image 2 (some .int), Cond.constantLong RX12 477 (2), Cond.methodLink RL 254 yX11_back, Cond.instanceMethod yX11_back, Cond.selects RX11 yX11_back yX11_back, Cond.code yX11_back cX11_back 2 (some .int), Cond.methodLink RL 257 yX12_back]
def wsL_law_r69 : List Cond := [Cond.instanceMethod yX12_back, Cond.selects RX12 yX12_back yX12_back, Cond.code yX12_back cX12_back 2 (some .int), Cond.methodLink RL 258 yX11_row, Cond.instanceMethod yX11_row, Cond.selects RX11 yX11_row yX11_row, Cond.code yX11_row cX11_row 4 (some .int), Cond.methodLink RX11 411 yX7_isSlot, Cond.methodLink RX11 414 yX7_make, Cond.instanceMethod yX7_make, Cond.selects RX7 yX7_make yX7_make, Cond.code yX7_make cX7_make 5 none, Cond.methodLink RL 261 yX12_row, Cond.instanceMethod yX12_row, Cond.selects RX12 yX12_row yX12_row, Cond.code yX12_row cX12_row 5 (some .int), Cond.methodLink RL 264 yX11_write, Cond.instanceMethod yX11_write, Cond.selects RX11 yX11_write yX11_write, Cond.code yX11_write cX11_write 5 (some .int), Cond.methodLink RX11 417 yX7_has, Cond.methodLink RX11 422 yX7_put, Cond.instanceMethod yX7_put, Cond.selects RX7 yX7_put yX7_put]
def wsL_law_r70 : List Cond := [Cond.code yX7_put cX7_put 5 none, Cond.methodLink RX7 30 yX7_cut, Cond.static yX7_cut, Cond.code yX7_cut cX7_cut 3 (some .long), Cond.methodLink RL 268 yX12_write, Cond.instanceMethod yX12_write, Cond.selects RX12 yX12_write yX12_write, Cond.code yX12_write cX12_write 5 (some .int), Cond.methodLink RX12 93 yX12_cut, Cond.static yX12_cut, Cond.code yX12_cut cX12_cut 3 (some .long), Cond.methodLink RL 269 yX11_paste, Cond.instanceMethod yX11_paste, Cond.selects RX11 yX11_paste yX11_paste, Cond.code yX11_paste cX11_paste 6 (some .int), Cond.fieldLink RX11 426 "OverHill$Slots" "widths" "[I", Cond.methodLink RX11 429 yX7_holds, Cond.instanceMethod yX7_holds, Cond.selects RX7 yX7_holds yX7_holds, Cond.code yX7_holds cX7_holds 4 (some .boolean), Cond.methodLink RX11 433 yX7_move, Cond.instanceMethod yX7_move, Cond.selects RX7 yX7_move yX7_move, Cond.code yX7_move cX7_move 6 none]
def wsL_law_r71 : List Cond := [Cond.methodLink RX7 34 arraycopyName, Cond.methodLink RL 272 yX12_paste, Cond.instanceMethod yX12_paste, Cond.selects RX12 yX12_paste yX12_paste, Cond.code yX12_paste cX12_paste 7 (some .int)]
def wsL_law : List Cond := (wsL_law_r1 ++ (wsL_law_r2 ++ (wsL_law_r3 ++ (wsL_law_r4 ++ (wsL_law_r5 ++ (wsL_law_r6 ++ (wsL_law_r7 ++ (wsL_law_r8 ++ (wsL_law_r9 ++ (wsL_law_r10 ++ (wsL_law_r11 ++ (wsL_law_r12 ++ (wsL_law_r13 ++ (wsL_law_r14 ++ (wsL_law_r15 ++ (wsL_law_r16 ++ (wsL_law_r17 ++ (wsL_law_r18 ++ (wsL_law_r19 ++ (wsL_law_r20 ++ (wsL_law_r21 ++ (wsL_law_r22 ++ (wsL_law_r23 ++ (wsL_law_r24 ++ (wsL_law_r25 ++ (wsL_law_r26 ++ (wsL_law_r27 ++ (wsL_law_r28 ++ (wsL_law_r29 ++ (wsL_law_r30 ++ (wsL_law_r31 ++ (wsL_law_r32 ++ (wsL_law_r33 ++ (wsL_law_r34 ++ (wsL_law_r35 ++ (wsL_law_r36 ++ (wsL_law_r37 ++ (wsL_law_r38 ++ (wsL_law_r39 ++ (wsL_law_r40 ++ (wsL_law_r41 ++ (wsL_law_r42 ++ (wsL_law_r43 ++ (wsL_law_r44 ++ (wsL_law_r45 ++ (wsL_law_r46 ++ (wsL_law_r47 ++ (wsL_law_r48 ++ (wsL_law_r49 ++ (wsL_law_r50 ++ (wsL_law_r51 ++ (wsL_law_r52 ++ (wsL_law_r53 ++ (wsL_law_r54 ++ (wsL_law_r55 ++ (wsL_law_r56 ++ (wsL_law_r57 ++ (wsL_law_r58 ++ (wsL_law_r59 ++ (wsL_law_r60 ++ (wsL_law_r61 ++ (wsL_law_r62 ++ (wsL_law_r63 ++ (wsL_law_r64 ++ (wsL_law_r65 ++ (wsL_law_r66 ++ (wsL_law_r67 ++ (wsL_law_r68 ++ (wsL_law_r69 ++ (wsL_law_r70 ++ wsL_law_r71)))))))))))))))))))))))))))))))))))))))))))))))))))))))))))))))))))))) ++ wsX110 ++ wsX120 ++ wsX50 ++ wsX00 ++ wsX10 ++ wsX60 ++ wsX30 ++ wsX100 ++ wsX90 ++ wsX20 ++ wsX40 ++ wsX70 ++ wsX80 ++ ([] : List Cond)
set_option maxRecDepth 20000 in
theorem wsL_law_in : ∀ w ∈ wsL_law, w ∈ lw_tbl := fun w h => (goodIn_p wsL_law [128, 131, 136, 142, 188, 299, 326, 336, 381, 399, 413, 423, 455, 1359, 522, 526, 1523, 1527, 530, 1531, 1508, 534, 538, 542, 545, 549, 553, 559, 556, 563, 568, 572, 576, 582, 586, 589, 592, 597, 600, 603, 606, 610, 620, 624, 630, 634, 641, 646, 652, 657, 661, 666, 672, 677, 682, 687, 692, 696, 700, 1539, 1543, 1547, 1551, 1555, 1559, 1568, 1573, 1577, 1581, 1585, 1590, 1594, 1600, 1607, 1611, 1616, 1620, 1627, 1632, 1637, 1643, 1648, 1652, 1656, 1659, 704, 1535, 708, 712, 715, 718, 722, 727, 1663, 1667, 1671, 1675, 731, 734, 1679, 1682, 738, 742, 1687, 746, 749, 1691, 1694, 753, 757, 761, 765, 769, 774, 778, 781, 785, 1699, 1703, 1707, 1711, 789, 793, 1715, 797, 801, 1719, 1723, 806, 1727, 811, 815, 820, 824, 1731, 1735, 1739, 1742, 828, 1746, 832, 836, 840, 1750, 1754, 1758, 845, 849, 1762, 1766, 853, 1770, 857, 861, 1774, 1778, 866, 1782, 870, 874, 877, 880, 883, 1786, 1790, 1794, 1797, 887, 890, 894, 1801, 899, 903, 906, 909, 1805, 1809, 1813, 915, 918, 1817, 923, 1821, 927, 931, 935, 940, 944, 948, 951, 1825, 1829, 1833, 1837, 956, 1841, 961, 1845, 965, 969, 973, 976, 981, 985, 989, 992, 998, 1008, 1016, 1012, 1020, 1024, 1028, 1031, 1849, 1853, 1504, 1857, 1861, 1038, 1042, 1865, 1046, 1050, 1869, 1054, 1058, 1063, 1067, 1873, 1877, 1071, 1881, 1075, 1079, 1885, 1889, 1892, 1084, 1896, 1088, 1092, 1900, 1904, 1098, 1908, 1102, 1106, 1912, 1110, 1114, 1118, 1122, 1127, 1916, 1920, 1924, 1928, 1131, 1932, 1136, 1140, 1936, 1144, 1148, 1153, 1157, 1163, 1166, 1940, 1944, 1948, 1951, 1170, 1956, 1960, 1174, 1178, 1964, 1968, 1971, 1185, 1975, 1189, 1979, 1194, 1983, 1198, 1202, 1206, 1987, 1991, 1995, 1999, 1213, 2003, 1217, 1221, 1224, 1227, 2007, 2011, 2016, 2019, 2023, 1232, 1236, 1241, 1245, 1249, 1258, 1264, 2027, 2031, 2036, 2040, 2048, 1269, 2052, 1273, 1278, 2057, 2061, 1283, 2065, 1287, 2069, 1291, 1295, 2073, 1299, 1303, 1307, 2077, 1311, 1315, 2081, 1320, 2086, 1324, 1329, 1501, 1333, 1338, 1341, 1512, 1515, 1345, 1349, 1353, 1519] (by decide +kernel) (by decide +kernel) w h).1
theorem inlX0 : ∀ w ∈ wsX00, w ∈ wsL_law := fun _ h => List.mem_append_left _ (List.mem_append_left _ (List.mem_append_left _ (List.mem_append_left _ (List.mem_append_left _ (List.mem_append_left _ (List.mem_append_left _ (List.mem_append_left _ (List.mem_append_left _ (List.mem_append_left _ (List.mem_append_right _ h))))))))))
theorem inX0 : ∀ w ∈ wsX00, w ∈ lw_tbl := fun w h => wsL_law_in w (inlX0 w h)
theorem inlX1 : ∀ w ∈ wsX10, w ∈ wsL_law := fun _ h => List.mem_append_left _ (List.mem_append_left _ (List.mem_append_left _ (List.mem_append_left _ (List.mem_append_left _ (List.mem_append_left _ (List.mem_append_left _ (List.mem_append_left _ (List.mem_append_left _ (List.mem_append_right _ h)))))))))
theorem inX1 : ∀ w ∈ wsX10, w ∈ lw_tbl := fun w h => wsL_law_in w (inlX1 w h)
theorem inlX2 : ∀ w ∈ wsX20, w ∈ wsL_law := fun _ h => List.mem_append_left _ (List.mem_append_left _ (List.mem_append_left _ (List.mem_append_left _ (List.mem_append_right _ h))))
theorem inX2 : ∀ w ∈ wsX20, w ∈ lw_tbl := fun w h => wsL_law_in w (inlX2 w h)
theorem inlX3 : ∀ w ∈ wsX30, w ∈ wsL_law := fun _ h => List.mem_append_left _ (List.mem_append_left _ (List.mem_append_left _ (List.mem_append_left _ (List.mem_append_left _ (List.mem_append_left _ (List.mem_append_left _ (List.mem_append_right _ h)))))))
theorem inX3 : ∀ w ∈ wsX30, w ∈ lw_tbl := fun w h => wsL_law_in w (inlX3 w h)
theorem inlX4 : ∀ w ∈ wsX40, w ∈ wsL_law := fun _ h => List.mem_append_left _ (List.mem_append_left _ (List.mem_append_left _ (List.mem_append_right _ h)))
theorem inX4 : ∀ w ∈ wsX40, w ∈ lw_tbl := fun w h => wsL_law_in w (inlX4 w h)
theorem inlX5 : ∀ w ∈ wsX50, w ∈ wsL_law := fun _ h => List.mem_append_left _ (List.mem_append_left _ (List.mem_append_left _ (List.mem_append_left _ (List.mem_append_left _ (List.mem_append_left _ (List.mem_append_left _ (List.mem_append_left _ (List.mem_append_left _ (List.mem_append_left _ (List.mem_append_left _ (List.mem_append_right _ h)))))))))))
theorem inX5 : ∀ w ∈ wsX50, w ∈ lw_tbl := fun w h => wsL_law_in w (inlX5 w h)
theorem inlX6 : ∀ w ∈ wsX60, w ∈ wsL_law := fun _ h => List.mem_append_left _ (List.mem_append_left _ (List.mem_append_left _ (List.mem_append_left _ (List.mem_append_left _ (List.mem_append_left _ (List.mem_append_left _ (List.mem_append_left _ (List.mem_append_right _ h))))))))
theorem inX6 : ∀ w ∈ wsX60, w ∈ lw_tbl := fun w h => wsL_law_in w (inlX6 w h)
theorem inlX7 : ∀ w ∈ wsX70, w ∈ wsL_law := fun _ h => List.mem_append_left _ (List.mem_append_left _ (List.mem_append_right _ h))
theorem inX7 : ∀ w ∈ wsX70, w ∈ lw_tbl := fun w h => wsL_law_in w (inlX7 w h)
theorem inlX8 : ∀ w ∈ wsX80, w ∈ wsL_law := fun _ h => List.mem_append_left _ (List.mem_append_right _ h)
theorem inX8 : ∀ w ∈ wsX80, w ∈ lw_tbl := fun w h => wsL_law_in w (inlX8 w h)
theorem inlX9 : ∀ w ∈ wsX90, w ∈ wsL_law := fun _ h => List.mem_append_left _ (List.mem_append_left _ (List.mem_append_left _ (List.mem_append_left _ (List.mem_append_left _ (List.mem_append_right _ h)))))
theorem inX9 : ∀ w ∈ wsX90, w ∈ lw_tbl := fun w h => wsL_law_in w (inlX9 w h)
theorem inlX10 : ∀ w ∈ wsX100, w ∈ wsL_law := fun _ h => List.mem_append_left _ (List.mem_append_left _ (List.mem_append_left _ (List.mem_append_left _ (List.mem_append_left _ (List.mem_append_left _ (List.mem_append_right _ h))))))
theorem inX10 : ∀ w ∈ wsX100, w ∈ lw_tbl := fun w h => wsL_law_in w (inlX10 w h)
theorem inlX11 : ∀ w ∈ wsX110, w ∈ wsL_law := fun _ h => List.mem_append_left _ (List.mem_append_left _ (List.mem_append_left _ (List.mem_append_left _ (List.mem_append_left _ (List.mem_append_left _ (List.mem_append_left _ (List.mem_append_left _ (List.mem_append_left _ (List.mem_append_left _ (List.mem_append_left _ (List.mem_append_left _ (List.mem_append_left _ (List.mem_append_right _ h)))))))))))))
theorem inX11 : ∀ w ∈ wsX110, w ∈ lw_tbl := fun w h => wsL_law_in w (inlX11 w h)
theorem inlX12 : ∀ w ∈ wsX120, w ∈ wsL_law := fun _ h => List.mem_append_left _ (List.mem_append_left _ (List.mem_append_left _ (List.mem_append_left _ (List.mem_append_left _ (List.mem_append_left _ (List.mem_append_left _ (List.mem_append_left _ (List.mem_append_left _ (List.mem_append_left _ (List.mem_append_left _ (List.mem_append_left _ (List.mem_append_right _ h))))))))))))
theorem inX12 : ∀ w ∈ wsX120, w ∈ lw_tbl := fun w h => wsL_law_in w (inlX12 w h)
set_option maxRecDepth 20000 in
theorem ggL_law_X11_init : GoodIn wsL_law wsX11_init := goodIn_r _ [9, 10, 11, 12, 13, 14, 15, 16, 17, 18, 19, 20, 21, 22, 23, 24, 25, 26, 27, 28, 29, 30, 31, 32, 33, 34, 35, 36, 37, 38, 39, 40, 41, 42, 43, 44, 45, 46, 47, 48, 49, 50, 51, 52, 53, 54, 55, 56, 57, 58, 59, 60, 61, 62, 63, 64, 65, 66, 67, 68, 69, 70, 71, 72, 73, 74, 75, 76, 77, 78, 79, 80, 81, 82, 83, 84, 85, 86, 87, 88, 89, 90, 91, 92, 93, 94, 95, 96, 97, 98, 99, 100, 101, 102, 103, 104, 105, 106, 107, 108, 109, 110, 111, 112, 113, 114, 115, 116, 117, 118, 119, 120, 121, 122, 123, 124, 125, 126, 127, 1746, 1747, 1748, 1749, 1685, 1686, 1687, 1688, 1689, 1690, 1691, 1692, 1693, 1694, 1695, 1696, 1697, 1698, 1699, 1700, 1750, 1751, 1752, 1753, 1754, 1755, 1756, 1757, 1758, 1759, 1760, 1761, 1762, 1763, 1764, 1765, 1766, 1767, 1768, 1769, 1770, 1771, 1772, 1773, 1774, 1775, 1776, 1777, 1778, 1779, 1780, 1781, 1782, 1783, 1784, 1785, 1786, 1787, 1788, 1789, 1790, 1791, 1792, 1793, 1794, 1795, 1796, 1797, 1798, 1799, 1800, 1801, 1802, 1803, 1804, 1805, 1806, 1807] (by decide +kernel) (by decide +kernel)
set_option maxRecDepth 20000 in
theorem gL_law_X11_init : GoodIn wsL_law (wsX11_init) := ggL_law_X11_init
set_option maxRecDepth 20000 in
theorem ggL_law_X12_init : GoodIn wsL_law wsX12_init := goodIn_r _ [130, 131, 11, 12, 25, 132, 133, 126, 134, 135, 72, 136, 137, 138, 139, 140, 141, 142, 143, 144, 145, 146, 147, 148, 149, 150, 151, 152, 153, 154, 1701, 1702, 1703, 1704, 1705, 1706, 1707, 1708, 1709, 1710, 1711, 1712, 1713, 1714, 1715, 1716, 1717, 1718, 1719, 1720, 1721, 1722, 1723, 1724, 1725, 1726, 1727, 1728, 1729, 1730, 1731, 1732, 1733, 1734, 1735, 1736, 1737, 1738, 1739, 1740, 1741, 1742, 1743, 1744, 1745] (by decide +kernel) (by decide +kernel)
set_option maxRecDepth 20000 in
theorem gL_law_X12_init : GoodIn wsL_law (wsX12_init) := ggL_law_X12_init
set_option maxRecDepth 20000 in
theorem ggL_law_X11_feed : GoodIn wsL_law wsX11_feed := goodIn_r _ [158, 18, 159, 160, 161, 162, 66, 163, 164, 73, 1685, 1686, 1687, 1688, 1689, 1690, 1691, 1692, 1693, 1694, 1695, 1696, 1697, 1698, 1699, 1700, 1802, 1803, 1804, 1805, 1806, 1807] (by decide +kernel) (by decide +kernel)
set_option maxRecDepth 20000 in
theorem gL_law_X11_feed : GoodIn wsL_law (wsV RL 13 RX11 yX11_feed wsX11_feed) := goodIn_app (goodIn_of _ (by decide +kernel)) ggL_law_X11_feed
set_option maxRecDepth 20000 in
theorem ggL_law_X12_feed : GoodIn wsL_law wsX12_feed := goodIn_r _ [168, 169, 170, 171, 172, 173, 5, 174, 136, 1701, 1702, 1703, 1704, 1705, 1706, 1707, 1708, 1709, 1710, 1711, 1712, 1713, 1714, 1715, 1716, 1717, 1718, 1719, 1720, 1721, 1722, 1723, 1724, 1725, 1726, 1727, 1728, 1729, 1730, 1731, 1732, 1733, 1734, 1735, 1736, 1737, 1738, 1739, 1740, 1741, 1742, 1743, 1744, 1745] (by decide +kernel) (by decide +kernel)
set_option maxRecDepth 20000 in
theorem gL_law_X12_feed : GoodIn wsL_law (wsV RL 17 RX12 yX12_feed wsX12_feed) := goodIn_app (goodIn_of _ (by decide +kernel)) ggL_law_X12_feed
set_option maxRecDepth 20000 in
theorem ggL_law_X11_end : GoodIn wsL_law wsX11_end := goodIn_r _ [178, 18, 159, 1685, 1686, 1687, 1688, 1689, 1690, 1691, 1692, 1693, 1694, 1695, 1696, 1697, 1698, 1699, 1700, 1802, 1803, 1804, 1805, 1806, 1807] (by decide +kernel) (by decide +kernel)
set_option maxRecDepth 20000 in
theorem gL_law_X11_end : GoodIn wsL_law (wsV RL 18 RX11 yX11_end wsX11_end) := goodIn_app (goodIn_of _ (by decide +kernel)) ggL_law_X11_end
set_option maxRecDepth 20000 in
theorem ggL_law_X12_end : GoodIn wsL_law wsX12_end := goodIn_r _ [182, 169, 170, 183, 184, 5, 185, 1701, 1702, 1703, 1704, 1705, 1706, 1707, 1708, 1709, 1710, 1711, 1712, 1713, 1714, 1715, 1716, 1717, 1718, 1719, 1720, 1721, 1722, 1723, 1724, 1725, 1726, 1727, 1728, 1729, 1730, 1731, 1732, 1733, 1734, 1735, 1736, 1737, 1738, 1739, 1740, 1741, 1742, 1743, 1744, 1745] (by decide +kernel) (by decide +kernel)
set_option maxRecDepth 20000 in
theorem gL_law_X12_end : GoodIn wsL_law (wsV RL 22 RX12 yX12_end wsX12_end) := goodIn_app (goodIn_of _ (by decide +kernel)) ggL_law_X12_end
set_option maxRecDepth 20000 in
theorem ggL_law_X11_dance : GoodIn wsL_law wsX11_dance := goodIn_r _ [189, 16, 23, 22, 18, 159, 32, 190, 191, 192, 193, 15, 194, 195, 68, 67, 196, 197, 198, 199, 200, 21, 201, 202, 203, 204, 205, 78, 79, 80, 82, 206, 207, 208, 209, 210, 211, 212, 213, 214, 215, 216, 66, 217, 218, 219, 220, 221, 222, 223, 164, 73, 224, 225, 226, 227, 228, 229, 230, 231, 232, 233, 234, 235, 236, 237, 238, 239, 240, 241, 242, 243, 244, 245, 246, 247, 248, 249, 250, 251, 252, 253, 254, 255, 256, 257, 258, 259, 260, 261, 262, 263, 264, 265, 266, 267, 268, 269, 270, 271, 272, 273, 274, 275, 276, 277, 278, 279, 280, 281, 282, 283, 284, 285, 286, 287, 288, 289, 290, 291, 292, 293, 294, 295, 296, 297, 298, 299, 300, 301, 302, 303, 304, 305, 306, 307, 308, 309, 310, 311, 312, 313, 314, 315, 316, 317, 318, 319, 320, 321, 322, 323, 324, 325, 326, 327, 328, 329, 330, 331, 332, 333, 334, 335, 336, 337, 338, 339, 340, 341, 81, 342, 343, 344, 345, 346, 347, 348, 349, 350, 351, 352, 353, 354, 355, 356, 357, 358, 359, 83, 360, 361, 362, 363, 364, 365, 366, 367, 368, 84, 369, 370, 371, 372, 1685, 1686, 1687, 1688, 1689, 1690, 1691, 1692, 1693, 1694, 1695, 1696, 1697, 1698, 1699, 1700, 1802, 1803, 1804, 1805, 1806, 1807, 1750, 1751, 1752, 1753, 1754, 1755, 1756, 1757, 1758, 1759, 1760, 1761, 1762, 1763, 1764, 1765, 1766, 1746, 1747, 1748, 1749] (by decide +kernel) (by decide +kernel)
set_option maxRecDepth 20000 in
theorem gL_law_X11_dance : GoodIn wsL_law (wsV RL 23 RX11 yX11_dance wsX11_dance) := goodIn_app (goodIn_of _ (by decide +kernel)) ggL_law_X11_dance
set_option maxRecDepth 20000 in
theorem ggL_law_X12_dance : GoodIn wsL_law wsX12_dance := goodIn_r _ [376, 169, 377, 138, 378, 379, 380, 381, 382, 383, 384, 385, 5, 386, 141, 144, 387, 388, 389, 390, 139, 391, 392, 393, 394, 395, 396, 397, 398, 399, 400, 401, 402, 403, 170, 404, 405, 136, 406, 407, 408, 409, 410, 411, 412, 413, 414, 415, 416, 417, 418, 419, 420, 421, 422, 423, 424, 425, 426, 427, 428, 429, 430, 431, 432, 433, 434, 435, 436, 437, 438, 439, 440, 183, 184, 185, 441, 442, 443, 444, 445, 446, 447, 448, 145, 146, 449, 450, 451, 452, 453, 454, 455, 456, 457, 458, 459, 460, 142, 461, 462, 463, 464, 465, 466, 467, 468, 469, 470, 471, 472, 473, 474, 475, 476, 477, 478, 479, 149, 480, 140, 481, 482, 483, 484, 485, 486, 487, 488, 489, 490, 491, 492, 493, 494, 495, 496, 497, 137, 498, 499, 500, 501, 147, 502, 503, 504, 1701, 1702, 1703, 1704, 1705, 1706, 1707, 1708, 1709, 1710, 1711, 1712, 1713, 1714, 1715, 1716, 1717, 1718, 1719, 1720, 1721, 1722, 1723, 1724, 1725, 1726, 1727, 1728, 1729, 1730, 1731, 1732, 1733, 1734, 1735, 1736, 1737, 1738, 1739, 1740, 1741, 1742, 1743, 1744, 1745] (by decide +kernel) (by decide +kernel)
set_option maxRecDepth 20000 in
theorem gL_law_X12_dance : GoodIn wsL_law (wsV RL 27 RX12 yX12_dance wsX12_dance) := goodIn_app (goodIn_of _ (by decide +kernel)) ggL_law_X12_dance
set_option maxRecDepth 20000 in
theorem ggL_law_X11_fault : GoodIn wsL_law wsX11_fault := goodIn_r _ [508, 16, 509, 510, 1685, 1686, 1687, 1688, 1689, 1690, 1691, 1692, 1693, 1694, 1695, 1696, 1697, 1698, 1699, 1700, 1746, 1747, 1748, 1749] (by decide +kernel) (by decide +kernel)
set_option maxRecDepth 20000 in
theorem gL_law_X11_fault : GoodIn wsL_law (wsV RL 28 RX11 yX11_fault wsX11_fault) := goodIn_app (goodIn_of _ (by decide +kernel)) ggL_law_X11_fault
set_option maxRecDepth 20000 in
theorem ggL_law_X12_fault : GoodIn wsL_law wsX12_fault := goodIn_r _ [514, 169, 497, 137, 1701, 1702, 1703, 1704, 1705, 1706, 1707, 1708, 1709, 1710, 1711, 1712, 1713, 1714, 1715, 1716, 1717, 1718, 1719, 1720, 1721, 1722, 1723, 1724, 1725, 1726, 1727, 1728, 1729, 1730, 1731, 1732, 1733, 1734, 1735, 1736, 1737, 1738, 1739, 1740, 1741, 1742, 1743, 1744, 1745] (by decide +kernel) (by decide +kernel)
set_option maxRecDepth 20000 in
theorem gL_law_X12_fault : GoodIn wsL_law (wsV RL 31 RX12 yX12_fault wsX12_fault) := goodIn_app (goodIn_of _ (by decide +kernel)) ggL_law_X12_fault
set_option maxRecDepth 20000 in
theorem ggL_law_X11_step : GoodIn wsL_law wsX11_step := goodIn_r _ [518, 22, 519, 520, 521, 21, 522, 205, 523, 524, 2, 525, 526, 527, 528, 529, 530, 531, 532, 78, 533, 534, 535, 536, 77, 1685, 1686, 1687, 1688, 1689, 1690, 1691, 1692, 1693, 1694, 1695, 1696, 1697, 1698, 1699, 1700, 1750, 1751, 1752, 1753, 1754, 1755, 1756, 1757, 1758, 1759, 1760, 1761, 1762, 1763, 1764, 1765, 1766] (by decide +kernel) (by decide +kernel)
set_option maxRecDepth 20000 in
theorem gL_law_X11_step : GoodIn wsL_law (wsV RL 32 RX11 yX11_step wsX11_step) := goodIn_app (goodIn_of _ (by decide +kernel)) ggL_law_X11_step
set_option maxRecDepth 20000 in
theorem ggL_law_X12_step : GoodIn wsL_law wsX12_step := goodIn_r _ [540, 169, 140, 541, 542, 543, 5, 544, 545, 546, 547, 548, 138, 183, 184, 185, 549, 550, 551, 552, 139, 1701, 1702, 1703, 1704, 1705, 1706, 1707, 1708, 1709, 1710, 1711, 1712, 1713, 1714, 1715, 1716, 1717, 1718, 1719, 1720, 1721, 1722, 1723, 1724, 1725, 1726, 1727, 1728, 1729, 1730, 1731, 1732, 1733, 1734, 1735, 1736, 1737, 1738, 1739, 1740, 1741, 1742, 1743, 1744, 1745] (by decide +kernel) (by decide +kernel)
set_option maxRecDepth 20000 in
theorem gL_law_X12_step : GoodIn wsL_law (wsV RL 36 RX12 yX12_step wsX12_step) := goodIn_app (goodIn_of _ (by decide +kernel)) ggL_law_X12_step
set_option maxRecDepth 20000 in
theorem ggL_law_X11_answers : GoodIn wsL_law wsX11_answers := goodIn_r _ [556, 22, 557, 519, 520, 521, 21, 522, 205, 558, 559, 2, 560, 526, 527, 528, 1685, 1686, 1687, 1688, 1689, 1690, 1691, 1692, 1693, 1694, 1695, 1696, 1697, 1698, 1699, 1700, 1750, 1751, 1752, 1753, 1754, 1755, 1756, 1757, 1758, 1759, 1760, 1761, 1762, 1763, 1764, 1765, 1766] (by decide +kernel) (by decide +kernel)
set_option maxRecDepth 20000 in
theorem gL_law_X11_answers : GoodIn wsL_law (wsV RL 37 RX11 yX11_answers wsX11_answers) := goodIn_app (goodIn_of _ (by decide +kernel)) ggL_law_X11_answers
set_option maxRecDepth 20000 in
theorem ggL_law_X12_answers : GoodIn wsL_law wsX12_answers := goodIn_r _ [564, 169, 141, 545, 546, 547, 5, 548, 138, 565, 566, 567, 568, 183, 184, 185, 1701, 1702, 1703, 1704, 1705, 1706, 1707, 1708, 1709, 1710, 1711, 1712, 1713, 1714, 1715, 1716, 1717, 1718, 1719, 1720, 1721, 1722, 1723, 1724, 1725, 1726, 1727, 1728, 1729, 1730, 1731, 1732, 1733, 1734, 1735, 1736, 1737, 1738, 1739, 1740, 1741, 1742, 1743, 1744, 1745] (by decide +kernel) (by decide +kernel)
set_option maxRecDepth 20000 in
theorem gL_law_X12_answers : GoodIn wsL_law (wsV RL 40 RX12 yX12_answers wsX12_answers) := goodIn_app (goodIn_of _ (by decide +kernel)) ggL_law_X12_answers
set_option maxRecDepth 20000 in
theorem ggL_law_X11_stumbled : GoodIn wsL_law wsX11_stumbled := goodIn_r _ [572, 22, 573, 574, 575, 576, 21, 577, 206, 527, 2, 528, 526, 1685, 1686, 1687, 1688, 1689, 1690, 1691, 1692, 1693, 1694, 1695, 1696, 1697, 1698, 1699, 1700, 1750, 1751, 1752, 1753, 1754, 1755, 1756, 1757, 1758, 1759, 1760, 1761, 1762, 1763, 1764, 1765, 1766] (by decide +kernel) (by decide +kernel)
set_option maxRecDepth 20000 in
theorem gL_law_X11_stumbled : GoodIn wsL_law (wsV RL 41 RX11 yX11_stumbled wsX11_stumbled) := goodIn_app (goodIn_of _ (by decide +kernel)) ggL_law_X11_stumbled
set_option maxRecDepth 20000 in
theorem ggL_law_X12_stumbled : GoodIn wsL_law wsX12_stumbled := goodIn_r _ [581, 169, 139, 582, 142, 183, 184, 5, 185, 1701, 1702, 1703, 1704, 1705, 1706, 1707, 1708, 1709, 1710, 1711, 1712, 1713, 1714, 1715, 1716, 1717, 1718, 1719, 1720, 1721, 1722, 1723, 1724, 1725, 1726, 1727, 1728, 1729, 1730, 1731, 1732, 1733, 1734, 1735, 1736, 1737, 1738, 1739, 1740, 1741, 1742, 1743, 1744, 1745] (by decide +kernel) (by decide +kernel)
set_option maxRecDepth 20000 in
theorem gL_law_X12_stumbled : GoodIn wsL_law (wsV RL 44 RX12 yX12_stumbled wsX12_stumbled) := goodIn_app (goodIn_of _ (by decide +kernel)) ggL_law_X12_stumbled
set_option maxRecDepth 20000 in
theorem ggL_law_X11_muddy : GoodIn wsL_law wsX11_muddy := goodIn_r _ [586, 22, 587, 519, 520, 521, 21, 522, 205, 588, 589, 2, 590, 526, 527, 528, 1685, 1686, 1687, 1688, 1689, 1690, 1691, 1692, 1693, 1694, 1695, 1696, 1697, 1698, 1699, 1700, 1750, 1751, 1752, 1753, 1754, 1755, 1756, 1757, 1758, 1759, 1760, 1761, 1762, 1763, 1764, 1765, 1766] (by decide +kernel) (by decide +kernel)
set_option maxRecDepth 20000 in
theorem gL_law_X11_muddy : GoodIn wsL_law (wsV RL 45 RX11 yX11_muddy wsX11_muddy) := goodIn_app (goodIn_of _ (by decide +kernel)) ggL_law_X11_muddy
set_option maxRecDepth 20000 in
theorem ggL_law_X12_muddy : GoodIn wsL_law wsX12_muddy := goodIn_r _ [594, 169, 144, 545, 546, 547, 5, 548, 138, 595, 596, 597, 598, 183, 184, 185, 1701, 1702, 1703, 1704, 1705, 1706, 1707, 1708, 1709, 1710, 1711, 1712, 1713, 1714, 1715, 1716, 1717, 1718, 1719, 1720, 1721, 1722, 1723, 1724, 1725, 1726, 1727, 1728, 1729, 1730, 1731, 1732, 1733, 1734, 1735, 1736, 1737, 1738, 1739, 1740, 1741, 1742, 1743, 1744, 1745] (by decide +kernel) (by decide +kernel)
set_option maxRecDepth 20000 in
theorem gL_law_X12_muddy : GoodIn wsL_law (wsV RL 48 RX12 yX12_muddy wsX12_muddy) := goodIn_app (goodIn_of _ (by decide +kernel)) ggL_law_X12_muddy
set_option maxRecDepth 20000 in
theorem ggL_law_X11_place : GoodIn wsL_law wsX11_place := goodIn_r _ [602, 603, 604, 605, 2, 606, 22, 519, 520, 521, 21, 522, 205, 523, 524, 525, 526, 527, 528, 588, 589, 590, 607, 608, 609, 610, 32, 30, 611, 612, 613, 29, 614, 615, 616, 617, 618, 619, 620, 91, 621, 622, 623, 211, 212, 213, 624, 625, 626, 627, 628, 629, 89, 90, 630, 631, 534, 535, 536, 77, 632, 633, 634, 635, 636, 637, 638, 639, 640, 641, 1685, 1686, 1687, 1688, 1689, 1690, 1691, 1692, 1693, 1694, 1695, 1696, 1697, 1698, 1699, 1700, 1750, 1751, 1752, 1753, 1754, 1755, 1756, 1757, 1758, 1759, 1760, 1761, 1762, 1763, 1764, 1765, 1766, 1767, 1768, 1769, 1770, 1771, 1772] (by decide +kernel) (by decide +kernel)
set_option maxRecDepth 20000 in
theorem gL_law_X11_place : GoodIn wsL_law (wsV RL 49 RX11 yX11_place wsX11_place) := goodIn_app (goodIn_of _ (by decide +kernel)) ggL_law_X11_place
set_option maxRecDepth 20000 in
theorem ggL_law_X12_place : GoodIn wsL_law wsX12_place := goodIn_r _ [645, 169, 150, 541, 542, 543, 5, 544, 545, 546, 547, 548, 138, 183, 184, 185, 595, 596, 597, 598, 646, 647, 648, 649, 650, 651, 652, 653, 654, 655, 656, 657, 139, 151, 144, 140, 142, 549, 550, 551, 552, 1701, 1702, 1703, 1704, 1705, 1706, 1707, 1708, 1709, 1710, 1711, 1712, 1713, 1714, 1715, 1716, 1717, 1718, 1719, 1720, 1721, 1722, 1723, 1724, 1725, 1726, 1727, 1728, 1729, 1730, 1731, 1732, 1733, 1734, 1735, 1736, 1737, 1738, 1739, 1740, 1741, 1742, 1743, 1744, 1745] (by decide +kernel) (by decide +kernel)
set_option maxRecDepth 20000 in
theorem gL_law_X12_place : GoodIn wsL_law (wsV RL 52 RX12 yX12_place wsX12_place) := goodIn_app (goodIn_of _ (by decide +kernel)) ggL_law_X12_place
set_option maxRecDepth 20000 in
theorem ggL_law_X11_danced : GoodIn wsL_law wsX11_danced := goodIn_r _ [661, 603, 604, 605, 2, 606, 22, 519, 520, 521, 21, 522, 205, 523, 524, 525, 526, 527, 528, 588, 589, 590, 607, 608, 609, 610, 32, 30, 611, 612, 613, 29, 614, 615, 616, 617, 618, 619, 620, 91, 621, 622, 623, 211, 212, 213, 624, 625, 626, 627, 628, 629, 89, 90, 630, 631, 534, 535, 536, 77, 632, 633, 634, 635, 636, 637, 662, 663, 664, 665, 1685, 1686, 1687, 1688, 1689, 1690, 1691, 1692, 1693, 1694, 1695, 1696, 1697, 1698, 1699, 1700, 1750, 1751, 1752, 1753, 1754, 1755, 1756, 1757, 1758, 1759, 1760, 1761, 1762, 1763, 1764, 1765, 1766, 1767, 1768, 1769, 1770, 1771, 1772] (by decide +kernel) (by decide +kernel)
set_option maxRecDepth 20000 in
theorem gL_law_X11_danced : GoodIn wsL_law (wsV RL 53 RX11 yX11_danced wsX11_danced) := goodIn_app (goodIn_of _ (by decide +kernel)) ggL_law_X11_danced
set_option maxRecDepth 20000 in
theorem ggL_law_X12_danced : GoodIn wsL_law wsX12_danced := goodIn_r _ [669, 169, 151, 541, 542, 543, 5, 544, 545, 546, 547, 548, 138, 183, 184, 185, 595, 596, 597, 598, 646, 647, 648, 649, 650, 651, 652, 653, 654, 655, 656, 657, 139, 150, 144, 140, 142, 549, 550, 551, 552, 1701, 1702, 1703, 1704, 1705, 1706, 1707, 1708, 1709, 1710, 1711, 1712, 1713, 1714, 1715, 1716, 1717, 1718, 1719, 1720, 1721, 1722, 1723, 1724, 1725, 1726, 1727, 1728, 1729, 1730, 1731, 1732, 1733, 1734, 1735, 1736, 1737, 1738, 1739, 1740, 1741, 1742, 1743, 1744, 1745] (by decide +kernel) (by decide +kernel)
set_option maxRecDepth 20000 in
theorem gL_law_X12_danced : GoodIn wsL_law (wsV RL 56 RX12 yX12_danced wsX12_danced) := goodIn_app (goodIn_of _ (by decide +kernel)) ggL_law_X12_danced
set_option maxRecDepth 20000 in
theorem ggL_law_X11_hears : GoodIn wsL_law wsX11_hears := goodIn_r _ [673, 603, 604, 605, 2, 606, 22, 519, 520, 521, 21, 522, 205, 523, 524, 525, 526, 527, 528, 588, 589, 590, 607, 608, 609, 610, 32, 30, 611, 612, 613, 29, 614, 615, 616, 617, 618, 619, 620, 91, 621, 622, 623, 211, 212, 213, 624, 625, 626, 627, 628, 629, 89, 90, 630, 631, 534, 535, 536, 77, 632, 633, 634, 635, 636, 637, 674, 675, 676, 677, 678, 663, 664, 665, 1685, 1686, 1687, 1688, 1689, 1690, 1691, 1692, 1693, 1694, 1695, 1696, 1697, 1698, 1699, 1700, 1750, 1751, 1752, 1753, 1754, 1755, 1756, 1757, 1758, 1759, 1760, 1761, 1762, 1763, 1764, 1765, 1766, 1767, 1768, 1769, 1770, 1771, 1772] (by decide +kernel) (by decide +kernel)
set_option maxRecDepth 20000 in
theorem gL_law_X11_hears : GoodIn wsL_law (wsV RL 57 RX11 yX11_hears wsX11_hears) := goodIn_app (goodIn_of _ (by decide +kernel)) ggL_law_X11_hears
set_option maxRecDepth 20000 in
theorem ggL_law_X12_hears : GoodIn wsL_law wsX12_hears := goodIn_r _ [682, 169, 541, 542, 543, 5, 544, 545, 546, 547, 548, 138, 183, 184, 185, 595, 596, 597, 598, 646, 647, 648, 649, 650, 651, 652, 653, 654, 655, 656, 657, 139, 150, 151, 144, 140, 142, 549, 550, 551, 552, 683, 684, 685, 686, 1701, 1702, 1703, 1704, 1705, 1706, 1707, 1708, 1709, 1710, 1711, 1712, 1713, 1714, 1715, 1716, 1717, 1718, 1719, 1720, 1721, 1722, 1723, 1724, 1725, 1726, 1727, 1728, 1729, 1730, 1731, 1732, 1733, 1734, 1735, 1736, 1737, 1738, 1739, 1740, 1741, 1742, 1743, 1744, 1745] (by decide +kernel) (by decide +kernel)
set_option maxRecDepth 20000 in
theorem gL_law_X12_hears : GoodIn wsL_law (wsV RL 60 RX12 yX12_hears wsX12_hears) := goodIn_app (goodIn_of _ (by decide +kernel)) ggL_law_X12_hears
set_option maxRecDepth 20000 in
theorem ggL_law_X11_late : GoodIn wsL_law wsX11_late := goodIn_r _ [690, 22, 691, 692, 603, 604, 605, 2, 606, 519, 520, 521, 21, 522, 205, 523, 524, 525, 526, 527, 528, 588, 589, 590, 607, 608, 609, 610, 32, 30, 611, 612, 613, 29, 614, 615, 616, 617, 618, 619, 620, 91, 621, 622, 623, 211, 212, 213, 624, 625, 626, 627, 628, 629, 89, 90, 630, 631, 534, 535, 536, 77, 632, 633, 634, 635, 636, 637, 638, 639, 640, 641, 693, 1685, 1686, 1687, 1688, 1689, 1690, 1691, 1692, 1693, 1694, 1695, 1696, 1697, 1698, 1699, 1700, 1750, 1751, 1752, 1753, 1754, 1755, 1756, 1757, 1758, 1759, 1760, 1761, 1762, 1763, 1764, 1765, 1766, 1767, 1768, 1769, 1770, 1771, 1772] (by decide +kernel) (by decide +kernel)
set_option maxRecDepth 20000 in
theorem gL_law_X11_late : GoodIn wsL_law (wsV RL 61 RX11 yX11_late wsX11_late) := goodIn_app (goodIn_of _ (by decide +kernel)) ggL_law_X11_late
set_option maxRecDepth 20000 in
theorem ggL_law_X12_late : GoodIn wsL_law wsX12_late := goodIn_r _ [697, 169, 139, 150, 541, 542, 543, 5, 544, 545, 546, 547, 548, 138, 183, 184, 185, 595, 596, 597, 598, 549, 550, 551, 552, 646, 647, 648, 649, 650, 651, 652, 653, 654, 655, 656, 657, 151, 144, 140, 142, 1701, 1702, 1703, 1704, 1705, 1706, 1707, 1708, 1709, 1710, 1711, 1712, 1713, 1714, 1715, 1716, 1717, 1718, 1719, 1720, 1721, 1722, 1723, 1724, 1725, 1726, 1727, 1728, 1729, 1730, 1731, 1732, 1733, 1734, 1735, 1736, 1737, 1738, 1739, 1740, 1741, 1742, 1743, 1744, 1745] (by decide +kernel) (by decide +kernel)
set_option maxRecDepth 20000 in
theorem gL_law_X12_late : GoodIn wsL_law (wsV RL 64 RX12 yX12_late wsX12_late) := goodIn_app (goodIn_of _ (by decide +kernel)) ggL_law_X12_late
set_option maxRecDepth 20000 in
theorem ggL_law_X11_hole : GoodIn wsL_law wsX11_hole := goodIn_r _ [701, 22, 603, 604, 605, 2, 606, 519, 520, 521, 21, 522, 205, 523, 524, 525, 526, 527, 528, 588, 589, 590, 607, 608, 609, 610, 32, 30, 611, 612, 613, 29, 614, 615, 616, 617, 618, 619, 620, 91, 621, 622, 623, 211, 212, 213, 624, 625, 626, 627, 628, 629, 89, 90, 630, 631, 534, 535, 536, 77, 632, 633, 634, 635, 636, 637, 702, 703, 704, 705, 678, 663, 664, 665, 706, 675, 676, 677, 707, 708, 709, 710, 711, 712, 713, 714, 80, 1685, 1686, 1687, 1688, 1689, 1690, 1691, 1692, 1693, 1694, 1695, 1696, 1697, 1698, 1699, 1700, 1750, 1751, 1752, 1753, 1754, 1755, 1756, 1757, 1758, 1759, 1760, 1761, 1762, 1763, 1764, 1765, 1766, 1767, 1768, 1769, 1770, 1771, 1772] (by decide +kernel) (by decide +kernel)
set_option maxRecDepth 20000 in
theorem gL_law_X11_hole : GoodIn wsL_law (wsV RL 65 RX11 yX11_hole wsX11_hole) := goodIn_app (goodIn_of _ (by decide +kernel)) ggL_law_X11_hole
set_option maxRecDepth 20000 in
theorem ggL_law_X12_hole : GoodIn wsL_law wsX12_hole := goodIn_r _ [718, 169, 541, 542, 543, 5, 544, 545, 546, 547, 548, 138, 183, 184, 185, 595, 596, 597, 598, 646, 647, 648, 649, 650, 651, 652, 653, 654, 655, 656, 657, 139, 150, 151, 144, 140, 142, 549, 550, 551, 552, 719, 720, 721, 722, 683, 684, 685, 686, 723, 724, 725, 726, 141, 727, 728, 729, 1701, 1702, 1703, 1704, 1705, 1706, 1707, 1708, 1709, 1710, 1711, 1712, 1713, 1714, 1715, 1716, 1717, 1718, 1719, 1720, 1721, 1722, 1723, 1724, 1725, 1726, 1727, 1728, 1729, 1730, 1731, 1732, 1733, 1734, 1735, 1736, 1737, 1738, 1739, 1740, 1741, 1742, 1743, 1744, 1745] (by decide +kernel) (by decide +kernel)
set_option maxRecDepth 20000 in
theorem gL_law_X12_hole : GoodIn wsL_law (wsV RL 68 RX12 yX12_hole wsX12_hole) := goodIn_app (goodIn_of _ (by decide +kernel)) ggL_law_X12_hole
set_option maxRecDepth 20000 in
theorem ggL_law_X11_next : GoodIn wsL_law wsX11_next := goodIn_r _ [733, 22, 603, 604, 605, 2, 606, 519, 520, 521, 21, 522, 205, 523, 524, 525, 526, 527, 528, 588, 589, 590, 607, 608, 609, 610, 32, 30, 611, 612, 613, 29, 614, 615, 616, 617, 618, 619, 620, 91, 621, 622, 623, 211, 212, 213, 624, 625, 626, 627, 628, 629, 89, 90, 630, 631, 534, 535, 536, 77, 632, 633, 634, 635, 636, 637, 702, 703, 704, 705, 678, 663, 664, 665, 706, 675, 676, 677, 707, 708, 709, 710, 711, 712, 713, 714, 80, 1685, 1686, 1687, 1688, 1689, 1690, 1691, 1692, 1693, 1694, 1695, 1696, 1697, 1698, 1699, 1700, 1750, 1751, 1752, 1753, 1754, 1755, 1756, 1757, 1758, 1759, 1760, 1761, 1762, 1763, 1764, 1765, 1766, 1767, 1768, 1769, 1770, 1771, 1772] (by decide +kernel) (by decide +kernel)
set_option maxRecDepth 20000 in
theorem gL_law_X11_next : GoodIn wsL_law (wsV RL 69 RX11 yX11_next wsX11_next) := goodIn_app (goodIn_of _ (by decide +kernel)) ggL_law_X11_next
set_option maxRecDepth 20000 in
theorem ggL_law_X12_next_ : GoodIn wsL_law wsX12_next_ := goodIn_r _ [737, 169, 541, 542, 543, 5, 544, 545, 546, 547, 548, 138, 183, 184, 185, 595, 596, 597, 598, 646, 647, 648, 649, 650, 651, 652, 653, 654, 655, 656, 657, 139, 150, 151, 144, 140, 142, 549, 550, 551, 552, 719, 720, 721, 722, 683, 684, 685, 686, 723, 724, 725, 726, 141, 727, 728, 729, 1701, 1702, 1703, 1704, 1705, 1706, 1707, 1708, 1709, 1710, 1711, 1712, 1713, 1714, 1715, 1716, 1717, 1718, 1719, 1720, 1721, 1722, 1723, 1724, 1725, 1726, 1727, 1728, 1729, 1730, 1731, 1732, 1733, 1734, 1735, 1736, 1737, 1738, 1739, 1740, 1741, 1742, 1743, 1744, 1745] (by decide +kernel) (by decide +kernel)
set_option maxRecDepth 20000 in
theorem gL_law_X12_next_ : GoodIn wsL_law (wsV RL 72 RX12 yX12_next_ wsX12_next_) := goodIn_app (goodIn_of _ (by decide +kernel)) ggL_law_X12_next_
set_option maxRecDepth 20000 in
theorem ggL_law_X11_holes : GoodIn wsL_law wsX11_holes := goodIn_r _ [741, 22, 523, 524, 2, 525, 526, 527, 528, 742, 743, 744, 745, 519, 520, 521, 21, 522, 205, 588, 589, 590, 607, 608, 609, 610, 32, 30, 611, 612, 613, 29, 614, 615, 616, 617, 618, 619, 620, 91, 621, 622, 623, 211, 212, 213, 624, 625, 626, 627, 628, 629, 89, 90, 630, 631, 534, 535, 536, 77, 632, 633, 634, 635, 636, 637, 746, 747, 748, 749, 750, 703, 704, 705, 678, 663, 664, 665, 706, 675, 676, 677, 707, 708, 709, 710, 711, 712, 713, 714, 80, 1685, 1686, 1687, 1688, 1689, 1690, 1691, 1692, 1693, 1694, 1695, 1696, 1697, 1698, 1699, 1700, 1750, 1751, 1752, 1753, 1754, 1755, 1756, 1757, 1758, 1759, 1760, 1761, 1762, 1763, 1764, 1765, 1766, 1767, 1768, 1769, 1770, 1771, 1772] (by decide +kernel) (by decide +kernel)
set_option maxRecDepth 20000 in
theorem gL_law_X11_holes : GoodIn wsL_law (wsV RL 73 RX11 yX11_holes wsX11_holes) := goodIn_app (goodIn_of _ (by decide +kernel)) ggL_law_X11_holes
set_option maxRecDepth 20000 in
theorem ggL_law_X12_holes : GoodIn wsL_law wsX12_holes := goodIn_r _ [754, 169, 541, 542, 543, 5, 544, 545, 546, 547, 548, 138, 183, 184, 185, 755, 756, 757, 758, 598, 595, 596, 597, 646, 647, 648, 649, 650, 651, 652, 653, 654, 655, 656, 657, 139, 150, 151, 144, 140, 142, 549, 550, 551, 552, 759, 760, 761, 762, 719, 720, 721, 722, 683, 684, 685, 686, 723, 724, 725, 726, 141, 727, 728, 729, 1701, 1702, 1703, 1704, 1705, 1706, 1707, 1708, 1709, 1710, 1711, 1712, 1713, 1714, 1715, 1716, 1717, 1718, 1719, 1720, 1721, 1722, 1723, 1724, 1725, 1726, 1727, 1728, 1729, 1730, 1731, 1732, 1733, 1734, 1735, 1736, 1737, 1738, 1739, 1740, 1741, 1742, 1743, 1744, 1745] (by decide +kernel) (by decide +kernel)
set_option maxRecDepth 20000 in
theorem gL_law_X12_holes : GoodIn wsL_law (wsV RL 77 RX12 yX12_holes wsX12_holes) := goodIn_app (goodIn_of _ (by decide +kernel)) ggL_law_X12_holes
set_option maxRecDepth 20000 in
theorem ggL_law_X11_run : GoodIn wsL_law wsX11_run := goodIn_r _ [766, 22, 30, 767, 742, 743, 744, 2, 745, 519, 520, 521, 21, 522, 205, 588, 589, 590, 526, 527, 528, 607, 608, 609, 610, 32, 611, 612, 613, 29, 614, 615, 616, 617, 618, 619, 620, 91, 621, 622, 623, 211, 212, 213, 624, 625, 626, 627, 628, 629, 89, 90, 630, 631, 534, 535, 536, 77, 632, 633, 634, 635, 636, 637, 768, 769, 770, 771, 772, 773, 750, 703, 704, 705, 678, 663, 664, 665, 706, 675, 676, 677, 707, 708, 709, 710, 711, 712, 713, 714, 80, 1685, 1686, 1687, 1688, 1689, 1690, 1691, 1692, 1693, 1694, 1695, 1696, 1697, 1698, 1699, 1700, 1767, 1768, 1769, 1770, 1771, 1772, 1750, 1751, 1752, 1753, 1754, 1755, 1756, 1757, 1758, 1759, 1760, 1761, 1762, 1763, 1764, 1765, 1766] (by decide +kernel) (by decide +kernel)
set_option maxRecDepth 20000 in
theorem gL_law_X11_run : GoodIn wsL_law (wsV RL 78 RX11 yX11_run wsX11_run) := goodIn_app (goodIn_of _ (by decide +kernel)) ggL_law_X11_run
set_option maxRecDepth 20000 in
theorem ggL_law_X12_run : GoodIn wsL_law wsX12_run := goodIn_r _ [777, 169, 778, 755, 756, 757, 5, 758, 598, 545, 546, 547, 548, 138, 595, 596, 597, 183, 184, 185, 779, 780, 781, 782, 783, 646, 647, 648, 649, 650, 651, 652, 653, 654, 655, 656, 657, 139, 150, 151, 144, 140, 142, 549, 550, 551, 552, 719, 720, 721, 722, 683, 684, 685, 686, 723, 724, 725, 726, 141, 727, 728, 729, 1701, 1702, 1703, 1704, 1705, 1706, 1707, 1708, 1709, 1710, 1711, 1712, 1713, 1714, 1715, 1716, 1717, 1718, 1719, 1720, 1721, 1722, 1723, 1724, 1725, 1726, 1727, 1728, 1729, 1730, 1731, 1732, 1733, 1734, 1735, 1736, 1737, 1738, 1739, 1740, 1741, 1742, 1743, 1744, 1745] (by decide +kernel) (by decide +kernel)
set_option maxRecDepth 20000 in
theorem gL_law_X12_run : GoodIn wsL_law (wsV RL 81 RX12 yX12_run wsX12_run) := goodIn_app (goodIn_of _ (by decide +kernel)) ggL_law_X12_run
set_option maxRecDepth 20000 in
theorem ggL_law_X11_begins : GoodIn wsL_law wsX11_begins := goodIn_r _ [787, 22, 30, 788, 742, 743, 744, 2, 745, 519, 520, 521, 21, 522, 205, 588, 589, 590, 526, 527, 528, 607, 608, 609, 610, 32, 611, 612, 613, 29, 614, 615, 616, 617, 618, 619, 620, 91, 621, 622, 623, 211, 212, 213, 624, 625, 626, 627, 628, 629, 89, 90, 630, 631, 534, 535, 536, 77, 632, 633, 634, 635, 636, 637, 768, 769, 770, 771, 772, 773, 750, 703, 704, 705, 678, 663, 664, 665, 706, 675, 676, 677, 707, 708, 709, 710, 711, 712, 713, 714, 80, 1685, 1686, 1687, 1688, 1689, 1690, 1691, 1692, 1693, 1694, 1695, 1696, 1697, 1698, 1699, 1700, 1767, 1768, 1769, 1770, 1771, 1772, 1750, 1751, 1752, 1753, 1754, 1755, 1756, 1757, 1758, 1759, 1760, 1761, 1762, 1763, 1764, 1765, 1766] (by decide +kernel) (by decide +kernel)
set_option maxRecDepth 20000 in
theorem gL_law_X11_begins : GoodIn wsL_law (wsV RL 82 RX11 yX11_begins wsX11_begins) := goodIn_app (goodIn_of _ (by decide +kernel)) ggL_law_X11_begins
set_option maxRecDepth 20000 in
theorem ggL_law_X12_begins_ : GoodIn wsL_law wsX12_begins_ := goodIn_r _ [792, 169, 783, 755, 756, 757, 5, 758, 598, 545, 546, 547, 548, 138, 595, 596, 597, 183, 184, 185, 779, 780, 781, 782, 778, 646, 647, 648, 649, 650, 651, 652, 653, 654, 655, 656, 657, 139, 150, 151, 144, 140, 142, 549, 550, 551, 552, 719, 720, 721, 722, 683, 684, 685, 686, 723, 724, 725, 726, 141, 727, 728, 729, 1701, 1702, 1703, 1704, 1705, 1706, 1707, 1708, 1709, 1710, 1711, 1712, 1713, 1714, 1715, 1716, 1717, 1718, 1719, 1720, 1721, 1722, 1723, 1724, 1725, 1726, 1727, 1728, 1729, 1730, 1731, 1732, 1733, 1734, 1735, 1736, 1737, 1738, 1739, 1740, 1741, 1742, 1743, 1744, 1745] (by decide +kernel) (by decide +kernel)
set_option maxRecDepth 20000 in
theorem gL_law_X12_begins_ : GoodIn wsL_law (wsV RL 85 RX12 yX12_begins_ wsX12_begins_) := goodIn_app (goodIn_of _ (by decide +kernel)) ggL_law_X12_begins_
set_option maxRecDepth 20000 in
theorem ggL_law_X11_undoes : GoodIn wsL_law wsX11_undoes := goodIn_r _ [796, 22, 31, 574, 575, 576, 21, 577, 206, 527, 2, 528, 611, 612, 613, 29, 614, 615, 616, 617, 618, 619, 620, 91, 621, 622, 623, 211, 212, 213, 624, 625, 626, 627, 628, 629, 89, 90, 630, 631, 534, 535, 536, 77, 632, 633, 634, 635, 636, 637, 607, 608, 609, 610, 32, 30, 797, 798, 799, 800, 801, 747, 748, 749, 750, 703, 704, 705, 678, 663, 664, 665, 706, 675, 676, 677, 707, 708, 709, 710, 711, 712, 713, 714, 80, 1685, 1686, 1687, 1688, 1689, 1690, 1691, 1692, 1693, 1694, 1695, 1696, 1697, 1698, 1699, 1700, 1750, 1751, 1752, 1753, 1754, 1755, 1756, 1757, 1758, 1759, 1760, 1761, 1762, 1763, 1764, 1765, 1766, 1767, 1768, 1769, 1770, 1771, 1772] (by decide +kernel) (by decide +kernel)
set_option maxRecDepth 20000 in
theorem gL_law_X11_undoes : GoodIn wsL_law (wsV RL 86 RX11 yX11_undoes wsX11_undoes) := goodIn_app (goodIn_of _ (by decide +kernel)) ggL_law_X11_undoes
set_option maxRecDepth 20000 in
theorem ggL_law_X12_undoes : GoodIn wsL_law wsX12_undoes := goodIn_r _ [805, 169, 139, 183, 184, 5, 185, 646, 647, 648, 649, 650, 651, 652, 653, 654, 655, 656, 657, 150, 151, 144, 140, 142, 549, 550, 551, 552, 806, 807, 808, 809, 759, 760, 761, 762, 719, 720, 721, 722, 683, 684, 685, 686, 723, 724, 725, 726, 141, 727, 728, 729, 1701, 1702, 1703, 1704, 1705, 1706, 1707, 1708, 1709, 1710, 1711, 1712, 1713, 1714, 1715, 1716, 1717, 1718, 1719, 1720, 1721, 1722, 1723, 1724, 1725, 1726, 1727, 1728, 1729, 1730, 1731, 1732, 1733, 1734, 1735, 1736, 1737, 1738, 1739, 1740, 1741, 1742, 1743, 1744, 1745] (by decide +kernel) (by decide +kernel)
set_option maxRecDepth 20000 in
theorem gL_law_X12_undoes : GoodIn wsL_law (wsV RL 89 RX12 yX12_undoes wsX12_undoes) := goodIn_app (goodIn_of _ (by decide +kernel)) ggL_law_X12_undoes
set_option maxRecDepth 20000 in
theorem ggL_law_X11_causes : GoodIn wsL_law wsX11_causes := goodIn_r _ [813, 22, 814, 31, 603, 604, 605, 2, 606, 519, 520, 521, 21, 522, 205, 523, 524, 525, 526, 527, 528, 588, 589, 590, 607, 608, 609, 610, 32, 30, 611, 612, 613, 29, 614, 615, 616, 617, 618, 619, 620, 91, 621, 622, 623, 211, 212, 213, 624, 625, 626, 627, 628, 629, 89, 90, 630, 631, 534, 535, 536, 77, 632, 633, 634, 635, 636, 637, 702, 703, 704, 705, 678, 663, 664, 665, 706, 675, 676, 677, 707, 708, 709, 710, 711, 712, 713, 714, 80, 1685, 1686, 1687, 1688, 1689, 1690, 1691, 1692, 1693, 1694, 1695, 1696, 1697, 1698, 1699, 1700, 1750, 1751, 1752, 1753, 1754, 1755, 1756, 1757, 1758, 1759, 1760, 1761, 1762, 1763, 1764, 1765, 1766, 1767, 1768, 1769, 1770, 1771, 1772] (by decide +kernel) (by decide +kernel)
set_option maxRecDepth 20000 in
theorem gL_law_X11_causes : GoodIn wsL_law (wsV RL 90 RX11 yX11_causes wsX11_causes) := goodIn_app (goodIn_of _ (by decide +kernel)) ggL_law_X11_causes
set_option maxRecDepth 20000 in
theorem ggL_law_X12_causes : GoodIn wsL_law wsX12_causes := goodIn_r _ [818, 169, 139, 541, 542, 543, 5, 544, 545, 546, 547, 548, 138, 183, 184, 185, 595, 596, 597, 598, 646, 647, 648, 649, 650, 651, 652, 653, 654, 655, 656, 657, 150, 151, 144, 140, 142, 549, 550, 551, 552, 719, 720, 721, 722, 683, 684, 685, 686, 723, 724, 725, 726, 141, 727, 728, 729, 1701, 1702, 1703, 1704, 1705, 1706, 1707, 1708, 1709, 1710, 1711, 1712, 1713, 1714, 1715, 1716, 1717, 1718, 1719, 1720, 1721, 1722, 1723, 1724, 1725, 1726, 1727, 1728, 1729, 1730, 1731, 1732, 1733, 1734, 1735, 1736, 1737, 1738, 1739, 1740, 1741, 1742, 1743, 1744, 1745] (by decide +kernel) (by decide +kernel)
set_option maxRecDepth 20000 in
theorem gL_law_X12_causes : GoodIn wsL_law (wsV RL 93 RX12 yX12_causes wsX12_causes) := goodIn_app (goodIn_of _ (by decide +kernel)) ggL_law_X12_causes
set_option maxRecDepth 20000 in
theorem ggL_law_X11_period : GoodIn wsL_law wsX11_period := goodIn_r _ [822, 22, 519, 520, 521, 21, 522, 205, 823, 824, 825, 826, 78, 827, 828, 35, 829, 830, 831, 2, 832, 833, 834, 835, 1685, 1686, 1687, 1688, 1689, 1690, 1691, 1692, 1693, 1694, 1695, 1696, 1697, 1698, 1699, 1700, 1750, 1751, 1752, 1753, 1754, 1755, 1756, 1757, 1758, 1759, 1760, 1761, 1762, 1763, 1764, 1765, 1766] (by decide +kernel) (by decide +kernel)
set_option maxRecDepth 20000 in
theorem gL_law_X11_period : GoodIn wsL_law (wsV RL 94 RX11 yX11_period wsX11_period) := goodIn_app (goodIn_of _ (by decide +kernel)) ggL_law_X11_period
set_option maxRecDepth 20000 in
theorem ggL_law_X12_period : GoodIn wsL_law wsX12_period := goodIn_r _ [839, 169, 545, 546, 547, 5, 548, 138, 840, 841, 842, 843, 139, 844, 845, 846, 847, 549, 550, 551, 552, 848, 849, 850, 1701, 1702, 1703, 1704, 1705, 1706, 1707, 1708, 1709, 1710, 1711, 1712, 1713, 1714, 1715, 1716, 1717, 1718, 1719, 1720, 1721, 1722, 1723, 1724, 1725, 1726, 1727, 1728, 1729, 1730, 1731, 1732, 1733, 1734, 1735, 1736, 1737, 1738, 1739, 1740, 1741, 1742, 1743, 1744, 1745] (by decide +kernel) (by decide +kernel)
set_option maxRecDepth 20000 in
theorem gL_law_X12_period : GoodIn wsL_law (wsV RL 97 RX12 yX12_period wsX12_period) := goodIn_app (goodIn_of _ (by decide +kernel)) ggL_law_X12_period
set_option maxRecDepth 20000 in
theorem ggL_law_X11_meets : GoodIn wsL_law wsX11_meets := goodIn_r _ [854, 22, 519, 520, 521, 21, 522, 205, 529, 530, 531, 532, 78, 527, 2, 528, 588, 589, 590, 526, 855, 856, 35, 857, 858, 828, 829, 830, 831, 832, 833, 834, 835, 859, 860, 861, 862, 632, 633, 634, 635, 636, 637, 1685, 1686, 1687, 1688, 1689, 1690, 1691, 1692, 1693, 1694, 1695, 1696, 1697, 1698, 1699, 1700, 1750, 1751, 1752, 1753, 1754, 1755, 1756, 1757, 1758, 1759, 1760, 1761, 1762, 1763, 1764, 1765, 1766] (by decide +kernel) (by decide +kernel)
set_option maxRecDepth 20000 in
theorem gL_law_X11_meets : GoodIn wsL_law (wsV RL 98 RX11 yX11_meets wsX11_meets) := goodIn_app (goodIn_of _ (by decide +kernel)) ggL_law_X11_meets
set_option maxRecDepth 20000 in
theorem ggL_law_X12_meets : GoodIn wsL_law wsX12_meets := goodIn_r _ [866, 169, 139, 545, 546, 547, 5, 548, 138, 549, 550, 551, 552, 183, 184, 185, 595, 596, 597, 598, 844, 845, 846, 847, 848, 849, 850, 1701, 1702, 1703, 1704, 1705, 1706, 1707, 1708, 1709, 1710, 1711, 1712, 1713, 1714, 1715, 1716, 1717, 1718, 1719, 1720, 1721, 1722, 1723, 1724, 1725, 1726, 1727, 1728, 1729, 1730, 1731, 1732, 1733, 1734, 1735, 1736, 1737, 1738, 1739, 1740, 1741, 1742, 1743, 1744, 1745] (by decide +kernel) (by decide +kernel)
set_option maxRecDepth 20000 in
theorem gL_law_X12_meets : GoodIn wsL_law (wsV RL 101 RX12 yX12_meets wsX12_meets) := goodIn_app (goodIn_of _ (by decide +kernel)) ggL_law_X12_meets
set_option maxRecDepth 20000 in
theorem ggL_law_X11_shifted : GoodIn wsL_law wsX11_shifted := goodIn_r _ [870, 22, 691, 871, 872, 873, 2, 874, 519, 520, 521, 21, 522, 205, 823, 824, 825, 826, 78, 526, 527, 528, 875, 876, 35, 877, 878, 858, 828, 829, 830, 831, 832, 833, 834, 835, 879, 880, 881, 859, 860, 861, 862, 632, 633, 634, 635, 636, 637, 882, 534, 535, 536, 77, 883, 708, 709, 710, 711, 712, 713, 714, 80, 1685, 1686, 1687, 1688, 1689, 1690, 1691, 1692, 1693, 1694, 1695, 1696, 1697, 1698, 1699, 1700, 1750, 1751, 1752, 1753, 1754, 1755, 1756, 1757, 1758, 1759, 1760, 1761, 1762, 1763, 1764, 1765, 1766] (by decide +kernel) (by decide +kernel)
set_option maxRecDepth 20000 in
theorem gL_law_X11_shifted : GoodIn wsL_law (wsV RL 102 RX11 yX11_shifted wsX11_shifted) := goodIn_app (goodIn_of _ (by decide +kernel)) ggL_law_X11_shifted
set_option maxRecDepth 20000 in
theorem ggL_law_X12_shifted : GoodIn wsL_law wsX12_shifted := goodIn_r _ [887, 169, 545, 546, 547, 5, 548, 138, 840, 841, 842, 843, 139, 549, 550, 551, 552, 183, 184, 185, 888, 889, 890, 891, 844, 845, 846, 847, 848, 849, 850, 892, 893, 894, 895, 140, 723, 724, 725, 726, 141, 727, 728, 729, 1701, 1702, 1703, 1704, 1705, 1706, 1707, 1708, 1709, 1710, 1711, 1712, 1713, 1714, 1715, 1716, 1717, 1718, 1719, 1720, 1721, 1722, 1723, 1724, 1725, 1726, 1727, 1728, 1729, 1730, 1731, 1732, 1733, 1734, 1735, 1736, 1737, 1738, 1739, 1740, 1741, 1742, 1743, 1744, 1745] (by decide +kernel) (by decide +kernel)
set_option maxRecDepth 20000 in
theorem gL_law_X12_shifted : GoodIn wsL_law (wsV RL 105 RX12 yX12_shifted wsX12_shifted) := goodIn_app (goodIn_of _ (by decide +kernel)) ggL_law_X12_shifted
set_option maxRecDepth 20000 in
theorem ggL_law_X11_shift : GoodIn wsL_law wsX11_shift := goodIn_r _ [899, 22, 871, 872, 873, 2, 874, 519, 520, 521, 21, 522, 205, 823, 824, 825, 826, 78, 900, 901, 35, 902, 830, 903, 876, 877, 878, 858, 828, 829, 831, 832, 833, 834, 835, 879, 880, 881, 859, 860, 861, 862, 632, 633, 634, 635, 636, 637, 882, 534, 535, 536, 77, 883, 708, 709, 710, 711, 712, 713, 714, 80, 875, 1685, 1686, 1687, 1688, 1689, 1690, 1691, 1692, 1693, 1694, 1695, 1696, 1697, 1698, 1699, 1700, 1750, 1751, 1752, 1753, 1754, 1755, 1756, 1757, 1758, 1759, 1760, 1761, 1762, 1763, 1764, 1765, 1766] (by decide +kernel) (by decide +kernel)
set_option maxRecDepth 20000 in
theorem gL_law_X11_shift : GoodIn wsL_law (wsV RL 106 RX11 yX11_shift wsX11_shift) := goodIn_app (goodIn_of _ (by decide +kernel)) ggL_law_X11_shift
set_option maxRecDepth 20000 in
theorem ggL_law_X12_shift : GoodIn wsL_law wsX12_shift := goodIn_r _ [907, 169, 545, 546, 547, 5, 548, 138, 840, 841, 842, 843, 139, 549, 550, 551, 552, 888, 889, 890, 891, 844, 845, 846, 847, 848, 849, 850, 892, 893, 894, 895, 140, 723, 724, 725, 726, 141, 727, 728, 729, 1701, 1702, 1703, 1704, 1705, 1706, 1707, 1708, 1709, 1710, 1711, 1712, 1713, 1714, 1715, 1716, 1717, 1718, 1719, 1720, 1721, 1722, 1723, 1724, 1725, 1726, 1727, 1728, 1729, 1730, 1731, 1732, 1733, 1734, 1735, 1736, 1737, 1738, 1739, 1740, 1741, 1742, 1743, 1744, 1745] (by decide +kernel) (by decide +kernel)
set_option maxRecDepth 20000 in
theorem gL_law_X12_shift : GoodIn wsL_law (wsV RL 109 RX12 yX12_shift wsX12_shift) := goodIn_app (goodIn_of _ (by decide +kernel)) ggL_law_X12_shift
set_option maxRecDepth 20000 in
theorem ggL_law_X11_least : GoodIn wsL_law wsX11_least := goodIn_r _ [911, 22, 871, 872, 873, 2, 874, 519, 520, 521, 21, 522, 205, 823, 824, 825, 826, 78, 900, 901, 35, 902, 830, 903, 876, 877, 878, 858, 828, 829, 831, 832, 833, 834, 835, 879, 880, 881, 859, 860, 861, 862, 632, 633, 634, 635, 636, 637, 882, 534, 535, 536, 77, 883, 708, 709, 710, 711, 712, 713, 714, 80, 1685, 1686, 1687, 1688, 1689, 1690, 1691, 1692, 1693, 1694, 1695, 1696, 1697, 1698, 1699, 1700, 1750, 1751, 1752, 1753, 1754, 1755, 1756, 1757, 1758, 1759, 1760, 1761, 1762, 1763, 1764, 1765, 1766] (by decide +kernel) (by decide +kernel)
set_option maxRecDepth 20000 in
theorem gL_law_X11_least : GoodIn wsL_law (wsV RL 110 RX11 yX11_least wsX11_least) := goodIn_app (goodIn_of _ (by decide +kernel)) ggL_law_X11_least
set_option maxRecDepth 20000 in
theorem ggL_law_X12_least : GoodIn wsL_law wsX12_least := goodIn_r _ [915, 169, 545, 546, 547, 5, 548, 138, 840, 841, 842, 843, 139, 549, 550, 551, 552, 888, 889, 890, 891, 844, 845, 846, 847, 848, 849, 850, 892, 893, 894, 895, 140, 723, 724, 725, 726, 141, 727, 728, 729, 1701, 1702, 1703, 1704, 1705, 1706, 1707, 1708, 1709, 1710, 1711, 1712, 1713, 1714, 1715, 1716, 1717, 1718, 1719, 1720, 1721, 1722, 1723, 1724, 1725, 1726, 1727, 1728, 1729, 1730, 1731, 1732, 1733, 1734, 1735, 1736, 1737, 1738, 1739, 1740, 1741, 1742, 1743, 1744, 1745] (by decide +kernel) (by decide +kernel)
set_option maxRecDepth 20000 in
theorem gL_law_X12_least : GoodIn wsL_law (wsV RL 113 RX12 yX12_least wsX12_least) := goodIn_app (goodIn_of _ (by decide +kernel)) ggL_law_X12_least
set_option maxRecDepth 20000 in
theorem ggL_law_X11_mend : GoodIn wsL_law wsX11_mend := goodIn_r _ [919, 36, 22, 871, 872, 873, 2, 874, 519, 520, 521, 21, 522, 205, 823, 824, 825, 826, 78, 523, 524, 525, 526, 527, 528, 920, 921, 922, 35, 923, 95, 878, 924, 925, 211, 212, 213, 858, 828, 829, 830, 831, 832, 833, 834, 835, 879, 880, 881, 859, 860, 861, 862, 632, 633, 634, 635, 636, 637, 882, 534, 535, 536, 77, 926, 927, 928, 929, 712, 713, 714, 80, 930, 931, 932, 933, 934, 935, 936, 937, 938, 939, 940, 941, 942, 943, 944, 945, 946, 1685, 1686, 1687, 1688, 1689, 1690, 1691, 1692, 1693, 1694, 1695, 1696, 1697, 1698, 1699, 1700, 1750, 1751, 1752, 1753, 1754, 1755, 1756, 1757, 1758, 1759, 1760, 1761, 1762, 1763, 1764, 1765, 1766, 1773] (by decide +kernel) (by decide +kernel)
set_option maxRecDepth 20000 in
theorem gL_law_X11_mend : GoodIn wsL_law (wsV RL 114 RX11 yX11_mend wsX11_mend) := goodIn_app (goodIn_of _ (by decide +kernel)) ggL_law_X11_mend
set_option maxRecDepth 20000 in
theorem ggL_law_X12_mend : GoodIn wsL_law wsX12_mend := goodIn_r _ [950, 169, 140, 541, 542, 543, 5, 544, 545, 546, 547, 548, 138, 183, 184, 185, 840, 841, 842, 843, 139, 951, 952, 953, 954, 549, 550, 551, 552, 955, 956, 957, 958, 959, 960, 961, 962, 141, 844, 845, 846, 847, 848, 849, 850, 892, 893, 894, 895, 727, 728, 729, 1701, 1702, 1703, 1704, 1705, 1706, 1707, 1708, 1709, 1710, 1711, 1712, 1713, 1714, 1715, 1716, 1717, 1718, 1719, 1720, 1721, 1722, 1723, 1724, 1725, 1726, 1727, 1728, 1729, 1730, 1731, 1732, 1733, 1734, 1735, 1736, 1737, 1738, 1739, 1740, 1741, 1742, 1743, 1744, 1745] (by decide +kernel) (by decide +kernel)
set_option maxRecDepth 20000 in
theorem gL_law_X12_mend : GoodIn wsL_law (wsV RL 117 RX12 yX12_mend wsX12_mend) := goodIn_app (goodIn_of _ (by decide +kernel)) ggL_law_X12_mend
set_option maxRecDepth 20000 in
theorem ggL_law_X11_mended : GoodIn wsL_law wsX11_mended := goodIn_r _ [966, 22, 36, 871, 872, 873, 2, 874, 519, 520, 521, 21, 522, 205, 823, 824, 825, 826, 78, 523, 524, 525, 526, 527, 528, 529, 530, 531, 532, 920, 921, 922, 35, 923, 95, 878, 924, 925, 211, 212, 213, 858, 828, 829, 830, 831, 832, 833, 834, 835, 879, 880, 881, 859, 860, 861, 862, 632, 633, 634, 635, 636, 637, 882, 534, 535, 536, 77, 926, 927, 928, 929, 712, 713, 714, 80, 930, 931, 932, 933, 967, 939, 940, 941, 942, 943, 944, 945, 946, 1685, 1686, 1687, 1688, 1689, 1690, 1691, 1692, 1693, 1694, 1695, 1696, 1697, 1698, 1699, 1700, 1750, 1751, 1752, 1753, 1754, 1755, 1756, 1757, 1758, 1759, 1760, 1761, 1762, 1763, 1764, 1765, 1766, 1773] (by decide +kernel) (by decide +kernel)
set_option maxRecDepth 20000 in
theorem gL_law_X11_mended : GoodIn wsL_law (wsV RL 118 RX11 yX11_mended wsX11_mended) := goodIn_app (goodIn_of _ (by decide +kernel)) ggL_law_X11_mended
set_option maxRecDepth 20000 in
theorem ggL_law_X12_mended : GoodIn wsL_law wsX12_mended := goodIn_r _ [971, 169, 541, 542, 543, 5, 544, 545, 546, 547, 548, 138, 183, 184, 185, 840, 841, 842, 843, 139, 549, 550, 551, 552, 951, 952, 953, 954, 955, 956, 957, 958, 140, 959, 960, 961, 962, 141, 844, 845, 846, 847, 848, 849, 850, 892, 893, 894, 895, 727, 728, 729, 1701, 1702, 1703, 1704, 1705, 1706, 1707, 1708, 1709, 1710, 1711, 1712, 1713, 1714, 1715, 1716, 1717, 1718, 1719, 1720, 1721, 1722, 1723, 1724, 1725, 1726, 1727, 1728, 1729, 1730, 1731, 1732, 1733, 1734, 1735, 1736, 1737, 1738, 1739, 1740, 1741, 1742, 1743, 1744, 1745] (by decide +kernel) (by decide +kernel)
set_option maxRecDepth 20000 in
theorem gL_law_X12_mended : GoodIn wsL_law (wsV RL 121 RX12 yX12_mended wsX12_mended) := goodIn_app (goodIn_of _ (by decide +kernel)) ggL_law_X12_mended
set_option maxRecDepth 20000 in
theorem ggL_law_X11_stuck : GoodIn wsL_law wsX11_stuck := goodIn_r _ [975, 36, 22, 871, 872, 873, 2, 874, 519, 520, 521, 21, 522, 205, 823, 824, 825, 826, 78, 523, 524, 525, 526, 527, 528, 920, 921, 922, 35, 923, 95, 878, 924, 925, 211, 212, 213, 858, 828, 829, 830, 831, 832, 833, 834, 835, 879, 880, 881, 859, 860, 861, 862, 632, 633, 634, 635, 636, 637, 882, 534, 535, 536, 77, 926, 927, 928, 929, 712, 713, 714, 80, 930, 931, 932, 933, 1685, 1686, 1687, 1688, 1689, 1690, 1691, 1692, 1693, 1694, 1695, 1696, 1697, 1698, 1699, 1700, 1750, 1751, 1752, 1753, 1754, 1755, 1756, 1757, 1758, 1759, 1760, 1761, 1762, 1763, 1764, 1765, 1766, 1773] (by decide +kernel) (by decide +kernel)
set_option maxRecDepth 20000 in
theorem gL_law_X11_stuck : GoodIn wsL_law (wsV RL 122 RX11 yX11_stuck wsX11_stuck) := goodIn_app (goodIn_of _ (by decide +kernel)) ggL_law_X11_stuck
set_option maxRecDepth 20000 in
theorem ggL_law_X12_stuck : GoodIn wsL_law wsX12_stuck := goodIn_r _ [979, 169, 541, 542, 543, 5, 544, 545, 546, 547, 548, 138, 183, 184, 185, 840, 841, 842, 843, 139, 951, 952, 953, 954, 549, 550, 551, 552, 955, 956, 957, 958, 140, 959, 960, 961, 962, 141, 844, 845, 846, 847, 848, 849, 850, 892, 893, 894, 895, 727, 728, 729, 1701, 1702, 1703, 1704, 1705, 1706, 1707, 1708, 1709, 1710, 1711, 1712, 1713, 1714, 1715, 1716, 1717, 1718, 1719, 1720, 1721, 1722, 1723, 1724, 1725, 1726, 1727, 1728, 1729, 1730, 1731, 1732, 1733, 1734, 1735, 1736, 1737, 1738, 1739, 1740, 1741, 1742, 1743, 1744, 1745] (by decide +kernel) (by decide +kernel)
set_option maxRecDepth 20000 in
theorem gL_law_X12_stuck : GoodIn wsL_law (wsV RL 125 RX12 yX12_stuck wsX12_stuck) := goodIn_app (goodIn_of _ (by decide +kernel)) ggL_law_X12_stuck
set_option maxRecDepth 20000 in
theorem ggL_law_X11_heard : GoodIn wsL_law wsX11_heard := goodIn_r _ [983, 40, 984, 985, 986, 2, 987, 22, 60, 988, 519, 520, 521, 21, 522, 205, 523, 524, 525, 526, 527, 528, 989, 990, 991, 59, 992, 125, 993, 994, 995, 996, 997, 998, 999, 1000, 1001, 1002, 1003, 1004, 127, 1005, 1006, 1007, 1008, 1009, 1010, 1011, 1012, 1013, 1014, 1015, 39, 1016, 1017, 1018, 1019, 1020, 1021, 99, 1022, 1023, 1024, 1025, 1026, 1027, 100, 102, 1028, 1029, 101, 1030, 211, 212, 213, 632, 633, 634, 635, 636, 637, 1031, 1032, 1033, 1034, 1035, 1036, 227, 228, 229, 1037, 1038, 1039, 1040, 1041, 1042, 1043, 1044, 1045, 1046, 1047, 1048, 1049, 1050, 1051, 1052, 1053, 1054, 1055, 1056, 1057, 944, 1058, 1059, 1060, 1061, 1685, 1686, 1687, 1688, 1689, 1690, 1691, 1692, 1693, 1694, 1695, 1696, 1697, 1698, 1699, 1700, 1799, 1800, 1801, 1750, 1751, 1752, 1753, 1754, 1755, 1756, 1757, 1758, 1759, 1760, 1761, 1762, 1763, 1764, 1765, 1766, 1774, 1775, 1776, 1777, 1778, 1779, 1780, 1781, 1782, 1783, 1784, 1785] (by decide +kernel) (by decide +kernel)
set_option maxRecDepth 20000 in
theorem gL_law_X11_heard : GoodIn wsL_law (wsV RL 126 RX11 yX11_heard wsX11_heard) := goodIn_app (goodIn_of _ (by decide +kernel)) ggL_law_X11_heard
set_option maxRecDepth 20000 in
theorem ggL_law_X12_heard : GoodIn wsL_law wsX12_heard := goodIn_r _ [1065, 169, 1066, 1067, 1068, 1069, 5, 1070, 132, 133, 134, 404, 568, 1071, 1072, 1073, 582, 183, 184, 185, 541, 542, 543, 544, 545, 546, 547, 548, 138, 595, 596, 597, 598, 1074, 1075, 1076, 1077, 1078, 1079, 152, 654, 655, 656, 657, 139, 150, 151, 144, 140, 142, 549, 550, 551, 552, 1080, 1081, 1082, 1083, 683, 684, 685, 686, 1701, 1702, 1703, 1704, 1705, 1706, 1707, 1708, 1709, 1710, 1711, 1712, 1713, 1714, 1715, 1716, 1717, 1718, 1719, 1720, 1721, 1722, 1723, 1724, 1725, 1726, 1727, 1728, 1729, 1730, 1731, 1732, 1733, 1734, 1735, 1736, 1737, 1738, 1739, 1740, 1741, 1742, 1743, 1744, 1745] (by decide +kernel) (by decide +kernel)
set_option maxRecDepth 20000 in
theorem gL_law_X12_heard : GoodIn wsL_law (wsV RL 129 RX12 yX12_heard wsX12_heard) := goodIn_app (goodIn_of _ (by decide +kernel)) ggL_law_X12_heard
set_option maxRecDepth 20000 in
theorem ggL_law_X11_first : GoodIn wsL_law wsX11_first := goodIn_r _ [1087, 40, 984, 985, 986, 2, 987, 22, 60, 988, 519, 520, 521, 21, 522, 205, 523, 524, 525, 526, 527, 528, 989, 990, 991, 59, 992, 125, 993, 994, 995, 996, 997, 998, 999, 1000, 1001, 1002, 1003, 1004, 127, 1005, 1006, 1007, 1008, 1009, 1010, 1011, 1012, 1013, 1014, 1015, 39, 1016, 1017, 1018, 1019, 1020, 1021, 99, 1022, 1023, 1024, 1025, 1026, 1027, 100, 102, 1028, 1029, 101, 1030, 211, 212, 213, 632, 633, 634, 635, 636, 637, 1031, 1032, 1033, 1034, 1035, 1036, 227, 228, 229, 1037, 1038, 1039, 1040, 1041, 1042, 1043, 1088, 1089, 1090, 1091, 1048, 1049, 1050, 1051, 1052, 1053, 1054, 1055, 1685, 1686, 1687, 1688, 1689, 1690, 1691, 1692, 1693, 1694, 1695, 1696, 1697, 1698, 1699, 1700, 1799, 1800, 1801, 1750, 1751, 1752, 1753, 1754, 1755, 1756, 1757, 1758, 1759, 1760, 1761, 1762, 1763, 1764, 1765, 1766, 1774, 1775, 1776, 1777, 1778, 1779, 1780, 1781, 1782, 1783, 1784, 1785] (by decide +kernel) (by decide +kernel)
set_option maxRecDepth 20000 in
theorem gL_law_X11_first : GoodIn wsL_law (wsV RL 130 RX11 yX11_first wsX11_first) := goodIn_app (goodIn_of _ (by decide +kernel)) ggL_law_X11_first
set_option maxRecDepth 20000 in
theorem ggL_law_X12_first : GoodIn wsL_law wsX12_first := goodIn_r _ [1095, 169, 1078, 1067, 1068, 1069, 5, 1070, 132, 133, 134, 404, 568, 1071, 1072, 1073, 582, 183, 184, 185, 541, 542, 543, 544, 545, 546, 547, 548, 138, 595, 596, 597, 598, 1074, 1075, 1076, 1077, 1066, 1079, 152, 654, 655, 656, 657, 139, 150, 151, 144, 140, 142, 549, 550, 551, 552, 1080, 1081, 1082, 1083, 683, 684, 685, 686, 1701, 1702, 1703, 1704, 1705, 1706, 1707, 1708, 1709, 1710, 1711, 1712, 1713, 1714, 1715, 1716, 1717, 1718, 1719, 1720, 1721, 1722, 1723, 1724, 1725, 1726, 1727, 1728, 1729, 1730, 1731, 1732, 1733, 1734, 1735, 1736, 1737, 1738, 1739, 1740, 1741, 1742, 1743, 1744, 1745] (by decide +kernel) (by decide +kernel)
set_option maxRecDepth 20000 in
theorem gL_law_X12_first : GoodIn wsL_law (wsV RL 133 RX12 yX12_first wsX12_first) := goodIn_app (goodIn_of _ (by decide +kernel)) ggL_law_X12_first
set_option maxRecDepth 20000 in
theorem ggL_law_X11_when : GoodIn wsL_law wsX11_when := goodIn_r _ [1099, 40, 984, 985, 986, 2, 987, 22, 60, 988, 519, 520, 521, 21, 522, 205, 523, 524, 525, 526, 527, 528, 989, 990, 991, 59, 992, 125, 993, 994, 995, 996, 997, 998, 999, 1000, 1001, 1002, 1003, 1004, 127, 1005, 1006, 1007, 1008, 1009, 1010, 1011, 1012, 1013, 1014, 1015, 39, 1016, 1017, 1018, 1019, 1020, 1021, 99, 1022, 1023, 1024, 1025, 1026, 1027, 100, 102, 1028, 1029, 101, 1030, 211, 212, 213, 632, 633, 634, 635, 636, 637, 1031, 1032, 1033, 1034, 1035, 1036, 227, 228, 229, 1037, 1038, 1039, 1040, 1041, 1042, 1043, 1100, 1101, 1102, 1103, 1052, 1053, 1054, 1055, 1048, 1049, 1050, 1051, 1685, 1686, 1687, 1688, 1689, 1690, 1691, 1692, 1693, 1694, 1695, 1696, 1697, 1698, 1699, 1700, 1799, 1800, 1801, 1750, 1751, 1752, 1753, 1754, 1755, 1756, 1757, 1758, 1759, 1760, 1761, 1762, 1763, 1764, 1765, 1766, 1774, 1775, 1776, 1777, 1778, 1779, 1780, 1781, 1782, 1783, 1784, 1785] (by decide +kernel) (by decide +kernel)
set_option maxRecDepth 20000 in
theorem gL_law_X11_when : GoodIn wsL_law (wsV RL 134 RX11 yX11_when wsX11_when) := goodIn_app (goodIn_of _ (by decide +kernel)) ggL_law_X11_when
set_option maxRecDepth 20000 in
theorem ggL_law_X12_when : GoodIn wsL_law wsX12_when := goodIn_r _ [1107, 169, 1079, 1067, 1068, 1069, 5, 1070, 132, 133, 134, 404, 568, 1071, 1072, 1073, 582, 183, 184, 185, 541, 542, 543, 544, 545, 546, 547, 548, 138, 595, 596, 597, 598, 1074, 1075, 1076, 1077, 1066, 1078, 152, 654, 655, 656, 657, 139, 150, 151, 144, 140, 142, 549, 550, 551, 552, 1080, 1081, 1082, 1083, 683, 684, 685, 686, 1701, 1702, 1703, 1704, 1705, 1706, 1707, 1708, 1709, 1710, 1711, 1712, 1713, 1714, 1715, 1716, 1717, 1718, 1719, 1720, 1721, 1722, 1723, 1724, 1725, 1726, 1727, 1728, 1729, 1730, 1731, 1732, 1733, 1734, 1735, 1736, 1737, 1738, 1739, 1740, 1741, 1742, 1743, 1744, 1745] (by decide +kernel) (by decide +kernel)
set_option maxRecDepth 20000 in
theorem gL_law_X12_when : GoodIn wsL_law (wsV RL 138 RX12 yX12_when wsX12_when) := goodIn_app (goodIn_of _ (by decide +kernel)) ggL_law_X12_when
set_option maxRecDepth 20000 in
theorem ggL_law_X11_listen : GoodIn wsL_law wsX11_listen := goodIn_r _ [1111, 40, 1112, 984, 985, 986, 2, 987, 22, 60, 988, 519, 520, 521, 21, 522, 205, 523, 524, 525, 526, 527, 528, 989, 990, 991, 59, 992, 125, 993, 994, 995, 996, 997, 998, 999, 1000, 1001, 1002, 1003, 1004, 127, 1005, 1006, 1007, 1008, 1009, 1010, 1011, 1012, 1013, 1014, 1015, 39, 1016, 1017, 1018, 1019, 1020, 1021, 99, 1022, 1023, 1024, 1025, 1026, 1027, 100, 102, 1028, 1029, 101, 1030, 211, 212, 213, 632, 633, 634, 635, 636, 637, 1031, 1032, 1033, 1034, 1035, 1036, 227, 228, 229, 1037, 1038, 1039, 1040, 1041, 1042, 1043, 1113, 1114, 1115, 1116, 1117, 1118, 103, 1119, 1045, 1046, 1047, 1048, 1049, 1050, 1051, 1052, 1053, 1054, 1055, 1056, 1057, 944, 1058, 1059, 1060, 1061, 1120, 1121, 1122, 1123, 104, 1124, 1125, 1126, 1127, 1685, 1686, 1687, 1688, 1689, 1690, 1691, 1692, 1693, 1694, 1695, 1696, 1697, 1698, 1699, 1700, 1774, 1775, 1776, 1777, 1778, 1779, 1780, 1781, 1782, 1783, 1784, 1785, 1799, 1800, 1801, 1750, 1751, 1752, 1753, 1754, 1755, 1756, 1757, 1758, 1759, 1760, 1761, 1762, 1763, 1764, 1765, 1766] (by decide +kernel) (by decide +kernel)
set_option maxRecDepth 20000 in
theorem gL_law_X11_listen : GoodIn wsL_law (wsV RL 139 RX11 yX11_listen wsX11_listen) := goodIn_app (goodIn_of _ (by decide +kernel)) ggL_law_X11_listen
set_option maxRecDepth 20000 in
theorem ggL_law_X12_listen : GoodIn wsL_law wsX12_listen := goodIn_r _ [1131, 169, 1067, 1068, 1069, 5, 1070, 132, 133, 134, 404, 568, 1071, 1072, 1073, 582, 183, 184, 185, 541, 542, 543, 544, 545, 546, 547, 548, 138, 595, 596, 597, 598, 1132, 1133, 1134, 1135, 1066, 1136, 152, 1074, 1075, 1076, 1077, 1078, 1079, 654, 655, 656, 657, 139, 150, 151, 144, 140, 142, 549, 550, 551, 552, 1080, 1081, 1082, 1083, 683, 684, 685, 686, 1701, 1702, 1703, 1704, 1705, 1706, 1707, 1708, 1709, 1710, 1711, 1712, 1713, 1714, 1715, 1716, 1717, 1718, 1719, 1720, 1721, 1722, 1723, 1724, 1725, 1726, 1727, 1728, 1729, 1730, 1731, 1732, 1733, 1734, 1735, 1736, 1737, 1738, 1739, 1740, 1741, 1742, 1743, 1744, 1745] (by decide +kernel) (by decide +kernel)
set_option maxRecDepth 20000 in
theorem gL_law_X12_listen : GoodIn wsL_law (wsV RL 142 RX12 yX12_listen wsX12_listen) := goodIn_app (goodIn_of _ (by decide +kernel)) ggL_law_X12_listen
set_option maxRecDepth 20000 in
theorem ggL_law_X11_leaves : GoodIn wsL_law wsX11_leaves := goodIn_r _ [1140, 40, 1141, 984, 985, 986, 2, 987, 22, 60, 988, 519, 520, 521, 21, 522, 205, 523, 524, 525, 526, 527, 528, 989, 990, 991, 59, 992, 125, 993, 994, 995, 996, 997, 998, 999, 1000, 1001, 1002, 1003, 1004, 127, 1005, 1006, 1007, 1008, 1009, 1010, 1011, 1012, 1013, 1014, 1015, 39, 1016, 1017, 1018, 1019, 1020, 1021, 99, 1022, 1023, 1024, 1025, 1026, 1027, 100, 102, 1028, 1029, 101, 1030, 211, 212, 213, 632, 633, 634, 635, 636, 637, 1031, 1032, 1033, 1034, 1035, 1036, 227, 228, 229, 1037, 1038, 1039, 1040, 1041, 1042, 1043, 1113, 1114, 1115, 1116, 1117, 1118, 103, 1119, 1045, 1046, 1047, 1048, 1049, 1050, 1051, 1052, 1053, 1054, 1055, 1056, 1057, 944, 1058, 1059, 1060, 1061, 1120, 1121, 1122, 1123, 104, 1124, 1125, 1126, 1127, 1685, 1686, 1687, 1688, 1689, 1690, 1691, 1692, 1693, 1694, 1695, 1696, 1697, 1698, 1699, 1700, 1774, 1775, 1776, 1777, 1778, 1779, 1780, 1781, 1782, 1783, 1784, 1785, 1799, 1800, 1801, 1750, 1751, 1752, 1753, 1754, 1755, 1756, 1757, 1758, 1759, 1760, 1761, 1762, 1763, 1764, 1765, 1766] (by decide +kernel) (by decide +kernel)
set_option maxRecDepth 20000 in
theorem gL_law_X11_leaves : GoodIn wsL_law (wsV RL 143 RX11 yX11_leaves wsX11_leaves) := goodIn_app (goodIn_of _ (by decide +kernel)) ggL_law_X11_leaves
set_option maxRecDepth 20000 in
theorem ggL_law_X12_leaves : GoodIn wsL_law wsX12_leaves := goodIn_r _ [1145, 169, 1136, 1067, 1068, 1069, 5, 1070, 132, 133, 134, 404, 568, 1071, 1072, 1073, 582, 183, 184, 185, 541, 542, 543, 544, 545, 546, 547, 548, 138, 595, 596, 597, 598, 1132, 1133, 1134, 1135, 1066, 152, 1074, 1075, 1076, 1077, 1078, 1079, 654, 655, 656, 657, 139, 150, 151, 144, 140, 142, 549, 550, 551, 552, 1080, 1081, 1082, 1083, 683, 684, 685, 686, 1701, 1702, 1703, 1704, 1705, 1706, 1707, 1708, 1709, 1710, 1711, 1712, 1713, 1714, 1715, 1716, 1717, 1718, 1719, 1720, 1721, 1722, 1723, 1724, 1725, 1726, 1727, 1728, 1729, 1730, 1731, 1732, 1733, 1734, 1735, 1736, 1737, 1738, 1739, 1740, 1741, 1742, 1743, 1744, 1745] (by decide +kernel) (by decide +kernel)
set_option maxRecDepth 20000 in
theorem gL_law_X12_leaves : GoodIn wsL_law (wsV RL 146 RX12 yX12_leaves wsX12_leaves) := goodIn_app (goodIn_of _ (by decide +kernel)) ggL_law_X12_leaves
set_option maxRecDepth 20000 in
theorem ggL_law_X11_crosses : GoodIn wsL_law wsX11_crosses := goodIn_r _ [1149, 22, 44, 519, 520, 521, 21, 522, 205, 588, 589, 2, 590, 526, 527, 528, 1150, 1151, 1152, 43, 1153, 1154, 1155, 108, 632, 633, 634, 635, 636, 637, 1685, 1686, 1687, 1688, 1689, 1690, 1691, 1692, 1693, 1694, 1695, 1696, 1697, 1698, 1699, 1700, 1750, 1751, 1752, 1753, 1754, 1755, 1756, 1757, 1758, 1759, 1760, 1761, 1762, 1763, 1764, 1765, 1766, 1786, 1787, 1788] (by decide +kernel) (by decide +kernel)
set_option maxRecDepth 20000 in
theorem gL_law_X11_crosses : GoodIn wsL_law (wsV RL 147 RX11 yX11_crosses wsX11_crosses) := goodIn_app (goodIn_of _ (by decide +kernel)) ggL_law_X11_crosses
set_option maxRecDepth 20000 in
theorem ggL_law_X12_crosses : GoodIn wsL_law wsX12_crosses := goodIn_r _ [1159, 169, 545, 546, 547, 5, 548, 138, 595, 596, 597, 598, 183, 184, 185, 1160, 1161, 1162, 1163, 139, 145, 153, 1164, 1165, 1166, 1701, 1702, 1703, 1704, 1705, 1706, 1707, 1708, 1709, 1710, 1711, 1712, 1713, 1714, 1715, 1716, 1717, 1718, 1719, 1720, 1721, 1722, 1723, 1724, 1725, 1726, 1727, 1728, 1729, 1730, 1731, 1732, 1733, 1734, 1735, 1736, 1737, 1738, 1739, 1740, 1741, 1742, 1743, 1744, 1745] (by decide +kernel) (by decide +kernel)
set_option maxRecDepth 20000 in
theorem gL_law_X12_crosses : GoodIn wsL_law (wsV RL 150 RX12 yX12_crosses wsX12_crosses) := goodIn_app (goodIn_of _ (by decide +kernel)) ggL_law_X12_crosses
set_option maxRecDepth 20000 in
theorem ggL_law_X11_returns : GoodIn wsL_law wsX11_returns := goodIn_r _ [1170, 22, 44, 519, 520, 521, 21, 522, 205, 588, 589, 2, 590, 526, 527, 528, 1150, 1151, 1152, 43, 1153, 1154, 1155, 108, 632, 633, 634, 635, 636, 637, 1685, 1686, 1687, 1688, 1689, 1690, 1691, 1692, 1693, 1694, 1695, 1696, 1697, 1698, 1699, 1700, 1750, 1751, 1752, 1753, 1754, 1755, 1756, 1757, 1758, 1759, 1760, 1761, 1762, 1763, 1764, 1765, 1766, 1786, 1787, 1788] (by decide +kernel) (by decide +kernel)
set_option maxRecDepth 20000 in
theorem gL_law_X11_returns : GoodIn wsL_law (wsV RL 151 RX11 yX11_returns wsX11_returns) := goodIn_app (goodIn_of _ (by decide +kernel)) ggL_law_X11_returns
set_option maxRecDepth 20000 in
theorem ggL_law_X12_returns : GoodIn wsL_law wsX12_returns := goodIn_r _ [1174, 169, 545, 546, 547, 5, 548, 138, 595, 596, 597, 598, 183, 184, 185, 1160, 1161, 1162, 1163, 139, 145, 153, 1164, 1165, 1166, 1701, 1702, 1703, 1704, 1705, 1706, 1707, 1708, 1709, 1710, 1711, 1712, 1713, 1714, 1715, 1716, 1717, 1718, 1719, 1720, 1721, 1722, 1723, 1724, 1725, 1726, 1727, 1728, 1729, 1730, 1731, 1732, 1733, 1734, 1735, 1736, 1737, 1738, 1739, 1740, 1741, 1742, 1743, 1744, 1745] (by decide +kernel) (by decide +kernel)
set_option maxRecDepth 20000 in
theorem gL_law_X12_returns : GoodIn wsL_law (wsV RL 154 RX12 yX12_returns wsX12_returns) := goodIn_app (goodIn_of _ (by decide +kernel)) ggL_law_X12_returns
set_option maxRecDepth 20000 in
theorem ggL_law_X11_meet : GoodIn wsL_law wsX11_meet := goodIn_r _ [1178, 22, 44, 1179, 519, 520, 521, 21, 522, 205, 588, 589, 2, 590, 526, 527, 528, 1180, 1181, 1182, 43, 1183, 1184, 1185, 1154, 108, 1186, 1038, 228, 1039, 1187, 1151, 1152, 1153, 1155, 632, 633, 634, 635, 636, 637, 1685, 1686, 1687, 1688, 1689, 1690, 1691, 1692, 1693, 1694, 1695, 1696, 1697, 1698, 1699, 1700, 1786, 1787, 1788, 1750, 1751, 1752, 1753, 1754, 1755, 1756, 1757, 1758, 1759, 1760, 1761, 1762, 1763, 1764, 1765, 1766] (by decide +kernel) (by decide +kernel)
set_option maxRecDepth 20000 in
theorem gL_law_X11_meet : GoodIn wsL_law (wsV RL 155 RX11 yX11_meet wsX11_meet) := goodIn_app (goodIn_of _ (by decide +kernel)) ggL_law_X11_meet
set_option maxRecDepth 20000 in
theorem ggL_law_X12_meet : GoodIn wsL_law wsX12_meet := goodIn_r _ [1191, 169, 1192, 545, 546, 547, 5, 548, 138, 595, 596, 597, 598, 183, 184, 185, 1193, 1194, 1195, 1196, 408, 1197, 139, 153, 1160, 1161, 1162, 1163, 145, 1164, 1165, 1166, 1701, 1702, 1703, 1704, 1705, 1706, 1707, 1708, 1709, 1710, 1711, 1712, 1713, 1714, 1715, 1716, 1717, 1718, 1719, 1720, 1721, 1722, 1723, 1724, 1725, 1726, 1727, 1728, 1729, 1730, 1731, 1732, 1733, 1734, 1735, 1736, 1737, 1738, 1739, 1740, 1741, 1742, 1743, 1744, 1745] (by decide +kernel) (by decide +kernel)
set_option maxRecDepth 20000 in
theorem gL_law_X12_meet : GoodIn wsL_law (wsV RL 158 RX12 yX12_meet wsX12_meet) := goodIn_app (goodIn_of _ (by decide +kernel)) ggL_law_X12_meet
set_option maxRecDepth 20000 in
theorem ggL_law_X11_cell : GoodIn wsL_law wsX11_cell := goodIn_r _ [1201, 22, 44, 1202, 519, 520, 521, 21, 522, 205, 588, 589, 2, 590, 526, 527, 528, 1180, 1181, 1182, 43, 1183, 1184, 1185, 1154, 108, 1186, 1038, 228, 1039, 1187, 1151, 1152, 1153, 1155, 632, 633, 634, 635, 636, 637, 1685, 1686, 1687, 1688, 1689, 1690, 1691, 1692, 1693, 1694, 1695, 1696, 1697, 1698, 1699, 1700, 1786, 1787, 1788, 1750, 1751, 1752, 1753, 1754, 1755, 1756, 1757, 1758, 1759, 1760, 1761, 1762, 1763, 1764, 1765, 1766] (by decide +kernel) (by decide +kernel)
set_option maxRecDepth 20000 in
theorem gL_law_X11_cell : GoodIn wsL_law (wsV RL 159 RX11 yX11_cell wsX11_cell) := goodIn_app (goodIn_of _ (by decide +kernel)) ggL_law_X11_cell
set_option maxRecDepth 20000 in
theorem ggL_law_X12_cell : GoodIn wsL_law wsX12_cell := goodIn_r _ [1206, 169, 1197, 545, 546, 547, 5, 548, 138, 595, 596, 597, 598, 183, 184, 185, 1193, 1194, 1195, 1196, 408, 1192, 139, 153, 1160, 1161, 1162, 1163, 145, 1701, 1702, 1703, 1704, 1705, 1706, 1707, 1708, 1709, 1710, 1711, 1712, 1713, 1714, 1715, 1716, 1717, 1718, 1719, 1720, 1721, 1722, 1723, 1724, 1725, 1726, 1727, 1728, 1729, 1730, 1731, 1732, 1733, 1734, 1735, 1736, 1737, 1738, 1739, 1740, 1741, 1742, 1743, 1744, 1745] (by decide +kernel) (by decide +kernel)
set_option maxRecDepth 20000 in
theorem gL_law_X12_cell : GoodIn wsL_law (wsV RL 162 RX12 yX12_cell wsX12_cell) := goodIn_app (goodIn_of _ (by decide +kernel)) ggL_law_X12_cell
set_option maxRecDepth 20000 in
theorem ggL_law_X11_longest : GoodIn wsL_law wsX11_longest := goodIn_r _ [1210, 22, 44, 519, 520, 521, 21, 522, 205, 1211, 1212, 1213, 43, 1214, 1186, 1038, 228, 1039, 1187, 1151, 1152, 1153, 1154, 1155, 108, 632, 2, 633, 634, 635, 636, 637, 1685, 1686, 1687, 1688, 1689, 1690, 1691, 1692, 1693, 1694, 1695, 1696, 1697, 1698, 1699, 1700, 1750, 1751, 1752, 1753, 1754, 1755, 1756, 1757, 1758, 1759, 1760, 1761, 1762, 1763, 1764, 1765, 1766, 1786, 1787, 1788] (by decide +kernel) (by decide +kernel)
set_option maxRecDepth 20000 in
theorem gL_law_X11_longest : GoodIn wsL_law (wsV RL 163 RX11 yX11_longest wsX11_longest) := goodIn_app (goodIn_of _ (by decide +kernel)) ggL_law_X11_longest
set_option maxRecDepth 20000 in
theorem ggL_law_X12_longest : GoodIn wsL_law wsX12_longest := goodIn_r _ [1218, 169, 545, 546, 547, 5, 548, 138, 1160, 1161, 1162, 1163, 139, 145, 153, 1701, 1702, 1703, 1704, 1705, 1706, 1707, 1708, 1709, 1710, 1711, 1712, 1713, 1714, 1715, 1716, 1717, 1718, 1719, 1720, 1721, 1722, 1723, 1724, 1725, 1726, 1727, 1728, 1729, 1730, 1731, 1732, 1733, 1734, 1735, 1736, 1737, 1738, 1739, 1740, 1741, 1742, 1743, 1744, 1745] (by decide +kernel) (by decide +kernel)
set_option maxRecDepth 20000 in
theorem gL_law_X12_longest : GoodIn wsL_law (wsV RL 166 RX12 yX12_longest wsX12_longest) := goodIn_app (goodIn_of _ (by decide +kernel)) ggL_law_X12_longest
set_option maxRecDepth 20000 in
theorem ggL_law_X11_half : GoodIn wsL_law wsX11_half := goodIn_r _ [1222, 60, 1223, 1224, 1225, 59, 1226, 125, 994, 995, 996, 527, 2, 528, 997, 998, 999, 1000, 1001, 1002, 1003, 1004, 127, 1008, 1009, 1010, 1011, 1012, 1005, 1006, 1007, 1227, 1228, 1229, 1230, 1231, 1232, 1233, 1234, 632, 633, 634, 635, 636, 637, 1235, 1236, 1237, 1238, 1685, 1686, 1687, 1688, 1689, 1690, 1691, 1692, 1693, 1694, 1695, 1696, 1697, 1698, 1699, 1700, 1799, 1800, 1801] (by decide +kernel) (by decide +kernel)
set_option maxRecDepth 20000 in
theorem gL_law_X11_half : GoodIn wsL_law (wsV RL 167 RX11 yX11_half wsX11_half) := goodIn_app (goodIn_of _ (by decide +kernel)) ggL_law_X11_half
set_option maxRecDepth 20000 in
theorem ggL_law_X12_half : GoodIn wsL_law wsX12_half := goodIn_r _ [1242, 169, 1243, 1244, 1245, 5, 1246, 132, 133, 134, 404, 568, 1071, 1072, 1073, 582, 183, 184, 185, 1247, 1248, 1249, 1250, 1251, 1252, 1253, 1254, 149, 1701, 1702, 1703, 1704, 1705, 1706, 1707, 1708, 1709, 1710, 1711, 1712, 1713, 1714, 1715, 1716, 1717, 1718, 1719, 1720, 1721, 1722, 1723, 1724, 1725, 1726, 1727, 1728, 1729, 1730, 1731, 1732, 1733, 1734, 1735, 1736, 1737, 1738, 1739, 1740, 1741, 1742, 1743, 1744, 1745] (by decide +kernel) (by decide +kernel)
set_option maxRecDepth 20000 in
theorem gL_law_X12_half : GoodIn wsL_law (wsV RL 170 RX12 yX12_half wsX12_half) := goodIn_app (goodIn_of _ (by decide +kernel)) ggL_law_X12_half
set_option maxRecDepth 20000 in
theorem ggL_law_X11_fills : GoodIn wsL_law wsX11_fills := goodIn_r _ [1258, 60, 1223, 1224, 1225, 59, 1226, 125, 994, 995, 996, 527, 2, 528, 997, 998, 999, 1000, 1001, 1002, 1003, 1004, 127, 1008, 1009, 1010, 1011, 1012, 1005, 1006, 1007, 1227, 1228, 1229, 1230, 1231, 1232, 1233, 1234, 632, 633, 634, 635, 636, 637, 1235, 1236, 1237, 1238, 526, 1259, 1685, 1686, 1687, 1688, 1689, 1690, 1691, 1692, 1693, 1694, 1695, 1696, 1697, 1698, 1699, 1700, 1799, 1800, 1801] (by decide +kernel) (by decide +kernel)
set_option maxRecDepth 20000 in
theorem gL_law_X11_fills : GoodIn wsL_law (wsV RL 171 RX11 yX11_fills wsX11_fills) := goodIn_app (goodIn_of _ (by decide +kernel)) ggL_law_X11_fills
set_option maxRecDepth 20000 in
theorem ggL_law_X12_fills : GoodIn wsL_law wsX12_fills := goodIn_r _ [1263, 169, 149, 1243, 1244, 1245, 5, 1246, 132, 133, 134, 404, 568, 1071, 1072, 1073, 582, 183, 184, 185, 1247, 1248, 1249, 1250, 1251, 1252, 1253, 1254, 1701, 1702, 1703, 1704, 1705, 1706, 1707, 1708, 1709, 1710, 1711, 1712, 1713, 1714, 1715, 1716, 1717, 1718, 1719, 1720, 1721, 1722, 1723, 1724, 1725, 1726, 1727, 1728, 1729, 1730, 1731, 1732, 1733, 1734, 1735, 1736, 1737, 1738, 1739, 1740, 1741, 1742, 1743, 1744, 1745] (by decide +kernel) (by decide +kernel)
set_option maxRecDepth 20000 in
theorem gL_law_X12_fills : GoodIn wsL_law (wsV RL 174 RX12 yX12_fills wsX12_fills) := goodIn_app (goodIn_of _ (by decide +kernel)) ggL_law_X12_fills
set_option maxRecDepth 20000 in
theorem ggL_law_X11_open : GoodIn wsL_law wsX11_open := goodIn_r _ [1267, 60, 1223, 1224, 1225, 59, 1226, 125, 994, 995, 996, 527, 2, 528, 997, 998, 999, 1000, 1001, 1002, 1003, 1004, 127, 1008, 1009, 1010, 1011, 1012, 1005, 1006, 1007, 1227, 1228, 1229, 1230, 1231, 1232, 1233, 1234, 632, 633, 634, 635, 636, 637, 1235, 1236, 1237, 1238, 1268, 1269, 1270, 1271, 1685, 1686, 1687, 1688, 1689, 1690, 1691, 1692, 1693, 1694, 1695, 1696, 1697, 1698, 1699, 1700, 1799, 1800, 1801] (by decide +kernel) (by decide +kernel)
set_option maxRecDepth 20000 in
theorem gL_law_X11_open : GoodIn wsL_law (wsV RL 175 RX11 yX11_open wsX11_open) := goodIn_app (goodIn_of _ (by decide +kernel)) ggL_law_X11_open
set_option maxRecDepth 20000 in
theorem ggL_law_X12_open : GoodIn wsL_law wsX12_open := goodIn_r _ [1275, 169, 149, 1243, 1244, 1245, 5, 1246, 132, 133, 134, 404, 568, 1071, 1072, 1073, 582, 183, 184, 185, 1247, 1248, 1249, 1250, 1251, 1252, 1253, 1254, 1701, 1702, 1703, 1704, 1705, 1706, 1707, 1708, 1709, 1710, 1711, 1712, 1713, 1714, 1715, 1716, 1717, 1718, 1719, 1720, 1721, 1722, 1723, 1724, 1725, 1726, 1727, 1728, 1729, 1730, 1731, 1732, 1733, 1734, 1735, 1736, 1737, 1738, 1739, 1740, 1741, 1742, 1743, 1744, 1745] (by decide +kernel) (by decide +kernel)
set_option maxRecDepth 20000 in
theorem gL_law_X12_open : GoodIn wsL_law (wsV RL 178 RX12 yX12_open wsX12_open) := goodIn_app (goodIn_of _ (by decide +kernel)) ggL_law_X12_open
set_option maxRecDepth 20000 in
theorem ggL_law_X11_together : GoodIn wsL_law wsX11_together := goodIn_r _ [1279, 1280, 48, 22, 1281, 1282, 1283, 2, 1284, 1285, 519, 520, 521, 21, 522, 205, 526, 527, 528, 588, 589, 590, 1286, 1287, 1288, 47, 1289, 1290, 1291, 1292, 1293, 1294, 1295, 1296, 1297, 1298, 831, 832, 833, 834, 835, 1299, 1300, 1301, 1302, 1303, 1304, 636, 1305, 1685, 1686, 1687, 1688, 1689, 1690, 1691, 1692, 1693, 1694, 1695, 1696, 1697, 1698, 1699, 1700, 1750, 1751, 1752, 1753, 1754, 1755, 1756, 1757, 1758, 1759, 1760, 1761, 1762, 1763, 1764, 1765, 1766, 1789, 1790] (by decide +kernel) (by decide +kernel)
set_option maxRecDepth 20000 in
theorem gL_law_X11_together : GoodIn wsL_law (wsV RL 179 RX11 yX11_together wsX11_together) := goodIn_app (goodIn_of _ (by decide +kernel)) ggL_law_X11_together
set_option maxRecDepth 20000 in
theorem ggL_law_X12_together : GoodIn wsL_law wsX12_together := goodIn_r _ [1309, 169, 1310, 1311, 1312, 1313, 5, 1314, 139, 545, 546, 547, 548, 138, 183, 184, 185, 595, 596, 597, 598, 1315, 1316, 1317, 1318, 146, 404, 727, 728, 729, 1319, 1320, 1321, 1701, 1702, 1703, 1704, 1705, 1706, 1707, 1708, 1709, 1710, 1711, 1712, 1713, 1714, 1715, 1716, 1717, 1718, 1719, 1720, 1721, 1722, 1723, 1724, 1725, 1726, 1727, 1728, 1729, 1730, 1731, 1732, 1733, 1734, 1735, 1736, 1737, 1738, 1739, 1740, 1741, 1742, 1743, 1744, 1745] (by decide +kernel) (by decide +kernel)
set_option maxRecDepth 20000 in
theorem gL_law_X12_together : GoodIn wsL_law (wsV RL 182 RX12 yX12_together wsX12_together) := goodIn_app (goodIn_of _ (by decide +kernel)) ggL_law_X12_together
set_option maxRecDepth 20000 in
theorem ggL_law_X11_again : GoodIn wsL_law wsX11_again := goodIn_r _ [1325, 1280, 48, 22, 1326, 1281, 1282, 1283, 2, 1284, 1285, 519, 520, 521, 21, 522, 205, 526, 527, 528, 1286, 1287, 1288, 47, 1289, 1290, 1291, 1292, 1293, 1294, 1295, 1296, 1297, 1298, 831, 832, 833, 834, 835, 1685, 1686, 1687, 1688, 1689, 1690, 1691, 1692, 1693, 1694, 1695, 1696, 1697, 1698, 1699, 1700, 1789, 1790, 1750, 1751, 1752, 1753, 1754, 1755, 1756, 1757, 1758, 1759, 1760, 1761, 1762, 1763, 1764, 1765, 1766] (by decide +kernel) (by decide +kernel)
set_option maxRecDepth 20000 in
theorem gL_law_X11_again : GoodIn wsL_law (wsV RL 183 RX11 yX11_again wsX11_again) := goodIn_app (goodIn_of _ (by decide +kernel)) ggL_law_X11_again
set_option maxRecDepth 20000 in
theorem ggL_law_X12_again : GoodIn wsL_law wsX12_again := goodIn_r _ [1330, 169, 1310, 1311, 1312, 1313, 5, 1314, 139, 545, 546, 547, 548, 138, 183, 184, 185, 1331, 1332, 1333, 1334, 146, 727, 728, 729, 1319, 1320, 1321, 1701, 1702, 1703, 1704, 1705, 1706, 1707, 1708, 1709, 1710, 1711, 1712, 1713, 1714, 1715, 1716, 1717, 1718, 1719, 1720, 1721, 1722, 1723, 1724, 1725, 1726, 1727, 1728, 1729, 1730, 1731, 1732, 1733, 1734, 1735, 1736, 1737, 1738, 1739, 1740, 1741, 1742, 1743, 1744, 1745] (by decide +kernel) (by decide +kernel)
set_option maxRecDepth 20000 in
theorem gL_law_X12_again : GoodIn wsL_law (wsV RL 187 RX12 yX12_again wsX12_again) := goodIn_app (goodIn_of _ (by decide +kernel)) ggL_law_X12_again
set_option maxRecDepth 20000 in
theorem ggL_law_X11_most : GoodIn wsL_law wsX11_most := goodIn_r _ [1338, 22, 48, 519, 520, 521, 21, 522, 205, 1339, 1340, 1341, 47, 1342, 1292, 1291, 1298, 1343, 1057, 944, 1058, 1059, 1060, 1061, 1344, 1287, 1288, 1289, 1290, 1293, 1294, 1295, 1296, 1297, 831, 2, 832, 833, 834, 835, 1345, 1685, 1686, 1687, 1688, 1689, 1690, 1691, 1692, 1693, 1694, 1695, 1696, 1697, 1698, 1699, 1700, 1750, 1751, 1752, 1753, 1754, 1755, 1756, 1757, 1758, 1759, 1760, 1761, 1762, 1763, 1764, 1765, 1766, 1789, 1790] (by decide +kernel) (by decide +kernel)
set_option maxRecDepth 20000 in
theorem gL_law_X11_most : GoodIn wsL_law (wsV RL 188 RX11 yX11_most wsX11_most) := goodIn_app (goodIn_of _ (by decide +kernel)) ggL_law_X11_most
set_option maxRecDepth 20000 in
theorem ggL_law_X12_most : GoodIn wsL_law wsX12_most := goodIn_r _ [1349, 169, 545, 546, 547, 5, 548, 138, 1350, 1351, 1352, 1353, 139, 404, 1354, 1355, 1356, 1315, 1316, 1317, 1318, 146, 727, 728, 729, 1319, 1320, 1321, 1701, 1702, 1703, 1704, 1705, 1706, 1707, 1708, 1709, 1710, 1711, 1712, 1713, 1714, 1715, 1716, 1717, 1718, 1719, 1720, 1721, 1722, 1723, 1724, 1725, 1726, 1727, 1728, 1729, 1730, 1731, 1732, 1733, 1734, 1735, 1736, 1737, 1738, 1739, 1740, 1741, 1742, 1743, 1744, 1745] (by decide +kernel) (by decide +kernel)
set_option maxRecDepth 20000 in
theorem gL_law_X12_most : GoodIn wsL_law (wsV RL 191 RX12 yX12_most wsX12_most) := goodIn_app (goodIn_of _ (by decide +kernel)) ggL_law_X12_most
set_option maxRecDepth 20000 in
theorem ggL_law_X11_chorus : GoodIn wsL_law wsX11_chorus := goodIn_r _ [1360, 22, 48, 519, 520, 521, 21, 522, 205, 1339, 1340, 1341, 47, 1342, 1292, 1291, 1298, 1343, 1057, 944, 1058, 1059, 1060, 1061, 1344, 1287, 1288, 1289, 1290, 1293, 1294, 1295, 1296, 1297, 831, 2, 832, 833, 834, 835, 1685, 1686, 1687, 1688, 1689, 1690, 1691, 1692, 1693, 1694, 1695, 1696, 1697, 1698, 1699, 1700, 1750, 1751, 1752, 1753, 1754, 1755, 1756, 1757, 1758, 1759, 1760, 1761, 1762, 1763, 1764, 1765, 1766, 1789, 1790] (by decide +kernel) (by decide +kernel)
set_option maxRecDepth 20000 in
theorem gL_law_X11_chorus : GoodIn wsL_law (wsV RL 192 RX11 yX11_chorus wsX11_chorus) := goodIn_app (goodIn_of _ (by decide +kernel)) ggL_law_X11_chorus
set_option maxRecDepth 20000 in
theorem ggL_law_X12_chorus : GoodIn wsL_law wsX12_chorus := goodIn_r _ [1364, 169, 545, 546, 547, 5, 548, 138, 1350, 1351, 1352, 1353, 139, 404, 1354, 1355, 1356, 1315, 1316, 1317, 1318, 146, 727, 728, 729, 1319, 1320, 1321, 1701, 1702, 1703, 1704, 1705, 1706, 1707, 1708, 1709, 1710, 1711, 1712, 1713, 1714, 1715, 1716, 1717, 1718, 1719, 1720, 1721, 1722, 1723, 1724, 1725, 1726, 1727, 1728, 1729, 1730, 1731, 1732, 1733, 1734, 1735, 1736, 1737, 1738, 1739, 1740, 1741, 1742, 1743, 1744, 1745] (by decide +kernel) (by decide +kernel)
set_option maxRecDepth 20000 in
theorem gL_law_X12_chorus : GoodIn wsL_law (wsV RL 195 RX12 yX12_chorus wsX12_chorus) := goodIn_app (goodIn_of _ (by decide +kernel)) ggL_law_X12_chorus
set_option maxRecDepth 20000 in
theorem ggL_law_X11_treaties : GoodIn wsL_law wsX11_treaties := goodIn_r _ [1368, 22, 519, 520, 521, 21, 522, 205, 1369, 712, 713, 714, 80, 1685, 1686, 1687, 1688, 1689, 1690, 1691, 1692, 1693, 1694, 1695, 1696, 1697, 1698, 1699, 1700, 1750, 1751, 1752, 1753, 1754, 1755, 1756, 1757, 1758, 1759, 1760, 1761, 1762, 1763, 1764, 1765, 1766] (by decide +kernel) (by decide +kernel)
set_option maxRecDepth 20000 in
theorem gL_law_X11_treaties : GoodIn wsL_law (wsV RL 196 RX11 yX11_treaties wsX11_treaties) := goodIn_app (goodIn_of _ (by decide +kernel)) ggL_law_X11_treaties
set_option maxRecDepth 20000 in
theorem ggL_law_X12_treaties : GoodIn wsL_law wsX12_treaties := goodIn_r _ [1373, 169, 141, 545, 546, 547, 5, 548, 138, 727, 728, 729, 1701, 1702, 1703, 1704, 1705, 1706, 1707, 1708, 1709, 1710, 1711, 1712, 1713, 1714, 1715, 1716, 1717, 1718, 1719, 1720, 1721, 1722, 1723, 1724, 1725, 1726, 1727, 1728, 1729, 1730, 1731, 1732, 1733, 1734, 1735, 1736, 1737, 1738, 1739, 1740, 1741, 1742, 1743, 1744, 1745] (by decide +kernel) (by decide +kernel)
set_option maxRecDepth 20000 in
theorem gL_law_X12_treaties : GoodIn wsL_law (wsV RL 199 RX12 yX12_treaties wsX12_treaties) := goodIn_app (goodIn_of _ (by decide +kernel)) ggL_law_X12_treaties
set_option maxRecDepth 20000 in
theorem ggL_law_X11_leads : GoodIn wsL_law wsX11_leads := goodIn_r _ [1377, 22, 557, 519, 520, 521, 21, 522, 205, 526, 527, 2, 528, 1345, 1057, 944, 1058, 1059, 1060, 1061, 1685, 1686, 1687, 1688, 1689, 1690, 1691, 1692, 1693, 1694, 1695, 1696, 1697, 1698, 1699, 1700, 1750, 1751, 1752, 1753, 1754, 1755, 1756, 1757, 1758, 1759, 1760, 1761, 1762, 1763, 1764, 1765, 1766] (by decide +kernel) (by decide +kernel)
set_option maxRecDepth 20000 in
theorem gL_law_X11_leads : GoodIn wsL_law (wsV RL 200 RX11 yX11_leads wsX11_leads) := goodIn_app (goodIn_of _ (by decide +kernel)) ggL_law_X11_leads
set_option maxRecDepth 20000 in
theorem ggL_law_X12_leads : GoodIn wsL_law wsX12_leads := goodIn_r _ [1381, 169, 141, 545, 546, 547, 5, 548, 138, 183, 184, 185, 1354, 1355, 1356, 1701, 1702, 1703, 1704, 1705, 1706, 1707, 1708, 1709, 1710, 1711, 1712, 1713, 1714, 1715, 1716, 1717, 1718, 1719, 1720, 1721, 1722, 1723, 1724, 1725, 1726, 1727, 1728, 1729, 1730, 1731, 1732, 1733, 1734, 1735, 1736, 1737, 1738, 1739, 1740, 1741, 1742, 1743, 1744, 1745] (by decide +kernel) (by decide +kernel)
set_option maxRecDepth 20000 in
theorem gL_law_X12_leads : GoodIn wsL_law (wsV RL 203 RX12 yX12_leads wsX12_leads) := goodIn_app (goodIn_of _ (by decide +kernel)) ggL_law_X12_leads
set_option maxRecDepth 20000 in
theorem ggL_law_X11_game : GoodIn wsL_law wsX11_game := goodIn_r _ [1385, 22, 52, 519, 520, 521, 21, 522, 205, 558, 559, 2, 560, 526, 527, 528, 1386, 1387, 1388, 51, 1389, 115, 1390, 1391, 1392, 1393, 1394, 1395, 1396, 943, 944, 945, 946, 1685, 1686, 1687, 1688, 1689, 1690, 1691, 1692, 1693, 1694, 1695, 1696, 1697, 1698, 1699, 1700, 1750, 1751, 1752, 1753, 1754, 1755, 1756, 1757, 1758, 1759, 1760, 1761, 1762, 1763, 1764, 1765, 1766, 1791] (by decide +kernel) (by decide +kernel)
set_option maxRecDepth 20000 in
theorem gL_law_X11_game : GoodIn wsL_law (wsV RL 204 RX11 yX11_game wsX11_game) := goodIn_app (goodIn_of _ (by decide +kernel)) ggL_law_X11_game
set_option maxRecDepth 20000 in
theorem ggL_law_X12_game : GoodIn wsL_law wsX12_game := goodIn_r _ [1400, 169, 545, 546, 547, 5, 548, 138, 565, 566, 567, 568, 183, 184, 185, 1401, 1402, 1403, 1404, 154, 1405, 1406, 1407, 1408, 1409, 1410, 1411, 1412, 141, 727, 728, 729, 1701, 1702, 1703, 1704, 1705, 1706, 1707, 1708, 1709, 1710, 1711, 1712, 1713, 1714, 1715, 1716, 1717, 1718, 1719, 1720, 1721, 1722, 1723, 1724, 1725, 1726, 1727, 1728, 1729, 1730, 1731, 1732, 1733, 1734, 1735, 1736, 1737, 1738, 1739, 1740, 1741, 1742, 1743, 1744, 1745] (by decide +kernel) (by decide +kernel)
set_option maxRecDepth 20000 in
theorem gL_law_X12_game : GoodIn wsL_law (wsV RL 207 RX12 yX12_game wsX12_game) := goodIn_app (goodIn_of _ (by decide +kernel)) ggL_law_X12_game
set_option maxRecDepth 20000 in
theorem ggL_law_X11_plays : GoodIn wsL_law wsX11_plays := goodIn_r _ [1416, 22, 52, 519, 520, 521, 21, 522, 205, 558, 559, 2, 560, 526, 527, 528, 1386, 1387, 1388, 51, 1389, 115, 1390, 1391, 1392, 1393, 1394, 1395, 1396, 943, 944, 945, 946, 1685, 1686, 1687, 1688, 1689, 1690, 1691, 1692, 1693, 1694, 1695, 1696, 1697, 1698, 1699, 1700, 1750, 1751, 1752, 1753, 1754, 1755, 1756, 1757, 1758, 1759, 1760, 1761, 1762, 1763, 1764, 1765, 1766, 1791] (by decide +kernel) (by decide +kernel)
set_option maxRecDepth 20000 in
theorem gL_law_X11_plays : GoodIn wsL_law (wsV RL 208 RX11 yX11_plays wsX11_plays) := goodIn_app (goodIn_of _ (by decide +kernel)) ggL_law_X11_plays
set_option maxRecDepth 20000 in
theorem ggL_law_X12_plays : GoodIn wsL_law wsX12_plays := goodIn_r _ [1420, 169, 545, 546, 547, 5, 548, 138, 565, 566, 567, 568, 183, 184, 185, 1401, 1402, 1403, 1404, 154, 1409, 1410, 1411, 1412, 141, 727, 728, 729, 1405, 1406, 1407, 1408, 1701, 1702, 1703, 1704, 1705, 1706, 1707, 1708, 1709, 1710, 1711, 1712, 1713, 1714, 1715, 1716, 1717, 1718, 1719, 1720, 1721, 1722, 1723, 1724, 1725, 1726, 1727, 1728, 1729, 1730, 1731, 1732, 1733, 1734, 1735, 1736, 1737, 1738, 1739, 1740, 1741, 1742, 1743, 1744, 1745] (by decide +kernel) (by decide +kernel)
set_option maxRecDepth 20000 in
theorem gL_law_X12_plays : GoodIn wsL_law (wsV RL 211 RX12 yX12_plays wsX12_plays) := goodIn_app (goodIn_of _ (by decide +kernel)) ggL_law_X12_plays
set_option maxRecDepth 20000 in
theorem ggL_law_X11_dry : GoodIn wsL_law wsX11_dry := goodIn_r _ [1424, 1425, 1426, 1427, 2, 1428, 22, 1280, 1429, 519, 520, 521, 21, 522, 205, 526, 527, 528, 1430, 1431, 1432, 1433, 1434, 1435, 833, 834, 835, 1685, 1686, 1687, 1688, 1689, 1690, 1691, 1692, 1693, 1694, 1695, 1696, 1697, 1698, 1699, 1700, 1750, 1751, 1752, 1753, 1754, 1755, 1756, 1757, 1758, 1759, 1760, 1761, 1762, 1763, 1764, 1765, 1766] (by decide +kernel) (by decide +kernel)
set_option maxRecDepth 20000 in
theorem gL_law_X11_dry : GoodIn wsL_law (wsV RL 212 RX11 yX11_dry wsX11_dry) := goodIn_app (goodIn_of _ (by decide +kernel)) ggL_law_X11_dry
set_option maxRecDepth 20000 in
theorem ggL_law_X12_dry : GoodIn wsL_law wsX12_dry := goodIn_r _ [1439, 169, 1440, 139, 1310, 1441, 1442, 1443, 5, 1444, 1445, 545, 546, 547, 548, 138, 183, 184, 185, 1446, 1447, 1448, 1449, 1450, 1451, 1319, 1320, 1321, 1701, 1702, 1703, 1704, 1705, 1706, 1707, 1708, 1709, 1710, 1711, 1712, 1713, 1714, 1715, 1716, 1717, 1718, 1719, 1720, 1721, 1722, 1723, 1724, 1725, 1726, 1727, 1728, 1729, 1730, 1731, 1732, 1733, 1734, 1735, 1736, 1737, 1738, 1739, 1740, 1741, 1742, 1743, 1744, 1745] (by decide +kernel) (by decide +kernel)
set_option maxRecDepth 20000 in
theorem gL_law_X12_dry : GoodIn wsL_law (wsV RL 215 RX12 yX12_dry wsX12_dry) := goodIn_app (goodIn_of _ (by decide +kernel)) ggL_law_X12_dry
set_option maxRecDepth 20000 in
theorem ggL_law_X11_wet : GoodIn wsL_law wsX11_wet := goodIn_r _ [1428, 22, 1280, 1429, 519, 520, 521, 21, 522, 205, 526, 527, 2, 528, 1430, 1431, 1432, 1433, 1434, 1435, 833, 834, 835, 1685, 1686, 1687, 1688, 1689, 1690, 1691, 1692, 1693, 1694, 1695, 1696, 1697, 1698, 1699, 1700, 1750, 1751, 1752, 1753, 1754, 1755, 1756, 1757, 1758, 1759, 1760, 1761, 1762, 1763, 1764, 1765, 1766] (by decide +kernel) (by decide +kernel)
set_option maxRecDepth 20000 in
theorem gL_law_X11_wet : GoodIn wsL_law (wsV RL 216 RX11 yX11_wet wsX11_wet) := goodIn_app (goodIn_of _ (by decide +kernel)) ggL_law_X11_wet
set_option maxRecDepth 20000 in
theorem ggL_law_X12_wet : GoodIn wsL_law wsX12_wet := goodIn_r _ [1456, 169, 1310, 139, 1440, 1441, 1442, 1443, 5, 1444, 1445, 545, 546, 547, 548, 138, 183, 184, 185, 1446, 1447, 1448, 1449, 1450, 1451, 1319, 1320, 1321, 1701, 1702, 1703, 1704, 1705, 1706, 1707, 1708, 1709, 1710, 1711, 1712, 1713, 1714, 1715, 1716, 1717, 1718, 1719, 1720, 1721, 1722, 1723, 1724, 1725, 1726, 1727, 1728, 1729, 1730, 1731, 1732, 1733, 1734, 1735, 1736, 1737, 1738, 1739, 1740, 1741, 1742, 1743, 1744, 1745] (by decide +kernel) (by decide +kernel)
set_option maxRecDepth 20000 in
theorem gL_law_X12_wet : GoodIn wsL_law (wsV RL 220 RX12 yX12_wet wsX12_wet) := goodIn_app (goodIn_of _ (by decide +kernel)) ggL_law_X12_wet
set_option maxRecDepth 20000 in
theorem ggL_law_X11_drawn : GoodIn wsL_law wsX11_drawn := goodIn_r _ [1460, 56, 22, 1461, 1462, 1463, 1464, 1465, 1466, 1467, 2, 1468, 1469, 519, 520, 521, 21, 522, 205, 526, 527, 528, 1470, 1471, 1472, 55, 1473, 1474, 1475, 1476, 1477, 1478, 120, 1479, 1480, 1481, 1482, 1483, 1484, 1485, 119, 1486, 1487, 1488, 1489, 1490, 1491, 1492, 1493, 1494, 1495, 1496, 1497, 1498, 1499, 1500, 534, 535, 536, 77, 632, 633, 634, 635, 636, 637, 1501, 1502, 1503, 1504, 1505, 1506, 708, 709, 710, 711, 712, 713, 714, 80, 1685, 1686, 1687, 1688, 1689, 1690, 1691, 1692, 1693, 1694, 1695, 1696, 1697, 1698, 1699, 1700, 1792, 1793, 1794, 1795, 1796, 1797, 1798, 1750, 1751, 1752, 1753, 1754, 1755, 1756, 1757, 1758, 1759, 1760, 1761, 1762, 1763, 1764, 1765, 1766] (by decide +kernel) (by decide +kernel)
set_option maxRecDepth 20000 in
theorem gL_law_X11_drawn : GoodIn wsL_law (wsV RL 221 RX11 yX11_drawn wsX11_drawn) := goodIn_app (goodIn_of _ (by decide +kernel)) ggL_law_X11_drawn
set_option maxRecDepth 20000 in
theorem ggL_law_X12_drawn : GoodIn wsL_law wsX12_drawn := goodIn_r _ [1510, 169, 582, 1511, 1512, 1513, 1514, 1515, 1516, 1517, 5, 1518, 1519, 1440, 545, 546, 547, 548, 138, 183, 184, 185, 1520, 1521, 1522, 1523, 1524, 139, 151, 140, 1525, 1526, 1527, 1528, 1529, 1530, 1531, 1532, 549, 550, 551, 552, 1533, 1534, 1535, 1536, 719, 720, 721, 722, 683, 684, 685, 686, 723, 724, 725, 726, 141, 727, 728, 729, 1701, 1702, 1703, 1704, 1705, 1706, 1707, 1708, 1709, 1710, 1711, 1712, 1713, 1714, 1715, 1716, 1717, 1718, 1719, 1720, 1721, 1722, 1723, 1724, 1725, 1726, 1727, 1728, 1729, 1730, 1731, 1732, 1733, 1734, 1735, 1736, 1737, 1738, 1739, 1740, 1741, 1742, 1743, 1744, 1745] (by decide +kernel) (by decide +kernel)
set_option maxRecDepth 20000 in
theorem gL_law_X12_drawn : GoodIn wsL_law (wsV RL 224 RX12 yX12_drawn wsX12_drawn) := goodIn_app (goodIn_of _ (by decide +kernel)) ggL_law_X12_drawn
set_option maxRecDepth 20000 in
theorem ggL_law_X11_nights : GoodIn wsL_law wsX11_nights := goodIn_r _ [1540, 56, 22, 1461, 1465, 1466, 1467, 2, 1468, 1469, 519, 520, 521, 21, 522, 205, 1470, 1471, 1472, 55, 1473, 1474, 1475, 1476, 1477, 1478, 120, 1479, 1480, 1481, 1482, 1483, 1484, 1485, 119, 1486, 1487, 1488, 1489, 1490, 1491, 1492, 1493, 1494, 1495, 1496, 1497, 1498, 1499, 1500, 534, 535, 536, 77, 632, 633, 634, 635, 636, 637, 1501, 1502, 1503, 1504, 1505, 1506, 708, 709, 710, 711, 712, 713, 714, 80, 1685, 1686, 1687, 1688, 1689, 1690, 1691, 1692, 1693, 1694, 1695, 1696, 1697, 1698, 1699, 1700, 1792, 1793, 1794, 1795, 1796, 1797, 1798, 1750, 1751, 1752, 1753, 1754, 1755, 1756, 1757, 1758, 1759, 1760, 1761, 1762, 1763, 1764, 1765, 1766] (by decide +kernel) (by decide +kernel)
set_option maxRecDepth 20000 in
theorem gL_law_X11_nights : GoodIn wsL_law (wsV RL 225 RX11 yX11_nights wsX11_nights) := goodIn_app (goodIn_of _ (by decide +kernel)) ggL_law_X11_nights
set_option maxRecDepth 20000 in
theorem ggL_law_X12_nights : GoodIn wsL_law wsX12_nights := goodIn_r _ [1544, 169, 1545, 1511, 1515, 1516, 1517, 5, 1518, 1519, 1440, 545, 546, 547, 548, 138, 183, 184, 185, 1520, 1521, 1522, 1523, 1524, 1512, 1513, 1514, 139, 151, 140, 1525, 1526, 1527, 1528, 1529, 1530, 1531, 1532, 549, 550, 551, 552, 1533, 1534, 1535, 1536, 719, 720, 721, 722, 683, 684, 685, 686, 723, 724, 725, 726, 141, 727, 728, 729, 1701, 1702, 1703, 1704, 1705, 1706, 1707, 1708, 1709, 1710, 1711, 1712, 1713, 1714, 1715, 1716, 1717, 1718, 1719, 1720, 1721, 1722, 1723, 1724, 1725, 1726, 1727, 1728, 1729, 1730, 1731, 1732, 1733, 1734, 1735, 1736, 1737, 1738, 1739, 1740, 1741, 1742, 1743, 1744, 1745] (by decide +kernel) (by decide +kernel)
set_option maxRecDepth 20000 in
theorem gL_law_X12_nights : GoodIn wsL_law (wsV RL 228 RX12 yX12_nights wsX12_nights) := goodIn_app (goodIn_of _ (by decide +kernel)) ggL_law_X12_nights
set_option maxRecDepth 20000 in
theorem ggL_law_X11_stumble : GoodIn wsL_law wsX11_stumble := goodIn_r _ [1549, 22, 814, 1550, 32, 603, 604, 605, 2, 606, 519, 520, 521, 21, 522, 205, 523, 524, 525, 526, 527, 528, 588, 589, 590, 558, 559, 560, 1551, 339, 340, 341, 206, 81, 1552, 1553, 1554, 1555, 209, 85, 1556, 343, 344, 345, 1685, 1686, 1687, 1688, 1689, 1690, 1691, 1692, 1693, 1694, 1695, 1696, 1697, 1698, 1699, 1700, 1750, 1751, 1752, 1753, 1754, 1755, 1756, 1757, 1758, 1759, 1760, 1761, 1762, 1763, 1764, 1765, 1766] (by decide +kernel) (by decide +kernel)
set_option maxRecDepth 20000 in
theorem gL_law_X11_stumble : GoodIn wsL_law (wsV RL 229 RX11 yX11_stumble wsX11_stumble) := goodIn_app (goodIn_of _ (by decide +kernel)) ggL_law_X11_stumble
set_option maxRecDepth 20000 in
theorem ggL_law_X12_stumble : GoodIn wsL_law wsX12_stumble := goodIn_r _ [1560, 169, 1445, 139, 142, 541, 542, 543, 5, 544, 545, 546, 547, 548, 138, 183, 184, 185, 595, 596, 597, 598, 565, 566, 567, 568, 463, 464, 465, 466, 1561, 1562, 1563, 1564, 147, 1701, 1702, 1703, 1704, 1705, 1706, 1707, 1708, 1709, 1710, 1711, 1712, 1713, 1714, 1715, 1716, 1717, 1718, 1719, 1720, 1721, 1722, 1723, 1724, 1725, 1726, 1727, 1728, 1729, 1730, 1731, 1732, 1733, 1734, 1735, 1736, 1737, 1738, 1739, 1740, 1741, 1742, 1743, 1744, 1745] (by decide +kernel) (by decide +kernel)
set_option maxRecDepth 20000 in
theorem gL_law_X12_stumble : GoodIn wsL_law (wsV RL 233 RX12 yX12_stumble wsX12_stumble) := goodIn_app (goodIn_of _ (by decide +kernel)) ggL_law_X12_stumble
set_option maxRecDepth 20000 in
theorem ggL_law_X11_mud : GoodIn wsL_law wsX11_mud := goodIn_r _ [1568, 22, 1550, 587, 32, 519, 520, 521, 21, 522, 205, 588, 589, 2, 590, 526, 527, 528, 1552, 1553, 1554, 1555, 209, 85, 1685, 1686, 1687, 1688, 1689, 1690, 1691, 1692, 1693, 1694, 1695, 1696, 1697, 1698, 1699, 1700, 1750, 1751, 1752, 1753, 1754, 1755, 1756, 1757, 1758, 1759, 1760, 1761, 1762, 1763, 1764, 1765, 1766] (by decide +kernel) (by decide +kernel)
set_option maxRecDepth 20000 in
theorem gL_law_X11_mud : GoodIn wsL_law (wsV RL 234 RX11 yX11_mud wsX11_mud) := goodIn_app (goodIn_of _ (by decide +kernel)) ggL_law_X11_mud
set_option maxRecDepth 20000 in
theorem ggL_law_X12_mud : GoodIn wsL_law wsX12_mud := goodIn_r _ [1572, 169, 139, 144, 545, 546, 547, 5, 548, 138, 595, 596, 597, 598, 183, 184, 185, 1561, 1562, 1563, 1564, 147, 1701, 1702, 1703, 1704, 1705, 1706, 1707, 1708, 1709, 1710, 1711, 1712, 1713, 1714, 1715, 1716, 1717, 1718, 1719, 1720, 1721, 1722, 1723, 1724, 1725, 1726, 1727, 1728, 1729, 1730, 1731, 1732, 1733, 1734, 1735, 1736, 1737, 1738, 1739, 1740, 1741, 1742, 1743, 1744, 1745] (by decide +kernel) (by decide +kernel)
set_option maxRecDepth 20000 in
theorem gL_law_X12_mud : GoodIn wsL_law (wsV RL 237 RX12 yX12_mud wsX12_mud) := goodIn_app (goodIn_of _ (by decide +kernel)) ggL_law_X12_mud
set_option maxRecDepth 20000 in
theorem ggL_law_X11_teach : GoodIn wsL_law wsX11_teach := goodIn_r _ [1576, 22, 1550, 1577, 32, 519, 520, 521, 21, 522, 205, 523, 524, 2, 525, 526, 527, 528, 529, 530, 531, 532, 78, 558, 559, 560, 1552, 1553, 1554, 1555, 209, 85, 1685, 1686, 1687, 1688, 1689, 1690, 1691, 1692, 1693, 1694, 1695, 1696, 1697, 1698, 1699, 1700, 1750, 1751, 1752, 1753, 1754, 1755, 1756, 1757, 1758, 1759, 1760, 1761, 1762, 1763, 1764, 1765, 1766] (by decide +kernel) (by decide +kernel)
set_option maxRecDepth 20000 in
theorem gL_law_X11_teach : GoodIn wsL_law (wsV RL 238 RX11 yX11_teach wsX11_teach) := goodIn_app (goodIn_of _ (by decide +kernel)) ggL_law_X11_teach
set_option maxRecDepth 20000 in
theorem ggL_law_X12_teach : GoodIn wsL_law wsX12_teach := goodIn_r _ [1581, 169, 139, 140, 541, 542, 543, 5, 544, 545, 546, 547, 548, 138, 183, 184, 185, 549, 550, 551, 552, 565, 566, 567, 568, 1561, 1562, 1563, 1564, 147, 1701, 1702, 1703, 1704, 1705, 1706, 1707, 1708, 1709, 1710, 1711, 1712, 1713, 1714, 1715, 1716, 1717, 1718, 1719, 1720, 1721, 1722, 1723, 1724, 1725, 1726, 1727, 1728, 1729, 1730, 1731, 1732, 1733, 1734, 1735, 1736, 1737, 1738, 1739, 1740, 1741, 1742, 1743, 1744, 1745] (by decide +kernel) (by decide +kernel)
set_option maxRecDepth 20000 in
theorem gL_law_X12_teach : GoodIn wsL_law (wsV RL 241 RX12 yX12_teach wsX12_teach) := goodIn_app (goodIn_of _ (by decide +kernel)) ggL_law_X12_teach
set_option maxRecDepth 20000 in
theorem ggL_law_X11_undo : GoodIn wsL_law wsX11_undo := goodIn_r _ [1585, 22, 1550, 32, 519, 520, 521, 21, 522, 205, 1586, 1587, 1588, 1589, 209, 85, 206, 82, 77, 1685, 1686, 1687, 1688, 1689, 1690, 1691, 1692, 1693, 1694, 1695, 1696, 1697, 1698, 1699, 1700, 1750, 1751, 1752, 1753, 1754, 1755, 1756, 1757, 1758, 1759, 1760, 1761, 1762, 1763, 1764, 1765, 1766] (by decide +kernel) (by decide +kernel)
set_option maxRecDepth 20000 in
theorem gL_law_X11_undo : GoodIn wsL_law (wsV RL 242 RX11 yX11_undo wsX11_undo) := goodIn_app (goodIn_of _ (by decide +kernel)) ggL_law_X11_undo
set_option maxRecDepth 20000 in
theorem ggL_law_X12_undo : GoodIn wsL_law wsX12_undo := goodIn_r _ [1593, 169, 139, 147, 144, 140, 545, 546, 547, 5, 548, 138, 1701, 1702, 1703, 1704, 1705, 1706, 1707, 1708, 1709, 1710, 1711, 1712, 1713, 1714, 1715, 1716, 1717, 1718, 1719, 1720, 1721, 1722, 1723, 1724, 1725, 1726, 1727, 1728, 1729, 1730, 1731, 1732, 1733, 1734, 1735, 1736, 1737, 1738, 1739, 1740, 1741, 1742, 1743, 1744, 1745] (by decide +kernel) (by decide +kernel)
set_option maxRecDepth 20000 in
theorem gL_law_X12_undo : GoodIn wsL_law (wsV RL 245 RX12 yX12_undo wsX12_undo) := goodIn_app (goodIn_of _ (by decide +kernel)) ggL_law_X12_undo
set_option maxRecDepth 20000 in
theorem ggL_law_X11_count : GoodIn wsL_law wsX11_count := goodIn_r _ [1597, 22, 1598, 1599, 1429, 691, 814, 1600, 1285, 1550, 190, 18, 159, 60, 1601, 1602, 1603, 21, 1604, 82, 1605, 1606, 1607, 59, 1608, 997, 998, 999, 1000, 125, 1685, 1686, 1687, 1688, 1689, 1690, 1691, 1692, 1693, 1694, 1695, 1696, 1697, 1698, 1699, 1700, 1750, 1751, 1752, 1753, 1754, 1755, 1756, 1757, 1758, 1759, 1760, 1761, 1762, 1763, 1764, 1765, 1766, 1802, 1803, 1804, 1805, 1806, 1807, 1799, 1800, 1801] (by decide +kernel) (by decide +kernel)
set_option maxRecDepth 20000 in
theorem gL_law_X11_count : GoodIn wsL_law (wsV RL 246 RX11 yX11_count wsX11_count) := goodIn_app (goodIn_of _ (by decide +kernel)) ggL_law_X11_count
set_option maxRecDepth 20000 in
theorem ggL_law_X12_count : GoodIn wsL_law wsX12_count := goodIn_r _ [1612, 169, 139, 144, 138, 170, 132, 549, 550, 551, 5, 552, 1701, 1702, 1703, 1704, 1705, 1706, 1707, 1708, 1709, 1710, 1711, 1712, 1713, 1714, 1715, 1716, 1717, 1718, 1719, 1720, 1721, 1722, 1723, 1724, 1725, 1726, 1727, 1728, 1729, 1730, 1731, 1732, 1733, 1734, 1735, 1736, 1737, 1738, 1739, 1740, 1741, 1742, 1743, 1744, 1745] (by decide +kernel) (by decide +kernel)
set_option maxRecDepth 20000 in
theorem gL_law_X12_count : GoodIn wsL_law (wsV RL 249 RX12 yX12_count wsX12_count) := goodIn_app (goodIn_of _ (by decide +kernel)) ggL_law_X12_count
set_option maxRecDepth 20000 in
theorem ggL_law_X11_image : GoodIn wsL_law wsX11_image := goodIn_r _ [1616, 24, 22, 26, 526, 527, 2, 528, 1617, 1618, 1619, 21, 1620, 202, 203, 204, 205, 206, 207, 208, 209, 77, 1621, 1023, 1024, 1025, 78, 79, 80, 81, 82, 83, 84, 85, 1685, 1686, 1687, 1688, 1689, 1690, 1691, 1692, 1693, 1694, 1695, 1696, 1697, 1698, 1699, 1700, 1750, 1751, 1752, 1753, 1754, 1755, 1756, 1757, 1758, 1759, 1760, 1761, 1762, 1763, 1764, 1765, 1766] (by decide +kernel) (by decide +kernel)
set_option maxRecDepth 20000 in
theorem gL_law_X11_image : GoodIn wsL_law (wsV RL 250 RX11 yX11_image wsX11_image) := goodIn_app (goodIn_of _ (by decide +kernel)) ggL_law_X11_image
set_option maxRecDepth 20000 in
theorem ggL_law_X12_image : GoodIn wsL_law wsX12_image := goodIn_r _ [1625, 169, 1626, 148, 183, 184, 5, 185, 498, 499, 500, 501, 138, 139, 140, 141, 142, 145, 146, 147, 144, 502, 503, 504, 1701, 1702, 1703, 1704, 1705, 1706, 1707, 1708, 1709, 1710, 1711, 1712, 1713, 1714, 1715, 1716, 1717, 1718, 1719, 1720, 1721, 1722, 1723, 1724, 1725, 1726, 1727, 1728, 1729, 1730, 1731, 1732, 1733, 1734, 1735, 1736, 1737, 1738, 1739, 1740, 1741, 1742, 1743, 1744, 1745] (by decide +kernel) (by decide +kernel)
set_option maxRecDepth 20000 in
theorem gL_law_X12_image : GoodIn wsL_law (wsV RL 253 RX12 yX12_image wsX12_image) := goodIn_app (goodIn_of _ (by decide +kernel)) ggL_law_X12_image
set_option maxRecDepth 20000 in
theorem ggL_law_X11_back : GoodIn wsL_law wsX11_back := goodIn_r _ [1630, 26, 22, 24, 32, 526, 527, 2, 528, 1617, 1618, 1619, 21, 1620, 202, 203, 204, 205, 206, 207, 208, 209, 77, 1621, 1023, 1024, 1025, 78, 79, 80, 81, 82, 83, 84, 85, 1685, 1686, 1687, 1688, 1689, 1690, 1691, 1692, 1693, 1694, 1695, 1696, 1697, 1698, 1699, 1700, 1750, 1751, 1752, 1753, 1754, 1755, 1756, 1757, 1758, 1759, 1760, 1761, 1762, 1763, 1764, 1765, 1766] (by decide +kernel) (by decide +kernel)
set_option maxRecDepth 20000 in
theorem gL_law_X11_back : GoodIn wsL_law (wsV RL 254 RX11 yX11_back wsX11_back) := goodIn_app (goodIn_of _ (by decide +kernel)) ggL_law_X11_back
set_option maxRecDepth 20000 in
theorem ggL_law_X12_back : GoodIn wsL_law wsX12_back := goodIn_r _ [1634, 169, 1626, 148, 183, 184, 5, 185, 498, 499, 500, 501, 138, 139, 140, 141, 142, 145, 146, 147, 144, 502, 503, 504, 1701, 1702, 1703, 1704, 1705, 1706, 1707, 1708, 1709, 1710, 1711, 1712, 1713, 1714, 1715, 1716, 1717, 1718, 1719, 1720, 1721, 1722, 1723, 1724, 1725, 1726, 1727, 1728, 1729, 1730, 1731, 1732, 1733, 1734, 1735, 1736, 1737, 1738, 1739, 1740, 1741, 1742, 1743, 1744, 1745] (by decide +kernel) (by decide +kernel)
set_option maxRecDepth 20000 in
theorem gL_law_X12_back : GoodIn wsL_law (wsV RL 257 RX12 yX12_back wsX12_back) := goodIn_app (goodIn_of _ (by decide +kernel)) ggL_law_X12_back
set_option maxRecDepth 20000 in
theorem ggL_law_X11_row : GoodIn wsL_law wsX11_row := goodIn_r _ [1638, 60, 1639, 995, 59, 996, 527, 2, 528, 526, 1640, 1641, 1642, 1643, 124, 125, 127, 1685, 1686, 1687, 1688, 1689, 1690, 1691, 1692, 1693, 1694, 1695, 1696, 1697, 1698, 1699, 1700, 1799, 1800, 1801] (by decide +kernel) (by decide +kernel)
set_option maxRecDepth 20000 in
theorem gL_law_X11_row : GoodIn wsL_law (wsV RL 258 RX11 yX11_row wsX11_row) := goodIn_app (goodIn_of _ (by decide +kernel)) ggL_law_X11_row
set_option maxRecDepth 20000 in
theorem ggL_law_X12_row : GoodIn wsL_law wsX12_row := goodIn_r _ [1647, 169, 582, 132, 133, 134, 1071, 1072, 5, 1073, 183, 184, 185, 1701, 1702, 1703, 1704, 1705, 1706, 1707, 1708, 1709, 1710, 1711, 1712, 1713, 1714, 1715, 1716, 1717, 1718, 1719, 1720, 1721, 1722, 1723, 1724, 1725, 1726, 1727, 1728, 1729, 1730, 1731, 1732, 1733, 1734, 1735, 1736, 1737, 1738, 1739, 1740, 1741, 1742, 1743, 1744, 1745] (by decide +kernel) (by decide +kernel)
set_option maxRecDepth 20000 in
theorem gL_law_X12_row : GoodIn wsL_law (wsV RL 261 RX12 yX12_row wsX12_row) := goodIn_app (goodIn_of _ (by decide +kernel)) ggL_law_X12_row
set_option maxRecDepth 20000 in
theorem ggL_law_X11_write : GoodIn wsL_law wsX11_write := goodIn_r _ [1651, 60, 988, 1639, 995, 59, 996, 527, 2, 528, 1652, 998, 999, 1000, 125, 526, 1653, 1654, 1655, 1656, 127, 124, 1657, 1658, 1659, 1685, 1686, 1687, 1688, 1689, 1690, 1691, 1692, 1693, 1694, 1695, 1696, 1697, 1698, 1699, 1700, 1799, 1800, 1801] (by decide +kernel) (by decide +kernel)
set_option maxRecDepth 20000 in
theorem gL_law_X11_write : GoodIn wsL_law (wsV RL 264 RX11 yX11_write wsX11_write) := goodIn_app (goodIn_of _ (by decide +kernel)) ggL_law_X11_write
set_option maxRecDepth 20000 in
theorem ggL_law_X12_write : GoodIn wsL_law wsX12_write := goodIn_r _ [1663, 169, 132, 133, 134, 1071, 1072, 5, 1073, 582, 183, 184, 185, 1664, 1665, 1666, 1701, 1702, 1703, 1704, 1705, 1706, 1707, 1708, 1709, 1710, 1711, 1712, 1713, 1714, 1715, 1716, 1717, 1718, 1719, 1720, 1721, 1722, 1723, 1724, 1725, 1726, 1727, 1728, 1729, 1730, 1731, 1732, 1733, 1734, 1735, 1736, 1737, 1738, 1739, 1740, 1741, 1742, 1743, 1744, 1745] (by decide +kernel) (by decide +kernel)
set_option maxRecDepth 20000 in
theorem gL_law_X12_write : GoodIn wsL_law (wsV RL 268 RX12 yX12_write wsX12_write) := goodIn_app (goodIn_of _ (by decide +kernel)) ggL_law_X12_write
set_option maxRecDepth 20000 in
theorem ggL_law_X11_paste : GoodIn wsL_law wsX11_paste := goodIn_r _ [1670, 60, 1671, 1639, 995, 59, 996, 527, 2, 528, 1652, 998, 999, 1000, 125, 1672, 1673, 1674, 1675, 1676, 1677, 1678, 1679, 127, 1680, 1023, 1024, 1025, 1685, 1686, 1687, 1688, 1689, 1690, 1691, 1692, 1693, 1694, 1695, 1696, 1697, 1698, 1699, 1700, 1799, 1800, 1801] (by decide +kernel) (by decide +kernel)
set_option maxRecDepth 20000 in
theorem gL_law_X11_paste : GoodIn wsL_law (wsV RL 269 RX11 yX11_paste wsX11_paste) := goodIn_app (goodIn_of _ (by decide +kernel)) ggL_law_X11_paste
set_option maxRecDepth 20000 in
theorem ggL_law_X12_paste : GoodIn wsL_law wsX12_paste := goodIn_r _ [1684, 169, 132, 133, 135, 134, 1071, 1072, 5, 1073, 582, 183, 184, 185, 1701, 1702, 1703, 1704, 1705, 1706, 1707, 1708, 1709, 1710, 1711, 1712, 1713, 1714, 1715, 1716, 1717, 1718, 1719, 1720, 1721, 1722, 1723, 1724, 1725, 1726, 1727, 1728, 1729, 1730, 1731, 1732, 1733, 1734, 1735, 1736, 1737, 1738, 1739, 1740, 1741, 1742, 1743, 1744, 1745] (by decide +kernel) (by decide +kernel)
set_option maxRecDepth 20000 in
theorem gL_law_X12_paste : GoodIn wsL_law (wsV RL 272 RX12 yX12_paste wsX12_paste) := goodIn_app (goodIn_of _ (by decide +kernel)) ggL_law_X12_paste
theorem dL_law_0 : decode cL_law 0 = .ok (.new 7, 3) := by decide +kernel
theorem dL_law_3 : decode cL_law 3 = .ok (.dup, 1) := by decide +kernel
theorem dL_law_4 : decode cL_law 4 = .ok (.invokespecial 9, 3) := by decide +kernel
theorem dL_law_7 : decode cL_law 7 = .ok (.astore_n 1, 1) := by decide +kernel
theorem dL_law_8 : decode cL_law 8 = .ok (.new 10, 3) := by decide +kernel
theorem dL_law_11 : decode cL_law 11 = .ok (.dup, 1) := by decide +kernel
theorem dL_law_12 : decode cL_law 12 = .ok (.invokespecial 12, 3) := by decide +kernel
theorem dL_law_15 : decode cL_law 15 = .ok (.astore_n 2, 1) := by decide +kernel
theorem dL_law_16 : decode cL_law 16 = .ok (.iconst 0, 1) := by decide +kernel
theorem dL_law_17 : decode cL_law 17 = .ok (.istore_n 3, 1) := by decide +kernel
theorem dL_law_18 : decode cL_law 18 = .ok (.iload_n 3, 1) := by decide +kernel
theorem dL_law_19 : decode cL_law 19 = .ok (.aload_n 0, 1) := by decide +kernel
theorem dL_law_20 : decode cL_law 20 = .ok (.arraylength, 1) := by decide +kernel
theorem dL_law_21 : decode cL_law 21 = .ok (.bipush 6, 2) := by decide +kernel
theorem dL_law_23 : decode cL_law 23 = .ok (.isub, 1) := by decide +kernel
theorem dL_law_24 : decode cL_law 24 = .ok (.if_icmp .gt 2149, 3) := by decide +kernel
theorem dL_law_27 : decode cL_law 27 = .ok (.aload_n 0, 1) := by decide +kernel
theorem dL_law_28 : decode cL_law 28 = .ok (.iload_n 3, 1) := by decide +kernel
theorem dL_law_29 : decode cL_law 29 = .ok (.iaload, 1) := by decide +kernel
theorem dL_law_30 : decode cL_law 30 = .ok (.bipush 63, 2) := by decide +kernel
theorem dL_law_32 : decode cL_law 32 = .ok (.iand, 1) := by decide +kernel
theorem dL_law_33 : decode cL_law 33 = .ok (.tableswitch 2134 0 61 #[263, 326, 349, 362, 385, 418, 441, 474, 497, 530, 563, 596, 629, 662, 695, 738, 771, 804, 827, 860, 873, 916, 939, 952, 965, 988, 1021, 1044, 1077, 1110, 1144, 1177, 1210, 1233, 1256, 1289, 1322, 1335, 1358, 1391, 1414, 1448, 1472, 1485, 1498, 1511, 1534, 1557, 1580, 1614, 1658, 1701, 1744, 1797, 1830, 1873, 1886, 1909, 1932, 1955, 1998, 2071], 263) := by decide +kernel
theorem dL_law_296 : decode cL_law 296 = .ok (.aload_n 1, 1) := by decide +kernel
theorem dL_law_297 : decode cL_law 297 = .ok (.aload_n 0, 1) := by decide +kernel
theorem dL_law_298 : decode cL_law 298 = .ok (.iload_n 3, 1) := by decide +kernel
theorem dL_law_299 : decode cL_law 299 = .ok (.iconst 1, 1) := by decide +kernel
theorem dL_law_300 : decode cL_law 300 = .ok (.iadd, 1) := by decide +kernel
theorem dL_law_301 : decode cL_law 301 = .ok (.iaload, 1) := by decide +kernel
theorem dL_law_302 : decode cL_law 302 = .ok (.aload_n 0, 1) := by decide +kernel
theorem dL_law_303 : decode cL_law 303 = .ok (.iload_n 3, 1) := by decide +kernel
theorem dL_law_304 : decode cL_law 304 = .ok (.iconst 2, 1) := by decide +kernel
theorem dL_law_305 : decode cL_law 305 = .ok (.iadd, 1) := by decide +kernel
theorem dL_law_306 : decode cL_law 306 = .ok (.iaload, 1) := by decide +kernel
theorem dL_law_307 : decode cL_law 307 = .ok (.aload_n 0, 1) := by decide +kernel
theorem dL_law_308 : decode cL_law 308 = .ok (.iload_n 3, 1) := by decide +kernel
theorem dL_law_309 : decode cL_law 309 = .ok (.iconst 3, 1) := by decide +kernel
theorem dL_law_310 : decode cL_law 310 = .ok (.iadd, 1) := by decide +kernel
theorem dL_law_311 : decode cL_law 311 = .ok (.iaload, 1) := by decide +kernel
theorem dL_law_312 : decode cL_law 312 = .ok (.aload_n 0, 1) := by decide +kernel
theorem dL_law_313 : decode cL_law 313 = .ok (.iload_n 3, 1) := by decide +kernel
theorem dL_law_314 : decode cL_law 314 = .ok (.iconst 4, 1) := by decide +kernel
theorem dL_law_315 : decode cL_law 315 = .ok (.iadd, 1) := by decide +kernel
theorem dL_law_316 : decode cL_law 316 = .ok (.iaload, 1) := by decide +kernel
theorem dL_law_317 : decode cL_law 317 = .ok (.aload_n 0, 1) := by decide +kernel
theorem dL_law_318 : decode cL_law 318 = .ok (.iload_n 3, 1) := by decide +kernel
theorem dL_law_319 : decode cL_law 319 = .ok (.iconst 5, 1) := by decide +kernel
theorem dL_law_320 : decode cL_law 320 = .ok (.iadd, 1) := by decide +kernel
theorem dL_law_321 : decode cL_law 321 = .ok (.iaload, 1) := by decide +kernel
theorem dL_law_322 : decode cL_law 322 = .ok (.invokevirtual 13, 3) := by decide +kernel
theorem dL_law_325 : decode cL_law 325 = .ok (.aload_n 2, 1) := by decide +kernel
theorem dL_law_326 : decode cL_law 326 = .ok (.aload_n 0, 1) := by decide +kernel
theorem dL_law_327 : decode cL_law 327 = .ok (.iload_n 3, 1) := by decide +kernel
theorem dL_law_328 : decode cL_law 328 = .ok (.iconst 1, 1) := by decide +kernel
theorem dL_law_329 : decode cL_law 329 = .ok (.iadd, 1) := by decide +kernel
theorem dL_law_330 : decode cL_law 330 = .ok (.iaload, 1) := by decide +kernel
theorem dL_law_331 : decode cL_law 331 = .ok (.aload_n 0, 1) := by decide +kernel
theorem dL_law_332 : decode cL_law 332 = .ok (.iload_n 3, 1) := by decide +kernel
theorem dL_law_333 : decode cL_law 333 = .ok (.iconst 2, 1) := by decide +kernel
theorem dL_law_334 : decode cL_law 334 = .ok (.iadd, 1) := by decide +kernel
theorem dL_law_335 : decode cL_law 335 = .ok (.iaload, 1) := by decide +kernel
theorem dL_law_336 : decode cL_law 336 = .ok (.aload_n 0, 1) := by decide +kernel
theorem dL_law_337 : decode cL_law 337 = .ok (.iload_n 3, 1) := by decide +kernel
theorem dL_law_338 : decode cL_law 338 = .ok (.iconst 3, 1) := by decide +kernel
theorem dL_law_339 : decode cL_law 339 = .ok (.iadd, 1) := by decide +kernel
theorem dL_law_340 : decode cL_law 340 = .ok (.iaload, 1) := by decide +kernel
theorem dL_law_341 : decode cL_law 341 = .ok (.aload_n 0, 1) := by decide +kernel
theorem dL_law_342 : decode cL_law 342 = .ok (.iload_n 3, 1) := by decide +kernel
theorem dL_law_343 : decode cL_law 343 = .ok (.iconst 4, 1) := by decide +kernel
theorem dL_law_344 : decode cL_law 344 = .ok (.iadd, 1) := by decide +kernel
theorem dL_law_345 : decode cL_law 345 = .ok (.iaload, 1) := by decide +kernel
theorem dL_law_346 : decode cL_law 346 = .ok (.aload_n 0, 1) := by decide +kernel
theorem dL_law_347 : decode cL_law 347 = .ok (.iload_n 3, 1) := by decide +kernel
theorem dL_law_348 : decode cL_law 348 = .ok (.iconst 5, 1) := by decide +kernel
theorem dL_law_349 : decode cL_law 349 = .ok (.iadd, 1) := by decide +kernel
theorem dL_law_350 : decode cL_law 350 = .ok (.iaload, 1) := by decide +kernel
theorem dL_law_351 : decode cL_law 351 = .ok (.invokevirtual 17, 3) := by decide +kernel
theorem dL_law_354 : decode cL_law 354 = .ok (.if_icmp .eq 1813, 3) := by decide +kernel
theorem dL_law_359 : decode cL_law 359 = .ok (.aload_n 1, 1) := by decide +kernel
theorem dL_law_360 : decode cL_law 360 = .ok (.aload_n 0, 1) := by decide +kernel
theorem dL_law_361 : decode cL_law 361 = .ok (.iload_n 3, 1) := by decide +kernel
theorem dL_law_362 : decode cL_law 362 = .ok (.iconst 1, 1) := by decide +kernel
theorem dL_law_363 : decode cL_law 363 = .ok (.iadd, 1) := by decide +kernel
theorem dL_law_364 : decode cL_law 364 = .ok (.iaload, 1) := by decide +kernel
theorem dL_law_365 : decode cL_law 365 = .ok (.invokevirtual 18, 3) := by decide +kernel
theorem dL_law_368 : decode cL_law 368 = .ok (.aload_n 2, 1) := by decide +kernel
theorem dL_law_369 : decode cL_law 369 = .ok (.aload_n 0, 1) := by decide +kernel
theorem dL_law_370 : decode cL_law 370 = .ok (.iload_n 3, 1) := by decide +kernel
theorem dL_law_371 : decode cL_law 371 = .ok (.iconst 1, 1) := by decide +kernel
theorem dL_law_372 : decode cL_law 372 = .ok (.iadd, 1) := by decide +kernel
theorem dL_law_373 : decode cL_law 373 = .ok (.iaload, 1) := by decide +kernel
theorem dL_law_374 : decode cL_law 374 = .ok (.invokevirtual 22, 3) := by decide +kernel
theorem dL_law_377 : decode cL_law 377 = .ok (.if_icmp .eq 1790, 3) := by decide +kernel
theorem dL_law_382 : decode cL_law 382 = .ok (.aload_n 1, 1) := by decide +kernel
theorem dL_law_383 : decode cL_law 383 = .ok (.invokevirtual 23, 3) := by decide +kernel
theorem dL_law_386 : decode cL_law 386 = .ok (.aload_n 2, 1) := by decide +kernel
theorem dL_law_387 : decode cL_law 387 = .ok (.invokevirtual 27, 3) := by decide +kernel
theorem dL_law_390 : decode cL_law 390 = .ok (.if_icmp .eq 1777, 3) := by decide +kernel
theorem dL_law_395 : decode cL_law 395 = .ok (.aload_n 1, 1) := by decide +kernel
theorem dL_law_396 : decode cL_law 396 = .ok (.aload_n 0, 1) := by decide +kernel
theorem dL_law_397 : decode cL_law 397 = .ok (.iload_n 3, 1) := by decide +kernel
theorem dL_law_398 : decode cL_law 398 = .ok (.iconst 1, 1) := by decide +kernel
theorem dL_law_399 : decode cL_law 399 = .ok (.iadd, 1) := by decide +kernel
theorem dL_law_400 : decode cL_law 400 = .ok (.iaload, 1) := by decide +kernel
theorem dL_law_401 : decode cL_law 401 = .ok (.invokevirtual 28, 3) := by decide +kernel
theorem dL_law_404 : decode cL_law 404 = .ok (.aload_n 2, 1) := by decide +kernel
theorem dL_law_405 : decode cL_law 405 = .ok (.aload_n 0, 1) := by decide +kernel
theorem dL_law_406 : decode cL_law 406 = .ok (.iload_n 3, 1) := by decide +kernel
theorem dL_law_407 : decode cL_law 407 = .ok (.iconst 1, 1) := by decide +kernel
theorem dL_law_408 : decode cL_law 408 = .ok (.iadd, 1) := by decide +kernel
theorem dL_law_409 : decode cL_law 409 = .ok (.iaload, 1) := by decide +kernel
theorem dL_law_410 : decode cL_law 410 = .ok (.invokevirtual 31, 3) := by decide +kernel
theorem dL_law_413 : decode cL_law 413 = .ok (.if_icmp .eq 1754, 3) := by decide +kernel
theorem dL_law_418 : decode cL_law 418 = .ok (.aload_n 1, 1) := by decide +kernel
theorem dL_law_419 : decode cL_law 419 = .ok (.aload_n 0, 1) := by decide +kernel
theorem dL_law_420 : decode cL_law 420 = .ok (.iload_n 3, 1) := by decide +kernel
theorem dL_law_421 : decode cL_law 421 = .ok (.iconst 1, 1) := by decide +kernel
theorem dL_law_422 : decode cL_law 422 = .ok (.iadd, 1) := by decide +kernel
theorem dL_law_423 : decode cL_law 423 = .ok (.iaload, 1) := by decide +kernel
theorem dL_law_424 : decode cL_law 424 = .ok (.aload_n 0, 1) := by decide +kernel
theorem dL_law_425 : decode cL_law 425 = .ok (.iload_n 3, 1) := by decide +kernel
theorem dL_law_426 : decode cL_law 426 = .ok (.iconst 2, 1) := by decide +kernel
theorem dL_law_427 : decode cL_law 427 = .ok (.iadd, 1) := by decide +kernel
theorem dL_law_428 : decode cL_law 428 = .ok (.iaload, 1) := by decide +kernel
theorem dL_law_429 : decode cL_law 429 = .ok (.invokevirtual 32, 3) := by decide +kernel
theorem dL_law_432 : decode cL_law 432 = .ok (.aload_n 2, 1) := by decide +kernel
theorem dL_law_433 : decode cL_law 433 = .ok (.aload_n 0, 1) := by decide +kernel
theorem dL_law_434 : decode cL_law 434 = .ok (.iload_n 3, 1) := by decide +kernel
theorem dL_law_435 : decode cL_law 435 = .ok (.iconst 1, 1) := by decide +kernel
theorem dL_law_436 : decode cL_law 436 = .ok (.iadd, 1) := by decide +kernel
theorem dL_law_437 : decode cL_law 437 = .ok (.iaload, 1) := by decide +kernel
theorem dL_law_438 : decode cL_law 438 = .ok (.aload_n 0, 1) := by decide +kernel
theorem dL_law_439 : decode cL_law 439 = .ok (.iload_n 3, 1) := by decide +kernel
theorem dL_law_440 : decode cL_law 440 = .ok (.iconst 2, 1) := by decide +kernel
theorem dL_law_441 : decode cL_law 441 = .ok (.iadd, 1) := by decide +kernel
theorem dL_law_442 : decode cL_law 442 = .ok (.iaload, 1) := by decide +kernel
theorem dL_law_443 : decode cL_law 443 = .ok (.invokevirtual 36, 3) := by decide +kernel
theorem dL_law_446 : decode cL_law 446 = .ok (.if_icmp .eq 1721, 3) := by decide +kernel
theorem dL_law_451 : decode cL_law 451 = .ok (.aload_n 1, 1) := by decide +kernel
theorem dL_law_452 : decode cL_law 452 = .ok (.aload_n 0, 1) := by decide +kernel
theorem dL_law_453 : decode cL_law 453 = .ok (.iload_n 3, 1) := by decide +kernel
theorem dL_law_454 : decode cL_law 454 = .ok (.iconst 1, 1) := by decide +kernel
theorem dL_law_455 : decode cL_law 455 = .ok (.iadd, 1) := by decide +kernel
theorem dL_law_456 : decode cL_law 456 = .ok (.iaload, 1) := by decide +kernel
theorem dL_law_457 : decode cL_law 457 = .ok (.invokevirtual 37, 3) := by decide +kernel
theorem dL_law_460 : decode cL_law 460 = .ok (.aload_n 2, 1) := by decide +kernel
theorem dL_law_461 : decode cL_law 461 = .ok (.aload_n 0, 1) := by decide +kernel
theorem dL_law_462 : decode cL_law 462 = .ok (.iload_n 3, 1) := by decide +kernel
theorem dL_law_463 : decode cL_law 463 = .ok (.iconst 1, 1) := by decide +kernel
theorem dL_law_464 : decode cL_law 464 = .ok (.iadd, 1) := by decide +kernel
theorem dL_law_465 : decode cL_law 465 = .ok (.iaload, 1) := by decide +kernel
theorem dL_law_466 : decode cL_law 466 = .ok (.invokevirtual 40, 3) := by decide +kernel
theorem dL_law_469 : decode cL_law 469 = .ok (.if_icmp .eq 1698, 3) := by decide +kernel
theorem dL_law_474 : decode cL_law 474 = .ok (.aload_n 1, 1) := by decide +kernel
theorem dL_law_475 : decode cL_law 475 = .ok (.aload_n 0, 1) := by decide +kernel
theorem dL_law_476 : decode cL_law 476 = .ok (.iload_n 3, 1) := by decide +kernel
theorem dL_law_477 : decode cL_law 477 = .ok (.iconst 1, 1) := by decide +kernel
theorem dL_law_478 : decode cL_law 478 = .ok (.iadd, 1) := by decide +kernel
theorem dL_law_479 : decode cL_law 479 = .ok (.iaload, 1) := by decide +kernel
theorem dL_law_480 : decode cL_law 480 = .ok (.aload_n 0, 1) := by decide +kernel
theorem dL_law_481 : decode cL_law 481 = .ok (.iload_n 3, 1) := by decide +kernel
theorem dL_law_482 : decode cL_law 482 = .ok (.iconst 2, 1) := by decide +kernel
theorem dL_law_483 : decode cL_law 483 = .ok (.iadd, 1) := by decide +kernel
theorem dL_law_484 : decode cL_law 484 = .ok (.iaload, 1) := by decide +kernel
theorem dL_law_485 : decode cL_law 485 = .ok (.invokevirtual 41, 3) := by decide +kernel
theorem dL_law_488 : decode cL_law 488 = .ok (.aload_n 2, 1) := by decide +kernel
theorem dL_law_489 : decode cL_law 489 = .ok (.aload_n 0, 1) := by decide +kernel
theorem dL_law_490 : decode cL_law 490 = .ok (.iload_n 3, 1) := by decide +kernel
theorem dL_law_491 : decode cL_law 491 = .ok (.iconst 1, 1) := by decide +kernel
theorem dL_law_492 : decode cL_law 492 = .ok (.iadd, 1) := by decide +kernel
theorem dL_law_493 : decode cL_law 493 = .ok (.iaload, 1) := by decide +kernel
theorem dL_law_494 : decode cL_law 494 = .ok (.aload_n 0, 1) := by decide +kernel
theorem dL_law_495 : decode cL_law 495 = .ok (.iload_n 3, 1) := by decide +kernel
theorem dL_law_496 : decode cL_law 496 = .ok (.iconst 2, 1) := by decide +kernel
theorem dL_law_497 : decode cL_law 497 = .ok (.iadd, 1) := by decide +kernel
theorem dL_law_498 : decode cL_law 498 = .ok (.iaload, 1) := by decide +kernel
theorem dL_law_499 : decode cL_law 499 = .ok (.invokevirtual 44, 3) := by decide +kernel
theorem dL_law_502 : decode cL_law 502 = .ok (.if_icmp .eq 1665, 3) := by decide +kernel
theorem dL_law_507 : decode cL_law 507 = .ok (.aload_n 1, 1) := by decide +kernel
theorem dL_law_508 : decode cL_law 508 = .ok (.aload_n 0, 1) := by decide +kernel
theorem dL_law_509 : decode cL_law 509 = .ok (.iload_n 3, 1) := by decide +kernel
theorem dL_law_510 : decode cL_law 510 = .ok (.iconst 1, 1) := by decide +kernel
theorem dL_law_511 : decode cL_law 511 = .ok (.iadd, 1) := by decide +kernel
theorem dL_law_512 : decode cL_law 512 = .ok (.iaload, 1) := by decide +kernel
theorem dL_law_513 : decode cL_law 513 = .ok (.invokevirtual 45, 3) := by decide +kernel
theorem dL_law_516 : decode cL_law 516 = .ok (.aload_n 2, 1) := by decide +kernel
theorem dL_law_517 : decode cL_law 517 = .ok (.aload_n 0, 1) := by decide +kernel
theorem dL_law_518 : decode cL_law 518 = .ok (.iload_n 3, 1) := by decide +kernel
theorem dL_law_519 : decode cL_law 519 = .ok (.iconst 1, 1) := by decide +kernel
theorem dL_law_520 : decode cL_law 520 = .ok (.iadd, 1) := by decide +kernel
theorem dL_law_521 : decode cL_law 521 = .ok (.iaload, 1) := by decide +kernel
theorem dL_law_522 : decode cL_law 522 = .ok (.invokevirtual 48, 3) := by decide +kernel
theorem dL_law_525 : decode cL_law 525 = .ok (.if_icmp .eq 1642, 3) := by decide +kernel
theorem dL_law_530 : decode cL_law 530 = .ok (.aload_n 1, 1) := by decide +kernel
theorem dL_law_531 : decode cL_law 531 = .ok (.aload_n 0, 1) := by decide +kernel
theorem dL_law_532 : decode cL_law 532 = .ok (.iload_n 3, 1) := by decide +kernel
theorem dL_law_533 : decode cL_law 533 = .ok (.iconst 1, 1) := by decide +kernel
theorem dL_law_534 : decode cL_law 534 = .ok (.iadd, 1) := by decide +kernel
theorem dL_law_535 : decode cL_law 535 = .ok (.iaload, 1) := by decide +kernel
theorem dL_law_536 : decode cL_law 536 = .ok (.aload_n 0, 1) := by decide +kernel
theorem dL_law_537 : decode cL_law 537 = .ok (.iload_n 3, 1) := by decide +kernel
theorem dL_law_538 : decode cL_law 538 = .ok (.iconst 2, 1) := by decide +kernel
theorem dL_law_539 : decode cL_law 539 = .ok (.iadd, 1) := by decide +kernel
theorem dL_law_540 : decode cL_law 540 = .ok (.iaload, 1) := by decide +kernel
theorem dL_law_541 : decode cL_law 541 = .ok (.invokevirtual 49, 3) := by decide +kernel
theorem dL_law_544 : decode cL_law 544 = .ok (.aload_n 2, 1) := by decide +kernel
theorem dL_law_545 : decode cL_law 545 = .ok (.aload_n 0, 1) := by decide +kernel
theorem dL_law_546 : decode cL_law 546 = .ok (.iload_n 3, 1) := by decide +kernel
theorem dL_law_547 : decode cL_law 547 = .ok (.iconst 1, 1) := by decide +kernel
theorem dL_law_548 : decode cL_law 548 = .ok (.iadd, 1) := by decide +kernel
theorem dL_law_549 : decode cL_law 549 = .ok (.iaload, 1) := by decide +kernel
theorem dL_law_550 : decode cL_law 550 = .ok (.aload_n 0, 1) := by decide +kernel
theorem dL_law_551 : decode cL_law 551 = .ok (.iload_n 3, 1) := by decide +kernel
theorem dL_law_552 : decode cL_law 552 = .ok (.iconst 2, 1) := by decide +kernel
theorem dL_law_553 : decode cL_law 553 = .ok (.iadd, 1) := by decide +kernel
theorem dL_law_554 : decode cL_law 554 = .ok (.iaload, 1) := by decide +kernel
theorem dL_law_555 : decode cL_law 555 = .ok (.invokevirtual 52, 3) := by decide +kernel
theorem dL_law_558 : decode cL_law 558 = .ok (.if_icmp .eq 1609, 3) := by decide +kernel
theorem dL_law_563 : decode cL_law 563 = .ok (.aload_n 1, 1) := by decide +kernel
theorem dL_law_564 : decode cL_law 564 = .ok (.aload_n 0, 1) := by decide +kernel
theorem dL_law_565 : decode cL_law 565 = .ok (.iload_n 3, 1) := by decide +kernel
theorem dL_law_566 : decode cL_law 566 = .ok (.iconst 1, 1) := by decide +kernel
theorem dL_law_567 : decode cL_law 567 = .ok (.iadd, 1) := by decide +kernel
theorem dL_law_568 : decode cL_law 568 = .ok (.iaload, 1) := by decide +kernel
theorem dL_law_569 : decode cL_law 569 = .ok (.aload_n 0, 1) := by decide +kernel
theorem dL_law_570 : decode cL_law 570 = .ok (.iload_n 3, 1) := by decide +kernel
theorem dL_law_571 : decode cL_law 571 = .ok (.iconst 2, 1) := by decide +kernel
theorem dL_law_572 : decode cL_law 572 = .ok (.iadd, 1) := by decide +kernel
theorem dL_law_573 : decode cL_law 573 = .ok (.iaload, 1) := by decide +kernel
theorem dL_law_574 : decode cL_law 574 = .ok (.invokevirtual 53, 3) := by decide +kernel
theorem dL_law_577 : decode cL_law 577 = .ok (.aload_n 2, 1) := by decide +kernel
theorem dL_law_578 : decode cL_law 578 = .ok (.aload_n 0, 1) := by decide +kernel
theorem dL_law_579 : decode cL_law 579 = .ok (.iload_n 3, 1) := by decide +kernel
theorem dL_law_580 : decode cL_law 580 = .ok (.iconst 1, 1) := by decide +kernel
theorem dL_law_581 : decode cL_law 581 = .ok (.iadd, 1) := by decide +kernel
theorem dL_law_582 : decode cL_law 582 = .ok (.iaload, 1) := by decide +kernel
theorem dL_law_583 : decode cL_law 583 = .ok (.aload_n 0, 1) := by decide +kernel
theorem dL_law_584 : decode cL_law 584 = .ok (.iload_n 3, 1) := by decide +kernel
theorem dL_law_585 : decode cL_law 585 = .ok (.iconst 2, 1) := by decide +kernel
theorem dL_law_586 : decode cL_law 586 = .ok (.iadd, 1) := by decide +kernel
theorem dL_law_587 : decode cL_law 587 = .ok (.iaload, 1) := by decide +kernel
theorem dL_law_588 : decode cL_law 588 = .ok (.invokevirtual 56, 3) := by decide +kernel
theorem dL_law_591 : decode cL_law 591 = .ok (.if_icmp .eq 1576, 3) := by decide +kernel
theorem dL_law_596 : decode cL_law 596 = .ok (.aload_n 1, 1) := by decide +kernel
theorem dL_law_597 : decode cL_law 597 = .ok (.aload_n 0, 1) := by decide +kernel
theorem dL_law_598 : decode cL_law 598 = .ok (.iload_n 3, 1) := by decide +kernel
theorem dL_law_599 : decode cL_law 599 = .ok (.iconst 1, 1) := by decide +kernel
theorem dL_law_600 : decode cL_law 600 = .ok (.iadd, 1) := by decide +kernel
theorem dL_law_601 : decode cL_law 601 = .ok (.iaload, 1) := by decide +kernel
theorem dL_law_602 : decode cL_law 602 = .ok (.aload_n 0, 1) := by decide +kernel
theorem dL_law_603 : decode cL_law 603 = .ok (.iload_n 3, 1) := by decide +kernel
theorem dL_law_604 : decode cL_law 604 = .ok (.iconst 2, 1) := by decide +kernel
theorem dL_law_605 : decode cL_law 605 = .ok (.iadd, 1) := by decide +kernel
theorem dL_law_606 : decode cL_law 606 = .ok (.iaload, 1) := by decide +kernel
theorem dL_law_607 : decode cL_law 607 = .ok (.invokevirtual 57, 3) := by decide +kernel
theorem dL_law_610 : decode cL_law 610 = .ok (.aload_n 2, 1) := by decide +kernel
theorem dL_law_611 : decode cL_law 611 = .ok (.aload_n 0, 1) := by decide +kernel
theorem dL_law_612 : decode cL_law 612 = .ok (.iload_n 3, 1) := by decide +kernel
theorem dL_law_613 : decode cL_law 613 = .ok (.iconst 1, 1) := by decide +kernel
theorem dL_law_614 : decode cL_law 614 = .ok (.iadd, 1) := by decide +kernel
theorem dL_law_615 : decode cL_law 615 = .ok (.iaload, 1) := by decide +kernel
theorem dL_law_616 : decode cL_law 616 = .ok (.aload_n 0, 1) := by decide +kernel
theorem dL_law_617 : decode cL_law 617 = .ok (.iload_n 3, 1) := by decide +kernel
theorem dL_law_618 : decode cL_law 618 = .ok (.iconst 2, 1) := by decide +kernel
theorem dL_law_619 : decode cL_law 619 = .ok (.iadd, 1) := by decide +kernel
theorem dL_law_620 : decode cL_law 620 = .ok (.iaload, 1) := by decide +kernel
theorem dL_law_621 : decode cL_law 621 = .ok (.invokevirtual 60, 3) := by decide +kernel
theorem dL_law_624 : decode cL_law 624 = .ok (.if_icmp .eq 1543, 3) := by decide +kernel
theorem dL_law_629 : decode cL_law 629 = .ok (.aload_n 1, 1) := by decide +kernel
theorem dL_law_630 : decode cL_law 630 = .ok (.aload_n 0, 1) := by decide +kernel
theorem dL_law_631 : decode cL_law 631 = .ok (.iload_n 3, 1) := by decide +kernel
theorem dL_law_632 : decode cL_law 632 = .ok (.iconst 1, 1) := by decide +kernel
theorem dL_law_633 : decode cL_law 633 = .ok (.iadd, 1) := by decide +kernel
theorem dL_law_634 : decode cL_law 634 = .ok (.iaload, 1) := by decide +kernel
theorem dL_law_635 : decode cL_law 635 = .ok (.aload_n 0, 1) := by decide +kernel
theorem dL_law_636 : decode cL_law 636 = .ok (.iload_n 3, 1) := by decide +kernel
theorem dL_law_637 : decode cL_law 637 = .ok (.iconst 2, 1) := by decide +kernel
theorem dL_law_638 : decode cL_law 638 = .ok (.iadd, 1) := by decide +kernel
theorem dL_law_639 : decode cL_law 639 = .ok (.iaload, 1) := by decide +kernel
theorem dL_law_640 : decode cL_law 640 = .ok (.invokevirtual 61, 3) := by decide +kernel
theorem dL_law_643 : decode cL_law 643 = .ok (.aload_n 2, 1) := by decide +kernel
theorem dL_law_644 : decode cL_law 644 = .ok (.aload_n 0, 1) := by decide +kernel
theorem dL_law_645 : decode cL_law 645 = .ok (.iload_n 3, 1) := by decide +kernel
theorem dL_law_646 : decode cL_law 646 = .ok (.iconst 1, 1) := by decide +kernel
theorem dL_law_647 : decode cL_law 647 = .ok (.iadd, 1) := by decide +kernel
theorem dL_law_648 : decode cL_law 648 = .ok (.iaload, 1) := by decide +kernel
theorem dL_law_649 : decode cL_law 649 = .ok (.aload_n 0, 1) := by decide +kernel
theorem dL_law_650 : decode cL_law 650 = .ok (.iload_n 3, 1) := by decide +kernel
theorem dL_law_651 : decode cL_law 651 = .ok (.iconst 2, 1) := by decide +kernel
theorem dL_law_652 : decode cL_law 652 = .ok (.iadd, 1) := by decide +kernel
theorem dL_law_653 : decode cL_law 653 = .ok (.iaload, 1) := by decide +kernel
theorem dL_law_654 : decode cL_law 654 = .ok (.invokevirtual 64, 3) := by decide +kernel
theorem dL_law_657 : decode cL_law 657 = .ok (.if_icmp .eq 1510, 3) := by decide +kernel
theorem dL_law_662 : decode cL_law 662 = .ok (.aload_n 1, 1) := by decide +kernel
theorem dL_law_663 : decode cL_law 663 = .ok (.aload_n 0, 1) := by decide +kernel
theorem dL_law_664 : decode cL_law 664 = .ok (.iload_n 3, 1) := by decide +kernel
theorem dL_law_665 : decode cL_law 665 = .ok (.iconst 1, 1) := by decide +kernel
theorem dL_law_666 : decode cL_law 666 = .ok (.iadd, 1) := by decide +kernel
theorem dL_law_667 : decode cL_law 667 = .ok (.iaload, 1) := by decide +kernel
theorem dL_law_668 : decode cL_law 668 = .ok (.aload_n 0, 1) := by decide +kernel
theorem dL_law_669 : decode cL_law 669 = .ok (.iload_n 3, 1) := by decide +kernel
theorem dL_law_670 : decode cL_law 670 = .ok (.iconst 2, 1) := by decide +kernel
theorem dL_law_671 : decode cL_law 671 = .ok (.iadd, 1) := by decide +kernel
theorem dL_law_672 : decode cL_law 672 = .ok (.iaload, 1) := by decide +kernel
theorem dL_law_673 : decode cL_law 673 = .ok (.invokevirtual 65, 3) := by decide +kernel
theorem dL_law_676 : decode cL_law 676 = .ok (.aload_n 2, 1) := by decide +kernel
theorem dL_law_677 : decode cL_law 677 = .ok (.aload_n 0, 1) := by decide +kernel
theorem dL_law_678 : decode cL_law 678 = .ok (.iload_n 3, 1) := by decide +kernel
theorem dL_law_679 : decode cL_law 679 = .ok (.iconst 1, 1) := by decide +kernel
theorem dL_law_680 : decode cL_law 680 = .ok (.iadd, 1) := by decide +kernel
theorem dL_law_681 : decode cL_law 681 = .ok (.iaload, 1) := by decide +kernel
theorem dL_law_682 : decode cL_law 682 = .ok (.aload_n 0, 1) := by decide +kernel
theorem dL_law_683 : decode cL_law 683 = .ok (.iload_n 3, 1) := by decide +kernel
theorem dL_law_684 : decode cL_law 684 = .ok (.iconst 2, 1) := by decide +kernel
theorem dL_law_685 : decode cL_law 685 = .ok (.iadd, 1) := by decide +kernel
theorem dL_law_686 : decode cL_law 686 = .ok (.iaload, 1) := by decide +kernel
theorem dL_law_687 : decode cL_law 687 = .ok (.invokevirtual 68, 3) := by decide +kernel
theorem dL_law_690 : decode cL_law 690 = .ok (.if_icmp .eq 1477, 3) := by decide +kernel
theorem dL_law_695 : decode cL_law 695 = .ok (.aload_n 1, 1) := by decide +kernel
theorem dL_law_696 : decode cL_law 696 = .ok (.aload_n 0, 1) := by decide +kernel
theorem dL_law_697 : decode cL_law 697 = .ok (.iload_n 3, 1) := by decide +kernel
theorem dL_law_698 : decode cL_law 698 = .ok (.iconst 1, 1) := by decide +kernel
theorem dL_law_699 : decode cL_law 699 = .ok (.iadd, 1) := by decide +kernel
theorem dL_law_700 : decode cL_law 700 = .ok (.iaload, 1) := by decide +kernel
theorem dL_law_701 : decode cL_law 701 = .ok (.aload_n 0, 1) := by decide +kernel
theorem dL_law_702 : decode cL_law 702 = .ok (.iload_n 3, 1) := by decide +kernel
theorem dL_law_703 : decode cL_law 703 = .ok (.iconst 2, 1) := by decide +kernel
theorem dL_law_704 : decode cL_law 704 = .ok (.iadd, 1) := by decide +kernel
theorem dL_law_705 : decode cL_law 705 = .ok (.iaload, 1) := by decide +kernel
theorem dL_law_706 : decode cL_law 706 = .ok (.invokevirtual 69, 3) := by decide +kernel
theorem dL_law_709 : decode cL_law 709 = .ok (.aload_n 2, 1) := by decide +kernel
theorem dL_law_710 : decode cL_law 710 = .ok (.aload_n 0, 1) := by decide +kernel
theorem dL_law_711 : decode cL_law 711 = .ok (.iload_n 3, 1) := by decide +kernel
theorem dL_law_712 : decode cL_law 712 = .ok (.iconst 1, 1) := by decide +kernel
theorem dL_law_713 : decode cL_law 713 = .ok (.iadd, 1) := by decide +kernel
theorem dL_law_714 : decode cL_law 714 = .ok (.iaload, 1) := by decide +kernel
theorem dL_law_715 : decode cL_law 715 = .ok (.aload_n 0, 1) := by decide +kernel
theorem dL_law_716 : decode cL_law 716 = .ok (.iload_n 3, 1) := by decide +kernel
theorem dL_law_717 : decode cL_law 717 = .ok (.iconst 2, 1) := by decide +kernel
theorem dL_law_718 : decode cL_law 718 = .ok (.iadd, 1) := by decide +kernel
theorem dL_law_719 : decode cL_law 719 = .ok (.iaload, 1) := by decide +kernel
theorem dL_law_720 : decode cL_law 720 = .ok (.invokevirtual 72, 3) := by decide +kernel
theorem dL_law_723 : decode cL_law 723 = .ok (.if_icmp .eq 1444, 3) := by decide +kernel
theorem dL_law_728 : decode cL_law 728 = .ok (.aload_n 1, 1) := by decide +kernel
theorem dL_law_729 : decode cL_law 729 = .ok (.aload_n 0, 1) := by decide +kernel
theorem dL_law_730 : decode cL_law 730 = .ok (.iload_n 3, 1) := by decide +kernel
theorem dL_law_731 : decode cL_law 731 = .ok (.iconst 1, 1) := by decide +kernel
theorem dL_law_732 : decode cL_law 732 = .ok (.iadd, 1) := by decide +kernel
theorem dL_law_733 : decode cL_law 733 = .ok (.iaload, 1) := by decide +kernel
theorem dL_law_734 : decode cL_law 734 = .ok (.aload_n 0, 1) := by decide +kernel
theorem dL_law_735 : decode cL_law 735 = .ok (.iload_n 3, 1) := by decide +kernel
theorem dL_law_736 : decode cL_law 736 = .ok (.iconst 2, 1) := by decide +kernel
theorem dL_law_737 : decode cL_law 737 = .ok (.iadd, 1) := by decide +kernel
theorem dL_law_738 : decode cL_law 738 = .ok (.iaload, 1) := by decide +kernel
theorem dL_law_739 : decode cL_law 739 = .ok (.aload_n 0, 1) := by decide +kernel
theorem dL_law_740 : decode cL_law 740 = .ok (.iload_n 3, 1) := by decide +kernel
theorem dL_law_741 : decode cL_law 741 = .ok (.iconst 3, 1) := by decide +kernel
theorem dL_law_742 : decode cL_law 742 = .ok (.iadd, 1) := by decide +kernel
theorem dL_law_743 : decode cL_law 743 = .ok (.iaload, 1) := by decide +kernel
theorem dL_law_744 : decode cL_law 744 = .ok (.invokevirtual 73, 3) := by decide +kernel
theorem dL_law_747 : decode cL_law 747 = .ok (.aload_n 2, 1) := by decide +kernel
theorem dL_law_748 : decode cL_law 748 = .ok (.aload_n 0, 1) := by decide +kernel
theorem dL_law_749 : decode cL_law 749 = .ok (.iload_n 3, 1) := by decide +kernel
theorem dL_law_750 : decode cL_law 750 = .ok (.iconst 1, 1) := by decide +kernel
theorem dL_law_751 : decode cL_law 751 = .ok (.iadd, 1) := by decide +kernel
theorem dL_law_752 : decode cL_law 752 = .ok (.iaload, 1) := by decide +kernel
theorem dL_law_753 : decode cL_law 753 = .ok (.aload_n 0, 1) := by decide +kernel
theorem dL_law_754 : decode cL_law 754 = .ok (.iload_n 3, 1) := by decide +kernel
theorem dL_law_755 : decode cL_law 755 = .ok (.iconst 2, 1) := by decide +kernel
theorem dL_law_756 : decode cL_law 756 = .ok (.iadd, 1) := by decide +kernel
theorem dL_law_757 : decode cL_law 757 = .ok (.iaload, 1) := by decide +kernel
theorem dL_law_758 : decode cL_law 758 = .ok (.aload_n 0, 1) := by decide +kernel
theorem dL_law_759 : decode cL_law 759 = .ok (.iload_n 3, 1) := by decide +kernel
theorem dL_law_760 : decode cL_law 760 = .ok (.iconst 3, 1) := by decide +kernel
theorem dL_law_761 : decode cL_law 761 = .ok (.iadd, 1) := by decide +kernel
theorem dL_law_762 : decode cL_law 762 = .ok (.iaload, 1) := by decide +kernel
theorem dL_law_763 : decode cL_law 763 = .ok (.invokevirtual 77, 3) := by decide +kernel
theorem dL_law_766 : decode cL_law 766 = .ok (.if_icmp .eq 1401, 3) := by decide +kernel
theorem dL_law_771 : decode cL_law 771 = .ok (.aload_n 1, 1) := by decide +kernel
theorem dL_law_772 : decode cL_law 772 = .ok (.aload_n 0, 1) := by decide +kernel
theorem dL_law_773 : decode cL_law 773 = .ok (.iload_n 3, 1) := by decide +kernel
theorem dL_law_774 : decode cL_law 774 = .ok (.iconst 1, 1) := by decide +kernel
theorem dL_law_775 : decode cL_law 775 = .ok (.iadd, 1) := by decide +kernel
theorem dL_law_776 : decode cL_law 776 = .ok (.iaload, 1) := by decide +kernel
theorem dL_law_777 : decode cL_law 777 = .ok (.aload_n 0, 1) := by decide +kernel
theorem dL_law_778 : decode cL_law 778 = .ok (.iload_n 3, 1) := by decide +kernel
theorem dL_law_779 : decode cL_law 779 = .ok (.iconst 2, 1) := by decide +kernel
theorem dL_law_780 : decode cL_law 780 = .ok (.iadd, 1) := by decide +kernel
theorem dL_law_781 : decode cL_law 781 = .ok (.iaload, 1) := by decide +kernel
theorem dL_law_782 : decode cL_law 782 = .ok (.invokevirtual 78, 3) := by decide +kernel
theorem dL_law_785 : decode cL_law 785 = .ok (.aload_n 2, 1) := by decide +kernel
theorem dL_law_786 : decode cL_law 786 = .ok (.aload_n 0, 1) := by decide +kernel
theorem dL_law_787 : decode cL_law 787 = .ok (.iload_n 3, 1) := by decide +kernel
theorem dL_law_788 : decode cL_law 788 = .ok (.iconst 1, 1) := by decide +kernel
theorem dL_law_789 : decode cL_law 789 = .ok (.iadd, 1) := by decide +kernel
theorem dL_law_790 : decode cL_law 790 = .ok (.iaload, 1) := by decide +kernel
theorem dL_law_791 : decode cL_law 791 = .ok (.aload_n 0, 1) := by decide +kernel
theorem dL_law_792 : decode cL_law 792 = .ok (.iload_n 3, 1) := by decide +kernel
theorem dL_law_793 : decode cL_law 793 = .ok (.iconst 2, 1) := by decide +kernel
theorem dL_law_794 : decode cL_law 794 = .ok (.iadd, 1) := by decide +kernel
theorem dL_law_795 : decode cL_law 795 = .ok (.iaload, 1) := by decide +kernel
theorem dL_law_796 : decode cL_law 796 = .ok (.invokevirtual 81, 3) := by decide +kernel
theorem dL_law_799 : decode cL_law 799 = .ok (.if_icmp .eq 1368, 3) := by decide +kernel
theorem dL_law_804 : decode cL_law 804 = .ok (.aload_n 1, 1) := by decide +kernel
theorem dL_law_805 : decode cL_law 805 = .ok (.aload_n 0, 1) := by decide +kernel
theorem dL_law_806 : decode cL_law 806 = .ok (.iload_n 3, 1) := by decide +kernel
theorem dL_law_807 : decode cL_law 807 = .ok (.iconst 1, 1) := by decide +kernel
theorem dL_law_808 : decode cL_law 808 = .ok (.iadd, 1) := by decide +kernel
theorem dL_law_809 : decode cL_law 809 = .ok (.iaload, 1) := by decide +kernel
theorem dL_law_810 : decode cL_law 810 = .ok (.aload_n 0, 1) := by decide +kernel
theorem dL_law_811 : decode cL_law 811 = .ok (.iload_n 3, 1) := by decide +kernel
theorem dL_law_812 : decode cL_law 812 = .ok (.iconst 2, 1) := by decide +kernel
theorem dL_law_813 : decode cL_law 813 = .ok (.iadd, 1) := by decide +kernel
theorem dL_law_814 : decode cL_law 814 = .ok (.iaload, 1) := by decide +kernel
theorem dL_law_815 : decode cL_law 815 = .ok (.invokevirtual 82, 3) := by decide +kernel
theorem dL_law_818 : decode cL_law 818 = .ok (.aload_n 2, 1) := by decide +kernel
theorem dL_law_819 : decode cL_law 819 = .ok (.aload_n 0, 1) := by decide +kernel
theorem dL_law_820 : decode cL_law 820 = .ok (.iload_n 3, 1) := by decide +kernel
theorem dL_law_821 : decode cL_law 821 = .ok (.iconst 1, 1) := by decide +kernel
theorem dL_law_822 : decode cL_law 822 = .ok (.iadd, 1) := by decide +kernel
theorem dL_law_823 : decode cL_law 823 = .ok (.iaload, 1) := by decide +kernel
theorem dL_law_824 : decode cL_law 824 = .ok (.aload_n 0, 1) := by decide +kernel
theorem dL_law_825 : decode cL_law 825 = .ok (.iload_n 3, 1) := by decide +kernel
theorem dL_law_826 : decode cL_law 826 = .ok (.iconst 2, 1) := by decide +kernel
theorem dL_law_827 : decode cL_law 827 = .ok (.iadd, 1) := by decide +kernel
theorem dL_law_828 : decode cL_law 828 = .ok (.iaload, 1) := by decide +kernel
theorem dL_law_829 : decode cL_law 829 = .ok (.invokevirtual 85, 3) := by decide +kernel
theorem dL_law_832 : decode cL_law 832 = .ok (.if_icmp .eq 1335, 3) := by decide +kernel
theorem dL_law_837 : decode cL_law 837 = .ok (.aload_n 1, 1) := by decide +kernel
theorem dL_law_838 : decode cL_law 838 = .ok (.aload_n 0, 1) := by decide +kernel
theorem dL_law_839 : decode cL_law 839 = .ok (.iload_n 3, 1) := by decide +kernel
theorem dL_law_840 : decode cL_law 840 = .ok (.iconst 1, 1) := by decide +kernel
theorem dL_law_841 : decode cL_law 841 = .ok (.iadd, 1) := by decide +kernel
theorem dL_law_842 : decode cL_law 842 = .ok (.iaload, 1) := by decide +kernel
theorem dL_law_843 : decode cL_law 843 = .ok (.invokevirtual 86, 3) := by decide +kernel
theorem dL_law_846 : decode cL_law 846 = .ok (.aload_n 2, 1) := by decide +kernel
theorem dL_law_847 : decode cL_law 847 = .ok (.aload_n 0, 1) := by decide +kernel
theorem dL_law_848 : decode cL_law 848 = .ok (.iload_n 3, 1) := by decide +kernel
theorem dL_law_849 : decode cL_law 849 = .ok (.iconst 1, 1) := by decide +kernel
theorem dL_law_850 : decode cL_law 850 = .ok (.iadd, 1) := by decide +kernel
theorem dL_law_851 : decode cL_law 851 = .ok (.iaload, 1) := by decide +kernel
theorem dL_law_852 : decode cL_law 852 = .ok (.invokevirtual 89, 3) := by decide +kernel
theorem dL_law_855 : decode cL_law 855 = .ok (.if_icmp .eq 1312, 3) := by decide +kernel
theorem dL_law_860 : decode cL_law 860 = .ok (.aload_n 1, 1) := by decide +kernel
theorem dL_law_861 : decode cL_law 861 = .ok (.aload_n 0, 1) := by decide +kernel
theorem dL_law_862 : decode cL_law 862 = .ok (.iload_n 3, 1) := by decide +kernel
theorem dL_law_863 : decode cL_law 863 = .ok (.iconst 1, 1) := by decide +kernel
theorem dL_law_864 : decode cL_law 864 = .ok (.iadd, 1) := by decide +kernel
theorem dL_law_865 : decode cL_law 865 = .ok (.iaload, 1) := by decide +kernel
theorem dL_law_866 : decode cL_law 866 = .ok (.aload_n 0, 1) := by decide +kernel
theorem dL_law_867 : decode cL_law 867 = .ok (.iload_n 3, 1) := by decide +kernel
theorem dL_law_868 : decode cL_law 868 = .ok (.iconst 2, 1) := by decide +kernel
theorem dL_law_869 : decode cL_law 869 = .ok (.iadd, 1) := by decide +kernel
theorem dL_law_870 : decode cL_law 870 = .ok (.iaload, 1) := by decide +kernel
theorem dL_law_871 : decode cL_law 871 = .ok (.invokevirtual 90, 3) := by decide +kernel
theorem dL_law_874 : decode cL_law 874 = .ok (.aload_n 2, 1) := by decide +kernel
theorem dL_law_875 : decode cL_law 875 = .ok (.aload_n 0, 1) := by decide +kernel
theorem dL_law_876 : decode cL_law 876 = .ok (.iload_n 3, 1) := by decide +kernel
theorem dL_law_877 : decode cL_law 877 = .ok (.iconst 1, 1) := by decide +kernel
theorem dL_law_878 : decode cL_law 878 = .ok (.iadd, 1) := by decide +kernel
theorem dL_law_879 : decode cL_law 879 = .ok (.iaload, 1) := by decide +kernel
theorem dL_law_880 : decode cL_law 880 = .ok (.aload_n 0, 1) := by decide +kernel
theorem dL_law_881 : decode cL_law 881 = .ok (.iload_n 3, 1) := by decide +kernel
theorem dL_law_882 : decode cL_law 882 = .ok (.iconst 2, 1) := by decide +kernel
theorem dL_law_883 : decode cL_law 883 = .ok (.iadd, 1) := by decide +kernel
theorem dL_law_884 : decode cL_law 884 = .ok (.iaload, 1) := by decide +kernel
theorem dL_law_885 : decode cL_law 885 = .ok (.invokevirtual 93, 3) := by decide +kernel
theorem dL_law_888 : decode cL_law 888 = .ok (.if_icmp .eq 1279, 3) := by decide +kernel
theorem dL_law_893 : decode cL_law 893 = .ok (.aload_n 1, 1) := by decide +kernel
theorem dL_law_894 : decode cL_law 894 = .ok (.invokevirtual 94, 3) := by decide +kernel
theorem dL_law_897 : decode cL_law 897 = .ok (.aload_n 2, 1) := by decide +kernel
theorem dL_law_898 : decode cL_law 898 = .ok (.invokevirtual 97, 3) := by decide +kernel
theorem dL_law_901 : decode cL_law 901 = .ok (.if_icmp .eq 1266, 3) := by decide +kernel
theorem dL_law_906 : decode cL_law 906 = .ok (.aload_n 1, 1) := by decide +kernel
theorem dL_law_907 : decode cL_law 907 = .ok (.aload_n 0, 1) := by decide +kernel
theorem dL_law_908 : decode cL_law 908 = .ok (.iload_n 3, 1) := by decide +kernel
theorem dL_law_909 : decode cL_law 909 = .ok (.iconst 1, 1) := by decide +kernel
theorem dL_law_910 : decode cL_law 910 = .ok (.iadd, 1) := by decide +kernel
theorem dL_law_911 : decode cL_law 911 = .ok (.iaload, 1) := by decide +kernel
theorem dL_law_912 : decode cL_law 912 = .ok (.aload_n 0, 1) := by decide +kernel
theorem dL_law_913 : decode cL_law 913 = .ok (.iload_n 3, 1) := by decide +kernel
theorem dL_law_914 : decode cL_law 914 = .ok (.iconst 2, 1) := by decide +kernel
theorem dL_law_915 : decode cL_law 915 = .ok (.iadd, 1) := by decide +kernel
theorem dL_law_916 : decode cL_law 916 = .ok (.iaload, 1) := by decide +kernel
theorem dL_law_917 : decode cL_law 917 = .ok (.aload_n 0, 1) := by decide +kernel
theorem dL_law_918 : decode cL_law 918 = .ok (.iload_n 3, 1) := by decide +kernel
theorem dL_law_919 : decode cL_law 919 = .ok (.iconst 3, 1) := by decide +kernel
theorem dL_law_920 : decode cL_law 920 = .ok (.iadd, 1) := by decide +kernel
theorem dL_law_921 : decode cL_law 921 = .ok (.iaload, 1) := by decide +kernel
theorem dL_law_922 : decode cL_law 922 = .ok (.invokevirtual 98, 3) := by decide +kernel
theorem dL_law_925 : decode cL_law 925 = .ok (.aload_n 2, 1) := by decide +kernel
theorem dL_law_926 : decode cL_law 926 = .ok (.aload_n 0, 1) := by decide +kernel
theorem dL_law_927 : decode cL_law 927 = .ok (.iload_n 3, 1) := by decide +kernel
theorem dL_law_928 : decode cL_law 928 = .ok (.iconst 1, 1) := by decide +kernel
theorem dL_law_929 : decode cL_law 929 = .ok (.iadd, 1) := by decide +kernel
theorem dL_law_930 : decode cL_law 930 = .ok (.iaload, 1) := by decide +kernel
theorem dL_law_931 : decode cL_law 931 = .ok (.aload_n 0, 1) := by decide +kernel
theorem dL_law_932 : decode cL_law 932 = .ok (.iload_n 3, 1) := by decide +kernel
theorem dL_law_933 : decode cL_law 933 = .ok (.iconst 2, 1) := by decide +kernel
theorem dL_law_934 : decode cL_law 934 = .ok (.iadd, 1) := by decide +kernel
theorem dL_law_935 : decode cL_law 935 = .ok (.iaload, 1) := by decide +kernel
theorem dL_law_936 : decode cL_law 936 = .ok (.aload_n 0, 1) := by decide +kernel
theorem dL_law_937 : decode cL_law 937 = .ok (.iload_n 3, 1) := by decide +kernel
theorem dL_law_938 : decode cL_law 938 = .ok (.iconst 3, 1) := by decide +kernel
theorem dL_law_939 : decode cL_law 939 = .ok (.iadd, 1) := by decide +kernel
theorem dL_law_940 : decode cL_law 940 = .ok (.iaload, 1) := by decide +kernel
theorem dL_law_941 : decode cL_law 941 = .ok (.invokevirtual 101, 3) := by decide +kernel
theorem dL_law_944 : decode cL_law 944 = .ok (.if_icmp .eq 1223, 3) := by decide +kernel
theorem dL_law_949 : decode cL_law 949 = .ok (.aload_n 1, 1) := by decide +kernel
theorem dL_law_950 : decode cL_law 950 = .ok (.aload_n 0, 1) := by decide +kernel
theorem dL_law_951 : decode cL_law 951 = .ok (.iload_n 3, 1) := by decide +kernel
theorem dL_law_952 : decode cL_law 952 = .ok (.iconst 1, 1) := by decide +kernel
theorem dL_law_953 : decode cL_law 953 = .ok (.iadd, 1) := by decide +kernel
theorem dL_law_954 : decode cL_law 954 = .ok (.iaload, 1) := by decide +kernel
theorem dL_law_955 : decode cL_law 955 = .ok (.invokevirtual 102, 3) := by decide +kernel
theorem dL_law_958 : decode cL_law 958 = .ok (.aload_n 2, 1) := by decide +kernel
theorem dL_law_959 : decode cL_law 959 = .ok (.aload_n 0, 1) := by decide +kernel
theorem dL_law_960 : decode cL_law 960 = .ok (.iload_n 3, 1) := by decide +kernel
theorem dL_law_961 : decode cL_law 961 = .ok (.iconst 1, 1) := by decide +kernel
theorem dL_law_962 : decode cL_law 962 = .ok (.iadd, 1) := by decide +kernel
theorem dL_law_963 : decode cL_law 963 = .ok (.iaload, 1) := by decide +kernel
theorem dL_law_964 : decode cL_law 964 = .ok (.invokevirtual 105, 3) := by decide +kernel
theorem dL_law_967 : decode cL_law 967 = .ok (.if_icmp .eq 1200, 3) := by decide +kernel
theorem dL_law_972 : decode cL_law 972 = .ok (.aload_n 1, 1) := by decide +kernel
theorem dL_law_973 : decode cL_law 973 = .ok (.invokevirtual 106, 3) := by decide +kernel
theorem dL_law_976 : decode cL_law 976 = .ok (.aload_n 2, 1) := by decide +kernel
theorem dL_law_977 : decode cL_law 977 = .ok (.invokevirtual 109, 3) := by decide +kernel
theorem dL_law_980 : decode cL_law 980 = .ok (.if_icmp .eq 1187, 3) := by decide +kernel
theorem dL_law_985 : decode cL_law 985 = .ok (.aload_n 1, 1) := by decide +kernel
theorem dL_law_986 : decode cL_law 986 = .ok (.invokevirtual 110, 3) := by decide +kernel
theorem dL_law_989 : decode cL_law 989 = .ok (.aload_n 2, 1) := by decide +kernel
theorem dL_law_990 : decode cL_law 990 = .ok (.invokevirtual 113, 3) := by decide +kernel
theorem dL_law_993 : decode cL_law 993 = .ok (.if_icmp .eq 1174, 3) := by decide +kernel
theorem dL_law_998 : decode cL_law 998 = .ok (.aload_n 1, 1) := by decide +kernel
theorem dL_law_999 : decode cL_law 999 = .ok (.aload_n 0, 1) := by decide +kernel
theorem dL_law_1000 : decode cL_law 1000 = .ok (.iload_n 3, 1) := by decide +kernel
theorem dL_law_1001 : decode cL_law 1001 = .ok (.iconst 1, 1) := by decide +kernel
theorem dL_law_1002 : decode cL_law 1002 = .ok (.iadd, 1) := by decide +kernel
theorem dL_law_1003 : decode cL_law 1003 = .ok (.iaload, 1) := by decide +kernel
theorem dL_law_1004 : decode cL_law 1004 = .ok (.invokevirtual 114, 3) := by decide +kernel
theorem dL_law_1007 : decode cL_law 1007 = .ok (.aload_n 2, 1) := by decide +kernel
theorem dL_law_1008 : decode cL_law 1008 = .ok (.aload_n 0, 1) := by decide +kernel
theorem dL_law_1009 : decode cL_law 1009 = .ok (.iload_n 3, 1) := by decide +kernel
theorem dL_law_1010 : decode cL_law 1010 = .ok (.iconst 1, 1) := by decide +kernel
theorem dL_law_1011 : decode cL_law 1011 = .ok (.iadd, 1) := by decide +kernel
theorem dL_law_1012 : decode cL_law 1012 = .ok (.iaload, 1) := by decide +kernel
theorem dL_law_1013 : decode cL_law 1013 = .ok (.invokevirtual 117, 3) := by decide +kernel
theorem dL_law_1016 : decode cL_law 1016 = .ok (.if_icmp .eq 1151, 3) := by decide +kernel
theorem dL_law_1021 : decode cL_law 1021 = .ok (.aload_n 1, 1) := by decide +kernel
theorem dL_law_1022 : decode cL_law 1022 = .ok (.aload_n 0, 1) := by decide +kernel
theorem dL_law_1023 : decode cL_law 1023 = .ok (.iload_n 3, 1) := by decide +kernel
theorem dL_law_1024 : decode cL_law 1024 = .ok (.iconst 1, 1) := by decide +kernel
theorem dL_law_1025 : decode cL_law 1025 = .ok (.iadd, 1) := by decide +kernel
theorem dL_law_1026 : decode cL_law 1026 = .ok (.iaload, 1) := by decide +kernel
theorem dL_law_1027 : decode cL_law 1027 = .ok (.aload_n 0, 1) := by decide +kernel
theorem dL_law_1028 : decode cL_law 1028 = .ok (.iload_n 3, 1) := by decide +kernel
theorem dL_law_1029 : decode cL_law 1029 = .ok (.iconst 2, 1) := by decide +kernel
theorem dL_law_1030 : decode cL_law 1030 = .ok (.iadd, 1) := by decide +kernel
theorem dL_law_1031 : decode cL_law 1031 = .ok (.iaload, 1) := by decide +kernel
theorem dL_law_1032 : decode cL_law 1032 = .ok (.invokevirtual 118, 3) := by decide +kernel
theorem dL_law_1035 : decode cL_law 1035 = .ok (.aload_n 2, 1) := by decide +kernel
theorem dL_law_1036 : decode cL_law 1036 = .ok (.aload_n 0, 1) := by decide +kernel
theorem dL_law_1037 : decode cL_law 1037 = .ok (.iload_n 3, 1) := by decide +kernel
theorem dL_law_1038 : decode cL_law 1038 = .ok (.iconst 1, 1) := by decide +kernel
theorem dL_law_1039 : decode cL_law 1039 = .ok (.iadd, 1) := by decide +kernel
theorem dL_law_1040 : decode cL_law 1040 = .ok (.iaload, 1) := by decide +kernel
theorem dL_law_1041 : decode cL_law 1041 = .ok (.aload_n 0, 1) := by decide +kernel
theorem dL_law_1042 : decode cL_law 1042 = .ok (.iload_n 3, 1) := by decide +kernel
theorem dL_law_1043 : decode cL_law 1043 = .ok (.iconst 2, 1) := by decide +kernel
theorem dL_law_1044 : decode cL_law 1044 = .ok (.iadd, 1) := by decide +kernel
theorem dL_law_1045 : decode cL_law 1045 = .ok (.iaload, 1) := by decide +kernel
theorem dL_law_1046 : decode cL_law 1046 = .ok (.invokevirtual 121, 3) := by decide +kernel
theorem dL_law_1049 : decode cL_law 1049 = .ok (.if_icmp .eq 1118, 3) := by decide +kernel
theorem dL_law_1054 : decode cL_law 1054 = .ok (.aload_n 1, 1) := by decide +kernel
theorem dL_law_1055 : decode cL_law 1055 = .ok (.aload_n 0, 1) := by decide +kernel
theorem dL_law_1056 : decode cL_law 1056 = .ok (.iload_n 3, 1) := by decide +kernel
theorem dL_law_1057 : decode cL_law 1057 = .ok (.iconst 1, 1) := by decide +kernel
theorem dL_law_1058 : decode cL_law 1058 = .ok (.iadd, 1) := by decide +kernel
theorem dL_law_1059 : decode cL_law 1059 = .ok (.iaload, 1) := by decide +kernel
theorem dL_law_1060 : decode cL_law 1060 = .ok (.invokevirtual 122, 3) := by decide +kernel
theorem dL_law_1063 : decode cL_law 1063 = .ok (.aload_n 2, 1) := by decide +kernel
theorem dL_law_1064 : decode cL_law 1064 = .ok (.aload_n 0, 1) := by decide +kernel
theorem dL_law_1065 : decode cL_law 1065 = .ok (.iload_n 3, 1) := by decide +kernel
theorem dL_law_1066 : decode cL_law 1066 = .ok (.iconst 1, 1) := by decide +kernel
theorem dL_law_1067 : decode cL_law 1067 = .ok (.iadd, 1) := by decide +kernel
theorem dL_law_1068 : decode cL_law 1068 = .ok (.iaload, 1) := by decide +kernel
theorem dL_law_1069 : decode cL_law 1069 = .ok (.invokevirtual 125, 3) := by decide +kernel
theorem dL_law_1072 : decode cL_law 1072 = .ok (.if_icmp .eq 1095, 3) := by decide +kernel
theorem dL_law_1077 : decode cL_law 1077 = .ok (.aload_n 1, 1) := by decide +kernel
theorem dL_law_1078 : decode cL_law 1078 = .ok (.aload_n 0, 1) := by decide +kernel
theorem dL_law_1079 : decode cL_law 1079 = .ok (.iload_n 3, 1) := by decide +kernel
theorem dL_law_1080 : decode cL_law 1080 = .ok (.iconst 1, 1) := by decide +kernel
theorem dL_law_1081 : decode cL_law 1081 = .ok (.iadd, 1) := by decide +kernel
theorem dL_law_1082 : decode cL_law 1082 = .ok (.iaload, 1) := by decide +kernel
theorem dL_law_1083 : decode cL_law 1083 = .ok (.aload_n 0, 1) := by decide +kernel
theorem dL_law_1084 : decode cL_law 1084 = .ok (.iload_n 3, 1) := by decide +kernel
theorem dL_law_1085 : decode cL_law 1085 = .ok (.iconst 2, 1) := by decide +kernel
theorem dL_law_1086 : decode cL_law 1086 = .ok (.iadd, 1) := by decide +kernel
theorem dL_law_1087 : decode cL_law 1087 = .ok (.iaload, 1) := by decide +kernel
theorem dL_law_1088 : decode cL_law 1088 = .ok (.invokevirtual 126, 3) := by decide +kernel
theorem dL_law_1091 : decode cL_law 1091 = .ok (.aload_n 2, 1) := by decide +kernel
theorem dL_law_1092 : decode cL_law 1092 = .ok (.aload_n 0, 1) := by decide +kernel
theorem dL_law_1093 : decode cL_law 1093 = .ok (.iload_n 3, 1) := by decide +kernel
theorem dL_law_1094 : decode cL_law 1094 = .ok (.iconst 1, 1) := by decide +kernel
theorem dL_law_1095 : decode cL_law 1095 = .ok (.iadd, 1) := by decide +kernel
theorem dL_law_1096 : decode cL_law 1096 = .ok (.iaload, 1) := by decide +kernel
theorem dL_law_1097 : decode cL_law 1097 = .ok (.aload_n 0, 1) := by decide +kernel
theorem dL_law_1098 : decode cL_law 1098 = .ok (.iload_n 3, 1) := by decide +kernel
theorem dL_law_1099 : decode cL_law 1099 = .ok (.iconst 2, 1) := by decide +kernel
theorem dL_law_1100 : decode cL_law 1100 = .ok (.iadd, 1) := by decide +kernel
theorem dL_law_1101 : decode cL_law 1101 = .ok (.iaload, 1) := by decide +kernel
theorem dL_law_1102 : decode cL_law 1102 = .ok (.invokevirtual 129, 3) := by decide +kernel
theorem dL_law_1105 : decode cL_law 1105 = .ok (.if_icmp .eq 1062, 3) := by decide +kernel
theorem dL_law_1110 : decode cL_law 1110 = .ok (.aload_n 1, 1) := by decide +kernel
theorem dL_law_1111 : decode cL_law 1111 = .ok (.aload_n 0, 1) := by decide +kernel
theorem dL_law_1112 : decode cL_law 1112 = .ok (.iload_n 3, 1) := by decide +kernel
theorem dL_law_1113 : decode cL_law 1113 = .ok (.iconst 1, 1) := by decide +kernel
theorem dL_law_1114 : decode cL_law 1114 = .ok (.iadd, 1) := by decide +kernel
theorem dL_law_1115 : decode cL_law 1115 = .ok (.iaload, 1) := by decide +kernel
theorem dL_law_1116 : decode cL_law 1116 = .ok (.aload_n 0, 1) := by decide +kernel
theorem dL_law_1117 : decode cL_law 1117 = .ok (.iload_n 3, 1) := by decide +kernel
theorem dL_law_1118 : decode cL_law 1118 = .ok (.iconst 2, 1) := by decide +kernel
theorem dL_law_1119 : decode cL_law 1119 = .ok (.iadd, 1) := by decide +kernel
theorem dL_law_1120 : decode cL_law 1120 = .ok (.iaload, 1) := by decide +kernel
theorem dL_law_1121 : decode cL_law 1121 = .ok (.invokevirtual 130, 3) := by decide +kernel
theorem dL_law_1124 : decode cL_law 1124 = .ok (.aload_n 2, 1) := by decide +kernel
theorem dL_law_1125 : decode cL_law 1125 = .ok (.aload_n 0, 1) := by decide +kernel
theorem dL_law_1126 : decode cL_law 1126 = .ok (.iload_n 3, 1) := by decide +kernel
theorem dL_law_1127 : decode cL_law 1127 = .ok (.iconst 1, 1) := by decide +kernel
theorem dL_law_1128 : decode cL_law 1128 = .ok (.iadd, 1) := by decide +kernel
theorem dL_law_1129 : decode cL_law 1129 = .ok (.iaload, 1) := by decide +kernel
theorem dL_law_1130 : decode cL_law 1130 = .ok (.aload_n 0, 1) := by decide +kernel
theorem dL_law_1131 : decode cL_law 1131 = .ok (.iload_n 3, 1) := by decide +kernel
theorem dL_law_1132 : decode cL_law 1132 = .ok (.iconst 2, 1) := by decide +kernel
theorem dL_law_1133 : decode cL_law 1133 = .ok (.iadd, 1) := by decide +kernel
theorem dL_law_1134 : decode cL_law 1134 = .ok (.iaload, 1) := by decide +kernel
theorem dL_law_1135 : decode cL_law 1135 = .ok (.invokevirtual 133, 3) := by decide +kernel
theorem dL_law_1138 : decode cL_law 1138 = .ok (.if_icmp .eq 1029, 3) := by decide +kernel
theorem dL_law_1143 : decode cL_law 1143 = .ok (.aload_n 1, 1) := by decide +kernel
theorem dL_law_1144 : decode cL_law 1144 = .ok (.aload_n 0, 1) := by decide +kernel
theorem dL_law_1145 : decode cL_law 1145 = .ok (.iload_n 3, 1) := by decide +kernel
theorem dL_law_1146 : decode cL_law 1146 = .ok (.iconst 1, 1) := by decide +kernel
theorem dL_law_1147 : decode cL_law 1147 = .ok (.iadd, 1) := by decide +kernel
theorem dL_law_1148 : decode cL_law 1148 = .ok (.iaload, 1) := by decide +kernel
theorem dL_law_1149 : decode cL_law 1149 = .ok (.aload_n 0, 1) := by decide +kernel
theorem dL_law_1150 : decode cL_law 1150 = .ok (.iload_n 3, 1) := by decide +kernel
theorem dL_law_1151 : decode cL_law 1151 = .ok (.iconst 2, 1) := by decide +kernel
theorem dL_law_1152 : decode cL_law 1152 = .ok (.iadd, 1) := by decide +kernel
theorem dL_law_1153 : decode cL_law 1153 = .ok (.iaload, 1) := by decide +kernel
theorem dL_law_1154 : decode cL_law 1154 = .ok (.invokevirtual 134, 3) := by decide +kernel
theorem dL_law_1157 : decode cL_law 1157 = .ok (.aload_n 2, 1) := by decide +kernel
theorem dL_law_1158 : decode cL_law 1158 = .ok (.aload_n 0, 1) := by decide +kernel
theorem dL_law_1159 : decode cL_law 1159 = .ok (.iload_n 3, 1) := by decide +kernel
theorem dL_law_1160 : decode cL_law 1160 = .ok (.iconst 1, 1) := by decide +kernel
theorem dL_law_1161 : decode cL_law 1161 = .ok (.iadd, 1) := by decide +kernel
theorem dL_law_1162 : decode cL_law 1162 = .ok (.iaload, 1) := by decide +kernel
theorem dL_law_1163 : decode cL_law 1163 = .ok (.aload_n 0, 1) := by decide +kernel
theorem dL_law_1164 : decode cL_law 1164 = .ok (.iload_n 3, 1) := by decide +kernel
theorem dL_law_1165 : decode cL_law 1165 = .ok (.iconst 2, 1) := by decide +kernel
theorem dL_law_1166 : decode cL_law 1166 = .ok (.iadd, 1) := by decide +kernel
theorem dL_law_1167 : decode cL_law 1167 = .ok (.iaload, 1) := by decide +kernel
theorem dL_law_1168 : decode cL_law 1168 = .ok (.invokevirtual 138, 3) := by decide +kernel
theorem dL_law_1171 : decode cL_law 1171 = .ok (.lcmp, 1) := by decide +kernel
theorem dL_law_1172 : decode cL_law 1172 = .ok (.ifCond .eq 995, 3) := by decide +kernel
theorem dL_law_1177 : decode cL_law 1177 = .ok (.aload_n 1, 1) := by decide +kernel
theorem dL_law_1178 : decode cL_law 1178 = .ok (.aload_n 0, 1) := by decide +kernel
theorem dL_law_1179 : decode cL_law 1179 = .ok (.iload_n 3, 1) := by decide +kernel
theorem dL_law_1180 : decode cL_law 1180 = .ok (.iconst 1, 1) := by decide +kernel
theorem dL_law_1181 : decode cL_law 1181 = .ok (.iadd, 1) := by decide +kernel
theorem dL_law_1182 : decode cL_law 1182 = .ok (.iaload, 1) := by decide +kernel
theorem dL_law_1183 : decode cL_law 1183 = .ok (.aload_n 0, 1) := by decide +kernel
theorem dL_law_1184 : decode cL_law 1184 = .ok (.iload_n 3, 1) := by decide +kernel
theorem dL_law_1185 : decode cL_law 1185 = .ok (.iconst 2, 1) := by decide +kernel
theorem dL_law_1186 : decode cL_law 1186 = .ok (.iadd, 1) := by decide +kernel
theorem dL_law_1187 : decode cL_law 1187 = .ok (.iaload, 1) := by decide +kernel
theorem dL_law_1188 : decode cL_law 1188 = .ok (.invokevirtual 139, 3) := by decide +kernel
theorem dL_law_1191 : decode cL_law 1191 = .ok (.aload_n 2, 1) := by decide +kernel
theorem dL_law_1192 : decode cL_law 1192 = .ok (.aload_n 0, 1) := by decide +kernel
theorem dL_law_1193 : decode cL_law 1193 = .ok (.iload_n 3, 1) := by decide +kernel
theorem dL_law_1194 : decode cL_law 1194 = .ok (.iconst 1, 1) := by decide +kernel
theorem dL_law_1195 : decode cL_law 1195 = .ok (.iadd, 1) := by decide +kernel
theorem dL_law_1196 : decode cL_law 1196 = .ok (.iaload, 1) := by decide +kernel
theorem dL_law_1197 : decode cL_law 1197 = .ok (.aload_n 0, 1) := by decide +kernel
theorem dL_law_1198 : decode cL_law 1198 = .ok (.iload_n 3, 1) := by decide +kernel
theorem dL_law_1199 : decode cL_law 1199 = .ok (.iconst 2, 1) := by decide +kernel
theorem dL_law_1200 : decode cL_law 1200 = .ok (.iadd, 1) := by decide +kernel
theorem dL_law_1201 : decode cL_law 1201 = .ok (.iaload, 1) := by decide +kernel
theorem dL_law_1202 : decode cL_law 1202 = .ok (.invokevirtual 142, 3) := by decide +kernel
theorem dL_law_1205 : decode cL_law 1205 = .ok (.if_icmp .eq 962, 3) := by decide +kernel
theorem dL_law_1210 : decode cL_law 1210 = .ok (.aload_n 1, 1) := by decide +kernel
theorem dL_law_1211 : decode cL_law 1211 = .ok (.aload_n 0, 1) := by decide +kernel
theorem dL_law_1212 : decode cL_law 1212 = .ok (.iload_n 3, 1) := by decide +kernel
theorem dL_law_1213 : decode cL_law 1213 = .ok (.iconst 1, 1) := by decide +kernel
theorem dL_law_1214 : decode cL_law 1214 = .ok (.iadd, 1) := by decide +kernel
theorem dL_law_1215 : decode cL_law 1215 = .ok (.iaload, 1) := by decide +kernel
theorem dL_law_1216 : decode cL_law 1216 = .ok (.aload_n 0, 1) := by decide +kernel
theorem dL_law_1217 : decode cL_law 1217 = .ok (.iload_n 3, 1) := by decide +kernel
theorem dL_law_1218 : decode cL_law 1218 = .ok (.iconst 2, 1) := by decide +kernel
theorem dL_law_1219 : decode cL_law 1219 = .ok (.iadd, 1) := by decide +kernel
theorem dL_law_1220 : decode cL_law 1220 = .ok (.iaload, 1) := by decide +kernel
theorem dL_law_1221 : decode cL_law 1221 = .ok (.invokevirtual 143, 3) := by decide +kernel
theorem dL_law_1224 : decode cL_law 1224 = .ok (.aload_n 2, 1) := by decide +kernel
theorem dL_law_1225 : decode cL_law 1225 = .ok (.aload_n 0, 1) := by decide +kernel
theorem dL_law_1226 : decode cL_law 1226 = .ok (.iload_n 3, 1) := by decide +kernel
theorem dL_law_1227 : decode cL_law 1227 = .ok (.iconst 1, 1) := by decide +kernel
theorem dL_law_1228 : decode cL_law 1228 = .ok (.iadd, 1) := by decide +kernel
theorem dL_law_1229 : decode cL_law 1229 = .ok (.iaload, 1) := by decide +kernel
theorem dL_law_1230 : decode cL_law 1230 = .ok (.aload_n 0, 1) := by decide +kernel
theorem dL_law_1231 : decode cL_law 1231 = .ok (.iload_n 3, 1) := by decide +kernel
theorem dL_law_1232 : decode cL_law 1232 = .ok (.iconst 2, 1) := by decide +kernel
theorem dL_law_1233 : decode cL_law 1233 = .ok (.iadd, 1) := by decide +kernel
theorem dL_law_1234 : decode cL_law 1234 = .ok (.iaload, 1) := by decide +kernel
theorem dL_law_1235 : decode cL_law 1235 = .ok (.invokevirtual 146, 3) := by decide +kernel
theorem dL_law_1238 : decode cL_law 1238 = .ok (.if_icmp .eq 929, 3) := by decide +kernel
theorem dL_law_1243 : decode cL_law 1243 = .ok (.aload_n 1, 1) := by decide +kernel
theorem dL_law_1244 : decode cL_law 1244 = .ok (.aload_n 0, 1) := by decide +kernel
theorem dL_law_1245 : decode cL_law 1245 = .ok (.iload_n 3, 1) := by decide +kernel
theorem dL_law_1246 : decode cL_law 1246 = .ok (.iconst 1, 1) := by decide +kernel
theorem dL_law_1247 : decode cL_law 1247 = .ok (.iadd, 1) := by decide +kernel
theorem dL_law_1248 : decode cL_law 1248 = .ok (.iaload, 1) := by decide +kernel
theorem dL_law_1249 : decode cL_law 1249 = .ok (.invokevirtual 147, 3) := by decide +kernel
theorem dL_law_1252 : decode cL_law 1252 = .ok (.aload_n 2, 1) := by decide +kernel
theorem dL_law_1253 : decode cL_law 1253 = .ok (.aload_n 0, 1) := by decide +kernel
theorem dL_law_1254 : decode cL_law 1254 = .ok (.iload_n 3, 1) := by decide +kernel
theorem dL_law_1255 : decode cL_law 1255 = .ok (.iconst 1, 1) := by decide +kernel
theorem dL_law_1256 : decode cL_law 1256 = .ok (.iadd, 1) := by decide +kernel
theorem dL_law_1257 : decode cL_law 1257 = .ok (.iaload, 1) := by decide +kernel
theorem dL_law_1258 : decode cL_law 1258 = .ok (.invokevirtual 150, 3) := by decide +kernel
theorem dL_law_1261 : decode cL_law 1261 = .ok (.if_icmp .eq 906, 3) := by decide +kernel
theorem dL_law_1266 : decode cL_law 1266 = .ok (.aload_n 1, 1) := by decide +kernel
theorem dL_law_1267 : decode cL_law 1267 = .ok (.aload_n 0, 1) := by decide +kernel
theorem dL_law_1268 : decode cL_law 1268 = .ok (.iload_n 3, 1) := by decide +kernel
theorem dL_law_1269 : decode cL_law 1269 = .ok (.iconst 1, 1) := by decide +kernel
theorem dL_law_1270 : decode cL_law 1270 = .ok (.iadd, 1) := by decide +kernel
theorem dL_law_1271 : decode cL_law 1271 = .ok (.iaload, 1) := by decide +kernel
theorem dL_law_1272 : decode cL_law 1272 = .ok (.invokevirtual 151, 3) := by decide +kernel
theorem dL_law_1275 : decode cL_law 1275 = .ok (.aload_n 2, 1) := by decide +kernel
theorem dL_law_1276 : decode cL_law 1276 = .ok (.aload_n 0, 1) := by decide +kernel
theorem dL_law_1277 : decode cL_law 1277 = .ok (.iload_n 3, 1) := by decide +kernel
theorem dL_law_1278 : decode cL_law 1278 = .ok (.iconst 1, 1) := by decide +kernel
theorem dL_law_1279 : decode cL_law 1279 = .ok (.iadd, 1) := by decide +kernel
theorem dL_law_1280 : decode cL_law 1280 = .ok (.iaload, 1) := by decide +kernel
theorem dL_law_1281 : decode cL_law 1281 = .ok (.invokevirtual 154, 3) := by decide +kernel
theorem dL_law_1284 : decode cL_law 1284 = .ok (.if_icmp .eq 883, 3) := by decide +kernel
theorem dL_law_1289 : decode cL_law 1289 = .ok (.aload_n 1, 1) := by decide +kernel
theorem dL_law_1290 : decode cL_law 1290 = .ok (.aload_n 0, 1) := by decide +kernel
theorem dL_law_1291 : decode cL_law 1291 = .ok (.iload_n 3, 1) := by decide +kernel
theorem dL_law_1292 : decode cL_law 1292 = .ok (.iconst 1, 1) := by decide +kernel
theorem dL_law_1293 : decode cL_law 1293 = .ok (.iadd, 1) := by decide +kernel
theorem dL_law_1294 : decode cL_law 1294 = .ok (.iaload, 1) := by decide +kernel
theorem dL_law_1295 : decode cL_law 1295 = .ok (.aload_n 0, 1) := by decide +kernel
theorem dL_law_1296 : decode cL_law 1296 = .ok (.iload_n 3, 1) := by decide +kernel
theorem dL_law_1297 : decode cL_law 1297 = .ok (.iconst 2, 1) := by decide +kernel
theorem dL_law_1298 : decode cL_law 1298 = .ok (.iadd, 1) := by decide +kernel
theorem dL_law_1299 : decode cL_law 1299 = .ok (.iaload, 1) := by decide +kernel
theorem dL_law_1300 : decode cL_law 1300 = .ok (.invokevirtual 155, 3) := by decide +kernel
theorem dL_law_1303 : decode cL_law 1303 = .ok (.aload_n 2, 1) := by decide +kernel
theorem dL_law_1304 : decode cL_law 1304 = .ok (.aload_n 0, 1) := by decide +kernel
theorem dL_law_1305 : decode cL_law 1305 = .ok (.iload_n 3, 1) := by decide +kernel
theorem dL_law_1306 : decode cL_law 1306 = .ok (.iconst 1, 1) := by decide +kernel
theorem dL_law_1307 : decode cL_law 1307 = .ok (.iadd, 1) := by decide +kernel
theorem dL_law_1308 : decode cL_law 1308 = .ok (.iaload, 1) := by decide +kernel
theorem dL_law_1309 : decode cL_law 1309 = .ok (.aload_n 0, 1) := by decide +kernel
theorem dL_law_1310 : decode cL_law 1310 = .ok (.iload_n 3, 1) := by decide +kernel
theorem dL_law_1311 : decode cL_law 1311 = .ok (.iconst 2, 1) := by decide +kernel
theorem dL_law_1312 : decode cL_law 1312 = .ok (.iadd, 1) := by decide +kernel
theorem dL_law_1313 : decode cL_law 1313 = .ok (.iaload, 1) := by decide +kernel
theorem dL_law_1314 : decode cL_law 1314 = .ok (.invokevirtual 158, 3) := by decide +kernel
theorem dL_law_1317 : decode cL_law 1317 = .ok (.if_icmp .eq 850, 3) := by decide +kernel
theorem dL_law_1322 : decode cL_law 1322 = .ok (.aload_n 1, 1) := by decide +kernel
theorem dL_law_1323 : decode cL_law 1323 = .ok (.aload_n 0, 1) := by decide +kernel
theorem dL_law_1324 : decode cL_law 1324 = .ok (.iload_n 3, 1) := by decide +kernel
theorem dL_law_1325 : decode cL_law 1325 = .ok (.iconst 1, 1) := by decide +kernel
theorem dL_law_1326 : decode cL_law 1326 = .ok (.iadd, 1) := by decide +kernel
theorem dL_law_1327 : decode cL_law 1327 = .ok (.iaload, 1) := by decide +kernel
theorem dL_law_1328 : decode cL_law 1328 = .ok (.aload_n 0, 1) := by decide +kernel
theorem dL_law_1329 : decode cL_law 1329 = .ok (.iload_n 3, 1) := by decide +kernel
theorem dL_law_1330 : decode cL_law 1330 = .ok (.iconst 2, 1) := by decide +kernel
theorem dL_law_1331 : decode cL_law 1331 = .ok (.iadd, 1) := by decide +kernel
theorem dL_law_1332 : decode cL_law 1332 = .ok (.iaload, 1) := by decide +kernel
theorem dL_law_1333 : decode cL_law 1333 = .ok (.invokevirtual 159, 3) := by decide +kernel
theorem dL_law_1336 : decode cL_law 1336 = .ok (.aload_n 2, 1) := by decide +kernel
theorem dL_law_1337 : decode cL_law 1337 = .ok (.aload_n 0, 1) := by decide +kernel
theorem dL_law_1338 : decode cL_law 1338 = .ok (.iload_n 3, 1) := by decide +kernel
theorem dL_law_1339 : decode cL_law 1339 = .ok (.iconst 1, 1) := by decide +kernel
theorem dL_law_1340 : decode cL_law 1340 = .ok (.iadd, 1) := by decide +kernel
theorem dL_law_1341 : decode cL_law 1341 = .ok (.iaload, 1) := by decide +kernel
theorem dL_law_1342 : decode cL_law 1342 = .ok (.aload_n 0, 1) := by decide +kernel
theorem dL_law_1343 : decode cL_law 1343 = .ok (.iload_n 3, 1) := by decide +kernel
theorem dL_law_1344 : decode cL_law 1344 = .ok (.iconst 2, 1) := by decide +kernel
theorem dL_law_1345 : decode cL_law 1345 = .ok (.iadd, 1) := by decide +kernel
theorem dL_law_1346 : decode cL_law 1346 = .ok (.iaload, 1) := by decide +kernel
theorem dL_law_1347 : decode cL_law 1347 = .ok (.invokevirtual 162, 3) := by decide +kernel
theorem dL_law_1350 : decode cL_law 1350 = .ok (.if_icmp .eq 817, 3) := by decide +kernel
theorem dL_law_1355 : decode cL_law 1355 = .ok (.aload_n 1, 1) := by decide +kernel
theorem dL_law_1356 : decode cL_law 1356 = .ok (.invokevirtual 163, 3) := by decide +kernel
theorem dL_law_1359 : decode cL_law 1359 = .ok (.aload_n 2, 1) := by decide +kernel
theorem dL_law_1360 : decode cL_law 1360 = .ok (.invokevirtual 166, 3) := by decide +kernel
theorem dL_law_1363 : decode cL_law 1363 = .ok (.if_icmp .eq 804, 3) := by decide +kernel
theorem dL_law_1368 : decode cL_law 1368 = .ok (.aload_n 1, 1) := by decide +kernel
theorem dL_law_1369 : decode cL_law 1369 = .ok (.aload_n 0, 1) := by decide +kernel
theorem dL_law_1370 : decode cL_law 1370 = .ok (.iload_n 3, 1) := by decide +kernel
theorem dL_law_1371 : decode cL_law 1371 = .ok (.iconst 1, 1) := by decide +kernel
theorem dL_law_1372 : decode cL_law 1372 = .ok (.iadd, 1) := by decide +kernel
theorem dL_law_1373 : decode cL_law 1373 = .ok (.iaload, 1) := by decide +kernel
theorem dL_law_1374 : decode cL_law 1374 = .ok (.invokevirtual 167, 3) := by decide +kernel
theorem dL_law_1377 : decode cL_law 1377 = .ok (.aload_n 2, 1) := by decide +kernel
theorem dL_law_1378 : decode cL_law 1378 = .ok (.aload_n 0, 1) := by decide +kernel
theorem dL_law_1379 : decode cL_law 1379 = .ok (.iload_n 3, 1) := by decide +kernel
theorem dL_law_1380 : decode cL_law 1380 = .ok (.iconst 1, 1) := by decide +kernel
theorem dL_law_1381 : decode cL_law 1381 = .ok (.iadd, 1) := by decide +kernel
theorem dL_law_1382 : decode cL_law 1382 = .ok (.iaload, 1) := by decide +kernel
theorem dL_law_1383 : decode cL_law 1383 = .ok (.invokevirtual 170, 3) := by decide +kernel
theorem dL_law_1386 : decode cL_law 1386 = .ok (.if_icmp .eq 781, 3) := by decide +kernel
theorem dL_law_1391 : decode cL_law 1391 = .ok (.aload_n 1, 1) := by decide +kernel
theorem dL_law_1392 : decode cL_law 1392 = .ok (.aload_n 0, 1) := by decide +kernel
theorem dL_law_1393 : decode cL_law 1393 = .ok (.iload_n 3, 1) := by decide +kernel
theorem dL_law_1394 : decode cL_law 1394 = .ok (.iconst 1, 1) := by decide +kernel
theorem dL_law_1395 : decode cL_law 1395 = .ok (.iadd, 1) := by decide +kernel
theorem dL_law_1396 : decode cL_law 1396 = .ok (.iaload, 1) := by decide +kernel
theorem dL_law_1397 : decode cL_law 1397 = .ok (.aload_n 0, 1) := by decide +kernel
theorem dL_law_1398 : decode cL_law 1398 = .ok (.iload_n 3, 1) := by decide +kernel
theorem dL_law_1399 : decode cL_law 1399 = .ok (.iconst 2, 1) := by decide +kernel
theorem dL_law_1400 : decode cL_law 1400 = .ok (.iadd, 1) := by decide +kernel
theorem dL_law_1401 : decode cL_law 1401 = .ok (.iaload, 1) := by decide +kernel
theorem dL_law_1402 : decode cL_law 1402 = .ok (.invokevirtual 171, 3) := by decide +kernel
theorem dL_law_1405 : decode cL_law 1405 = .ok (.aload_n 2, 1) := by decide +kernel
theorem dL_law_1406 : decode cL_law 1406 = .ok (.aload_n 0, 1) := by decide +kernel
theorem dL_law_1407 : decode cL_law 1407 = .ok (.iload_n 3, 1) := by decide +kernel
theorem dL_law_1408 : decode cL_law 1408 = .ok (.iconst 1, 1) := by decide +kernel
theorem dL_law_1409 : decode cL_law 1409 = .ok (.iadd, 1) := by decide +kernel
theorem dL_law_1410 : decode cL_law 1410 = .ok (.iaload, 1) := by decide +kernel
theorem dL_law_1411 : decode cL_law 1411 = .ok (.aload_n 0, 1) := by decide +kernel
theorem dL_law_1412 : decode cL_law 1412 = .ok (.iload_n 3, 1) := by decide +kernel
theorem dL_law_1413 : decode cL_law 1413 = .ok (.iconst 2, 1) := by decide +kernel
theorem dL_law_1414 : decode cL_law 1414 = .ok (.iadd, 1) := by decide +kernel
theorem dL_law_1415 : decode cL_law 1415 = .ok (.iaload, 1) := by decide +kernel
theorem dL_law_1416 : decode cL_law 1416 = .ok (.invokevirtual 174, 3) := by decide +kernel
theorem dL_law_1419 : decode cL_law 1419 = .ok (.if_icmp .eq 748, 3) := by decide +kernel
theorem dL_law_1424 : decode cL_law 1424 = .ok (.aload_n 1, 1) := by decide +kernel
theorem dL_law_1425 : decode cL_law 1425 = .ok (.aload_n 0, 1) := by decide +kernel
theorem dL_law_1426 : decode cL_law 1426 = .ok (.iload_n 3, 1) := by decide +kernel
theorem dL_law_1427 : decode cL_law 1427 = .ok (.iconst 1, 1) := by decide +kernel
theorem dL_law_1428 : decode cL_law 1428 = .ok (.iadd, 1) := by decide +kernel
theorem dL_law_1429 : decode cL_law 1429 = .ok (.iaload, 1) := by decide +kernel
theorem dL_law_1430 : decode cL_law 1430 = .ok (.invokevirtual 175, 3) := by decide +kernel
theorem dL_law_1433 : decode cL_law 1433 = .ok (.aload_n 2, 1) := by decide +kernel
theorem dL_law_1434 : decode cL_law 1434 = .ok (.aload_n 0, 1) := by decide +kernel
theorem dL_law_1435 : decode cL_law 1435 = .ok (.iload_n 3, 1) := by decide +kernel
theorem dL_law_1436 : decode cL_law 1436 = .ok (.iconst 1, 1) := by decide +kernel
theorem dL_law_1437 : decode cL_law 1437 = .ok (.iadd, 1) := by decide +kernel
theorem dL_law_1438 : decode cL_law 1438 = .ok (.iaload, 1) := by decide +kernel
theorem dL_law_1439 : decode cL_law 1439 = .ok (.invokevirtual 178, 3) := by decide +kernel
theorem dL_law_1442 : decode cL_law 1442 = .ok (.if_icmp .eq 725, 3) := by decide +kernel
theorem dL_law_1447 : decode cL_law 1447 = .ok (.aload_n 1, 1) := by decide +kernel
theorem dL_law_1448 : decode cL_law 1448 = .ok (.aload_n 0, 1) := by decide +kernel
theorem dL_law_1449 : decode cL_law 1449 = .ok (.iload_n 3, 1) := by decide +kernel
theorem dL_law_1450 : decode cL_law 1450 = .ok (.iconst 1, 1) := by decide +kernel
theorem dL_law_1451 : decode cL_law 1451 = .ok (.iadd, 1) := by decide +kernel
theorem dL_law_1452 : decode cL_law 1452 = .ok (.iaload, 1) := by decide +kernel
theorem dL_law_1453 : decode cL_law 1453 = .ok (.aload_n 0, 1) := by decide +kernel
theorem dL_law_1454 : decode cL_law 1454 = .ok (.iload_n 3, 1) := by decide +kernel
theorem dL_law_1455 : decode cL_law 1455 = .ok (.iconst 2, 1) := by decide +kernel
theorem dL_law_1456 : decode cL_law 1456 = .ok (.iadd, 1) := by decide +kernel
theorem dL_law_1457 : decode cL_law 1457 = .ok (.iaload, 1) := by decide +kernel
theorem dL_law_1458 : decode cL_law 1458 = .ok (.invokevirtual 179, 3) := by decide +kernel
theorem dL_law_1461 : decode cL_law 1461 = .ok (.aload_n 2, 1) := by decide +kernel
theorem dL_law_1462 : decode cL_law 1462 = .ok (.aload_n 0, 1) := by decide +kernel
theorem dL_law_1463 : decode cL_law 1463 = .ok (.iload_n 3, 1) := by decide +kernel
theorem dL_law_1464 : decode cL_law 1464 = .ok (.iconst 1, 1) := by decide +kernel
theorem dL_law_1465 : decode cL_law 1465 = .ok (.iadd, 1) := by decide +kernel
theorem dL_law_1466 : decode cL_law 1466 = .ok (.iaload, 1) := by decide +kernel
theorem dL_law_1467 : decode cL_law 1467 = .ok (.aload_n 0, 1) := by decide +kernel
theorem dL_law_1468 : decode cL_law 1468 = .ok (.iload_n 3, 1) := by decide +kernel
theorem dL_law_1469 : decode cL_law 1469 = .ok (.iconst 2, 1) := by decide +kernel
theorem dL_law_1470 : decode cL_law 1470 = .ok (.iadd, 1) := by decide +kernel
theorem dL_law_1471 : decode cL_law 1471 = .ok (.iaload, 1) := by decide +kernel
theorem dL_law_1472 : decode cL_law 1472 = .ok (.invokevirtual 182, 3) := by decide +kernel
theorem dL_law_1475 : decode cL_law 1475 = .ok (.lcmp, 1) := by decide +kernel
theorem dL_law_1476 : decode cL_law 1476 = .ok (.ifCond .eq 691, 3) := by decide +kernel
theorem dL_law_1481 : decode cL_law 1481 = .ok (.aload_n 1, 1) := by decide +kernel
theorem dL_law_1482 : decode cL_law 1482 = .ok (.aload_n 0, 1) := by decide +kernel
theorem dL_law_1483 : decode cL_law 1483 = .ok (.iload_n 3, 1) := by decide +kernel
theorem dL_law_1484 : decode cL_law 1484 = .ok (.iconst 1, 1) := by decide +kernel
theorem dL_law_1485 : decode cL_law 1485 = .ok (.iadd, 1) := by decide +kernel
theorem dL_law_1486 : decode cL_law 1486 = .ok (.iaload, 1) := by decide +kernel
theorem dL_law_1487 : decode cL_law 1487 = .ok (.invokevirtual 183, 3) := by decide +kernel
theorem dL_law_1490 : decode cL_law 1490 = .ok (.aload_n 2, 1) := by decide +kernel
theorem dL_law_1491 : decode cL_law 1491 = .ok (.aload_n 0, 1) := by decide +kernel
theorem dL_law_1492 : decode cL_law 1492 = .ok (.iload_n 3, 1) := by decide +kernel
theorem dL_law_1493 : decode cL_law 1493 = .ok (.iconst 1, 1) := by decide +kernel
theorem dL_law_1494 : decode cL_law 1494 = .ok (.iadd, 1) := by decide +kernel
theorem dL_law_1495 : decode cL_law 1495 = .ok (.iaload, 1) := by decide +kernel
theorem dL_law_1496 : decode cL_law 1496 = .ok (.invokevirtual 187, 3) := by decide +kernel
theorem dL_law_1499 : decode cL_law 1499 = .ok (.lcmp, 1) := by decide +kernel
theorem dL_law_1500 : decode cL_law 1500 = .ok (.ifCond .eq 667, 3) := by decide +kernel
theorem dL_law_1505 : decode cL_law 1505 = .ok (.aload_n 1, 1) := by decide +kernel
theorem dL_law_1506 : decode cL_law 1506 = .ok (.invokevirtual 188, 3) := by decide +kernel
theorem dL_law_1509 : decode cL_law 1509 = .ok (.aload_n 2, 1) := by decide +kernel
theorem dL_law_1510 : decode cL_law 1510 = .ok (.invokevirtual 191, 3) := by decide +kernel
theorem dL_law_1513 : decode cL_law 1513 = .ok (.if_icmp .eq 654, 3) := by decide +kernel
theorem dL_law_1518 : decode cL_law 1518 = .ok (.aload_n 1, 1) := by decide +kernel
theorem dL_law_1519 : decode cL_law 1519 = .ok (.invokevirtual 192, 3) := by decide +kernel
theorem dL_law_1522 : decode cL_law 1522 = .ok (.aload_n 2, 1) := by decide +kernel
theorem dL_law_1523 : decode cL_law 1523 = .ok (.invokevirtual 195, 3) := by decide +kernel
theorem dL_law_1526 : decode cL_law 1526 = .ok (.if_icmp .eq 641, 3) := by decide +kernel
theorem dL_law_1531 : decode cL_law 1531 = .ok (.aload_n 1, 1) := by decide +kernel
theorem dL_law_1532 : decode cL_law 1532 = .ok (.invokevirtual 196, 3) := by decide +kernel
theorem dL_law_1535 : decode cL_law 1535 = .ok (.aload_n 2, 1) := by decide +kernel
theorem dL_law_1536 : decode cL_law 1536 = .ok (.invokevirtual 199, 3) := by decide +kernel
theorem dL_law_1539 : decode cL_law 1539 = .ok (.if_icmp .eq 628, 3) := by decide +kernel
theorem dL_law_1544 : decode cL_law 1544 = .ok (.aload_n 1, 1) := by decide +kernel
theorem dL_law_1545 : decode cL_law 1545 = .ok (.aload_n 0, 1) := by decide +kernel
theorem dL_law_1546 : decode cL_law 1546 = .ok (.iload_n 3, 1) := by decide +kernel
theorem dL_law_1547 : decode cL_law 1547 = .ok (.iconst 1, 1) := by decide +kernel
theorem dL_law_1548 : decode cL_law 1548 = .ok (.iadd, 1) := by decide +kernel
theorem dL_law_1549 : decode cL_law 1549 = .ok (.iaload, 1) := by decide +kernel
theorem dL_law_1550 : decode cL_law 1550 = .ok (.invokevirtual 200, 3) := by decide +kernel
theorem dL_law_1553 : decode cL_law 1553 = .ok (.aload_n 2, 1) := by decide +kernel
theorem dL_law_1554 : decode cL_law 1554 = .ok (.aload_n 0, 1) := by decide +kernel
theorem dL_law_1555 : decode cL_law 1555 = .ok (.iload_n 3, 1) := by decide +kernel
theorem dL_law_1556 : decode cL_law 1556 = .ok (.iconst 1, 1) := by decide +kernel
theorem dL_law_1557 : decode cL_law 1557 = .ok (.iadd, 1) := by decide +kernel
theorem dL_law_1558 : decode cL_law 1558 = .ok (.iaload, 1) := by decide +kernel
theorem dL_law_1559 : decode cL_law 1559 = .ok (.invokevirtual 203, 3) := by decide +kernel
theorem dL_law_1562 : decode cL_law 1562 = .ok (.if_icmp .eq 605, 3) := by decide +kernel
theorem dL_law_1567 : decode cL_law 1567 = .ok (.aload_n 1, 1) := by decide +kernel
theorem dL_law_1568 : decode cL_law 1568 = .ok (.aload_n 0, 1) := by decide +kernel
theorem dL_law_1569 : decode cL_law 1569 = .ok (.iload_n 3, 1) := by decide +kernel
theorem dL_law_1570 : decode cL_law 1570 = .ok (.iconst 1, 1) := by decide +kernel
theorem dL_law_1571 : decode cL_law 1571 = .ok (.iadd, 1) := by decide +kernel
theorem dL_law_1572 : decode cL_law 1572 = .ok (.iaload, 1) := by decide +kernel
theorem dL_law_1573 : decode cL_law 1573 = .ok (.invokevirtual 204, 3) := by decide +kernel
theorem dL_law_1576 : decode cL_law 1576 = .ok (.aload_n 2, 1) := by decide +kernel
theorem dL_law_1577 : decode cL_law 1577 = .ok (.aload_n 0, 1) := by decide +kernel
theorem dL_law_1578 : decode cL_law 1578 = .ok (.iload_n 3, 1) := by decide +kernel
theorem dL_law_1579 : decode cL_law 1579 = .ok (.iconst 1, 1) := by decide +kernel
theorem dL_law_1580 : decode cL_law 1580 = .ok (.iadd, 1) := by decide +kernel
theorem dL_law_1581 : decode cL_law 1581 = .ok (.iaload, 1) := by decide +kernel
theorem dL_law_1582 : decode cL_law 1582 = .ok (.invokevirtual 207, 3) := by decide +kernel
theorem dL_law_1585 : decode cL_law 1585 = .ok (.if_icmp .eq 582, 3) := by decide +kernel
theorem dL_law_1590 : decode cL_law 1590 = .ok (.aload_n 1, 1) := by decide +kernel
theorem dL_law_1591 : decode cL_law 1591 = .ok (.aload_n 0, 1) := by decide +kernel
theorem dL_law_1592 : decode cL_law 1592 = .ok (.iload_n 3, 1) := by decide +kernel
theorem dL_law_1593 : decode cL_law 1593 = .ok (.iconst 1, 1) := by decide +kernel
theorem dL_law_1594 : decode cL_law 1594 = .ok (.iadd, 1) := by decide +kernel
theorem dL_law_1595 : decode cL_law 1595 = .ok (.iaload, 1) := by decide +kernel
theorem dL_law_1596 : decode cL_law 1596 = .ok (.invokevirtual 208, 3) := by decide +kernel
theorem dL_law_1599 : decode cL_law 1599 = .ok (.aload_n 2, 1) := by decide +kernel
theorem dL_law_1600 : decode cL_law 1600 = .ok (.aload_n 0, 1) := by decide +kernel
theorem dL_law_1601 : decode cL_law 1601 = .ok (.iload_n 3, 1) := by decide +kernel
theorem dL_law_1602 : decode cL_law 1602 = .ok (.iconst 1, 1) := by decide +kernel
theorem dL_law_1603 : decode cL_law 1603 = .ok (.iadd, 1) := by decide +kernel
theorem dL_law_1604 : decode cL_law 1604 = .ok (.iaload, 1) := by decide +kernel
theorem dL_law_1605 : decode cL_law 1605 = .ok (.invokevirtual 211, 3) := by decide +kernel
theorem dL_law_1608 : decode cL_law 1608 = .ok (.if_icmp .eq 559, 3) := by decide +kernel
theorem dL_law_1613 : decode cL_law 1613 = .ok (.aload_n 1, 1) := by decide +kernel
theorem dL_law_1614 : decode cL_law 1614 = .ok (.aload_n 0, 1) := by decide +kernel
theorem dL_law_1615 : decode cL_law 1615 = .ok (.iload_n 3, 1) := by decide +kernel
theorem dL_law_1616 : decode cL_law 1616 = .ok (.iconst 1, 1) := by decide +kernel
theorem dL_law_1617 : decode cL_law 1617 = .ok (.iadd, 1) := by decide +kernel
theorem dL_law_1618 : decode cL_law 1618 = .ok (.iaload, 1) := by decide +kernel
theorem dL_law_1619 : decode cL_law 1619 = .ok (.aload_n 0, 1) := by decide +kernel
theorem dL_law_1620 : decode cL_law 1620 = .ok (.iload_n 3, 1) := by decide +kernel
theorem dL_law_1621 : decode cL_law 1621 = .ok (.iconst 2, 1) := by decide +kernel
theorem dL_law_1622 : decode cL_law 1622 = .ok (.iadd, 1) := by decide +kernel
theorem dL_law_1623 : decode cL_law 1623 = .ok (.iaload, 1) := by decide +kernel
theorem dL_law_1624 : decode cL_law 1624 = .ok (.invokevirtual 212, 3) := by decide +kernel
theorem dL_law_1627 : decode cL_law 1627 = .ok (.aload_n 2, 1) := by decide +kernel
theorem dL_law_1628 : decode cL_law 1628 = .ok (.aload_n 0, 1) := by decide +kernel
theorem dL_law_1629 : decode cL_law 1629 = .ok (.iload_n 3, 1) := by decide +kernel
theorem dL_law_1630 : decode cL_law 1630 = .ok (.iconst 1, 1) := by decide +kernel
theorem dL_law_1631 : decode cL_law 1631 = .ok (.iadd, 1) := by decide +kernel
theorem dL_law_1632 : decode cL_law 1632 = .ok (.iaload, 1) := by decide +kernel
theorem dL_law_1633 : decode cL_law 1633 = .ok (.aload_n 0, 1) := by decide +kernel
theorem dL_law_1634 : decode cL_law 1634 = .ok (.iload_n 3, 1) := by decide +kernel
theorem dL_law_1635 : decode cL_law 1635 = .ok (.iconst 2, 1) := by decide +kernel
theorem dL_law_1636 : decode cL_law 1636 = .ok (.iadd, 1) := by decide +kernel
theorem dL_law_1637 : decode cL_law 1637 = .ok (.iaload, 1) := by decide +kernel
theorem dL_law_1638 : decode cL_law 1638 = .ok (.invokevirtual 215, 3) := by decide +kernel
theorem dL_law_1641 : decode cL_law 1641 = .ok (.lcmp, 1) := by decide +kernel
theorem dL_law_1642 : decode cL_law 1642 = .ok (.ifCond .eq 525, 3) := by decide +kernel
theorem dL_law_1647 : decode cL_law 1647 = .ok (.aload_n 1, 1) := by decide +kernel
theorem dL_law_1648 : decode cL_law 1648 = .ok (.aload_n 0, 1) := by decide +kernel
theorem dL_law_1649 : decode cL_law 1649 = .ok (.iload_n 3, 1) := by decide +kernel
theorem dL_law_1650 : decode cL_law 1650 = .ok (.iconst 1, 1) := by decide +kernel
theorem dL_law_1651 : decode cL_law 1651 = .ok (.iadd, 1) := by decide +kernel
theorem dL_law_1652 : decode cL_law 1652 = .ok (.iaload, 1) := by decide +kernel
theorem dL_law_1653 : decode cL_law 1653 = .ok (.aload_n 0, 1) := by decide +kernel
theorem dL_law_1654 : decode cL_law 1654 = .ok (.iload_n 3, 1) := by decide +kernel
theorem dL_law_1655 : decode cL_law 1655 = .ok (.iconst 2, 1) := by decide +kernel
theorem dL_law_1656 : decode cL_law 1656 = .ok (.iadd, 1) := by decide +kernel
theorem dL_law_1657 : decode cL_law 1657 = .ok (.iaload, 1) := by decide +kernel
theorem dL_law_1658 : decode cL_law 1658 = .ok (.aload_n 0, 1) := by decide +kernel
theorem dL_law_1659 : decode cL_law 1659 = .ok (.iload_n 3, 1) := by decide +kernel
theorem dL_law_1660 : decode cL_law 1660 = .ok (.iconst 3, 1) := by decide +kernel
theorem dL_law_1661 : decode cL_law 1661 = .ok (.iadd, 1) := by decide +kernel
theorem dL_law_1662 : decode cL_law 1662 = .ok (.iaload, 1) := by decide +kernel
theorem dL_law_1663 : decode cL_law 1663 = .ok (.invokevirtual 216, 3) := by decide +kernel
theorem dL_law_1666 : decode cL_law 1666 = .ok (.aload_n 2, 1) := by decide +kernel
theorem dL_law_1667 : decode cL_law 1667 = .ok (.aload_n 0, 1) := by decide +kernel
theorem dL_law_1668 : decode cL_law 1668 = .ok (.iload_n 3, 1) := by decide +kernel
theorem dL_law_1669 : decode cL_law 1669 = .ok (.iconst 1, 1) := by decide +kernel
theorem dL_law_1670 : decode cL_law 1670 = .ok (.iadd, 1) := by decide +kernel
theorem dL_law_1671 : decode cL_law 1671 = .ok (.iaload, 1) := by decide +kernel
theorem dL_law_1672 : decode cL_law 1672 = .ok (.aload_n 0, 1) := by decide +kernel
theorem dL_law_1673 : decode cL_law 1673 = .ok (.iload_n 3, 1) := by decide +kernel
theorem dL_law_1674 : decode cL_law 1674 = .ok (.iconst 2, 1) := by decide +kernel
theorem dL_law_1675 : decode cL_law 1675 = .ok (.iadd, 1) := by decide +kernel
theorem dL_law_1676 : decode cL_law 1676 = .ok (.iaload, 1) := by decide +kernel
theorem dL_law_1677 : decode cL_law 1677 = .ok (.aload_n 0, 1) := by decide +kernel
theorem dL_law_1678 : decode cL_law 1678 = .ok (.iload_n 3, 1) := by decide +kernel
theorem dL_law_1679 : decode cL_law 1679 = .ok (.iconst 3, 1) := by decide +kernel
theorem dL_law_1680 : decode cL_law 1680 = .ok (.iadd, 1) := by decide +kernel
theorem dL_law_1681 : decode cL_law 1681 = .ok (.iaload, 1) := by decide +kernel
theorem dL_law_1682 : decode cL_law 1682 = .ok (.invokevirtual 220, 3) := by decide +kernel
theorem dL_law_1685 : decode cL_law 1685 = .ok (.lcmp, 1) := by decide +kernel
theorem dL_law_1686 : decode cL_law 1686 = .ok (.ifCond .eq 481, 3) := by decide +kernel
theorem dL_law_1691 : decode cL_law 1691 = .ok (.aload_n 1, 1) := by decide +kernel
theorem dL_law_1692 : decode cL_law 1692 = .ok (.aload_n 0, 1) := by decide +kernel
theorem dL_law_1693 : decode cL_law 1693 = .ok (.iload_n 3, 1) := by decide +kernel
theorem dL_law_1694 : decode cL_law 1694 = .ok (.iconst 1, 1) := by decide +kernel
theorem dL_law_1695 : decode cL_law 1695 = .ok (.iadd, 1) := by decide +kernel
theorem dL_law_1696 : decode cL_law 1696 = .ok (.iaload, 1) := by decide +kernel
theorem dL_law_1697 : decode cL_law 1697 = .ok (.aload_n 0, 1) := by decide +kernel
theorem dL_law_1698 : decode cL_law 1698 = .ok (.iload_n 3, 1) := by decide +kernel
theorem dL_law_1699 : decode cL_law 1699 = .ok (.iconst 2, 1) := by decide +kernel
theorem dL_law_1700 : decode cL_law 1700 = .ok (.iadd, 1) := by decide +kernel
theorem dL_law_1701 : decode cL_law 1701 = .ok (.iaload, 1) := by decide +kernel
theorem dL_law_1702 : decode cL_law 1702 = .ok (.aload_n 0, 1) := by decide +kernel
theorem dL_law_1703 : decode cL_law 1703 = .ok (.iload_n 3, 1) := by decide +kernel
theorem dL_law_1704 : decode cL_law 1704 = .ok (.iconst 3, 1) := by decide +kernel
theorem dL_law_1705 : decode cL_law 1705 = .ok (.iadd, 1) := by decide +kernel
theorem dL_law_1706 : decode cL_law 1706 = .ok (.iaload, 1) := by decide +kernel
theorem dL_law_1707 : decode cL_law 1707 = .ok (.invokevirtual 221, 3) := by decide +kernel
theorem dL_law_1710 : decode cL_law 1710 = .ok (.aload_n 2, 1) := by decide +kernel
theorem dL_law_1711 : decode cL_law 1711 = .ok (.aload_n 0, 1) := by decide +kernel
theorem dL_law_1712 : decode cL_law 1712 = .ok (.iload_n 3, 1) := by decide +kernel
theorem dL_law_1713 : decode cL_law 1713 = .ok (.iconst 1, 1) := by decide +kernel
theorem dL_law_1714 : decode cL_law 1714 = .ok (.iadd, 1) := by decide +kernel
theorem dL_law_1715 : decode cL_law 1715 = .ok (.iaload, 1) := by decide +kernel
theorem dL_law_1716 : decode cL_law 1716 = .ok (.aload_n 0, 1) := by decide +kernel
theorem dL_law_1717 : decode cL_law 1717 = .ok (.iload_n 3, 1) := by decide +kernel
theorem dL_law_1718 : decode cL_law 1718 = .ok (.iconst 2, 1) := by decide +kernel
theorem dL_law_1719 : decode cL_law 1719 = .ok (.iadd, 1) := by decide +kernel
theorem dL_law_1720 : decode cL_law 1720 = .ok (.iaload, 1) := by decide +kernel
theorem dL_law_1721 : decode cL_law 1721 = .ok (.aload_n 0, 1) := by decide +kernel
theorem dL_law_1722 : decode cL_law 1722 = .ok (.iload_n 3, 1) := by decide +kernel
theorem dL_law_1723 : decode cL_law 1723 = .ok (.iconst 3, 1) := by decide +kernel
theorem dL_law_1724 : decode cL_law 1724 = .ok (.iadd, 1) := by decide +kernel
theorem dL_law_1725 : decode cL_law 1725 = .ok (.iaload, 1) := by decide +kernel
theorem dL_law_1726 : decode cL_law 1726 = .ok (.invokevirtual 224, 3) := by decide +kernel
theorem dL_law_1729 : decode cL_law 1729 = .ok (.if_icmp .eq 438, 3) := by decide +kernel
theorem dL_law_1734 : decode cL_law 1734 = .ok (.aload_n 1, 1) := by decide +kernel
theorem dL_law_1735 : decode cL_law 1735 = .ok (.aload_n 0, 1) := by decide +kernel
theorem dL_law_1736 : decode cL_law 1736 = .ok (.iload_n 3, 1) := by decide +kernel
theorem dL_law_1737 : decode cL_law 1737 = .ok (.iconst 1, 1) := by decide +kernel
theorem dL_law_1738 : decode cL_law 1738 = .ok (.iadd, 1) := by decide +kernel
theorem dL_law_1739 : decode cL_law 1739 = .ok (.iaload, 1) := by decide +kernel
theorem dL_law_1740 : decode cL_law 1740 = .ok (.aload_n 0, 1) := by decide +kernel
theorem dL_law_1741 : decode cL_law 1741 = .ok (.iload_n 3, 1) := by decide +kernel
theorem dL_law_1742 : decode cL_law 1742 = .ok (.iconst 2, 1) := by decide +kernel
theorem dL_law_1743 : decode cL_law 1743 = .ok (.iadd, 1) := by decide +kernel
theorem dL_law_1744 : decode cL_law 1744 = .ok (.iaload, 1) := by decide +kernel
theorem dL_law_1745 : decode cL_law 1745 = .ok (.aload_n 0, 1) := by decide +kernel
theorem dL_law_1746 : decode cL_law 1746 = .ok (.iload_n 3, 1) := by decide +kernel
theorem dL_law_1747 : decode cL_law 1747 = .ok (.iconst 3, 1) := by decide +kernel
theorem dL_law_1748 : decode cL_law 1748 = .ok (.iadd, 1) := by decide +kernel
theorem dL_law_1749 : decode cL_law 1749 = .ok (.iaload, 1) := by decide +kernel
theorem dL_law_1750 : decode cL_law 1750 = .ok (.invokevirtual 225, 3) := by decide +kernel
theorem dL_law_1753 : decode cL_law 1753 = .ok (.aload_n 2, 1) := by decide +kernel
theorem dL_law_1754 : decode cL_law 1754 = .ok (.aload_n 0, 1) := by decide +kernel
theorem dL_law_1755 : decode cL_law 1755 = .ok (.iload_n 3, 1) := by decide +kernel
theorem dL_law_1756 : decode cL_law 1756 = .ok (.iconst 1, 1) := by decide +kernel
theorem dL_law_1757 : decode cL_law 1757 = .ok (.iadd, 1) := by decide +kernel
theorem dL_law_1758 : decode cL_law 1758 = .ok (.iaload, 1) := by decide +kernel
theorem dL_law_1759 : decode cL_law 1759 = .ok (.aload_n 0, 1) := by decide +kernel
theorem dL_law_1760 : decode cL_law 1760 = .ok (.iload_n 3, 1) := by decide +kernel
theorem dL_law_1761 : decode cL_law 1761 = .ok (.iconst 2, 1) := by decide +kernel
theorem dL_law_1762 : decode cL_law 1762 = .ok (.iadd, 1) := by decide +kernel
theorem dL_law_1763 : decode cL_law 1763 = .ok (.iaload, 1) := by decide +kernel
theorem dL_law_1764 : decode cL_law 1764 = .ok (.aload_n 0, 1) := by decide +kernel
theorem dL_law_1765 : decode cL_law 1765 = .ok (.iload_n 3, 1) := by decide +kernel
theorem dL_law_1766 : decode cL_law 1766 = .ok (.iconst 3, 1) := by decide +kernel
theorem dL_law_1767 : decode cL_law 1767 = .ok (.iadd, 1) := by decide +kernel
theorem dL_law_1768 : decode cL_law 1768 = .ok (.iaload, 1) := by decide +kernel
theorem dL_law_1769 : decode cL_law 1769 = .ok (.invokevirtual 228, 3) := by decide +kernel
theorem dL_law_1772 : decode cL_law 1772 = .ok (.if_icmp .eq 395, 3) := by decide +kernel
theorem dL_law_1777 : decode cL_law 1777 = .ok (.aload_n 1, 1) := by decide +kernel
theorem dL_law_1778 : decode cL_law 1778 = .ok (.aload_n 0, 1) := by decide +kernel
theorem dL_law_1779 : decode cL_law 1779 = .ok (.iload_n 3, 1) := by decide +kernel
theorem dL_law_1780 : decode cL_law 1780 = .ok (.iconst 1, 1) := by decide +kernel
theorem dL_law_1781 : decode cL_law 1781 = .ok (.iadd, 1) := by decide +kernel
theorem dL_law_1782 : decode cL_law 1782 = .ok (.iaload, 1) := by decide +kernel
theorem dL_law_1783 : decode cL_law 1783 = .ok (.aload_n 0, 1) := by decide +kernel
theorem dL_law_1784 : decode cL_law 1784 = .ok (.iload_n 3, 1) := by decide +kernel
theorem dL_law_1785 : decode cL_law 1785 = .ok (.iconst 2, 1) := by decide +kernel
theorem dL_law_1786 : decode cL_law 1786 = .ok (.iadd, 1) := by decide +kernel
theorem dL_law_1787 : decode cL_law 1787 = .ok (.iaload, 1) := by decide +kernel
theorem dL_law_1788 : decode cL_law 1788 = .ok (.aload_n 0, 1) := by decide +kernel
theorem dL_law_1789 : decode cL_law 1789 = .ok (.iload_n 3, 1) := by decide +kernel
theorem dL_law_1790 : decode cL_law 1790 = .ok (.iconst 3, 1) := by decide +kernel
theorem dL_law_1791 : decode cL_law 1791 = .ok (.iadd, 1) := by decide +kernel
theorem dL_law_1792 : decode cL_law 1792 = .ok (.iaload, 1) := by decide +kernel
theorem dL_law_1793 : decode cL_law 1793 = .ok (.aload_n 0, 1) := by decide +kernel
theorem dL_law_1794 : decode cL_law 1794 = .ok (.iload_n 3, 1) := by decide +kernel
theorem dL_law_1795 : decode cL_law 1795 = .ok (.iconst 4, 1) := by decide +kernel
theorem dL_law_1796 : decode cL_law 1796 = .ok (.iadd, 1) := by decide +kernel
theorem dL_law_1797 : decode cL_law 1797 = .ok (.iaload, 1) := by decide +kernel
theorem dL_law_1798 : decode cL_law 1798 = .ok (.invokevirtual 229, 3) := by decide +kernel
theorem dL_law_1801 : decode cL_law 1801 = .ok (.aload_n 2, 1) := by decide +kernel
theorem dL_law_1802 : decode cL_law 1802 = .ok (.aload_n 0, 1) := by decide +kernel
theorem dL_law_1803 : decode cL_law 1803 = .ok (.iload_n 3, 1) := by decide +kernel
theorem dL_law_1804 : decode cL_law 1804 = .ok (.iconst 1, 1) := by decide +kernel
theorem dL_law_1805 : decode cL_law 1805 = .ok (.iadd, 1) := by decide +kernel
theorem dL_law_1806 : decode cL_law 1806 = .ok (.iaload, 1) := by decide +kernel
theorem dL_law_1807 : decode cL_law 1807 = .ok (.aload_n 0, 1) := by decide +kernel
theorem dL_law_1808 : decode cL_law 1808 = .ok (.iload_n 3, 1) := by decide +kernel
theorem dL_law_1809 : decode cL_law 1809 = .ok (.iconst 2, 1) := by decide +kernel
theorem dL_law_1810 : decode cL_law 1810 = .ok (.iadd, 1) := by decide +kernel
theorem dL_law_1811 : decode cL_law 1811 = .ok (.iaload, 1) := by decide +kernel
theorem dL_law_1812 : decode cL_law 1812 = .ok (.aload_n 0, 1) := by decide +kernel
theorem dL_law_1813 : decode cL_law 1813 = .ok (.iload_n 3, 1) := by decide +kernel
theorem dL_law_1814 : decode cL_law 1814 = .ok (.iconst 3, 1) := by decide +kernel
theorem dL_law_1815 : decode cL_law 1815 = .ok (.iadd, 1) := by decide +kernel
theorem dL_law_1816 : decode cL_law 1816 = .ok (.iaload, 1) := by decide +kernel
theorem dL_law_1817 : decode cL_law 1817 = .ok (.aload_n 0, 1) := by decide +kernel
theorem dL_law_1818 : decode cL_law 1818 = .ok (.iload_n 3, 1) := by decide +kernel
theorem dL_law_1819 : decode cL_law 1819 = .ok (.iconst 4, 1) := by decide +kernel
theorem dL_law_1820 : decode cL_law 1820 = .ok (.iadd, 1) := by decide +kernel
theorem dL_law_1821 : decode cL_law 1821 = .ok (.iaload, 1) := by decide +kernel
theorem dL_law_1822 : decode cL_law 1822 = .ok (.invokevirtual 233, 3) := by decide +kernel
theorem dL_law_1825 : decode cL_law 1825 = .ok (.if_icmp .eq 342, 3) := by decide +kernel
theorem dL_law_1830 : decode cL_law 1830 = .ok (.aload_n 1, 1) := by decide +kernel
theorem dL_law_1831 : decode cL_law 1831 = .ok (.aload_n 0, 1) := by decide +kernel
theorem dL_law_1832 : decode cL_law 1832 = .ok (.iload_n 3, 1) := by decide +kernel
theorem dL_law_1833 : decode cL_law 1833 = .ok (.iconst 1, 1) := by decide +kernel
theorem dL_law_1834 : decode cL_law 1834 = .ok (.iadd, 1) := by decide +kernel
theorem dL_law_1835 : decode cL_law 1835 = .ok (.iaload, 1) := by decide +kernel
theorem dL_law_1836 : decode cL_law 1836 = .ok (.aload_n 0, 1) := by decide +kernel
theorem dL_law_1837 : decode cL_law 1837 = .ok (.iload_n 3, 1) := by decide +kernel
theorem dL_law_1838 : decode cL_law 1838 = .ok (.iconst 2, 1) := by decide +kernel
theorem dL_law_1839 : decode cL_law 1839 = .ok (.iadd, 1) := by decide +kernel
theorem dL_law_1840 : decode cL_law 1840 = .ok (.iaload, 1) := by decide +kernel
theorem dL_law_1841 : decode cL_law 1841 = .ok (.invokevirtual 234, 3) := by decide +kernel
theorem dL_law_1844 : decode cL_law 1844 = .ok (.aload_n 2, 1) := by decide +kernel
theorem dL_law_1845 : decode cL_law 1845 = .ok (.aload_n 0, 1) := by decide +kernel
theorem dL_law_1846 : decode cL_law 1846 = .ok (.iload_n 3, 1) := by decide +kernel
theorem dL_law_1847 : decode cL_law 1847 = .ok (.iconst 1, 1) := by decide +kernel
theorem dL_law_1848 : decode cL_law 1848 = .ok (.iadd, 1) := by decide +kernel
theorem dL_law_1849 : decode cL_law 1849 = .ok (.iaload, 1) := by decide +kernel
theorem dL_law_1850 : decode cL_law 1850 = .ok (.aload_n 0, 1) := by decide +kernel
theorem dL_law_1851 : decode cL_law 1851 = .ok (.iload_n 3, 1) := by decide +kernel
theorem dL_law_1852 : decode cL_law 1852 = .ok (.iconst 2, 1) := by decide +kernel
theorem dL_law_1853 : decode cL_law 1853 = .ok (.iadd, 1) := by decide +kernel
theorem dL_law_1854 : decode cL_law 1854 = .ok (.iaload, 1) := by decide +kernel
theorem dL_law_1855 : decode cL_law 1855 = .ok (.invokevirtual 237, 3) := by decide +kernel
theorem dL_law_1858 : decode cL_law 1858 = .ok (.if_icmp .eq 309, 3) := by decide +kernel
theorem dL_law_1863 : decode cL_law 1863 = .ok (.aload_n 1, 1) := by decide +kernel
theorem dL_law_1864 : decode cL_law 1864 = .ok (.aload_n 0, 1) := by decide +kernel
theorem dL_law_1865 : decode cL_law 1865 = .ok (.iload_n 3, 1) := by decide +kernel
theorem dL_law_1866 : decode cL_law 1866 = .ok (.iconst 1, 1) := by decide +kernel
theorem dL_law_1867 : decode cL_law 1867 = .ok (.iadd, 1) := by decide +kernel
theorem dL_law_1868 : decode cL_law 1868 = .ok (.iaload, 1) := by decide +kernel
theorem dL_law_1869 : decode cL_law 1869 = .ok (.aload_n 0, 1) := by decide +kernel
theorem dL_law_1870 : decode cL_law 1870 = .ok (.iload_n 3, 1) := by decide +kernel
theorem dL_law_1871 : decode cL_law 1871 = .ok (.iconst 2, 1) := by decide +kernel
theorem dL_law_1872 : decode cL_law 1872 = .ok (.iadd, 1) := by decide +kernel
theorem dL_law_1873 : decode cL_law 1873 = .ok (.iaload, 1) := by decide +kernel
theorem dL_law_1874 : decode cL_law 1874 = .ok (.aload_n 0, 1) := by decide +kernel
theorem dL_law_1875 : decode cL_law 1875 = .ok (.iload_n 3, 1) := by decide +kernel
theorem dL_law_1876 : decode cL_law 1876 = .ok (.iconst 3, 1) := by decide +kernel
theorem dL_law_1877 : decode cL_law 1877 = .ok (.iadd, 1) := by decide +kernel
theorem dL_law_1878 : decode cL_law 1878 = .ok (.iaload, 1) := by decide +kernel
theorem dL_law_1879 : decode cL_law 1879 = .ok (.invokevirtual 238, 3) := by decide +kernel
theorem dL_law_1882 : decode cL_law 1882 = .ok (.aload_n 2, 1) := by decide +kernel
theorem dL_law_1883 : decode cL_law 1883 = .ok (.aload_n 0, 1) := by decide +kernel
theorem dL_law_1884 : decode cL_law 1884 = .ok (.iload_n 3, 1) := by decide +kernel
theorem dL_law_1885 : decode cL_law 1885 = .ok (.iconst 1, 1) := by decide +kernel
theorem dL_law_1886 : decode cL_law 1886 = .ok (.iadd, 1) := by decide +kernel
theorem dL_law_1887 : decode cL_law 1887 = .ok (.iaload, 1) := by decide +kernel
theorem dL_law_1888 : decode cL_law 1888 = .ok (.aload_n 0, 1) := by decide +kernel
theorem dL_law_1889 : decode cL_law 1889 = .ok (.iload_n 3, 1) := by decide +kernel
theorem dL_law_1890 : decode cL_law 1890 = .ok (.iconst 2, 1) := by decide +kernel
theorem dL_law_1891 : decode cL_law 1891 = .ok (.iadd, 1) := by decide +kernel
theorem dL_law_1892 : decode cL_law 1892 = .ok (.iaload, 1) := by decide +kernel
theorem dL_law_1893 : decode cL_law 1893 = .ok (.aload_n 0, 1) := by decide +kernel
theorem dL_law_1894 : decode cL_law 1894 = .ok (.iload_n 3, 1) := by decide +kernel
theorem dL_law_1895 : decode cL_law 1895 = .ok (.iconst 3, 1) := by decide +kernel
theorem dL_law_1896 : decode cL_law 1896 = .ok (.iadd, 1) := by decide +kernel
theorem dL_law_1897 : decode cL_law 1897 = .ok (.iaload, 1) := by decide +kernel
theorem dL_law_1898 : decode cL_law 1898 = .ok (.invokevirtual 241, 3) := by decide +kernel
theorem dL_law_1901 : decode cL_law 1901 = .ok (.if_icmp .eq 266, 3) := by decide +kernel
theorem dL_law_1906 : decode cL_law 1906 = .ok (.aload_n 1, 1) := by decide +kernel
theorem dL_law_1907 : decode cL_law 1907 = .ok (.invokevirtual 242, 3) := by decide +kernel
theorem dL_law_1910 : decode cL_law 1910 = .ok (.aload_n 2, 1) := by decide +kernel
theorem dL_law_1911 : decode cL_law 1911 = .ok (.invokevirtual 245, 3) := by decide +kernel
theorem dL_law_1914 : decode cL_law 1914 = .ok (.if_icmp .eq 253, 3) := by decide +kernel
theorem dL_law_1919 : decode cL_law 1919 = .ok (.aload_n 1, 1) := by decide +kernel
theorem dL_law_1920 : decode cL_law 1920 = .ok (.aload_n 0, 1) := by decide +kernel
theorem dL_law_1921 : decode cL_law 1921 = .ok (.iload_n 3, 1) := by decide +kernel
theorem dL_law_1922 : decode cL_law 1922 = .ok (.iconst 1, 1) := by decide +kernel
theorem dL_law_1923 : decode cL_law 1923 = .ok (.iadd, 1) := by decide +kernel
theorem dL_law_1924 : decode cL_law 1924 = .ok (.iaload, 1) := by decide +kernel
theorem dL_law_1925 : decode cL_law 1925 = .ok (.invokevirtual 246, 3) := by decide +kernel
theorem dL_law_1928 : decode cL_law 1928 = .ok (.aload_n 2, 1) := by decide +kernel
theorem dL_law_1929 : decode cL_law 1929 = .ok (.aload_n 0, 1) := by decide +kernel
theorem dL_law_1930 : decode cL_law 1930 = .ok (.iload_n 3, 1) := by decide +kernel
theorem dL_law_1931 : decode cL_law 1931 = .ok (.iconst 1, 1) := by decide +kernel
theorem dL_law_1932 : decode cL_law 1932 = .ok (.iadd, 1) := by decide +kernel
theorem dL_law_1933 : decode cL_law 1933 = .ok (.iaload, 1) := by decide +kernel
theorem dL_law_1934 : decode cL_law 1934 = .ok (.invokevirtual 249, 3) := by decide +kernel
theorem dL_law_1937 : decode cL_law 1937 = .ok (.if_icmp .eq 230, 3) := by decide +kernel
theorem dL_law_1942 : decode cL_law 1942 = .ok (.aload_n 1, 1) := by decide +kernel
theorem dL_law_1943 : decode cL_law 1943 = .ok (.aload_n 0, 1) := by decide +kernel
theorem dL_law_1944 : decode cL_law 1944 = .ok (.iload_n 3, 1) := by decide +kernel
theorem dL_law_1945 : decode cL_law 1945 = .ok (.iconst 1, 1) := by decide +kernel
theorem dL_law_1946 : decode cL_law 1946 = .ok (.iadd, 1) := by decide +kernel
theorem dL_law_1947 : decode cL_law 1947 = .ok (.iaload, 1) := by decide +kernel
theorem dL_law_1948 : decode cL_law 1948 = .ok (.invokevirtual 250, 3) := by decide +kernel
theorem dL_law_1951 : decode cL_law 1951 = .ok (.aload_n 2, 1) := by decide +kernel
theorem dL_law_1952 : decode cL_law 1952 = .ok (.aload_n 0, 1) := by decide +kernel
theorem dL_law_1953 : decode cL_law 1953 = .ok (.iload_n 3, 1) := by decide +kernel
theorem dL_law_1954 : decode cL_law 1954 = .ok (.iconst 1, 1) := by decide +kernel
theorem dL_law_1955 : decode cL_law 1955 = .ok (.iadd, 1) := by decide +kernel
theorem dL_law_1956 : decode cL_law 1956 = .ok (.iaload, 1) := by decide +kernel
theorem dL_law_1957 : decode cL_law 1957 = .ok (.invokevirtual 253, 3) := by decide +kernel
theorem dL_law_1960 : decode cL_law 1960 = .ok (.if_icmp .eq 207, 3) := by decide +kernel
theorem dL_law_1965 : decode cL_law 1965 = .ok (.aload_n 1, 1) := by decide +kernel
theorem dL_law_1966 : decode cL_law 1966 = .ok (.aload_n 0, 1) := by decide +kernel
theorem dL_law_1967 : decode cL_law 1967 = .ok (.iload_n 3, 1) := by decide +kernel
theorem dL_law_1968 : decode cL_law 1968 = .ok (.iconst 1, 1) := by decide +kernel
theorem dL_law_1969 : decode cL_law 1969 = .ok (.iadd, 1) := by decide +kernel
theorem dL_law_1970 : decode cL_law 1970 = .ok (.iaload, 1) := by decide +kernel
theorem dL_law_1971 : decode cL_law 1971 = .ok (.invokevirtual 254, 3) := by decide +kernel
theorem dL_law_1974 : decode cL_law 1974 = .ok (.aload_n 2, 1) := by decide +kernel
theorem dL_law_1975 : decode cL_law 1975 = .ok (.aload_n 0, 1) := by decide +kernel
theorem dL_law_1976 : decode cL_law 1976 = .ok (.iload_n 3, 1) := by decide +kernel
theorem dL_law_1977 : decode cL_law 1977 = .ok (.iconst 1, 1) := by decide +kernel
theorem dL_law_1978 : decode cL_law 1978 = .ok (.iadd, 1) := by decide +kernel
theorem dL_law_1979 : decode cL_law 1979 = .ok (.iaload, 1) := by decide +kernel
theorem dL_law_1980 : decode cL_law 1980 = .ok (.invokevirtual 257, 3) := by decide +kernel
theorem dL_law_1983 : decode cL_law 1983 = .ok (.if_icmp .eq 184, 3) := by decide +kernel
theorem dL_law_1988 : decode cL_law 1988 = .ok (.aload_n 1, 1) := by decide +kernel
theorem dL_law_1989 : decode cL_law 1989 = .ok (.aload_n 0, 1) := by decide +kernel
theorem dL_law_1990 : decode cL_law 1990 = .ok (.iload_n 3, 1) := by decide +kernel
theorem dL_law_1991 : decode cL_law 1991 = .ok (.iconst 1, 1) := by decide +kernel
theorem dL_law_1992 : decode cL_law 1992 = .ok (.iadd, 1) := by decide +kernel
theorem dL_law_1993 : decode cL_law 1993 = .ok (.iaload, 1) := by decide +kernel
theorem dL_law_1994 : decode cL_law 1994 = .ok (.aload_n 0, 1) := by decide +kernel
theorem dL_law_1995 : decode cL_law 1995 = .ok (.iload_n 3, 1) := by decide +kernel
theorem dL_law_1996 : decode cL_law 1996 = .ok (.iconst 2, 1) := by decide +kernel
theorem dL_law_1997 : decode cL_law 1997 = .ok (.iadd, 1) := by decide +kernel
theorem dL_law_1998 : decode cL_law 1998 = .ok (.iaload, 1) := by decide +kernel
theorem dL_law_1999 : decode cL_law 1999 = .ok (.aload_n 0, 1) := by decide +kernel
theorem dL_law_2000 : decode cL_law 2000 = .ok (.iload_n 3, 1) := by decide +kernel
theorem dL_law_2001 : decode cL_law 2001 = .ok (.iconst 3, 1) := by decide +kernel
theorem dL_law_2002 : decode cL_law 2002 = .ok (.iadd, 1) := by decide +kernel
theorem dL_law_2003 : decode cL_law 2003 = .ok (.iaload, 1) := by decide +kernel
theorem dL_law_2004 : decode cL_law 2004 = .ok (.invokevirtual 258, 3) := by decide +kernel
theorem dL_law_2007 : decode cL_law 2007 = .ok (.aload_n 2, 1) := by decide +kernel
theorem dL_law_2008 : decode cL_law 2008 = .ok (.aload_n 0, 1) := by decide +kernel
theorem dL_law_2009 : decode cL_law 2009 = .ok (.iload_n 3, 1) := by decide +kernel
theorem dL_law_2010 : decode cL_law 2010 = .ok (.iconst 1, 1) := by decide +kernel
theorem dL_law_2011 : decode cL_law 2011 = .ok (.iadd, 1) := by decide +kernel
theorem dL_law_2012 : decode cL_law 2012 = .ok (.iaload, 1) := by decide +kernel
theorem dL_law_2013 : decode cL_law 2013 = .ok (.aload_n 0, 1) := by decide +kernel
theorem dL_law_2014 : decode cL_law 2014 = .ok (.iload_n 3, 1) := by decide +kernel
theorem dL_law_2015 : decode cL_law 2015 = .ok (.iconst 2, 1) := by decide +kernel
theorem dL_law_2016 : decode cL_law 2016 = .ok (.iadd, 1) := by decide +kernel
theorem dL_law_2017 : decode cL_law 2017 = .ok (.iaload, 1) := by decide +kernel
theorem dL_law_2018 : decode cL_law 2018 = .ok (.aload_n 0, 1) := by decide +kernel
theorem dL_law_2019 : decode cL_law 2019 = .ok (.iload_n 3, 1) := by decide +kernel
theorem dL_law_2020 : decode cL_law 2020 = .ok (.iconst 3, 1) := by decide +kernel
theorem dL_law_2021 : decode cL_law 2021 = .ok (.iadd, 1) := by decide +kernel
theorem dL_law_2022 : decode cL_law 2022 = .ok (.iaload, 1) := by decide +kernel
theorem dL_law_2023 : decode cL_law 2023 = .ok (.invokevirtual 261, 3) := by decide +kernel
theorem dL_law_2026 : decode cL_law 2026 = .ok (.if_icmp .eq 141, 3) := by decide +kernel
theorem dL_law_2031 : decode cL_law 2031 = .ok (.aload_n 1, 1) := by decide +kernel
theorem dL_law_2032 : decode cL_law 2032 = .ok (.aload_n 0, 1) := by decide +kernel
theorem dL_law_2033 : decode cL_law 2033 = .ok (.iload_n 3, 1) := by decide +kernel
theorem dL_law_2034 : decode cL_law 2034 = .ok (.iconst 1, 1) := by decide +kernel
theorem dL_law_2035 : decode cL_law 2035 = .ok (.iadd, 1) := by decide +kernel
theorem dL_law_2036 : decode cL_law 2036 = .ok (.iaload, 1) := by decide +kernel
theorem dL_law_2037 : decode cL_law 2037 = .ok (.aload_n 0, 1) := by decide +kernel
theorem dL_law_2038 : decode cL_law 2038 = .ok (.iload_n 3, 1) := by decide +kernel
theorem dL_law_2039 : decode cL_law 2039 = .ok (.iconst 2, 1) := by decide +kernel
theorem dL_law_2040 : decode cL_law 2040 = .ok (.iadd, 1) := by decide +kernel
theorem dL_law_2041 : decode cL_law 2041 = .ok (.iaload, 1) := by decide +kernel
theorem dL_law_2042 : decode cL_law 2042 = .ok (.aload_n 0, 1) := by decide +kernel
theorem dL_law_2043 : decode cL_law 2043 = .ok (.iload_n 3, 1) := by decide +kernel
theorem dL_law_2044 : decode cL_law 2044 = .ok (.iconst 3, 1) := by decide +kernel
theorem dL_law_2045 : decode cL_law 2045 = .ok (.iadd, 1) := by decide +kernel
theorem dL_law_2046 : decode cL_law 2046 = .ok (.iaload, 1) := by decide +kernel
theorem dL_law_2047 : decode cL_law 2047 = .ok (.i2l, 1) := by decide +kernel
theorem dL_law_2048 : decode cL_law 2048 = .ok (.bipush 32, 2) := by decide +kernel
theorem dL_law_2050 : decode cL_law 2050 = .ok (.lshl, 1) := by decide +kernel
theorem dL_law_2051 : decode cL_law 2051 = .ok (.aload_n 0, 1) := by decide +kernel
theorem dL_law_2052 : decode cL_law 2052 = .ok (.iload_n 3, 1) := by decide +kernel
theorem dL_law_2053 : decode cL_law 2053 = .ok (.iconst 4, 1) := by decide +kernel
theorem dL_law_2054 : decode cL_law 2054 = .ok (.iadd, 1) := by decide +kernel
theorem dL_law_2055 : decode cL_law 2055 = .ok (.iaload, 1) := by decide +kernel
theorem dL_law_2056 : decode cL_law 2056 = .ok (.i2l, 1) := by decide +kernel
theorem dL_law_2057 : decode cL_law 2057 = .ok (.ldc2_w 262, 3) := by decide +kernel
theorem dL_law_2060 : decode cL_law 2060 = .ok (.land, 1) := by decide +kernel
theorem dL_law_2061 : decode cL_law 2061 = .ok (.lor, 1) := by decide +kernel
theorem dL_law_2062 : decode cL_law 2062 = .ok (.invokevirtual 264, 3) := by decide +kernel
theorem dL_law_2065 : decode cL_law 2065 = .ok (.aload_n 2, 1) := by decide +kernel
theorem dL_law_2066 : decode cL_law 2066 = .ok (.aload_n 0, 1) := by decide +kernel
theorem dL_law_2067 : decode cL_law 2067 = .ok (.iload_n 3, 1) := by decide +kernel
theorem dL_law_2068 : decode cL_law 2068 = .ok (.iconst 1, 1) := by decide +kernel
theorem dL_law_2069 : decode cL_law 2069 = .ok (.iadd, 1) := by decide +kernel
theorem dL_law_2070 : decode cL_law 2070 = .ok (.iaload, 1) := by decide +kernel
theorem dL_law_2071 : decode cL_law 2071 = .ok (.aload_n 0, 1) := by decide +kernel
theorem dL_law_2072 : decode cL_law 2072 = .ok (.iload_n 3, 1) := by decide +kernel
theorem dL_law_2073 : decode cL_law 2073 = .ok (.iconst 2, 1) := by decide +kernel
theorem dL_law_2074 : decode cL_law 2074 = .ok (.iadd, 1) := by decide +kernel
theorem dL_law_2075 : decode cL_law 2075 = .ok (.iaload, 1) := by decide +kernel
theorem dL_law_2076 : decode cL_law 2076 = .ok (.aload_n 0, 1) := by decide +kernel
theorem dL_law_2077 : decode cL_law 2077 = .ok (.iload_n 3, 1) := by decide +kernel
theorem dL_law_2078 : decode cL_law 2078 = .ok (.iconst 3, 1) := by decide +kernel
theorem dL_law_2079 : decode cL_law 2079 = .ok (.iadd, 1) := by decide +kernel
theorem dL_law_2080 : decode cL_law 2080 = .ok (.iaload, 1) := by decide +kernel
theorem dL_law_2081 : decode cL_law 2081 = .ok (.i2l, 1) := by decide +kernel
theorem dL_law_2082 : decode cL_law 2082 = .ok (.bipush 32, 2) := by decide +kernel
theorem dL_law_2084 : decode cL_law 2084 = .ok (.lshl, 1) := by decide +kernel
theorem dL_law_2085 : decode cL_law 2085 = .ok (.aload_n 0, 1) := by decide +kernel
theorem dL_law_2086 : decode cL_law 2086 = .ok (.iload_n 3, 1) := by decide +kernel
theorem dL_law_2087 : decode cL_law 2087 = .ok (.iconst 4, 1) := by decide +kernel
theorem dL_law_2088 : decode cL_law 2088 = .ok (.iadd, 1) := by decide +kernel
theorem dL_law_2089 : decode cL_law 2089 = .ok (.iaload, 1) := by decide +kernel
theorem dL_law_2090 : decode cL_law 2090 = .ok (.i2l, 1) := by decide +kernel
theorem dL_law_2091 : decode cL_law 2091 = .ok (.ldc2_w 262, 3) := by decide +kernel
theorem dL_law_2094 : decode cL_law 2094 = .ok (.land, 1) := by decide +kernel
theorem dL_law_2095 : decode cL_law 2095 = .ok (.lor, 1) := by decide +kernel
theorem dL_law_2096 : decode cL_law 2096 = .ok (.invokevirtual 268, 3) := by decide +kernel
theorem dL_law_2099 : decode cL_law 2099 = .ok (.if_icmp .eq 68, 3) := by decide +kernel
theorem dL_law_2104 : decode cL_law 2104 = .ok (.aload_n 1, 1) := by decide +kernel
theorem dL_law_2105 : decode cL_law 2105 = .ok (.aload_n 0, 1) := by decide +kernel
theorem dL_law_2106 : decode cL_law 2106 = .ok (.iload_n 3, 1) := by decide +kernel
theorem dL_law_2107 : decode cL_law 2107 = .ok (.iconst 1, 1) := by decide +kernel
theorem dL_law_2108 : decode cL_law 2108 = .ok (.iadd, 1) := by decide +kernel
theorem dL_law_2109 : decode cL_law 2109 = .ok (.iaload, 1) := by decide +kernel
theorem dL_law_2110 : decode cL_law 2110 = .ok (.aload_n 0, 1) := by decide +kernel
theorem dL_law_2111 : decode cL_law 2111 = .ok (.iload_n 3, 1) := by decide +kernel
theorem dL_law_2112 : decode cL_law 2112 = .ok (.iconst 2, 1) := by decide +kernel
theorem dL_law_2113 : decode cL_law 2113 = .ok (.iadd, 1) := by decide +kernel
theorem dL_law_2114 : decode cL_law 2114 = .ok (.iaload, 1) := by decide +kernel
theorem dL_law_2115 : decode cL_law 2115 = .ok (.aload_n 0, 1) := by decide +kernel
theorem dL_law_2116 : decode cL_law 2116 = .ok (.iload_n 3, 1) := by decide +kernel
theorem dL_law_2117 : decode cL_law 2117 = .ok (.iconst 3, 1) := by decide +kernel
theorem dL_law_2118 : decode cL_law 2118 = .ok (.iadd, 1) := by decide +kernel
theorem dL_law_2119 : decode cL_law 2119 = .ok (.iaload, 1) := by decide +kernel
theorem dL_law_2120 : decode cL_law 2120 = .ok (.aload_n 0, 1) := by decide +kernel
theorem dL_law_2121 : decode cL_law 2121 = .ok (.iload_n 3, 1) := by decide +kernel
theorem dL_law_2122 : decode cL_law 2122 = .ok (.iconst 4, 1) := by decide +kernel
theorem dL_law_2123 : decode cL_law 2123 = .ok (.iadd, 1) := by decide +kernel
theorem dL_law_2124 : decode cL_law 2124 = .ok (.iaload, 1) := by decide +kernel
theorem dL_law_2125 : decode cL_law 2125 = .ok (.aload_n 0, 1) := by decide +kernel
theorem dL_law_2126 : decode cL_law 2126 = .ok (.iload_n 3, 1) := by decide +kernel
theorem dL_law_2127 : decode cL_law 2127 = .ok (.iconst 5, 1) := by decide +kernel
theorem dL_law_2128 : decode cL_law 2128 = .ok (.iadd, 1) := by decide +kernel
theorem dL_law_2129 : decode cL_law 2129 = .ok (.iaload, 1) := by decide +kernel
theorem dL_law_2130 : decode cL_law 2130 = .ok (.invokevirtual 269, 3) := by decide +kernel
theorem dL_law_2133 : decode cL_law 2133 = .ok (.aload_n 2, 1) := by decide +kernel
theorem dL_law_2134 : decode cL_law 2134 = .ok (.aload_n 0, 1) := by decide +kernel
theorem dL_law_2135 : decode cL_law 2135 = .ok (.iload_n 3, 1) := by decide +kernel
theorem dL_law_2136 : decode cL_law 2136 = .ok (.iconst 1, 1) := by decide +kernel
theorem dL_law_2137 : decode cL_law 2137 = .ok (.iadd, 1) := by decide +kernel
theorem dL_law_2138 : decode cL_law 2138 = .ok (.iaload, 1) := by decide +kernel
theorem dL_law_2139 : decode cL_law 2139 = .ok (.aload_n 0, 1) := by decide +kernel
theorem dL_law_2140 : decode cL_law 2140 = .ok (.iload_n 3, 1) := by decide +kernel
theorem dL_law_2141 : decode cL_law 2141 = .ok (.iconst 2, 1) := by decide +kernel
theorem dL_law_2142 : decode cL_law 2142 = .ok (.iadd, 1) := by decide +kernel
theorem dL_law_2143 : decode cL_law 2143 = .ok (.iaload, 1) := by decide +kernel
theorem dL_law_2144 : decode cL_law 2144 = .ok (.aload_n 0, 1) := by decide +kernel
theorem dL_law_2145 : decode cL_law 2145 = .ok (.iload_n 3, 1) := by decide +kernel
theorem dL_law_2146 : decode cL_law 2146 = .ok (.iconst 3, 1) := by decide +kernel
theorem dL_law_2147 : decode cL_law 2147 = .ok (.iadd, 1) := by decide +kernel
theorem dL_law_2148 : decode cL_law 2148 = .ok (.iaload, 1) := by decide +kernel
theorem dL_law_2149 : decode cL_law 2149 = .ok (.aload_n 0, 1) := by decide +kernel
theorem dL_law_2150 : decode cL_law 2150 = .ok (.iload_n 3, 1) := by decide +kernel
theorem dL_law_2151 : decode cL_law 2151 = .ok (.iconst 4, 1) := by decide +kernel
theorem dL_law_2152 : decode cL_law 2152 = .ok (.iadd, 1) := by decide +kernel
theorem dL_law_2153 : decode cL_law 2153 = .ok (.iaload, 1) := by decide +kernel
theorem dL_law_2154 : decode cL_law 2154 = .ok (.aload_n 0, 1) := by decide +kernel
theorem dL_law_2155 : decode cL_law 2155 = .ok (.iload_n 3, 1) := by decide +kernel
theorem dL_law_2156 : decode cL_law 2156 = .ok (.iconst 5, 1) := by decide +kernel
theorem dL_law_2157 : decode cL_law 2157 = .ok (.iadd, 1) := by decide +kernel
theorem dL_law_2158 : decode cL_law 2158 = .ok (.iaload, 1) := by decide +kernel
theorem dL_law_2159 : decode cL_law 2159 = .ok (.invokevirtual 272, 3) := by decide +kernel
theorem dL_law_2162 : decode cL_law 2162 = .ok (.if_icmp .eq 5, 3) := by decide +kernel
theorem dL_law_2167 : decode cL_law 2167 = .ok (.iinc 3 6, 3) := by decide +kernel
theorem dL_law_2170 : decode cL_law 2170 = .ok (.goto (-2152), 3) := by decide +kernel
theorem dL_law_2173 : decode cL_law 2173 = .ok (.iconst 1, 1) := by decide +kernel
theorem dL_law_2174 : decode cL_law 2174 = .ok (.ireturn, 1) := by decide +kernel
