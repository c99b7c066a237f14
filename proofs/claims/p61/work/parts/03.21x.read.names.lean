abbrev cX0_clear : ByteArray := prog_2_method_2_code
def yX0_clear : MethodName := ⟨RX0, "clear", "()V"⟩
abbrev cX5_read : ByteArray := prog_7_method_2_code
def yX5_read : MethodName := ⟨RX5, "read", "(LOverHill$Dance;)Z"⟩
abbrev cX5_readLine : ByteArray := prog_7_method_3_code
def yX5_readLine : MethodName := ⟨RX5, "readLine", "(LOverHill$Dance;)V"⟩
def wsX0_clear : List Cond := .code yX0_clear cX0_clear 1 none :: ([.fieldLink RX0 39 "OverHill$Dance" "gap" "I", .fieldLink RX0 43 "OverHill$Dance" "odds" "I", .fieldLink RX0 46 "OverHill$Dance" "rain" "I", .fieldLink RX0 49 "OverHill$Dance" "lines" "I", .fieldLink RX0 15 "OverHill$Dance" "lengths" "[I", .fieldLink RX0 18 "OverHill$Dance" "starts" "[I", .fieldLink RX0 21 "OverHill$Dance" "met" "[I", .fieldLink RX0 27 "OverHill$Dance" "muds" "[I", .fieldLink RX0 58 "OverHill$Dance" "stumbleCount" "I", .fieldLink RX0 61 "OverHill$Dance" "cellCount" "I", .fieldLink RX0 64 "OverHill$Dance" "tuneCount" "I", .fieldLink RX0 67 "OverHill$Dance" "changeCount" "I", .methodLink RX0 52 yJ7_fill_53178, .static yJ7_fill_53178, .initialized RJ7, .code yJ7_fill_53178 cJ7_fill_53178 4 none] ++ wsX00)
def wsX5_readLine_r1 : List Cond := [Cond.fieldLink RX5 43 "OverHill$Dance" "lines" "I", Cond.fieldLink RX5 12 "OverHill$Reader" "tape" "LOverHill$Tape;", Cond.fieldLink RX5 52 "OverHill$Tape" "from" "I", Cond.methodLink RX5 48 yX8_isWord, Cond.instanceMethod yX8_isWord, Cond.selects RX8 yX8_isWord yX8_isWord, Cond.initialized RX8, Cond.code yX8_isWord cX8_isWord 3 (some .boolean), Cond.fieldLink RX8 35 "OverHill$Tape" "kind" "I", Cond.fieldLink RX8 19 "OverHill$Tape" "upto" "I", Cond.fieldLink RX8 25 "OverHill$Tape" "from" "I", Cond.fieldLink RX8 9 "OverHill$Tape" "bytes" "[B", Cond.methodLink RX8 44 yJ0_length_8abf5, Cond.instanceMethod yJ0_length_8abf5, Cond.selects RJ0 yJ0_length_8abf5 yJ0_length_8abf5, Cond.initialized RJ0, Cond.code yJ0_length_8abf5 cJ0_length_8abf5 1 (some .int), Cond.fieldLink RJ0 9 "java/lang/String" "value" "[B", Cond.methodLink RJ0 335 yJ0_coder_7d493, Cond.instanceMethod yJ0_coder_7d493, Cond.selects RJ0 yJ0_coder_7d493 yJ0_coder_7d493, Cond.code yJ0_coder_7d493 cJ0_coder_7d493 1 (some .byte), Cond.fieldLink RJ0 38 "java/lang/String" "COMPACT_STRINGS" "Z", Cond.fieldLink RJ0 15 "java/lang/String" "coder" "B"]
def wsX5_readLine_r2 : List Cond := [Cond.methodLink RX8 49 yJ0_charAt_5068e, Cond.instanceMethod yJ0_charAt_5068e, Cond.selects RJ0 yJ0_charAt_5068e yJ0_charAt_5068e, Cond.code yJ0_charAt_5068e cJ0_charAt_5068e 2 (some .char), Cond.methodLink RJ0 492 yJ0_isLatin1_aae02, Cond.instanceMethod yJ0_isLatin1_aae02, Cond.selects RJ0 yJ0_isLatin1_aae02 yJ0_isLatin1_aae02, Cond.code yJ0_isLatin1_aae02 cJ0_isLatin1_aae02 1 (some .boolean), Cond.methodLink RJ0 495 yJ1_charAt_3b067, Cond.static yJ1_charAt_3b067, Cond.initialized RJ1, Cond.code yJ1_charAt_3b067 cJ1_charAt_3b067 2 (some .char), Cond.methodLink RJ1 9 yJ0_checkIndex_df160, Cond.static yJ0_checkIndex_df160, Cond.code yJ0_checkIndex_df160 cJ0_checkIndex_df160 2 none, Cond.fieldLink RJ0 1053 "jdk/internal/util/Preconditions" "SIOOBE_FORMATTER" "Ljava/util/function/BiFunction;", Cond.methodLink RJ0 1059 yJ3_checkIndex_8e157, Cond.static yJ3_checkIndex_8e157, Cond.initialized RJ3, Cond.code yJ3_checkIndex_8e157 cJ3_checkIndex_8e157 3 (some .int), Cond.methodLink RJ0 498 yJ2_charAt_3b067, Cond.static yJ2_charAt_3b067, Cond.initialized RJ2, Cond.code yJ2_charAt_3b067 cJ2_charAt_3b067 2 (some .char)]
def wsX5_readLine_r3 : List Cond := [Cond.methodLink RJ2 67 yJ2_checkIndex_2214a, Cond.static yJ2_checkIndex_2214a, Cond.code yJ2_checkIndex_2214a cJ2_checkIndex_2214a 2 none, Cond.methodLink RJ2 48 yJ2_length_9d52b, Cond.static yJ2_length_9d52b, Cond.code yJ2_length_9d52b cJ2_length_9d52b 1 (some .int), Cond.methodLink RJ2 414 yJ0_checkIndex_df160, Cond.methodLink RJ2 71 yJ2_getChar_3b067, Cond.static yJ2_getChar_3b067, Cond.code yJ2_getChar_3b067 cJ2_getChar_3b067 2 (some .char), Cond.fieldLink RJ2 44 "java/lang/StringUTF16" "$assertionsDisabled" "Z", Cond.fieldLink RJ2 59 "java/lang/StringUTF16" "HI_BYTE_SHIFT" "I", Cond.fieldLink RJ2 63 "java/lang/StringUTF16" "LO_BYTE_SHIFT" "I", Cond.methodLink RX5 55 yX5_fail, Cond.instanceMethod yX5_fail, Cond.selects RX5 yX5_fail yX5_fail, Cond.initialized RX5, Cond.code yX5_fail cX5_fail 3 none, Cond.fieldLink RX5 27 "OverHill$Reader" "fault" "I", Cond.fieldLink RX5 18 "OverHill$Reader" "faultPlace" "I", Cond.methodLink RX5 59 yX5_readDance, Cond.instanceMethod yX5_readDance, Cond.selects RX5 yX5_readDance yX5_readDance, Cond.code yX5_readDance cX5_readDance 2 none]
def wsX5_readLine_r4 : List Cond := [Cond.fieldLink RX5 105 "OverHill$Dance" "gap" "I", Cond.fieldLink RX5 109 "OverHill$Dance" "odds" "I", Cond.fieldLink RX5 113 "OverHill$Dance" "rain" "I", Cond.methodLink RX5 92 yX8_advance, Cond.instanceMethod yX8_advance, Cond.selects RX8 yX8_advance yX8_advance, Cond.code yX8_advance cX8_advance 1 none, Cond.fieldLink RX8 15 "OverHill$Tape" "length" "I", Cond.fieldLink RX8 32 "OverHill$Tape" "value" "I", Cond.methodLink RX8 38 Lib.Math.min.name, Cond.static Lib.Math.min.name, Cond.initialized "java/lang/Math", Cond.code Lib.Math.min.name Lib.Math.min.code 2 (some .int), Cond.methodLink RX8 28 yX8_kindOf, Cond.static yX8_kindOf, Cond.code yX8_kindOf cX8_kindOf 1 (some .int), Cond.methodLink RX5 97 yX5_takeWord, Cond.instanceMethod yX5_takeWord, Cond.selects RX5 yX5_takeWord yX5_takeWord, Cond.code yX5_takeWord cX5_takeWord 2 none, Cond.methodLink RX5 101 yX5_takeNumber, Cond.instanceMethod yX5_takeNumber, Cond.selects RX5 yX5_takeNumber yX5_takeNumber, Cond.code yX5_takeNumber cX5_takeNumber 4 (some .int)]
def wsX5_readLine_r5 : List Cond := [Cond.fieldLink RX5 175 "OverHill$Tape" "value" "I", Cond.fieldLink RX5 121 "OverHill$Reader" "numberPlace" "I", Cond.fieldLink RX5 33 "OverHill$Tape" "kind" "I", Cond.methodLink RX5 64 yX5_readRound, Cond.instanceMethod yX5_readRound, Cond.selects RX5 yX5_readRound yX5_readRound, Cond.code yX5_readRound cX5_readRound 6 none, Cond.fieldLink RX5 124 "OverHill$Dance" "steps" "[I", Cond.fieldLink RX5 130 "OverHill$Dance" "starts" "[I", Cond.fieldLink RX5 133 "OverHill$Dance" "lengths" "[I", Cond.methodLink RX5 117 yX5_seesNumber, Cond.instanceMethod yX5_seesNumber, Cond.selects RX5 yX5_seesNumber yX5_seesNumber, Cond.code yX5_seesNumber cX5_seesNumber 1 (some .boolean), Cond.methodLink RX5 69 yX5_readAnswers, Cond.instanceMethod yX5_readAnswers, Cond.selects RX5 yX5_readAnswers yX5_readAnswers, Cond.code yX5_readAnswers cX5_readAnswers 5 none, Cond.fieldLink RX5 136 "OverHill$Dance" "met" "[I", Cond.methodLink RX5 74 yX5_readStumble, Cond.instanceMethod yX5_readStumble, Cond.selects RX5 yX5_readStumble yX5_readStumble, Cond.code yX5_readStumble cX5_readStumble 6 none, Cond.fieldLink RX5 139 "OverHill$Dance" "stumbleCount" "I"]
def wsX5_readLine_r6 : List Cond := [Cond.methodLink RX5 142 yX5_beginOneOf, Cond.instanceMethod yX5_beginOneOf, Cond.selects RX5 yX5_beginOneOf yX5_beginOneOf, Cond.code yX5_beginOneOf cX5_beginOneOf 3 none, Cond.methodLink RX5 147 yX0_stumbleOf, Cond.instanceMethod yX0_stumbleOf, Cond.selects RX0 yX0_stumbleOf yX0_stumbleOf, Cond.initialized RX0, Cond.code yX0_stumbleOf cX0_stumbleOf 5 (some .int), Cond.fieldLink RX0 58 "OverHill$Dance" "stumbleCount" "I", Cond.fieldLink RX0 24 "OverHill$Dance" "stumbles" "[I", Cond.methodLink RX5 154 yX0_addStumble, Cond.instanceMethod yX0_addStumble, Cond.selects RX0 yX0_addStumble yX0_addStumble, Cond.code yX0_addStumble cX0_addStumble 6 none, Cond.methodLink RX5 79 yX5_readMud, Cond.instanceMethod yX5_readMud, Cond.selects RX5 yX5_readMud yX5_readMud, Cond.code yX5_readMud cX5_readMud 3 none, Cond.fieldLink RX5 158 "OverHill$Dance" "muds" "[I", Cond.methodLink RX5 84 yX5_readWood, Cond.instanceMethod yX5_readWood, Cond.selects RX5 yX5_readWood yX5_readWood, Cond.code yX5_readWood cX5_readWood 3 none]
def wsX5_readLine_r7 : List Cond := [Cond.fieldLink RX5 161 "OverHill$Dance" "cellCount" "I", Cond.methodLink RX5 166 yX0_addCell, Cond.instanceMethod yX0_addCell, Cond.selects RX0 yX0_addCell yX0_addCell, Cond.code yX0_addCell cX0_addCell 3 none, Cond.fieldLink RX0 61 "OverHill$Dance" "cellCount" "I", Cond.fieldLink RX0 30 "OverHill$Dance" "cells" "[I", Cond.methodLink RX5 89 yX5_readTune, Cond.instanceMethod yX5_readTune, Cond.selects RX5 yX5_readTune yX5_readTune, Cond.code yX5_readTune cX5_readTune 3 none, Cond.fieldLink RX5 169 "OverHill$Dance" "tuneCount" "I", Cond.methodLink RX5 172 yX0_addTune, Cond.instanceMethod yX0_addTune, Cond.selects RX0 yX0_addTune yX0_addTune, Cond.code yX0_addTune cX0_addTune 3 none, Cond.fieldLink RX0 64 "OverHill$Dance" "tuneCount" "I", Cond.fieldLink RX0 33 "OverHill$Dance" "tunes" "[I"]
def wsX5_readLine : List Cond := .code yX5_readLine cX5_readLine 3 none :: ((wsX5_readLine_r1 ++ (wsX5_readLine_r2 ++ (wsX5_readLine_r3 ++ (wsX5_readLine_r4 ++ (wsX5_readLine_r5 ++ (wsX5_readLine_r6 ++ wsX5_readLine_r7)))))) ++ wsX00 ++ wsX50 ++ wsX80)
def wsX5_read_r1 : List Cond := [Cond.fieldLink RX5 27 "OverHill$Reader" "fault" "I", Cond.fieldLink RX5 18 "OverHill$Reader" "faultPlace" "I", Cond.fieldLink RX5 12 "OverHill$Reader" "tape" "LOverHill$Tape;", Cond.fieldLink RX5 33 "OverHill$Tape" "kind" "I", Cond.fieldLink RX5 43 "OverHill$Dance" "lines" "I", Cond.methodLink RX5 22 yX0_clear, Cond.instanceMethod yX0_clear, Cond.selects RX0 yX0_clear yX0_clear, Cond.initialized RX0, Cond.code yX0_clear cX0_clear 1 none, Cond.fieldLink RX0 39 "OverHill$Dance" "gap" "I", Cond.fieldLink RX0 43 "OverHill$Dance" "odds" "I", Cond.fieldLink RX0 46 "OverHill$Dance" "rain" "I", Cond.fieldLink RX0 49 "OverHill$Dance" "lines" "I", Cond.fieldLink RX0 15 "OverHill$Dance" "lengths" "[I", Cond.fieldLink RX0 18 "OverHill$Dance" "starts" "[I", Cond.fieldLink RX0 21 "OverHill$Dance" "met" "[I", Cond.fieldLink RX0 27 "OverHill$Dance" "muds" "[I", Cond.fieldLink RX0 58 "OverHill$Dance" "stumbleCount" "I", Cond.fieldLink RX0 61 "OverHill$Dance" "cellCount" "I", Cond.fieldLink RX0 64 "OverHill$Dance" "tuneCount" "I", Cond.fieldLink RX0 67 "OverHill$Dance" "changeCount" "I", Cond.methodLink RX0 52 yJ7_fill_53178, Cond.static yJ7_fill_53178]
def wsX5_read_r2 : List Cond := [Cond.initialized RJ7, Cond.code yJ7_fill_53178 cJ7_fill_53178 4 none, Cond.methodLink RX5 30 yX8_rewind, Cond.instanceMethod yX8_rewind, Cond.selects RX8 yX8_rewind yX8_rewind, Cond.initialized RX8, Cond.code yX8_rewind cX8_rewind 1 none, Cond.fieldLink RX8 19 "OverHill$Tape" "upto" "I", Cond.methodLink RX8 22 yX8_advance, Cond.instanceMethod yX8_advance, Cond.selects RX8 yX8_advance yX8_advance, Cond.code yX8_advance cX8_advance 1 none, Cond.fieldLink RX8 25 "OverHill$Tape" "from" "I", Cond.fieldLink RX8 15 "OverHill$Tape" "length" "I", Cond.fieldLink RX8 9 "OverHill$Tape" "bytes" "[B", Cond.fieldLink RX8 32 "OverHill$Tape" "value" "I", Cond.fieldLink RX8 35 "OverHill$Tape" "kind" "I", Cond.methodLink RX8 38 Lib.Math.min.name, Cond.static Lib.Math.min.name, Cond.initialized "java/lang/Math", Cond.code Lib.Math.min.name Lib.Math.min.code 2 (some .int), Cond.methodLink RX8 28 yX8_kindOf, Cond.static yX8_kindOf, Cond.code yX8_kindOf cX8_kindOf 1 (some .int)]
def wsX5_read_r3 : List Cond := [Cond.methodLink RX5 36 yX5_readLine, Cond.instanceMethod yX5_readLine, Cond.selects RX5 yX5_readLine yX5_readLine, Cond.initialized RX5, Cond.code yX5_readLine cX5_readLine 3 none, Cond.fieldLink RX5 52 "OverHill$Tape" "from" "I", Cond.methodLink RX5 48 yX8_isWord, Cond.instanceMethod yX8_isWord, Cond.selects RX8 yX8_isWord yX8_isWord, Cond.code yX8_isWord cX8_isWord 3 (some .boolean), Cond.methodLink RX8 44 yJ0_length_8abf5, Cond.instanceMethod yJ0_length_8abf5, Cond.selects RJ0 yJ0_length_8abf5 yJ0_length_8abf5, Cond.initialized RJ0, Cond.code yJ0_length_8abf5 cJ0_length_8abf5 1 (some .int), Cond.fieldLink RJ0 9 "java/lang/String" "value" "[B", Cond.methodLink RJ0 335 yJ0_coder_7d493, Cond.instanceMethod yJ0_coder_7d493, Cond.selects RJ0 yJ0_coder_7d493 yJ0_coder_7d493, Cond.code yJ0_coder_7d493 cJ0_coder_7d493 1 (some .byte), Cond.fieldLink RJ0 38 "java/lang/String" "COMPACT_STRINGS" "Z", Cond.fieldLink RJ0 15 "java/lang/String" "coder" "B", Cond.methodLink RX8 49 yJ0_charAt_5068e, Cond.instanceMethod yJ0_charAt_5068e]
def wsX5_read_r4 : List Cond := [Cond.selects RJ0 yJ0_charAt_5068e yJ0_charAt_5068e, Cond.code yJ0_charAt_5068e cJ0_charAt_5068e 2 (some .char), Cond.methodLink RJ0 492 yJ0_isLatin1_aae02, Cond.instanceMethod yJ0_isLatin1_aae02, Cond.selects RJ0 yJ0_isLatin1_aae02 yJ0_isLatin1_aae02, Cond.code yJ0_isLatin1_aae02 cJ0_isLatin1_aae02 1 (some .boolean), Cond.methodLink RJ0 495 yJ1_charAt_3b067, Cond.static yJ1_charAt_3b067, Cond.initialized RJ1, Cond.code yJ1_charAt_3b067 cJ1_charAt_3b067 2 (some .char), Cond.methodLink RJ1 9 yJ0_checkIndex_df160, Cond.static yJ0_checkIndex_df160, Cond.code yJ0_checkIndex_df160 cJ0_checkIndex_df160 2 none, Cond.fieldLink RJ0 1053 "jdk/internal/util/Preconditions" "SIOOBE_FORMATTER" "Ljava/util/function/BiFunction;", Cond.methodLink RJ0 1059 yJ3_checkIndex_8e157, Cond.static yJ3_checkIndex_8e157, Cond.initialized RJ3, Cond.code yJ3_checkIndex_8e157 cJ3_checkIndex_8e157 3 (some .int), Cond.methodLink RJ0 498 yJ2_charAt_3b067, Cond.static yJ2_charAt_3b067, Cond.initialized RJ2, Cond.code yJ2_charAt_3b067 cJ2_charAt_3b067 2 (some .char), Cond.methodLink RJ2 67 yJ2_checkIndex_2214a, Cond.static yJ2_checkIndex_2214a]
def wsX5_read_r5 : List Cond := [Cond.code yJ2_checkIndex_2214a cJ2_checkIndex_2214a 2 none, Cond.methodLink RJ2 48 yJ2_length_9d52b, Cond.static yJ2_length_9d52b, Cond.code yJ2_length_9d52b cJ2_length_9d52b 1 (some .int), Cond.methodLink RJ2 414 yJ0_checkIndex_df160, Cond.methodLink RJ2 71 yJ2_getChar_3b067, Cond.static yJ2_getChar_3b067, Cond.code yJ2_getChar_3b067 cJ2_getChar_3b067 2 (some .char), Cond.fieldLink RJ2 44 "java/lang/StringUTF16" "$assertionsDisabled" "Z", Cond.fieldLink RJ2 59 "java/lang/StringUTF16" "HI_BYTE_SHIFT" "I", Cond.fieldLink RJ2 63 "java/lang/StringUTF16" "LO_BYTE_SHIFT" "I", Cond.methodLink RX5 55 yX5_fail, Cond.instanceMethod yX5_fail, Cond.selects RX5 yX5_fail yX5_fail, Cond.code yX5_fail cX5_fail 3 none, Cond.methodLink RX5 59 yX5_readDance, Cond.instanceMethod yX5_readDance, Cond.selects RX5 yX5_readDance yX5_readDance, Cond.code yX5_readDance cX5_readDance 2 none, Cond.fieldLink RX5 105 "OverHill$Dance" "gap" "I", Cond.fieldLink RX5 109 "OverHill$Dance" "odds" "I", Cond.fieldLink RX5 113 "OverHill$Dance" "rain" "I", Cond.methodLink RX5 92 yX8_advance, Cond.methodLink RX5 97 yX5_takeWord]
def wsX5_read_r6 : List Cond := [Cond.instanceMethod yX5_takeWord, Cond.selects RX5 yX5_takeWord yX5_takeWord, Cond.code yX5_takeWord cX5_takeWord 2 none, Cond.methodLink RX5 101 yX5_takeNumber, Cond.instanceMethod yX5_takeNumber, Cond.selects RX5 yX5_takeNumber yX5_takeNumber, Cond.code yX5_takeNumber cX5_takeNumber 4 (some .int), Cond.fieldLink RX5 175 "OverHill$Tape" "value" "I", Cond.fieldLink RX5 121 "OverHill$Reader" "numberPlace" "I", Cond.methodLink RX5 64 yX5_readRound, Cond.instanceMethod yX5_readRound, Cond.selects RX5 yX5_readRound yX5_readRound, Cond.code yX5_readRound cX5_readRound 6 none, Cond.fieldLink RX5 124 "OverHill$Dance" "steps" "[I", Cond.fieldLink RX5 130 "OverHill$Dance" "starts" "[I", Cond.fieldLink RX5 133 "OverHill$Dance" "lengths" "[I", Cond.methodLink RX5 117 yX5_seesNumber, Cond.instanceMethod yX5_seesNumber, Cond.selects RX5 yX5_seesNumber yX5_seesNumber, Cond.code yX5_seesNumber cX5_seesNumber 1 (some .boolean), Cond.methodLink RX5 69 yX5_readAnswers, Cond.instanceMethod yX5_readAnswers, Cond.selects RX5 yX5_readAnswers yX5_readAnswers, Cond.code yX5_readAnswers cX5_readAnswers 5 none]
def wsX5_read_r7 : List Cond := [Cond.fieldLink RX5 136 "OverHill$Dance" "met" "[I", Cond.methodLink RX5 74 yX5_readStumble, Cond.instanceMethod yX5_readStumble, Cond.selects RX5 yX5_readStumble yX5_readStumble, Cond.code yX5_readStumble cX5_readStumble 6 none, Cond.fieldLink RX5 139 "OverHill$Dance" "stumbleCount" "I", Cond.methodLink RX5 142 yX5_beginOneOf, Cond.instanceMethod yX5_beginOneOf, Cond.selects RX5 yX5_beginOneOf yX5_beginOneOf, Cond.code yX5_beginOneOf cX5_beginOneOf 3 none, Cond.methodLink RX5 147 yX0_stumbleOf, Cond.instanceMethod yX0_stumbleOf, Cond.selects RX0 yX0_stumbleOf yX0_stumbleOf, Cond.code yX0_stumbleOf cX0_stumbleOf 5 (some .int), Cond.fieldLink RX0 24 "OverHill$Dance" "stumbles" "[I", Cond.methodLink RX5 154 yX0_addStumble, Cond.instanceMethod yX0_addStumble, Cond.selects RX0 yX0_addStumble yX0_addStumble, Cond.code yX0_addStumble cX0_addStumble 6 none, Cond.methodLink RX5 79 yX5_readMud, Cond.instanceMethod yX5_readMud, Cond.selects RX5 yX5_readMud yX5_readMud, Cond.code yX5_readMud cX5_readMud 3 none, Cond.fieldLink RX5 158 "OverHill$Dance" "muds" "[I"]
def wsX5_read_r8 : List Cond := [Cond.methodLink RX5 84 yX5_readWood, Cond.instanceMethod yX5_readWood, Cond.selects RX5 yX5_readWood yX5_readWood, Cond.code yX5_readWood cX5_readWood 3 none, Cond.fieldLink RX5 161 "OverHill$Dance" "cellCount" "I", Cond.methodLink RX5 166 yX0_addCell, Cond.instanceMethod yX0_addCell, Cond.selects RX0 yX0_addCell yX0_addCell, Cond.code yX0_addCell cX0_addCell 3 none, Cond.fieldLink RX0 30 "OverHill$Dance" "cells" "[I", Cond.methodLink RX5 89 yX5_readTune, Cond.instanceMethod yX5_readTune, Cond.selects RX5 yX5_readTune yX5_readTune, Cond.code yX5_readTune cX5_readTune 3 none, Cond.fieldLink RX5 169 "OverHill$Dance" "tuneCount" "I", Cond.methodLink RX5 172 yX0_addTune, Cond.instanceMethod yX0_addTune, Cond.selects RX0 yX0_addTune yX0_addTune, Cond.code yX0_addTune cX0_addTune 3 none, Cond.fieldLink RX0 33 "OverHill$Dance" "tunes" "[I", Cond.methodLink RX5 40 yX5_takeSemicolon, Cond.instanceMethod yX5_takeSemicolon, Cond.selects RX5 yX5_takeSemicolon yX5_takeSemicolon, Cond.code yX5_takeSemicolon cX5_takeSemicolon 1 none]
def wsX5_read : List Cond := .code yX5_read cX5_read 3 (some .boolean) :: ((wsX5_read_r1 ++ (wsX5_read_r2 ++ (wsX5_read_r3 ++ (wsX5_read_r4 ++ (wsX5_read_r5 ++ (wsX5_read_r6 ++ (wsX5_read_r7 ++ wsX5_read_r8))))))) ++ wsX50 ++ wsX80 ++ wsX00)
set_option maxRecDepth 20000 in
theorem ggX0_clear_J7_fill_53178 : GoodIn wsX0_clear wsJ7_fill_53178 := goodIn_r _ [16] (by decide +kernel) (by decide +kernel)
set_option maxRecDepth 20000 in
theorem gX0_clear_J7_fill_53178 : GoodIn wsX0_clear (va_wsS RX0 52 yJ7_fill_53178 wsJ7_fill_53178) := goodIn_app (goodIn_of _ (by decide +kernel)) ggX0_clear_J7_fill_53178
theorem dX0_clear_0 : decode cX0_clear 0 = .ok (.aload_n 0, 1) := by decide +kernel
theorem dX0_clear_1 : decode cX0_clear 1 = .ok (.iconst 0, 1) := by decide +kernel
theorem dX0_clear_2 : decode cX0_clear 2 = .ok (.putfield 39, 3) := by decide +kernel
theorem dX0_clear_5 : decode cX0_clear 5 = .ok (.aload_n 0, 1) := by decide +kernel
theorem dX0_clear_6 : decode cX0_clear 6 = .ok (.iconst 0, 1) := by decide +kernel
theorem dX0_clear_7 : decode cX0_clear 7 = .ok (.putfield 43, 3) := by decide +kernel
theorem dX0_clear_10 : decode cX0_clear 10 = .ok (.aload_n 0, 1) := by decide +kernel
theorem dX0_clear_11 : decode cX0_clear 11 = .ok (.iconst 0, 1) := by decide +kernel
theorem dX0_clear_12 : decode cX0_clear 12 = .ok (.putfield 46, 3) := by decide +kernel
theorem dX0_clear_15 : decode cX0_clear 15 = .ok (.aload_n 0, 1) := by decide +kernel
theorem dX0_clear_16 : decode cX0_clear 16 = .ok (.iconst 0, 1) := by decide +kernel
theorem dX0_clear_17 : decode cX0_clear 17 = .ok (.putfield 49, 3) := by decide +kernel
theorem dX0_clear_20 : decode cX0_clear 20 = .ok (.aload_n 0, 1) := by decide +kernel
theorem dX0_clear_21 : decode cX0_clear 21 = .ok (.getfield 15, 3) := by decide +kernel
theorem dX0_clear_24 : decode cX0_clear 24 = .ok (.iconst 0, 1) := by decide +kernel
theorem dX0_clear_25 : decode cX0_clear 25 = .ok (.invokestatic 52, 3) := by decide +kernel
theorem dX0_clear_28 : decode cX0_clear 28 = .ok (.aload_n 0, 1) := by decide +kernel
theorem dX0_clear_29 : decode cX0_clear 29 = .ok (.getfield 18, 3) := by decide +kernel
theorem dX0_clear_32 : decode cX0_clear 32 = .ok (.iconst 0, 1) := by decide +kernel
theorem dX0_clear_33 : decode cX0_clear 33 = .ok (.invokestatic 52, 3) := by decide +kernel
theorem dX0_clear_36 : decode cX0_clear 36 = .ok (.aload_n 0, 1) := by decide +kernel
theorem dX0_clear_37 : decode cX0_clear 37 = .ok (.getfield 21, 3) := by decide +kernel
theorem dX0_clear_40 : decode cX0_clear 40 = .ok (.bipush 63, 2) := by decide +kernel
theorem dX0_clear_42 : decode cX0_clear 42 = .ok (.invokestatic 52, 3) := by decide +kernel
theorem dX0_clear_45 : decode cX0_clear 45 = .ok (.aload_n 0, 1) := by decide +kernel
theorem dX0_clear_46 : decode cX0_clear 46 = .ok (.getfield 27, 3) := by decide +kernel
theorem dX0_clear_49 : decode cX0_clear 49 = .ok (.iconst 0, 1) := by decide +kernel
theorem dX0_clear_50 : decode cX0_clear 50 = .ok (.invokestatic 52, 3) := by decide +kernel
theorem dX0_clear_53 : decode cX0_clear 53 = .ok (.aload_n 0, 1) := by decide +kernel
theorem dX0_clear_54 : decode cX0_clear 54 = .ok (.iconst 0, 1) := by decide +kernel
theorem dX0_clear_55 : decode cX0_clear 55 = .ok (.putfield 58, 3) := by decide +kernel
theorem dX0_clear_58 : decode cX0_clear 58 = .ok (.aload_n 0, 1) := by decide +kernel
theorem dX0_clear_59 : decode cX0_clear 59 = .ok (.iconst 0, 1) := by decide +kernel
theorem dX0_clear_60 : decode cX0_clear 60 = .ok (.putfield 61, 3) := by decide +kernel
theorem dX0_clear_63 : decode cX0_clear 63 = .ok (.aload_n 0, 1) := by decide +kernel
theorem dX0_clear_64 : decode cX0_clear 64 = .ok (.iconst 0, 1) := by decide +kernel
theorem dX0_clear_65 : decode cX0_clear 65 = .ok (.putfield 64, 3) := by decide +kernel
theorem dX0_clear_68 : decode cX0_clear 68 = .ok (.aload_n 0, 1) := by decide +kernel
theorem dX0_clear_69 : decode cX0_clear 69 = .ok (.iconst 0, 1) := by decide +kernel
theorem dX0_clear_70 : decode cX0_clear 70 = .ok (.putfield 67, 3) := by decide +kernel
theorem dX0_clear_73 : decode cX0_clear 73 = .ok (.return_, 1) := by decide +kernel
set_option maxRecDepth 20000 in
theorem ggX5_read_X0_clear : GoodIn wsX5_read wsX0_clear := goodIn_r _ [10, 11, 12, 13, 14, 15, 16, 17, 18, 19, 20, 21, 22, 23, 24, 25, 26, 203, 204, 205, 206, 207, 208, 209, 210, 211, 212, 213, 214, 215, 216, 217, 218, 219] (by decide +kernel) (by decide +kernel)
set_option maxRecDepth 20000 in
theorem gX5_read_X0_clear : GoodIn wsX5_read (wsV RX5 22 RX0 yX0_clear wsX0_clear) := goodIn_app (goodIn_of _ (by decide +kernel)) ggX5_read_X0_clear
set_option maxRecDepth 20000 in
theorem ggX5_read_X8_rewind : GoodIn wsX5_read wsX8_rewind := goodIn_r _ [31, 32, 33, 34, 35, 30, 36, 37, 38, 39, 40, 41, 42, 43, 44, 45, 46, 47, 48, 197, 198, 199, 200, 201, 202] (by decide +kernel) (by decide +kernel)
set_option maxRecDepth 20000 in
theorem gX5_read_X8_rewind : GoodIn wsX5_read (wsV RX5 30 RX8 yX8_rewind wsX8_rewind) := goodIn_app (goodIn_of _ (by decide +kernel)) ggX5_read_X8_rewind
set_option maxRecDepth 20000 in
theorem ggX5_read_X5_readLine : GoodIn wsX5_read wsX5_readLine := goodIn_r _ [53, 5, 3, 54, 55, 56, 57, 30, 58, 41, 32, 37, 39, 59, 60, 61, 62, 63, 64, 65, 66, 67, 68, 69, 70, 71, 72, 73, 74, 75, 76, 77, 78, 79, 80, 81, 82, 83, 84, 85, 86, 87, 88, 89, 90, 91, 92, 93, 94, 95, 96, 97, 98, 99, 100, 101, 102, 103, 104, 105, 106, 107, 108, 109, 110, 52, 111, 1, 2, 112, 113, 114, 115, 116, 117, 118, 119, 34, 35, 36, 38, 40, 42, 43, 44, 45, 46, 47, 48, 120, 121, 122, 123, 124, 125, 126, 127, 128, 129, 4, 130, 131, 132, 133, 134, 135, 136, 137, 138, 139, 140, 141, 142, 143, 144, 145, 146, 147, 148, 149, 150, 151, 152, 153, 154, 155, 156, 157, 9, 158, 19, 159, 160, 161, 162, 163, 164, 165, 166, 167, 168, 169, 170, 171, 172, 173, 174, 175, 176, 177, 20, 178, 179, 180, 181, 182, 183, 184, 185, 186, 187, 21, 188, 203, 204, 205, 206, 207, 208, 209, 210, 211, 212, 213, 214, 215, 216, 217, 218, 219, 193, 194, 195, 196, 197, 198, 199, 200, 201, 202] (by decide +kernel) (by decide +kernel)
set_option maxRecDepth 20000 in
theorem gX5_read_X5_readLine : GoodIn wsX5_read (wsV RX5 36 RX5 yX5_readLine wsX5_readLine) := goodIn_app (goodIn_of _ (by decide +kernel)) ggX5_read_X5_readLine
set_option maxRecDepth 20000 in
theorem ggX5_read_X5_takeSemicolon : GoodIn wsX5_read wsX5_takeSemicolon := goodIn_r _ [192, 3, 4, 54, 108, 109, 110, 52, 111, 1, 2, 119, 34, 35, 30, 36, 32, 37, 38, 39, 40, 41, 42, 43, 44, 45, 46, 47, 48, 193, 194, 195, 196, 197, 198, 199, 200, 201, 202] (by decide +kernel) (by decide +kernel)
set_option maxRecDepth 20000 in
theorem gX5_read_X5_takeSemicolon : GoodIn wsX5_read (wsV RX5 40 RX5 yX5_takeSemicolon wsX5_takeSemicolon) := goodIn_app (goodIn_of _ (by decide +kernel)) ggX5_read_X5_takeSemicolon
theorem dX5_read_0 : decode cX5_read 0 = .ok (.aload_n 1, 1) := by decide +kernel
theorem dX5_read_1 : decode cX5_read 1 = .ok (.invokevirtual 22, 3) := by decide +kernel
theorem dX5_read_4 : decode cX5_read 4 = .ok (.aload_n 0, 1) := by decide +kernel
theorem dX5_read_5 : decode cX5_read 5 = .ok (.iconst 0, 1) := by decide +kernel
theorem dX5_read_6 : decode cX5_read 6 = .ok (.putfield 27, 3) := by decide +kernel
theorem dX5_read_9 : decode cX5_read 9 = .ok (.aload_n 0, 1) := by decide +kernel
theorem dX5_read_10 : decode cX5_read 10 = .ok (.iconst (-1), 1) := by decide +kernel
theorem dX5_read_11 : decode cX5_read 11 = .ok (.putfield 18, 3) := by decide +kernel
theorem dX5_read_14 : decode cX5_read 14 = .ok (.aload_n 0, 1) := by decide +kernel
theorem dX5_read_15 : decode cX5_read 15 = .ok (.getfield 12, 3) := by decide +kernel
theorem dX5_read_18 : decode cX5_read 18 = .ok (.invokevirtual 30, 3) := by decide +kernel
theorem dX5_read_21 : decode cX5_read 21 = .ok (.iconst 0, 1) := by decide +kernel
theorem dX5_read_22 : decode cX5_read 22 = .ok (.istore_n 2, 1) := by decide +kernel
theorem dX5_read_23 : decode cX5_read 23 = .ok (.iload_n 2, 1) := by decide +kernel
theorem dX5_read_24 : decode cX5_read 24 = .ok (.sipush 1200, 3) := by decide +kernel
theorem dX5_read_27 : decode cX5_read 27 = .ok (.if_icmp .ge 45, 3) := by decide +kernel
theorem dX5_read_30 : decode cX5_read 30 = .ok (.aload_n 0, 1) := by decide +kernel
theorem dX5_read_31 : decode cX5_read 31 = .ok (.getfield 27, 3) := by decide +kernel
theorem dX5_read_34 : decode cX5_read 34 = .ok (.ifCond .ne 38, 3) := by decide +kernel
theorem dX5_read_37 : decode cX5_read 37 = .ok (.aload_n 0, 1) := by decide +kernel
theorem dX5_read_38 : decode cX5_read 38 = .ok (.getfield 12, 3) := by decide +kernel
theorem dX5_read_41 : decode cX5_read 41 = .ok (.getfield 33, 3) := by decide +kernel
theorem dX5_read_44 : decode cX5_read 44 = .ok (.ifCond .eq 28, 3) := by decide +kernel
theorem dX5_read_47 : decode cX5_read 47 = .ok (.aload_n 0, 1) := by decide +kernel
theorem dX5_read_48 : decode cX5_read 48 = .ok (.aload_n 1, 1) := by decide +kernel
theorem dX5_read_49 : decode cX5_read 49 = .ok (.invokevirtual 36, 3) := by decide +kernel
theorem dX5_read_52 : decode cX5_read 52 = .ok (.aload_n 0, 1) := by decide +kernel
theorem dX5_read_53 : decode cX5_read 53 = .ok (.invokevirtual 40, 3) := by decide +kernel
theorem dX5_read_56 : decode cX5_read 56 = .ok (.aload_n 1, 1) := by decide +kernel
theorem dX5_read_57 : decode cX5_read 57 = .ok (.dup, 1) := by decide +kernel
theorem dX5_read_58 : decode cX5_read 58 = .ok (.getfield 43, 3) := by decide +kernel
theorem dX5_read_61 : decode cX5_read 61 = .ok (.iconst 1, 1) := by decide +kernel
theorem dX5_read_62 : decode cX5_read 62 = .ok (.iadd, 1) := by decide +kernel
theorem dX5_read_63 : decode cX5_read 63 = .ok (.putfield 43, 3) := by decide +kernel
theorem dX5_read_66 : decode cX5_read 66 = .ok (.iinc 2 1, 3) := by decide +kernel
theorem dX5_read_69 : decode cX5_read 69 = .ok (.goto (-46), 3) := by decide +kernel
theorem dX5_read_72 : decode cX5_read 72 = .ok (.aload_n 0, 1) := by decide +kernel
theorem dX5_read_73 : decode cX5_read 73 = .ok (.getfield 27, 3) := by decide +kernel
theorem dX5_read_76 : decode cX5_read 76 = .ok (.ifCond .ne 7, 3) := by decide +kernel
theorem dX5_read_79 : decode cX5_read 79 = .ok (.iconst 1, 1) := by decide +kernel
theorem dX5_read_80 : decode cX5_read 80 = .ok (.goto 4, 3) := by decide +kernel
theorem dX5_read_83 : decode cX5_read 83 = .ok (.iconst 0, 1) := by decide +kernel
theorem dX5_read_84 : decode cX5_read 84 = .ok (.ireturn, 1) := by decide +kernel
set_option maxRecDepth 20000 in
theorem ggX5_readLine_X8_isWord : GoodIn wsX5_readLine wsX8_isWord := goodIn_r _ [8, 9, 10, 11, 12, 13, 14, 15, 16, 17, 18, 19, 20, 21, 22, 23, 24, 25, 26, 27, 28, 29, 30, 31, 32, 33, 34, 35, 36, 37, 38, 39, 40, 41, 42, 43, 44, 45, 46, 47, 48, 49, 50, 51, 52, 53, 54, 55, 56, 57, 58, 59, 60, 61, 184, 185, 186, 187, 188, 189] (by decide +kernel) (by decide +kernel)
set_option maxRecDepth 20000 in
theorem gX5_readLine_X8_isWord : GoodIn wsX5_readLine (wsV RX5 48 RX8 yX8_isWord wsX8_isWord) := goodIn_app (goodIn_of _ (by decide +kernel)) ggX5_readLine_X8_isWord
set_option maxRecDepth 20000 in
theorem ggX5_readLine_X5_fail : GoodIn wsX5_readLine wsX5_fail := goodIn_r _ [66, 67, 68, 180, 181, 182, 183] (by decide +kernel) (by decide +kernel)
set_option maxRecDepth 20000 in
theorem gX5_readLine_X5_fail : GoodIn wsX5_readLine (wsV RX5 55 RX5 yX5_fail wsX5_fail) := goodIn_app (goodIn_of _ (by decide +kernel)) ggX5_readLine_X5_fail
set_option maxRecDepth 20000 in
theorem ggX5_readLine_X5_readDance : GoodIn wsX5_readLine wsX5_readDance := goodIn_r _ [72, 2, 73, 74, 75, 76, 77, 78, 7, 79, 10, 11, 80, 12, 81, 9, 82, 83, 84, 85, 86, 87, 88, 89, 90, 91, 65, 92, 3, 4, 5, 6, 8, 13, 14, 15, 16, 17, 18, 19, 20, 21, 22, 23, 24, 25, 26, 27, 28, 29, 30, 31, 32, 33, 34, 35, 36, 37, 38, 39, 40, 41, 42, 43, 44, 45, 46, 47, 48, 49, 50, 51, 52, 53, 54, 55, 56, 57, 58, 59, 60, 61, 62, 63, 64, 66, 67, 68, 93, 94, 95, 96, 97, 98, 99, 180, 181, 182, 183, 163, 164, 165, 166, 167, 168, 169, 170, 171, 172, 173, 174, 175, 176, 177, 178, 179, 184, 185, 186, 187, 188, 189] (by decide +kernel) (by decide +kernel)
set_option maxRecDepth 20000 in
theorem gX5_readLine_X5_readDance : GoodIn wsX5_readLine (wsV RX5 59 RX5 yX5_readDance wsX5_readDance) := goodIn_app (goodIn_of _ (by decide +kernel)) ggX5_readLine_X5_readDance
set_option maxRecDepth 20000 in
theorem ggX5_readLine_X5_readRound : GoodIn wsX5_readLine wsX5_readRound := goodIn_r _ [103, 2, 98, 104, 105, 106, 76, 77, 78, 7, 79, 10, 11, 80, 12, 81, 9, 82, 83, 84, 85, 86, 87, 88, 93, 94, 95, 65, 96, 97, 3, 99, 67, 62, 63, 64, 66, 68, 89, 90, 91, 92, 4, 5, 6, 8, 13, 14, 15, 16, 17, 18, 19, 20, 21, 22, 23, 24, 25, 26, 27, 28, 29, 30, 31, 32, 33, 34, 35, 36, 37, 38, 39, 40, 41, 42, 43, 44, 45, 46, 47, 48, 49, 50, 51, 52, 53, 54, 55, 56, 57, 58, 59, 60, 61, 107, 108, 109, 110, 180, 181, 182, 183, 163, 164, 165, 166, 167, 168, 169, 170, 171, 172, 173, 174, 175, 176, 177, 178, 179, 184, 185, 186, 187, 188, 189] (by decide +kernel) (by decide +kernel)
set_option maxRecDepth 20000 in
theorem gX5_readLine_X5_readRound : GoodIn wsX5_readLine (wsV RX5 64 RX5 yX5_readRound wsX5_readRound) := goodIn_app (goodIn_of _ (by decide +kernel)) ggX5_readLine_X5_readRound
set_option maxRecDepth 20000 in
theorem ggX5_readLine_X5_readAnswers : GoodIn wsX5_readLine wsX5_readAnswers := goodIn_r _ [114, 2, 115, 76, 77, 78, 7, 79, 10, 11, 80, 12, 81, 9, 82, 83, 84, 85, 86, 87, 88, 93, 94, 95, 65, 96, 97, 3, 98, 99, 67, 62, 63, 64, 66, 68, 107, 108, 109, 110, 180, 181, 182, 183, 163, 164, 165, 166, 167, 168, 169, 170, 171, 172, 173, 174, 175, 176, 177, 178, 179, 184, 185, 186, 187, 188, 189] (by decide +kernel) (by decide +kernel)
set_option maxRecDepth 20000 in
theorem gX5_readLine_X5_readAnswers : GoodIn wsX5_readLine (wsV RX5 69 RX5 yX5_readAnswers wsX5_readAnswers) := goodIn_app (goodIn_of _ (by decide +kernel)) ggX5_readLine_X5_readAnswers
set_option maxRecDepth 20000 in
theorem ggX5_readLine_X5_readStumble : GoodIn wsX5_readLine wsX5_readStumble := goodIn_r _ [119, 120, 98, 121, 122, 123, 65, 124, 2, 3, 62, 63, 64, 66, 67, 68, 76, 77, 78, 7, 79, 10, 11, 80, 12, 81, 9, 82, 83, 84, 85, 86, 87, 88, 93, 94, 95, 96, 97, 99, 89, 90, 91, 92, 4, 5, 6, 8, 13, 14, 15, 16, 17, 18, 19, 20, 21, 22, 23, 24, 25, 26, 27, 28, 29, 30, 31, 32, 33, 34, 35, 36, 37, 38, 39, 40, 41, 42, 43, 44, 45, 46, 47, 48, 49, 50, 51, 52, 53, 54, 55, 56, 57, 58, 59, 60, 61, 125, 126, 127, 128, 129, 130, 131, 132, 133, 134, 135, 163, 164, 165, 166, 167, 168, 169, 170, 171, 172, 173, 174, 175, 176, 177, 178, 179, 180, 181, 182, 183, 184, 185, 186, 187, 188, 189] (by decide +kernel) (by decide +kernel)
set_option maxRecDepth 20000 in
theorem gX5_readLine_X5_readStumble : GoodIn wsX5_readLine (wsV RX5 74 RX5 yX5_readStumble wsX5_readStumble) := goodIn_app (goodIn_of _ (by decide +kernel)) ggX5_readLine_X5_readStumble
set_option maxRecDepth 20000 in
theorem ggX5_readLine_X5_readMud : GoodIn wsX5_readLine wsX5_readMud := goodIn_r _ [139, 2, 140, 98, 76, 77, 78, 7, 79, 10, 11, 80, 12, 81, 9, 82, 83, 84, 85, 86, 87, 88, 93, 94, 95, 65, 96, 97, 3, 99, 67, 62, 63, 64, 66, 68, 180, 181, 182, 183, 163, 164, 165, 166, 167, 168, 169, 170, 171, 172, 173, 174, 175, 176, 177, 178, 179, 184, 185, 186, 187, 188, 189] (by decide +kernel) (by decide +kernel)
set_option maxRecDepth 20000 in
theorem gX5_readLine_X5_readMud : GoodIn wsX5_readLine (wsV RX5 79 RX5 yX5_readMud wsX5_readMud) := goodIn_app (goodIn_of _ (by decide +kernel)) ggX5_readLine_X5_readMud
set_option maxRecDepth 20000 in
theorem ggX5_readLine_X5_readWood : GoodIn wsX5_readLine wsX5_readWood := goodIn_r _ [144, 145, 121, 122, 123, 65, 124, 2, 3, 62, 63, 64, 66, 67, 68, 76, 77, 78, 7, 79, 10, 11, 80, 12, 81, 9, 82, 83, 84, 85, 86, 87, 88, 89, 90, 91, 92, 4, 5, 6, 8, 13, 14, 15, 16, 17, 18, 19, 20, 21, 22, 23, 24, 25, 26, 27, 28, 29, 30, 31, 32, 33, 34, 35, 36, 37, 38, 39, 40, 41, 42, 43, 44, 45, 46, 47, 48, 49, 50, 51, 52, 53, 54, 55, 56, 57, 58, 59, 60, 61, 93, 94, 95, 96, 97, 98, 99, 146, 147, 148, 128, 149, 150, 151, 163, 164, 165, 166, 167, 168, 169, 170, 171, 172, 173, 174, 175, 176, 177, 178, 179, 180, 181, 182, 183, 184, 185, 186, 187, 188, 189] (by decide +kernel) (by decide +kernel)
set_option maxRecDepth 20000 in
theorem gX5_readLine_X5_readWood : GoodIn wsX5_readLine (wsV RX5 84 RX5 yX5_readWood wsX5_readWood) := goodIn_app (goodIn_of _ (by decide +kernel)) ggX5_readLine_X5_readWood
set_option maxRecDepth 20000 in
theorem ggX5_readLine_X5_readTune : GoodIn wsX5_readLine wsX5_readTune := goodIn_r _ [155, 156, 121, 122, 123, 65, 124, 2, 3, 62, 63, 64, 66, 67, 68, 76, 77, 78, 7, 79, 10, 11, 80, 12, 81, 9, 82, 83, 84, 85, 86, 87, 88, 93, 94, 95, 96, 97, 98, 99, 89, 90, 91, 92, 4, 5, 6, 8, 13, 14, 15, 16, 17, 18, 19, 20, 21, 22, 23, 24, 25, 26, 27, 28, 29, 30, 31, 32, 33, 34, 35, 36, 37, 38, 39, 40, 41, 42, 43, 44, 45, 46, 47, 48, 49, 50, 51, 52, 53, 54, 55, 56, 57, 58, 59, 60, 61, 157, 158, 159, 128, 160, 161, 162, 163, 164, 165, 166, 167, 168, 169, 170, 171, 172, 173, 174, 175, 176, 177, 178, 179, 180, 181, 182, 183, 184, 185, 186, 187, 188, 189] (by decide +kernel) (by decide +kernel)
set_option maxRecDepth 20000 in
theorem gX5_readLine_X5_readTune : GoodIn wsX5_readLine (wsV RX5 89 RX5 yX5_readTune wsX5_readTune) := goodIn_app (goodIn_of _ (by decide +kernel)) ggX5_readLine_X5_readTune
theorem dX5_readLine_0 : decode cX5_readLine 0 = .ok (.aload_n 1, 1) := by decide +kernel
theorem dX5_readLine_1 : decode cX5_readLine 1 = .ok (.getfield 43, 3) := by decide +kernel
theorem dX5_readLine_4 : decode cX5_readLine 4 = .ok (.ifCond .ne 7, 3) := by decide +kernel
theorem dX5_readLine_7 : decode cX5_readLine 7 = .ok (.iconst 1, 1) := by decide +kernel
theorem dX5_readLine_8 : decode cX5_readLine 8 = .ok (.goto 4, 3) := by decide +kernel
theorem dX5_readLine_11 : decode cX5_readLine 11 = .ok (.iconst 0, 1) := by decide +kernel
theorem dX5_readLine_12 : decode cX5_readLine 12 = .ok (.istore_n 2, 1) := by decide +kernel
theorem dX5_readLine_13 : decode cX5_readLine 13 = .ok (.iload_n 2, 1) := by decide +kernel
theorem dX5_readLine_14 : decode cX5_readLine 14 = .ok (.aload_n 0, 1) := by decide +kernel
theorem dX5_readLine_15 : decode cX5_readLine 15 = .ok (.getfield 12, 3) := by decide +kernel
theorem dX5_readLine_18 : decode cX5_readLine 18 = .ok (.ldc 46, 2) := by decide +kernel
theorem dX5_readLine_20 : decode cX5_readLine 20 = .ok (.invokevirtual 48, 3) := by decide +kernel
theorem dX5_readLine_23 : decode cX5_readLine 23 = .ok (.if_icmp .eq 18, 3) := by decide +kernel
theorem dX5_readLine_26 : decode cX5_readLine 26 = .ok (.aload_n 0, 1) := by decide +kernel
theorem dX5_readLine_27 : decode cX5_readLine 27 = .ok (.iconst 1, 1) := by decide +kernel
theorem dX5_readLine_28 : decode cX5_readLine 28 = .ok (.aload_n 0, 1) := by decide +kernel
theorem dX5_readLine_29 : decode cX5_readLine 29 = .ok (.getfield 12, 3) := by decide +kernel
theorem dX5_readLine_32 : decode cX5_readLine 32 = .ok (.getfield 52, 3) := by decide +kernel
theorem dX5_readLine_35 : decode cX5_readLine 35 = .ok (.invokevirtual 55, 3) := by decide +kernel
theorem dX5_readLine_38 : decode cX5_readLine 38 = .ok (.goto 147, 3) := by decide +kernel
theorem dX5_readLine_41 : decode cX5_readLine 41 = .ok (.iload_n 2, 1) := by decide +kernel
theorem dX5_readLine_42 : decode cX5_readLine 42 = .ok (.ifCond .eq 11, 3) := by decide +kernel
theorem dX5_readLine_45 : decode cX5_readLine 45 = .ok (.aload_n 0, 1) := by decide +kernel
theorem dX5_readLine_46 : decode cX5_readLine 46 = .ok (.aload_n 1, 1) := by decide +kernel
theorem dX5_readLine_47 : decode cX5_readLine 47 = .ok (.invokevirtual 59, 3) := by decide +kernel
theorem dX5_readLine_50 : decode cX5_readLine 50 = .ok (.goto 135, 3) := by decide +kernel
theorem dX5_readLine_53 : decode cX5_readLine 53 = .ok (.aload_n 0, 1) := by decide +kernel
theorem dX5_readLine_54 : decode cX5_readLine 54 = .ok (.getfield 12, 3) := by decide +kernel
theorem dX5_readLine_57 : decode cX5_readLine 57 = .ok (.ldc 62, 2) := by decide +kernel
theorem dX5_readLine_59 : decode cX5_readLine 59 = .ok (.invokevirtual 48, 3) := by decide +kernel
theorem dX5_readLine_62 : decode cX5_readLine 62 = .ok (.ifCond .eq 11, 3) := by decide +kernel
theorem dX5_readLine_65 : decode cX5_readLine 65 = .ok (.aload_n 0, 1) := by decide +kernel
theorem dX5_readLine_66 : decode cX5_readLine 66 = .ok (.aload_n 1, 1) := by decide +kernel
theorem dX5_readLine_67 : decode cX5_readLine 67 = .ok (.invokevirtual 64, 3) := by decide +kernel
theorem dX5_readLine_70 : decode cX5_readLine 70 = .ok (.goto 115, 3) := by decide +kernel
theorem dX5_readLine_73 : decode cX5_readLine 73 = .ok (.aload_n 0, 1) := by decide +kernel
theorem dX5_readLine_74 : decode cX5_readLine 74 = .ok (.getfield 12, 3) := by decide +kernel
theorem dX5_readLine_77 : decode cX5_readLine 77 = .ok (.ldc 67, 2) := by decide +kernel
theorem dX5_readLine_79 : decode cX5_readLine 79 = .ok (.invokevirtual 48, 3) := by decide +kernel
theorem dX5_readLine_82 : decode cX5_readLine 82 = .ok (.ifCond .eq 11, 3) := by decide +kernel
theorem dX5_readLine_85 : decode cX5_readLine 85 = .ok (.aload_n 0, 1) := by decide +kernel
theorem dX5_readLine_86 : decode cX5_readLine 86 = .ok (.aload_n 1, 1) := by decide +kernel
theorem dX5_readLine_87 : decode cX5_readLine 87 = .ok (.invokevirtual 69, 3) := by decide +kernel
theorem dX5_readLine_90 : decode cX5_readLine 90 = .ok (.goto 95, 3) := by decide +kernel
theorem dX5_readLine_93 : decode cX5_readLine 93 = .ok (.aload_n 0, 1) := by decide +kernel
theorem dX5_readLine_94 : decode cX5_readLine 94 = .ok (.getfield 12, 3) := by decide +kernel
theorem dX5_readLine_97 : decode cX5_readLine 97 = .ok (.ldc 72, 2) := by decide +kernel
theorem dX5_readLine_99 : decode cX5_readLine 99 = .ok (.invokevirtual 48, 3) := by decide +kernel
theorem dX5_readLine_102 : decode cX5_readLine 102 = .ok (.ifCond .eq 11, 3) := by decide +kernel
theorem dX5_readLine_105 : decode cX5_readLine 105 = .ok (.aload_n 0, 1) := by decide +kernel
theorem dX5_readLine_106 : decode cX5_readLine 106 = .ok (.aload_n 1, 1) := by decide +kernel
theorem dX5_readLine_107 : decode cX5_readLine 107 = .ok (.invokevirtual 74, 3) := by decide +kernel
theorem dX5_readLine_110 : decode cX5_readLine 110 = .ok (.goto 75, 3) := by decide +kernel
theorem dX5_readLine_113 : decode cX5_readLine 113 = .ok (.aload_n 0, 1) := by decide +kernel
theorem dX5_readLine_114 : decode cX5_readLine 114 = .ok (.getfield 12, 3) := by decide +kernel
theorem dX5_readLine_117 : decode cX5_readLine 117 = .ok (.ldc 77, 2) := by decide +kernel
theorem dX5_readLine_119 : decode cX5_readLine 119 = .ok (.invokevirtual 48, 3) := by decide +kernel
theorem dX5_readLine_122 : decode cX5_readLine 122 = .ok (.ifCond .eq 11, 3) := by decide +kernel
theorem dX5_readLine_125 : decode cX5_readLine 125 = .ok (.aload_n 0, 1) := by decide +kernel
theorem dX5_readLine_126 : decode cX5_readLine 126 = .ok (.aload_n 1, 1) := by decide +kernel
theorem dX5_readLine_127 : decode cX5_readLine 127 = .ok (.invokevirtual 79, 3) := by decide +kernel
theorem dX5_readLine_130 : decode cX5_readLine 130 = .ok (.goto 55, 3) := by decide +kernel
theorem dX5_readLine_133 : decode cX5_readLine 133 = .ok (.aload_n 0, 1) := by decide +kernel
theorem dX5_readLine_134 : decode cX5_readLine 134 = .ok (.getfield 12, 3) := by decide +kernel
theorem dX5_readLine_137 : decode cX5_readLine 137 = .ok (.ldc 82, 2) := by decide +kernel
theorem dX5_readLine_139 : decode cX5_readLine 139 = .ok (.invokevirtual 48, 3) := by decide +kernel
theorem dX5_readLine_142 : decode cX5_readLine 142 = .ok (.ifCond .eq 11, 3) := by decide +kernel
theorem dX5_readLine_145 : decode cX5_readLine 145 = .ok (.aload_n 0, 1) := by decide +kernel
theorem dX5_readLine_146 : decode cX5_readLine 146 = .ok (.aload_n 1, 1) := by decide +kernel
theorem dX5_readLine_147 : decode cX5_readLine 147 = .ok (.invokevirtual 84, 3) := by decide +kernel
theorem dX5_readLine_150 : decode cX5_readLine 150 = .ok (.goto 35, 3) := by decide +kernel
theorem dX5_readLine_153 : decode cX5_readLine 153 = .ok (.aload_n 0, 1) := by decide +kernel
theorem dX5_readLine_154 : decode cX5_readLine 154 = .ok (.getfield 12, 3) := by decide +kernel
theorem dX5_readLine_157 : decode cX5_readLine 157 = .ok (.ldc 87, 2) := by decide +kernel
theorem dX5_readLine_159 : decode cX5_readLine 159 = .ok (.invokevirtual 48, 3) := by decide +kernel
theorem dX5_readLine_162 : decode cX5_readLine 162 = .ok (.ifCond .eq 11, 3) := by decide +kernel
theorem dX5_readLine_165 : decode cX5_readLine 165 = .ok (.aload_n 0, 1) := by decide +kernel
theorem dX5_readLine_166 : decode cX5_readLine 166 = .ok (.aload_n 1, 1) := by decide +kernel
theorem dX5_readLine_167 : decode cX5_readLine 167 = .ok (.invokevirtual 89, 3) := by decide +kernel
theorem dX5_readLine_170 : decode cX5_readLine 170 = .ok (.goto 15, 3) := by decide +kernel
theorem dX5_readLine_173 : decode cX5_readLine 173 = .ok (.aload_n 0, 1) := by decide +kernel
theorem dX5_readLine_174 : decode cX5_readLine 174 = .ok (.iconst 1, 1) := by decide +kernel
theorem dX5_readLine_175 : decode cX5_readLine 175 = .ok (.aload_n 0, 1) := by decide +kernel
theorem dX5_readLine_176 : decode cX5_readLine 176 = .ok (.getfield 12, 3) := by decide +kernel
theorem dX5_readLine_179 : decode cX5_readLine 179 = .ok (.getfield 52, 3) := by decide +kernel
theorem dX5_readLine_182 : decode cX5_readLine 182 = .ok (.invokevirtual 55, 3) := by decide +kernel
theorem dX5_readLine_185 : decode cX5_readLine 185 = .ok (.return_, 1) := by decide +kernel
