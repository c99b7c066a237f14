abbrev cX5_readDance : ByteArray := prog_7_method_4_code
def yX5_readDance : MethodName := ⟨RX5, "readDance", "(LOverHill$Dance;)V"⟩
abbrev cX5_readRound : ByteArray := prog_7_method_5_code
def yX5_readRound : MethodName := ⟨RX5, "readRound", "(LOverHill$Dance;)V"⟩
abbrev cX5_readAnswers : ByteArray := prog_7_method_6_code
def yX5_readAnswers : MethodName := ⟨RX5, "readAnswers", "(LOverHill$Dance;)V"⟩
abbrev cX5_readStumble : ByteArray := prog_7_method_7_code
def yX5_readStumble : MethodName := ⟨RX5, "readStumble", "(LOverHill$Dance;)V"⟩
abbrev cX5_readMud : ByteArray := prog_7_method_8_code
def yX5_readMud : MethodName := ⟨RX5, "readMud", "(LOverHill$Dance;)V"⟩
abbrev cX5_readWood : ByteArray := prog_7_method_9_code
def yX5_readWood : MethodName := ⟨RX5, "readWood", "(LOverHill$Dance;)V"⟩
abbrev cX5_readTune : ByteArray := prog_7_method_10_code
def yX5_readTune : MethodName := ⟨RX5, "readTune", "(LOverHill$Dance;)V"⟩
abbrev cX5_beginOneOf : ByteArray := prog_7_method_11_code
def yX5_beginOneOf : MethodName := ⟨RX5, "beginOneOf", "(II)V"⟩
abbrev cX5_seesNumber : ByteArray := prog_7_method_12_code
def yX5_seesNumber : MethodName := ⟨RX5, "seesNumber", "()Z"⟩
abbrev cX5_takeWord : ByteArray := prog_7_method_13_code
def yX5_takeWord : MethodName := ⟨RX5, "takeWord", "(Ljava/lang/String;)V"⟩
abbrev cX5_takeSemicolon : ByteArray := prog_7_method_14_code
def yX5_takeSemicolon : MethodName := ⟨RX5, "takeSemicolon", "()V"⟩
abbrev cX5_takeNumber : ByteArray := prog_7_method_15_code
def yX5_takeNumber : MethodName := ⟨RX5, "takeNumber", "(II)I"⟩
abbrev cX5_fail : ByteArray := prog_7_method_16_code
def yX5_fail : MethodName := ⟨RX5, "fail", "(II)V"⟩
def wsX5_fail : List Cond := .code yX5_fail cX5_fail 3 none :: ([.fieldLink RX5 27 "OverHill$Reader" "fault" "I", .fieldLink RX5 18 "OverHill$Reader" "faultPlace" "I"] ++ wsX50)
def wsX5_takeWord_r1 : List Cond := [Cond.fieldLink RX5 12 "OverHill$Reader" "tape" "LOverHill$Tape;", Cond.fieldLink RX5 52 "OverHill$Tape" "from" "I", Cond.methodLink RX5 48 yX8_isWord, Cond.instanceMethod yX8_isWord, Cond.selects RX8 yX8_isWord yX8_isWord, Cond.initialized RX8, Cond.code yX8_isWord cX8_isWord 3 (some .boolean), Cond.fieldLink RX8 35 "OverHill$Tape" "kind" "I", Cond.fieldLink RX8 19 "OverHill$Tape" "upto" "I", Cond.fieldLink RX8 25 "OverHill$Tape" "from" "I", Cond.fieldLink RX8 9 "OverHill$Tape" "bytes" "[B", Cond.methodLink RX8 44 yJ0_length_8abf5, Cond.instanceMethod yJ0_length_8abf5, Cond.selects RJ0 yJ0_length_8abf5 yJ0_length_8abf5, Cond.initialized RJ0, Cond.code yJ0_length_8abf5 cJ0_length_8abf5 1 (some .int), Cond.fieldLink RJ0 9 "java/lang/String" "value" "[B", Cond.methodLink RJ0 335 yJ0_coder_7d493, Cond.instanceMethod yJ0_coder_7d493, Cond.selects RJ0 yJ0_coder_7d493 yJ0_coder_7d493, Cond.code yJ0_coder_7d493 cJ0_coder_7d493 1 (some .byte), Cond.fieldLink RJ0 38 "java/lang/String" "COMPACT_STRINGS" "Z", Cond.fieldLink RJ0 15 "java/lang/String" "coder" "B", Cond.methodLink RX8 49 yJ0_charAt_5068e]
def wsX5_takeWord_r2 : List Cond := [Cond.instanceMethod yJ0_charAt_5068e, Cond.selects RJ0 yJ0_charAt_5068e yJ0_charAt_5068e, Cond.code yJ0_charAt_5068e cJ0_charAt_5068e 2 (some .char), Cond.methodLink RJ0 492 yJ0_isLatin1_aae02, Cond.instanceMethod yJ0_isLatin1_aae02, Cond.selects RJ0 yJ0_isLatin1_aae02 yJ0_isLatin1_aae02, Cond.code yJ0_isLatin1_aae02 cJ0_isLatin1_aae02 1 (some .boolean), Cond.methodLink RJ0 495 yJ1_charAt_3b067, Cond.static yJ1_charAt_3b067, Cond.initialized RJ1, Cond.code yJ1_charAt_3b067 cJ1_charAt_3b067 2 (some .char), Cond.methodLink RJ1 9 yJ0_checkIndex_df160, Cond.static yJ0_checkIndex_df160, Cond.code yJ0_checkIndex_df160 cJ0_checkIndex_df160 2 none, Cond.fieldLink RJ0 1053 "jdk/internal/util/Preconditions" "SIOOBE_FORMATTER" "Ljava/util/function/BiFunction;", Cond.methodLink RJ0 1059 yJ3_checkIndex_8e157, Cond.static yJ3_checkIndex_8e157, Cond.initialized RJ3, Cond.code yJ3_checkIndex_8e157 cJ3_checkIndex_8e157 3 (some .int), Cond.methodLink RJ0 498 yJ2_charAt_3b067, Cond.static yJ2_charAt_3b067, Cond.initialized RJ2, Cond.code yJ2_charAt_3b067 cJ2_charAt_3b067 2 (some .char), Cond.methodLink RJ2 67 yJ2_checkIndex_2214a]
def wsX5_takeWord_r3 : List Cond := [Cond.static yJ2_checkIndex_2214a, Cond.code yJ2_checkIndex_2214a cJ2_checkIndex_2214a 2 none, Cond.methodLink RJ2 48 yJ2_length_9d52b, Cond.static yJ2_length_9d52b, Cond.code yJ2_length_9d52b cJ2_length_9d52b 1 (some .int), Cond.methodLink RJ2 414 yJ0_checkIndex_df160, Cond.methodLink RJ2 71 yJ2_getChar_3b067, Cond.static yJ2_getChar_3b067, Cond.code yJ2_getChar_3b067 cJ2_getChar_3b067 2 (some .char), Cond.fieldLink RJ2 44 "java/lang/StringUTF16" "$assertionsDisabled" "Z", Cond.fieldLink RJ2 59 "java/lang/StringUTF16" "HI_BYTE_SHIFT" "I", Cond.fieldLink RJ2 63 "java/lang/StringUTF16" "LO_BYTE_SHIFT" "I", Cond.methodLink RX5 55 yX5_fail, Cond.instanceMethod yX5_fail, Cond.selects RX5 yX5_fail yX5_fail, Cond.initialized RX5, Cond.code yX5_fail cX5_fail 3 none, Cond.fieldLink RX5 27 "OverHill$Reader" "fault" "I", Cond.fieldLink RX5 18 "OverHill$Reader" "faultPlace" "I", Cond.methodLink RX5 92 yX8_advance, Cond.instanceMethod yX8_advance, Cond.selects RX8 yX8_advance yX8_advance, Cond.code yX8_advance cX8_advance 1 none, Cond.fieldLink RX8 15 "OverHill$Tape" "length" "I"]
def wsX5_takeWord_r4 : List Cond := [Cond.fieldLink RX8 32 "OverHill$Tape" "value" "I", Cond.methodLink RX8 38 Lib.Math.min.name, Cond.static Lib.Math.min.name, Cond.initialized "java/lang/Math", Cond.code Lib.Math.min.name Lib.Math.min.code 2 (some .int), Cond.methodLink RX8 28 yX8_kindOf, Cond.static yX8_kindOf, Cond.code yX8_kindOf cX8_kindOf 1 (some .int)]
def wsX5_takeWord : List Cond := .code yX5_takeWord cX5_takeWord 2 none :: ((wsX5_takeWord_r1 ++ (wsX5_takeWord_r2 ++ (wsX5_takeWord_r3 ++ wsX5_takeWord_r4))) ++ wsX50 ++ wsX80)
def wsX5_takeNumber_r1 : List Cond := [Cond.fieldLink RX5 12 "OverHill$Reader" "tape" "LOverHill$Tape;", Cond.fieldLink RX5 175 "OverHill$Tape" "value" "I", Cond.fieldLink RX5 52 "OverHill$Tape" "from" "I", Cond.fieldLink RX5 121 "OverHill$Reader" "numberPlace" "I", Cond.fieldLink RX5 33 "OverHill$Tape" "kind" "I", Cond.fieldLink RX5 27 "OverHill$Reader" "fault" "I", Cond.methodLink RX5 55 yX5_fail, Cond.instanceMethod yX5_fail, Cond.selects RX5 yX5_fail yX5_fail, Cond.initialized RX5, Cond.code yX5_fail cX5_fail 3 none, Cond.fieldLink RX5 18 "OverHill$Reader" "faultPlace" "I", Cond.methodLink RX5 92 yX8_advance, Cond.instanceMethod yX8_advance, Cond.selects RX8 yX8_advance yX8_advance, Cond.initialized RX8, Cond.code yX8_advance cX8_advance 1 none, Cond.fieldLink RX8 19 "OverHill$Tape" "upto" "I", Cond.fieldLink RX8 25 "OverHill$Tape" "from" "I", Cond.fieldLink RX8 15 "OverHill$Tape" "length" "I", Cond.fieldLink RX8 9 "OverHill$Tape" "bytes" "[B", Cond.fieldLink RX8 32 "OverHill$Tape" "value" "I", Cond.fieldLink RX8 35 "OverHill$Tape" "kind" "I", Cond.methodLink RX8 38 Lib.Math.min.name]
def wsX5_takeNumber_r2 : List Cond := [Cond.static Lib.Math.min.name, Cond.initialized "java/lang/Math", Cond.code Lib.Math.min.name Lib.Math.min.code 2 (some .int), Cond.methodLink RX8 28 yX8_kindOf, Cond.static yX8_kindOf, Cond.code yX8_kindOf cX8_kindOf 1 (some .int)]
def wsX5_takeNumber : List Cond := .code yX5_takeNumber cX5_takeNumber 4 (some .int) :: ((wsX5_takeNumber_r1 ++ wsX5_takeNumber_r2) ++ wsX50 ++ wsX80)
def wsX5_readDance_r1 : List Cond := [Cond.fieldLink RX5 12 "OverHill$Reader" "tape" "LOverHill$Tape;", Cond.fieldLink RX5 105 "OverHill$Dance" "gap" "I", Cond.fieldLink RX5 109 "OverHill$Dance" "odds" "I", Cond.fieldLink RX5 113 "OverHill$Dance" "rain" "I", Cond.methodLink RX5 92 yX8_advance, Cond.instanceMethod yX8_advance, Cond.selects RX8 yX8_advance yX8_advance, Cond.initialized RX8, Cond.code yX8_advance cX8_advance 1 none, Cond.fieldLink RX8 19 "OverHill$Tape" "upto" "I", Cond.fieldLink RX8 25 "OverHill$Tape" "from" "I", Cond.fieldLink RX8 15 "OverHill$Tape" "length" "I", Cond.fieldLink RX8 9 "OverHill$Tape" "bytes" "[B", Cond.fieldLink RX8 32 "OverHill$Tape" "value" "I", Cond.fieldLink RX8 35 "OverHill$Tape" "kind" "I", Cond.methodLink RX8 38 Lib.Math.min.name, Cond.static Lib.Math.min.name, Cond.initialized "java/lang/Math", Cond.code Lib.Math.min.name Lib.Math.min.code 2 (some .int), Cond.methodLink RX8 28 yX8_kindOf, Cond.static yX8_kindOf, Cond.code yX8_kindOf cX8_kindOf 1 (some .int), Cond.methodLink RX5 97 yX5_takeWord, Cond.instanceMethod yX5_takeWord]
def wsX5_readDance_r2 : List Cond := [Cond.selects RX5 yX5_takeWord yX5_takeWord, Cond.initialized RX5, Cond.code yX5_takeWord cX5_takeWord 2 none, Cond.fieldLink RX5 52 "OverHill$Tape" "from" "I", Cond.methodLink RX5 48 yX8_isWord, Cond.instanceMethod yX8_isWord, Cond.selects RX8 yX8_isWord yX8_isWord, Cond.code yX8_isWord cX8_isWord 3 (some .boolean), Cond.methodLink RX8 44 yJ0_length_8abf5, Cond.instanceMethod yJ0_length_8abf5, Cond.selects RJ0 yJ0_length_8abf5 yJ0_length_8abf5, Cond.initialized RJ0, Cond.code yJ0_length_8abf5 cJ0_length_8abf5 1 (some .int), Cond.fieldLink RJ0 9 "java/lang/String" "value" "[B", Cond.methodLink RJ0 335 yJ0_coder_7d493, Cond.instanceMethod yJ0_coder_7d493, Cond.selects RJ0 yJ0_coder_7d493 yJ0_coder_7d493, Cond.code yJ0_coder_7d493 cJ0_coder_7d493 1 (some .byte), Cond.fieldLink RJ0 38 "java/lang/String" "COMPACT_STRINGS" "Z", Cond.fieldLink RJ0 15 "java/lang/String" "coder" "B", Cond.methodLink RX8 49 yJ0_charAt_5068e, Cond.instanceMethod yJ0_charAt_5068e, Cond.selects RJ0 yJ0_charAt_5068e yJ0_charAt_5068e, Cond.code yJ0_charAt_5068e cJ0_charAt_5068e 2 (some .char)]
def wsX5_readDance_r3 : List Cond := [Cond.methodLink RJ0 492 yJ0_isLatin1_aae02, Cond.instanceMethod yJ0_isLatin1_aae02, Cond.selects RJ0 yJ0_isLatin1_aae02 yJ0_isLatin1_aae02, Cond.code yJ0_isLatin1_aae02 cJ0_isLatin1_aae02 1 (some .boolean), Cond.methodLink RJ0 495 yJ1_charAt_3b067, Cond.static yJ1_charAt_3b067, Cond.initialized RJ1, Cond.code yJ1_charAt_3b067 cJ1_charAt_3b067 2 (some .char), Cond.methodLink RJ1 9 yJ0_checkIndex_df160, Cond.static yJ0_checkIndex_df160, Cond.code yJ0_checkIndex_df160 cJ0_checkIndex_df160 2 none, Cond.fieldLink RJ0 1053 "jdk/internal/util/Preconditions" "SIOOBE_FORMATTER" "Ljava/util/function/BiFunction;", Cond.methodLink RJ0 1059 yJ3_checkIndex_8e157, Cond.static yJ3_checkIndex_8e157, Cond.initialized RJ3, Cond.code yJ3_checkIndex_8e157 cJ3_checkIndex_8e157 3 (some .int), Cond.methodLink RJ0 498 yJ2_charAt_3b067, Cond.static yJ2_charAt_3b067, Cond.initialized RJ2, Cond.code yJ2_charAt_3b067 cJ2_charAt_3b067 2 (some .char), Cond.methodLink RJ2 67 yJ2_checkIndex_2214a, Cond.static yJ2_checkIndex_2214a, Cond.code yJ2_checkIndex_2214a cJ2_checkIndex_2214a 2 none, Cond.methodLink RJ2 48 yJ2_length_9d52b]
def wsX5_readDance_r4 : List Cond := [Cond.static yJ2_length_9d52b, Cond.code yJ2_length_9d52b cJ2_length_9d52b 1 (some .int), Cond.methodLink RJ2 414 yJ0_checkIndex_df160, Cond.methodLink RJ2 71 yJ2_getChar_3b067, Cond.static yJ2_getChar_3b067, Cond.code yJ2_getChar_3b067 cJ2_getChar_3b067 2 (some .char), Cond.fieldLink RJ2 44 "java/lang/StringUTF16" "$assertionsDisabled" "Z", Cond.fieldLink RJ2 59 "java/lang/StringUTF16" "HI_BYTE_SHIFT" "I", Cond.fieldLink RJ2 63 "java/lang/StringUTF16" "LO_BYTE_SHIFT" "I", Cond.methodLink RX5 55 yX5_fail, Cond.instanceMethod yX5_fail, Cond.selects RX5 yX5_fail yX5_fail, Cond.code yX5_fail cX5_fail 3 none, Cond.fieldLink RX5 27 "OverHill$Reader" "fault" "I", Cond.fieldLink RX5 18 "OverHill$Reader" "faultPlace" "I", Cond.methodLink RX5 101 yX5_takeNumber, Cond.instanceMethod yX5_takeNumber, Cond.selects RX5 yX5_takeNumber yX5_takeNumber, Cond.code yX5_takeNumber cX5_takeNumber 4 (some .int), Cond.fieldLink RX5 175 "OverHill$Tape" "value" "I", Cond.fieldLink RX5 121 "OverHill$Reader" "numberPlace" "I", Cond.fieldLink RX5 33 "OverHill$Tape" "kind" "I"]
def wsX5_readDance : List Cond := .code yX5_readDance cX5_readDance 2 none :: ((wsX5_readDance_r1 ++ (wsX5_readDance_r2 ++ (wsX5_readDance_r3 ++ wsX5_readDance_r4))) ++ wsX50 ++ wsX00 ++ wsX80)
def wsX5_seesNumber : List Cond := .code yX5_seesNumber cX5_seesNumber 1 (some .boolean) :: ([.fieldLink RX5 27 "OverHill$Reader" "fault" "I", .fieldLink RX5 12 "OverHill$Reader" "tape" "LOverHill$Tape;", .fieldLink RX5 33 "OverHill$Tape" "kind" "I"] ++ wsX50 ++ wsX80)
def wsX5_readRound_r1 : List Cond := [Cond.fieldLink RX5 12 "OverHill$Reader" "tape" "LOverHill$Tape;", Cond.fieldLink RX5 121 "OverHill$Reader" "numberPlace" "I", Cond.fieldLink RX5 124 "OverHill$Dance" "steps" "[I", Cond.fieldLink RX5 130 "OverHill$Dance" "starts" "[I", Cond.fieldLink RX5 133 "OverHill$Dance" "lengths" "[I", Cond.methodLink RX5 92 yX8_advance, Cond.instanceMethod yX8_advance, Cond.selects RX8 yX8_advance yX8_advance, Cond.initialized RX8, Cond.code yX8_advance cX8_advance 1 none, Cond.fieldLink RX8 19 "OverHill$Tape" "upto" "I", Cond.fieldLink RX8 25 "OverHill$Tape" "from" "I", Cond.fieldLink RX8 15 "OverHill$Tape" "length" "I", Cond.fieldLink RX8 9 "OverHill$Tape" "bytes" "[B", Cond.fieldLink RX8 32 "OverHill$Tape" "value" "I", Cond.fieldLink RX8 35 "OverHill$Tape" "kind" "I", Cond.methodLink RX8 38 Lib.Math.min.name, Cond.static Lib.Math.min.name, Cond.initialized "java/lang/Math", Cond.code Lib.Math.min.name Lib.Math.min.code 2 (some .int), Cond.methodLink RX8 28 yX8_kindOf, Cond.static yX8_kindOf, Cond.code yX8_kindOf cX8_kindOf 1 (some .int), Cond.methodLink RX5 101 yX5_takeNumber]
def wsX5_readRound_r2 : List Cond := [Cond.instanceMethod yX5_takeNumber, Cond.selects RX5 yX5_takeNumber yX5_takeNumber, Cond.initialized RX5, Cond.code yX5_takeNumber cX5_takeNumber 4 (some .int), Cond.fieldLink RX5 175 "OverHill$Tape" "value" "I", Cond.fieldLink RX5 52 "OverHill$Tape" "from" "I", Cond.fieldLink RX5 33 "OverHill$Tape" "kind" "I", Cond.fieldLink RX5 27 "OverHill$Reader" "fault" "I", Cond.methodLink RX5 55 yX5_fail, Cond.instanceMethod yX5_fail, Cond.selects RX5 yX5_fail yX5_fail, Cond.code yX5_fail cX5_fail 3 none, Cond.fieldLink RX5 18 "OverHill$Reader" "faultPlace" "I", Cond.methodLink RX5 97 yX5_takeWord, Cond.instanceMethod yX5_takeWord, Cond.selects RX5 yX5_takeWord yX5_takeWord, Cond.code yX5_takeWord cX5_takeWord 2 none, Cond.methodLink RX5 48 yX8_isWord, Cond.instanceMethod yX8_isWord, Cond.selects RX8 yX8_isWord yX8_isWord, Cond.code yX8_isWord cX8_isWord 3 (some .boolean), Cond.methodLink RX8 44 yJ0_length_8abf5, Cond.instanceMethod yJ0_length_8abf5, Cond.selects RJ0 yJ0_length_8abf5 yJ0_length_8abf5]
def wsX5_readRound_r3 : List Cond := [Cond.initialized RJ0, Cond.code yJ0_length_8abf5 cJ0_length_8abf5 1 (some .int), Cond.fieldLink RJ0 9 "java/lang/String" "value" "[B", Cond.methodLink RJ0 335 yJ0_coder_7d493, Cond.instanceMethod yJ0_coder_7d493, Cond.selects RJ0 yJ0_coder_7d493 yJ0_coder_7d493, Cond.code yJ0_coder_7d493 cJ0_coder_7d493 1 (some .byte), Cond.fieldLink RJ0 38 "java/lang/String" "COMPACT_STRINGS" "Z", Cond.fieldLink RJ0 15 "java/lang/String" "coder" "B", Cond.methodLink RX8 49 yJ0_charAt_5068e, Cond.instanceMethod yJ0_charAt_5068e, Cond.selects RJ0 yJ0_charAt_5068e yJ0_charAt_5068e, Cond.code yJ0_charAt_5068e cJ0_charAt_5068e 2 (some .char), Cond.methodLink RJ0 492 yJ0_isLatin1_aae02, Cond.instanceMethod yJ0_isLatin1_aae02, Cond.selects RJ0 yJ0_isLatin1_aae02 yJ0_isLatin1_aae02, Cond.code yJ0_isLatin1_aae02 cJ0_isLatin1_aae02 1 (some .boolean), Cond.methodLink RJ0 495 yJ1_charAt_3b067, Cond.static yJ1_charAt_3b067, Cond.initialized RJ1, Cond.code yJ1_charAt_3b067 cJ1_charAt_3b067 2 (some .char), Cond.methodLink RJ1 9 yJ0_checkIndex_df160, Cond.static yJ0_checkIndex_df160, Cond.code yJ0_checkIndex_df160 cJ0_checkIndex_df160 2 none]
def wsX5_readRound_r4 : List Cond := [Cond.fieldLink RJ0 1053 "jdk/internal/util/Preconditions" "SIOOBE_FORMATTER" "Ljava/util/function/BiFunction;", Cond.methodLink RJ0 1059 yJ3_checkIndex_8e157, Cond.static yJ3_checkIndex_8e157, Cond.initialized RJ3, Cond.code yJ3_checkIndex_8e157 cJ3_checkIndex_8e157 3 (some .int), Cond.methodLink RJ0 498 yJ2_charAt_3b067, Cond.static yJ2_charAt_3b067, Cond.initialized RJ2, Cond.code yJ2_charAt_3b067 cJ2_charAt_3b067 2 (some .char), Cond.methodLink RJ2 67 yJ2_checkIndex_2214a, Cond.static yJ2_checkIndex_2214a, Cond.code yJ2_checkIndex_2214a cJ2_checkIndex_2214a 2 none, Cond.methodLink RJ2 48 yJ2_length_9d52b, Cond.static yJ2_length_9d52b, Cond.code yJ2_length_9d52b cJ2_length_9d52b 1 (some .int), Cond.methodLink RJ2 414 yJ0_checkIndex_df160, Cond.methodLink RJ2 71 yJ2_getChar_3b067, Cond.static yJ2_getChar_3b067, Cond.code yJ2_getChar_3b067 cJ2_getChar_3b067 2 (some .char), Cond.fieldLink RJ2 44 "java/lang/StringUTF16" "$assertionsDisabled" "Z", Cond.fieldLink RJ2 59 "java/lang/StringUTF16" "HI_BYTE_SHIFT" "I", Cond.fieldLink RJ2 63 "java/lang/StringUTF16" "LO_BYTE_SHIFT" "I", Cond.methodLink RX5 117 yX5_seesNumber, Cond.instanceMethod yX5_seesNumber]
def wsX5_readRound_r5 : List Cond := [Cond.selects RX5 yX5_seesNumber yX5_seesNumber, Cond.code yX5_seesNumber cX5_seesNumber 1 (some .boolean)]
def wsX5_readRound : List Cond := .code yX5_readRound cX5_readRound 6 none :: ((wsX5_readRound_r1 ++ (wsX5_readRound_r2 ++ (wsX5_readRound_r3 ++ (wsX5_readRound_r4 ++ wsX5_readRound_r5)))) ++ wsX50 ++ wsX00 ++ wsX80)
def wsX5_readAnswers_r1 : List Cond := [Cond.fieldLink RX5 12 "OverHill$Reader" "tape" "LOverHill$Tape;", Cond.fieldLink RX5 136 "OverHill$Dance" "met" "[I", Cond.methodLink RX5 92 yX8_advance, Cond.instanceMethod yX8_advance, Cond.selects RX8 yX8_advance yX8_advance, Cond.initialized RX8, Cond.code yX8_advance cX8_advance 1 none, Cond.fieldLink RX8 19 "OverHill$Tape" "upto" "I", Cond.fieldLink RX8 25 "OverHill$Tape" "from" "I", Cond.fieldLink RX8 15 "OverHill$Tape" "length" "I", Cond.fieldLink RX8 9 "OverHill$Tape" "bytes" "[B", Cond.fieldLink RX8 32 "OverHill$Tape" "value" "I", Cond.fieldLink RX8 35 "OverHill$Tape" "kind" "I", Cond.methodLink RX8 38 Lib.Math.min.name, Cond.static Lib.Math.min.name, Cond.initialized "java/lang/Math", Cond.code Lib.Math.min.name Lib.Math.min.code 2 (some .int), Cond.methodLink RX8 28 yX8_kindOf, Cond.static yX8_kindOf, Cond.code yX8_kindOf cX8_kindOf 1 (some .int), Cond.methodLink RX5 101 yX5_takeNumber, Cond.instanceMethod yX5_takeNumber, Cond.selects RX5 yX5_takeNumber yX5_takeNumber, Cond.initialized RX5]
def wsX5_readAnswers_r2 : List Cond := [Cond.code yX5_takeNumber cX5_takeNumber 4 (some .int), Cond.fieldLink RX5 175 "OverHill$Tape" "value" "I", Cond.fieldLink RX5 52 "OverHill$Tape" "from" "I", Cond.fieldLink RX5 121 "OverHill$Reader" "numberPlace" "I", Cond.fieldLink RX5 33 "OverHill$Tape" "kind" "I", Cond.fieldLink RX5 27 "OverHill$Reader" "fault" "I", Cond.methodLink RX5 55 yX5_fail, Cond.instanceMethod yX5_fail, Cond.selects RX5 yX5_fail yX5_fail, Cond.code yX5_fail cX5_fail 3 none, Cond.fieldLink RX5 18 "OverHill$Reader" "faultPlace" "I", Cond.methodLink RX5 117 yX5_seesNumber, Cond.instanceMethod yX5_seesNumber, Cond.selects RX5 yX5_seesNumber yX5_seesNumber, Cond.code yX5_seesNumber cX5_seesNumber 1 (some .boolean)]
def wsX5_readAnswers : List Cond := .code yX5_readAnswers cX5_readAnswers 5 none :: ((wsX5_readAnswers_r1 ++ wsX5_readAnswers_r2) ++ wsX50 ++ wsX00 ++ wsX80)
def wsX5_beginOneOf_r1 : List Cond := [Cond.fieldLink RX5 12 "OverHill$Reader" "tape" "LOverHill$Tape;", Cond.fieldLink RX5 52 "OverHill$Tape" "from" "I", Cond.methodLink RX5 55 yX5_fail, Cond.instanceMethod yX5_fail, Cond.selects RX5 yX5_fail yX5_fail, Cond.initialized RX5, Cond.code yX5_fail cX5_fail 3 none, Cond.fieldLink RX5 27 "OverHill$Reader" "fault" "I", Cond.fieldLink RX5 18 "OverHill$Reader" "faultPlace" "I", Cond.methodLink RX5 92 yX8_advance, Cond.instanceMethod yX8_advance, Cond.selects RX8 yX8_advance yX8_advance, Cond.initialized RX8, Cond.code yX8_advance cX8_advance 1 none, Cond.fieldLink RX8 19 "OverHill$Tape" "upto" "I", Cond.fieldLink RX8 25 "OverHill$Tape" "from" "I", Cond.fieldLink RX8 15 "OverHill$Tape" "length" "I", Cond.fieldLink RX8 9 "OverHill$Tape" "bytes" "[B", Cond.fieldLink RX8 32 "OverHill$Tape" "value" "I", Cond.fieldLink RX8 35 "OverHill$Tape" "kind" "I", Cond.methodLink RX8 38 Lib.Math.min.name, Cond.static Lib.Math.min.name, Cond.initialized "java/lang/Math", Cond.code Lib.Math.min.name Lib.Math.min.code 2 (some .int)]
def wsX5_beginOneOf_r2 : List Cond := [Cond.methodLink RX8 28 yX8_kindOf, Cond.static yX8_kindOf, Cond.code yX8_kindOf cX8_kindOf 1 (some .int)]
def wsX5_beginOneOf : List Cond := .code yX5_beginOneOf cX5_beginOneOf 3 none :: ((wsX5_beginOneOf_r1 ++ wsX5_beginOneOf_r2) ++ wsX50 ++ wsX80)
def wsX5_readStumble_r1 : List Cond := [Cond.fieldLink RX5 139 "OverHill$Dance" "stumbleCount" "I", Cond.fieldLink RX5 121 "OverHill$Reader" "numberPlace" "I", Cond.methodLink RX5 142 yX5_beginOneOf, Cond.instanceMethod yX5_beginOneOf, Cond.selects RX5 yX5_beginOneOf yX5_beginOneOf, Cond.initialized RX5, Cond.code yX5_beginOneOf cX5_beginOneOf 3 none, Cond.fieldLink RX5 12 "OverHill$Reader" "tape" "LOverHill$Tape;", Cond.fieldLink RX5 52 "OverHill$Tape" "from" "I", Cond.methodLink RX5 55 yX5_fail, Cond.instanceMethod yX5_fail, Cond.selects RX5 yX5_fail yX5_fail, Cond.code yX5_fail cX5_fail 3 none, Cond.fieldLink RX5 27 "OverHill$Reader" "fault" "I", Cond.fieldLink RX5 18 "OverHill$Reader" "faultPlace" "I", Cond.methodLink RX5 92 yX8_advance, Cond.instanceMethod yX8_advance, Cond.selects RX8 yX8_advance yX8_advance, Cond.initialized RX8, Cond.code yX8_advance cX8_advance 1 none, Cond.fieldLink RX8 19 "OverHill$Tape" "upto" "I", Cond.fieldLink RX8 25 "OverHill$Tape" "from" "I", Cond.fieldLink RX8 15 "OverHill$Tape" "length" "I", Cond.fieldLink RX8 9 "OverHill$Tape" "bytes" "[B"]
def wsX5_readStumble_r2 : List Cond := [Cond.fieldLink RX8 32 "OverHill$Tape" "value" "I", Cond.fieldLink RX8 35 "OverHill$Tape" "kind" "I", Cond.methodLink RX8 38 Lib.Math.min.name, Cond.static Lib.Math.min.name, Cond.initialized "java/lang/Math", Cond.code Lib.Math.min.name Lib.Math.min.code 2 (some .int), Cond.methodLink RX8 28 yX8_kindOf, Cond.static yX8_kindOf, Cond.code yX8_kindOf cX8_kindOf 1 (some .int), Cond.methodLink RX5 101 yX5_takeNumber, Cond.instanceMethod yX5_takeNumber, Cond.selects RX5 yX5_takeNumber yX5_takeNumber, Cond.code yX5_takeNumber cX5_takeNumber 4 (some .int), Cond.fieldLink RX5 175 "OverHill$Tape" "value" "I", Cond.fieldLink RX5 33 "OverHill$Tape" "kind" "I", Cond.methodLink RX5 97 yX5_takeWord, Cond.instanceMethod yX5_takeWord, Cond.selects RX5 yX5_takeWord yX5_takeWord, Cond.code yX5_takeWord cX5_takeWord 2 none, Cond.methodLink RX5 48 yX8_isWord, Cond.instanceMethod yX8_isWord, Cond.selects RX8 yX8_isWord yX8_isWord, Cond.code yX8_isWord cX8_isWord 3 (some .boolean), Cond.methodLink RX8 44 yJ0_length_8abf5]
def wsX5_readStumble_r3 : List Cond := [Cond.instanceMethod yJ0_length_8abf5, Cond.selects RJ0 yJ0_length_8abf5 yJ0_length_8abf5, Cond.initialized RJ0, Cond.code yJ0_length_8abf5 cJ0_length_8abf5 1 (some .int), Cond.fieldLink RJ0 9 "java/lang/String" "value" "[B", Cond.methodLink RJ0 335 yJ0_coder_7d493, Cond.instanceMethod yJ0_coder_7d493, Cond.selects RJ0 yJ0_coder_7d493 yJ0_coder_7d493, Cond.code yJ0_coder_7d493 cJ0_coder_7d493 1 (some .byte), Cond.fieldLink RJ0 38 "java/lang/String" "COMPACT_STRINGS" "Z", Cond.fieldLink RJ0 15 "java/lang/String" "coder" "B", Cond.methodLink RX8 49 yJ0_charAt_5068e, Cond.instanceMethod yJ0_charAt_5068e, Cond.selects RJ0 yJ0_charAt_5068e yJ0_charAt_5068e, Cond.code yJ0_charAt_5068e cJ0_charAt_5068e 2 (some .char), Cond.methodLink RJ0 492 yJ0_isLatin1_aae02, Cond.instanceMethod yJ0_isLatin1_aae02, Cond.selects RJ0 yJ0_isLatin1_aae02 yJ0_isLatin1_aae02, Cond.code yJ0_isLatin1_aae02 cJ0_isLatin1_aae02 1 (some .boolean), Cond.methodLink RJ0 495 yJ1_charAt_3b067, Cond.static yJ1_charAt_3b067, Cond.initialized RJ1, Cond.code yJ1_charAt_3b067 cJ1_charAt_3b067 2 (some .char), Cond.methodLink RJ1 9 yJ0_checkIndex_df160]
def wsX5_readStumble_r4 : List Cond := [Cond.static yJ0_checkIndex_df160, Cond.code yJ0_checkIndex_df160 cJ0_checkIndex_df160 2 none, Cond.fieldLink RJ0 1053 "jdk/internal/util/Preconditions" "SIOOBE_FORMATTER" "Ljava/util/function/BiFunction;", Cond.methodLink RJ0 1059 yJ3_checkIndex_8e157, Cond.static yJ3_checkIndex_8e157, Cond.initialized RJ3, Cond.code yJ3_checkIndex_8e157 cJ3_checkIndex_8e157 3 (some .int), Cond.methodLink RJ0 498 yJ2_charAt_3b067, Cond.static yJ2_charAt_3b067, Cond.initialized RJ2, Cond.code yJ2_charAt_3b067 cJ2_charAt_3b067 2 (some .char), Cond.methodLink RJ2 67 yJ2_checkIndex_2214a, Cond.static yJ2_checkIndex_2214a, Cond.code yJ2_checkIndex_2214a cJ2_checkIndex_2214a 2 none, Cond.methodLink RJ2 48 yJ2_length_9d52b, Cond.static yJ2_length_9d52b, Cond.code yJ2_length_9d52b cJ2_length_9d52b 1 (some .int), Cond.methodLink RJ2 414 yJ0_checkIndex_df160, Cond.methodLink RJ2 71 yJ2_getChar_3b067, Cond.static yJ2_getChar_3b067, Cond.code yJ2_getChar_3b067 cJ2_getChar_3b067 2 (some .char), Cond.fieldLink RJ2 44 "java/lang/StringUTF16" "$assertionsDisabled" "Z", Cond.fieldLink RJ2 59 "java/lang/StringUTF16" "HI_BYTE_SHIFT" "I", Cond.fieldLink RJ2 63 "java/lang/StringUTF16" "LO_BYTE_SHIFT" "I"]
def wsX5_readStumble_r5 : List Cond := [Cond.methodLink RX5 147 yX0_stumbleOf, Cond.instanceMethod yX0_stumbleOf, Cond.selects RX0 yX0_stumbleOf yX0_stumbleOf, Cond.initialized RX0, Cond.code yX0_stumbleOf cX0_stumbleOf 5 (some .int), Cond.fieldLink RX0 58 "OverHill$Dance" "stumbleCount" "I", Cond.fieldLink RX0 24 "OverHill$Dance" "stumbles" "[I", Cond.methodLink RX5 154 yX0_addStumble, Cond.instanceMethod yX0_addStumble, Cond.selects RX0 yX0_addStumble yX0_addStumble, Cond.code yX0_addStumble cX0_addStumble 6 none]
def wsX5_readStumble : List Cond := .code yX5_readStumble cX5_readStumble 6 none :: ((wsX5_readStumble_r1 ++ (wsX5_readStumble_r2 ++ (wsX5_readStumble_r3 ++ (wsX5_readStumble_r4 ++ wsX5_readStumble_r5)))) ++ wsX00 ++ wsX50 ++ wsX80)
def wsX5_readMud_r1 : List Cond := [Cond.fieldLink RX5 12 "OverHill$Reader" "tape" "LOverHill$Tape;", Cond.fieldLink RX5 158 "OverHill$Dance" "muds" "[I", Cond.fieldLink RX5 121 "OverHill$Reader" "numberPlace" "I", Cond.methodLink RX5 92 yX8_advance, Cond.instanceMethod yX8_advance, Cond.selects RX8 yX8_advance yX8_advance, Cond.initialized RX8, Cond.code yX8_advance cX8_advance 1 none, Cond.fieldLink RX8 19 "OverHill$Tape" "upto" "I", Cond.fieldLink RX8 25 "OverHill$Tape" "from" "I", Cond.fieldLink RX8 15 "OverHill$Tape" "length" "I", Cond.fieldLink RX8 9 "OverHill$Tape" "bytes" "[B", Cond.fieldLink RX8 32 "OverHill$Tape" "value" "I", Cond.fieldLink RX8 35 "OverHill$Tape" "kind" "I", Cond.methodLink RX8 38 Lib.Math.min.name, Cond.static Lib.Math.min.name, Cond.initialized "java/lang/Math", Cond.code Lib.Math.min.name Lib.Math.min.code 2 (some .int), Cond.methodLink RX8 28 yX8_kindOf, Cond.static yX8_kindOf, Cond.code yX8_kindOf cX8_kindOf 1 (some .int), Cond.methodLink RX5 101 yX5_takeNumber, Cond.instanceMethod yX5_takeNumber, Cond.selects RX5 yX5_takeNumber yX5_takeNumber]
def wsX5_readMud_r2 : List Cond := [Cond.initialized RX5, Cond.code yX5_takeNumber cX5_takeNumber 4 (some .int), Cond.fieldLink RX5 175 "OverHill$Tape" "value" "I", Cond.fieldLink RX5 52 "OverHill$Tape" "from" "I", Cond.fieldLink RX5 33 "OverHill$Tape" "kind" "I", Cond.fieldLink RX5 27 "OverHill$Reader" "fault" "I", Cond.methodLink RX5 55 yX5_fail, Cond.instanceMethod yX5_fail, Cond.selects RX5 yX5_fail yX5_fail, Cond.code yX5_fail cX5_fail 3 none, Cond.fieldLink RX5 18 "OverHill$Reader" "faultPlace" "I"]
def wsX5_readMud : List Cond := .code yX5_readMud cX5_readMud 3 none :: ((wsX5_readMud_r1 ++ wsX5_readMud_r2) ++ wsX50 ++ wsX00 ++ wsX80)
def wsX5_readWood_r1 : List Cond := [Cond.fieldLink RX5 161 "OverHill$Dance" "cellCount" "I", Cond.methodLink RX5 142 yX5_beginOneOf, Cond.instanceMethod yX5_beginOneOf, Cond.selects RX5 yX5_beginOneOf yX5_beginOneOf, Cond.initialized RX5, Cond.code yX5_beginOneOf cX5_beginOneOf 3 none, Cond.fieldLink RX5 12 "OverHill$Reader" "tape" "LOverHill$Tape;", Cond.fieldLink RX5 52 "OverHill$Tape" "from" "I", Cond.methodLink RX5 55 yX5_fail, Cond.instanceMethod yX5_fail, Cond.selects RX5 yX5_fail yX5_fail, Cond.code yX5_fail cX5_fail 3 none, Cond.fieldLink RX5 27 "OverHill$Reader" "fault" "I", Cond.fieldLink RX5 18 "OverHill$Reader" "faultPlace" "I", Cond.methodLink RX5 92 yX8_advance, Cond.instanceMethod yX8_advance, Cond.selects RX8 yX8_advance yX8_advance, Cond.initialized RX8, Cond.code yX8_advance cX8_advance 1 none, Cond.fieldLink RX8 19 "OverHill$Tape" "upto" "I", Cond.fieldLink RX8 25 "OverHill$Tape" "from" "I", Cond.fieldLink RX8 15 "OverHill$Tape" "length" "I", Cond.fieldLink RX8 9 "OverHill$Tape" "bytes" "[B", Cond.fieldLink RX8 32 "OverHill$Tape" "value" "I"]
def wsX5_readWood_r2 : List Cond := [Cond.fieldLink RX8 35 "OverHill$Tape" "kind" "I", Cond.methodLink RX8 38 Lib.Math.min.name, Cond.static Lib.Math.min.name, Cond.initialized "java/lang/Math", Cond.code Lib.Math.min.name Lib.Math.min.code 2 (some .int), Cond.methodLink RX8 28 yX8_kindOf, Cond.static yX8_kindOf, Cond.code yX8_kindOf cX8_kindOf 1 (some .int), Cond.methodLink RX5 97 yX5_takeWord, Cond.instanceMethod yX5_takeWord, Cond.selects RX5 yX5_takeWord yX5_takeWord, Cond.code yX5_takeWord cX5_takeWord 2 none, Cond.methodLink RX5 48 yX8_isWord, Cond.instanceMethod yX8_isWord, Cond.selects RX8 yX8_isWord yX8_isWord, Cond.code yX8_isWord cX8_isWord 3 (some .boolean), Cond.methodLink RX8 44 yJ0_length_8abf5, Cond.instanceMethod yJ0_length_8abf5, Cond.selects RJ0 yJ0_length_8abf5 yJ0_length_8abf5, Cond.initialized RJ0, Cond.code yJ0_length_8abf5 cJ0_length_8abf5 1 (some .int), Cond.fieldLink RJ0 9 "java/lang/String" "value" "[B", Cond.methodLink RJ0 335 yJ0_coder_7d493, Cond.instanceMethod yJ0_coder_7d493]
def wsX5_readWood_r3 : List Cond := [Cond.selects RJ0 yJ0_coder_7d493 yJ0_coder_7d493, Cond.code yJ0_coder_7d493 cJ0_coder_7d493 1 (some .byte), Cond.fieldLink RJ0 38 "java/lang/String" "COMPACT_STRINGS" "Z", Cond.fieldLink RJ0 15 "java/lang/String" "coder" "B", Cond.methodLink RX8 49 yJ0_charAt_5068e, Cond.instanceMethod yJ0_charAt_5068e, Cond.selects RJ0 yJ0_charAt_5068e yJ0_charAt_5068e, Cond.code yJ0_charAt_5068e cJ0_charAt_5068e 2 (some .char), Cond.methodLink RJ0 492 yJ0_isLatin1_aae02, Cond.instanceMethod yJ0_isLatin1_aae02, Cond.selects RJ0 yJ0_isLatin1_aae02 yJ0_isLatin1_aae02, Cond.code yJ0_isLatin1_aae02 cJ0_isLatin1_aae02 1 (some .boolean), Cond.methodLink RJ0 495 yJ1_charAt_3b067, Cond.static yJ1_charAt_3b067, Cond.initialized RJ1, Cond.code yJ1_charAt_3b067 cJ1_charAt_3b067 2 (some .char), Cond.methodLink RJ1 9 yJ0_checkIndex_df160, Cond.static yJ0_checkIndex_df160, Cond.code yJ0_checkIndex_df160 cJ0_checkIndex_df160 2 none, Cond.fieldLink RJ0 1053 "jdk/internal/util/Preconditions" "SIOOBE_FORMATTER" "Ljava/util/function/BiFunction;", Cond.methodLink RJ0 1059 yJ3_checkIndex_8e157, Cond.static yJ3_checkIndex_8e157, Cond.initialized RJ3, Cond.code yJ3_checkIndex_8e157 cJ3_checkIndex_8e157 3 (some .int)]
def wsX5_readWood_r4 : List Cond := [Cond.methodLink RJ0 498 yJ2_charAt_3b067, Cond.static yJ2_charAt_3b067, Cond.initialized RJ2, Cond.code yJ2_charAt_3b067 cJ2_charAt_3b067 2 (some .char), Cond.methodLink RJ2 67 yJ2_checkIndex_2214a, Cond.static yJ2_checkIndex_2214a, Cond.code yJ2_checkIndex_2214a cJ2_checkIndex_2214a 2 none, Cond.methodLink RJ2 48 yJ2_length_9d52b, Cond.static yJ2_length_9d52b, Cond.code yJ2_length_9d52b cJ2_length_9d52b 1 (some .int), Cond.methodLink RJ2 414 yJ0_checkIndex_df160, Cond.methodLink RJ2 71 yJ2_getChar_3b067, Cond.static yJ2_getChar_3b067, Cond.code yJ2_getChar_3b067 cJ2_getChar_3b067 2 (some .char), Cond.fieldLink RJ2 44 "java/lang/StringUTF16" "$assertionsDisabled" "Z", Cond.fieldLink RJ2 59 "java/lang/StringUTF16" "HI_BYTE_SHIFT" "I", Cond.fieldLink RJ2 63 "java/lang/StringUTF16" "LO_BYTE_SHIFT" "I", Cond.methodLink RX5 101 yX5_takeNumber, Cond.instanceMethod yX5_takeNumber, Cond.selects RX5 yX5_takeNumber yX5_takeNumber, Cond.code yX5_takeNumber cX5_takeNumber 4 (some .int), Cond.fieldLink RX5 175 "OverHill$Tape" "value" "I", Cond.fieldLink RX5 121 "OverHill$Reader" "numberPlace" "I", Cond.fieldLink RX5 33 "OverHill$Tape" "kind" "I"]
def wsX5_readWood_r5 : List Cond := [Cond.methodLink RX5 166 yX0_addCell, Cond.instanceMethod yX0_addCell, Cond.selects RX0 yX0_addCell yX0_addCell, Cond.initialized RX0, Cond.code yX0_addCell cX0_addCell 3 none, Cond.fieldLink RX0 61 "OverHill$Dance" "cellCount" "I", Cond.fieldLink RX0 30 "OverHill$Dance" "cells" "[I"]
def wsX5_readWood : List Cond := .code yX5_readWood cX5_readWood 3 none :: ((wsX5_readWood_r1 ++ (wsX5_readWood_r2 ++ (wsX5_readWood_r3 ++ (wsX5_readWood_r4 ++ wsX5_readWood_r5)))) ++ wsX00 ++ wsX50 ++ wsX80)
def wsX5_readTune_r1 : List Cond := [Cond.fieldLink RX5 169 "OverHill$Dance" "tuneCount" "I", Cond.methodLink RX5 142 yX5_beginOneOf, Cond.instanceMethod yX5_beginOneOf, Cond.selects RX5 yX5_beginOneOf yX5_beginOneOf, Cond.initialized RX5, Cond.code yX5_beginOneOf cX5_beginOneOf 3 none, Cond.fieldLink RX5 12 "OverHill$Reader" "tape" "LOverHill$Tape;", Cond.fieldLink RX5 52 "OverHill$Tape" "from" "I", Cond.methodLink RX5 55 yX5_fail, Cond.instanceMethod yX5_fail, Cond.selects RX5 yX5_fail yX5_fail, Cond.code yX5_fail cX5_fail 3 none, Cond.fieldLink RX5 27 "OverHill$Reader" "fault" "I", Cond.fieldLink RX5 18 "OverHill$Reader" "faultPlace" "I", Cond.methodLink RX5 92 yX8_advance, Cond.instanceMethod yX8_advance, Cond.selects RX8 yX8_advance yX8_advance, Cond.initialized RX8, Cond.code yX8_advance cX8_advance 1 none, Cond.fieldLink RX8 19 "OverHill$Tape" "upto" "I", Cond.fieldLink RX8 25 "OverHill$Tape" "from" "I", Cond.fieldLink RX8 15 "OverHill$Tape" "length" "I", Cond.fieldLink RX8 9 "OverHill$Tape" "bytes" "[B", Cond.fieldLink RX8 32 "OverHill$Tape" "value" "I"]
def wsX5_readTune_r2 : List Cond := [Cond.fieldLink RX8 35 "OverHill$Tape" "kind" "I", Cond.methodLink RX8 38 Lib.Math.min.name, Cond.static Lib.Math.min.name, Cond.initialized "java/lang/Math", Cond.code Lib.Math.min.name Lib.Math.min.code 2 (some .int), Cond.methodLink RX8 28 yX8_kindOf, Cond.static yX8_kindOf, Cond.code yX8_kindOf cX8_kindOf 1 (some .int), Cond.methodLink RX5 101 yX5_takeNumber, Cond.instanceMethod yX5_takeNumber, Cond.selects RX5 yX5_takeNumber yX5_takeNumber, Cond.code yX5_takeNumber cX5_takeNumber 4 (some .int), Cond.fieldLink RX5 175 "OverHill$Tape" "value" "I", Cond.fieldLink RX5 121 "OverHill$Reader" "numberPlace" "I", Cond.fieldLink RX5 33 "OverHill$Tape" "kind" "I", Cond.methodLink RX5 97 yX5_takeWord, Cond.instanceMethod yX5_takeWord, Cond.selects RX5 yX5_takeWord yX5_takeWord, Cond.code yX5_takeWord cX5_takeWord 2 none, Cond.methodLink RX5 48 yX8_isWord, Cond.instanceMethod yX8_isWord, Cond.selects RX8 yX8_isWord yX8_isWord, Cond.code yX8_isWord cX8_isWord 3 (some .boolean), Cond.methodLink RX8 44 yJ0_length_8abf5]
def wsX5_readTune_r3 : List Cond := [Cond.instanceMethod yJ0_length_8abf5, Cond.selects RJ0 yJ0_length_8abf5 yJ0_length_8abf5, Cond.initialized RJ0, Cond.code yJ0_length_8abf5 cJ0_length_8abf5 1 (some .int), Cond.fieldLink RJ0 9 "java/lang/String" "value" "[B", Cond.methodLink RJ0 335 yJ0_coder_7d493, Cond.instanceMethod yJ0_coder_7d493, Cond.selects RJ0 yJ0_coder_7d493 yJ0_coder_7d493, Cond.code yJ0_coder_7d493 cJ0_coder_7d493 1 (some .byte), Cond.fieldLink RJ0 38 "java/lang/String" "COMPACT_STRINGS" "Z", Cond.fieldLink RJ0 15 "java/lang/String" "coder" "B", Cond.methodLink RX8 49 yJ0_charAt_5068e, Cond.instanceMethod yJ0_charAt_5068e, Cond.selects RJ0 yJ0_charAt_5068e yJ0_charAt_5068e, Cond.code yJ0_charAt_5068e cJ0_charAt_5068e 2 (some .char), Cond.methodLink RJ0 492 yJ0_isLatin1_aae02, Cond.instanceMethod yJ0_isLatin1_aae02, Cond.selects RJ0 yJ0_isLatin1_aae02 yJ0_isLatin1_aae02, Cond.code yJ0_isLatin1_aae02 cJ0_isLatin1_aae02 1 (some .boolean), Cond.methodLink RJ0 495 yJ1_charAt_3b067, Cond.static yJ1_charAt_3b067, Cond.initialized RJ1, Cond.code yJ1_charAt_3b067 cJ1_charAt_3b067 2 (some .char), Cond.methodLink RJ1 9 yJ0_checkIndex_df160]
def wsX5_readTune_r4 : List Cond := [Cond.static yJ0_checkIndex_df160, Cond.code yJ0_checkIndex_df160 cJ0_checkIndex_df160 2 none, Cond.fieldLink RJ0 1053 "jdk/internal/util/Preconditions" "SIOOBE_FORMATTER" "Ljava/util/function/BiFunction;", Cond.methodLink RJ0 1059 yJ3_checkIndex_8e157, Cond.static yJ3_checkIndex_8e157, Cond.initialized RJ3, Cond.code yJ3_checkIndex_8e157 cJ3_checkIndex_8e157 3 (some .int), Cond.methodLink RJ0 498 yJ2_charAt_3b067, Cond.static yJ2_charAt_3b067, Cond.initialized RJ2, Cond.code yJ2_charAt_3b067 cJ2_charAt_3b067 2 (some .char), Cond.methodLink RJ2 67 yJ2_checkIndex_2214a, Cond.static yJ2_checkIndex_2214a, Cond.code yJ2_checkIndex_2214a cJ2_checkIndex_2214a 2 none, Cond.methodLink RJ2 48 yJ2_length_9d52b, Cond.static yJ2_length_9d52b, Cond.code yJ2_length_9d52b cJ2_length_9d52b 1 (some .int), Cond.methodLink RJ2 414 yJ0_checkIndex_df160, Cond.methodLink RJ2 71 yJ2_getChar_3b067, Cond.static yJ2_getChar_3b067, Cond.code yJ2_getChar_3b067 cJ2_getChar_3b067 2 (some .char), Cond.fieldLink RJ2 44 "java/lang/StringUTF16" "$assertionsDisabled" "Z", Cond.fieldLink RJ2 59 "java/lang/StringUTF16" "HI_BYTE_SHIFT" "I", Cond.fieldLink RJ2 63 "java/lang/StringUTF16" "LO_BYTE_SHIFT" "I"]
def wsX5_readTune_r5 : List Cond := [Cond.methodLink RX5 172 yX0_addTune, Cond.instanceMethod yX0_addTune, Cond.selects RX0 yX0_addTune yX0_addTune, Cond.initialized RX0, Cond.code yX0_addTune cX0_addTune 3 none, Cond.fieldLink RX0 64 "OverHill$Dance" "tuneCount" "I", Cond.fieldLink RX0 33 "OverHill$Dance" "tunes" "[I"]
def wsX5_readTune : List Cond := .code yX5_readTune cX5_readTune 3 none :: ((wsX5_readTune_r1 ++ (wsX5_readTune_r2 ++ (wsX5_readTune_r3 ++ (wsX5_readTune_r4 ++ wsX5_readTune_r5)))) ++ wsX00 ++ wsX50 ++ wsX80)
def wsX5_takeSemicolon_r1 : List Cond := [Cond.fieldLink RX5 12 "OverHill$Reader" "tape" "LOverHill$Tape;", Cond.fieldLink RX5 33 "OverHill$Tape" "kind" "I", Cond.fieldLink RX5 52 "OverHill$Tape" "from" "I", Cond.methodLink RX5 55 yX5_fail, Cond.instanceMethod yX5_fail, Cond.selects RX5 yX5_fail yX5_fail, Cond.initialized RX5, Cond.code yX5_fail cX5_fail 3 none, Cond.fieldLink RX5 27 "OverHill$Reader" "fault" "I", Cond.fieldLink RX5 18 "OverHill$Reader" "faultPlace" "I", Cond.methodLink RX5 92 yX8_advance, Cond.instanceMethod yX8_advance, Cond.selects RX8 yX8_advance yX8_advance, Cond.initialized RX8, Cond.code yX8_advance cX8_advance 1 none, Cond.fieldLink RX8 19 "OverHill$Tape" "upto" "I", Cond.fieldLink RX8 25 "OverHill$Tape" "from" "I", Cond.fieldLink RX8 15 "OverHill$Tape" "length" "I", Cond.fieldLink RX8 9 "OverHill$Tape" "bytes" "[B", Cond.fieldLink RX8 32 "OverHill$Tape" "value" "I", Cond.fieldLink RX8 35 "OverHill$Tape" "kind" "I", Cond.methodLink RX8 38 Lib.Math.min.name, Cond.static Lib.Math.min.name, Cond.initialized "java/lang/Math"]
def wsX5_takeSemicolon_r2 : List Cond := [Cond.code Lib.Math.min.name Lib.Math.min.code 2 (some .int), Cond.methodLink RX8 28 yX8_kindOf, Cond.static yX8_kindOf, Cond.code yX8_kindOf cX8_kindOf 1 (some .int)]
def wsX5_takeSemicolon : List Cond := .code yX5_takeSemicolon cX5_takeSemicolon 1 none :: ((wsX5_takeSemicolon_r1 ++ wsX5_takeSemicolon_r2) ++ wsX50 ++ wsX80)
set_option maxRecDepth 20000 in
theorem ggX5_readDance_X8_advance : GoodIn wsX5_readDance wsX8_advance := goodIn_r _ [9, 10, 11, 12, 13, 14, 15, 16, 17, 18, 19, 20, 21, 8, 22, 116, 117, 118, 119, 120, 121] (by decide +kernel) (by decide +kernel)
set_option maxRecDepth 20000 in
theorem gX5_readDance_X8_advance : GoodIn wsX5_readDance (wsV RX5 92 RX8 yX8_advance wsX8_advance) := goodIn_app (goodIn_of _ (by decide +kernel)) ggX5_readDance_X8_advance
set_option maxRecDepth 20000 in
theorem ggX5_readDance_X5_takeWord : GoodIn wsX5_readDance wsX5_takeWord := goodIn_r _ [27, 1, 28, 29, 30, 31, 8, 32, 15, 10, 11, 13, 33, 34, 35, 36, 37, 38, 39, 40, 41, 42, 43, 44, 45, 46, 47, 48, 49, 50, 51, 52, 53, 54, 55, 56, 57, 58, 59, 60, 61, 62, 63, 64, 65, 66, 67, 68, 69, 70, 71, 72, 73, 74, 75, 76, 77, 78, 79, 80, 81, 82, 83, 84, 26, 85, 86, 87, 5, 6, 7, 9, 12, 14, 16, 17, 18, 19, 20, 21, 22, 95, 96, 97, 98, 116, 117, 118, 119, 120, 121] (by decide +kernel) (by decide +kernel)
set_option maxRecDepth 20000 in
theorem gX5_readDance_X5_takeWord : GoodIn wsX5_readDance (wsV RX5 97 RX5 yX5_takeWord wsX5_takeWord) := goodIn_app (goodIn_of _ (by decide +kernel)) ggX5_readDance_X5_takeWord
set_option maxRecDepth 20000 in
theorem ggX5_readDance_X5_takeNumber : GoodIn wsX5_readDance wsX5_takeNumber := goodIn_r _ [91, 1, 92, 28, 93, 94, 86, 82, 83, 84, 26, 85, 87, 5, 6, 7, 8, 9, 10, 11, 12, 13, 14, 15, 16, 17, 18, 19, 20, 21, 22, 95, 96, 97, 98, 116, 117, 118, 119, 120, 121] (by decide +kernel) (by decide +kernel)
set_option maxRecDepth 20000 in
theorem gX5_readDance_X5_takeNumber : GoodIn wsX5_readDance (wsV RX5 101 RX5 yX5_takeNumber wsX5_takeNumber) := goodIn_app (goodIn_of _ (by decide +kernel)) ggX5_readDance_X5_takeNumber
theorem dX5_readDance_0 : decode cX5_readDance 0 = .ok (.aload_n 0, 1) := by decide +kernel
theorem dX5_readDance_1 : decode cX5_readDance 1 = .ok (.getfield 12, 3) := by decide +kernel
theorem dX5_readDance_4 : decode cX5_readDance 4 = .ok (.invokevirtual 92, 3) := by decide +kernel
theorem dX5_readDance_7 : decode cX5_readDance 7 = .ok (.aload_n 0, 1) := by decide +kernel
theorem dX5_readDance_8 : decode cX5_readDance 8 = .ok (.ldc 95, 2) := by decide +kernel
theorem dX5_readDance_10 : decode cX5_readDance 10 = .ok (.invokevirtual 97, 3) := by decide +kernel
theorem dX5_readDance_13 : decode cX5_readDance 13 = .ok (.aload_n 1, 1) := by decide +kernel
theorem dX5_readDance_14 : decode cX5_readDance 14 = .ok (.aload_n 0, 1) := by decide +kernel
theorem dX5_readDance_15 : decode cX5_readDance 15 = .ok (.iconst 0, 1) := by decide +kernel
theorem dX5_readDance_16 : decode cX5_readDance 16 = .ok (.bipush 20, 2) := by decide +kernel
theorem dX5_readDance_18 : decode cX5_readDance 18 = .ok (.invokevirtual 101, 3) := by decide +kernel
theorem dX5_readDance_21 : decode cX5_readDance 21 = .ok (.putfield 105, 3) := by decide +kernel
theorem dX5_readDance_24 : decode cX5_readDance 24 = .ok (.aload_n 0, 1) := by decide +kernel
theorem dX5_readDance_25 : decode cX5_readDance 25 = .ok (.ldc 107, 2) := by decide +kernel
theorem dX5_readDance_27 : decode cX5_readDance 27 = .ok (.invokevirtual 97, 3) := by decide +kernel
theorem dX5_readDance_30 : decode cX5_readDance 30 = .ok (.aload_n 1, 1) := by decide +kernel
theorem dX5_readDance_31 : decode cX5_readDance 31 = .ok (.aload_n 0, 1) := by decide +kernel
theorem dX5_readDance_32 : decode cX5_readDance 32 = .ok (.iconst 0, 1) := by decide +kernel
theorem dX5_readDance_33 : decode cX5_readDance 33 = .ok (.bipush 100, 2) := by decide +kernel
theorem dX5_readDance_35 : decode cX5_readDance 35 = .ok (.invokevirtual 101, 3) := by decide +kernel
theorem dX5_readDance_38 : decode cX5_readDance 38 = .ok (.putfield 109, 3) := by decide +kernel
theorem dX5_readDance_41 : decode cX5_readDance 41 = .ok (.aload_n 0, 1) := by decide +kernel
theorem dX5_readDance_42 : decode cX5_readDance 42 = .ok (.ldc 111, 2) := by decide +kernel
theorem dX5_readDance_44 : decode cX5_readDance 44 = .ok (.invokevirtual 97, 3) := by decide +kernel
theorem dX5_readDance_47 : decode cX5_readDance 47 = .ok (.aload_n 1, 1) := by decide +kernel
theorem dX5_readDance_48 : decode cX5_readDance 48 = .ok (.aload_n 0, 1) := by decide +kernel
theorem dX5_readDance_49 : decode cX5_readDance 49 = .ok (.iconst 0, 1) := by decide +kernel
theorem dX5_readDance_50 : decode cX5_readDance 50 = .ok (.bipush 100, 2) := by decide +kernel
theorem dX5_readDance_52 : decode cX5_readDance 52 = .ok (.invokevirtual 101, 3) := by decide +kernel
theorem dX5_readDance_55 : decode cX5_readDance 55 = .ok (.putfield 113, 3) := by decide +kernel
theorem dX5_readDance_58 : decode cX5_readDance 58 = .ok (.return_, 1) := by decide +kernel
set_option maxRecDepth 20000 in
theorem ggX5_readRound_X8_advance : GoodIn wsX5_readRound wsX8_advance := goodIn_r _ [10, 11, 12, 13, 14, 15, 16, 17, 18, 19, 20, 21, 22, 9, 23, 120, 121, 122, 123, 124, 125] (by decide +kernel) (by decide +kernel)
set_option maxRecDepth 20000 in
theorem gX5_readRound_X8_advance : GoodIn wsX5_readRound (wsV RX5 92 RX8 yX8_advance wsX8_advance) := goodIn_app (goodIn_of _ (by decide +kernel)) ggX5_readRound_X8_advance
set_option maxRecDepth 20000 in
theorem ggX5_readRound_X5_takeNumber : GoodIn wsX5_readRound wsX5_takeNumber := goodIn_r _ [28, 1, 29, 30, 2, 31, 32, 33, 34, 35, 27, 36, 37, 6, 7, 8, 9, 10, 11, 12, 13, 14, 15, 16, 17, 18, 19, 20, 21, 22, 23, 99, 100, 101, 102, 120, 121, 122, 123, 124, 125] (by decide +kernel) (by decide +kernel)
set_option maxRecDepth 20000 in
theorem gX5_readRound_X5_takeNumber : GoodIn wsX5_readRound (wsV RX5 101 RX5 yX5_takeNumber wsX5_takeNumber) := goodIn_app (goodIn_of _ (by decide +kernel)) ggX5_readRound_X5_takeNumber
set_option maxRecDepth 20000 in
theorem ggX5_readRound_X5_takeWord : GoodIn wsX5_readRound wsX5_takeWord := goodIn_r _ [41, 1, 30, 42, 43, 44, 9, 45, 16, 11, 12, 14, 46, 47, 48, 49, 50, 51, 52, 53, 54, 55, 56, 57, 58, 59, 60, 61, 62, 63, 64, 65, 66, 67, 68, 69, 70, 71, 72, 73, 74, 75, 76, 77, 78, 79, 80, 81, 82, 83, 84, 85, 86, 87, 88, 89, 90, 91, 92, 93, 94, 33, 34, 35, 27, 36, 32, 37, 6, 7, 8, 10, 13, 15, 17, 18, 19, 20, 21, 22, 23, 99, 100, 101, 102, 120, 121, 122, 123, 124, 125] (by decide +kernel) (by decide +kernel)
set_option maxRecDepth 20000 in
theorem gX5_readRound_X5_takeWord : GoodIn wsX5_readRound (wsV RX5 97 RX5 yX5_takeWord wsX5_takeWord) := goodIn_app (goodIn_of _ (by decide +kernel)) ggX5_readRound_X5_takeWord
set_option maxRecDepth 20000 in
theorem ggX5_readRound_X5_seesNumber : GoodIn wsX5_readRound wsX5_seesNumber := goodIn_r _ [98, 32, 1, 31, 99, 100, 101, 102, 120, 121, 122, 123, 124, 125] (by decide +kernel) (by decide +kernel)
set_option maxRecDepth 20000 in
theorem gX5_readRound_X5_seesNumber : GoodIn wsX5_readRound (wsV RX5 117 RX5 yX5_seesNumber wsX5_seesNumber) := goodIn_app (goodIn_of _ (by decide +kernel)) ggX5_readRound_X5_seesNumber
set_option maxRecDepth 20000 in
theorem ggX5_readRound_X5_fail : GoodIn wsX5_readRound wsX5_fail := goodIn_r _ [36, 32, 37, 99, 100, 101, 102] (by decide +kernel) (by decide +kernel)
set_option maxRecDepth 20000 in
theorem gX5_readRound_X5_fail : GoodIn wsX5_readRound (wsV RX5 55 RX5 yX5_fail wsX5_fail) := goodIn_app (goodIn_of _ (by decide +kernel)) ggX5_readRound_X5_fail
theorem dX5_readRound_0 : decode cX5_readRound 0 = .ok (.aload_n 0, 1) := by decide +kernel
theorem dX5_readRound_1 : decode cX5_readRound 1 = .ok (.getfield 12, 3) := by decide +kernel
theorem dX5_readRound_4 : decode cX5_readRound 4 = .ok (.invokevirtual 92, 3) := by decide +kernel
theorem dX5_readRound_7 : decode cX5_readRound 7 = .ok (.aload_n 0, 1) := by decide +kernel
theorem dX5_readRound_8 : decode cX5_readRound 8 = .ok (.iconst 0, 1) := by decide +kernel
theorem dX5_readRound_9 : decode cX5_readRound 9 = .ok (.iconst 1, 1) := by decide +kernel
theorem dX5_readRound_10 : decode cX5_readRound 10 = .ok (.invokevirtual 101, 3) := by decide +kernel
theorem dX5_readRound_13 : decode cX5_readRound 13 = .ok (.istore_n 2, 1) := by decide +kernel
theorem dX5_readRound_14 : decode cX5_readRound 14 = .ok (.aload_n 0, 1) := by decide +kernel
theorem dX5_readRound_15 : decode cX5_readRound 15 = .ok (.ldc 115, 2) := by decide +kernel
theorem dX5_readRound_17 : decode cX5_readRound 17 = .ok (.invokevirtual 97, 3) := by decide +kernel
theorem dX5_readRound_20 : decode cX5_readRound 20 = .ok (.iconst 0, 1) := by decide +kernel
theorem dX5_readRound_21 : decode cX5_readRound 21 = .ok (.istore_n 3, 1) := by decide +kernel
theorem dX5_readRound_22 : decode cX5_readRound 22 = .ok (.iconst 0, 1) := by decide +kernel
theorem dX5_readRound_23 : decode cX5_readRound 23 = .ok (.istore 4, 2) := by decide +kernel
theorem dX5_readRound_25 : decode cX5_readRound 25 = .ok (.iload 4, 2) := by decide +kernel
theorem dX5_readRound_27 : decode cX5_readRound 27 = .ok (.bipush 12, 2) := by decide +kernel
theorem dX5_readRound_29 : decode cX5_readRound 29 = .ok (.if_icmp .gt 67, 3) := by decide +kernel
theorem dX5_readRound_32 : decode cX5_readRound 32 = .ok (.iload 4, 2) := by decide +kernel
theorem dX5_readRound_34 : decode cX5_readRound 34 = .ok (.ifCond .eq 10, 3) := by decide +kernel
theorem dX5_readRound_37 : decode cX5_readRound 37 = .ok (.aload_n 0, 1) := by decide +kernel
theorem dX5_readRound_38 : decode cX5_readRound 38 = .ok (.invokevirtual 117, 3) := by decide +kernel
theorem dX5_readRound_41 : decode cX5_readRound 41 = .ok (.ifCond .eq 55, 3) := by decide +kernel
theorem dX5_readRound_44 : decode cX5_readRound 44 = .ok (.aload_n 0, 1) := by decide +kernel
theorem dX5_readRound_45 : decode cX5_readRound 45 = .ok (.iconst 0, 1) := by decide +kernel
theorem dX5_readRound_46 : decode cX5_readRound 46 = .ok (.iconst 5, 1) := by decide +kernel
theorem dX5_readRound_47 : decode cX5_readRound 47 = .ok (.invokevirtual 101, 3) := by decide +kernel
theorem dX5_readRound_50 : decode cX5_readRound 50 = .ok (.istore 5, 2) := by decide +kernel
theorem dX5_readRound_52 : decode cX5_readRound 52 = .ok (.iload 4, 2) := by decide +kernel
theorem dX5_readRound_54 : decode cX5_readRound 54 = .ok (.bipush 12, 2) := by decide +kernel
theorem dX5_readRound_56 : decode cX5_readRound 56 = .ok (.if_icmp .ne 15, 3) := by decide +kernel
theorem dX5_readRound_59 : decode cX5_readRound 59 = .ok (.aload_n 0, 1) := by decide +kernel
theorem dX5_readRound_60 : decode cX5_readRound 60 = .ok (.iconst 3, 1) := by decide +kernel
theorem dX5_readRound_61 : decode cX5_readRound 61 = .ok (.aload_n 0, 1) := by decide +kernel
theorem dX5_readRound_62 : decode cX5_readRound 62 = .ok (.getfield 121, 3) := by decide +kernel
theorem dX5_readRound_65 : decode cX5_readRound 65 = .ok (.invokevirtual 55, 3) := by decide +kernel
theorem dX5_readRound_68 : decode cX5_readRound 68 = .ok (.goto 22, 3) := by decide +kernel
theorem dX5_readRound_71 : decode cX5_readRound 71 = .ok (.aload_n 1, 1) := by decide +kernel
theorem dX5_readRound_72 : decode cX5_readRound 72 = .ok (.getfield 124, 3) := by decide +kernel
theorem dX5_readRound_75 : decode cX5_readRound 75 = .ok (.iload_n 2, 1) := by decide +kernel
theorem dX5_readRound_76 : decode cX5_readRound 76 = .ok (.bipush 12, 2) := by decide +kernel
theorem dX5_readRound_78 : decode cX5_readRound 78 = .ok (.imul, 1) := by decide +kernel
theorem dX5_readRound_79 : decode cX5_readRound 79 = .ok (.iload 4, 2) := by decide +kernel
theorem dX5_readRound_81 : decode cX5_readRound 81 = .ok (.iadd, 1) := by decide +kernel
theorem dX5_readRound_82 : decode cX5_readRound 82 = .ok (.iload 5, 2) := by decide +kernel
theorem dX5_readRound_84 : decode cX5_readRound 84 = .ok (.iastore, 1) := by decide +kernel
theorem dX5_readRound_85 : decode cX5_readRound 85 = .ok (.iload 4, 2) := by decide +kernel
theorem dX5_readRound_87 : decode cX5_readRound 87 = .ok (.iconst 1, 1) := by decide +kernel
theorem dX5_readRound_88 : decode cX5_readRound 88 = .ok (.iadd, 1) := by decide +kernel
theorem dX5_readRound_89 : decode cX5_readRound 89 = .ok (.istore_n 3, 1) := by decide +kernel
theorem dX5_readRound_90 : decode cX5_readRound 90 = .ok (.iinc 4 1, 3) := by decide +kernel
theorem dX5_readRound_93 : decode cX5_readRound 93 = .ok (.goto (-68), 3) := by decide +kernel
theorem dX5_readRound_96 : decode cX5_readRound 96 = .ok (.aload_n 0, 1) := by decide +kernel
theorem dX5_readRound_97 : decode cX5_readRound 97 = .ok (.ldc 128, 2) := by decide +kernel
theorem dX5_readRound_99 : decode cX5_readRound 99 = .ok (.invokevirtual 97, 3) := by decide +kernel
theorem dX5_readRound_102 : decode cX5_readRound 102 = .ok (.aload_n 1, 1) := by decide +kernel
theorem dX5_readRound_103 : decode cX5_readRound 103 = .ok (.getfield 130, 3) := by decide +kernel
theorem dX5_readRound_106 : decode cX5_readRound 106 = .ok (.iload_n 2, 1) := by decide +kernel
theorem dX5_readRound_107 : decode cX5_readRound 107 = .ok (.aload_n 0, 1) := by decide +kernel
theorem dX5_readRound_108 : decode cX5_readRound 108 = .ok (.iconst 0, 1) := by decide +kernel
theorem dX5_readRound_109 : decode cX5_readRound 109 = .ok (.iload_n 3, 1) := by decide +kernel
theorem dX5_readRound_110 : decode cX5_readRound 110 = .ok (.iconst 1, 1) := by decide +kernel
theorem dX5_readRound_111 : decode cX5_readRound 111 = .ok (.isub, 1) := by decide +kernel
theorem dX5_readRound_112 : decode cX5_readRound 112 = .ok (.invokevirtual 101, 3) := by decide +kernel
theorem dX5_readRound_115 : decode cX5_readRound 115 = .ok (.iastore, 1) := by decide +kernel
theorem dX5_readRound_116 : decode cX5_readRound 116 = .ok (.aload_n 1, 1) := by decide +kernel
theorem dX5_readRound_117 : decode cX5_readRound 117 = .ok (.getfield 133, 3) := by decide +kernel
theorem dX5_readRound_120 : decode cX5_readRound 120 = .ok (.iload_n 2, 1) := by decide +kernel
theorem dX5_readRound_121 : decode cX5_readRound 121 = .ok (.iload_n 3, 1) := by decide +kernel
theorem dX5_readRound_122 : decode cX5_readRound 122 = .ok (.iastore, 1) := by decide +kernel
theorem dX5_readRound_123 : decode cX5_readRound 123 = .ok (.return_, 1) := by decide +kernel
set_option maxRecDepth 20000 in
theorem ggX5_readAnswers_X8_advance : GoodIn wsX5_readAnswers wsX8_advance := goodIn_r _ [7, 8, 9, 10, 11, 12, 13, 14, 15, 16, 17, 18, 19, 6, 20, 61, 62, 63, 64, 65, 66] (by decide +kernel) (by decide +kernel)
set_option maxRecDepth 20000 in
theorem gX5_readAnswers_X8_advance : GoodIn wsX5_readAnswers (wsV RX5 92 RX8 yX8_advance wsX8_advance) := goodIn_app (goodIn_of _ (by decide +kernel)) ggX5_readAnswers_X8_advance
set_option maxRecDepth 20000 in
theorem ggX5_readAnswers_X5_takeNumber : GoodIn wsX5_readAnswers wsX5_takeNumber := goodIn_r _ [25, 1, 26, 27, 28, 29, 30, 31, 32, 33, 24, 34, 35, 3, 4, 5, 6, 7, 8, 9, 10, 11, 12, 13, 14, 15, 16, 17, 18, 19, 20, 40, 41, 42, 43, 61, 62, 63, 64, 65, 66] (by decide +kernel) (by decide +kernel)
set_option maxRecDepth 20000 in
theorem gX5_readAnswers_X5_takeNumber : GoodIn wsX5_readAnswers (wsV RX5 101 RX5 yX5_takeNumber wsX5_takeNumber) := goodIn_app (goodIn_of _ (by decide +kernel)) ggX5_readAnswers_X5_takeNumber
set_option maxRecDepth 20000 in
theorem ggX5_readAnswers_X5_seesNumber : GoodIn wsX5_readAnswers wsX5_seesNumber := goodIn_r _ [39, 30, 1, 29, 40, 41, 42, 43, 61, 62, 63, 64, 65, 66] (by decide +kernel) (by decide +kernel)
set_option maxRecDepth 20000 in
theorem gX5_readAnswers_X5_seesNumber : GoodIn wsX5_readAnswers (wsV RX5 117 RX5 yX5_seesNumber wsX5_seesNumber) := goodIn_app (goodIn_of _ (by decide +kernel)) ggX5_readAnswers_X5_seesNumber
theorem dX5_readAnswers_0 : decode cX5_readAnswers 0 = .ok (.aload_n 0, 1) := by decide +kernel
theorem dX5_readAnswers_1 : decode cX5_readAnswers 1 = .ok (.getfield 12, 3) := by decide +kernel
theorem dX5_readAnswers_4 : decode cX5_readAnswers 4 = .ok (.invokevirtual 92, 3) := by decide +kernel
theorem dX5_readAnswers_7 : decode cX5_readAnswers 7 = .ok (.aload_n 0, 1) := by decide +kernel
theorem dX5_readAnswers_8 : decode cX5_readAnswers 8 = .ok (.iconst 0, 1) := by decide +kernel
theorem dX5_readAnswers_9 : decode cX5_readAnswers 9 = .ok (.iconst 5, 1) := by decide +kernel
theorem dX5_readAnswers_10 : decode cX5_readAnswers 10 = .ok (.invokevirtual 101, 3) := by decide +kernel
theorem dX5_readAnswers_13 : decode cX5_readAnswers 13 = .ok (.istore_n 2, 1) := by decide +kernel
theorem dX5_readAnswers_14 : decode cX5_readAnswers 14 = .ok (.iconst 0, 1) := by decide +kernel
theorem dX5_readAnswers_15 : decode cX5_readAnswers 15 = .ok (.istore_n 3, 1) := by decide +kernel
theorem dX5_readAnswers_16 : decode cX5_readAnswers 16 = .ok (.iconst 0, 1) := by decide +kernel
theorem dX5_readAnswers_17 : decode cX5_readAnswers 17 = .ok (.istore 4, 2) := by decide +kernel
theorem dX5_readAnswers_19 : decode cX5_readAnswers 19 = .ok (.iload 4, 2) := by decide +kernel
theorem dX5_readAnswers_21 : decode cX5_readAnswers 21 = .ok (.sipush 1200, 3) := by decide +kernel
theorem dX5_readAnswers_24 : decode cX5_readAnswers 24 = .ok (.if_icmp .ge 27, 3) := by decide +kernel
theorem dX5_readAnswers_27 : decode cX5_readAnswers 27 = .ok (.aload_n 0, 1) := by decide +kernel
theorem dX5_readAnswers_28 : decode cX5_readAnswers 28 = .ok (.invokevirtual 117, 3) := by decide +kernel
theorem dX5_readAnswers_31 : decode cX5_readAnswers 31 = .ok (.ifCond .eq 20, 3) := by decide +kernel
theorem dX5_readAnswers_34 : decode cX5_readAnswers 34 = .ok (.iload_n 3, 1) := by decide +kernel
theorem dX5_readAnswers_35 : decode cX5_readAnswers 35 = .ok (.iconst 1, 1) := by decide +kernel
theorem dX5_readAnswers_36 : decode cX5_readAnswers 36 = .ok (.aload_n 0, 1) := by decide +kernel
theorem dX5_readAnswers_37 : decode cX5_readAnswers 37 = .ok (.iconst 0, 1) := by decide +kernel
theorem dX5_readAnswers_38 : decode cX5_readAnswers 38 = .ok (.iconst 5, 1) := by decide +kernel
theorem dX5_readAnswers_39 : decode cX5_readAnswers 39 = .ok (.invokevirtual 101, 3) := by decide +kernel
theorem dX5_readAnswers_42 : decode cX5_readAnswers 42 = .ok (.ishl, 1) := by decide +kernel
theorem dX5_readAnswers_43 : decode cX5_readAnswers 43 = .ok (.ior, 1) := by decide +kernel
theorem dX5_readAnswers_44 : decode cX5_readAnswers 44 = .ok (.istore_n 3, 1) := by decide +kernel
theorem dX5_readAnswers_45 : decode cX5_readAnswers 45 = .ok (.iinc 4 1, 3) := by decide +kernel
theorem dX5_readAnswers_48 : decode cX5_readAnswers 48 = .ok (.goto (-29), 3) := by decide +kernel
theorem dX5_readAnswers_51 : decode cX5_readAnswers 51 = .ok (.aload_n 1, 1) := by decide +kernel
theorem dX5_readAnswers_52 : decode cX5_readAnswers 52 = .ok (.getfield 136, 3) := by decide +kernel
theorem dX5_readAnswers_55 : decode cX5_readAnswers 55 = .ok (.iload_n 2, 1) := by decide +kernel
theorem dX5_readAnswers_56 : decode cX5_readAnswers 56 = .ok (.iload_n 3, 1) := by decide +kernel
theorem dX5_readAnswers_57 : decode cX5_readAnswers 57 = .ok (.iastore, 1) := by decide +kernel
theorem dX5_readAnswers_58 : decode cX5_readAnswers 58 = .ok (.return_, 1) := by decide +kernel
set_option maxRecDepth 20000 in
theorem ggX5_readStumble_X5_beginOneOf : GoodIn wsX5_readStumble wsX5_beginOneOf := goodIn_r _ [7, 8, 9, 10, 11, 12, 6, 13, 14, 15, 16, 17, 18, 19, 20, 21, 22, 23, 24, 25, 26, 27, 28, 29, 30, 31, 32, 33, 125, 126, 127, 128, 129, 130, 131, 132, 133, 134] (by decide +kernel) (by decide +kernel)
set_option maxRecDepth 20000 in
theorem gX5_readStumble_X5_beginOneOf : GoodIn wsX5_readStumble (wsV RX5 142 RX5 yX5_beginOneOf wsX5_beginOneOf) := goodIn_app (goodIn_of _ (by decide +kernel)) ggX5_readStumble_X5_beginOneOf
set_option maxRecDepth 20000 in
theorem ggX5_readStumble_X5_takeNumber : GoodIn wsX5_readStumble wsX5_takeNumber := goodIn_r _ [37, 8, 38, 9, 2, 39, 14, 10, 11, 12, 6, 13, 15, 16, 17, 18, 19, 20, 21, 22, 23, 24, 25, 26, 27, 28, 29, 30, 31, 32, 33, 125, 126, 127, 128, 129, 130, 131, 132, 133, 134] (by decide +kernel) (by decide +kernel)
set_option maxRecDepth 20000 in
theorem gX5_readStumble_X5_takeNumber : GoodIn wsX5_readStumble (wsV RX5 101 RX5 yX5_takeNumber wsX5_takeNumber) := goodIn_app (goodIn_of _ (by decide +kernel)) ggX5_readStumble_X5_takeNumber
set_option maxRecDepth 20000 in
theorem ggX5_readStumble_X5_takeWord : GoodIn wsX5_readStumble wsX5_takeWord := goodIn_r _ [43, 8, 9, 44, 45, 46, 19, 47, 26, 21, 22, 24, 48, 49, 50, 51, 52, 53, 54, 55, 56, 57, 58, 59, 60, 61, 62, 63, 64, 65, 66, 67, 68, 69, 70, 71, 72, 73, 74, 75, 76, 77, 78, 79, 80, 81, 82, 83, 84, 85, 86, 87, 88, 89, 90, 91, 92, 93, 94, 95, 96, 10, 11, 12, 6, 13, 14, 15, 16, 17, 18, 20, 23, 25, 27, 28, 29, 30, 31, 32, 33, 125, 126, 127, 128, 129, 130, 131, 132, 133, 134] (by decide +kernel) (by decide +kernel)
set_option maxRecDepth 20000 in
theorem gX5_readStumble_X5_takeWord : GoodIn wsX5_readStumble (wsV RX5 97 RX5 yX5_takeWord wsX5_takeWord) := goodIn_app (goodIn_of _ (by decide +kernel)) ggX5_readStumble_X5_takeWord
set_option maxRecDepth 20000 in
theorem ggX5_readStumble_X0_stumbleOf : GoodIn wsX5_readStumble wsX0_stumbleOf := goodIn_r _ [101, 102, 103, 108, 109, 110, 111, 112, 113, 114, 115, 116, 117, 118, 119, 120, 121, 122, 123, 124] (by decide +kernel) (by decide +kernel)
set_option maxRecDepth 20000 in
theorem gX5_readStumble_X0_stumbleOf : GoodIn wsX5_readStumble (wsV RX5 147 RX0 yX0_stumbleOf wsX0_stumbleOf) := goodIn_app (goodIn_of _ (by decide +kernel)) ggX5_readStumble_X0_stumbleOf
set_option maxRecDepth 20000 in
theorem ggX5_readStumble_X5_fail : GoodIn wsX5_readStumble wsX5_fail := goodIn_r _ [13, 14, 15, 125, 126, 127, 128] (by decide +kernel) (by decide +kernel)
set_option maxRecDepth 20000 in
theorem gX5_readStumble_X5_fail : GoodIn wsX5_readStumble (wsV RX5 55 RX5 yX5_fail wsX5_fail) := goodIn_app (goodIn_of _ (by decide +kernel)) ggX5_readStumble_X5_fail
set_option maxRecDepth 20000 in
theorem ggX5_readStumble_X0_addStumble : GoodIn wsX5_readStumble wsX0_addStumble := goodIn_r _ [107, 102, 103, 108, 109, 110, 111, 112, 113, 114, 115, 116, 117, 118, 119, 120, 121, 122, 123, 124] (by decide +kernel) (by decide +kernel)
set_option maxRecDepth 20000 in
theorem gX5_readStumble_X0_addStumble : GoodIn wsX5_readStumble (wsV RX5 154 RX0 yX0_addStumble wsX0_addStumble) := goodIn_app (goodIn_of _ (by decide +kernel)) ggX5_readStumble_X0_addStumble
theorem dX5_readStumble_0 : decode cX5_readStumble 0 = .ok (.aload_n 0, 1) := by decide +kernel
theorem dX5_readStumble_1 : decode cX5_readStumble 1 = .ok (.aload_n 1, 1) := by decide +kernel
theorem dX5_readStumble_2 : decode cX5_readStumble 2 = .ok (.getfield 139, 3) := by decide +kernel
theorem dX5_readStumble_5 : decode cX5_readStumble 5 = .ok (.bipush 8, 2) := by decide +kernel
theorem dX5_readStumble_7 : decode cX5_readStumble 7 = .ok (.invokevirtual 142, 3) := by decide +kernel
theorem dX5_readStumble_10 : decode cX5_readStumble 10 = .ok (.aload_n 0, 1) := by decide +kernel
theorem dX5_readStumble_11 : decode cX5_readStumble 11 = .ok (.iconst 0, 1) := by decide +kernel
theorem dX5_readStumble_12 : decode cX5_readStumble 12 = .ok (.iconst 1, 1) := by decide +kernel
theorem dX5_readStumble_13 : decode cX5_readStumble 13 = .ok (.invokevirtual 101, 3) := by decide +kernel
theorem dX5_readStumble_16 : decode cX5_readStumble 16 = .ok (.istore_n 2, 1) := by decide +kernel
theorem dX5_readStumble_17 : decode cX5_readStumble 17 = .ok (.aload_n 0, 1) := by decide +kernel
theorem dX5_readStumble_18 : decode cX5_readStumble 18 = .ok (.ldc 145, 2) := by decide +kernel
theorem dX5_readStumble_20 : decode cX5_readStumble 20 = .ok (.invokevirtual 97, 3) := by decide +kernel
theorem dX5_readStumble_23 : decode cX5_readStumble 23 = .ok (.aload_n 0, 1) := by decide +kernel
theorem dX5_readStumble_24 : decode cX5_readStumble 24 = .ok (.iconst 0, 1) := by decide +kernel
theorem dX5_readStumble_25 : decode cX5_readStumble 25 = .ok (.sipush 199, 3) := by decide +kernel
theorem dX5_readStumble_28 : decode cX5_readStumble 28 = .ok (.invokevirtual 101, 3) := by decide +kernel
theorem dX5_readStumble_31 : decode cX5_readStumble 31 = .ok (.istore_n 3, 1) := by decide +kernel
theorem dX5_readStumble_32 : decode cX5_readStumble 32 = .ok (.aload_n 1, 1) := by decide +kernel
theorem dX5_readStumble_33 : decode cX5_readStumble 33 = .ok (.iload_n 2, 1) := by decide +kernel
theorem dX5_readStumble_34 : decode cX5_readStumble 34 = .ok (.iload_n 3, 1) := by decide +kernel
theorem dX5_readStumble_35 : decode cX5_readStumble 35 = .ok (.invokevirtual 147, 3) := by decide +kernel
theorem dX5_readStumble_38 : decode cX5_readStumble 38 = .ok (.iconst (-1), 1) := by decide +kernel
theorem dX5_readStumble_39 : decode cX5_readStumble 39 = .ok (.if_icmp .eq 12, 3) := by decide +kernel
theorem dX5_readStumble_42 : decode cX5_readStumble 42 = .ok (.aload_n 0, 1) := by decide +kernel
theorem dX5_readStumble_43 : decode cX5_readStumble 43 = .ok (.iconst 2, 1) := by decide +kernel
theorem dX5_readStumble_44 : decode cX5_readStumble 44 = .ok (.aload_n 0, 1) := by decide +kernel
theorem dX5_readStumble_45 : decode cX5_readStumble 45 = .ok (.getfield 121, 3) := by decide +kernel
theorem dX5_readStumble_48 : decode cX5_readStumble 48 = .ok (.invokevirtual 55, 3) := by decide +kernel
theorem dX5_readStumble_51 : decode cX5_readStumble 51 = .ok (.aload_n 0, 1) := by decide +kernel
theorem dX5_readStumble_52 : decode cX5_readStumble 52 = .ok (.ldc 150, 2) := by decide +kernel
theorem dX5_readStumble_54 : decode cX5_readStumble 54 = .ok (.invokevirtual 97, 3) := by decide +kernel
theorem dX5_readStumble_57 : decode cX5_readStumble 57 = .ok (.aload_n 0, 1) := by decide +kernel
theorem dX5_readStumble_58 : decode cX5_readStumble 58 = .ok (.iconst 0, 1) := by decide +kernel
theorem dX5_readStumble_59 : decode cX5_readStumble 59 = .ok (.iconst 5, 1) := by decide +kernel
theorem dX5_readStumble_60 : decode cX5_readStumble 60 = .ok (.invokevirtual 101, 3) := by decide +kernel
theorem dX5_readStumble_63 : decode cX5_readStumble 63 = .ok (.istore 4, 2) := by decide +kernel
theorem dX5_readStumble_65 : decode cX5_readStumble 65 = .ok (.aload_n 0, 1) := by decide +kernel
theorem dX5_readStumble_66 : decode cX5_readStumble 66 = .ok (.ldc 152, 2) := by decide +kernel
theorem dX5_readStumble_68 : decode cX5_readStumble 68 = .ok (.invokevirtual 97, 3) := by decide +kernel
theorem dX5_readStumble_71 : decode cX5_readStumble 71 = .ok (.aload_n 0, 1) := by decide +kernel
theorem dX5_readStumble_72 : decode cX5_readStumble 72 = .ok (.iconst 0, 1) := by decide +kernel
theorem dX5_readStumble_73 : decode cX5_readStumble 73 = .ok (.bipush 9, 2) := by decide +kernel
theorem dX5_readStumble_75 : decode cX5_readStumble 75 = .ok (.invokevirtual 101, 3) := by decide +kernel
theorem dX5_readStumble_78 : decode cX5_readStumble 78 = .ok (.istore 5, 2) := by decide +kernel
theorem dX5_readStumble_80 : decode cX5_readStumble 80 = .ok (.aload_n 1, 1) := by decide +kernel
theorem dX5_readStumble_81 : decode cX5_readStumble 81 = .ok (.iload_n 2, 1) := by decide +kernel
theorem dX5_readStumble_82 : decode cX5_readStumble 82 = .ok (.iload_n 3, 1) := by decide +kernel
theorem dX5_readStumble_83 : decode cX5_readStumble 83 = .ok (.iload 4, 2) := by decide +kernel
theorem dX5_readStumble_85 : decode cX5_readStumble 85 = .ok (.iload 5, 2) := by decide +kernel
theorem dX5_readStumble_87 : decode cX5_readStumble 87 = .ok (.invokevirtual 154, 3) := by decide +kernel
theorem dX5_readStumble_90 : decode cX5_readStumble 90 = .ok (.return_, 1) := by decide +kernel
set_option maxRecDepth 20000 in
theorem ggX5_readMud_X8_advance : GoodIn wsX5_readMud wsX8_advance := goodIn_r _ [8, 9, 10, 11, 12, 13, 14, 15, 16, 17, 18, 19, 20, 7, 21, 57, 58, 59, 60, 61, 62] (by decide +kernel) (by decide +kernel)
set_option maxRecDepth 20000 in
theorem gX5_readMud_X8_advance : GoodIn wsX5_readMud (wsV RX5 92 RX8 yX8_advance wsX8_advance) := goodIn_app (goodIn_of _ (by decide +kernel)) ggX5_readMud_X8_advance
set_option maxRecDepth 20000 in
theorem ggX5_readMud_X5_takeNumber : GoodIn wsX5_readMud wsX5_takeNumber := goodIn_r _ [26, 1, 27, 28, 3, 29, 30, 31, 32, 33, 25, 34, 35, 4, 5, 6, 7, 8, 9, 10, 11, 12, 13, 14, 15, 16, 17, 18, 19, 20, 21, 36, 37, 38, 39, 57, 58, 59, 60, 61, 62] (by decide +kernel) (by decide +kernel)
set_option maxRecDepth 20000 in
theorem gX5_readMud_X5_takeNumber : GoodIn wsX5_readMud (wsV RX5 101 RX5 yX5_takeNumber wsX5_takeNumber) := goodIn_app (goodIn_of _ (by decide +kernel)) ggX5_readMud_X5_takeNumber
set_option maxRecDepth 20000 in
theorem ggX5_readMud_X5_fail : GoodIn wsX5_readMud wsX5_fail := goodIn_r _ [34, 30, 35, 36, 37, 38, 39] (by decide +kernel) (by decide +kernel)
set_option maxRecDepth 20000 in
theorem gX5_readMud_X5_fail : GoodIn wsX5_readMud (wsV RX5 55 RX5 yX5_fail wsX5_fail) := goodIn_app (goodIn_of _ (by decide +kernel)) ggX5_readMud_X5_fail
theorem dX5_readMud_0 : decode cX5_readMud 0 = .ok (.aload_n 0, 1) := by decide +kernel
theorem dX5_readMud_1 : decode cX5_readMud 1 = .ok (.getfield 12, 3) := by decide +kernel
theorem dX5_readMud_4 : decode cX5_readMud 4 = .ok (.invokevirtual 92, 3) := by decide +kernel
theorem dX5_readMud_7 : decode cX5_readMud 7 = .ok (.aload_n 0, 1) := by decide +kernel
theorem dX5_readMud_8 : decode cX5_readMud 8 = .ok (.iconst 0, 1) := by decide +kernel
theorem dX5_readMud_9 : decode cX5_readMud 9 = .ok (.sipush 199, 3) := by decide +kernel
theorem dX5_readMud_12 : decode cX5_readMud 12 = .ok (.invokevirtual 101, 3) := by decide +kernel
theorem dX5_readMud_15 : decode cX5_readMud 15 = .ok (.istore_n 2, 1) := by decide +kernel
theorem dX5_readMud_16 : decode cX5_readMud 16 = .ok (.aload_n 1, 1) := by decide +kernel
theorem dX5_readMud_17 : decode cX5_readMud 17 = .ok (.getfield 158, 3) := by decide +kernel
theorem dX5_readMud_20 : decode cX5_readMud 20 = .ok (.iload_n 2, 1) := by decide +kernel
theorem dX5_readMud_21 : decode cX5_readMud 21 = .ok (.iaload, 1) := by decide +kernel
theorem dX5_readMud_22 : decode cX5_readMud 22 = .ok (.ifCond .eq 12, 3) := by decide +kernel
theorem dX5_readMud_25 : decode cX5_readMud 25 = .ok (.aload_n 0, 1) := by decide +kernel
theorem dX5_readMud_26 : decode cX5_readMud 26 = .ok (.iconst 2, 1) := by decide +kernel
theorem dX5_readMud_27 : decode cX5_readMud 27 = .ok (.aload_n 0, 1) := by decide +kernel
theorem dX5_readMud_28 : decode cX5_readMud 28 = .ok (.getfield 121, 3) := by decide +kernel
theorem dX5_readMud_31 : decode cX5_readMud 31 = .ok (.invokevirtual 55, 3) := by decide +kernel
theorem dX5_readMud_34 : decode cX5_readMud 34 = .ok (.aload_n 1, 1) := by decide +kernel
theorem dX5_readMud_35 : decode cX5_readMud 35 = .ok (.getfield 158, 3) := by decide +kernel
theorem dX5_readMud_38 : decode cX5_readMud 38 = .ok (.iload_n 2, 1) := by decide +kernel
theorem dX5_readMud_39 : decode cX5_readMud 39 = .ok (.iconst 1, 1) := by decide +kernel
theorem dX5_readMud_40 : decode cX5_readMud 40 = .ok (.iastore, 1) := by decide +kernel
theorem dX5_readMud_41 : decode cX5_readMud 41 = .ok (.return_, 1) := by decide +kernel
set_option maxRecDepth 20000 in
theorem ggX5_readWood_X5_beginOneOf : GoodIn wsX5_readWood wsX5_beginOneOf := goodIn_r _ [6, 7, 8, 9, 10, 11, 5, 12, 13, 14, 15, 16, 17, 18, 19, 20, 21, 22, 23, 24, 25, 26, 27, 28, 29, 30, 31, 32, 121, 122, 123, 124, 125, 126, 127, 128, 129, 130] (by decide +kernel) (by decide +kernel)
set_option maxRecDepth 20000 in
theorem gX5_readWood_X5_beginOneOf : GoodIn wsX5_readWood (wsV RX5 142 RX5 yX5_beginOneOf wsX5_beginOneOf) := goodIn_app (goodIn_of _ (by decide +kernel)) ggX5_readWood_X5_beginOneOf
set_option maxRecDepth 20000 in
theorem ggX5_readWood_X5_takeWord : GoodIn wsX5_readWood wsX5_takeWord := goodIn_r _ [36, 7, 8, 37, 38, 39, 18, 40, 25, 20, 21, 23, 41, 42, 43, 44, 45, 46, 47, 48, 49, 50, 51, 52, 53, 54, 55, 56, 57, 58, 59, 60, 61, 62, 63, 64, 65, 66, 67, 68, 69, 70, 71, 72, 73, 74, 75, 76, 77, 78, 79, 80, 81, 82, 83, 84, 85, 86, 87, 88, 89, 9, 10, 11, 5, 12, 13, 14, 15, 16, 17, 19, 22, 24, 26, 27, 28, 29, 30, 31, 32, 121, 122, 123, 124, 125, 126, 127, 128, 129, 130] (by decide +kernel) (by decide +kernel)
set_option maxRecDepth 20000 in
theorem gX5_readWood_X5_takeWord : GoodIn wsX5_readWood (wsV RX5 97 RX5 yX5_takeWord wsX5_takeWord) := goodIn_app (goodIn_of _ (by decide +kernel)) ggX5_readWood_X5_takeWord
set_option maxRecDepth 20000 in
theorem ggX5_readWood_X5_takeNumber : GoodIn wsX5_readWood wsX5_takeNumber := goodIn_r _ [93, 7, 94, 8, 95, 96, 13, 9, 10, 11, 5, 12, 14, 15, 16, 17, 18, 19, 20, 21, 22, 23, 24, 25, 26, 27, 28, 29, 30, 31, 32, 121, 122, 123, 124, 125, 126, 127, 128, 129, 130] (by decide +kernel) (by decide +kernel)
set_option maxRecDepth 20000 in
theorem gX5_readWood_X5_takeNumber : GoodIn wsX5_readWood (wsV RX5 101 RX5 yX5_takeNumber wsX5_takeNumber) := goodIn_app (goodIn_of _ (by decide +kernel)) ggX5_readWood_X5_takeNumber
set_option maxRecDepth 20000 in
theorem ggX5_readWood_X0_addCell : GoodIn wsX5_readWood wsX0_addCell := goodIn_r _ [101, 102, 103, 104, 105, 106, 107, 108, 109, 110, 111, 112, 113, 114, 115, 116, 117, 118, 119, 120] (by decide +kernel) (by decide +kernel)
set_option maxRecDepth 20000 in
theorem gX5_readWood_X0_addCell : GoodIn wsX5_readWood (wsV RX5 166 RX0 yX0_addCell wsX0_addCell) := goodIn_app (goodIn_of _ (by decide +kernel)) ggX5_readWood_X0_addCell
theorem dX5_readWood_0 : decode cX5_readWood 0 = .ok (.aload_n 0, 1) := by decide +kernel
theorem dX5_readWood_1 : decode cX5_readWood 1 = .ok (.aload_n 1, 1) := by decide +kernel
theorem dX5_readWood_2 : decode cX5_readWood 2 = .ok (.getfield 161, 3) := by decide +kernel
theorem dX5_readWood_5 : decode cX5_readWood 5 = .ok (.bipush 12, 2) := by decide +kernel
theorem dX5_readWood_7 : decode cX5_readWood 7 = .ok (.invokevirtual 142, 3) := by decide +kernel
theorem dX5_readWood_10 : decode cX5_readWood 10 = .ok (.aload_n 0, 1) := by decide +kernel
theorem dX5_readWood_11 : decode cX5_readWood 11 = .ok (.ldc 164, 2) := by decide +kernel
theorem dX5_readWood_13 : decode cX5_readWood 13 = .ok (.invokevirtual 97, 3) := by decide +kernel
theorem dX5_readWood_16 : decode cX5_readWood 16 = .ok (.aload_n 0, 1) := by decide +kernel
theorem dX5_readWood_17 : decode cX5_readWood 17 = .ok (.iconst 1, 1) := by decide +kernel
theorem dX5_readWood_18 : decode cX5_readWood 18 = .ok (.bipush 9, 2) := by decide +kernel
theorem dX5_readWood_20 : decode cX5_readWood 20 = .ok (.invokevirtual 101, 3) := by decide +kernel
theorem dX5_readWood_23 : decode cX5_readWood 23 = .ok (.istore_n 2, 1) := by decide +kernel
theorem dX5_readWood_24 : decode cX5_readWood 24 = .ok (.aload_n 0, 1) := by decide +kernel
theorem dX5_readWood_25 : decode cX5_readWood 25 = .ok (.ldc 145, 2) := by decide +kernel
theorem dX5_readWood_27 : decode cX5_readWood 27 = .ok (.invokevirtual 97, 3) := by decide +kernel
theorem dX5_readWood_30 : decode cX5_readWood 30 = .ok (.aload_n 1, 1) := by decide +kernel
theorem dX5_readWood_31 : decode cX5_readWood 31 = .ok (.iload_n 2, 1) := by decide +kernel
theorem dX5_readWood_32 : decode cX5_readWood 32 = .ok (.aload_n 0, 1) := by decide +kernel
theorem dX5_readWood_33 : decode cX5_readWood 33 = .ok (.iconst 0, 1) := by decide +kernel
theorem dX5_readWood_34 : decode cX5_readWood 34 = .ok (.iload_n 2, 1) := by decide +kernel
theorem dX5_readWood_35 : decode cX5_readWood 35 = .ok (.iconst 1, 1) := by decide +kernel
theorem dX5_readWood_36 : decode cX5_readWood 36 = .ok (.isub, 1) := by decide +kernel
theorem dX5_readWood_37 : decode cX5_readWood 37 = .ok (.invokevirtual 101, 3) := by decide +kernel
theorem dX5_readWood_40 : decode cX5_readWood 40 = .ok (.invokevirtual 166, 3) := by decide +kernel
theorem dX5_readWood_43 : decode cX5_readWood 43 = .ok (.return_, 1) := by decide +kernel
set_option maxRecDepth 20000 in
theorem ggX5_readTune_X5_beginOneOf : GoodIn wsX5_readTune wsX5_beginOneOf := goodIn_r _ [6, 7, 8, 9, 10, 11, 5, 12, 13, 14, 15, 16, 17, 18, 19, 20, 21, 22, 23, 24, 25, 26, 27, 28, 29, 30, 31, 32, 121, 122, 123, 124, 125, 126, 127, 128, 129, 130] (by decide +kernel) (by decide +kernel)
set_option maxRecDepth 20000 in
theorem gX5_readTune_X5_beginOneOf : GoodIn wsX5_readTune (wsV RX5 142 RX5 yX5_beginOneOf wsX5_beginOneOf) := goodIn_app (goodIn_of _ (by decide +kernel)) ggX5_readTune_X5_beginOneOf
set_option maxRecDepth 20000 in
theorem ggX5_readTune_X5_takeNumber : GoodIn wsX5_readTune wsX5_takeNumber := goodIn_r _ [36, 7, 37, 8, 38, 39, 13, 9, 10, 11, 5, 12, 14, 15, 16, 17, 18, 19, 20, 21, 22, 23, 24, 25, 26, 27, 28, 29, 30, 31, 32, 121, 122, 123, 124, 125, 126, 127, 128, 129, 130] (by decide +kernel) (by decide +kernel)
set_option maxRecDepth 20000 in
theorem gX5_readTune_X5_takeNumber : GoodIn wsX5_readTune (wsV RX5 101 RX5 yX5_takeNumber wsX5_takeNumber) := goodIn_app (goodIn_of _ (by decide +kernel)) ggX5_readTune_X5_takeNumber
set_option maxRecDepth 20000 in
theorem ggX5_readTune_X5_takeWord : GoodIn wsX5_readTune wsX5_takeWord := goodIn_r _ [43, 7, 8, 44, 45, 46, 18, 47, 25, 20, 21, 23, 48, 49, 50, 51, 52, 53, 54, 55, 56, 57, 58, 59, 60, 61, 62, 63, 64, 65, 66, 67, 68, 69, 70, 71, 72, 73, 74, 75, 76, 77, 78, 79, 80, 81, 82, 83, 84, 85, 86, 87, 88, 89, 90, 91, 92, 93, 94, 95, 96, 9, 10, 11, 5, 12, 13, 14, 15, 16, 17, 19, 22, 24, 26, 27, 28, 29, 30, 31, 32, 121, 122, 123, 124, 125, 126, 127, 128, 129, 130] (by decide +kernel) (by decide +kernel)
set_option maxRecDepth 20000 in
theorem gX5_readTune_X5_takeWord : GoodIn wsX5_readTune (wsV RX5 97 RX5 yX5_takeWord wsX5_takeWord) := goodIn_app (goodIn_of _ (by decide +kernel)) ggX5_readTune_X5_takeWord
set_option maxRecDepth 20000 in
theorem ggX5_readTune_X0_addTune : GoodIn wsX5_readTune wsX0_addTune := goodIn_r _ [101, 102, 103, 104, 105, 106, 107, 108, 109, 110, 111, 112, 113, 114, 115, 116, 117, 118, 119, 120] (by decide +kernel) (by decide +kernel)
set_option maxRecDepth 20000 in
theorem gX5_readTune_X0_addTune : GoodIn wsX5_readTune (wsV RX5 172 RX0 yX0_addTune wsX0_addTune) := goodIn_app (goodIn_of _ (by decide +kernel)) ggX5_readTune_X0_addTune
theorem dX5_readTune_0 : decode cX5_readTune 0 = .ok (.aload_n 0, 1) := by decide +kernel
theorem dX5_readTune_1 : decode cX5_readTune 1 = .ok (.aload_n 1, 1) := by decide +kernel
theorem dX5_readTune_2 : decode cX5_readTune 2 = .ok (.getfield 169, 3) := by decide +kernel
theorem dX5_readTune_5 : decode cX5_readTune 5 = .ok (.iconst 5, 1) := by decide +kernel
theorem dX5_readTune_6 : decode cX5_readTune 6 = .ok (.invokevirtual 142, 3) := by decide +kernel
theorem dX5_readTune_9 : decode cX5_readTune 9 = .ok (.aload_n 0, 1) := by decide +kernel
theorem dX5_readTune_10 : decode cX5_readTune 10 = .ok (.iconst 1, 1) := by decide +kernel
theorem dX5_readTune_11 : decode cX5_readTune 11 = .ok (.bipush 30, 2) := by decide +kernel
theorem dX5_readTune_13 : decode cX5_readTune 13 = .ok (.invokevirtual 101, 3) := by decide +kernel
theorem dX5_readTune_16 : decode cX5_readTune 16 = .ok (.istore_n 2, 1) := by decide +kernel
theorem dX5_readTune_17 : decode cX5_readTune 17 = .ok (.aload_n 0, 1) := by decide +kernel
theorem dX5_readTune_18 : decode cX5_readTune 18 = .ok (.ldc 145, 2) := by decide +kernel
theorem dX5_readTune_20 : decode cX5_readTune 20 = .ok (.invokevirtual 97, 3) := by decide +kernel
theorem dX5_readTune_23 : decode cX5_readTune 23 = .ok (.aload_n 1, 1) := by decide +kernel
theorem dX5_readTune_24 : decode cX5_readTune 24 = .ok (.iload_n 2, 1) := by decide +kernel
theorem dX5_readTune_25 : decode cX5_readTune 25 = .ok (.aload_n 0, 1) := by decide +kernel
theorem dX5_readTune_26 : decode cX5_readTune 26 = .ok (.iconst 0, 1) := by decide +kernel
theorem dX5_readTune_27 : decode cX5_readTune 27 = .ok (.iload_n 2, 1) := by decide +kernel
theorem dX5_readTune_28 : decode cX5_readTune 28 = .ok (.iconst 1, 1) := by decide +kernel
theorem dX5_readTune_29 : decode cX5_readTune 29 = .ok (.isub, 1) := by decide +kernel
theorem dX5_readTune_30 : decode cX5_readTune 30 = .ok (.invokevirtual 101, 3) := by decide +kernel
theorem dX5_readTune_33 : decode cX5_readTune 33 = .ok (.invokevirtual 172, 3) := by decide +kernel
theorem dX5_readTune_36 : decode cX5_readTune 36 = .ok (.return_, 1) := by decide +kernel
set_option maxRecDepth 20000 in
theorem ggX5_beginOneOf_X5_fail : GoodIn wsX5_beginOneOf wsX5_fail := goodIn_r _ [7, 8, 9, 28, 29, 30, 31] (by decide +kernel) (by decide +kernel)
set_option maxRecDepth 20000 in
theorem gX5_beginOneOf_X5_fail : GoodIn wsX5_beginOneOf (wsV RX5 55 RX5 yX5_fail wsX5_fail) := goodIn_app (goodIn_of _ (by decide +kernel)) ggX5_beginOneOf_X5_fail
set_option maxRecDepth 20000 in
theorem ggX5_beginOneOf_X8_advance : GoodIn wsX5_beginOneOf wsX8_advance := goodIn_r _ [14, 15, 16, 17, 18, 19, 20, 21, 22, 23, 24, 25, 26, 13, 27, 32, 33, 34, 35, 36, 37] (by decide +kernel) (by decide +kernel)
set_option maxRecDepth 20000 in
theorem gX5_beginOneOf_X8_advance : GoodIn wsX5_beginOneOf (wsV RX5 92 RX8 yX8_advance wsX8_advance) := goodIn_app (goodIn_of _ (by decide +kernel)) ggX5_beginOneOf_X8_advance
theorem dX5_beginOneOf_0 : decode cX5_beginOneOf 0 = .ok (.iload_n 1, 1) := by decide +kernel
theorem dX5_beginOneOf_1 : decode cX5_beginOneOf 1 = .ok (.iload_n 2, 1) := by decide +kernel
theorem dX5_beginOneOf_2 : decode cX5_beginOneOf 2 = .ok (.if_icmp .lt 15, 3) := by decide +kernel
theorem dX5_beginOneOf_5 : decode cX5_beginOneOf 5 = .ok (.aload_n 0, 1) := by decide +kernel
theorem dX5_beginOneOf_6 : decode cX5_beginOneOf 6 = .ok (.iconst 3, 1) := by decide +kernel
theorem dX5_beginOneOf_7 : decode cX5_beginOneOf 7 = .ok (.aload_n 0, 1) := by decide +kernel
theorem dX5_beginOneOf_8 : decode cX5_beginOneOf 8 = .ok (.getfield 12, 3) := by decide +kernel
theorem dX5_beginOneOf_11 : decode cX5_beginOneOf 11 = .ok (.getfield 52, 3) := by decide +kernel
theorem dX5_beginOneOf_14 : decode cX5_beginOneOf 14 = .ok (.invokevirtual 55, 3) := by decide +kernel
theorem dX5_beginOneOf_17 : decode cX5_beginOneOf 17 = .ok (.aload_n 0, 1) := by decide +kernel
theorem dX5_beginOneOf_18 : decode cX5_beginOneOf 18 = .ok (.getfield 12, 3) := by decide +kernel
theorem dX5_beginOneOf_21 : decode cX5_beginOneOf 21 = .ok (.invokevirtual 92, 3) := by decide +kernel
theorem dX5_beginOneOf_24 : decode cX5_beginOneOf 24 = .ok (.return_, 1) := by decide +kernel
theorem dX5_seesNumber_0 : decode cX5_seesNumber 0 = .ok (.aload_n 0, 1) := by decide +kernel
theorem dX5_seesNumber_1 : decode cX5_seesNumber 1 = .ok (.getfield 27, 3) := by decide +kernel
theorem dX5_seesNumber_4 : decode cX5_seesNumber 4 = .ok (.ifCond .ne 18, 3) := by decide +kernel
theorem dX5_seesNumber_7 : decode cX5_seesNumber 7 = .ok (.aload_n 0, 1) := by decide +kernel
theorem dX5_seesNumber_8 : decode cX5_seesNumber 8 = .ok (.getfield 12, 3) := by decide +kernel
theorem dX5_seesNumber_11 : decode cX5_seesNumber 11 = .ok (.getfield 33, 3) := by decide +kernel
theorem dX5_seesNumber_14 : decode cX5_seesNumber 14 = .ok (.iconst 2, 1) := by decide +kernel
theorem dX5_seesNumber_15 : decode cX5_seesNumber 15 = .ok (.if_icmp .ne 7, 3) := by decide +kernel
theorem dX5_seesNumber_18 : decode cX5_seesNumber 18 = .ok (.iconst 1, 1) := by decide +kernel
theorem dX5_seesNumber_19 : decode cX5_seesNumber 19 = .ok (.goto 4, 3) := by decide +kernel
theorem dX5_seesNumber_22 : decode cX5_seesNumber 22 = .ok (.iconst 0, 1) := by decide +kernel
theorem dX5_seesNumber_23 : decode cX5_seesNumber 23 = .ok (.ireturn, 1) := by decide +kernel
set_option maxRecDepth 20000 in
theorem ggX5_takeWord_X8_isWord : GoodIn wsX5_takeWord wsX8_isWord := goodIn_r _ [7, 8, 9, 10, 11, 12, 13, 14, 15, 16, 17, 18, 19, 20, 21, 22, 23, 24, 25, 26, 27, 28, 29, 30, 31, 32, 33, 34, 35, 36, 37, 38, 39, 40, 41, 42, 43, 44, 45, 46, 47, 48, 49, 50, 51, 52, 53, 54, 55, 56, 57, 58, 59, 60, 85, 86, 87, 88, 89, 90] (by decide +kernel) (by decide +kernel)
set_option maxRecDepth 20000 in
theorem gX5_takeWord_X8_isWord : GoodIn wsX5_takeWord (wsV RX5 48 RX8 yX8_isWord wsX8_isWord) := goodIn_app (goodIn_of _ (by decide +kernel)) ggX5_takeWord_X8_isWord
set_option maxRecDepth 20000 in
theorem ggX5_takeWord_X5_fail : GoodIn wsX5_takeWord wsX5_fail := goodIn_r _ [65, 66, 67, 81, 82, 83, 84] (by decide +kernel) (by decide +kernel)
set_option maxRecDepth 20000 in
theorem gX5_takeWord_X5_fail : GoodIn wsX5_takeWord (wsV RX5 55 RX5 yX5_fail wsX5_fail) := goodIn_app (goodIn_of _ (by decide +kernel)) ggX5_takeWord_X5_fail
set_option maxRecDepth 20000 in
theorem ggX5_takeWord_X8_advance : GoodIn wsX5_takeWord wsX8_advance := goodIn_r _ [71, 9, 10, 72, 11, 73, 8, 74, 75, 76, 77, 78, 79, 6, 80, 85, 86, 87, 88, 89, 90] (by decide +kernel) (by decide +kernel)
set_option maxRecDepth 20000 in
theorem gX5_takeWord_X8_advance : GoodIn wsX5_takeWord (wsV RX5 92 RX8 yX8_advance wsX8_advance) := goodIn_app (goodIn_of _ (by decide +kernel)) ggX5_takeWord_X8_advance
theorem dX5_takeWord_0 : decode cX5_takeWord 0 = .ok (.aload_n 0, 1) := by decide +kernel
theorem dX5_takeWord_1 : decode cX5_takeWord 1 = .ok (.getfield 12, 3) := by decide +kernel
theorem dX5_takeWord_4 : decode cX5_takeWord 4 = .ok (.aload_n 1, 1) := by decide +kernel
theorem dX5_takeWord_5 : decode cX5_takeWord 5 = .ok (.invokevirtual 48, 3) := by decide +kernel
theorem dX5_takeWord_8 : decode cX5_takeWord 8 = .ok (.ifCond .ne 15, 3) := by decide +kernel
theorem dX5_takeWord_11 : decode cX5_takeWord 11 = .ok (.aload_n 0, 1) := by decide +kernel
theorem dX5_takeWord_12 : decode cX5_takeWord 12 = .ok (.iconst 1, 1) := by decide +kernel
theorem dX5_takeWord_13 : decode cX5_takeWord 13 = .ok (.aload_n 0, 1) := by decide +kernel
theorem dX5_takeWord_14 : decode cX5_takeWord 14 = .ok (.getfield 12, 3) := by decide +kernel
theorem dX5_takeWord_17 : decode cX5_takeWord 17 = .ok (.getfield 52, 3) := by decide +kernel
theorem dX5_takeWord_20 : decode cX5_takeWord 20 = .ok (.invokevirtual 55, 3) := by decide +kernel
theorem dX5_takeWord_23 : decode cX5_takeWord 23 = .ok (.aload_n 0, 1) := by decide +kernel
theorem dX5_takeWord_24 : decode cX5_takeWord 24 = .ok (.getfield 12, 3) := by decide +kernel
theorem dX5_takeWord_27 : decode cX5_takeWord 27 = .ok (.invokevirtual 92, 3) := by decide +kernel
theorem dX5_takeWord_30 : decode cX5_takeWord 30 = .ok (.return_, 1) := by decide +kernel
set_option maxRecDepth 20000 in
theorem ggX5_takeSemicolon_X5_fail : GoodIn wsX5_takeSemicolon wsX5_fail := goodIn_r _ [8, 9, 10, 29, 30, 31, 32] (by decide +kernel) (by decide +kernel)
set_option maxRecDepth 20000 in
theorem gX5_takeSemicolon_X5_fail : GoodIn wsX5_takeSemicolon (wsV RX5 55 RX5 yX5_fail wsX5_fail) := goodIn_app (goodIn_of _ (by decide +kernel)) ggX5_takeSemicolon_X5_fail
set_option maxRecDepth 20000 in
theorem ggX5_takeSemicolon_X8_advance : GoodIn wsX5_takeSemicolon wsX8_advance := goodIn_r _ [15, 16, 17, 18, 19, 20, 21, 22, 23, 24, 25, 26, 27, 14, 28, 33, 34, 35, 36, 37, 38] (by decide +kernel) (by decide +kernel)
set_option maxRecDepth 20000 in
theorem gX5_takeSemicolon_X8_advance : GoodIn wsX5_takeSemicolon (wsV RX5 92 RX8 yX8_advance wsX8_advance) := goodIn_app (goodIn_of _ (by decide +kernel)) ggX5_takeSemicolon_X8_advance
theorem dX5_takeSemicolon_0 : decode cX5_takeSemicolon 0 = .ok (.aload_n 0, 1) := by decide +kernel
theorem dX5_takeSemicolon_1 : decode cX5_takeSemicolon 1 = .ok (.getfield 12, 3) := by decide +kernel
theorem dX5_takeSemicolon_4 : decode cX5_takeSemicolon 4 = .ok (.getfield 33, 3) := by decide +kernel
theorem dX5_takeSemicolon_7 : decode cX5_takeSemicolon 7 = .ok (.iconst 3, 1) := by decide +kernel
theorem dX5_takeSemicolon_8 : decode cX5_takeSemicolon 8 = .ok (.if_icmp .eq 15, 3) := by decide +kernel
theorem dX5_takeSemicolon_11 : decode cX5_takeSemicolon 11 = .ok (.aload_n 0, 1) := by decide +kernel
theorem dX5_takeSemicolon_12 : decode cX5_takeSemicolon 12 = .ok (.iconst 1, 1) := by decide +kernel
theorem dX5_takeSemicolon_13 : decode cX5_takeSemicolon 13 = .ok (.aload_n 0, 1) := by decide +kernel
theorem dX5_takeSemicolon_14 : decode cX5_takeSemicolon 14 = .ok (.getfield 12, 3) := by decide +kernel
theorem dX5_takeSemicolon_17 : decode cX5_takeSemicolon 17 = .ok (.getfield 52, 3) := by decide +kernel
theorem dX5_takeSemicolon_20 : decode cX5_takeSemicolon 20 = .ok (.invokevirtual 55, 3) := by decide +kernel
theorem dX5_takeSemicolon_23 : decode cX5_takeSemicolon 23 = .ok (.aload_n 0, 1) := by decide +kernel
theorem dX5_takeSemicolon_24 : decode cX5_takeSemicolon 24 = .ok (.getfield 12, 3) := by decide +kernel
theorem dX5_takeSemicolon_27 : decode cX5_takeSemicolon 27 = .ok (.invokevirtual 92, 3) := by decide +kernel
theorem dX5_takeSemicolon_30 : decode cX5_takeSemicolon 30 = .ok (.return_, 1) := by decide +kernel
set_option maxRecDepth 20000 in
theorem ggX5_takeNumber_X5_fail : GoodIn wsX5_takeNumber wsX5_fail := goodIn_r _ [11, 6, 12, 31, 32, 33, 34] (by decide +kernel) (by decide +kernel)
set_option maxRecDepth 20000 in
theorem gX5_takeNumber_X5_fail : GoodIn wsX5_takeNumber (wsV RX5 55 RX5 yX5_fail wsX5_fail) := goodIn_app (goodIn_of _ (by decide +kernel)) ggX5_takeNumber_X5_fail
set_option maxRecDepth 20000 in
theorem ggX5_takeNumber_X8_advance : GoodIn wsX5_takeNumber wsX8_advance := goodIn_r _ [17, 18, 19, 20, 21, 22, 23, 24, 25, 26, 27, 28, 29, 16, 30, 35, 36, 37, 38, 39, 40] (by decide +kernel) (by decide +kernel)
set_option maxRecDepth 20000 in
theorem gX5_takeNumber_X8_advance : GoodIn wsX5_takeNumber (wsV RX5 92 RX8 yX8_advance wsX8_advance) := goodIn_app (goodIn_of _ (by decide +kernel)) ggX5_takeNumber_X8_advance
theorem dX5_takeNumber_0 : decode cX5_takeNumber 0 = .ok (.aload_n 0, 1) := by decide +kernel
theorem dX5_takeNumber_1 : decode cX5_takeNumber 1 = .ok (.getfield 12, 3) := by decide +kernel
theorem dX5_takeNumber_4 : decode cX5_takeNumber 4 = .ok (.getfield 175, 3) := by decide +kernel
theorem dX5_takeNumber_7 : decode cX5_takeNumber 7 = .ok (.istore_n 3, 1) := by decide +kernel
theorem dX5_takeNumber_8 : decode cX5_takeNumber 8 = .ok (.aload_n 0, 1) := by decide +kernel
theorem dX5_takeNumber_9 : decode cX5_takeNumber 9 = .ok (.aload_n 0, 1) := by decide +kernel
theorem dX5_takeNumber_10 : decode cX5_takeNumber 10 = .ok (.getfield 12, 3) := by decide +kernel
theorem dX5_takeNumber_13 : decode cX5_takeNumber 13 = .ok (.getfield 52, 3) := by decide +kernel
theorem dX5_takeNumber_16 : decode cX5_takeNumber 16 = .ok (.putfield 121, 3) := by decide +kernel
theorem dX5_takeNumber_19 : decode cX5_takeNumber 19 = .ok (.aload_n 0, 1) := by decide +kernel
theorem dX5_takeNumber_20 : decode cX5_takeNumber 20 = .ok (.getfield 12, 3) := by decide +kernel
theorem dX5_takeNumber_23 : decode cX5_takeNumber 23 = .ok (.getfield 33, 3) := by decide +kernel
theorem dX5_takeNumber_26 : decode cX5_takeNumber 26 = .ok (.iconst 2, 1) := by decide +kernel
theorem dX5_takeNumber_27 : decode cX5_takeNumber 27 = .ok (.if_icmp .eq 15, 3) := by decide +kernel
theorem dX5_takeNumber_30 : decode cX5_takeNumber 30 = .ok (.aload_n 0, 1) := by decide +kernel
theorem dX5_takeNumber_31 : decode cX5_takeNumber 31 = .ok (.iconst 1, 1) := by decide +kernel
theorem dX5_takeNumber_32 : decode cX5_takeNumber 32 = .ok (.aload_n 0, 1) := by decide +kernel
theorem dX5_takeNumber_33 : decode cX5_takeNumber 33 = .ok (.getfield 121, 3) := by decide +kernel
theorem dX5_takeNumber_36 : decode cX5_takeNumber 36 = .ok (.invokevirtual 55, 3) := by decide +kernel
theorem dX5_takeNumber_39 : decode cX5_takeNumber 39 = .ok (.goto 22, 3) := by decide +kernel
theorem dX5_takeNumber_42 : decode cX5_takeNumber 42 = .ok (.iload_n 3, 1) := by decide +kernel
theorem dX5_takeNumber_43 : decode cX5_takeNumber 43 = .ok (.iload_n 1, 1) := by decide +kernel
theorem dX5_takeNumber_44 : decode cX5_takeNumber 44 = .ok (.if_icmp .lt 8, 3) := by decide +kernel
theorem dX5_takeNumber_47 : decode cX5_takeNumber 47 = .ok (.iload_n 3, 1) := by decide +kernel
theorem dX5_takeNumber_48 : decode cX5_takeNumber 48 = .ok (.iload_n 2, 1) := by decide +kernel
theorem dX5_takeNumber_49 : decode cX5_takeNumber 49 = .ok (.if_icmp .le 12, 3) := by decide +kernel
theorem dX5_takeNumber_52 : decode cX5_takeNumber 52 = .ok (.aload_n 0, 1) := by decide +kernel
theorem dX5_takeNumber_53 : decode cX5_takeNumber 53 = .ok (.iconst 2, 1) := by decide +kernel
theorem dX5_takeNumber_54 : decode cX5_takeNumber 54 = .ok (.aload_n 0, 1) := by decide +kernel
theorem dX5_takeNumber_55 : decode cX5_takeNumber 55 = .ok (.getfield 121, 3) := by decide +kernel
theorem dX5_takeNumber_58 : decode cX5_takeNumber 58 = .ok (.invokevirtual 55, 3) := by decide +kernel
theorem dX5_takeNumber_61 : decode cX5_takeNumber 61 = .ok (.aload_n 0, 1) := by decide +kernel
theorem dX5_takeNumber_62 : decode cX5_takeNumber 62 = .ok (.getfield 12, 3) := by decide +kernel
theorem dX5_takeNumber_65 : decode cX5_takeNumber 65 = .ok (.invokevirtual 92, 3) := by decide +kernel
theorem dX5_takeNumber_68 : decode cX5_takeNumber 68 = .ok (.aload_n 0, 1) := by decide +kernel
theorem dX5_takeNumber_69 : decode cX5_takeNumber 69 = .ok (.getfield 27, 3) := by decide +kernel
theorem dX5_takeNumber_72 : decode cX5_takeNumber 72 = .ok (.ifCond .ne 7, 3) := by decide +kernel
theorem dX5_takeNumber_75 : decode cX5_takeNumber 75 = .ok (.iload_n 3, 1) := by decide +kernel
theorem dX5_takeNumber_76 : decode cX5_takeNumber 76 = .ok (.goto 4, 3) := by decide +kernel
theorem dX5_takeNumber_79 : decode cX5_takeNumber 79 = .ok (.iload_n 1, 1) := by decide +kernel
theorem dX5_takeNumber_80 : decode cX5_takeNumber 80 = .ok (.ireturn, 1) := by decide +kernel
theorem dX5_fail_0 : decode cX5_fail 0 = .ok (.aload_n 0, 1) := by decide +kernel
theorem dX5_fail_1 : decode cX5_fail 1 = .ok (.getfield 27, 3) := by decide +kernel
theorem dX5_fail_4 : decode cX5_fail 4 = .ok (.ifCond .ne 13, 3) := by decide +kernel
theorem dX5_fail_7 : decode cX5_fail 7 = .ok (.aload_n 0, 1) := by decide +kernel
theorem dX5_fail_8 : decode cX5_fail 8 = .ok (.iload_n 1, 1) := by decide +kernel
theorem dX5_fail_9 : decode cX5_fail 9 = .ok (.putfield 27, 3) := by decide +kernel
theorem dX5_fail_12 : decode cX5_fail 12 = .ok (.aload_n 0, 1) := by decide +kernel
theorem dX5_fail_13 : decode cX5_fail 13 = .ok (.iload_n 2, 1) := by decide +kernel
theorem dX5_fail_14 : decode cX5_fail 14 = .ok (.putfield 18, 3) := by decide +kernel
theorem dX5_fail_17 : decode cX5_fail 17 = .ok (.return_, 1) := by decide +kernel
