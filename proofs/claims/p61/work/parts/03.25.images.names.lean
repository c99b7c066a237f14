abbrev cX11_dance : ByteArray := prog_1_method_4_code
def yX11_dance : MethodName := ⟨RX11, "dance", "()I"⟩
abbrev cX11_image : ByteArray := prog_1_method_59_code
def yX11_image : MethodName := ⟨RX11, "image", "(I)I"⟩
abbrev cX11_back : ByteArray := prog_1_method_60_code
def yX11_back : MethodName := ⟨RX11, "back", "(I)I"⟩
def wsX11_dance_r1 : List Cond := [Cond.fieldLink RX11 10 "OverHill" "reader" "LOverHill$Reader;", Cond.fieldLink RX11 28 "OverHill" "spare" "LOverHill$Dance;", Cond.fieldLink RX11 24 "OverHill" "now" "LOverHill$Dance;", Cond.fieldLink RX11 20 "OverHill" "tape" "LOverHill$Tape;", Cond.fieldLink RX11 102 "OverHill$Tape" "length" "I", Cond.fieldLink RX11 49 "OverHill" "laid" "Z", Cond.fieldLink RX11 116 "OverHill$Dance" "lines" "I", Cond.methodLink RX11 112 yX5_read, Cond.instanceMethod yX5_read, Cond.selects RX5 yX5_read yX5_read, Cond.initialized RX5, Cond.code yX5_read cX5_read 3 (some .boolean), Cond.fieldLink RX5 27 "OverHill$Reader" "fault" "I", Cond.fieldLink RX5 18 "OverHill$Reader" "faultPlace" "I", Cond.fieldLink RX5 12 "OverHill$Reader" "tape" "LOverHill$Tape;", Cond.fieldLink RX5 33 "OverHill$Tape" "kind" "I", Cond.fieldLink RX5 43 "OverHill$Dance" "lines" "I", Cond.methodLink RX5 22 yX0_clear, Cond.instanceMethod yX0_clear, Cond.selects RX0 yX0_clear yX0_clear, Cond.initialized RX0, Cond.code yX0_clear cX0_clear 1 none, Cond.fieldLink RX0 39 "OverHill$Dance" "gap" "I", Cond.fieldLink RX0 43 "OverHill$Dance" "odds" "I"]
def wsX11_dance_r2 : List Cond := [Cond.fieldLink RX0 46 "OverHill$Dance" "rain" "I", Cond.fieldLink RX0 49 "OverHill$Dance" "lines" "I", Cond.fieldLink RX0 15 "OverHill$Dance" "lengths" "[I", Cond.fieldLink RX0 18 "OverHill$Dance" "starts" "[I", Cond.fieldLink RX0 21 "OverHill$Dance" "met" "[I", Cond.fieldLink RX0 27 "OverHill$Dance" "muds" "[I", Cond.fieldLink RX0 58 "OverHill$Dance" "stumbleCount" "I", Cond.fieldLink RX0 61 "OverHill$Dance" "cellCount" "I", Cond.fieldLink RX0 64 "OverHill$Dance" "tuneCount" "I", Cond.fieldLink RX0 67 "OverHill$Dance" "changeCount" "I", Cond.methodLink RX0 52 yJ7_fill_53178, Cond.static yJ7_fill_53178, Cond.initialized RJ7, Cond.code yJ7_fill_53178 cJ7_fill_53178 4 none, Cond.methodLink RX5 30 yX8_rewind, Cond.instanceMethod yX8_rewind, Cond.selects RX8 yX8_rewind yX8_rewind, Cond.initialized RX8, Cond.code yX8_rewind cX8_rewind 1 none, Cond.fieldLink RX8 19 "OverHill$Tape" "upto" "I", Cond.methodLink RX8 22 yX8_advance, Cond.instanceMethod yX8_advance, Cond.selects RX8 yX8_advance yX8_advance, Cond.code yX8_advance cX8_advance 1 none]
def wsX11_dance_r3 : List Cond := [Cond.fieldLink RX8 25 "OverHill$Tape" "from" "I", Cond.fieldLink RX8 15 "OverHill$Tape" "length" "I", Cond.fieldLink RX8 9 "OverHill$Tape" "bytes" "[B", Cond.fieldLink RX8 32 "OverHill$Tape" "value" "I", Cond.fieldLink RX8 35 "OverHill$Tape" "kind" "I", Cond.methodLink RX8 38 Lib.Math.min.name, Cond.static Lib.Math.min.name, Cond.initialized "java/lang/Math", Cond.code Lib.Math.min.name Lib.Math.min.code 2 (some .int), Cond.methodLink RX8 28 yX8_kindOf, Cond.static yX8_kindOf, Cond.code yX8_kindOf cX8_kindOf 1 (some .int), Cond.methodLink RX5 36 yX5_readLine, Cond.instanceMethod yX5_readLine, Cond.selects RX5 yX5_readLine yX5_readLine, Cond.code yX5_readLine cX5_readLine 3 none, Cond.fieldLink RX5 52 "OverHill$Tape" "from" "I", Cond.methodLink RX5 48 yX8_isWord, Cond.instanceMethod yX8_isWord, Cond.selects RX8 yX8_isWord yX8_isWord, Cond.code yX8_isWord cX8_isWord 3 (some .boolean), Cond.methodLink RX8 44 yJ0_length_8abf5, Cond.instanceMethod yJ0_length_8abf5, Cond.selects RJ0 yJ0_length_8abf5 yJ0_length_8abf5]
def wsX11_dance_r4 : List Cond := [Cond.initialized RJ0, Cond.code yJ0_length_8abf5 cJ0_length_8abf5 1 (some .int), Cond.fieldLink RJ0 9 "java/lang/String" "value" "[B", Cond.methodLink RJ0 335 yJ0_coder_7d493, Cond.instanceMethod yJ0_coder_7d493, Cond.selects RJ0 yJ0_coder_7d493 yJ0_coder_7d493, Cond.code yJ0_coder_7d493 cJ0_coder_7d493 1 (some .byte), Cond.fieldLink RJ0 38 "java/lang/String" "COMPACT_STRINGS" "Z", Cond.fieldLink RJ0 15 "java/lang/String" "coder" "B", Cond.methodLink RX8 49 yJ0_charAt_5068e, Cond.instanceMethod yJ0_charAt_5068e, Cond.selects RJ0 yJ0_charAt_5068e yJ0_charAt_5068e, Cond.code yJ0_charAt_5068e cJ0_charAt_5068e 2 (some .char), Cond.methodLink RJ0 492 yJ0_isLatin1_aae02, Cond.instanceMethod yJ0_isLatin1_aae02, Cond.selects RJ0 yJ0_isLatin1_aae02 yJ0_isLatin1_aae02, Cond.code yJ0_isLatin1_aae02 cJ0_isLatin1_aae02 1 (some .boolean), Cond.methodLink RJ0 495 yJ1_charAt_3b067, Cond.static yJ1_charAt_3b067, Cond.initialized RJ1, Cond.code yJ1_charAt_3b067 cJ1_charAt_3b067 2 (some .char), Cond.methodLink RJ1 9 yJ0_checkIndex_df160, Cond.static yJ0_checkIndex_df160, Cond.code yJ0_checkIndex_df160 cJ0_checkIndex_df160 2 none]
def wsX11_dance_r5 : List Cond := [Cond.fieldLink RJ0 1053 "jdk/internal/util/Preconditions" "SIOOBE_FORMATTER" "Ljava/util/function/BiFunction;", Cond.methodLink RJ0 1059 yJ3_checkIndex_8e157, Cond.static yJ3_checkIndex_8e157, Cond.initialized RJ3, Cond.code yJ3_checkIndex_8e157 cJ3_checkIndex_8e157 3 (some .int), Cond.methodLink RJ0 498 yJ2_charAt_3b067, Cond.static yJ2_charAt_3b067, Cond.initialized RJ2, Cond.code yJ2_charAt_3b067 cJ2_charAt_3b067 2 (some .char), Cond.methodLink RJ2 67 yJ2_checkIndex_2214a, Cond.static yJ2_checkIndex_2214a, Cond.code yJ2_checkIndex_2214a cJ2_checkIndex_2214a 2 none, Cond.methodLink RJ2 48 yJ2_length_9d52b, Cond.static yJ2_length_9d52b, Cond.code yJ2_length_9d52b cJ2_length_9d52b 1 (some .int), Cond.methodLink RJ2 414 yJ0_checkIndex_df160, Cond.methodLink RJ2 71 yJ2_getChar_3b067, Cond.static yJ2_getChar_3b067, Cond.code yJ2_getChar_3b067 cJ2_getChar_3b067 2 (some .char), Cond.fieldLink RJ2 44 "java/lang/StringUTF16" "$assertionsDisabled" "Z", Cond.fieldLink RJ2 59 "java/lang/StringUTF16" "HI_BYTE_SHIFT" "I", Cond.fieldLink RJ2 63 "java/lang/StringUTF16" "LO_BYTE_SHIFT" "I", Cond.methodLink RX5 55 yX5_fail, Cond.instanceMethod yX5_fail]
def wsX11_dance_r6 : List Cond := [Cond.selects RX5 yX5_fail yX5_fail, Cond.code yX5_fail cX5_fail 3 none, Cond.methodLink RX5 59 yX5_readDance, Cond.instanceMethod yX5_readDance, Cond.selects RX5 yX5_readDance yX5_readDance, Cond.code yX5_readDance cX5_readDance 2 none, Cond.fieldLink RX5 105 "OverHill$Dance" "gap" "I", Cond.fieldLink RX5 109 "OverHill$Dance" "odds" "I", Cond.fieldLink RX5 113 "OverHill$Dance" "rain" "I", Cond.methodLink RX5 92 yX8_advance, Cond.methodLink RX5 97 yX5_takeWord, Cond.instanceMethod yX5_takeWord, Cond.selects RX5 yX5_takeWord yX5_takeWord, Cond.code yX5_takeWord cX5_takeWord 2 none, Cond.methodLink RX5 101 yX5_takeNumber, Cond.instanceMethod yX5_takeNumber, Cond.selects RX5 yX5_takeNumber yX5_takeNumber, Cond.code yX5_takeNumber cX5_takeNumber 4 (some .int), Cond.fieldLink RX5 175 "OverHill$Tape" "value" "I", Cond.fieldLink RX5 121 "OverHill$Reader" "numberPlace" "I", Cond.methodLink RX5 64 yX5_readRound, Cond.instanceMethod yX5_readRound, Cond.selects RX5 yX5_readRound yX5_readRound, Cond.code yX5_readRound cX5_readRound 6 none]
def wsX11_dance_r7 : List Cond := [Cond.fieldLink RX5 124 "OverHill$Dance" "steps" "[I", Cond.fieldLink RX5 130 "OverHill$Dance" "starts" "[I", Cond.fieldLink RX5 133 "OverHill$Dance" "lengths" "[I", Cond.methodLink RX5 117 yX5_seesNumber, Cond.instanceMethod yX5_seesNumber, Cond.selects RX5 yX5_seesNumber yX5_seesNumber, Cond.code yX5_seesNumber cX5_seesNumber 1 (some .boolean), Cond.methodLink RX5 69 yX5_readAnswers, Cond.instanceMethod yX5_readAnswers, Cond.selects RX5 yX5_readAnswers yX5_readAnswers, Cond.code yX5_readAnswers cX5_readAnswers 5 none, Cond.fieldLink RX5 136 "OverHill$Dance" "met" "[I", Cond.methodLink RX5 74 yX5_readStumble, Cond.instanceMethod yX5_readStumble, Cond.selects RX5 yX5_readStumble yX5_readStumble, Cond.code yX5_readStumble cX5_readStumble 6 none, Cond.fieldLink RX5 139 "OverHill$Dance" "stumbleCount" "I", Cond.methodLink RX5 142 yX5_beginOneOf, Cond.instanceMethod yX5_beginOneOf, Cond.selects RX5 yX5_beginOneOf yX5_beginOneOf, Cond.code yX5_beginOneOf cX5_beginOneOf 3 none, Cond.methodLink RX5 147 yX0_stumbleOf, Cond.instanceMethod yX0_stumbleOf, Cond.selects RX0 yX0_stumbleOf yX0_stumbleOf]
def wsX11_dance_r8 : List Cond := [Cond.code yX0_stumbleOf cX0_stumbleOf 5 (some .int), Cond.fieldLink RX0 24 "OverHill$Dance" "stumbles" "[I", Cond.methodLink RX5 154 yX0_addStumble, Cond.instanceMethod yX0_addStumble, Cond.selects RX0 yX0_addStumble yX0_addStumble, Cond.code yX0_addStumble cX0_addStumble 6 none, Cond.methodLink RX5 79 yX5_readMud, Cond.instanceMethod yX5_readMud, Cond.selects RX5 yX5_readMud yX5_readMud, Cond.code yX5_readMud cX5_readMud 3 none, Cond.fieldLink RX5 158 "OverHill$Dance" "muds" "[I", Cond.methodLink RX5 84 yX5_readWood, Cond.instanceMethod yX5_readWood, Cond.selects RX5 yX5_readWood yX5_readWood, Cond.code yX5_readWood cX5_readWood 3 none, Cond.fieldLink RX5 161 "OverHill$Dance" "cellCount" "I", Cond.methodLink RX5 166 yX0_addCell, Cond.instanceMethod yX0_addCell, Cond.selects RX0 yX0_addCell yX0_addCell, Cond.code yX0_addCell cX0_addCell 3 none, Cond.fieldLink RX0 30 "OverHill$Dance" "cells" "[I", Cond.methodLink RX5 89 yX5_readTune, Cond.instanceMethod yX5_readTune, Cond.selects RX5 yX5_readTune yX5_readTune]
def wsX11_dance_r9 : List Cond := [Cond.code yX5_readTune cX5_readTune 3 none, Cond.fieldLink RX5 169 "OverHill$Dance" "tuneCount" "I", Cond.methodLink RX5 172 yX0_addTune, Cond.instanceMethod yX0_addTune, Cond.selects RX0 yX0_addTune yX0_addTune, Cond.code yX0_addTune cX0_addTune 3 none, Cond.fieldLink RX0 33 "OverHill$Dance" "tunes" "[I", Cond.methodLink RX5 40 yX5_takeSemicolon, Cond.instanceMethod yX5_takeSemicolon, Cond.selects RX5 yX5_takeSemicolon yX5_takeSemicolon, Cond.code yX5_takeSemicolon cX5_takeSemicolon 1 none]
def wsX11_dance : List Cond := .code yX11_dance cX11_dance 2 (some .int) :: ((wsX11_dance_r1 ++ (wsX11_dance_r2 ++ (wsX11_dance_r3 ++ (wsX11_dance_r4 ++ (wsX11_dance_r5 ++ (wsX11_dance_r6 ++ (wsX11_dance_r7 ++ (wsX11_dance_r8 ++ wsX11_dance_r9)))))))) ++ wsX110 ++ wsX80 ++ wsX00 ++ wsX50)
def wsX11_image_r1 : List Cond := [Cond.fieldLink RX11 31 "OverHill" "images" "[LOverHill$Dance;", Cond.fieldLink RX11 24 "OverHill" "now" "LOverHill$Dance;", Cond.fieldLink RX11 35 "OverHill" "kept" "[I", Cond.methodLink RX11 150 yX11_isWithin, Cond.static yX11_isWithin, Cond.initialized RX11, Cond.code yX11_isWithin cX11_isWithin 2 (some .boolean), Cond.methodLink RX11 407 yX0_copyFrom, Cond.instanceMethod yX0_copyFrom, Cond.selects RX0 yX0_copyFrom yX0_copyFrom, Cond.initialized RX0, Cond.code yX0_copyFrom cX0_copyFrom 2 none, Cond.fieldLink RX0 39 "OverHill$Dance" "gap" "I", Cond.fieldLink RX0 43 "OverHill$Dance" "odds" "I", Cond.fieldLink RX0 46 "OverHill$Dance" "rain" "I", Cond.fieldLink RX0 49 "OverHill$Dance" "lines" "I", Cond.fieldLink RX0 58 "OverHill$Dance" "stumbleCount" "I", Cond.fieldLink RX0 61 "OverHill$Dance" "cellCount" "I", Cond.fieldLink RX0 64 "OverHill$Dance" "tuneCount" "I", Cond.fieldLink RX0 67 "OverHill$Dance" "changeCount" "I", Cond.fieldLink RX0 9 "OverHill$Dance" "steps" "[I", Cond.methodLink RX0 70 arraycopyName, Cond.native arraycopyName, Cond.static arraycopyName]
def wsX11_image_r2 : List Cond := [Cond.initialized "java/lang/System", Cond.fieldLink RX0 15 "OverHill$Dance" "lengths" "[I", Cond.fieldLink RX0 18 "OverHill$Dance" "starts" "[I", Cond.fieldLink RX0 21 "OverHill$Dance" "met" "[I", Cond.fieldLink RX0 24 "OverHill$Dance" "stumbles" "[I", Cond.fieldLink RX0 27 "OverHill$Dance" "muds" "[I", Cond.fieldLink RX0 30 "OverHill$Dance" "cells" "[I", Cond.fieldLink RX0 33 "OverHill$Dance" "tunes" "[I", Cond.fieldLink RX0 36 "OverHill$Dance" "changes" "[I"]
def wsX11_image : List Cond := .code yX11_image cX11_image 2 (some .int) :: ((wsX11_image_r1 ++ wsX11_image_r2) ++ wsX110 ++ wsX00)
def wsX11_back_r1 : List Cond := [Cond.fieldLink RX11 35 "OverHill" "kept" "[I", Cond.fieldLink RX11 24 "OverHill" "now" "LOverHill$Dance;", Cond.fieldLink RX11 31 "OverHill" "images" "[LOverHill$Dance;", Cond.fieldLink RX11 49 "OverHill" "laid" "Z", Cond.methodLink RX11 150 yX11_isWithin, Cond.static yX11_isWithin, Cond.initialized RX11, Cond.code yX11_isWithin cX11_isWithin 2 (some .boolean), Cond.methodLink RX11 407 yX0_copyFrom, Cond.instanceMethod yX0_copyFrom, Cond.selects RX0 yX0_copyFrom yX0_copyFrom, Cond.initialized RX0, Cond.code yX0_copyFrom cX0_copyFrom 2 none, Cond.fieldLink RX0 39 "OverHill$Dance" "gap" "I", Cond.fieldLink RX0 43 "OverHill$Dance" "odds" "I", Cond.fieldLink RX0 46 "OverHill$Dance" "rain" "I", Cond.fieldLink RX0 49 "OverHill$Dance" "lines" "I", Cond.fieldLink RX0 58 "OverHill$Dance" "stumbleCount" "I", Cond.fieldLink RX0 61 "OverHill$Dance" "cellCount" "I", Cond.fieldLink RX0 64 "OverHill$Dance" "tuneCount" "I", Cond.fieldLink RX0 67 "OverHill$Dance" "changeCount" "I", Cond.fieldLink RX0 9 "OverHill$Dance" "steps" "[I", Cond.methodLink RX0 70 arraycopyName, Cond.native arraycopyName]
def wsX11_back_r2 : List Cond := [Cond.static arraycopyName, Cond.initialized "java/lang/System", Cond.fieldLink RX0 15 "OverHill$Dance" "lengths" "[I", Cond.fieldLink RX0 18 "OverHill$Dance" "starts" "[I", Cond.fieldLink RX0 21 "OverHill$Dance" "met" "[I", Cond.fieldLink RX0 24 "OverHill$Dance" "stumbles" "[I", Cond.fieldLink RX0 27 "OverHill$Dance" "muds" "[I", Cond.fieldLink RX0 30 "OverHill$Dance" "cells" "[I", Cond.fieldLink RX0 33 "OverHill$Dance" "tunes" "[I", Cond.fieldLink RX0 36 "OverHill$Dance" "changes" "[I"]
def wsX11_back : List Cond := .code yX11_back cX11_back 2 (some .int) :: ((wsX11_back_r1 ++ wsX11_back_r2) ++ wsX110 ++ wsX00)
set_option maxRecDepth 20000 in
theorem ggX11_dance_X5_read : GoodIn wsX11_dance wsX5_read := goodIn_r _ [12, 13, 14, 15, 16, 17, 18, 19, 20, 21, 22, 23, 24, 25, 26, 27, 28, 29, 30, 31, 32, 33, 34, 35, 36, 37, 38, 39, 40, 41, 42, 43, 44, 45, 46, 47, 48, 49, 50, 51, 52, 53, 54, 55, 56, 57, 58, 59, 60, 61, 62, 63, 11, 64, 65, 66, 67, 68, 69, 70, 71, 72, 73, 74, 75, 76, 77, 78, 79, 80, 81, 82, 83, 84, 85, 86, 87, 88, 89, 90, 91, 92, 93, 94, 95, 96, 97, 98, 99, 100, 101, 102, 103, 104, 105, 106, 107, 108, 109, 110, 111, 112, 113, 114, 115, 116, 117, 118, 119, 120, 121, 122, 123, 124, 125, 126, 127, 128, 129, 130, 131, 132, 133, 134, 135, 136, 137, 138, 139, 140, 141, 142, 143, 144, 145, 146, 147, 148, 149, 150, 151, 152, 153, 154, 155, 156, 157, 158, 159, 160, 161, 162, 163, 164, 165, 166, 167, 168, 169, 170, 171, 172, 173, 174, 175, 176, 177, 178, 179, 180, 181, 182, 183, 184, 185, 186, 187, 188, 189, 190, 191, 192, 193, 194, 195, 196, 197, 198, 199, 200, 201, 202, 203, 243, 244, 245, 246, 220, 221, 222, 223, 224, 225, 226, 227, 228, 229, 230, 231, 232, 233, 234, 235, 236, 237, 238, 239, 240, 241, 242] (by decide +kernel) (by decide +kernel)
set_option maxRecDepth 20000 in
theorem gX11_dance_X5_read : GoodIn wsX11_dance (wsV RX11 112 RX5 yX5_read wsX5_read) := goodIn_app (goodIn_of _ (by decide +kernel)) ggX11_dance_X5_read
theorem dX11_dance_0 : decode cX11_dance 0 = .ok (.aload_n 0, 1) := by decide +kernel
theorem dX11_dance_1 : decode cX11_dance 1 = .ok (.getfield 10, 3) := by decide +kernel
theorem dX11_dance_4 : decode cX11_dance 4 = .ok (.aload_n 0, 1) := by decide +kernel
theorem dX11_dance_5 : decode cX11_dance 5 = .ok (.getfield 28, 3) := by decide +kernel
theorem dX11_dance_8 : decode cX11_dance 8 = .ok (.invokevirtual 112, 3) := by decide +kernel
theorem dX11_dance_11 : decode cX11_dance 11 = .ok (.ifCond .ne 6, 3) := by decide +kernel
theorem dX11_dance_14 : decode cX11_dance 14 = .ok (.bipush (-4), 2) := by decide +kernel
theorem dX11_dance_16 : decode cX11_dance 16 = .ok (.ireturn, 1) := by decide +kernel
theorem dX11_dance_17 : decode cX11_dance 17 = .ok (.aload_n 0, 1) := by decide +kernel
theorem dX11_dance_18 : decode cX11_dance 18 = .ok (.getfield 24, 3) := by decide +kernel
theorem dX11_dance_21 : decode cX11_dance 21 = .ok (.astore_n 1, 1) := by decide +kernel
theorem dX11_dance_22 : decode cX11_dance 22 = .ok (.aload_n 0, 1) := by decide +kernel
theorem dX11_dance_23 : decode cX11_dance 23 = .ok (.aload_n 0, 1) := by decide +kernel
theorem dX11_dance_24 : decode cX11_dance 24 = .ok (.getfield 28, 3) := by decide +kernel
theorem dX11_dance_27 : decode cX11_dance 27 = .ok (.putfield 24, 3) := by decide +kernel
theorem dX11_dance_30 : decode cX11_dance 30 = .ok (.aload_n 0, 1) := by decide +kernel
theorem dX11_dance_31 : decode cX11_dance 31 = .ok (.aload_n 1, 1) := by decide +kernel
theorem dX11_dance_32 : decode cX11_dance 32 = .ok (.putfield 28, 3) := by decide +kernel
theorem dX11_dance_35 : decode cX11_dance 35 = .ok (.aload_n 0, 1) := by decide +kernel
theorem dX11_dance_36 : decode cX11_dance 36 = .ok (.getfield 20, 3) := by decide +kernel
theorem dX11_dance_39 : decode cX11_dance 39 = .ok (.iconst 0, 1) := by decide +kernel
theorem dX11_dance_40 : decode cX11_dance 40 = .ok (.putfield 102, 3) := by decide +kernel
theorem dX11_dance_43 : decode cX11_dance 43 = .ok (.aload_n 0, 1) := by decide +kernel
theorem dX11_dance_44 : decode cX11_dance 44 = .ok (.iconst 0, 1) := by decide +kernel
theorem dX11_dance_45 : decode cX11_dance 45 = .ok (.putfield 49, 3) := by decide +kernel
theorem dX11_dance_48 : decode cX11_dance 48 = .ok (.aload_n 0, 1) := by decide +kernel
theorem dX11_dance_49 : decode cX11_dance 49 = .ok (.getfield 24, 3) := by decide +kernel
theorem dX11_dance_52 : decode cX11_dance 52 = .ok (.getfield 116, 3) := by decide +kernel
theorem dX11_dance_55 : decode cX11_dance 55 = .ok (.ireturn, 1) := by decide +kernel
set_option maxRecDepth 20000 in
theorem ggX11_image_X11_isWithin : GoodIn wsX11_image wsX11_isWithin := goodIn_r _ [7] (by decide +kernel) (by decide +kernel)
set_option maxRecDepth 20000 in
theorem gX11_image_X11_isWithin : GoodIn wsX11_image (va_wsS RX11 150 yX11_isWithin wsX11_isWithin) := goodIn_app (goodIn_of _ (by decide +kernel)) ggX11_image_X11_isWithin
set_option maxRecDepth 20000 in
theorem ggX11_image_X0_copyFrom : GoodIn wsX11_image wsX0_copyFrom := goodIn_r _ [12, 13, 14, 15, 16, 17, 18, 19, 20, 21, 22, 23, 24, 25, 26, 27, 28, 29, 30, 31, 32, 33, 50, 51, 52, 53, 54, 55, 56, 57, 58, 59, 60, 61, 62, 63, 64, 65, 66] (by decide +kernel) (by decide +kernel)
set_option maxRecDepth 20000 in
theorem gX11_image_X0_copyFrom : GoodIn wsX11_image (wsV RX11 407 RX0 yX0_copyFrom wsX0_copyFrom) := goodIn_app (goodIn_of _ (by decide +kernel)) ggX11_image_X0_copyFrom
theorem dX11_image_0 : decode cX11_image 0 = .ok (.iload_n 1, 1) := by decide +kernel
theorem dX11_image_1 : decode cX11_image 1 = .ok (.iconst 3, 1) := by decide +kernel
theorem dX11_image_2 : decode cX11_image 2 = .ok (.invokestatic 150, 3) := by decide +kernel
theorem dX11_image_5 : decode cX11_image 5 = .ok (.ifCond .ne 6, 3) := by decide +kernel
theorem dX11_image_8 : decode cX11_image 8 = .ok (.bipush (-2), 2) := by decide +kernel
theorem dX11_image_10 : decode cX11_image 10 = .ok (.ireturn, 1) := by decide +kernel
theorem dX11_image_11 : decode cX11_image 11 = .ok (.aload_n 0, 1) := by decide +kernel
theorem dX11_image_12 : decode cX11_image 12 = .ok (.getfield 31, 3) := by decide +kernel
theorem dX11_image_15 : decode cX11_image 15 = .ok (.iload_n 1, 1) := by decide +kernel
theorem dX11_image_16 : decode cX11_image 16 = .ok (.aaload, 1) := by decide +kernel
theorem dX11_image_17 : decode cX11_image 17 = .ok (.aload_n 0, 1) := by decide +kernel
theorem dX11_image_18 : decode cX11_image 18 = .ok (.getfield 24, 3) := by decide +kernel
theorem dX11_image_21 : decode cX11_image 21 = .ok (.invokevirtual 407, 3) := by decide +kernel
theorem dX11_image_24 : decode cX11_image 24 = .ok (.aload_n 0, 1) := by decide +kernel
theorem dX11_image_25 : decode cX11_image 25 = .ok (.getfield 35, 3) := by decide +kernel
theorem dX11_image_28 : decode cX11_image 28 = .ok (.iload_n 1, 1) := by decide +kernel
theorem dX11_image_29 : decode cX11_image 29 = .ok (.iconst 1, 1) := by decide +kernel
theorem dX11_image_30 : decode cX11_image 30 = .ok (.iastore, 1) := by decide +kernel
theorem dX11_image_31 : decode cX11_image 31 = .ok (.iconst 0, 1) := by decide +kernel
theorem dX11_image_32 : decode cX11_image 32 = .ok (.ireturn, 1) := by decide +kernel
set_option maxRecDepth 20000 in
theorem ggX11_back_X11_isWithin : GoodIn wsX11_back wsX11_isWithin := goodIn_r _ [8] (by decide +kernel) (by decide +kernel)
set_option maxRecDepth 20000 in
theorem gX11_back_X11_isWithin : GoodIn wsX11_back (va_wsS RX11 150 yX11_isWithin wsX11_isWithin) := goodIn_app (goodIn_of _ (by decide +kernel)) ggX11_back_X11_isWithin
set_option maxRecDepth 20000 in
theorem ggX11_back_X0_copyFrom : GoodIn wsX11_back wsX0_copyFrom := goodIn_r _ [13, 14, 15, 16, 17, 18, 19, 20, 21, 22, 23, 24, 25, 26, 27, 28, 29, 30, 31, 32, 33, 34, 51, 52, 53, 54, 55, 56, 57, 58, 59, 60, 61, 62, 63, 64, 65, 66, 67] (by decide +kernel) (by decide +kernel)
set_option maxRecDepth 20000 in
theorem gX11_back_X0_copyFrom : GoodIn wsX11_back (wsV RX11 407 RX0 yX0_copyFrom wsX0_copyFrom) := goodIn_app (goodIn_of _ (by decide +kernel)) ggX11_back_X0_copyFrom
theorem dX11_back_0 : decode cX11_back 0 = .ok (.iload_n 1, 1) := by decide +kernel
theorem dX11_back_1 : decode cX11_back 1 = .ok (.iconst 3, 1) := by decide +kernel
theorem dX11_back_2 : decode cX11_back 2 = .ok (.invokestatic 150, 3) := by decide +kernel
theorem dX11_back_5 : decode cX11_back 5 = .ok (.ifCond .ne 6, 3) := by decide +kernel
theorem dX11_back_8 : decode cX11_back 8 = .ok (.bipush (-2), 2) := by decide +kernel
theorem dX11_back_10 : decode cX11_back 10 = .ok (.ireturn, 1) := by decide +kernel
theorem dX11_back_11 : decode cX11_back 11 = .ok (.aload_n 0, 1) := by decide +kernel
theorem dX11_back_12 : decode cX11_back 12 = .ok (.getfield 35, 3) := by decide +kernel
theorem dX11_back_15 : decode cX11_back 15 = .ok (.iload_n 1, 1) := by decide +kernel
theorem dX11_back_16 : decode cX11_back 16 = .ok (.iaload, 1) := by decide +kernel
theorem dX11_back_17 : decode cX11_back 17 = .ok (.ifCond .ne 6, 3) := by decide +kernel
theorem dX11_back_20 : decode cX11_back 20 = .ok (.bipush (-6), 2) := by decide +kernel
theorem dX11_back_22 : decode cX11_back 22 = .ok (.ireturn, 1) := by decide +kernel
theorem dX11_back_23 : decode cX11_back 23 = .ok (.aload_n 0, 1) := by decide +kernel
theorem dX11_back_24 : decode cX11_back 24 = .ok (.getfield 24, 3) := by decide +kernel
theorem dX11_back_27 : decode cX11_back 27 = .ok (.aload_n 0, 1) := by decide +kernel
theorem dX11_back_28 : decode cX11_back 28 = .ok (.getfield 31, 3) := by decide +kernel
theorem dX11_back_31 : decode cX11_back 31 = .ok (.iload_n 1, 1) := by decide +kernel
theorem dX11_back_32 : decode cX11_back 32 = .ok (.aaload, 1) := by decide +kernel
theorem dX11_back_33 : decode cX11_back 33 = .ok (.invokevirtual 407, 3) := by decide +kernel
theorem dX11_back_36 : decode cX11_back 36 = .ok (.aload_n 0, 1) := by decide +kernel
theorem dX11_back_37 : decode cX11_back 37 = .ok (.iconst 0, 1) := by decide +kernel
theorem dX11_back_38 : decode cX11_back 38 = .ok (.putfield 49, 3) := by decide +kernel
theorem dX11_back_41 : decode cX11_back 41 = .ok (.iconst 0, 1) := by decide +kernel
theorem dX11_back_42 : decode cX11_back 42 = .ok (.ireturn, 1) := by decide +kernel
