abbrev cX12_line : ByteArray := prog_14_method_34_code
def yX12_line : MethodName := ⟨RX12, "line", "()V"⟩
def wsX12_line_r1 : List Cond := [Cond.constantLong RX12 197 (7659385358), Cond.constantLong RX12 199 (464053), Cond.constantLong RX12 201 (409352), Cond.fieldLink RX12 132 "OverHillModel" "bad" "I", Cond.constantLong RX12 206 (3094387), Cond.fieldLink RX12 50 "OverHillModel" "cell" "[I", Cond.fieldLink RX12 53 "OverHillModel" "tune" "[I", Cond.constantLong RX12 212 (9876874), Cond.constantLong RX12 217 (598859425), Cond.constantLong RX12 222 (10048), Cond.fieldLink RX12 121 "OverHillModel" "token" "I", Cond.fieldLink RX12 114 "OverHillModel" "value" "I", Cond.fieldLink RX12 46 "OverHillModel" "isMud" "[Z", Cond.methodLink RX12 138 yX12_is, Cond.instanceMethod yX12_is, Cond.selects RX12 yX12_is yX12_is, Cond.initialized RX12, Cond.code yX12_is cX12_is 3 (some .boolean), Cond.fieldLink RX12 117 "OverHillModel" "word" "J", Cond.methodLink RX12 181 yX12_hasRead, Cond.instanceMethod yX12_hasRead, Cond.selects RX12 yX12_hasRead yX12_hasRead, Cond.code yX12_hasRead cX12_hasRead 2 (some .int), Cond.fieldLink RX12 34 "OverHillModel" "has" "[I"]
def wsX12_line_r2 : List Cond := [Cond.methodLink RX12 148 yX12_fails, Cond.instanceMethod yX12_fails, Cond.selects RX12 yX12_fails yX12_fails, Cond.code yX12_fails cX12_fails 2 none, Cond.fieldLink RX12 111 "OverHillModel" "place" "I", Cond.fieldLink RX12 135 "OverHillModel" "badPlace" "I", Cond.methodLink RX12 142 yX12_next, Cond.instanceMethod yX12_next, Cond.selects RX12 yX12_next yX12_next, Cond.code yX12_next cX12_next 2 none, Cond.fieldLink RX12 104 "OverHillModel" "at" "I", Cond.fieldLink RX12 97 "OverHillModel" "taped" "I", Cond.constantLong RX12 124 (-1), Cond.constantLong RX12 126 (27), Cond.fieldLink RX12 23 "OverHillModel" "tape" "[B", Cond.constantLong RX12 128 (96), Cond.constant RX12 130 (100000), Cond.constant RX12 131 (1000000), Cond.methodLink RX12 107 yX12_isByte, Cond.instanceMethod yX12_isByte, Cond.selects RX12 yX12_isByte yX12_isByte, Cond.code yX12_isByte cX12_isByte 4 (some .boolean), Cond.methodLink RX12 203 yX12_stumbleLine, Cond.instanceMethod yX12_stumbleLine]
def wsX12_line_r3 : List Cond := [Cond.selects RX12 yX12_stumbleLine yX12_stumbleLine, Cond.code yX12_stumbleLine cX12_stumbleLine 3 none, Cond.constantLong RX12 185 (47), Cond.fieldLink RX12 43 "OverHillModel" "stumble" "[I", Cond.constantLong RX12 193 (89821), Cond.constantLong RX12 195 (8782), Cond.methodLink RX12 155 yX12_number, Cond.instanceMethod yX12_number, Cond.selects RX12 yX12_number yX12_number, Cond.code yX12_number cX12_number 4 (some .int), Cond.methodLink RX12 85 yX12_in, Cond.static yX12_in, Cond.code yX12_in cX12_in 6 (some .boolean), Cond.methodLink RX12 151 yX12_asks, Cond.instanceMethod yX12_asks, Cond.selects RX12 yX12_asks yX12_asks, Cond.code yX12_asks cX12_asks 3 none, Cond.methodLink RX12 145 yX12_takes, Cond.instanceMethod yX12_takes, Cond.selects RX12 yX12_takes yX12_takes, Cond.code yX12_takes cX12_takes 3 (some .boolean), Cond.methodLink RX12 187 yX12_isStumbled, Cond.instanceMethod yX12_isStumbled, Cond.selects RX12 yX12_isStumbled yX12_isStumbled]
def wsX12_line_r4 : List Cond := [Cond.code yX12_isStumbled cX12_isStumbled 5 (some .boolean), Cond.methodLink RX12 190 yX12_beatHere, Cond.instanceMethod yX12_beatHere, Cond.selects RX12 yX12_beatHere yX12_beatHere, Cond.code yX12_beatHere cX12_beatHere 1 (some .int), Cond.methodLink RX12 174 yX12_number_, Cond.instanceMethod yX12_number_, Cond.selects RX12 yX12_number_ yX12_number_, Cond.code yX12_number_ cX12_number_ 5 (some .int), Cond.methodLink RX12 177 yX12_reads, Cond.instanceMethod yX12_reads, Cond.selects RX12 yX12_reads yX12_reads, Cond.code yX12_reads cX12_reads 3 none, Cond.methodLink RX12 208 yX12_everyLine, Cond.instanceMethod yX12_everyLine, Cond.selects RX12 yX12_everyLine yX12_everyLine, Cond.code yX12_everyLine cX12_everyLine 4 none, Cond.methodLink RX12 214 yX12_roundLine, Cond.instanceMethod yX12_roundLine, Cond.selects RX12 yX12_roundLine yX12_roundLine, Cond.code yX12_roundLine cX12_roundLine 5 none, Cond.constantLong RX12 162 (411), Cond.fieldLink RX12 62 "OverHillModel" "steps" "[I", Cond.constantLong RX12 172 (31499758)]
def wsX12_line_r5 : List Cond := [Cond.fieldLink RX12 37 "OverHillModel" "round" "[I", Cond.methodLink RX12 164 yX12_stepHere, Cond.instanceMethod yX12_stepHere, Cond.selects RX12 yX12_stepHere yX12_stepHere, Cond.code yX12_stepHere cX12_stepHere 1 (some .int), Cond.methodLink RX12 168 yX12_isGood, Cond.instanceMethod yX12_isGood, Cond.selects RX12 yX12_isGood yX12_isGood, Cond.code yX12_isGood cX12_isGood 1 (some .boolean), Cond.methodLink RX12 219 yX12_answersLine, Cond.instanceMethod yX12_answersLine, Cond.selects RX12 yX12_answersLine yX12_answersLine, Cond.code yX12_answersLine cX12_answersLine 3 none, Cond.fieldLink RX12 40 "OverHillModel" "meets" "[I"]
def wsX12_line : List Cond := .code yX12_line cX12_line 5 none :: ((wsX12_line_r1 ++ (wsX12_line_r2 ++ (wsX12_line_r3 ++ (wsX12_line_r4 ++ wsX12_line_r5)))) ++ wsX120)
set_option maxRecDepth 20000 in
theorem ggX12_line_X12_is : GoodIn wsX12_line wsX12_is := goodIn_r _ [18, 4, 11, 19, 111, 112, 113, 114, 115, 116, 117, 118, 119, 120, 121, 122, 123, 124, 125, 126, 127, 128, 129, 130, 131, 132, 133, 134, 135, 136, 137, 138, 139, 140, 141, 142, 143, 144, 145, 146, 147, 148, 149, 150, 151, 152, 153, 154, 155] (by decide +kernel) (by decide +kernel)
set_option maxRecDepth 20000 in
theorem gX12_line_X12_is : GoodIn wsX12_line (wsV RX12 138 RX12 yX12_is wsX12_is) := goodIn_app (goodIn_of _ (by decide +kernel)) ggX12_line_X12_is
set_option maxRecDepth 20000 in
theorem ggX12_line_X12_hasRead : GoodIn wsX12_line wsX12_hasRead := goodIn_r _ [23, 24, 111, 112, 113, 114, 115, 116, 117, 118, 119, 120, 121, 122, 123, 124, 125, 126, 127, 128, 129, 130, 131, 132, 133, 134, 135, 136, 137, 138, 139, 140, 141, 142, 143, 144, 145, 146, 147, 148, 149, 150, 151, 152, 153, 154, 155] (by decide +kernel) (by decide +kernel)
set_option maxRecDepth 20000 in
theorem gX12_line_X12_hasRead : GoodIn wsX12_line (wsV RX12 181 RX12 yX12_hasRead wsX12_hasRead) := goodIn_app (goodIn_of _ (by decide +kernel)) ggX12_line_X12_hasRead
set_option maxRecDepth 20000 in
theorem ggX12_line_X12_fails : GoodIn wsX12_line wsX12_fails := goodIn_r _ [28, 4, 29, 30, 111, 112, 113, 114, 115, 116, 117, 118, 119, 120, 121, 122, 123, 124, 125, 126, 127, 128, 129, 130, 131, 132, 133, 134, 135, 136, 137, 138, 139, 140, 141, 142, 143, 144, 145, 146, 147, 148, 149, 150, 151, 152, 153, 154, 155] (by decide +kernel) (by decide +kernel)
set_option maxRecDepth 20000 in
theorem gX12_line_X12_fails : GoodIn wsX12_line (wsV RX12 148 RX12 yX12_fails wsX12_fails) := goodIn_app (goodIn_of _ (by decide +kernel)) ggX12_line_X12_fails
set_option maxRecDepth 20000 in
theorem ggX12_line_X12_next : GoodIn wsX12_line wsX12_next := goodIn_r _ [34, 35, 29, 12, 19, 36, 11, 37, 38, 39, 40, 41, 42, 43, 44, 45, 17, 46, 111, 112, 113, 114, 115, 116, 117, 118, 119, 120, 121, 122, 123, 124, 125, 126, 127, 128, 129, 130, 131, 132, 133, 134, 135, 136, 137, 138, 139, 140, 141, 142, 143, 144, 145, 146, 147, 148, 149, 150, 151, 152, 153, 154, 155] (by decide +kernel) (by decide +kernel)
set_option maxRecDepth 20000 in
theorem gX12_line_X12_next : GoodIn wsX12_line (wsV RX12 142 RX12 yX12_next wsX12_next) := goodIn_app (goodIn_of _ (by decide +kernel)) ggX12_line_X12_next
set_option maxRecDepth 20000 in
theorem ggX12_line_X12_stumbleLine : GoodIn wsX12_line wsX12_stumbleLine := goodIn_r _ [50, 51, 4, 11, 12, 52, 53, 54, 20, 21, 22, 17, 23, 24, 55, 56, 57, 58, 25, 26, 27, 28, 29, 30, 59, 60, 61, 31, 32, 33, 34, 35, 19, 36, 37, 38, 39, 40, 41, 42, 43, 44, 45, 46, 62, 63, 64, 65, 66, 67, 68, 69, 14, 15, 16, 18, 70, 71, 72, 73, 74, 75, 76, 77, 78, 79, 80, 81, 82, 83, 84, 85, 111, 112, 113, 114, 115, 116, 117, 118, 119, 120, 121, 122, 123, 124, 125, 126, 127, 128, 129, 130, 131, 132, 133, 134, 135, 136, 137, 138, 139, 140, 141, 142, 143, 144, 145, 146, 147, 148, 149, 150, 151, 152, 153, 154, 155] (by decide +kernel) (by decide +kernel)
set_option maxRecDepth 20000 in
theorem gX12_line_X12_stumbleLine : GoodIn wsX12_line (wsV RX12 203 RX12 yX12_stumbleLine wsX12_stumbleLine) := goodIn_app (goodIn_of _ (by decide +kernel)) ggX12_line_X12_stumbleLine
set_option maxRecDepth 20000 in
theorem ggX12_line_X12_asks : GoodIn wsX12_line wsX12_asks := goodIn_r _ [65, 66, 67, 68, 17, 69, 14, 15, 16, 18, 4, 11, 19, 31, 32, 33, 34, 35, 29, 12, 36, 37, 38, 39, 40, 41, 42, 43, 44, 45, 46, 25, 26, 27, 28, 30, 111, 112, 113, 114, 115, 116, 117, 118, 119, 120, 121, 122, 123, 124, 125, 126, 127, 128, 129, 130, 131, 132, 133, 134, 135, 136, 137, 138, 139, 140, 141, 142, 143, 144, 145, 146, 147, 148, 149, 150, 151, 152, 153, 154, 155] (by decide +kernel) (by decide +kernel)
set_option maxRecDepth 20000 in
theorem gX12_line_X12_asks : GoodIn wsX12_line (wsV RX12 151 RX12 yX12_asks wsX12_asks) := goodIn_app (goodIn_of _ (by decide +kernel)) ggX12_line_X12_asks
set_option maxRecDepth 20000 in
theorem ggX12_line_X12_everyLine : GoodIn wsX12_line wsX12_everyLine := goodIn_r _ [89, 51, 55, 56, 57, 17, 58, 4, 11, 12, 25, 26, 27, 28, 29, 30, 59, 60, 61, 31, 32, 33, 34, 35, 19, 36, 37, 38, 39, 40, 41, 42, 43, 44, 45, 46, 78, 79, 80, 81, 62, 63, 64, 65, 66, 67, 68, 69, 14, 15, 16, 18, 111, 112, 113, 114, 115, 116, 117, 118, 119, 120, 121, 122, 123, 124, 125, 126, 127, 128, 129, 130, 131, 132, 133, 134, 135, 136, 137, 138, 139, 140, 141, 142, 143, 144, 145, 146, 147, 148, 149, 150, 151, 152, 153, 154, 155] (by decide +kernel) (by decide +kernel)
set_option maxRecDepth 20000 in
theorem gX12_line_X12_everyLine : GoodIn wsX12_line (wsV RX12 208 RX12 yX12_everyLine wsX12_everyLine) := goodIn_app (goodIn_of _ (by decide +kernel)) ggX12_line_X12_everyLine
set_option maxRecDepth 20000 in
theorem ggX12_line_X12_reads : GoodIn wsX12_line wsX12_reads := goodIn_r _ [85, 24, 111, 112, 113, 114, 115, 116, 117, 118, 119, 120, 121, 122, 123, 124, 125, 126, 127, 128, 129, 130, 131, 132, 133, 134, 135, 136, 137, 138, 139, 140, 141, 142, 143, 144, 145, 146, 147, 148, 149, 150, 151, 152, 153, 154, 155] (by decide +kernel) (by decide +kernel)
set_option maxRecDepth 20000 in
theorem gX12_line_X12_reads : GoodIn wsX12_line (wsV RX12 177 RX12 yX12_reads wsX12_reads) := goodIn_app (goodIn_of _ (by decide +kernel)) ggX12_line_X12_reads
set_option maxRecDepth 20000 in
theorem ggX12_line_X12_takes : GoodIn wsX12_line wsX12_takes := goodIn_r _ [69, 14, 15, 16, 17, 18, 4, 11, 19, 31, 32, 33, 34, 35, 29, 12, 36, 37, 38, 39, 40, 41, 42, 43, 44, 45, 46, 111, 112, 113, 114, 115, 116, 117, 118, 119, 120, 121, 122, 123, 124, 125, 126, 127, 128, 129, 130, 131, 132, 133, 134, 135, 136, 137, 138, 139, 140, 141, 142, 143, 144, 145, 146, 147, 148, 149, 150, 151, 152, 153, 154, 155] (by decide +kernel) (by decide +kernel)
set_option maxRecDepth 20000 in
theorem gX12_line_X12_takes : GoodIn wsX12_line (wsV RX12 145 RX12 yX12_takes wsX12_takes) := goodIn_app (goodIn_of _ (by decide +kernel)) ggX12_line_X12_takes
set_option maxRecDepth 20000 in
theorem ggX12_line_X12_roundLine : GoodIn wsX12_line wsX12_roundLine := goodIn_r _ [93, 94, 11, 12, 95, 96, 4, 97, 55, 56, 57, 17, 58, 25, 26, 27, 28, 29, 30, 59, 60, 61, 31, 32, 33, 34, 35, 19, 36, 37, 38, 39, 40, 41, 42, 43, 44, 45, 46, 62, 63, 64, 65, 66, 67, 68, 69, 14, 15, 16, 18, 98, 99, 100, 101, 102, 103, 104, 105, 78, 79, 80, 81, 82, 83, 84, 85, 24, 111, 112, 113, 114, 115, 116, 117, 118, 119, 120, 121, 122, 123, 124, 125, 126, 127, 128, 129, 130, 131, 132, 133, 134, 135, 136, 137, 138, 139, 140, 141, 142, 143, 144, 145, 146, 147, 148, 149, 150, 151, 152, 153, 154, 155] (by decide +kernel) (by decide +kernel)
set_option maxRecDepth 20000 in
theorem gX12_line_X12_roundLine : GoodIn wsX12_line (wsV RX12 214 RX12 yX12_roundLine wsX12_roundLine) := goodIn_app (goodIn_of _ (by decide +kernel)) ggX12_line_X12_roundLine
set_option maxRecDepth 20000 in
theorem ggX12_line_X12_answersLine : GoodIn wsX12_line wsX12_answersLine := goodIn_r _ [109, 11, 110, 98, 99, 100, 17, 101, 55, 56, 57, 58, 4, 12, 25, 26, 27, 28, 29, 30, 59, 60, 61, 31, 32, 33, 34, 35, 19, 36, 37, 38, 39, 40, 41, 42, 43, 44, 45, 46, 102, 103, 104, 105, 111, 112, 113, 114, 115, 116, 117, 118, 119, 120, 121, 122, 123, 124, 125, 126, 127, 128, 129, 130, 131, 132, 133, 134, 135, 136, 137, 138, 139, 140, 141, 142, 143, 144, 145, 146, 147, 148, 149, 150, 151, 152, 153, 154, 155] (by decide +kernel) (by decide +kernel)
set_option maxRecDepth 20000 in
theorem gX12_line_X12_answersLine : GoodIn wsX12_line (wsV RX12 219 RX12 yX12_answersLine wsX12_answersLine) := goodIn_app (goodIn_of _ (by decide +kernel)) ggX12_line_X12_answersLine
set_option maxRecDepth 20000 in
theorem ggX12_line_X12_beatHere : GoodIn wsX12_line wsX12_beatHere := goodIn_r _ [77, 55, 56, 57, 17, 58, 4, 11, 12, 25, 26, 27, 28, 29, 30, 59, 60, 61, 31, 32, 33, 34, 35, 19, 36, 37, 38, 39, 40, 41, 42, 43, 44, 45, 46, 111, 112, 113, 114, 115, 116, 117, 118, 119, 120, 121, 122, 123, 124, 125, 126, 127, 128, 129, 130, 131, 132, 133, 134, 135, 136, 137, 138, 139, 140, 141, 142, 143, 144, 145, 146, 147, 148, 149, 150, 151, 152, 153, 154, 155] (by decide +kernel) (by decide +kernel)
set_option maxRecDepth 20000 in
theorem gX12_line_X12_beatHere : GoodIn wsX12_line (wsV RX12 190 RX12 yX12_beatHere wsX12_beatHere) := goodIn_app (goodIn_of _ (by decide +kernel)) ggX12_line_X12_beatHere
set_option maxRecDepth 20000 in
theorem ggX12_line_X12_isGood : GoodIn wsX12_line wsX12_isGood := goodIn_r _ [105, 4, 111, 112, 113, 114, 115, 116, 117, 118, 119, 120, 121, 122, 123, 124, 125, 126, 127, 128, 129, 130, 131, 132, 133, 134, 135, 136, 137, 138, 139, 140, 141, 142, 143, 144, 145, 146, 147, 148, 149, 150, 151, 152, 153, 154, 155] (by decide +kernel) (by decide +kernel)
set_option maxRecDepth 20000 in
theorem gX12_line_X12_isGood : GoodIn wsX12_line (wsV RX12 168 RX12 yX12_isGood wsX12_isGood) := goodIn_app (goodIn_of _ (by decide +kernel)) ggX12_line_X12_isGood
theorem dX12_line_0 : decode cX12_line 0 = .ok (.aload_n 0, 1) := by decide +kernel
theorem dX12_line_1 : decode cX12_line 1 = .ok (.ldc2_w 197, 3) := by decide +kernel
theorem dX12_line_4 : decode cX12_line 4 = .ok (.invokevirtual 138, 3) := by decide +kernel
theorem dX12_line_7 : decode cX12_line 7 = .ok (.istore_n 1, 1) := by decide +kernel
theorem dX12_line_8 : decode cX12_line 8 = .ok (.aload_n 0, 1) := by decide +kernel
theorem dX12_line_9 : decode cX12_line 9 = .ok (.ldc2_w 199, 3) := by decide +kernel
theorem dX12_line_12 : decode cX12_line 12 = .ok (.invokevirtual 138, 3) := by decide +kernel
theorem dX12_line_15 : decode cX12_line 15 = .ok (.istore_n 2, 1) := by decide +kernel
theorem dX12_line_16 : decode cX12_line 16 = .ok (.aload_n 0, 1) := by decide +kernel
theorem dX12_line_17 : decode cX12_line 17 = .ok (.ldc2_w 201, 3) := by decide +kernel
theorem dX12_line_20 : decode cX12_line 20 = .ok (.invokevirtual 138, 3) := by decide +kernel
theorem dX12_line_23 : decode cX12_line 23 = .ok (.istore_n 3, 1) := by decide +kernel
theorem dX12_line_24 : decode cX12_line 24 = .ok (.iload_n 1, 1) := by decide +kernel
theorem dX12_line_25 : decode cX12_line 25 = .ok (.ifCond .eq 14, 3) := by decide +kernel
theorem dX12_line_28 : decode cX12_line 28 = .ok (.aload_n 0, 1) := by decide +kernel
theorem dX12_line_29 : decode cX12_line 29 = .ok (.bipush 7, 2) := by decide +kernel
theorem dX12_line_31 : decode cX12_line 31 = .ok (.invokevirtual 181, 3) := by decide +kernel
theorem dX12_line_34 : decode cX12_line 34 = .ok (.bipush 8, 2) := by decide +kernel
theorem dX12_line_36 : decode cX12_line 36 = .ok (.if_icmp .eq 32, 3) := by decide +kernel
theorem dX12_line_39 : decode cX12_line 39 = .ok (.iload_n 2, 1) := by decide +kernel
theorem dX12_line_40 : decode cX12_line 40 = .ok (.ifCond .eq 14, 3) := by decide +kernel
theorem dX12_line_43 : decode cX12_line 43 = .ok (.aload_n 0, 1) := by decide +kernel
theorem dX12_line_44 : decode cX12_line 44 = .ok (.bipush 8, 2) := by decide +kernel
theorem dX12_line_46 : decode cX12_line 46 = .ok (.invokevirtual 181, 3) := by decide +kernel
theorem dX12_line_49 : decode cX12_line 49 = .ok (.bipush 12, 2) := by decide +kernel
theorem dX12_line_51 : decode cX12_line 51 = .ok (.if_icmp .eq 17, 3) := by decide +kernel
theorem dX12_line_54 : decode cX12_line 54 = .ok (.iload_n 3, 1) := by decide +kernel
theorem dX12_line_55 : decode cX12_line 55 = .ok (.ifCond .eq 18, 3) := by decide +kernel
theorem dX12_line_58 : decode cX12_line 58 = .ok (.aload_n 0, 1) := by decide +kernel
theorem dX12_line_59 : decode cX12_line 59 = .ok (.bipush 9, 2) := by decide +kernel
theorem dX12_line_61 : decode cX12_line 61 = .ok (.invokevirtual 181, 3) := by decide +kernel
theorem dX12_line_64 : decode cX12_line 64 = .ok (.iconst 5, 1) := by decide +kernel
theorem dX12_line_65 : decode cX12_line 65 = .ok (.if_icmp .ne 8, 3) := by decide +kernel
theorem dX12_line_68 : decode cX12_line 68 = .ok (.aload_n 0, 1) := by decide +kernel
theorem dX12_line_69 : decode cX12_line 69 = .ok (.iconst 3, 1) := by decide +kernel
theorem dX12_line_70 : decode cX12_line 70 = .ok (.invokevirtual 148, 3) := by decide +kernel
theorem dX12_line_73 : decode cX12_line 73 = .ok (.aload_n 0, 1) := by decide +kernel
theorem dX12_line_74 : decode cX12_line 74 = .ok (.getfield 132, 3) := by decide +kernel
theorem dX12_line_77 : decode cX12_line 77 = .ok (.ifCond .eq 4, 3) := by decide +kernel
theorem dX12_line_80 : decode cX12_line 80 = .ok (.return_, 1) := by decide +kernel
theorem dX12_line_81 : decode cX12_line 81 = .ok (.iload_n 1, 1) := by decide +kernel
theorem dX12_line_82 : decode cX12_line 82 = .ok (.ifCond .eq 14, 3) := by decide +kernel
theorem dX12_line_85 : decode cX12_line 85 = .ok (.aload_n 0, 1) := by decide +kernel
theorem dX12_line_86 : decode cX12_line 86 = .ok (.invokevirtual 142, 3) := by decide +kernel
theorem dX12_line_89 : decode cX12_line 89 = .ok (.aload_n 0, 1) := by decide +kernel
theorem dX12_line_90 : decode cX12_line 90 = .ok (.invokevirtual 203, 3) := by decide +kernel
theorem dX12_line_93 : decode cX12_line 93 = .ok (.goto 214, 3) := by decide +kernel
theorem dX12_line_96 : decode cX12_line 96 = .ok (.iload_n 2, 1) := by decide +kernel
theorem dX12_line_97 : decode cX12_line 97 = .ok (.ifCond .eq 52, 3) := by decide +kernel
theorem dX12_line_100 : decode cX12_line 100 = .ok (.aload_n 0, 1) := by decide +kernel
theorem dX12_line_101 : decode cX12_line 101 = .ok (.invokevirtual 142, 3) := by decide +kernel
theorem dX12_line_104 : decode cX12_line 104 = .ok (.aload_n 0, 1) := by decide +kernel
theorem dX12_line_105 : decode cX12_line 105 = .ok (.ldc2_w 206, 3) := by decide +kernel
theorem dX12_line_108 : decode cX12_line 108 = .ok (.invokevirtual 151, 3) := by decide +kernel
theorem dX12_line_111 : decode cX12_line 111 = .ok (.aload_n 0, 1) := by decide +kernel
theorem dX12_line_112 : decode cX12_line 112 = .ok (.aload_n 0, 1) := by decide +kernel
theorem dX12_line_113 : decode cX12_line 113 = .ok (.getfield 50, 3) := by decide +kernel
theorem dX12_line_116 : decode cX12_line 116 = .ok (.iconst 2, 1) := by decide +kernel
theorem dX12_line_117 : decode cX12_line 117 = .ok (.bipush 48, 2) := by decide +kernel
theorem dX12_line_119 : decode cX12_line 119 = .ok (.aload_n 0, 1) := by decide +kernel
theorem dX12_line_120 : decode cX12_line 120 = .ok (.bipush 8, 2) := by decide +kernel
theorem dX12_line_122 : decode cX12_line 122 = .ok (.invokevirtual 181, 3) := by decide +kernel
theorem dX12_line_125 : decode cX12_line 125 = .ok (.iadd, 1) := by decide +kernel
theorem dX12_line_126 : decode cX12_line 126 = .ok (.imul, 1) := by decide +kernel
theorem dX12_line_127 : decode cX12_line 127 = .ok (.bipush 9, 2) := by decide +kernel
theorem dX12_line_129 : decode cX12_line 129 = .ok (.invokevirtual 208, 3) := by decide +kernel
theorem dX12_line_132 : decode cX12_line 132 = .ok (.aload_n 0, 1) := by decide +kernel
theorem dX12_line_133 : decode cX12_line 133 = .ok (.bipush 8, 2) := by decide +kernel
theorem dX12_line_135 : decode cX12_line 135 = .ok (.aload_n 0, 1) := by decide +kernel
theorem dX12_line_136 : decode cX12_line 136 = .ok (.bipush 8, 2) := by decide +kernel
theorem dX12_line_138 : decode cX12_line 138 = .ok (.invokevirtual 181, 3) := by decide +kernel
theorem dX12_line_141 : decode cX12_line 141 = .ok (.iconst 1, 1) := by decide +kernel
theorem dX12_line_142 : decode cX12_line 142 = .ok (.iadd, 1) := by decide +kernel
theorem dX12_line_143 : decode cX12_line 143 = .ok (.invokevirtual 177, 3) := by decide +kernel
theorem dX12_line_146 : decode cX12_line 146 = .ok (.goto 161, 3) := by decide +kernel
theorem dX12_line_149 : decode cX12_line 149 = .ok (.iload_n 3, 1) := by decide +kernel
theorem dX12_line_150 : decode cX12_line 150 = .ok (.ifCond .eq 45, 3) := by decide +kernel
theorem dX12_line_153 : decode cX12_line 153 = .ok (.aload_n 0, 1) := by decide +kernel
theorem dX12_line_154 : decode cX12_line 154 = .ok (.invokevirtual 142, 3) := by decide +kernel
theorem dX12_line_157 : decode cX12_line 157 = .ok (.aload_n 0, 1) := by decide +kernel
theorem dX12_line_158 : decode cX12_line 158 = .ok (.aload_n 0, 1) := by decide +kernel
theorem dX12_line_159 : decode cX12_line 159 = .ok (.getfield 53, 3) := by decide +kernel
theorem dX12_line_162 : decode cX12_line 162 = .ok (.iconst 2, 1) := by decide +kernel
theorem dX12_line_163 : decode cX12_line 163 = .ok (.bipush 20, 2) := by decide +kernel
theorem dX12_line_165 : decode cX12_line 165 = .ok (.aload_n 0, 1) := by decide +kernel
theorem dX12_line_166 : decode cX12_line 166 = .ok (.bipush 9, 2) := by decide +kernel
theorem dX12_line_168 : decode cX12_line 168 = .ok (.invokevirtual 181, 3) := by decide +kernel
theorem dX12_line_171 : decode cX12_line 171 = .ok (.iadd, 1) := by decide +kernel
theorem dX12_line_172 : decode cX12_line 172 = .ok (.imul, 1) := by decide +kernel
theorem dX12_line_173 : decode cX12_line 173 = .ok (.bipush 30, 2) := by decide +kernel
theorem dX12_line_175 : decode cX12_line 175 = .ok (.invokevirtual 208, 3) := by decide +kernel
theorem dX12_line_178 : decode cX12_line 178 = .ok (.aload_n 0, 1) := by decide +kernel
theorem dX12_line_179 : decode cX12_line 179 = .ok (.bipush 9, 2) := by decide +kernel
theorem dX12_line_181 : decode cX12_line 181 = .ok (.aload_n 0, 1) := by decide +kernel
theorem dX12_line_182 : decode cX12_line 182 = .ok (.bipush 9, 2) := by decide +kernel
theorem dX12_line_184 : decode cX12_line 184 = .ok (.invokevirtual 181, 3) := by decide +kernel
theorem dX12_line_187 : decode cX12_line 187 = .ok (.iconst 1, 1) := by decide +kernel
theorem dX12_line_188 : decode cX12_line 188 = .ok (.iadd, 1) := by decide +kernel
theorem dX12_line_189 : decode cX12_line 189 = .ok (.invokevirtual 177, 3) := by decide +kernel
theorem dX12_line_192 : decode cX12_line 192 = .ok (.goto 115, 3) := by decide +kernel
theorem dX12_line_195 : decode cX12_line 195 = .ok (.aload_n 0, 1) := by decide +kernel
theorem dX12_line_196 : decode cX12_line 196 = .ok (.ldc2_w 212, 3) := by decide +kernel
theorem dX12_line_199 : decode cX12_line 199 = .ok (.invokevirtual 145, 3) := by decide +kernel
theorem dX12_line_202 : decode cX12_line 202 = .ok (.ifCond .eq 10, 3) := by decide +kernel
theorem dX12_line_205 : decode cX12_line 205 = .ok (.aload_n 0, 1) := by decide +kernel
theorem dX12_line_206 : decode cX12_line 206 = .ok (.invokevirtual 214, 3) := by decide +kernel
theorem dX12_line_209 : decode cX12_line 209 = .ok (.goto 98, 3) := by decide +kernel
theorem dX12_line_212 : decode cX12_line 212 = .ok (.aload_n 0, 1) := by decide +kernel
theorem dX12_line_213 : decode cX12_line 213 = .ok (.ldc2_w 217, 3) := by decide +kernel
theorem dX12_line_216 : decode cX12_line 216 = .ok (.invokevirtual 145, 3) := by decide +kernel
theorem dX12_line_219 : decode cX12_line 219 = .ok (.ifCond .eq 10, 3) := by decide +kernel
theorem dX12_line_222 : decode cX12_line 222 = .ok (.aload_n 0, 1) := by decide +kernel
theorem dX12_line_223 : decode cX12_line 223 = .ok (.invokevirtual 219, 3) := by decide +kernel
theorem dX12_line_226 : decode cX12_line 226 = .ok (.goto 81, 3) := by decide +kernel
theorem dX12_line_229 : decode cX12_line 229 = .ok (.aload_n 0, 1) := by decide +kernel
theorem dX12_line_230 : decode cX12_line 230 = .ok (.ldc2_w 222, 3) := by decide +kernel
theorem dX12_line_233 : decode cX12_line 233 = .ok (.invokevirtual 151, 3) := by decide +kernel
theorem dX12_line_236 : decode cX12_line 236 = .ok (.aload_n 0, 1) := by decide +kernel
theorem dX12_line_237 : decode cX12_line 237 = .ok (.getfield 132, 3) := by decide +kernel
theorem dX12_line_240 : decode cX12_line 240 = .ok (.ifCond .ne 42, 3) := by decide +kernel
theorem dX12_line_243 : decode cX12_line 243 = .ok (.aload_n 0, 1) := by decide +kernel
theorem dX12_line_244 : decode cX12_line 244 = .ok (.getfield 121, 3) := by decide +kernel
theorem dX12_line_247 : decode cX12_line 247 = .ok (.iconst 2, 1) := by decide +kernel
theorem dX12_line_248 : decode cX12_line 248 = .ok (.if_icmp .ne 34, 3) := by decide +kernel
theorem dX12_line_251 : decode cX12_line 251 = .ok (.aload_n 0, 1) := by decide +kernel
theorem dX12_line_252 : decode cX12_line 252 = .ok (.getfield 114, 3) := by decide +kernel
theorem dX12_line_255 : decode cX12_line 255 = .ok (.sipush 200, 3) := by decide +kernel
theorem dX12_line_258 : decode cX12_line 258 = .ok (.if_icmp .ge 24, 3) := by decide +kernel
theorem dX12_line_261 : decode cX12_line 261 = .ok (.aload_n 0, 1) := by decide +kernel
theorem dX12_line_262 : decode cX12_line 262 = .ok (.getfield 46, 3) := by decide +kernel
theorem dX12_line_265 : decode cX12_line 265 = .ok (.sipush 800, 3) := by decide +kernel
theorem dX12_line_268 : decode cX12_line 268 = .ok (.aload_n 0, 1) := by decide +kernel
theorem dX12_line_269 : decode cX12_line 269 = .ok (.getfield 114, 3) := by decide +kernel
theorem dX12_line_272 : decode cX12_line 272 = .ok (.iadd, 1) := by decide +kernel
theorem dX12_line_273 : decode cX12_line 273 = .ok (.baload, 1) := by decide +kernel
theorem dX12_line_274 : decode cX12_line 274 = .ok (.ifCond .eq 8, 3) := by decide +kernel
theorem dX12_line_277 : decode cX12_line 277 = .ok (.aload_n 0, 1) := by decide +kernel
theorem dX12_line_278 : decode cX12_line 278 = .ok (.iconst 2, 1) := by decide +kernel
theorem dX12_line_279 : decode cX12_line 279 = .ok (.invokevirtual 148, 3) := by decide +kernel
theorem dX12_line_282 : decode cX12_line 282 = .ok (.aload_n 0, 1) := by decide +kernel
theorem dX12_line_283 : decode cX12_line 283 = .ok (.invokevirtual 190, 3) := by decide +kernel
theorem dX12_line_286 : decode cX12_line 286 = .ok (.istore 4, 2) := by decide +kernel
theorem dX12_line_288 : decode cX12_line 288 = .ok (.aload_n 0, 1) := by decide +kernel
theorem dX12_line_289 : decode cX12_line 289 = .ok (.invokevirtual 168, 3) := by decide +kernel
theorem dX12_line_292 : decode cX12_line 292 = .ok (.ifCond .eq 15, 3) := by decide +kernel
theorem dX12_line_295 : decode cX12_line 295 = .ok (.aload_n 0, 1) := by decide +kernel
theorem dX12_line_296 : decode cX12_line 296 = .ok (.getfield 46, 3) := by decide +kernel
theorem dX12_line_299 : decode cX12_line 299 = .ok (.sipush 800, 3) := by decide +kernel
theorem dX12_line_302 : decode cX12_line 302 = .ok (.iload 4, 2) := by decide +kernel
theorem dX12_line_304 : decode cX12_line 304 = .ok (.iadd, 1) := by decide +kernel
theorem dX12_line_305 : decode cX12_line 305 = .ok (.iconst 1, 1) := by decide +kernel
theorem dX12_line_306 : decode cX12_line 306 = .ok (.bastore, 1) := by decide +kernel
theorem dX12_line_307 : decode cX12_line 307 = .ok (.return_, 1) := by decide +kernel
