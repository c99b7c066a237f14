abbrev cX12_hasRead : ByteArray := prog_14_method_25_code
def yX12_hasRead : MethodName := ⟨RX12, "hasRead", "(I)I"⟩
abbrev cX12_reads : ByteArray := prog_14_method_26_code
def yX12_reads : MethodName := ⟨RX12, "reads", "(II)V"⟩
abbrev cX12_answersLine : ByteArray := prog_14_method_30_code
def yX12_answersLine : MethodName := ⟨RX12, "answersLine", "()V"⟩
abbrev cX12_isStumbled : ByteArray := prog_14_method_31_code
def yX12_isStumbled : MethodName := ⟨RX12, "isStumbled", "(III)Z"⟩
abbrev cX12_stumbleLine : ByteArray := prog_14_method_32_code
def yX12_stumbleLine : MethodName := ⟨RX12, "stumbleLine", "()V"⟩
abbrev cX12_everyLine : ByteArray := prog_14_method_33_code
def yX12_everyLine : MethodName := ⟨RX12, "everyLine", "([III)V"⟩
def wsX12_hasRead : List Cond := .code yX12_hasRead cX12_hasRead 2 (some .int) :: ([.fieldLink RX12 34 "OverHillModel" "has" "[I"] ++ wsX120)
def wsX12_reads : List Cond := .code yX12_reads cX12_reads 3 none :: ([.fieldLink RX12 34 "OverHillModel" "has" "[I"] ++ wsX120)
def wsX12_answersLine_r1 : List Cond := [Cond.fieldLink RX12 121 "OverHillModel" "token" "I", Cond.fieldLink RX12 40 "OverHillModel" "meets" "[I", Cond.methodLink RX12 164 yX12_stepHere, Cond.instanceMethod yX12_stepHere, Cond.selects RX12 yX12_stepHere yX12_stepHere, Cond.initialized RX12, Cond.code yX12_stepHere cX12_stepHere 1 (some .int), Cond.methodLink RX12 155 yX12_number, Cond.instanceMethod yX12_number, Cond.selects RX12 yX12_number yX12_number, Cond.code yX12_number cX12_number 4 (some .int), Cond.fieldLink RX12 132 "OverHillModel" "bad" "I", Cond.fieldLink RX12 114 "OverHillModel" "value" "I", Cond.methodLink RX12 148 yX12_fails, Cond.instanceMethod yX12_fails, Cond.selects RX12 yX12_fails yX12_fails, Cond.code yX12_fails cX12_fails 2 none, Cond.fieldLink RX12 111 "OverHillModel" "place" "I", Cond.fieldLink RX12 135 "OverHillModel" "badPlace" "I", Cond.methodLink RX12 85 yX12_in, Cond.static yX12_in, Cond.code yX12_in cX12_in 6 (some .boolean), Cond.methodLink RX12 142 yX12_next, Cond.instanceMethod yX12_next]
def wsX12_answersLine_r2 : List Cond := [Cond.selects RX12 yX12_next yX12_next, Cond.code yX12_next cX12_next 2 none, Cond.fieldLink RX12 104 "OverHillModel" "at" "I", Cond.fieldLink RX12 117 "OverHillModel" "word" "J", Cond.fieldLink RX12 97 "OverHillModel" "taped" "I", Cond.constantLong RX12 124 (-1), Cond.constantLong RX12 126 (27), Cond.fieldLink RX12 23 "OverHillModel" "tape" "[B", Cond.constantLong RX12 128 (96), Cond.constant RX12 130 (100000), Cond.constant RX12 131 (1000000), Cond.methodLink RX12 107 yX12_isByte, Cond.instanceMethod yX12_isByte, Cond.selects RX12 yX12_isByte yX12_isByte, Cond.code yX12_isByte cX12_isByte 4 (some .boolean), Cond.methodLink RX12 168 yX12_isGood, Cond.instanceMethod yX12_isGood, Cond.selects RX12 yX12_isGood yX12_isGood, Cond.code yX12_isGood cX12_isGood 1 (some .boolean)]
def wsX12_answersLine : List Cond := .code yX12_answersLine cX12_answersLine 3 none :: ((wsX12_answersLine_r1 ++ wsX12_answersLine_r2) ++ wsX120)
def wsX12_isStumbled : List Cond := .code yX12_isStumbled cX12_isStumbled 5 (some .boolean) :: ([.fieldLink RX12 34 "OverHillModel" "has" "[I", .fieldLink RX12 43 "OverHillModel" "stumble" "[I"] ++ wsX120)
def wsX12_stumbleLine_r1 : List Cond := [Cond.constantLong RX12 185 (47), Cond.fieldLink RX12 132 "OverHillModel" "bad" "I", Cond.fieldLink RX12 121 "OverHillModel" "token" "I", Cond.fieldLink RX12 114 "OverHillModel" "value" "I", Cond.fieldLink RX12 43 "OverHillModel" "stumble" "[I", Cond.constantLong RX12 193 (89821), Cond.constantLong RX12 195 (8782), Cond.methodLink RX12 181 yX12_hasRead, Cond.instanceMethod yX12_hasRead, Cond.selects RX12 yX12_hasRead yX12_hasRead, Cond.initialized RX12, Cond.code yX12_hasRead cX12_hasRead 2 (some .int), Cond.fieldLink RX12 34 "OverHillModel" "has" "[I", Cond.methodLink RX12 155 yX12_number, Cond.instanceMethod yX12_number, Cond.selects RX12 yX12_number yX12_number, Cond.code yX12_number cX12_number 4 (some .int), Cond.methodLink RX12 148 yX12_fails, Cond.instanceMethod yX12_fails, Cond.selects RX12 yX12_fails yX12_fails, Cond.code yX12_fails cX12_fails 2 none, Cond.fieldLink RX12 111 "OverHillModel" "place" "I", Cond.fieldLink RX12 135 "OverHillModel" "badPlace" "I", Cond.methodLink RX12 85 yX12_in]
def wsX12_stumbleLine_r2 : List Cond := [Cond.static yX12_in, Cond.code yX12_in cX12_in 6 (some .boolean), Cond.methodLink RX12 142 yX12_next, Cond.instanceMethod yX12_next, Cond.selects RX12 yX12_next yX12_next, Cond.code yX12_next cX12_next 2 none, Cond.fieldLink RX12 104 "OverHillModel" "at" "I", Cond.fieldLink RX12 117 "OverHillModel" "word" "J", Cond.fieldLink RX12 97 "OverHillModel" "taped" "I", Cond.constantLong RX12 124 (-1), Cond.constantLong RX12 126 (27), Cond.fieldLink RX12 23 "OverHillModel" "tape" "[B", Cond.constantLong RX12 128 (96), Cond.constant RX12 130 (100000), Cond.constant RX12 131 (1000000), Cond.methodLink RX12 107 yX12_isByte, Cond.instanceMethod yX12_isByte, Cond.selects RX12 yX12_isByte yX12_isByte, Cond.code yX12_isByte cX12_isByte 4 (some .boolean), Cond.methodLink RX12 151 yX12_asks, Cond.instanceMethod yX12_asks, Cond.selects RX12 yX12_asks yX12_asks, Cond.code yX12_asks cX12_asks 3 none, Cond.methodLink RX12 145 yX12_takes]
def wsX12_stumbleLine_r3 : List Cond := [Cond.instanceMethod yX12_takes, Cond.selects RX12 yX12_takes yX12_takes, Cond.code yX12_takes cX12_takes 3 (some .boolean), Cond.methodLink RX12 138 yX12_is, Cond.instanceMethod yX12_is, Cond.selects RX12 yX12_is yX12_is, Cond.code yX12_is cX12_is 3 (some .boolean), Cond.methodLink RX12 187 yX12_isStumbled, Cond.instanceMethod yX12_isStumbled, Cond.selects RX12 yX12_isStumbled yX12_isStumbled, Cond.code yX12_isStumbled cX12_isStumbled 5 (some .boolean), Cond.methodLink RX12 190 yX12_beatHere, Cond.instanceMethod yX12_beatHere, Cond.selects RX12 yX12_beatHere yX12_beatHere, Cond.code yX12_beatHere cX12_beatHere 1 (some .int), Cond.methodLink RX12 174 yX12_number_, Cond.instanceMethod yX12_number_, Cond.selects RX12 yX12_number_ yX12_number_, Cond.code yX12_number_ cX12_number_ 5 (some .int), Cond.methodLink RX12 177 yX12_reads, Cond.instanceMethod yX12_reads, Cond.selects RX12 yX12_reads yX12_reads, Cond.code yX12_reads cX12_reads 3 none]
def wsX12_stumbleLine : List Cond := .code yX12_stumbleLine cX12_stumbleLine 3 none :: ((wsX12_stumbleLine_r1 ++ (wsX12_stumbleLine_r2 ++ wsX12_stumbleLine_r3)) ++ wsX120)
def wsX12_everyLine_r1 : List Cond := [Cond.constantLong RX12 185 (47), Cond.methodLink RX12 155 yX12_number, Cond.instanceMethod yX12_number, Cond.selects RX12 yX12_number yX12_number, Cond.initialized RX12, Cond.code yX12_number cX12_number 4 (some .int), Cond.fieldLink RX12 132 "OverHillModel" "bad" "I", Cond.fieldLink RX12 121 "OverHillModel" "token" "I", Cond.fieldLink RX12 114 "OverHillModel" "value" "I", Cond.methodLink RX12 148 yX12_fails, Cond.instanceMethod yX12_fails, Cond.selects RX12 yX12_fails yX12_fails, Cond.code yX12_fails cX12_fails 2 none, Cond.fieldLink RX12 111 "OverHillModel" "place" "I", Cond.fieldLink RX12 135 "OverHillModel" "badPlace" "I", Cond.methodLink RX12 85 yX12_in, Cond.static yX12_in, Cond.code yX12_in cX12_in 6 (some .boolean), Cond.methodLink RX12 142 yX12_next, Cond.instanceMethod yX12_next, Cond.selects RX12 yX12_next yX12_next, Cond.code yX12_next cX12_next 2 none, Cond.fieldLink RX12 104 "OverHillModel" "at" "I", Cond.fieldLink RX12 117 "OverHillModel" "word" "J"]
def wsX12_everyLine_r2 : List Cond := [Cond.fieldLink RX12 97 "OverHillModel" "taped" "I", Cond.constantLong RX12 124 (-1), Cond.constantLong RX12 126 (27), Cond.fieldLink RX12 23 "OverHillModel" "tape" "[B", Cond.constantLong RX12 128 (96), Cond.constant RX12 130 (100000), Cond.constant RX12 131 (1000000), Cond.methodLink RX12 107 yX12_isByte, Cond.instanceMethod yX12_isByte, Cond.selects RX12 yX12_isByte yX12_isByte, Cond.code yX12_isByte cX12_isByte 4 (some .boolean), Cond.methodLink RX12 174 yX12_number_, Cond.instanceMethod yX12_number_, Cond.selects RX12 yX12_number_ yX12_number_, Cond.code yX12_number_ cX12_number_ 5 (some .int), Cond.methodLink RX12 151 yX12_asks, Cond.instanceMethod yX12_asks, Cond.selects RX12 yX12_asks yX12_asks, Cond.code yX12_asks cX12_asks 3 none, Cond.methodLink RX12 145 yX12_takes, Cond.instanceMethod yX12_takes, Cond.selects RX12 yX12_takes yX12_takes, Cond.code yX12_takes cX12_takes 3 (some .boolean), Cond.methodLink RX12 138 yX12_is]
def wsX12_everyLine_r3 : List Cond := [Cond.instanceMethod yX12_is, Cond.selects RX12 yX12_is yX12_is, Cond.code yX12_is cX12_is 3 (some .boolean)]
def wsX12_everyLine : List Cond := .code yX12_everyLine cX12_everyLine 4 none :: ((wsX12_everyLine_r1 ++ (wsX12_everyLine_r2 ++ wsX12_everyLine_r3)) ++ wsX120)
theorem dX12_hasRead_0 : decode cX12_hasRead 0 = .ok (.aload_n 0, 1) := by decide +kernel
theorem dX12_hasRead_1 : decode cX12_hasRead 1 = .ok (.getfield 34, 3) := by decide +kernel
theorem dX12_hasRead_4 : decode cX12_hasRead 4 = .ok (.bipush 44, 2) := by decide +kernel
theorem dX12_hasRead_6 : decode cX12_hasRead 6 = .ok (.iload_n 1, 1) := by decide +kernel
theorem dX12_hasRead_7 : decode cX12_hasRead 7 = .ok (.iadd, 1) := by decide +kernel
theorem dX12_hasRead_8 : decode cX12_hasRead 8 = .ok (.iaload, 1) := by decide +kernel
theorem dX12_hasRead_9 : decode cX12_hasRead 9 = .ok (.ireturn, 1) := by decide +kernel
theorem dX12_reads_0 : decode cX12_reads 0 = .ok (.aload_n 0, 1) := by decide +kernel
theorem dX12_reads_1 : decode cX12_reads 1 = .ok (.getfield 34, 3) := by decide +kernel
theorem dX12_reads_4 : decode cX12_reads 4 = .ok (.bipush 44, 2) := by decide +kernel
theorem dX12_reads_6 : decode cX12_reads 6 = .ok (.iload_n 1, 1) := by decide +kernel
theorem dX12_reads_7 : decode cX12_reads 7 = .ok (.iadd, 1) := by decide +kernel
theorem dX12_reads_8 : decode cX12_reads 8 = .ok (.iload_n 2, 1) := by decide +kernel
theorem dX12_reads_9 : decode cX12_reads 9 = .ok (.iastore, 1) := by decide +kernel
theorem dX12_reads_10 : decode cX12_reads 10 = .ok (.return_, 1) := by decide +kernel
set_option maxRecDepth 20000 in
theorem ggX12_answersLine_X12_stepHere : GoodIn wsX12_answersLine wsX12_stepHere := goodIn_r _ [7, 8, 9, 10, 6, 11, 12, 1, 13, 14, 15, 16, 17, 18, 19, 20, 21, 22, 23, 24, 25, 26, 27, 28, 29, 30, 31, 32, 33, 34, 35, 36, 37, 38, 39, 44, 45, 46, 47, 48, 49, 50, 51, 52, 53, 54, 55, 56, 57, 58, 59, 60, 61, 62, 63, 64, 65, 66, 67, 68, 69, 70, 71, 72, 73, 74, 75, 76, 77, 78, 79, 80, 81, 82, 83, 84, 85, 86, 87, 88] (by decide +kernel) (by decide +kernel)
set_option maxRecDepth 20000 in
theorem gX12_answersLine_X12_stepHere : GoodIn wsX12_answersLine (wsV RX12 164 RX12 yX12_stepHere wsX12_stepHere) := goodIn_app (goodIn_of _ (by decide +kernel)) ggX12_answersLine_X12_stepHere
set_option maxRecDepth 20000 in
theorem ggX12_answersLine_X12_isGood : GoodIn wsX12_answersLine wsX12_isGood := goodIn_r _ [43, 12, 44, 45, 46, 47, 48, 49, 50, 51, 52, 53, 54, 55, 56, 57, 58, 59, 60, 61, 62, 63, 64, 65, 66, 67, 68, 69, 70, 71, 72, 73, 74, 75, 76, 77, 78, 79, 80, 81, 82, 83, 84, 85, 86, 87, 88] (by decide +kernel) (by decide +kernel)
set_option maxRecDepth 20000 in
theorem gX12_answersLine_X12_isGood : GoodIn wsX12_answersLine (wsV RX12 168 RX12 yX12_isGood wsX12_isGood) := goodIn_app (goodIn_of _ (by decide +kernel)) ggX12_answersLine_X12_isGood
theorem dX12_answersLine_0 : decode cX12_answersLine 0 = .ok (.aload_n 0, 1) := by decide +kernel
theorem dX12_answersLine_1 : decode cX12_answersLine 1 = .ok (.invokevirtual 164, 3) := by decide +kernel
theorem dX12_answersLine_4 : decode cX12_answersLine 4 = .ok (.istore_n 1, 1) := by decide +kernel
theorem dX12_answersLine_5 : decode cX12_answersLine 5 = .ok (.iconst 0, 1) := by decide +kernel
theorem dX12_answersLine_6 : decode cX12_answersLine 6 = .ok (.istore_n 2, 1) := by decide +kernel
theorem dX12_answersLine_7 : decode cX12_answersLine 7 = .ok (.aload_n 0, 1) := by decide +kernel
theorem dX12_answersLine_8 : decode cX12_answersLine 8 = .ok (.invokevirtual 168, 3) := by decide +kernel
theorem dX12_answersLine_11 : decode cX12_answersLine 11 = .ok (.ifCond .eq 23, 3) := by decide +kernel
theorem dX12_answersLine_14 : decode cX12_answersLine 14 = .ok (.aload_n 0, 1) := by decide +kernel
theorem dX12_answersLine_15 : decode cX12_answersLine 15 = .ok (.getfield 121, 3) := by decide +kernel
theorem dX12_answersLine_18 : decode cX12_answersLine 18 = .ok (.iconst 2, 1) := by decide +kernel
theorem dX12_answersLine_19 : decode cX12_answersLine 19 = .ok (.if_icmp .ne 15, 3) := by decide +kernel
theorem dX12_answersLine_22 : decode cX12_answersLine 22 = .ok (.iload_n 2, 1) := by decide +kernel
theorem dX12_answersLine_23 : decode cX12_answersLine 23 = .ok (.iconst 1, 1) := by decide +kernel
theorem dX12_answersLine_24 : decode cX12_answersLine 24 = .ok (.aload_n 0, 1) := by decide +kernel
theorem dX12_answersLine_25 : decode cX12_answersLine 25 = .ok (.invokevirtual 164, 3) := by decide +kernel
theorem dX12_answersLine_28 : decode cX12_answersLine 28 = .ok (.ishl, 1) := by decide +kernel
theorem dX12_answersLine_29 : decode cX12_answersLine 29 = .ok (.ior, 1) := by decide +kernel
theorem dX12_answersLine_30 : decode cX12_answersLine 30 = .ok (.istore_n 2, 1) := by decide +kernel
theorem dX12_answersLine_31 : decode cX12_answersLine 31 = .ok (.goto (-24), 3) := by decide +kernel
theorem dX12_answersLine_34 : decode cX12_answersLine 34 = .ok (.aload_n 0, 1) := by decide +kernel
theorem dX12_answersLine_35 : decode cX12_answersLine 35 = .ok (.invokevirtual 168, 3) := by decide +kernel
theorem dX12_answersLine_38 : decode cX12_answersLine 38 = .ok (.ifCond .eq 13, 3) := by decide +kernel
theorem dX12_answersLine_41 : decode cX12_answersLine 41 = .ok (.aload_n 0, 1) := by decide +kernel
theorem dX12_answersLine_42 : decode cX12_answersLine 42 = .ok (.getfield 40, 3) := by decide +kernel
theorem dX12_answersLine_45 : decode cX12_answersLine 45 = .ok (.bipush 24, 2) := by decide +kernel
theorem dX12_answersLine_47 : decode cX12_answersLine 47 = .ok (.iload_n 1, 1) := by decide +kernel
theorem dX12_answersLine_48 : decode cX12_answersLine 48 = .ok (.iadd, 1) := by decide +kernel
theorem dX12_answersLine_49 : decode cX12_answersLine 49 = .ok (.iload_n 2, 1) := by decide +kernel
theorem dX12_answersLine_50 : decode cX12_answersLine 50 = .ok (.iastore, 1) := by decide +kernel
theorem dX12_answersLine_51 : decode cX12_answersLine 51 = .ok (.return_, 1) := by decide +kernel
theorem dX12_isStumbled_0 : decode cX12_isStumbled 0 = .ok (.iconst 0, 1) := by decide +kernel
theorem dX12_isStumbled_1 : decode cX12_isStumbled 1 = .ok (.istore 4, 2) := by decide +kernel
theorem dX12_isStumbled_3 : decode cX12_isStumbled 3 = .ok (.iload 4, 2) := by decide +kernel
theorem dX12_isStumbled_5 : decode cX12_isStumbled 5 = .ok (.aload_n 0, 1) := by decide +kernel
theorem dX12_isStumbled_6 : decode cX12_isStumbled 6 = .ok (.getfield 34, 3) := by decide +kernel
theorem dX12_isStumbled_9 : decode cX12_isStumbled 9 = .ok (.bipush 11, 2) := by decide +kernel
theorem dX12_isStumbled_11 : decode cX12_isStumbled 11 = .ok (.iload_n 1, 1) := by decide +kernel
theorem dX12_isStumbled_12 : decode cX12_isStumbled 12 = .ok (.imul, 1) := by decide +kernel
theorem dX12_isStumbled_13 : decode cX12_isStumbled 13 = .ok (.bipush 7, 2) := by decide +kernel
theorem dX12_isStumbled_15 : decode cX12_isStumbled 15 = .ok (.iadd, 1) := by decide +kernel
theorem dX12_isStumbled_16 : decode cX12_isStumbled 16 = .ok (.iaload, 1) := by decide +kernel
theorem dX12_isStumbled_17 : decode cX12_isStumbled 17 = .ok (.if_icmp .ge 49, 3) := by decide +kernel
theorem dX12_isStumbled_20 : decode cX12_isStumbled 20 = .ok (.aload_n 0, 1) := by decide +kernel
theorem dX12_isStumbled_21 : decode cX12_isStumbled 21 = .ok (.getfield 43, 3) := by decide +kernel
theorem dX12_isStumbled_24 : decode cX12_isStumbled 24 = .ok (.iconst 4, 1) := by decide +kernel
theorem dX12_isStumbled_25 : decode cX12_isStumbled 25 = .ok (.bipush 8, 2) := by decide +kernel
theorem dX12_isStumbled_27 : decode cX12_isStumbled 27 = .ok (.iload_n 1, 1) := by decide +kernel
theorem dX12_isStumbled_28 : decode cX12_isStumbled 28 = .ok (.imul, 1) := by decide +kernel
theorem dX12_isStumbled_29 : decode cX12_isStumbled 29 = .ok (.iload 4, 2) := by decide +kernel
theorem dX12_isStumbled_31 : decode cX12_isStumbled 31 = .ok (.iadd, 1) := by decide +kernel
theorem dX12_isStumbled_32 : decode cX12_isStumbled 32 = .ok (.imul, 1) := by decide +kernel
theorem dX12_isStumbled_33 : decode cX12_isStumbled 33 = .ok (.iaload, 1) := by decide +kernel
theorem dX12_isStumbled_34 : decode cX12_isStumbled 34 = .ok (.iload_n 2, 1) := by decide +kernel
theorem dX12_isStumbled_35 : decode cX12_isStumbled 35 = .ok (.if_icmp .ne 25, 3) := by decide +kernel
theorem dX12_isStumbled_38 : decode cX12_isStumbled 38 = .ok (.aload_n 0, 1) := by decide +kernel
theorem dX12_isStumbled_39 : decode cX12_isStumbled 39 = .ok (.getfield 43, 3) := by decide +kernel
theorem dX12_isStumbled_42 : decode cX12_isStumbled 42 = .ok (.iconst 4, 1) := by decide +kernel
theorem dX12_isStumbled_43 : decode cX12_isStumbled 43 = .ok (.bipush 8, 2) := by decide +kernel
theorem dX12_isStumbled_45 : decode cX12_isStumbled 45 = .ok (.iload_n 1, 1) := by decide +kernel
theorem dX12_isStumbled_46 : decode cX12_isStumbled 46 = .ok (.imul, 1) := by decide +kernel
theorem dX12_isStumbled_47 : decode cX12_isStumbled 47 = .ok (.iload 4, 2) := by decide +kernel
theorem dX12_isStumbled_49 : decode cX12_isStumbled 49 = .ok (.iadd, 1) := by decide +kernel
theorem dX12_isStumbled_50 : decode cX12_isStumbled 50 = .ok (.imul, 1) := by decide +kernel
theorem dX12_isStumbled_51 : decode cX12_isStumbled 51 = .ok (.iconst 1, 1) := by decide +kernel
theorem dX12_isStumbled_52 : decode cX12_isStumbled 52 = .ok (.iadd, 1) := by decide +kernel
theorem dX12_isStumbled_53 : decode cX12_isStumbled 53 = .ok (.iaload, 1) := by decide +kernel
theorem dX12_isStumbled_54 : decode cX12_isStumbled 54 = .ok (.iload_n 3, 1) := by decide +kernel
theorem dX12_isStumbled_55 : decode cX12_isStumbled 55 = .ok (.if_icmp .ne 5, 3) := by decide +kernel
theorem dX12_isStumbled_58 : decode cX12_isStumbled 58 = .ok (.iconst 1, 1) := by decide +kernel
theorem dX12_isStumbled_59 : decode cX12_isStumbled 59 = .ok (.ireturn, 1) := by decide +kernel
theorem dX12_isStumbled_60 : decode cX12_isStumbled 60 = .ok (.iinc 4 1, 3) := by decide +kernel
theorem dX12_isStumbled_63 : decode cX12_isStumbled 63 = .ok (.goto (-60), 3) := by decide +kernel
theorem dX12_isStumbled_66 : decode cX12_isStumbled 66 = .ok (.iconst 0, 1) := by decide +kernel
theorem dX12_isStumbled_67 : decode cX12_isStumbled 67 = .ok (.ireturn, 1) := by decide +kernel
set_option maxRecDepth 20000 in
theorem ggX12_stumbleLine_X12_hasRead : GoodIn wsX12_stumbleLine wsX12_hasRead := goodIn_r _ [12, 13, 72, 73, 74, 75, 76, 77, 78, 79, 80, 81, 82, 83, 84, 85, 86, 87, 88, 89, 90, 91, 92, 93, 94, 95, 96, 97, 98, 99, 100, 101, 102, 103, 104, 105, 106, 107, 108, 109, 110, 111, 112, 113, 114, 115, 116] (by decide +kernel) (by decide +kernel)
set_option maxRecDepth 20000 in
theorem gX12_stumbleLine_X12_hasRead : GoodIn wsX12_stumbleLine (wsV RX12 181 RX12 yX12_hasRead wsX12_hasRead) := goodIn_app (goodIn_of _ (by decide +kernel)) ggX12_stumbleLine_X12_hasRead
set_option maxRecDepth 20000 in
theorem ggX12_stumbleLine_X12_number : GoodIn wsX12_stumbleLine wsX12_number := goodIn_r _ [17, 2, 3, 4, 18, 19, 20, 11, 21, 22, 23, 24, 25, 26, 27, 28, 29, 30, 31, 32, 33, 34, 35, 36, 37, 38, 39, 40, 41, 42, 43, 72, 73, 74, 75, 76, 77, 78, 79, 80, 81, 82, 83, 84, 85, 86, 87, 88, 89, 90, 91, 92, 93, 94, 95, 96, 97, 98, 99, 100, 101, 102, 103, 104, 105, 106, 107, 108, 109, 110, 111, 112, 113, 114, 115, 116] (by decide +kernel) (by decide +kernel)
set_option maxRecDepth 20000 in
theorem gX12_stumbleLine_X12_number : GoodIn wsX12_stumbleLine (wsV RX12 155 RX12 yX12_number wsX12_number) := goodIn_app (goodIn_of _ (by decide +kernel)) ggX12_stumbleLine_X12_number
set_option maxRecDepth 20000 in
theorem ggX12_stumbleLine_X12_asks : GoodIn wsX12_stumbleLine wsX12_asks := goodIn_r _ [47, 48, 49, 50, 11, 51, 52, 53, 54, 55, 2, 3, 32, 27, 28, 29, 30, 31, 22, 4, 33, 34, 35, 36, 37, 38, 39, 40, 41, 42, 43, 18, 19, 20, 21, 23, 72, 73, 74, 75, 76, 77, 78, 79, 80, 81, 82, 83, 84, 85, 86, 87, 88, 89, 90, 91, 92, 93, 94, 95, 96, 97, 98, 99, 100, 101, 102, 103, 104, 105, 106, 107, 108, 109, 110, 111, 112, 113, 114, 115, 116] (by decide +kernel) (by decide +kernel)
set_option maxRecDepth 20000 in
theorem gX12_stumbleLine_X12_asks : GoodIn wsX12_stumbleLine (wsV RX12 151 RX12 yX12_asks wsX12_asks) := goodIn_app (goodIn_of _ (by decide +kernel)) ggX12_stumbleLine_X12_asks
set_option maxRecDepth 20000 in
theorem ggX12_stumbleLine_X12_isStumbled : GoodIn wsX12_stumbleLine wsX12_isStumbled := goodIn_r _ [59, 13, 5, 72, 73, 74, 75, 76, 77, 78, 79, 80, 81, 82, 83, 84, 85, 86, 87, 88, 89, 90, 91, 92, 93, 94, 95, 96, 97, 98, 99, 100, 101, 102, 103, 104, 105, 106, 107, 108, 109, 110, 111, 112, 113, 114, 115, 116] (by decide +kernel) (by decide +kernel)
set_option maxRecDepth 20000 in
theorem gX12_stumbleLine_X12_isStumbled : GoodIn wsX12_stumbleLine (wsV RX12 187 RX12 yX12_isStumbled wsX12_isStumbled) := goodIn_app (goodIn_of _ (by decide +kernel)) ggX12_stumbleLine_X12_isStumbled
set_option maxRecDepth 20000 in
theorem ggX12_stumbleLine_X12_fails : GoodIn wsX12_stumbleLine wsX12_fails := goodIn_r _ [21, 2, 22, 23, 72, 73, 74, 75, 76, 77, 78, 79, 80, 81, 82, 83, 84, 85, 86, 87, 88, 89, 90, 91, 92, 93, 94, 95, 96, 97, 98, 99, 100, 101, 102, 103, 104, 105, 106, 107, 108, 109, 110, 111, 112, 113, 114, 115, 116] (by decide +kernel) (by decide +kernel)
set_option maxRecDepth 20000 in
theorem gX12_stumbleLine_X12_fails : GoodIn wsX12_stumbleLine (wsV RX12 148 RX12 yX12_fails wsX12_fails) := goodIn_app (goodIn_of _ (by decide +kernel)) ggX12_stumbleLine_X12_fails
set_option maxRecDepth 20000 in
theorem ggX12_stumbleLine_X12_beatHere : GoodIn wsX12_stumbleLine wsX12_beatHere := goodIn_r _ [63, 14, 15, 16, 11, 17, 2, 3, 4, 18, 19, 20, 21, 22, 23, 24, 25, 26, 27, 28, 29, 30, 31, 32, 33, 34, 35, 36, 37, 38, 39, 40, 41, 42, 43, 72, 73, 74, 75, 76, 77, 78, 79, 80, 81, 82, 83, 84, 85, 86, 87, 88, 89, 90, 91, 92, 93, 94, 95, 96, 97, 98, 99, 100, 101, 102, 103, 104, 105, 106, 107, 108, 109, 110, 111, 112, 113, 114, 115, 116] (by decide +kernel) (by decide +kernel)
set_option maxRecDepth 20000 in
theorem gX12_stumbleLine_X12_beatHere : GoodIn wsX12_stumbleLine (wsV RX12 190 RX12 yX12_beatHere wsX12_beatHere) := goodIn_app (goodIn_of _ (by decide +kernel)) ggX12_stumbleLine_X12_beatHere
set_option maxRecDepth 20000 in
theorem ggX12_stumbleLine_X12_number_ : GoodIn wsX12_stumbleLine wsX12_number_ := goodIn_r _ [67, 44, 45, 46, 11, 47, 48, 49, 50, 51, 52, 53, 54, 55, 2, 3, 32, 27, 28, 29, 30, 31, 22, 4, 33, 34, 35, 36, 37, 38, 39, 40, 41, 42, 43, 18, 19, 20, 21, 23, 14, 15, 16, 17, 24, 25, 26, 72, 73, 74, 75, 76, 77, 78, 79, 80, 81, 82, 83, 84, 85, 86, 87, 88, 89, 90, 91, 92, 93, 94, 95, 96, 97, 98, 99, 100, 101, 102, 103, 104, 105, 106, 107, 108, 109, 110, 111, 112, 113, 114, 115, 116] (by decide +kernel) (by decide +kernel)
set_option maxRecDepth 20000 in
theorem gX12_stumbleLine_X12_number_ : GoodIn wsX12_stumbleLine (wsV RX12 174 RX12 yX12_number_ wsX12_number_) := goodIn_app (goodIn_of _ (by decide +kernel)) ggX12_stumbleLine_X12_number_
set_option maxRecDepth 20000 in
theorem ggX12_stumbleLine_X12_reads : GoodIn wsX12_stumbleLine wsX12_reads := goodIn_r _ [71, 13, 72, 73, 74, 75, 76, 77, 78, 79, 80, 81, 82, 83, 84, 85, 86, 87, 88, 89, 90, 91, 92, 93, 94, 95, 96, 97, 98, 99, 100, 101, 102, 103, 104, 105, 106, 107, 108, 109, 110, 111, 112, 113, 114, 115, 116] (by decide +kernel) (by decide +kernel)
set_option maxRecDepth 20000 in
theorem gX12_stumbleLine_X12_reads : GoodIn wsX12_stumbleLine (wsV RX12 177 RX12 yX12_reads wsX12_reads) := goodIn_app (goodIn_of _ (by decide +kernel)) ggX12_stumbleLine_X12_reads
theorem dX12_stumbleLine_0 : decode cX12_stumbleLine 0 = .ok (.iconst 4, 1) := by decide +kernel
theorem dX12_stumbleLine_1 : decode cX12_stumbleLine 1 = .ok (.bipush 32, 2) := by decide +kernel
theorem dX12_stumbleLine_3 : decode cX12_stumbleLine 3 = .ok (.aload_n 0, 1) := by decide +kernel
theorem dX12_stumbleLine_4 : decode cX12_stumbleLine 4 = .ok (.bipush 7, 2) := by decide +kernel
theorem dX12_stumbleLine_6 : decode cX12_stumbleLine 6 = .ok (.invokevirtual 181, 3) := by decide +kernel
theorem dX12_stumbleLine_9 : decode cX12_stumbleLine 9 = .ok (.iadd, 1) := by decide +kernel
theorem dX12_stumbleLine_10 : decode cX12_stumbleLine 10 = .ok (.imul, 1) := by decide +kernel
theorem dX12_stumbleLine_11 : decode cX12_stumbleLine 11 = .ok (.istore_n 1, 1) := by decide +kernel
theorem dX12_stumbleLine_12 : decode cX12_stumbleLine 12 = .ok (.aload_n 0, 1) := by decide +kernel
theorem dX12_stumbleLine_13 : decode cX12_stumbleLine 13 = .ok (.iconst 0, 1) := by decide +kernel
theorem dX12_stumbleLine_14 : decode cX12_stumbleLine 14 = .ok (.iconst 1, 1) := by decide +kernel
theorem dX12_stumbleLine_15 : decode cX12_stumbleLine 15 = .ok (.invokevirtual 155, 3) := by decide +kernel
theorem dX12_stumbleLine_18 : decode cX12_stumbleLine 18 = .ok (.istore_n 2, 1) := by decide +kernel
theorem dX12_stumbleLine_19 : decode cX12_stumbleLine 19 = .ok (.aload_n 0, 1) := by decide +kernel
theorem dX12_stumbleLine_20 : decode cX12_stumbleLine 20 = .ok (.ldc2_w 185, 3) := by decide +kernel
theorem dX12_stumbleLine_23 : decode cX12_stumbleLine 23 = .ok (.invokevirtual 151, 3) := by decide +kernel
theorem dX12_stumbleLine_26 : decode cX12_stumbleLine 26 = .ok (.aload_n 0, 1) := by decide +kernel
theorem dX12_stumbleLine_27 : decode cX12_stumbleLine 27 = .ok (.getfield 132, 3) := by decide +kernel
theorem dX12_stumbleLine_30 : decode cX12_stumbleLine 30 = .ok (.ifCond .ne 29, 3) := by decide +kernel
theorem dX12_stumbleLine_33 : decode cX12_stumbleLine 33 = .ok (.aload_n 0, 1) := by decide +kernel
theorem dX12_stumbleLine_34 : decode cX12_stumbleLine 34 = .ok (.getfield 121, 3) := by decide +kernel
theorem dX12_stumbleLine_37 : decode cX12_stumbleLine 37 = .ok (.iconst 2, 1) := by decide +kernel
theorem dX12_stumbleLine_38 : decode cX12_stumbleLine 38 = .ok (.if_icmp .ne 21, 3) := by decide +kernel
theorem dX12_stumbleLine_41 : decode cX12_stumbleLine 41 = .ok (.aload_n 0, 1) := by decide +kernel
theorem dX12_stumbleLine_42 : decode cX12_stumbleLine 42 = .ok (.iconst 4, 1) := by decide +kernel
theorem dX12_stumbleLine_43 : decode cX12_stumbleLine 43 = .ok (.iload_n 2, 1) := by decide +kernel
theorem dX12_stumbleLine_44 : decode cX12_stumbleLine 44 = .ok (.aload_n 0, 1) := by decide +kernel
theorem dX12_stumbleLine_45 : decode cX12_stumbleLine 45 = .ok (.getfield 114, 3) := by decide +kernel
theorem dX12_stumbleLine_48 : decode cX12_stumbleLine 48 = .ok (.invokevirtual 187, 3) := by decide +kernel
theorem dX12_stumbleLine_51 : decode cX12_stumbleLine 51 = .ok (.ifCond .eq 8, 3) := by decide +kernel
theorem dX12_stumbleLine_54 : decode cX12_stumbleLine 54 = .ok (.aload_n 0, 1) := by decide +kernel
theorem dX12_stumbleLine_55 : decode cX12_stumbleLine 55 = .ok (.iconst 2, 1) := by decide +kernel
theorem dX12_stumbleLine_56 : decode cX12_stumbleLine 56 = .ok (.invokevirtual 148, 3) := by decide +kernel
theorem dX12_stumbleLine_59 : decode cX12_stumbleLine 59 = .ok (.aload_n 0, 1) := by decide +kernel
theorem dX12_stumbleLine_60 : decode cX12_stumbleLine 60 = .ok (.getfield 43, 3) := by decide +kernel
theorem dX12_stumbleLine_63 : decode cX12_stumbleLine 63 = .ok (.iload_n 1, 1) := by decide +kernel
theorem dX12_stumbleLine_64 : decode cX12_stumbleLine 64 = .ok (.iconst 1, 1) := by decide +kernel
theorem dX12_stumbleLine_65 : decode cX12_stumbleLine 65 = .ok (.iadd, 1) := by decide +kernel
theorem dX12_stumbleLine_66 : decode cX12_stumbleLine 66 = .ok (.aload_n 0, 1) := by decide +kernel
theorem dX12_stumbleLine_67 : decode cX12_stumbleLine 67 = .ok (.invokevirtual 190, 3) := by decide +kernel
theorem dX12_stumbleLine_70 : decode cX12_stumbleLine 70 = .ok (.iastore, 1) := by decide +kernel
theorem dX12_stumbleLine_71 : decode cX12_stumbleLine 71 = .ok (.aload_n 0, 1) := by decide +kernel
theorem dX12_stumbleLine_72 : decode cX12_stumbleLine 72 = .ok (.getfield 43, 3) := by decide +kernel
theorem dX12_stumbleLine_75 : decode cX12_stumbleLine 75 = .ok (.iload_n 1, 1) := by decide +kernel
theorem dX12_stumbleLine_76 : decode cX12_stumbleLine 76 = .ok (.iload_n 2, 1) := by decide +kernel
theorem dX12_stumbleLine_77 : decode cX12_stumbleLine 77 = .ok (.iastore, 1) := by decide +kernel
theorem dX12_stumbleLine_78 : decode cX12_stumbleLine 78 = .ok (.aload_n 0, 1) := by decide +kernel
theorem dX12_stumbleLine_79 : decode cX12_stumbleLine 79 = .ok (.getfield 43, 3) := by decide +kernel
theorem dX12_stumbleLine_82 : decode cX12_stumbleLine 82 = .ok (.iload_n 1, 1) := by decide +kernel
theorem dX12_stumbleLine_83 : decode cX12_stumbleLine 83 = .ok (.iconst 2, 1) := by decide +kernel
theorem dX12_stumbleLine_84 : decode cX12_stumbleLine 84 = .ok (.iadd, 1) := by decide +kernel
theorem dX12_stumbleLine_85 : decode cX12_stumbleLine 85 = .ok (.aload_n 0, 1) := by decide +kernel
theorem dX12_stumbleLine_86 : decode cX12_stumbleLine 86 = .ok (.ldc2_w 193, 3) := by decide +kernel
theorem dX12_stumbleLine_89 : decode cX12_stumbleLine 89 = .ok (.iconst 0, 1) := by decide +kernel
theorem dX12_stumbleLine_90 : decode cX12_stumbleLine 90 = .ok (.iconst 5, 1) := by decide +kernel
theorem dX12_stumbleLine_91 : decode cX12_stumbleLine 91 = .ok (.invokevirtual 174, 3) := by decide +kernel
theorem dX12_stumbleLine_94 : decode cX12_stumbleLine 94 = .ok (.iastore, 1) := by decide +kernel
theorem dX12_stumbleLine_95 : decode cX12_stumbleLine 95 = .ok (.aload_n 0, 1) := by decide +kernel
theorem dX12_stumbleLine_96 : decode cX12_stumbleLine 96 = .ok (.getfield 43, 3) := by decide +kernel
theorem dX12_stumbleLine_99 : decode cX12_stumbleLine 99 = .ok (.iload_n 1, 1) := by decide +kernel
theorem dX12_stumbleLine_100 : decode cX12_stumbleLine 100 = .ok (.iconst 3, 1) := by decide +kernel
theorem dX12_stumbleLine_101 : decode cX12_stumbleLine 101 = .ok (.iadd, 1) := by decide +kernel
theorem dX12_stumbleLine_102 : decode cX12_stumbleLine 102 = .ok (.aload_n 0, 1) := by decide +kernel
theorem dX12_stumbleLine_103 : decode cX12_stumbleLine 103 = .ok (.ldc2_w 195, 3) := by decide +kernel
theorem dX12_stumbleLine_106 : decode cX12_stumbleLine 106 = .ok (.iconst 0, 1) := by decide +kernel
theorem dX12_stumbleLine_107 : decode cX12_stumbleLine 107 = .ok (.bipush 9, 2) := by decide +kernel
theorem dX12_stumbleLine_109 : decode cX12_stumbleLine 109 = .ok (.invokevirtual 174, 3) := by decide +kernel
theorem dX12_stumbleLine_112 : decode cX12_stumbleLine 112 = .ok (.iastore, 1) := by decide +kernel
theorem dX12_stumbleLine_113 : decode cX12_stumbleLine 113 = .ok (.aload_n 0, 1) := by decide +kernel
theorem dX12_stumbleLine_114 : decode cX12_stumbleLine 114 = .ok (.bipush 7, 2) := by decide +kernel
theorem dX12_stumbleLine_116 : decode cX12_stumbleLine 116 = .ok (.aload_n 0, 1) := by decide +kernel
theorem dX12_stumbleLine_117 : decode cX12_stumbleLine 117 = .ok (.bipush 7, 2) := by decide +kernel
theorem dX12_stumbleLine_119 : decode cX12_stumbleLine 119 = .ok (.invokevirtual 181, 3) := by decide +kernel
theorem dX12_stumbleLine_122 : decode cX12_stumbleLine 122 = .ok (.iconst 1, 1) := by decide +kernel
theorem dX12_stumbleLine_123 : decode cX12_stumbleLine 123 = .ok (.iadd, 1) := by decide +kernel
theorem dX12_stumbleLine_124 : decode cX12_stumbleLine 124 = .ok (.invokevirtual 177, 3) := by decide +kernel
theorem dX12_stumbleLine_127 : decode cX12_stumbleLine 127 = .ok (.return_, 1) := by decide +kernel
set_option maxRecDepth 20000 in
theorem ggX12_everyLine_X12_number : GoodIn wsX12_everyLine wsX12_number := goodIn_r _ [6, 7, 8, 9, 10, 11, 12, 5, 13, 14, 15, 16, 17, 18, 19, 20, 21, 22, 23, 24, 25, 26, 27, 28, 29, 30, 31, 32, 33, 34, 35, 52, 53, 54, 55, 56, 57, 58, 59, 60, 61, 62, 63, 64, 65, 66, 67, 68, 69, 70, 71, 72, 73, 74, 75, 76, 77, 78, 79, 80, 81, 82, 83, 84, 85, 86, 87, 88, 89, 90, 91, 92, 93, 94, 95, 96] (by decide +kernel) (by decide +kernel)
set_option maxRecDepth 20000 in
theorem gX12_everyLine_X12_number : GoodIn wsX12_everyLine (wsV RX12 155 RX12 yX12_number wsX12_number) := goodIn_app (goodIn_of _ (by decide +kernel)) ggX12_everyLine_X12_number
set_option maxRecDepth 20000 in
theorem ggX12_everyLine_X12_number_ : GoodIn wsX12_everyLine wsX12_number_ := goodIn_r _ [39, 40, 41, 42, 5, 43, 44, 45, 46, 47, 48, 49, 50, 51, 7, 8, 24, 19, 20, 21, 22, 23, 14, 9, 25, 26, 27, 28, 29, 30, 31, 32, 33, 34, 35, 10, 11, 12, 13, 15, 2, 3, 4, 6, 16, 17, 18, 52, 53, 54, 55, 56, 57, 58, 59, 60, 61, 62, 63, 64, 65, 66, 67, 68, 69, 70, 71, 72, 73, 74, 75, 76, 77, 78, 79, 80, 81, 82, 83, 84, 85, 86, 87, 88, 89, 90, 91, 92, 93, 94, 95, 96] (by decide +kernel) (by decide +kernel)
set_option maxRecDepth 20000 in
theorem gX12_everyLine_X12_number_ : GoodIn wsX12_everyLine (wsV RX12 174 RX12 yX12_number_ wsX12_number_) := goodIn_app (goodIn_of _ (by decide +kernel)) ggX12_everyLine_X12_number_
theorem dX12_everyLine_0 : decode cX12_everyLine 0 = .ok (.aload_n 1, 1) := by decide +kernel
theorem dX12_everyLine_1 : decode cX12_everyLine 1 = .ok (.iload_n 2, 1) := by decide +kernel
theorem dX12_everyLine_2 : decode cX12_everyLine 2 = .ok (.aload_n 0, 1) := by decide +kernel
theorem dX12_everyLine_3 : decode cX12_everyLine 3 = .ok (.iconst 1, 1) := by decide +kernel
theorem dX12_everyLine_4 : decode cX12_everyLine 4 = .ok (.iload_n 3, 1) := by decide +kernel
theorem dX12_everyLine_5 : decode cX12_everyLine 5 = .ok (.invokevirtual 155, 3) := by decide +kernel
theorem dX12_everyLine_8 : decode cX12_everyLine 8 = .ok (.iastore, 1) := by decide +kernel
theorem dX12_everyLine_9 : decode cX12_everyLine 9 = .ok (.aload_n 1, 1) := by decide +kernel
theorem dX12_everyLine_10 : decode cX12_everyLine 10 = .ok (.iload_n 2, 1) := by decide +kernel
theorem dX12_everyLine_11 : decode cX12_everyLine 11 = .ok (.iconst 1, 1) := by decide +kernel
theorem dX12_everyLine_12 : decode cX12_everyLine 12 = .ok (.iadd, 1) := by decide +kernel
theorem dX12_everyLine_13 : decode cX12_everyLine 13 = .ok (.aload_n 0, 1) := by decide +kernel
theorem dX12_everyLine_14 : decode cX12_everyLine 14 = .ok (.ldc2_w 185, 3) := by decide +kernel
theorem dX12_everyLine_17 : decode cX12_everyLine 17 = .ok (.iconst 0, 1) := by decide +kernel
theorem dX12_everyLine_18 : decode cX12_everyLine 18 = .ok (.aload_n 1, 1) := by decide +kernel
theorem dX12_everyLine_19 : decode cX12_everyLine 19 = .ok (.iload_n 2, 1) := by decide +kernel
theorem dX12_everyLine_20 : decode cX12_everyLine 20 = .ok (.iaload, 1) := by decide +kernel
theorem dX12_everyLine_21 : decode cX12_everyLine 21 = .ok (.iconst 1, 1) := by decide +kernel
theorem dX12_everyLine_22 : decode cX12_everyLine 22 = .ok (.isub, 1) := by decide +kernel
theorem dX12_everyLine_23 : decode cX12_everyLine 23 = .ok (.invokevirtual 174, 3) := by decide +kernel
theorem dX12_everyLine_26 : decode cX12_everyLine 26 = .ok (.iastore, 1) := by decide +kernel
theorem dX12_everyLine_27 : decode cX12_everyLine 27 = .ok (.return_, 1) := by decide +kernel
