abbrev cX12_roundLine : ByteArray := prog_14_method_29_code
def yX12_roundLine : MethodName := ⟨RX12, "roundLine", "()V"⟩
def wsX12_roundLine_r1 : List Cond := [Cond.constantLong RX12 162 (411), Cond.fieldLink RX12 121 "OverHillModel" "token" "I", Cond.fieldLink RX12 114 "OverHillModel" "value" "I", Cond.fieldLink RX12 62 "OverHillModel" "steps" "[I", Cond.constantLong RX12 172 (31499758), Cond.fieldLink RX12 132 "OverHillModel" "bad" "I", Cond.fieldLink RX12 37 "OverHillModel" "round" "[I", Cond.methodLink RX12 155 yX12_number, Cond.instanceMethod yX12_number, Cond.selects RX12 yX12_number yX12_number, Cond.initialized RX12, Cond.code yX12_number cX12_number 4 (some .int), Cond.methodLink RX12 148 yX12_fails, Cond.instanceMethod yX12_fails, Cond.selects RX12 yX12_fails yX12_fails, Cond.code yX12_fails cX12_fails 2 none, Cond.fieldLink RX12 111 "OverHillModel" "place" "I", Cond.fieldLink RX12 135 "OverHillModel" "badPlace" "I", Cond.methodLink RX12 85 yX12_in, Cond.static yX12_in, Cond.code yX12_in cX12_in 6 (some .boolean), Cond.methodLink RX12 142 yX12_next, Cond.instanceMethod yX12_next, Cond.selects RX12 yX12_next yX12_next]
def wsX12_roundLine_r2 : List Cond := [Cond.code yX12_next cX12_next 2 none, Cond.fieldLink RX12 104 "OverHillModel" "at" "I", Cond.fieldLink RX12 117 "OverHillModel" "word" "J", Cond.fieldLink RX12 97 "OverHillModel" "taped" "I", Cond.constantLong RX12 124 (-1), Cond.constantLong RX12 126 (27), Cond.fieldLink RX12 23 "OverHillModel" "tape" "[B", Cond.constantLong RX12 128 (96), Cond.constant RX12 130 (100000), Cond.constant RX12 131 (1000000), Cond.methodLink RX12 107 yX12_isByte, Cond.instanceMethod yX12_isByte, Cond.selects RX12 yX12_isByte yX12_isByte, Cond.code yX12_isByte cX12_isByte 4 (some .boolean), Cond.methodLink RX12 151 yX12_asks, Cond.instanceMethod yX12_asks, Cond.selects RX12 yX12_asks yX12_asks, Cond.code yX12_asks cX12_asks 3 none, Cond.methodLink RX12 145 yX12_takes, Cond.instanceMethod yX12_takes, Cond.selects RX12 yX12_takes yX12_takes, Cond.code yX12_takes cX12_takes 3 (some .boolean), Cond.methodLink RX12 138 yX12_is, Cond.instanceMethod yX12_is]
def wsX12_roundLine_r3 : List Cond := [Cond.selects RX12 yX12_is yX12_is, Cond.code yX12_is cX12_is 3 (some .boolean), Cond.methodLink RX12 164 yX12_stepHere, Cond.instanceMethod yX12_stepHere, Cond.selects RX12 yX12_stepHere yX12_stepHere, Cond.code yX12_stepHere cX12_stepHere 1 (some .int), Cond.methodLink RX12 168 yX12_isGood, Cond.instanceMethod yX12_isGood, Cond.selects RX12 yX12_isGood yX12_isGood, Cond.code yX12_isGood cX12_isGood 1 (some .boolean), Cond.methodLink RX12 174 yX12_number_, Cond.instanceMethod yX12_number_, Cond.selects RX12 yX12_number_ yX12_number_, Cond.code yX12_number_ cX12_number_ 5 (some .int), Cond.methodLink RX12 177 yX12_reads, Cond.instanceMethod yX12_reads, Cond.selects RX12 yX12_reads yX12_reads, Cond.code yX12_reads cX12_reads 3 none, Cond.fieldLink RX12 34 "OverHillModel" "has" "[I"]
def wsX12_roundLine : List Cond := .code yX12_roundLine cX12_roundLine 5 none :: ((wsX12_roundLine_r1 ++ (wsX12_roundLine_r2 ++ wsX12_roundLine_r3)) ++ wsX120)
set_option maxRecDepth 20000 in
theorem ggX12_roundLine_X12_number : GoodIn wsX12_roundLine wsX12_number := goodIn_r _ [12, 6, 2, 3, 13, 14, 15, 11, 16, 17, 18, 19, 20, 21, 22, 23, 24, 25, 26, 27, 28, 29, 30, 31, 32, 33, 34, 35, 36, 37, 38, 68, 69, 70, 71, 72, 73, 74, 75, 76, 77, 78, 79, 80, 81, 82, 83, 84, 85, 86, 87, 88, 89, 90, 91, 92, 93, 94, 95, 96, 97, 98, 99, 100, 101, 102, 103, 104, 105, 106, 107, 108, 109, 110, 111, 112] (by decide +kernel) (by decide +kernel)
set_option maxRecDepth 20000 in
theorem gX12_roundLine_X12_number : GoodIn wsX12_roundLine (wsV RX12 155 RX12 yX12_number wsX12_number) := goodIn_app (goodIn_of _ (by decide +kernel)) ggX12_roundLine_X12_number
set_option maxRecDepth 20000 in
theorem ggX12_roundLine_X12_asks : GoodIn wsX12_roundLine wsX12_asks := goodIn_r _ [42, 43, 44, 45, 11, 46, 47, 48, 49, 50, 6, 2, 27, 22, 23, 24, 25, 26, 17, 3, 28, 29, 30, 31, 32, 33, 34, 35, 36, 37, 38, 13, 14, 15, 16, 18, 68, 69, 70, 71, 72, 73, 74, 75, 76, 77, 78, 79, 80, 81, 82, 83, 84, 85, 86, 87, 88, 89, 90, 91, 92, 93, 94, 95, 96, 97, 98, 99, 100, 101, 102, 103, 104, 105, 106, 107, 108, 109, 110, 111, 112] (by decide +kernel) (by decide +kernel)
set_option maxRecDepth 20000 in
theorem gX12_roundLine_X12_asks : GoodIn wsX12_roundLine (wsV RX12 151 RX12 yX12_asks wsX12_asks) := goodIn_app (goodIn_of _ (by decide +kernel)) ggX12_roundLine_X12_asks
set_option maxRecDepth 20000 in
theorem ggX12_roundLine_X12_fails : GoodIn wsX12_roundLine wsX12_fails := goodIn_r _ [16, 6, 17, 18, 68, 69, 70, 71, 72, 73, 74, 75, 76, 77, 78, 79, 80, 81, 82, 83, 84, 85, 86, 87, 88, 89, 90, 91, 92, 93, 94, 95, 96, 97, 98, 99, 100, 101, 102, 103, 104, 105, 106, 107, 108, 109, 110, 111, 112] (by decide +kernel) (by decide +kernel)
set_option maxRecDepth 20000 in
theorem gX12_roundLine_X12_fails : GoodIn wsX12_roundLine (wsV RX12 148 RX12 yX12_fails wsX12_fails) := goodIn_app (goodIn_of _ (by decide +kernel)) ggX12_roundLine_X12_fails
set_option maxRecDepth 20000 in
theorem ggX12_roundLine_X12_stepHere : GoodIn wsX12_roundLine wsX12_stepHere := goodIn_r _ [54, 8, 9, 10, 11, 12, 6, 2, 3, 13, 14, 15, 16, 17, 18, 19, 20, 21, 22, 23, 24, 25, 26, 27, 28, 29, 30, 31, 32, 33, 34, 35, 36, 37, 38, 68, 69, 70, 71, 72, 73, 74, 75, 76, 77, 78, 79, 80, 81, 82, 83, 84, 85, 86, 87, 88, 89, 90, 91, 92, 93, 94, 95, 96, 97, 98, 99, 100, 101, 102, 103, 104, 105, 106, 107, 108, 109, 110, 111, 112] (by decide +kernel) (by decide +kernel)
set_option maxRecDepth 20000 in
theorem gX12_roundLine_X12_stepHere : GoodIn wsX12_roundLine (wsV RX12 164 RX12 yX12_stepHere wsX12_stepHere) := goodIn_app (goodIn_of _ (by decide +kernel)) ggX12_roundLine_X12_stepHere
set_option maxRecDepth 20000 in
theorem ggX12_roundLine_X12_isGood : GoodIn wsX12_roundLine wsX12_isGood := goodIn_r _ [58, 6, 68, 69, 70, 71, 72, 73, 74, 75, 76, 77, 78, 79, 80, 81, 82, 83, 84, 85, 86, 87, 88, 89, 90, 91, 92, 93, 94, 95, 96, 97, 98, 99, 100, 101, 102, 103, 104, 105, 106, 107, 108, 109, 110, 111, 112] (by decide +kernel) (by decide +kernel)
set_option maxRecDepth 20000 in
theorem gX12_roundLine_X12_isGood : GoodIn wsX12_roundLine (wsV RX12 168 RX12 yX12_isGood wsX12_isGood) := goodIn_app (goodIn_of _ (by decide +kernel)) ggX12_roundLine_X12_isGood
set_option maxRecDepth 20000 in
theorem ggX12_roundLine_X12_number_ : GoodIn wsX12_roundLine wsX12_number_ := goodIn_r _ [62, 39, 40, 41, 11, 42, 43, 44, 45, 46, 47, 48, 49, 50, 6, 2, 27, 22, 23, 24, 25, 26, 17, 3, 28, 29, 30, 31, 32, 33, 34, 35, 36, 37, 38, 13, 14, 15, 16, 18, 8, 9, 10, 12, 19, 20, 21, 68, 69, 70, 71, 72, 73, 74, 75, 76, 77, 78, 79, 80, 81, 82, 83, 84, 85, 86, 87, 88, 89, 90, 91, 92, 93, 94, 95, 96, 97, 98, 99, 100, 101, 102, 103, 104, 105, 106, 107, 108, 109, 110, 111, 112] (by decide +kernel) (by decide +kernel)
set_option maxRecDepth 20000 in
theorem gX12_roundLine_X12_number_ : GoodIn wsX12_roundLine (wsV RX12 174 RX12 yX12_number_ wsX12_number_) := goodIn_app (goodIn_of _ (by decide +kernel)) ggX12_roundLine_X12_number_
set_option maxRecDepth 20000 in
theorem ggX12_roundLine_X12_reads : GoodIn wsX12_roundLine wsX12_reads := goodIn_r _ [66, 67, 68, 69, 70, 71, 72, 73, 74, 75, 76, 77, 78, 79, 80, 81, 82, 83, 84, 85, 86, 87, 88, 89, 90, 91, 92, 93, 94, 95, 96, 97, 98, 99, 100, 101, 102, 103, 104, 105, 106, 107, 108, 109, 110, 111, 112] (by decide +kernel) (by decide +kernel)
set_option maxRecDepth 20000 in
theorem gX12_roundLine_X12_reads : GoodIn wsX12_roundLine (wsV RX12 177 RX12 yX12_reads wsX12_reads) := goodIn_app (goodIn_of _ (by decide +kernel)) ggX12_roundLine_X12_reads
theorem dX12_roundLine_0 : decode cX12_roundLine 0 = .ok (.aload_n 0, 1) := by decide +kernel
theorem dX12_roundLine_1 : decode cX12_roundLine 1 = .ok (.iconst 0, 1) := by decide +kernel
theorem dX12_roundLine_2 : decode cX12_roundLine 2 = .ok (.iconst 1, 1) := by decide +kernel
theorem dX12_roundLine_3 : decode cX12_roundLine 3 = .ok (.invokevirtual 155, 3) := by decide +kernel
theorem dX12_roundLine_6 : decode cX12_roundLine 6 = .ok (.istore_n 1, 1) := by decide +kernel
theorem dX12_roundLine_7 : decode cX12_roundLine 7 = .ok (.aload_n 0, 1) := by decide +kernel
theorem dX12_roundLine_8 : decode cX12_roundLine 8 = .ok (.ldc2_w 162, 3) := by decide +kernel
theorem dX12_roundLine_11 : decode cX12_roundLine 11 = .ok (.invokevirtual 151, 3) := by decide +kernel
theorem dX12_roundLine_14 : decode cX12_roundLine 14 = .ok (.iconst 0, 1) := by decide +kernel
theorem dX12_roundLine_15 : decode cX12_roundLine 15 = .ok (.istore_n 2, 1) := by decide +kernel
theorem dX12_roundLine_16 : decode cX12_roundLine 16 = .ok (.iload_n 2, 1) := by decide +kernel
theorem dX12_roundLine_17 : decode cX12_roundLine 17 = .ok (.bipush 12, 2) := by decide +kernel
theorem dX12_roundLine_19 : decode cX12_roundLine 19 = .ok (.if_icmp .ne 25, 3) := by decide +kernel
theorem dX12_roundLine_22 : decode cX12_roundLine 22 = .ok (.aload_n 0, 1) := by decide +kernel
theorem dX12_roundLine_23 : decode cX12_roundLine 23 = .ok (.getfield 121, 3) := by decide +kernel
theorem dX12_roundLine_26 : decode cX12_roundLine 26 = .ok (.iconst 2, 1) := by decide +kernel
theorem dX12_roundLine_27 : decode cX12_roundLine 27 = .ok (.if_icmp .ne 12, 3) := by decide +kernel
theorem dX12_roundLine_30 : decode cX12_roundLine 30 = .ok (.aload_n 0, 1) := by decide +kernel
theorem dX12_roundLine_31 : decode cX12_roundLine 31 = .ok (.getfield 114, 3) := by decide +kernel
theorem dX12_roundLine_34 : decode cX12_roundLine 34 = .ok (.bipush 6, 2) := by decide +kernel
theorem dX12_roundLine_36 : decode cX12_roundLine 36 = .ok (.if_icmp .ge 8, 3) := by decide +kernel
theorem dX12_roundLine_39 : decode cX12_roundLine 39 = .ok (.aload_n 0, 1) := by decide +kernel
theorem dX12_roundLine_40 : decode cX12_roundLine 40 = .ok (.iconst 3, 1) := by decide +kernel
theorem dX12_roundLine_41 : decode cX12_roundLine 41 = .ok (.invokevirtual 148, 3) := by decide +kernel
theorem dX12_roundLine_44 : decode cX12_roundLine 44 = .ok (.aload_n 0, 1) := by decide +kernel
theorem dX12_roundLine_45 : decode cX12_roundLine 45 = .ok (.invokevirtual 164, 3) := by decide +kernel
theorem dX12_roundLine_48 : decode cX12_roundLine 48 = .ok (.istore_n 3, 1) := by decide +kernel
theorem dX12_roundLine_49 : decode cX12_roundLine 49 = .ok (.aload_n 0, 1) := by decide +kernel
theorem dX12_roundLine_50 : decode cX12_roundLine 50 = .ok (.invokevirtual 168, 3) := by decide +kernel
theorem dX12_roundLine_53 : decode cX12_roundLine 53 = .ok (.ifCond .eq 10, 3) := by decide +kernel
theorem dX12_roundLine_56 : decode cX12_roundLine 56 = .ok (.aload_n 0, 1) := by decide +kernel
theorem dX12_roundLine_57 : decode cX12_roundLine 57 = .ok (.getfield 62, 3) := by decide +kernel
theorem dX12_roundLine_60 : decode cX12_roundLine 60 = .ok (.iload_n 2, 1) := by decide +kernel
theorem dX12_roundLine_61 : decode cX12_roundLine 61 = .ok (.iload_n 3, 1) := by decide +kernel
theorem dX12_roundLine_62 : decode cX12_roundLine 62 = .ok (.iastore, 1) := by decide +kernel
theorem dX12_roundLine_63 : decode cX12_roundLine 63 = .ok (.iinc 2 1, 3) := by decide +kernel
theorem dX12_roundLine_66 : decode cX12_roundLine 66 = .ok (.aload_n 0, 1) := by decide +kernel
theorem dX12_roundLine_67 : decode cX12_roundLine 67 = .ok (.invokevirtual 168, 3) := by decide +kernel
theorem dX12_roundLine_70 : decode cX12_roundLine 70 = .ok (.ifCond .eq 11, 3) := by decide +kernel
theorem dX12_roundLine_73 : decode cX12_roundLine 73 = .ok (.aload_n 0, 1) := by decide +kernel
theorem dX12_roundLine_74 : decode cX12_roundLine 74 = .ok (.getfield 121, 3) := by decide +kernel
theorem dX12_roundLine_77 : decode cX12_roundLine 77 = .ok (.iconst 2, 1) := by decide +kernel
theorem dX12_roundLine_78 : decode cX12_roundLine 78 = .ok (.if_icmp .eq (-62), 3) := by decide +kernel
theorem dX12_roundLine_81 : decode cX12_roundLine 81 = .ok (.aload_n 0, 1) := by decide +kernel
theorem dX12_roundLine_82 : decode cX12_roundLine 82 = .ok (.ldc2_w 172, 3) := by decide +kernel
theorem dX12_roundLine_85 : decode cX12_roundLine 85 = .ok (.iconst 0, 1) := by decide +kernel
theorem dX12_roundLine_86 : decode cX12_roundLine 86 = .ok (.iload_n 2, 1) := by decide +kernel
theorem dX12_roundLine_87 : decode cX12_roundLine 87 = .ok (.iconst 1, 1) := by decide +kernel
theorem dX12_roundLine_88 : decode cX12_roundLine 88 = .ok (.isub, 1) := by decide +kernel
theorem dX12_roundLine_89 : decode cX12_roundLine 89 = .ok (.invokevirtual 174, 3) := by decide +kernel
theorem dX12_roundLine_92 : decode cX12_roundLine 92 = .ok (.istore_n 3, 1) := by decide +kernel
theorem dX12_roundLine_93 : decode cX12_roundLine 93 = .ok (.aload_n 0, 1) := by decide +kernel
theorem dX12_roundLine_94 : decode cX12_roundLine 94 = .ok (.getfield 132, 3) := by decide +kernel
theorem dX12_roundLine_97 : decode cX12_roundLine 97 = .ok (.ifCond .eq 4, 3) := by decide +kernel
theorem dX12_roundLine_100 : decode cX12_roundLine 100 = .ok (.return_, 1) := by decide +kernel
theorem dX12_roundLine_101 : decode cX12_roundLine 101 = .ok (.iconst 0, 1) := by decide +kernel
theorem dX12_roundLine_102 : decode cX12_roundLine 102 = .ok (.istore 4, 2) := by decide +kernel
theorem dX12_roundLine_104 : decode cX12_roundLine 104 = .ok (.iload 4, 2) := by decide +kernel
theorem dX12_roundLine_106 : decode cX12_roundLine 106 = .ok (.iload_n 2, 1) := by decide +kernel
theorem dX12_roundLine_107 : decode cX12_roundLine 107 = .ok (.if_icmp .ge 31, 3) := by decide +kernel
theorem dX12_roundLine_110 : decode cX12_roundLine 110 = .ok (.aload_n 0, 1) := by decide +kernel
theorem dX12_roundLine_111 : decode cX12_roundLine 111 = .ok (.getfield 37, 3) := by decide +kernel
theorem dX12_roundLine_114 : decode cX12_roundLine 114 = .ok (.bipush 12, 2) := by decide +kernel
theorem dX12_roundLine_116 : decode cX12_roundLine 116 = .ok (.bipush 8, 2) := by decide +kernel
theorem dX12_roundLine_118 : decode cX12_roundLine 118 = .ok (.iload_n 1, 1) := by decide +kernel
theorem dX12_roundLine_119 : decode cX12_roundLine 119 = .ok (.iadd, 1) := by decide +kernel
theorem dX12_roundLine_120 : decode cX12_roundLine 120 = .ok (.imul, 1) := by decide +kernel
theorem dX12_roundLine_121 : decode cX12_roundLine 121 = .ok (.iload 4, 2) := by decide +kernel
theorem dX12_roundLine_123 : decode cX12_roundLine 123 = .ok (.iadd, 1) := by decide +kernel
theorem dX12_roundLine_124 : decode cX12_roundLine 124 = .ok (.aload_n 0, 1) := by decide +kernel
theorem dX12_roundLine_125 : decode cX12_roundLine 125 = .ok (.getfield 62, 3) := by decide +kernel
theorem dX12_roundLine_128 : decode cX12_roundLine 128 = .ok (.iload 4, 2) := by decide +kernel
theorem dX12_roundLine_130 : decode cX12_roundLine 130 = .ok (.iaload, 1) := by decide +kernel
theorem dX12_roundLine_131 : decode cX12_roundLine 131 = .ok (.iastore, 1) := by decide +kernel
theorem dX12_roundLine_132 : decode cX12_roundLine 132 = .ok (.iinc 4 1, 3) := by decide +kernel
theorem dX12_roundLine_135 : decode cX12_roundLine 135 = .ok (.goto (-31), 3) := by decide +kernel
theorem dX12_roundLine_138 : decode cX12_roundLine 138 = .ok (.aload_n 0, 1) := by decide +kernel
theorem dX12_roundLine_139 : decode cX12_roundLine 139 = .ok (.iconst 3, 1) := by decide +kernel
theorem dX12_roundLine_140 : decode cX12_roundLine 140 = .ok (.iload_n 1, 1) := by decide +kernel
theorem dX12_roundLine_141 : decode cX12_roundLine 141 = .ok (.iadd, 1) := by decide +kernel
theorem dX12_roundLine_142 : decode cX12_roundLine 142 = .ok (.iload_n 2, 1) := by decide +kernel
theorem dX12_roundLine_143 : decode cX12_roundLine 143 = .ok (.invokevirtual 177, 3) := by decide +kernel
theorem dX12_roundLine_146 : decode cX12_roundLine 146 = .ok (.aload_n 0, 1) := by decide +kernel
theorem dX12_roundLine_147 : decode cX12_roundLine 147 = .ok (.iconst 5, 1) := by decide +kernel
theorem dX12_roundLine_148 : decode cX12_roundLine 148 = .ok (.iload_n 1, 1) := by decide +kernel
theorem dX12_roundLine_149 : decode cX12_roundLine 149 = .ok (.iadd, 1) := by decide +kernel
theorem dX12_roundLine_150 : decode cX12_roundLine 150 = .ok (.iload_n 3, 1) := by decide +kernel
theorem dX12_roundLine_151 : decode cX12_roundLine 151 = .ok (.invokevirtual 177, 3) := by decide +kernel
theorem dX12_roundLine_154 : decode cX12_roundLine 154 = .ok (.return_, 1) := by decide +kernel
