abbrev cX0_copyFrom : ByteArray := prog_2_method_3_code
def yX0_copyFrom : MethodName := ⟨RX0, "copyFrom", "(LOverHill$Dance;)V"⟩
abbrev cX0_keepChange : ByteArray := prog_2_method_16_code
def yX0_keepChange : MethodName := ⟨RX0, "keepChange", "(III)V"⟩
abbrev cX0_takeBack : ByteArray := prog_2_method_17_code
def yX0_takeBack : MethodName := ⟨RX0, "takeBack", "()V"⟩
def wsX0_copyFrom : List Cond := .code yX0_copyFrom cX0_copyFrom 2 none :: ([.fieldLink RX0 39 "OverHill$Dance" "gap" "I", .fieldLink RX0 43 "OverHill$Dance" "odds" "I", .fieldLink RX0 46 "OverHill$Dance" "rain" "I", .fieldLink RX0 49 "OverHill$Dance" "lines" "I", .fieldLink RX0 58 "OverHill$Dance" "stumbleCount" "I", .fieldLink RX0 61 "OverHill$Dance" "cellCount" "I", .fieldLink RX0 64 "OverHill$Dance" "tuneCount" "I", .fieldLink RX0 67 "OverHill$Dance" "changeCount" "I", .fieldLink RX0 9 "OverHill$Dance" "steps" "[I", .methodLink RX0 70 arraycopyName, .native arraycopyName, .static arraycopyName, .initialized "java/lang/System", .fieldLink RX0 15 "OverHill$Dance" "lengths" "[I", .fieldLink RX0 18 "OverHill$Dance" "starts" "[I", .fieldLink RX0 21 "OverHill$Dance" "met" "[I", .fieldLink RX0 24 "OverHill$Dance" "stumbles" "[I", .fieldLink RX0 27 "OverHill$Dance" "muds" "[I", .fieldLink RX0 30 "OverHill$Dance" "cells" "[I", .fieldLink RX0 33 "OverHill$Dance" "tunes" "[I", .fieldLink RX0 36 "OverHill$Dance" "changes" "[I"] ++ wsX00)
def wsX0_keepChange : List Cond := .code yX0_keepChange cX0_keepChange 5 none :: ([.fieldLink RX0 67 "OverHill$Dance" "changeCount" "I", .fieldLink RX0 36 "OverHill$Dance" "changes" "[I"] ++ wsX00)
def wsX0_takeBack : List Cond := .code yX0_takeBack cX0_takeBack 4 none :: ([.fieldLink RX0 67 "OverHill$Dance" "changeCount" "I", .fieldLink RX0 36 "OverHill$Dance" "changes" "[I", .fieldLink RX0 58 "OverHill$Dance" "stumbleCount" "I", .fieldLink RX0 27 "OverHill$Dance" "muds" "[I", .fieldLink RX0 9 "OverHill$Dance" "steps" "[I"] ++ wsX00)
theorem dX0_copyFrom_0 : decode cX0_copyFrom 0 = .ok (.aload_n 0, 1) := by decide +kernel
theorem dX0_copyFrom_1 : decode cX0_copyFrom 1 = .ok (.aload_n 1, 1) := by decide +kernel
theorem dX0_copyFrom_2 : decode cX0_copyFrom 2 = .ok (.getfield 39, 3) := by decide +kernel
theorem dX0_copyFrom_5 : decode cX0_copyFrom 5 = .ok (.putfield 39, 3) := by decide +kernel
theorem dX0_copyFrom_8 : decode cX0_copyFrom 8 = .ok (.aload_n 0, 1) := by decide +kernel
theorem dX0_copyFrom_9 : decode cX0_copyFrom 9 = .ok (.aload_n 1, 1) := by decide +kernel
theorem dX0_copyFrom_10 : decode cX0_copyFrom 10 = .ok (.getfield 43, 3) := by decide +kernel
theorem dX0_copyFrom_13 : decode cX0_copyFrom 13 = .ok (.putfield 43, 3) := by decide +kernel
theorem dX0_copyFrom_16 : decode cX0_copyFrom 16 = .ok (.aload_n 0, 1) := by decide +kernel
theorem dX0_copyFrom_17 : decode cX0_copyFrom 17 = .ok (.aload_n 1, 1) := by decide +kernel
theorem dX0_copyFrom_18 : decode cX0_copyFrom 18 = .ok (.getfield 46, 3) := by decide +kernel
theorem dX0_copyFrom_21 : decode cX0_copyFrom 21 = .ok (.putfield 46, 3) := by decide +kernel
theorem dX0_copyFrom_24 : decode cX0_copyFrom 24 = .ok (.aload_n 0, 1) := by decide +kernel
theorem dX0_copyFrom_25 : decode cX0_copyFrom 25 = .ok (.aload_n 1, 1) := by decide +kernel
theorem dX0_copyFrom_26 : decode cX0_copyFrom 26 = .ok (.getfield 49, 3) := by decide +kernel
theorem dX0_copyFrom_29 : decode cX0_copyFrom 29 = .ok (.putfield 49, 3) := by decide +kernel
theorem dX0_copyFrom_32 : decode cX0_copyFrom 32 = .ok (.aload_n 0, 1) := by decide +kernel
theorem dX0_copyFrom_33 : decode cX0_copyFrom 33 = .ok (.aload_n 1, 1) := by decide +kernel
theorem dX0_copyFrom_34 : decode cX0_copyFrom 34 = .ok (.getfield 58, 3) := by decide +kernel
theorem dX0_copyFrom_37 : decode cX0_copyFrom 37 = .ok (.putfield 58, 3) := by decide +kernel
theorem dX0_copyFrom_40 : decode cX0_copyFrom 40 = .ok (.aload_n 0, 1) := by decide +kernel
theorem dX0_copyFrom_41 : decode cX0_copyFrom 41 = .ok (.aload_n 1, 1) := by decide +kernel
theorem dX0_copyFrom_42 : decode cX0_copyFrom 42 = .ok (.getfield 61, 3) := by decide +kernel
theorem dX0_copyFrom_45 : decode cX0_copyFrom 45 = .ok (.putfield 61, 3) := by decide +kernel
theorem dX0_copyFrom_48 : decode cX0_copyFrom 48 = .ok (.aload_n 0, 1) := by decide +kernel
theorem dX0_copyFrom_49 : decode cX0_copyFrom 49 = .ok (.aload_n 1, 1) := by decide +kernel
theorem dX0_copyFrom_50 : decode cX0_copyFrom 50 = .ok (.getfield 64, 3) := by decide +kernel
theorem dX0_copyFrom_53 : decode cX0_copyFrom 53 = .ok (.putfield 64, 3) := by decide +kernel
theorem dX0_copyFrom_56 : decode cX0_copyFrom 56 = .ok (.aload_n 0, 1) := by decide +kernel
theorem dX0_copyFrom_57 : decode cX0_copyFrom 57 = .ok (.aload_n 1, 1) := by decide +kernel
theorem dX0_copyFrom_58 : decode cX0_copyFrom 58 = .ok (.getfield 67, 3) := by decide +kernel
theorem dX0_copyFrom_61 : decode cX0_copyFrom 61 = .ok (.putfield 67, 3) := by decide +kernel
theorem dX0_copyFrom_64 : decode cX0_copyFrom 64 = .ok (.aload_n 1, 1) := by decide +kernel
theorem dX0_copyFrom_65 : decode cX0_copyFrom 65 = .ok (.getfield 9, 3) := by decide +kernel
theorem dX0_copyFrom_68 : decode cX0_copyFrom 68 = .ok (.iconst 0, 1) := by decide +kernel
theorem dX0_copyFrom_69 : decode cX0_copyFrom 69 = .ok (.aload_n 0, 1) := by decide +kernel
theorem dX0_copyFrom_70 : decode cX0_copyFrom 70 = .ok (.getfield 9, 3) := by decide +kernel
theorem dX0_copyFrom_73 : decode cX0_copyFrom 73 = .ok (.iconst 0, 1) := by decide +kernel
theorem dX0_copyFrom_74 : decode cX0_copyFrom 74 = .ok (.aload_n 0, 1) := by decide +kernel
theorem dX0_copyFrom_75 : decode cX0_copyFrom 75 = .ok (.getfield 9, 3) := by decide +kernel
theorem dX0_copyFrom_78 : decode cX0_copyFrom 78 = .ok (.arraylength, 1) := by decide +kernel
theorem dX0_copyFrom_79 : decode cX0_copyFrom 79 = .ok (.invokestatic 70, 3) := by decide +kernel
theorem dX0_copyFrom_82 : decode cX0_copyFrom 82 = .ok (.aload_n 1, 1) := by decide +kernel
theorem dX0_copyFrom_83 : decode cX0_copyFrom 83 = .ok (.getfield 15, 3) := by decide +kernel
theorem dX0_copyFrom_86 : decode cX0_copyFrom 86 = .ok (.iconst 0, 1) := by decide +kernel
theorem dX0_copyFrom_87 : decode cX0_copyFrom 87 = .ok (.aload_n 0, 1) := by decide +kernel
theorem dX0_copyFrom_88 : decode cX0_copyFrom 88 = .ok (.getfield 15, 3) := by decide +kernel
theorem dX0_copyFrom_91 : decode cX0_copyFrom 91 = .ok (.iconst 0, 1) := by decide +kernel
theorem dX0_copyFrom_92 : decode cX0_copyFrom 92 = .ok (.aload_n 0, 1) := by decide +kernel
theorem dX0_copyFrom_93 : decode cX0_copyFrom 93 = .ok (.getfield 15, 3) := by decide +kernel
theorem dX0_copyFrom_96 : decode cX0_copyFrom 96 = .ok (.arraylength, 1) := by decide +kernel
theorem dX0_copyFrom_97 : decode cX0_copyFrom 97 = .ok (.invokestatic 70, 3) := by decide +kernel
theorem dX0_copyFrom_100 : decode cX0_copyFrom 100 = .ok (.aload_n 1, 1) := by decide +kernel
theorem dX0_copyFrom_101 : decode cX0_copyFrom 101 = .ok (.getfield 18, 3) := by decide +kernel
theorem dX0_copyFrom_104 : decode cX0_copyFrom 104 = .ok (.iconst 0, 1) := by decide +kernel
theorem dX0_copyFrom_105 : decode cX0_copyFrom 105 = .ok (.aload_n 0, 1) := by decide +kernel
theorem dX0_copyFrom_106 : decode cX0_copyFrom 106 = .ok (.getfield 18, 3) := by decide +kernel
theorem dX0_copyFrom_109 : decode cX0_copyFrom 109 = .ok (.iconst 0, 1) := by decide +kernel
theorem dX0_copyFrom_110 : decode cX0_copyFrom 110 = .ok (.aload_n 0, 1) := by decide +kernel
theorem dX0_copyFrom_111 : decode cX0_copyFrom 111 = .ok (.getfield 18, 3) := by decide +kernel
theorem dX0_copyFrom_114 : decode cX0_copyFrom 114 = .ok (.arraylength, 1) := by decide +kernel
theorem dX0_copyFrom_115 : decode cX0_copyFrom 115 = .ok (.invokestatic 70, 3) := by decide +kernel
theorem dX0_copyFrom_118 : decode cX0_copyFrom 118 = .ok (.aload_n 1, 1) := by decide +kernel
theorem dX0_copyFrom_119 : decode cX0_copyFrom 119 = .ok (.getfield 21, 3) := by decide +kernel
theorem dX0_copyFrom_122 : decode cX0_copyFrom 122 = .ok (.iconst 0, 1) := by decide +kernel
theorem dX0_copyFrom_123 : decode cX0_copyFrom 123 = .ok (.aload_n 0, 1) := by decide +kernel
theorem dX0_copyFrom_124 : decode cX0_copyFrom 124 = .ok (.getfield 21, 3) := by decide +kernel
theorem dX0_copyFrom_127 : decode cX0_copyFrom 127 = .ok (.iconst 0, 1) := by decide +kernel
theorem dX0_copyFrom_128 : decode cX0_copyFrom 128 = .ok (.aload_n 0, 1) := by decide +kernel
theorem dX0_copyFrom_129 : decode cX0_copyFrom 129 = .ok (.getfield 21, 3) := by decide +kernel
theorem dX0_copyFrom_132 : decode cX0_copyFrom 132 = .ok (.arraylength, 1) := by decide +kernel
theorem dX0_copyFrom_133 : decode cX0_copyFrom 133 = .ok (.invokestatic 70, 3) := by decide +kernel
theorem dX0_copyFrom_136 : decode cX0_copyFrom 136 = .ok (.aload_n 1, 1) := by decide +kernel
theorem dX0_copyFrom_137 : decode cX0_copyFrom 137 = .ok (.getfield 24, 3) := by decide +kernel
theorem dX0_copyFrom_140 : decode cX0_copyFrom 140 = .ok (.iconst 0, 1) := by decide +kernel
theorem dX0_copyFrom_141 : decode cX0_copyFrom 141 = .ok (.aload_n 0, 1) := by decide +kernel
theorem dX0_copyFrom_142 : decode cX0_copyFrom 142 = .ok (.getfield 24, 3) := by decide +kernel
theorem dX0_copyFrom_145 : decode cX0_copyFrom 145 = .ok (.iconst 0, 1) := by decide +kernel
theorem dX0_copyFrom_146 : decode cX0_copyFrom 146 = .ok (.aload_n 0, 1) := by decide +kernel
theorem dX0_copyFrom_147 : decode cX0_copyFrom 147 = .ok (.getfield 24, 3) := by decide +kernel
theorem dX0_copyFrom_150 : decode cX0_copyFrom 150 = .ok (.arraylength, 1) := by decide +kernel
theorem dX0_copyFrom_151 : decode cX0_copyFrom 151 = .ok (.invokestatic 70, 3) := by decide +kernel
theorem dX0_copyFrom_154 : decode cX0_copyFrom 154 = .ok (.aload_n 1, 1) := by decide +kernel
theorem dX0_copyFrom_155 : decode cX0_copyFrom 155 = .ok (.getfield 27, 3) := by decide +kernel
theorem dX0_copyFrom_158 : decode cX0_copyFrom 158 = .ok (.iconst 0, 1) := by decide +kernel
theorem dX0_copyFrom_159 : decode cX0_copyFrom 159 = .ok (.aload_n 0, 1) := by decide +kernel
theorem dX0_copyFrom_160 : decode cX0_copyFrom 160 = .ok (.getfield 27, 3) := by decide +kernel
theorem dX0_copyFrom_163 : decode cX0_copyFrom 163 = .ok (.iconst 0, 1) := by decide +kernel
theorem dX0_copyFrom_164 : decode cX0_copyFrom 164 = .ok (.aload_n 0, 1) := by decide +kernel
theorem dX0_copyFrom_165 : decode cX0_copyFrom 165 = .ok (.getfield 27, 3) := by decide +kernel
theorem dX0_copyFrom_168 : decode cX0_copyFrom 168 = .ok (.arraylength, 1) := by decide +kernel
theorem dX0_copyFrom_169 : decode cX0_copyFrom 169 = .ok (.invokestatic 70, 3) := by decide +kernel
theorem dX0_copyFrom_172 : decode cX0_copyFrom 172 = .ok (.aload_n 1, 1) := by decide +kernel
theorem dX0_copyFrom_173 : decode cX0_copyFrom 173 = .ok (.getfield 30, 3) := by decide +kernel
theorem dX0_copyFrom_176 : decode cX0_copyFrom 176 = .ok (.iconst 0, 1) := by decide +kernel
theorem dX0_copyFrom_177 : decode cX0_copyFrom 177 = .ok (.aload_n 0, 1) := by decide +kernel
theorem dX0_copyFrom_178 : decode cX0_copyFrom 178 = .ok (.getfield 30, 3) := by decide +kernel
theorem dX0_copyFrom_181 : decode cX0_copyFrom 181 = .ok (.iconst 0, 1) := by decide +kernel
theorem dX0_copyFrom_182 : decode cX0_copyFrom 182 = .ok (.aload_n 0, 1) := by decide +kernel
theorem dX0_copyFrom_183 : decode cX0_copyFrom 183 = .ok (.getfield 30, 3) := by decide +kernel
theorem dX0_copyFrom_186 : decode cX0_copyFrom 186 = .ok (.arraylength, 1) := by decide +kernel
theorem dX0_copyFrom_187 : decode cX0_copyFrom 187 = .ok (.invokestatic 70, 3) := by decide +kernel
theorem dX0_copyFrom_190 : decode cX0_copyFrom 190 = .ok (.aload_n 1, 1) := by decide +kernel
theorem dX0_copyFrom_191 : decode cX0_copyFrom 191 = .ok (.getfield 33, 3) := by decide +kernel
theorem dX0_copyFrom_194 : decode cX0_copyFrom 194 = .ok (.iconst 0, 1) := by decide +kernel
theorem dX0_copyFrom_195 : decode cX0_copyFrom 195 = .ok (.aload_n 0, 1) := by decide +kernel
theorem dX0_copyFrom_196 : decode cX0_copyFrom 196 = .ok (.getfield 33, 3) := by decide +kernel
theorem dX0_copyFrom_199 : decode cX0_copyFrom 199 = .ok (.iconst 0, 1) := by decide +kernel
theorem dX0_copyFrom_200 : decode cX0_copyFrom 200 = .ok (.aload_n 0, 1) := by decide +kernel
theorem dX0_copyFrom_201 : decode cX0_copyFrom 201 = .ok (.getfield 33, 3) := by decide +kernel
theorem dX0_copyFrom_204 : decode cX0_copyFrom 204 = .ok (.arraylength, 1) := by decide +kernel
theorem dX0_copyFrom_205 : decode cX0_copyFrom 205 = .ok (.invokestatic 70, 3) := by decide +kernel
theorem dX0_copyFrom_208 : decode cX0_copyFrom 208 = .ok (.aload_n 1, 1) := by decide +kernel
theorem dX0_copyFrom_209 : decode cX0_copyFrom 209 = .ok (.getfield 36, 3) := by decide +kernel
theorem dX0_copyFrom_212 : decode cX0_copyFrom 212 = .ok (.iconst 0, 1) := by decide +kernel
theorem dX0_copyFrom_213 : decode cX0_copyFrom 213 = .ok (.aload_n 0, 1) := by decide +kernel
theorem dX0_copyFrom_214 : decode cX0_copyFrom 214 = .ok (.getfield 36, 3) := by decide +kernel
theorem dX0_copyFrom_217 : decode cX0_copyFrom 217 = .ok (.iconst 0, 1) := by decide +kernel
theorem dX0_copyFrom_218 : decode cX0_copyFrom 218 = .ok (.aload_n 0, 1) := by decide +kernel
theorem dX0_copyFrom_219 : decode cX0_copyFrom 219 = .ok (.getfield 36, 3) := by decide +kernel
theorem dX0_copyFrom_222 : decode cX0_copyFrom 222 = .ok (.arraylength, 1) := by decide +kernel
theorem dX0_copyFrom_223 : decode cX0_copyFrom 223 = .ok (.invokestatic 70, 3) := by decide +kernel
theorem dX0_copyFrom_226 : decode cX0_copyFrom 226 = .ok (.return_, 1) := by decide +kernel
theorem dX0_keepChange_0 : decode cX0_keepChange 0 = .ok (.aload_n 0, 1) := by decide +kernel
theorem dX0_keepChange_1 : decode cX0_keepChange 1 = .ok (.getfield 67, 3) := by decide +kernel
theorem dX0_keepChange_4 : decode cX0_keepChange 4 = .ok (.bipush 40, 2) := by decide +kernel
theorem dX0_keepChange_6 : decode cX0_keepChange 6 = .ok (.if_icmp .ge 49, 3) := by decide +kernel
theorem dX0_keepChange_9 : decode cX0_keepChange 9 = .ok (.aload_n 0, 1) := by decide +kernel
theorem dX0_keepChange_10 : decode cX0_keepChange 10 = .ok (.getfield 67, 3) := by decide +kernel
theorem dX0_keepChange_13 : decode cX0_keepChange 13 = .ok (.iconst 3, 1) := by decide +kernel
theorem dX0_keepChange_14 : decode cX0_keepChange 14 = .ok (.imul, 1) := by decide +kernel
theorem dX0_keepChange_15 : decode cX0_keepChange 15 = .ok (.istore 4, 2) := by decide +kernel
theorem dX0_keepChange_17 : decode cX0_keepChange 17 = .ok (.aload_n 0, 1) := by decide +kernel
theorem dX0_keepChange_18 : decode cX0_keepChange 18 = .ok (.getfield 36, 3) := by decide +kernel
theorem dX0_keepChange_21 : decode cX0_keepChange 21 = .ok (.iload 4, 2) := by decide +kernel
theorem dX0_keepChange_23 : decode cX0_keepChange 23 = .ok (.iload_n 1, 1) := by decide +kernel
theorem dX0_keepChange_24 : decode cX0_keepChange 24 = .ok (.iastore, 1) := by decide +kernel
theorem dX0_keepChange_25 : decode cX0_keepChange 25 = .ok (.aload_n 0, 1) := by decide +kernel
theorem dX0_keepChange_26 : decode cX0_keepChange 26 = .ok (.getfield 36, 3) := by decide +kernel
theorem dX0_keepChange_29 : decode cX0_keepChange 29 = .ok (.iload 4, 2) := by decide +kernel
theorem dX0_keepChange_31 : decode cX0_keepChange 31 = .ok (.iconst 1, 1) := by decide +kernel
theorem dX0_keepChange_32 : decode cX0_keepChange 32 = .ok (.iadd, 1) := by decide +kernel
theorem dX0_keepChange_33 : decode cX0_keepChange 33 = .ok (.iload_n 2, 1) := by decide +kernel
theorem dX0_keepChange_34 : decode cX0_keepChange 34 = .ok (.iastore, 1) := by decide +kernel
theorem dX0_keepChange_35 : decode cX0_keepChange 35 = .ok (.aload_n 0, 1) := by decide +kernel
theorem dX0_keepChange_36 : decode cX0_keepChange 36 = .ok (.getfield 36, 3) := by decide +kernel
theorem dX0_keepChange_39 : decode cX0_keepChange 39 = .ok (.iload 4, 2) := by decide +kernel
theorem dX0_keepChange_41 : decode cX0_keepChange 41 = .ok (.iconst 2, 1) := by decide +kernel
theorem dX0_keepChange_42 : decode cX0_keepChange 42 = .ok (.iadd, 1) := by decide +kernel
theorem dX0_keepChange_43 : decode cX0_keepChange 43 = .ok (.iload_n 3, 1) := by decide +kernel
theorem dX0_keepChange_44 : decode cX0_keepChange 44 = .ok (.iastore, 1) := by decide +kernel
theorem dX0_keepChange_45 : decode cX0_keepChange 45 = .ok (.aload_n 0, 1) := by decide +kernel
theorem dX0_keepChange_46 : decode cX0_keepChange 46 = .ok (.dup, 1) := by decide +kernel
theorem dX0_keepChange_47 : decode cX0_keepChange 47 = .ok (.getfield 67, 3) := by decide +kernel
theorem dX0_keepChange_50 : decode cX0_keepChange 50 = .ok (.iconst 1, 1) := by decide +kernel
theorem dX0_keepChange_51 : decode cX0_keepChange 51 = .ok (.iadd, 1) := by decide +kernel
theorem dX0_keepChange_52 : decode cX0_keepChange 52 = .ok (.putfield 67, 3) := by decide +kernel
theorem dX0_keepChange_55 : decode cX0_keepChange 55 = .ok (.return_, 1) := by decide +kernel
theorem dX0_takeBack_0 : decode cX0_takeBack 0 = .ok (.aload_n 0, 1) := by decide +kernel
theorem dX0_takeBack_1 : decode cX0_takeBack 1 = .ok (.getfield 67, 3) := by decide +kernel
theorem dX0_takeBack_4 : decode cX0_takeBack 4 = .ok (.ifCond .ne 4, 3) := by decide +kernel
theorem dX0_takeBack_7 : decode cX0_takeBack 7 = .ok (.return_, 1) := by decide +kernel
theorem dX0_takeBack_8 : decode cX0_takeBack 8 = .ok (.aload_n 0, 1) := by decide +kernel
theorem dX0_takeBack_9 : decode cX0_takeBack 9 = .ok (.dup, 1) := by decide +kernel
theorem dX0_takeBack_10 : decode cX0_takeBack 10 = .ok (.getfield 67, 3) := by decide +kernel
theorem dX0_takeBack_13 : decode cX0_takeBack 13 = .ok (.iconst 1, 1) := by decide +kernel
theorem dX0_takeBack_14 : decode cX0_takeBack 14 = .ok (.isub, 1) := by decide +kernel
theorem dX0_takeBack_15 : decode cX0_takeBack 15 = .ok (.putfield 67, 3) := by decide +kernel
theorem dX0_takeBack_18 : decode cX0_takeBack 18 = .ok (.aload_n 0, 1) := by decide +kernel
theorem dX0_takeBack_19 : decode cX0_takeBack 19 = .ok (.getfield 67, 3) := by decide +kernel
theorem dX0_takeBack_22 : decode cX0_takeBack 22 = .ok (.iconst 3, 1) := by decide +kernel
theorem dX0_takeBack_23 : decode cX0_takeBack 23 = .ok (.imul, 1) := by decide +kernel
theorem dX0_takeBack_24 : decode cX0_takeBack 24 = .ok (.istore_n 1, 1) := by decide +kernel
theorem dX0_takeBack_25 : decode cX0_takeBack 25 = .ok (.aload_n 0, 1) := by decide +kernel
theorem dX0_takeBack_26 : decode cX0_takeBack 26 = .ok (.getfield 36, 3) := by decide +kernel
theorem dX0_takeBack_29 : decode cX0_takeBack 29 = .ok (.iload_n 1, 1) := by decide +kernel
theorem dX0_takeBack_30 : decode cX0_takeBack 30 = .ok (.iconst 1, 1) := by decide +kernel
theorem dX0_takeBack_31 : decode cX0_takeBack 31 = .ok (.iadd, 1) := by decide +kernel
theorem dX0_takeBack_32 : decode cX0_takeBack 32 = .ok (.iaload, 1) := by decide +kernel
theorem dX0_takeBack_33 : decode cX0_takeBack 33 = .ok (.istore_n 2, 1) := by decide +kernel
theorem dX0_takeBack_34 : decode cX0_takeBack 34 = .ok (.aload_n 0, 1) := by decide +kernel
theorem dX0_takeBack_35 : decode cX0_takeBack 35 = .ok (.getfield 36, 3) := by decide +kernel
theorem dX0_takeBack_38 : decode cX0_takeBack 38 = .ok (.iload_n 1, 1) := by decide +kernel
theorem dX0_takeBack_39 : decode cX0_takeBack 39 = .ok (.iconst 2, 1) := by decide +kernel
theorem dX0_takeBack_40 : decode cX0_takeBack 40 = .ok (.iadd, 1) := by decide +kernel
theorem dX0_takeBack_41 : decode cX0_takeBack 41 = .ok (.iaload, 1) := by decide +kernel
theorem dX0_takeBack_42 : decode cX0_takeBack 42 = .ok (.istore_n 3, 1) := by decide +kernel
theorem dX0_takeBack_43 : decode cX0_takeBack 43 = .ok (.aload_n 0, 1) := by decide +kernel
theorem dX0_takeBack_44 : decode cX0_takeBack 44 = .ok (.getfield 36, 3) := by decide +kernel
theorem dX0_takeBack_47 : decode cX0_takeBack 47 = .ok (.iload_n 1, 1) := by decide +kernel
theorem dX0_takeBack_48 : decode cX0_takeBack 48 = .ok (.iaload, 1) := by decide +kernel
theorem dX0_takeBack_49 : decode cX0_takeBack 49 = .ok (.lookupswitch 50 #[(0, 27), (1, 40)], 27) := by decide +kernel
theorem dX0_takeBack_76 : decode cX0_takeBack 76 = .ok (.aload_n 0, 1) := by decide +kernel
theorem dX0_takeBack_77 : decode cX0_takeBack 77 = .ok (.dup, 1) := by decide +kernel
theorem dX0_takeBack_78 : decode cX0_takeBack 78 = .ok (.getfield 58, 3) := by decide +kernel
theorem dX0_takeBack_81 : decode cX0_takeBack 81 = .ok (.iconst 1, 1) := by decide +kernel
theorem dX0_takeBack_82 : decode cX0_takeBack 82 = .ok (.isub, 1) := by decide +kernel
theorem dX0_takeBack_83 : decode cX0_takeBack 83 = .ok (.putfield 58, 3) := by decide +kernel
theorem dX0_takeBack_86 : decode cX0_takeBack 86 = .ok (.goto 20, 3) := by decide +kernel
theorem dX0_takeBack_89 : decode cX0_takeBack 89 = .ok (.aload_n 0, 1) := by decide +kernel
theorem dX0_takeBack_90 : decode cX0_takeBack 90 = .ok (.getfield 27, 3) := by decide +kernel
theorem dX0_takeBack_93 : decode cX0_takeBack 93 = .ok (.iload_n 2, 1) := by decide +kernel
theorem dX0_takeBack_94 : decode cX0_takeBack 94 = .ok (.iload_n 3, 1) := by decide +kernel
theorem dX0_takeBack_95 : decode cX0_takeBack 95 = .ok (.iastore, 1) := by decide +kernel
theorem dX0_takeBack_96 : decode cX0_takeBack 96 = .ok (.goto 10, 3) := by decide +kernel
theorem dX0_takeBack_99 : decode cX0_takeBack 99 = .ok (.aload_n 0, 1) := by decide +kernel
theorem dX0_takeBack_100 : decode cX0_takeBack 100 = .ok (.getfield 9, 3) := by decide +kernel
theorem dX0_takeBack_103 : decode cX0_takeBack 103 = .ok (.iload_n 2, 1) := by decide +kernel
theorem dX0_takeBack_104 : decode cX0_takeBack 104 = .ok (.iload_n 3, 1) := by decide +kernel
theorem dX0_takeBack_105 : decode cX0_takeBack 105 = .ok (.iastore, 1) := by decide +kernel
theorem dX0_takeBack_106 : decode cX0_takeBack 106 = .ok (.return_, 1) := by decide +kernel
