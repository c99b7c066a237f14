abbrev cX8_push : ByteArray := prog_10_method_2_code
def yX8_push : MethodName := ⟨RX8, "push", "(I)V"⟩
abbrev cX8_rewind : ByteArray := prog_10_method_3_code
def yX8_rewind : MethodName := ⟨RX8, "rewind", "()V"⟩
abbrev cX8_advance : ByteArray := prog_10_method_4_code
def yX8_advance : MethodName := ⟨RX8, "advance", "()V"⟩
abbrev cX8_isWord : ByteArray := prog_10_method_5_code
def yX8_isWord : MethodName := ⟨RX8, "isWord", "(Ljava/lang/String;)Z"⟩
abbrev cX8_kindOf : ByteArray := prog_10_method_6_code
def yX8_kindOf : MethodName := ⟨RX8, "kindOf", "(I)I"⟩
def wsX8_kindOf : List Cond := .code yX8_kindOf cX8_kindOf 1 (some .int) :: ([])
def wsX8_advance : List Cond := .code yX8_advance cX8_advance 1 none :: ([.fieldLink RX8 19 "OverHill$Tape" "upto" "I", .fieldLink RX8 25 "OverHill$Tape" "from" "I", .fieldLink RX8 15 "OverHill$Tape" "length" "I", .fieldLink RX8 9 "OverHill$Tape" "bytes" "[B", .fieldLink RX8 32 "OverHill$Tape" "value" "I", .fieldLink RX8 35 "OverHill$Tape" "kind" "I", .methodLink RX8 38 Lib.Math.min.name, .static Lib.Math.min.name, .initialized "java/lang/Math", .code Lib.Math.min.name Lib.Math.min.code 2 (some .int), .methodLink RX8 28 yX8_kindOf, .static yX8_kindOf, .initialized RX8, .code yX8_kindOf cX8_kindOf 1 (some .int)] ++ wsX80)
def wsX8_rewind : List Cond := .code yX8_rewind cX8_rewind 1 none :: ([.fieldLink RX8 19 "OverHill$Tape" "upto" "I", .methodLink RX8 22 yX8_advance, .instanceMethod yX8_advance, .selects RX8 yX8_advance yX8_advance, .initialized RX8, .code yX8_advance cX8_advance 1 none, .fieldLink RX8 25 "OverHill$Tape" "from" "I", .fieldLink RX8 15 "OverHill$Tape" "length" "I", .fieldLink RX8 9 "OverHill$Tape" "bytes" "[B", .fieldLink RX8 32 "OverHill$Tape" "value" "I", .fieldLink RX8 35 "OverHill$Tape" "kind" "I", .methodLink RX8 38 Lib.Math.min.name, .static Lib.Math.min.name, .initialized "java/lang/Math", .code Lib.Math.min.name Lib.Math.min.code 2 (some .int), .methodLink RX8 28 yX8_kindOf, .static yX8_kindOf, .code yX8_kindOf cX8_kindOf 1 (some .int)] ++ wsX80)
def wsX8_isWord_r1 : List Cond := [Cond.fieldLink RX8 35 "OverHill$Tape" "kind" "I", Cond.fieldLink RX8 19 "OverHill$Tape" "upto" "I", Cond.fieldLink RX8 25 "OverHill$Tape" "from" "I", Cond.fieldLink RX8 9 "OverHill$Tape" "bytes" "[B", Cond.methodLink RX8 44 yJ0_length_8abf5, Cond.instanceMethod yJ0_length_8abf5, Cond.selects RJ0 yJ0_length_8abf5 yJ0_length_8abf5, Cond.initialized RJ0, Cond.code yJ0_length_8abf5 cJ0_length_8abf5 1 (some .int), Cond.fieldLink RJ0 9 "java/lang/String" "value" "[B", Cond.methodLink RJ0 335 yJ0_coder_7d493, Cond.instanceMethod yJ0_coder_7d493, Cond.selects RJ0 yJ0_coder_7d493 yJ0_coder_7d493, Cond.code yJ0_coder_7d493 cJ0_coder_7d493 1 (some .byte), Cond.fieldLink RJ0 38 "java/lang/String" "COMPACT_STRINGS" "Z", Cond.fieldLink RJ0 15 "java/lang/String" "coder" "B", Cond.methodLink RX8 49 yJ0_charAt_5068e, Cond.instanceMethod yJ0_charAt_5068e, Cond.selects RJ0 yJ0_charAt_5068e yJ0_charAt_5068e, Cond.code yJ0_charAt_5068e cJ0_charAt_5068e 2 (some .char), Cond.methodLink RJ0 492 yJ0_isLatin1_aae02, Cond.instanceMethod yJ0_isLatin1_aae02, Cond.selects RJ0 yJ0_isLatin1_aae02 yJ0_isLatin1_aae02, Cond.code yJ0_isLatin1_aae02 cJ0_isLatin1_aae02 1 (some .boolean)]
def wsX8_isWord_r2 : List Cond := [Cond.methodLink RJ0 495 yJ1_charAt_3b067, Cond.static yJ1_charAt_3b067, Cond.initialized RJ1, Cond.code yJ1_charAt_3b067 cJ1_charAt_3b067 2 (some .char), Cond.methodLink RJ1 9 yJ0_checkIndex_df160, Cond.static yJ0_checkIndex_df160, Cond.code yJ0_checkIndex_df160 cJ0_checkIndex_df160 2 none, Cond.fieldLink RJ0 1053 "jdk/internal/util/Preconditions" "SIOOBE_FORMATTER" "Ljava/util/function/BiFunction;", Cond.methodLink RJ0 1059 yJ3_checkIndex_8e157, Cond.static yJ3_checkIndex_8e157, Cond.initialized RJ3, Cond.code yJ3_checkIndex_8e157 cJ3_checkIndex_8e157 3 (some .int), Cond.methodLink RJ0 498 yJ2_charAt_3b067, Cond.static yJ2_charAt_3b067, Cond.initialized RJ2, Cond.code yJ2_charAt_3b067 cJ2_charAt_3b067 2 (some .char), Cond.methodLink RJ2 67 yJ2_checkIndex_2214a, Cond.static yJ2_checkIndex_2214a, Cond.code yJ2_checkIndex_2214a cJ2_checkIndex_2214a 2 none, Cond.methodLink RJ2 48 yJ2_length_9d52b, Cond.static yJ2_length_9d52b, Cond.code yJ2_length_9d52b cJ2_length_9d52b 1 (some .int), Cond.methodLink RJ2 414 yJ0_checkIndex_df160, Cond.methodLink RJ2 71 yJ2_getChar_3b067]
def wsX8_isWord_r3 : List Cond := [Cond.static yJ2_getChar_3b067, Cond.code yJ2_getChar_3b067 cJ2_getChar_3b067 2 (some .char), Cond.fieldLink RJ2 44 "java/lang/StringUTF16" "$assertionsDisabled" "Z", Cond.fieldLink RJ2 59 "java/lang/StringUTF16" "HI_BYTE_SHIFT" "I", Cond.fieldLink RJ2 63 "java/lang/StringUTF16" "LO_BYTE_SHIFT" "I"]
def wsX8_isWord : List Cond := .code yX8_isWord cX8_isWord 3 (some .boolean) :: ((wsX8_isWord_r1 ++ (wsX8_isWord_r2 ++ wsX8_isWord_r3)) ++ wsX80)
def wsX8_push : List Cond := .code yX8_push cX8_push 3 none :: ([.fieldLink RX8 15 "OverHill$Tape" "length" "I", .fieldLink RX8 9 "OverHill$Tape" "bytes" "[B"] ++ wsX80)
theorem dX8_push_0 : decode cX8_push 0 = .ok (.bipush 24, 2) := by decide +kernel
theorem dX8_push_2 : decode cX8_push 2 = .ok (.istore_n 2, 1) := by decide +kernel
theorem dX8_push_3 : decode cX8_push 3 = .ok (.iload_n 2, 1) := by decide +kernel
theorem dX8_push_4 : decode cX8_push 4 = .ok (.ifCond .lt 42, 3) := by decide +kernel
theorem dX8_push_7 : decode cX8_push 7 = .ok (.aload_n 0, 1) := by decide +kernel
theorem dX8_push_8 : decode cX8_push 8 = .ok (.getfield 15, 3) := by decide +kernel
theorem dX8_push_11 : decode cX8_push 11 = .ok (.sipush 1200, 3) := by decide +kernel
theorem dX8_push_14 : decode cX8_push 14 = .ok (.if_icmp .ge 32, 3) := by decide +kernel
theorem dX8_push_17 : decode cX8_push 17 = .ok (.aload_n 0, 1) := by decide +kernel
theorem dX8_push_18 : decode cX8_push 18 = .ok (.getfield 9, 3) := by decide +kernel
theorem dX8_push_21 : decode cX8_push 21 = .ok (.aload_n 0, 1) := by decide +kernel
theorem dX8_push_22 : decode cX8_push 22 = .ok (.getfield 15, 3) := by decide +kernel
theorem dX8_push_25 : decode cX8_push 25 = .ok (.iload_n 1, 1) := by decide +kernel
theorem dX8_push_26 : decode cX8_push 26 = .ok (.iload_n 2, 1) := by decide +kernel
theorem dX8_push_27 : decode cX8_push 27 = .ok (.ishr, 1) := by decide +kernel
theorem dX8_push_28 : decode cX8_push 28 = .ok (.i2b, 1) := by decide +kernel
theorem dX8_push_29 : decode cX8_push 29 = .ok (.bastore, 1) := by decide +kernel
theorem dX8_push_30 : decode cX8_push 30 = .ok (.aload_n 0, 1) := by decide +kernel
theorem dX8_push_31 : decode cX8_push 31 = .ok (.dup, 1) := by decide +kernel
theorem dX8_push_32 : decode cX8_push 32 = .ok (.getfield 15, 3) := by decide +kernel
theorem dX8_push_35 : decode cX8_push 35 = .ok (.iconst 1, 1) := by decide +kernel
theorem dX8_push_36 : decode cX8_push 36 = .ok (.iadd, 1) := by decide +kernel
theorem dX8_push_37 : decode cX8_push 37 = .ok (.putfield 15, 3) := by decide +kernel
theorem dX8_push_40 : decode cX8_push 40 = .ok (.iinc 2 (-8), 3) := by decide +kernel
theorem dX8_push_43 : decode cX8_push 43 = .ok (.goto (-40), 3) := by decide +kernel
theorem dX8_push_46 : decode cX8_push 46 = .ok (.return_, 1) := by decide +kernel
theorem wrr_wsX8_rewind {i : Nat} {w : Cond} (h : wsX8_rewind[i]? = some w) : w ∈ wsX8_rewind := List.mem_of_getElem? h
theorem wru_wsX8_rewind_wsX80 : ∀ w ∈ wsX80, w ∈ wsX8_rewind := fun w h => (List.mem_cons_of_mem _ (List.mem_append_right _ h))
set_option maxRecDepth 20000 in
theorem gw_wsX8_advance : wsX8_advance.all goodWord = true := by decide +kernel
set_option maxRecDepth 20000 in
theorem ggX8_rewind_X8_advance : GoodIn wsX8_rewind wsX8_advance := goodIn_sub (List.forall_mem_cons.mpr ⟨wrr_wsX8_rewind (i := 6) rfl, (List.forall_mem_append.mpr ⟨(List.forall_mem_cons.mpr ⟨wrr_wsX8_rewind (i := 1) rfl, (List.forall_mem_cons.mpr ⟨wrr_wsX8_rewind (i := 7) rfl, (List.forall_mem_cons.mpr ⟨wrr_wsX8_rewind (i := 8) rfl, (List.forall_mem_cons.mpr ⟨wrr_wsX8_rewind (i := 9) rfl, (List.forall_mem_cons.mpr ⟨wrr_wsX8_rewind (i := 10) rfl, (List.forall_mem_cons.mpr ⟨wrr_wsX8_rewind (i := 11) rfl, (List.forall_mem_cons.mpr ⟨wrr_wsX8_rewind (i := 12) rfl, (List.forall_mem_cons.mpr ⟨wrr_wsX8_rewind (i := 13) rfl, (List.forall_mem_cons.mpr ⟨wrr_wsX8_rewind (i := 14) rfl, (List.forall_mem_cons.mpr ⟨wrr_wsX8_rewind (i := 15) rfl, (List.forall_mem_cons.mpr ⟨wrr_wsX8_rewind (i := 16) rfl, (List.forall_mem_cons.mpr ⟨wrr_wsX8_rewind (i := 17) rfl, (List.forall_mem_cons.mpr ⟨wrr_wsX8_rewind (i := 5) rfl, (List.forall_mem_cons.mpr ⟨wrr_wsX8_rewind (i := 18) rfl, (fun _ h => absurd h List.not_mem_nil)⟩)⟩)⟩)⟩)⟩)⟩)⟩)⟩)⟩)⟩)⟩)⟩)⟩)⟩), wru_wsX8_rewind_wsX80⟩)⟩) gw_wsX8_advance
set_option maxRecDepth 20000 in
theorem gX8_rewind_X8_advance : GoodIn wsX8_rewind (wsV RX8 22 RX8 yX8_advance wsX8_advance) := goodIn_app (goodIn_sub (List.forall_mem_cons.mpr ⟨wrr_wsX8_rewind (i := 2) rfl, (List.forall_mem_cons.mpr ⟨wrr_wsX8_rewind (i := 3) rfl, (List.forall_mem_cons.mpr ⟨wrr_wsX8_rewind (i := 4) rfl, (List.forall_mem_cons.mpr ⟨wrr_wsX8_rewind (i := 5) rfl, (fun _ h => absurd h List.not_mem_nil)⟩)⟩)⟩)⟩) (by decide +kernel)) ggX8_rewind_X8_advance
theorem dX8_rewind_0 : decode cX8_rewind 0 = .ok (.aload_n 0, 1) := by decide +kernel
theorem dX8_rewind_1 : decode cX8_rewind 1 = .ok (.iconst 0, 1) := by decide +kernel
theorem dX8_rewind_2 : decode cX8_rewind 2 = .ok (.putfield 19, 3) := by decide +kernel
theorem dX8_rewind_5 : decode cX8_rewind 5 = .ok (.aload_n 0, 1) := by decide +kernel
theorem dX8_rewind_6 : decode cX8_rewind 6 = .ok (.invokevirtual 22, 3) := by decide +kernel
theorem dX8_rewind_9 : decode cX8_rewind 9 = .ok (.return_, 1) := by decide +kernel
theorem wrr_wsX8_advance {i : Nat} {w : Cond} (h : wsX8_advance[i]? = some w) : w ∈ wsX8_advance := List.mem_of_getElem? h
theorem wru_wsX8_advance_wsX80 : ∀ w ∈ wsX80, w ∈ wsX8_advance := fun w h => (List.mem_cons_of_mem _ (List.mem_append_right _ h))
set_option maxRecDepth 20000 in
theorem gw_wsX8_kindOf : wsX8_kindOf.all goodWord = true := by decide +kernel
set_option maxRecDepth 20000 in
theorem ggX8_advance_X8_kindOf : GoodIn wsX8_advance wsX8_kindOf := goodIn_sub (List.forall_mem_cons.mpr ⟨wrr_wsX8_advance (i := 14) rfl, (fun _ h => absurd h List.not_mem_nil)⟩) gw_wsX8_kindOf
set_option maxRecDepth 20000 in
theorem gX8_advance_X8_kindOf : GoodIn wsX8_advance (va_wsS RX8 28 yX8_kindOf wsX8_kindOf) := goodIn_app (goodIn_sub (List.forall_mem_cons.mpr ⟨wrr_wsX8_advance (i := 11) rfl, (List.forall_mem_cons.mpr ⟨wrr_wsX8_advance (i := 12) rfl, (List.forall_mem_cons.mpr ⟨wrr_wsX8_advance (i := 13) rfl, (fun _ h => absurd h List.not_mem_nil)⟩)⟩)⟩) (by decide +kernel)) ggX8_advance_X8_kindOf
theorem dX8_advance_0 : decode cX8_advance 0 = .ok (.aload_n 0, 1) := by decide +kernel
theorem dX8_advance_1 : decode cX8_advance 1 = .ok (.aload_n 0, 1) := by decide +kernel
theorem dX8_advance_2 : decode cX8_advance 2 = .ok (.getfield 19, 3) := by decide +kernel
theorem dX8_advance_5 : decode cX8_advance 5 = .ok (.putfield 25, 3) := by decide +kernel
theorem dX8_advance_8 : decode cX8_advance 8 = .ok (.aload_n 0, 1) := by decide +kernel
theorem dX8_advance_9 : decode cX8_advance 9 = .ok (.getfield 25, 3) := by decide +kernel
theorem dX8_advance_12 : decode cX8_advance 12 = .ok (.aload_n 0, 1) := by decide +kernel
theorem dX8_advance_13 : decode cX8_advance 13 = .ok (.getfield 15, 3) := by decide +kernel
theorem dX8_advance_16 : decode cX8_advance 16 = .ok (.if_icmp .ge 32, 3) := by decide +kernel
theorem dX8_advance_19 : decode cX8_advance 19 = .ok (.aload_n 0, 1) := by decide +kernel
theorem dX8_advance_20 : decode cX8_advance 20 = .ok (.getfield 9, 3) := by decide +kernel
theorem dX8_advance_23 : decode cX8_advance 23 = .ok (.aload_n 0, 1) := by decide +kernel
theorem dX8_advance_24 : decode cX8_advance 24 = .ok (.getfield 25, 3) := by decide +kernel
theorem dX8_advance_27 : decode cX8_advance 27 = .ok (.baload, 1) := by decide +kernel
theorem dX8_advance_28 : decode cX8_advance 28 = .ok (.invokestatic 28, 3) := by decide +kernel
theorem dX8_advance_31 : decode cX8_advance 31 = .ok (.iconst 4, 1) := by decide +kernel
theorem dX8_advance_32 : decode cX8_advance 32 = .ok (.if_icmp .ne 16, 3) := by decide +kernel
theorem dX8_advance_35 : decode cX8_advance 35 = .ok (.aload_n 0, 1) := by decide +kernel
theorem dX8_advance_36 : decode cX8_advance 36 = .ok (.dup, 1) := by decide +kernel
theorem dX8_advance_37 : decode cX8_advance 37 = .ok (.getfield 25, 3) := by decide +kernel
theorem dX8_advance_40 : decode cX8_advance 40 = .ok (.iconst 1, 1) := by decide +kernel
theorem dX8_advance_41 : decode cX8_advance 41 = .ok (.iadd, 1) := by decide +kernel
theorem dX8_advance_42 : decode cX8_advance 42 = .ok (.putfield 25, 3) := by decide +kernel
theorem dX8_advance_45 : decode cX8_advance 45 = .ok (.goto (-37), 3) := by decide +kernel
theorem dX8_advance_48 : decode cX8_advance 48 = .ok (.aload_n 0, 1) := by decide +kernel
theorem dX8_advance_49 : decode cX8_advance 49 = .ok (.aload_n 0, 1) := by decide +kernel
theorem dX8_advance_50 : decode cX8_advance 50 = .ok (.getfield 25, 3) := by decide +kernel
theorem dX8_advance_53 : decode cX8_advance 53 = .ok (.putfield 19, 3) := by decide +kernel
theorem dX8_advance_56 : decode cX8_advance 56 = .ok (.aload_n 0, 1) := by decide +kernel
theorem dX8_advance_57 : decode cX8_advance 57 = .ok (.iconst 0, 1) := by decide +kernel
theorem dX8_advance_58 : decode cX8_advance 58 = .ok (.putfield 32, 3) := by decide +kernel
theorem dX8_advance_61 : decode cX8_advance 61 = .ok (.aload_n 0, 1) := by decide +kernel
theorem dX8_advance_62 : decode cX8_advance 62 = .ok (.aload_n 0, 1) := by decide +kernel
theorem dX8_advance_63 : decode cX8_advance 63 = .ok (.getfield 25, 3) := by decide +kernel
theorem dX8_advance_66 : decode cX8_advance 66 = .ok (.aload_n 0, 1) := by decide +kernel
theorem dX8_advance_67 : decode cX8_advance 67 = .ok (.getfield 15, 3) := by decide +kernel
theorem dX8_advance_70 : decode cX8_advance 70 = .ok (.if_icmp .ge 18, 3) := by decide +kernel
theorem dX8_advance_73 : decode cX8_advance 73 = .ok (.aload_n 0, 1) := by decide +kernel
theorem dX8_advance_74 : decode cX8_advance 74 = .ok (.getfield 9, 3) := by decide +kernel
theorem dX8_advance_77 : decode cX8_advance 77 = .ok (.aload_n 0, 1) := by decide +kernel
theorem dX8_advance_78 : decode cX8_advance 78 = .ok (.getfield 25, 3) := by decide +kernel
theorem dX8_advance_81 : decode cX8_advance 81 = .ok (.baload, 1) := by decide +kernel
theorem dX8_advance_82 : decode cX8_advance 82 = .ok (.invokestatic 28, 3) := by decide +kernel
theorem dX8_advance_85 : decode cX8_advance 85 = .ok (.goto 4, 3) := by decide +kernel
theorem dX8_advance_88 : decode cX8_advance 88 = .ok (.iconst 0, 1) := by decide +kernel
theorem dX8_advance_89 : decode cX8_advance 89 = .ok (.putfield 35, 3) := by decide +kernel
theorem dX8_advance_92 : decode cX8_advance 92 = .ok (.aload_n 0, 1) := by decide +kernel
theorem dX8_advance_93 : decode cX8_advance 93 = .ok (.getfield 35, 3) := by decide +kernel
theorem dX8_advance_96 : decode cX8_advance 96 = .ok (.iconst 3, 1) := by decide +kernel
theorem dX8_advance_97 : decode cX8_advance 97 = .ok (.if_icmp .eq 11, 3) := by decide +kernel
theorem dX8_advance_100 : decode cX8_advance 100 = .ok (.aload_n 0, 1) := by decide +kernel
theorem dX8_advance_101 : decode cX8_advance 101 = .ok (.getfield 35, 3) := by decide +kernel
theorem dX8_advance_104 : decode cX8_advance 104 = .ok (.iconst 5, 1) := by decide +kernel
theorem dX8_advance_105 : decode cX8_advance 105 = .ok (.if_icmp .ne 14, 3) := by decide +kernel
theorem dX8_advance_108 : decode cX8_advance 108 = .ok (.aload_n 0, 1) := by decide +kernel
theorem dX8_advance_109 : decode cX8_advance 109 = .ok (.aload_n 0, 1) := by decide +kernel
theorem dX8_advance_110 : decode cX8_advance 110 = .ok (.getfield 25, 3) := by decide +kernel
theorem dX8_advance_113 : decode cX8_advance 113 = .ok (.iconst 1, 1) := by decide +kernel
theorem dX8_advance_114 : decode cX8_advance 114 = .ok (.iadd, 1) := by decide +kernel
theorem dX8_advance_115 : decode cX8_advance 115 = .ok (.putfield 19, 3) := by decide +kernel
theorem dX8_advance_118 : decode cX8_advance 118 = .ok (.return_, 1) := by decide +kernel
theorem dX8_advance_119 : decode cX8_advance 119 = .ok (.aload_n 0, 1) := by decide +kernel
theorem dX8_advance_120 : decode cX8_advance 120 = .ok (.getfield 19, 3) := by decide +kernel
theorem dX8_advance_123 : decode cX8_advance 123 = .ok (.aload_n 0, 1) := by decide +kernel
theorem dX8_advance_124 : decode cX8_advance 124 = .ok (.getfield 15, 3) := by decide +kernel
theorem dX8_advance_127 : decode cX8_advance 127 = .ok (.if_icmp .ge 65, 3) := by decide +kernel
theorem dX8_advance_130 : decode cX8_advance 130 = .ok (.aload_n 0, 1) := by decide +kernel
theorem dX8_advance_131 : decode cX8_advance 131 = .ok (.getfield 9, 3) := by decide +kernel
theorem dX8_advance_134 : decode cX8_advance 134 = .ok (.aload_n 0, 1) := by decide +kernel
theorem dX8_advance_135 : decode cX8_advance 135 = .ok (.getfield 19, 3) := by decide +kernel
theorem dX8_advance_138 : decode cX8_advance 138 = .ok (.baload, 1) := by decide +kernel
theorem dX8_advance_139 : decode cX8_advance 139 = .ok (.invokestatic 28, 3) := by decide +kernel
theorem dX8_advance_142 : decode cX8_advance 142 = .ok (.aload_n 0, 1) := by decide +kernel
theorem dX8_advance_143 : decode cX8_advance 143 = .ok (.getfield 35, 3) := by decide +kernel
theorem dX8_advance_146 : decode cX8_advance 146 = .ok (.if_icmp .ne 46, 3) := by decide +kernel
theorem dX8_advance_149 : decode cX8_advance 149 = .ok (.aload_n 0, 1) := by decide +kernel
theorem dX8_advance_150 : decode cX8_advance 150 = .ok (.aload_n 0, 1) := by decide +kernel
theorem dX8_advance_151 : decode cX8_advance 151 = .ok (.getfield 32, 3) := by decide +kernel
theorem dX8_advance_154 : decode cX8_advance 154 = .ok (.bipush 10, 2) := by decide +kernel
theorem dX8_advance_156 : decode cX8_advance 156 = .ok (.imul, 1) := by decide +kernel
theorem dX8_advance_157 : decode cX8_advance 157 = .ok (.aload_n 0, 1) := by decide +kernel
theorem dX8_advance_158 : decode cX8_advance 158 = .ok (.getfield 9, 3) := by decide +kernel
theorem dX8_advance_161 : decode cX8_advance 161 = .ok (.aload_n 0, 1) := by decide +kernel
theorem dX8_advance_162 : decode cX8_advance 162 = .ok (.getfield 19, 3) := by decide +kernel
theorem dX8_advance_165 : decode cX8_advance 165 = .ok (.baload, 1) := by decide +kernel
theorem dX8_advance_166 : decode cX8_advance 166 = .ok (.iadd, 1) := by decide +kernel
theorem dX8_advance_167 : decode cX8_advance 167 = .ok (.bipush 48, 2) := by decide +kernel
theorem dX8_advance_169 : decode cX8_advance 169 = .ok (.isub, 1) := by decide +kernel
theorem dX8_advance_170 : decode cX8_advance 170 = .ok (.sipush 1000, 3) := by decide +kernel
theorem dX8_advance_173 : decode cX8_advance 173 = .ok (.invokestatic 38, 3) := by decide +kernel
theorem dX8_advance_176 : decode cX8_advance 176 = .ok (.putfield 32, 3) := by decide +kernel
theorem dX8_advance_179 : decode cX8_advance 179 = .ok (.aload_n 0, 1) := by decide +kernel
theorem dX8_advance_180 : decode cX8_advance 180 = .ok (.dup, 1) := by decide +kernel
theorem dX8_advance_181 : decode cX8_advance 181 = .ok (.getfield 19, 3) := by decide +kernel
theorem dX8_advance_184 : decode cX8_advance 184 = .ok (.iconst 1, 1) := by decide +kernel
theorem dX8_advance_185 : decode cX8_advance 185 = .ok (.iadd, 1) := by decide +kernel
theorem dX8_advance_186 : decode cX8_advance 186 = .ok (.putfield 19, 3) := by decide +kernel
theorem dX8_advance_189 : decode cX8_advance 189 = .ok (.goto (-70), 3) := by decide +kernel
theorem dX8_advance_192 : decode cX8_advance 192 = .ok (.return_, 1) := by decide +kernel
theorem wrr_wsX8_isWord {i : Nat} {w : Cond} (h : wsX8_isWord[i]? = some w) : w ∈ wsX8_isWord := List.mem_of_getElem? h
theorem wrr_wsX8_isWord_wsX8_isWord_r1 {i : Nat} {w : Cond} (h : wsX8_isWord_r1[i]? = some w) : w ∈ wsX8_isWord := (List.mem_cons_of_mem _ (List.mem_append_left _ (List.mem_append_left _ (List.mem_of_getElem? h))))
theorem wrr_wsX8_isWord_wsX8_isWord_r2 {i : Nat} {w : Cond} (h : wsX8_isWord_r2[i]? = some w) : w ∈ wsX8_isWord := (List.mem_cons_of_mem _ (List.mem_append_left _ (List.mem_append_right _ (List.mem_append_left _ (List.mem_of_getElem? h)))))
theorem wrr_wsX8_isWord_wsX8_isWord_r3 {i : Nat} {w : Cond} (h : wsX8_isWord_r3[i]? = some w) : w ∈ wsX8_isWord := (List.mem_cons_of_mem _ (List.mem_append_left _ (List.mem_append_right _ (List.mem_append_right _ (List.mem_of_getElem? h)))))
theorem wru_wsX8_isWord_wsX80 : ∀ w ∈ wsX80, w ∈ wsX8_isWord := fun w h => (List.mem_cons_of_mem _ (List.mem_append_right _ h))
set_option maxRecDepth 20000 in
theorem gw_wsJ0_length_8abf5 : wsJ0_length_8abf5.all goodWord = true := by decide +kernel
set_option maxRecDepth 20000 in
theorem ggX8_isWord_J0_length_8abf5 : GoodIn wsX8_isWord wsJ0_length_8abf5 := goodIn_sub (List.forall_mem_cons.mpr ⟨wrr_wsX8_isWord_wsX8_isWord_r1 (i := 8) rfl, (List.forall_mem_cons.mpr ⟨wrr_wsX8_isWord_wsX8_isWord_r1 (i := 9) rfl, (List.forall_mem_cons.mpr ⟨wrr_wsX8_isWord_wsX8_isWord_r1 (i := 10) rfl, (List.forall_mem_cons.mpr ⟨wrr_wsX8_isWord_wsX8_isWord_r1 (i := 11) rfl, (List.forall_mem_cons.mpr ⟨wrr_wsX8_isWord_wsX8_isWord_r1 (i := 12) rfl, (List.forall_mem_cons.mpr ⟨wrr_wsX8_isWord_wsX8_isWord_r1 (i := 7) rfl, (List.forall_mem_cons.mpr ⟨wrr_wsX8_isWord_wsX8_isWord_r1 (i := 13) rfl, (List.forall_mem_cons.mpr ⟨wrr_wsX8_isWord_wsX8_isWord_r1 (i := 14) rfl, (List.forall_mem_cons.mpr ⟨wrr_wsX8_isWord_wsX8_isWord_r1 (i := 15) rfl, (fun _ h => absurd h List.not_mem_nil)⟩)⟩)⟩)⟩)⟩)⟩)⟩)⟩)⟩) gw_wsJ0_length_8abf5
set_option maxRecDepth 20000 in
theorem gX8_isWord_J0_length_8abf5 : GoodIn wsX8_isWord (wsV RX8 44 RJ0 yJ0_length_8abf5 wsJ0_length_8abf5) := goodIn_app (goodIn_sub (List.forall_mem_cons.mpr ⟨wrr_wsX8_isWord_wsX8_isWord_r1 (i := 4) rfl, (List.forall_mem_cons.mpr ⟨wrr_wsX8_isWord_wsX8_isWord_r1 (i := 5) rfl, (List.forall_mem_cons.mpr ⟨wrr_wsX8_isWord_wsX8_isWord_r1 (i := 6) rfl, (List.forall_mem_cons.mpr ⟨wrr_wsX8_isWord_wsX8_isWord_r1 (i := 7) rfl, (fun _ h => absurd h List.not_mem_nil)⟩)⟩)⟩)⟩) (by decide +kernel)) ggX8_isWord_J0_length_8abf5
set_option maxRecDepth 20000 in
theorem gw_wsJ0_charAt_5068e : wsJ0_charAt_5068e.all goodWord = true := by decide +kernel
set_option maxRecDepth 20000 in
theorem ggX8_isWord_J0_charAt_5068e : GoodIn wsX8_isWord wsJ0_charAt_5068e := goodIn_sub (List.forall_mem_cons.mpr ⟨wrr_wsX8_isWord_wsX8_isWord_r1 (i := 19) rfl, (List.forall_mem_append.mpr ⟨(List.forall_mem_cons.mpr ⟨wrr_wsX8_isWord_wsX8_isWord_r1 (i := 9) rfl, (List.forall_mem_cons.mpr ⟨wrr_wsX8_isWord_wsX8_isWord_r1 (i := 20) rfl, (List.forall_mem_cons.mpr ⟨wrr_wsX8_isWord_wsX8_isWord_r1 (i := 21) rfl, (List.forall_mem_cons.mpr ⟨wrr_wsX8_isWord_wsX8_isWord_r1 (i := 22) rfl, (List.forall_mem_cons.mpr ⟨wrr_wsX8_isWord_wsX8_isWord_r1 (i := 7) rfl, (List.forall_mem_cons.mpr ⟨wrr_wsX8_isWord_wsX8_isWord_r1 (i := 23) rfl, (List.forall_mem_cons.mpr ⟨wrr_wsX8_isWord_wsX8_isWord_r1 (i := 14) rfl, (List.forall_mem_cons.mpr ⟨wrr_wsX8_isWord_wsX8_isWord_r1 (i := 15) rfl, (List.forall_mem_cons.mpr ⟨wrr_wsX8_isWord_wsX8_isWord_r2 (i := 0) rfl, (List.forall_mem_cons.mpr ⟨wrr_wsX8_isWord_wsX8_isWord_r2 (i := 1) rfl, (List.forall_mem_cons.mpr ⟨wrr_wsX8_isWord_wsX8_isWord_r2 (i := 2) rfl, (List.forall_mem_cons.mpr ⟨wrr_wsX8_isWord_wsX8_isWord_r2 (i := 3) rfl, (List.forall_mem_cons.mpr ⟨wrr_wsX8_isWord_wsX8_isWord_r2 (i := 4) rfl, (List.forall_mem_cons.mpr ⟨wrr_wsX8_isWord_wsX8_isWord_r2 (i := 5) rfl, (List.forall_mem_cons.mpr ⟨wrr_wsX8_isWord_wsX8_isWord_r2 (i := 6) rfl, (List.forall_mem_cons.mpr ⟨wrr_wsX8_isWord_wsX8_isWord_r2 (i := 7) rfl, (List.forall_mem_cons.mpr ⟨wrr_wsX8_isWord_wsX8_isWord_r2 (i := 8) rfl, (List.forall_mem_cons.mpr ⟨wrr_wsX8_isWord_wsX8_isWord_r2 (i := 9) rfl, (List.forall_mem_cons.mpr ⟨wrr_wsX8_isWord_wsX8_isWord_r2 (i := 10) rfl, (List.forall_mem_cons.mpr ⟨wrr_wsX8_isWord_wsX8_isWord_r2 (i := 11) rfl, (List.forall_mem_cons.mpr ⟨wrr_wsX8_isWord_wsX8_isWord_r2 (i := 12) rfl, (List.forall_mem_cons.mpr ⟨wrr_wsX8_isWord_wsX8_isWord_r2 (i := 13) rfl, (List.forall_mem_cons.mpr ⟨wrr_wsX8_isWord_wsX8_isWord_r2 (i := 14) rfl, (List.forall_mem_cons.mpr ⟨wrr_wsX8_isWord_wsX8_isWord_r2 (i := 15) rfl, (fun _ h => absurd h List.not_mem_nil)⟩)⟩)⟩)⟩)⟩)⟩)⟩)⟩)⟩)⟩)⟩)⟩)⟩)⟩)⟩)⟩)⟩)⟩)⟩)⟩)⟩)⟩)⟩)⟩), (List.forall_mem_cons.mpr ⟨wrr_wsX8_isWord_wsX8_isWord_r2 (i := 16) rfl, (List.forall_mem_cons.mpr ⟨wrr_wsX8_isWord_wsX8_isWord_r2 (i := 17) rfl, (List.forall_mem_cons.mpr ⟨wrr_wsX8_isWord_wsX8_isWord_r2 (i := 18) rfl, (List.forall_mem_cons.mpr ⟨wrr_wsX8_isWord_wsX8_isWord_r2 (i := 19) rfl, (List.forall_mem_cons.mpr ⟨wrr_wsX8_isWord_wsX8_isWord_r2 (i := 20) rfl, (List.forall_mem_cons.mpr ⟨wrr_wsX8_isWord_wsX8_isWord_r2 (i := 21) rfl, (List.forall_mem_cons.mpr ⟨wrr_wsX8_isWord_wsX8_isWord_r2 (i := 22) rfl, (List.forall_mem_cons.mpr ⟨wrr_wsX8_isWord_wsX8_isWord_r2 (i := 23) rfl, (List.forall_mem_cons.mpr ⟨wrr_wsX8_isWord_wsX8_isWord_r3 (i := 0) rfl, (List.forall_mem_cons.mpr ⟨wrr_wsX8_isWord_wsX8_isWord_r3 (i := 1) rfl, (List.forall_mem_cons.mpr ⟨wrr_wsX8_isWord_wsX8_isWord_r3 (i := 2) rfl, (List.forall_mem_cons.mpr ⟨wrr_wsX8_isWord_wsX8_isWord_r3 (i := 3) rfl, (List.forall_mem_cons.mpr ⟨wrr_wsX8_isWord_wsX8_isWord_r3 (i := 4) rfl, (fun _ h => absurd h List.not_mem_nil)⟩)⟩)⟩)⟩)⟩)⟩)⟩)⟩)⟩)⟩)⟩)⟩)⟩)⟩)⟩) gw_wsJ0_charAt_5068e
set_option maxRecDepth 20000 in
theorem gX8_isWord_J0_charAt_5068e : GoodIn wsX8_isWord (wsV RX8 49 RJ0 yJ0_charAt_5068e wsJ0_charAt_5068e) := goodIn_app (goodIn_sub (List.forall_mem_cons.mpr ⟨wrr_wsX8_isWord_wsX8_isWord_r1 (i := 16) rfl, (List.forall_mem_cons.mpr ⟨wrr_wsX8_isWord_wsX8_isWord_r1 (i := 17) rfl, (List.forall_mem_cons.mpr ⟨wrr_wsX8_isWord_wsX8_isWord_r1 (i := 18) rfl, (List.forall_mem_cons.mpr ⟨wrr_wsX8_isWord_wsX8_isWord_r1 (i := 7) rfl, (fun _ h => absurd h List.not_mem_nil)⟩)⟩)⟩)⟩) (by decide +kernel)) ggX8_isWord_J0_charAt_5068e
theorem dX8_isWord_0 : decode cX8_isWord 0 = .ok (.aload_n 0, 1) := by decide +kernel
theorem dX8_isWord_1 : decode cX8_isWord 1 = .ok (.getfield 35, 3) := by decide +kernel
theorem dX8_isWord_4 : decode cX8_isWord 4 = .ok (.iconst 1, 1) := by decide +kernel
theorem dX8_isWord_5 : decode cX8_isWord 5 = .ok (.if_icmp .ne 19, 3) := by decide +kernel
theorem dX8_isWord_8 : decode cX8_isWord 8 = .ok (.aload_n 0, 1) := by decide +kernel
theorem dX8_isWord_9 : decode cX8_isWord 9 = .ok (.getfield 19, 3) := by decide +kernel
theorem dX8_isWord_12 : decode cX8_isWord 12 = .ok (.aload_n 0, 1) := by decide +kernel
theorem dX8_isWord_13 : decode cX8_isWord 13 = .ok (.getfield 25, 3) := by decide +kernel
theorem dX8_isWord_16 : decode cX8_isWord 16 = .ok (.isub, 1) := by decide +kernel
theorem dX8_isWord_17 : decode cX8_isWord 17 = .ok (.aload_n 1, 1) := by decide +kernel
theorem dX8_isWord_18 : decode cX8_isWord 18 = .ok (.invokevirtual 44, 3) := by decide +kernel
theorem dX8_isWord_21 : decode cX8_isWord 21 = .ok (.if_icmp .eq 5, 3) := by decide +kernel
theorem dX8_isWord_24 : decode cX8_isWord 24 = .ok (.iconst 0, 1) := by decide +kernel
theorem dX8_isWord_25 : decode cX8_isWord 25 = .ok (.ireturn, 1) := by decide +kernel
theorem dX8_isWord_26 : decode cX8_isWord 26 = .ok (.iconst 0, 1) := by decide +kernel
theorem dX8_isWord_27 : decode cX8_isWord 27 = .ok (.istore_n 2, 1) := by decide +kernel
theorem dX8_isWord_28 : decode cX8_isWord 28 = .ok (.iload_n 2, 1) := by decide +kernel
theorem dX8_isWord_29 : decode cX8_isWord 29 = .ok (.aload_n 1, 1) := by decide +kernel
theorem dX8_isWord_30 : decode cX8_isWord 30 = .ok (.invokevirtual 44, 3) := by decide +kernel
theorem dX8_isWord_33 : decode cX8_isWord 33 = .ok (.if_icmp .ge 30, 3) := by decide +kernel
theorem dX8_isWord_36 : decode cX8_isWord 36 = .ok (.aload_n 0, 1) := by decide +kernel
theorem dX8_isWord_37 : decode cX8_isWord 37 = .ok (.getfield 9, 3) := by decide +kernel
theorem dX8_isWord_40 : decode cX8_isWord 40 = .ok (.aload_n 0, 1) := by decide +kernel
theorem dX8_isWord_41 : decode cX8_isWord 41 = .ok (.getfield 25, 3) := by decide +kernel
theorem dX8_isWord_44 : decode cX8_isWord 44 = .ok (.iload_n 2, 1) := by decide +kernel
theorem dX8_isWord_45 : decode cX8_isWord 45 = .ok (.iadd, 1) := by decide +kernel
theorem dX8_isWord_46 : decode cX8_isWord 46 = .ok (.baload, 1) := by decide +kernel
theorem dX8_isWord_47 : decode cX8_isWord 47 = .ok (.aload_n 1, 1) := by decide +kernel
theorem dX8_isWord_48 : decode cX8_isWord 48 = .ok (.iload_n 2, 1) := by decide +kernel
theorem dX8_isWord_49 : decode cX8_isWord 49 = .ok (.invokevirtual 49, 3) := by decide +kernel
theorem dX8_isWord_52 : decode cX8_isWord 52 = .ok (.if_icmp .eq 5, 3) := by decide +kernel
theorem dX8_isWord_55 : decode cX8_isWord 55 = .ok (.iconst 0, 1) := by decide +kernel
theorem dX8_isWord_56 : decode cX8_isWord 56 = .ok (.ireturn, 1) := by decide +kernel
theorem dX8_isWord_57 : decode cX8_isWord 57 = .ok (.iinc 2 1, 3) := by decide +kernel
theorem dX8_isWord_60 : decode cX8_isWord 60 = .ok (.goto (-32), 3) := by decide +kernel
theorem dX8_isWord_63 : decode cX8_isWord 63 = .ok (.iconst 1, 1) := by decide +kernel
theorem dX8_isWord_64 : decode cX8_isWord 64 = .ok (.ireturn, 1) := by decide +kernel
theorem dX8_kindOf_0 : decode cX8_kindOf 0 = .ok (.iload_n 0, 1) := by decide +kernel
theorem dX8_kindOf_1 : decode cX8_kindOf 1 = .ok (.bipush 32, 2) := by decide +kernel
theorem dX8_kindOf_3 : decode cX8_kindOf 3 = .ok (.if_icmp .eq 9, 3) := by decide +kernel
theorem dX8_kindOf_6 : decode cX8_kindOf 6 = .ok (.iload_n 0, 1) := by decide +kernel
theorem dX8_kindOf_7 : decode cX8_kindOf 7 = .ok (.bipush 10, 2) := by decide +kernel
theorem dX8_kindOf_9 : decode cX8_kindOf 9 = .ok (.if_icmp .ne 5, 3) := by decide +kernel
theorem dX8_kindOf_12 : decode cX8_kindOf 12 = .ok (.iconst 4, 1) := by decide +kernel
theorem dX8_kindOf_13 : decode cX8_kindOf 13 = .ok (.ireturn, 1) := by decide +kernel
theorem dX8_kindOf_14 : decode cX8_kindOf 14 = .ok (.iload_n 0, 1) := by decide +kernel
theorem dX8_kindOf_15 : decode cX8_kindOf 15 = .ok (.bipush 97, 2) := by decide +kernel
theorem dX8_kindOf_17 : decode cX8_kindOf 17 = .ok (.if_icmp .lt 11, 3) := by decide +kernel
theorem dX8_kindOf_20 : decode cX8_kindOf 20 = .ok (.iload_n 0, 1) := by decide +kernel
theorem dX8_kindOf_21 : decode cX8_kindOf 21 = .ok (.bipush 122, 2) := by decide +kernel
theorem dX8_kindOf_23 : decode cX8_kindOf 23 = .ok (.if_icmp .gt 5, 3) := by decide +kernel
theorem dX8_kindOf_26 : decode cX8_kindOf 26 = .ok (.iconst 1, 1) := by decide +kernel
theorem dX8_kindOf_27 : decode cX8_kindOf 27 = .ok (.ireturn, 1) := by decide +kernel
theorem dX8_kindOf_28 : decode cX8_kindOf 28 = .ok (.iload_n 0, 1) := by decide +kernel
theorem dX8_kindOf_29 : decode cX8_kindOf 29 = .ok (.bipush 48, 2) := by decide +kernel
theorem dX8_kindOf_31 : decode cX8_kindOf 31 = .ok (.if_icmp .lt 11, 3) := by decide +kernel
theorem dX8_kindOf_34 : decode cX8_kindOf 34 = .ok (.iload_n 0, 1) := by decide +kernel
theorem dX8_kindOf_35 : decode cX8_kindOf 35 = .ok (.bipush 57, 2) := by decide +kernel
theorem dX8_kindOf_37 : decode cX8_kindOf 37 = .ok (.if_icmp .gt 5, 3) := by decide +kernel
theorem dX8_kindOf_40 : decode cX8_kindOf 40 = .ok (.iconst 2, 1) := by decide +kernel
theorem dX8_kindOf_41 : decode cX8_kindOf 41 = .ok (.ireturn, 1) := by decide +kernel
theorem dX8_kindOf_42 : decode cX8_kindOf 42 = .ok (.iload_n 0, 1) := by decide +kernel
theorem dX8_kindOf_43 : decode cX8_kindOf 43 = .ok (.bipush 59, 2) := by decide +kernel
theorem dX8_kindOf_45 : decode cX8_kindOf 45 = .ok (.if_icmp .ne 7, 3) := by decide +kernel
theorem dX8_kindOf_48 : decode cX8_kindOf 48 = .ok (.iconst 3, 1) := by decide +kernel
theorem dX8_kindOf_49 : decode cX8_kindOf 49 = .ok (.goto 4, 3) := by decide +kernel
theorem dX8_kindOf_52 : decode cX8_kindOf 52 = .ok (.iconst 5, 1) := by decide +kernel
theorem dX8_kindOf_53 : decode cX8_kindOf 53 = .ok (.ireturn, 1) := by decide +kernel
