abbrev cX9_join : ByteArray := prog_11_method_2_code
def yX9_join : MethodName := ⟨RX9, "join", "(LOverHill$Dance;I)V"⟩
abbrev cX9_joinOne : ByteArray := prog_11_method_3_code
def yX9_joinOne : MethodName := ⟨RX9, "joinOne", "(II)V"⟩
abbrev cX9_firstFrom : ByteArray := prog_11_method_4_code
def yX9_firstFrom : MethodName := ⟨RX9, "firstFrom", "(I)J"⟩
abbrev cX9_largestSet : ByteArray := prog_11_method_5_code
def yX9_largestSet : MethodName := ⟨RX9, "largestSet", "(LOverHill$Dance;)I"⟩
abbrev cX10_through : ByteArray := prog_12_method_2_code
def yX10_through : MethodName := ⟨RX10, "through", "(LOverHill$Dance;II)I"⟩
abbrev cX10_findMeeting : ByteArray := prog_12_method_3_code
def yX10_findMeeting : MethodName := ⟨RX10, "findMeeting", "(LOverHill$Dance;II)V"⟩
abbrev cX10_slowest : ByteArray := prog_12_method_4_code
def yX10_slowest : MethodName := ⟨RX10, "slowest", "(LOverHill$Dance;)I"⟩
def wsX9_joinOne : List Cond := .code yX9_joinOne cX9_joinOne 8 none :: ([.constantLong RX9 32 (-1), .fieldLink RX9 15 "OverHill$Tunes" "at" "J", .fieldLink RX9 9 "OverHill$Tunes" "every" "J", .static yX11_commonMultiple, .initialized RX11, .code yX11_commonMultiple cX11_commonMultiple 6 (some .long), .methodLink RX11 347 yX11_commonDivisor, .static yX11_commonDivisor, .code yX11_commonDivisor cX11_commonDivisor 11 (some .long)] ++ wsX90)
def wsX9_join : List Cond := .code yX9_join cX9_join 4 none :: ([.fieldLink RX9 9 "OverHill$Tunes" "every" "J", .fieldLink RX9 15 "OverHill$Tunes" "at" "J", .fieldLink RX9 18 "OverHill$Dance" "tuneCount" "I", .fieldLink RX9 24 "OverHill$Dance" "tunes" "[I", .methodLink RX9 28 yX9_joinOne, .instanceMethod yX9_joinOne, .selects RX9 yX9_joinOne yX9_joinOne, .initialized RX9, .code yX9_joinOne cX9_joinOne 8 none, .constantLong RX9 32 (-1), .static yX11_commonMultiple, .initialized RX11, .code yX11_commonMultiple cX11_commonMultiple 6 (some .long), .methodLink RX11 347 yX11_commonDivisor, .static yX11_commonDivisor, .code yX11_commonDivisor cX11_commonDivisor 11 (some .long)] ++ wsX90 ++ wsX00)
def wsX9_firstFrom : List Cond := .code yX9_firstFrom cX9_firstFrom 2 (some .long) :: ([.fieldLink RX9 15 "OverHill$Tunes" "at" "J", .constantLong RX9 32 (-1), .fieldLink RX9 9 "OverHill$Tunes" "every" "J", .methodLink RX9 38 yJ9_floorMod_f86c9, .static yJ9_floorMod_f86c9, .initialized RJ9, .code yJ9_floorMod_f86c9 cJ9_floorMod_f86c9 6 (some .long)] ++ wsX90)
def wsX9_largestSet_r1 : List Cond := [Cond.fieldLink RX9 18 "OverHill$Dance" "tuneCount" "I", Cond.fieldLink RX9 15 "OverHill$Tunes" "at" "J", Cond.constantLong RX9 32 (-1), Cond.methodLink RX9 43 yJ6_bitCount_0f7a4, Cond.static yJ6_bitCount_0f7a4, Cond.initialized RJ6, Cond.code yJ6_bitCount_0f7a4 cJ6_bitCount_0f7a4 1 (some .int), Cond.constant RJ6 265 (1431655765), Cond.constant RJ6 266 (858993459), Cond.constant RJ6 267 (252645135), Cond.methodLink RX9 49 yX9_join, Cond.instanceMethod yX9_join, Cond.selects RX9 yX9_join yX9_join, Cond.initialized RX9, Cond.code yX9_join cX9_join 4 none, Cond.fieldLink RX9 9 "OverHill$Tunes" "every" "J", Cond.fieldLink RX9 24 "OverHill$Dance" "tunes" "[I", Cond.methodLink RX9 28 yX9_joinOne, Cond.instanceMethod yX9_joinOne, Cond.selects RX9 yX9_joinOne yX9_joinOne, Cond.code yX9_joinOne cX9_joinOne 8 none, Cond.static yX11_commonMultiple, Cond.initialized RX11, Cond.code yX11_commonMultiple cX11_commonMultiple 6 (some .long)]
def wsX9_largestSet_r2 : List Cond := [Cond.methodLink RX11 347 yX11_commonDivisor, Cond.static yX11_commonDivisor, Cond.code yX11_commonDivisor cX11_commonDivisor 11 (some .long)]
def wsX9_largestSet : List Cond := .code yX9_largestSet cX9_largestSet 4 (some .int) :: ((wsX9_largestSet_r1 ++ wsX9_largestSet_r2) ++ wsX00 ++ wsX90)
def wsX10_through : List Cond := .code yX10_through cX10_through 9 (some .int) :: ([.fieldLink RX10 15 "OverHill$Dance" "cellCount" "I", .fieldLink RX10 21 "OverHill$Dance" "cells" "[I", .fieldLink RX10 9 "OverHill$Wood" "arrivals" "[I", .static yX11_wrap, .initialized RX11, .code yX11_wrap cX11_wrap 2 (some .int), .methodLink RX11 451 yJ9_floorMod_7cf53, .static yJ9_floorMod_7cf53, .initialized RJ9, .code yJ9_floorMod_7cf53 cJ9_floorMod_7cf53 3 (some .int)] ++ wsX00 ++ wsX100)
def wsX10_findMeeting : List Cond := .code yX10_findMeeting cX10_findMeeting 6 none :: ([.fieldLink RX10 32 "OverHill$Wood" "meetingBeat" "I", .fieldLink RX10 35 "OverHill$Wood" "meetingCell" "I", .fieldLink RX10 15 "OverHill$Dance" "cellCount" "I", .fieldLink RX10 9 "OverHill$Wood" "arrivals" "[I", .methodLink RX10 38 Lib.Math.max.name, .static Lib.Math.max.name, .initialized "java/lang/Math", .code Lib.Math.max.name Lib.Math.max.code 2 (some .int), .methodLink RX10 28 yX10_through, .instanceMethod yX10_through, .selects RX10 yX10_through yX10_through, .initialized RX10, .code yX10_through cX10_through 9 (some .int), .fieldLink RX10 21 "OverHill$Dance" "cells" "[I", .static yX11_wrap, .initialized RX11, .code yX11_wrap cX11_wrap 2 (some .int), .methodLink RX11 451 yJ9_floorMod_7cf53, .static yJ9_floorMod_7cf53, .initialized RJ9, .code yJ9_floorMod_7cf53 cJ9_floorMod_7cf53 3 (some .int)] ++ wsX100 ++ wsX00)
def wsX10_slowest : List Cond := .code yX10_slowest cX10_slowest 4 (some .int) :: ([.methodLink RX10 38 Lib.Math.max.name, .static Lib.Math.max.name, .initialized "java/lang/Math", .code Lib.Math.max.name Lib.Math.max.code 2 (some .int), .methodLink RX10 28 yX10_through, .instanceMethod yX10_through, .selects RX10 yX10_through yX10_through, .initialized RX10, .code yX10_through cX10_through 9 (some .int), .fieldLink RX10 15 "OverHill$Dance" "cellCount" "I", .fieldLink RX10 21 "OverHill$Dance" "cells" "[I", .fieldLink RX10 9 "OverHill$Wood" "arrivals" "[I", .static yX11_wrap, .initialized RX11, .code yX11_wrap cX11_wrap 2 (some .int), .methodLink RX11 451 yJ9_floorMod_7cf53, .static yJ9_floorMod_7cf53, .initialized RJ9, .code yJ9_floorMod_7cf53 cJ9_floorMod_7cf53 3 (some .int)] ++ wsX00 ++ wsX100)
theorem wrr_wsX9_join {i : Nat} {w : Cond} (h : wsX9_join[i]? = some w) : w ∈ wsX9_join := List.mem_of_getElem? h
theorem wru_wsX9_join_wsX90 : ∀ w ∈ wsX90, w ∈ wsX9_join := fun w h => (List.mem_cons_of_mem _ (List.mem_append_left _ (List.mem_append_right _ h)))
theorem wru_wsX9_join_wsX00 : ∀ w ∈ wsX00, w ∈ wsX9_join := fun w h => (List.mem_cons_of_mem _ (List.mem_append_right _ h))
set_option maxRecDepth 20000 in
theorem gw_wsX9_joinOne : wsX9_joinOne.all goodWord = true := by decide +kernel
set_option maxRecDepth 20000 in
theorem ggX9_join_X9_joinOne : GoodIn wsX9_join wsX9_joinOne := goodIn_sub (List.forall_mem_cons.mpr ⟨wrr_wsX9_join (i := 9) rfl, (List.forall_mem_append.mpr ⟨(List.forall_mem_cons.mpr ⟨wrr_wsX9_join (i := 10) rfl, (List.forall_mem_cons.mpr ⟨wrr_wsX9_join (i := 2) rfl, (List.forall_mem_cons.mpr ⟨wrr_wsX9_join (i := 1) rfl, (List.forall_mem_cons.mpr ⟨wrr_wsX9_join (i := 11) rfl, (List.forall_mem_cons.mpr ⟨wrr_wsX9_join (i := 12) rfl, (List.forall_mem_cons.mpr ⟨wrr_wsX9_join (i := 13) rfl, (List.forall_mem_cons.mpr ⟨wrr_wsX9_join (i := 14) rfl, (List.forall_mem_cons.mpr ⟨wrr_wsX9_join (i := 15) rfl, (List.forall_mem_cons.mpr ⟨wrr_wsX9_join (i := 16) rfl, (fun _ h => absurd h List.not_mem_nil)⟩)⟩)⟩)⟩)⟩)⟩)⟩)⟩)⟩), wru_wsX9_join_wsX90⟩)⟩) gw_wsX9_joinOne
set_option maxRecDepth 20000 in
theorem gX9_join_X9_joinOne : GoodIn wsX9_join (wsV RX9 28 RX9 yX9_joinOne wsX9_joinOne) := goodIn_app (goodIn_sub (List.forall_mem_cons.mpr ⟨wrr_wsX9_join (i := 5) rfl, (List.forall_mem_cons.mpr ⟨wrr_wsX9_join (i := 6) rfl, (List.forall_mem_cons.mpr ⟨wrr_wsX9_join (i := 7) rfl, (List.forall_mem_cons.mpr ⟨wrr_wsX9_join (i := 8) rfl, (fun _ h => absurd h List.not_mem_nil)⟩)⟩)⟩)⟩) (by decide +kernel)) ggX9_join_X9_joinOne
theorem dX9_join_0 : decode cX9_join 0 = .ok (.aload_n 0, 1) := by decide +kernel
theorem dX9_join_1 : decode cX9_join 1 = .ok (.lconst 1, 1) := by decide +kernel
theorem dX9_join_2 : decode cX9_join 2 = .ok (.putfield 9, 3) := by decide +kernel
theorem dX9_join_5 : decode cX9_join 5 = .ok (.aload_n 0, 1) := by decide +kernel
theorem dX9_join_6 : decode cX9_join 6 = .ok (.lconst 0, 1) := by decide +kernel
theorem dX9_join_7 : decode cX9_join 7 = .ok (.putfield 15, 3) := by decide +kernel
theorem dX9_join_10 : decode cX9_join 10 = .ok (.iconst 0, 1) := by decide +kernel
theorem dX9_join_11 : decode cX9_join 11 = .ok (.istore_n 3, 1) := by decide +kernel
theorem dX9_join_12 : decode cX9_join 12 = .ok (.iload_n 3, 1) := by decide +kernel
theorem dX9_join_13 : decode cX9_join 13 = .ok (.aload_n 1, 1) := by decide +kernel
theorem dX9_join_14 : decode cX9_join 14 = .ok (.getfield 18, 3) := by decide +kernel
theorem dX9_join_17 : decode cX9_join 17 = .ok (.if_icmp .ge 39, 3) := by decide +kernel
theorem dX9_join_20 : decode cX9_join 20 = .ok (.iload_n 2, 1) := by decide +kernel
theorem dX9_join_21 : decode cX9_join 21 = .ok (.iload_n 3, 1) := by decide +kernel
theorem dX9_join_22 : decode cX9_join 22 = .ok (.ishr, 1) := by decide +kernel
theorem dX9_join_23 : decode cX9_join 23 = .ok (.iconst 1, 1) := by decide +kernel
theorem dX9_join_24 : decode cX9_join 24 = .ok (.iand, 1) := by decide +kernel
theorem dX9_join_25 : decode cX9_join 25 = .ok (.ifCond .eq 25, 3) := by decide +kernel
theorem dX9_join_28 : decode cX9_join 28 = .ok (.aload_n 0, 1) := by decide +kernel
theorem dX9_join_29 : decode cX9_join 29 = .ok (.aload_n 1, 1) := by decide +kernel
theorem dX9_join_30 : decode cX9_join 30 = .ok (.getfield 24, 3) := by decide +kernel
theorem dX9_join_33 : decode cX9_join 33 = .ok (.iload_n 3, 1) := by decide +kernel
theorem dX9_join_34 : decode cX9_join 34 = .ok (.iconst 2, 1) := by decide +kernel
theorem dX9_join_35 : decode cX9_join 35 = .ok (.imul, 1) := by decide +kernel
theorem dX9_join_36 : decode cX9_join 36 = .ok (.iaload, 1) := by decide +kernel
theorem dX9_join_37 : decode cX9_join 37 = .ok (.aload_n 1, 1) := by decide +kernel
theorem dX9_join_38 : decode cX9_join 38 = .ok (.getfield 24, 3) := by decide +kernel
theorem dX9_join_41 : decode cX9_join 41 = .ok (.iload_n 3, 1) := by decide +kernel
theorem dX9_join_42 : decode cX9_join 42 = .ok (.iconst 2, 1) := by decide +kernel
theorem dX9_join_43 : decode cX9_join 43 = .ok (.imul, 1) := by decide +kernel
theorem dX9_join_44 : decode cX9_join 44 = .ok (.iconst 1, 1) := by decide +kernel
theorem dX9_join_45 : decode cX9_join 45 = .ok (.iadd, 1) := by decide +kernel
theorem dX9_join_46 : decode cX9_join 46 = .ok (.iaload, 1) := by decide +kernel
theorem dX9_join_47 : decode cX9_join 47 = .ok (.invokevirtual 28, 3) := by decide +kernel
theorem dX9_join_50 : decode cX9_join 50 = .ok (.iinc 3 1, 3) := by decide +kernel
theorem dX9_join_53 : decode cX9_join 53 = .ok (.goto (-41), 3) := by decide +kernel
theorem dX9_join_56 : decode cX9_join 56 = .ok (.return_, 1) := by decide +kernel
theorem wrr_wsX9_joinOne {i : Nat} {w : Cond} (h : wsX9_joinOne[i]? = some w) : w ∈ wsX9_joinOne := List.mem_of_getElem? h
theorem wru_wsX9_joinOne_wsX90 : ∀ w ∈ wsX90, w ∈ wsX9_joinOne := fun w h => (List.mem_cons_of_mem _ (List.mem_append_right _ h))
set_option maxRecDepth 20000 in
theorem ggX9_joinOne_X11_commonMultiple : GoodIn wsX9_joinOne wsX11_commonMultiple := goodIn_sub (List.forall_mem_cons.mpr ⟨wrr_wsX9_joinOne (i := 6) rfl, (List.forall_mem_cons.mpr ⟨wrr_wsX9_joinOne (i := 7) rfl, (List.forall_mem_cons.mpr ⟨wrr_wsX9_joinOne (i := 8) rfl, (List.forall_mem_cons.mpr ⟨wrr_wsX9_joinOne (i := 5) rfl, (List.forall_mem_cons.mpr ⟨wrr_wsX9_joinOne (i := 9) rfl, (fun _ h => absurd h List.not_mem_nil)⟩)⟩)⟩)⟩)⟩) gw_wsX11_commonMultiple
set_option maxRecDepth 20000 in
theorem gX9_joinOne_X11_commonMultiple_n34 : GoodIn wsX9_joinOne (wsX11_commonMultiple) := ggX9_joinOne_X11_commonMultiple
theorem dX9_joinOne_0 : decode cX9_joinOne 0 = .ok (.ldc2_w 32, 3) := by decide +kernel
theorem dX9_joinOne_3 : decode cX9_joinOne 3 = .ok (.lstore_n 3, 1) := by decide +kernel
theorem dX9_joinOne_4 : decode cX9_joinOne 4 = .ok (.iconst 0, 1) := by decide +kernel
theorem dX9_joinOne_5 : decode cX9_joinOne 5 = .ok (.istore 5, 2) := by decide +kernel
theorem dX9_joinOne_7 : decode cX9_joinOne 7 = .ok (.iload 5, 2) := by decide +kernel
theorem dX9_joinOne_9 : decode cX9_joinOne 9 = .ok (.iload_n 1, 1) := by decide +kernel
theorem dX9_joinOne_10 : decode cX9_joinOne 10 = .ok (.if_icmp .ge 57, 3) := by decide +kernel
theorem dX9_joinOne_13 : decode cX9_joinOne 13 = .ok (.aload_n 0, 1) := by decide +kernel
theorem dX9_joinOne_14 : decode cX9_joinOne 14 = .ok (.getfield 15, 3) := by decide +kernel
theorem dX9_joinOne_17 : decode cX9_joinOne 17 = .ok (.ldc2_w 32, 3) := by decide +kernel
theorem dX9_joinOne_20 : decode cX9_joinOne 20 = .ok (.lcmp, 1) := by decide +kernel
theorem dX9_joinOne_21 : decode cX9_joinOne 21 = .ok (.ifCond .eq 46, 3) := by decide +kernel
theorem dX9_joinOne_24 : decode cX9_joinOne 24 = .ok (.lload_n 3, 1) := by decide +kernel
theorem dX9_joinOne_25 : decode cX9_joinOne 25 = .ok (.ldc2_w 32, 3) := by decide +kernel
theorem dX9_joinOne_28 : decode cX9_joinOne 28 = .ok (.lcmp, 1) := by decide +kernel
theorem dX9_joinOne_29 : decode cX9_joinOne 29 = .ok (.ifCond .ne 38, 3) := by decide +kernel
theorem dX9_joinOne_32 : decode cX9_joinOne 32 = .ok (.aload_n 0, 1) := by decide +kernel
theorem dX9_joinOne_33 : decode cX9_joinOne 33 = .ok (.getfield 15, 3) := by decide +kernel
theorem dX9_joinOne_36 : decode cX9_joinOne 36 = .ok (.iload 5, 2) := by decide +kernel
theorem dX9_joinOne_38 : decode cX9_joinOne 38 = .ok (.i2l, 1) := by decide +kernel
theorem dX9_joinOne_39 : decode cX9_joinOne 39 = .ok (.aload_n 0, 1) := by decide +kernel
theorem dX9_joinOne_40 : decode cX9_joinOne 40 = .ok (.getfield 9, 3) := by decide +kernel
theorem dX9_joinOne_43 : decode cX9_joinOne 43 = .ok (.lmul, 1) := by decide +kernel
theorem dX9_joinOne_44 : decode cX9_joinOne 44 = .ok (.ladd, 1) := by decide +kernel
theorem dX9_joinOne_45 : decode cX9_joinOne 45 = .ok (.lstore 6, 2) := by decide +kernel
theorem dX9_joinOne_47 : decode cX9_joinOne 47 = .ok (.lload 6, 2) := by decide +kernel
theorem dX9_joinOne_49 : decode cX9_joinOne 49 = .ok (.iload_n 1, 1) := by decide +kernel
theorem dX9_joinOne_50 : decode cX9_joinOne 50 = .ok (.i2l, 1) := by decide +kernel
theorem dX9_joinOne_51 : decode cX9_joinOne 51 = .ok (.lrem, 1) := by decide +kernel
theorem dX9_joinOne_52 : decode cX9_joinOne 52 = .ok (.iload_n 2, 1) := by decide +kernel
theorem dX9_joinOne_53 : decode cX9_joinOne 53 = .ok (.i2l, 1) := by decide +kernel
theorem dX9_joinOne_54 : decode cX9_joinOne 54 = .ok (.lcmp, 1) := by decide +kernel
theorem dX9_joinOne_55 : decode cX9_joinOne 55 = .ok (.ifCond .ne 6, 3) := by decide +kernel
theorem dX9_joinOne_58 : decode cX9_joinOne 58 = .ok (.lload 6, 2) := by decide +kernel
theorem dX9_joinOne_60 : decode cX9_joinOne 60 = .ok (.lstore_n 3, 1) := by decide +kernel
theorem dX9_joinOne_61 : decode cX9_joinOne 61 = .ok (.iinc 5 1, 3) := by decide +kernel
theorem dX9_joinOne_64 : decode cX9_joinOne 64 = .ok (.goto (-57), 3) := by decide +kernel
theorem dX9_joinOne_67 : decode cX9_joinOne 67 = .ok (.aload_n 0, 1) := by decide +kernel
theorem dX9_joinOne_68 : decode cX9_joinOne 68 = .ok (.lload_n 3, 1) := by decide +kernel
theorem dX9_joinOne_69 : decode cX9_joinOne 69 = .ok (.putfield 15, 3) := by decide +kernel
theorem dX9_joinOne_72 : decode cX9_joinOne 72 = .ok (.aload_n 0, 1) := by decide +kernel
theorem dX9_joinOne_73 : decode cX9_joinOne 73 = .ok (.aload_n 0, 1) := by decide +kernel
theorem dX9_joinOne_74 : decode cX9_joinOne 74 = .ok (.getfield 9, 3) := by decide +kernel
theorem dX9_joinOne_77 : decode cX9_joinOne 77 = .ok (.iload_n 1, 1) := by decide +kernel
theorem dX9_joinOne_78 : decode cX9_joinOne 78 = .ok (.i2l, 1) := by decide +kernel
theorem dX9_joinOne_79 : decode cX9_joinOne 79 = .ok (.invokestatic 34, 3) := by decide +kernel
theorem dX9_joinOne_82 : decode cX9_joinOne 82 = .ok (.putfield 9, 3) := by decide +kernel
theorem dX9_joinOne_85 : decode cX9_joinOne 85 = .ok (.return_, 1) := by decide +kernel
theorem wrr_wsX9_firstFrom {i : Nat} {w : Cond} (h : wsX9_firstFrom[i]? = some w) : w ∈ wsX9_firstFrom := List.mem_of_getElem? h
theorem wru_wsX9_firstFrom_wsX90 : ∀ w ∈ wsX90, w ∈ wsX9_firstFrom := fun w h => (List.mem_cons_of_mem _ (List.mem_append_right _ h))
set_option maxRecDepth 20000 in
theorem gw_wsJ9_floorMod_f86c9 : wsJ9_floorMod_f86c9.all goodWord = true := by decide +kernel
set_option maxRecDepth 20000 in
theorem ggX9_firstFrom_J9_floorMod_f86c9 : GoodIn wsX9_firstFrom wsJ9_floorMod_f86c9 := goodIn_sub (List.forall_mem_cons.mpr ⟨wrr_wsX9_firstFrom (i := 7) rfl, (fun _ h => absurd h List.not_mem_nil)⟩) gw_wsJ9_floorMod_f86c9
set_option maxRecDepth 20000 in
theorem gX9_firstFrom_J9_floorMod_f86c9 : GoodIn wsX9_firstFrom (va_wsS RX9 38 yJ9_floorMod_f86c9 wsJ9_floorMod_f86c9) := goodIn_app (goodIn_sub (List.forall_mem_cons.mpr ⟨wrr_wsX9_firstFrom (i := 4) rfl, (List.forall_mem_cons.mpr ⟨wrr_wsX9_firstFrom (i := 5) rfl, (List.forall_mem_cons.mpr ⟨wrr_wsX9_firstFrom (i := 6) rfl, (fun _ h => absurd h List.not_mem_nil)⟩)⟩)⟩) (by decide +kernel)) ggX9_firstFrom_J9_floorMod_f86c9
theorem dX9_firstFrom_0 : decode cX9_firstFrom 0 = .ok (.aload_n 0, 1) := by decide +kernel
theorem dX9_firstFrom_1 : decode cX9_firstFrom 1 = .ok (.getfield 15, 3) := by decide +kernel
theorem dX9_firstFrom_4 : decode cX9_firstFrom 4 = .ok (.ldc2_w 32, 3) := by decide +kernel
theorem dX9_firstFrom_7 : decode cX9_firstFrom 7 = .ok (.lcmp, 1) := by decide +kernel
theorem dX9_firstFrom_8 : decode cX9_firstFrom 8 = .ok (.ifCond .eq 12, 3) := by decide +kernel
theorem dX9_firstFrom_11 : decode cX9_firstFrom 11 = .ok (.aload_n 0, 1) := by decide +kernel
theorem dX9_firstFrom_12 : decode cX9_firstFrom 12 = .ok (.getfield 9, 3) := by decide +kernel
theorem dX9_firstFrom_15 : decode cX9_firstFrom 15 = .ok (.lconst 0, 1) := by decide +kernel
theorem dX9_firstFrom_16 : decode cX9_firstFrom 16 = .ok (.lcmp, 1) := by decide +kernel
theorem dX9_firstFrom_17 : decode cX9_firstFrom 17 = .ok (.ifCond .gt 7, 3) := by decide +kernel
theorem dX9_firstFrom_20 : decode cX9_firstFrom 20 = .ok (.ldc2_w 32, 3) := by decide +kernel
theorem dX9_firstFrom_23 : decode cX9_firstFrom 23 = .ok (.lreturn, 1) := by decide +kernel
theorem dX9_firstFrom_24 : decode cX9_firstFrom 24 = .ok (.iload_n 1, 1) := by decide +kernel
theorem dX9_firstFrom_25 : decode cX9_firstFrom 25 = .ok (.i2l, 1) := by decide +kernel
theorem dX9_firstFrom_26 : decode cX9_firstFrom 26 = .ok (.aload_n 0, 1) := by decide +kernel
theorem dX9_firstFrom_27 : decode cX9_firstFrom 27 = .ok (.getfield 15, 3) := by decide +kernel
theorem dX9_firstFrom_30 : decode cX9_firstFrom 30 = .ok (.iload_n 1, 1) := by decide +kernel
theorem dX9_firstFrom_31 : decode cX9_firstFrom 31 = .ok (.i2l, 1) := by decide +kernel
theorem dX9_firstFrom_32 : decode cX9_firstFrom 32 = .ok (.lsub, 1) := by decide +kernel
theorem dX9_firstFrom_33 : decode cX9_firstFrom 33 = .ok (.aload_n 0, 1) := by decide +kernel
theorem dX9_firstFrom_34 : decode cX9_firstFrom 34 = .ok (.getfield 9, 3) := by decide +kernel
theorem dX9_firstFrom_37 : decode cX9_firstFrom 37 = .ok (.invokestatic 38, 3) := by decide +kernel
theorem dX9_firstFrom_40 : decode cX9_firstFrom 40 = .ok (.ladd, 1) := by decide +kernel
theorem dX9_firstFrom_41 : decode cX9_firstFrom 41 = .ok (.lreturn, 1) := by decide +kernel
theorem wrr_wsX9_largestSet {i : Nat} {w : Cond} (h : wsX9_largestSet[i]? = some w) : w ∈ wsX9_largestSet := List.mem_of_getElem? h
theorem wrr_wsX9_largestSet_wsX9_largestSet_r1 {i : Nat} {w : Cond} (h : wsX9_largestSet_r1[i]? = some w) : w ∈ wsX9_largestSet := (List.mem_cons_of_mem _ (List.mem_append_left _ (List.mem_append_left _ (List.mem_append_left _ (List.mem_of_getElem? h)))))
theorem wrr_wsX9_largestSet_wsX9_largestSet_r2 {i : Nat} {w : Cond} (h : wsX9_largestSet_r2[i]? = some w) : w ∈ wsX9_largestSet := (List.mem_cons_of_mem _ (List.mem_append_left _ (List.mem_append_left _ (List.mem_append_right _ (List.mem_of_getElem? h)))))
theorem wru_wsX9_largestSet_wsX00 : ∀ w ∈ wsX00, w ∈ wsX9_largestSet := fun w h => (List.mem_cons_of_mem _ (List.mem_append_left _ (List.mem_append_right _ h)))
theorem wru_wsX9_largestSet_wsX90 : ∀ w ∈ wsX90, w ∈ wsX9_largestSet := fun w h => (List.mem_cons_of_mem _ (List.mem_append_right _ h))
set_option maxRecDepth 20000 in
theorem gw_wsJ6_bitCount_0f7a4 : wsJ6_bitCount_0f7a4.all goodWord = true := by decide +kernel
set_option maxRecDepth 20000 in
theorem ggX9_largestSet_J6_bitCount_0f7a4 : GoodIn wsX9_largestSet wsJ6_bitCount_0f7a4 := goodIn_sub (List.forall_mem_cons.mpr ⟨wrr_wsX9_largestSet_wsX9_largestSet_r1 (i := 6) rfl, (List.forall_mem_cons.mpr ⟨wrr_wsX9_largestSet_wsX9_largestSet_r1 (i := 7) rfl, (List.forall_mem_cons.mpr ⟨wrr_wsX9_largestSet_wsX9_largestSet_r1 (i := 8) rfl, (List.forall_mem_cons.mpr ⟨wrr_wsX9_largestSet_wsX9_largestSet_r1 (i := 9) rfl, (fun _ h => absurd h List.not_mem_nil)⟩)⟩)⟩)⟩) gw_wsJ6_bitCount_0f7a4
set_option maxRecDepth 20000 in
theorem gX9_largestSet_J6_bitCount_0f7a4 : GoodIn wsX9_largestSet (va_wsS RX9 43 yJ6_bitCount_0f7a4 wsJ6_bitCount_0f7a4) := goodIn_app (goodIn_sub (List.forall_mem_cons.mpr ⟨wrr_wsX9_largestSet_wsX9_largestSet_r1 (i := 3) rfl, (List.forall_mem_cons.mpr ⟨wrr_wsX9_largestSet_wsX9_largestSet_r1 (i := 4) rfl, (List.forall_mem_cons.mpr ⟨wrr_wsX9_largestSet_wsX9_largestSet_r1 (i := 5) rfl, (fun _ h => absurd h List.not_mem_nil)⟩)⟩)⟩) (by decide +kernel)) ggX9_largestSet_J6_bitCount_0f7a4
set_option maxRecDepth 20000 in
theorem gw_wsX9_join : wsX9_join.all goodWord = true := by decide +kernel
set_option maxRecDepth 20000 in
theorem ggX9_largestSet_X9_join : GoodIn wsX9_largestSet wsX9_join := goodIn_sub (List.forall_mem_cons.mpr ⟨wrr_wsX9_largestSet_wsX9_largestSet_r1 (i := 14) rfl, (List.forall_mem_append.mpr ⟨(List.forall_mem_append.mpr ⟨(List.forall_mem_cons.mpr ⟨wrr_wsX9_largestSet_wsX9_largestSet_r1 (i := 15) rfl, (List.forall_mem_cons.mpr ⟨wrr_wsX9_largestSet_wsX9_largestSet_r1 (i := 1) rfl, (List.forall_mem_cons.mpr ⟨wrr_wsX9_largestSet_wsX9_largestSet_r1 (i := 0) rfl, (List.forall_mem_cons.mpr ⟨wrr_wsX9_largestSet_wsX9_largestSet_r1 (i := 16) rfl, (List.forall_mem_cons.mpr ⟨wrr_wsX9_largestSet_wsX9_largestSet_r1 (i := 17) rfl, (List.forall_mem_cons.mpr ⟨wrr_wsX9_largestSet_wsX9_largestSet_r1 (i := 18) rfl, (List.forall_mem_cons.mpr ⟨wrr_wsX9_largestSet_wsX9_largestSet_r1 (i := 19) rfl, (List.forall_mem_cons.mpr ⟨wrr_wsX9_largestSet_wsX9_largestSet_r1 (i := 13) rfl, (List.forall_mem_cons.mpr ⟨wrr_wsX9_largestSet_wsX9_largestSet_r1 (i := 20) rfl, (List.forall_mem_cons.mpr ⟨wrr_wsX9_largestSet_wsX9_largestSet_r1 (i := 2) rfl, (List.forall_mem_cons.mpr ⟨wrr_wsX9_largestSet_wsX9_largestSet_r1 (i := 21) rfl, (List.forall_mem_cons.mpr ⟨wrr_wsX9_largestSet_wsX9_largestSet_r1 (i := 22) rfl, (List.forall_mem_cons.mpr ⟨wrr_wsX9_largestSet_wsX9_largestSet_r1 (i := 23) rfl, (List.forall_mem_cons.mpr ⟨wrr_wsX9_largestSet_wsX9_largestSet_r2 (i := 0) rfl, (List.forall_mem_cons.mpr ⟨wrr_wsX9_largestSet_wsX9_largestSet_r2 (i := 1) rfl, (List.forall_mem_cons.mpr ⟨wrr_wsX9_largestSet_wsX9_largestSet_r2 (i := 2) rfl, (fun _ h => absurd h List.not_mem_nil)⟩)⟩)⟩)⟩)⟩)⟩)⟩)⟩)⟩)⟩)⟩)⟩)⟩)⟩)⟩)⟩), wru_wsX9_largestSet_wsX90⟩), wru_wsX9_largestSet_wsX00⟩)⟩) gw_wsX9_join
set_option maxRecDepth 20000 in
theorem gX9_largestSet_X9_join : GoodIn wsX9_largestSet (wsV RX9 49 RX9 yX9_join wsX9_join) := goodIn_app (goodIn_sub (List.forall_mem_cons.mpr ⟨wrr_wsX9_largestSet_wsX9_largestSet_r1 (i := 10) rfl, (List.forall_mem_cons.mpr ⟨wrr_wsX9_largestSet_wsX9_largestSet_r1 (i := 11) rfl, (List.forall_mem_cons.mpr ⟨wrr_wsX9_largestSet_wsX9_largestSet_r1 (i := 12) rfl, (List.forall_mem_cons.mpr ⟨wrr_wsX9_largestSet_wsX9_largestSet_r1 (i := 13) rfl, (fun _ h => absurd h List.not_mem_nil)⟩)⟩)⟩)⟩) (by decide +kernel)) ggX9_largestSet_X9_join
theorem dX9_largestSet_0 : decode cX9_largestSet 0 = .ok (.iconst 0, 1) := by decide +kernel
theorem dX9_largestSet_1 : decode cX9_largestSet 1 = .ok (.istore_n 2, 1) := by decide +kernel
theorem dX9_largestSet_2 : decode cX9_largestSet 2 = .ok (.iconst 1, 1) := by decide +kernel
theorem dX9_largestSet_3 : decode cX9_largestSet 3 = .ok (.istore_n 3, 1) := by decide +kernel
theorem dX9_largestSet_4 : decode cX9_largestSet 4 = .ok (.iload_n 3, 1) := by decide +kernel
theorem dX9_largestSet_5 : decode cX9_largestSet 5 = .ok (.iconst 1, 1) := by decide +kernel
theorem dX9_largestSet_6 : decode cX9_largestSet 6 = .ok (.aload_n 1, 1) := by decide +kernel
theorem dX9_largestSet_7 : decode cX9_largestSet 7 = .ok (.getfield 18, 3) := by decide +kernel
theorem dX9_largestSet_10 : decode cX9_largestSet 10 = .ok (.ishl, 1) := by decide +kernel
theorem dX9_largestSet_11 : decode cX9_largestSet 11 = .ok (.if_icmp .ge 39, 3) := by decide +kernel
theorem dX9_largestSet_14 : decode cX9_largestSet 14 = .ok (.iload_n 3, 1) := by decide +kernel
theorem dX9_largestSet_15 : decode cX9_largestSet 15 = .ok (.invokestatic 43, 3) := by decide +kernel
theorem dX9_largestSet_18 : decode cX9_largestSet 18 = .ok (.iload_n 2, 1) := by decide +kernel
theorem dX9_largestSet_19 : decode cX9_largestSet 19 = .ok (.invokestatic 43, 3) := by decide +kernel
theorem dX9_largestSet_22 : decode cX9_largestSet 22 = .ok (.if_icmp .le 22, 3) := by decide +kernel
theorem dX9_largestSet_25 : decode cX9_largestSet 25 = .ok (.aload_n 0, 1) := by decide +kernel
theorem dX9_largestSet_26 : decode cX9_largestSet 26 = .ok (.aload_n 1, 1) := by decide +kernel
theorem dX9_largestSet_27 : decode cX9_largestSet 27 = .ok (.iload_n 3, 1) := by decide +kernel
theorem dX9_largestSet_28 : decode cX9_largestSet 28 = .ok (.invokevirtual 49, 3) := by decide +kernel
theorem dX9_largestSet_31 : decode cX9_largestSet 31 = .ok (.aload_n 0, 1) := by decide +kernel
theorem dX9_largestSet_32 : decode cX9_largestSet 32 = .ok (.getfield 15, 3) := by decide +kernel
theorem dX9_largestSet_35 : decode cX9_largestSet 35 = .ok (.ldc2_w 32, 3) := by decide +kernel
theorem dX9_largestSet_38 : decode cX9_largestSet 38 = .ok (.lcmp, 1) := by decide +kernel
theorem dX9_largestSet_39 : decode cX9_largestSet 39 = .ok (.ifCond .eq 5, 3) := by decide +kernel
theorem dX9_largestSet_42 : decode cX9_largestSet 42 = .ok (.iload_n 3, 1) := by decide +kernel
theorem dX9_largestSet_43 : decode cX9_largestSet 43 = .ok (.istore_n 2, 1) := by decide +kernel
theorem dX9_largestSet_44 : decode cX9_largestSet 44 = .ok (.iinc 3 1, 3) := by decide +kernel
theorem dX9_largestSet_47 : decode cX9_largestSet 47 = .ok (.goto (-43), 3) := by decide +kernel
theorem dX9_largestSet_50 : decode cX9_largestSet 50 = .ok (.iload_n 2, 1) := by decide +kernel
theorem dX9_largestSet_51 : decode cX9_largestSet 51 = .ok (.ireturn, 1) := by decide +kernel
theorem wrr_wsX10_through {i : Nat} {w : Cond} (h : wsX10_through[i]? = some w) : w ∈ wsX10_through := List.mem_of_getElem? h
theorem wru_wsX10_through_wsX00 : ∀ w ∈ wsX00, w ∈ wsX10_through := fun w h => (List.mem_cons_of_mem _ (List.mem_append_left _ (List.mem_append_right _ h)))
theorem wru_wsX10_through_wsX100 : ∀ w ∈ wsX100, w ∈ wsX10_through := fun w h => (List.mem_cons_of_mem _ (List.mem_append_right _ h))
set_option maxRecDepth 20000 in
theorem ggX10_through_X11_wrap : GoodIn wsX10_through wsX11_wrap := goodIn_sub (List.forall_mem_cons.mpr ⟨wrr_wsX10_through (i := 6) rfl, (List.forall_mem_cons.mpr ⟨wrr_wsX10_through (i := 7) rfl, (List.forall_mem_cons.mpr ⟨wrr_wsX10_through (i := 8) rfl, (List.forall_mem_cons.mpr ⟨wrr_wsX10_through (i := 9) rfl, (List.forall_mem_cons.mpr ⟨wrr_wsX10_through (i := 10) rfl, (fun _ h => absurd h List.not_mem_nil)⟩)⟩)⟩)⟩)⟩) gw_wsX11_wrap
set_option maxRecDepth 20000 in
theorem gX10_through_X11_wrap_n24 : GoodIn wsX10_through (wsX11_wrap) := ggX10_through_X11_wrap
theorem dX10_through_0 : decode cX10_through 0 = .ok (.iload_n 3, 1) := by decide +kernel
theorem dX10_through_1 : decode cX10_through 1 = .ok (.istore 4, 2) := by decide +kernel
theorem dX10_through_3 : decode cX10_through 3 = .ok (.iconst 0, 1) := by decide +kernel
theorem dX10_through_4 : decode cX10_through 4 = .ok (.istore 5, 2) := by decide +kernel
theorem dX10_through_6 : decode cX10_through 6 = .ok (.iload 5, 2) := by decide +kernel
theorem dX10_through_8 : decode cX10_through 8 = .ok (.aload_n 1, 1) := by decide +kernel
theorem dX10_through_9 : decode cX10_through 9 = .ok (.getfield 15, 3) := by decide +kernel
theorem dX10_through_12 : decode cX10_through 12 = .ok (.if_icmp .ge 84, 3) := by decide +kernel
theorem dX10_through_15 : decode cX10_through 15 = .ok (.iload_n 2, 1) := by decide +kernel
theorem dX10_through_16 : decode cX10_through 16 = .ok (.ifCond .ne 8, 3) := by decide +kernel
theorem dX10_through_19 : decode cX10_through 19 = .ok (.iload 5, 2) := by decide +kernel
theorem dX10_through_21 : decode cX10_through 21 = .ok (.goto 12, 3) := by decide +kernel
theorem dX10_through_24 : decode cX10_through 24 = .ok (.aload_n 1, 1) := by decide +kernel
theorem dX10_through_25 : decode cX10_through 25 = .ok (.getfield 15, 3) := by decide +kernel
theorem dX10_through_28 : decode cX10_through 28 = .ok (.iconst 1, 1) := by decide +kernel
theorem dX10_through_29 : decode cX10_through 29 = .ok (.isub, 1) := by decide +kernel
theorem dX10_through_30 : decode cX10_through 30 = .ok (.iload 5, 2) := by decide +kernel
theorem dX10_through_32 : decode cX10_through 32 = .ok (.isub, 1) := by decide +kernel
theorem dX10_through_33 : decode cX10_through 33 = .ok (.istore 6, 2) := by decide +kernel
theorem dX10_through_35 : decode cX10_through 35 = .ok (.aload_n 1, 1) := by decide +kernel
theorem dX10_through_36 : decode cX10_through 36 = .ok (.getfield 21, 3) := by decide +kernel
theorem dX10_through_39 : decode cX10_through 39 = .ok (.iload 6, 2) := by decide +kernel
theorem dX10_through_41 : decode cX10_through 41 = .ok (.iconst 2, 1) := by decide +kernel
theorem dX10_through_42 : decode cX10_through 42 = .ok (.imul, 1) := by decide +kernel
theorem dX10_through_43 : decode cX10_through 43 = .ok (.iaload, 1) := by decide +kernel
theorem dX10_through_44 : decode cX10_through 44 = .ok (.istore 7, 2) := by decide +kernel
theorem dX10_through_46 : decode cX10_through 46 = .ok (.aload_n 1, 1) := by decide +kernel
theorem dX10_through_47 : decode cX10_through 47 = .ok (.getfield 21, 3) := by decide +kernel
theorem dX10_through_50 : decode cX10_through 50 = .ok (.iload 6, 2) := by decide +kernel
theorem dX10_through_52 : decode cX10_through 52 = .ok (.iconst 2, 1) := by decide +kernel
theorem dX10_through_53 : decode cX10_through 53 = .ok (.imul, 1) := by decide +kernel
theorem dX10_through_54 : decode cX10_through 54 = .ok (.iconst 1, 1) := by decide +kernel
theorem dX10_through_55 : decode cX10_through 55 = .ok (.iadd, 1) := by decide +kernel
theorem dX10_through_56 : decode cX10_through 56 = .ok (.iaload, 1) := by decide +kernel
theorem dX10_through_57 : decode cX10_through 57 = .ok (.istore 8, 2) := by decide +kernel
theorem dX10_through_59 : decode cX10_through 59 = .ok (.iload 4, 2) := by decide +kernel
theorem dX10_through_61 : decode cX10_through 61 = .ok (.iload 8, 2) := by decide +kernel
theorem dX10_through_63 : decode cX10_through 63 = .ok (.iload 4, 2) := by decide +kernel
theorem dX10_through_65 : decode cX10_through 65 = .ok (.isub, 1) := by decide +kernel
theorem dX10_through_66 : decode cX10_through 66 = .ok (.iload 7, 2) := by decide +kernel
theorem dX10_through_68 : decode cX10_through 68 = .ok (.invokestatic 24, 3) := by decide +kernel
theorem dX10_through_71 : decode cX10_through 71 = .ok (.iconst 1, 1) := by decide +kernel
theorem dX10_through_72 : decode cX10_through 72 = .ok (.iadd, 1) := by decide +kernel
theorem dX10_through_73 : decode cX10_through 73 = .ok (.iadd, 1) := by decide +kernel
theorem dX10_through_74 : decode cX10_through 74 = .ok (.istore 4, 2) := by decide +kernel
theorem dX10_through_76 : decode cX10_through 76 = .ok (.aload_n 0, 1) := by decide +kernel
theorem dX10_through_77 : decode cX10_through 77 = .ok (.getfield 9, 3) := by decide +kernel
theorem dX10_through_80 : decode cX10_through 80 = .ok (.iload_n 2, 1) := by decide +kernel
theorem dX10_through_81 : decode cX10_through 81 = .ok (.bipush 12, 2) := by decide +kernel
theorem dX10_through_83 : decode cX10_through 83 = .ok (.imul, 1) := by decide +kernel
theorem dX10_through_84 : decode cX10_through 84 = .ok (.iload 6, 2) := by decide +kernel
theorem dX10_through_86 : decode cX10_through 86 = .ok (.iadd, 1) := by decide +kernel
theorem dX10_through_87 : decode cX10_through 87 = .ok (.iload 4, 2) := by decide +kernel
theorem dX10_through_89 : decode cX10_through 89 = .ok (.iastore, 1) := by decide +kernel
theorem dX10_through_90 : decode cX10_through 90 = .ok (.iinc 5 1, 3) := by decide +kernel
theorem dX10_through_93 : decode cX10_through 93 = .ok (.goto (-87), 3) := by decide +kernel
theorem dX10_through_96 : decode cX10_through 96 = .ok (.iload 4, 2) := by decide +kernel
theorem dX10_through_98 : decode cX10_through 98 = .ok (.iconst 1, 1) := by decide +kernel
theorem dX10_through_99 : decode cX10_through 99 = .ok (.iadd, 1) := by decide +kernel
theorem dX10_through_100 : decode cX10_through 100 = .ok (.ireturn, 1) := by decide +kernel
theorem wrr_wsX10_findMeeting {i : Nat} {w : Cond} (h : wsX10_findMeeting[i]? = some w) : w ∈ wsX10_findMeeting := List.mem_of_getElem? h
theorem wru_wsX10_findMeeting_wsX100 : ∀ w ∈ wsX100, w ∈ wsX10_findMeeting := fun w h => (List.mem_cons_of_mem _ (List.mem_append_left _ (List.mem_append_right _ h)))
theorem wru_wsX10_findMeeting_wsX00 : ∀ w ∈ wsX00, w ∈ wsX10_findMeeting := fun w h => (List.mem_cons_of_mem _ (List.mem_append_right _ h))
set_option maxRecDepth 20000 in
theorem gw_wsX10_through : wsX10_through.all goodWord = true := by decide +kernel
set_option maxRecDepth 20000 in
theorem ggX10_findMeeting_X10_through : GoodIn wsX10_findMeeting wsX10_through := goodIn_sub (List.forall_mem_cons.mpr ⟨wrr_wsX10_findMeeting (i := 13) rfl, (List.forall_mem_append.mpr ⟨(List.forall_mem_append.mpr ⟨(List.forall_mem_cons.mpr ⟨wrr_wsX10_findMeeting (i := 3) rfl, (List.forall_mem_cons.mpr ⟨wrr_wsX10_findMeeting (i := 14) rfl, (List.forall_mem_cons.mpr ⟨wrr_wsX10_findMeeting (i := 4) rfl, (List.forall_mem_cons.mpr ⟨wrr_wsX10_findMeeting (i := 15) rfl, (List.forall_mem_cons.mpr ⟨wrr_wsX10_findMeeting (i := 16) rfl, (List.forall_mem_cons.mpr ⟨wrr_wsX10_findMeeting (i := 17) rfl, (List.forall_mem_cons.mpr ⟨wrr_wsX10_findMeeting (i := 18) rfl, (List.forall_mem_cons.mpr ⟨wrr_wsX10_findMeeting (i := 19) rfl, (List.forall_mem_cons.mpr ⟨wrr_wsX10_findMeeting (i := 7) rfl, (List.forall_mem_cons.mpr ⟨wrr_wsX10_findMeeting (i := 21) rfl, (fun _ h => absurd h List.not_mem_nil)⟩)⟩)⟩)⟩)⟩)⟩)⟩)⟩)⟩)⟩), wru_wsX10_findMeeting_wsX00⟩), wru_wsX10_findMeeting_wsX100⟩)⟩) gw_wsX10_through
set_option maxRecDepth 20000 in
theorem gX10_findMeeting_X10_through : GoodIn wsX10_findMeeting (wsV RX10 28 RX10 yX10_through wsX10_through) := goodIn_app (goodIn_sub (List.forall_mem_cons.mpr ⟨wrr_wsX10_findMeeting (i := 9) rfl, (List.forall_mem_cons.mpr ⟨wrr_wsX10_findMeeting (i := 10) rfl, (List.forall_mem_cons.mpr ⟨wrr_wsX10_findMeeting (i := 11) rfl, (List.forall_mem_cons.mpr ⟨wrr_wsX10_findMeeting (i := 12) rfl, (fun _ h => absurd h List.not_mem_nil)⟩)⟩)⟩)⟩) (by decide +kernel)) ggX10_findMeeting_X10_through
theorem dX10_findMeeting_0 : decode cX10_findMeeting 0 = .ok (.aload_n 0, 1) := by decide +kernel
theorem dX10_findMeeting_1 : decode cX10_findMeeting 1 = .ok (.aload_n 1, 1) := by decide +kernel
theorem dX10_findMeeting_2 : decode cX10_findMeeting 2 = .ok (.iconst 0, 1) := by decide +kernel
theorem dX10_findMeeting_3 : decode cX10_findMeeting 3 = .ok (.iload_n 2, 1) := by decide +kernel
theorem dX10_findMeeting_4 : decode cX10_findMeeting 4 = .ok (.invokevirtual 28, 3) := by decide +kernel
theorem dX10_findMeeting_7 : decode cX10_findMeeting 7 = .ok (.pop, 1) := by decide +kernel
theorem dX10_findMeeting_8 : decode cX10_findMeeting 8 = .ok (.aload_n 0, 1) := by decide +kernel
theorem dX10_findMeeting_9 : decode cX10_findMeeting 9 = .ok (.aload_n 1, 1) := by decide +kernel
theorem dX10_findMeeting_10 : decode cX10_findMeeting 10 = .ok (.iconst 1, 1) := by decide +kernel
theorem dX10_findMeeting_11 : decode cX10_findMeeting 11 = .ok (.iload_n 3, 1) := by decide +kernel
theorem dX10_findMeeting_12 : decode cX10_findMeeting 12 = .ok (.invokevirtual 28, 3) := by decide +kernel
theorem dX10_findMeeting_15 : decode cX10_findMeeting 15 = .ok (.pop, 1) := by decide +kernel
theorem dX10_findMeeting_16 : decode cX10_findMeeting 16 = .ok (.aload_n 0, 1) := by decide +kernel
theorem dX10_findMeeting_17 : decode cX10_findMeeting 17 = .ok (.iconst (-1), 1) := by decide +kernel
theorem dX10_findMeeting_18 : decode cX10_findMeeting 18 = .ok (.putfield 32, 3) := by decide +kernel
theorem dX10_findMeeting_21 : decode cX10_findMeeting 21 = .ok (.aload_n 0, 1) := by decide +kernel
theorem dX10_findMeeting_22 : decode cX10_findMeeting 22 = .ok (.iconst (-1), 1) := by decide +kernel
theorem dX10_findMeeting_23 : decode cX10_findMeeting 23 = .ok (.putfield 35, 3) := by decide +kernel
theorem dX10_findMeeting_26 : decode cX10_findMeeting 26 = .ok (.iconst 0, 1) := by decide +kernel
theorem dX10_findMeeting_27 : decode cX10_findMeeting 27 = .ok (.istore 4, 2) := by decide +kernel
theorem dX10_findMeeting_29 : decode cX10_findMeeting 29 = .ok (.iload 4, 2) := by decide +kernel
theorem dX10_findMeeting_31 : decode cX10_findMeeting 31 = .ok (.aload_n 1, 1) := by decide +kernel
theorem dX10_findMeeting_32 : decode cX10_findMeeting 32 = .ok (.getfield 15, 3) := by decide +kernel
theorem dX10_findMeeting_35 : decode cX10_findMeeting 35 = .ok (.if_icmp .ge 60, 3) := by decide +kernel
theorem dX10_findMeeting_38 : decode cX10_findMeeting 38 = .ok (.aload_n 0, 1) := by decide +kernel
theorem dX10_findMeeting_39 : decode cX10_findMeeting 39 = .ok (.getfield 9, 3) := by decide +kernel
theorem dX10_findMeeting_42 : decode cX10_findMeeting 42 = .ok (.iload 4, 2) := by decide +kernel
theorem dX10_findMeeting_44 : decode cX10_findMeeting 44 = .ok (.iaload, 1) := by decide +kernel
theorem dX10_findMeeting_45 : decode cX10_findMeeting 45 = .ok (.aload_n 0, 1) := by decide +kernel
theorem dX10_findMeeting_46 : decode cX10_findMeeting 46 = .ok (.getfield 9, 3) := by decide +kernel
theorem dX10_findMeeting_49 : decode cX10_findMeeting 49 = .ok (.bipush 12, 2) := by decide +kernel
theorem dX10_findMeeting_51 : decode cX10_findMeeting 51 = .ok (.iload 4, 2) := by decide +kernel
theorem dX10_findMeeting_53 : decode cX10_findMeeting 53 = .ok (.iadd, 1) := by decide +kernel
theorem dX10_findMeeting_54 : decode cX10_findMeeting 54 = .ok (.iaload, 1) := by decide +kernel
theorem dX10_findMeeting_55 : decode cX10_findMeeting 55 = .ok (.invokestatic 38, 3) := by decide +kernel
theorem dX10_findMeeting_58 : decode cX10_findMeeting 58 = .ok (.istore 5, 2) := by decide +kernel
theorem dX10_findMeeting_60 : decode cX10_findMeeting 60 = .ok (.aload_n 0, 1) := by decide +kernel
theorem dX10_findMeeting_61 : decode cX10_findMeeting 61 = .ok (.getfield 35, 3) := by decide +kernel
theorem dX10_findMeeting_64 : decode cX10_findMeeting 64 = .ok (.iconst (-1), 1) := by decide +kernel
theorem dX10_findMeeting_65 : decode cX10_findMeeting 65 = .ok (.if_icmp .eq 12, 3) := by decide +kernel
theorem dX10_findMeeting_68 : decode cX10_findMeeting 68 = .ok (.iload 5, 2) := by decide +kernel
theorem dX10_findMeeting_70 : decode cX10_findMeeting 70 = .ok (.aload_n 0, 1) := by decide +kernel
theorem dX10_findMeeting_71 : decode cX10_findMeeting 71 = .ok (.getfield 32, 3) := by decide +kernel
theorem dX10_findMeeting_74 : decode cX10_findMeeting 74 = .ok (.if_icmp .ge 15, 3) := by decide +kernel
theorem dX10_findMeeting_77 : decode cX10_findMeeting 77 = .ok (.aload_n 0, 1) := by decide +kernel
theorem dX10_findMeeting_78 : decode cX10_findMeeting 78 = .ok (.iload 5, 2) := by decide +kernel
theorem dX10_findMeeting_80 : decode cX10_findMeeting 80 = .ok (.putfield 32, 3) := by decide +kernel
theorem dX10_findMeeting_83 : decode cX10_findMeeting 83 = .ok (.aload_n 0, 1) := by decide +kernel
theorem dX10_findMeeting_84 : decode cX10_findMeeting 84 = .ok (.iload 4, 2) := by decide +kernel
theorem dX10_findMeeting_86 : decode cX10_findMeeting 86 = .ok (.putfield 35, 3) := by decide +kernel
theorem dX10_findMeeting_89 : decode cX10_findMeeting 89 = .ok (.iinc 4 1, 3) := by decide +kernel
theorem dX10_findMeeting_92 : decode cX10_findMeeting 92 = .ok (.goto (-63), 3) := by decide +kernel
theorem dX10_findMeeting_95 : decode cX10_findMeeting 95 = .ok (.return_, 1) := by decide +kernel
theorem wrr_wsX10_slowest {i : Nat} {w : Cond} (h : wsX10_slowest[i]? = some w) : w ∈ wsX10_slowest := List.mem_of_getElem? h
theorem wru_wsX10_slowest_wsX00 : ∀ w ∈ wsX00, w ∈ wsX10_slowest := fun w h => (List.mem_cons_of_mem _ (List.mem_append_left _ (List.mem_append_right _ h)))
theorem wru_wsX10_slowest_wsX100 : ∀ w ∈ wsX100, w ∈ wsX10_slowest := fun w h => (List.mem_cons_of_mem _ (List.mem_append_right _ h))
set_option maxRecDepth 20000 in
theorem ggX10_slowest_X10_through : GoodIn wsX10_slowest wsX10_through := goodIn_sub (List.forall_mem_cons.mpr ⟨wrr_wsX10_slowest (i := 9) rfl, (List.forall_mem_append.mpr ⟨(List.forall_mem_append.mpr ⟨(List.forall_mem_cons.mpr ⟨wrr_wsX10_slowest (i := 10) rfl, (List.forall_mem_cons.mpr ⟨wrr_wsX10_slowest (i := 11) rfl, (List.forall_mem_cons.mpr ⟨wrr_wsX10_slowest (i := 12) rfl, (List.forall_mem_cons.mpr ⟨wrr_wsX10_slowest (i := 13) rfl, (List.forall_mem_cons.mpr ⟨wrr_wsX10_slowest (i := 14) rfl, (List.forall_mem_cons.mpr ⟨wrr_wsX10_slowest (i := 15) rfl, (List.forall_mem_cons.mpr ⟨wrr_wsX10_slowest (i := 16) rfl, (List.forall_mem_cons.mpr ⟨wrr_wsX10_slowest (i := 17) rfl, (List.forall_mem_cons.mpr ⟨wrr_wsX10_slowest (i := 3) rfl, (List.forall_mem_cons.mpr ⟨wrr_wsX10_slowest (i := 19) rfl, (fun _ h => absurd h List.not_mem_nil)⟩)⟩)⟩)⟩)⟩)⟩)⟩)⟩)⟩)⟩), wru_wsX10_slowest_wsX00⟩), wru_wsX10_slowest_wsX100⟩)⟩) gw_wsX10_through
set_option maxRecDepth 20000 in
theorem gX10_slowest_X10_through : GoodIn wsX10_slowest (wsV RX10 28 RX10 yX10_through wsX10_through) := goodIn_app (goodIn_sub (List.forall_mem_cons.mpr ⟨wrr_wsX10_slowest (i := 5) rfl, (List.forall_mem_cons.mpr ⟨wrr_wsX10_slowest (i := 6) rfl, (List.forall_mem_cons.mpr ⟨wrr_wsX10_slowest (i := 7) rfl, (List.forall_mem_cons.mpr ⟨wrr_wsX10_slowest (i := 8) rfl, (fun _ h => absurd h List.not_mem_nil)⟩)⟩)⟩)⟩) (by decide +kernel)) ggX10_slowest_X10_through
theorem dX10_slowest_0 : decode cX10_slowest 0 = .ok (.iconst 0, 1) := by decide +kernel
theorem dX10_slowest_1 : decode cX10_slowest 1 = .ok (.istore_n 2, 1) := by decide +kernel
theorem dX10_slowest_2 : decode cX10_slowest 2 = .ok (.iconst 0, 1) := by decide +kernel
theorem dX10_slowest_3 : decode cX10_slowest 3 = .ok (.istore_n 3, 1) := by decide +kernel
theorem dX10_slowest_4 : decode cX10_slowest 4 = .ok (.iload_n 3, 1) := by decide +kernel
theorem dX10_slowest_5 : decode cX10_slowest 5 = .ok (.sipush 200, 3) := by decide +kernel
theorem dX10_slowest_8 : decode cX10_slowest 8 = .ok (.if_icmp .ge 23, 3) := by decide +kernel
theorem dX10_slowest_11 : decode cX10_slowest 11 = .ok (.iload_n 2, 1) := by decide +kernel
theorem dX10_slowest_12 : decode cX10_slowest 12 = .ok (.aload_n 0, 1) := by decide +kernel
theorem dX10_slowest_13 : decode cX10_slowest 13 = .ok (.aload_n 1, 1) := by decide +kernel
theorem dX10_slowest_14 : decode cX10_slowest 14 = .ok (.iconst 0, 1) := by decide +kernel
theorem dX10_slowest_15 : decode cX10_slowest 15 = .ok (.iload_n 3, 1) := by decide +kernel
theorem dX10_slowest_16 : decode cX10_slowest 16 = .ok (.invokevirtual 28, 3) := by decide +kernel
theorem dX10_slowest_19 : decode cX10_slowest 19 = .ok (.iload_n 3, 1) := by decide +kernel
theorem dX10_slowest_20 : decode cX10_slowest 20 = .ok (.isub, 1) := by decide +kernel
theorem dX10_slowest_21 : decode cX10_slowest 21 = .ok (.invokestatic 38, 3) := by decide +kernel
theorem dX10_slowest_24 : decode cX10_slowest 24 = .ok (.istore_n 2, 1) := by decide +kernel
theorem dX10_slowest_25 : decode cX10_slowest 25 = .ok (.iinc 3 1, 3) := by decide +kernel
theorem dX10_slowest_28 : decode cX10_slowest 28 = .ok (.goto (-24), 3) := by decide +kernel
theorem dX10_slowest_31 : decode cX10_slowest 31 = .ok (.iload_n 2, 1) := by decide +kernel
theorem dX10_slowest_32 : decode cX10_slowest 32 = .ok (.ireturn, 1) := by decide +kernel
