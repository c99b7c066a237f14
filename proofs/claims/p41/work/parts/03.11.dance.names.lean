abbrev cX0_stands : ByteArray := prog_2_method_4_code
def yX0_stands : MethodName := ⟨RX0, "stands", "()Z"⟩
abbrev cX0_hasBothRounds : ByteArray := prog_2_method_5_code
def yX0_hasBothRounds : MethodName := ⟨RX0, "hasBothRounds", "()Z"⟩
abbrev cX0_hasPlace : ByteArray := prog_2_method_6_code
def yX0_hasPlace : MethodName := ⟨RX0, "hasPlace", "(II)Z"⟩
abbrev cX0_hasStumble : ByteArray := prog_2_method_7_code
def yX0_hasStumble : MethodName := ⟨RX0, "hasStumble", "(I)Z"⟩
abbrev cX0_stepAt : ByteArray := prog_2_method_8_code
def yX0_stepAt : MethodName := ⟨RX0, "stepAt", "(II)I"⟩
abbrev cX0_mayMeet : ByteArray := prog_2_method_9_code
def yX0_mayMeet : MethodName := ⟨RX0, "mayMeet", "(II)Z"⟩
abbrev cX0_isHole : ByteArray := prog_2_method_10_code
def yX0_isHole : MethodName := ⟨RX0, "isHole", "(II)Z"⟩
abbrev cX0_stumbleOf : ByteArray := prog_2_method_11_code
def yX0_stumbleOf : MethodName := ⟨RX0, "stumbleOf", "(II)I"⟩
abbrev cX0_addStumble : ByteArray := prog_2_method_12_code
def yX0_addStumble : MethodName := ⟨RX0, "addStumble", "(IIII)V"⟩
abbrev cX0_addCell : ByteArray := prog_2_method_13_code
def yX0_addCell : MethodName := ⟨RX0, "addCell", "(II)V"⟩
abbrev cX0_addTune : ByteArray := prog_2_method_14_code
def yX0_addTune : MethodName := ⟨RX0, "addTune", "(II)V"⟩
abbrev cX0_countMuds : ByteArray := prog_2_method_15_code
def yX0_countMuds : MethodName := ⟨RX0, "countMuds", "()I"⟩
def wsX0_stands : List Cond := .code yX0_stands cX0_stands 1 (some .boolean) :: ([.fieldLink RX0 49 "OverHill$Dance" "lines" "I"] ++ wsX00)
def wsX0_hasBothRounds : List Cond := .code yX0_hasBothRounds cX0_hasBothRounds 1 (some .boolean) :: ([.fieldLink RX0 15 "OverHill$Dance" "lengths" "[I"] ++ wsX00)
def wsX0_hasPlace : List Cond := .code yX0_hasPlace cX0_hasPlace 3 (some .boolean) :: ([.fieldLink RX0 15 "OverHill$Dance" "lengths" "[I", .static yX11_isWithin, .initialized RX11, .code yX11_isWithin cX11_isWithin 2 (some .boolean)] ++ wsX00)
def wsX0_hasStumble : List Cond := .code yX0_hasStumble cX0_hasStumble 2 (some .boolean) :: ([.fieldLink RX0 58 "OverHill$Dance" "stumbleCount" "I", .static yX11_isWithin, .initialized RX11, .code yX11_isWithin cX11_isWithin 2 (some .boolean)] ++ wsX00)
def wsX0_stepAt : List Cond := .code yX0_stepAt cX0_stepAt 3 (some .int) :: ([.fieldLink RX0 9 "OverHill$Dance" "steps" "[I"] ++ wsX00)
def wsX0_mayMeet : List Cond := .code yX0_mayMeet cX0_mayMeet 3 (some .boolean) :: ([.fieldLink RX0 21 "OverHill$Dance" "met" "[I"] ++ wsX00)
def wsX0_isHole : List Cond := .code yX0_isHole cX0_isHole 3 (some .boolean) :: ([.methodLink RX0 80 yX0_mayMeet, .instanceMethod yX0_mayMeet, .selects RX0 yX0_mayMeet yX0_mayMeet, .initialized RX0, .code yX0_mayMeet cX0_mayMeet 3 (some .boolean), .fieldLink RX0 21 "OverHill$Dance" "met" "[I"] ++ wsX00)
def wsX0_stumbleOf : List Cond := .code yX0_stumbleOf cX0_stumbleOf 5 (some .int) :: ([.fieldLink RX0 58 "OverHill$Dance" "stumbleCount" "I", .fieldLink RX0 24 "OverHill$Dance" "stumbles" "[I"] ++ wsX00)
def wsX0_addStumble : List Cond := .code yX0_addStumble cX0_addStumble 6 none :: ([.fieldLink RX0 58 "OverHill$Dance" "stumbleCount" "I", .fieldLink RX0 24 "OverHill$Dance" "stumbles" "[I"] ++ wsX00)
def wsX0_addCell : List Cond := .code yX0_addCell cX0_addCell 3 none :: ([.fieldLink RX0 61 "OverHill$Dance" "cellCount" "I", .fieldLink RX0 30 "OverHill$Dance" "cells" "[I"] ++ wsX00)
def wsX0_addTune : List Cond := .code yX0_addTune cX0_addTune 3 none :: ([.fieldLink RX0 64 "OverHill$Dance" "tuneCount" "I", .fieldLink RX0 33 "OverHill$Dance" "tunes" "[I"] ++ wsX00)
def wsX0_countMuds : List Cond := .code yX0_countMuds cX0_countMuds 3 (some .int) :: ([.fieldLink RX0 27 "OverHill$Dance" "muds" "[I"] ++ wsX00)
theorem dX0_stands_0 : decode cX0_stands 0 = .ok (.aload_n 0, 1) := by decide +kernel
theorem dX0_stands_1 : decode cX0_stands 1 = .ok (.getfield 49, 3) := by decide +kernel
theorem dX0_stands_4 : decode cX0_stands 4 = .ok (.ifCond .le 7, 3) := by decide +kernel
theorem dX0_stands_7 : decode cX0_stands 7 = .ok (.iconst 1, 1) := by decide +kernel
theorem dX0_stands_8 : decode cX0_stands 8 = .ok (.goto 4, 3) := by decide +kernel
theorem dX0_stands_11 : decode cX0_stands 11 = .ok (.iconst 0, 1) := by decide +kernel
theorem dX0_stands_12 : decode cX0_stands 12 = .ok (.ireturn, 1) := by decide +kernel
theorem dX0_hasBothRounds_0 : decode cX0_hasBothRounds 0 = .ok (.aload_n 0, 1) := by decide +kernel
theorem dX0_hasBothRounds_1 : decode cX0_hasBothRounds 1 = .ok (.getfield 15, 3) := by decide +kernel
theorem dX0_hasBothRounds_4 : decode cX0_hasBothRounds 4 = .ok (.iconst 0, 1) := by decide +kernel
theorem dX0_hasBothRounds_5 : decode cX0_hasBothRounds 5 = .ok (.iaload, 1) := by decide +kernel
theorem dX0_hasBothRounds_6 : decode cX0_hasBothRounds 6 = .ok (.ifCond .le 16, 3) := by decide +kernel
theorem dX0_hasBothRounds_9 : decode cX0_hasBothRounds 9 = .ok (.aload_n 0, 1) := by decide +kernel
theorem dX0_hasBothRounds_10 : decode cX0_hasBothRounds 10 = .ok (.getfield 15, 3) := by decide +kernel
theorem dX0_hasBothRounds_13 : decode cX0_hasBothRounds 13 = .ok (.iconst 1, 1) := by decide +kernel
theorem dX0_hasBothRounds_14 : decode cX0_hasBothRounds 14 = .ok (.iaload, 1) := by decide +kernel
theorem dX0_hasBothRounds_15 : decode cX0_hasBothRounds 15 = .ok (.ifCond .le 7, 3) := by decide +kernel
theorem dX0_hasBothRounds_18 : decode cX0_hasBothRounds 18 = .ok (.iconst 1, 1) := by decide +kernel
theorem dX0_hasBothRounds_19 : decode cX0_hasBothRounds 19 = .ok (.goto 4, 3) := by decide +kernel
theorem dX0_hasBothRounds_22 : decode cX0_hasBothRounds 22 = .ok (.iconst 0, 1) := by decide +kernel
theorem dX0_hasBothRounds_23 : decode cX0_hasBothRounds 23 = .ok (.ireturn, 1) := by decide +kernel
theorem wrr_wsX0_hasPlace {i : Nat} {w : Cond} (h : wsX0_hasPlace[i]? = some w) : w ∈ wsX0_hasPlace := List.mem_of_getElem? h
theorem wru_wsX0_hasPlace_wsX00 : ∀ w ∈ wsX00, w ∈ wsX0_hasPlace := fun w h => (List.mem_cons_of_mem _ (List.mem_append_right _ h))
set_option maxRecDepth 20000 in
theorem ggX0_hasPlace_X11_isWithin : GoodIn wsX0_hasPlace wsX11_isWithin := goodIn_sub (List.forall_mem_cons.mpr ⟨wrr_wsX0_hasPlace (i := 4) rfl, (fun _ h => absurd h List.not_mem_nil)⟩) gw_wsX11_isWithin
set_option maxRecDepth 20000 in
theorem gX0_hasPlace_X11_isWithin_n76 : GoodIn wsX0_hasPlace (wsX11_isWithin) := ggX0_hasPlace_X11_isWithin
theorem dX0_hasPlace_0 : decode cX0_hasPlace 0 = .ok (.iload_n 2, 1) := by decide +kernel
theorem dX0_hasPlace_1 : decode cX0_hasPlace 1 = .ok (.aload_n 0, 1) := by decide +kernel
theorem dX0_hasPlace_2 : decode cX0_hasPlace 2 = .ok (.getfield 15, 3) := by decide +kernel
theorem dX0_hasPlace_5 : decode cX0_hasPlace 5 = .ok (.iload_n 1, 1) := by decide +kernel
theorem dX0_hasPlace_6 : decode cX0_hasPlace 6 = .ok (.iaload, 1) := by decide +kernel
theorem dX0_hasPlace_7 : decode cX0_hasPlace 7 = .ok (.invokestatic 76, 3) := by decide +kernel
theorem dX0_hasPlace_10 : decode cX0_hasPlace 10 = .ok (.ireturn, 1) := by decide +kernel
theorem wrr_wsX0_hasStumble {i : Nat} {w : Cond} (h : wsX0_hasStumble[i]? = some w) : w ∈ wsX0_hasStumble := List.mem_of_getElem? h
theorem wru_wsX0_hasStumble_wsX00 : ∀ w ∈ wsX00, w ∈ wsX0_hasStumble := fun w h => (List.mem_cons_of_mem _ (List.mem_append_right _ h))
set_option maxRecDepth 20000 in
theorem ggX0_hasStumble_X11_isWithin : GoodIn wsX0_hasStumble wsX11_isWithin := goodIn_sub (List.forall_mem_cons.mpr ⟨wrr_wsX0_hasStumble (i := 4) rfl, (fun _ h => absurd h List.not_mem_nil)⟩) gw_wsX11_isWithin
set_option maxRecDepth 20000 in
theorem gX0_hasStumble_X11_isWithin_n76 : GoodIn wsX0_hasStumble (wsX11_isWithin) := ggX0_hasStumble_X11_isWithin
theorem dX0_hasStumble_0 : decode cX0_hasStumble 0 = .ok (.iload_n 1, 1) := by decide +kernel
theorem dX0_hasStumble_1 : decode cX0_hasStumble 1 = .ok (.aload_n 0, 1) := by decide +kernel
theorem dX0_hasStumble_2 : decode cX0_hasStumble 2 = .ok (.getfield 58, 3) := by decide +kernel
theorem dX0_hasStumble_5 : decode cX0_hasStumble 5 = .ok (.invokestatic 76, 3) := by decide +kernel
theorem dX0_hasStumble_8 : decode cX0_hasStumble 8 = .ok (.ireturn, 1) := by decide +kernel
theorem dX0_stepAt_0 : decode cX0_stepAt 0 = .ok (.aload_n 0, 1) := by decide +kernel
theorem dX0_stepAt_1 : decode cX0_stepAt 1 = .ok (.getfield 9, 3) := by decide +kernel
theorem dX0_stepAt_4 : decode cX0_stepAt 4 = .ok (.iload_n 1, 1) := by decide +kernel
theorem dX0_stepAt_5 : decode cX0_stepAt 5 = .ok (.bipush 12, 2) := by decide +kernel
theorem dX0_stepAt_7 : decode cX0_stepAt 7 = .ok (.imul, 1) := by decide +kernel
theorem dX0_stepAt_8 : decode cX0_stepAt 8 = .ok (.iload_n 2, 1) := by decide +kernel
theorem dX0_stepAt_9 : decode cX0_stepAt 9 = .ok (.iadd, 1) := by decide +kernel
theorem dX0_stepAt_10 : decode cX0_stepAt 10 = .ok (.iaload, 1) := by decide +kernel
theorem dX0_stepAt_11 : decode cX0_stepAt 11 = .ok (.ireturn, 1) := by decide +kernel
theorem dX0_mayMeet_0 : decode cX0_mayMeet 0 = .ok (.aload_n 0, 1) := by decide +kernel
theorem dX0_mayMeet_1 : decode cX0_mayMeet 1 = .ok (.getfield 21, 3) := by decide +kernel
theorem dX0_mayMeet_4 : decode cX0_mayMeet 4 = .ok (.iload_n 2, 1) := by decide +kernel
theorem dX0_mayMeet_5 : decode cX0_mayMeet 5 = .ok (.iaload, 1) := by decide +kernel
theorem dX0_mayMeet_6 : decode cX0_mayMeet 6 = .ok (.iload_n 1, 1) := by decide +kernel
theorem dX0_mayMeet_7 : decode cX0_mayMeet 7 = .ok (.ishr, 1) := by decide +kernel
theorem dX0_mayMeet_8 : decode cX0_mayMeet 8 = .ok (.iconst 1, 1) := by decide +kernel
theorem dX0_mayMeet_9 : decode cX0_mayMeet 9 = .ok (.iand, 1) := by decide +kernel
theorem dX0_mayMeet_10 : decode cX0_mayMeet 10 = .ok (.ifCond .eq 7, 3) := by decide +kernel
theorem dX0_mayMeet_13 : decode cX0_mayMeet 13 = .ok (.iconst 1, 1) := by decide +kernel
theorem dX0_mayMeet_14 : decode cX0_mayMeet 14 = .ok (.goto 4, 3) := by decide +kernel
theorem dX0_mayMeet_17 : decode cX0_mayMeet 17 = .ok (.iconst 0, 1) := by decide +kernel
theorem dX0_mayMeet_18 : decode cX0_mayMeet 18 = .ok (.ireturn, 1) := by decide +kernel
theorem wrr_wsX0_isHole {i : Nat} {w : Cond} (h : wsX0_isHole[i]? = some w) : w ∈ wsX0_isHole := List.mem_of_getElem? h
theorem wru_wsX0_isHole_wsX00 : ∀ w ∈ wsX00, w ∈ wsX0_isHole := fun w h => (List.mem_cons_of_mem _ (List.mem_append_right _ h))
set_option maxRecDepth 20000 in
theorem gw_wsX0_mayMeet : wsX0_mayMeet.all goodWord = true := by decide +kernel
set_option maxRecDepth 20000 in
theorem ggX0_isHole_X0_mayMeet : GoodIn wsX0_isHole wsX0_mayMeet := goodIn_sub (List.forall_mem_cons.mpr ⟨wrr_wsX0_isHole (i := 5) rfl, (List.forall_mem_append.mpr ⟨(List.forall_mem_cons.mpr ⟨wrr_wsX0_isHole (i := 6) rfl, (fun _ h => absurd h List.not_mem_nil)⟩), wru_wsX0_isHole_wsX00⟩)⟩) gw_wsX0_mayMeet
set_option maxRecDepth 20000 in
theorem gX0_isHole_X0_mayMeet : GoodIn wsX0_isHole (wsV RX0 80 RX0 yX0_mayMeet wsX0_mayMeet) := goodIn_app (goodIn_sub (List.forall_mem_cons.mpr ⟨wrr_wsX0_isHole (i := 1) rfl, (List.forall_mem_cons.mpr ⟨wrr_wsX0_isHole (i := 2) rfl, (List.forall_mem_cons.mpr ⟨wrr_wsX0_isHole (i := 3) rfl, (List.forall_mem_cons.mpr ⟨wrr_wsX0_isHole (i := 4) rfl, (fun _ h => absurd h List.not_mem_nil)⟩)⟩)⟩)⟩) (by decide +kernel)) ggX0_isHole_X0_mayMeet
theorem dX0_isHole_0 : decode cX0_isHole 0 = .ok (.iload_n 1, 1) := by decide +kernel
theorem dX0_isHole_1 : decode cX0_isHole 1 = .ok (.iconst (-1), 1) := by decide +kernel
theorem dX0_isHole_2 : decode cX0_isHole 2 = .ok (.if_icmp .eq 21, 3) := by decide +kernel
theorem dX0_isHole_5 : decode cX0_isHole 5 = .ok (.iload_n 2, 1) := by decide +kernel
theorem dX0_isHole_6 : decode cX0_isHole 6 = .ok (.iconst (-1), 1) := by decide +kernel
theorem dX0_isHole_7 : decode cX0_isHole 7 = .ok (.if_icmp .eq 16, 3) := by decide +kernel
theorem dX0_isHole_10 : decode cX0_isHole 10 = .ok (.aload_n 0, 1) := by decide +kernel
theorem dX0_isHole_11 : decode cX0_isHole 11 = .ok (.iload_n 2, 1) := by decide +kernel
theorem dX0_isHole_12 : decode cX0_isHole 12 = .ok (.iload_n 1, 1) := by decide +kernel
theorem dX0_isHole_13 : decode cX0_isHole 13 = .ok (.invokevirtual 80, 3) := by decide +kernel
theorem dX0_isHole_16 : decode cX0_isHole 16 = .ok (.ifCond .ne 7, 3) := by decide +kernel
theorem dX0_isHole_19 : decode cX0_isHole 19 = .ok (.iconst 1, 1) := by decide +kernel
theorem dX0_isHole_20 : decode cX0_isHole 20 = .ok (.goto 4, 3) := by decide +kernel
theorem dX0_isHole_23 : decode cX0_isHole 23 = .ok (.iconst 0, 1) := by decide +kernel
theorem dX0_isHole_24 : decode cX0_isHole 24 = .ok (.ireturn, 1) := by decide +kernel
theorem dX0_stumbleOf_0 : decode cX0_stumbleOf 0 = .ok (.iconst 0, 1) := by decide +kernel
theorem dX0_stumbleOf_1 : decode cX0_stumbleOf 1 = .ok (.istore_n 3, 1) := by decide +kernel
theorem dX0_stumbleOf_2 : decode cX0_stumbleOf 2 = .ok (.iload_n 3, 1) := by decide +kernel
theorem dX0_stumbleOf_3 : decode cX0_stumbleOf 3 = .ok (.aload_n 0, 1) := by decide +kernel
theorem dX0_stumbleOf_4 : decode cX0_stumbleOf 4 = .ok (.getfield 58, 3) := by decide +kernel
theorem dX0_stumbleOf_7 : decode cX0_stumbleOf 7 = .ok (.if_icmp .ge 40, 3) := by decide +kernel
theorem dX0_stumbleOf_10 : decode cX0_stumbleOf 10 = .ok (.iload_n 3, 1) := by decide +kernel
theorem dX0_stumbleOf_11 : decode cX0_stumbleOf 11 = .ok (.iconst 4, 1) := by decide +kernel
theorem dX0_stumbleOf_12 : decode cX0_stumbleOf 12 = .ok (.imul, 1) := by decide +kernel
theorem dX0_stumbleOf_13 : decode cX0_stumbleOf 13 = .ok (.istore 4, 2) := by decide +kernel
theorem dX0_stumbleOf_15 : decode cX0_stumbleOf 15 = .ok (.aload_n 0, 1) := by decide +kernel
theorem dX0_stumbleOf_16 : decode cX0_stumbleOf 16 = .ok (.getfield 24, 3) := by decide +kernel
theorem dX0_stumbleOf_19 : decode cX0_stumbleOf 19 = .ok (.iload 4, 2) := by decide +kernel
theorem dX0_stumbleOf_21 : decode cX0_stumbleOf 21 = .ok (.iaload, 1) := by decide +kernel
theorem dX0_stumbleOf_22 : decode cX0_stumbleOf 22 = .ok (.iload_n 1, 1) := by decide +kernel
theorem dX0_stumbleOf_23 : decode cX0_stumbleOf 23 = .ok (.if_icmp .ne 18, 3) := by decide +kernel
theorem dX0_stumbleOf_26 : decode cX0_stumbleOf 26 = .ok (.aload_n 0, 1) := by decide +kernel
theorem dX0_stumbleOf_27 : decode cX0_stumbleOf 27 = .ok (.getfield 24, 3) := by decide +kernel
theorem dX0_stumbleOf_30 : decode cX0_stumbleOf 30 = .ok (.iload 4, 2) := by decide +kernel
theorem dX0_stumbleOf_32 : decode cX0_stumbleOf 32 = .ok (.iconst 1, 1) := by decide +kernel
theorem dX0_stumbleOf_33 : decode cX0_stumbleOf 33 = .ok (.iadd, 1) := by decide +kernel
theorem dX0_stumbleOf_34 : decode cX0_stumbleOf 34 = .ok (.iaload, 1) := by decide +kernel
theorem dX0_stumbleOf_35 : decode cX0_stumbleOf 35 = .ok (.iload_n 2, 1) := by decide +kernel
theorem dX0_stumbleOf_36 : decode cX0_stumbleOf 36 = .ok (.if_icmp .ne 5, 3) := by decide +kernel
theorem dX0_stumbleOf_39 : decode cX0_stumbleOf 39 = .ok (.iload_n 3, 1) := by decide +kernel
theorem dX0_stumbleOf_40 : decode cX0_stumbleOf 40 = .ok (.ireturn, 1) := by decide +kernel
theorem dX0_stumbleOf_41 : decode cX0_stumbleOf 41 = .ok (.iinc 3 1, 3) := by decide +kernel
theorem dX0_stumbleOf_44 : decode cX0_stumbleOf 44 = .ok (.goto (-42), 3) := by decide +kernel
theorem dX0_stumbleOf_47 : decode cX0_stumbleOf 47 = .ok (.iconst (-1), 1) := by decide +kernel
theorem dX0_stumbleOf_48 : decode cX0_stumbleOf 48 = .ok (.ireturn, 1) := by decide +kernel
theorem dX0_addStumble_0 : decode cX0_addStumble 0 = .ok (.aload_n 0, 1) := by decide +kernel
theorem dX0_addStumble_1 : decode cX0_addStumble 1 = .ok (.getfield 58, 3) := by decide +kernel
theorem dX0_addStumble_4 : decode cX0_addStumble 4 = .ok (.bipush 8, 2) := by decide +kernel
theorem dX0_addStumble_6 : decode cX0_addStumble 6 = .ok (.if_icmp .ge 60, 3) := by decide +kernel
theorem dX0_addStumble_9 : decode cX0_addStumble 9 = .ok (.aload_n 0, 1) := by decide +kernel
theorem dX0_addStumble_10 : decode cX0_addStumble 10 = .ok (.getfield 58, 3) := by decide +kernel
theorem dX0_addStumble_13 : decode cX0_addStumble 13 = .ok (.iconst 4, 1) := by decide +kernel
theorem dX0_addStumble_14 : decode cX0_addStumble 14 = .ok (.imul, 1) := by decide +kernel
theorem dX0_addStumble_15 : decode cX0_addStumble 15 = .ok (.istore 5, 2) := by decide +kernel
theorem dX0_addStumble_17 : decode cX0_addStumble 17 = .ok (.aload_n 0, 1) := by decide +kernel
theorem dX0_addStumble_18 : decode cX0_addStumble 18 = .ok (.getfield 24, 3) := by decide +kernel
theorem dX0_addStumble_21 : decode cX0_addStumble 21 = .ok (.iload 5, 2) := by decide +kernel
theorem dX0_addStumble_23 : decode cX0_addStumble 23 = .ok (.iload_n 1, 1) := by decide +kernel
theorem dX0_addStumble_24 : decode cX0_addStumble 24 = .ok (.iastore, 1) := by decide +kernel
theorem dX0_addStumble_25 : decode cX0_addStumble 25 = .ok (.aload_n 0, 1) := by decide +kernel
theorem dX0_addStumble_26 : decode cX0_addStumble 26 = .ok (.getfield 24, 3) := by decide +kernel
theorem dX0_addStumble_29 : decode cX0_addStumble 29 = .ok (.iload 5, 2) := by decide +kernel
theorem dX0_addStumble_31 : decode cX0_addStumble 31 = .ok (.iconst 1, 1) := by decide +kernel
theorem dX0_addStumble_32 : decode cX0_addStumble 32 = .ok (.iadd, 1) := by decide +kernel
theorem dX0_addStumble_33 : decode cX0_addStumble 33 = .ok (.iload_n 2, 1) := by decide +kernel
theorem dX0_addStumble_34 : decode cX0_addStumble 34 = .ok (.iastore, 1) := by decide +kernel
theorem dX0_addStumble_35 : decode cX0_addStumble 35 = .ok (.aload_n 0, 1) := by decide +kernel
theorem dX0_addStumble_36 : decode cX0_addStumble 36 = .ok (.getfield 24, 3) := by decide +kernel
theorem dX0_addStumble_39 : decode cX0_addStumble 39 = .ok (.iload 5, 2) := by decide +kernel
theorem dX0_addStumble_41 : decode cX0_addStumble 41 = .ok (.iconst 2, 1) := by decide +kernel
theorem dX0_addStumble_42 : decode cX0_addStumble 42 = .ok (.iadd, 1) := by decide +kernel
theorem dX0_addStumble_43 : decode cX0_addStumble 43 = .ok (.iload_n 3, 1) := by decide +kernel
theorem dX0_addStumble_44 : decode cX0_addStumble 44 = .ok (.iastore, 1) := by decide +kernel
theorem dX0_addStumble_45 : decode cX0_addStumble 45 = .ok (.aload_n 0, 1) := by decide +kernel
theorem dX0_addStumble_46 : decode cX0_addStumble 46 = .ok (.getfield 24, 3) := by decide +kernel
theorem dX0_addStumble_49 : decode cX0_addStumble 49 = .ok (.iload 5, 2) := by decide +kernel
theorem dX0_addStumble_51 : decode cX0_addStumble 51 = .ok (.iconst 3, 1) := by decide +kernel
theorem dX0_addStumble_52 : decode cX0_addStumble 52 = .ok (.iadd, 1) := by decide +kernel
theorem dX0_addStumble_53 : decode cX0_addStumble 53 = .ok (.iload 4, 2) := by decide +kernel
theorem dX0_addStumble_55 : decode cX0_addStumble 55 = .ok (.iastore, 1) := by decide +kernel
theorem dX0_addStumble_56 : decode cX0_addStumble 56 = .ok (.aload_n 0, 1) := by decide +kernel
theorem dX0_addStumble_57 : decode cX0_addStumble 57 = .ok (.dup, 1) := by decide +kernel
theorem dX0_addStumble_58 : decode cX0_addStumble 58 = .ok (.getfield 58, 3) := by decide +kernel
theorem dX0_addStumble_61 : decode cX0_addStumble 61 = .ok (.iconst 1, 1) := by decide +kernel
theorem dX0_addStumble_62 : decode cX0_addStumble 62 = .ok (.iadd, 1) := by decide +kernel
theorem dX0_addStumble_63 : decode cX0_addStumble 63 = .ok (.putfield 58, 3) := by decide +kernel
theorem dX0_addStumble_66 : decode cX0_addStumble 66 = .ok (.return_, 1) := by decide +kernel
theorem dX0_addCell_0 : decode cX0_addCell 0 = .ok (.aload_n 0, 1) := by decide +kernel
theorem dX0_addCell_1 : decode cX0_addCell 1 = .ok (.getfield 61, 3) := by decide +kernel
theorem dX0_addCell_4 : decode cX0_addCell 4 = .ok (.bipush 12, 2) := by decide +kernel
theorem dX0_addCell_6 : decode cX0_addCell 6 = .ok (.if_icmp .ge 39, 3) := by decide +kernel
theorem dX0_addCell_9 : decode cX0_addCell 9 = .ok (.aload_n 0, 1) := by decide +kernel
theorem dX0_addCell_10 : decode cX0_addCell 10 = .ok (.getfield 30, 3) := by decide +kernel
theorem dX0_addCell_13 : decode cX0_addCell 13 = .ok (.aload_n 0, 1) := by decide +kernel
theorem dX0_addCell_14 : decode cX0_addCell 14 = .ok (.getfield 61, 3) := by decide +kernel
theorem dX0_addCell_17 : decode cX0_addCell 17 = .ok (.iconst 2, 1) := by decide +kernel
theorem dX0_addCell_18 : decode cX0_addCell 18 = .ok (.imul, 1) := by decide +kernel
theorem dX0_addCell_19 : decode cX0_addCell 19 = .ok (.iload_n 1, 1) := by decide +kernel
theorem dX0_addCell_20 : decode cX0_addCell 20 = .ok (.iastore, 1) := by decide +kernel
theorem dX0_addCell_21 : decode cX0_addCell 21 = .ok (.aload_n 0, 1) := by decide +kernel
theorem dX0_addCell_22 : decode cX0_addCell 22 = .ok (.getfield 30, 3) := by decide +kernel
theorem dX0_addCell_25 : decode cX0_addCell 25 = .ok (.aload_n 0, 1) := by decide +kernel
theorem dX0_addCell_26 : decode cX0_addCell 26 = .ok (.getfield 61, 3) := by decide +kernel
theorem dX0_addCell_29 : decode cX0_addCell 29 = .ok (.iconst 2, 1) := by decide +kernel
theorem dX0_addCell_30 : decode cX0_addCell 30 = .ok (.imul, 1) := by decide +kernel
theorem dX0_addCell_31 : decode cX0_addCell 31 = .ok (.iconst 1, 1) := by decide +kernel
theorem dX0_addCell_32 : decode cX0_addCell 32 = .ok (.iadd, 1) := by decide +kernel
theorem dX0_addCell_33 : decode cX0_addCell 33 = .ok (.iload_n 2, 1) := by decide +kernel
theorem dX0_addCell_34 : decode cX0_addCell 34 = .ok (.iastore, 1) := by decide +kernel
theorem dX0_addCell_35 : decode cX0_addCell 35 = .ok (.aload_n 0, 1) := by decide +kernel
theorem dX0_addCell_36 : decode cX0_addCell 36 = .ok (.dup, 1) := by decide +kernel
theorem dX0_addCell_37 : decode cX0_addCell 37 = .ok (.getfield 61, 3) := by decide +kernel
theorem dX0_addCell_40 : decode cX0_addCell 40 = .ok (.iconst 1, 1) := by decide +kernel
theorem dX0_addCell_41 : decode cX0_addCell 41 = .ok (.iadd, 1) := by decide +kernel
theorem dX0_addCell_42 : decode cX0_addCell 42 = .ok (.putfield 61, 3) := by decide +kernel
theorem dX0_addCell_45 : decode cX0_addCell 45 = .ok (.return_, 1) := by decide +kernel
theorem dX0_addTune_0 : decode cX0_addTune 0 = .ok (.aload_n 0, 1) := by decide +kernel
theorem dX0_addTune_1 : decode cX0_addTune 1 = .ok (.getfield 64, 3) := by decide +kernel
theorem dX0_addTune_4 : decode cX0_addTune 4 = .ok (.iconst 5, 1) := by decide +kernel
theorem dX0_addTune_5 : decode cX0_addTune 5 = .ok (.if_icmp .ge 39, 3) := by decide +kernel
theorem dX0_addTune_8 : decode cX0_addTune 8 = .ok (.aload_n 0, 1) := by decide +kernel
theorem dX0_addTune_9 : decode cX0_addTune 9 = .ok (.getfield 33, 3) := by decide +kernel
theorem dX0_addTune_12 : decode cX0_addTune 12 = .ok (.aload_n 0, 1) := by decide +kernel
theorem dX0_addTune_13 : decode cX0_addTune 13 = .ok (.getfield 64, 3) := by decide +kernel
theorem dX0_addTune_16 : decode cX0_addTune 16 = .ok (.iconst 2, 1) := by decide +kernel
theorem dX0_addTune_17 : decode cX0_addTune 17 = .ok (.imul, 1) := by decide +kernel
theorem dX0_addTune_18 : decode cX0_addTune 18 = .ok (.iload_n 1, 1) := by decide +kernel
theorem dX0_addTune_19 : decode cX0_addTune 19 = .ok (.iastore, 1) := by decide +kernel
theorem dX0_addTune_20 : decode cX0_addTune 20 = .ok (.aload_n 0, 1) := by decide +kernel
theorem dX0_addTune_21 : decode cX0_addTune 21 = .ok (.getfield 33, 3) := by decide +kernel
theorem dX0_addTune_24 : decode cX0_addTune 24 = .ok (.aload_n 0, 1) := by decide +kernel
theorem dX0_addTune_25 : decode cX0_addTune 25 = .ok (.getfield 64, 3) := by decide +kernel
theorem dX0_addTune_28 : decode cX0_addTune 28 = .ok (.iconst 2, 1) := by decide +kernel
theorem dX0_addTune_29 : decode cX0_addTune 29 = .ok (.imul, 1) := by decide +kernel
theorem dX0_addTune_30 : decode cX0_addTune 30 = .ok (.iconst 1, 1) := by decide +kernel
theorem dX0_addTune_31 : decode cX0_addTune 31 = .ok (.iadd, 1) := by decide +kernel
theorem dX0_addTune_32 : decode cX0_addTune 32 = .ok (.iload_n 2, 1) := by decide +kernel
theorem dX0_addTune_33 : decode cX0_addTune 33 = .ok (.iastore, 1) := by decide +kernel
theorem dX0_addTune_34 : decode cX0_addTune 34 = .ok (.aload_n 0, 1) := by decide +kernel
theorem dX0_addTune_35 : decode cX0_addTune 35 = .ok (.dup, 1) := by decide +kernel
theorem dX0_addTune_36 : decode cX0_addTune 36 = .ok (.getfield 64, 3) := by decide +kernel
theorem dX0_addTune_39 : decode cX0_addTune 39 = .ok (.iconst 1, 1) := by decide +kernel
theorem dX0_addTune_40 : decode cX0_addTune 40 = .ok (.iadd, 1) := by decide +kernel
theorem dX0_addTune_41 : decode cX0_addTune 41 = .ok (.putfield 64, 3) := by decide +kernel
theorem dX0_addTune_44 : decode cX0_addTune 44 = .ok (.return_, 1) := by decide +kernel
theorem dX0_countMuds_0 : decode cX0_countMuds 0 = .ok (.iconst 0, 1) := by decide +kernel
theorem dX0_countMuds_1 : decode cX0_countMuds 1 = .ok (.istore_n 1, 1) := by decide +kernel
theorem dX0_countMuds_2 : decode cX0_countMuds 2 = .ok (.iconst 0, 1) := by decide +kernel
theorem dX0_countMuds_3 : decode cX0_countMuds 3 = .ok (.istore_n 2, 1) := by decide +kernel
theorem dX0_countMuds_4 : decode cX0_countMuds 4 = .ok (.iload_n 2, 1) := by decide +kernel
theorem dX0_countMuds_5 : decode cX0_countMuds 5 = .ok (.sipush 200, 3) := by decide +kernel
theorem dX0_countMuds_8 : decode cX0_countMuds 8 = .ok (.if_icmp .ge 18, 3) := by decide +kernel
theorem dX0_countMuds_11 : decode cX0_countMuds 11 = .ok (.iload_n 1, 1) := by decide +kernel
theorem dX0_countMuds_12 : decode cX0_countMuds 12 = .ok (.aload_n 0, 1) := by decide +kernel
theorem dX0_countMuds_13 : decode cX0_countMuds 13 = .ok (.getfield 27, 3) := by decide +kernel
theorem dX0_countMuds_16 : decode cX0_countMuds 16 = .ok (.iload_n 2, 1) := by decide +kernel
theorem dX0_countMuds_17 : decode cX0_countMuds 17 = .ok (.iaload, 1) := by decide +kernel
theorem dX0_countMuds_18 : decode cX0_countMuds 18 = .ok (.iadd, 1) := by decide +kernel
theorem dX0_countMuds_19 : decode cX0_countMuds 19 = .ok (.istore_n 1, 1) := by decide +kernel
theorem dX0_countMuds_20 : decode cX0_countMuds 20 = .ok (.iinc 2 1, 3) := by decide +kernel
theorem dX0_countMuds_23 : decode cX0_countMuds 23 = .ok (.goto (-19), 3) := by decide +kernel
theorem dX0_countMuds_26 : decode cX0_countMuds 26 = .ok (.iload_n 1, 1) := by decide +kernel
theorem dX0_countMuds_27 : decode cX0_countMuds 27 = .ok (.ireturn, 1) := by decide +kernel
