abbrev cX7_isSlot : ByteArray := prog_9_method_2_code
def yX7_isSlot : MethodName := ⟨RX7, "isSlot", "(I)Z"⟩
abbrev cX7_has : ByteArray := prog_9_method_3_code
def yX7_has : MethodName := ⟨RX7, "has", "(I)Z"⟩
abbrev cX7_countRows : ByteArray := prog_9_method_4_code
def yX7_countRows : MethodName := ⟨RX7, "countRows", "()I"⟩
abbrev cX7_make : ByteArray := prog_9_method_5_code
def yX7_make : MethodName := ⟨RX7, "make", "(III)V"⟩
abbrev cX7_at : ByteArray := prog_9_method_6_code
def yX7_at : MethodName := ⟨RX7, "at", "(II)J"⟩
abbrev cX7_put : ByteArray := prog_9_method_7_code
def yX7_put : MethodName := ⟨RX7, "put", "(IIJ)V"⟩
abbrev cX7_holds : ByteArray := prog_9_method_8_code
def yX7_holds : MethodName := ⟨RX7, "holds", "(III)Z"⟩
abbrev cX7_move : ByteArray := prog_9_method_9_code
def yX7_move : MethodName := ⟨RX7, "move", "(IIIII)V"⟩
abbrev cX7_refusalOfSteps : ByteArray := prog_9_method_11_code
def yX7_refusalOfSteps : MethodName := ⟨RX7, "refusalOfSteps", "(I)I"⟩
abbrev cX7_shortest : ByteArray := prog_9_method_12_code
def yX7_shortest : MethodName := ⟨RX7, "shortest", "(I)I"⟩
abbrev cX7_told : ByteArray := prog_9_method_13_code
def yX7_told : MethodName := ⟨RX7, "told", "(III)I"⟩
abbrev cX7_countUntold : ByteArray := prog_9_method_14_code
def yX7_countUntold : MethodName := ⟨RX7, "countUntold", "(II)I"⟩
abbrev cX7_goesRound : ByteArray := prog_9_method_15_code
def yX7_goesRound : MethodName := ⟨RX7, "goesRound", "(II)Z"⟩
abbrev cX7_isTold : ByteArray := prog_9_method_16_code
def yX7_isTold : MethodName := ⟨RX7, "isTold", "(J)Z"⟩
abbrev cX7_isBetween : ByteArray := prog_9_method_17_code
def yX7_isBetween : MethodName := ⟨RX7, "isBetween", "(JJJ)Z"⟩
abbrev cX7_cut : ByteArray := prog_9_method_18_code
def yX7_cut : MethodName := ⟨RX7, "cut", "(JI)J"⟩
def wsX7_isSlot : List Cond := .code yX7_isSlot cX7_isSlot 1 (some .boolean) :: ([.static yX11_isWithin, .initialized RX11, .code yX11_isWithin cX11_isWithin 2 (some .boolean)])
def wsX7_has : List Cond := .code yX7_has cX7_has 2 (some .boolean) :: ([.fieldLink RX7 15 "OverHill$Slots" "sizes" "[I"] ++ wsX70)
def wsX7_countRows : List Cond := .code yX7_countRows cX7_countRows 3 (some .int) :: ([.methodLink RX7 26 yX7_has, .instanceMethod yX7_has, .selects RX7 yX7_has yX7_has, .initialized RX7, .code yX7_has cX7_has 2 (some .boolean), .fieldLink RX7 15 "OverHill$Slots" "sizes" "[I"] ++ wsX70)
def wsX7_make : List Cond := .code yX7_make cX7_make 5 none :: ([.fieldLink RX7 11 "OverHill$Slots" "widths" "[I", .fieldLink RX7 15 "OverHill$Slots" "sizes" "[I", .fieldLink RX7 18 "OverHill$Slots" "numbers" "[J"] ++ wsX70)
def wsX7_at : List Cond := .code yX7_at cX7_at 3 (some .long) :: ([.fieldLink RX7 18 "OverHill$Slots" "numbers" "[J"] ++ wsX70)
def wsX7_cut : List Cond := .code yX7_cut cX7_cut 3 (some .long) :: ([])
def wsX7_put : List Cond := .code yX7_put cX7_put 5 none :: ([.fieldLink RX7 18 "OverHill$Slots" "numbers" "[J", .fieldLink RX7 11 "OverHill$Slots" "widths" "[I", .methodLink RX7 30 yX7_cut, .static yX7_cut, .initialized RX7, .code yX7_cut cX7_cut 3 (some .long)] ++ wsX70)
def wsX7_holds : List Cond := .code yX7_holds cX7_holds 4 (some .boolean) :: ([.fieldLink RX7 15 "OverHill$Slots" "sizes" "[I"] ++ wsX70)
def wsX7_move : List Cond := .code yX7_move cX7_move 6 none :: ([.fieldLink RX7 18 "OverHill$Slots" "numbers" "[J", .methodLink RX7 34 arraycopyName, .native arraycopyName, .static arraycopyName, .initialized "java/lang/System"] ++ wsX70)
def wsX7_isBetween : List Cond := .code yX7_isBetween cX7_isBetween 6 (some .boolean) :: ([])
def wsX7_isTold : List Cond := .code yX7_isTold cX7_isTold 2 (some .boolean) :: ([.constantLong RX7 60 (-1), .constantLong RX7 70 (5), .methodLink RX7 49 yX7_isBetween, .static yX7_isBetween, .initialized RX7, .code yX7_isBetween cX7_isBetween 6 (some .boolean)])
def wsX7_refusalOfSteps_r1 : List Cond := [Cond.fieldLink RX7 15 "OverHill$Slots" "sizes" "[I", Cond.methodLink RX7 40 yX7_isSlot, Cond.static yX7_isSlot, Cond.initialized RX7, Cond.code yX7_isSlot cX7_isSlot 1 (some .boolean), Cond.static yX11_isWithin, Cond.initialized RX11, Cond.code yX11_isWithin cX11_isWithin 2 (some .boolean), Cond.methodLink RX7 26 yX7_has, Cond.instanceMethod yX7_has, Cond.selects RX7 yX7_has yX7_has, Cond.code yX7_has cX7_has 2 (some .boolean), Cond.methodLink RX7 43 yX7_at, Cond.instanceMethod yX7_at, Cond.selects RX7 yX7_at yX7_at, Cond.code yX7_at cX7_at 3 (some .long), Cond.fieldLink RX7 18 "OverHill$Slots" "numbers" "[J", Cond.methodLink RX7 53 yX7_isTold, Cond.static yX7_isTold, Cond.code yX7_isTold cX7_isTold 2 (some .boolean), Cond.constantLong RX7 60 (-1), Cond.constantLong RX7 70 (5), Cond.methodLink RX7 49 yX7_isBetween, Cond.static yX7_isBetween]
def wsX7_refusalOfSteps_r2 : List Cond := [Cond.code yX7_isBetween cX7_isBetween 6 (some .boolean)]
def wsX7_refusalOfSteps : List Cond := .code yX7_refusalOfSteps cX7_refusalOfSteps 3 (some .int) :: ((wsX7_refusalOfSteps_r1 ++ wsX7_refusalOfSteps_r2) ++ wsX70)
def wsX7_told : List Cond := .code yX7_told cX7_told 5 (some .int) :: ([.fieldLink RX7 15 "OverHill$Slots" "sizes" "[I", .constantLong RX7 60 (-1), .methodLink RX7 43 yX7_at, .instanceMethod yX7_at, .selects RX7 yX7_at yX7_at, .initialized RX7, .code yX7_at cX7_at 3 (some .long), .fieldLink RX7 18 "OverHill$Slots" "numbers" "[J"] ++ wsX70)
def wsX7_goesRound : List Cond := .code yX7_goesRound cX7_goesRound 6 (some .boolean) :: ([.fieldLink RX7 15 "OverHill$Slots" "sizes" "[I", .constantLong RX7 60 (-1), .methodLink RX7 43 yX7_at, .instanceMethod yX7_at, .selects RX7 yX7_at yX7_at, .initialized RX7, .code yX7_at cX7_at 3 (some .long), .fieldLink RX7 18 "OverHill$Slots" "numbers" "[J", .static yX11_wrap, .initialized RX11, .code yX11_wrap cX11_wrap 2 (some .int), .methodLink RX11 451 yJ9_floorMod_7cf53, .static yJ9_floorMod_7cf53, .initialized RJ9, .code yJ9_floorMod_7cf53 cJ9_floorMod_7cf53 3 (some .int), .methodLink RX7 62 yX7_told, .instanceMethod yX7_told, .selects RX7 yX7_told yX7_told, .code yX7_told cX7_told 5 (some .int)] ++ wsX70)
def wsX7_shortest : List Cond := .code yX7_shortest cX7_shortest 3 (some .int) :: ([.methodLink RX7 57 yX7_goesRound, .instanceMethod yX7_goesRound, .selects RX7 yX7_goesRound yX7_goesRound, .initialized RX7, .code yX7_goesRound cX7_goesRound 6 (some .boolean), .fieldLink RX7 15 "OverHill$Slots" "sizes" "[I", .constantLong RX7 60 (-1), .methodLink RX7 43 yX7_at, .instanceMethod yX7_at, .selects RX7 yX7_at yX7_at, .code yX7_at cX7_at 3 (some .long), .fieldLink RX7 18 "OverHill$Slots" "numbers" "[J", .static yX11_wrap, .initialized RX11, .code yX11_wrap cX11_wrap 2 (some .int), .methodLink RX11 451 yJ9_floorMod_7cf53, .static yJ9_floorMod_7cf53, .initialized RJ9, .code yJ9_floorMod_7cf53 cJ9_floorMod_7cf53 3 (some .int), .methodLink RX7 62 yX7_told, .instanceMethod yX7_told, .selects RX7 yX7_told yX7_told, .code yX7_told cX7_told 5 (some .int)] ++ wsX70)
def wsX7_countUntold : List Cond := .code yX7_countUntold cX7_countUntold 5 (some .int) :: ([.methodLink RX7 62 yX7_told, .instanceMethod yX7_told, .selects RX7 yX7_told yX7_told, .initialized RX7, .code yX7_told cX7_told 5 (some .int), .fieldLink RX7 15 "OverHill$Slots" "sizes" "[I", .constantLong RX7 60 (-1), .methodLink RX7 43 yX7_at, .instanceMethod yX7_at, .selects RX7 yX7_at yX7_at, .code yX7_at cX7_at 3 (some .long), .fieldLink RX7 18 "OverHill$Slots" "numbers" "[J"] ++ wsX70)
theorem wrr_wsX7_isSlot {i : Nat} {w : Cond} (h : wsX7_isSlot[i]? = some w) : w ∈ wsX7_isSlot := List.mem_of_getElem? h
set_option maxRecDepth 20000 in
theorem ggX7_isSlot_X11_isWithin : GoodIn wsX7_isSlot wsX11_isWithin := goodIn_sub (List.forall_mem_cons.mpr ⟨wrr_wsX7_isSlot (i := 3) rfl, (fun _ h => absurd h List.not_mem_nil)⟩) gw_wsX11_isWithin
set_option maxRecDepth 20000 in
theorem gX7_isSlot_X11_isWithin_n22 : GoodIn wsX7_isSlot (wsX11_isWithin) := ggX7_isSlot_X11_isWithin
theorem dX7_isSlot_0 : decode cX7_isSlot 0 = .ok (.iload_n 0, 1) := by decide +kernel
theorem dX7_isSlot_1 : decode cX7_isSlot 1 = .ok (.iconst 4, 1) := by decide +kernel
theorem dX7_isSlot_2 : decode cX7_isSlot 2 = .ok (.invokestatic 22, 3) := by decide +kernel
theorem dX7_isSlot_5 : decode cX7_isSlot 5 = .ok (.ireturn, 1) := by decide +kernel
theorem dX7_has_0 : decode cX7_has 0 = .ok (.aload_n 0, 1) := by decide +kernel
theorem dX7_has_1 : decode cX7_has 1 = .ok (.getfield 15, 3) := by decide +kernel
theorem dX7_has_4 : decode cX7_has 4 = .ok (.iload_n 1, 1) := by decide +kernel
theorem dX7_has_5 : decode cX7_has 5 = .ok (.iaload, 1) := by decide +kernel
theorem dX7_has_6 : decode cX7_has 6 = .ok (.iconst (-1), 1) := by decide +kernel
theorem dX7_has_7 : decode cX7_has 7 = .ok (.if_icmp .eq 7, 3) := by decide +kernel
theorem dX7_has_10 : decode cX7_has 10 = .ok (.iconst 1, 1) := by decide +kernel
theorem dX7_has_11 : decode cX7_has 11 = .ok (.goto 4, 3) := by decide +kernel
theorem dX7_has_14 : decode cX7_has 14 = .ok (.iconst 0, 1) := by decide +kernel
theorem dX7_has_15 : decode cX7_has 15 = .ok (.ireturn, 1) := by decide +kernel
theorem wrr_wsX7_countRows {i : Nat} {w : Cond} (h : wsX7_countRows[i]? = some w) : w ∈ wsX7_countRows := List.mem_of_getElem? h
theorem wru_wsX7_countRows_wsX70 : ∀ w ∈ wsX70, w ∈ wsX7_countRows := fun w h => (List.mem_cons_of_mem _ (List.mem_append_right _ h))
set_option maxRecDepth 20000 in
theorem gw_wsX7_has : wsX7_has.all goodWord = true := by decide +kernel
set_option maxRecDepth 20000 in
theorem ggX7_countRows_X7_has : GoodIn wsX7_countRows wsX7_has := goodIn_sub (List.forall_mem_cons.mpr ⟨wrr_wsX7_countRows (i := 5) rfl, (List.forall_mem_append.mpr ⟨(List.forall_mem_cons.mpr ⟨wrr_wsX7_countRows (i := 6) rfl, (fun _ h => absurd h List.not_mem_nil)⟩), wru_wsX7_countRows_wsX70⟩)⟩) gw_wsX7_has
set_option maxRecDepth 20000 in
theorem gX7_countRows_X7_has : GoodIn wsX7_countRows (wsV RX7 26 RX7 yX7_has wsX7_has) := goodIn_app (goodIn_sub (List.forall_mem_cons.mpr ⟨wrr_wsX7_countRows (i := 1) rfl, (List.forall_mem_cons.mpr ⟨wrr_wsX7_countRows (i := 2) rfl, (List.forall_mem_cons.mpr ⟨wrr_wsX7_countRows (i := 3) rfl, (List.forall_mem_cons.mpr ⟨wrr_wsX7_countRows (i := 4) rfl, (fun _ h => absurd h List.not_mem_nil)⟩)⟩)⟩)⟩) (by decide +kernel)) ggX7_countRows_X7_has
theorem dX7_countRows_0 : decode cX7_countRows 0 = .ok (.iconst 0, 1) := by decide +kernel
theorem dX7_countRows_1 : decode cX7_countRows 1 = .ok (.istore_n 1, 1) := by decide +kernel
theorem dX7_countRows_2 : decode cX7_countRows 2 = .ok (.iconst 0, 1) := by decide +kernel
theorem dX7_countRows_3 : decode cX7_countRows 3 = .ok (.istore_n 2, 1) := by decide +kernel
theorem dX7_countRows_4 : decode cX7_countRows 4 = .ok (.iload_n 2, 1) := by decide +kernel
theorem dX7_countRows_5 : decode cX7_countRows 5 = .ok (.iconst 4, 1) := by decide +kernel
theorem dX7_countRows_6 : decode cX7_countRows 6 = .ok (.if_icmp .ge 25, 3) := by decide +kernel
theorem dX7_countRows_9 : decode cX7_countRows 9 = .ok (.iload_n 1, 1) := by decide +kernel
theorem dX7_countRows_10 : decode cX7_countRows 10 = .ok (.aload_n 0, 1) := by decide +kernel
theorem dX7_countRows_11 : decode cX7_countRows 11 = .ok (.iload_n 2, 1) := by decide +kernel
theorem dX7_countRows_12 : decode cX7_countRows 12 = .ok (.invokevirtual 26, 3) := by decide +kernel
theorem dX7_countRows_15 : decode cX7_countRows 15 = .ok (.ifCond .eq 7, 3) := by decide +kernel
theorem dX7_countRows_18 : decode cX7_countRows 18 = .ok (.iconst 1, 1) := by decide +kernel
theorem dX7_countRows_19 : decode cX7_countRows 19 = .ok (.goto 4, 3) := by decide +kernel
theorem dX7_countRows_22 : decode cX7_countRows 22 = .ok (.iconst 0, 1) := by decide +kernel
theorem dX7_countRows_23 : decode cX7_countRows 23 = .ok (.iadd, 1) := by decide +kernel
theorem dX7_countRows_24 : decode cX7_countRows 24 = .ok (.istore_n 1, 1) := by decide +kernel
theorem dX7_countRows_25 : decode cX7_countRows 25 = .ok (.iinc 2 1, 3) := by decide +kernel
theorem dX7_countRows_28 : decode cX7_countRows 28 = .ok (.goto (-24), 3) := by decide +kernel
theorem dX7_countRows_31 : decode cX7_countRows 31 = .ok (.iload_n 1, 1) := by decide +kernel
theorem dX7_countRows_32 : decode cX7_countRows 32 = .ok (.ireturn, 1) := by decide +kernel
theorem dX7_make_0 : decode cX7_make 0 = .ok (.aload_n 0, 1) := by decide +kernel
theorem dX7_make_1 : decode cX7_make 1 = .ok (.getfield 11, 3) := by decide +kernel
theorem dX7_make_4 : decode cX7_make 4 = .ok (.iload_n 1, 1) := by decide +kernel
theorem dX7_make_5 : decode cX7_make 5 = .ok (.iload_n 2, 1) := by decide +kernel
theorem dX7_make_6 : decode cX7_make 6 = .ok (.iastore, 1) := by decide +kernel
theorem dX7_make_7 : decode cX7_make 7 = .ok (.aload_n 0, 1) := by decide +kernel
theorem dX7_make_8 : decode cX7_make 8 = .ok (.getfield 15, 3) := by decide +kernel
theorem dX7_make_11 : decode cX7_make 11 = .ok (.iload_n 1, 1) := by decide +kernel
theorem dX7_make_12 : decode cX7_make 12 = .ok (.iload_n 3, 1) := by decide +kernel
theorem dX7_make_13 : decode cX7_make 13 = .ok (.iastore, 1) := by decide +kernel
theorem dX7_make_14 : decode cX7_make 14 = .ok (.iconst 0, 1) := by decide +kernel
theorem dX7_make_15 : decode cX7_make 15 = .ok (.istore 4, 2) := by decide +kernel
theorem dX7_make_17 : decode cX7_make 17 = .ok (.iload 4, 2) := by decide +kernel
theorem dX7_make_19 : decode cX7_make 19 = .ok (.bipush 60, 2) := by decide +kernel
theorem dX7_make_21 : decode cX7_make 21 = .ok (.if_icmp .ge 22, 3) := by decide +kernel
theorem dX7_make_24 : decode cX7_make 24 = .ok (.aload_n 0, 1) := by decide +kernel
theorem dX7_make_25 : decode cX7_make 25 = .ok (.getfield 18, 3) := by decide +kernel
theorem dX7_make_28 : decode cX7_make 28 = .ok (.iload_n 1, 1) := by decide +kernel
theorem dX7_make_29 : decode cX7_make 29 = .ok (.bipush 60, 2) := by decide +kernel
theorem dX7_make_31 : decode cX7_make 31 = .ok (.imul, 1) := by decide +kernel
theorem dX7_make_32 : decode cX7_make 32 = .ok (.iload 4, 2) := by decide +kernel
theorem dX7_make_34 : decode cX7_make 34 = .ok (.iadd, 1) := by decide +kernel
theorem dX7_make_35 : decode cX7_make 35 = .ok (.lconst 0, 1) := by decide +kernel
theorem dX7_make_36 : decode cX7_make 36 = .ok (.lastore, 1) := by decide +kernel
theorem dX7_make_37 : decode cX7_make 37 = .ok (.iinc 4 1, 3) := by decide +kernel
theorem dX7_make_40 : decode cX7_make 40 = .ok (.goto (-23), 3) := by decide +kernel
theorem dX7_make_43 : decode cX7_make 43 = .ok (.return_, 1) := by decide +kernel
theorem dX7_at_0 : decode cX7_at 0 = .ok (.aload_n 0, 1) := by decide +kernel
theorem dX7_at_1 : decode cX7_at 1 = .ok (.getfield 18, 3) := by decide +kernel
theorem dX7_at_4 : decode cX7_at 4 = .ok (.iload_n 1, 1) := by decide +kernel
theorem dX7_at_5 : decode cX7_at 5 = .ok (.bipush 60, 2) := by decide +kernel
theorem dX7_at_7 : decode cX7_at 7 = .ok (.imul, 1) := by decide +kernel
theorem dX7_at_8 : decode cX7_at 8 = .ok (.iload_n 2, 1) := by decide +kernel
theorem dX7_at_9 : decode cX7_at 9 = .ok (.iadd, 1) := by decide +kernel
theorem dX7_at_10 : decode cX7_at 10 = .ok (.laload, 1) := by decide +kernel
theorem dX7_at_11 : decode cX7_at 11 = .ok (.lreturn, 1) := by decide +kernel
theorem wrr_wsX7_put {i : Nat} {w : Cond} (h : wsX7_put[i]? = some w) : w ∈ wsX7_put := List.mem_of_getElem? h
theorem wru_wsX7_put_wsX70 : ∀ w ∈ wsX70, w ∈ wsX7_put := fun w h => (List.mem_cons_of_mem _ (List.mem_append_right _ h))
set_option maxRecDepth 20000 in
theorem gw_wsX7_cut : wsX7_cut.all goodWord = true := by decide +kernel
set_option maxRecDepth 20000 in
theorem ggX7_put_X7_cut : GoodIn wsX7_put wsX7_cut := goodIn_sub (List.forall_mem_cons.mpr ⟨wrr_wsX7_put (i := 6) rfl, (fun _ h => absurd h List.not_mem_nil)⟩) gw_wsX7_cut
set_option maxRecDepth 20000 in
theorem gX7_put_X7_cut : GoodIn wsX7_put (va_wsS RX7 30 yX7_cut wsX7_cut) := goodIn_app (goodIn_sub (List.forall_mem_cons.mpr ⟨wrr_wsX7_put (i := 3) rfl, (List.forall_mem_cons.mpr ⟨wrr_wsX7_put (i := 4) rfl, (List.forall_mem_cons.mpr ⟨wrr_wsX7_put (i := 5) rfl, (fun _ h => absurd h List.not_mem_nil)⟩)⟩)⟩) (by decide +kernel)) ggX7_put_X7_cut
theorem dX7_put_0 : decode cX7_put 0 = .ok (.aload_n 0, 1) := by decide +kernel
theorem dX7_put_1 : decode cX7_put 1 = .ok (.getfield 18, 3) := by decide +kernel
theorem dX7_put_4 : decode cX7_put 4 = .ok (.iload_n 1, 1) := by decide +kernel
theorem dX7_put_5 : decode cX7_put 5 = .ok (.bipush 60, 2) := by decide +kernel
theorem dX7_put_7 : decode cX7_put 7 = .ok (.imul, 1) := by decide +kernel
theorem dX7_put_8 : decode cX7_put 8 = .ok (.iload_n 2, 1) := by decide +kernel
theorem dX7_put_9 : decode cX7_put 9 = .ok (.iadd, 1) := by decide +kernel
theorem dX7_put_10 : decode cX7_put 10 = .ok (.lload_n 3, 1) := by decide +kernel
theorem dX7_put_11 : decode cX7_put 11 = .ok (.aload_n 0, 1) := by decide +kernel
theorem dX7_put_12 : decode cX7_put 12 = .ok (.getfield 11, 3) := by decide +kernel
theorem dX7_put_15 : decode cX7_put 15 = .ok (.iload_n 1, 1) := by decide +kernel
theorem dX7_put_16 : decode cX7_put 16 = .ok (.iaload, 1) := by decide +kernel
theorem dX7_put_17 : decode cX7_put 17 = .ok (.invokestatic 30, 3) := by decide +kernel
theorem dX7_put_20 : decode cX7_put 20 = .ok (.lastore, 1) := by decide +kernel
theorem dX7_put_21 : decode cX7_put 21 = .ok (.return_, 1) := by decide +kernel
theorem dX7_holds_0 : decode cX7_holds 0 = .ok (.iload_n 2, 1) := by decide +kernel
theorem dX7_holds_1 : decode cX7_holds 1 = .ok (.ifCond .lt 33, 3) := by decide +kernel
theorem dX7_holds_4 : decode cX7_holds 4 = .ok (.iload_n 3, 1) := by decide +kernel
theorem dX7_holds_5 : decode cX7_holds 5 = .ok (.ifCond .lt 29, 3) := by decide +kernel
theorem dX7_holds_8 : decode cX7_holds 8 = .ok (.iload_n 3, 1) := by decide +kernel
theorem dX7_holds_9 : decode cX7_holds 9 = .ok (.aload_n 0, 1) := by decide +kernel
theorem dX7_holds_10 : decode cX7_holds 10 = .ok (.getfield 15, 3) := by decide +kernel
theorem dX7_holds_13 : decode cX7_holds 13 = .ok (.iload_n 1, 1) := by decide +kernel
theorem dX7_holds_14 : decode cX7_holds 14 = .ok (.iaload, 1) := by decide +kernel
theorem dX7_holds_15 : decode cX7_holds 15 = .ok (.if_icmp .gt 19, 3) := by decide +kernel
theorem dX7_holds_18 : decode cX7_holds 18 = .ok (.iload_n 2, 1) := by decide +kernel
theorem dX7_holds_19 : decode cX7_holds 19 = .ok (.aload_n 0, 1) := by decide +kernel
theorem dX7_holds_20 : decode cX7_holds 20 = .ok (.getfield 15, 3) := by decide +kernel
theorem dX7_holds_23 : decode cX7_holds 23 = .ok (.iload_n 1, 1) := by decide +kernel
theorem dX7_holds_24 : decode cX7_holds 24 = .ok (.iaload, 1) := by decide +kernel
theorem dX7_holds_25 : decode cX7_holds 25 = .ok (.iload_n 3, 1) := by decide +kernel
theorem dX7_holds_26 : decode cX7_holds 26 = .ok (.isub, 1) := by decide +kernel
theorem dX7_holds_27 : decode cX7_holds 27 = .ok (.if_icmp .gt 7, 3) := by decide +kernel
theorem dX7_holds_30 : decode cX7_holds 30 = .ok (.iconst 1, 1) := by decide +kernel
theorem dX7_holds_31 : decode cX7_holds 31 = .ok (.goto 4, 3) := by decide +kernel
theorem dX7_holds_34 : decode cX7_holds 34 = .ok (.iconst 0, 1) := by decide +kernel
theorem dX7_holds_35 : decode cX7_holds 35 = .ok (.ireturn, 1) := by decide +kernel
theorem dX7_move_0 : decode cX7_move 0 = .ok (.aload_n 0, 1) := by decide +kernel
theorem dX7_move_1 : decode cX7_move 1 = .ok (.getfield 18, 3) := by decide +kernel
theorem dX7_move_4 : decode cX7_move 4 = .ok (.iload_n 1, 1) := by decide +kernel
theorem dX7_move_5 : decode cX7_move 5 = .ok (.bipush 60, 2) := by decide +kernel
theorem dX7_move_7 : decode cX7_move 7 = .ok (.imul, 1) := by decide +kernel
theorem dX7_move_8 : decode cX7_move 8 = .ok (.iload_n 2, 1) := by decide +kernel
theorem dX7_move_9 : decode cX7_move 9 = .ok (.iadd, 1) := by decide +kernel
theorem dX7_move_10 : decode cX7_move 10 = .ok (.aload_n 0, 1) := by decide +kernel
theorem dX7_move_11 : decode cX7_move 11 = .ok (.getfield 18, 3) := by decide +kernel
theorem dX7_move_14 : decode cX7_move 14 = .ok (.iload_n 3, 1) := by decide +kernel
theorem dX7_move_15 : decode cX7_move 15 = .ok (.bipush 60, 2) := by decide +kernel
theorem dX7_move_17 : decode cX7_move 17 = .ok (.imul, 1) := by decide +kernel
theorem dX7_move_18 : decode cX7_move 18 = .ok (.iload 4, 2) := by decide +kernel
theorem dX7_move_20 : decode cX7_move 20 = .ok (.iadd, 1) := by decide +kernel
theorem dX7_move_21 : decode cX7_move 21 = .ok (.iload 5, 2) := by decide +kernel
theorem dX7_move_23 : decode cX7_move 23 = .ok (.invokestatic 34, 3) := by decide +kernel
theorem dX7_move_26 : decode cX7_move 26 = .ok (.return_, 1) := by decide +kernel
theorem wrr_wsX7_refusalOfSteps {i : Nat} {w : Cond} (h : wsX7_refusalOfSteps[i]? = some w) : w ∈ wsX7_refusalOfSteps := List.mem_of_getElem? h
theorem wrr_wsX7_refusalOfSteps_wsX7_refusalOfSteps_r1 {i : Nat} {w : Cond} (h : wsX7_refusalOfSteps_r1[i]? = some w) : w ∈ wsX7_refusalOfSteps := (List.mem_cons_of_mem _ (List.mem_append_left _ (List.mem_append_left _ (List.mem_of_getElem? h))))
theorem wrr_wsX7_refusalOfSteps_wsX7_refusalOfSteps_r2 {i : Nat} {w : Cond} (h : wsX7_refusalOfSteps_r2[i]? = some w) : w ∈ wsX7_refusalOfSteps := (List.mem_cons_of_mem _ (List.mem_append_left _ (List.mem_append_right _ (List.mem_of_getElem? h))))
theorem wru_wsX7_refusalOfSteps_wsX70 : ∀ w ∈ wsX70, w ∈ wsX7_refusalOfSteps := fun w h => (List.mem_cons_of_mem _ (List.mem_append_right _ h))
set_option maxRecDepth 20000 in
theorem gw_wsX7_isSlot : wsX7_isSlot.all goodWord = true := by decide +kernel
set_option maxRecDepth 20000 in
theorem ggX7_refusalOfSteps_X7_isSlot : GoodIn wsX7_refusalOfSteps wsX7_isSlot := goodIn_sub (List.forall_mem_cons.mpr ⟨wrr_wsX7_refusalOfSteps_wsX7_refusalOfSteps_r1 (i := 4) rfl, (List.forall_mem_cons.mpr ⟨wrr_wsX7_refusalOfSteps_wsX7_refusalOfSteps_r1 (i := 5) rfl, (List.forall_mem_cons.mpr ⟨wrr_wsX7_refusalOfSteps_wsX7_refusalOfSteps_r1 (i := 6) rfl, (List.forall_mem_cons.mpr ⟨wrr_wsX7_refusalOfSteps_wsX7_refusalOfSteps_r1 (i := 7) rfl, (fun _ h => absurd h List.not_mem_nil)⟩)⟩)⟩)⟩) gw_wsX7_isSlot
set_option maxRecDepth 20000 in
theorem gX7_refusalOfSteps_X7_isSlot : GoodIn wsX7_refusalOfSteps (va_wsS RX7 40 yX7_isSlot wsX7_isSlot) := goodIn_app (goodIn_sub (List.forall_mem_cons.mpr ⟨wrr_wsX7_refusalOfSteps_wsX7_refusalOfSteps_r1 (i := 1) rfl, (List.forall_mem_cons.mpr ⟨wrr_wsX7_refusalOfSteps_wsX7_refusalOfSteps_r1 (i := 2) rfl, (List.forall_mem_cons.mpr ⟨wrr_wsX7_refusalOfSteps_wsX7_refusalOfSteps_r1 (i := 3) rfl, (fun _ h => absurd h List.not_mem_nil)⟩)⟩)⟩) (by decide +kernel)) ggX7_refusalOfSteps_X7_isSlot
set_option maxRecDepth 20000 in
theorem ggX7_refusalOfSteps_X7_has : GoodIn wsX7_refusalOfSteps wsX7_has := goodIn_sub (List.forall_mem_cons.mpr ⟨wrr_wsX7_refusalOfSteps_wsX7_refusalOfSteps_r1 (i := 11) rfl, (List.forall_mem_append.mpr ⟨(List.forall_mem_cons.mpr ⟨wrr_wsX7_refusalOfSteps_wsX7_refusalOfSteps_r1 (i := 0) rfl, (fun _ h => absurd h List.not_mem_nil)⟩), wru_wsX7_refusalOfSteps_wsX70⟩)⟩) gw_wsX7_has
set_option maxRecDepth 20000 in
theorem gX7_refusalOfSteps_X7_has : GoodIn wsX7_refusalOfSteps (wsV RX7 26 RX7 yX7_has wsX7_has) := goodIn_app (goodIn_sub (List.forall_mem_cons.mpr ⟨wrr_wsX7_refusalOfSteps_wsX7_refusalOfSteps_r1 (i := 8) rfl, (List.forall_mem_cons.mpr ⟨wrr_wsX7_refusalOfSteps_wsX7_refusalOfSteps_r1 (i := 9) rfl, (List.forall_mem_cons.mpr ⟨wrr_wsX7_refusalOfSteps_wsX7_refusalOfSteps_r1 (i := 10) rfl, (List.forall_mem_cons.mpr ⟨wrr_wsX7_refusalOfSteps_wsX7_refusalOfSteps_r1 (i := 3) rfl, (fun _ h => absurd h List.not_mem_nil)⟩)⟩)⟩)⟩) (by decide +kernel)) ggX7_refusalOfSteps_X7_has
set_option maxRecDepth 20000 in
theorem gw_wsX7_at : wsX7_at.all goodWord = true := by decide +kernel
set_option maxRecDepth 20000 in
theorem ggX7_refusalOfSteps_X7_at : GoodIn wsX7_refusalOfSteps wsX7_at := goodIn_sub (List.forall_mem_cons.mpr ⟨wrr_wsX7_refusalOfSteps_wsX7_refusalOfSteps_r1 (i := 15) rfl, (List.forall_mem_append.mpr ⟨(List.forall_mem_cons.mpr ⟨wrr_wsX7_refusalOfSteps_wsX7_refusalOfSteps_r1 (i := 16) rfl, (fun _ h => absurd h List.not_mem_nil)⟩), wru_wsX7_refusalOfSteps_wsX70⟩)⟩) gw_wsX7_at
set_option maxRecDepth 20000 in
theorem gX7_refusalOfSteps_X7_at : GoodIn wsX7_refusalOfSteps (wsV RX7 43 RX7 yX7_at wsX7_at) := goodIn_app (goodIn_sub (List.forall_mem_cons.mpr ⟨wrr_wsX7_refusalOfSteps_wsX7_refusalOfSteps_r1 (i := 12) rfl, (List.forall_mem_cons.mpr ⟨wrr_wsX7_refusalOfSteps_wsX7_refusalOfSteps_r1 (i := 13) rfl, (List.forall_mem_cons.mpr ⟨wrr_wsX7_refusalOfSteps_wsX7_refusalOfSteps_r1 (i := 14) rfl, (List.forall_mem_cons.mpr ⟨wrr_wsX7_refusalOfSteps_wsX7_refusalOfSteps_r1 (i := 3) rfl, (fun _ h => absurd h List.not_mem_nil)⟩)⟩)⟩)⟩) (by decide +kernel)) ggX7_refusalOfSteps_X7_at
set_option maxRecDepth 20000 in
theorem gw_wsX7_isTold : wsX7_isTold.all goodWord = true := by decide +kernel
set_option maxRecDepth 20000 in
theorem ggX7_refusalOfSteps_X7_isTold : GoodIn wsX7_refusalOfSteps wsX7_isTold := goodIn_sub (List.forall_mem_cons.mpr ⟨wrr_wsX7_refusalOfSteps_wsX7_refusalOfSteps_r1 (i := 19) rfl, (List.forall_mem_cons.mpr ⟨wrr_wsX7_refusalOfSteps_wsX7_refusalOfSteps_r1 (i := 20) rfl, (List.forall_mem_cons.mpr ⟨wrr_wsX7_refusalOfSteps_wsX7_refusalOfSteps_r1 (i := 21) rfl, (List.forall_mem_cons.mpr ⟨wrr_wsX7_refusalOfSteps_wsX7_refusalOfSteps_r1 (i := 22) rfl, (List.forall_mem_cons.mpr ⟨wrr_wsX7_refusalOfSteps_wsX7_refusalOfSteps_r1 (i := 23) rfl, (List.forall_mem_cons.mpr ⟨wrr_wsX7_refusalOfSteps_wsX7_refusalOfSteps_r1 (i := 3) rfl, (List.forall_mem_cons.mpr ⟨wrr_wsX7_refusalOfSteps_wsX7_refusalOfSteps_r2 (i := 0) rfl, (fun _ h => absurd h List.not_mem_nil)⟩)⟩)⟩)⟩)⟩)⟩)⟩) gw_wsX7_isTold
set_option maxRecDepth 20000 in
theorem gX7_refusalOfSteps_X7_isTold : GoodIn wsX7_refusalOfSteps (va_wsS RX7 53 yX7_isTold wsX7_isTold) := goodIn_app (goodIn_sub (List.forall_mem_cons.mpr ⟨wrr_wsX7_refusalOfSteps_wsX7_refusalOfSteps_r1 (i := 17) rfl, (List.forall_mem_cons.mpr ⟨wrr_wsX7_refusalOfSteps_wsX7_refusalOfSteps_r1 (i := 18) rfl, (List.forall_mem_cons.mpr ⟨wrr_wsX7_refusalOfSteps_wsX7_refusalOfSteps_r1 (i := 3) rfl, (fun _ h => absurd h List.not_mem_nil)⟩)⟩)⟩) (by decide +kernel)) ggX7_refusalOfSteps_X7_isTold
theorem dX7_refusalOfSteps_0 : decode cX7_refusalOfSteps 0 = .ok (.iload_n 1, 1) := by decide +kernel
theorem dX7_refusalOfSteps_1 : decode cX7_refusalOfSteps 1 = .ok (.invokestatic 40, 3) := by decide +kernel
theorem dX7_refusalOfSteps_4 : decode cX7_refusalOfSteps 4 = .ok (.ifCond .ne 6, 3) := by decide +kernel
theorem dX7_refusalOfSteps_7 : decode cX7_refusalOfSteps 7 = .ok (.bipush (-2), 2) := by decide +kernel
theorem dX7_refusalOfSteps_9 : decode cX7_refusalOfSteps 9 = .ok (.ireturn, 1) := by decide +kernel
theorem dX7_refusalOfSteps_10 : decode cX7_refusalOfSteps 10 = .ok (.aload_n 0, 1) := by decide +kernel
theorem dX7_refusalOfSteps_11 : decode cX7_refusalOfSteps 11 = .ok (.iload_n 1, 1) := by decide +kernel
theorem dX7_refusalOfSteps_12 : decode cX7_refusalOfSteps 12 = .ok (.invokevirtual 26, 3) := by decide +kernel
theorem dX7_refusalOfSteps_15 : decode cX7_refusalOfSteps 15 = .ok (.ifCond .ne 6, 3) := by decide +kernel
theorem dX7_refusalOfSteps_18 : decode cX7_refusalOfSteps 18 = .ok (.bipush (-6), 2) := by decide +kernel
theorem dX7_refusalOfSteps_20 : decode cX7_refusalOfSteps 20 = .ok (.ireturn, 1) := by decide +kernel
theorem dX7_refusalOfSteps_21 : decode cX7_refusalOfSteps 21 = .ok (.iconst 0, 1) := by decide +kernel
theorem dX7_refusalOfSteps_22 : decode cX7_refusalOfSteps 22 = .ok (.istore_n 2, 1) := by decide +kernel
theorem dX7_refusalOfSteps_23 : decode cX7_refusalOfSteps 23 = .ok (.iload_n 2, 1) := by decide +kernel
theorem dX7_refusalOfSteps_24 : decode cX7_refusalOfSteps 24 = .ok (.aload_n 0, 1) := by decide +kernel
theorem dX7_refusalOfSteps_25 : decode cX7_refusalOfSteps 25 = .ok (.getfield 15, 3) := by decide +kernel
theorem dX7_refusalOfSteps_28 : decode cX7_refusalOfSteps 28 = .ok (.iload_n 1, 1) := by decide +kernel
theorem dX7_refusalOfSteps_29 : decode cX7_refusalOfSteps 29 = .ok (.iaload, 1) := by decide +kernel
theorem dX7_refusalOfSteps_30 : decode cX7_refusalOfSteps 30 = .ok (.if_icmp .ge 24, 3) := by decide +kernel
theorem dX7_refusalOfSteps_33 : decode cX7_refusalOfSteps 33 = .ok (.aload_n 0, 1) := by decide +kernel
theorem dX7_refusalOfSteps_34 : decode cX7_refusalOfSteps 34 = .ok (.iload_n 1, 1) := by decide +kernel
theorem dX7_refusalOfSteps_35 : decode cX7_refusalOfSteps 35 = .ok (.iload_n 2, 1) := by decide +kernel
theorem dX7_refusalOfSteps_36 : decode cX7_refusalOfSteps 36 = .ok (.invokevirtual 43, 3) := by decide +kernel
theorem dX7_refusalOfSteps_39 : decode cX7_refusalOfSteps 39 = .ok (.invokestatic 53, 3) := by decide +kernel
theorem dX7_refusalOfSteps_42 : decode cX7_refusalOfSteps 42 = .ok (.ifCond .ne 6, 3) := by decide +kernel
theorem dX7_refusalOfSteps_45 : decode cX7_refusalOfSteps 45 = .ok (.bipush (-2), 2) := by decide +kernel
theorem dX7_refusalOfSteps_47 : decode cX7_refusalOfSteps 47 = .ok (.ireturn, 1) := by decide +kernel
theorem dX7_refusalOfSteps_48 : decode cX7_refusalOfSteps 48 = .ok (.iinc 2 1, 3) := by decide +kernel
theorem dX7_refusalOfSteps_51 : decode cX7_refusalOfSteps 51 = .ok (.goto (-28), 3) := by decide +kernel
theorem dX7_refusalOfSteps_54 : decode cX7_refusalOfSteps 54 = .ok (.iconst 0, 1) := by decide +kernel
theorem dX7_refusalOfSteps_55 : decode cX7_refusalOfSteps 55 = .ok (.ireturn, 1) := by decide +kernel
theorem wrr_wsX7_shortest {i : Nat} {w : Cond} (h : wsX7_shortest[i]? = some w) : w ∈ wsX7_shortest := List.mem_of_getElem? h
theorem wru_wsX7_shortest_wsX70 : ∀ w ∈ wsX70, w ∈ wsX7_shortest := fun w h => (List.mem_cons_of_mem _ (List.mem_append_right _ h))
set_option maxRecDepth 20000 in
theorem gw_wsX7_goesRound : wsX7_goesRound.all goodWord = true := by decide +kernel
set_option maxRecDepth 20000 in
theorem ggX7_shortest_X7_goesRound : GoodIn wsX7_shortest wsX7_goesRound := goodIn_sub (List.forall_mem_cons.mpr ⟨wrr_wsX7_shortest (i := 5) rfl, (List.forall_mem_append.mpr ⟨(List.forall_mem_cons.mpr ⟨wrr_wsX7_shortest (i := 6) rfl, (List.forall_mem_cons.mpr ⟨wrr_wsX7_shortest (i := 7) rfl, (List.forall_mem_cons.mpr ⟨wrr_wsX7_shortest (i := 8) rfl, (List.forall_mem_cons.mpr ⟨wrr_wsX7_shortest (i := 9) rfl, (List.forall_mem_cons.mpr ⟨wrr_wsX7_shortest (i := 10) rfl, (List.forall_mem_cons.mpr ⟨wrr_wsX7_shortest (i := 4) rfl, (List.forall_mem_cons.mpr ⟨wrr_wsX7_shortest (i := 11) rfl, (List.forall_mem_cons.mpr ⟨wrr_wsX7_shortest (i := 12) rfl, (List.forall_mem_cons.mpr ⟨wrr_wsX7_shortest (i := 13) rfl, (List.forall_mem_cons.mpr ⟨wrr_wsX7_shortest (i := 14) rfl, (List.forall_mem_cons.mpr ⟨wrr_wsX7_shortest (i := 15) rfl, (List.forall_mem_cons.mpr ⟨wrr_wsX7_shortest (i := 16) rfl, (List.forall_mem_cons.mpr ⟨wrr_wsX7_shortest (i := 17) rfl, (List.forall_mem_cons.mpr ⟨wrr_wsX7_shortest (i := 18) rfl, (List.forall_mem_cons.mpr ⟨wrr_wsX7_shortest (i := 19) rfl, (List.forall_mem_cons.mpr ⟨wrr_wsX7_shortest (i := 20) rfl, (List.forall_mem_cons.mpr ⟨wrr_wsX7_shortest (i := 21) rfl, (List.forall_mem_cons.mpr ⟨wrr_wsX7_shortest (i := 22) rfl, (List.forall_mem_cons.mpr ⟨wrr_wsX7_shortest (i := 23) rfl, (fun _ h => absurd h List.not_mem_nil)⟩)⟩)⟩)⟩)⟩)⟩)⟩)⟩)⟩)⟩)⟩)⟩)⟩)⟩)⟩)⟩)⟩)⟩)⟩), wru_wsX7_shortest_wsX70⟩)⟩) gw_wsX7_goesRound
set_option maxRecDepth 20000 in
theorem gX7_shortest_X7_goesRound : GoodIn wsX7_shortest (wsV RX7 57 RX7 yX7_goesRound wsX7_goesRound) := goodIn_app (goodIn_sub (List.forall_mem_cons.mpr ⟨wrr_wsX7_shortest (i := 1) rfl, (List.forall_mem_cons.mpr ⟨wrr_wsX7_shortest (i := 2) rfl, (List.forall_mem_cons.mpr ⟨wrr_wsX7_shortest (i := 3) rfl, (List.forall_mem_cons.mpr ⟨wrr_wsX7_shortest (i := 4) rfl, (fun _ h => absurd h List.not_mem_nil)⟩)⟩)⟩)⟩) (by decide +kernel)) ggX7_shortest_X7_goesRound
theorem dX7_shortest_0 : decode cX7_shortest 0 = .ok (.iconst 1, 1) := by decide +kernel
theorem dX7_shortest_1 : decode cX7_shortest 1 = .ok (.istore_n 2, 1) := by decide +kernel
theorem dX7_shortest_2 : decode cX7_shortest 2 = .ok (.iload_n 2, 1) := by decide +kernel
theorem dX7_shortest_3 : decode cX7_shortest 3 = .ok (.bipush 12, 2) := by decide +kernel
theorem dX7_shortest_5 : decode cX7_shortest 5 = .ok (.if_icmp .gt 20, 3) := by decide +kernel
theorem dX7_shortest_8 : decode cX7_shortest 8 = .ok (.aload_n 0, 1) := by decide +kernel
theorem dX7_shortest_9 : decode cX7_shortest 9 = .ok (.iload_n 1, 1) := by decide +kernel
theorem dX7_shortest_10 : decode cX7_shortest 10 = .ok (.iload_n 2, 1) := by decide +kernel
theorem dX7_shortest_11 : decode cX7_shortest 11 = .ok (.invokevirtual 57, 3) := by decide +kernel
theorem dX7_shortest_14 : decode cX7_shortest 14 = .ok (.ifCond .eq 5, 3) := by decide +kernel
theorem dX7_shortest_17 : decode cX7_shortest 17 = .ok (.iload_n 2, 1) := by decide +kernel
theorem dX7_shortest_18 : decode cX7_shortest 18 = .ok (.ireturn, 1) := by decide +kernel
theorem dX7_shortest_19 : decode cX7_shortest 19 = .ok (.iinc 2 1, 3) := by decide +kernel
theorem dX7_shortest_22 : decode cX7_shortest 22 = .ok (.goto (-20), 3) := by decide +kernel
theorem dX7_shortest_25 : decode cX7_shortest 25 = .ok (.iconst (-1), 1) := by decide +kernel
theorem dX7_shortest_26 : decode cX7_shortest 26 = .ok (.ireturn, 1) := by decide +kernel
theorem wrr_wsX7_told {i : Nat} {w : Cond} (h : wsX7_told[i]? = some w) : w ∈ wsX7_told := List.mem_of_getElem? h
theorem wru_wsX7_told_wsX70 : ∀ w ∈ wsX70, w ∈ wsX7_told := fun w h => (List.mem_cons_of_mem _ (List.mem_append_right _ h))
set_option maxRecDepth 20000 in
theorem ggX7_told_X7_at : GoodIn wsX7_told wsX7_at := goodIn_sub (List.forall_mem_cons.mpr ⟨wrr_wsX7_told (i := 7) rfl, (List.forall_mem_append.mpr ⟨(List.forall_mem_cons.mpr ⟨wrr_wsX7_told (i := 8) rfl, (fun _ h => absurd h List.not_mem_nil)⟩), wru_wsX7_told_wsX70⟩)⟩) gw_wsX7_at
set_option maxRecDepth 20000 in
theorem gX7_told_X7_at : GoodIn wsX7_told (wsV RX7 43 RX7 yX7_at wsX7_at) := goodIn_app (goodIn_sub (List.forall_mem_cons.mpr ⟨wrr_wsX7_told (i := 3) rfl, (List.forall_mem_cons.mpr ⟨wrr_wsX7_told (i := 4) rfl, (List.forall_mem_cons.mpr ⟨wrr_wsX7_told (i := 5) rfl, (List.forall_mem_cons.mpr ⟨wrr_wsX7_told (i := 6) rfl, (fun _ h => absurd h List.not_mem_nil)⟩)⟩)⟩)⟩) (by decide +kernel)) ggX7_told_X7_at
theorem dX7_told_0 : decode cX7_told 0 = .ok (.iload_n 2, 1) := by decide +kernel
theorem dX7_told_1 : decode cX7_told 1 = .ok (.iconst 1, 1) := by decide +kernel
theorem dX7_told_2 : decode cX7_told 2 = .ok (.if_icmp .ge 5, 3) := by decide +kernel
theorem dX7_told_7 : decode cX7_told 7 = .ok (.iload_n 3, 1) := by decide +kernel
theorem dX7_told_8 : decode cX7_told 8 = .ok (.istore 4, 2) := by decide +kernel
theorem dX7_told_10 : decode cX7_told 10 = .ok (.iload 4, 2) := by decide +kernel
theorem dX7_told_12 : decode cX7_told 12 = .ok (.aload_n 0, 1) := by decide +kernel
theorem dX7_told_13 : decode cX7_told 13 = .ok (.getfield 15, 3) := by decide +kernel
theorem dX7_told_16 : decode cX7_told 16 = .ok (.iload_n 1, 1) := by decide +kernel
theorem dX7_told_17 : decode cX7_told 17 = .ok (.iaload, 1) := by decide +kernel
theorem dX7_told_18 : decode cX7_told 18 = .ok (.if_icmp .ge 35, 3) := by decide +kernel
theorem dX7_told_21 : decode cX7_told 21 = .ok (.aload_n 0, 1) := by decide +kernel
theorem dX7_told_22 : decode cX7_told 22 = .ok (.iload_n 1, 1) := by decide +kernel
theorem dX7_told_23 : decode cX7_told 23 = .ok (.iload 4, 2) := by decide +kernel
theorem dX7_told_25 : decode cX7_told 25 = .ok (.invokevirtual 43, 3) := by decide +kernel
theorem dX7_told_28 : decode cX7_told 28 = .ok (.ldc2_w 60, 3) := by decide +kernel
theorem dX7_told_31 : decode cX7_told 31 = .ok (.lcmp, 1) := by decide +kernel
theorem dX7_told_32 : decode cX7_told 32 = .ok (.ifCond .eq 12, 3) := by decide +kernel
theorem dX7_told_35 : decode cX7_told 35 = .ok (.aload_n 0, 1) := by decide +kernel
theorem dX7_told_36 : decode cX7_told 36 = .ok (.iload_n 1, 1) := by decide +kernel
theorem dX7_told_37 : decode cX7_told 37 = .ok (.iload 4, 2) := by decide +kernel
theorem dX7_told_39 : decode cX7_told 39 = .ok (.invokevirtual 43, 3) := by decide +kernel
theorem dX7_told_42 : decode cX7_told 42 = .ok (.l2i, 1) := by decide +kernel
theorem dX7_told_43 : decode cX7_told 43 = .ok (.ireturn, 1) := by decide +kernel
theorem dX7_told_44 : decode cX7_told 44 = .ok (.iload 4, 2) := by decide +kernel
theorem dX7_told_46 : decode cX7_told 46 = .ok (.iload_n 2, 1) := by decide +kernel
theorem dX7_told_47 : decode cX7_told 47 = .ok (.iadd, 1) := by decide +kernel
theorem dX7_told_48 : decode cX7_told 48 = .ok (.istore 4, 2) := by decide +kernel
theorem dX7_told_50 : decode cX7_told 50 = .ok (.goto (-40), 3) := by decide +kernel
theorem dX7_told_53 : decode cX7_told 53 = .ok (.iconst (-1), 1) := by decide +kernel
theorem dX7_told_54 : decode cX7_told 54 = .ok (.ireturn, 1) := by decide +kernel
theorem wrr_wsX7_countUntold {i : Nat} {w : Cond} (h : wsX7_countUntold[i]? = some w) : w ∈ wsX7_countUntold := List.mem_of_getElem? h
theorem wru_wsX7_countUntold_wsX70 : ∀ w ∈ wsX70, w ∈ wsX7_countUntold := fun w h => (List.mem_cons_of_mem _ (List.mem_append_right _ h))
set_option maxRecDepth 20000 in
theorem gw_wsX7_told : wsX7_told.all goodWord = true := by decide +kernel
set_option maxRecDepth 20000 in
theorem ggX7_countUntold_X7_told : GoodIn wsX7_countUntold wsX7_told := goodIn_sub (List.forall_mem_cons.mpr ⟨wrr_wsX7_countUntold (i := 5) rfl, (List.forall_mem_append.mpr ⟨(List.forall_mem_cons.mpr ⟨wrr_wsX7_countUntold (i := 6) rfl, (List.forall_mem_cons.mpr ⟨wrr_wsX7_countUntold (i := 7) rfl, (List.forall_mem_cons.mpr ⟨wrr_wsX7_countUntold (i := 8) rfl, (List.forall_mem_cons.mpr ⟨wrr_wsX7_countUntold (i := 9) rfl, (List.forall_mem_cons.mpr ⟨wrr_wsX7_countUntold (i := 10) rfl, (List.forall_mem_cons.mpr ⟨wrr_wsX7_countUntold (i := 4) rfl, (List.forall_mem_cons.mpr ⟨wrr_wsX7_countUntold (i := 11) rfl, (List.forall_mem_cons.mpr ⟨wrr_wsX7_countUntold (i := 12) rfl, (fun _ h => absurd h List.not_mem_nil)⟩)⟩)⟩)⟩)⟩)⟩)⟩)⟩), wru_wsX7_countUntold_wsX70⟩)⟩) gw_wsX7_told
set_option maxRecDepth 20000 in
theorem gX7_countUntold_X7_told : GoodIn wsX7_countUntold (wsV RX7 62 RX7 yX7_told wsX7_told) := goodIn_app (goodIn_sub (List.forall_mem_cons.mpr ⟨wrr_wsX7_countUntold (i := 1) rfl, (List.forall_mem_cons.mpr ⟨wrr_wsX7_countUntold (i := 2) rfl, (List.forall_mem_cons.mpr ⟨wrr_wsX7_countUntold (i := 3) rfl, (List.forall_mem_cons.mpr ⟨wrr_wsX7_countUntold (i := 4) rfl, (fun _ h => absurd h List.not_mem_nil)⟩)⟩)⟩)⟩) (by decide +kernel)) ggX7_countUntold_X7_told
theorem dX7_countUntold_0 : decode cX7_countUntold 0 = .ok (.iconst 0, 1) := by decide +kernel
theorem dX7_countUntold_1 : decode cX7_countUntold 1 = .ok (.istore_n 3, 1) := by decide +kernel
theorem dX7_countUntold_2 : decode cX7_countUntold 2 = .ok (.iconst 0, 1) := by decide +kernel
theorem dX7_countUntold_3 : decode cX7_countUntold 3 = .ok (.istore 4, 2) := by decide +kernel
theorem dX7_countUntold_5 : decode cX7_countUntold 5 = .ok (.iload 4, 2) := by decide +kernel
theorem dX7_countUntold_7 : decode cX7_countUntold 7 = .ok (.iload_n 2, 1) := by decide +kernel
theorem dX7_countUntold_8 : decode cX7_countUntold 8 = .ok (.if_icmp .ge 29, 3) := by decide +kernel
theorem dX7_countUntold_11 : decode cX7_countUntold 11 = .ok (.iload_n 3, 1) := by decide +kernel
theorem dX7_countUntold_12 : decode cX7_countUntold 12 = .ok (.aload_n 0, 1) := by decide +kernel
theorem dX7_countUntold_13 : decode cX7_countUntold 13 = .ok (.iload_n 1, 1) := by decide +kernel
theorem dX7_countUntold_14 : decode cX7_countUntold 14 = .ok (.iload_n 2, 1) := by decide +kernel
theorem dX7_countUntold_15 : decode cX7_countUntold 15 = .ok (.iload 4, 2) := by decide +kernel
theorem dX7_countUntold_17 : decode cX7_countUntold 17 = .ok (.invokevirtual 62, 3) := by decide +kernel
theorem dX7_countUntold_20 : decode cX7_countUntold 20 = .ok (.iconst (-1), 1) := by decide +kernel
theorem dX7_countUntold_21 : decode cX7_countUntold 21 = .ok (.if_icmp .ne 7, 3) := by decide +kernel
theorem dX7_countUntold_24 : decode cX7_countUntold 24 = .ok (.iconst 1, 1) := by decide +kernel
theorem dX7_countUntold_25 : decode cX7_countUntold 25 = .ok (.goto 4, 3) := by decide +kernel
theorem dX7_countUntold_28 : decode cX7_countUntold 28 = .ok (.iconst 0, 1) := by decide +kernel
theorem dX7_countUntold_29 : decode cX7_countUntold 29 = .ok (.iadd, 1) := by decide +kernel
theorem dX7_countUntold_30 : decode cX7_countUntold 30 = .ok (.istore_n 3, 1) := by decide +kernel
theorem dX7_countUntold_31 : decode cX7_countUntold 31 = .ok (.iinc 4 1, 3) := by decide +kernel
theorem dX7_countUntold_34 : decode cX7_countUntold 34 = .ok (.goto (-29), 3) := by decide +kernel
theorem dX7_countUntold_37 : decode cX7_countUntold 37 = .ok (.iload_n 3, 1) := by decide +kernel
theorem dX7_countUntold_38 : decode cX7_countUntold 38 = .ok (.ireturn, 1) := by decide +kernel
theorem wrr_wsX7_goesRound {i : Nat} {w : Cond} (h : wsX7_goesRound[i]? = some w) : w ∈ wsX7_goesRound := List.mem_of_getElem? h
theorem wru_wsX7_goesRound_wsX70 : ∀ w ∈ wsX70, w ∈ wsX7_goesRound := fun w h => (List.mem_cons_of_mem _ (List.mem_append_right _ h))
set_option maxRecDepth 20000 in
theorem ggX7_goesRound_X7_at : GoodIn wsX7_goesRound wsX7_at := goodIn_sub (List.forall_mem_cons.mpr ⟨wrr_wsX7_goesRound (i := 7) rfl, (List.forall_mem_append.mpr ⟨(List.forall_mem_cons.mpr ⟨wrr_wsX7_goesRound (i := 8) rfl, (fun _ h => absurd h List.not_mem_nil)⟩), wru_wsX7_goesRound_wsX70⟩)⟩) gw_wsX7_at
set_option maxRecDepth 20000 in
theorem gX7_goesRound_X7_at : GoodIn wsX7_goesRound (wsV RX7 43 RX7 yX7_at wsX7_at) := goodIn_app (goodIn_sub (List.forall_mem_cons.mpr ⟨wrr_wsX7_goesRound (i := 3) rfl, (List.forall_mem_cons.mpr ⟨wrr_wsX7_goesRound (i := 4) rfl, (List.forall_mem_cons.mpr ⟨wrr_wsX7_goesRound (i := 5) rfl, (List.forall_mem_cons.mpr ⟨wrr_wsX7_goesRound (i := 6) rfl, (fun _ h => absurd h List.not_mem_nil)⟩)⟩)⟩)⟩) (by decide +kernel)) ggX7_goesRound_X7_at
set_option maxRecDepth 20000 in
theorem ggX7_goesRound_X11_wrap : GoodIn wsX7_goesRound wsX11_wrap := goodIn_sub (List.forall_mem_cons.mpr ⟨wrr_wsX7_goesRound (i := 11) rfl, (List.forall_mem_cons.mpr ⟨wrr_wsX7_goesRound (i := 12) rfl, (List.forall_mem_cons.mpr ⟨wrr_wsX7_goesRound (i := 13) rfl, (List.forall_mem_cons.mpr ⟨wrr_wsX7_goesRound (i := 14) rfl, (List.forall_mem_cons.mpr ⟨wrr_wsX7_goesRound (i := 15) rfl, (fun _ h => absurd h List.not_mem_nil)⟩)⟩)⟩)⟩)⟩) gw_wsX11_wrap
set_option maxRecDepth 20000 in
theorem gX7_goesRound_X11_wrap_n66 : GoodIn wsX7_goesRound (wsX11_wrap) := ggX7_goesRound_X11_wrap
set_option maxRecDepth 20000 in
theorem ggX7_goesRound_X7_told : GoodIn wsX7_goesRound wsX7_told := goodIn_sub (List.forall_mem_cons.mpr ⟨wrr_wsX7_goesRound (i := 19) rfl, (List.forall_mem_append.mpr ⟨(List.forall_mem_cons.mpr ⟨wrr_wsX7_goesRound (i := 1) rfl, (List.forall_mem_cons.mpr ⟨wrr_wsX7_goesRound (i := 2) rfl, (List.forall_mem_cons.mpr ⟨wrr_wsX7_goesRound (i := 3) rfl, (List.forall_mem_cons.mpr ⟨wrr_wsX7_goesRound (i := 4) rfl, (List.forall_mem_cons.mpr ⟨wrr_wsX7_goesRound (i := 5) rfl, (List.forall_mem_cons.mpr ⟨wrr_wsX7_goesRound (i := 6) rfl, (List.forall_mem_cons.mpr ⟨wrr_wsX7_goesRound (i := 7) rfl, (List.forall_mem_cons.mpr ⟨wrr_wsX7_goesRound (i := 8) rfl, (fun _ h => absurd h List.not_mem_nil)⟩)⟩)⟩)⟩)⟩)⟩)⟩)⟩), wru_wsX7_goesRound_wsX70⟩)⟩) gw_wsX7_told
set_option maxRecDepth 20000 in
theorem gX7_goesRound_X7_told : GoodIn wsX7_goesRound (wsV RX7 62 RX7 yX7_told wsX7_told) := goodIn_app (goodIn_sub (List.forall_mem_cons.mpr ⟨wrr_wsX7_goesRound (i := 16) rfl, (List.forall_mem_cons.mpr ⟨wrr_wsX7_goesRound (i := 17) rfl, (List.forall_mem_cons.mpr ⟨wrr_wsX7_goesRound (i := 18) rfl, (List.forall_mem_cons.mpr ⟨wrr_wsX7_goesRound (i := 6) rfl, (fun _ h => absurd h List.not_mem_nil)⟩)⟩)⟩)⟩) (by decide +kernel)) ggX7_goesRound_X7_told
theorem dX7_goesRound_0 : decode cX7_goesRound 0 = .ok (.iconst 0, 1) := by decide +kernel
theorem dX7_goesRound_1 : decode cX7_goesRound 1 = .ok (.istore_n 3, 1) := by decide +kernel
theorem dX7_goesRound_2 : decode cX7_goesRound 2 = .ok (.iload_n 3, 1) := by decide +kernel
theorem dX7_goesRound_3 : decode cX7_goesRound 3 = .ok (.aload_n 0, 1) := by decide +kernel
theorem dX7_goesRound_4 : decode cX7_goesRound 4 = .ok (.getfield 15, 3) := by decide +kernel
theorem dX7_goesRound_7 : decode cX7_goesRound 7 = .ok (.iload_n 1, 1) := by decide +kernel
theorem dX7_goesRound_8 : decode cX7_goesRound 8 = .ok (.iaload, 1) := by decide +kernel
theorem dX7_goesRound_9 : decode cX7_goesRound 9 = .ok (.if_icmp .ge 46, 3) := by decide +kernel
theorem dX7_goesRound_12 : decode cX7_goesRound 12 = .ok (.aload_n 0, 1) := by decide +kernel
theorem dX7_goesRound_13 : decode cX7_goesRound 13 = .ok (.iload_n 1, 1) := by decide +kernel
theorem dX7_goesRound_14 : decode cX7_goesRound 14 = .ok (.iload_n 3, 1) := by decide +kernel
theorem dX7_goesRound_15 : decode cX7_goesRound 15 = .ok (.invokevirtual 43, 3) := by decide +kernel
theorem dX7_goesRound_18 : decode cX7_goesRound 18 = .ok (.lstore 4, 2) := by decide +kernel
theorem dX7_goesRound_20 : decode cX7_goesRound 20 = .ok (.lload 4, 2) := by decide +kernel
theorem dX7_goesRound_22 : decode cX7_goesRound 22 = .ok (.ldc2_w 60, 3) := by decide +kernel
theorem dX7_goesRound_25 : decode cX7_goesRound 25 = .ok (.lcmp, 1) := by decide +kernel
theorem dX7_goesRound_26 : decode cX7_goesRound 26 = .ok (.ifCond .eq 23, 3) := by decide +kernel
theorem dX7_goesRound_29 : decode cX7_goesRound 29 = .ok (.lload 4, 2) := by decide +kernel
theorem dX7_goesRound_31 : decode cX7_goesRound 31 = .ok (.aload_n 0, 1) := by decide +kernel
theorem dX7_goesRound_32 : decode cX7_goesRound 32 = .ok (.iload_n 1, 1) := by decide +kernel
theorem dX7_goesRound_33 : decode cX7_goesRound 33 = .ok (.iload_n 2, 1) := by decide +kernel
theorem dX7_goesRound_34 : decode cX7_goesRound 34 = .ok (.iload_n 3, 1) := by decide +kernel
theorem dX7_goesRound_35 : decode cX7_goesRound 35 = .ok (.iload_n 2, 1) := by decide +kernel
theorem dX7_goesRound_36 : decode cX7_goesRound 36 = .ok (.invokestatic 66, 3) := by decide +kernel
theorem dX7_goesRound_39 : decode cX7_goesRound 39 = .ok (.invokevirtual 62, 3) := by decide +kernel
theorem dX7_goesRound_42 : decode cX7_goesRound 42 = .ok (.i2l, 1) := by decide +kernel
theorem dX7_goesRound_43 : decode cX7_goesRound 43 = .ok (.lcmp, 1) := by decide +kernel
theorem dX7_goesRound_44 : decode cX7_goesRound 44 = .ok (.ifCond .eq 5, 3) := by decide +kernel
theorem dX7_goesRound_47 : decode cX7_goesRound 47 = .ok (.iconst 0, 1) := by decide +kernel
theorem dX7_goesRound_48 : decode cX7_goesRound 48 = .ok (.ireturn, 1) := by decide +kernel
theorem dX7_goesRound_49 : decode cX7_goesRound 49 = .ok (.iinc 3 1, 3) := by decide +kernel
theorem dX7_goesRound_52 : decode cX7_goesRound 52 = .ok (.goto (-50), 3) := by decide +kernel
theorem dX7_goesRound_55 : decode cX7_goesRound 55 = .ok (.iconst 1, 1) := by decide +kernel
theorem dX7_goesRound_56 : decode cX7_goesRound 56 = .ok (.ireturn, 1) := by decide +kernel
theorem wrr_wsX7_isTold {i : Nat} {w : Cond} (h : wsX7_isTold[i]? = some w) : w ∈ wsX7_isTold := List.mem_of_getElem? h
set_option maxRecDepth 20000 in
theorem gw_wsX7_isBetween : wsX7_isBetween.all goodWord = true := by decide +kernel
set_option maxRecDepth 20000 in
theorem ggX7_isTold_X7_isBetween : GoodIn wsX7_isTold wsX7_isBetween := goodIn_sub (List.forall_mem_cons.mpr ⟨wrr_wsX7_isTold (i := 6) rfl, (fun _ h => absurd h List.not_mem_nil)⟩) gw_wsX7_isBetween
set_option maxRecDepth 20000 in
theorem gX7_isTold_X7_isBetween : GoodIn wsX7_isTold (va_wsS RX7 49 yX7_isBetween wsX7_isBetween) := goodIn_app (goodIn_sub (List.forall_mem_cons.mpr ⟨wrr_wsX7_isTold (i := 3) rfl, (List.forall_mem_cons.mpr ⟨wrr_wsX7_isTold (i := 4) rfl, (List.forall_mem_cons.mpr ⟨wrr_wsX7_isTold (i := 5) rfl, (fun _ h => absurd h List.not_mem_nil)⟩)⟩)⟩) (by decide +kernel)) ggX7_isTold_X7_isBetween
theorem dX7_isTold_0 : decode cX7_isTold 0 = .ok (.lload_n 0, 1) := by decide +kernel
theorem dX7_isTold_1 : decode cX7_isTold 1 = .ok (.ldc2_w 60, 3) := by decide +kernel
theorem dX7_isTold_4 : decode cX7_isTold 4 = .ok (.ldc2_w 70, 3) := by decide +kernel
theorem dX7_isTold_7 : decode cX7_isTold 7 = .ok (.invokestatic 49, 3) := by decide +kernel
theorem dX7_isTold_10 : decode cX7_isTold 10 = .ok (.ireturn, 1) := by decide +kernel
theorem dX7_isBetween_0 : decode cX7_isBetween 0 = .ok (.lload_n 0, 1) := by decide +kernel
theorem dX7_isBetween_1 : decode cX7_isBetween 1 = .ok (.lload_n 2, 1) := by decide +kernel
theorem dX7_isBetween_2 : decode cX7_isBetween 2 = .ok (.lcmp, 1) := by decide +kernel
theorem dX7_isBetween_3 : decode cX7_isBetween 3 = .ok (.ifCond .lt 14, 3) := by decide +kernel
theorem dX7_isBetween_6 : decode cX7_isBetween 6 = .ok (.lload_n 0, 1) := by decide +kernel
theorem dX7_isBetween_7 : decode cX7_isBetween 7 = .ok (.lload 4, 2) := by decide +kernel
theorem dX7_isBetween_9 : decode cX7_isBetween 9 = .ok (.lcmp, 1) := by decide +kernel
theorem dX7_isBetween_10 : decode cX7_isBetween 10 = .ok (.ifCond .gt 7, 3) := by decide +kernel
theorem dX7_isBetween_13 : decode cX7_isBetween 13 = .ok (.iconst 1, 1) := by decide +kernel
theorem dX7_isBetween_14 : decode cX7_isBetween 14 = .ok (.goto 4, 3) := by decide +kernel
theorem dX7_isBetween_17 : decode cX7_isBetween 17 = .ok (.iconst 0, 1) := by decide +kernel
theorem dX7_isBetween_18 : decode cX7_isBetween 18 = .ok (.ireturn, 1) := by decide +kernel
theorem dX7_cut_0 : decode cX7_cut 0 = .ok (.iload_n 2, 1) := by decide +kernel
theorem dX7_cut_1 : decode cX7_cut 1 = .ok (.tableswitch 41 0 2 #[27, 32, 37], 27) := by decide +kernel
theorem dX7_cut_28 : decode cX7_cut 28 = .ok (.lload_n 0, 1) := by decide +kernel
theorem dX7_cut_29 : decode cX7_cut 29 = .ok (.l2i, 1) := by decide +kernel
theorem dX7_cut_30 : decode cX7_cut 30 = .ok (.i2b, 1) := by decide +kernel
theorem dX7_cut_31 : decode cX7_cut 31 = .ok (.i2l, 1) := by decide +kernel
theorem dX7_cut_32 : decode cX7_cut 32 = .ok (.lreturn, 1) := by decide +kernel
theorem dX7_cut_33 : decode cX7_cut 33 = .ok (.lload_n 0, 1) := by decide +kernel
theorem dX7_cut_34 : decode cX7_cut 34 = .ok (.l2i, 1) := by decide +kernel
theorem dX7_cut_35 : decode cX7_cut 35 = .ok (.i2s, 1) := by decide +kernel
theorem dX7_cut_36 : decode cX7_cut 36 = .ok (.i2l, 1) := by decide +kernel
theorem dX7_cut_37 : decode cX7_cut 37 = .ok (.lreturn, 1) := by decide +kernel
theorem dX7_cut_38 : decode cX7_cut 38 = .ok (.lload_n 0, 1) := by decide +kernel
theorem dX7_cut_39 : decode cX7_cut 39 = .ok (.l2i, 1) := by decide +kernel
theorem dX7_cut_40 : decode cX7_cut 40 = .ok (.i2l, 1) := by decide +kernel
theorem dX7_cut_41 : decode cX7_cut 41 = .ok (.lreturn, 1) := by decide +kernel
theorem dX7_cut_42 : decode cX7_cut 42 = .ok (.lload_n 0, 1) := by decide +kernel
theorem dX7_cut_43 : decode cX7_cut 43 = .ok (.lreturn, 1) := by decide +kernel
