abbrev cX3_begin : ByteArray := prog_5_method_2_code
def yX3_begin : MethodName := ⟨RX3, "begin", "(LOverHill$Dance;I)V"⟩
abbrev cX3_hear : ByteArray := prog_5_method_3_code
def yX3_hear : MethodName := ⟨RX3, "hear", "(II)V"⟩
abbrev cX3_countFits : ByteArray := prog_5_method_4_code
def yX3_countFits : MethodName := ⟨RX3, "countFits", "()I"⟩
abbrev cX3_leastFit : ByteArray := prog_5_method_5_code
def yX3_leastFit : MethodName := ⟨RX3, "leastFit", "()I"⟩
abbrev cX3_beatsOfFits : ByteArray := prog_5_method_6_code
def yX3_beatsOfFits : MethodName := ⟨RX3, "beatsOfFits", "()J"⟩
abbrev cX3_findBeat : ByteArray := prog_5_method_7_code
def yX3_findBeat : MethodName := ⟨RX3, "findBeat", "()V"⟩
abbrev cX3_mostAlike : ByteArray := prog_5_method_8_code
def yX3_mostAlike : MethodName := ⟨RX3, "mostAlike", "(II)I"⟩
abbrev cX3_pass : ByteArray := prog_5_method_9_code
def yX3_pass : MethodName := ⟨RX3, "pass", "(I)V"⟩
abbrev cX3_fitsWithout : ByteArray := prog_5_method_10_code
def yX3_fitsWithout : MethodName := ⟨RX3, "fitsWithout", "()Z"⟩
abbrev cX3_stepsThatFit : ByteArray := prog_5_method_11_code
def yX3_stepsThatFit : MethodName := ⟨RX3, "stepsThatFit", "(II)I"⟩
abbrev cX3_stepBack : ByteArray := prog_5_method_12_code
def yX3_stepBack : MethodName := ⟨RX3, "stepBack", "(II)I"⟩
def wsX3_begin_r1 : List Cond := [Cond.fieldLink RX3 30 "OverHill$Dance" "gap" "I", Cond.fieldLink RX3 36 "OverHill$Guess" "gap" "I", Cond.fieldLink RX3 37 "OverHill$Dance" "lengths" "[I", Cond.fieldLink RX3 40 "OverHill$Guess" "length" "I", Cond.fieldLink RX3 43 "OverHill$Dance" "steps" "[I", Cond.fieldLink RX3 9 "OverHill$Guess" "round" "[I", Cond.methodLink RX3 46 arraycopyName, Cond.native arraycopyName, Cond.static arraycopyName, Cond.initialized "java/lang/System", Cond.fieldLink RX3 52 "OverHill$Guess" "impossible" "Z", Cond.fieldLink RX3 56 "OverHill$Guess" "firstUnlike" "I", Cond.fieldLink RX3 15 "OverHill$Guess" "lastUnlike" "[I", Cond.fieldLink RX3 21 "OverHill$Guess" "stepsIn" "[I", Cond.fieldLink RX3 65 "OverHill$Dance" "starts" "[I", Cond.fieldLink RX3 68 "OverHill$Dance" "muds" "[I", Cond.fieldLink RX3 18 "OverHill$Guess" "places" "[I", Cond.methodLink RX3 59 yJ7_fill_53178, Cond.static yJ7_fill_53178, Cond.initialized RJ7, Cond.code yJ7_fill_53178 cJ7_fill_53178 4 none, Cond.static yX11_wrap, Cond.initialized RX11, Cond.code yX11_wrap cX11_wrap 2 (some .int)]
def wsX3_begin_r2 : List Cond := [Cond.methodLink RX11 451 yJ9_floorMod_7cf53, Cond.static yJ9_floorMod_7cf53, Cond.initialized RJ9, Cond.code yJ9_floorMod_7cf53 cJ9_floorMod_7cf53 3 (some .int)]
def wsX3_begin : List Cond := .code yX3_begin cX3_begin 6 none :: ((wsX3_begin_r1 ++ wsX3_begin_r2) ++ wsX00 ++ wsX30)
def wsX3_stepBack : List Cond := .code yX3_stepBack cX3_stepBack 3 (some .int) :: ([.fieldLink RX3 9 "OverHill$Guess" "round" "[I", .fieldLink RX3 18 "OverHill$Guess" "places" "[I", .fieldLink RX3 40 "OverHill$Guess" "length" "I", .static yX11_wrap, .initialized RX11, .code yX11_wrap cX11_wrap 2 (some .int), .methodLink RX11 451 yJ9_floorMod_7cf53, .static yJ9_floorMod_7cf53, .initialized RJ9, .code yJ9_floorMod_7cf53 cJ9_floorMod_7cf53 3 (some .int)] ++ wsX30)
def wsX3_hear_r1 : List Cond := [Cond.fieldLink RX3 36 "OverHill$Guess" "gap" "I", Cond.fieldLink RX3 18 "OverHill$Guess" "places" "[I", Cond.fieldLink RX3 52 "OverHill$Guess" "impossible" "Z", Cond.fieldLink RX3 56 "OverHill$Guess" "firstUnlike" "I", Cond.methodLink RX3 78 Lib.Math.min.name, Cond.static Lib.Math.min.name, Cond.initialized "java/lang/Math", Cond.code Lib.Math.min.name Lib.Math.min.code 2 (some .int), Cond.fieldLink RX3 15 "OverHill$Guess" "lastUnlike" "[I", Cond.methodLink RX3 83 Lib.Math.max.name, Cond.static Lib.Math.max.name, Cond.code Lib.Math.max.name Lib.Math.max.code 2 (some .int), Cond.fieldLink RX3 21 "OverHill$Guess" "stepsIn" "[I", Cond.methodLink RX3 75 yX3_stepBack, Cond.instanceMethod yX3_stepBack, Cond.selects RX3 yX3_stepBack yX3_stepBack, Cond.initialized RX3, Cond.code yX3_stepBack cX3_stepBack 3 (some .int), Cond.fieldLink RX3 9 "OverHill$Guess" "round" "[I", Cond.fieldLink RX3 40 "OverHill$Guess" "length" "I", Cond.static yX11_wrap, Cond.initialized RX11, Cond.code yX11_wrap cX11_wrap 2 (some .int), Cond.methodLink RX11 451 yJ9_floorMod_7cf53]
def wsX3_hear_r2 : List Cond := [Cond.static yJ9_floorMod_7cf53, Cond.initialized RJ9, Cond.code yJ9_floorMod_7cf53 cJ9_floorMod_7cf53 3 (some .int)]
def wsX3_hear : List Cond := .code yX3_hear cX3_hear 5 none :: ((wsX3_hear_r1 ++ wsX3_hear_r2) ++ wsX30)
def wsX3_fitsWithout : List Cond := .code yX3_fitsWithout cX3_fitsWithout 1 (some .boolean) :: ([.fieldLink RX3 52 "OverHill$Guess" "impossible" "Z", .fieldLink RX3 56 "OverHill$Guess" "firstUnlike" "I"] ++ wsX30)
def wsX3_stepsThatFit : List Cond := .code yX3_stepsThatFit cX3_stepsThatFit 4 (some .int) :: ([.fieldLink RX3 18 "OverHill$Guess" "places" "[I", .fieldLink RX3 52 "OverHill$Guess" "impossible" "Z", .fieldLink RX3 56 "OverHill$Guess" "firstUnlike" "I", .fieldLink RX3 15 "OverHill$Guess" "lastUnlike" "[I", .fieldLink RX3 21 "OverHill$Guess" "stepsIn" "[I", .methodLink RX3 86 yX3_fitsWithout, .instanceMethod yX3_fitsWithout, .selects RX3 yX3_fitsWithout yX3_fitsWithout, .initialized RX3, .code yX3_fitsWithout cX3_fitsWithout 1 (some .boolean)] ++ wsX30)
def wsX3_countFits : List Cond := .code yX3_countFits cX3_countFits 4 (some .int) :: ([.methodLink RX3 86 yX3_fitsWithout, .instanceMethod yX3_fitsWithout, .selects RX3 yX3_fitsWithout yX3_fitsWithout, .initialized RX3, .code yX3_fitsWithout cX3_fitsWithout 1 (some .boolean), .fieldLink RX3 52 "OverHill$Guess" "impossible" "Z", .fieldLink RX3 56 "OverHill$Guess" "firstUnlike" "I", .methodLink RX3 90 yX3_stepsThatFit, .instanceMethod yX3_stepsThatFit, .selects RX3 yX3_stepsThatFit yX3_stepsThatFit, .code yX3_stepsThatFit cX3_stepsThatFit 4 (some .int), .fieldLink RX3 18 "OverHill$Guess" "places" "[I", .fieldLink RX3 15 "OverHill$Guess" "lastUnlike" "[I", .fieldLink RX3 21 "OverHill$Guess" "stepsIn" "[I", .methodLink RX3 93 yJ6_bitCount_0f7a4, .static yJ6_bitCount_0f7a4, .initialized RJ6, .code yJ6_bitCount_0f7a4 cJ6_bitCount_0f7a4 1 (some .int), .constant RJ6 265 (1431655765), .constant RJ6 266 (858993459), .constant RJ6 267 (252645135)] ++ wsX30)
def wsX3_leastFit : List Cond := .code yX3_leastFit cX3_leastFit 4 (some .int) :: ([.methodLink RX3 86 yX3_fitsWithout, .instanceMethod yX3_fitsWithout, .selects RX3 yX3_fitsWithout yX3_fitsWithout, .initialized RX3, .code yX3_fitsWithout cX3_fitsWithout 1 (some .boolean), .fieldLink RX3 52 "OverHill$Guess" "impossible" "Z", .fieldLink RX3 56 "OverHill$Guess" "firstUnlike" "I", .methodLink RX3 90 yX3_stepsThatFit, .instanceMethod yX3_stepsThatFit, .selects RX3 yX3_stepsThatFit yX3_stepsThatFit, .code yX3_stepsThatFit cX3_stepsThatFit 4 (some .int), .fieldLink RX3 18 "OverHill$Guess" "places" "[I", .fieldLink RX3 15 "OverHill$Guess" "lastUnlike" "[I", .fieldLink RX3 21 "OverHill$Guess" "stepsIn" "[I"] ++ wsX30)
def wsX3_beatsOfFits : List Cond := .code yX3_beatsOfFits cX3_beatsOfFits 5 (some .long) :: ([.methodLink RX3 90 yX3_stepsThatFit, .instanceMethod yX3_stepsThatFit, .selects RX3 yX3_stepsThatFit yX3_stepsThatFit, .initialized RX3, .code yX3_stepsThatFit cX3_stepsThatFit 4 (some .int), .fieldLink RX3 18 "OverHill$Guess" "places" "[I", .fieldLink RX3 52 "OverHill$Guess" "impossible" "Z", .fieldLink RX3 56 "OverHill$Guess" "firstUnlike" "I", .fieldLink RX3 15 "OverHill$Guess" "lastUnlike" "[I", .fieldLink RX3 21 "OverHill$Guess" "stepsIn" "[I", .methodLink RX3 86 yX3_fitsWithout, .instanceMethod yX3_fitsWithout, .selects RX3 yX3_fitsWithout yX3_fitsWithout, .code yX3_fitsWithout cX3_fitsWithout 1 (some .boolean)] ++ wsX30)
def wsX3_mostAlike_r1 : List Cond := [Cond.fieldLink RX3 27 "OverHill$Guess" "classes" "[I", Cond.fieldLink RX3 24 "OverHill$Guess" "passed" "[I", Cond.methodLink RX3 83 Lib.Math.max.name, Cond.static Lib.Math.max.name, Cond.initialized "java/lang/Math", Cond.code Lib.Math.max.name Lib.Math.max.code 2 (some .int), Cond.methodLink RX3 59 yJ7_fill_53178, Cond.static yJ7_fill_53178, Cond.initialized RJ7, Cond.code yJ7_fill_53178 cJ7_fill_53178 4 none, Cond.methodLink RX3 75 yX3_stepBack, Cond.instanceMethod yX3_stepBack, Cond.selects RX3 yX3_stepBack yX3_stepBack, Cond.initialized RX3, Cond.code yX3_stepBack cX3_stepBack 3 (some .int), Cond.fieldLink RX3 9 "OverHill$Guess" "round" "[I", Cond.fieldLink RX3 18 "OverHill$Guess" "places" "[I", Cond.fieldLink RX3 40 "OverHill$Guess" "length" "I", Cond.static yX11_wrap, Cond.initialized RX11, Cond.code yX11_wrap cX11_wrap 2 (some .int), Cond.methodLink RX11 451 yJ9_floorMod_7cf53, Cond.static yJ9_floorMod_7cf53, Cond.initialized RJ9]
def wsX3_mostAlike_r2 : List Cond := [Cond.code yJ9_floorMod_7cf53 cJ9_floorMod_7cf53 3 (some .int), Cond.methodLink RX3 90 yX3_stepsThatFit, Cond.instanceMethod yX3_stepsThatFit, Cond.selects RX3 yX3_stepsThatFit yX3_stepsThatFit, Cond.code yX3_stepsThatFit cX3_stepsThatFit 4 (some .int), Cond.fieldLink RX3 52 "OverHill$Guess" "impossible" "Z", Cond.fieldLink RX3 56 "OverHill$Guess" "firstUnlike" "I", Cond.fieldLink RX3 15 "OverHill$Guess" "lastUnlike" "[I", Cond.fieldLink RX3 21 "OverHill$Guess" "stepsIn" "[I", Cond.methodLink RX3 86 yX3_fitsWithout, Cond.instanceMethod yX3_fitsWithout, Cond.selects RX3 yX3_fitsWithout yX3_fitsWithout, Cond.code yX3_fitsWithout cX3_fitsWithout 1 (some .boolean), Cond.methodLink RX3 93 yJ6_bitCount_0f7a4, Cond.static yJ6_bitCount_0f7a4, Cond.initialized RJ6, Cond.code yJ6_bitCount_0f7a4 cJ6_bitCount_0f7a4 1 (some .int), Cond.constant RJ6 265 (1431655765), Cond.constant RJ6 266 (858993459), Cond.constant RJ6 267 (252645135)]
def wsX3_mostAlike : List Cond := .code yX3_mostAlike cX3_mostAlike 7 (some .int) :: ((wsX3_mostAlike_r1 ++ wsX3_mostAlike_r2) ++ wsX30)
def wsX3_pass : List Cond := .code yX3_pass cX3_pass 3 none :: ([.fieldLink RX3 24 "OverHill$Guess" "passed" "[I", .methodLink RX3 90 yX3_stepsThatFit, .instanceMethod yX3_stepsThatFit, .selects RX3 yX3_stepsThatFit yX3_stepsThatFit, .initialized RX3, .code yX3_stepsThatFit cX3_stepsThatFit 4 (some .int), .fieldLink RX3 18 "OverHill$Guess" "places" "[I", .fieldLink RX3 52 "OverHill$Guess" "impossible" "Z", .fieldLink RX3 56 "OverHill$Guess" "firstUnlike" "I", .fieldLink RX3 15 "OverHill$Guess" "lastUnlike" "[I", .fieldLink RX3 21 "OverHill$Guess" "stepsIn" "[I", .methodLink RX3 86 yX3_fitsWithout, .instanceMethod yX3_fitsWithout, .selects RX3 yX3_fitsWithout yX3_fitsWithout, .code yX3_fitsWithout cX3_fitsWithout 1 (some .boolean), .methodLink RX3 93 yJ6_bitCount_0f7a4, .static yJ6_bitCount_0f7a4, .initialized RJ6, .code yJ6_bitCount_0f7a4 cJ6_bitCount_0f7a4 1 (some .int), .constant RJ6 265 (1431655765), .constant RJ6 266 (858993459), .constant RJ6 267 (252645135)] ++ wsX30)
def wsX3_findBeat_r1 : List Cond := [Cond.fieldLink RX3 103 "OverHill$Guess" "bestBeat" "I", Cond.fieldLink RX3 106 "OverHill$Guess" "bestLeft" "I", Cond.fieldLink RX3 24 "OverHill$Guess" "passed" "[I", Cond.fieldLink RX3 36 "OverHill$Guess" "gap" "I", Cond.fieldLink RX3 18 "OverHill$Guess" "places" "[I", Cond.methodLink RX3 99 yX3_countFits, Cond.instanceMethod yX3_countFits, Cond.selects RX3 yX3_countFits yX3_countFits, Cond.initialized RX3, Cond.code yX3_countFits cX3_countFits 4 (some .int), Cond.methodLink RX3 86 yX3_fitsWithout, Cond.instanceMethod yX3_fitsWithout, Cond.selects RX3 yX3_fitsWithout yX3_fitsWithout, Cond.code yX3_fitsWithout cX3_fitsWithout 1 (some .boolean), Cond.fieldLink RX3 52 "OverHill$Guess" "impossible" "Z", Cond.fieldLink RX3 56 "OverHill$Guess" "firstUnlike" "I", Cond.methodLink RX3 90 yX3_stepsThatFit, Cond.instanceMethod yX3_stepsThatFit, Cond.selects RX3 yX3_stepsThatFit yX3_stepsThatFit, Cond.code yX3_stepsThatFit cX3_stepsThatFit 4 (some .int), Cond.fieldLink RX3 15 "OverHill$Guess" "lastUnlike" "[I", Cond.fieldLink RX3 21 "OverHill$Guess" "stepsIn" "[I", Cond.methodLink RX3 93 yJ6_bitCount_0f7a4, Cond.static yJ6_bitCount_0f7a4]
def wsX3_findBeat_r2 : List Cond := [Cond.initialized RJ6, Cond.code yJ6_bitCount_0f7a4 cJ6_bitCount_0f7a4 1 (some .int), Cond.constant RJ6 265 (1431655765), Cond.constant RJ6 266 (858993459), Cond.constant RJ6 267 (252645135), Cond.methodLink RX3 59 yJ7_fill_53178, Cond.static yJ7_fill_53178, Cond.initialized RJ7, Cond.code yJ7_fill_53178 cJ7_fill_53178 4 none, Cond.methodLink RX3 109 yX3_mostAlike, Cond.instanceMethod yX3_mostAlike, Cond.selects RX3 yX3_mostAlike yX3_mostAlike, Cond.code yX3_mostAlike cX3_mostAlike 7 (some .int), Cond.fieldLink RX3 27 "OverHill$Guess" "classes" "[I", Cond.methodLink RX3 83 Lib.Math.max.name, Cond.static Lib.Math.max.name, Cond.initialized "java/lang/Math", Cond.code Lib.Math.max.name Lib.Math.max.code 2 (some .int), Cond.methodLink RX3 75 yX3_stepBack, Cond.instanceMethod yX3_stepBack, Cond.selects RX3 yX3_stepBack yX3_stepBack, Cond.code yX3_stepBack cX3_stepBack 3 (some .int), Cond.fieldLink RX3 9 "OverHill$Guess" "round" "[I", Cond.fieldLink RX3 40 "OverHill$Guess" "length" "I"]
def wsX3_findBeat_r3 : List Cond := [Cond.static yX11_wrap, Cond.initialized RX11, Cond.code yX11_wrap cX11_wrap 2 (some .int), Cond.methodLink RX11 451 yJ9_floorMod_7cf53, Cond.static yJ9_floorMod_7cf53, Cond.initialized RJ9, Cond.code yJ9_floorMod_7cf53 cJ9_floorMod_7cf53 3 (some .int), Cond.methodLink RX3 112 yX3_pass, Cond.instanceMethod yX3_pass, Cond.selects RX3 yX3_pass yX3_pass, Cond.code yX3_pass cX3_pass 3 none]
def wsX3_findBeat : List Cond := .code yX3_findBeat cX3_findBeat 5 none :: ((wsX3_findBeat_r1 ++ (wsX3_findBeat_r2 ++ wsX3_findBeat_r3)) ++ wsX30)
theorem wrr_wsX3_begin {i : Nat} {w : Cond} (h : wsX3_begin[i]? = some w) : w ∈ wsX3_begin := List.mem_of_getElem? h
theorem wrr_wsX3_begin_wsX3_begin_r1 {i : Nat} {w : Cond} (h : wsX3_begin_r1[i]? = some w) : w ∈ wsX3_begin := (List.mem_cons_of_mem _ (List.mem_append_left _ (List.mem_append_left _ (List.mem_append_left _ (List.mem_of_getElem? h)))))
theorem wrr_wsX3_begin_wsX3_begin_r2 {i : Nat} {w : Cond} (h : wsX3_begin_r2[i]? = some w) : w ∈ wsX3_begin := (List.mem_cons_of_mem _ (List.mem_append_left _ (List.mem_append_left _ (List.mem_append_right _ (List.mem_of_getElem? h)))))
theorem wru_wsX3_begin_wsX00 : ∀ w ∈ wsX00, w ∈ wsX3_begin := fun w h => (List.mem_cons_of_mem _ (List.mem_append_left _ (List.mem_append_right _ h)))
theorem wru_wsX3_begin_wsX30 : ∀ w ∈ wsX30, w ∈ wsX3_begin := fun w h => (List.mem_cons_of_mem _ (List.mem_append_right _ h))
set_option maxRecDepth 20000 in
theorem ggX3_begin_J7_fill_53178 : GoodIn wsX3_begin wsJ7_fill_53178 := goodIn_sub (List.forall_mem_cons.mpr ⟨wrr_wsX3_begin_wsX3_begin_r1 (i := 20) rfl, (fun _ h => absurd h List.not_mem_nil)⟩) gw_wsJ7_fill_53178
set_option maxRecDepth 20000 in
theorem gX3_begin_J7_fill_53178 : GoodIn wsX3_begin (va_wsS RX3 59 yJ7_fill_53178 wsJ7_fill_53178) := goodIn_app (goodIn_sub (List.forall_mem_cons.mpr ⟨wrr_wsX3_begin_wsX3_begin_r1 (i := 17) rfl, (List.forall_mem_cons.mpr ⟨wrr_wsX3_begin_wsX3_begin_r1 (i := 18) rfl, (List.forall_mem_cons.mpr ⟨wrr_wsX3_begin_wsX3_begin_r1 (i := 19) rfl, (fun _ h => absurd h List.not_mem_nil)⟩)⟩)⟩) (by decide +kernel)) ggX3_begin_J7_fill_53178
set_option maxRecDepth 20000 in
theorem ggX3_begin_X11_wrap : GoodIn wsX3_begin wsX11_wrap := goodIn_sub (List.forall_mem_cons.mpr ⟨wrr_wsX3_begin_wsX3_begin_r1 (i := 23) rfl, (List.forall_mem_cons.mpr ⟨wrr_wsX3_begin_wsX3_begin_r2 (i := 0) rfl, (List.forall_mem_cons.mpr ⟨wrr_wsX3_begin_wsX3_begin_r2 (i := 1) rfl, (List.forall_mem_cons.mpr ⟨wrr_wsX3_begin_wsX3_begin_r2 (i := 2) rfl, (List.forall_mem_cons.mpr ⟨wrr_wsX3_begin_wsX3_begin_r2 (i := 3) rfl, (fun _ h => absurd h List.not_mem_nil)⟩)⟩)⟩)⟩)⟩) gw_wsX11_wrap
set_option maxRecDepth 20000 in
theorem gX3_begin_X11_wrap_n71 : GoodIn wsX3_begin (wsX11_wrap) := ggX3_begin_X11_wrap
theorem dX3_begin_0 : decode cX3_begin 0 = .ok (.aload_n 0, 1) := by decide +kernel
theorem dX3_begin_1 : decode cX3_begin 1 = .ok (.aload_n 1, 1) := by decide +kernel
theorem dX3_begin_2 : decode cX3_begin 2 = .ok (.getfield 30, 3) := by decide +kernel
theorem dX3_begin_5 : decode cX3_begin 5 = .ok (.putfield 36, 3) := by decide +kernel
theorem dX3_begin_8 : decode cX3_begin 8 = .ok (.aload_n 0, 1) := by decide +kernel
theorem dX3_begin_9 : decode cX3_begin 9 = .ok (.aload_n 1, 1) := by decide +kernel
theorem dX3_begin_10 : decode cX3_begin 10 = .ok (.getfield 37, 3) := by decide +kernel
theorem dX3_begin_13 : decode cX3_begin 13 = .ok (.iload_n 2, 1) := by decide +kernel
theorem dX3_begin_14 : decode cX3_begin 14 = .ok (.iaload, 1) := by decide +kernel
theorem dX3_begin_15 : decode cX3_begin 15 = .ok (.putfield 40, 3) := by decide +kernel
theorem dX3_begin_18 : decode cX3_begin 18 = .ok (.aload_n 1, 1) := by decide +kernel
theorem dX3_begin_19 : decode cX3_begin 19 = .ok (.getfield 43, 3) := by decide +kernel
theorem dX3_begin_22 : decode cX3_begin 22 = .ok (.iload_n 2, 1) := by decide +kernel
theorem dX3_begin_23 : decode cX3_begin 23 = .ok (.bipush 12, 2) := by decide +kernel
theorem dX3_begin_25 : decode cX3_begin 25 = .ok (.imul, 1) := by decide +kernel
theorem dX3_begin_26 : decode cX3_begin 26 = .ok (.aload_n 0, 1) := by decide +kernel
theorem dX3_begin_27 : decode cX3_begin 27 = .ok (.getfield 9, 3) := by decide +kernel
theorem dX3_begin_30 : decode cX3_begin 30 = .ok (.iconst 0, 1) := by decide +kernel
theorem dX3_begin_31 : decode cX3_begin 31 = .ok (.bipush 12, 2) := by decide +kernel
theorem dX3_begin_33 : decode cX3_begin 33 = .ok (.invokestatic 46, 3) := by decide +kernel
theorem dX3_begin_36 : decode cX3_begin 36 = .ok (.aload_n 0, 1) := by decide +kernel
theorem dX3_begin_37 : decode cX3_begin 37 = .ok (.iconst 0, 1) := by decide +kernel
theorem dX3_begin_38 : decode cX3_begin 38 = .ok (.putfield 52, 3) := by decide +kernel
theorem dX3_begin_41 : decode cX3_begin 41 = .ok (.aload_n 0, 1) := by decide +kernel
theorem dX3_begin_42 : decode cX3_begin 42 = .ok (.sipush 200, 3) := by decide +kernel
theorem dX3_begin_45 : decode cX3_begin 45 = .ok (.putfield 56, 3) := by decide +kernel
theorem dX3_begin_48 : decode cX3_begin 48 = .ok (.aload_n 0, 1) := by decide +kernel
theorem dX3_begin_49 : decode cX3_begin 49 = .ok (.getfield 15, 3) := by decide +kernel
theorem dX3_begin_52 : decode cX3_begin 52 = .ok (.iconst (-1), 1) := by decide +kernel
theorem dX3_begin_53 : decode cX3_begin 53 = .ok (.invokestatic 59, 3) := by decide +kernel
theorem dX3_begin_56 : decode cX3_begin 56 = .ok (.aload_n 0, 1) := by decide +kernel
theorem dX3_begin_57 : decode cX3_begin 57 = .ok (.getfield 21, 3) := by decide +kernel
theorem dX3_begin_60 : decode cX3_begin 60 = .ok (.bipush 63, 2) := by decide +kernel
theorem dX3_begin_62 : decode cX3_begin 62 = .ok (.invokestatic 59, 3) := by decide +kernel
theorem dX3_begin_65 : decode cX3_begin 65 = .ok (.aload_n 1, 1) := by decide +kernel
theorem dX3_begin_66 : decode cX3_begin 66 = .ok (.getfield 65, 3) := by decide +kernel
theorem dX3_begin_69 : decode cX3_begin 69 = .ok (.iload_n 2, 1) := by decide +kernel
theorem dX3_begin_70 : decode cX3_begin 70 = .ok (.iaload, 1) := by decide +kernel
theorem dX3_begin_71 : decode cX3_begin 71 = .ok (.istore_n 3, 1) := by decide +kernel
theorem dX3_begin_72 : decode cX3_begin 72 = .ok (.iconst 0, 1) := by decide +kernel
theorem dX3_begin_73 : decode cX3_begin 73 = .ok (.istore 4, 2) := by decide +kernel
theorem dX3_begin_75 : decode cX3_begin 75 = .ok (.iload 4, 2) := by decide +kernel
theorem dX3_begin_77 : decode cX3_begin 77 = .ok (.sipush 200, 3) := by decide +kernel
theorem dX3_begin_80 : decode cX3_begin 80 = .ok (.if_icmp .ge 70, 3) := by decide +kernel
theorem dX3_begin_83 : decode cX3_begin 83 = .ok (.aload_n 0, 1) := by decide +kernel
theorem dX3_begin_84 : decode cX3_begin 84 = .ok (.getfield 40, 3) := by decide +kernel
theorem dX3_begin_87 : decode cX3_begin 87 = .ok (.ifCond .le 17, 3) := by decide +kernel
theorem dX3_begin_90 : decode cX3_begin 90 = .ok (.aload_n 1, 1) := by decide +kernel
theorem dX3_begin_91 : decode cX3_begin 91 = .ok (.getfield 68, 3) := by decide +kernel
theorem dX3_begin_94 : decode cX3_begin 94 = .ok (.iload 4, 2) := by decide +kernel
theorem dX3_begin_96 : decode cX3_begin 96 = .ok (.iaload, 1) := by decide +kernel
theorem dX3_begin_97 : decode cX3_begin 97 = .ok (.ifCond .ne 7, 3) := by decide +kernel
theorem dX3_begin_100 : decode cX3_begin 100 = .ok (.iconst 1, 1) := by decide +kernel
theorem dX3_begin_101 : decode cX3_begin 101 = .ok (.goto 4, 3) := by decide +kernel
theorem dX3_begin_104 : decode cX3_begin 104 = .ok (.iconst 0, 1) := by decide +kernel
theorem dX3_begin_105 : decode cX3_begin 105 = .ok (.istore 5, 2) := by decide +kernel
theorem dX3_begin_107 : decode cX3_begin 107 = .ok (.aload_n 0, 1) := by decide +kernel
theorem dX3_begin_108 : decode cX3_begin 108 = .ok (.getfield 18, 3) := by decide +kernel
theorem dX3_begin_111 : decode cX3_begin 111 = .ok (.iload 4, 2) := by decide +kernel
theorem dX3_begin_113 : decode cX3_begin 113 = .ok (.iload 5, 2) := by decide +kernel
theorem dX3_begin_115 : decode cX3_begin 115 = .ok (.ifCond .eq 7, 3) := by decide +kernel
theorem dX3_begin_118 : decode cX3_begin 118 = .ok (.iload_n 3, 1) := by decide +kernel
theorem dX3_begin_119 : decode cX3_begin 119 = .ok (.goto 4, 3) := by decide +kernel
theorem dX3_begin_122 : decode cX3_begin 122 = .ok (.iconst (-1), 1) := by decide +kernel
theorem dX3_begin_123 : decode cX3_begin 123 = .ok (.iastore, 1) := by decide +kernel
theorem dX3_begin_124 : decode cX3_begin 124 = .ok (.iload 5, 2) := by decide +kernel
theorem dX3_begin_126 : decode cX3_begin 126 = .ok (.ifCond .eq 16, 3) := by decide +kernel
theorem dX3_begin_129 : decode cX3_begin 129 = .ok (.iload_n 3, 1) := by decide +kernel
theorem dX3_begin_130 : decode cX3_begin 130 = .ok (.iconst 1, 1) := by decide +kernel
theorem dX3_begin_131 : decode cX3_begin 131 = .ok (.iadd, 1) := by decide +kernel
theorem dX3_begin_132 : decode cX3_begin 132 = .ok (.aload_n 0, 1) := by decide +kernel
theorem dX3_begin_133 : decode cX3_begin 133 = .ok (.getfield 40, 3) := by decide +kernel
theorem dX3_begin_136 : decode cX3_begin 136 = .ok (.invokestatic 71, 3) := by decide +kernel
theorem dX3_begin_139 : decode cX3_begin 139 = .ok (.goto 4, 3) := by decide +kernel
theorem dX3_begin_142 : decode cX3_begin 142 = .ok (.iload_n 3, 1) := by decide +kernel
theorem dX3_begin_143 : decode cX3_begin 143 = .ok (.istore_n 3, 1) := by decide +kernel
theorem dX3_begin_144 : decode cX3_begin 144 = .ok (.iinc 4 1, 3) := by decide +kernel
theorem dX3_begin_147 : decode cX3_begin 147 = .ok (.goto (-72), 3) := by decide +kernel
theorem dX3_begin_150 : decode cX3_begin 150 = .ok (.return_, 1) := by decide +kernel
theorem wrr_wsX3_hear {i : Nat} {w : Cond} (h : wsX3_hear[i]? = some w) : w ∈ wsX3_hear := List.mem_of_getElem? h
theorem wrr_wsX3_hear_wsX3_hear_r1 {i : Nat} {w : Cond} (h : wsX3_hear_r1[i]? = some w) : w ∈ wsX3_hear := (List.mem_cons_of_mem _ (List.mem_append_left _ (List.mem_append_left _ (List.mem_of_getElem? h))))
theorem wrr_wsX3_hear_wsX3_hear_r2 {i : Nat} {w : Cond} (h : wsX3_hear_r2[i]? = some w) : w ∈ wsX3_hear := (List.mem_cons_of_mem _ (List.mem_append_left _ (List.mem_append_right _ (List.mem_of_getElem? h))))
theorem wru_wsX3_hear_wsX30 : ∀ w ∈ wsX30, w ∈ wsX3_hear := fun w h => (List.mem_cons_of_mem _ (List.mem_append_right _ h))
set_option maxRecDepth 20000 in
theorem gw_wsX3_stepBack : wsX3_stepBack.all goodWord = true := by decide +kernel
set_option maxRecDepth 20000 in
theorem ggX3_hear_X3_stepBack : GoodIn wsX3_hear wsX3_stepBack := goodIn_sub (List.forall_mem_cons.mpr ⟨wrr_wsX3_hear_wsX3_hear_r1 (i := 17) rfl, (List.forall_mem_append.mpr ⟨(List.forall_mem_cons.mpr ⟨wrr_wsX3_hear_wsX3_hear_r1 (i := 18) rfl, (List.forall_mem_cons.mpr ⟨wrr_wsX3_hear_wsX3_hear_r1 (i := 1) rfl, (List.forall_mem_cons.mpr ⟨wrr_wsX3_hear_wsX3_hear_r1 (i := 19) rfl, (List.forall_mem_cons.mpr ⟨wrr_wsX3_hear_wsX3_hear_r1 (i := 20) rfl, (List.forall_mem_cons.mpr ⟨wrr_wsX3_hear_wsX3_hear_r1 (i := 21) rfl, (List.forall_mem_cons.mpr ⟨wrr_wsX3_hear_wsX3_hear_r1 (i := 22) rfl, (List.forall_mem_cons.mpr ⟨wrr_wsX3_hear_wsX3_hear_r1 (i := 23) rfl, (List.forall_mem_cons.mpr ⟨wrr_wsX3_hear_wsX3_hear_r2 (i := 0) rfl, (List.forall_mem_cons.mpr ⟨wrr_wsX3_hear_wsX3_hear_r1 (i := 6) rfl, (List.forall_mem_cons.mpr ⟨wrr_wsX3_hear_wsX3_hear_r2 (i := 2) rfl, (fun _ h => absurd h List.not_mem_nil)⟩)⟩)⟩)⟩)⟩)⟩)⟩)⟩)⟩)⟩), wru_wsX3_hear_wsX30⟩)⟩) gw_wsX3_stepBack
set_option maxRecDepth 20000 in
theorem gX3_hear_X3_stepBack : GoodIn wsX3_hear (wsV RX3 75 RX3 yX3_stepBack wsX3_stepBack) := goodIn_app (goodIn_sub (List.forall_mem_cons.mpr ⟨wrr_wsX3_hear_wsX3_hear_r1 (i := 13) rfl, (List.forall_mem_cons.mpr ⟨wrr_wsX3_hear_wsX3_hear_r1 (i := 14) rfl, (List.forall_mem_cons.mpr ⟨wrr_wsX3_hear_wsX3_hear_r1 (i := 15) rfl, (List.forall_mem_cons.mpr ⟨wrr_wsX3_hear_wsX3_hear_r1 (i := 16) rfl, (fun _ h => absurd h List.not_mem_nil)⟩)⟩)⟩)⟩) (by decide +kernel)) ggX3_hear_X3_stepBack
theorem dX3_hear_0 : decode cX3_hear 0 = .ok (.iload_n 1, 1) := by decide +kernel
theorem dX3_hear_1 : decode cX3_hear 1 = .ok (.aload_n 0, 1) := by decide +kernel
theorem dX3_hear_2 : decode cX3_hear 2 = .ok (.getfield 36, 3) := by decide +kernel
theorem dX3_hear_5 : decode cX3_hear 5 = .ok (.isub, 1) := by decide +kernel
theorem dX3_hear_6 : decode cX3_hear 6 = .ok (.istore_n 3, 1) := by decide +kernel
theorem dX3_hear_7 : decode cX3_hear 7 = .ok (.iload_n 3, 1) := by decide +kernel
theorem dX3_hear_8 : decode cX3_hear 8 = .ok (.ifCond .lt 13, 3) := by decide +kernel
theorem dX3_hear_11 : decode cX3_hear 11 = .ok (.aload_n 0, 1) := by decide +kernel
theorem dX3_hear_12 : decode cX3_hear 12 = .ok (.getfield 18, 3) := by decide +kernel
theorem dX3_hear_15 : decode cX3_hear 15 = .ok (.iload_n 3, 1) := by decide +kernel
theorem dX3_hear_16 : decode cX3_hear 16 = .ok (.iaload, 1) := by decide +kernel
theorem dX3_hear_17 : decode cX3_hear 17 = .ok (.iconst (-1), 1) := by decide +kernel
theorem dX3_hear_18 : decode cX3_hear 18 = .ok (.if_icmp .ne 25, 3) := by decide +kernel
theorem dX3_hear_21 : decode cX3_hear 21 = .ok (.aload_n 0, 1) := by decide +kernel
theorem dX3_hear_22 : decode cX3_hear 22 = .ok (.aload_n 0, 1) := by decide +kernel
theorem dX3_hear_23 : decode cX3_hear 23 = .ok (.getfield 52, 3) := by decide +kernel
theorem dX3_hear_26 : decode cX3_hear 26 = .ok (.ifCond .ne 8, 3) := by decide +kernel
theorem dX3_hear_29 : decode cX3_hear 29 = .ok (.iload_n 2, 1) := by decide +kernel
theorem dX3_hear_30 : decode cX3_hear 30 = .ok (.iconst (-1), 1) := by decide +kernel
theorem dX3_hear_31 : decode cX3_hear 31 = .ok (.if_icmp .eq 7, 3) := by decide +kernel
theorem dX3_hear_34 : decode cX3_hear 34 = .ok (.iconst 1, 1) := by decide +kernel
theorem dX3_hear_35 : decode cX3_hear 35 = .ok (.goto 4, 3) := by decide +kernel
theorem dX3_hear_38 : decode cX3_hear 38 = .ok (.iconst 0, 1) := by decide +kernel
theorem dX3_hear_39 : decode cX3_hear 39 = .ok (.putfield 52, 3) := by decide +kernel
theorem dX3_hear_42 : decode cX3_hear 42 = .ok (.return_, 1) := by decide +kernel
theorem dX3_hear_43 : decode cX3_hear 43 = .ok (.aload_n 0, 1) := by decide +kernel
theorem dX3_hear_44 : decode cX3_hear 44 = .ok (.iload_n 3, 1) := by decide +kernel
theorem dX3_hear_45 : decode cX3_hear 45 = .ok (.iconst 0, 1) := by decide +kernel
theorem dX3_hear_46 : decode cX3_hear 46 = .ok (.invokevirtual 75, 3) := by decide +kernel
theorem dX3_hear_49 : decode cX3_hear 49 = .ok (.iload_n 2, 1) := by decide +kernel
theorem dX3_hear_50 : decode cX3_hear 50 = .ok (.if_icmp .eq 15, 3) := by decide +kernel
theorem dX3_hear_53 : decode cX3_hear 53 = .ok (.aload_n 0, 1) := by decide +kernel
theorem dX3_hear_54 : decode cX3_hear 54 = .ok (.aload_n 0, 1) := by decide +kernel
theorem dX3_hear_55 : decode cX3_hear 55 = .ok (.getfield 56, 3) := by decide +kernel
theorem dX3_hear_58 : decode cX3_hear 58 = .ok (.iload_n 3, 1) := by decide +kernel
theorem dX3_hear_59 : decode cX3_hear 59 = .ok (.invokestatic 78, 3) := by decide +kernel
theorem dX3_hear_62 : decode cX3_hear 62 = .ok (.putfield 56, 3) := by decide +kernel
theorem dX3_hear_65 : decode cX3_hear 65 = .ok (.iconst 0, 1) := by decide +kernel
theorem dX3_hear_66 : decode cX3_hear 66 = .ok (.istore 4, 2) := by decide +kernel
theorem dX3_hear_68 : decode cX3_hear 68 = .ok (.iload 4, 2) := by decide +kernel
theorem dX3_hear_70 : decode cX3_hear 70 = .ok (.bipush 10, 2) := by decide +kernel
theorem dX3_hear_72 : decode cX3_hear 72 = .ok (.if_icmp .ge 38, 3) := by decide +kernel
theorem dX3_hear_75 : decode cX3_hear 75 = .ok (.aload_n 0, 1) := by decide +kernel
theorem dX3_hear_76 : decode cX3_hear 76 = .ok (.iload_n 3, 1) := by decide +kernel
theorem dX3_hear_77 : decode cX3_hear 77 = .ok (.iload 4, 2) := by decide +kernel
theorem dX3_hear_79 : decode cX3_hear 79 = .ok (.invokevirtual 75, 3) := by decide +kernel
theorem dX3_hear_82 : decode cX3_hear 82 = .ok (.iload_n 2, 1) := by decide +kernel
theorem dX3_hear_83 : decode cX3_hear 83 = .ok (.if_icmp .eq 21, 3) := by decide +kernel
theorem dX3_hear_86 : decode cX3_hear 86 = .ok (.aload_n 0, 1) := by decide +kernel
theorem dX3_hear_87 : decode cX3_hear 87 = .ok (.getfield 15, 3) := by decide +kernel
theorem dX3_hear_90 : decode cX3_hear 90 = .ok (.iload 4, 2) := by decide +kernel
theorem dX3_hear_92 : decode cX3_hear 92 = .ok (.aload_n 0, 1) := by decide +kernel
theorem dX3_hear_93 : decode cX3_hear 93 = .ok (.getfield 15, 3) := by decide +kernel
theorem dX3_hear_96 : decode cX3_hear 96 = .ok (.iload 4, 2) := by decide +kernel
theorem dX3_hear_98 : decode cX3_hear 98 = .ok (.iaload, 1) := by decide +kernel
theorem dX3_hear_99 : decode cX3_hear 99 = .ok (.iload_n 3, 1) := by decide +kernel
theorem dX3_hear_100 : decode cX3_hear 100 = .ok (.invokestatic 83, 3) := by decide +kernel
theorem dX3_hear_103 : decode cX3_hear 103 = .ok (.iastore, 1) := by decide +kernel
theorem dX3_hear_104 : decode cX3_hear 104 = .ok (.iinc 4 1, 3) := by decide +kernel
theorem dX3_hear_107 : decode cX3_hear 107 = .ok (.goto (-39), 3) := by decide +kernel
theorem dX3_hear_110 : decode cX3_hear 110 = .ok (.iload_n 3, 1) := by decide +kernel
theorem dX3_hear_111 : decode cX3_hear 111 = .ok (.bipush 60, 2) := by decide +kernel
theorem dX3_hear_113 : decode cX3_hear 113 = .ok (.if_icmp .ge 24, 3) := by decide +kernel
theorem dX3_hear_116 : decode cX3_hear 116 = .ok (.aload_n 0, 1) := by decide +kernel
theorem dX3_hear_117 : decode cX3_hear 117 = .ok (.getfield 21, 3) := by decide +kernel
theorem dX3_hear_120 : decode cX3_hear 120 = .ok (.iload_n 3, 1) := by decide +kernel
theorem dX3_hear_121 : decode cX3_hear 121 = .ok (.dup2, 1) := by decide +kernel
theorem dX3_hear_122 : decode cX3_hear 122 = .ok (.iaload, 1) := by decide +kernel
theorem dX3_hear_123 : decode cX3_hear 123 = .ok (.iload_n 2, 1) := by decide +kernel
theorem dX3_hear_124 : decode cX3_hear 124 = .ok (.iconst (-1), 1) := by decide +kernel
theorem dX3_hear_125 : decode cX3_hear 125 = .ok (.if_icmp .ne 7, 3) := by decide +kernel
theorem dX3_hear_128 : decode cX3_hear 128 = .ok (.iconst 0, 1) := by decide +kernel
theorem dX3_hear_129 : decode cX3_hear 129 = .ok (.goto 6, 3) := by decide +kernel
theorem dX3_hear_132 : decode cX3_hear 132 = .ok (.iconst 1, 1) := by decide +kernel
theorem dX3_hear_133 : decode cX3_hear 133 = .ok (.iload_n 2, 1) := by decide +kernel
theorem dX3_hear_134 : decode cX3_hear 134 = .ok (.ishl, 1) := by decide +kernel
theorem dX3_hear_135 : decode cX3_hear 135 = .ok (.iand, 1) := by decide +kernel
theorem dX3_hear_136 : decode cX3_hear 136 = .ok (.iastore, 1) := by decide +kernel
theorem dX3_hear_137 : decode cX3_hear 137 = .ok (.return_, 1) := by decide +kernel
theorem wrr_wsX3_countFits {i : Nat} {w : Cond} (h : wsX3_countFits[i]? = some w) : w ∈ wsX3_countFits := List.mem_of_getElem? h
theorem wru_wsX3_countFits_wsX30 : ∀ w ∈ wsX30, w ∈ wsX3_countFits := fun w h => (List.mem_cons_of_mem _ (List.mem_append_right _ h))
set_option maxRecDepth 20000 in
theorem gw_wsX3_fitsWithout : wsX3_fitsWithout.all goodWord = true := by decide +kernel
set_option maxRecDepth 20000 in
theorem ggX3_countFits_X3_fitsWithout : GoodIn wsX3_countFits wsX3_fitsWithout := goodIn_sub (List.forall_mem_cons.mpr ⟨wrr_wsX3_countFits (i := 5) rfl, (List.forall_mem_append.mpr ⟨(List.forall_mem_cons.mpr ⟨wrr_wsX3_countFits (i := 6) rfl, (List.forall_mem_cons.mpr ⟨wrr_wsX3_countFits (i := 7) rfl, (fun _ h => absurd h List.not_mem_nil)⟩)⟩), wru_wsX3_countFits_wsX30⟩)⟩) gw_wsX3_fitsWithout
set_option maxRecDepth 20000 in
theorem gX3_countFits_X3_fitsWithout : GoodIn wsX3_countFits (wsV RX3 86 RX3 yX3_fitsWithout wsX3_fitsWithout) := goodIn_app (goodIn_sub (List.forall_mem_cons.mpr ⟨wrr_wsX3_countFits (i := 1) rfl, (List.forall_mem_cons.mpr ⟨wrr_wsX3_countFits (i := 2) rfl, (List.forall_mem_cons.mpr ⟨wrr_wsX3_countFits (i := 3) rfl, (List.forall_mem_cons.mpr ⟨wrr_wsX3_countFits (i := 4) rfl, (fun _ h => absurd h List.not_mem_nil)⟩)⟩)⟩)⟩) (by decide +kernel)) ggX3_countFits_X3_fitsWithout
set_option maxRecDepth 20000 in
theorem gw_wsX3_stepsThatFit : wsX3_stepsThatFit.all goodWord = true := by decide +kernel
set_option maxRecDepth 20000 in
theorem ggX3_countFits_X3_stepsThatFit : GoodIn wsX3_countFits wsX3_stepsThatFit := goodIn_sub (List.forall_mem_cons.mpr ⟨wrr_wsX3_countFits (i := 11) rfl, (List.forall_mem_append.mpr ⟨(List.forall_mem_cons.mpr ⟨wrr_wsX3_countFits (i := 12) rfl, (List.forall_mem_cons.mpr ⟨wrr_wsX3_countFits (i := 6) rfl, (List.forall_mem_cons.mpr ⟨wrr_wsX3_countFits (i := 7) rfl, (List.forall_mem_cons.mpr ⟨wrr_wsX3_countFits (i := 13) rfl, (List.forall_mem_cons.mpr ⟨wrr_wsX3_countFits (i := 14) rfl, (List.forall_mem_cons.mpr ⟨wrr_wsX3_countFits (i := 1) rfl, (List.forall_mem_cons.mpr ⟨wrr_wsX3_countFits (i := 2) rfl, (List.forall_mem_cons.mpr ⟨wrr_wsX3_countFits (i := 3) rfl, (List.forall_mem_cons.mpr ⟨wrr_wsX3_countFits (i := 4) rfl, (List.forall_mem_cons.mpr ⟨wrr_wsX3_countFits (i := 5) rfl, (fun _ h => absurd h List.not_mem_nil)⟩)⟩)⟩)⟩)⟩)⟩)⟩)⟩)⟩)⟩), wru_wsX3_countFits_wsX30⟩)⟩) gw_wsX3_stepsThatFit
set_option maxRecDepth 20000 in
theorem gX3_countFits_X3_stepsThatFit : GoodIn wsX3_countFits (wsV RX3 90 RX3 yX3_stepsThatFit wsX3_stepsThatFit) := goodIn_app (goodIn_sub (List.forall_mem_cons.mpr ⟨wrr_wsX3_countFits (i := 8) rfl, (List.forall_mem_cons.mpr ⟨wrr_wsX3_countFits (i := 9) rfl, (List.forall_mem_cons.mpr ⟨wrr_wsX3_countFits (i := 10) rfl, (List.forall_mem_cons.mpr ⟨wrr_wsX3_countFits (i := 4) rfl, (fun _ h => absurd h List.not_mem_nil)⟩)⟩)⟩)⟩) (by decide +kernel)) ggX3_countFits_X3_stepsThatFit
set_option maxRecDepth 20000 in
theorem ggX3_countFits_J6_bitCount_0f7a4 : GoodIn wsX3_countFits wsJ6_bitCount_0f7a4 := goodIn_sub (List.forall_mem_cons.mpr ⟨wrr_wsX3_countFits (i := 18) rfl, (List.forall_mem_cons.mpr ⟨wrr_wsX3_countFits (i := 19) rfl, (List.forall_mem_cons.mpr ⟨wrr_wsX3_countFits (i := 20) rfl, (List.forall_mem_cons.mpr ⟨wrr_wsX3_countFits (i := 21) rfl, (fun _ h => absurd h List.not_mem_nil)⟩)⟩)⟩)⟩) gw_wsJ6_bitCount_0f7a4
set_option maxRecDepth 20000 in
theorem gX3_countFits_J6_bitCount_0f7a4 : GoodIn wsX3_countFits (va_wsS RX3 93 yJ6_bitCount_0f7a4 wsJ6_bitCount_0f7a4) := goodIn_app (goodIn_sub (List.forall_mem_cons.mpr ⟨wrr_wsX3_countFits (i := 15) rfl, (List.forall_mem_cons.mpr ⟨wrr_wsX3_countFits (i := 16) rfl, (List.forall_mem_cons.mpr ⟨wrr_wsX3_countFits (i := 17) rfl, (fun _ h => absurd h List.not_mem_nil)⟩)⟩)⟩) (by decide +kernel)) ggX3_countFits_J6_bitCount_0f7a4
theorem dX3_countFits_0 : decode cX3_countFits 0 = .ok (.aload_n 0, 1) := by decide +kernel
theorem dX3_countFits_1 : decode cX3_countFits 1 = .ok (.invokevirtual 86, 3) := by decide +kernel
theorem dX3_countFits_4 : decode cX3_countFits 4 = .ok (.ifCond .eq 7, 3) := by decide +kernel
theorem dX3_countFits_7 : decode cX3_countFits 7 = .ok (.iconst 1, 1) := by decide +kernel
theorem dX3_countFits_8 : decode cX3_countFits 8 = .ok (.goto 4, 3) := by decide +kernel
theorem dX3_countFits_11 : decode cX3_countFits 11 = .ok (.iconst 0, 1) := by decide +kernel
theorem dX3_countFits_12 : decode cX3_countFits 12 = .ok (.istore_n 1, 1) := by decide +kernel
theorem dX3_countFits_13 : decode cX3_countFits 13 = .ok (.iconst 0, 1) := by decide +kernel
theorem dX3_countFits_14 : decode cX3_countFits 14 = .ok (.istore_n 2, 1) := by decide +kernel
theorem dX3_countFits_15 : decode cX3_countFits 15 = .ok (.iload_n 2, 1) := by decide +kernel
theorem dX3_countFits_16 : decode cX3_countFits 16 = .ok (.bipush 60, 2) := by decide +kernel
theorem dX3_countFits_18 : decode cX3_countFits 18 = .ok (.if_icmp .ge 35, 3) := by decide +kernel
theorem dX3_countFits_21 : decode cX3_countFits 21 = .ok (.iconst 0, 1) := by decide +kernel
theorem dX3_countFits_22 : decode cX3_countFits 22 = .ok (.istore_n 3, 1) := by decide +kernel
theorem dX3_countFits_23 : decode cX3_countFits 23 = .ok (.iload_n 3, 1) := by decide +kernel
theorem dX3_countFits_24 : decode cX3_countFits 24 = .ok (.bipush 10, 2) := by decide +kernel
theorem dX3_countFits_26 : decode cX3_countFits 26 = .ok (.if_icmp .ge 21, 3) := by decide +kernel
theorem dX3_countFits_29 : decode cX3_countFits 29 = .ok (.iload_n 1, 1) := by decide +kernel
theorem dX3_countFits_30 : decode cX3_countFits 30 = .ok (.aload_n 0, 1) := by decide +kernel
theorem dX3_countFits_31 : decode cX3_countFits 31 = .ok (.iload_n 2, 1) := by decide +kernel
theorem dX3_countFits_32 : decode cX3_countFits 32 = .ok (.iload_n 3, 1) := by decide +kernel
theorem dX3_countFits_33 : decode cX3_countFits 33 = .ok (.invokevirtual 90, 3) := by decide +kernel
theorem dX3_countFits_36 : decode cX3_countFits 36 = .ok (.invokestatic 93, 3) := by decide +kernel
theorem dX3_countFits_39 : decode cX3_countFits 39 = .ok (.iadd, 1) := by decide +kernel
theorem dX3_countFits_40 : decode cX3_countFits 40 = .ok (.istore_n 1, 1) := by decide +kernel
theorem dX3_countFits_41 : decode cX3_countFits 41 = .ok (.iinc 3 1, 3) := by decide +kernel
theorem dX3_countFits_44 : decode cX3_countFits 44 = .ok (.goto (-21), 3) := by decide +kernel
theorem dX3_countFits_47 : decode cX3_countFits 47 = .ok (.iinc 2 1, 3) := by decide +kernel
theorem dX3_countFits_50 : decode cX3_countFits 50 = .ok (.goto (-35), 3) := by decide +kernel
theorem dX3_countFits_53 : decode cX3_countFits 53 = .ok (.iload_n 1, 1) := by decide +kernel
theorem dX3_countFits_54 : decode cX3_countFits 54 = .ok (.ireturn, 1) := by decide +kernel
theorem wrr_wsX3_leastFit {i : Nat} {w : Cond} (h : wsX3_leastFit[i]? = some w) : w ∈ wsX3_leastFit := List.mem_of_getElem? h
theorem wru_wsX3_leastFit_wsX30 : ∀ w ∈ wsX30, w ∈ wsX3_leastFit := fun w h => (List.mem_cons_of_mem _ (List.mem_append_right _ h))
set_option maxRecDepth 20000 in
theorem ggX3_leastFit_X3_fitsWithout : GoodIn wsX3_leastFit wsX3_fitsWithout := goodIn_sub (List.forall_mem_cons.mpr ⟨wrr_wsX3_leastFit (i := 5) rfl, (List.forall_mem_append.mpr ⟨(List.forall_mem_cons.mpr ⟨wrr_wsX3_leastFit (i := 6) rfl, (List.forall_mem_cons.mpr ⟨wrr_wsX3_leastFit (i := 7) rfl, (fun _ h => absurd h List.not_mem_nil)⟩)⟩), wru_wsX3_leastFit_wsX30⟩)⟩) gw_wsX3_fitsWithout
set_option maxRecDepth 20000 in
theorem gX3_leastFit_X3_fitsWithout : GoodIn wsX3_leastFit (wsV RX3 86 RX3 yX3_fitsWithout wsX3_fitsWithout) := goodIn_app (goodIn_sub (List.forall_mem_cons.mpr ⟨wrr_wsX3_leastFit (i := 1) rfl, (List.forall_mem_cons.mpr ⟨wrr_wsX3_leastFit (i := 2) rfl, (List.forall_mem_cons.mpr ⟨wrr_wsX3_leastFit (i := 3) rfl, (List.forall_mem_cons.mpr ⟨wrr_wsX3_leastFit (i := 4) rfl, (fun _ h => absurd h List.not_mem_nil)⟩)⟩)⟩)⟩) (by decide +kernel)) ggX3_leastFit_X3_fitsWithout
set_option maxRecDepth 20000 in
theorem ggX3_leastFit_X3_stepsThatFit : GoodIn wsX3_leastFit wsX3_stepsThatFit := goodIn_sub (List.forall_mem_cons.mpr ⟨wrr_wsX3_leastFit (i := 11) rfl, (List.forall_mem_append.mpr ⟨(List.forall_mem_cons.mpr ⟨wrr_wsX3_leastFit (i := 12) rfl, (List.forall_mem_cons.mpr ⟨wrr_wsX3_leastFit (i := 6) rfl, (List.forall_mem_cons.mpr ⟨wrr_wsX3_leastFit (i := 7) rfl, (List.forall_mem_cons.mpr ⟨wrr_wsX3_leastFit (i := 13) rfl, (List.forall_mem_cons.mpr ⟨wrr_wsX3_leastFit (i := 14) rfl, (List.forall_mem_cons.mpr ⟨wrr_wsX3_leastFit (i := 1) rfl, (List.forall_mem_cons.mpr ⟨wrr_wsX3_leastFit (i := 2) rfl, (List.forall_mem_cons.mpr ⟨wrr_wsX3_leastFit (i := 3) rfl, (List.forall_mem_cons.mpr ⟨wrr_wsX3_leastFit (i := 4) rfl, (List.forall_mem_cons.mpr ⟨wrr_wsX3_leastFit (i := 5) rfl, (fun _ h => absurd h List.not_mem_nil)⟩)⟩)⟩)⟩)⟩)⟩)⟩)⟩)⟩)⟩), wru_wsX3_leastFit_wsX30⟩)⟩) gw_wsX3_stepsThatFit
set_option maxRecDepth 20000 in
theorem gX3_leastFit_X3_stepsThatFit : GoodIn wsX3_leastFit (wsV RX3 90 RX3 yX3_stepsThatFit wsX3_stepsThatFit) := goodIn_app (goodIn_sub (List.forall_mem_cons.mpr ⟨wrr_wsX3_leastFit (i := 8) rfl, (List.forall_mem_cons.mpr ⟨wrr_wsX3_leastFit (i := 9) rfl, (List.forall_mem_cons.mpr ⟨wrr_wsX3_leastFit (i := 10) rfl, (List.forall_mem_cons.mpr ⟨wrr_wsX3_leastFit (i := 4) rfl, (fun _ h => absurd h List.not_mem_nil)⟩)⟩)⟩)⟩) (by decide +kernel)) ggX3_leastFit_X3_stepsThatFit
theorem dX3_leastFit_0 : decode cX3_leastFit 0 = .ok (.aload_n 0, 1) := by decide +kernel
theorem dX3_leastFit_1 : decode cX3_leastFit 1 = .ok (.invokevirtual 86, 3) := by decide +kernel
theorem dX3_leastFit_4 : decode cX3_leastFit 4 = .ok (.ifCond .eq 5, 3) := by decide +kernel
theorem dX3_leastFit_7 : decode cX3_leastFit 7 = .ok (.iconst 0, 1) := by decide +kernel
theorem dX3_leastFit_8 : decode cX3_leastFit 8 = .ok (.ireturn, 1) := by decide +kernel
theorem dX3_leastFit_9 : decode cX3_leastFit 9 = .ok (.iconst 0, 1) := by decide +kernel
theorem dX3_leastFit_10 : decode cX3_leastFit 10 = .ok (.istore_n 1, 1) := by decide +kernel
theorem dX3_leastFit_11 : decode cX3_leastFit 11 = .ok (.iload_n 1, 1) := by decide +kernel
theorem dX3_leastFit_12 : decode cX3_leastFit 12 = .ok (.bipush 60, 2) := by decide +kernel
theorem dX3_leastFit_14 : decode cX3_leastFit 14 = .ok (.if_icmp .ge 64, 3) := by decide +kernel
theorem dX3_leastFit_17 : decode cX3_leastFit 17 = .ok (.iconst 0, 1) := by decide +kernel
theorem dX3_leastFit_18 : decode cX3_leastFit 18 = .ok (.istore_n 2, 1) := by decide +kernel
theorem dX3_leastFit_19 : decode cX3_leastFit 19 = .ok (.iload_n 2, 1) := by decide +kernel
theorem dX3_leastFit_20 : decode cX3_leastFit 20 = .ok (.bipush 6, 2) := by decide +kernel
theorem dX3_leastFit_22 : decode cX3_leastFit 22 = .ok (.if_icmp .ge 50, 3) := by decide +kernel
theorem dX3_leastFit_25 : decode cX3_leastFit 25 = .ok (.iconst 0, 1) := by decide +kernel
theorem dX3_leastFit_26 : decode cX3_leastFit 26 = .ok (.istore_n 3, 1) := by decide +kernel
theorem dX3_leastFit_27 : decode cX3_leastFit 27 = .ok (.iload_n 3, 1) := by decide +kernel
theorem dX3_leastFit_28 : decode cX3_leastFit 28 = .ok (.bipush 10, 2) := by decide +kernel
theorem dX3_leastFit_30 : decode cX3_leastFit 30 = .ok (.if_icmp .ge 36, 3) := by decide +kernel
theorem dX3_leastFit_33 : decode cX3_leastFit 33 = .ok (.aload_n 0, 1) := by decide +kernel
theorem dX3_leastFit_34 : decode cX3_leastFit 34 = .ok (.iload_n 1, 1) := by decide +kernel
theorem dX3_leastFit_35 : decode cX3_leastFit 35 = .ok (.iload_n 3, 1) := by decide +kernel
theorem dX3_leastFit_36 : decode cX3_leastFit 36 = .ok (.invokevirtual 90, 3) := by decide +kernel
theorem dX3_leastFit_39 : decode cX3_leastFit 39 = .ok (.iload_n 2, 1) := by decide +kernel
theorem dX3_leastFit_40 : decode cX3_leastFit 40 = .ok (.ishr, 1) := by decide +kernel
theorem dX3_leastFit_41 : decode cX3_leastFit 41 = .ok (.iconst 1, 1) := by decide +kernel
theorem dX3_leastFit_42 : decode cX3_leastFit 42 = .ok (.iand, 1) := by decide +kernel
theorem dX3_leastFit_43 : decode cX3_leastFit 43 = .ok (.ifCond .eq 17, 3) := by decide +kernel
theorem dX3_leastFit_46 : decode cX3_leastFit 46 = .ok (.iconst 1, 1) := by decide +kernel
theorem dX3_leastFit_47 : decode cX3_leastFit 47 = .ok (.bipush 60, 2) := by decide +kernel
theorem dX3_leastFit_49 : decode cX3_leastFit 49 = .ok (.iload_n 1, 1) := by decide +kernel
theorem dX3_leastFit_50 : decode cX3_leastFit 50 = .ok (.imul, 1) := by decide +kernel
theorem dX3_leastFit_51 : decode cX3_leastFit 51 = .ok (.iadd, 1) := by decide +kernel
theorem dX3_leastFit_52 : decode cX3_leastFit 52 = .ok (.bipush 10, 2) := by decide +kernel
theorem dX3_leastFit_54 : decode cX3_leastFit 54 = .ok (.iload_n 2, 1) := by decide +kernel
theorem dX3_leastFit_55 : decode cX3_leastFit 55 = .ok (.imul, 1) := by decide +kernel
theorem dX3_leastFit_56 : decode cX3_leastFit 56 = .ok (.iadd, 1) := by decide +kernel
theorem dX3_leastFit_57 : decode cX3_leastFit 57 = .ok (.iload_n 3, 1) := by decide +kernel
theorem dX3_leastFit_58 : decode cX3_leastFit 58 = .ok (.iadd, 1) := by decide +kernel
theorem dX3_leastFit_59 : decode cX3_leastFit 59 = .ok (.ireturn, 1) := by decide +kernel
theorem dX3_leastFit_60 : decode cX3_leastFit 60 = .ok (.iinc 3 1, 3) := by decide +kernel
theorem dX3_leastFit_63 : decode cX3_leastFit 63 = .ok (.goto (-36), 3) := by decide +kernel
theorem dX3_leastFit_66 : decode cX3_leastFit 66 = .ok (.iinc 2 1, 3) := by decide +kernel
theorem dX3_leastFit_69 : decode cX3_leastFit 69 = .ok (.goto (-50), 3) := by decide +kernel
theorem dX3_leastFit_72 : decode cX3_leastFit 72 = .ok (.iinc 1 1, 3) := by decide +kernel
theorem dX3_leastFit_75 : decode cX3_leastFit 75 = .ok (.goto (-64), 3) := by decide +kernel
theorem dX3_leastFit_78 : decode cX3_leastFit 78 = .ok (.iconst (-1), 1) := by decide +kernel
theorem dX3_leastFit_79 : decode cX3_leastFit 79 = .ok (.ireturn, 1) := by decide +kernel
theorem wrr_wsX3_beatsOfFits {i : Nat} {w : Cond} (h : wsX3_beatsOfFits[i]? = some w) : w ∈ wsX3_beatsOfFits := List.mem_of_getElem? h
theorem wru_wsX3_beatsOfFits_wsX30 : ∀ w ∈ wsX30, w ∈ wsX3_beatsOfFits := fun w h => (List.mem_cons_of_mem _ (List.mem_append_right _ h))
set_option maxRecDepth 20000 in
theorem ggX3_beatsOfFits_X3_stepsThatFit : GoodIn wsX3_beatsOfFits wsX3_stepsThatFit := goodIn_sub (List.forall_mem_cons.mpr ⟨wrr_wsX3_beatsOfFits (i := 5) rfl, (List.forall_mem_append.mpr ⟨(List.forall_mem_cons.mpr ⟨wrr_wsX3_beatsOfFits (i := 6) rfl, (List.forall_mem_cons.mpr ⟨wrr_wsX3_beatsOfFits (i := 7) rfl, (List.forall_mem_cons.mpr ⟨wrr_wsX3_beatsOfFits (i := 8) rfl, (List.forall_mem_cons.mpr ⟨wrr_wsX3_beatsOfFits (i := 9) rfl, (List.forall_mem_cons.mpr ⟨wrr_wsX3_beatsOfFits (i := 10) rfl, (List.forall_mem_cons.mpr ⟨wrr_wsX3_beatsOfFits (i := 11) rfl, (List.forall_mem_cons.mpr ⟨wrr_wsX3_beatsOfFits (i := 12) rfl, (List.forall_mem_cons.mpr ⟨wrr_wsX3_beatsOfFits (i := 13) rfl, (List.forall_mem_cons.mpr ⟨wrr_wsX3_beatsOfFits (i := 4) rfl, (List.forall_mem_cons.mpr ⟨wrr_wsX3_beatsOfFits (i := 14) rfl, (fun _ h => absurd h List.not_mem_nil)⟩)⟩)⟩)⟩)⟩)⟩)⟩)⟩)⟩)⟩), wru_wsX3_beatsOfFits_wsX30⟩)⟩) gw_wsX3_stepsThatFit
set_option maxRecDepth 20000 in
theorem gX3_beatsOfFits_X3_stepsThatFit : GoodIn wsX3_beatsOfFits (wsV RX3 90 RX3 yX3_stepsThatFit wsX3_stepsThatFit) := goodIn_app (goodIn_sub (List.forall_mem_cons.mpr ⟨wrr_wsX3_beatsOfFits (i := 1) rfl, (List.forall_mem_cons.mpr ⟨wrr_wsX3_beatsOfFits (i := 2) rfl, (List.forall_mem_cons.mpr ⟨wrr_wsX3_beatsOfFits (i := 3) rfl, (List.forall_mem_cons.mpr ⟨wrr_wsX3_beatsOfFits (i := 4) rfl, (fun _ h => absurd h List.not_mem_nil)⟩)⟩)⟩)⟩) (by decide +kernel)) ggX3_beatsOfFits_X3_stepsThatFit
theorem dX3_beatsOfFits_0 : decode cX3_beatsOfFits 0 = .ok (.lconst 0, 1) := by decide +kernel
theorem dX3_beatsOfFits_1 : decode cX3_beatsOfFits 1 = .ok (.lstore_n 1, 1) := by decide +kernel
theorem dX3_beatsOfFits_2 : decode cX3_beatsOfFits 2 = .ok (.iconst 0, 1) := by decide +kernel
theorem dX3_beatsOfFits_3 : decode cX3_beatsOfFits 3 = .ok (.istore_n 3, 1) := by decide +kernel
theorem dX3_beatsOfFits_4 : decode cX3_beatsOfFits 4 = .ok (.iload_n 3, 1) := by decide +kernel
theorem dX3_beatsOfFits_5 : decode cX3_beatsOfFits 5 = .ok (.bipush 60, 2) := by decide +kernel
theorem dX3_beatsOfFits_7 : decode cX3_beatsOfFits 7 = .ok (.if_icmp .ge 41, 3) := by decide +kernel
theorem dX3_beatsOfFits_10 : decode cX3_beatsOfFits 10 = .ok (.iconst 0, 1) := by decide +kernel
theorem dX3_beatsOfFits_11 : decode cX3_beatsOfFits 11 = .ok (.istore 4, 2) := by decide +kernel
theorem dX3_beatsOfFits_13 : decode cX3_beatsOfFits 13 = .ok (.iload 4, 2) := by decide +kernel
theorem dX3_beatsOfFits_15 : decode cX3_beatsOfFits 15 = .ok (.bipush 10, 2) := by decide +kernel
theorem dX3_beatsOfFits_17 : decode cX3_beatsOfFits 17 = .ok (.if_icmp .ge 25, 3) := by decide +kernel
theorem dX3_beatsOfFits_20 : decode cX3_beatsOfFits 20 = .ok (.aload_n 0, 1) := by decide +kernel
theorem dX3_beatsOfFits_21 : decode cX3_beatsOfFits 21 = .ok (.iload_n 3, 1) := by decide +kernel
theorem dX3_beatsOfFits_22 : decode cX3_beatsOfFits 22 = .ok (.iload 4, 2) := by decide +kernel
theorem dX3_beatsOfFits_24 : decode cX3_beatsOfFits 24 = .ok (.invokevirtual 90, 3) := by decide +kernel
theorem dX3_beatsOfFits_27 : decode cX3_beatsOfFits 27 = .ok (.ifCond .eq 9, 3) := by decide +kernel
theorem dX3_beatsOfFits_30 : decode cX3_beatsOfFits 30 = .ok (.lload_n 1, 1) := by decide +kernel
theorem dX3_beatsOfFits_31 : decode cX3_beatsOfFits 31 = .ok (.lconst 1, 1) := by decide +kernel
theorem dX3_beatsOfFits_32 : decode cX3_beatsOfFits 32 = .ok (.iload_n 3, 1) := by decide +kernel
theorem dX3_beatsOfFits_33 : decode cX3_beatsOfFits 33 = .ok (.lshl, 1) := by decide +kernel
theorem dX3_beatsOfFits_34 : decode cX3_beatsOfFits 34 = .ok (.lor, 1) := by decide +kernel
theorem dX3_beatsOfFits_35 : decode cX3_beatsOfFits 35 = .ok (.lstore_n 1, 1) := by decide +kernel
theorem dX3_beatsOfFits_36 : decode cX3_beatsOfFits 36 = .ok (.iinc 4 1, 3) := by decide +kernel
theorem dX3_beatsOfFits_39 : decode cX3_beatsOfFits 39 = .ok (.goto (-26), 3) := by decide +kernel
theorem dX3_beatsOfFits_42 : decode cX3_beatsOfFits 42 = .ok (.iinc 3 1, 3) := by decide +kernel
theorem dX3_beatsOfFits_45 : decode cX3_beatsOfFits 45 = .ok (.goto (-41), 3) := by decide +kernel
theorem dX3_beatsOfFits_48 : decode cX3_beatsOfFits 48 = .ok (.lload_n 1, 1) := by decide +kernel
theorem dX3_beatsOfFits_49 : decode cX3_beatsOfFits 49 = .ok (.lreturn, 1) := by decide +kernel
theorem wrr_wsX3_findBeat {i : Nat} {w : Cond} (h : wsX3_findBeat[i]? = some w) : w ∈ wsX3_findBeat := List.mem_of_getElem? h
theorem wrr_wsX3_findBeat_wsX3_findBeat_r1 {i : Nat} {w : Cond} (h : wsX3_findBeat_r1[i]? = some w) : w ∈ wsX3_findBeat := (List.mem_cons_of_mem _ (List.mem_append_left _ (List.mem_append_left _ (List.mem_of_getElem? h))))
theorem wrr_wsX3_findBeat_wsX3_findBeat_r2 {i : Nat} {w : Cond} (h : wsX3_findBeat_r2[i]? = some w) : w ∈ wsX3_findBeat := (List.mem_cons_of_mem _ (List.mem_append_left _ (List.mem_append_right _ (List.mem_append_left _ (List.mem_of_getElem? h)))))
theorem wrr_wsX3_findBeat_wsX3_findBeat_r3 {i : Nat} {w : Cond} (h : wsX3_findBeat_r3[i]? = some w) : w ∈ wsX3_findBeat := (List.mem_cons_of_mem _ (List.mem_append_left _ (List.mem_append_right _ (List.mem_append_right _ (List.mem_of_getElem? h)))))
theorem wru_wsX3_findBeat_wsX30 : ∀ w ∈ wsX30, w ∈ wsX3_findBeat := fun w h => (List.mem_cons_of_mem _ (List.mem_append_right _ h))
set_option maxRecDepth 20000 in
theorem gw_wsX3_countFits : wsX3_countFits.all goodWord = true := by decide +kernel
set_option maxRecDepth 20000 in
theorem ggX3_findBeat_X3_countFits : GoodIn wsX3_findBeat wsX3_countFits := goodIn_sub (List.forall_mem_cons.mpr ⟨wrr_wsX3_findBeat_wsX3_findBeat_r1 (i := 9) rfl, (List.forall_mem_append.mpr ⟨(List.forall_mem_cons.mpr ⟨wrr_wsX3_findBeat_wsX3_findBeat_r1 (i := 10) rfl, (List.forall_mem_cons.mpr ⟨wrr_wsX3_findBeat_wsX3_findBeat_r1 (i := 11) rfl, (List.forall_mem_cons.mpr ⟨wrr_wsX3_findBeat_wsX3_findBeat_r1 (i := 12) rfl, (List.forall_mem_cons.mpr ⟨wrr_wsX3_findBeat_wsX3_findBeat_r1 (i := 8) rfl, (List.forall_mem_cons.mpr ⟨wrr_wsX3_findBeat_wsX3_findBeat_r1 (i := 13) rfl, (List.forall_mem_cons.mpr ⟨wrr_wsX3_findBeat_wsX3_findBeat_r1 (i := 14) rfl, (List.forall_mem_cons.mpr ⟨wrr_wsX3_findBeat_wsX3_findBeat_r1 (i := 15) rfl, (List.forall_mem_cons.mpr ⟨wrr_wsX3_findBeat_wsX3_findBeat_r1 (i := 16) rfl, (List.forall_mem_cons.mpr ⟨wrr_wsX3_findBeat_wsX3_findBeat_r1 (i := 17) rfl, (List.forall_mem_cons.mpr ⟨wrr_wsX3_findBeat_wsX3_findBeat_r1 (i := 18) rfl, (List.forall_mem_cons.mpr ⟨wrr_wsX3_findBeat_wsX3_findBeat_r1 (i := 19) rfl, (List.forall_mem_cons.mpr ⟨wrr_wsX3_findBeat_wsX3_findBeat_r1 (i := 4) rfl, (List.forall_mem_cons.mpr ⟨wrr_wsX3_findBeat_wsX3_findBeat_r1 (i := 20) rfl, (List.forall_mem_cons.mpr ⟨wrr_wsX3_findBeat_wsX3_findBeat_r1 (i := 21) rfl, (List.forall_mem_cons.mpr ⟨wrr_wsX3_findBeat_wsX3_findBeat_r1 (i := 22) rfl, (List.forall_mem_cons.mpr ⟨wrr_wsX3_findBeat_wsX3_findBeat_r1 (i := 23) rfl, (List.forall_mem_cons.mpr ⟨wrr_wsX3_findBeat_wsX3_findBeat_r2 (i := 0) rfl, (List.forall_mem_cons.mpr ⟨wrr_wsX3_findBeat_wsX3_findBeat_r2 (i := 1) rfl, (List.forall_mem_cons.mpr ⟨wrr_wsX3_findBeat_wsX3_findBeat_r2 (i := 2) rfl, (List.forall_mem_cons.mpr ⟨wrr_wsX3_findBeat_wsX3_findBeat_r2 (i := 3) rfl, (List.forall_mem_cons.mpr ⟨wrr_wsX3_findBeat_wsX3_findBeat_r2 (i := 4) rfl, (fun _ h => absurd h List.not_mem_nil)⟩)⟩)⟩)⟩)⟩)⟩)⟩)⟩)⟩)⟩)⟩)⟩)⟩)⟩)⟩)⟩)⟩)⟩)⟩)⟩)⟩), wru_wsX3_findBeat_wsX30⟩)⟩) gw_wsX3_countFits
set_option maxRecDepth 20000 in
theorem gX3_findBeat_X3_countFits : GoodIn wsX3_findBeat (wsV RX3 99 RX3 yX3_countFits wsX3_countFits) := goodIn_app (goodIn_sub (List.forall_mem_cons.mpr ⟨wrr_wsX3_findBeat_wsX3_findBeat_r1 (i := 5) rfl, (List.forall_mem_cons.mpr ⟨wrr_wsX3_findBeat_wsX3_findBeat_r1 (i := 6) rfl, (List.forall_mem_cons.mpr ⟨wrr_wsX3_findBeat_wsX3_findBeat_r1 (i := 7) rfl, (List.forall_mem_cons.mpr ⟨wrr_wsX3_findBeat_wsX3_findBeat_r1 (i := 8) rfl, (fun _ h => absurd h List.not_mem_nil)⟩)⟩)⟩)⟩) (by decide +kernel)) ggX3_findBeat_X3_countFits
set_option maxRecDepth 20000 in
theorem ggX3_findBeat_J7_fill_53178 : GoodIn wsX3_findBeat wsJ7_fill_53178 := goodIn_sub (List.forall_mem_cons.mpr ⟨wrr_wsX3_findBeat_wsX3_findBeat_r2 (i := 8) rfl, (fun _ h => absurd h List.not_mem_nil)⟩) gw_wsJ7_fill_53178
set_option maxRecDepth 20000 in
theorem gX3_findBeat_J7_fill_53178 : GoodIn wsX3_findBeat (va_wsS RX3 59 yJ7_fill_53178 wsJ7_fill_53178) := goodIn_app (goodIn_sub (List.forall_mem_cons.mpr ⟨wrr_wsX3_findBeat_wsX3_findBeat_r2 (i := 5) rfl, (List.forall_mem_cons.mpr ⟨wrr_wsX3_findBeat_wsX3_findBeat_r2 (i := 6) rfl, (List.forall_mem_cons.mpr ⟨wrr_wsX3_findBeat_wsX3_findBeat_r2 (i := 7) rfl, (fun _ h => absurd h List.not_mem_nil)⟩)⟩)⟩) (by decide +kernel)) ggX3_findBeat_J7_fill_53178
set_option maxRecDepth 20000 in
theorem gw_wsX3_mostAlike : wsX3_mostAlike.all goodWord = true := by decide +kernel
set_option maxRecDepth 20000 in
theorem ggX3_findBeat_X3_mostAlike : GoodIn wsX3_findBeat wsX3_mostAlike := goodIn_sub (List.forall_mem_cons.mpr ⟨wrr_wsX3_findBeat_wsX3_findBeat_r2 (i := 12) rfl, (List.forall_mem_append.mpr ⟨(List.forall_mem_append.mpr ⟨(List.forall_mem_cons.mpr ⟨wrr_wsX3_findBeat_wsX3_findBeat_r2 (i := 13) rfl, (List.forall_mem_cons.mpr ⟨wrr_wsX3_findBeat_wsX3_findBeat_r1 (i := 2) rfl, (List.forall_mem_cons.mpr ⟨wrr_wsX3_findBeat_wsX3_findBeat_r2 (i := 14) rfl, (List.forall_mem_cons.mpr ⟨wrr_wsX3_findBeat_wsX3_findBeat_r2 (i := 15) rfl, (List.forall_mem_cons.mpr ⟨wrr_wsX3_findBeat_wsX3_findBeat_r2 (i := 16) rfl, (List.forall_mem_cons.mpr ⟨wrr_wsX3_findBeat_wsX3_findBeat_r2 (i := 17) rfl, (List.forall_mem_cons.mpr ⟨wrr_wsX3_findBeat_wsX3_findBeat_r2 (i := 5) rfl, (List.forall_mem_cons.mpr ⟨wrr_wsX3_findBeat_wsX3_findBeat_r2 (i := 6) rfl, (List.forall_mem_cons.mpr ⟨wrr_wsX3_findBeat_wsX3_findBeat_r2 (i := 7) rfl, (List.forall_mem_cons.mpr ⟨wrr_wsX3_findBeat_wsX3_findBeat_r2 (i := 8) rfl, (List.forall_mem_cons.mpr ⟨wrr_wsX3_findBeat_wsX3_findBeat_r2 (i := 18) rfl, (List.forall_mem_cons.mpr ⟨wrr_wsX3_findBeat_wsX3_findBeat_r2 (i := 19) rfl, (List.forall_mem_cons.mpr ⟨wrr_wsX3_findBeat_wsX3_findBeat_r2 (i := 20) rfl, (List.forall_mem_cons.mpr ⟨wrr_wsX3_findBeat_wsX3_findBeat_r1 (i := 8) rfl, (List.forall_mem_cons.mpr ⟨wrr_wsX3_findBeat_wsX3_findBeat_r2 (i := 21) rfl, (List.forall_mem_cons.mpr ⟨wrr_wsX3_findBeat_wsX3_findBeat_r2 (i := 22) rfl, (List.forall_mem_cons.mpr ⟨wrr_wsX3_findBeat_wsX3_findBeat_r1 (i := 4) rfl, (List.forall_mem_cons.mpr ⟨wrr_wsX3_findBeat_wsX3_findBeat_r2 (i := 23) rfl, (List.forall_mem_cons.mpr ⟨wrr_wsX3_findBeat_wsX3_findBeat_r3 (i := 0) rfl, (List.forall_mem_cons.mpr ⟨wrr_wsX3_findBeat_wsX3_findBeat_r3 (i := 1) rfl, (List.forall_mem_cons.mpr ⟨wrr_wsX3_findBeat_wsX3_findBeat_r3 (i := 2) rfl, (List.forall_mem_cons.mpr ⟨wrr_wsX3_findBeat_wsX3_findBeat_r3 (i := 3) rfl, (List.forall_mem_cons.mpr ⟨wrr_wsX3_findBeat_wsX3_findBeat_r3 (i := 4) rfl, (List.forall_mem_cons.mpr ⟨wrr_wsX3_findBeat_wsX3_findBeat_r2 (i := 16) rfl, (fun _ h => absurd h List.not_mem_nil)⟩)⟩)⟩)⟩)⟩)⟩)⟩)⟩)⟩)⟩)⟩)⟩)⟩)⟩)⟩)⟩)⟩)⟩)⟩)⟩)⟩)⟩)⟩)⟩), (List.forall_mem_cons.mpr ⟨wrr_wsX3_findBeat_wsX3_findBeat_r3 (i := 6) rfl, (List.forall_mem_cons.mpr ⟨wrr_wsX3_findBeat_wsX3_findBeat_r1 (i := 16) rfl, (List.forall_mem_cons.mpr ⟨wrr_wsX3_findBeat_wsX3_findBeat_r1 (i := 17) rfl, (List.forall_mem_cons.mpr ⟨wrr_wsX3_findBeat_wsX3_findBeat_r1 (i := 18) rfl, (List.forall_mem_cons.mpr ⟨wrr_wsX3_findBeat_wsX3_findBeat_r1 (i := 19) rfl, (List.forall_mem_cons.mpr ⟨wrr_wsX3_findBeat_wsX3_findBeat_r1 (i := 14) rfl, (List.forall_mem_cons.mpr ⟨wrr_wsX3_findBeat_wsX3_findBeat_r1 (i := 15) rfl, (List.forall_mem_cons.mpr ⟨wrr_wsX3_findBeat_wsX3_findBeat_r1 (i := 20) rfl, (List.forall_mem_cons.mpr ⟨wrr_wsX3_findBeat_wsX3_findBeat_r1 (i := 21) rfl, (List.forall_mem_cons.mpr ⟨wrr_wsX3_findBeat_wsX3_findBeat_r1 (i := 10) rfl, (List.forall_mem_cons.mpr ⟨wrr_wsX3_findBeat_wsX3_findBeat_r1 (i := 11) rfl, (List.forall_mem_cons.mpr ⟨wrr_wsX3_findBeat_wsX3_findBeat_r1 (i := 12) rfl, (List.forall_mem_cons.mpr ⟨wrr_wsX3_findBeat_wsX3_findBeat_r1 (i := 13) rfl, (List.forall_mem_cons.mpr ⟨wrr_wsX3_findBeat_wsX3_findBeat_r1 (i := 22) rfl, (List.forall_mem_cons.mpr ⟨wrr_wsX3_findBeat_wsX3_findBeat_r1 (i := 23) rfl, (List.forall_mem_cons.mpr ⟨wrr_wsX3_findBeat_wsX3_findBeat_r2 (i := 0) rfl, (List.forall_mem_cons.mpr ⟨wrr_wsX3_findBeat_wsX3_findBeat_r2 (i := 1) rfl, (List.forall_mem_cons.mpr ⟨wrr_wsX3_findBeat_wsX3_findBeat_r2 (i := 2) rfl, (List.forall_mem_cons.mpr ⟨wrr_wsX3_findBeat_wsX3_findBeat_r2 (i := 3) rfl, (List.forall_mem_cons.mpr ⟨wrr_wsX3_findBeat_wsX3_findBeat_r2 (i := 4) rfl, (fun _ h => absurd h List.not_mem_nil)⟩)⟩)⟩)⟩)⟩)⟩)⟩)⟩)⟩)⟩)⟩)⟩)⟩)⟩)⟩)⟩)⟩)⟩)⟩)⟩)⟩), wru_wsX3_findBeat_wsX30⟩)⟩) gw_wsX3_mostAlike
set_option maxRecDepth 20000 in
theorem gX3_findBeat_X3_mostAlike : GoodIn wsX3_findBeat (wsV RX3 109 RX3 yX3_mostAlike wsX3_mostAlike) := goodIn_app (goodIn_sub (List.forall_mem_cons.mpr ⟨wrr_wsX3_findBeat_wsX3_findBeat_r2 (i := 9) rfl, (List.forall_mem_cons.mpr ⟨wrr_wsX3_findBeat_wsX3_findBeat_r2 (i := 10) rfl, (List.forall_mem_cons.mpr ⟨wrr_wsX3_findBeat_wsX3_findBeat_r2 (i := 11) rfl, (List.forall_mem_cons.mpr ⟨wrr_wsX3_findBeat_wsX3_findBeat_r1 (i := 8) rfl, (fun _ h => absurd h List.not_mem_nil)⟩)⟩)⟩)⟩) (by decide +kernel)) ggX3_findBeat_X3_mostAlike
set_option maxRecDepth 20000 in
theorem gw_wsX3_pass : wsX3_pass.all goodWord = true := by decide +kernel
set_option maxRecDepth 20000 in
theorem ggX3_findBeat_X3_pass : GoodIn wsX3_findBeat wsX3_pass := goodIn_sub (List.forall_mem_cons.mpr ⟨wrr_wsX3_findBeat_wsX3_findBeat_r3 (i := 10) rfl, (List.forall_mem_append.mpr ⟨(List.forall_mem_cons.mpr ⟨wrr_wsX3_findBeat_wsX3_findBeat_r1 (i := 2) rfl, (List.forall_mem_cons.mpr ⟨wrr_wsX3_findBeat_wsX3_findBeat_r1 (i := 16) rfl, (List.forall_mem_cons.mpr ⟨wrr_wsX3_findBeat_wsX3_findBeat_r1 (i := 17) rfl, (List.forall_mem_cons.mpr ⟨wrr_wsX3_findBeat_wsX3_findBeat_r1 (i := 18) rfl, (List.forall_mem_cons.mpr ⟨wrr_wsX3_findBeat_wsX3_findBeat_r1 (i := 8) rfl, (List.forall_mem_cons.mpr ⟨wrr_wsX3_findBeat_wsX3_findBeat_r1 (i := 19) rfl, (List.forall_mem_cons.mpr ⟨wrr_wsX3_findBeat_wsX3_findBeat_r1 (i := 4) rfl, (List.forall_mem_cons.mpr ⟨wrr_wsX3_findBeat_wsX3_findBeat_r1 (i := 14) rfl, (List.forall_mem_cons.mpr ⟨wrr_wsX3_findBeat_wsX3_findBeat_r1 (i := 15) rfl, (List.forall_mem_cons.mpr ⟨wrr_wsX3_findBeat_wsX3_findBeat_r1 (i := 20) rfl, (List.forall_mem_cons.mpr ⟨wrr_wsX3_findBeat_wsX3_findBeat_r1 (i := 21) rfl, (List.forall_mem_cons.mpr ⟨wrr_wsX3_findBeat_wsX3_findBeat_r1 (i := 10) rfl, (List.forall_mem_cons.mpr ⟨wrr_wsX3_findBeat_wsX3_findBeat_r1 (i := 11) rfl, (List.forall_mem_cons.mpr ⟨wrr_wsX3_findBeat_wsX3_findBeat_r1 (i := 12) rfl, (List.forall_mem_cons.mpr ⟨wrr_wsX3_findBeat_wsX3_findBeat_r1 (i := 13) rfl, (List.forall_mem_cons.mpr ⟨wrr_wsX3_findBeat_wsX3_findBeat_r1 (i := 22) rfl, (List.forall_mem_cons.mpr ⟨wrr_wsX3_findBeat_wsX3_findBeat_r1 (i := 23) rfl, (List.forall_mem_cons.mpr ⟨wrr_wsX3_findBeat_wsX3_findBeat_r2 (i := 0) rfl, (List.forall_mem_cons.mpr ⟨wrr_wsX3_findBeat_wsX3_findBeat_r2 (i := 1) rfl, (List.forall_mem_cons.mpr ⟨wrr_wsX3_findBeat_wsX3_findBeat_r2 (i := 2) rfl, (List.forall_mem_cons.mpr ⟨wrr_wsX3_findBeat_wsX3_findBeat_r2 (i := 3) rfl, (List.forall_mem_cons.mpr ⟨wrr_wsX3_findBeat_wsX3_findBeat_r2 (i := 4) rfl, (fun _ h => absurd h List.not_mem_nil)⟩)⟩)⟩)⟩)⟩)⟩)⟩)⟩)⟩)⟩)⟩)⟩)⟩)⟩)⟩)⟩)⟩)⟩)⟩)⟩)⟩)⟩), wru_wsX3_findBeat_wsX30⟩)⟩) gw_wsX3_pass
set_option maxRecDepth 20000 in
theorem gX3_findBeat_X3_pass : GoodIn wsX3_findBeat (wsV RX3 112 RX3 yX3_pass wsX3_pass) := goodIn_app (goodIn_sub (List.forall_mem_cons.mpr ⟨wrr_wsX3_findBeat_wsX3_findBeat_r3 (i := 7) rfl, (List.forall_mem_cons.mpr ⟨wrr_wsX3_findBeat_wsX3_findBeat_r3 (i := 8) rfl, (List.forall_mem_cons.mpr ⟨wrr_wsX3_findBeat_wsX3_findBeat_r3 (i := 9) rfl, (List.forall_mem_cons.mpr ⟨wrr_wsX3_findBeat_wsX3_findBeat_r1 (i := 8) rfl, (fun _ h => absurd h List.not_mem_nil)⟩)⟩)⟩)⟩) (by decide +kernel)) ggX3_findBeat_X3_pass
theorem dX3_findBeat_0 : decode cX3_findBeat 0 = .ok (.aload_n 0, 1) := by decide +kernel
theorem dX3_findBeat_1 : decode cX3_findBeat 1 = .ok (.invokevirtual 99, 3) := by decide +kernel
theorem dX3_findBeat_4 : decode cX3_findBeat 4 = .ok (.istore_n 1, 1) := by decide +kernel
theorem dX3_findBeat_5 : decode cX3_findBeat 5 = .ok (.aload_n 0, 1) := by decide +kernel
theorem dX3_findBeat_6 : decode cX3_findBeat 6 = .ok (.iconst (-1), 1) := by decide +kernel
theorem dX3_findBeat_7 : decode cX3_findBeat 7 = .ok (.putfield 103, 3) := by decide +kernel
theorem dX3_findBeat_10 : decode cX3_findBeat 10 = .ok (.aload_n 0, 1) := by decide +kernel
theorem dX3_findBeat_11 : decode cX3_findBeat 11 = .ok (.iload_n 1, 1) := by decide +kernel
theorem dX3_findBeat_12 : decode cX3_findBeat 12 = .ok (.putfield 106, 3) := by decide +kernel
theorem dX3_findBeat_15 : decode cX3_findBeat 15 = .ok (.aload_n 0, 1) := by decide +kernel
theorem dX3_findBeat_16 : decode cX3_findBeat 16 = .ok (.getfield 24, 3) := by decide +kernel
theorem dX3_findBeat_19 : decode cX3_findBeat 19 = .ok (.iconst 0, 1) := by decide +kernel
theorem dX3_findBeat_20 : decode cX3_findBeat 20 = .ok (.invokestatic 59, 3) := by decide +kernel
theorem dX3_findBeat_23 : decode cX3_findBeat 23 = .ok (.aload_n 0, 1) := by decide +kernel
theorem dX3_findBeat_24 : decode cX3_findBeat 24 = .ok (.getfield 36, 3) := by decide +kernel
theorem dX3_findBeat_27 : decode cX3_findBeat 27 = .ok (.istore_n 2, 1) := by decide +kernel
theorem dX3_findBeat_28 : decode cX3_findBeat 28 = .ok (.iload_n 2, 1) := by decide +kernel
theorem dX3_findBeat_29 : decode cX3_findBeat 29 = .ok (.bipush 80, 2) := by decide +kernel
theorem dX3_findBeat_31 : decode cX3_findBeat 31 = .ok (.if_icmp .ge 59, 3) := by decide +kernel
theorem dX3_findBeat_34 : decode cX3_findBeat 34 = .ok (.iload_n 2, 1) := by decide +kernel
theorem dX3_findBeat_35 : decode cX3_findBeat 35 = .ok (.aload_n 0, 1) := by decide +kernel
theorem dX3_findBeat_36 : decode cX3_findBeat 36 = .ok (.getfield 36, 3) := by decide +kernel
theorem dX3_findBeat_39 : decode cX3_findBeat 39 = .ok (.isub, 1) := by decide +kernel
theorem dX3_findBeat_40 : decode cX3_findBeat 40 = .ok (.istore_n 3, 1) := by decide +kernel
theorem dX3_findBeat_41 : decode cX3_findBeat 41 = .ok (.aload_n 0, 1) := by decide +kernel
theorem dX3_findBeat_42 : decode cX3_findBeat 42 = .ok (.getfield 18, 3) := by decide +kernel
theorem dX3_findBeat_45 : decode cX3_findBeat 45 = .ok (.iload_n 3, 1) := by decide +kernel
theorem dX3_findBeat_46 : decode cX3_findBeat 46 = .ok (.iaload, 1) := by decide +kernel
theorem dX3_findBeat_47 : decode cX3_findBeat 47 = .ok (.iconst (-1), 1) := by decide +kernel
theorem dX3_findBeat_48 : decode cX3_findBeat 48 = .ok (.if_icmp .eq 36, 3) := by decide +kernel
theorem dX3_findBeat_51 : decode cX3_findBeat 51 = .ok (.aload_n 0, 1) := by decide +kernel
theorem dX3_findBeat_52 : decode cX3_findBeat 52 = .ok (.iload_n 3, 1) := by decide +kernel
theorem dX3_findBeat_53 : decode cX3_findBeat 53 = .ok (.iload_n 1, 1) := by decide +kernel
theorem dX3_findBeat_54 : decode cX3_findBeat 54 = .ok (.invokevirtual 109, 3) := by decide +kernel
theorem dX3_findBeat_57 : decode cX3_findBeat 57 = .ok (.istore 4, 2) := by decide +kernel
theorem dX3_findBeat_59 : decode cX3_findBeat 59 = .ok (.iload 4, 2) := by decide +kernel
theorem dX3_findBeat_61 : decode cX3_findBeat 61 = .ok (.aload_n 0, 1) := by decide +kernel
theorem dX3_findBeat_62 : decode cX3_findBeat 62 = .ok (.getfield 106, 3) := by decide +kernel
theorem dX3_findBeat_65 : decode cX3_findBeat 65 = .ok (.if_icmp .ge 14, 3) := by decide +kernel
theorem dX3_findBeat_68 : decode cX3_findBeat 68 = .ok (.aload_n 0, 1) := by decide +kernel
theorem dX3_findBeat_69 : decode cX3_findBeat 69 = .ok (.iload 4, 2) := by decide +kernel
theorem dX3_findBeat_71 : decode cX3_findBeat 71 = .ok (.putfield 106, 3) := by decide +kernel
theorem dX3_findBeat_74 : decode cX3_findBeat 74 = .ok (.aload_n 0, 1) := by decide +kernel
theorem dX3_findBeat_75 : decode cX3_findBeat 75 = .ok (.iload_n 2, 1) := by decide +kernel
theorem dX3_findBeat_76 : decode cX3_findBeat 76 = .ok (.putfield 103, 3) := by decide +kernel
theorem dX3_findBeat_79 : decode cX3_findBeat 79 = .ok (.aload_n 0, 1) := by decide +kernel
theorem dX3_findBeat_80 : decode cX3_findBeat 80 = .ok (.iload_n 3, 1) := by decide +kernel
theorem dX3_findBeat_81 : decode cX3_findBeat 81 = .ok (.invokevirtual 112, 3) := by decide +kernel
theorem dX3_findBeat_84 : decode cX3_findBeat 84 = .ok (.iinc 2 1, 3) := by decide +kernel
theorem dX3_findBeat_87 : decode cX3_findBeat 87 = .ok (.goto (-59), 3) := by decide +kernel
theorem dX3_findBeat_90 : decode cX3_findBeat 90 = .ok (.return_, 1) := by decide +kernel
theorem wrr_wsX3_mostAlike {i : Nat} {w : Cond} (h : wsX3_mostAlike[i]? = some w) : w ∈ wsX3_mostAlike := List.mem_of_getElem? h
theorem wrr_wsX3_mostAlike_wsX3_mostAlike_r1 {i : Nat} {w : Cond} (h : wsX3_mostAlike_r1[i]? = some w) : w ∈ wsX3_mostAlike := (List.mem_cons_of_mem _ (List.mem_append_left _ (List.mem_append_left _ (List.mem_of_getElem? h))))
theorem wrr_wsX3_mostAlike_wsX3_mostAlike_r2 {i : Nat} {w : Cond} (h : wsX3_mostAlike_r2[i]? = some w) : w ∈ wsX3_mostAlike := (List.mem_cons_of_mem _ (List.mem_append_left _ (List.mem_append_right _ (List.mem_of_getElem? h))))
theorem wru_wsX3_mostAlike_wsX30 : ∀ w ∈ wsX30, w ∈ wsX3_mostAlike := fun w h => (List.mem_cons_of_mem _ (List.mem_append_right _ h))
set_option maxRecDepth 20000 in
theorem ggX3_mostAlike_J7_fill_53178 : GoodIn wsX3_mostAlike wsJ7_fill_53178 := goodIn_sub (List.forall_mem_cons.mpr ⟨wrr_wsX3_mostAlike_wsX3_mostAlike_r1 (i := 9) rfl, (fun _ h => absurd h List.not_mem_nil)⟩) gw_wsJ7_fill_53178
set_option maxRecDepth 20000 in
theorem gX3_mostAlike_J7_fill_53178 : GoodIn wsX3_mostAlike (va_wsS RX3 59 yJ7_fill_53178 wsJ7_fill_53178) := goodIn_app (goodIn_sub (List.forall_mem_cons.mpr ⟨wrr_wsX3_mostAlike_wsX3_mostAlike_r1 (i := 6) rfl, (List.forall_mem_cons.mpr ⟨wrr_wsX3_mostAlike_wsX3_mostAlike_r1 (i := 7) rfl, (List.forall_mem_cons.mpr ⟨wrr_wsX3_mostAlike_wsX3_mostAlike_r1 (i := 8) rfl, (fun _ h => absurd h List.not_mem_nil)⟩)⟩)⟩) (by decide +kernel)) ggX3_mostAlike_J7_fill_53178
set_option maxRecDepth 20000 in
theorem ggX3_mostAlike_X3_stepBack : GoodIn wsX3_mostAlike wsX3_stepBack := goodIn_sub (List.forall_mem_cons.mpr ⟨wrr_wsX3_mostAlike_wsX3_mostAlike_r1 (i := 14) rfl, (List.forall_mem_append.mpr ⟨(List.forall_mem_cons.mpr ⟨wrr_wsX3_mostAlike_wsX3_mostAlike_r1 (i := 15) rfl, (List.forall_mem_cons.mpr ⟨wrr_wsX3_mostAlike_wsX3_mostAlike_r1 (i := 16) rfl, (List.forall_mem_cons.mpr ⟨wrr_wsX3_mostAlike_wsX3_mostAlike_r1 (i := 17) rfl, (List.forall_mem_cons.mpr ⟨wrr_wsX3_mostAlike_wsX3_mostAlike_r1 (i := 18) rfl, (List.forall_mem_cons.mpr ⟨wrr_wsX3_mostAlike_wsX3_mostAlike_r1 (i := 19) rfl, (List.forall_mem_cons.mpr ⟨wrr_wsX3_mostAlike_wsX3_mostAlike_r1 (i := 20) rfl, (List.forall_mem_cons.mpr ⟨wrr_wsX3_mostAlike_wsX3_mostAlike_r1 (i := 21) rfl, (List.forall_mem_cons.mpr ⟨wrr_wsX3_mostAlike_wsX3_mostAlike_r1 (i := 22) rfl, (List.forall_mem_cons.mpr ⟨wrr_wsX3_mostAlike_wsX3_mostAlike_r1 (i := 4) rfl, (List.forall_mem_cons.mpr ⟨wrr_wsX3_mostAlike_wsX3_mostAlike_r2 (i := 0) rfl, (fun _ h => absurd h List.not_mem_nil)⟩)⟩)⟩)⟩)⟩)⟩)⟩)⟩)⟩)⟩), wru_wsX3_mostAlike_wsX30⟩)⟩) gw_wsX3_stepBack
set_option maxRecDepth 20000 in
theorem gX3_mostAlike_X3_stepBack : GoodIn wsX3_mostAlike (wsV RX3 75 RX3 yX3_stepBack wsX3_stepBack) := goodIn_app (goodIn_sub (List.forall_mem_cons.mpr ⟨wrr_wsX3_mostAlike_wsX3_mostAlike_r1 (i := 10) rfl, (List.forall_mem_cons.mpr ⟨wrr_wsX3_mostAlike_wsX3_mostAlike_r1 (i := 11) rfl, (List.forall_mem_cons.mpr ⟨wrr_wsX3_mostAlike_wsX3_mostAlike_r1 (i := 12) rfl, (List.forall_mem_cons.mpr ⟨wrr_wsX3_mostAlike_wsX3_mostAlike_r1 (i := 13) rfl, (fun _ h => absurd h List.not_mem_nil)⟩)⟩)⟩)⟩) (by decide +kernel)) ggX3_mostAlike_X3_stepBack
set_option maxRecDepth 20000 in
theorem ggX3_mostAlike_X3_stepsThatFit : GoodIn wsX3_mostAlike wsX3_stepsThatFit := goodIn_sub (List.forall_mem_cons.mpr ⟨wrr_wsX3_mostAlike_wsX3_mostAlike_r2 (i := 4) rfl, (List.forall_mem_append.mpr ⟨(List.forall_mem_cons.mpr ⟨wrr_wsX3_mostAlike_wsX3_mostAlike_r1 (i := 16) rfl, (List.forall_mem_cons.mpr ⟨wrr_wsX3_mostAlike_wsX3_mostAlike_r2 (i := 5) rfl, (List.forall_mem_cons.mpr ⟨wrr_wsX3_mostAlike_wsX3_mostAlike_r2 (i := 6) rfl, (List.forall_mem_cons.mpr ⟨wrr_wsX3_mostAlike_wsX3_mostAlike_r2 (i := 7) rfl, (List.forall_mem_cons.mpr ⟨wrr_wsX3_mostAlike_wsX3_mostAlike_r2 (i := 8) rfl, (List.forall_mem_cons.mpr ⟨wrr_wsX3_mostAlike_wsX3_mostAlike_r2 (i := 9) rfl, (List.forall_mem_cons.mpr ⟨wrr_wsX3_mostAlike_wsX3_mostAlike_r2 (i := 10) rfl, (List.forall_mem_cons.mpr ⟨wrr_wsX3_mostAlike_wsX3_mostAlike_r2 (i := 11) rfl, (List.forall_mem_cons.mpr ⟨wrr_wsX3_mostAlike_wsX3_mostAlike_r1 (i := 13) rfl, (List.forall_mem_cons.mpr ⟨wrr_wsX3_mostAlike_wsX3_mostAlike_r2 (i := 12) rfl, (fun _ h => absurd h List.not_mem_nil)⟩)⟩)⟩)⟩)⟩)⟩)⟩)⟩)⟩)⟩), wru_wsX3_mostAlike_wsX30⟩)⟩) gw_wsX3_stepsThatFit
set_option maxRecDepth 20000 in
theorem gX3_mostAlike_X3_stepsThatFit : GoodIn wsX3_mostAlike (wsV RX3 90 RX3 yX3_stepsThatFit wsX3_stepsThatFit) := goodIn_app (goodIn_sub (List.forall_mem_cons.mpr ⟨wrr_wsX3_mostAlike_wsX3_mostAlike_r2 (i := 1) rfl, (List.forall_mem_cons.mpr ⟨wrr_wsX3_mostAlike_wsX3_mostAlike_r2 (i := 2) rfl, (List.forall_mem_cons.mpr ⟨wrr_wsX3_mostAlike_wsX3_mostAlike_r2 (i := 3) rfl, (List.forall_mem_cons.mpr ⟨wrr_wsX3_mostAlike_wsX3_mostAlike_r1 (i := 13) rfl, (fun _ h => absurd h List.not_mem_nil)⟩)⟩)⟩)⟩) (by decide +kernel)) ggX3_mostAlike_X3_stepsThatFit
set_option maxRecDepth 20000 in
theorem ggX3_mostAlike_J6_bitCount_0f7a4 : GoodIn wsX3_mostAlike wsJ6_bitCount_0f7a4 := goodIn_sub (List.forall_mem_cons.mpr ⟨wrr_wsX3_mostAlike_wsX3_mostAlike_r2 (i := 16) rfl, (List.forall_mem_cons.mpr ⟨wrr_wsX3_mostAlike_wsX3_mostAlike_r2 (i := 17) rfl, (List.forall_mem_cons.mpr ⟨wrr_wsX3_mostAlike_wsX3_mostAlike_r2 (i := 18) rfl, (List.forall_mem_cons.mpr ⟨wrr_wsX3_mostAlike_wsX3_mostAlike_r2 (i := 19) rfl, (fun _ h => absurd h List.not_mem_nil)⟩)⟩)⟩)⟩) gw_wsJ6_bitCount_0f7a4
set_option maxRecDepth 20000 in
theorem gX3_mostAlike_J6_bitCount_0f7a4 : GoodIn wsX3_mostAlike (va_wsS RX3 93 yJ6_bitCount_0f7a4 wsJ6_bitCount_0f7a4) := goodIn_app (goodIn_sub (List.forall_mem_cons.mpr ⟨wrr_wsX3_mostAlike_wsX3_mostAlike_r2 (i := 13) rfl, (List.forall_mem_cons.mpr ⟨wrr_wsX3_mostAlike_wsX3_mostAlike_r2 (i := 14) rfl, (List.forall_mem_cons.mpr ⟨wrr_wsX3_mostAlike_wsX3_mostAlike_r2 (i := 15) rfl, (fun _ h => absurd h List.not_mem_nil)⟩)⟩)⟩) (by decide +kernel)) ggX3_mostAlike_J6_bitCount_0f7a4
theorem dX3_mostAlike_0 : decode cX3_mostAlike 0 = .ok (.aload_n 0, 1) := by decide +kernel
theorem dX3_mostAlike_1 : decode cX3_mostAlike 1 = .ok (.getfield 27, 3) := by decide +kernel
theorem dX3_mostAlike_4 : decode cX3_mostAlike 4 = .ok (.iconst 0, 1) := by decide +kernel
theorem dX3_mostAlike_5 : decode cX3_mostAlike 5 = .ok (.invokestatic 59, 3) := by decide +kernel
theorem dX3_mostAlike_8 : decode cX3_mostAlike 8 = .ok (.iload_n 2, 1) := by decide +kernel
theorem dX3_mostAlike_9 : decode cX3_mostAlike 9 = .ok (.istore_n 3, 1) := by decide +kernel
theorem dX3_mostAlike_10 : decode cX3_mostAlike 10 = .ok (.iconst 0, 1) := by decide +kernel
theorem dX3_mostAlike_11 : decode cX3_mostAlike 11 = .ok (.istore 4, 2) := by decide +kernel
theorem dX3_mostAlike_13 : decode cX3_mostAlike 13 = .ok (.iload 4, 2) := by decide +kernel
theorem dX3_mostAlike_15 : decode cX3_mostAlike 15 = .ok (.bipush 10, 2) := by decide +kernel
theorem dX3_mostAlike_17 : decode cX3_mostAlike 17 = .ok (.if_icmp .ge 101, 3) := by decide +kernel
theorem dX3_mostAlike_20 : decode cX3_mostAlike 20 = .ok (.aload_n 0, 1) := by decide +kernel
theorem dX3_mostAlike_21 : decode cX3_mostAlike 21 = .ok (.getfield 27, 3) := by decide +kernel
theorem dX3_mostAlike_24 : decode cX3_mostAlike 24 = .ok (.aload_n 0, 1) := by decide +kernel
theorem dX3_mostAlike_25 : decode cX3_mostAlike 25 = .ok (.iload_n 1, 1) := by decide +kernel
theorem dX3_mostAlike_26 : decode cX3_mostAlike 26 = .ok (.iload 4, 2) := by decide +kernel
theorem dX3_mostAlike_28 : decode cX3_mostAlike 28 = .ok (.invokevirtual 75, 3) := by decide +kernel
theorem dX3_mostAlike_31 : decode cX3_mostAlike 31 = .ok (.dup2, 1) := by decide +kernel
theorem dX3_mostAlike_32 : decode cX3_mostAlike 32 = .ok (.iaload, 1) := by decide +kernel
theorem dX3_mostAlike_33 : decode cX3_mostAlike 33 = .ok (.aload_n 0, 1) := by decide +kernel
theorem dX3_mostAlike_34 : decode cX3_mostAlike 34 = .ok (.getfield 24, 3) := by decide +kernel
theorem dX3_mostAlike_37 : decode cX3_mostAlike 37 = .ok (.iload 4, 2) := by decide +kernel
theorem dX3_mostAlike_39 : decode cX3_mostAlike 39 = .ok (.iaload, 1) := by decide +kernel
theorem dX3_mostAlike_40 : decode cX3_mostAlike 40 = .ok (.iadd, 1) := by decide +kernel
theorem dX3_mostAlike_41 : decode cX3_mostAlike 41 = .ok (.iastore, 1) := by decide +kernel
theorem dX3_mostAlike_42 : decode cX3_mostAlike 42 = .ok (.iload_n 3, 1) := by decide +kernel
theorem dX3_mostAlike_43 : decode cX3_mostAlike 43 = .ok (.aload_n 0, 1) := by decide +kernel
theorem dX3_mostAlike_44 : decode cX3_mostAlike 44 = .ok (.getfield 24, 3) := by decide +kernel
theorem dX3_mostAlike_47 : decode cX3_mostAlike 47 = .ok (.iload 4, 2) := by decide +kernel
theorem dX3_mostAlike_49 : decode cX3_mostAlike 49 = .ok (.iaload, 1) := by decide +kernel
theorem dX3_mostAlike_50 : decode cX3_mostAlike 50 = .ok (.isub, 1) := by decide +kernel
theorem dX3_mostAlike_51 : decode cX3_mostAlike 51 = .ok (.istore_n 3, 1) := by decide +kernel
theorem dX3_mostAlike_52 : decode cX3_mostAlike 52 = .ok (.iload_n 1, 1) := by decide +kernel
theorem dX3_mostAlike_53 : decode cX3_mostAlike 53 = .ok (.bipush 60, 2) := by decide +kernel
theorem dX3_mostAlike_55 : decode cX3_mostAlike 55 = .ok (.if_icmp .ge 13, 3) := by decide +kernel
theorem dX3_mostAlike_58 : decode cX3_mostAlike 58 = .ok (.aload_n 0, 1) := by decide +kernel
theorem dX3_mostAlike_59 : decode cX3_mostAlike 59 = .ok (.iload_n 1, 1) := by decide +kernel
theorem dX3_mostAlike_60 : decode cX3_mostAlike 60 = .ok (.iload 4, 2) := by decide +kernel
theorem dX3_mostAlike_62 : decode cX3_mostAlike 62 = .ok (.invokevirtual 90, 3) := by decide +kernel
theorem dX3_mostAlike_65 : decode cX3_mostAlike 65 = .ok (.goto 4, 3) := by decide +kernel
theorem dX3_mostAlike_68 : decode cX3_mostAlike 68 = .ok (.iconst 0, 1) := by decide +kernel
theorem dX3_mostAlike_69 : decode cX3_mostAlike 69 = .ok (.istore 5, 2) := by decide +kernel
theorem dX3_mostAlike_71 : decode cX3_mostAlike 71 = .ok (.iconst 0, 1) := by decide +kernel
theorem dX3_mostAlike_72 : decode cX3_mostAlike 72 = .ok (.istore 6, 2) := by decide +kernel
theorem dX3_mostAlike_74 : decode cX3_mostAlike 74 = .ok (.iload 6, 2) := by decide +kernel
theorem dX3_mostAlike_76 : decode cX3_mostAlike 76 = .ok (.bipush 6, 2) := by decide +kernel
theorem dX3_mostAlike_78 : decode cX3_mostAlike 78 = .ok (.if_icmp .ge 26, 3) := by decide +kernel
theorem dX3_mostAlike_81 : decode cX3_mostAlike 81 = .ok (.aload_n 0, 1) := by decide +kernel
theorem dX3_mostAlike_82 : decode cX3_mostAlike 82 = .ok (.getfield 27, 3) := by decide +kernel
theorem dX3_mostAlike_85 : decode cX3_mostAlike 85 = .ok (.iload 6, 2) := by decide +kernel
theorem dX3_mostAlike_87 : decode cX3_mostAlike 87 = .ok (.dup2, 1) := by decide +kernel
theorem dX3_mostAlike_88 : decode cX3_mostAlike 88 = .ok (.iaload, 1) := by decide +kernel
theorem dX3_mostAlike_89 : decode cX3_mostAlike 89 = .ok (.iload 5, 2) := by decide +kernel
theorem dX3_mostAlike_91 : decode cX3_mostAlike 91 = .ok (.iload 6, 2) := by decide +kernel
theorem dX3_mostAlike_93 : decode cX3_mostAlike 93 = .ok (.ishr, 1) := by decide +kernel
theorem dX3_mostAlike_94 : decode cX3_mostAlike 94 = .ok (.iconst 1, 1) := by decide +kernel
theorem dX3_mostAlike_95 : decode cX3_mostAlike 95 = .ok (.iand, 1) := by decide +kernel
theorem dX3_mostAlike_96 : decode cX3_mostAlike 96 = .ok (.iadd, 1) := by decide +kernel
theorem dX3_mostAlike_97 : decode cX3_mostAlike 97 = .ok (.iastore, 1) := by decide +kernel
theorem dX3_mostAlike_98 : decode cX3_mostAlike 98 = .ok (.iinc 6 1, 3) := by decide +kernel
theorem dX3_mostAlike_101 : decode cX3_mostAlike 101 = .ok (.goto (-27), 3) := by decide +kernel
theorem dX3_mostAlike_104 : decode cX3_mostAlike 104 = .ok (.iload_n 3, 1) := by decide +kernel
theorem dX3_mostAlike_105 : decode cX3_mostAlike 105 = .ok (.iload 5, 2) := by decide +kernel
theorem dX3_mostAlike_107 : decode cX3_mostAlike 107 = .ok (.invokestatic 93, 3) := by decide +kernel
theorem dX3_mostAlike_110 : decode cX3_mostAlike 110 = .ok (.isub, 1) := by decide +kernel
theorem dX3_mostAlike_111 : decode cX3_mostAlike 111 = .ok (.istore_n 3, 1) := by decide +kernel
theorem dX3_mostAlike_112 : decode cX3_mostAlike 112 = .ok (.iinc 4 1, 3) := by decide +kernel
theorem dX3_mostAlike_115 : decode cX3_mostAlike 115 = .ok (.goto (-102), 3) := by decide +kernel
theorem dX3_mostAlike_118 : decode cX3_mostAlike 118 = .ok (.aload_n 0, 1) := by decide +kernel
theorem dX3_mostAlike_119 : decode cX3_mostAlike 119 = .ok (.getfield 27, 3) := by decide +kernel
theorem dX3_mostAlike_122 : decode cX3_mostAlike 122 = .ok (.aload_n 0, 1) := by decide +kernel
theorem dX3_mostAlike_123 : decode cX3_mostAlike 123 = .ok (.iload_n 1, 1) := by decide +kernel
theorem dX3_mostAlike_124 : decode cX3_mostAlike 124 = .ok (.iconst 0, 1) := by decide +kernel
theorem dX3_mostAlike_125 : decode cX3_mostAlike 125 = .ok (.invokevirtual 75, 3) := by decide +kernel
theorem dX3_mostAlike_128 : decode cX3_mostAlike 128 = .ok (.dup2, 1) := by decide +kernel
theorem dX3_mostAlike_129 : decode cX3_mostAlike 129 = .ok (.iaload, 1) := by decide +kernel
theorem dX3_mostAlike_130 : decode cX3_mostAlike 130 = .ok (.iload_n 3, 1) := by decide +kernel
theorem dX3_mostAlike_131 : decode cX3_mostAlike 131 = .ok (.iadd, 1) := by decide +kernel
theorem dX3_mostAlike_132 : decode cX3_mostAlike 132 = .ok (.iastore, 1) := by decide +kernel
theorem dX3_mostAlike_133 : decode cX3_mostAlike 133 = .ok (.iconst 0, 1) := by decide +kernel
theorem dX3_mostAlike_134 : decode cX3_mostAlike 134 = .ok (.istore 4, 2) := by decide +kernel
theorem dX3_mostAlike_136 : decode cX3_mostAlike 136 = .ok (.iconst 0, 1) := by decide +kernel
theorem dX3_mostAlike_137 : decode cX3_mostAlike 137 = .ok (.istore 5, 2) := by decide +kernel
theorem dX3_mostAlike_139 : decode cX3_mostAlike 139 = .ok (.iload 5, 2) := by decide +kernel
theorem dX3_mostAlike_141 : decode cX3_mostAlike 141 = .ok (.bipush 6, 2) := by decide +kernel
theorem dX3_mostAlike_143 : decode cX3_mostAlike 143 = .ok (.if_icmp .ge 23, 3) := by decide +kernel
theorem dX3_mostAlike_146 : decode cX3_mostAlike 146 = .ok (.iload 4, 2) := by decide +kernel
theorem dX3_mostAlike_148 : decode cX3_mostAlike 148 = .ok (.aload_n 0, 1) := by decide +kernel
theorem dX3_mostAlike_149 : decode cX3_mostAlike 149 = .ok (.getfield 27, 3) := by decide +kernel
theorem dX3_mostAlike_152 : decode cX3_mostAlike 152 = .ok (.iload 5, 2) := by decide +kernel
theorem dX3_mostAlike_154 : decode cX3_mostAlike 154 = .ok (.iaload, 1) := by decide +kernel
theorem dX3_mostAlike_155 : decode cX3_mostAlike 155 = .ok (.invokestatic 83, 3) := by decide +kernel
theorem dX3_mostAlike_158 : decode cX3_mostAlike 158 = .ok (.istore 4, 2) := by decide +kernel
theorem dX3_mostAlike_160 : decode cX3_mostAlike 160 = .ok (.iinc 5 1, 3) := by decide +kernel
theorem dX3_mostAlike_163 : decode cX3_mostAlike 163 = .ok (.goto (-24), 3) := by decide +kernel
theorem dX3_mostAlike_166 : decode cX3_mostAlike 166 = .ok (.iload 4, 2) := by decide +kernel
theorem dX3_mostAlike_168 : decode cX3_mostAlike 168 = .ok (.ireturn, 1) := by decide +kernel
theorem wrr_wsX3_pass {i : Nat} {w : Cond} (h : wsX3_pass[i]? = some w) : w ∈ wsX3_pass := List.mem_of_getElem? h
theorem wru_wsX3_pass_wsX30 : ∀ w ∈ wsX30, w ∈ wsX3_pass := fun w h => (List.mem_cons_of_mem _ (List.mem_append_right _ h))
set_option maxRecDepth 20000 in
theorem ggX3_pass_X3_stepsThatFit : GoodIn wsX3_pass wsX3_stepsThatFit := goodIn_sub (List.forall_mem_cons.mpr ⟨wrr_wsX3_pass (i := 6) rfl, (List.forall_mem_append.mpr ⟨(List.forall_mem_cons.mpr ⟨wrr_wsX3_pass (i := 7) rfl, (List.forall_mem_cons.mpr ⟨wrr_wsX3_pass (i := 8) rfl, (List.forall_mem_cons.mpr ⟨wrr_wsX3_pass (i := 9) rfl, (List.forall_mem_cons.mpr ⟨wrr_wsX3_pass (i := 10) rfl, (List.forall_mem_cons.mpr ⟨wrr_wsX3_pass (i := 11) rfl, (List.forall_mem_cons.mpr ⟨wrr_wsX3_pass (i := 12) rfl, (List.forall_mem_cons.mpr ⟨wrr_wsX3_pass (i := 13) rfl, (List.forall_mem_cons.mpr ⟨wrr_wsX3_pass (i := 14) rfl, (List.forall_mem_cons.mpr ⟨wrr_wsX3_pass (i := 5) rfl, (List.forall_mem_cons.mpr ⟨wrr_wsX3_pass (i := 15) rfl, (fun _ h => absurd h List.not_mem_nil)⟩)⟩)⟩)⟩)⟩)⟩)⟩)⟩)⟩)⟩), wru_wsX3_pass_wsX30⟩)⟩) gw_wsX3_stepsThatFit
set_option maxRecDepth 20000 in
theorem gX3_pass_X3_stepsThatFit : GoodIn wsX3_pass (wsV RX3 90 RX3 yX3_stepsThatFit wsX3_stepsThatFit) := goodIn_app (goodIn_sub (List.forall_mem_cons.mpr ⟨wrr_wsX3_pass (i := 2) rfl, (List.forall_mem_cons.mpr ⟨wrr_wsX3_pass (i := 3) rfl, (List.forall_mem_cons.mpr ⟨wrr_wsX3_pass (i := 4) rfl, (List.forall_mem_cons.mpr ⟨wrr_wsX3_pass (i := 5) rfl, (fun _ h => absurd h List.not_mem_nil)⟩)⟩)⟩)⟩) (by decide +kernel)) ggX3_pass_X3_stepsThatFit
set_option maxRecDepth 20000 in
theorem ggX3_pass_J6_bitCount_0f7a4 : GoodIn wsX3_pass wsJ6_bitCount_0f7a4 := goodIn_sub (List.forall_mem_cons.mpr ⟨wrr_wsX3_pass (i := 19) rfl, (List.forall_mem_cons.mpr ⟨wrr_wsX3_pass (i := 20) rfl, (List.forall_mem_cons.mpr ⟨wrr_wsX3_pass (i := 21) rfl, (List.forall_mem_cons.mpr ⟨wrr_wsX3_pass (i := 22) rfl, (fun _ h => absurd h List.not_mem_nil)⟩)⟩)⟩)⟩) gw_wsJ6_bitCount_0f7a4
set_option maxRecDepth 20000 in
theorem gX3_pass_J6_bitCount_0f7a4 : GoodIn wsX3_pass (va_wsS RX3 93 yJ6_bitCount_0f7a4 wsJ6_bitCount_0f7a4) := goodIn_app (goodIn_sub (List.forall_mem_cons.mpr ⟨wrr_wsX3_pass (i := 16) rfl, (List.forall_mem_cons.mpr ⟨wrr_wsX3_pass (i := 17) rfl, (List.forall_mem_cons.mpr ⟨wrr_wsX3_pass (i := 18) rfl, (fun _ h => absurd h List.not_mem_nil)⟩)⟩)⟩) (by decide +kernel)) ggX3_pass_J6_bitCount_0f7a4
theorem dX3_pass_0 : decode cX3_pass 0 = .ok (.iconst 0, 1) := by decide +kernel
theorem dX3_pass_1 : decode cX3_pass 1 = .ok (.istore_n 2, 1) := by decide +kernel
theorem dX3_pass_2 : decode cX3_pass 2 = .ok (.iload_n 2, 1) := by decide +kernel
theorem dX3_pass_3 : decode cX3_pass 3 = .ok (.bipush 10, 2) := by decide +kernel
theorem dX3_pass_5 : decode cX3_pass 5 = .ok (.if_icmp .ge 33, 3) := by decide +kernel
theorem dX3_pass_8 : decode cX3_pass 8 = .ok (.iload_n 1, 1) := by decide +kernel
theorem dX3_pass_9 : decode cX3_pass 9 = .ok (.bipush 60, 2) := by decide +kernel
theorem dX3_pass_11 : decode cX3_pass 11 = .ok (.if_icmp .ge 27, 3) := by decide +kernel
theorem dX3_pass_14 : decode cX3_pass 14 = .ok (.aload_n 0, 1) := by decide +kernel
theorem dX3_pass_15 : decode cX3_pass 15 = .ok (.getfield 24, 3) := by decide +kernel
theorem dX3_pass_18 : decode cX3_pass 18 = .ok (.iload_n 2, 1) := by decide +kernel
theorem dX3_pass_19 : decode cX3_pass 19 = .ok (.dup2, 1) := by decide +kernel
theorem dX3_pass_20 : decode cX3_pass 20 = .ok (.iaload, 1) := by decide +kernel
theorem dX3_pass_21 : decode cX3_pass 21 = .ok (.aload_n 0, 1) := by decide +kernel
theorem dX3_pass_22 : decode cX3_pass 22 = .ok (.iload_n 1, 1) := by decide +kernel
theorem dX3_pass_23 : decode cX3_pass 23 = .ok (.iload_n 2, 1) := by decide +kernel
theorem dX3_pass_24 : decode cX3_pass 24 = .ok (.invokevirtual 90, 3) := by decide +kernel
theorem dX3_pass_27 : decode cX3_pass 27 = .ok (.invokestatic 93, 3) := by decide +kernel
theorem dX3_pass_30 : decode cX3_pass 30 = .ok (.iadd, 1) := by decide +kernel
theorem dX3_pass_31 : decode cX3_pass 31 = .ok (.iastore, 1) := by decide +kernel
theorem dX3_pass_32 : decode cX3_pass 32 = .ok (.iinc 2 1, 3) := by decide +kernel
theorem dX3_pass_35 : decode cX3_pass 35 = .ok (.goto (-33), 3) := by decide +kernel
theorem dX3_pass_38 : decode cX3_pass 38 = .ok (.return_, 1) := by decide +kernel
theorem dX3_fitsWithout_0 : decode cX3_fitsWithout 0 = .ok (.aload_n 0, 1) := by decide +kernel
theorem dX3_fitsWithout_1 : decode cX3_fitsWithout 1 = .ok (.getfield 52, 3) := by decide +kernel
theorem dX3_fitsWithout_4 : decode cX3_fitsWithout 4 = .ok (.ifCond .ne 17, 3) := by decide +kernel
theorem dX3_fitsWithout_7 : decode cX3_fitsWithout 7 = .ok (.aload_n 0, 1) := by decide +kernel
theorem dX3_fitsWithout_8 : decode cX3_fitsWithout 8 = .ok (.getfield 56, 3) := by decide +kernel
theorem dX3_fitsWithout_11 : decode cX3_fitsWithout 11 = .ok (.sipush 200, 3) := by decide +kernel
theorem dX3_fitsWithout_14 : decode cX3_fitsWithout 14 = .ok (.if_icmp .ne 7, 3) := by decide +kernel
theorem dX3_fitsWithout_17 : decode cX3_fitsWithout 17 = .ok (.iconst 1, 1) := by decide +kernel
theorem dX3_fitsWithout_18 : decode cX3_fitsWithout 18 = .ok (.goto 4, 3) := by decide +kernel
theorem dX3_fitsWithout_21 : decode cX3_fitsWithout 21 = .ok (.iconst 0, 1) := by decide +kernel
theorem dX3_fitsWithout_22 : decode cX3_fitsWithout 22 = .ok (.ireturn, 1) := by decide +kernel
theorem wrr_wsX3_stepsThatFit {i : Nat} {w : Cond} (h : wsX3_stepsThatFit[i]? = some w) : w ∈ wsX3_stepsThatFit := List.mem_of_getElem? h
theorem wru_wsX3_stepsThatFit_wsX30 : ∀ w ∈ wsX30, w ∈ wsX3_stepsThatFit := fun w h => (List.mem_cons_of_mem _ (List.mem_append_right _ h))
set_option maxRecDepth 20000 in
theorem ggX3_stepsThatFit_X3_fitsWithout : GoodIn wsX3_stepsThatFit wsX3_fitsWithout := goodIn_sub (List.forall_mem_cons.mpr ⟨wrr_wsX3_stepsThatFit (i := 10) rfl, (List.forall_mem_append.mpr ⟨(List.forall_mem_cons.mpr ⟨wrr_wsX3_stepsThatFit (i := 2) rfl, (List.forall_mem_cons.mpr ⟨wrr_wsX3_stepsThatFit (i := 3) rfl, (fun _ h => absurd h List.not_mem_nil)⟩)⟩), wru_wsX3_stepsThatFit_wsX30⟩)⟩) gw_wsX3_fitsWithout
set_option maxRecDepth 20000 in
theorem gX3_stepsThatFit_X3_fitsWithout : GoodIn wsX3_stepsThatFit (wsV RX3 86 RX3 yX3_fitsWithout wsX3_fitsWithout) := goodIn_app (goodIn_sub (List.forall_mem_cons.mpr ⟨wrr_wsX3_stepsThatFit (i := 6) rfl, (List.forall_mem_cons.mpr ⟨wrr_wsX3_stepsThatFit (i := 7) rfl, (List.forall_mem_cons.mpr ⟨wrr_wsX3_stepsThatFit (i := 8) rfl, (List.forall_mem_cons.mpr ⟨wrr_wsX3_stepsThatFit (i := 9) rfl, (fun _ h => absurd h List.not_mem_nil)⟩)⟩)⟩)⟩) (by decide +kernel)) ggX3_stepsThatFit_X3_fitsWithout
theorem dX3_stepsThatFit_0 : decode cX3_stepsThatFit 0 = .ok (.aload_n 0, 1) := by decide +kernel
theorem dX3_stepsThatFit_1 : decode cX3_stepsThatFit 1 = .ok (.getfield 18, 3) := by decide +kernel
theorem dX3_stepsThatFit_4 : decode cX3_stepsThatFit 4 = .ok (.iload_n 1, 1) := by decide +kernel
theorem dX3_stepsThatFit_5 : decode cX3_stepsThatFit 5 = .ok (.iaload, 1) := by decide +kernel
theorem dX3_stepsThatFit_6 : decode cX3_stepsThatFit 6 = .ok (.iconst (-1), 1) := by decide +kernel
theorem dX3_stepsThatFit_7 : decode cX3_stepsThatFit 7 = .ok (.if_icmp .ne 17, 3) := by decide +kernel
theorem dX3_stepsThatFit_10 : decode cX3_stepsThatFit 10 = .ok (.aload_n 0, 1) := by decide +kernel
theorem dX3_stepsThatFit_11 : decode cX3_stepsThatFit 11 = .ok (.invokevirtual 86, 3) := by decide +kernel
theorem dX3_stepsThatFit_14 : decode cX3_stepsThatFit 14 = .ok (.ifCond .eq 8, 3) := by decide +kernel
theorem dX3_stepsThatFit_17 : decode cX3_stepsThatFit 17 = .ok (.bipush 63, 2) := by decide +kernel
theorem dX3_stepsThatFit_19 : decode cX3_stepsThatFit 19 = .ok (.goto 4, 3) := by decide +kernel
theorem dX3_stepsThatFit_22 : decode cX3_stepsThatFit 22 = .ok (.iconst 0, 1) := by decide +kernel
theorem dX3_stepsThatFit_23 : decode cX3_stepsThatFit 23 = .ok (.ireturn, 1) := by decide +kernel
theorem dX3_stepsThatFit_24 : decode cX3_stepsThatFit 24 = .ok (.aload_n 0, 1) := by decide +kernel
theorem dX3_stepsThatFit_25 : decode cX3_stepsThatFit 25 = .ok (.getfield 52, 3) := by decide +kernel
theorem dX3_stepsThatFit_28 : decode cX3_stepsThatFit 28 = .ok (.ifCond .ne 25, 3) := by decide +kernel
theorem dX3_stepsThatFit_31 : decode cX3_stepsThatFit 31 = .ok (.iload_n 1, 1) := by decide +kernel
theorem dX3_stepsThatFit_32 : decode cX3_stepsThatFit 32 = .ok (.aload_n 0, 1) := by decide +kernel
theorem dX3_stepsThatFit_33 : decode cX3_stepsThatFit 33 = .ok (.getfield 56, 3) := by decide +kernel
theorem dX3_stepsThatFit_36 : decode cX3_stepsThatFit 36 = .ok (.if_icmp .gt 17, 3) := by decide +kernel
theorem dX3_stepsThatFit_39 : decode cX3_stepsThatFit 39 = .ok (.iload_n 1, 1) := by decide +kernel
theorem dX3_stepsThatFit_40 : decode cX3_stepsThatFit 40 = .ok (.aload_n 0, 1) := by decide +kernel
theorem dX3_stepsThatFit_41 : decode cX3_stepsThatFit 41 = .ok (.getfield 15, 3) := by decide +kernel
theorem dX3_stepsThatFit_44 : decode cX3_stepsThatFit 44 = .ok (.iload_n 2, 1) := by decide +kernel
theorem dX3_stepsThatFit_45 : decode cX3_stepsThatFit 45 = .ok (.iaload, 1) := by decide +kernel
theorem dX3_stepsThatFit_46 : decode cX3_stepsThatFit 46 = .ok (.if_icmp .lt 7, 3) := by decide +kernel
theorem dX3_stepsThatFit_49 : decode cX3_stepsThatFit 49 = .ok (.iconst 1, 1) := by decide +kernel
theorem dX3_stepsThatFit_50 : decode cX3_stepsThatFit 50 = .ok (.goto 4, 3) := by decide +kernel
theorem dX3_stepsThatFit_53 : decode cX3_stepsThatFit 53 = .ok (.iconst 0, 1) := by decide +kernel
theorem dX3_stepsThatFit_54 : decode cX3_stepsThatFit 54 = .ok (.istore_n 3, 1) := by decide +kernel
theorem dX3_stepsThatFit_55 : decode cX3_stepsThatFit 55 = .ok (.iload_n 3, 1) := by decide +kernel
theorem dX3_stepsThatFit_56 : decode cX3_stepsThatFit 56 = .ok (.ifCond .eq 12, 3) := by decide +kernel
theorem dX3_stepsThatFit_59 : decode cX3_stepsThatFit 59 = .ok (.aload_n 0, 1) := by decide +kernel
theorem dX3_stepsThatFit_60 : decode cX3_stepsThatFit 60 = .ok (.getfield 21, 3) := by decide +kernel
theorem dX3_stepsThatFit_63 : decode cX3_stepsThatFit 63 = .ok (.iload_n 1, 1) := by decide +kernel
theorem dX3_stepsThatFit_64 : decode cX3_stepsThatFit 64 = .ok (.iaload, 1) := by decide +kernel
theorem dX3_stepsThatFit_65 : decode cX3_stepsThatFit 65 = .ok (.goto 4, 3) := by decide +kernel
theorem dX3_stepsThatFit_68 : decode cX3_stepsThatFit 68 = .ok (.iconst 0, 1) := by decide +kernel
theorem dX3_stepsThatFit_69 : decode cX3_stepsThatFit 69 = .ok (.ireturn, 1) := by decide +kernel
theorem wrr_wsX3_stepBack {i : Nat} {w : Cond} (h : wsX3_stepBack[i]? = some w) : w ∈ wsX3_stepBack := List.mem_of_getElem? h
theorem wru_wsX3_stepBack_wsX30 : ∀ w ∈ wsX30, w ∈ wsX3_stepBack := fun w h => (List.mem_cons_of_mem _ (List.mem_append_right _ h))
set_option maxRecDepth 20000 in
theorem ggX3_stepBack_X11_wrap : GoodIn wsX3_stepBack wsX11_wrap := goodIn_sub (List.forall_mem_cons.mpr ⟨wrr_wsX3_stepBack (i := 6) rfl, (List.forall_mem_cons.mpr ⟨wrr_wsX3_stepBack (i := 7) rfl, (List.forall_mem_cons.mpr ⟨wrr_wsX3_stepBack (i := 8) rfl, (List.forall_mem_cons.mpr ⟨wrr_wsX3_stepBack (i := 9) rfl, (List.forall_mem_cons.mpr ⟨wrr_wsX3_stepBack (i := 10) rfl, (fun _ h => absurd h List.not_mem_nil)⟩)⟩)⟩)⟩)⟩) gw_wsX11_wrap
set_option maxRecDepth 20000 in
theorem gX3_stepBack_X11_wrap_n71 : GoodIn wsX3_stepBack (wsX11_wrap) := ggX3_stepBack_X11_wrap
theorem dX3_stepBack_0 : decode cX3_stepBack 0 = .ok (.aload_n 0, 1) := by decide +kernel
theorem dX3_stepBack_1 : decode cX3_stepBack 1 = .ok (.getfield 9, 3) := by decide +kernel
theorem dX3_stepBack_4 : decode cX3_stepBack 4 = .ok (.aload_n 0, 1) := by decide +kernel
theorem dX3_stepBack_5 : decode cX3_stepBack 5 = .ok (.getfield 18, 3) := by decide +kernel
theorem dX3_stepBack_8 : decode cX3_stepBack 8 = .ok (.iload_n 1, 1) := by decide +kernel
theorem dX3_stepBack_9 : decode cX3_stepBack 9 = .ok (.iaload, 1) := by decide +kernel
theorem dX3_stepBack_10 : decode cX3_stepBack 10 = .ok (.iload_n 2, 1) := by decide +kernel
theorem dX3_stepBack_11 : decode cX3_stepBack 11 = .ok (.isub, 1) := by decide +kernel
theorem dX3_stepBack_12 : decode cX3_stepBack 12 = .ok (.aload_n 0, 1) := by decide +kernel
theorem dX3_stepBack_13 : decode cX3_stepBack 13 = .ok (.getfield 40, 3) := by decide +kernel
theorem dX3_stepBack_16 : decode cX3_stepBack 16 = .ok (.invokestatic 71, 3) := by decide +kernel
theorem dX3_stepBack_19 : decode cX3_stepBack 19 = .ok (.iaload, 1) := by decide +kernel
theorem dX3_stepBack_20 : decode cX3_stepBack 20 = .ok (.ireturn, 1) := by decide +kernel
