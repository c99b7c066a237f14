abbrev cX6_periodOf : ByteArray := prog_8_method_2_code
def yX6_periodOf : MethodName := ⟨RX6, "periodOf", "(LOverHill$Dance;)I"⟩
abbrev cX6_firstIn : ByteArray := prog_8_method_3_code
def yX6_firstIn : MethodName := ⟨RX6, "firstIn", "(LOverHill$Dance;III)I"⟩
abbrev cX6_holesShifted : ByteArray := prog_8_method_4_code
def yX6_holesShifted : MethodName := ⟨RX6, "holesShifted", "(LOverHill$Dance;I)I"⟩
abbrev cX6_leastShift : ByteArray := prog_8_method_5_code
def yX6_leastShift : MethodName := ⟨RX6, "leastShift", "(LOverHill$Dance;)I"⟩
abbrev cX6_findFits : ByteArray := prog_8_method_6_code
def yX6_findFits : MethodName := ⟨RX6, "findFits", "(LOverHill$Dance;I)V"⟩
abbrev cX6_firstStuck : ByteArray := prog_8_method_7_code
def yX6_firstStuck : MethodName := ⟨RX6, "firstStuck", "(LOverHill$Dance;I)I"⟩
abbrev cX6_fitting : ByteArray := prog_8_method_8_code
def yX6_fitting : MethodName := ⟨RX6, "fitting", "(LOverHill$Dance;II)I"⟩
abbrev cX6_countChanged : ByteArray := prog_8_method_9_code
def yX6_countChanged : MethodName := ⟨RX6, "countChanged", "(LOverHill$Dance;I)I"⟩
abbrev cX6_metBy : ByteArray := prog_8_method_10_code
def yX6_metBy : MethodName := ⟨RX6, "metBy", "(LOverHill$Dance;I)I"⟩
abbrev cX6_placeIn : ByteArray := prog_8_method_11_code
def yX6_placeIn : MethodName := ⟨RX6, "placeIn", "(LOverHill$Dance;II)I"⟩
abbrev cX6_stepIn : ByteArray := prog_8_method_12_code
def yX6_stepIn : MethodName := ⟨RX6, "stepIn", "(LOverHill$Dance;II)I"⟩
def wsX6_periodOf : List Cond := .code yX6_periodOf cX6_periodOf 1 (some .int) :: ([.fieldLink RX6 15 "OverHill$Dance" "lengths" "[I", .static yX11_commonMultiple, .initialized RX11, .code yX11_commonMultiple cX11_commonMultiple 6 (some .long), .methodLink RX11 347 yX11_commonDivisor, .static yX11_commonDivisor, .code yX11_commonDivisor cX11_commonDivisor 11 (some .long)] ++ wsX00)
def wsX6_placeIn : List Cond := .code yX6_placeIn cX6_placeIn 3 (some .int) :: ([.fieldLink RX6 75 "OverHill$Dance" "starts" "[I", .fieldLink RX6 15 "OverHill$Dance" "lengths" "[I", .static yX11_wrap, .initialized RX11, .code yX11_wrap cX11_wrap 2 (some .int), .methodLink RX11 451 yJ9_floorMod_7cf53, .static yJ9_floorMod_7cf53, .initialized RJ9, .code yJ9_floorMod_7cf53 cJ9_floorMod_7cf53 3 (some .int)] ++ wsX00)
def wsX6_firstIn : List Cond := .code yX6_firstIn cX6_firstIn 6 (some .int) :: ([.methodLink RX6 24 yX6_periodOf, .static yX6_periodOf, .initialized RX6, .code yX6_periodOf cX6_periodOf 1 (some .int), .fieldLink RX6 15 "OverHill$Dance" "lengths" "[I", .static yX11_commonMultiple, .initialized RX11, .code yX11_commonMultiple cX11_commonMultiple 6 (some .long), .methodLink RX11 347 yX11_commonDivisor, .static yX11_commonDivisor, .code yX11_commonDivisor cX11_commonDivisor 11 (some .long), .methodLink RX6 28 yX6_placeIn, .static yX6_placeIn, .code yX6_placeIn cX6_placeIn 3 (some .int), .fieldLink RX6 75 "OverHill$Dance" "starts" "[I", .static yX11_wrap, .code yX11_wrap cX11_wrap 2 (some .int), .methodLink RX11 451 yJ9_floorMod_7cf53, .static yJ9_floorMod_7cf53, .initialized RJ9, .code yJ9_floorMod_7cf53 cJ9_floorMod_7cf53 3 (some .int)] ++ wsX00)
def wsX6_stepIn : List Cond := .code yX6_stepIn cX6_stepIn 3 (some .int) :: ([.methodLink RX6 28 yX6_placeIn, .static yX6_placeIn, .initialized RX6, .code yX6_placeIn cX6_placeIn 3 (some .int), .fieldLink RX6 75 "OverHill$Dance" "starts" "[I", .fieldLink RX6 15 "OverHill$Dance" "lengths" "[I", .static yX11_wrap, .initialized RX11, .code yX11_wrap cX11_wrap 2 (some .int), .methodLink RX11 451 yJ9_floorMod_7cf53, .static yJ9_floorMod_7cf53, .initialized RJ9, .code yJ9_floorMod_7cf53 cJ9_floorMod_7cf53 3 (some .int), .methodLink RX6 59 yX0_stepAt, .instanceMethod yX0_stepAt, .selects RX0 yX0_stepAt yX0_stepAt, .initialized RX0, .code yX0_stepAt cX0_stepAt 3 (some .int), .fieldLink RX0 9 "OverHill$Dance" "steps" "[I"] ++ wsX00)
def wsX6_holesShifted_r1 : List Cond := [Cond.fieldLink RX6 32 "OverHill$Dance" "gap" "I", Cond.methodLink RX6 24 yX6_periodOf, Cond.static yX6_periodOf, Cond.initialized RX6, Cond.code yX6_periodOf cX6_periodOf 1 (some .int), Cond.fieldLink RX6 15 "OverHill$Dance" "lengths" "[I", Cond.static yX11_commonMultiple, Cond.initialized RX11, Cond.code yX11_commonMultiple cX11_commonMultiple 6 (some .long), Cond.methodLink RX11 347 yX11_commonDivisor, Cond.static yX11_commonDivisor, Cond.code yX11_commonDivisor cX11_commonDivisor 11 (some .long), Cond.methodLink RX6 36 yX6_stepIn, Cond.static yX6_stepIn, Cond.code yX6_stepIn cX6_stepIn 3 (some .int), Cond.methodLink RX6 28 yX6_placeIn, Cond.static yX6_placeIn, Cond.code yX6_placeIn cX6_placeIn 3 (some .int), Cond.fieldLink RX6 75 "OverHill$Dance" "starts" "[I", Cond.static yX11_wrap, Cond.code yX11_wrap cX11_wrap 2 (some .int), Cond.methodLink RX11 451 yJ9_floorMod_7cf53, Cond.static yJ9_floorMod_7cf53, Cond.initialized RJ9]
def wsX6_holesShifted_r2 : List Cond := [Cond.code yJ9_floorMod_7cf53 cJ9_floorMod_7cf53 3 (some .int), Cond.methodLink RX6 59 yX0_stepAt, Cond.instanceMethod yX0_stepAt, Cond.selects RX0 yX0_stepAt yX0_stepAt, Cond.initialized RX0, Cond.code yX0_stepAt cX0_stepAt 3 (some .int), Cond.fieldLink RX0 9 "OverHill$Dance" "steps" "[I", Cond.methodLink RX6 39 yX0_isHole, Cond.instanceMethod yX0_isHole, Cond.selects RX0 yX0_isHole yX0_isHole, Cond.code yX0_isHole cX0_isHole 3 (some .boolean), Cond.methodLink RX0 80 yX0_mayMeet, Cond.instanceMethod yX0_mayMeet, Cond.selects RX0 yX0_mayMeet yX0_mayMeet, Cond.code yX0_mayMeet cX0_mayMeet 3 (some .boolean), Cond.fieldLink RX0 21 "OverHill$Dance" "met" "[I"]
def wsX6_holesShifted : List Cond := .code yX6_holesShifted cX6_holesShifted 6 (some .int) :: ((wsX6_holesShifted_r1 ++ wsX6_holesShifted_r2) ++ wsX00)
def wsX6_leastShift_r1 : List Cond := [Cond.fieldLink RX6 15 "OverHill$Dance" "lengths" "[I", Cond.methodLink RX6 43 yX6_holesShifted, Cond.static yX6_holesShifted, Cond.initialized RX6, Cond.code yX6_holesShifted cX6_holesShifted 6 (some .int), Cond.fieldLink RX6 32 "OverHill$Dance" "gap" "I", Cond.methodLink RX6 24 yX6_periodOf, Cond.static yX6_periodOf, Cond.code yX6_periodOf cX6_periodOf 1 (some .int), Cond.static yX11_commonMultiple, Cond.initialized RX11, Cond.code yX11_commonMultiple cX11_commonMultiple 6 (some .long), Cond.methodLink RX11 347 yX11_commonDivisor, Cond.static yX11_commonDivisor, Cond.code yX11_commonDivisor cX11_commonDivisor 11 (some .long), Cond.methodLink RX6 36 yX6_stepIn, Cond.static yX6_stepIn, Cond.code yX6_stepIn cX6_stepIn 3 (some .int), Cond.methodLink RX6 28 yX6_placeIn, Cond.static yX6_placeIn, Cond.code yX6_placeIn cX6_placeIn 3 (some .int), Cond.fieldLink RX6 75 "OverHill$Dance" "starts" "[I", Cond.static yX11_wrap, Cond.code yX11_wrap cX11_wrap 2 (some .int)]
def wsX6_leastShift_r2 : List Cond := [Cond.methodLink RX11 451 yJ9_floorMod_7cf53, Cond.static yJ9_floorMod_7cf53, Cond.initialized RJ9, Cond.code yJ9_floorMod_7cf53 cJ9_floorMod_7cf53 3 (some .int), Cond.methodLink RX6 59 yX0_stepAt, Cond.instanceMethod yX0_stepAt, Cond.selects RX0 yX0_stepAt yX0_stepAt, Cond.initialized RX0, Cond.code yX0_stepAt cX0_stepAt 3 (some .int), Cond.fieldLink RX0 9 "OverHill$Dance" "steps" "[I", Cond.methodLink RX6 39 yX0_isHole, Cond.instanceMethod yX0_isHole, Cond.selects RX0 yX0_isHole yX0_isHole, Cond.code yX0_isHole cX0_isHole 3 (some .boolean), Cond.methodLink RX0 80 yX0_mayMeet, Cond.instanceMethod yX0_mayMeet, Cond.selects RX0 yX0_mayMeet yX0_mayMeet, Cond.code yX0_mayMeet cX0_mayMeet 3 (some .boolean), Cond.fieldLink RX0 21 "OverHill$Dance" "met" "[I"]
def wsX6_leastShift : List Cond := .code yX6_leastShift cX6_leastShift 5 (some .int) :: ((wsX6_leastShift_r1 ++ wsX6_leastShift_r2) ++ wsX00)
def wsX6_metBy : List Cond := .code yX6_metBy cX6_metBy 4 (some .int) :: ([.methodLink RX6 72 yX0_mayMeet, .instanceMethod yX0_mayMeet, .selects RX0 yX0_mayMeet yX0_mayMeet, .initialized RX0, .code yX0_mayMeet cX0_mayMeet 3 (some .boolean), .fieldLink RX0 21 "OverHill$Dance" "met" "[I"] ++ wsX00)
def wsX6_findFits_r1 : List Cond := [Cond.fieldLink RX6 9 "OverHill$Rounds" "fits" "[I", Cond.fieldLink RX6 32 "OverHill$Dance" "gap" "I", Cond.fieldLink RX6 56 "OverHill$Dance" "met" "[I", Cond.methodLink RX6 47 yJ7_fill_53178, Cond.static yJ7_fill_53178, Cond.initialized RJ7, Cond.code yJ7_fill_53178 cJ7_fill_53178 4 none, Cond.methodLink RX6 24 yX6_periodOf, Cond.static yX6_periodOf, Cond.initialized RX6, Cond.code yX6_periodOf cX6_periodOf 1 (some .int), Cond.fieldLink RX6 15 "OverHill$Dance" "lengths" "[I", Cond.static yX11_commonMultiple, Cond.initialized RX11, Cond.code yX11_commonMultiple cX11_commonMultiple 6 (some .long), Cond.methodLink RX11 347 yX11_commonDivisor, Cond.static yX11_commonDivisor, Cond.code yX11_commonDivisor cX11_commonDivisor 11 (some .long), Cond.methodLink RX6 36 yX6_stepIn, Cond.static yX6_stepIn, Cond.code yX6_stepIn cX6_stepIn 3 (some .int), Cond.methodLink RX6 28 yX6_placeIn, Cond.static yX6_placeIn, Cond.code yX6_placeIn cX6_placeIn 3 (some .int)]
def wsX6_findFits_r2 : List Cond := [Cond.fieldLink RX6 75 "OverHill$Dance" "starts" "[I", Cond.static yX11_wrap, Cond.code yX11_wrap cX11_wrap 2 (some .int), Cond.methodLink RX11 451 yJ9_floorMod_7cf53, Cond.static yJ9_floorMod_7cf53, Cond.initialized RJ9, Cond.code yJ9_floorMod_7cf53 cJ9_floorMod_7cf53 3 (some .int), Cond.methodLink RX6 59 yX0_stepAt, Cond.instanceMethod yX0_stepAt, Cond.selects RX0 yX0_stepAt yX0_stepAt, Cond.initialized RX0, Cond.code yX0_stepAt cX0_stepAt 3 (some .int), Cond.fieldLink RX0 9 "OverHill$Dance" "steps" "[I", Cond.methodLink RX6 53 yX6_metBy, Cond.static yX6_metBy, Cond.code yX6_metBy cX6_metBy 4 (some .int), Cond.methodLink RX6 72 yX0_mayMeet, Cond.instanceMethod yX0_mayMeet, Cond.selects RX0 yX0_mayMeet yX0_mayMeet, Cond.code yX0_mayMeet cX0_mayMeet 3 (some .boolean), Cond.fieldLink RX0 21 "OverHill$Dance" "met" "[I"]
def wsX6_findFits : List Cond := .code yX6_findFits cX6_findFits 7 none :: ((wsX6_findFits_r1 ++ wsX6_findFits_r2) ++ wsX60 ++ wsX00)
def wsX6_firstStuck : List Cond := .code yX6_firstStuck cX6_firstStuck 4 (some .int) :: ([.fieldLink RX6 15 "OverHill$Dance" "lengths" "[I", .fieldLink RX6 9 "OverHill$Rounds" "fits" "[I"] ++ wsX00 ++ wsX60)
def wsX6_fitting : List Cond := .code yX6_fitting cX6_fitting 6 (some .int) :: ([.fieldLink RX6 9 "OverHill$Rounds" "fits" "[I", .methodLink RX6 59 yX0_stepAt, .instanceMethod yX0_stepAt, .selects RX0 yX0_stepAt yX0_stepAt, .initialized RX0, .code yX0_stepAt cX0_stepAt 3 (some .int), .fieldLink RX0 9 "OverHill$Dance" "steps" "[I", .methodLink RX6 63 yJ6_numberOfTrailingZeros_0f7a4, .static yJ6_numberOfTrailingZeros_0f7a4, .initialized RJ6, .code yJ6_numberOfTrailingZeros_0f7a4 cJ6_numberOfTrailingZeros_0f7a4 2 (some .int), .constant RJ6 264 (65536)] ++ wsX60 ++ wsX00)
def wsX6_countChanged : List Cond := .code yX6_countChanged cX6_countChanged 5 (some .int) :: ([.fieldLink RX6 15 "OverHill$Dance" "lengths" "[I", .methodLink RX6 69 yX6_fitting, .instanceMethod yX6_fitting, .selects RX6 yX6_fitting yX6_fitting, .initialized RX6, .code yX6_fitting cX6_fitting 6 (some .int), .fieldLink RX6 9 "OverHill$Rounds" "fits" "[I", .methodLink RX6 59 yX0_stepAt, .instanceMethod yX0_stepAt, .selects RX0 yX0_stepAt yX0_stepAt, .initialized RX0, .code yX0_stepAt cX0_stepAt 3 (some .int), .fieldLink RX0 9 "OverHill$Dance" "steps" "[I", .methodLink RX6 63 yJ6_numberOfTrailingZeros_0f7a4, .static yJ6_numberOfTrailingZeros_0f7a4, .initialized RJ6, .code yJ6_numberOfTrailingZeros_0f7a4 cJ6_numberOfTrailingZeros_0f7a4 2 (some .int), .constant RJ6 264 (65536)] ++ wsX00 ++ wsX60)
theorem wrr_wsX6_periodOf {i : Nat} {w : Cond} (h : wsX6_periodOf[i]? = some w) : w ∈ wsX6_periodOf := List.mem_of_getElem? h
theorem wru_wsX6_periodOf_wsX00 : ∀ w ∈ wsX00, w ∈ wsX6_periodOf := fun w h => (List.mem_cons_of_mem _ (List.mem_append_right _ h))
set_option maxRecDepth 20000 in
theorem gw_wsX11_commonMultiple : wsX11_commonMultiple.all goodWord = true := by decide +kernel
set_option maxRecDepth 20000 in
theorem ggX6_periodOf_X11_commonMultiple : GoodIn wsX6_periodOf wsX11_commonMultiple := goodIn_sub (List.forall_mem_cons.mpr ⟨wrr_wsX6_periodOf (i := 4) rfl, (List.forall_mem_cons.mpr ⟨wrr_wsX6_periodOf (i := 5) rfl, (List.forall_mem_cons.mpr ⟨wrr_wsX6_periodOf (i := 6) rfl, (List.forall_mem_cons.mpr ⟨wrr_wsX6_periodOf (i := 3) rfl, (List.forall_mem_cons.mpr ⟨wrr_wsX6_periodOf (i := 7) rfl, (fun _ h => absurd h List.not_mem_nil)⟩)⟩)⟩)⟩)⟩) gw_wsX11_commonMultiple
set_option maxRecDepth 20000 in
theorem gX6_periodOf_X11_commonMultiple_n20 : GoodIn wsX6_periodOf (wsX11_commonMultiple) := ggX6_periodOf_X11_commonMultiple
theorem dX6_periodOf_0 : decode cX6_periodOf 0 = .ok (.aload_n 0, 1) := by decide +kernel
theorem dX6_periodOf_1 : decode cX6_periodOf 1 = .ok (.getfield 15, 3) := by decide +kernel
theorem dX6_periodOf_4 : decode cX6_periodOf 4 = .ok (.iconst 0, 1) := by decide +kernel
theorem dX6_periodOf_5 : decode cX6_periodOf 5 = .ok (.iaload, 1) := by decide +kernel
theorem dX6_periodOf_6 : decode cX6_periodOf 6 = .ok (.i2l, 1) := by decide +kernel
theorem dX6_periodOf_7 : decode cX6_periodOf 7 = .ok (.aload_n 0, 1) := by decide +kernel
theorem dX6_periodOf_8 : decode cX6_periodOf 8 = .ok (.getfield 15, 3) := by decide +kernel
theorem dX6_periodOf_11 : decode cX6_periodOf 11 = .ok (.iconst 1, 1) := by decide +kernel
theorem dX6_periodOf_12 : decode cX6_periodOf 12 = .ok (.iaload, 1) := by decide +kernel
theorem dX6_periodOf_13 : decode cX6_periodOf 13 = .ok (.i2l, 1) := by decide +kernel
theorem dX6_periodOf_14 : decode cX6_periodOf 14 = .ok (.invokestatic 20, 3) := by decide +kernel
theorem dX6_periodOf_17 : decode cX6_periodOf 17 = .ok (.l2i, 1) := by decide +kernel
theorem dX6_periodOf_18 : decode cX6_periodOf 18 = .ok (.ireturn, 1) := by decide +kernel
theorem wrr_wsX6_firstIn {i : Nat} {w : Cond} (h : wsX6_firstIn[i]? = some w) : w ∈ wsX6_firstIn := List.mem_of_getElem? h
theorem wru_wsX6_firstIn_wsX00 : ∀ w ∈ wsX00, w ∈ wsX6_firstIn := fun w h => (List.mem_cons_of_mem _ (List.mem_append_right _ h))
set_option maxRecDepth 20000 in
theorem gw_wsX6_periodOf : wsX6_periodOf.all goodWord = true := by decide +kernel
set_option maxRecDepth 20000 in
theorem ggX6_firstIn_X6_periodOf : GoodIn wsX6_firstIn wsX6_periodOf := goodIn_sub (List.forall_mem_cons.mpr ⟨wrr_wsX6_firstIn (i := 4) rfl, (List.forall_mem_append.mpr ⟨(List.forall_mem_cons.mpr ⟨wrr_wsX6_firstIn (i := 5) rfl, (List.forall_mem_cons.mpr ⟨wrr_wsX6_firstIn (i := 6) rfl, (List.forall_mem_cons.mpr ⟨wrr_wsX6_firstIn (i := 7) rfl, (List.forall_mem_cons.mpr ⟨wrr_wsX6_firstIn (i := 8) rfl, (List.forall_mem_cons.mpr ⟨wrr_wsX6_firstIn (i := 9) rfl, (List.forall_mem_cons.mpr ⟨wrr_wsX6_firstIn (i := 10) rfl, (List.forall_mem_cons.mpr ⟨wrr_wsX6_firstIn (i := 11) rfl, (fun _ h => absurd h List.not_mem_nil)⟩)⟩)⟩)⟩)⟩)⟩)⟩), wru_wsX6_firstIn_wsX00⟩)⟩) gw_wsX6_periodOf
set_option maxRecDepth 20000 in
theorem gX6_firstIn_X6_periodOf : GoodIn wsX6_firstIn (va_wsS RX6 24 yX6_periodOf wsX6_periodOf) := goodIn_app (goodIn_sub (List.forall_mem_cons.mpr ⟨wrr_wsX6_firstIn (i := 1) rfl, (List.forall_mem_cons.mpr ⟨wrr_wsX6_firstIn (i := 2) rfl, (List.forall_mem_cons.mpr ⟨wrr_wsX6_firstIn (i := 3) rfl, (fun _ h => absurd h List.not_mem_nil)⟩)⟩)⟩) (by decide +kernel)) ggX6_firstIn_X6_periodOf
set_option maxRecDepth 20000 in
theorem gw_wsX6_placeIn : wsX6_placeIn.all goodWord = true := by decide +kernel
set_option maxRecDepth 20000 in
theorem ggX6_firstIn_X6_placeIn : GoodIn wsX6_firstIn wsX6_placeIn := goodIn_sub (List.forall_mem_cons.mpr ⟨wrr_wsX6_firstIn (i := 14) rfl, (List.forall_mem_append.mpr ⟨(List.forall_mem_cons.mpr ⟨wrr_wsX6_firstIn (i := 15) rfl, (List.forall_mem_cons.mpr ⟨wrr_wsX6_firstIn (i := 5) rfl, (List.forall_mem_cons.mpr ⟨wrr_wsX6_firstIn (i := 16) rfl, (List.forall_mem_cons.mpr ⟨wrr_wsX6_firstIn (i := 7) rfl, (List.forall_mem_cons.mpr ⟨wrr_wsX6_firstIn (i := 17) rfl, (List.forall_mem_cons.mpr ⟨wrr_wsX6_firstIn (i := 18) rfl, (List.forall_mem_cons.mpr ⟨wrr_wsX6_firstIn (i := 19) rfl, (List.forall_mem_cons.mpr ⟨wrr_wsX6_firstIn (i := 20) rfl, (List.forall_mem_cons.mpr ⟨wrr_wsX6_firstIn (i := 21) rfl, (fun _ h => absurd h List.not_mem_nil)⟩)⟩)⟩)⟩)⟩)⟩)⟩)⟩)⟩), wru_wsX6_firstIn_wsX00⟩)⟩) gw_wsX6_placeIn
set_option maxRecDepth 20000 in
theorem gX6_firstIn_X6_placeIn : GoodIn wsX6_firstIn (va_wsS RX6 28 yX6_placeIn wsX6_placeIn) := goodIn_app (goodIn_sub (List.forall_mem_cons.mpr ⟨wrr_wsX6_firstIn (i := 12) rfl, (List.forall_mem_cons.mpr ⟨wrr_wsX6_firstIn (i := 13) rfl, (List.forall_mem_cons.mpr ⟨wrr_wsX6_firstIn (i := 3) rfl, (fun _ h => absurd h List.not_mem_nil)⟩)⟩)⟩) (by decide +kernel)) ggX6_firstIn_X6_placeIn
theorem dX6_firstIn_0 : decode cX6_firstIn 0 = .ok (.iload_n 3, 1) := by decide +kernel
theorem dX6_firstIn_1 : decode cX6_firstIn 1 = .ok (.aload_n 0, 1) := by decide +kernel
theorem dX6_firstIn_2 : decode cX6_firstIn 2 = .ok (.invokestatic 24, 3) := by decide +kernel
theorem dX6_firstIn_5 : decode cX6_firstIn 5 = .ok (.iadd, 1) := by decide +kernel
theorem dX6_firstIn_6 : decode cX6_firstIn 6 = .ok (.istore 4, 2) := by decide +kernel
theorem dX6_firstIn_8 : decode cX6_firstIn 8 = .ok (.iload_n 3, 1) := by decide +kernel
theorem dX6_firstIn_9 : decode cX6_firstIn 9 = .ok (.istore 5, 2) := by decide +kernel
theorem dX6_firstIn_11 : decode cX6_firstIn 11 = .ok (.iload 5, 2) := by decide +kernel
theorem dX6_firstIn_13 : decode cX6_firstIn 13 = .ok (.iload 4, 2) := by decide +kernel
theorem dX6_firstIn_15 : decode cX6_firstIn 15 = .ok (.if_icmp .ge 34, 3) := by decide +kernel
theorem dX6_firstIn_18 : decode cX6_firstIn 18 = .ok (.aload_n 0, 1) := by decide +kernel
theorem dX6_firstIn_19 : decode cX6_firstIn 19 = .ok (.iconst 0, 1) := by decide +kernel
theorem dX6_firstIn_20 : decode cX6_firstIn 20 = .ok (.iload 5, 2) := by decide +kernel
theorem dX6_firstIn_22 : decode cX6_firstIn 22 = .ok (.invokestatic 28, 3) := by decide +kernel
theorem dX6_firstIn_25 : decode cX6_firstIn 25 = .ok (.iload_n 1, 1) := by decide +kernel
theorem dX6_firstIn_26 : decode cX6_firstIn 26 = .ok (.if_icmp .ne 17, 3) := by decide +kernel
theorem dX6_firstIn_29 : decode cX6_firstIn 29 = .ok (.aload_n 0, 1) := by decide +kernel
theorem dX6_firstIn_30 : decode cX6_firstIn 30 = .ok (.iconst 1, 1) := by decide +kernel
theorem dX6_firstIn_31 : decode cX6_firstIn 31 = .ok (.iload 5, 2) := by decide +kernel
theorem dX6_firstIn_33 : decode cX6_firstIn 33 = .ok (.invokestatic 28, 3) := by decide +kernel
theorem dX6_firstIn_36 : decode cX6_firstIn 36 = .ok (.iload_n 2, 1) := by decide +kernel
theorem dX6_firstIn_37 : decode cX6_firstIn 37 = .ok (.if_icmp .ne 6, 3) := by decide +kernel
theorem dX6_firstIn_40 : decode cX6_firstIn 40 = .ok (.iload 5, 2) := by decide +kernel
theorem dX6_firstIn_42 : decode cX6_firstIn 42 = .ok (.ireturn, 1) := by decide +kernel
theorem dX6_firstIn_43 : decode cX6_firstIn 43 = .ok (.iinc 5 1, 3) := by decide +kernel
theorem dX6_firstIn_46 : decode cX6_firstIn 46 = .ok (.goto (-35), 3) := by decide +kernel
theorem dX6_firstIn_49 : decode cX6_firstIn 49 = .ok (.iconst (-1), 1) := by decide +kernel
theorem dX6_firstIn_50 : decode cX6_firstIn 50 = .ok (.ireturn, 1) := by decide +kernel
theorem wrr_wsX6_holesShifted {i : Nat} {w : Cond} (h : wsX6_holesShifted[i]? = some w) : w ∈ wsX6_holesShifted := List.mem_of_getElem? h
theorem wrr_wsX6_holesShifted_wsX6_holesShifted_r1 {i : Nat} {w : Cond} (h : wsX6_holesShifted_r1[i]? = some w) : w ∈ wsX6_holesShifted := (List.mem_cons_of_mem _ (List.mem_append_left _ (List.mem_append_left _ (List.mem_of_getElem? h))))
theorem wrr_wsX6_holesShifted_wsX6_holesShifted_r2 {i : Nat} {w : Cond} (h : wsX6_holesShifted_r2[i]? = some w) : w ∈ wsX6_holesShifted := (List.mem_cons_of_mem _ (List.mem_append_left _ (List.mem_append_right _ (List.mem_of_getElem? h))))
theorem wru_wsX6_holesShifted_wsX00 : ∀ w ∈ wsX00, w ∈ wsX6_holesShifted := fun w h => (List.mem_cons_of_mem _ (List.mem_append_right _ h))
set_option maxRecDepth 20000 in
theorem ggX6_holesShifted_X6_periodOf : GoodIn wsX6_holesShifted wsX6_periodOf := goodIn_sub (List.forall_mem_cons.mpr ⟨wrr_wsX6_holesShifted_wsX6_holesShifted_r1 (i := 4) rfl, (List.forall_mem_append.mpr ⟨(List.forall_mem_cons.mpr ⟨wrr_wsX6_holesShifted_wsX6_holesShifted_r1 (i := 5) rfl, (List.forall_mem_cons.mpr ⟨wrr_wsX6_holesShifted_wsX6_holesShifted_r1 (i := 6) rfl, (List.forall_mem_cons.mpr ⟨wrr_wsX6_holesShifted_wsX6_holesShifted_r1 (i := 7) rfl, (List.forall_mem_cons.mpr ⟨wrr_wsX6_holesShifted_wsX6_holesShifted_r1 (i := 8) rfl, (List.forall_mem_cons.mpr ⟨wrr_wsX6_holesShifted_wsX6_holesShifted_r1 (i := 9) rfl, (List.forall_mem_cons.mpr ⟨wrr_wsX6_holesShifted_wsX6_holesShifted_r1 (i := 10) rfl, (List.forall_mem_cons.mpr ⟨wrr_wsX6_holesShifted_wsX6_holesShifted_r1 (i := 11) rfl, (fun _ h => absurd h List.not_mem_nil)⟩)⟩)⟩)⟩)⟩)⟩)⟩), wru_wsX6_holesShifted_wsX00⟩)⟩) gw_wsX6_periodOf
set_option maxRecDepth 20000 in
theorem gX6_holesShifted_X6_periodOf : GoodIn wsX6_holesShifted (va_wsS RX6 24 yX6_periodOf wsX6_periodOf) := goodIn_app (goodIn_sub (List.forall_mem_cons.mpr ⟨wrr_wsX6_holesShifted_wsX6_holesShifted_r1 (i := 1) rfl, (List.forall_mem_cons.mpr ⟨wrr_wsX6_holesShifted_wsX6_holesShifted_r1 (i := 2) rfl, (List.forall_mem_cons.mpr ⟨wrr_wsX6_holesShifted_wsX6_holesShifted_r1 (i := 3) rfl, (fun _ h => absurd h List.not_mem_nil)⟩)⟩)⟩) (by decide +kernel)) ggX6_holesShifted_X6_periodOf
set_option maxRecDepth 20000 in
theorem gw_wsX6_stepIn : wsX6_stepIn.all goodWord = true := by decide +kernel
set_option maxRecDepth 20000 in
theorem ggX6_holesShifted_X6_stepIn : GoodIn wsX6_holesShifted wsX6_stepIn := goodIn_sub (List.forall_mem_cons.mpr ⟨wrr_wsX6_holesShifted_wsX6_holesShifted_r1 (i := 14) rfl, (List.forall_mem_append.mpr ⟨(List.forall_mem_cons.mpr ⟨wrr_wsX6_holesShifted_wsX6_holesShifted_r1 (i := 15) rfl, (List.forall_mem_cons.mpr ⟨wrr_wsX6_holesShifted_wsX6_holesShifted_r1 (i := 16) rfl, (List.forall_mem_cons.mpr ⟨wrr_wsX6_holesShifted_wsX6_holesShifted_r1 (i := 3) rfl, (List.forall_mem_cons.mpr ⟨wrr_wsX6_holesShifted_wsX6_holesShifted_r1 (i := 17) rfl, (List.forall_mem_cons.mpr ⟨wrr_wsX6_holesShifted_wsX6_holesShifted_r1 (i := 18) rfl, (List.forall_mem_cons.mpr ⟨wrr_wsX6_holesShifted_wsX6_holesShifted_r1 (i := 5) rfl, (List.forall_mem_cons.mpr ⟨wrr_wsX6_holesShifted_wsX6_holesShifted_r1 (i := 19) rfl, (List.forall_mem_cons.mpr ⟨wrr_wsX6_holesShifted_wsX6_holesShifted_r1 (i := 7) rfl, (List.forall_mem_cons.mpr ⟨wrr_wsX6_holesShifted_wsX6_holesShifted_r1 (i := 20) rfl, (List.forall_mem_cons.mpr ⟨wrr_wsX6_holesShifted_wsX6_holesShifted_r1 (i := 21) rfl, (List.forall_mem_cons.mpr ⟨wrr_wsX6_holesShifted_wsX6_holesShifted_r1 (i := 22) rfl, (List.forall_mem_cons.mpr ⟨wrr_wsX6_holesShifted_wsX6_holesShifted_r1 (i := 23) rfl, (List.forall_mem_cons.mpr ⟨wrr_wsX6_holesShifted_wsX6_holesShifted_r2 (i := 0) rfl, (List.forall_mem_cons.mpr ⟨wrr_wsX6_holesShifted_wsX6_holesShifted_r2 (i := 1) rfl, (List.forall_mem_cons.mpr ⟨wrr_wsX6_holesShifted_wsX6_holesShifted_r2 (i := 2) rfl, (List.forall_mem_cons.mpr ⟨wrr_wsX6_holesShifted_wsX6_holesShifted_r2 (i := 3) rfl, (List.forall_mem_cons.mpr ⟨wrr_wsX6_holesShifted_wsX6_holesShifted_r2 (i := 4) rfl, (List.forall_mem_cons.mpr ⟨wrr_wsX6_holesShifted_wsX6_holesShifted_r2 (i := 5) rfl, (List.forall_mem_cons.mpr ⟨wrr_wsX6_holesShifted_wsX6_holesShifted_r2 (i := 6) rfl, (fun _ h => absurd h List.not_mem_nil)⟩)⟩)⟩)⟩)⟩)⟩)⟩)⟩)⟩)⟩)⟩)⟩)⟩)⟩)⟩)⟩)⟩)⟩)⟩), wru_wsX6_holesShifted_wsX00⟩)⟩) gw_wsX6_stepIn
set_option maxRecDepth 20000 in
theorem gX6_holesShifted_X6_stepIn : GoodIn wsX6_holesShifted (va_wsS RX6 36 yX6_stepIn wsX6_stepIn) := goodIn_app (goodIn_sub (List.forall_mem_cons.mpr ⟨wrr_wsX6_holesShifted_wsX6_holesShifted_r1 (i := 12) rfl, (List.forall_mem_cons.mpr ⟨wrr_wsX6_holesShifted_wsX6_holesShifted_r1 (i := 13) rfl, (List.forall_mem_cons.mpr ⟨wrr_wsX6_holesShifted_wsX6_holesShifted_r1 (i := 3) rfl, (fun _ h => absurd h List.not_mem_nil)⟩)⟩)⟩) (by decide +kernel)) ggX6_holesShifted_X6_stepIn
set_option maxRecDepth 20000 in
theorem ggX6_holesShifted_X0_isHole : GoodIn wsX6_holesShifted wsX0_isHole := goodIn_sub (List.forall_mem_cons.mpr ⟨wrr_wsX6_holesShifted_wsX6_holesShifted_r2 (i := 10) rfl, (List.forall_mem_append.mpr ⟨(List.forall_mem_cons.mpr ⟨wrr_wsX6_holesShifted_wsX6_holesShifted_r2 (i := 11) rfl, (List.forall_mem_cons.mpr ⟨wrr_wsX6_holesShifted_wsX6_holesShifted_r2 (i := 12) rfl, (List.forall_mem_cons.mpr ⟨wrr_wsX6_holesShifted_wsX6_holesShifted_r2 (i := 13) rfl, (List.forall_mem_cons.mpr ⟨wrr_wsX6_holesShifted_wsX6_holesShifted_r2 (i := 4) rfl, (List.forall_mem_cons.mpr ⟨wrr_wsX6_holesShifted_wsX6_holesShifted_r2 (i := 14) rfl, (List.forall_mem_cons.mpr ⟨wrr_wsX6_holesShifted_wsX6_holesShifted_r2 (i := 15) rfl, (fun _ h => absurd h List.not_mem_nil)⟩)⟩)⟩)⟩)⟩)⟩), wru_wsX6_holesShifted_wsX00⟩)⟩) gw_wsX0_isHole
set_option maxRecDepth 20000 in
theorem gX6_holesShifted_X0_isHole : GoodIn wsX6_holesShifted (wsV RX6 39 RX0 yX0_isHole wsX0_isHole) := goodIn_app (goodIn_sub (List.forall_mem_cons.mpr ⟨wrr_wsX6_holesShifted_wsX6_holesShifted_r2 (i := 7) rfl, (List.forall_mem_cons.mpr ⟨wrr_wsX6_holesShifted_wsX6_holesShifted_r2 (i := 8) rfl, (List.forall_mem_cons.mpr ⟨wrr_wsX6_holesShifted_wsX6_holesShifted_r2 (i := 9) rfl, (List.forall_mem_cons.mpr ⟨wrr_wsX6_holesShifted_wsX6_holesShifted_r2 (i := 4) rfl, (fun _ h => absurd h List.not_mem_nil)⟩)⟩)⟩)⟩) (by decide +kernel)) ggX6_holesShifted_X0_isHole
theorem dX6_holesShifted_0 : decode cX6_holesShifted 0 = .ok (.aload_n 0, 1) := by decide +kernel
theorem dX6_holesShifted_1 : decode cX6_holesShifted 1 = .ok (.getfield 32, 3) := by decide +kernel
theorem dX6_holesShifted_4 : decode cX6_holesShifted 4 = .ok (.aload_n 0, 1) := by decide +kernel
theorem dX6_holesShifted_5 : decode cX6_holesShifted 5 = .ok (.invokestatic 24, 3) := by decide +kernel
theorem dX6_holesShifted_8 : decode cX6_holesShifted 8 = .ok (.iadd, 1) := by decide +kernel
theorem dX6_holesShifted_9 : decode cX6_holesShifted 9 = .ok (.istore_n 2, 1) := by decide +kernel
theorem dX6_holesShifted_10 : decode cX6_holesShifted 10 = .ok (.iconst 0, 1) := by decide +kernel
theorem dX6_holesShifted_11 : decode cX6_holesShifted 11 = .ok (.istore_n 3, 1) := by decide +kernel
theorem dX6_holesShifted_12 : decode cX6_holesShifted 12 = .ok (.aload_n 0, 1) := by decide +kernel
theorem dX6_holesShifted_13 : decode cX6_holesShifted 13 = .ok (.getfield 32, 3) := by decide +kernel
theorem dX6_holesShifted_16 : decode cX6_holesShifted 16 = .ok (.istore 4, 2) := by decide +kernel
theorem dX6_holesShifted_18 : decode cX6_holesShifted 18 = .ok (.iload 4, 2) := by decide +kernel
theorem dX6_holesShifted_20 : decode cX6_holesShifted 20 = .ok (.iload_n 2, 1) := by decide +kernel
theorem dX6_holesShifted_21 : decode cX6_holesShifted 21 = .ok (.if_icmp .ge 70, 3) := by decide +kernel
theorem dX6_holesShifted_24 : decode cX6_holesShifted 24 = .ok (.iload 4, 2) := by decide +kernel
theorem dX6_holesShifted_26 : decode cX6_holesShifted 26 = .ok (.aload_n 0, 1) := by decide +kernel
theorem dX6_holesShifted_27 : decode cX6_holesShifted 27 = .ok (.getfield 32, 3) := by decide +kernel
theorem dX6_holesShifted_30 : decode cX6_holesShifted 30 = .ok (.isub, 1) := by decide +kernel
theorem dX6_holesShifted_31 : decode cX6_holesShifted 31 = .ok (.istore 5, 2) := by decide +kernel
theorem dX6_holesShifted_33 : decode cX6_holesShifted 33 = .ok (.aload_n 0, 1) := by decide +kernel
theorem dX6_holesShifted_34 : decode cX6_holesShifted 34 = .ok (.aload_n 0, 1) := by decide +kernel
theorem dX6_holesShifted_35 : decode cX6_holesShifted 35 = .ok (.iconst 0, 1) := by decide +kernel
theorem dX6_holesShifted_36 : decode cX6_holesShifted 36 = .ok (.iload 4, 2) := by decide +kernel
theorem dX6_holesShifted_38 : decode cX6_holesShifted 38 = .ok (.invokestatic 36, 3) := by decide +kernel
theorem dX6_holesShifted_41 : decode cX6_holesShifted 41 = .ok (.aload_n 0, 1) := by decide +kernel
theorem dX6_holesShifted_42 : decode cX6_holesShifted 42 = .ok (.iconst 1, 1) := by decide +kernel
theorem dX6_holesShifted_43 : decode cX6_holesShifted 43 = .ok (.iload 5, 2) := by decide +kernel
theorem dX6_holesShifted_45 : decode cX6_holesShifted 45 = .ok (.iload_n 1, 1) := by decide +kernel
theorem dX6_holesShifted_46 : decode cX6_holesShifted 46 = .ok (.iadd, 1) := by decide +kernel
theorem dX6_holesShifted_47 : decode cX6_holesShifted 47 = .ok (.invokestatic 36, 3) := by decide +kernel
theorem dX6_holesShifted_50 : decode cX6_holesShifted 50 = .ok (.invokevirtual 39, 3) := by decide +kernel
theorem dX6_holesShifted_53 : decode cX6_holesShifted 53 = .ok (.ifCond .eq 6, 3) := by decide +kernel
theorem dX6_holesShifted_56 : decode cX6_holesShifted 56 = .ok (.iinc 3 1, 3) := by decide +kernel
theorem dX6_holesShifted_59 : decode cX6_holesShifted 59 = .ok (.aload_n 0, 1) := by decide +kernel
theorem dX6_holesShifted_60 : decode cX6_holesShifted 60 = .ok (.aload_n 0, 1) := by decide +kernel
theorem dX6_holesShifted_61 : decode cX6_holesShifted 61 = .ok (.iconst 1, 1) := by decide +kernel
theorem dX6_holesShifted_62 : decode cX6_holesShifted 62 = .ok (.iload 4, 2) := by decide +kernel
theorem dX6_holesShifted_64 : decode cX6_holesShifted 64 = .ok (.iload_n 1, 1) := by decide +kernel
theorem dX6_holesShifted_65 : decode cX6_holesShifted 65 = .ok (.iadd, 1) := by decide +kernel
theorem dX6_holesShifted_66 : decode cX6_holesShifted 66 = .ok (.invokestatic 36, 3) := by decide +kernel
theorem dX6_holesShifted_69 : decode cX6_holesShifted 69 = .ok (.aload_n 0, 1) := by decide +kernel
theorem dX6_holesShifted_70 : decode cX6_holesShifted 70 = .ok (.iconst 0, 1) := by decide +kernel
theorem dX6_holesShifted_71 : decode cX6_holesShifted 71 = .ok (.iload 5, 2) := by decide +kernel
theorem dX6_holesShifted_73 : decode cX6_holesShifted 73 = .ok (.invokestatic 36, 3) := by decide +kernel
theorem dX6_holesShifted_76 : decode cX6_holesShifted 76 = .ok (.invokevirtual 39, 3) := by decide +kernel
theorem dX6_holesShifted_79 : decode cX6_holesShifted 79 = .ok (.ifCond .eq 6, 3) := by decide +kernel
theorem dX6_holesShifted_82 : decode cX6_holesShifted 82 = .ok (.iinc 3 1, 3) := by decide +kernel
theorem dX6_holesShifted_85 : decode cX6_holesShifted 85 = .ok (.iinc 4 1, 3) := by decide +kernel
theorem dX6_holesShifted_88 : decode cX6_holesShifted 88 = .ok (.goto (-70), 3) := by decide +kernel
theorem dX6_holesShifted_91 : decode cX6_holesShifted 91 = .ok (.iload_n 3, 1) := by decide +kernel
theorem dX6_holesShifted_92 : decode cX6_holesShifted 92 = .ok (.ireturn, 1) := by decide +kernel
theorem wrr_wsX6_leastShift {i : Nat} {w : Cond} (h : wsX6_leastShift[i]? = some w) : w ∈ wsX6_leastShift := List.mem_of_getElem? h
theorem wrr_wsX6_leastShift_wsX6_leastShift_r1 {i : Nat} {w : Cond} (h : wsX6_leastShift_r1[i]? = some w) : w ∈ wsX6_leastShift := (List.mem_cons_of_mem _ (List.mem_append_left _ (List.mem_append_left _ (List.mem_of_getElem? h))))
theorem wrr_wsX6_leastShift_wsX6_leastShift_r2 {i : Nat} {w : Cond} (h : wsX6_leastShift_r2[i]? = some w) : w ∈ wsX6_leastShift := (List.mem_cons_of_mem _ (List.mem_append_left _ (List.mem_append_right _ (List.mem_of_getElem? h))))
theorem wru_wsX6_leastShift_wsX00 : ∀ w ∈ wsX00, w ∈ wsX6_leastShift := fun w h => (List.mem_cons_of_mem _ (List.mem_append_right _ h))
set_option maxRecDepth 20000 in
theorem gw_wsX6_holesShifted : wsX6_holesShifted.all goodWord = true := by decide +kernel
set_option maxRecDepth 20000 in
theorem ggX6_leastShift_X6_holesShifted : GoodIn wsX6_leastShift wsX6_holesShifted := goodIn_sub (List.forall_mem_cons.mpr ⟨wrr_wsX6_leastShift_wsX6_leastShift_r1 (i := 4) rfl, (List.forall_mem_append.mpr ⟨(List.forall_mem_append.mpr ⟨(List.forall_mem_cons.mpr ⟨wrr_wsX6_leastShift_wsX6_leastShift_r1 (i := 5) rfl, (List.forall_mem_cons.mpr ⟨wrr_wsX6_leastShift_wsX6_leastShift_r1 (i := 6) rfl, (List.forall_mem_cons.mpr ⟨wrr_wsX6_leastShift_wsX6_leastShift_r1 (i := 7) rfl, (List.forall_mem_cons.mpr ⟨wrr_wsX6_leastShift_wsX6_leastShift_r1 (i := 3) rfl, (List.forall_mem_cons.mpr ⟨wrr_wsX6_leastShift_wsX6_leastShift_r1 (i := 8) rfl, (List.forall_mem_cons.mpr ⟨wrr_wsX6_leastShift_wsX6_leastShift_r1 (i := 0) rfl, (List.forall_mem_cons.mpr ⟨wrr_wsX6_leastShift_wsX6_leastShift_r1 (i := 9) rfl, (List.forall_mem_cons.mpr ⟨wrr_wsX6_leastShift_wsX6_leastShift_r1 (i := 10) rfl, (List.forall_mem_cons.mpr ⟨wrr_wsX6_leastShift_wsX6_leastShift_r1 (i := 11) rfl, (List.forall_mem_cons.mpr ⟨wrr_wsX6_leastShift_wsX6_leastShift_r1 (i := 12) rfl, (List.forall_mem_cons.mpr ⟨wrr_wsX6_leastShift_wsX6_leastShift_r1 (i := 13) rfl, (List.forall_mem_cons.mpr ⟨wrr_wsX6_leastShift_wsX6_leastShift_r1 (i := 14) rfl, (List.forall_mem_cons.mpr ⟨wrr_wsX6_leastShift_wsX6_leastShift_r1 (i := 15) rfl, (List.forall_mem_cons.mpr ⟨wrr_wsX6_leastShift_wsX6_leastShift_r1 (i := 16) rfl, (List.forall_mem_cons.mpr ⟨wrr_wsX6_leastShift_wsX6_leastShift_r1 (i := 17) rfl, (List.forall_mem_cons.mpr ⟨wrr_wsX6_leastShift_wsX6_leastShift_r1 (i := 18) rfl, (List.forall_mem_cons.mpr ⟨wrr_wsX6_leastShift_wsX6_leastShift_r1 (i := 19) rfl, (List.forall_mem_cons.mpr ⟨wrr_wsX6_leastShift_wsX6_leastShift_r1 (i := 20) rfl, (List.forall_mem_cons.mpr ⟨wrr_wsX6_leastShift_wsX6_leastShift_r1 (i := 21) rfl, (List.forall_mem_cons.mpr ⟨wrr_wsX6_leastShift_wsX6_leastShift_r1 (i := 22) rfl, (List.forall_mem_cons.mpr ⟨wrr_wsX6_leastShift_wsX6_leastShift_r1 (i := 23) rfl, (List.forall_mem_cons.mpr ⟨wrr_wsX6_leastShift_wsX6_leastShift_r2 (i := 0) rfl, (List.forall_mem_cons.mpr ⟨wrr_wsX6_leastShift_wsX6_leastShift_r2 (i := 1) rfl, (List.forall_mem_cons.mpr ⟨wrr_wsX6_leastShift_wsX6_leastShift_r2 (i := 2) rfl, (fun _ h => absurd h List.not_mem_nil)⟩)⟩)⟩)⟩)⟩)⟩)⟩)⟩)⟩)⟩)⟩)⟩)⟩)⟩)⟩)⟩)⟩)⟩)⟩)⟩)⟩)⟩)⟩)⟩), (List.forall_mem_cons.mpr ⟨wrr_wsX6_leastShift_wsX6_leastShift_r2 (i := 3) rfl, (List.forall_mem_cons.mpr ⟨wrr_wsX6_leastShift_wsX6_leastShift_r2 (i := 4) rfl, (List.forall_mem_cons.mpr ⟨wrr_wsX6_leastShift_wsX6_leastShift_r2 (i := 5) rfl, (List.forall_mem_cons.mpr ⟨wrr_wsX6_leastShift_wsX6_leastShift_r2 (i := 6) rfl, (List.forall_mem_cons.mpr ⟨wrr_wsX6_leastShift_wsX6_leastShift_r2 (i := 7) rfl, (List.forall_mem_cons.mpr ⟨wrr_wsX6_leastShift_wsX6_leastShift_r2 (i := 8) rfl, (List.forall_mem_cons.mpr ⟨wrr_wsX6_leastShift_wsX6_leastShift_r2 (i := 9) rfl, (List.forall_mem_cons.mpr ⟨wrr_wsX6_leastShift_wsX6_leastShift_r2 (i := 10) rfl, (List.forall_mem_cons.mpr ⟨wrr_wsX6_leastShift_wsX6_leastShift_r2 (i := 11) rfl, (List.forall_mem_cons.mpr ⟨wrr_wsX6_leastShift_wsX6_leastShift_r2 (i := 12) rfl, (List.forall_mem_cons.mpr ⟨wrr_wsX6_leastShift_wsX6_leastShift_r2 (i := 13) rfl, (List.forall_mem_cons.mpr ⟨wrr_wsX6_leastShift_wsX6_leastShift_r2 (i := 14) rfl, (List.forall_mem_cons.mpr ⟨wrr_wsX6_leastShift_wsX6_leastShift_r2 (i := 15) rfl, (List.forall_mem_cons.mpr ⟨wrr_wsX6_leastShift_wsX6_leastShift_r2 (i := 16) rfl, (List.forall_mem_cons.mpr ⟨wrr_wsX6_leastShift_wsX6_leastShift_r2 (i := 17) rfl, (List.forall_mem_cons.mpr ⟨wrr_wsX6_leastShift_wsX6_leastShift_r2 (i := 18) rfl, (fun _ h => absurd h List.not_mem_nil)⟩)⟩)⟩)⟩)⟩)⟩)⟩)⟩)⟩)⟩)⟩)⟩)⟩)⟩)⟩)⟩)⟩), wru_wsX6_leastShift_wsX00⟩)⟩) gw_wsX6_holesShifted
set_option maxRecDepth 20000 in
theorem gX6_leastShift_X6_holesShifted : GoodIn wsX6_leastShift (va_wsS RX6 43 yX6_holesShifted wsX6_holesShifted) := goodIn_app (goodIn_sub (List.forall_mem_cons.mpr ⟨wrr_wsX6_leastShift_wsX6_leastShift_r1 (i := 1) rfl, (List.forall_mem_cons.mpr ⟨wrr_wsX6_leastShift_wsX6_leastShift_r1 (i := 2) rfl, (List.forall_mem_cons.mpr ⟨wrr_wsX6_leastShift_wsX6_leastShift_r1 (i := 3) rfl, (fun _ h => absurd h List.not_mem_nil)⟩)⟩)⟩) (by decide +kernel)) ggX6_leastShift_X6_holesShifted
theorem dX6_leastShift_0 : decode cX6_leastShift 0 = .ok (.iconst 0, 1) := by decide +kernel
theorem dX6_leastShift_1 : decode cX6_leastShift 1 = .ok (.istore_n 1, 1) := by decide +kernel
theorem dX6_leastShift_2 : decode cX6_leastShift 2 = .ok (.aload_n 0, 1) := by decide +kernel
theorem dX6_leastShift_3 : decode cX6_leastShift 3 = .ok (.iconst 0, 1) := by decide +kernel
theorem dX6_leastShift_4 : decode cX6_leastShift 4 = .ok (.invokestatic 43, 3) := by decide +kernel
theorem dX6_leastShift_7 : decode cX6_leastShift 7 = .ok (.istore_n 2, 1) := by decide +kernel
theorem dX6_leastShift_8 : decode cX6_leastShift 8 = .ok (.iconst 1, 1) := by decide +kernel
theorem dX6_leastShift_9 : decode cX6_leastShift 9 = .ok (.istore_n 3, 1) := by decide +kernel
theorem dX6_leastShift_10 : decode cX6_leastShift 10 = .ok (.iload_n 3, 1) := by decide +kernel
theorem dX6_leastShift_11 : decode cX6_leastShift 11 = .ok (.aload_n 0, 1) := by decide +kernel
theorem dX6_leastShift_12 : decode cX6_leastShift 12 = .ok (.getfield 15, 3) := by decide +kernel
theorem dX6_leastShift_15 : decode cX6_leastShift 15 = .ok (.iconst 1, 1) := by decide +kernel
theorem dX6_leastShift_16 : decode cX6_leastShift 16 = .ok (.iaload, 1) := by decide +kernel
theorem dX6_leastShift_17 : decode cX6_leastShift 17 = .ok (.if_icmp .ge 27, 3) := by decide +kernel
theorem dX6_leastShift_20 : decode cX6_leastShift 20 = .ok (.aload_n 0, 1) := by decide +kernel
theorem dX6_leastShift_21 : decode cX6_leastShift 21 = .ok (.iload_n 3, 1) := by decide +kernel
theorem dX6_leastShift_22 : decode cX6_leastShift 22 = .ok (.invokestatic 43, 3) := by decide +kernel
theorem dX6_leastShift_25 : decode cX6_leastShift 25 = .ok (.istore 4, 2) := by decide +kernel
theorem dX6_leastShift_27 : decode cX6_leastShift 27 = .ok (.iload 4, 2) := by decide +kernel
theorem dX6_leastShift_29 : decode cX6_leastShift 29 = .ok (.iload_n 2, 1) := by decide +kernel
theorem dX6_leastShift_30 : decode cX6_leastShift 30 = .ok (.if_icmp .ge 8, 3) := by decide +kernel
theorem dX6_leastShift_33 : decode cX6_leastShift 33 = .ok (.iload 4, 2) := by decide +kernel
theorem dX6_leastShift_35 : decode cX6_leastShift 35 = .ok (.istore_n 2, 1) := by decide +kernel
theorem dX6_leastShift_36 : decode cX6_leastShift 36 = .ok (.iload_n 3, 1) := by decide +kernel
theorem dX6_leastShift_37 : decode cX6_leastShift 37 = .ok (.istore_n 1, 1) := by decide +kernel
theorem dX6_leastShift_38 : decode cX6_leastShift 38 = .ok (.iinc 3 1, 3) := by decide +kernel
theorem dX6_leastShift_41 : decode cX6_leastShift 41 = .ok (.goto (-31), 3) := by decide +kernel
theorem dX6_leastShift_44 : decode cX6_leastShift 44 = .ok (.iload_n 1, 1) := by decide +kernel
theorem dX6_leastShift_45 : decode cX6_leastShift 45 = .ok (.ireturn, 1) := by decide +kernel
theorem wrr_wsX6_findFits {i : Nat} {w : Cond} (h : wsX6_findFits[i]? = some w) : w ∈ wsX6_findFits := List.mem_of_getElem? h
theorem wrr_wsX6_findFits_wsX6_findFits_r1 {i : Nat} {w : Cond} (h : wsX6_findFits_r1[i]? = some w) : w ∈ wsX6_findFits := (List.mem_cons_of_mem _ (List.mem_append_left _ (List.mem_append_left _ (List.mem_append_left _ (List.mem_of_getElem? h)))))
theorem wrr_wsX6_findFits_wsX6_findFits_r2 {i : Nat} {w : Cond} (h : wsX6_findFits_r2[i]? = some w) : w ∈ wsX6_findFits := (List.mem_cons_of_mem _ (List.mem_append_left _ (List.mem_append_left _ (List.mem_append_right _ (List.mem_of_getElem? h)))))
theorem wru_wsX6_findFits_wsX60 : ∀ w ∈ wsX60, w ∈ wsX6_findFits := fun w h => (List.mem_cons_of_mem _ (List.mem_append_left _ (List.mem_append_right _ h)))
theorem wru_wsX6_findFits_wsX00 : ∀ w ∈ wsX00, w ∈ wsX6_findFits := fun w h => (List.mem_cons_of_mem _ (List.mem_append_right _ h))
set_option maxRecDepth 20000 in
theorem ggX6_findFits_J7_fill_53178 : GoodIn wsX6_findFits wsJ7_fill_53178 := goodIn_sub (List.forall_mem_cons.mpr ⟨wrr_wsX6_findFits_wsX6_findFits_r1 (i := 6) rfl, (fun _ h => absurd h List.not_mem_nil)⟩) gw_wsJ7_fill_53178
set_option maxRecDepth 20000 in
theorem gX6_findFits_J7_fill_53178 : GoodIn wsX6_findFits (va_wsS RX6 47 yJ7_fill_53178 wsJ7_fill_53178) := goodIn_app (goodIn_sub (List.forall_mem_cons.mpr ⟨wrr_wsX6_findFits_wsX6_findFits_r1 (i := 3) rfl, (List.forall_mem_cons.mpr ⟨wrr_wsX6_findFits_wsX6_findFits_r1 (i := 4) rfl, (List.forall_mem_cons.mpr ⟨wrr_wsX6_findFits_wsX6_findFits_r1 (i := 5) rfl, (fun _ h => absurd h List.not_mem_nil)⟩)⟩)⟩) (by decide +kernel)) ggX6_findFits_J7_fill_53178
set_option maxRecDepth 20000 in
theorem ggX6_findFits_X6_periodOf : GoodIn wsX6_findFits wsX6_periodOf := goodIn_sub (List.forall_mem_cons.mpr ⟨wrr_wsX6_findFits_wsX6_findFits_r1 (i := 10) rfl, (List.forall_mem_append.mpr ⟨(List.forall_mem_cons.mpr ⟨wrr_wsX6_findFits_wsX6_findFits_r1 (i := 11) rfl, (List.forall_mem_cons.mpr ⟨wrr_wsX6_findFits_wsX6_findFits_r1 (i := 12) rfl, (List.forall_mem_cons.mpr ⟨wrr_wsX6_findFits_wsX6_findFits_r1 (i := 13) rfl, (List.forall_mem_cons.mpr ⟨wrr_wsX6_findFits_wsX6_findFits_r1 (i := 14) rfl, (List.forall_mem_cons.mpr ⟨wrr_wsX6_findFits_wsX6_findFits_r1 (i := 15) rfl, (List.forall_mem_cons.mpr ⟨wrr_wsX6_findFits_wsX6_findFits_r1 (i := 16) rfl, (List.forall_mem_cons.mpr ⟨wrr_wsX6_findFits_wsX6_findFits_r1 (i := 17) rfl, (fun _ h => absurd h List.not_mem_nil)⟩)⟩)⟩)⟩)⟩)⟩)⟩), wru_wsX6_findFits_wsX00⟩)⟩) gw_wsX6_periodOf
set_option maxRecDepth 20000 in
theorem gX6_findFits_X6_periodOf : GoodIn wsX6_findFits (va_wsS RX6 24 yX6_periodOf wsX6_periodOf) := goodIn_app (goodIn_sub (List.forall_mem_cons.mpr ⟨wrr_wsX6_findFits_wsX6_findFits_r1 (i := 7) rfl, (List.forall_mem_cons.mpr ⟨wrr_wsX6_findFits_wsX6_findFits_r1 (i := 8) rfl, (List.forall_mem_cons.mpr ⟨wrr_wsX6_findFits_wsX6_findFits_r1 (i := 9) rfl, (fun _ h => absurd h List.not_mem_nil)⟩)⟩)⟩) (by decide +kernel)) ggX6_findFits_X6_periodOf
set_option maxRecDepth 20000 in
theorem ggX6_findFits_X6_stepIn : GoodIn wsX6_findFits wsX6_stepIn := goodIn_sub (List.forall_mem_cons.mpr ⟨wrr_wsX6_findFits_wsX6_findFits_r1 (i := 20) rfl, (List.forall_mem_append.mpr ⟨(List.forall_mem_cons.mpr ⟨wrr_wsX6_findFits_wsX6_findFits_r1 (i := 21) rfl, (List.forall_mem_cons.mpr ⟨wrr_wsX6_findFits_wsX6_findFits_r1 (i := 22) rfl, (List.forall_mem_cons.mpr ⟨wrr_wsX6_findFits_wsX6_findFits_r1 (i := 9) rfl, (List.forall_mem_cons.mpr ⟨wrr_wsX6_findFits_wsX6_findFits_r1 (i := 23) rfl, (List.forall_mem_cons.mpr ⟨wrr_wsX6_findFits_wsX6_findFits_r2 (i := 0) rfl, (List.forall_mem_cons.mpr ⟨wrr_wsX6_findFits_wsX6_findFits_r1 (i := 11) rfl, (List.forall_mem_cons.mpr ⟨wrr_wsX6_findFits_wsX6_findFits_r2 (i := 1) rfl, (List.forall_mem_cons.mpr ⟨wrr_wsX6_findFits_wsX6_findFits_r1 (i := 13) rfl, (List.forall_mem_cons.mpr ⟨wrr_wsX6_findFits_wsX6_findFits_r2 (i := 2) rfl, (List.forall_mem_cons.mpr ⟨wrr_wsX6_findFits_wsX6_findFits_r2 (i := 3) rfl, (List.forall_mem_cons.mpr ⟨wrr_wsX6_findFits_wsX6_findFits_r2 (i := 4) rfl, (List.forall_mem_cons.mpr ⟨wrr_wsX6_findFits_wsX6_findFits_r2 (i := 5) rfl, (List.forall_mem_cons.mpr ⟨wrr_wsX6_findFits_wsX6_findFits_r2 (i := 6) rfl, (List.forall_mem_cons.mpr ⟨wrr_wsX6_findFits_wsX6_findFits_r2 (i := 7) rfl, (List.forall_mem_cons.mpr ⟨wrr_wsX6_findFits_wsX6_findFits_r2 (i := 8) rfl, (List.forall_mem_cons.mpr ⟨wrr_wsX6_findFits_wsX6_findFits_r2 (i := 9) rfl, (List.forall_mem_cons.mpr ⟨wrr_wsX6_findFits_wsX6_findFits_r2 (i := 10) rfl, (List.forall_mem_cons.mpr ⟨wrr_wsX6_findFits_wsX6_findFits_r2 (i := 11) rfl, (List.forall_mem_cons.mpr ⟨wrr_wsX6_findFits_wsX6_findFits_r2 (i := 12) rfl, (fun _ h => absurd h List.not_mem_nil)⟩)⟩)⟩)⟩)⟩)⟩)⟩)⟩)⟩)⟩)⟩)⟩)⟩)⟩)⟩)⟩)⟩)⟩)⟩), wru_wsX6_findFits_wsX00⟩)⟩) gw_wsX6_stepIn
set_option maxRecDepth 20000 in
theorem gX6_findFits_X6_stepIn : GoodIn wsX6_findFits (va_wsS RX6 36 yX6_stepIn wsX6_stepIn) := goodIn_app (goodIn_sub (List.forall_mem_cons.mpr ⟨wrr_wsX6_findFits_wsX6_findFits_r1 (i := 18) rfl, (List.forall_mem_cons.mpr ⟨wrr_wsX6_findFits_wsX6_findFits_r1 (i := 19) rfl, (List.forall_mem_cons.mpr ⟨wrr_wsX6_findFits_wsX6_findFits_r1 (i := 9) rfl, (fun _ h => absurd h List.not_mem_nil)⟩)⟩)⟩) (by decide +kernel)) ggX6_findFits_X6_stepIn
set_option maxRecDepth 20000 in
theorem ggX6_findFits_X6_placeIn : GoodIn wsX6_findFits wsX6_placeIn := goodIn_sub (List.forall_mem_cons.mpr ⟨wrr_wsX6_findFits_wsX6_findFits_r1 (i := 23) rfl, (List.forall_mem_append.mpr ⟨(List.forall_mem_cons.mpr ⟨wrr_wsX6_findFits_wsX6_findFits_r2 (i := 0) rfl, (List.forall_mem_cons.mpr ⟨wrr_wsX6_findFits_wsX6_findFits_r1 (i := 11) rfl, (List.forall_mem_cons.mpr ⟨wrr_wsX6_findFits_wsX6_findFits_r2 (i := 1) rfl, (List.forall_mem_cons.mpr ⟨wrr_wsX6_findFits_wsX6_findFits_r1 (i := 13) rfl, (List.forall_mem_cons.mpr ⟨wrr_wsX6_findFits_wsX6_findFits_r2 (i := 2) rfl, (List.forall_mem_cons.mpr ⟨wrr_wsX6_findFits_wsX6_findFits_r2 (i := 3) rfl, (List.forall_mem_cons.mpr ⟨wrr_wsX6_findFits_wsX6_findFits_r2 (i := 4) rfl, (List.forall_mem_cons.mpr ⟨wrr_wsX6_findFits_wsX6_findFits_r2 (i := 5) rfl, (List.forall_mem_cons.mpr ⟨wrr_wsX6_findFits_wsX6_findFits_r2 (i := 6) rfl, (fun _ h => absurd h List.not_mem_nil)⟩)⟩)⟩)⟩)⟩)⟩)⟩)⟩)⟩), wru_wsX6_findFits_wsX00⟩)⟩) gw_wsX6_placeIn
set_option maxRecDepth 20000 in
theorem gX6_findFits_X6_placeIn : GoodIn wsX6_findFits (va_wsS RX6 28 yX6_placeIn wsX6_placeIn) := goodIn_app (goodIn_sub (List.forall_mem_cons.mpr ⟨wrr_wsX6_findFits_wsX6_findFits_r1 (i := 21) rfl, (List.forall_mem_cons.mpr ⟨wrr_wsX6_findFits_wsX6_findFits_r1 (i := 22) rfl, (List.forall_mem_cons.mpr ⟨wrr_wsX6_findFits_wsX6_findFits_r1 (i := 9) rfl, (fun _ h => absurd h List.not_mem_nil)⟩)⟩)⟩) (by decide +kernel)) ggX6_findFits_X6_placeIn
set_option maxRecDepth 20000 in
theorem gw_wsX6_metBy : wsX6_metBy.all goodWord = true := by decide +kernel
set_option maxRecDepth 20000 in
theorem ggX6_findFits_X6_metBy : GoodIn wsX6_findFits wsX6_metBy := goodIn_sub (List.forall_mem_cons.mpr ⟨wrr_wsX6_findFits_wsX6_findFits_r2 (i := 15) rfl, (List.forall_mem_append.mpr ⟨(List.forall_mem_cons.mpr ⟨wrr_wsX6_findFits_wsX6_findFits_r2 (i := 16) rfl, (List.forall_mem_cons.mpr ⟨wrr_wsX6_findFits_wsX6_findFits_r2 (i := 17) rfl, (List.forall_mem_cons.mpr ⟨wrr_wsX6_findFits_wsX6_findFits_r2 (i := 18) rfl, (List.forall_mem_cons.mpr ⟨wrr_wsX6_findFits_wsX6_findFits_r2 (i := 10) rfl, (List.forall_mem_cons.mpr ⟨wrr_wsX6_findFits_wsX6_findFits_r2 (i := 19) rfl, (List.forall_mem_cons.mpr ⟨wrr_wsX6_findFits_wsX6_findFits_r2 (i := 20) rfl, (fun _ h => absurd h List.not_mem_nil)⟩)⟩)⟩)⟩)⟩)⟩), wru_wsX6_findFits_wsX00⟩)⟩) gw_wsX6_metBy
set_option maxRecDepth 20000 in
theorem gX6_findFits_X6_metBy : GoodIn wsX6_findFits (va_wsS RX6 53 yX6_metBy wsX6_metBy) := goodIn_app (goodIn_sub (List.forall_mem_cons.mpr ⟨wrr_wsX6_findFits_wsX6_findFits_r2 (i := 13) rfl, (List.forall_mem_cons.mpr ⟨wrr_wsX6_findFits_wsX6_findFits_r2 (i := 14) rfl, (List.forall_mem_cons.mpr ⟨wrr_wsX6_findFits_wsX6_findFits_r1 (i := 9) rfl, (fun _ h => absurd h List.not_mem_nil)⟩)⟩)⟩) (by decide +kernel)) ggX6_findFits_X6_metBy
theorem dX6_findFits_0 : decode cX6_findFits 0 = .ok (.aload_n 0, 1) := by decide +kernel
theorem dX6_findFits_1 : decode cX6_findFits 1 = .ok (.getfield 9, 3) := by decide +kernel
theorem dX6_findFits_4 : decode cX6_findFits 4 = .ok (.bipush 63, 2) := by decide +kernel
theorem dX6_findFits_6 : decode cX6_findFits 6 = .ok (.invokestatic 47, 3) := by decide +kernel
theorem dX6_findFits_9 : decode cX6_findFits 9 = .ok (.aload_n 1, 1) := by decide +kernel
theorem dX6_findFits_10 : decode cX6_findFits 10 = .ok (.getfield 32, 3) := by decide +kernel
theorem dX6_findFits_13 : decode cX6_findFits 13 = .ok (.aload_n 1, 1) := by decide +kernel
theorem dX6_findFits_14 : decode cX6_findFits 14 = .ok (.invokestatic 24, 3) := by decide +kernel
theorem dX6_findFits_17 : decode cX6_findFits 17 = .ok (.iadd, 1) := by decide +kernel
theorem dX6_findFits_18 : decode cX6_findFits 18 = .ok (.istore_n 3, 1) := by decide +kernel
theorem dX6_findFits_19 : decode cX6_findFits 19 = .ok (.aload_n 1, 1) := by decide +kernel
theorem dX6_findFits_20 : decode cX6_findFits 20 = .ok (.getfield 32, 3) := by decide +kernel
theorem dX6_findFits_23 : decode cX6_findFits 23 = .ok (.istore 4, 2) := by decide +kernel
theorem dX6_findFits_25 : decode cX6_findFits 25 = .ok (.iload 4, 2) := by decide +kernel
theorem dX6_findFits_27 : decode cX6_findFits 27 = .ok (.iload_n 3, 1) := by decide +kernel
theorem dX6_findFits_28 : decode cX6_findFits 28 = .ok (.if_icmp .ge 70, 3) := by decide +kernel
theorem dX6_findFits_31 : decode cX6_findFits 31 = .ok (.aload_n 1, 1) := by decide +kernel
theorem dX6_findFits_32 : decode cX6_findFits 32 = .ok (.iconst 1, 1) := by decide +kernel
theorem dX6_findFits_33 : decode cX6_findFits 33 = .ok (.iload_n 2, 1) := by decide +kernel
theorem dX6_findFits_34 : decode cX6_findFits 34 = .ok (.isub, 1) := by decide +kernel
theorem dX6_findFits_35 : decode cX6_findFits 35 = .ok (.iload 4, 2) := by decide +kernel
theorem dX6_findFits_37 : decode cX6_findFits 37 = .ok (.aload_n 1, 1) := by decide +kernel
theorem dX6_findFits_38 : decode cX6_findFits 38 = .ok (.getfield 32, 3) := by decide +kernel
theorem dX6_findFits_41 : decode cX6_findFits 41 = .ok (.isub, 1) := by decide +kernel
theorem dX6_findFits_42 : decode cX6_findFits 42 = .ok (.invokestatic 36, 3) := by decide +kernel
theorem dX6_findFits_45 : decode cX6_findFits 45 = .ok (.istore 5, 2) := by decide +kernel
theorem dX6_findFits_47 : decode cX6_findFits 47 = .ok (.aload_n 1, 1) := by decide +kernel
theorem dX6_findFits_48 : decode cX6_findFits 48 = .ok (.iconst 1, 1) := by decide +kernel
theorem dX6_findFits_49 : decode cX6_findFits 49 = .ok (.iload_n 2, 1) := by decide +kernel
theorem dX6_findFits_50 : decode cX6_findFits 50 = .ok (.isub, 1) := by decide +kernel
theorem dX6_findFits_51 : decode cX6_findFits 51 = .ok (.iload 4, 2) := by decide +kernel
theorem dX6_findFits_53 : decode cX6_findFits 53 = .ok (.aload_n 1, 1) := by decide +kernel
theorem dX6_findFits_54 : decode cX6_findFits 54 = .ok (.getfield 32, 3) := by decide +kernel
theorem dX6_findFits_57 : decode cX6_findFits 57 = .ok (.iadd, 1) := by decide +kernel
theorem dX6_findFits_58 : decode cX6_findFits 58 = .ok (.invokestatic 36, 3) := by decide +kernel
theorem dX6_findFits_61 : decode cX6_findFits 61 = .ok (.istore 6, 2) := by decide +kernel
theorem dX6_findFits_63 : decode cX6_findFits 63 = .ok (.aload_n 0, 1) := by decide +kernel
theorem dX6_findFits_64 : decode cX6_findFits 64 = .ok (.getfield 9, 3) := by decide +kernel
theorem dX6_findFits_67 : decode cX6_findFits 67 = .ok (.aload_n 1, 1) := by decide +kernel
theorem dX6_findFits_68 : decode cX6_findFits 68 = .ok (.iload_n 2, 1) := by decide +kernel
theorem dX6_findFits_69 : decode cX6_findFits 69 = .ok (.iload 4, 2) := by decide +kernel
theorem dX6_findFits_71 : decode cX6_findFits 71 = .ok (.invokestatic 28, 3) := by decide +kernel
theorem dX6_findFits_74 : decode cX6_findFits 74 = .ok (.dup2, 1) := by decide +kernel
theorem dX6_findFits_75 : decode cX6_findFits 75 = .ok (.iaload, 1) := by decide +kernel
theorem dX6_findFits_76 : decode cX6_findFits 76 = .ok (.aload_n 1, 1) := by decide +kernel
theorem dX6_findFits_77 : decode cX6_findFits 77 = .ok (.iload 5, 2) := by decide +kernel
theorem dX6_findFits_79 : decode cX6_findFits 79 = .ok (.invokestatic 53, 3) := by decide +kernel
theorem dX6_findFits_82 : decode cX6_findFits 82 = .ok (.aload_n 1, 1) := by decide +kernel
theorem dX6_findFits_83 : decode cX6_findFits 83 = .ok (.getfield 56, 3) := by decide +kernel
theorem dX6_findFits_86 : decode cX6_findFits 86 = .ok (.iload 6, 2) := by decide +kernel
theorem dX6_findFits_88 : decode cX6_findFits 88 = .ok (.iaload, 1) := by decide +kernel
theorem dX6_findFits_89 : decode cX6_findFits 89 = .ok (.iand, 1) := by decide +kernel
theorem dX6_findFits_90 : decode cX6_findFits 90 = .ok (.iand, 1) := by decide +kernel
theorem dX6_findFits_91 : decode cX6_findFits 91 = .ok (.iastore, 1) := by decide +kernel
theorem dX6_findFits_92 : decode cX6_findFits 92 = .ok (.iinc 4 1, 3) := by decide +kernel
theorem dX6_findFits_95 : decode cX6_findFits 95 = .ok (.goto (-70), 3) := by decide +kernel
theorem dX6_findFits_98 : decode cX6_findFits 98 = .ok (.return_, 1) := by decide +kernel
theorem dX6_firstStuck_0 : decode cX6_firstStuck 0 = .ok (.iconst 0, 1) := by decide +kernel
theorem dX6_firstStuck_1 : decode cX6_firstStuck 1 = .ok (.istore_n 3, 1) := by decide +kernel
theorem dX6_firstStuck_2 : decode cX6_firstStuck 2 = .ok (.iload_n 3, 1) := by decide +kernel
theorem dX6_firstStuck_3 : decode cX6_firstStuck 3 = .ok (.aload_n 1, 1) := by decide +kernel
theorem dX6_firstStuck_4 : decode cX6_firstStuck 4 = .ok (.getfield 15, 3) := by decide +kernel
theorem dX6_firstStuck_7 : decode cX6_firstStuck 7 = .ok (.iload_n 2, 1) := by decide +kernel
theorem dX6_firstStuck_8 : decode cX6_firstStuck 8 = .ok (.iaload, 1) := by decide +kernel
theorem dX6_firstStuck_9 : decode cX6_firstStuck 9 = .ok (.if_icmp .ge 20, 3) := by decide +kernel
theorem dX6_firstStuck_12 : decode cX6_firstStuck 12 = .ok (.aload_n 0, 1) := by decide +kernel
theorem dX6_firstStuck_13 : decode cX6_firstStuck 13 = .ok (.getfield 9, 3) := by decide +kernel
theorem dX6_firstStuck_16 : decode cX6_firstStuck 16 = .ok (.iload_n 3, 1) := by decide +kernel
theorem dX6_firstStuck_17 : decode cX6_firstStuck 17 = .ok (.iaload, 1) := by decide +kernel
theorem dX6_firstStuck_18 : decode cX6_firstStuck 18 = .ok (.ifCond .ne 5, 3) := by decide +kernel
theorem dX6_firstStuck_21 : decode cX6_firstStuck 21 = .ok (.iload_n 3, 1) := by decide +kernel
theorem dX6_firstStuck_22 : decode cX6_firstStuck 22 = .ok (.ireturn, 1) := by decide +kernel
theorem dX6_firstStuck_23 : decode cX6_firstStuck 23 = .ok (.iinc 3 1, 3) := by decide +kernel
theorem dX6_firstStuck_26 : decode cX6_firstStuck 26 = .ok (.goto (-24), 3) := by decide +kernel
theorem dX6_firstStuck_29 : decode cX6_firstStuck 29 = .ok (.iconst (-1), 1) := by decide +kernel
theorem dX6_firstStuck_30 : decode cX6_firstStuck 30 = .ok (.ireturn, 1) := by decide +kernel
theorem wrr_wsX6_fitting {i : Nat} {w : Cond} (h : wsX6_fitting[i]? = some w) : w ∈ wsX6_fitting := List.mem_of_getElem? h
theorem wru_wsX6_fitting_wsX60 : ∀ w ∈ wsX60, w ∈ wsX6_fitting := fun w h => (List.mem_cons_of_mem _ (List.mem_append_left _ (List.mem_append_right _ h)))
theorem wru_wsX6_fitting_wsX00 : ∀ w ∈ wsX00, w ∈ wsX6_fitting := fun w h => (List.mem_cons_of_mem _ (List.mem_append_right _ h))
set_option maxRecDepth 20000 in
theorem ggX6_fitting_X0_stepAt : GoodIn wsX6_fitting wsX0_stepAt := goodIn_sub (List.forall_mem_cons.mpr ⟨wrr_wsX6_fitting (i := 6) rfl, (List.forall_mem_append.mpr ⟨(List.forall_mem_cons.mpr ⟨wrr_wsX6_fitting (i := 7) rfl, (fun _ h => absurd h List.not_mem_nil)⟩), wru_wsX6_fitting_wsX00⟩)⟩) gw_wsX0_stepAt
set_option maxRecDepth 20000 in
theorem gX6_fitting_X0_stepAt : GoodIn wsX6_fitting (wsV RX6 59 RX0 yX0_stepAt wsX0_stepAt) := goodIn_app (goodIn_sub (List.forall_mem_cons.mpr ⟨wrr_wsX6_fitting (i := 2) rfl, (List.forall_mem_cons.mpr ⟨wrr_wsX6_fitting (i := 3) rfl, (List.forall_mem_cons.mpr ⟨wrr_wsX6_fitting (i := 4) rfl, (List.forall_mem_cons.mpr ⟨wrr_wsX6_fitting (i := 5) rfl, (fun _ h => absurd h List.not_mem_nil)⟩)⟩)⟩)⟩) (by decide +kernel)) ggX6_fitting_X0_stepAt
set_option maxRecDepth 20000 in
theorem gw_wsJ6_numberOfTrailingZeros_0f7a4 : wsJ6_numberOfTrailingZeros_0f7a4.all goodWord = true := by decide +kernel
set_option maxRecDepth 20000 in
theorem ggX6_fitting_J6_numberOfTrailingZeros_0f7a4 : GoodIn wsX6_fitting wsJ6_numberOfTrailingZeros_0f7a4 := goodIn_sub (List.forall_mem_cons.mpr ⟨wrr_wsX6_fitting (i := 11) rfl, (List.forall_mem_cons.mpr ⟨wrr_wsX6_fitting (i := 12) rfl, (fun _ h => absurd h List.not_mem_nil)⟩)⟩) gw_wsJ6_numberOfTrailingZeros_0f7a4
set_option maxRecDepth 20000 in
theorem gX6_fitting_J6_numberOfTrailingZeros_0f7a4 : GoodIn wsX6_fitting (va_wsS RX6 63 yJ6_numberOfTrailingZeros_0f7a4 wsJ6_numberOfTrailingZeros_0f7a4) := goodIn_app (goodIn_sub (List.forall_mem_cons.mpr ⟨wrr_wsX6_fitting (i := 8) rfl, (List.forall_mem_cons.mpr ⟨wrr_wsX6_fitting (i := 9) rfl, (List.forall_mem_cons.mpr ⟨wrr_wsX6_fitting (i := 10) rfl, (fun _ h => absurd h List.not_mem_nil)⟩)⟩)⟩) (by decide +kernel)) ggX6_fitting_J6_numberOfTrailingZeros_0f7a4
theorem dX6_fitting_0 : decode cX6_fitting 0 = .ok (.aload_n 1, 1) := by decide +kernel
theorem dX6_fitting_1 : decode cX6_fitting 1 = .ok (.iload_n 2, 1) := by decide +kernel
theorem dX6_fitting_2 : decode cX6_fitting 2 = .ok (.iload_n 3, 1) := by decide +kernel
theorem dX6_fitting_3 : decode cX6_fitting 3 = .ok (.invokevirtual 59, 3) := by decide +kernel
theorem dX6_fitting_6 : decode cX6_fitting 6 = .ok (.istore 4, 2) := by decide +kernel
theorem dX6_fitting_8 : decode cX6_fitting 8 = .ok (.aload_n 0, 1) := by decide +kernel
theorem dX6_fitting_9 : decode cX6_fitting 9 = .ok (.getfield 9, 3) := by decide +kernel
theorem dX6_fitting_12 : decode cX6_fitting 12 = .ok (.iload_n 3, 1) := by decide +kernel
theorem dX6_fitting_13 : decode cX6_fitting 13 = .ok (.iaload, 1) := by decide +kernel
theorem dX6_fitting_14 : decode cX6_fitting 14 = .ok (.iload 4, 2) := by decide +kernel
theorem dX6_fitting_16 : decode cX6_fitting 16 = .ok (.ishr, 1) := by decide +kernel
theorem dX6_fitting_17 : decode cX6_fitting 17 = .ok (.iconst 1, 1) := by decide +kernel
theorem dX6_fitting_18 : decode cX6_fitting 18 = .ok (.iand, 1) := by decide +kernel
theorem dX6_fitting_19 : decode cX6_fitting 19 = .ok (.ifCond .eq 7, 3) := by decide +kernel
theorem dX6_fitting_22 : decode cX6_fitting 22 = .ok (.iconst 1, 1) := by decide +kernel
theorem dX6_fitting_23 : decode cX6_fitting 23 = .ok (.goto 4, 3) := by decide +kernel
theorem dX6_fitting_26 : decode cX6_fitting 26 = .ok (.iconst 0, 1) := by decide +kernel
theorem dX6_fitting_27 : decode cX6_fitting 27 = .ok (.istore 5, 2) := by decide +kernel
theorem dX6_fitting_29 : decode cX6_fitting 29 = .ok (.iload 5, 2) := by decide +kernel
theorem dX6_fitting_31 : decode cX6_fitting 31 = .ok (.ifCond .eq 8, 3) := by decide +kernel
theorem dX6_fitting_34 : decode cX6_fitting 34 = .ok (.iload 4, 2) := by decide +kernel
theorem dX6_fitting_36 : decode cX6_fitting 36 = .ok (.goto 12, 3) := by decide +kernel
theorem dX6_fitting_39 : decode cX6_fitting 39 = .ok (.aload_n 0, 1) := by decide +kernel
theorem dX6_fitting_40 : decode cX6_fitting 40 = .ok (.getfield 9, 3) := by decide +kernel
theorem dX6_fitting_43 : decode cX6_fitting 43 = .ok (.iload_n 3, 1) := by decide +kernel
theorem dX6_fitting_44 : decode cX6_fitting 44 = .ok (.iaload, 1) := by decide +kernel
theorem dX6_fitting_45 : decode cX6_fitting 45 = .ok (.invokestatic 63, 3) := by decide +kernel
theorem dX6_fitting_48 : decode cX6_fitting 48 = .ok (.ireturn, 1) := by decide +kernel
theorem wrr_wsX6_countChanged {i : Nat} {w : Cond} (h : wsX6_countChanged[i]? = some w) : w ∈ wsX6_countChanged := List.mem_of_getElem? h
theorem wru_wsX6_countChanged_wsX00 : ∀ w ∈ wsX00, w ∈ wsX6_countChanged := fun w h => (List.mem_cons_of_mem _ (List.mem_append_left _ (List.mem_append_right _ h)))
theorem wru_wsX6_countChanged_wsX60 : ∀ w ∈ wsX60, w ∈ wsX6_countChanged := fun w h => (List.mem_cons_of_mem _ (List.mem_append_right _ h))
set_option maxRecDepth 20000 in
theorem gw_wsX6_fitting : wsX6_fitting.all goodWord = true := by decide +kernel
set_option maxRecDepth 20000 in
theorem ggX6_countChanged_X6_fitting : GoodIn wsX6_countChanged wsX6_fitting := goodIn_sub (List.forall_mem_cons.mpr ⟨wrr_wsX6_countChanged (i := 6) rfl, (List.forall_mem_append.mpr ⟨(List.forall_mem_append.mpr ⟨(List.forall_mem_cons.mpr ⟨wrr_wsX6_countChanged (i := 7) rfl, (List.forall_mem_cons.mpr ⟨wrr_wsX6_countChanged (i := 8) rfl, (List.forall_mem_cons.mpr ⟨wrr_wsX6_countChanged (i := 9) rfl, (List.forall_mem_cons.mpr ⟨wrr_wsX6_countChanged (i := 10) rfl, (List.forall_mem_cons.mpr ⟨wrr_wsX6_countChanged (i := 11) rfl, (List.forall_mem_cons.mpr ⟨wrr_wsX6_countChanged (i := 12) rfl, (List.forall_mem_cons.mpr ⟨wrr_wsX6_countChanged (i := 13) rfl, (List.forall_mem_cons.mpr ⟨wrr_wsX6_countChanged (i := 14) rfl, (List.forall_mem_cons.mpr ⟨wrr_wsX6_countChanged (i := 15) rfl, (List.forall_mem_cons.mpr ⟨wrr_wsX6_countChanged (i := 16) rfl, (List.forall_mem_cons.mpr ⟨wrr_wsX6_countChanged (i := 17) rfl, (List.forall_mem_cons.mpr ⟨wrr_wsX6_countChanged (i := 18) rfl, (fun _ h => absurd h List.not_mem_nil)⟩)⟩)⟩)⟩)⟩)⟩)⟩)⟩)⟩)⟩)⟩)⟩), wru_wsX6_countChanged_wsX60⟩), wru_wsX6_countChanged_wsX00⟩)⟩) gw_wsX6_fitting
set_option maxRecDepth 20000 in
theorem gX6_countChanged_X6_fitting : GoodIn wsX6_countChanged (wsV RX6 69 RX6 yX6_fitting wsX6_fitting) := goodIn_app (goodIn_sub (List.forall_mem_cons.mpr ⟨wrr_wsX6_countChanged (i := 2) rfl, (List.forall_mem_cons.mpr ⟨wrr_wsX6_countChanged (i := 3) rfl, (List.forall_mem_cons.mpr ⟨wrr_wsX6_countChanged (i := 4) rfl, (List.forall_mem_cons.mpr ⟨wrr_wsX6_countChanged (i := 5) rfl, (fun _ h => absurd h List.not_mem_nil)⟩)⟩)⟩)⟩) (by decide +kernel)) ggX6_countChanged_X6_fitting
set_option maxRecDepth 20000 in
theorem ggX6_countChanged_X0_stepAt : GoodIn wsX6_countChanged wsX0_stepAt := goodIn_sub (List.forall_mem_cons.mpr ⟨wrr_wsX6_countChanged (i := 12) rfl, (List.forall_mem_append.mpr ⟨(List.forall_mem_cons.mpr ⟨wrr_wsX6_countChanged (i := 13) rfl, (fun _ h => absurd h List.not_mem_nil)⟩), wru_wsX6_countChanged_wsX00⟩)⟩) gw_wsX0_stepAt
set_option maxRecDepth 20000 in
theorem gX6_countChanged_X0_stepAt : GoodIn wsX6_countChanged (wsV RX6 59 RX0 yX0_stepAt wsX0_stepAt) := goodIn_app (goodIn_sub (List.forall_mem_cons.mpr ⟨wrr_wsX6_countChanged (i := 8) rfl, (List.forall_mem_cons.mpr ⟨wrr_wsX6_countChanged (i := 9) rfl, (List.forall_mem_cons.mpr ⟨wrr_wsX6_countChanged (i := 10) rfl, (List.forall_mem_cons.mpr ⟨wrr_wsX6_countChanged (i := 11) rfl, (fun _ h => absurd h List.not_mem_nil)⟩)⟩)⟩)⟩) (by decide +kernel)) ggX6_countChanged_X0_stepAt
theorem dX6_countChanged_0 : decode cX6_countChanged 0 = .ok (.iconst 0, 1) := by decide +kernel
theorem dX6_countChanged_1 : decode cX6_countChanged 1 = .ok (.istore_n 3, 1) := by decide +kernel
theorem dX6_countChanged_2 : decode cX6_countChanged 2 = .ok (.iconst 0, 1) := by decide +kernel
theorem dX6_countChanged_3 : decode cX6_countChanged 3 = .ok (.istore 4, 2) := by decide +kernel
theorem dX6_countChanged_5 : decode cX6_countChanged 5 = .ok (.iload 4, 2) := by decide +kernel
theorem dX6_countChanged_7 : decode cX6_countChanged 7 = .ok (.aload_n 1, 1) := by decide +kernel
theorem dX6_countChanged_8 : decode cX6_countChanged 8 = .ok (.getfield 15, 3) := by decide +kernel
theorem dX6_countChanged_11 : decode cX6_countChanged 11 = .ok (.iload_n 2, 1) := by decide +kernel
theorem dX6_countChanged_12 : decode cX6_countChanged 12 = .ok (.iaload, 1) := by decide +kernel
theorem dX6_countChanged_13 : decode cX6_countChanged 13 = .ok (.if_icmp .ge 30, 3) := by decide +kernel
theorem dX6_countChanged_16 : decode cX6_countChanged 16 = .ok (.aload_n 0, 1) := by decide +kernel
theorem dX6_countChanged_17 : decode cX6_countChanged 17 = .ok (.aload_n 1, 1) := by decide +kernel
theorem dX6_countChanged_18 : decode cX6_countChanged 18 = .ok (.iload_n 2, 1) := by decide +kernel
theorem dX6_countChanged_19 : decode cX6_countChanged 19 = .ok (.iload 4, 2) := by decide +kernel
theorem dX6_countChanged_21 : decode cX6_countChanged 21 = .ok (.invokevirtual 69, 3) := by decide +kernel
theorem dX6_countChanged_24 : decode cX6_countChanged 24 = .ok (.aload_n 1, 1) := by decide +kernel
theorem dX6_countChanged_25 : decode cX6_countChanged 25 = .ok (.iload_n 2, 1) := by decide +kernel
theorem dX6_countChanged_26 : decode cX6_countChanged 26 = .ok (.iload 4, 2) := by decide +kernel
theorem dX6_countChanged_28 : decode cX6_countChanged 28 = .ok (.invokevirtual 59, 3) := by decide +kernel
theorem dX6_countChanged_31 : decode cX6_countChanged 31 = .ok (.if_icmp .eq 6, 3) := by decide +kernel
theorem dX6_countChanged_34 : decode cX6_countChanged 34 = .ok (.iinc 3 1, 3) := by decide +kernel
theorem dX6_countChanged_37 : decode cX6_countChanged 37 = .ok (.iinc 4 1, 3) := by decide +kernel
theorem dX6_countChanged_40 : decode cX6_countChanged 40 = .ok (.goto (-35), 3) := by decide +kernel
theorem dX6_countChanged_43 : decode cX6_countChanged 43 = .ok (.iload_n 3, 1) := by decide +kernel
theorem dX6_countChanged_44 : decode cX6_countChanged 44 = .ok (.ireturn, 1) := by decide +kernel
theorem wrr_wsX6_metBy {i : Nat} {w : Cond} (h : wsX6_metBy[i]? = some w) : w ∈ wsX6_metBy := List.mem_of_getElem? h
theorem wru_wsX6_metBy_wsX00 : ∀ w ∈ wsX00, w ∈ wsX6_metBy := fun w h => (List.mem_cons_of_mem _ (List.mem_append_right _ h))
set_option maxRecDepth 20000 in
theorem ggX6_metBy_X0_mayMeet : GoodIn wsX6_metBy wsX0_mayMeet := goodIn_sub (List.forall_mem_cons.mpr ⟨wrr_wsX6_metBy (i := 5) rfl, (List.forall_mem_append.mpr ⟨(List.forall_mem_cons.mpr ⟨wrr_wsX6_metBy (i := 6) rfl, (fun _ h => absurd h List.not_mem_nil)⟩), wru_wsX6_metBy_wsX00⟩)⟩) gw_wsX0_mayMeet
set_option maxRecDepth 20000 in
theorem gX6_metBy_X0_mayMeet : GoodIn wsX6_metBy (wsV RX6 72 RX0 yX0_mayMeet wsX0_mayMeet) := goodIn_app (goodIn_sub (List.forall_mem_cons.mpr ⟨wrr_wsX6_metBy (i := 1) rfl, (List.forall_mem_cons.mpr ⟨wrr_wsX6_metBy (i := 2) rfl, (List.forall_mem_cons.mpr ⟨wrr_wsX6_metBy (i := 3) rfl, (List.forall_mem_cons.mpr ⟨wrr_wsX6_metBy (i := 4) rfl, (fun _ h => absurd h List.not_mem_nil)⟩)⟩)⟩)⟩) (by decide +kernel)) ggX6_metBy_X0_mayMeet
theorem dX6_metBy_0 : decode cX6_metBy 0 = .ok (.iconst 0, 1) := by decide +kernel
theorem dX6_metBy_1 : decode cX6_metBy 1 = .ok (.istore_n 2, 1) := by decide +kernel
theorem dX6_metBy_2 : decode cX6_metBy 2 = .ok (.iconst 0, 1) := by decide +kernel
theorem dX6_metBy_3 : decode cX6_metBy 3 = .ok (.istore_n 3, 1) := by decide +kernel
theorem dX6_metBy_4 : decode cX6_metBy 4 = .ok (.iload_n 3, 1) := by decide +kernel
theorem dX6_metBy_5 : decode cX6_metBy 5 = .ok (.bipush 6, 2) := by decide +kernel
theorem dX6_metBy_7 : decode cX6_metBy 7 = .ok (.if_icmp .ge 24, 3) := by decide +kernel
theorem dX6_metBy_10 : decode cX6_metBy 10 = .ok (.aload_n 0, 1) := by decide +kernel
theorem dX6_metBy_11 : decode cX6_metBy 11 = .ok (.iload_n 1, 1) := by decide +kernel
theorem dX6_metBy_12 : decode cX6_metBy 12 = .ok (.iload_n 3, 1) := by decide +kernel
theorem dX6_metBy_13 : decode cX6_metBy 13 = .ok (.invokevirtual 72, 3) := by decide +kernel
theorem dX6_metBy_16 : decode cX6_metBy 16 = .ok (.ifCond .eq 9, 3) := by decide +kernel
theorem dX6_metBy_19 : decode cX6_metBy 19 = .ok (.iload_n 2, 1) := by decide +kernel
theorem dX6_metBy_20 : decode cX6_metBy 20 = .ok (.iconst 1, 1) := by decide +kernel
theorem dX6_metBy_21 : decode cX6_metBy 21 = .ok (.iload_n 3, 1) := by decide +kernel
theorem dX6_metBy_22 : decode cX6_metBy 22 = .ok (.ishl, 1) := by decide +kernel
theorem dX6_metBy_23 : decode cX6_metBy 23 = .ok (.ior, 1) := by decide +kernel
theorem dX6_metBy_24 : decode cX6_metBy 24 = .ok (.istore_n 2, 1) := by decide +kernel
theorem dX6_metBy_25 : decode cX6_metBy 25 = .ok (.iinc 3 1, 3) := by decide +kernel
theorem dX6_metBy_28 : decode cX6_metBy 28 = .ok (.goto (-24), 3) := by decide +kernel
theorem dX6_metBy_31 : decode cX6_metBy 31 = .ok (.iload_n 2, 1) := by decide +kernel
theorem dX6_metBy_32 : decode cX6_metBy 32 = .ok (.ireturn, 1) := by decide +kernel
theorem wrr_wsX6_placeIn {i : Nat} {w : Cond} (h : wsX6_placeIn[i]? = some w) : w ∈ wsX6_placeIn := List.mem_of_getElem? h
theorem wru_wsX6_placeIn_wsX00 : ∀ w ∈ wsX00, w ∈ wsX6_placeIn := fun w h => (List.mem_cons_of_mem _ (List.mem_append_right _ h))
set_option maxRecDepth 20000 in
theorem ggX6_placeIn_X11_wrap : GoodIn wsX6_placeIn wsX11_wrap := goodIn_sub (List.forall_mem_cons.mpr ⟨wrr_wsX6_placeIn (i := 5) rfl, (List.forall_mem_cons.mpr ⟨wrr_wsX6_placeIn (i := 6) rfl, (List.forall_mem_cons.mpr ⟨wrr_wsX6_placeIn (i := 7) rfl, (List.forall_mem_cons.mpr ⟨wrr_wsX6_placeIn (i := 8) rfl, (List.forall_mem_cons.mpr ⟨wrr_wsX6_placeIn (i := 9) rfl, (fun _ h => absurd h List.not_mem_nil)⟩)⟩)⟩)⟩)⟩) gw_wsX11_wrap
set_option maxRecDepth 20000 in
theorem gX6_placeIn_X11_wrap_n78 : GoodIn wsX6_placeIn (wsX11_wrap) := ggX6_placeIn_X11_wrap
theorem dX6_placeIn_0 : decode cX6_placeIn 0 = .ok (.aload_n 0, 1) := by decide +kernel
theorem dX6_placeIn_1 : decode cX6_placeIn 1 = .ok (.getfield 75, 3) := by decide +kernel
theorem dX6_placeIn_4 : decode cX6_placeIn 4 = .ok (.iload_n 1, 1) := by decide +kernel
theorem dX6_placeIn_5 : decode cX6_placeIn 5 = .ok (.iaload, 1) := by decide +kernel
theorem dX6_placeIn_6 : decode cX6_placeIn 6 = .ok (.iload_n 2, 1) := by decide +kernel
theorem dX6_placeIn_7 : decode cX6_placeIn 7 = .ok (.iadd, 1) := by decide +kernel
theorem dX6_placeIn_8 : decode cX6_placeIn 8 = .ok (.aload_n 0, 1) := by decide +kernel
theorem dX6_placeIn_9 : decode cX6_placeIn 9 = .ok (.getfield 15, 3) := by decide +kernel
theorem dX6_placeIn_12 : decode cX6_placeIn 12 = .ok (.iload_n 1, 1) := by decide +kernel
theorem dX6_placeIn_13 : decode cX6_placeIn 13 = .ok (.iaload, 1) := by decide +kernel
theorem dX6_placeIn_14 : decode cX6_placeIn 14 = .ok (.invokestatic 78, 3) := by decide +kernel
theorem dX6_placeIn_17 : decode cX6_placeIn 17 = .ok (.ireturn, 1) := by decide +kernel
theorem wrr_wsX6_stepIn {i : Nat} {w : Cond} (h : wsX6_stepIn[i]? = some w) : w ∈ wsX6_stepIn := List.mem_of_getElem? h
theorem wru_wsX6_stepIn_wsX00 : ∀ w ∈ wsX00, w ∈ wsX6_stepIn := fun w h => (List.mem_cons_of_mem _ (List.mem_append_right _ h))
set_option maxRecDepth 20000 in
theorem ggX6_stepIn_X6_placeIn : GoodIn wsX6_stepIn wsX6_placeIn := goodIn_sub (List.forall_mem_cons.mpr ⟨wrr_wsX6_stepIn (i := 4) rfl, (List.forall_mem_append.mpr ⟨(List.forall_mem_cons.mpr ⟨wrr_wsX6_stepIn (i := 5) rfl, (List.forall_mem_cons.mpr ⟨wrr_wsX6_stepIn (i := 6) rfl, (List.forall_mem_cons.mpr ⟨wrr_wsX6_stepIn (i := 7) rfl, (List.forall_mem_cons.mpr ⟨wrr_wsX6_stepIn (i := 8) rfl, (List.forall_mem_cons.mpr ⟨wrr_wsX6_stepIn (i := 9) rfl, (List.forall_mem_cons.mpr ⟨wrr_wsX6_stepIn (i := 10) rfl, (List.forall_mem_cons.mpr ⟨wrr_wsX6_stepIn (i := 11) rfl, (List.forall_mem_cons.mpr ⟨wrr_wsX6_stepIn (i := 12) rfl, (List.forall_mem_cons.mpr ⟨wrr_wsX6_stepIn (i := 13) rfl, (fun _ h => absurd h List.not_mem_nil)⟩)⟩)⟩)⟩)⟩)⟩)⟩)⟩)⟩), wru_wsX6_stepIn_wsX00⟩)⟩) gw_wsX6_placeIn
set_option maxRecDepth 20000 in
theorem gX6_stepIn_X6_placeIn : GoodIn wsX6_stepIn (va_wsS RX6 28 yX6_placeIn wsX6_placeIn) := goodIn_app (goodIn_sub (List.forall_mem_cons.mpr ⟨wrr_wsX6_stepIn (i := 1) rfl, (List.forall_mem_cons.mpr ⟨wrr_wsX6_stepIn (i := 2) rfl, (List.forall_mem_cons.mpr ⟨wrr_wsX6_stepIn (i := 3) rfl, (fun _ h => absurd h List.not_mem_nil)⟩)⟩)⟩) (by decide +kernel)) ggX6_stepIn_X6_placeIn
set_option maxRecDepth 20000 in
theorem ggX6_stepIn_X0_stepAt : GoodIn wsX6_stepIn wsX0_stepAt := goodIn_sub (List.forall_mem_cons.mpr ⟨wrr_wsX6_stepIn (i := 18) rfl, (List.forall_mem_append.mpr ⟨(List.forall_mem_cons.mpr ⟨wrr_wsX6_stepIn (i := 19) rfl, (fun _ h => absurd h List.not_mem_nil)⟩), wru_wsX6_stepIn_wsX00⟩)⟩) gw_wsX0_stepAt
set_option maxRecDepth 20000 in
theorem gX6_stepIn_X0_stepAt : GoodIn wsX6_stepIn (wsV RX6 59 RX0 yX0_stepAt wsX0_stepAt) := goodIn_app (goodIn_sub (List.forall_mem_cons.mpr ⟨wrr_wsX6_stepIn (i := 14) rfl, (List.forall_mem_cons.mpr ⟨wrr_wsX6_stepIn (i := 15) rfl, (List.forall_mem_cons.mpr ⟨wrr_wsX6_stepIn (i := 16) rfl, (List.forall_mem_cons.mpr ⟨wrr_wsX6_stepIn (i := 17) rfl, (fun _ h => absurd h List.not_mem_nil)⟩)⟩)⟩)⟩) (by decide +kernel)) ggX6_stepIn_X0_stepAt
theorem dX6_stepIn_0 : decode cX6_stepIn 0 = .ok (.aload_n 0, 1) := by decide +kernel
theorem dX6_stepIn_1 : decode cX6_stepIn 1 = .ok (.iload_n 1, 1) := by decide +kernel
theorem dX6_stepIn_2 : decode cX6_stepIn 2 = .ok (.aload_n 0, 1) := by decide +kernel
theorem dX6_stepIn_3 : decode cX6_stepIn 3 = .ok (.iload_n 1, 1) := by decide +kernel
theorem dX6_stepIn_4 : decode cX6_stepIn 4 = .ok (.iload_n 2, 1) := by decide +kernel
theorem dX6_stepIn_5 : decode cX6_stepIn 5 = .ok (.invokestatic 28, 3) := by decide +kernel
theorem dX6_stepIn_8 : decode cX6_stepIn 8 = .ok (.invokevirtual 59, 3) := by decide +kernel
theorem dX6_stepIn_11 : decode cX6_stepIn 11 = .ok (.ireturn, 1) := by decide +kernel
