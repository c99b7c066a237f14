abbrev cX1_lay : ByteArray := prog_3_method_2_code
def yX1_lay : MethodName := ⟨RX1, "lay", "(LOverHill$Dance;I)V"⟩
abbrev cX1_findStumbles : ByteArray := prog_3_method_3_code
def yX1_findStumbles : MethodName := ⟨RX1, "findStumbles", "(LOverHill$Dance;II)V"⟩
abbrev cX1_laySide : ByteArray := prog_3_method_4_code
def yX1_laySide : MethodName := ⟨RX1, "laySide", "(LOverHill$Dance;I)V"⟩
abbrev cX1_placeOf : ByteArray := prog_3_method_5_code
def yX1_placeOf : MethodName := ⟨RX1, "placeOf", "(II)I"⟩
abbrev cX1_stepOf : ByteArray := prog_3_method_6_code
def yX1_stepOf : MethodName := ⟨RX1, "stepOf", "(II)I"⟩
abbrev cX1_heardBy : ByteArray := prog_3_method_7_code
def yX1_heardBy : MethodName := ⟨RX1, "heardBy", "(II)I"⟩
abbrev cX1_gapes : ByteArray := prog_3_method_8_code
def yX1_gapes : MethodName := ⟨RX1, "gapes", "(LOverHill$Dance;II)Z"⟩
abbrev cX1_countHoles : ByteArray := prog_3_method_9_code
def yX1_countHoles : MethodName := ⟨RX1, "countHoles", "(LOverHill$Dance;III)I"⟩
abbrev cX1_countAllHoles : ByteArray := prog_3_method_10_code
def yX1_countAllHoles : MethodName := ⟨RX1, "countAllHoles", "(LOverHill$Dance;)I"⟩
abbrev cX1_findCalm : ByteArray := prog_3_method_11_code
def yX1_findCalm : MethodName := ⟨RX1, "findCalm", "(LOverHill$Dance;II)V"⟩
def wsX1_findStumbles : List Cond := .code yX1_findStumbles cX1_findStumbles 6 none :: ([.fieldLink RX1 18 "OverHill$Floor" "stumbleIn" "[I", .fieldLink RX1 42 "OverHill$Dance" "stumbleCount" "I", .fieldLink RX1 45 "OverHill$Dance" "stumbles" "[I", .methodLink RX1 36 yJ7_fill_53178, .static yJ7_fill_53178, .initialized RJ7, .code yJ7_fill_53178 cJ7_fill_53178 4 none] ++ wsX10 ++ wsX00)
def wsX1_laySide : List Cond := .code yX1_laySide cX1_laySide 10 none :: ([.fieldLink RX1 48 "OverHill$Dance" "lengths" "[I", .fieldLink RX1 51 "OverHill$Dance" "starts" "[I", .fieldLink RX1 9 "OverHill$Floor" "places" "[I", .fieldLink RX1 15 "OverHill$Floor" "steps" "[I", .fieldLink RX1 54 "OverHill$Dance" "muds" "[I", .fieldLink RX1 18 "OverHill$Floor" "stumbleIn" "[I", .fieldLink RX1 45 "OverHill$Dance" "stumbles" "[I", .methodLink RX1 57 yX0_stepAt, .instanceMethod yX0_stepAt, .selects RX0 yX0_stepAt yX0_stepAt, .initialized RX0, .code yX0_stepAt cX0_stepAt 3 (some .int), .fieldLink RX0 9 "OverHill$Dance" "steps" "[I", .static yX11_wrap, .initialized RX11, .code yX11_wrap cX11_wrap 2 (some .int), .methodLink RX11 451 yJ9_floorMod_7cf53, .static yJ9_floorMod_7cf53, .initialized RJ9, .code yJ9_floorMod_7cf53 cJ9_floorMod_7cf53 3 (some .int)] ++ wsX00 ++ wsX10)
def wsX1_lay_r1 : List Cond := [Cond.fieldLink RX1 21 "OverHill$Dance" "gap" "I", Cond.fieldLink RX1 27 "OverHill$Floor" "gap" "I", Cond.methodLink RX1 28 yX1_findStumbles, Cond.instanceMethod yX1_findStumbles, Cond.selects RX1 yX1_findStumbles yX1_findStumbles, Cond.initialized RX1, Cond.code yX1_findStumbles cX1_findStumbles 6 none, Cond.fieldLink RX1 18 "OverHill$Floor" "stumbleIn" "[I", Cond.fieldLink RX1 42 "OverHill$Dance" "stumbleCount" "I", Cond.fieldLink RX1 45 "OverHill$Dance" "stumbles" "[I", Cond.methodLink RX1 36 yJ7_fill_53178, Cond.static yJ7_fill_53178, Cond.initialized RJ7, Cond.code yJ7_fill_53178 cJ7_fill_53178 4 none, Cond.methodLink RX1 32 yX1_laySide, Cond.instanceMethod yX1_laySide, Cond.selects RX1 yX1_laySide yX1_laySide, Cond.code yX1_laySide cX1_laySide 10 none, Cond.fieldLink RX1 48 "OverHill$Dance" "lengths" "[I", Cond.fieldLink RX1 51 "OverHill$Dance" "starts" "[I", Cond.fieldLink RX1 9 "OverHill$Floor" "places" "[I", Cond.fieldLink RX1 15 "OverHill$Floor" "steps" "[I", Cond.fieldLink RX1 54 "OverHill$Dance" "muds" "[I", Cond.methodLink RX1 57 yX0_stepAt]
def wsX1_lay_r2 : List Cond := [Cond.instanceMethod yX0_stepAt, Cond.selects RX0 yX0_stepAt yX0_stepAt, Cond.initialized RX0, Cond.code yX0_stepAt cX0_stepAt 3 (some .int), Cond.fieldLink RX0 9 "OverHill$Dance" "steps" "[I", Cond.static yX11_wrap, Cond.initialized RX11, Cond.code yX11_wrap cX11_wrap 2 (some .int), Cond.methodLink RX11 451 yJ9_floorMod_7cf53, Cond.static yJ9_floorMod_7cf53, Cond.initialized RJ9, Cond.code yJ9_floorMod_7cf53 cJ9_floorMod_7cf53 3 (some .int)]
def wsX1_lay : List Cond := .code yX1_lay cX1_lay 4 none :: ((wsX1_lay_r1 ++ wsX1_lay_r2) ++ wsX00 ++ wsX10)
def wsX1_placeOf : List Cond := .code yX1_placeOf cX1_placeOf 3 (some .int) :: ([.fieldLink RX1 9 "OverHill$Floor" "places" "[I"] ++ wsX10)
def wsX1_stepOf : List Cond := .code yX1_stepOf cX1_stepOf 3 (some .int) :: ([.fieldLink RX1 15 "OverHill$Floor" "steps" "[I"] ++ wsX10)
def wsX1_heardBy : List Cond := .code yX1_heardBy cX1_heardBy 3 (some .int) :: ([.fieldLink RX1 27 "OverHill$Floor" "gap" "I", .methodLink RX1 64 yX1_stepOf, .instanceMethod yX1_stepOf, .selects RX1 yX1_stepOf yX1_stepOf, .initialized RX1, .code yX1_stepOf cX1_stepOf 3 (some .int), .fieldLink RX1 15 "OverHill$Floor" "steps" "[I"] ++ wsX10)
def wsX1_gapes : List Cond := .code yX1_gapes cX1_gapes 4 (some .boolean) :: ([.methodLink RX1 64 yX1_stepOf, .instanceMethod yX1_stepOf, .selects RX1 yX1_stepOf yX1_stepOf, .initialized RX1, .code yX1_stepOf cX1_stepOf 3 (some .int), .fieldLink RX1 15 "OverHill$Floor" "steps" "[I", .methodLink RX1 67 yX1_heardBy, .instanceMethod yX1_heardBy, .selects RX1 yX1_heardBy yX1_heardBy, .code yX1_heardBy cX1_heardBy 3 (some .int), .fieldLink RX1 27 "OverHill$Floor" "gap" "I", .methodLink RX1 70 yX0_isHole, .instanceMethod yX0_isHole, .selects RX0 yX0_isHole yX0_isHole, .initialized RX0, .code yX0_isHole cX0_isHole 3 (some .boolean), .methodLink RX0 80 yX0_mayMeet, .instanceMethod yX0_mayMeet, .selects RX0 yX0_mayMeet yX0_mayMeet, .code yX0_mayMeet cX0_mayMeet 3 (some .boolean), .fieldLink RX0 21 "OverHill$Dance" "met" "[I"] ++ wsX10 ++ wsX00)
def wsX1_countHoles_r1 : List Cond := [Cond.methodLink RX1 74 yX1_gapes, Cond.instanceMethod yX1_gapes, Cond.selects RX1 yX1_gapes yX1_gapes, Cond.initialized RX1, Cond.code yX1_gapes cX1_gapes 4 (some .boolean), Cond.methodLink RX1 64 yX1_stepOf, Cond.instanceMethod yX1_stepOf, Cond.selects RX1 yX1_stepOf yX1_stepOf, Cond.code yX1_stepOf cX1_stepOf 3 (some .int), Cond.fieldLink RX1 15 "OverHill$Floor" "steps" "[I", Cond.methodLink RX1 67 yX1_heardBy, Cond.instanceMethod yX1_heardBy, Cond.selects RX1 yX1_heardBy yX1_heardBy, Cond.code yX1_heardBy cX1_heardBy 3 (some .int), Cond.fieldLink RX1 27 "OverHill$Floor" "gap" "I", Cond.methodLink RX1 70 yX0_isHole, Cond.instanceMethod yX0_isHole, Cond.selects RX0 yX0_isHole yX0_isHole, Cond.initialized RX0, Cond.code yX0_isHole cX0_isHole 3 (some .boolean), Cond.methodLink RX0 80 yX0_mayMeet, Cond.instanceMethod yX0_mayMeet, Cond.selects RX0 yX0_mayMeet yX0_mayMeet, Cond.code yX0_mayMeet cX0_mayMeet 3 (some .boolean)]
def wsX1_countHoles_r2 : List Cond := [Cond.fieldLink RX0 21 "OverHill$Dance" "met" "[I"]
def wsX1_countHoles : List Cond := .code yX1_countHoles cX1_countHoles 7 (some .int) :: ((wsX1_countHoles_r1 ++ wsX1_countHoles_r2) ++ wsX10 ++ wsX00)
def wsX1_countAllHoles_r1 : List Cond := [Cond.methodLink RX1 78 yX1_countHoles, Cond.instanceMethod yX1_countHoles, Cond.selects RX1 yX1_countHoles yX1_countHoles, Cond.initialized RX1, Cond.code yX1_countHoles cX1_countHoles 7 (some .int), Cond.methodLink RX1 74 yX1_gapes, Cond.instanceMethod yX1_gapes, Cond.selects RX1 yX1_gapes yX1_gapes, Cond.code yX1_gapes cX1_gapes 4 (some .boolean), Cond.methodLink RX1 64 yX1_stepOf, Cond.instanceMethod yX1_stepOf, Cond.selects RX1 yX1_stepOf yX1_stepOf, Cond.code yX1_stepOf cX1_stepOf 3 (some .int), Cond.fieldLink RX1 15 "OverHill$Floor" "steps" "[I", Cond.methodLink RX1 67 yX1_heardBy, Cond.instanceMethod yX1_heardBy, Cond.selects RX1 yX1_heardBy yX1_heardBy, Cond.code yX1_heardBy cX1_heardBy 3 (some .int), Cond.fieldLink RX1 27 "OverHill$Floor" "gap" "I", Cond.methodLink RX1 70 yX0_isHole, Cond.instanceMethod yX0_isHole, Cond.selects RX0 yX0_isHole yX0_isHole, Cond.initialized RX0, Cond.code yX0_isHole cX0_isHole 3 (some .boolean)]
def wsX1_countAllHoles_r2 : List Cond := [Cond.methodLink RX0 80 yX0_mayMeet, Cond.instanceMethod yX0_mayMeet, Cond.selects RX0 yX0_mayMeet yX0_mayMeet, Cond.code yX0_mayMeet cX0_mayMeet 3 (some .boolean), Cond.fieldLink RX0 21 "OverHill$Dance" "met" "[I"]
def wsX1_countAllHoles : List Cond := .code yX1_countAllHoles cX1_countAllHoles 2 (some .int) :: ((wsX1_countAllHoles_r1 ++ wsX1_countAllHoles_r2) ++ wsX10 ++ wsX00)
def wsX1_findCalm_r1 : List Cond := [Cond.fieldLink RX1 82 "OverHill$Floor" "calmLength" "I", Cond.fieldLink RX1 85 "OverHill$Floor" "calmStart" "I", Cond.methodLink RX1 74 yX1_gapes, Cond.instanceMethod yX1_gapes, Cond.selects RX1 yX1_gapes yX1_gapes, Cond.initialized RX1, Cond.code yX1_gapes cX1_gapes 4 (some .boolean), Cond.methodLink RX1 64 yX1_stepOf, Cond.instanceMethod yX1_stepOf, Cond.selects RX1 yX1_stepOf yX1_stepOf, Cond.code yX1_stepOf cX1_stepOf 3 (some .int), Cond.fieldLink RX1 15 "OverHill$Floor" "steps" "[I", Cond.methodLink RX1 67 yX1_heardBy, Cond.instanceMethod yX1_heardBy, Cond.selects RX1 yX1_heardBy yX1_heardBy, Cond.code yX1_heardBy cX1_heardBy 3 (some .int), Cond.fieldLink RX1 27 "OverHill$Floor" "gap" "I", Cond.methodLink RX1 70 yX0_isHole, Cond.instanceMethod yX0_isHole, Cond.selects RX0 yX0_isHole yX0_isHole, Cond.initialized RX0, Cond.code yX0_isHole cX0_isHole 3 (some .boolean), Cond.methodLink RX0 80 yX0_mayMeet, Cond.instanceMethod yX0_mayMeet]
def wsX1_findCalm_r2 : List Cond := [Cond.selects RX0 yX0_mayMeet yX0_mayMeet, Cond.code yX0_mayMeet cX0_mayMeet 3 (some .boolean), Cond.fieldLink RX0 21 "OverHill$Dance" "met" "[I"]
def wsX1_findCalm : List Cond := .code yX1_findCalm cX1_findCalm 6 none :: ((wsX1_findCalm_r1 ++ wsX1_findCalm_r2) ++ wsX10 ++ wsX00)
theorem wrr_wsX1_lay {i : Nat} {w : Cond} (h : wsX1_lay[i]? = some w) : w ∈ wsX1_lay := List.mem_of_getElem? h
theorem wrr_wsX1_lay_wsX1_lay_r1 {i : Nat} {w : Cond} (h : wsX1_lay_r1[i]? = some w) : w ∈ wsX1_lay := (List.mem_cons_of_mem _ (List.mem_append_left _ (List.mem_append_left _ (List.mem_append_left _ (List.mem_of_getElem? h)))))
theorem wrr_wsX1_lay_wsX1_lay_r2 {i : Nat} {w : Cond} (h : wsX1_lay_r2[i]? = some w) : w ∈ wsX1_lay := (List.mem_cons_of_mem _ (List.mem_append_left _ (List.mem_append_left _ (List.mem_append_right _ (List.mem_of_getElem? h)))))
theorem wru_wsX1_lay_wsX00 : ∀ w ∈ wsX00, w ∈ wsX1_lay := fun w h => (List.mem_cons_of_mem _ (List.mem_append_left _ (List.mem_append_right _ h)))
theorem wru_wsX1_lay_wsX10 : ∀ w ∈ wsX10, w ∈ wsX1_lay := fun w h => (List.mem_cons_of_mem _ (List.mem_append_right _ h))
set_option maxRecDepth 20000 in
theorem gw_wsX1_findStumbles : wsX1_findStumbles.all goodWord = true := by decide +kernel
set_option maxRecDepth 20000 in
theorem ggX1_lay_X1_findStumbles : GoodIn wsX1_lay wsX1_findStumbles := goodIn_sub (List.forall_mem_cons.mpr ⟨wrr_wsX1_lay_wsX1_lay_r1 (i := 6) rfl, (List.forall_mem_append.mpr ⟨(List.forall_mem_append.mpr ⟨(List.forall_mem_cons.mpr ⟨wrr_wsX1_lay_wsX1_lay_r1 (i := 7) rfl, (List.forall_mem_cons.mpr ⟨wrr_wsX1_lay_wsX1_lay_r1 (i := 8) rfl, (List.forall_mem_cons.mpr ⟨wrr_wsX1_lay_wsX1_lay_r1 (i := 9) rfl, (List.forall_mem_cons.mpr ⟨wrr_wsX1_lay_wsX1_lay_r1 (i := 10) rfl, (List.forall_mem_cons.mpr ⟨wrr_wsX1_lay_wsX1_lay_r1 (i := 11) rfl, (List.forall_mem_cons.mpr ⟨wrr_wsX1_lay_wsX1_lay_r1 (i := 12) rfl, (List.forall_mem_cons.mpr ⟨wrr_wsX1_lay_wsX1_lay_r1 (i := 13) rfl, (fun _ h => absurd h List.not_mem_nil)⟩)⟩)⟩)⟩)⟩)⟩)⟩), wru_wsX1_lay_wsX10⟩), wru_wsX1_lay_wsX00⟩)⟩) gw_wsX1_findStumbles
set_option maxRecDepth 20000 in
theorem gX1_lay_X1_findStumbles : GoodIn wsX1_lay (wsV RX1 28 RX1 yX1_findStumbles wsX1_findStumbles) := goodIn_app (goodIn_sub (List.forall_mem_cons.mpr ⟨wrr_wsX1_lay_wsX1_lay_r1 (i := 2) rfl, (List.forall_mem_cons.mpr ⟨wrr_wsX1_lay_wsX1_lay_r1 (i := 3) rfl, (List.forall_mem_cons.mpr ⟨wrr_wsX1_lay_wsX1_lay_r1 (i := 4) rfl, (List.forall_mem_cons.mpr ⟨wrr_wsX1_lay_wsX1_lay_r1 (i := 5) rfl, (fun _ h => absurd h List.not_mem_nil)⟩)⟩)⟩)⟩) (by decide +kernel)) ggX1_lay_X1_findStumbles
set_option maxRecDepth 20000 in
theorem gw_wsX1_laySide : wsX1_laySide.all goodWord = true := by decide +kernel
set_option maxRecDepth 20000 in
theorem ggX1_lay_X1_laySide : GoodIn wsX1_lay wsX1_laySide := goodIn_sub (List.forall_mem_cons.mpr ⟨wrr_wsX1_lay_wsX1_lay_r1 (i := 17) rfl, (List.forall_mem_append.mpr ⟨(List.forall_mem_append.mpr ⟨(List.forall_mem_cons.mpr ⟨wrr_wsX1_lay_wsX1_lay_r1 (i := 18) rfl, (List.forall_mem_cons.mpr ⟨wrr_wsX1_lay_wsX1_lay_r1 (i := 19) rfl, (List.forall_mem_cons.mpr ⟨wrr_wsX1_lay_wsX1_lay_r1 (i := 20) rfl, (List.forall_mem_cons.mpr ⟨wrr_wsX1_lay_wsX1_lay_r1 (i := 21) rfl, (List.forall_mem_cons.mpr ⟨wrr_wsX1_lay_wsX1_lay_r1 (i := 22) rfl, (List.forall_mem_cons.mpr ⟨wrr_wsX1_lay_wsX1_lay_r1 (i := 7) rfl, (List.forall_mem_cons.mpr ⟨wrr_wsX1_lay_wsX1_lay_r1 (i := 9) rfl, (List.forall_mem_cons.mpr ⟨wrr_wsX1_lay_wsX1_lay_r1 (i := 23) rfl, (List.forall_mem_cons.mpr ⟨wrr_wsX1_lay_wsX1_lay_r2 (i := 0) rfl, (List.forall_mem_cons.mpr ⟨wrr_wsX1_lay_wsX1_lay_r2 (i := 1) rfl, (List.forall_mem_cons.mpr ⟨wrr_wsX1_lay_wsX1_lay_r2 (i := 2) rfl, (List.forall_mem_cons.mpr ⟨wrr_wsX1_lay_wsX1_lay_r2 (i := 3) rfl, (List.forall_mem_cons.mpr ⟨wrr_wsX1_lay_wsX1_lay_r2 (i := 4) rfl, (List.forall_mem_cons.mpr ⟨wrr_wsX1_lay_wsX1_lay_r2 (i := 5) rfl, (List.forall_mem_cons.mpr ⟨wrr_wsX1_lay_wsX1_lay_r2 (i := 6) rfl, (List.forall_mem_cons.mpr ⟨wrr_wsX1_lay_wsX1_lay_r2 (i := 7) rfl, (List.forall_mem_cons.mpr ⟨wrr_wsX1_lay_wsX1_lay_r2 (i := 8) rfl, (List.forall_mem_cons.mpr ⟨wrr_wsX1_lay_wsX1_lay_r2 (i := 9) rfl, (List.forall_mem_cons.mpr ⟨wrr_wsX1_lay_wsX1_lay_r2 (i := 10) rfl, (List.forall_mem_cons.mpr ⟨wrr_wsX1_lay_wsX1_lay_r2 (i := 11) rfl, (fun _ h => absurd h List.not_mem_nil)⟩)⟩)⟩)⟩)⟩)⟩)⟩)⟩)⟩)⟩)⟩)⟩)⟩)⟩)⟩)⟩)⟩)⟩)⟩)⟩), wru_wsX1_lay_wsX00⟩), wru_wsX1_lay_wsX10⟩)⟩) gw_wsX1_laySide
set_option maxRecDepth 20000 in
theorem gX1_lay_X1_laySide : GoodIn wsX1_lay (wsV RX1 32 RX1 yX1_laySide wsX1_laySide) := goodIn_app (goodIn_sub (List.forall_mem_cons.mpr ⟨wrr_wsX1_lay_wsX1_lay_r1 (i := 14) rfl, (List.forall_mem_cons.mpr ⟨wrr_wsX1_lay_wsX1_lay_r1 (i := 15) rfl, (List.forall_mem_cons.mpr ⟨wrr_wsX1_lay_wsX1_lay_r1 (i := 16) rfl, (List.forall_mem_cons.mpr ⟨wrr_wsX1_lay_wsX1_lay_r1 (i := 5) rfl, (fun _ h => absurd h List.not_mem_nil)⟩)⟩)⟩)⟩) (by decide +kernel)) ggX1_lay_X1_laySide
theorem dX1_lay_0 : decode cX1_lay 0 = .ok (.aload_n 0, 1) := by decide +kernel
theorem dX1_lay_1 : decode cX1_lay 1 = .ok (.aload_n 1, 1) := by decide +kernel
theorem dX1_lay_2 : decode cX1_lay 2 = .ok (.getfield 21, 3) := by decide +kernel
theorem dX1_lay_5 : decode cX1_lay 5 = .ok (.putfield 27, 3) := by decide +kernel
theorem dX1_lay_8 : decode cX1_lay 8 = .ok (.iconst 0, 1) := by decide +kernel
theorem dX1_lay_9 : decode cX1_lay 9 = .ok (.istore_n 3, 1) := by decide +kernel
theorem dX1_lay_10 : decode cX1_lay 10 = .ok (.iload_n 3, 1) := by decide +kernel
theorem dX1_lay_11 : decode cX1_lay 11 = .ok (.iconst 2, 1) := by decide +kernel
theorem dX1_lay_12 : decode cX1_lay 12 = .ok (.if_icmp .ge 22, 3) := by decide +kernel
theorem dX1_lay_15 : decode cX1_lay 15 = .ok (.aload_n 0, 1) := by decide +kernel
theorem dX1_lay_16 : decode cX1_lay 16 = .ok (.aload_n 1, 1) := by decide +kernel
theorem dX1_lay_17 : decode cX1_lay 17 = .ok (.iload_n 3, 1) := by decide +kernel
theorem dX1_lay_18 : decode cX1_lay 18 = .ok (.iload_n 2, 1) := by decide +kernel
theorem dX1_lay_19 : decode cX1_lay 19 = .ok (.invokevirtual 28, 3) := by decide +kernel
theorem dX1_lay_22 : decode cX1_lay 22 = .ok (.aload_n 0, 1) := by decide +kernel
theorem dX1_lay_23 : decode cX1_lay 23 = .ok (.aload_n 1, 1) := by decide +kernel
theorem dX1_lay_24 : decode cX1_lay 24 = .ok (.iload_n 3, 1) := by decide +kernel
theorem dX1_lay_25 : decode cX1_lay 25 = .ok (.invokevirtual 32, 3) := by decide +kernel
theorem dX1_lay_28 : decode cX1_lay 28 = .ok (.iinc 3 1, 3) := by decide +kernel
theorem dX1_lay_31 : decode cX1_lay 31 = .ok (.goto (-21), 3) := by decide +kernel
theorem dX1_lay_34 : decode cX1_lay 34 = .ok (.return_, 1) := by decide +kernel
theorem wrr_wsX1_findStumbles {i : Nat} {w : Cond} (h : wsX1_findStumbles[i]? = some w) : w ∈ wsX1_findStumbles := List.mem_of_getElem? h
theorem wru_wsX1_findStumbles_wsX10 : ∀ w ∈ wsX10, w ∈ wsX1_findStumbles := fun w h => (List.mem_cons_of_mem _ (List.mem_append_left _ (List.mem_append_right _ h)))
theorem wru_wsX1_findStumbles_wsX00 : ∀ w ∈ wsX00, w ∈ wsX1_findStumbles := fun w h => (List.mem_cons_of_mem _ (List.mem_append_right _ h))
set_option maxRecDepth 20000 in
theorem gw_wsJ7_fill_53178 : wsJ7_fill_53178.all goodWord = true := by decide +kernel
set_option maxRecDepth 20000 in
theorem ggX1_findStumbles_J7_fill_53178 : GoodIn wsX1_findStumbles wsJ7_fill_53178 := goodIn_sub (List.forall_mem_cons.mpr ⟨wrr_wsX1_findStumbles (i := 7) rfl, (fun _ h => absurd h List.not_mem_nil)⟩) gw_wsJ7_fill_53178
set_option maxRecDepth 20000 in
theorem gX1_findStumbles_J7_fill_53178 : GoodIn wsX1_findStumbles (va_wsS RX1 36 yJ7_fill_53178 wsJ7_fill_53178) := goodIn_app (goodIn_sub (List.forall_mem_cons.mpr ⟨wrr_wsX1_findStumbles (i := 4) rfl, (List.forall_mem_cons.mpr ⟨wrr_wsX1_findStumbles (i := 5) rfl, (List.forall_mem_cons.mpr ⟨wrr_wsX1_findStumbles (i := 6) rfl, (fun _ h => absurd h List.not_mem_nil)⟩)⟩)⟩) (by decide +kernel)) ggX1_findStumbles_J7_fill_53178
theorem dX1_findStumbles_0 : decode cX1_findStumbles 0 = .ok (.aload_n 0, 1) := by decide +kernel
theorem dX1_findStumbles_1 : decode cX1_findStumbles 1 = .ok (.getfield 18, 3) := by decide +kernel
theorem dX1_findStumbles_4 : decode cX1_findStumbles 4 = .ok (.iconst (-1), 1) := by decide +kernel
theorem dX1_findStumbles_5 : decode cX1_findStumbles 5 = .ok (.invokestatic 36, 3) := by decide +kernel
theorem dX1_findStumbles_8 : decode cX1_findStumbles 8 = .ok (.iconst 0, 1) := by decide +kernel
theorem dX1_findStumbles_9 : decode cX1_findStumbles 9 = .ok (.istore 4, 2) := by decide +kernel
theorem dX1_findStumbles_11 : decode cX1_findStumbles 11 = .ok (.iload 4, 2) := by decide +kernel
theorem dX1_findStumbles_13 : decode cX1_findStumbles 13 = .ok (.aload_n 1, 1) := by decide +kernel
theorem dX1_findStumbles_14 : decode cX1_findStumbles 14 = .ok (.getfield 42, 3) := by decide +kernel
theorem dX1_findStumbles_17 : decode cX1_findStumbles 17 = .ok (.if_icmp .ge 48, 3) := by decide +kernel
theorem dX1_findStumbles_20 : decode cX1_findStumbles 20 = .ok (.iload 4, 2) := by decide +kernel
theorem dX1_findStumbles_22 : decode cX1_findStumbles 22 = .ok (.iconst 4, 1) := by decide +kernel
theorem dX1_findStumbles_23 : decode cX1_findStumbles 23 = .ok (.imul, 1) := by decide +kernel
theorem dX1_findStumbles_24 : decode cX1_findStumbles 24 = .ok (.istore 5, 2) := by decide +kernel
theorem dX1_findStumbles_26 : decode cX1_findStumbles 26 = .ok (.iload 4, 2) := by decide +kernel
theorem dX1_findStumbles_28 : decode cX1_findStumbles 28 = .ok (.iload_n 3, 1) := by decide +kernel
theorem dX1_findStumbles_29 : decode cX1_findStumbles 29 = .ok (.if_icmp .eq 30, 3) := by decide +kernel
theorem dX1_findStumbles_32 : decode cX1_findStumbles 32 = .ok (.aload_n 1, 1) := by decide +kernel
theorem dX1_findStumbles_33 : decode cX1_findStumbles 33 = .ok (.getfield 45, 3) := by decide +kernel
theorem dX1_findStumbles_36 : decode cX1_findStumbles 36 = .ok (.iload 5, 2) := by decide +kernel
theorem dX1_findStumbles_38 : decode cX1_findStumbles 38 = .ok (.iaload, 1) := by decide +kernel
theorem dX1_findStumbles_39 : decode cX1_findStumbles 39 = .ok (.iload_n 2, 1) := by decide +kernel
theorem dX1_findStumbles_40 : decode cX1_findStumbles 40 = .ok (.if_icmp .ne 19, 3) := by decide +kernel
theorem dX1_findStumbles_43 : decode cX1_findStumbles 43 = .ok (.aload_n 0, 1) := by decide +kernel
theorem dX1_findStumbles_44 : decode cX1_findStumbles 44 = .ok (.getfield 18, 3) := by decide +kernel
theorem dX1_findStumbles_47 : decode cX1_findStumbles 47 = .ok (.aload_n 1, 1) := by decide +kernel
theorem dX1_findStumbles_48 : decode cX1_findStumbles 48 = .ok (.getfield 45, 3) := by decide +kernel
theorem dX1_findStumbles_51 : decode cX1_findStumbles 51 = .ok (.iload 5, 2) := by decide +kernel
theorem dX1_findStumbles_53 : decode cX1_findStumbles 53 = .ok (.iconst 1, 1) := by decide +kernel
theorem dX1_findStumbles_54 : decode cX1_findStumbles 54 = .ok (.iadd, 1) := by decide +kernel
theorem dX1_findStumbles_55 : decode cX1_findStumbles 55 = .ok (.iaload, 1) := by decide +kernel
theorem dX1_findStumbles_56 : decode cX1_findStumbles 56 = .ok (.iload 5, 2) := by decide +kernel
theorem dX1_findStumbles_58 : decode cX1_findStumbles 58 = .ok (.iastore, 1) := by decide +kernel
theorem dX1_findStumbles_59 : decode cX1_findStumbles 59 = .ok (.iinc 4 1, 3) := by decide +kernel
theorem dX1_findStumbles_62 : decode cX1_findStumbles 62 = .ok (.goto (-51), 3) := by decide +kernel
theorem dX1_findStumbles_65 : decode cX1_findStumbles 65 = .ok (.return_, 1) := by decide +kernel
theorem wrr_wsX1_laySide {i : Nat} {w : Cond} (h : wsX1_laySide[i]? = some w) : w ∈ wsX1_laySide := List.mem_of_getElem? h
theorem wru_wsX1_laySide_wsX00 : ∀ w ∈ wsX00, w ∈ wsX1_laySide := fun w h => (List.mem_cons_of_mem _ (List.mem_append_left _ (List.mem_append_right _ h)))
theorem wru_wsX1_laySide_wsX10 : ∀ w ∈ wsX10, w ∈ wsX1_laySide := fun w h => (List.mem_cons_of_mem _ (List.mem_append_right _ h))
set_option maxRecDepth 20000 in
theorem gw_wsX0_stepAt : wsX0_stepAt.all goodWord = true := by decide +kernel
set_option maxRecDepth 20000 in
theorem ggX1_laySide_X0_stepAt : GoodIn wsX1_laySide wsX0_stepAt := goodIn_sub (List.forall_mem_cons.mpr ⟨wrr_wsX1_laySide (i := 12) rfl, (List.forall_mem_append.mpr ⟨(List.forall_mem_cons.mpr ⟨wrr_wsX1_laySide (i := 13) rfl, (fun _ h => absurd h List.not_mem_nil)⟩), wru_wsX1_laySide_wsX00⟩)⟩) gw_wsX0_stepAt
set_option maxRecDepth 20000 in
theorem gX1_laySide_X0_stepAt : GoodIn wsX1_laySide (wsV RX1 57 RX0 yX0_stepAt wsX0_stepAt) := goodIn_app (goodIn_sub (List.forall_mem_cons.mpr ⟨wrr_wsX1_laySide (i := 8) rfl, (List.forall_mem_cons.mpr ⟨wrr_wsX1_laySide (i := 9) rfl, (List.forall_mem_cons.mpr ⟨wrr_wsX1_laySide (i := 10) rfl, (List.forall_mem_cons.mpr ⟨wrr_wsX1_laySide (i := 11) rfl, (fun _ h => absurd h List.not_mem_nil)⟩)⟩)⟩)⟩) (by decide +kernel)) ggX1_laySide_X0_stepAt
set_option maxRecDepth 20000 in
theorem gw_wsX11_wrap : wsX11_wrap.all goodWord = true := by decide +kernel
set_option maxRecDepth 20000 in
theorem ggX1_laySide_X11_wrap : GoodIn wsX1_laySide wsX11_wrap := goodIn_sub (List.forall_mem_cons.mpr ⟨wrr_wsX1_laySide (i := 16) rfl, (List.forall_mem_cons.mpr ⟨wrr_wsX1_laySide (i := 17) rfl, (List.forall_mem_cons.mpr ⟨wrr_wsX1_laySide (i := 18) rfl, (List.forall_mem_cons.mpr ⟨wrr_wsX1_laySide (i := 19) rfl, (List.forall_mem_cons.mpr ⟨wrr_wsX1_laySide (i := 20) rfl, (fun _ h => absurd h List.not_mem_nil)⟩)⟩)⟩)⟩)⟩) gw_wsX11_wrap
set_option maxRecDepth 20000 in
theorem gX1_laySide_X11_wrap_n61 : GoodIn wsX1_laySide (wsX11_wrap) := ggX1_laySide_X11_wrap
theorem dX1_laySide_0 : decode cX1_laySide 0 = .ok (.aload_n 1, 1) := by decide +kernel
theorem dX1_laySide_1 : decode cX1_laySide 1 = .ok (.getfield 48, 3) := by decide +kernel
theorem dX1_laySide_4 : decode cX1_laySide 4 = .ok (.iload_n 2, 1) := by decide +kernel
theorem dX1_laySide_5 : decode cX1_laySide 5 = .ok (.iaload, 1) := by decide +kernel
theorem dX1_laySide_6 : decode cX1_laySide 6 = .ok (.istore_n 3, 1) := by decide +kernel
theorem dX1_laySide_7 : decode cX1_laySide 7 = .ok (.aload_n 1, 1) := by decide +kernel
theorem dX1_laySide_8 : decode cX1_laySide 8 = .ok (.getfield 51, 3) := by decide +kernel
theorem dX1_laySide_11 : decode cX1_laySide 11 = .ok (.iload_n 2, 1) := by decide +kernel
theorem dX1_laySide_12 : decode cX1_laySide 12 = .ok (.iaload, 1) := by decide +kernel
theorem dX1_laySide_13 : decode cX1_laySide 13 = .ok (.istore 4, 2) := by decide +kernel
theorem dX1_laySide_15 : decode cX1_laySide 15 = .ok (.iconst 0, 1) := by decide +kernel
theorem dX1_laySide_16 : decode cX1_laySide 16 = .ok (.istore 5, 2) := by decide +kernel
theorem dX1_laySide_18 : decode cX1_laySide 18 = .ok (.iload 5, 2) := by decide +kernel
theorem dX1_laySide_20 : decode cX1_laySide 20 = .ok (.sipush 200, 3) := by decide +kernel
theorem dX1_laySide_23 : decode cX1_laySide 23 = .ok (.if_icmp .ge 144, 3) := by decide +kernel
theorem dX1_laySide_26 : decode cX1_laySide 26 = .ok (.iload_n 2, 1) := by decide +kernel
theorem dX1_laySide_27 : decode cX1_laySide 27 = .ok (.sipush 200, 3) := by decide +kernel
theorem dX1_laySide_30 : decode cX1_laySide 30 = .ok (.imul, 1) := by decide +kernel
theorem dX1_laySide_31 : decode cX1_laySide 31 = .ok (.iload 5, 2) := by decide +kernel
theorem dX1_laySide_33 : decode cX1_laySide 33 = .ok (.iadd, 1) := by decide +kernel
theorem dX1_laySide_34 : decode cX1_laySide 34 = .ok (.istore 6, 2) := by decide +kernel
theorem dX1_laySide_36 : decode cX1_laySide 36 = .ok (.aload_n 0, 1) := by decide +kernel
theorem dX1_laySide_37 : decode cX1_laySide 37 = .ok (.getfield 9, 3) := by decide +kernel
theorem dX1_laySide_40 : decode cX1_laySide 40 = .ok (.iload 6, 2) := by decide +kernel
theorem dX1_laySide_42 : decode cX1_laySide 42 = .ok (.iload_n 3, 1) := by decide +kernel
theorem dX1_laySide_43 : decode cX1_laySide 43 = .ok (.ifCond .ne 7, 3) := by decide +kernel
theorem dX1_laySide_46 : decode cX1_laySide 46 = .ok (.iconst (-1), 1) := by decide +kernel
theorem dX1_laySide_47 : decode cX1_laySide 47 = .ok (.goto 5, 3) := by decide +kernel
theorem dX1_laySide_50 : decode cX1_laySide 50 = .ok (.iload 4, 2) := by decide +kernel
theorem dX1_laySide_52 : decode cX1_laySide 52 = .ok (.iastore, 1) := by decide +kernel
theorem dX1_laySide_53 : decode cX1_laySide 53 = .ok (.aload_n 0, 1) := by decide +kernel
theorem dX1_laySide_54 : decode cX1_laySide 54 = .ok (.getfield 15, 3) := by decide +kernel
theorem dX1_laySide_57 : decode cX1_laySide 57 = .ok (.iload 6, 2) := by decide +kernel
theorem dX1_laySide_59 : decode cX1_laySide 59 = .ok (.iconst (-1), 1) := by decide +kernel
theorem dX1_laySide_60 : decode cX1_laySide 60 = .ok (.iastore, 1) := by decide +kernel
theorem dX1_laySide_61 : decode cX1_laySide 61 = .ok (.iload_n 3, 1) := by decide +kernel
theorem dX1_laySide_62 : decode cX1_laySide 62 = .ok (.ifCond .le 99, 3) := by decide +kernel
theorem dX1_laySide_65 : decode cX1_laySide 65 = .ok (.aload_n 1, 1) := by decide +kernel
theorem dX1_laySide_66 : decode cX1_laySide 66 = .ok (.getfield 54, 3) := by decide +kernel
theorem dX1_laySide_69 : decode cX1_laySide 69 = .ok (.iload 5, 2) := by decide +kernel
theorem dX1_laySide_71 : decode cX1_laySide 71 = .ok (.iaload, 1) := by decide +kernel
theorem dX1_laySide_72 : decode cX1_laySide 72 = .ok (.ifCond .ne 89, 3) := by decide +kernel
theorem dX1_laySide_75 : decode cX1_laySide 75 = .ok (.aload_n 0, 1) := by decide +kernel
theorem dX1_laySide_76 : decode cX1_laySide 76 = .ok (.getfield 18, 3) := by decide +kernel
theorem dX1_laySide_79 : decode cX1_laySide 79 = .ok (.iload 5, 2) := by decide +kernel
theorem dX1_laySide_81 : decode cX1_laySide 81 = .ok (.iaload, 1) := by decide +kernel
theorem dX1_laySide_82 : decode cX1_laySide 82 = .ok (.istore 7, 2) := by decide +kernel
theorem dX1_laySide_84 : decode cX1_laySide 84 = .ok (.iload 7, 2) := by decide +kernel
theorem dX1_laySide_86 : decode cX1_laySide 86 = .ok (.iconst (-1), 1) := by decide +kernel
theorem dX1_laySide_87 : decode cX1_laySide 87 = .ok (.if_icmp .ne 7, 3) := by decide +kernel
theorem dX1_laySide_90 : decode cX1_laySide 90 = .ok (.iconst 1, 1) := by decide +kernel
theorem dX1_laySide_91 : decode cX1_laySide 91 = .ok (.goto 4, 3) := by decide +kernel
theorem dX1_laySide_94 : decode cX1_laySide 94 = .ok (.iconst 0, 1) := by decide +kernel
theorem dX1_laySide_95 : decode cX1_laySide 95 = .ok (.istore 8, 2) := by decide +kernel
theorem dX1_laySide_97 : decode cX1_laySide 97 = .ok (.aload_n 0, 1) := by decide +kernel
theorem dX1_laySide_98 : decode cX1_laySide 98 = .ok (.getfield 15, 3) := by decide +kernel
theorem dX1_laySide_101 : decode cX1_laySide 101 = .ok (.iload 6, 2) := by decide +kernel
theorem dX1_laySide_103 : decode cX1_laySide 103 = .ok (.iload 8, 2) := by decide +kernel
theorem dX1_laySide_105 : decode cX1_laySide 105 = .ok (.ifCond .eq 13, 3) := by decide +kernel
theorem dX1_laySide_108 : decode cX1_laySide 108 = .ok (.aload_n 1, 1) := by decide +kernel
theorem dX1_laySide_109 : decode cX1_laySide 109 = .ok (.iload_n 2, 1) := by decide +kernel
theorem dX1_laySide_110 : decode cX1_laySide 110 = .ok (.iload 4, 2) := by decide +kernel
theorem dX1_laySide_112 : decode cX1_laySide 112 = .ok (.invokevirtual 57, 3) := by decide +kernel
theorem dX1_laySide_115 : decode cX1_laySide 115 = .ok (.goto 12, 3) := by decide +kernel
theorem dX1_laySide_118 : decode cX1_laySide 118 = .ok (.aload_n 1, 1) := by decide +kernel
theorem dX1_laySide_119 : decode cX1_laySide 119 = .ok (.getfield 45, 3) := by decide +kernel
theorem dX1_laySide_122 : decode cX1_laySide 122 = .ok (.iload 7, 2) := by decide +kernel
theorem dX1_laySide_124 : decode cX1_laySide 124 = .ok (.iconst 2, 1) := by decide +kernel
theorem dX1_laySide_125 : decode cX1_laySide 125 = .ok (.iadd, 1) := by decide +kernel
theorem dX1_laySide_126 : decode cX1_laySide 126 = .ok (.iaload, 1) := by decide +kernel
theorem dX1_laySide_127 : decode cX1_laySide 127 = .ok (.iastore, 1) := by decide +kernel
theorem dX1_laySide_128 : decode cX1_laySide 128 = .ok (.iload 8, 2) := by decide +kernel
theorem dX1_laySide_130 : decode cX1_laySide 130 = .ok (.ifCond .eq 7, 3) := by decide +kernel
theorem dX1_laySide_133 : decode cX1_laySide 133 = .ok (.iconst 0, 1) := by decide +kernel
theorem dX1_laySide_134 : decode cX1_laySide 134 = .ok (.goto 12, 3) := by decide +kernel
theorem dX1_laySide_137 : decode cX1_laySide 137 = .ok (.aload_n 1, 1) := by decide +kernel
theorem dX1_laySide_138 : decode cX1_laySide 138 = .ok (.getfield 45, 3) := by decide +kernel
theorem dX1_laySide_141 : decode cX1_laySide 141 = .ok (.iload 7, 2) := by decide +kernel
theorem dX1_laySide_143 : decode cX1_laySide 143 = .ok (.iconst 3, 1) := by decide +kernel
theorem dX1_laySide_144 : decode cX1_laySide 144 = .ok (.iadd, 1) := by decide +kernel
theorem dX1_laySide_145 : decode cX1_laySide 145 = .ok (.iaload, 1) := by decide +kernel
theorem dX1_laySide_146 : decode cX1_laySide 146 = .ok (.istore 9, 2) := by decide +kernel
theorem dX1_laySide_148 : decode cX1_laySide 148 = .ok (.iload 4, 2) := by decide +kernel
theorem dX1_laySide_150 : decode cX1_laySide 150 = .ok (.iconst 1, 1) := by decide +kernel
theorem dX1_laySide_151 : decode cX1_laySide 151 = .ok (.iadd, 1) := by decide +kernel
theorem dX1_laySide_152 : decode cX1_laySide 152 = .ok (.iload 9, 2) := by decide +kernel
theorem dX1_laySide_154 : decode cX1_laySide 154 = .ok (.isub, 1) := by decide +kernel
theorem dX1_laySide_155 : decode cX1_laySide 155 = .ok (.iload_n 3, 1) := by decide +kernel
theorem dX1_laySide_156 : decode cX1_laySide 156 = .ok (.invokestatic 61, 3) := by decide +kernel
theorem dX1_laySide_159 : decode cX1_laySide 159 = .ok (.istore 4, 2) := by decide +kernel
theorem dX1_laySide_161 : decode cX1_laySide 161 = .ok (.iinc 5 1, 3) := by decide +kernel
theorem dX1_laySide_164 : decode cX1_laySide 164 = .ok (.goto (-146), 3) := by decide +kernel
theorem dX1_laySide_167 : decode cX1_laySide 167 = .ok (.return_, 1) := by decide +kernel
theorem dX1_placeOf_0 : decode cX1_placeOf 0 = .ok (.aload_n 0, 1) := by decide +kernel
theorem dX1_placeOf_1 : decode cX1_placeOf 1 = .ok (.getfield 9, 3) := by decide +kernel
theorem dX1_placeOf_4 : decode cX1_placeOf 4 = .ok (.iload_n 1, 1) := by decide +kernel
theorem dX1_placeOf_5 : decode cX1_placeOf 5 = .ok (.sipush 200, 3) := by decide +kernel
theorem dX1_placeOf_8 : decode cX1_placeOf 8 = .ok (.imul, 1) := by decide +kernel
theorem dX1_placeOf_9 : decode cX1_placeOf 9 = .ok (.iload_n 2, 1) := by decide +kernel
theorem dX1_placeOf_10 : decode cX1_placeOf 10 = .ok (.iadd, 1) := by decide +kernel
theorem dX1_placeOf_11 : decode cX1_placeOf 11 = .ok (.iaload, 1) := by decide +kernel
theorem dX1_placeOf_12 : decode cX1_placeOf 12 = .ok (.ireturn, 1) := by decide +kernel
theorem dX1_stepOf_0 : decode cX1_stepOf 0 = .ok (.aload_n 0, 1) := by decide +kernel
theorem dX1_stepOf_1 : decode cX1_stepOf 1 = .ok (.getfield 15, 3) := by decide +kernel
theorem dX1_stepOf_4 : decode cX1_stepOf 4 = .ok (.iload_n 1, 1) := by decide +kernel
theorem dX1_stepOf_5 : decode cX1_stepOf 5 = .ok (.sipush 200, 3) := by decide +kernel
theorem dX1_stepOf_8 : decode cX1_stepOf 8 = .ok (.imul, 1) := by decide +kernel
theorem dX1_stepOf_9 : decode cX1_stepOf 9 = .ok (.iload_n 2, 1) := by decide +kernel
theorem dX1_stepOf_10 : decode cX1_stepOf 10 = .ok (.iadd, 1) := by decide +kernel
theorem dX1_stepOf_11 : decode cX1_stepOf 11 = .ok (.iaload, 1) := by decide +kernel
theorem dX1_stepOf_12 : decode cX1_stepOf 12 = .ok (.ireturn, 1) := by decide +kernel
theorem wrr_wsX1_heardBy {i : Nat} {w : Cond} (h : wsX1_heardBy[i]? = some w) : w ∈ wsX1_heardBy := List.mem_of_getElem? h
theorem wru_wsX1_heardBy_wsX10 : ∀ w ∈ wsX10, w ∈ wsX1_heardBy := fun w h => (List.mem_cons_of_mem _ (List.mem_append_right _ h))
set_option maxRecDepth 20000 in
theorem gw_wsX1_stepOf : wsX1_stepOf.all goodWord = true := by decide +kernel
set_option maxRecDepth 20000 in
theorem ggX1_heardBy_X1_stepOf : GoodIn wsX1_heardBy wsX1_stepOf := goodIn_sub (List.forall_mem_cons.mpr ⟨wrr_wsX1_heardBy (i := 6) rfl, (List.forall_mem_append.mpr ⟨(List.forall_mem_cons.mpr ⟨wrr_wsX1_heardBy (i := 7) rfl, (fun _ h => absurd h List.not_mem_nil)⟩), wru_wsX1_heardBy_wsX10⟩)⟩) gw_wsX1_stepOf
set_option maxRecDepth 20000 in
theorem gX1_heardBy_X1_stepOf : GoodIn wsX1_heardBy (wsV RX1 64 RX1 yX1_stepOf wsX1_stepOf) := goodIn_app (goodIn_sub (List.forall_mem_cons.mpr ⟨wrr_wsX1_heardBy (i := 2) rfl, (List.forall_mem_cons.mpr ⟨wrr_wsX1_heardBy (i := 3) rfl, (List.forall_mem_cons.mpr ⟨wrr_wsX1_heardBy (i := 4) rfl, (List.forall_mem_cons.mpr ⟨wrr_wsX1_heardBy (i := 5) rfl, (fun _ h => absurd h List.not_mem_nil)⟩)⟩)⟩)⟩) (by decide +kernel)) ggX1_heardBy_X1_stepOf
theorem dX1_heardBy_0 : decode cX1_heardBy 0 = .ok (.iload_n 2, 1) := by decide +kernel
theorem dX1_heardBy_1 : decode cX1_heardBy 1 = .ok (.aload_n 0, 1) := by decide +kernel
theorem dX1_heardBy_2 : decode cX1_heardBy 2 = .ok (.getfield 27, 3) := by decide +kernel
theorem dX1_heardBy_5 : decode cX1_heardBy 5 = .ok (.if_icmp .ge 7, 3) := by decide +kernel
theorem dX1_heardBy_8 : decode cX1_heardBy 8 = .ok (.iconst (-1), 1) := by decide +kernel
theorem dX1_heardBy_9 : decode cX1_heardBy 9 = .ok (.goto 16, 3) := by decide +kernel
theorem dX1_heardBy_12 : decode cX1_heardBy 12 = .ok (.aload_n 0, 1) := by decide +kernel
theorem dX1_heardBy_13 : decode cX1_heardBy 13 = .ok (.iconst 1, 1) := by decide +kernel
theorem dX1_heardBy_14 : decode cX1_heardBy 14 = .ok (.iload_n 1, 1) := by decide +kernel
theorem dX1_heardBy_15 : decode cX1_heardBy 15 = .ok (.isub, 1) := by decide +kernel
theorem dX1_heardBy_16 : decode cX1_heardBy 16 = .ok (.iload_n 2, 1) := by decide +kernel
theorem dX1_heardBy_17 : decode cX1_heardBy 17 = .ok (.aload_n 0, 1) := by decide +kernel
theorem dX1_heardBy_18 : decode cX1_heardBy 18 = .ok (.getfield 27, 3) := by decide +kernel
theorem dX1_heardBy_21 : decode cX1_heardBy 21 = .ok (.isub, 1) := by decide +kernel
theorem dX1_heardBy_22 : decode cX1_heardBy 22 = .ok (.invokevirtual 64, 3) := by decide +kernel
theorem dX1_heardBy_25 : decode cX1_heardBy 25 = .ok (.ireturn, 1) := by decide +kernel
theorem wrr_wsX1_gapes {i : Nat} {w : Cond} (h : wsX1_gapes[i]? = some w) : w ∈ wsX1_gapes := List.mem_of_getElem? h
theorem wru_wsX1_gapes_wsX10 : ∀ w ∈ wsX10, w ∈ wsX1_gapes := fun w h => (List.mem_cons_of_mem _ (List.mem_append_left _ (List.mem_append_right _ h)))
theorem wru_wsX1_gapes_wsX00 : ∀ w ∈ wsX00, w ∈ wsX1_gapes := fun w h => (List.mem_cons_of_mem _ (List.mem_append_right _ h))
set_option maxRecDepth 20000 in
theorem ggX1_gapes_X1_stepOf : GoodIn wsX1_gapes wsX1_stepOf := goodIn_sub (List.forall_mem_cons.mpr ⟨wrr_wsX1_gapes (i := 5) rfl, (List.forall_mem_append.mpr ⟨(List.forall_mem_cons.mpr ⟨wrr_wsX1_gapes (i := 6) rfl, (fun _ h => absurd h List.not_mem_nil)⟩), wru_wsX1_gapes_wsX10⟩)⟩) gw_wsX1_stepOf
set_option maxRecDepth 20000 in
theorem gX1_gapes_X1_stepOf : GoodIn wsX1_gapes (wsV RX1 64 RX1 yX1_stepOf wsX1_stepOf) := goodIn_app (goodIn_sub (List.forall_mem_cons.mpr ⟨wrr_wsX1_gapes (i := 1) rfl, (List.forall_mem_cons.mpr ⟨wrr_wsX1_gapes (i := 2) rfl, (List.forall_mem_cons.mpr ⟨wrr_wsX1_gapes (i := 3) rfl, (List.forall_mem_cons.mpr ⟨wrr_wsX1_gapes (i := 4) rfl, (fun _ h => absurd h List.not_mem_nil)⟩)⟩)⟩)⟩) (by decide +kernel)) ggX1_gapes_X1_stepOf
set_option maxRecDepth 20000 in
theorem gw_wsX1_heardBy : wsX1_heardBy.all goodWord = true := by decide +kernel
set_option maxRecDepth 20000 in
theorem ggX1_gapes_X1_heardBy : GoodIn wsX1_gapes wsX1_heardBy := goodIn_sub (List.forall_mem_cons.mpr ⟨wrr_wsX1_gapes (i := 10) rfl, (List.forall_mem_append.mpr ⟨(List.forall_mem_cons.mpr ⟨wrr_wsX1_gapes (i := 11) rfl, (List.forall_mem_cons.mpr ⟨wrr_wsX1_gapes (i := 1) rfl, (List.forall_mem_cons.mpr ⟨wrr_wsX1_gapes (i := 2) rfl, (List.forall_mem_cons.mpr ⟨wrr_wsX1_gapes (i := 3) rfl, (List.forall_mem_cons.mpr ⟨wrr_wsX1_gapes (i := 4) rfl, (List.forall_mem_cons.mpr ⟨wrr_wsX1_gapes (i := 5) rfl, (List.forall_mem_cons.mpr ⟨wrr_wsX1_gapes (i := 6) rfl, (fun _ h => absurd h List.not_mem_nil)⟩)⟩)⟩)⟩)⟩)⟩)⟩), wru_wsX1_gapes_wsX10⟩)⟩) gw_wsX1_heardBy
set_option maxRecDepth 20000 in
theorem gX1_gapes_X1_heardBy : GoodIn wsX1_gapes (wsV RX1 67 RX1 yX1_heardBy wsX1_heardBy) := goodIn_app (goodIn_sub (List.forall_mem_cons.mpr ⟨wrr_wsX1_gapes (i := 7) rfl, (List.forall_mem_cons.mpr ⟨wrr_wsX1_gapes (i := 8) rfl, (List.forall_mem_cons.mpr ⟨wrr_wsX1_gapes (i := 9) rfl, (List.forall_mem_cons.mpr ⟨wrr_wsX1_gapes (i := 4) rfl, (fun _ h => absurd h List.not_mem_nil)⟩)⟩)⟩)⟩) (by decide +kernel)) ggX1_gapes_X1_heardBy
set_option maxRecDepth 20000 in
theorem gw_wsX0_isHole : wsX0_isHole.all goodWord = true := by decide +kernel
set_option maxRecDepth 20000 in
theorem ggX1_gapes_X0_isHole : GoodIn wsX1_gapes wsX0_isHole := goodIn_sub (List.forall_mem_cons.mpr ⟨wrr_wsX1_gapes (i := 16) rfl, (List.forall_mem_append.mpr ⟨(List.forall_mem_cons.mpr ⟨wrr_wsX1_gapes (i := 17) rfl, (List.forall_mem_cons.mpr ⟨wrr_wsX1_gapes (i := 18) rfl, (List.forall_mem_cons.mpr ⟨wrr_wsX1_gapes (i := 19) rfl, (List.forall_mem_cons.mpr ⟨wrr_wsX1_gapes (i := 15) rfl, (List.forall_mem_cons.mpr ⟨wrr_wsX1_gapes (i := 20) rfl, (List.forall_mem_cons.mpr ⟨wrr_wsX1_gapes (i := 21) rfl, (fun _ h => absurd h List.not_mem_nil)⟩)⟩)⟩)⟩)⟩)⟩), wru_wsX1_gapes_wsX00⟩)⟩) gw_wsX0_isHole
set_option maxRecDepth 20000 in
theorem gX1_gapes_X0_isHole : GoodIn wsX1_gapes (wsV RX1 70 RX0 yX0_isHole wsX0_isHole) := goodIn_app (goodIn_sub (List.forall_mem_cons.mpr ⟨wrr_wsX1_gapes (i := 12) rfl, (List.forall_mem_cons.mpr ⟨wrr_wsX1_gapes (i := 13) rfl, (List.forall_mem_cons.mpr ⟨wrr_wsX1_gapes (i := 14) rfl, (List.forall_mem_cons.mpr ⟨wrr_wsX1_gapes (i := 15) rfl, (fun _ h => absurd h List.not_mem_nil)⟩)⟩)⟩)⟩) (by decide +kernel)) ggX1_gapes_X0_isHole
theorem dX1_gapes_0 : decode cX1_gapes 0 = .ok (.aload_n 1, 1) := by decide +kernel
theorem dX1_gapes_1 : decode cX1_gapes 1 = .ok (.aload_n 0, 1) := by decide +kernel
theorem dX1_gapes_2 : decode cX1_gapes 2 = .ok (.iload_n 2, 1) := by decide +kernel
theorem dX1_gapes_3 : decode cX1_gapes 3 = .ok (.iload_n 3, 1) := by decide +kernel
theorem dX1_gapes_4 : decode cX1_gapes 4 = .ok (.invokevirtual 64, 3) := by decide +kernel
theorem dX1_gapes_7 : decode cX1_gapes 7 = .ok (.aload_n 0, 1) := by decide +kernel
theorem dX1_gapes_8 : decode cX1_gapes 8 = .ok (.iload_n 2, 1) := by decide +kernel
theorem dX1_gapes_9 : decode cX1_gapes 9 = .ok (.iload_n 3, 1) := by decide +kernel
theorem dX1_gapes_10 : decode cX1_gapes 10 = .ok (.invokevirtual 67, 3) := by decide +kernel
theorem dX1_gapes_13 : decode cX1_gapes 13 = .ok (.invokevirtual 70, 3) := by decide +kernel
theorem dX1_gapes_16 : decode cX1_gapes 16 = .ok (.ireturn, 1) := by decide +kernel
theorem wrr_wsX1_countHoles {i : Nat} {w : Cond} (h : wsX1_countHoles[i]? = some w) : w ∈ wsX1_countHoles := List.mem_of_getElem? h
theorem wrr_wsX1_countHoles_wsX1_countHoles_r1 {i : Nat} {w : Cond} (h : wsX1_countHoles_r1[i]? = some w) : w ∈ wsX1_countHoles := (List.mem_cons_of_mem _ (List.mem_append_left _ (List.mem_append_left _ (List.mem_append_left _ (List.mem_of_getElem? h)))))
theorem wrr_wsX1_countHoles_wsX1_countHoles_r2 {i : Nat} {w : Cond} (h : wsX1_countHoles_r2[i]? = some w) : w ∈ wsX1_countHoles := (List.mem_cons_of_mem _ (List.mem_append_left _ (List.mem_append_left _ (List.mem_append_right _ (List.mem_of_getElem? h)))))
theorem wru_wsX1_countHoles_wsX10 : ∀ w ∈ wsX10, w ∈ wsX1_countHoles := fun w h => (List.mem_cons_of_mem _ (List.mem_append_left _ (List.mem_append_right _ h)))
theorem wru_wsX1_countHoles_wsX00 : ∀ w ∈ wsX00, w ∈ wsX1_countHoles := fun w h => (List.mem_cons_of_mem _ (List.mem_append_right _ h))
set_option maxRecDepth 20000 in
theorem gw_wsX1_gapes : wsX1_gapes.all goodWord = true := by decide +kernel
set_option maxRecDepth 20000 in
theorem ggX1_countHoles_X1_gapes : GoodIn wsX1_countHoles wsX1_gapes := goodIn_sub (List.forall_mem_cons.mpr ⟨wrr_wsX1_countHoles_wsX1_countHoles_r1 (i := 4) rfl, (List.forall_mem_append.mpr ⟨(List.forall_mem_append.mpr ⟨(List.forall_mem_cons.mpr ⟨wrr_wsX1_countHoles_wsX1_countHoles_r1 (i := 5) rfl, (List.forall_mem_cons.mpr ⟨wrr_wsX1_countHoles_wsX1_countHoles_r1 (i := 6) rfl, (List.forall_mem_cons.mpr ⟨wrr_wsX1_countHoles_wsX1_countHoles_r1 (i := 7) rfl, (List.forall_mem_cons.mpr ⟨wrr_wsX1_countHoles_wsX1_countHoles_r1 (i := 3) rfl, (List.forall_mem_cons.mpr ⟨wrr_wsX1_countHoles_wsX1_countHoles_r1 (i := 8) rfl, (List.forall_mem_cons.mpr ⟨wrr_wsX1_countHoles_wsX1_countHoles_r1 (i := 9) rfl, (List.forall_mem_cons.mpr ⟨wrr_wsX1_countHoles_wsX1_countHoles_r1 (i := 10) rfl, (List.forall_mem_cons.mpr ⟨wrr_wsX1_countHoles_wsX1_countHoles_r1 (i := 11) rfl, (List.forall_mem_cons.mpr ⟨wrr_wsX1_countHoles_wsX1_countHoles_r1 (i := 12) rfl, (List.forall_mem_cons.mpr ⟨wrr_wsX1_countHoles_wsX1_countHoles_r1 (i := 13) rfl, (List.forall_mem_cons.mpr ⟨wrr_wsX1_countHoles_wsX1_countHoles_r1 (i := 14) rfl, (List.forall_mem_cons.mpr ⟨wrr_wsX1_countHoles_wsX1_countHoles_r1 (i := 15) rfl, (List.forall_mem_cons.mpr ⟨wrr_wsX1_countHoles_wsX1_countHoles_r1 (i := 16) rfl, (List.forall_mem_cons.mpr ⟨wrr_wsX1_countHoles_wsX1_countHoles_r1 (i := 17) rfl, (List.forall_mem_cons.mpr ⟨wrr_wsX1_countHoles_wsX1_countHoles_r1 (i := 18) rfl, (List.forall_mem_cons.mpr ⟨wrr_wsX1_countHoles_wsX1_countHoles_r1 (i := 19) rfl, (List.forall_mem_cons.mpr ⟨wrr_wsX1_countHoles_wsX1_countHoles_r1 (i := 20) rfl, (List.forall_mem_cons.mpr ⟨wrr_wsX1_countHoles_wsX1_countHoles_r1 (i := 21) rfl, (List.forall_mem_cons.mpr ⟨wrr_wsX1_countHoles_wsX1_countHoles_r1 (i := 22) rfl, (List.forall_mem_cons.mpr ⟨wrr_wsX1_countHoles_wsX1_countHoles_r1 (i := 23) rfl, (List.forall_mem_cons.mpr ⟨wrr_wsX1_countHoles_wsX1_countHoles_r2 (i := 0) rfl, (fun _ h => absurd h List.not_mem_nil)⟩)⟩)⟩)⟩)⟩)⟩)⟩)⟩)⟩)⟩)⟩)⟩)⟩)⟩)⟩)⟩)⟩)⟩)⟩)⟩)⟩), wru_wsX1_countHoles_wsX10⟩), wru_wsX1_countHoles_wsX00⟩)⟩) gw_wsX1_gapes
set_option maxRecDepth 20000 in
theorem gX1_countHoles_X1_gapes : GoodIn wsX1_countHoles (wsV RX1 74 RX1 yX1_gapes wsX1_gapes) := goodIn_app (goodIn_sub (List.forall_mem_cons.mpr ⟨wrr_wsX1_countHoles_wsX1_countHoles_r1 (i := 0) rfl, (List.forall_mem_cons.mpr ⟨wrr_wsX1_countHoles_wsX1_countHoles_r1 (i := 1) rfl, (List.forall_mem_cons.mpr ⟨wrr_wsX1_countHoles_wsX1_countHoles_r1 (i := 2) rfl, (List.forall_mem_cons.mpr ⟨wrr_wsX1_countHoles_wsX1_countHoles_r1 (i := 3) rfl, (fun _ h => absurd h List.not_mem_nil)⟩)⟩)⟩)⟩) (by decide +kernel)) ggX1_countHoles_X1_gapes
theorem dX1_countHoles_0 : decode cX1_countHoles 0 = .ok (.iconst 0, 1) := by decide +kernel
theorem dX1_countHoles_1 : decode cX1_countHoles 1 = .ok (.istore 5, 2) := by decide +kernel
theorem dX1_countHoles_3 : decode cX1_countHoles 3 = .ok (.iload_n 3, 1) := by decide +kernel
theorem dX1_countHoles_4 : decode cX1_countHoles 4 = .ok (.istore 6, 2) := by decide +kernel
theorem dX1_countHoles_6 : decode cX1_countHoles 6 = .ok (.iload 6, 2) := by decide +kernel
theorem dX1_countHoles_8 : decode cX1_countHoles 8 = .ok (.iload 4, 2) := by decide +kernel
theorem dX1_countHoles_10 : decode cX1_countHoles 10 = .ok (.if_icmp .gt 23, 3) := by decide +kernel
theorem dX1_countHoles_13 : decode cX1_countHoles 13 = .ok (.aload_n 0, 1) := by decide +kernel
theorem dX1_countHoles_14 : decode cX1_countHoles 14 = .ok (.aload_n 1, 1) := by decide +kernel
theorem dX1_countHoles_15 : decode cX1_countHoles 15 = .ok (.iload_n 2, 1) := by decide +kernel
theorem dX1_countHoles_16 : decode cX1_countHoles 16 = .ok (.iload 6, 2) := by decide +kernel
theorem dX1_countHoles_18 : decode cX1_countHoles 18 = .ok (.invokevirtual 74, 3) := by decide +kernel
theorem dX1_countHoles_21 : decode cX1_countHoles 21 = .ok (.ifCond .eq 6, 3) := by decide +kernel
theorem dX1_countHoles_24 : decode cX1_countHoles 24 = .ok (.iinc 5 1, 3) := by decide +kernel
theorem dX1_countHoles_27 : decode cX1_countHoles 27 = .ok (.iinc 6 1, 3) := by decide +kernel
theorem dX1_countHoles_30 : decode cX1_countHoles 30 = .ok (.goto (-24), 3) := by decide +kernel
theorem dX1_countHoles_33 : decode cX1_countHoles 33 = .ok (.iload 5, 2) := by decide +kernel
theorem dX1_countHoles_35 : decode cX1_countHoles 35 = .ok (.ireturn, 1) := by decide +kernel
theorem wrr_wsX1_countAllHoles {i : Nat} {w : Cond} (h : wsX1_countAllHoles[i]? = some w) : w ∈ wsX1_countAllHoles := List.mem_of_getElem? h
theorem wrr_wsX1_countAllHoles_wsX1_countAllHoles_r1 {i : Nat} {w : Cond} (h : wsX1_countAllHoles_r1[i]? = some w) : w ∈ wsX1_countAllHoles := (List.mem_cons_of_mem _ (List.mem_append_left _ (List.mem_append_left _ (List.mem_append_left _ (List.mem_of_getElem? h)))))
theorem wrr_wsX1_countAllHoles_wsX1_countAllHoles_r2 {i : Nat} {w : Cond} (h : wsX1_countAllHoles_r2[i]? = some w) : w ∈ wsX1_countAllHoles := (List.mem_cons_of_mem _ (List.mem_append_left _ (List.mem_append_left _ (List.mem_append_right _ (List.mem_of_getElem? h)))))
theorem wru_wsX1_countAllHoles_wsX10 : ∀ w ∈ wsX10, w ∈ wsX1_countAllHoles := fun w h => (List.mem_cons_of_mem _ (List.mem_append_left _ (List.mem_append_right _ h)))
theorem wru_wsX1_countAllHoles_wsX00 : ∀ w ∈ wsX00, w ∈ wsX1_countAllHoles := fun w h => (List.mem_cons_of_mem _ (List.mem_append_right _ h))
set_option maxRecDepth 20000 in
theorem gw_wsX1_countHoles : wsX1_countHoles.all goodWord = true := by decide +kernel
set_option maxRecDepth 20000 in
theorem ggX1_countAllHoles_X1_countHoles : GoodIn wsX1_countAllHoles wsX1_countHoles := goodIn_sub (List.forall_mem_cons.mpr ⟨wrr_wsX1_countAllHoles_wsX1_countAllHoles_r1 (i := 4) rfl, (List.forall_mem_append.mpr ⟨(List.forall_mem_append.mpr ⟨(List.forall_mem_append.mpr ⟨(List.forall_mem_cons.mpr ⟨wrr_wsX1_countAllHoles_wsX1_countAllHoles_r1 (i := 5) rfl, (List.forall_mem_cons.mpr ⟨wrr_wsX1_countAllHoles_wsX1_countAllHoles_r1 (i := 6) rfl, (List.forall_mem_cons.mpr ⟨wrr_wsX1_countAllHoles_wsX1_countAllHoles_r1 (i := 7) rfl, (List.forall_mem_cons.mpr ⟨wrr_wsX1_countAllHoles_wsX1_countAllHoles_r1 (i := 3) rfl, (List.forall_mem_cons.mpr ⟨wrr_wsX1_countAllHoles_wsX1_countAllHoles_r1 (i := 8) rfl, (List.forall_mem_cons.mpr ⟨wrr_wsX1_countAllHoles_wsX1_countAllHoles_r1 (i := 9) rfl, (List.forall_mem_cons.mpr ⟨wrr_wsX1_countAllHoles_wsX1_countAllHoles_r1 (i := 10) rfl, (List.forall_mem_cons.mpr ⟨wrr_wsX1_countAllHoles_wsX1_countAllHoles_r1 (i := 11) rfl, (List.forall_mem_cons.mpr ⟨wrr_wsX1_countAllHoles_wsX1_countAllHoles_r1 (i := 12) rfl, (List.forall_mem_cons.mpr ⟨wrr_wsX1_countAllHoles_wsX1_countAllHoles_r1 (i := 13) rfl, (List.forall_mem_cons.mpr ⟨wrr_wsX1_countAllHoles_wsX1_countAllHoles_r1 (i := 14) rfl, (List.forall_mem_cons.mpr ⟨wrr_wsX1_countAllHoles_wsX1_countAllHoles_r1 (i := 15) rfl, (List.forall_mem_cons.mpr ⟨wrr_wsX1_countAllHoles_wsX1_countAllHoles_r1 (i := 16) rfl, (List.forall_mem_cons.mpr ⟨wrr_wsX1_countAllHoles_wsX1_countAllHoles_r1 (i := 17) rfl, (List.forall_mem_cons.mpr ⟨wrr_wsX1_countAllHoles_wsX1_countAllHoles_r1 (i := 18) rfl, (List.forall_mem_cons.mpr ⟨wrr_wsX1_countAllHoles_wsX1_countAllHoles_r1 (i := 19) rfl, (List.forall_mem_cons.mpr ⟨wrr_wsX1_countAllHoles_wsX1_countAllHoles_r1 (i := 20) rfl, (List.forall_mem_cons.mpr ⟨wrr_wsX1_countAllHoles_wsX1_countAllHoles_r1 (i := 21) rfl, (List.forall_mem_cons.mpr ⟨wrr_wsX1_countAllHoles_wsX1_countAllHoles_r1 (i := 22) rfl, (List.forall_mem_cons.mpr ⟨wrr_wsX1_countAllHoles_wsX1_countAllHoles_r1 (i := 23) rfl, (List.forall_mem_cons.mpr ⟨wrr_wsX1_countAllHoles_wsX1_countAllHoles_r2 (i := 0) rfl, (List.forall_mem_cons.mpr ⟨wrr_wsX1_countAllHoles_wsX1_countAllHoles_r2 (i := 1) rfl, (List.forall_mem_cons.mpr ⟨wrr_wsX1_countAllHoles_wsX1_countAllHoles_r2 (i := 2) rfl, (List.forall_mem_cons.mpr ⟨wrr_wsX1_countAllHoles_wsX1_countAllHoles_r2 (i := 3) rfl, (fun _ h => absurd h List.not_mem_nil)⟩)⟩)⟩)⟩)⟩)⟩)⟩)⟩)⟩)⟩)⟩)⟩)⟩)⟩)⟩)⟩)⟩)⟩)⟩)⟩)⟩)⟩)⟩)⟩), (List.forall_mem_cons.mpr ⟨wrr_wsX1_countAllHoles_wsX1_countAllHoles_r2 (i := 4) rfl, (fun _ h => absurd h List.not_mem_nil)⟩)⟩), wru_wsX1_countAllHoles_wsX10⟩), wru_wsX1_countAllHoles_wsX00⟩)⟩) gw_wsX1_countHoles
set_option maxRecDepth 20000 in
theorem gX1_countAllHoles_X1_countHoles : GoodIn wsX1_countAllHoles (wsV RX1 78 RX1 yX1_countHoles wsX1_countHoles) := goodIn_app (goodIn_sub (List.forall_mem_cons.mpr ⟨wrr_wsX1_countAllHoles_wsX1_countAllHoles_r1 (i := 0) rfl, (List.forall_mem_cons.mpr ⟨wrr_wsX1_countAllHoles_wsX1_countAllHoles_r1 (i := 1) rfl, (List.forall_mem_cons.mpr ⟨wrr_wsX1_countAllHoles_wsX1_countAllHoles_r1 (i := 2) rfl, (List.forall_mem_cons.mpr ⟨wrr_wsX1_countAllHoles_wsX1_countAllHoles_r1 (i := 3) rfl, (fun _ h => absurd h List.not_mem_nil)⟩)⟩)⟩)⟩) (by decide +kernel)) ggX1_countAllHoles_X1_countHoles
theorem dX1_countAllHoles_0 : decode cX1_countAllHoles 0 = .ok (.aload_n 0, 1) := by decide +kernel
theorem dX1_countAllHoles_1 : decode cX1_countAllHoles 1 = .ok (.aload_n 1, 1) := by decide +kernel
theorem dX1_countAllHoles_2 : decode cX1_countAllHoles 2 = .ok (.iconst 0, 1) := by decide +kernel
theorem dX1_countAllHoles_3 : decode cX1_countAllHoles 3 = .ok (.iconst 0, 1) := by decide +kernel
theorem dX1_countAllHoles_4 : decode cX1_countAllHoles 4 = .ok (.sipush 199, 3) := by decide +kernel
theorem dX1_countAllHoles_7 : decode cX1_countAllHoles 7 = .ok (.invokevirtual 78, 3) := by decide +kernel
theorem dX1_countAllHoles_10 : decode cX1_countAllHoles 10 = .ok (.aload_n 0, 1) := by decide +kernel
theorem dX1_countAllHoles_11 : decode cX1_countAllHoles 11 = .ok (.aload_n 1, 1) := by decide +kernel
theorem dX1_countAllHoles_12 : decode cX1_countAllHoles 12 = .ok (.iconst 1, 1) := by decide +kernel
theorem dX1_countAllHoles_13 : decode cX1_countAllHoles 13 = .ok (.iconst 0, 1) := by decide +kernel
theorem dX1_countAllHoles_14 : decode cX1_countAllHoles 14 = .ok (.sipush 199, 3) := by decide +kernel
theorem dX1_countAllHoles_17 : decode cX1_countAllHoles 17 = .ok (.invokevirtual 78, 3) := by decide +kernel
theorem dX1_countAllHoles_20 : decode cX1_countAllHoles 20 = .ok (.iadd, 1) := by decide +kernel
theorem dX1_countAllHoles_21 : decode cX1_countAllHoles 21 = .ok (.ireturn, 1) := by decide +kernel
theorem wrr_wsX1_findCalm {i : Nat} {w : Cond} (h : wsX1_findCalm[i]? = some w) : w ∈ wsX1_findCalm := List.mem_of_getElem? h
theorem wrr_wsX1_findCalm_wsX1_findCalm_r1 {i : Nat} {w : Cond} (h : wsX1_findCalm_r1[i]? = some w) : w ∈ wsX1_findCalm := (List.mem_cons_of_mem _ (List.mem_append_left _ (List.mem_append_left _ (List.mem_append_left _ (List.mem_of_getElem? h)))))
theorem wrr_wsX1_findCalm_wsX1_findCalm_r2 {i : Nat} {w : Cond} (h : wsX1_findCalm_r2[i]? = some w) : w ∈ wsX1_findCalm := (List.mem_cons_of_mem _ (List.mem_append_left _ (List.mem_append_left _ (List.mem_append_right _ (List.mem_of_getElem? h)))))
theorem wru_wsX1_findCalm_wsX10 : ∀ w ∈ wsX10, w ∈ wsX1_findCalm := fun w h => (List.mem_cons_of_mem _ (List.mem_append_left _ (List.mem_append_right _ h)))
theorem wru_wsX1_findCalm_wsX00 : ∀ w ∈ wsX00, w ∈ wsX1_findCalm := fun w h => (List.mem_cons_of_mem _ (List.mem_append_right _ h))
set_option maxRecDepth 20000 in
theorem ggX1_findCalm_X1_gapes : GoodIn wsX1_findCalm wsX1_gapes := goodIn_sub (List.forall_mem_cons.mpr ⟨wrr_wsX1_findCalm_wsX1_findCalm_r1 (i := 6) rfl, (List.forall_mem_append.mpr ⟨(List.forall_mem_append.mpr ⟨(List.forall_mem_cons.mpr ⟨wrr_wsX1_findCalm_wsX1_findCalm_r1 (i := 7) rfl, (List.forall_mem_cons.mpr ⟨wrr_wsX1_findCalm_wsX1_findCalm_r1 (i := 8) rfl, (List.forall_mem_cons.mpr ⟨wrr_wsX1_findCalm_wsX1_findCalm_r1 (i := 9) rfl, (List.forall_mem_cons.mpr ⟨wrr_wsX1_findCalm_wsX1_findCalm_r1 (i := 5) rfl, (List.forall_mem_cons.mpr ⟨wrr_wsX1_findCalm_wsX1_findCalm_r1 (i := 10) rfl, (List.forall_mem_cons.mpr ⟨wrr_wsX1_findCalm_wsX1_findCalm_r1 (i := 11) rfl, (List.forall_mem_cons.mpr ⟨wrr_wsX1_findCalm_wsX1_findCalm_r1 (i := 12) rfl, (List.forall_mem_cons.mpr ⟨wrr_wsX1_findCalm_wsX1_findCalm_r1 (i := 13) rfl, (List.forall_mem_cons.mpr ⟨wrr_wsX1_findCalm_wsX1_findCalm_r1 (i := 14) rfl, (List.forall_mem_cons.mpr ⟨wrr_wsX1_findCalm_wsX1_findCalm_r1 (i := 15) rfl, (List.forall_mem_cons.mpr ⟨wrr_wsX1_findCalm_wsX1_findCalm_r1 (i := 16) rfl, (List.forall_mem_cons.mpr ⟨wrr_wsX1_findCalm_wsX1_findCalm_r1 (i := 17) rfl, (List.forall_mem_cons.mpr ⟨wrr_wsX1_findCalm_wsX1_findCalm_r1 (i := 18) rfl, (List.forall_mem_cons.mpr ⟨wrr_wsX1_findCalm_wsX1_findCalm_r1 (i := 19) rfl, (List.forall_mem_cons.mpr ⟨wrr_wsX1_findCalm_wsX1_findCalm_r1 (i := 20) rfl, (List.forall_mem_cons.mpr ⟨wrr_wsX1_findCalm_wsX1_findCalm_r1 (i := 21) rfl, (List.forall_mem_cons.mpr ⟨wrr_wsX1_findCalm_wsX1_findCalm_r1 (i := 22) rfl, (List.forall_mem_cons.mpr ⟨wrr_wsX1_findCalm_wsX1_findCalm_r1 (i := 23) rfl, (List.forall_mem_cons.mpr ⟨wrr_wsX1_findCalm_wsX1_findCalm_r2 (i := 0) rfl, (List.forall_mem_cons.mpr ⟨wrr_wsX1_findCalm_wsX1_findCalm_r2 (i := 1) rfl, (List.forall_mem_cons.mpr ⟨wrr_wsX1_findCalm_wsX1_findCalm_r2 (i := 2) rfl, (fun _ h => absurd h List.not_mem_nil)⟩)⟩)⟩)⟩)⟩)⟩)⟩)⟩)⟩)⟩)⟩)⟩)⟩)⟩)⟩)⟩)⟩)⟩)⟩)⟩)⟩), wru_wsX1_findCalm_wsX10⟩), wru_wsX1_findCalm_wsX00⟩)⟩) gw_wsX1_gapes
set_option maxRecDepth 20000 in
theorem gX1_findCalm_X1_gapes : GoodIn wsX1_findCalm (wsV RX1 74 RX1 yX1_gapes wsX1_gapes) := goodIn_app (goodIn_sub (List.forall_mem_cons.mpr ⟨wrr_wsX1_findCalm_wsX1_findCalm_r1 (i := 2) rfl, (List.forall_mem_cons.mpr ⟨wrr_wsX1_findCalm_wsX1_findCalm_r1 (i := 3) rfl, (List.forall_mem_cons.mpr ⟨wrr_wsX1_findCalm_wsX1_findCalm_r1 (i := 4) rfl, (List.forall_mem_cons.mpr ⟨wrr_wsX1_findCalm_wsX1_findCalm_r1 (i := 5) rfl, (fun _ h => absurd h List.not_mem_nil)⟩)⟩)⟩)⟩) (by decide +kernel)) ggX1_findCalm_X1_gapes
theorem dX1_findCalm_0 : decode cX1_findCalm 0 = .ok (.aload_n 0, 1) := by decide +kernel
theorem dX1_findCalm_1 : decode cX1_findCalm 1 = .ok (.iconst 0, 1) := by decide +kernel
theorem dX1_findCalm_2 : decode cX1_findCalm 2 = .ok (.putfield 82, 3) := by decide +kernel
theorem dX1_findCalm_5 : decode cX1_findCalm 5 = .ok (.aload_n 0, 1) := by decide +kernel
theorem dX1_findCalm_6 : decode cX1_findCalm 6 = .ok (.iconst (-1), 1) := by decide +kernel
theorem dX1_findCalm_7 : decode cX1_findCalm 7 = .ok (.putfield 85, 3) := by decide +kernel
theorem dX1_findCalm_10 : decode cX1_findCalm 10 = .ok (.iload_n 2, 1) := by decide +kernel
theorem dX1_findCalm_11 : decode cX1_findCalm 11 = .ok (.istore 4, 2) := by decide +kernel
theorem dX1_findCalm_13 : decode cX1_findCalm 13 = .ok (.iload_n 2, 1) := by decide +kernel
theorem dX1_findCalm_14 : decode cX1_findCalm 14 = .ok (.istore 5, 2) := by decide +kernel
theorem dX1_findCalm_16 : decode cX1_findCalm 16 = .ok (.iload 5, 2) := by decide +kernel
theorem dX1_findCalm_18 : decode cX1_findCalm 18 = .ok (.iload_n 3, 1) := by decide +kernel
theorem dX1_findCalm_19 : decode cX1_findCalm 19 = .ok (.if_icmp .gt 71, 3) := by decide +kernel
theorem dX1_findCalm_22 : decode cX1_findCalm 22 = .ok (.aload_n 0, 1) := by decide +kernel
theorem dX1_findCalm_23 : decode cX1_findCalm 23 = .ok (.aload_n 1, 1) := by decide +kernel
theorem dX1_findCalm_24 : decode cX1_findCalm 24 = .ok (.iconst 0, 1) := by decide +kernel
theorem dX1_findCalm_25 : decode cX1_findCalm 25 = .ok (.iload 5, 2) := by decide +kernel
theorem dX1_findCalm_27 : decode cX1_findCalm 27 = .ok (.invokevirtual 74, 3) := by decide +kernel
theorem dX1_findCalm_30 : decode cX1_findCalm 30 = .ok (.ifCond .ne 14, 3) := by decide +kernel
theorem dX1_findCalm_33 : decode cX1_findCalm 33 = .ok (.aload_n 0, 1) := by decide +kernel
theorem dX1_findCalm_34 : decode cX1_findCalm 34 = .ok (.aload_n 1, 1) := by decide +kernel
theorem dX1_findCalm_35 : decode cX1_findCalm 35 = .ok (.iconst 1, 1) := by decide +kernel
theorem dX1_findCalm_36 : decode cX1_findCalm 36 = .ok (.iload 5, 2) := by decide +kernel
theorem dX1_findCalm_38 : decode cX1_findCalm 38 = .ok (.invokevirtual 74, 3) := by decide +kernel
theorem dX1_findCalm_41 : decode cX1_findCalm 41 = .ok (.ifCond .eq 12, 3) := by decide +kernel
theorem dX1_findCalm_44 : decode cX1_findCalm 44 = .ok (.iload 5, 2) := by decide +kernel
theorem dX1_findCalm_46 : decode cX1_findCalm 46 = .ok (.iconst 1, 1) := by decide +kernel
theorem dX1_findCalm_47 : decode cX1_findCalm 47 = .ok (.iadd, 1) := by decide +kernel
theorem dX1_findCalm_48 : decode cX1_findCalm 48 = .ok (.istore 4, 2) := by decide +kernel
theorem dX1_findCalm_50 : decode cX1_findCalm 50 = .ok (.goto 34, 3) := by decide +kernel
theorem dX1_findCalm_53 : decode cX1_findCalm 53 = .ok (.iload 5, 2) := by decide +kernel
theorem dX1_findCalm_55 : decode cX1_findCalm 55 = .ok (.iconst 1, 1) := by decide +kernel
theorem dX1_findCalm_56 : decode cX1_findCalm 56 = .ok (.iadd, 1) := by decide +kernel
theorem dX1_findCalm_57 : decode cX1_findCalm 57 = .ok (.iload 4, 2) := by decide +kernel
theorem dX1_findCalm_59 : decode cX1_findCalm 59 = .ok (.isub, 1) := by decide +kernel
theorem dX1_findCalm_60 : decode cX1_findCalm 60 = .ok (.aload_n 0, 1) := by decide +kernel
theorem dX1_findCalm_61 : decode cX1_findCalm 61 = .ok (.getfield 82, 3) := by decide +kernel
theorem dX1_findCalm_64 : decode cX1_findCalm 64 = .ok (.if_icmp .le 20, 3) := by decide +kernel
theorem dX1_findCalm_67 : decode cX1_findCalm 67 = .ok (.aload_n 0, 1) := by decide +kernel
theorem dX1_findCalm_68 : decode cX1_findCalm 68 = .ok (.iload 5, 2) := by decide +kernel
theorem dX1_findCalm_70 : decode cX1_findCalm 70 = .ok (.iconst 1, 1) := by decide +kernel
theorem dX1_findCalm_71 : decode cX1_findCalm 71 = .ok (.iadd, 1) := by decide +kernel
theorem dX1_findCalm_72 : decode cX1_findCalm 72 = .ok (.iload 4, 2) := by decide +kernel
theorem dX1_findCalm_74 : decode cX1_findCalm 74 = .ok (.isub, 1) := by decide +kernel
theorem dX1_findCalm_75 : decode cX1_findCalm 75 = .ok (.putfield 82, 3) := by decide +kernel
theorem dX1_findCalm_78 : decode cX1_findCalm 78 = .ok (.aload_n 0, 1) := by decide +kernel
theorem dX1_findCalm_79 : decode cX1_findCalm 79 = .ok (.iload 4, 2) := by decide +kernel
theorem dX1_findCalm_81 : decode cX1_findCalm 81 = .ok (.putfield 85, 3) := by decide +kernel
theorem dX1_findCalm_84 : decode cX1_findCalm 84 = .ok (.iinc 5 1, 3) := by decide +kernel
theorem dX1_findCalm_87 : decode cX1_findCalm 87 = .ok (.goto (-71), 3) := by decide +kernel
theorem dX1_findCalm_90 : decode cX1_findCalm 90 = .ok (.return_, 1) := by decide +kernel
