abbrev cX12_common : ByteArray := prog_14_method_72_code
def yX12_common : MethodName := ⟨RX12, "common", "(II)I"⟩
abbrev cX12_commonLong : ByteArray := prog_14_method_73_code
def yX12_commonLong : MethodName := ⟨RX12, "commonLong", "(JJ)J"⟩
abbrev cX12_periodOf : ByteArray := prog_14_method_74_code
def yX12_periodOf : MethodName := ⟨RX12, "periodOf", "()I"⟩
abbrev cX12_period : ByteArray := prog_14_method_75_code
def yX12_period : MethodName := ⟨RX12, "period", "()I"⟩
abbrev cX12_plain : ByteArray := prog_14_method_76_code
def yX12_plain : MethodName := ⟨RX12, "plain", "(III)I"⟩
abbrev cX12_meets : ByteArray := prog_14_method_77_code
def yX12_meets : MethodName := ⟨RX12, "meets", "(III)I"⟩
abbrev cX12_shiftedOf : ByteArray := prog_14_method_78_code
def yX12_shiftedOf : MethodName := ⟨RX12, "shiftedOf", "(I)I"⟩
abbrev cX12_shifted : ByteArray := prog_14_method_79_code
def yX12_shifted : MethodName := ⟨RX12, "shifted", "(I)I"⟩
abbrev cX12_shift : ByteArray := prog_14_method_80_code
def yX12_shift : MethodName := ⟨RX12, "shift", "()I"⟩
abbrev cX12_least : ByteArray := prog_14_method_81_code
def yX12_least : MethodName := ⟨RX12, "least", "()I"⟩
def wsX12_common : List Cond := .code yX12_common cX12_common 2 (some .int) :: ([.methodLink RX12 315 yX12_common, .static yX12_common, .initialized RX12])
def wsX12_commonLong : List Cond := .code yX12_commonLong cX12_commonLong 4 (some .long) :: ([.methodLink RX12 318 yX12_commonLong, .static yX12_commonLong, .initialized RX12])
def wsX12_periodOf : List Cond := .code yX12_periodOf cX12_periodOf 1 (some .int) :: ([.methodLink RX12 264 yX12_lengthOf, .instanceMethod yX12_lengthOf, .selects RX12 yX12_lengthOf yX12_lengthOf, .initialized RX12, .code yX12_lengthOf cX12_lengthOf 2 (some .int), .fieldLink RX12 34 "OverHillModel" "has" "[I", .methodLink RX12 315 yX12_common, .static yX12_common, .code yX12_common cX12_common 2 (some .int)] ++ wsX120)
def wsX12_period : List Cond := .code yX12_period cX12_period 1 (some .int) :: ([.fieldLink RX12 80 "OverHillModel" "thrown" "I", .methodLink RX12 254 yX12_isDance, .instanceMethod yX12_isDance, .selects RX12 yX12_isDance yX12_isDance, .initialized RX12, .code yX12_isDance cX12_isDance 1 (some .boolean), .fieldLink RX12 31 "OverHillModel" "lines" "[I", .methodLink RX12 322 yX12_areRounds, .instanceMethod yX12_areRounds, .selects RX12 yX12_areRounds yX12_areRounds, .code yX12_areRounds cX12_areRounds 1 (some .boolean), .fieldLink RX12 34 "OverHillModel" "has" "[I", .methodLink RX12 325 yX12_periodOf, .instanceMethod yX12_periodOf, .selects RX12 yX12_periodOf yX12_periodOf, .code yX12_periodOf cX12_periodOf 1 (some .int), .methodLink RX12 264 yX12_lengthOf, .instanceMethod yX12_lengthOf, .selects RX12 yX12_lengthOf yX12_lengthOf, .code yX12_lengthOf cX12_lengthOf 2 (some .int), .methodLink RX12 315 yX12_common, .static yX12_common, .code yX12_common cX12_common 2 (some .int)] ++ wsX120)
def wsX12_plain : List Cond := .code yX12_plain cX12_plain 4 (some .int) :: ([.fieldLink RX12 37 "OverHillModel" "round" "[I", .fieldLink RX12 34 "OverHillModel" "has" "[I", .methodLink RX12 264 yX12_lengthOf, .instanceMethod yX12_lengthOf, .selects RX12 yX12_lengthOf yX12_lengthOf, .initialized RX12, .code yX12_lengthOf cX12_lengthOf 2 (some .int)] ++ wsX120)
def wsX12_meets_r1 : List Cond := [Cond.fieldLink RX12 80 "OverHillModel" "thrown" "I", Cond.fieldLink RX12 34 "OverHillModel" "has" "[I", Cond.methodLink RX12 254 yX12_isDance, Cond.instanceMethod yX12_isDance, Cond.selects RX12 yX12_isDance yX12_isDance, Cond.initialized RX12, Cond.code yX12_isDance cX12_isDance 1 (some .boolean), Cond.fieldLink RX12 31 "OverHillModel" "lines" "[I", Cond.methodLink RX12 264 yX12_lengthOf, Cond.instanceMethod yX12_lengthOf, Cond.selects RX12 yX12_lengthOf yX12_lengthOf, Cond.code yX12_lengthOf cX12_lengthOf 2 (some .int), Cond.methodLink RX12 85 yX12_in, Cond.static yX12_in, Cond.code yX12_in cX12_in 6 (some .boolean), Cond.methodLink RX12 270 yX12_isBeat, Cond.static yX12_isBeat, Cond.code yX12_isBeat cX12_isBeat 2 (some .boolean), Cond.constantLong RX12 257 (199), Cond.methodLink RX12 325 yX12_periodOf, Cond.instanceMethod yX12_periodOf, Cond.selects RX12 yX12_periodOf yX12_periodOf, Cond.code yX12_periodOf cX12_periodOf 1 (some .int), Cond.methodLink RX12 315 yX12_common]
def wsX12_meets_r2 : List Cond := [Cond.static yX12_common, Cond.code yX12_common cX12_common 2 (some .int)]
def wsX12_meets : List Cond := .code yX12_meets cX12_meets 5 (some .int) :: ((wsX12_meets_r1 ++ wsX12_meets_r2) ++ wsX120)
def wsX12_shiftedOf_r1 : List Cond := [Cond.fieldLink RX12 34 "OverHillModel" "has" "[I", Cond.methodLink RX12 325 yX12_periodOf, Cond.instanceMethod yX12_periodOf, Cond.selects RX12 yX12_periodOf yX12_periodOf, Cond.initialized RX12, Cond.code yX12_periodOf cX12_periodOf 1 (some .int), Cond.methodLink RX12 264 yX12_lengthOf, Cond.instanceMethod yX12_lengthOf, Cond.selects RX12 yX12_lengthOf yX12_lengthOf, Cond.code yX12_lengthOf cX12_lengthOf 2 (some .int), Cond.methodLink RX12 315 yX12_common, Cond.static yX12_common, Cond.code yX12_common cX12_common 2 (some .int), Cond.methodLink RX12 328 yX12_plain, Cond.instanceMethod yX12_plain, Cond.selects RX12 yX12_plain yX12_plain, Cond.code yX12_plain cX12_plain 4 (some .int), Cond.fieldLink RX12 37 "OverHillModel" "round" "[I", Cond.methodLink RX12 287 yX12_clashes, Cond.instanceMethod yX12_clashes, Cond.selects RX12 yX12_clashes yX12_clashes, Cond.code yX12_clashes cX12_clashes 3 (some .boolean), Cond.fieldLink RX12 40 "OverHillModel" "meets" "[I", Cond.methodLink RX12 280 yX12_isBit]
def wsX12_shiftedOf_r2 : List Cond := [Cond.static yX12_isBit, Cond.code yX12_isBit cX12_isBit 2 (some .boolean)]
def wsX12_shiftedOf : List Cond := .code yX12_shiftedOf cX12_shiftedOf 5 (some .int) :: ((wsX12_shiftedOf_r1 ++ wsX12_shiftedOf_r2) ++ wsX120)
def wsX12_shifted_r1 : List Cond := [Cond.fieldLink RX12 80 "OverHillModel" "thrown" "I", Cond.methodLink RX12 254 yX12_isDance, Cond.instanceMethod yX12_isDance, Cond.selects RX12 yX12_isDance yX12_isDance, Cond.initialized RX12, Cond.code yX12_isDance cX12_isDance 1 (some .boolean), Cond.fieldLink RX12 31 "OverHillModel" "lines" "[I", Cond.methodLink RX12 322 yX12_areRounds, Cond.instanceMethod yX12_areRounds, Cond.selects RX12 yX12_areRounds yX12_areRounds, Cond.code yX12_areRounds cX12_areRounds 1 (some .boolean), Cond.fieldLink RX12 34 "OverHillModel" "has" "[I", Cond.methodLink RX12 264 yX12_lengthOf, Cond.instanceMethod yX12_lengthOf, Cond.selects RX12 yX12_lengthOf yX12_lengthOf, Cond.code yX12_lengthOf cX12_lengthOf 2 (some .int), Cond.methodLink RX12 85 yX12_in, Cond.static yX12_in, Cond.code yX12_in cX12_in 6 (some .boolean), Cond.methodLink RX12 331 yX12_shiftedOf, Cond.instanceMethod yX12_shiftedOf, Cond.selects RX12 yX12_shiftedOf yX12_shiftedOf, Cond.code yX12_shiftedOf cX12_shiftedOf 5 (some .int), Cond.methodLink RX12 325 yX12_periodOf]
def wsX12_shifted_r2 : List Cond := [Cond.instanceMethod yX12_periodOf, Cond.selects RX12 yX12_periodOf yX12_periodOf, Cond.code yX12_periodOf cX12_periodOf 1 (some .int), Cond.methodLink RX12 315 yX12_common, Cond.static yX12_common, Cond.code yX12_common cX12_common 2 (some .int), Cond.methodLink RX12 328 yX12_plain, Cond.instanceMethod yX12_plain, Cond.selects RX12 yX12_plain yX12_plain, Cond.code yX12_plain cX12_plain 4 (some .int), Cond.fieldLink RX12 37 "OverHillModel" "round" "[I", Cond.methodLink RX12 287 yX12_clashes, Cond.instanceMethod yX12_clashes, Cond.selects RX12 yX12_clashes yX12_clashes, Cond.code yX12_clashes cX12_clashes 3 (some .boolean), Cond.fieldLink RX12 40 "OverHillModel" "meets" "[I", Cond.methodLink RX12 280 yX12_isBit, Cond.static yX12_isBit, Cond.code yX12_isBit cX12_isBit 2 (some .boolean)]
def wsX12_shifted : List Cond := .code yX12_shifted cX12_shifted 2 (some .int) :: ((wsX12_shifted_r1 ++ wsX12_shifted_r2) ++ wsX120)
def wsX12_shift_r1 : List Cond := [Cond.fieldLink RX12 80 "OverHillModel" "thrown" "I", Cond.methodLink RX12 254 yX12_isDance, Cond.instanceMethod yX12_isDance, Cond.selects RX12 yX12_isDance yX12_isDance, Cond.initialized RX12, Cond.code yX12_isDance cX12_isDance 1 (some .boolean), Cond.fieldLink RX12 31 "OverHillModel" "lines" "[I", Cond.methodLink RX12 322 yX12_areRounds, Cond.instanceMethod yX12_areRounds, Cond.selects RX12 yX12_areRounds yX12_areRounds, Cond.code yX12_areRounds cX12_areRounds 1 (some .boolean), Cond.fieldLink RX12 34 "OverHillModel" "has" "[I", Cond.methodLink RX12 264 yX12_lengthOf, Cond.instanceMethod yX12_lengthOf, Cond.selects RX12 yX12_lengthOf yX12_lengthOf, Cond.code yX12_lengthOf cX12_lengthOf 2 (some .int), Cond.methodLink RX12 331 yX12_shiftedOf, Cond.instanceMethod yX12_shiftedOf, Cond.selects RX12 yX12_shiftedOf yX12_shiftedOf, Cond.code yX12_shiftedOf cX12_shiftedOf 5 (some .int), Cond.methodLink RX12 325 yX12_periodOf, Cond.instanceMethod yX12_periodOf, Cond.selects RX12 yX12_periodOf yX12_periodOf, Cond.code yX12_periodOf cX12_periodOf 1 (some .int)]
def wsX12_shift_r2 : List Cond := [Cond.methodLink RX12 315 yX12_common, Cond.static yX12_common, Cond.code yX12_common cX12_common 2 (some .int), Cond.methodLink RX12 328 yX12_plain, Cond.instanceMethod yX12_plain, Cond.selects RX12 yX12_plain yX12_plain, Cond.code yX12_plain cX12_plain 4 (some .int), Cond.fieldLink RX12 37 "OverHillModel" "round" "[I", Cond.methodLink RX12 287 yX12_clashes, Cond.instanceMethod yX12_clashes, Cond.selects RX12 yX12_clashes yX12_clashes, Cond.code yX12_clashes cX12_clashes 3 (some .boolean), Cond.fieldLink RX12 40 "OverHillModel" "meets" "[I", Cond.methodLink RX12 280 yX12_isBit, Cond.static yX12_isBit, Cond.code yX12_isBit cX12_isBit 2 (some .boolean)]
def wsX12_shift : List Cond := .code yX12_shift cX12_shift 2 (some .int) :: ((wsX12_shift_r1 ++ wsX12_shift_r2) ++ wsX120)
def wsX12_least_r1 : List Cond := [Cond.fieldLink RX12 80 "OverHillModel" "thrown" "I", Cond.methodLink RX12 254 yX12_isDance, Cond.instanceMethod yX12_isDance, Cond.selects RX12 yX12_isDance yX12_isDance, Cond.initialized RX12, Cond.code yX12_isDance cX12_isDance 1 (some .boolean), Cond.fieldLink RX12 31 "OverHillModel" "lines" "[I", Cond.methodLink RX12 322 yX12_areRounds, Cond.instanceMethod yX12_areRounds, Cond.selects RX12 yX12_areRounds yX12_areRounds, Cond.code yX12_areRounds cX12_areRounds 1 (some .boolean), Cond.fieldLink RX12 34 "OverHillModel" "has" "[I", Cond.methodLink RX12 264 yX12_lengthOf, Cond.instanceMethod yX12_lengthOf, Cond.selects RX12 yX12_lengthOf yX12_lengthOf, Cond.code yX12_lengthOf cX12_lengthOf 2 (some .int), Cond.methodLink RX12 331 yX12_shiftedOf, Cond.instanceMethod yX12_shiftedOf, Cond.selects RX12 yX12_shiftedOf yX12_shiftedOf, Cond.code yX12_shiftedOf cX12_shiftedOf 5 (some .int), Cond.methodLink RX12 325 yX12_periodOf, Cond.instanceMethod yX12_periodOf, Cond.selects RX12 yX12_periodOf yX12_periodOf, Cond.code yX12_periodOf cX12_periodOf 1 (some .int)]
def wsX12_least_r2 : List Cond := [Cond.methodLink RX12 315 yX12_common, Cond.static yX12_common, Cond.code yX12_common cX12_common 2 (some .int), Cond.methodLink RX12 328 yX12_plain, Cond.instanceMethod yX12_plain, Cond.selects RX12 yX12_plain yX12_plain, Cond.code yX12_plain cX12_plain 4 (some .int), Cond.fieldLink RX12 37 "OverHillModel" "round" "[I", Cond.methodLink RX12 287 yX12_clashes, Cond.instanceMethod yX12_clashes, Cond.selects RX12 yX12_clashes yX12_clashes, Cond.code yX12_clashes cX12_clashes 3 (some .boolean), Cond.fieldLink RX12 40 "OverHillModel" "meets" "[I", Cond.methodLink RX12 280 yX12_isBit, Cond.static yX12_isBit, Cond.code yX12_isBit cX12_isBit 2 (some .boolean)]
def wsX12_least : List Cond := .code yX12_least cX12_least 3 (some .int) :: ((wsX12_least_r1 ++ wsX12_least_r2) ++ wsX120)
theorem wrr_wsX12_common {i : Nat} {w : Cond} (h : wsX12_common[i]? = some w) : w ∈ wsX12_common := List.mem_of_getElem? h
set_option maxRecDepth 20000 in
theorem gw_wsX12_common : wsX12_common.all goodWord = true := by decide +kernel
set_option maxRecDepth 20000 in
theorem ggX12_common_X12_common : GoodIn wsX12_common wsX12_common := goodIn_sub (List.forall_mem_cons.mpr ⟨wrr_wsX12_common (i := 0) rfl, (List.forall_mem_cons.mpr ⟨wrr_wsX12_common (i := 1) rfl, (List.forall_mem_cons.mpr ⟨wrr_wsX12_common (i := 2) rfl, (List.forall_mem_cons.mpr ⟨wrr_wsX12_common (i := 3) rfl, (fun _ h => absurd h List.not_mem_nil)⟩)⟩)⟩)⟩) gw_wsX12_common
set_option maxRecDepth 20000 in
theorem gX12_common_X12_common : GoodIn wsX12_common (va_wsS RX12 315 yX12_common wsX12_common) := goodIn_app (goodIn_sub (List.forall_mem_cons.mpr ⟨wrr_wsX12_common (i := 1) rfl, (List.forall_mem_cons.mpr ⟨wrr_wsX12_common (i := 2) rfl, (List.forall_mem_cons.mpr ⟨wrr_wsX12_common (i := 3) rfl, (fun _ h => absurd h List.not_mem_nil)⟩)⟩)⟩) (by decide +kernel)) ggX12_common_X12_common
theorem dX12_common_0 : decode cX12_common 0 = .ok (.iload_n 1, 1) := by decide +kernel
theorem dX12_common_1 : decode cX12_common 1 = .ok (.ifCond .ne 7, 3) := by decide +kernel
theorem dX12_common_4 : decode cX12_common 4 = .ok (.iload_n 0, 1) := by decide +kernel
theorem dX12_common_5 : decode cX12_common 5 = .ok (.goto 10, 3) := by decide +kernel
theorem dX12_common_8 : decode cX12_common 8 = .ok (.iload_n 1, 1) := by decide +kernel
theorem dX12_common_9 : decode cX12_common 9 = .ok (.iload_n 0, 1) := by decide +kernel
theorem dX12_common_10 : decode cX12_common 10 = .ok (.iload_n 1, 1) := by decide +kernel
theorem dX12_common_11 : decode cX12_common 11 = .ok (.irem, 1) := by decide +kernel
theorem dX12_common_12 : decode cX12_common 12 = .ok (.invokestatic 315, 3) := by decide +kernel
theorem dX12_common_15 : decode cX12_common 15 = .ok (.ireturn, 1) := by decide +kernel
theorem wrr_wsX12_commonLong {i : Nat} {w : Cond} (h : wsX12_commonLong[i]? = some w) : w ∈ wsX12_commonLong := List.mem_of_getElem? h
set_option maxRecDepth 20000 in
theorem gw_wsX12_commonLong : wsX12_commonLong.all goodWord = true := by decide +kernel
set_option maxRecDepth 20000 in
theorem ggX12_commonLong_X12_commonLong : GoodIn wsX12_commonLong wsX12_commonLong := goodIn_sub (List.forall_mem_cons.mpr ⟨wrr_wsX12_commonLong (i := 0) rfl, (List.forall_mem_cons.mpr ⟨wrr_wsX12_commonLong (i := 1) rfl, (List.forall_mem_cons.mpr ⟨wrr_wsX12_commonLong (i := 2) rfl, (List.forall_mem_cons.mpr ⟨wrr_wsX12_commonLong (i := 3) rfl, (fun _ h => absurd h List.not_mem_nil)⟩)⟩)⟩)⟩) gw_wsX12_commonLong
set_option maxRecDepth 20000 in
theorem gX12_commonLong_X12_commonLong : GoodIn wsX12_commonLong (va_wsS RX12 318 yX12_commonLong wsX12_commonLong) := goodIn_app (goodIn_sub (List.forall_mem_cons.mpr ⟨wrr_wsX12_commonLong (i := 1) rfl, (List.forall_mem_cons.mpr ⟨wrr_wsX12_commonLong (i := 2) rfl, (List.forall_mem_cons.mpr ⟨wrr_wsX12_commonLong (i := 3) rfl, (fun _ h => absurd h List.not_mem_nil)⟩)⟩)⟩) (by decide +kernel)) ggX12_commonLong_X12_commonLong
theorem dX12_commonLong_0 : decode cX12_commonLong 0 = .ok (.lload_n 2, 1) := by decide +kernel
theorem dX12_commonLong_1 : decode cX12_commonLong 1 = .ok (.lconst 0, 1) := by decide +kernel
theorem dX12_commonLong_2 : decode cX12_commonLong 2 = .ok (.lcmp, 1) := by decide +kernel
theorem dX12_commonLong_3 : decode cX12_commonLong 3 = .ok (.ifCond .ne 7, 3) := by decide +kernel
theorem dX12_commonLong_6 : decode cX12_commonLong 6 = .ok (.lload_n 0, 1) := by decide +kernel
theorem dX12_commonLong_7 : decode cX12_commonLong 7 = .ok (.goto 10, 3) := by decide +kernel
theorem dX12_commonLong_10 : decode cX12_commonLong 10 = .ok (.lload_n 2, 1) := by decide +kernel
theorem dX12_commonLong_11 : decode cX12_commonLong 11 = .ok (.lload_n 0, 1) := by decide +kernel
theorem dX12_commonLong_12 : decode cX12_commonLong 12 = .ok (.lload_n 2, 1) := by decide +kernel
theorem dX12_commonLong_13 : decode cX12_commonLong 13 = .ok (.lrem, 1) := by decide +kernel
theorem dX12_commonLong_14 : decode cX12_commonLong 14 = .ok (.invokestatic 318, 3) := by decide +kernel
theorem dX12_commonLong_17 : decode cX12_commonLong 17 = .ok (.lreturn, 1) := by decide +kernel
theorem wrr_wsX12_periodOf {i : Nat} {w : Cond} (h : wsX12_periodOf[i]? = some w) : w ∈ wsX12_periodOf := List.mem_of_getElem? h
theorem wru_wsX12_periodOf_wsX120 : ∀ w ∈ wsX120, w ∈ wsX12_periodOf := fun w h => (List.mem_cons_of_mem _ (List.mem_append_right _ h))
set_option maxRecDepth 20000 in
theorem ggX12_periodOf_X12_lengthOf : GoodIn wsX12_periodOf wsX12_lengthOf := goodIn_sub (List.forall_mem_cons.mpr ⟨wrr_wsX12_periodOf (i := 5) rfl, (List.forall_mem_append.mpr ⟨(List.forall_mem_cons.mpr ⟨wrr_wsX12_periodOf (i := 6) rfl, (fun _ h => absurd h List.not_mem_nil)⟩), wru_wsX12_periodOf_wsX120⟩)⟩) gw_wsX12_lengthOf
set_option maxRecDepth 20000 in
theorem gX12_periodOf_X12_lengthOf : GoodIn wsX12_periodOf (wsV RX12 264 RX12 yX12_lengthOf wsX12_lengthOf) := goodIn_app (goodIn_sub (List.forall_mem_cons.mpr ⟨wrr_wsX12_periodOf (i := 1) rfl, (List.forall_mem_cons.mpr ⟨wrr_wsX12_periodOf (i := 2) rfl, (List.forall_mem_cons.mpr ⟨wrr_wsX12_periodOf (i := 3) rfl, (List.forall_mem_cons.mpr ⟨wrr_wsX12_periodOf (i := 4) rfl, (fun _ h => absurd h List.not_mem_nil)⟩)⟩)⟩)⟩) (by decide +kernel)) ggX12_periodOf_X12_lengthOf
set_option maxRecDepth 20000 in
theorem ggX12_periodOf_X12_common : GoodIn wsX12_periodOf wsX12_common := goodIn_sub (List.forall_mem_cons.mpr ⟨wrr_wsX12_periodOf (i := 9) rfl, (List.forall_mem_cons.mpr ⟨wrr_wsX12_periodOf (i := 7) rfl, (List.forall_mem_cons.mpr ⟨wrr_wsX12_periodOf (i := 8) rfl, (List.forall_mem_cons.mpr ⟨wrr_wsX12_periodOf (i := 4) rfl, (fun _ h => absurd h List.not_mem_nil)⟩)⟩)⟩)⟩) gw_wsX12_common
set_option maxRecDepth 20000 in
theorem gX12_periodOf_X12_common : GoodIn wsX12_periodOf (va_wsS RX12 315 yX12_common wsX12_common) := goodIn_app (goodIn_sub (List.forall_mem_cons.mpr ⟨wrr_wsX12_periodOf (i := 7) rfl, (List.forall_mem_cons.mpr ⟨wrr_wsX12_periodOf (i := 8) rfl, (List.forall_mem_cons.mpr ⟨wrr_wsX12_periodOf (i := 4) rfl, (fun _ h => absurd h List.not_mem_nil)⟩)⟩)⟩) (by decide +kernel)) ggX12_periodOf_X12_common
theorem dX12_periodOf_0 : decode cX12_periodOf 0 = .ok (.aload_n 0, 1) := by decide +kernel
theorem dX12_periodOf_1 : decode cX12_periodOf 1 = .ok (.iconst 0, 1) := by decide +kernel
theorem dX12_periodOf_2 : decode cX12_periodOf 2 = .ok (.invokevirtual 264, 3) := by decide +kernel
theorem dX12_periodOf_5 : decode cX12_periodOf 5 = .ok (.aload_n 0, 1) := by decide +kernel
theorem dX12_periodOf_6 : decode cX12_periodOf 6 = .ok (.iconst 0, 1) := by decide +kernel
theorem dX12_periodOf_7 : decode cX12_periodOf 7 = .ok (.invokevirtual 264, 3) := by decide +kernel
theorem dX12_periodOf_10 : decode cX12_periodOf 10 = .ok (.aload_n 0, 1) := by decide +kernel
theorem dX12_periodOf_11 : decode cX12_periodOf 11 = .ok (.iconst 1, 1) := by decide +kernel
theorem dX12_periodOf_12 : decode cX12_periodOf 12 = .ok (.invokevirtual 264, 3) := by decide +kernel
theorem dX12_periodOf_15 : decode cX12_periodOf 15 = .ok (.invokestatic 315, 3) := by decide +kernel
theorem dX12_periodOf_18 : decode cX12_periodOf 18 = .ok (.idiv, 1) := by decide +kernel
theorem dX12_periodOf_19 : decode cX12_periodOf 19 = .ok (.aload_n 0, 1) := by decide +kernel
theorem dX12_periodOf_20 : decode cX12_periodOf 20 = .ok (.iconst 1, 1) := by decide +kernel
theorem dX12_periodOf_21 : decode cX12_periodOf 21 = .ok (.invokevirtual 264, 3) := by decide +kernel
theorem dX12_periodOf_24 : decode cX12_periodOf 24 = .ok (.imul, 1) := by decide +kernel
theorem dX12_periodOf_25 : decode cX12_periodOf 25 = .ok (.ireturn, 1) := by decide +kernel
theorem wrr_wsX12_period {i : Nat} {w : Cond} (h : wsX12_period[i]? = some w) : w ∈ wsX12_period := List.mem_of_getElem? h
theorem wru_wsX12_period_wsX120 : ∀ w ∈ wsX120, w ∈ wsX12_period := fun w h => (List.mem_cons_of_mem _ (List.mem_append_right _ h))
set_option maxRecDepth 20000 in
theorem ggX12_period_X12_isDance : GoodIn wsX12_period wsX12_isDance := goodIn_sub (List.forall_mem_cons.mpr ⟨wrr_wsX12_period (i := 6) rfl, (List.forall_mem_append.mpr ⟨(List.forall_mem_cons.mpr ⟨wrr_wsX12_period (i := 7) rfl, (fun _ h => absurd h List.not_mem_nil)⟩), wru_wsX12_period_wsX120⟩)⟩) gw_wsX12_isDance
set_option maxRecDepth 20000 in
theorem gX12_period_X12_isDance : GoodIn wsX12_period (wsV RX12 254 RX12 yX12_isDance wsX12_isDance) := goodIn_app (goodIn_sub (List.forall_mem_cons.mpr ⟨wrr_wsX12_period (i := 2) rfl, (List.forall_mem_cons.mpr ⟨wrr_wsX12_period (i := 3) rfl, (List.forall_mem_cons.mpr ⟨wrr_wsX12_period (i := 4) rfl, (List.forall_mem_cons.mpr ⟨wrr_wsX12_period (i := 5) rfl, (fun _ h => absurd h List.not_mem_nil)⟩)⟩)⟩)⟩) (by decide +kernel)) ggX12_period_X12_isDance
set_option maxRecDepth 20000 in
theorem gw_wsX12_areRounds : wsX12_areRounds.all goodWord = true := by decide +kernel
set_option maxRecDepth 20000 in
theorem ggX12_period_X12_areRounds : GoodIn wsX12_period wsX12_areRounds := goodIn_sub (List.forall_mem_cons.mpr ⟨wrr_wsX12_period (i := 11) rfl, (List.forall_mem_append.mpr ⟨(List.forall_mem_cons.mpr ⟨wrr_wsX12_period (i := 12) rfl, (fun _ h => absurd h List.not_mem_nil)⟩), wru_wsX12_period_wsX120⟩)⟩) gw_wsX12_areRounds
set_option maxRecDepth 20000 in
theorem gX12_period_X12_areRounds : GoodIn wsX12_period (wsV RX12 322 RX12 yX12_areRounds wsX12_areRounds) := goodIn_app (goodIn_sub (List.forall_mem_cons.mpr ⟨wrr_wsX12_period (i := 8) rfl, (List.forall_mem_cons.mpr ⟨wrr_wsX12_period (i := 9) rfl, (List.forall_mem_cons.mpr ⟨wrr_wsX12_period (i := 10) rfl, (List.forall_mem_cons.mpr ⟨wrr_wsX12_period (i := 5) rfl, (fun _ h => absurd h List.not_mem_nil)⟩)⟩)⟩)⟩) (by decide +kernel)) ggX12_period_X12_areRounds
set_option maxRecDepth 20000 in
theorem gw_wsX12_periodOf : wsX12_periodOf.all goodWord = true := by decide +kernel
set_option maxRecDepth 20000 in
theorem ggX12_period_X12_periodOf : GoodIn wsX12_period wsX12_periodOf := goodIn_sub (List.forall_mem_cons.mpr ⟨wrr_wsX12_period (i := 16) rfl, (List.forall_mem_append.mpr ⟨(List.forall_mem_cons.mpr ⟨wrr_wsX12_period (i := 17) rfl, (List.forall_mem_cons.mpr ⟨wrr_wsX12_period (i := 18) rfl, (List.forall_mem_cons.mpr ⟨wrr_wsX12_period (i := 19) rfl, (List.forall_mem_cons.mpr ⟨wrr_wsX12_period (i := 5) rfl, (List.forall_mem_cons.mpr ⟨wrr_wsX12_period (i := 20) rfl, (List.forall_mem_cons.mpr ⟨wrr_wsX12_period (i := 12) rfl, (List.forall_mem_cons.mpr ⟨wrr_wsX12_period (i := 21) rfl, (List.forall_mem_cons.mpr ⟨wrr_wsX12_period (i := 22) rfl, (List.forall_mem_cons.mpr ⟨wrr_wsX12_period (i := 23) rfl, (fun _ h => absurd h List.not_mem_nil)⟩)⟩)⟩)⟩)⟩)⟩)⟩)⟩)⟩), wru_wsX12_period_wsX120⟩)⟩) gw_wsX12_periodOf
set_option maxRecDepth 20000 in
theorem gX12_period_X12_periodOf : GoodIn wsX12_period (wsV RX12 325 RX12 yX12_periodOf wsX12_periodOf) := goodIn_app (goodIn_sub (List.forall_mem_cons.mpr ⟨wrr_wsX12_period (i := 13) rfl, (List.forall_mem_cons.mpr ⟨wrr_wsX12_period (i := 14) rfl, (List.forall_mem_cons.mpr ⟨wrr_wsX12_period (i := 15) rfl, (List.forall_mem_cons.mpr ⟨wrr_wsX12_period (i := 5) rfl, (fun _ h => absurd h List.not_mem_nil)⟩)⟩)⟩)⟩) (by decide +kernel)) ggX12_period_X12_periodOf
theorem dX12_period_0 : decode cX12_period 0 = .ok (.aload_n 0, 1) := by decide +kernel
theorem dX12_period_1 : decode cX12_period 1 = .ok (.iconst 0, 1) := by decide +kernel
theorem dX12_period_2 : decode cX12_period 2 = .ok (.putfield 80, 3) := by decide +kernel
theorem dX12_period_5 : decode cX12_period 5 = .ok (.aload_n 0, 1) := by decide +kernel
theorem dX12_period_6 : decode cX12_period 6 = .ok (.invokevirtual 254, 3) := by decide +kernel
theorem dX12_period_9 : decode cX12_period 9 = .ok (.ifCond .ne 8, 3) := by decide +kernel
theorem dX12_period_12 : decode cX12_period 12 = .ok (.bipush (-2), 2) := by decide +kernel
theorem dX12_period_14 : decode cX12_period 14 = .ok (.goto 18, 3) := by decide +kernel
theorem dX12_period_17 : decode cX12_period 17 = .ok (.aload_n 0, 1) := by decide +kernel
theorem dX12_period_18 : decode cX12_period 18 = .ok (.invokevirtual 322, 3) := by decide +kernel
theorem dX12_period_21 : decode cX12_period 21 = .ok (.ifCond .eq 10, 3) := by decide +kernel
theorem dX12_period_24 : decode cX12_period 24 = .ok (.aload_n 0, 1) := by decide +kernel
theorem dX12_period_25 : decode cX12_period 25 = .ok (.invokevirtual 325, 3) := by decide +kernel
theorem dX12_period_28 : decode cX12_period 28 = .ok (.goto 4, 3) := by decide +kernel
theorem dX12_period_31 : decode cX12_period 31 = .ok (.iconst (-1), 1) := by decide +kernel
theorem dX12_period_32 : decode cX12_period 32 = .ok (.ireturn, 1) := by decide +kernel
theorem wrr_wsX12_plain {i : Nat} {w : Cond} (h : wsX12_plain[i]? = some w) : w ∈ wsX12_plain := List.mem_of_getElem? h
theorem wru_wsX12_plain_wsX120 : ∀ w ∈ wsX120, w ∈ wsX12_plain := fun w h => (List.mem_cons_of_mem _ (List.mem_append_right _ h))
set_option maxRecDepth 20000 in
theorem ggX12_plain_X12_lengthOf : GoodIn wsX12_plain wsX12_lengthOf := goodIn_sub (List.forall_mem_cons.mpr ⟨wrr_wsX12_plain (i := 7) rfl, (List.forall_mem_append.mpr ⟨(List.forall_mem_cons.mpr ⟨wrr_wsX12_plain (i := 2) rfl, (fun _ h => absurd h List.not_mem_nil)⟩), wru_wsX12_plain_wsX120⟩)⟩) gw_wsX12_lengthOf
set_option maxRecDepth 20000 in
theorem gX12_plain_X12_lengthOf : GoodIn wsX12_plain (wsV RX12 264 RX12 yX12_lengthOf wsX12_lengthOf) := goodIn_app (goodIn_sub (List.forall_mem_cons.mpr ⟨wrr_wsX12_plain (i := 3) rfl, (List.forall_mem_cons.mpr ⟨wrr_wsX12_plain (i := 4) rfl, (List.forall_mem_cons.mpr ⟨wrr_wsX12_plain (i := 5) rfl, (List.forall_mem_cons.mpr ⟨wrr_wsX12_plain (i := 6) rfl, (fun _ h => absurd h List.not_mem_nil)⟩)⟩)⟩)⟩) (by decide +kernel)) ggX12_plain_X12_lengthOf
theorem dX12_plain_0 : decode cX12_plain 0 = .ok (.aload_n 0, 1) := by decide +kernel
theorem dX12_plain_1 : decode cX12_plain 1 = .ok (.getfield 37, 3) := by decide +kernel
theorem dX12_plain_4 : decode cX12_plain 4 = .ok (.bipush 12, 2) := by decide +kernel
theorem dX12_plain_6 : decode cX12_plain 6 = .ok (.iload_n 1, 1) := by decide +kernel
theorem dX12_plain_7 : decode cX12_plain 7 = .ok (.imul, 1) := by decide +kernel
theorem dX12_plain_8 : decode cX12_plain 8 = .ok (.aload_n 0, 1) := by decide +kernel
theorem dX12_plain_9 : decode cX12_plain 9 = .ok (.getfield 34, 3) := by decide +kernel
theorem dX12_plain_12 : decode cX12_plain 12 = .ok (.iconst 5, 1) := by decide +kernel
theorem dX12_plain_13 : decode cX12_plain 13 = .ok (.iload_n 1, 1) := by decide +kernel
theorem dX12_plain_14 : decode cX12_plain 14 = .ok (.iadd, 1) := by decide +kernel
theorem dX12_plain_15 : decode cX12_plain 15 = .ok (.iaload, 1) := by decide +kernel
theorem dX12_plain_16 : decode cX12_plain 16 = .ok (.iload_n 2, 1) := by decide +kernel
theorem dX12_plain_17 : decode cX12_plain 17 = .ok (.iadd, 1) := by decide +kernel
theorem dX12_plain_18 : decode cX12_plain 18 = .ok (.iload_n 3, 1) := by decide +kernel
theorem dX12_plain_19 : decode cX12_plain 19 = .ok (.iadd, 1) := by decide +kernel
theorem dX12_plain_20 : decode cX12_plain 20 = .ok (.aload_n 0, 1) := by decide +kernel
theorem dX12_plain_21 : decode cX12_plain 21 = .ok (.iload_n 1, 1) := by decide +kernel
theorem dX12_plain_22 : decode cX12_plain 22 = .ok (.invokevirtual 264, 3) := by decide +kernel
theorem dX12_plain_25 : decode cX12_plain 25 = .ok (.irem, 1) := by decide +kernel
theorem dX12_plain_26 : decode cX12_plain 26 = .ok (.iadd, 1) := by decide +kernel
theorem dX12_plain_27 : decode cX12_plain 27 = .ok (.iaload, 1) := by decide +kernel
theorem dX12_plain_28 : decode cX12_plain 28 = .ok (.ireturn, 1) := by decide +kernel
theorem wrr_wsX12_meets {i : Nat} {w : Cond} (h : wsX12_meets[i]? = some w) : w ∈ wsX12_meets := List.mem_of_getElem? h
theorem wrr_wsX12_meets_wsX12_meets_r1 {i : Nat} {w : Cond} (h : wsX12_meets_r1[i]? = some w) : w ∈ wsX12_meets := (List.mem_cons_of_mem _ (List.mem_append_left _ (List.mem_append_left _ (List.mem_of_getElem? h))))
theorem wrr_wsX12_meets_wsX12_meets_r2 {i : Nat} {w : Cond} (h : wsX12_meets_r2[i]? = some w) : w ∈ wsX12_meets := (List.mem_cons_of_mem _ (List.mem_append_left _ (List.mem_append_right _ (List.mem_of_getElem? h))))
theorem wru_wsX12_meets_wsX120 : ∀ w ∈ wsX120, w ∈ wsX12_meets := fun w h => (List.mem_cons_of_mem _ (List.mem_append_right _ h))
set_option maxRecDepth 20000 in
theorem ggX12_meets_X12_isDance : GoodIn wsX12_meets wsX12_isDance := goodIn_sub (List.forall_mem_cons.mpr ⟨wrr_wsX12_meets_wsX12_meets_r1 (i := 6) rfl, (List.forall_mem_append.mpr ⟨(List.forall_mem_cons.mpr ⟨wrr_wsX12_meets_wsX12_meets_r1 (i := 7) rfl, (fun _ h => absurd h List.not_mem_nil)⟩), wru_wsX12_meets_wsX120⟩)⟩) gw_wsX12_isDance
set_option maxRecDepth 20000 in
theorem gX12_meets_X12_isDance : GoodIn wsX12_meets (wsV RX12 254 RX12 yX12_isDance wsX12_isDance) := goodIn_app (goodIn_sub (List.forall_mem_cons.mpr ⟨wrr_wsX12_meets_wsX12_meets_r1 (i := 2) rfl, (List.forall_mem_cons.mpr ⟨wrr_wsX12_meets_wsX12_meets_r1 (i := 3) rfl, (List.forall_mem_cons.mpr ⟨wrr_wsX12_meets_wsX12_meets_r1 (i := 4) rfl, (List.forall_mem_cons.mpr ⟨wrr_wsX12_meets_wsX12_meets_r1 (i := 5) rfl, (fun _ h => absurd h List.not_mem_nil)⟩)⟩)⟩)⟩) (by decide +kernel)) ggX12_meets_X12_isDance
set_option maxRecDepth 20000 in
theorem ggX12_meets_X12_lengthOf : GoodIn wsX12_meets wsX12_lengthOf := goodIn_sub (List.forall_mem_cons.mpr ⟨wrr_wsX12_meets_wsX12_meets_r1 (i := 11) rfl, (List.forall_mem_append.mpr ⟨(List.forall_mem_cons.mpr ⟨wrr_wsX12_meets_wsX12_meets_r1 (i := 1) rfl, (fun _ h => absurd h List.not_mem_nil)⟩), wru_wsX12_meets_wsX120⟩)⟩) gw_wsX12_lengthOf
set_option maxRecDepth 20000 in
theorem gX12_meets_X12_lengthOf : GoodIn wsX12_meets (wsV RX12 264 RX12 yX12_lengthOf wsX12_lengthOf) := goodIn_app (goodIn_sub (List.forall_mem_cons.mpr ⟨wrr_wsX12_meets_wsX12_meets_r1 (i := 8) rfl, (List.forall_mem_cons.mpr ⟨wrr_wsX12_meets_wsX12_meets_r1 (i := 9) rfl, (List.forall_mem_cons.mpr ⟨wrr_wsX12_meets_wsX12_meets_r1 (i := 10) rfl, (List.forall_mem_cons.mpr ⟨wrr_wsX12_meets_wsX12_meets_r1 (i := 5) rfl, (fun _ h => absurd h List.not_mem_nil)⟩)⟩)⟩)⟩) (by decide +kernel)) ggX12_meets_X12_lengthOf
set_option maxRecDepth 20000 in
theorem ggX12_meets_X12_in : GoodIn wsX12_meets wsX12_in := goodIn_sub (List.forall_mem_cons.mpr ⟨wrr_wsX12_meets_wsX12_meets_r1 (i := 14) rfl, (fun _ h => absurd h List.not_mem_nil)⟩) gw_wsX12_in
set_option maxRecDepth 20000 in
theorem gX12_meets_X12_in : GoodIn wsX12_meets (va_wsS RX12 85 yX12_in wsX12_in) := goodIn_app (goodIn_sub (List.forall_mem_cons.mpr ⟨wrr_wsX12_meets_wsX12_meets_r1 (i := 12) rfl, (List.forall_mem_cons.mpr ⟨wrr_wsX12_meets_wsX12_meets_r1 (i := 13) rfl, (List.forall_mem_cons.mpr ⟨wrr_wsX12_meets_wsX12_meets_r1 (i := 5) rfl, (fun _ h => absurd h List.not_mem_nil)⟩)⟩)⟩) (by decide +kernel)) ggX12_meets_X12_in
set_option maxRecDepth 20000 in
theorem ggX12_meets_X12_isBeat : GoodIn wsX12_meets wsX12_isBeat := goodIn_sub (List.forall_mem_cons.mpr ⟨wrr_wsX12_meets_wsX12_meets_r1 (i := 17) rfl, (List.forall_mem_cons.mpr ⟨wrr_wsX12_meets_wsX12_meets_r1 (i := 18) rfl, (List.forall_mem_cons.mpr ⟨wrr_wsX12_meets_wsX12_meets_r1 (i := 12) rfl, (List.forall_mem_cons.mpr ⟨wrr_wsX12_meets_wsX12_meets_r1 (i := 13) rfl, (List.forall_mem_cons.mpr ⟨wrr_wsX12_meets_wsX12_meets_r1 (i := 5) rfl, (List.forall_mem_cons.mpr ⟨wrr_wsX12_meets_wsX12_meets_r1 (i := 14) rfl, (fun _ h => absurd h List.not_mem_nil)⟩)⟩)⟩)⟩)⟩)⟩) gw_wsX12_isBeat
set_option maxRecDepth 20000 in
theorem gX12_meets_X12_isBeat : GoodIn wsX12_meets (va_wsS RX12 270 yX12_isBeat wsX12_isBeat) := goodIn_app (goodIn_sub (List.forall_mem_cons.mpr ⟨wrr_wsX12_meets_wsX12_meets_r1 (i := 15) rfl, (List.forall_mem_cons.mpr ⟨wrr_wsX12_meets_wsX12_meets_r1 (i := 16) rfl, (List.forall_mem_cons.mpr ⟨wrr_wsX12_meets_wsX12_meets_r1 (i := 5) rfl, (fun _ h => absurd h List.not_mem_nil)⟩)⟩)⟩) (by decide +kernel)) ggX12_meets_X12_isBeat
set_option maxRecDepth 20000 in
theorem ggX12_meets_X12_periodOf : GoodIn wsX12_meets wsX12_periodOf := goodIn_sub (List.forall_mem_cons.mpr ⟨wrr_wsX12_meets_wsX12_meets_r1 (i := 22) rfl, (List.forall_mem_append.mpr ⟨(List.forall_mem_cons.mpr ⟨wrr_wsX12_meets_wsX12_meets_r1 (i := 8) rfl, (List.forall_mem_cons.mpr ⟨wrr_wsX12_meets_wsX12_meets_r1 (i := 9) rfl, (List.forall_mem_cons.mpr ⟨wrr_wsX12_meets_wsX12_meets_r1 (i := 10) rfl, (List.forall_mem_cons.mpr ⟨wrr_wsX12_meets_wsX12_meets_r1 (i := 5) rfl, (List.forall_mem_cons.mpr ⟨wrr_wsX12_meets_wsX12_meets_r1 (i := 11) rfl, (List.forall_mem_cons.mpr ⟨wrr_wsX12_meets_wsX12_meets_r1 (i := 1) rfl, (List.forall_mem_cons.mpr ⟨wrr_wsX12_meets_wsX12_meets_r1 (i := 23) rfl, (List.forall_mem_cons.mpr ⟨wrr_wsX12_meets_wsX12_meets_r2 (i := 0) rfl, (List.forall_mem_cons.mpr ⟨wrr_wsX12_meets_wsX12_meets_r2 (i := 1) rfl, (fun _ h => absurd h List.not_mem_nil)⟩)⟩)⟩)⟩)⟩)⟩)⟩)⟩)⟩), wru_wsX12_meets_wsX120⟩)⟩) gw_wsX12_periodOf
set_option maxRecDepth 20000 in
theorem gX12_meets_X12_periodOf : GoodIn wsX12_meets (wsV RX12 325 RX12 yX12_periodOf wsX12_periodOf) := goodIn_app (goodIn_sub (List.forall_mem_cons.mpr ⟨wrr_wsX12_meets_wsX12_meets_r1 (i := 19) rfl, (List.forall_mem_cons.mpr ⟨wrr_wsX12_meets_wsX12_meets_r1 (i := 20) rfl, (List.forall_mem_cons.mpr ⟨wrr_wsX12_meets_wsX12_meets_r1 (i := 21) rfl, (List.forall_mem_cons.mpr ⟨wrr_wsX12_meets_wsX12_meets_r1 (i := 5) rfl, (fun _ h => absurd h List.not_mem_nil)⟩)⟩)⟩)⟩) (by decide +kernel)) ggX12_meets_X12_periodOf
theorem dX12_meets_0 : decode cX12_meets 0 = .ok (.aload_n 0, 1) := by decide +kernel
theorem dX12_meets_1 : decode cX12_meets 1 = .ok (.iconst 0, 1) := by decide +kernel
theorem dX12_meets_2 : decode cX12_meets 2 = .ok (.putfield 80, 3) := by decide +kernel
theorem dX12_meets_5 : decode cX12_meets 5 = .ok (.aload_n 0, 1) := by decide +kernel
theorem dX12_meets_6 : decode cX12_meets 6 = .ok (.invokevirtual 254, 3) := by decide +kernel
theorem dX12_meets_9 : decode cX12_meets 9 = .ok (.ifCond .eq 45, 3) := by decide +kernel
theorem dX12_meets_12 : decode cX12_meets 12 = .ok (.iload_n 1, 1) := by decide +kernel
theorem dX12_meets_13 : decode cX12_meets 13 = .ok (.i2l, 1) := by decide +kernel
theorem dX12_meets_14 : decode cX12_meets 14 = .ok (.lconst 0, 1) := by decide +kernel
theorem dX12_meets_15 : decode cX12_meets 15 = .ok (.aload_n 0, 1) := by decide +kernel
theorem dX12_meets_16 : decode cX12_meets 16 = .ok (.iconst 0, 1) := by decide +kernel
theorem dX12_meets_17 : decode cX12_meets 17 = .ok (.invokevirtual 264, 3) := by decide +kernel
theorem dX12_meets_20 : decode cX12_meets 20 = .ok (.iconst 1, 1) := by decide +kernel
theorem dX12_meets_21 : decode cX12_meets 21 = .ok (.isub, 1) := by decide +kernel
theorem dX12_meets_22 : decode cX12_meets 22 = .ok (.i2l, 1) := by decide +kernel
theorem dX12_meets_23 : decode cX12_meets 23 = .ok (.invokestatic 85, 3) := by decide +kernel
theorem dX12_meets_26 : decode cX12_meets 26 = .ok (.ifCond .eq 28, 3) := by decide +kernel
theorem dX12_meets_29 : decode cX12_meets 29 = .ok (.iload_n 2, 1) := by decide +kernel
theorem dX12_meets_30 : decode cX12_meets 30 = .ok (.i2l, 1) := by decide +kernel
theorem dX12_meets_31 : decode cX12_meets 31 = .ok (.lconst 0, 1) := by decide +kernel
theorem dX12_meets_32 : decode cX12_meets 32 = .ok (.aload_n 0, 1) := by decide +kernel
theorem dX12_meets_33 : decode cX12_meets 33 = .ok (.iconst 1, 1) := by decide +kernel
theorem dX12_meets_34 : decode cX12_meets 34 = .ok (.invokevirtual 264, 3) := by decide +kernel
theorem dX12_meets_37 : decode cX12_meets 37 = .ok (.iconst 1, 1) := by decide +kernel
theorem dX12_meets_38 : decode cX12_meets 38 = .ok (.isub, 1) := by decide +kernel
theorem dX12_meets_39 : decode cX12_meets 39 = .ok (.i2l, 1) := by decide +kernel
theorem dX12_meets_40 : decode cX12_meets 40 = .ok (.invokestatic 85, 3) := by decide +kernel
theorem dX12_meets_43 : decode cX12_meets 43 = .ok (.ifCond .eq 11, 3) := by decide +kernel
theorem dX12_meets_46 : decode cX12_meets 46 = .ok (.iload_n 3, 1) := by decide +kernel
theorem dX12_meets_47 : decode cX12_meets 47 = .ok (.i2l, 1) := by decide +kernel
theorem dX12_meets_48 : decode cX12_meets 48 = .ok (.invokestatic 270, 3) := by decide +kernel
theorem dX12_meets_51 : decode cX12_meets 51 = .ok (.ifCond .ne 6, 3) := by decide +kernel
theorem dX12_meets_54 : decode cX12_meets 54 = .ok (.bipush (-2), 2) := by decide +kernel
theorem dX12_meets_56 : decode cX12_meets 56 = .ok (.ireturn, 1) := by decide +kernel
theorem dX12_meets_57 : decode cX12_meets 57 = .ok (.iload_n 3, 1) := by decide +kernel
theorem dX12_meets_58 : decode cX12_meets 58 = .ok (.istore 4, 2) := by decide +kernel
theorem dX12_meets_60 : decode cX12_meets 60 = .ok (.iload 4, 2) := by decide +kernel
theorem dX12_meets_62 : decode cX12_meets 62 = .ok (.iload_n 3, 1) := by decide +kernel
theorem dX12_meets_63 : decode cX12_meets 63 = .ok (.aload_n 0, 1) := by decide +kernel
theorem dX12_meets_64 : decode cX12_meets 64 = .ok (.invokevirtual 325, 3) := by decide +kernel
theorem dX12_meets_67 : decode cX12_meets 67 = .ok (.iadd, 1) := by decide +kernel
theorem dX12_meets_68 : decode cX12_meets 68 = .ok (.if_icmp .ge 51, 3) := by decide +kernel
theorem dX12_meets_71 : decode cX12_meets 71 = .ok (.aload_n 0, 1) := by decide +kernel
theorem dX12_meets_72 : decode cX12_meets 72 = .ok (.getfield 34, 3) := by decide +kernel
theorem dX12_meets_75 : decode cX12_meets 75 = .ok (.iconst 5, 1) := by decide +kernel
theorem dX12_meets_76 : decode cX12_meets 76 = .ok (.iaload, 1) := by decide +kernel
theorem dX12_meets_77 : decode cX12_meets 77 = .ok (.iload 4, 2) := by decide +kernel
theorem dX12_meets_79 : decode cX12_meets 79 = .ok (.iadd, 1) := by decide +kernel
theorem dX12_meets_80 : decode cX12_meets 80 = .ok (.aload_n 0, 1) := by decide +kernel
theorem dX12_meets_81 : decode cX12_meets 81 = .ok (.iconst 0, 1) := by decide +kernel
theorem dX12_meets_82 : decode cX12_meets 82 = .ok (.invokevirtual 264, 3) := by decide +kernel
theorem dX12_meets_85 : decode cX12_meets 85 = .ok (.irem, 1) := by decide +kernel
theorem dX12_meets_86 : decode cX12_meets 86 = .ok (.iload_n 1, 1) := by decide +kernel
theorem dX12_meets_87 : decode cX12_meets 87 = .ok (.if_icmp .ne 26, 3) := by decide +kernel
theorem dX12_meets_90 : decode cX12_meets 90 = .ok (.aload_n 0, 1) := by decide +kernel
theorem dX12_meets_91 : decode cX12_meets 91 = .ok (.getfield 34, 3) := by decide +kernel
theorem dX12_meets_94 : decode cX12_meets 94 = .ok (.bipush 6, 2) := by decide +kernel
theorem dX12_meets_96 : decode cX12_meets 96 = .ok (.iaload, 1) := by decide +kernel
theorem dX12_meets_97 : decode cX12_meets 97 = .ok (.iload 4, 2) := by decide +kernel
theorem dX12_meets_99 : decode cX12_meets 99 = .ok (.iadd, 1) := by decide +kernel
theorem dX12_meets_100 : decode cX12_meets 100 = .ok (.aload_n 0, 1) := by decide +kernel
theorem dX12_meets_101 : decode cX12_meets 101 = .ok (.iconst 1, 1) := by decide +kernel
theorem dX12_meets_102 : decode cX12_meets 102 = .ok (.invokevirtual 264, 3) := by decide +kernel
theorem dX12_meets_105 : decode cX12_meets 105 = .ok (.irem, 1) := by decide +kernel
theorem dX12_meets_106 : decode cX12_meets 106 = .ok (.iload_n 2, 1) := by decide +kernel
theorem dX12_meets_107 : decode cX12_meets 107 = .ok (.if_icmp .ne 6, 3) := by decide +kernel
theorem dX12_meets_110 : decode cX12_meets 110 = .ok (.iload 4, 2) := by decide +kernel
theorem dX12_meets_112 : decode cX12_meets 112 = .ok (.ireturn, 1) := by decide +kernel
theorem dX12_meets_113 : decode cX12_meets 113 = .ok (.iinc 4 1, 3) := by decide +kernel
theorem dX12_meets_116 : decode cX12_meets 116 = .ok (.goto (-56), 3) := by decide +kernel
theorem dX12_meets_119 : decode cX12_meets 119 = .ok (.iconst (-1), 1) := by decide +kernel
theorem dX12_meets_120 : decode cX12_meets 120 = .ok (.ireturn, 1) := by decide +kernel
theorem wrr_wsX12_shiftedOf {i : Nat} {w : Cond} (h : wsX12_shiftedOf[i]? = some w) : w ∈ wsX12_shiftedOf := List.mem_of_getElem? h
theorem wrr_wsX12_shiftedOf_wsX12_shiftedOf_r1 {i : Nat} {w : Cond} (h : wsX12_shiftedOf_r1[i]? = some w) : w ∈ wsX12_shiftedOf := (List.mem_cons_of_mem _ (List.mem_append_left _ (List.mem_append_left _ (List.mem_of_getElem? h))))
theorem wrr_wsX12_shiftedOf_wsX12_shiftedOf_r2 {i : Nat} {w : Cond} (h : wsX12_shiftedOf_r2[i]? = some w) : w ∈ wsX12_shiftedOf := (List.mem_cons_of_mem _ (List.mem_append_left _ (List.mem_append_right _ (List.mem_of_getElem? h))))
theorem wru_wsX12_shiftedOf_wsX120 : ∀ w ∈ wsX120, w ∈ wsX12_shiftedOf := fun w h => (List.mem_cons_of_mem _ (List.mem_append_right _ h))
set_option maxRecDepth 20000 in
theorem ggX12_shiftedOf_X12_periodOf : GoodIn wsX12_shiftedOf wsX12_periodOf := goodIn_sub (List.forall_mem_cons.mpr ⟨wrr_wsX12_shiftedOf_wsX12_shiftedOf_r1 (i := 5) rfl, (List.forall_mem_append.mpr ⟨(List.forall_mem_cons.mpr ⟨wrr_wsX12_shiftedOf_wsX12_shiftedOf_r1 (i := 6) rfl, (List.forall_mem_cons.mpr ⟨wrr_wsX12_shiftedOf_wsX12_shiftedOf_r1 (i := 7) rfl, (List.forall_mem_cons.mpr ⟨wrr_wsX12_shiftedOf_wsX12_shiftedOf_r1 (i := 8) rfl, (List.forall_mem_cons.mpr ⟨wrr_wsX12_shiftedOf_wsX12_shiftedOf_r1 (i := 4) rfl, (List.forall_mem_cons.mpr ⟨wrr_wsX12_shiftedOf_wsX12_shiftedOf_r1 (i := 9) rfl, (List.forall_mem_cons.mpr ⟨wrr_wsX12_shiftedOf_wsX12_shiftedOf_r1 (i := 0) rfl, (List.forall_mem_cons.mpr ⟨wrr_wsX12_shiftedOf_wsX12_shiftedOf_r1 (i := 10) rfl, (List.forall_mem_cons.mpr ⟨wrr_wsX12_shiftedOf_wsX12_shiftedOf_r1 (i := 11) rfl, (List.forall_mem_cons.mpr ⟨wrr_wsX12_shiftedOf_wsX12_shiftedOf_r1 (i := 12) rfl, (fun _ h => absurd h List.not_mem_nil)⟩)⟩)⟩)⟩)⟩)⟩)⟩)⟩)⟩), wru_wsX12_shiftedOf_wsX120⟩)⟩) gw_wsX12_periodOf
set_option maxRecDepth 20000 in
theorem gX12_shiftedOf_X12_periodOf : GoodIn wsX12_shiftedOf (wsV RX12 325 RX12 yX12_periodOf wsX12_periodOf) := goodIn_app (goodIn_sub (List.forall_mem_cons.mpr ⟨wrr_wsX12_shiftedOf_wsX12_shiftedOf_r1 (i := 1) rfl, (List.forall_mem_cons.mpr ⟨wrr_wsX12_shiftedOf_wsX12_shiftedOf_r1 (i := 2) rfl, (List.forall_mem_cons.mpr ⟨wrr_wsX12_shiftedOf_wsX12_shiftedOf_r1 (i := 3) rfl, (List.forall_mem_cons.mpr ⟨wrr_wsX12_shiftedOf_wsX12_shiftedOf_r1 (i := 4) rfl, (fun _ h => absurd h List.not_mem_nil)⟩)⟩)⟩)⟩) (by decide +kernel)) ggX12_shiftedOf_X12_periodOf
set_option maxRecDepth 20000 in
theorem gw_wsX12_plain : wsX12_plain.all goodWord = true := by decide +kernel
set_option maxRecDepth 20000 in
theorem ggX12_shiftedOf_X12_plain : GoodIn wsX12_shiftedOf wsX12_plain := goodIn_sub (List.forall_mem_cons.mpr ⟨wrr_wsX12_shiftedOf_wsX12_shiftedOf_r1 (i := 16) rfl, (List.forall_mem_append.mpr ⟨(List.forall_mem_cons.mpr ⟨wrr_wsX12_shiftedOf_wsX12_shiftedOf_r1 (i := 17) rfl, (List.forall_mem_cons.mpr ⟨wrr_wsX12_shiftedOf_wsX12_shiftedOf_r1 (i := 0) rfl, (List.forall_mem_cons.mpr ⟨wrr_wsX12_shiftedOf_wsX12_shiftedOf_r1 (i := 6) rfl, (List.forall_mem_cons.mpr ⟨wrr_wsX12_shiftedOf_wsX12_shiftedOf_r1 (i := 7) rfl, (List.forall_mem_cons.mpr ⟨wrr_wsX12_shiftedOf_wsX12_shiftedOf_r1 (i := 8) rfl, (List.forall_mem_cons.mpr ⟨wrr_wsX12_shiftedOf_wsX12_shiftedOf_r1 (i := 4) rfl, (List.forall_mem_cons.mpr ⟨wrr_wsX12_shiftedOf_wsX12_shiftedOf_r1 (i := 9) rfl, (fun _ h => absurd h List.not_mem_nil)⟩)⟩)⟩)⟩)⟩)⟩)⟩), wru_wsX12_shiftedOf_wsX120⟩)⟩) gw_wsX12_plain
set_option maxRecDepth 20000 in
theorem gX12_shiftedOf_X12_plain : GoodIn wsX12_shiftedOf (wsV RX12 328 RX12 yX12_plain wsX12_plain) := goodIn_app (goodIn_sub (List.forall_mem_cons.mpr ⟨wrr_wsX12_shiftedOf_wsX12_shiftedOf_r1 (i := 13) rfl, (List.forall_mem_cons.mpr ⟨wrr_wsX12_shiftedOf_wsX12_shiftedOf_r1 (i := 14) rfl, (List.forall_mem_cons.mpr ⟨wrr_wsX12_shiftedOf_wsX12_shiftedOf_r1 (i := 15) rfl, (List.forall_mem_cons.mpr ⟨wrr_wsX12_shiftedOf_wsX12_shiftedOf_r1 (i := 4) rfl, (fun _ h => absurd h List.not_mem_nil)⟩)⟩)⟩)⟩) (by decide +kernel)) ggX12_shiftedOf_X12_plain
set_option maxRecDepth 20000 in
theorem ggX12_shiftedOf_X12_clashes : GoodIn wsX12_shiftedOf wsX12_clashes := goodIn_sub (List.forall_mem_cons.mpr ⟨wrr_wsX12_shiftedOf_wsX12_shiftedOf_r1 (i := 21) rfl, (List.forall_mem_append.mpr ⟨(List.forall_mem_cons.mpr ⟨wrr_wsX12_shiftedOf_wsX12_shiftedOf_r1 (i := 22) rfl, (List.forall_mem_cons.mpr ⟨wrr_wsX12_shiftedOf_wsX12_shiftedOf_r1 (i := 23) rfl, (List.forall_mem_cons.mpr ⟨wrr_wsX12_shiftedOf_wsX12_shiftedOf_r2 (i := 0) rfl, (List.forall_mem_cons.mpr ⟨wrr_wsX12_shiftedOf_wsX12_shiftedOf_r1 (i := 4) rfl, (List.forall_mem_cons.mpr ⟨wrr_wsX12_shiftedOf_wsX12_shiftedOf_r2 (i := 1) rfl, (fun _ h => absurd h List.not_mem_nil)⟩)⟩)⟩)⟩)⟩), wru_wsX12_shiftedOf_wsX120⟩)⟩) gw_wsX12_clashes
set_option maxRecDepth 20000 in
theorem gX12_shiftedOf_X12_clashes : GoodIn wsX12_shiftedOf (wsV RX12 287 RX12 yX12_clashes wsX12_clashes) := goodIn_app (goodIn_sub (List.forall_mem_cons.mpr ⟨wrr_wsX12_shiftedOf_wsX12_shiftedOf_r1 (i := 18) rfl, (List.forall_mem_cons.mpr ⟨wrr_wsX12_shiftedOf_wsX12_shiftedOf_r1 (i := 19) rfl, (List.forall_mem_cons.mpr ⟨wrr_wsX12_shiftedOf_wsX12_shiftedOf_r1 (i := 20) rfl, (List.forall_mem_cons.mpr ⟨wrr_wsX12_shiftedOf_wsX12_shiftedOf_r1 (i := 4) rfl, (fun _ h => absurd h List.not_mem_nil)⟩)⟩)⟩)⟩) (by decide +kernel)) ggX12_shiftedOf_X12_clashes
theorem dX12_shiftedOf_0 : decode cX12_shiftedOf 0 = .ok (.iconst 0, 1) := by decide +kernel
theorem dX12_shiftedOf_1 : decode cX12_shiftedOf 1 = .ok (.istore_n 2, 1) := by decide +kernel
theorem dX12_shiftedOf_2 : decode cX12_shiftedOf 2 = .ok (.aload_n 0, 1) := by decide +kernel
theorem dX12_shiftedOf_3 : decode cX12_shiftedOf 3 = .ok (.getfield 34, 3) := by decide +kernel
theorem dX12_shiftedOf_6 : decode cX12_shiftedOf 6 = .ok (.iconst 0, 1) := by decide +kernel
theorem dX12_shiftedOf_7 : decode cX12_shiftedOf 7 = .ok (.iaload, 1) := by decide +kernel
theorem dX12_shiftedOf_8 : decode cX12_shiftedOf 8 = .ok (.istore_n 3, 1) := by decide +kernel
theorem dX12_shiftedOf_9 : decode cX12_shiftedOf 9 = .ok (.iload_n 3, 1) := by decide +kernel
theorem dX12_shiftedOf_10 : decode cX12_shiftedOf 10 = .ok (.istore 4, 2) := by decide +kernel
theorem dX12_shiftedOf_12 : decode cX12_shiftedOf 12 = .ok (.iload 4, 2) := by decide +kernel
theorem dX12_shiftedOf_14 : decode cX12_shiftedOf 14 = .ok (.iload_n 3, 1) := by decide +kernel
theorem dX12_shiftedOf_15 : decode cX12_shiftedOf 15 = .ok (.aload_n 0, 1) := by decide +kernel
theorem dX12_shiftedOf_16 : decode cX12_shiftedOf 16 = .ok (.invokevirtual 325, 3) := by decide +kernel
theorem dX12_shiftedOf_19 : decode cX12_shiftedOf 19 = .ok (.iadd, 1) := by decide +kernel
theorem dX12_shiftedOf_20 : decode cX12_shiftedOf 20 = .ok (.if_icmp .ge 75, 3) := by decide +kernel
theorem dX12_shiftedOf_23 : decode cX12_shiftedOf 23 = .ok (.iload_n 2, 1) := by decide +kernel
theorem dX12_shiftedOf_24 : decode cX12_shiftedOf 24 = .ok (.aload_n 0, 1) := by decide +kernel
theorem dX12_shiftedOf_25 : decode cX12_shiftedOf 25 = .ok (.aload_n 0, 1) := by decide +kernel
theorem dX12_shiftedOf_26 : decode cX12_shiftedOf 26 = .ok (.iconst 0, 1) := by decide +kernel
theorem dX12_shiftedOf_27 : decode cX12_shiftedOf 27 = .ok (.iload 4, 2) := by decide +kernel
theorem dX12_shiftedOf_29 : decode cX12_shiftedOf 29 = .ok (.iconst 0, 1) := by decide +kernel
theorem dX12_shiftedOf_30 : decode cX12_shiftedOf 30 = .ok (.invokevirtual 328, 3) := by decide +kernel
theorem dX12_shiftedOf_33 : decode cX12_shiftedOf 33 = .ok (.aload_n 0, 1) := by decide +kernel
theorem dX12_shiftedOf_34 : decode cX12_shiftedOf 34 = .ok (.iconst 1, 1) := by decide +kernel
theorem dX12_shiftedOf_35 : decode cX12_shiftedOf 35 = .ok (.iload 4, 2) := by decide +kernel
theorem dX12_shiftedOf_37 : decode cX12_shiftedOf 37 = .ok (.iload_n 3, 1) := by decide +kernel
theorem dX12_shiftedOf_38 : decode cX12_shiftedOf 38 = .ok (.isub, 1) := by decide +kernel
theorem dX12_shiftedOf_39 : decode cX12_shiftedOf 39 = .ok (.iload_n 1, 1) := by decide +kernel
theorem dX12_shiftedOf_40 : decode cX12_shiftedOf 40 = .ok (.invokevirtual 328, 3) := by decide +kernel
theorem dX12_shiftedOf_43 : decode cX12_shiftedOf 43 = .ok (.invokevirtual 287, 3) := by decide +kernel
theorem dX12_shiftedOf_46 : decode cX12_shiftedOf 46 = .ok (.ifCond .eq 7, 3) := by decide +kernel
theorem dX12_shiftedOf_49 : decode cX12_shiftedOf 49 = .ok (.iconst 1, 1) := by decide +kernel
theorem dX12_shiftedOf_50 : decode cX12_shiftedOf 50 = .ok (.goto 4, 3) := by decide +kernel
theorem dX12_shiftedOf_53 : decode cX12_shiftedOf 53 = .ok (.iconst 0, 1) := by decide +kernel
theorem dX12_shiftedOf_54 : decode cX12_shiftedOf 54 = .ok (.iadd, 1) := by decide +kernel
theorem dX12_shiftedOf_55 : decode cX12_shiftedOf 55 = .ok (.istore_n 2, 1) := by decide +kernel
theorem dX12_shiftedOf_56 : decode cX12_shiftedOf 56 = .ok (.iload_n 2, 1) := by decide +kernel
theorem dX12_shiftedOf_57 : decode cX12_shiftedOf 57 = .ok (.aload_n 0, 1) := by decide +kernel
theorem dX12_shiftedOf_58 : decode cX12_shiftedOf 58 = .ok (.aload_n 0, 1) := by decide +kernel
theorem dX12_shiftedOf_59 : decode cX12_shiftedOf 59 = .ok (.iconst 1, 1) := by decide +kernel
theorem dX12_shiftedOf_60 : decode cX12_shiftedOf 60 = .ok (.iload 4, 2) := by decide +kernel
theorem dX12_shiftedOf_62 : decode cX12_shiftedOf 62 = .ok (.iload_n 1, 1) := by decide +kernel
theorem dX12_shiftedOf_63 : decode cX12_shiftedOf 63 = .ok (.invokevirtual 328, 3) := by decide +kernel
theorem dX12_shiftedOf_66 : decode cX12_shiftedOf 66 = .ok (.aload_n 0, 1) := by decide +kernel
theorem dX12_shiftedOf_67 : decode cX12_shiftedOf 67 = .ok (.iconst 0, 1) := by decide +kernel
theorem dX12_shiftedOf_68 : decode cX12_shiftedOf 68 = .ok (.iload 4, 2) := by decide +kernel
theorem dX12_shiftedOf_70 : decode cX12_shiftedOf 70 = .ok (.iload_n 3, 1) := by decide +kernel
theorem dX12_shiftedOf_71 : decode cX12_shiftedOf 71 = .ok (.isub, 1) := by decide +kernel
theorem dX12_shiftedOf_72 : decode cX12_shiftedOf 72 = .ok (.iconst 0, 1) := by decide +kernel
theorem dX12_shiftedOf_73 : decode cX12_shiftedOf 73 = .ok (.invokevirtual 328, 3) := by decide +kernel
theorem dX12_shiftedOf_76 : decode cX12_shiftedOf 76 = .ok (.invokevirtual 287, 3) := by decide +kernel
theorem dX12_shiftedOf_79 : decode cX12_shiftedOf 79 = .ok (.ifCond .eq 7, 3) := by decide +kernel
theorem dX12_shiftedOf_82 : decode cX12_shiftedOf 82 = .ok (.iconst 1, 1) := by decide +kernel
theorem dX12_shiftedOf_83 : decode cX12_shiftedOf 83 = .ok (.goto 4, 3) := by decide +kernel
theorem dX12_shiftedOf_86 : decode cX12_shiftedOf 86 = .ok (.iconst 0, 1) := by decide +kernel
theorem dX12_shiftedOf_87 : decode cX12_shiftedOf 87 = .ok (.iadd, 1) := by decide +kernel
theorem dX12_shiftedOf_88 : decode cX12_shiftedOf 88 = .ok (.istore_n 2, 1) := by decide +kernel
theorem dX12_shiftedOf_89 : decode cX12_shiftedOf 89 = .ok (.iinc 4 1, 3) := by decide +kernel
theorem dX12_shiftedOf_92 : decode cX12_shiftedOf 92 = .ok (.goto (-80), 3) := by decide +kernel
theorem dX12_shiftedOf_95 : decode cX12_shiftedOf 95 = .ok (.iload_n 2, 1) := by decide +kernel
theorem dX12_shiftedOf_96 : decode cX12_shiftedOf 96 = .ok (.ireturn, 1) := by decide +kernel
theorem wrr_wsX12_shifted {i : Nat} {w : Cond} (h : wsX12_shifted[i]? = some w) : w ∈ wsX12_shifted := List.mem_of_getElem? h
theorem wrr_wsX12_shifted_wsX12_shifted_r1 {i : Nat} {w : Cond} (h : wsX12_shifted_r1[i]? = some w) : w ∈ wsX12_shifted := (List.mem_cons_of_mem _ (List.mem_append_left _ (List.mem_append_left _ (List.mem_of_getElem? h))))
theorem wrr_wsX12_shifted_wsX12_shifted_r2 {i : Nat} {w : Cond} (h : wsX12_shifted_r2[i]? = some w) : w ∈ wsX12_shifted := (List.mem_cons_of_mem _ (List.mem_append_left _ (List.mem_append_right _ (List.mem_of_getElem? h))))
theorem wru_wsX12_shifted_wsX120 : ∀ w ∈ wsX120, w ∈ wsX12_shifted := fun w h => (List.mem_cons_of_mem _ (List.mem_append_right _ h))
set_option maxRecDepth 20000 in
theorem ggX12_shifted_X12_isDance : GoodIn wsX12_shifted wsX12_isDance := goodIn_sub (List.forall_mem_cons.mpr ⟨wrr_wsX12_shifted_wsX12_shifted_r1 (i := 5) rfl, (List.forall_mem_append.mpr ⟨(List.forall_mem_cons.mpr ⟨wrr_wsX12_shifted_wsX12_shifted_r1 (i := 6) rfl, (fun _ h => absurd h List.not_mem_nil)⟩), wru_wsX12_shifted_wsX120⟩)⟩) gw_wsX12_isDance
set_option maxRecDepth 20000 in
theorem gX12_shifted_X12_isDance : GoodIn wsX12_shifted (wsV RX12 254 RX12 yX12_isDance wsX12_isDance) := goodIn_app (goodIn_sub (List.forall_mem_cons.mpr ⟨wrr_wsX12_shifted_wsX12_shifted_r1 (i := 1) rfl, (List.forall_mem_cons.mpr ⟨wrr_wsX12_shifted_wsX12_shifted_r1 (i := 2) rfl, (List.forall_mem_cons.mpr ⟨wrr_wsX12_shifted_wsX12_shifted_r1 (i := 3) rfl, (List.forall_mem_cons.mpr ⟨wrr_wsX12_shifted_wsX12_shifted_r1 (i := 4) rfl, (fun _ h => absurd h List.not_mem_nil)⟩)⟩)⟩)⟩) (by decide +kernel)) ggX12_shifted_X12_isDance
set_option maxRecDepth 20000 in
theorem ggX12_shifted_X12_areRounds : GoodIn wsX12_shifted wsX12_areRounds := goodIn_sub (List.forall_mem_cons.mpr ⟨wrr_wsX12_shifted_wsX12_shifted_r1 (i := 10) rfl, (List.forall_mem_append.mpr ⟨(List.forall_mem_cons.mpr ⟨wrr_wsX12_shifted_wsX12_shifted_r1 (i := 11) rfl, (fun _ h => absurd h List.not_mem_nil)⟩), wru_wsX12_shifted_wsX120⟩)⟩) gw_wsX12_areRounds
set_option maxRecDepth 20000 in
theorem gX12_shifted_X12_areRounds : GoodIn wsX12_shifted (wsV RX12 322 RX12 yX12_areRounds wsX12_areRounds) := goodIn_app (goodIn_sub (List.forall_mem_cons.mpr ⟨wrr_wsX12_shifted_wsX12_shifted_r1 (i := 7) rfl, (List.forall_mem_cons.mpr ⟨wrr_wsX12_shifted_wsX12_shifted_r1 (i := 8) rfl, (List.forall_mem_cons.mpr ⟨wrr_wsX12_shifted_wsX12_shifted_r1 (i := 9) rfl, (List.forall_mem_cons.mpr ⟨wrr_wsX12_shifted_wsX12_shifted_r1 (i := 4) rfl, (fun _ h => absurd h List.not_mem_nil)⟩)⟩)⟩)⟩) (by decide +kernel)) ggX12_shifted_X12_areRounds
set_option maxRecDepth 20000 in
theorem ggX12_shifted_X12_lengthOf : GoodIn wsX12_shifted wsX12_lengthOf := goodIn_sub (List.forall_mem_cons.mpr ⟨wrr_wsX12_shifted_wsX12_shifted_r1 (i := 15) rfl, (List.forall_mem_append.mpr ⟨(List.forall_mem_cons.mpr ⟨wrr_wsX12_shifted_wsX12_shifted_r1 (i := 11) rfl, (fun _ h => absurd h List.not_mem_nil)⟩), wru_wsX12_shifted_wsX120⟩)⟩) gw_wsX12_lengthOf
set_option maxRecDepth 20000 in
theorem gX12_shifted_X12_lengthOf : GoodIn wsX12_shifted (wsV RX12 264 RX12 yX12_lengthOf wsX12_lengthOf) := goodIn_app (goodIn_sub (List.forall_mem_cons.mpr ⟨wrr_wsX12_shifted_wsX12_shifted_r1 (i := 12) rfl, (List.forall_mem_cons.mpr ⟨wrr_wsX12_shifted_wsX12_shifted_r1 (i := 13) rfl, (List.forall_mem_cons.mpr ⟨wrr_wsX12_shifted_wsX12_shifted_r1 (i := 14) rfl, (List.forall_mem_cons.mpr ⟨wrr_wsX12_shifted_wsX12_shifted_r1 (i := 4) rfl, (fun _ h => absurd h List.not_mem_nil)⟩)⟩)⟩)⟩) (by decide +kernel)) ggX12_shifted_X12_lengthOf
set_option maxRecDepth 20000 in
theorem ggX12_shifted_X12_in : GoodIn wsX12_shifted wsX12_in := goodIn_sub (List.forall_mem_cons.mpr ⟨wrr_wsX12_shifted_wsX12_shifted_r1 (i := 18) rfl, (fun _ h => absurd h List.not_mem_nil)⟩) gw_wsX12_in
set_option maxRecDepth 20000 in
theorem gX12_shifted_X12_in : GoodIn wsX12_shifted (va_wsS RX12 85 yX12_in wsX12_in) := goodIn_app (goodIn_sub (List.forall_mem_cons.mpr ⟨wrr_wsX12_shifted_wsX12_shifted_r1 (i := 16) rfl, (List.forall_mem_cons.mpr ⟨wrr_wsX12_shifted_wsX12_shifted_r1 (i := 17) rfl, (List.forall_mem_cons.mpr ⟨wrr_wsX12_shifted_wsX12_shifted_r1 (i := 4) rfl, (fun _ h => absurd h List.not_mem_nil)⟩)⟩)⟩) (by decide +kernel)) ggX12_shifted_X12_in
set_option maxRecDepth 20000 in
theorem gw_wsX12_shiftedOf : wsX12_shiftedOf.all goodWord = true := by decide +kernel
set_option maxRecDepth 20000 in
theorem ggX12_shifted_X12_shiftedOf : GoodIn wsX12_shifted wsX12_shiftedOf := goodIn_sub (List.forall_mem_cons.mpr ⟨wrr_wsX12_shifted_wsX12_shifted_r1 (i := 22) rfl, (List.forall_mem_append.mpr ⟨(List.forall_mem_append.mpr ⟨(List.forall_mem_cons.mpr ⟨wrr_wsX12_shifted_wsX12_shifted_r1 (i := 11) rfl, (List.forall_mem_cons.mpr ⟨wrr_wsX12_shifted_wsX12_shifted_r1 (i := 23) rfl, (List.forall_mem_cons.mpr ⟨wrr_wsX12_shifted_wsX12_shifted_r2 (i := 0) rfl, (List.forall_mem_cons.mpr ⟨wrr_wsX12_shifted_wsX12_shifted_r2 (i := 1) rfl, (List.forall_mem_cons.mpr ⟨wrr_wsX12_shifted_wsX12_shifted_r1 (i := 4) rfl, (List.forall_mem_cons.mpr ⟨wrr_wsX12_shifted_wsX12_shifted_r2 (i := 2) rfl, (List.forall_mem_cons.mpr ⟨wrr_wsX12_shifted_wsX12_shifted_r1 (i := 12) rfl, (List.forall_mem_cons.mpr ⟨wrr_wsX12_shifted_wsX12_shifted_r1 (i := 13) rfl, (List.forall_mem_cons.mpr ⟨wrr_wsX12_shifted_wsX12_shifted_r1 (i := 14) rfl, (List.forall_mem_cons.mpr ⟨wrr_wsX12_shifted_wsX12_shifted_r1 (i := 15) rfl, (List.forall_mem_cons.mpr ⟨wrr_wsX12_shifted_wsX12_shifted_r2 (i := 3) rfl, (List.forall_mem_cons.mpr ⟨wrr_wsX12_shifted_wsX12_shifted_r2 (i := 4) rfl, (List.forall_mem_cons.mpr ⟨wrr_wsX12_shifted_wsX12_shifted_r2 (i := 5) rfl, (List.forall_mem_cons.mpr ⟨wrr_wsX12_shifted_wsX12_shifted_r2 (i := 6) rfl, (List.forall_mem_cons.mpr ⟨wrr_wsX12_shifted_wsX12_shifted_r2 (i := 7) rfl, (List.forall_mem_cons.mpr ⟨wrr_wsX12_shifted_wsX12_shifted_r2 (i := 8) rfl, (List.forall_mem_cons.mpr ⟨wrr_wsX12_shifted_wsX12_shifted_r2 (i := 9) rfl, (List.forall_mem_cons.mpr ⟨wrr_wsX12_shifted_wsX12_shifted_r2 (i := 10) rfl, (List.forall_mem_cons.mpr ⟨wrr_wsX12_shifted_wsX12_shifted_r2 (i := 11) rfl, (List.forall_mem_cons.mpr ⟨wrr_wsX12_shifted_wsX12_shifted_r2 (i := 12) rfl, (List.forall_mem_cons.mpr ⟨wrr_wsX12_shifted_wsX12_shifted_r2 (i := 13) rfl, (List.forall_mem_cons.mpr ⟨wrr_wsX12_shifted_wsX12_shifted_r2 (i := 14) rfl, (List.forall_mem_cons.mpr ⟨wrr_wsX12_shifted_wsX12_shifted_r2 (i := 15) rfl, (List.forall_mem_cons.mpr ⟨wrr_wsX12_shifted_wsX12_shifted_r2 (i := 16) rfl, (fun _ h => absurd h List.not_mem_nil)⟩)⟩)⟩)⟩)⟩)⟩)⟩)⟩)⟩)⟩)⟩)⟩)⟩)⟩)⟩)⟩)⟩)⟩)⟩)⟩)⟩)⟩)⟩)⟩), (List.forall_mem_cons.mpr ⟨wrr_wsX12_shifted_wsX12_shifted_r2 (i := 17) rfl, (List.forall_mem_cons.mpr ⟨wrr_wsX12_shifted_wsX12_shifted_r2 (i := 18) rfl, (fun _ h => absurd h List.not_mem_nil)⟩)⟩)⟩), wru_wsX12_shifted_wsX120⟩)⟩) gw_wsX12_shiftedOf
set_option maxRecDepth 20000 in
theorem gX12_shifted_X12_shiftedOf : GoodIn wsX12_shifted (wsV RX12 331 RX12 yX12_shiftedOf wsX12_shiftedOf) := goodIn_app (goodIn_sub (List.forall_mem_cons.mpr ⟨wrr_wsX12_shifted_wsX12_shifted_r1 (i := 19) rfl, (List.forall_mem_cons.mpr ⟨wrr_wsX12_shifted_wsX12_shifted_r1 (i := 20) rfl, (List.forall_mem_cons.mpr ⟨wrr_wsX12_shifted_wsX12_shifted_r1 (i := 21) rfl, (List.forall_mem_cons.mpr ⟨wrr_wsX12_shifted_wsX12_shifted_r1 (i := 4) rfl, (fun _ h => absurd h List.not_mem_nil)⟩)⟩)⟩)⟩) (by decide +kernel)) ggX12_shifted_X12_shiftedOf
theorem dX12_shifted_0 : decode cX12_shifted 0 = .ok (.aload_n 0, 1) := by decide +kernel
theorem dX12_shifted_1 : decode cX12_shifted 1 = .ok (.iconst 0, 1) := by decide +kernel
theorem dX12_shifted_2 : decode cX12_shifted 2 = .ok (.putfield 80, 3) := by decide +kernel
theorem dX12_shifted_5 : decode cX12_shifted 5 = .ok (.aload_n 0, 1) := by decide +kernel
theorem dX12_shifted_6 : decode cX12_shifted 6 = .ok (.invokevirtual 254, 3) := by decide +kernel
theorem dX12_shifted_9 : decode cX12_shifted 9 = .ok (.ifCond .eq 35, 3) := by decide +kernel
theorem dX12_shifted_12 : decode cX12_shifted 12 = .ok (.aload_n 0, 1) := by decide +kernel
theorem dX12_shifted_13 : decode cX12_shifted 13 = .ok (.invokevirtual 322, 3) := by decide +kernel
theorem dX12_shifted_16 : decode cX12_shifted 16 = .ok (.ifCond .eq 28, 3) := by decide +kernel
theorem dX12_shifted_19 : decode cX12_shifted 19 = .ok (.iload_n 1, 1) := by decide +kernel
theorem dX12_shifted_20 : decode cX12_shifted 20 = .ok (.i2l, 1) := by decide +kernel
theorem dX12_shifted_21 : decode cX12_shifted 21 = .ok (.lconst 0, 1) := by decide +kernel
theorem dX12_shifted_22 : decode cX12_shifted 22 = .ok (.aload_n 0, 1) := by decide +kernel
theorem dX12_shifted_23 : decode cX12_shifted 23 = .ok (.iconst 1, 1) := by decide +kernel
theorem dX12_shifted_24 : decode cX12_shifted 24 = .ok (.invokevirtual 264, 3) := by decide +kernel
theorem dX12_shifted_27 : decode cX12_shifted 27 = .ok (.iconst 1, 1) := by decide +kernel
theorem dX12_shifted_28 : decode cX12_shifted 28 = .ok (.isub, 1) := by decide +kernel
theorem dX12_shifted_29 : decode cX12_shifted 29 = .ok (.i2l, 1) := by decide +kernel
theorem dX12_shifted_30 : decode cX12_shifted 30 = .ok (.invokestatic 85, 3) := by decide +kernel
theorem dX12_shifted_33 : decode cX12_shifted 33 = .ok (.ifCond .eq 11, 3) := by decide +kernel
theorem dX12_shifted_36 : decode cX12_shifted 36 = .ok (.aload_n 0, 1) := by decide +kernel
theorem dX12_shifted_37 : decode cX12_shifted 37 = .ok (.iload_n 1, 1) := by decide +kernel
theorem dX12_shifted_38 : decode cX12_shifted 38 = .ok (.invokevirtual 331, 3) := by decide +kernel
theorem dX12_shifted_41 : decode cX12_shifted 41 = .ok (.goto 5, 3) := by decide +kernel
theorem dX12_shifted_44 : decode cX12_shifted 44 = .ok (.bipush (-2), 2) := by decide +kernel
theorem dX12_shifted_46 : decode cX12_shifted 46 = .ok (.ireturn, 1) := by decide +kernel
theorem wrr_wsX12_shift {i : Nat} {w : Cond} (h : wsX12_shift[i]? = some w) : w ∈ wsX12_shift := List.mem_of_getElem? h
theorem wrr_wsX12_shift_wsX12_shift_r1 {i : Nat} {w : Cond} (h : wsX12_shift_r1[i]? = some w) : w ∈ wsX12_shift := (List.mem_cons_of_mem _ (List.mem_append_left _ (List.mem_append_left _ (List.mem_of_getElem? h))))
theorem wrr_wsX12_shift_wsX12_shift_r2 {i : Nat} {w : Cond} (h : wsX12_shift_r2[i]? = some w) : w ∈ wsX12_shift := (List.mem_cons_of_mem _ (List.mem_append_left _ (List.mem_append_right _ (List.mem_of_getElem? h))))
theorem wru_wsX12_shift_wsX120 : ∀ w ∈ wsX120, w ∈ wsX12_shift := fun w h => (List.mem_cons_of_mem _ (List.mem_append_right _ h))
set_option maxRecDepth 20000 in
theorem ggX12_shift_X12_isDance : GoodIn wsX12_shift wsX12_isDance := goodIn_sub (List.forall_mem_cons.mpr ⟨wrr_wsX12_shift_wsX12_shift_r1 (i := 5) rfl, (List.forall_mem_append.mpr ⟨(List.forall_mem_cons.mpr ⟨wrr_wsX12_shift_wsX12_shift_r1 (i := 6) rfl, (fun _ h => absurd h List.not_mem_nil)⟩), wru_wsX12_shift_wsX120⟩)⟩) gw_wsX12_isDance
set_option maxRecDepth 20000 in
theorem gX12_shift_X12_isDance : GoodIn wsX12_shift (wsV RX12 254 RX12 yX12_isDance wsX12_isDance) := goodIn_app (goodIn_sub (List.forall_mem_cons.mpr ⟨wrr_wsX12_shift_wsX12_shift_r1 (i := 1) rfl, (List.forall_mem_cons.mpr ⟨wrr_wsX12_shift_wsX12_shift_r1 (i := 2) rfl, (List.forall_mem_cons.mpr ⟨wrr_wsX12_shift_wsX12_shift_r1 (i := 3) rfl, (List.forall_mem_cons.mpr ⟨wrr_wsX12_shift_wsX12_shift_r1 (i := 4) rfl, (fun _ h => absurd h List.not_mem_nil)⟩)⟩)⟩)⟩) (by decide +kernel)) ggX12_shift_X12_isDance
set_option maxRecDepth 20000 in
theorem ggX12_shift_X12_areRounds : GoodIn wsX12_shift wsX12_areRounds := goodIn_sub (List.forall_mem_cons.mpr ⟨wrr_wsX12_shift_wsX12_shift_r1 (i := 10) rfl, (List.forall_mem_append.mpr ⟨(List.forall_mem_cons.mpr ⟨wrr_wsX12_shift_wsX12_shift_r1 (i := 11) rfl, (fun _ h => absurd h List.not_mem_nil)⟩), wru_wsX12_shift_wsX120⟩)⟩) gw_wsX12_areRounds
set_option maxRecDepth 20000 in
theorem gX12_shift_X12_areRounds : GoodIn wsX12_shift (wsV RX12 322 RX12 yX12_areRounds wsX12_areRounds) := goodIn_app (goodIn_sub (List.forall_mem_cons.mpr ⟨wrr_wsX12_shift_wsX12_shift_r1 (i := 7) rfl, (List.forall_mem_cons.mpr ⟨wrr_wsX12_shift_wsX12_shift_r1 (i := 8) rfl, (List.forall_mem_cons.mpr ⟨wrr_wsX12_shift_wsX12_shift_r1 (i := 9) rfl, (List.forall_mem_cons.mpr ⟨wrr_wsX12_shift_wsX12_shift_r1 (i := 4) rfl, (fun _ h => absurd h List.not_mem_nil)⟩)⟩)⟩)⟩) (by decide +kernel)) ggX12_shift_X12_areRounds
set_option maxRecDepth 20000 in
theorem ggX12_shift_X12_lengthOf : GoodIn wsX12_shift wsX12_lengthOf := goodIn_sub (List.forall_mem_cons.mpr ⟨wrr_wsX12_shift_wsX12_shift_r1 (i := 15) rfl, (List.forall_mem_append.mpr ⟨(List.forall_mem_cons.mpr ⟨wrr_wsX12_shift_wsX12_shift_r1 (i := 11) rfl, (fun _ h => absurd h List.not_mem_nil)⟩), wru_wsX12_shift_wsX120⟩)⟩) gw_wsX12_lengthOf
set_option maxRecDepth 20000 in
theorem gX12_shift_X12_lengthOf : GoodIn wsX12_shift (wsV RX12 264 RX12 yX12_lengthOf wsX12_lengthOf) := goodIn_app (goodIn_sub (List.forall_mem_cons.mpr ⟨wrr_wsX12_shift_wsX12_shift_r1 (i := 12) rfl, (List.forall_mem_cons.mpr ⟨wrr_wsX12_shift_wsX12_shift_r1 (i := 13) rfl, (List.forall_mem_cons.mpr ⟨wrr_wsX12_shift_wsX12_shift_r1 (i := 14) rfl, (List.forall_mem_cons.mpr ⟨wrr_wsX12_shift_wsX12_shift_r1 (i := 4) rfl, (fun _ h => absurd h List.not_mem_nil)⟩)⟩)⟩)⟩) (by decide +kernel)) ggX12_shift_X12_lengthOf
set_option maxRecDepth 20000 in
theorem ggX12_shift_X12_shiftedOf : GoodIn wsX12_shift wsX12_shiftedOf := goodIn_sub (List.forall_mem_cons.mpr ⟨wrr_wsX12_shift_wsX12_shift_r1 (i := 19) rfl, (List.forall_mem_append.mpr ⟨(List.forall_mem_append.mpr ⟨(List.forall_mem_cons.mpr ⟨wrr_wsX12_shift_wsX12_shift_r1 (i := 11) rfl, (List.forall_mem_cons.mpr ⟨wrr_wsX12_shift_wsX12_shift_r1 (i := 20) rfl, (List.forall_mem_cons.mpr ⟨wrr_wsX12_shift_wsX12_shift_r1 (i := 21) rfl, (List.forall_mem_cons.mpr ⟨wrr_wsX12_shift_wsX12_shift_r1 (i := 22) rfl, (List.forall_mem_cons.mpr ⟨wrr_wsX12_shift_wsX12_shift_r1 (i := 4) rfl, (List.forall_mem_cons.mpr ⟨wrr_wsX12_shift_wsX12_shift_r1 (i := 23) rfl, (List.forall_mem_cons.mpr ⟨wrr_wsX12_shift_wsX12_shift_r1 (i := 12) rfl, (List.forall_mem_cons.mpr ⟨wrr_wsX12_shift_wsX12_shift_r1 (i := 13) rfl, (List.forall_mem_cons.mpr ⟨wrr_wsX12_shift_wsX12_shift_r1 (i := 14) rfl, (List.forall_mem_cons.mpr ⟨wrr_wsX12_shift_wsX12_shift_r1 (i := 15) rfl, (List.forall_mem_cons.mpr ⟨wrr_wsX12_shift_wsX12_shift_r2 (i := 0) rfl, (List.forall_mem_cons.mpr ⟨wrr_wsX12_shift_wsX12_shift_r2 (i := 1) rfl, (List.forall_mem_cons.mpr ⟨wrr_wsX12_shift_wsX12_shift_r2 (i := 2) rfl, (List.forall_mem_cons.mpr ⟨wrr_wsX12_shift_wsX12_shift_r2 (i := 3) rfl, (List.forall_mem_cons.mpr ⟨wrr_wsX12_shift_wsX12_shift_r2 (i := 4) rfl, (List.forall_mem_cons.mpr ⟨wrr_wsX12_shift_wsX12_shift_r2 (i := 5) rfl, (List.forall_mem_cons.mpr ⟨wrr_wsX12_shift_wsX12_shift_r2 (i := 6) rfl, (List.forall_mem_cons.mpr ⟨wrr_wsX12_shift_wsX12_shift_r2 (i := 7) rfl, (List.forall_mem_cons.mpr ⟨wrr_wsX12_shift_wsX12_shift_r2 (i := 8) rfl, (List.forall_mem_cons.mpr ⟨wrr_wsX12_shift_wsX12_shift_r2 (i := 9) rfl, (List.forall_mem_cons.mpr ⟨wrr_wsX12_shift_wsX12_shift_r2 (i := 10) rfl, (List.forall_mem_cons.mpr ⟨wrr_wsX12_shift_wsX12_shift_r2 (i := 11) rfl, (List.forall_mem_cons.mpr ⟨wrr_wsX12_shift_wsX12_shift_r2 (i := 12) rfl, (List.forall_mem_cons.mpr ⟨wrr_wsX12_shift_wsX12_shift_r2 (i := 13) rfl, (fun _ h => absurd h List.not_mem_nil)⟩)⟩)⟩)⟩)⟩)⟩)⟩)⟩)⟩)⟩)⟩)⟩)⟩)⟩)⟩)⟩)⟩)⟩)⟩)⟩)⟩)⟩)⟩)⟩), (List.forall_mem_cons.mpr ⟨wrr_wsX12_shift_wsX12_shift_r2 (i := 14) rfl, (List.forall_mem_cons.mpr ⟨wrr_wsX12_shift_wsX12_shift_r2 (i := 15) rfl, (fun _ h => absurd h List.not_mem_nil)⟩)⟩)⟩), wru_wsX12_shift_wsX120⟩)⟩) gw_wsX12_shiftedOf
set_option maxRecDepth 20000 in
theorem gX12_shift_X12_shiftedOf : GoodIn wsX12_shift (wsV RX12 331 RX12 yX12_shiftedOf wsX12_shiftedOf) := goodIn_app (goodIn_sub (List.forall_mem_cons.mpr ⟨wrr_wsX12_shift_wsX12_shift_r1 (i := 16) rfl, (List.forall_mem_cons.mpr ⟨wrr_wsX12_shift_wsX12_shift_r1 (i := 17) rfl, (List.forall_mem_cons.mpr ⟨wrr_wsX12_shift_wsX12_shift_r1 (i := 18) rfl, (List.forall_mem_cons.mpr ⟨wrr_wsX12_shift_wsX12_shift_r1 (i := 4) rfl, (fun _ h => absurd h List.not_mem_nil)⟩)⟩)⟩)⟩) (by decide +kernel)) ggX12_shift_X12_shiftedOf
theorem dX12_shift_0 : decode cX12_shift 0 = .ok (.aload_n 0, 1) := by decide +kernel
theorem dX12_shift_1 : decode cX12_shift 1 = .ok (.iconst 0, 1) := by decide +kernel
theorem dX12_shift_2 : decode cX12_shift 2 = .ok (.putfield 80, 3) := by decide +kernel
theorem dX12_shift_5 : decode cX12_shift 5 = .ok (.aload_n 0, 1) := by decide +kernel
theorem dX12_shift_6 : decode cX12_shift 6 = .ok (.invokevirtual 254, 3) := by decide +kernel
theorem dX12_shift_9 : decode cX12_shift 9 = .ok (.ifCond .eq 10, 3) := by decide +kernel
theorem dX12_shift_12 : decode cX12_shift 12 = .ok (.aload_n 0, 1) := by decide +kernel
theorem dX12_shift_13 : decode cX12_shift 13 = .ok (.invokevirtual 322, 3) := by decide +kernel
theorem dX12_shift_16 : decode cX12_shift 16 = .ok (.ifCond .ne 6, 3) := by decide +kernel
theorem dX12_shift_19 : decode cX12_shift 19 = .ok (.bipush (-2), 2) := by decide +kernel
theorem dX12_shift_21 : decode cX12_shift 21 = .ok (.ireturn, 1) := by decide +kernel
theorem dX12_shift_22 : decode cX12_shift 22 = .ok (.iconst 0, 1) := by decide +kernel
theorem dX12_shift_23 : decode cX12_shift 23 = .ok (.istore_n 1, 1) := by decide +kernel
theorem dX12_shift_24 : decode cX12_shift 24 = .ok (.iload_n 1, 1) := by decide +kernel
theorem dX12_shift_25 : decode cX12_shift 25 = .ok (.aload_n 0, 1) := by decide +kernel
theorem dX12_shift_26 : decode cX12_shift 26 = .ok (.iconst 1, 1) := by decide +kernel
theorem dX12_shift_27 : decode cX12_shift 27 = .ok (.invokevirtual 264, 3) := by decide +kernel
theorem dX12_shift_30 : decode cX12_shift 30 = .ok (.if_icmp .ge 19, 3) := by decide +kernel
theorem dX12_shift_33 : decode cX12_shift 33 = .ok (.aload_n 0, 1) := by decide +kernel
theorem dX12_shift_34 : decode cX12_shift 34 = .ok (.iload_n 1, 1) := by decide +kernel
theorem dX12_shift_35 : decode cX12_shift 35 = .ok (.invokevirtual 331, 3) := by decide +kernel
theorem dX12_shift_38 : decode cX12_shift 38 = .ok (.ifCond .ne 5, 3) := by decide +kernel
theorem dX12_shift_41 : decode cX12_shift 41 = .ok (.iload_n 1, 1) := by decide +kernel
theorem dX12_shift_42 : decode cX12_shift 42 = .ok (.ireturn, 1) := by decide +kernel
theorem dX12_shift_43 : decode cX12_shift 43 = .ok (.iinc 1 1, 3) := by decide +kernel
theorem dX12_shift_46 : decode cX12_shift 46 = .ok (.goto (-22), 3) := by decide +kernel
theorem dX12_shift_49 : decode cX12_shift 49 = .ok (.iconst (-1), 1) := by decide +kernel
theorem dX12_shift_50 : decode cX12_shift 50 = .ok (.ireturn, 1) := by decide +kernel
theorem wrr_wsX12_least {i : Nat} {w : Cond} (h : wsX12_least[i]? = some w) : w ∈ wsX12_least := List.mem_of_getElem? h
theorem wrr_wsX12_least_wsX12_least_r1 {i : Nat} {w : Cond} (h : wsX12_least_r1[i]? = some w) : w ∈ wsX12_least := (List.mem_cons_of_mem _ (List.mem_append_left _ (List.mem_append_left _ (List.mem_of_getElem? h))))
theorem wrr_wsX12_least_wsX12_least_r2 {i : Nat} {w : Cond} (h : wsX12_least_r2[i]? = some w) : w ∈ wsX12_least := (List.mem_cons_of_mem _ (List.mem_append_left _ (List.mem_append_right _ (List.mem_of_getElem? h))))
theorem wru_wsX12_least_wsX120 : ∀ w ∈ wsX120, w ∈ wsX12_least := fun w h => (List.mem_cons_of_mem _ (List.mem_append_right _ h))
set_option maxRecDepth 20000 in
theorem ggX12_least_X12_isDance : GoodIn wsX12_least wsX12_isDance := goodIn_sub (List.forall_mem_cons.mpr ⟨wrr_wsX12_least_wsX12_least_r1 (i := 5) rfl, (List.forall_mem_append.mpr ⟨(List.forall_mem_cons.mpr ⟨wrr_wsX12_least_wsX12_least_r1 (i := 6) rfl, (fun _ h => absurd h List.not_mem_nil)⟩), wru_wsX12_least_wsX120⟩)⟩) gw_wsX12_isDance
set_option maxRecDepth 20000 in
theorem gX12_least_X12_isDance : GoodIn wsX12_least (wsV RX12 254 RX12 yX12_isDance wsX12_isDance) := goodIn_app (goodIn_sub (List.forall_mem_cons.mpr ⟨wrr_wsX12_least_wsX12_least_r1 (i := 1) rfl, (List.forall_mem_cons.mpr ⟨wrr_wsX12_least_wsX12_least_r1 (i := 2) rfl, (List.forall_mem_cons.mpr ⟨wrr_wsX12_least_wsX12_least_r1 (i := 3) rfl, (List.forall_mem_cons.mpr ⟨wrr_wsX12_least_wsX12_least_r1 (i := 4) rfl, (fun _ h => absurd h List.not_mem_nil)⟩)⟩)⟩)⟩) (by decide +kernel)) ggX12_least_X12_isDance
set_option maxRecDepth 20000 in
theorem ggX12_least_X12_areRounds : GoodIn wsX12_least wsX12_areRounds := goodIn_sub (List.forall_mem_cons.mpr ⟨wrr_wsX12_least_wsX12_least_r1 (i := 10) rfl, (List.forall_mem_append.mpr ⟨(List.forall_mem_cons.mpr ⟨wrr_wsX12_least_wsX12_least_r1 (i := 11) rfl, (fun _ h => absurd h List.not_mem_nil)⟩), wru_wsX12_least_wsX120⟩)⟩) gw_wsX12_areRounds
set_option maxRecDepth 20000 in
theorem gX12_least_X12_areRounds : GoodIn wsX12_least (wsV RX12 322 RX12 yX12_areRounds wsX12_areRounds) := goodIn_app (goodIn_sub (List.forall_mem_cons.mpr ⟨wrr_wsX12_least_wsX12_least_r1 (i := 7) rfl, (List.forall_mem_cons.mpr ⟨wrr_wsX12_least_wsX12_least_r1 (i := 8) rfl, (List.forall_mem_cons.mpr ⟨wrr_wsX12_least_wsX12_least_r1 (i := 9) rfl, (List.forall_mem_cons.mpr ⟨wrr_wsX12_least_wsX12_least_r1 (i := 4) rfl, (fun _ h => absurd h List.not_mem_nil)⟩)⟩)⟩)⟩) (by decide +kernel)) ggX12_least_X12_areRounds
set_option maxRecDepth 20000 in
theorem ggX12_least_X12_lengthOf : GoodIn wsX12_least wsX12_lengthOf := goodIn_sub (List.forall_mem_cons.mpr ⟨wrr_wsX12_least_wsX12_least_r1 (i := 15) rfl, (List.forall_mem_append.mpr ⟨(List.forall_mem_cons.mpr ⟨wrr_wsX12_least_wsX12_least_r1 (i := 11) rfl, (fun _ h => absurd h List.not_mem_nil)⟩), wru_wsX12_least_wsX120⟩)⟩) gw_wsX12_lengthOf
set_option maxRecDepth 20000 in
theorem gX12_least_X12_lengthOf : GoodIn wsX12_least (wsV RX12 264 RX12 yX12_lengthOf wsX12_lengthOf) := goodIn_app (goodIn_sub (List.forall_mem_cons.mpr ⟨wrr_wsX12_least_wsX12_least_r1 (i := 12) rfl, (List.forall_mem_cons.mpr ⟨wrr_wsX12_least_wsX12_least_r1 (i := 13) rfl, (List.forall_mem_cons.mpr ⟨wrr_wsX12_least_wsX12_least_r1 (i := 14) rfl, (List.forall_mem_cons.mpr ⟨wrr_wsX12_least_wsX12_least_r1 (i := 4) rfl, (fun _ h => absurd h List.not_mem_nil)⟩)⟩)⟩)⟩) (by decide +kernel)) ggX12_least_X12_lengthOf
set_option maxRecDepth 20000 in
theorem ggX12_least_X12_shiftedOf : GoodIn wsX12_least wsX12_shiftedOf := goodIn_sub (List.forall_mem_cons.mpr ⟨wrr_wsX12_least_wsX12_least_r1 (i := 19) rfl, (List.forall_mem_append.mpr ⟨(List.forall_mem_append.mpr ⟨(List.forall_mem_cons.mpr ⟨wrr_wsX12_least_wsX12_least_r1 (i := 11) rfl, (List.forall_mem_cons.mpr ⟨wrr_wsX12_least_wsX12_least_r1 (i := 20) rfl, (List.forall_mem_cons.mpr ⟨wrr_wsX12_least_wsX12_least_r1 (i := 21) rfl, (List.forall_mem_cons.mpr ⟨wrr_wsX12_least_wsX12_least_r1 (i := 22) rfl, (List.forall_mem_cons.mpr ⟨wrr_wsX12_least_wsX12_least_r1 (i := 4) rfl, (List.forall_mem_cons.mpr ⟨wrr_wsX12_least_wsX12_least_r1 (i := 23) rfl, (List.forall_mem_cons.mpr ⟨wrr_wsX12_least_wsX12_least_r1 (i := 12) rfl, (List.forall_mem_cons.mpr ⟨wrr_wsX12_least_wsX12_least_r1 (i := 13) rfl, (List.forall_mem_cons.mpr ⟨wrr_wsX12_least_wsX12_least_r1 (i := 14) rfl, (List.forall_mem_cons.mpr ⟨wrr_wsX12_least_wsX12_least_r1 (i := 15) rfl, (List.forall_mem_cons.mpr ⟨wrr_wsX12_least_wsX12_least_r2 (i := 0) rfl, (List.forall_mem_cons.mpr ⟨wrr_wsX12_least_wsX12_least_r2 (i := 1) rfl, (List.forall_mem_cons.mpr ⟨wrr_wsX12_least_wsX12_least_r2 (i := 2) rfl, (List.forall_mem_cons.mpr ⟨wrr_wsX12_least_wsX12_least_r2 (i := 3) rfl, (List.forall_mem_cons.mpr ⟨wrr_wsX12_least_wsX12_least_r2 (i := 4) rfl, (List.forall_mem_cons.mpr ⟨wrr_wsX12_least_wsX12_least_r2 (i := 5) rfl, (List.forall_mem_cons.mpr ⟨wrr_wsX12_least_wsX12_least_r2 (i := 6) rfl, (List.forall_mem_cons.mpr ⟨wrr_wsX12_least_wsX12_least_r2 (i := 7) rfl, (List.forall_mem_cons.mpr ⟨wrr_wsX12_least_wsX12_least_r2 (i := 8) rfl, (List.forall_mem_cons.mpr ⟨wrr_wsX12_least_wsX12_least_r2 (i := 9) rfl, (List.forall_mem_cons.mpr ⟨wrr_wsX12_least_wsX12_least_r2 (i := 10) rfl, (List.forall_mem_cons.mpr ⟨wrr_wsX12_least_wsX12_least_r2 (i := 11) rfl, (List.forall_mem_cons.mpr ⟨wrr_wsX12_least_wsX12_least_r2 (i := 12) rfl, (List.forall_mem_cons.mpr ⟨wrr_wsX12_least_wsX12_least_r2 (i := 13) rfl, (fun _ h => absurd h List.not_mem_nil)⟩)⟩)⟩)⟩)⟩)⟩)⟩)⟩)⟩)⟩)⟩)⟩)⟩)⟩)⟩)⟩)⟩)⟩)⟩)⟩)⟩)⟩)⟩)⟩), (List.forall_mem_cons.mpr ⟨wrr_wsX12_least_wsX12_least_r2 (i := 14) rfl, (List.forall_mem_cons.mpr ⟨wrr_wsX12_least_wsX12_least_r2 (i := 15) rfl, (fun _ h => absurd h List.not_mem_nil)⟩)⟩)⟩), wru_wsX12_least_wsX120⟩)⟩) gw_wsX12_shiftedOf
set_option maxRecDepth 20000 in
theorem gX12_least_X12_shiftedOf : GoodIn wsX12_least (wsV RX12 331 RX12 yX12_shiftedOf wsX12_shiftedOf) := goodIn_app (goodIn_sub (List.forall_mem_cons.mpr ⟨wrr_wsX12_least_wsX12_least_r1 (i := 16) rfl, (List.forall_mem_cons.mpr ⟨wrr_wsX12_least_wsX12_least_r1 (i := 17) rfl, (List.forall_mem_cons.mpr ⟨wrr_wsX12_least_wsX12_least_r1 (i := 18) rfl, (List.forall_mem_cons.mpr ⟨wrr_wsX12_least_wsX12_least_r1 (i := 4) rfl, (fun _ h => absurd h List.not_mem_nil)⟩)⟩)⟩)⟩) (by decide +kernel)) ggX12_least_X12_shiftedOf
theorem dX12_least_0 : decode cX12_least 0 = .ok (.aload_n 0, 1) := by decide +kernel
theorem dX12_least_1 : decode cX12_least 1 = .ok (.iconst 0, 1) := by decide +kernel
theorem dX12_least_2 : decode cX12_least 2 = .ok (.putfield 80, 3) := by decide +kernel
theorem dX12_least_5 : decode cX12_least 5 = .ok (.aload_n 0, 1) := by decide +kernel
theorem dX12_least_6 : decode cX12_least 6 = .ok (.invokevirtual 254, 3) := by decide +kernel
theorem dX12_least_9 : decode cX12_least 9 = .ok (.ifCond .eq 10, 3) := by decide +kernel
theorem dX12_least_12 : decode cX12_least 12 = .ok (.aload_n 0, 1) := by decide +kernel
theorem dX12_least_13 : decode cX12_least 13 = .ok (.invokevirtual 322, 3) := by decide +kernel
theorem dX12_least_16 : decode cX12_least 16 = .ok (.ifCond .ne 6, 3) := by decide +kernel
theorem dX12_least_19 : decode cX12_least 19 = .ok (.bipush (-2), 2) := by decide +kernel
theorem dX12_least_21 : decode cX12_least 21 = .ok (.ireturn, 1) := by decide +kernel
theorem dX12_least_22 : decode cX12_least 22 = .ok (.iconst 0, 1) := by decide +kernel
theorem dX12_least_23 : decode cX12_least 23 = .ok (.istore_n 1, 1) := by decide +kernel
theorem dX12_least_24 : decode cX12_least 24 = .ok (.iconst 1, 1) := by decide +kernel
theorem dX12_least_25 : decode cX12_least 25 = .ok (.istore_n 2, 1) := by decide +kernel
theorem dX12_least_26 : decode cX12_least 26 = .ok (.iload_n 2, 1) := by decide +kernel
theorem dX12_least_27 : decode cX12_least 27 = .ok (.aload_n 0, 1) := by decide +kernel
theorem dX12_least_28 : decode cX12_least 28 = .ok (.iconst 1, 1) := by decide +kernel
theorem dX12_least_29 : decode cX12_least 29 = .ok (.invokevirtual 264, 3) := by decide +kernel
theorem dX12_least_32 : decode cX12_least 32 = .ok (.if_icmp .ge 24, 3) := by decide +kernel
theorem dX12_least_35 : decode cX12_least 35 = .ok (.aload_n 0, 1) := by decide +kernel
theorem dX12_least_36 : decode cX12_least 36 = .ok (.iload_n 2, 1) := by decide +kernel
theorem dX12_least_37 : decode cX12_least 37 = .ok (.invokevirtual 331, 3) := by decide +kernel
theorem dX12_least_40 : decode cX12_least 40 = .ok (.aload_n 0, 1) := by decide +kernel
theorem dX12_least_41 : decode cX12_least 41 = .ok (.iload_n 1, 1) := by decide +kernel
theorem dX12_least_42 : decode cX12_least 42 = .ok (.invokevirtual 331, 3) := by decide +kernel
theorem dX12_least_45 : decode cX12_least 45 = .ok (.if_icmp .ge 5, 3) := by decide +kernel
theorem dX12_least_48 : decode cX12_least 48 = .ok (.iload_n 2, 1) := by decide +kernel
theorem dX12_least_49 : decode cX12_least 49 = .ok (.istore_n 1, 1) := by decide +kernel
theorem dX12_least_50 : decode cX12_least 50 = .ok (.iinc 2 1, 3) := by decide +kernel
theorem dX12_least_53 : decode cX12_least 53 = .ok (.goto (-27), 3) := by decide +kernel
theorem dX12_least_56 : decode cX12_least 56 = .ok (.iload_n 1, 1) := by decide +kernel
theorem dX12_least_57 : decode cX12_least 57 = .ok (.ireturn, 1) := by decide +kernel
