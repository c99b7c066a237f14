abbrev cX12_isDance : ByteArray := prog_14_method_39_code
def yX12_isDance : MethodName := ⟨RX12, "isDance", "()Z"⟩
abbrev cX12_isSide : ByteArray := prog_14_method_40_code
def yX12_isSide : MethodName := ⟨RX12, "isSide", "(I)Z"⟩
abbrev cX12_areRounds : ByteArray := prog_14_method_43_code
def yX12_areRounds : MethodName := ⟨RX12, "areRounds", "()Z"⟩
abbrev cX12_lengthOf : ByteArray := prog_14_method_44_code
def yX12_lengthOf : MethodName := ⟨RX12, "lengthOf", "(I)I"⟩
abbrev cX12_step : ByteArray := prog_14_method_47_code
def yX12_step : MethodName := ⟨RX12, "step", "(II)I"⟩
abbrev cX12_answers : ByteArray := prog_14_method_48_code
def yX12_answers : MethodName := ⟨RX12, "answers", "(I)I"⟩
abbrev cX12_stumbled : ByteArray := prog_14_method_49_code
def yX12_stumbled : MethodName := ⟨RX12, "stumbled", "(II)I"⟩
abbrev cX12_muddy : ByteArray := prog_14_method_50_code
def yX12_muddy : MethodName := ⟨RX12, "muddy", "(I)I"⟩
abbrev cX12_dances : ByteArray := prog_14_method_51_code
def yX12_dances : MethodName := ⟨RX12, "dances", "(IIIII)V"⟩
abbrev cX12_laysBut : ByteArray := prog_14_method_52_code
def yX12_laysBut : MethodName := ⟨RX12, "laysBut", "(I)V"⟩
abbrev cX12_lays : ByteArray := prog_14_method_53_code
def yX12_lays : MethodName := ⟨RX12, "lays", "()V"⟩
abbrev cX12_hearsAt : ByteArray := prog_14_method_54_code
def yX12_hearsAt : MethodName := ⟨RX12, "hearsAt", "(II)I"⟩
abbrev cX12_clashes : ByteArray := prog_14_method_55_code
def yX12_clashes : MethodName := ⟨RX12, "clashes", "(II)Z"⟩
abbrev cX12_isHole : ByteArray := prog_14_method_56_code
def yX12_isHole : MethodName := ⟨RX12, "isHole", "(II)Z"⟩
abbrev cX12_place : ByteArray := prog_14_method_57_code
def yX12_place : MethodName := ⟨RX12, "place", "(II)I"⟩
abbrev cX12_danced : ByteArray := prog_14_method_58_code
def yX12_danced : MethodName := ⟨RX12, "danced", "(II)I"⟩
abbrev cX12_hears : ByteArray := prog_14_method_59_code
def yX12_hears : MethodName := ⟨RX12, "hears", "(II)I"⟩
abbrev cX12_late : ByteArray := prog_14_method_60_code
def yX12_late : MethodName := ⟨RX12, "late", "(II)I"⟩
abbrev cX12_hole : ByteArray := prog_14_method_61_code
def yX12_hole : MethodName := ⟨RX12, "hole", "(II)I"⟩
abbrev cX12_next_ : ByteArray := prog_14_method_62_code
def yX12_next_ : MethodName := ⟨RX12, "next", "(II)I"⟩
abbrev cX12_holesOf : ByteArray := prog_14_method_63_code
def yX12_holesOf : MethodName := ⟨RX12, "holesOf", "(III)I"⟩
abbrev cX12_isSpan : ByteArray := prog_14_method_64_code
def yX12_isSpan : MethodName := ⟨RX12, "isSpan", "(II)Z"⟩
abbrev cX12_holes : ByteArray := prog_14_method_65_code
def yX12_holes : MethodName := ⟨RX12, "holes", "(III)I"⟩
abbrev cX12_laysRun : ByteArray := prog_14_method_66_code
def yX12_laysRun : MethodName := ⟨RX12, "laysRun", "(II)V"⟩
abbrev cX12_run : ByteArray := prog_14_method_67_code
def yX12_run : MethodName := ⟨RX12, "run", "(II)I"⟩
abbrev cX12_begins_ : ByteArray := prog_14_method_68_code
def yX12_begins_ : MethodName := ⟨RX12, "begins", "(II)I"⟩
abbrev cX12_allHoles : ByteArray := prog_14_method_69_code
def yX12_allHoles : MethodName := ⟨RX12, "allHoles", "()I"⟩
abbrev cX12_undoes : ByteArray := prog_14_method_70_code
def yX12_undoes : MethodName := ⟨RX12, "undoes", "(I)I"⟩
abbrev cX12_causes : ByteArray := prog_14_method_71_code
def yX12_causes : MethodName := ⟨RX12, "causes", "(II)I"⟩
def wsX12_isDance : List Cond := .code yX12_isDance cX12_isDance 1 (some .boolean) :: ([.fieldLink RX12 31 "OverHillModel" "lines" "[I"] ++ wsX120)
def wsX12_isSide : List Cond := .code yX12_isSide cX12_isSide 2 (some .boolean) :: ([.methodLink RX12 254 yX12_isDance, .instanceMethod yX12_isDance, .selects RX12 yX12_isDance yX12_isDance, .initialized RX12, .code yX12_isDance cX12_isDance 1 (some .boolean), .fieldLink RX12 31 "OverHillModel" "lines" "[I", .methodLink RX12 85 yX12_in, .static yX12_in, .code yX12_in cX12_in 6 (some .boolean)] ++ wsX120)
def wsX12_areRounds : List Cond := .code yX12_areRounds cX12_areRounds 1 (some .boolean) :: ([.fieldLink RX12 34 "OverHillModel" "has" "[I"] ++ wsX120)
def wsX12_lengthOf : List Cond := .code yX12_lengthOf cX12_lengthOf 2 (some .int) :: ([.fieldLink RX12 34 "OverHillModel" "has" "[I"] ++ wsX120)
def wsX12_step : List Cond := .code yX12_step cX12_step 3 (some .int) :: ([.fieldLink RX12 80 "OverHillModel" "thrown" "I", .fieldLink RX12 37 "OverHillModel" "round" "[I", .methodLink RX12 261 yX12_isSide, .instanceMethod yX12_isSide, .selects RX12 yX12_isSide yX12_isSide, .initialized RX12, .code yX12_isSide cX12_isSide 2 (some .boolean), .methodLink RX12 254 yX12_isDance, .instanceMethod yX12_isDance, .selects RX12 yX12_isDance yX12_isDance, .code yX12_isDance cX12_isDance 1 (some .boolean), .fieldLink RX12 31 "OverHillModel" "lines" "[I", .methodLink RX12 85 yX12_in, .static yX12_in, .code yX12_in cX12_in 6 (some .boolean), .methodLink RX12 264 yX12_lengthOf, .instanceMethod yX12_lengthOf, .selects RX12 yX12_lengthOf yX12_lengthOf, .code yX12_lengthOf cX12_lengthOf 2 (some .int), .fieldLink RX12 34 "OverHillModel" "has" "[I"] ++ wsX120)
def wsX12_answers : List Cond := .code yX12_answers cX12_answers 2 (some .int) :: ([.fieldLink RX12 80 "OverHillModel" "thrown" "I", .fieldLink RX12 40 "OverHillModel" "meets" "[I", .methodLink RX12 254 yX12_isDance, .instanceMethod yX12_isDance, .selects RX12 yX12_isDance yX12_isDance, .initialized RX12, .code yX12_isDance cX12_isDance 1 (some .boolean), .fieldLink RX12 31 "OverHillModel" "lines" "[I", .methodLink RX12 267 yX12_isStep, .static yX12_isStep, .code yX12_isStep cX12_isStep 2 (some .boolean), .constantLong RX12 259 (5), .methodLink RX12 85 yX12_in, .static yX12_in, .code yX12_in cX12_in 6 (some .boolean)] ++ wsX120)
def wsX12_stumbled : List Cond := .code yX12_stumbled cX12_stumbled 3 (some .int) :: ([.fieldLink RX12 80 "OverHillModel" "thrown" "I", .fieldLink RX12 34 "OverHillModel" "has" "[I", .constantLong RX12 83 (3), .fieldLink RX12 43 "OverHillModel" "stumble" "[I", .methodLink RX12 85 yX12_in, .static yX12_in, .initialized RX12, .code yX12_in cX12_in 6 (some .boolean)] ++ wsX120)
def wsX12_muddy : List Cond := .code yX12_muddy cX12_muddy 2 (some .int) :: ([.fieldLink RX12 80 "OverHillModel" "thrown" "I", .fieldLink RX12 46 "OverHillModel" "isMud" "[Z", .methodLink RX12 254 yX12_isDance, .instanceMethod yX12_isDance, .selects RX12 yX12_isDance yX12_isDance, .initialized RX12, .code yX12_isDance cX12_isDance 1 (some .boolean), .fieldLink RX12 31 "OverHillModel" "lines" "[I", .methodLink RX12 270 yX12_isBeat, .static yX12_isBeat, .code yX12_isBeat cX12_isBeat 2 (some .boolean), .constantLong RX12 257 (199), .methodLink RX12 85 yX12_in, .static yX12_in, .code yX12_in cX12_in 6 (some .boolean)] ++ wsX120)
def wsX12_dances : List Cond := .code yX12_dances cX12_dances 13 none :: ([.fieldLink RX12 34 "OverHillModel" "has" "[I", .fieldLink RX12 65 "OverHillModel" "places" "[I", .fieldLink RX12 68 "OverHillModel" "danced" "[I", .fieldLink RX12 46 "OverHillModel" "isMud" "[Z", .fieldLink RX12 37 "OverHillModel" "round" "[I", .fieldLink RX12 43 "OverHillModel" "stumble" "[I", .methodLink RX12 264 yX12_lengthOf, .instanceMethod yX12_lengthOf, .selects RX12 yX12_lengthOf yX12_lengthOf, .initialized RX12, .code yX12_lengthOf cX12_lengthOf 2 (some .int)] ++ wsX120)
def wsX12_laysBut : List Cond := .code yX12_laysBut cX12_laysBut 2 none :: ([.methodLink RX12 273 yX12_dances, .instanceMethod yX12_dances, .selects RX12 yX12_dances yX12_dances, .initialized RX12, .code yX12_dances cX12_dances 13 none, .fieldLink RX12 34 "OverHillModel" "has" "[I", .fieldLink RX12 65 "OverHillModel" "places" "[I", .fieldLink RX12 68 "OverHillModel" "danced" "[I", .fieldLink RX12 46 "OverHillModel" "isMud" "[Z", .fieldLink RX12 37 "OverHillModel" "round" "[I", .fieldLink RX12 43 "OverHillModel" "stumble" "[I", .methodLink RX12 264 yX12_lengthOf, .instanceMethod yX12_lengthOf, .selects RX12 yX12_lengthOf yX12_lengthOf, .code yX12_lengthOf cX12_lengthOf 2 (some .int)] ++ wsX120)
def wsX12_lays : List Cond := .code yX12_lays cX12_lays 1 none :: ([.methodLink RX12 277 yX12_laysBut, .instanceMethod yX12_laysBut, .selects RX12 yX12_laysBut yX12_laysBut, .initialized RX12, .code yX12_laysBut cX12_laysBut 2 none, .methodLink RX12 273 yX12_dances, .instanceMethod yX12_dances, .selects RX12 yX12_dances yX12_dances, .code yX12_dances cX12_dances 13 none, .fieldLink RX12 34 "OverHillModel" "has" "[I", .fieldLink RX12 65 "OverHillModel" "places" "[I", .fieldLink RX12 68 "OverHillModel" "danced" "[I", .fieldLink RX12 46 "OverHillModel" "isMud" "[Z", .fieldLink RX12 37 "OverHillModel" "round" "[I", .fieldLink RX12 43 "OverHillModel" "stumble" "[I", .methodLink RX12 264 yX12_lengthOf, .instanceMethod yX12_lengthOf, .selects RX12 yX12_lengthOf yX12_lengthOf, .code yX12_lengthOf cX12_lengthOf 2 (some .int)] ++ wsX120)
def wsX12_hearsAt : List Cond := .code yX12_hearsAt cX12_hearsAt 3 (some .int) :: ([.fieldLink RX12 34 "OverHillModel" "has" "[I", .fieldLink RX12 68 "OverHillModel" "danced" "[I"] ++ wsX120)
def wsX12_clashes : List Cond := .code yX12_clashes cX12_clashes 3 (some .boolean) :: ([.fieldLink RX12 40 "OverHillModel" "meets" "[I", .methodLink RX12 280 yX12_isBit, .static yX12_isBit, .initialized RX12, .code yX12_isBit cX12_isBit 2 (some .boolean)] ++ wsX120)
def wsX12_isHole : List Cond := .code yX12_isHole cX12_isHole 3 (some .boolean) :: ([.fieldLink RX12 68 "OverHillModel" "danced" "[I", .methodLink RX12 284 yX12_hearsAt, .instanceMethod yX12_hearsAt, .selects RX12 yX12_hearsAt yX12_hearsAt, .initialized RX12, .code yX12_hearsAt cX12_hearsAt 3 (some .int), .fieldLink RX12 34 "OverHillModel" "has" "[I", .methodLink RX12 287 yX12_clashes, .instanceMethod yX12_clashes, .selects RX12 yX12_clashes yX12_clashes, .code yX12_clashes cX12_clashes 3 (some .boolean), .fieldLink RX12 40 "OverHillModel" "meets" "[I", .methodLink RX12 280 yX12_isBit, .static yX12_isBit, .code yX12_isBit cX12_isBit 2 (some .boolean)] ++ wsX120)
def wsX12_place_r1 : List Cond := [Cond.fieldLink RX12 80 "OverHillModel" "thrown" "I", Cond.fieldLink RX12 65 "OverHillModel" "places" "[I", Cond.methodLink RX12 261 yX12_isSide, Cond.instanceMethod yX12_isSide, Cond.selects RX12 yX12_isSide yX12_isSide, Cond.initialized RX12, Cond.code yX12_isSide cX12_isSide 2 (some .boolean), Cond.methodLink RX12 254 yX12_isDance, Cond.instanceMethod yX12_isDance, Cond.selects RX12 yX12_isDance yX12_isDance, Cond.code yX12_isDance cX12_isDance 1 (some .boolean), Cond.fieldLink RX12 31 "OverHillModel" "lines" "[I", Cond.methodLink RX12 85 yX12_in, Cond.static yX12_in, Cond.code yX12_in cX12_in 6 (some .boolean), Cond.methodLink RX12 270 yX12_isBeat, Cond.static yX12_isBeat, Cond.code yX12_isBeat cX12_isBeat 2 (some .boolean), Cond.constantLong RX12 257 (199), Cond.methodLink RX12 290 yX12_lays, Cond.instanceMethod yX12_lays, Cond.selects RX12 yX12_lays yX12_lays, Cond.code yX12_lays cX12_lays 1 none, Cond.methodLink RX12 277 yX12_laysBut]
def wsX12_place_r2 : List Cond := [Cond.instanceMethod yX12_laysBut, Cond.selects RX12 yX12_laysBut yX12_laysBut, Cond.code yX12_laysBut cX12_laysBut 2 none, Cond.methodLink RX12 273 yX12_dances, Cond.instanceMethod yX12_dances, Cond.selects RX12 yX12_dances yX12_dances, Cond.code yX12_dances cX12_dances 13 none, Cond.fieldLink RX12 34 "OverHillModel" "has" "[I", Cond.fieldLink RX12 68 "OverHillModel" "danced" "[I", Cond.fieldLink RX12 46 "OverHillModel" "isMud" "[Z", Cond.fieldLink RX12 37 "OverHillModel" "round" "[I", Cond.fieldLink RX12 43 "OverHillModel" "stumble" "[I", Cond.methodLink RX12 264 yX12_lengthOf, Cond.instanceMethod yX12_lengthOf, Cond.selects RX12 yX12_lengthOf yX12_lengthOf, Cond.code yX12_lengthOf cX12_lengthOf 2 (some .int)]
def wsX12_place : List Cond := .code yX12_place cX12_place 3 (some .int) :: ((wsX12_place_r1 ++ wsX12_place_r2) ++ wsX120)
def wsX12_danced_r1 : List Cond := [Cond.fieldLink RX12 80 "OverHillModel" "thrown" "I", Cond.fieldLink RX12 68 "OverHillModel" "danced" "[I", Cond.methodLink RX12 261 yX12_isSide, Cond.instanceMethod yX12_isSide, Cond.selects RX12 yX12_isSide yX12_isSide, Cond.initialized RX12, Cond.code yX12_isSide cX12_isSide 2 (some .boolean), Cond.methodLink RX12 254 yX12_isDance, Cond.instanceMethod yX12_isDance, Cond.selects RX12 yX12_isDance yX12_isDance, Cond.code yX12_isDance cX12_isDance 1 (some .boolean), Cond.fieldLink RX12 31 "OverHillModel" "lines" "[I", Cond.methodLink RX12 85 yX12_in, Cond.static yX12_in, Cond.code yX12_in cX12_in 6 (some .boolean), Cond.methodLink RX12 270 yX12_isBeat, Cond.static yX12_isBeat, Cond.code yX12_isBeat cX12_isBeat 2 (some .boolean), Cond.constantLong RX12 257 (199), Cond.methodLink RX12 290 yX12_lays, Cond.instanceMethod yX12_lays, Cond.selects RX12 yX12_lays yX12_lays, Cond.code yX12_lays cX12_lays 1 none, Cond.methodLink RX12 277 yX12_laysBut]
def wsX12_danced_r2 : List Cond := [Cond.instanceMethod yX12_laysBut, Cond.selects RX12 yX12_laysBut yX12_laysBut, Cond.code yX12_laysBut cX12_laysBut 2 none, Cond.methodLink RX12 273 yX12_dances, Cond.instanceMethod yX12_dances, Cond.selects RX12 yX12_dances yX12_dances, Cond.code yX12_dances cX12_dances 13 none, Cond.fieldLink RX12 34 "OverHillModel" "has" "[I", Cond.fieldLink RX12 65 "OverHillModel" "places" "[I", Cond.fieldLink RX12 46 "OverHillModel" "isMud" "[Z", Cond.fieldLink RX12 37 "OverHillModel" "round" "[I", Cond.fieldLink RX12 43 "OverHillModel" "stumble" "[I", Cond.methodLink RX12 264 yX12_lengthOf, Cond.instanceMethod yX12_lengthOf, Cond.selects RX12 yX12_lengthOf yX12_lengthOf, Cond.code yX12_lengthOf cX12_lengthOf 2 (some .int)]
def wsX12_danced : List Cond := .code yX12_danced cX12_danced 3 (some .int) :: ((wsX12_danced_r1 ++ wsX12_danced_r2) ++ wsX120)
def wsX12_hears_r1 : List Cond := [Cond.fieldLink RX12 80 "OverHillModel" "thrown" "I", Cond.methodLink RX12 261 yX12_isSide, Cond.instanceMethod yX12_isSide, Cond.selects RX12 yX12_isSide yX12_isSide, Cond.initialized RX12, Cond.code yX12_isSide cX12_isSide 2 (some .boolean), Cond.methodLink RX12 254 yX12_isDance, Cond.instanceMethod yX12_isDance, Cond.selects RX12 yX12_isDance yX12_isDance, Cond.code yX12_isDance cX12_isDance 1 (some .boolean), Cond.fieldLink RX12 31 "OverHillModel" "lines" "[I", Cond.methodLink RX12 85 yX12_in, Cond.static yX12_in, Cond.code yX12_in cX12_in 6 (some .boolean), Cond.methodLink RX12 270 yX12_isBeat, Cond.static yX12_isBeat, Cond.code yX12_isBeat cX12_isBeat 2 (some .boolean), Cond.constantLong RX12 257 (199), Cond.methodLink RX12 290 yX12_lays, Cond.instanceMethod yX12_lays, Cond.selects RX12 yX12_lays yX12_lays, Cond.code yX12_lays cX12_lays 1 none, Cond.methodLink RX12 277 yX12_laysBut, Cond.instanceMethod yX12_laysBut]
def wsX12_hears_r2 : List Cond := [Cond.selects RX12 yX12_laysBut yX12_laysBut, Cond.code yX12_laysBut cX12_laysBut 2 none, Cond.methodLink RX12 273 yX12_dances, Cond.instanceMethod yX12_dances, Cond.selects RX12 yX12_dances yX12_dances, Cond.code yX12_dances cX12_dances 13 none, Cond.fieldLink RX12 34 "OverHillModel" "has" "[I", Cond.fieldLink RX12 65 "OverHillModel" "places" "[I", Cond.fieldLink RX12 68 "OverHillModel" "danced" "[I", Cond.fieldLink RX12 46 "OverHillModel" "isMud" "[Z", Cond.fieldLink RX12 37 "OverHillModel" "round" "[I", Cond.fieldLink RX12 43 "OverHillModel" "stumble" "[I", Cond.methodLink RX12 264 yX12_lengthOf, Cond.instanceMethod yX12_lengthOf, Cond.selects RX12 yX12_lengthOf yX12_lengthOf, Cond.code yX12_lengthOf cX12_lengthOf 2 (some .int), Cond.methodLink RX12 284 yX12_hearsAt, Cond.instanceMethod yX12_hearsAt, Cond.selects RX12 yX12_hearsAt yX12_hearsAt, Cond.code yX12_hearsAt cX12_hearsAt 3 (some .int)]
def wsX12_hears : List Cond := .code yX12_hears cX12_hears 3 (some .int) :: ((wsX12_hears_r1 ++ wsX12_hears_r2) ++ wsX120)
def wsX12_late_r1 : List Cond := [Cond.fieldLink RX12 80 "OverHillModel" "thrown" "I", Cond.fieldLink RX12 34 "OverHillModel" "has" "[I", Cond.fieldLink RX12 65 "OverHillModel" "places" "[I", Cond.methodLink RX12 261 yX12_isSide, Cond.instanceMethod yX12_isSide, Cond.selects RX12 yX12_isSide yX12_isSide, Cond.initialized RX12, Cond.code yX12_isSide cX12_isSide 2 (some .boolean), Cond.methodLink RX12 254 yX12_isDance, Cond.instanceMethod yX12_isDance, Cond.selects RX12 yX12_isDance yX12_isDance, Cond.code yX12_isDance cX12_isDance 1 (some .boolean), Cond.fieldLink RX12 31 "OverHillModel" "lines" "[I", Cond.methodLink RX12 85 yX12_in, Cond.static yX12_in, Cond.code yX12_in cX12_in 6 (some .boolean), Cond.methodLink RX12 270 yX12_isBeat, Cond.static yX12_isBeat, Cond.code yX12_isBeat cX12_isBeat 2 (some .boolean), Cond.constantLong RX12 257 (199), Cond.methodLink RX12 264 yX12_lengthOf, Cond.instanceMethod yX12_lengthOf, Cond.selects RX12 yX12_lengthOf yX12_lengthOf, Cond.code yX12_lengthOf cX12_lengthOf 2 (some .int)]
def wsX12_late_r2 : List Cond := [Cond.methodLink RX12 290 yX12_lays, Cond.instanceMethod yX12_lays, Cond.selects RX12 yX12_lays yX12_lays, Cond.code yX12_lays cX12_lays 1 none, Cond.methodLink RX12 277 yX12_laysBut, Cond.instanceMethod yX12_laysBut, Cond.selects RX12 yX12_laysBut yX12_laysBut, Cond.code yX12_laysBut cX12_laysBut 2 none, Cond.methodLink RX12 273 yX12_dances, Cond.instanceMethod yX12_dances, Cond.selects RX12 yX12_dances yX12_dances, Cond.code yX12_dances cX12_dances 13 none, Cond.fieldLink RX12 68 "OverHillModel" "danced" "[I", Cond.fieldLink RX12 46 "OverHillModel" "isMud" "[Z", Cond.fieldLink RX12 37 "OverHillModel" "round" "[I", Cond.fieldLink RX12 43 "OverHillModel" "stumble" "[I"]
def wsX12_late : List Cond := .code yX12_late cX12_late 4 (some .int) :: ((wsX12_late_r1 ++ wsX12_late_r2) ++ wsX120)
def wsX12_hole_r1 : List Cond := [Cond.fieldLink RX12 80 "OverHillModel" "thrown" "I", Cond.methodLink RX12 261 yX12_isSide, Cond.instanceMethod yX12_isSide, Cond.selects RX12 yX12_isSide yX12_isSide, Cond.initialized RX12, Cond.code yX12_isSide cX12_isSide 2 (some .boolean), Cond.methodLink RX12 254 yX12_isDance, Cond.instanceMethod yX12_isDance, Cond.selects RX12 yX12_isDance yX12_isDance, Cond.code yX12_isDance cX12_isDance 1 (some .boolean), Cond.fieldLink RX12 31 "OverHillModel" "lines" "[I", Cond.methodLink RX12 85 yX12_in, Cond.static yX12_in, Cond.code yX12_in cX12_in 6 (some .boolean), Cond.methodLink RX12 270 yX12_isBeat, Cond.static yX12_isBeat, Cond.code yX12_isBeat cX12_isBeat 2 (some .boolean), Cond.constantLong RX12 257 (199), Cond.methodLink RX12 290 yX12_lays, Cond.instanceMethod yX12_lays, Cond.selects RX12 yX12_lays yX12_lays, Cond.code yX12_lays cX12_lays 1 none, Cond.methodLink RX12 277 yX12_laysBut, Cond.instanceMethod yX12_laysBut]
def wsX12_hole_r2 : List Cond := [Cond.selects RX12 yX12_laysBut yX12_laysBut, Cond.code yX12_laysBut cX12_laysBut 2 none, Cond.methodLink RX12 273 yX12_dances, Cond.instanceMethod yX12_dances, Cond.selects RX12 yX12_dances yX12_dances, Cond.code yX12_dances cX12_dances 13 none, Cond.fieldLink RX12 34 "OverHillModel" "has" "[I", Cond.fieldLink RX12 65 "OverHillModel" "places" "[I", Cond.fieldLink RX12 68 "OverHillModel" "danced" "[I", Cond.fieldLink RX12 46 "OverHillModel" "isMud" "[Z", Cond.fieldLink RX12 37 "OverHillModel" "round" "[I", Cond.fieldLink RX12 43 "OverHillModel" "stumble" "[I", Cond.methodLink RX12 264 yX12_lengthOf, Cond.instanceMethod yX12_lengthOf, Cond.selects RX12 yX12_lengthOf yX12_lengthOf, Cond.code yX12_lengthOf cX12_lengthOf 2 (some .int), Cond.methodLink RX12 293 yX12_isHole, Cond.instanceMethod yX12_isHole, Cond.selects RX12 yX12_isHole yX12_isHole, Cond.code yX12_isHole cX12_isHole 3 (some .boolean), Cond.methodLink RX12 284 yX12_hearsAt, Cond.instanceMethod yX12_hearsAt, Cond.selects RX12 yX12_hearsAt yX12_hearsAt, Cond.code yX12_hearsAt cX12_hearsAt 3 (some .int)]
def wsX12_hole_r3 : List Cond := [Cond.methodLink RX12 287 yX12_clashes, Cond.instanceMethod yX12_clashes, Cond.selects RX12 yX12_clashes yX12_clashes, Cond.code yX12_clashes cX12_clashes 3 (some .boolean), Cond.fieldLink RX12 40 "OverHillModel" "meets" "[I", Cond.methodLink RX12 280 yX12_isBit, Cond.static yX12_isBit, Cond.code yX12_isBit cX12_isBit 2 (some .boolean)]
def wsX12_hole : List Cond := .code yX12_hole cX12_hole 3 (some .int) :: ((wsX12_hole_r1 ++ (wsX12_hole_r2 ++ wsX12_hole_r3)) ++ wsX120)
def wsX12_next__r1 : List Cond := [Cond.fieldLink RX12 80 "OverHillModel" "thrown" "I", Cond.methodLink RX12 261 yX12_isSide, Cond.instanceMethod yX12_isSide, Cond.selects RX12 yX12_isSide yX12_isSide, Cond.initialized RX12, Cond.code yX12_isSide cX12_isSide 2 (some .boolean), Cond.methodLink RX12 254 yX12_isDance, Cond.instanceMethod yX12_isDance, Cond.selects RX12 yX12_isDance yX12_isDance, Cond.code yX12_isDance cX12_isDance 1 (some .boolean), Cond.fieldLink RX12 31 "OverHillModel" "lines" "[I", Cond.methodLink RX12 85 yX12_in, Cond.static yX12_in, Cond.code yX12_in cX12_in 6 (some .boolean), Cond.methodLink RX12 270 yX12_isBeat, Cond.static yX12_isBeat, Cond.code yX12_isBeat cX12_isBeat 2 (some .boolean), Cond.constantLong RX12 257 (199), Cond.methodLink RX12 290 yX12_lays, Cond.instanceMethod yX12_lays, Cond.selects RX12 yX12_lays yX12_lays, Cond.code yX12_lays cX12_lays 1 none, Cond.methodLink RX12 277 yX12_laysBut, Cond.instanceMethod yX12_laysBut]
def wsX12_next__r2 : List Cond := [Cond.selects RX12 yX12_laysBut yX12_laysBut, Cond.code yX12_laysBut cX12_laysBut 2 none, Cond.methodLink RX12 273 yX12_dances, Cond.instanceMethod yX12_dances, Cond.selects RX12 yX12_dances yX12_dances, Cond.code yX12_dances cX12_dances 13 none, Cond.fieldLink RX12 34 "OverHillModel" "has" "[I", Cond.fieldLink RX12 65 "OverHillModel" "places" "[I", Cond.fieldLink RX12 68 "OverHillModel" "danced" "[I", Cond.fieldLink RX12 46 "OverHillModel" "isMud" "[Z", Cond.fieldLink RX12 37 "OverHillModel" "round" "[I", Cond.fieldLink RX12 43 "OverHillModel" "stumble" "[I", Cond.methodLink RX12 264 yX12_lengthOf, Cond.instanceMethod yX12_lengthOf, Cond.selects RX12 yX12_lengthOf yX12_lengthOf, Cond.code yX12_lengthOf cX12_lengthOf 2 (some .int), Cond.methodLink RX12 293 yX12_isHole, Cond.instanceMethod yX12_isHole, Cond.selects RX12 yX12_isHole yX12_isHole, Cond.code yX12_isHole cX12_isHole 3 (some .boolean), Cond.methodLink RX12 284 yX12_hearsAt, Cond.instanceMethod yX12_hearsAt, Cond.selects RX12 yX12_hearsAt yX12_hearsAt, Cond.code yX12_hearsAt cX12_hearsAt 3 (some .int)]
def wsX12_next__r3 : List Cond := [Cond.methodLink RX12 287 yX12_clashes, Cond.instanceMethod yX12_clashes, Cond.selects RX12 yX12_clashes yX12_clashes, Cond.code yX12_clashes cX12_clashes 3 (some .boolean), Cond.fieldLink RX12 40 "OverHillModel" "meets" "[I", Cond.methodLink RX12 280 yX12_isBit, Cond.static yX12_isBit, Cond.code yX12_isBit cX12_isBit 2 (some .boolean)]
def wsX12_next_ : List Cond := .code yX12_next_ cX12_next_ 4 (some .int) :: ((wsX12_next__r1 ++ (wsX12_next__r2 ++ wsX12_next__r3)) ++ wsX120)
def wsX12_holesOf : List Cond := .code yX12_holesOf cX12_holesOf 6 (some .int) :: ([.methodLink RX12 293 yX12_isHole, .instanceMethod yX12_isHole, .selects RX12 yX12_isHole yX12_isHole, .initialized RX12, .code yX12_isHole cX12_isHole 3 (some .boolean), .fieldLink RX12 68 "OverHillModel" "danced" "[I", .methodLink RX12 284 yX12_hearsAt, .instanceMethod yX12_hearsAt, .selects RX12 yX12_hearsAt yX12_hearsAt, .code yX12_hearsAt cX12_hearsAt 3 (some .int), .fieldLink RX12 34 "OverHillModel" "has" "[I", .methodLink RX12 287 yX12_clashes, .instanceMethod yX12_clashes, .selects RX12 yX12_clashes yX12_clashes, .code yX12_clashes cX12_clashes 3 (some .boolean), .fieldLink RX12 40 "OverHillModel" "meets" "[I", .methodLink RX12 280 yX12_isBit, .static yX12_isBit, .code yX12_isBit cX12_isBit 2 (some .boolean)] ++ wsX120)
def wsX12_isSpan : List Cond := .code yX12_isSpan cX12_isSpan 3 (some .boolean) :: ([.constantLong RX12 257 (199), .methodLink RX12 254 yX12_isDance, .instanceMethod yX12_isDance, .selects RX12 yX12_isDance yX12_isDance, .initialized RX12, .code yX12_isDance cX12_isDance 1 (some .boolean), .fieldLink RX12 31 "OverHillModel" "lines" "[I", .methodLink RX12 270 yX12_isBeat, .static yX12_isBeat, .code yX12_isBeat cX12_isBeat 2 (some .boolean), .methodLink RX12 85 yX12_in, .static yX12_in, .code yX12_in cX12_in 6 (some .boolean)] ++ wsX120)
def wsX12_holes_r1 : List Cond := [Cond.fieldLink RX12 80 "OverHillModel" "thrown" "I", Cond.methodLink RX12 261 yX12_isSide, Cond.instanceMethod yX12_isSide, Cond.selects RX12 yX12_isSide yX12_isSide, Cond.initialized RX12, Cond.code yX12_isSide cX12_isSide 2 (some .boolean), Cond.methodLink RX12 254 yX12_isDance, Cond.instanceMethod yX12_isDance, Cond.selects RX12 yX12_isDance yX12_isDance, Cond.code yX12_isDance cX12_isDance 1 (some .boolean), Cond.fieldLink RX12 31 "OverHillModel" "lines" "[I", Cond.methodLink RX12 85 yX12_in, Cond.static yX12_in, Cond.code yX12_in cX12_in 6 (some .boolean), Cond.methodLink RX12 296 yX12_isSpan, Cond.instanceMethod yX12_isSpan, Cond.selects RX12 yX12_isSpan yX12_isSpan, Cond.code yX12_isSpan cX12_isSpan 3 (some .boolean), Cond.constantLong RX12 257 (199), Cond.methodLink RX12 270 yX12_isBeat, Cond.static yX12_isBeat, Cond.code yX12_isBeat cX12_isBeat 2 (some .boolean), Cond.methodLink RX12 290 yX12_lays, Cond.instanceMethod yX12_lays]
def wsX12_holes_r2 : List Cond := [Cond.selects RX12 yX12_lays yX12_lays, Cond.code yX12_lays cX12_lays 1 none, Cond.methodLink RX12 277 yX12_laysBut, Cond.instanceMethod yX12_laysBut, Cond.selects RX12 yX12_laysBut yX12_laysBut, Cond.code yX12_laysBut cX12_laysBut 2 none, Cond.methodLink RX12 273 yX12_dances, Cond.instanceMethod yX12_dances, Cond.selects RX12 yX12_dances yX12_dances, Cond.code yX12_dances cX12_dances 13 none, Cond.fieldLink RX12 34 "OverHillModel" "has" "[I", Cond.fieldLink RX12 65 "OverHillModel" "places" "[I", Cond.fieldLink RX12 68 "OverHillModel" "danced" "[I", Cond.fieldLink RX12 46 "OverHillModel" "isMud" "[Z", Cond.fieldLink RX12 37 "OverHillModel" "round" "[I", Cond.fieldLink RX12 43 "OverHillModel" "stumble" "[I", Cond.methodLink RX12 264 yX12_lengthOf, Cond.instanceMethod yX12_lengthOf, Cond.selects RX12 yX12_lengthOf yX12_lengthOf, Cond.code yX12_lengthOf cX12_lengthOf 2 (some .int), Cond.methodLink RX12 299 yX12_holesOf, Cond.instanceMethod yX12_holesOf, Cond.selects RX12 yX12_holesOf yX12_holesOf, Cond.code yX12_holesOf cX12_holesOf 6 (some .int)]
def wsX12_holes_r3 : List Cond := [Cond.methodLink RX12 293 yX12_isHole, Cond.instanceMethod yX12_isHole, Cond.selects RX12 yX12_isHole yX12_isHole, Cond.code yX12_isHole cX12_isHole 3 (some .boolean), Cond.methodLink RX12 284 yX12_hearsAt, Cond.instanceMethod yX12_hearsAt, Cond.selects RX12 yX12_hearsAt yX12_hearsAt, Cond.code yX12_hearsAt cX12_hearsAt 3 (some .int), Cond.methodLink RX12 287 yX12_clashes, Cond.instanceMethod yX12_clashes, Cond.selects RX12 yX12_clashes yX12_clashes, Cond.code yX12_clashes cX12_clashes 3 (some .boolean), Cond.fieldLink RX12 40 "OverHillModel" "meets" "[I", Cond.methodLink RX12 280 yX12_isBit, Cond.static yX12_isBit, Cond.code yX12_isBit cX12_isBit 2 (some .boolean)]
def wsX12_holes : List Cond := .code yX12_holes cX12_holes 4 (some .int) :: ((wsX12_holes_r1 ++ (wsX12_holes_r2 ++ wsX12_holes_r3)) ++ wsX120)
def wsX12_laysRun_r1 : List Cond := [Cond.fieldLink RX12 303 "OverHillModel" "runMost" "I", Cond.fieldLink RX12 306 "OverHillModel" "runBegins" "I", Cond.methodLink RX12 290 yX12_lays, Cond.instanceMethod yX12_lays, Cond.selects RX12 yX12_lays yX12_lays, Cond.initialized RX12, Cond.code yX12_lays cX12_lays 1 none, Cond.methodLink RX12 277 yX12_laysBut, Cond.instanceMethod yX12_laysBut, Cond.selects RX12 yX12_laysBut yX12_laysBut, Cond.code yX12_laysBut cX12_laysBut 2 none, Cond.methodLink RX12 273 yX12_dances, Cond.instanceMethod yX12_dances, Cond.selects RX12 yX12_dances yX12_dances, Cond.code yX12_dances cX12_dances 13 none, Cond.fieldLink RX12 34 "OverHillModel" "has" "[I", Cond.fieldLink RX12 65 "OverHillModel" "places" "[I", Cond.fieldLink RX12 68 "OverHillModel" "danced" "[I", Cond.fieldLink RX12 46 "OverHillModel" "isMud" "[Z", Cond.fieldLink RX12 37 "OverHillModel" "round" "[I", Cond.fieldLink RX12 43 "OverHillModel" "stumble" "[I", Cond.methodLink RX12 264 yX12_lengthOf, Cond.instanceMethod yX12_lengthOf, Cond.selects RX12 yX12_lengthOf yX12_lengthOf]
def wsX12_laysRun_r2 : List Cond := [Cond.code yX12_lengthOf cX12_lengthOf 2 (some .int), Cond.methodLink RX12 293 yX12_isHole, Cond.instanceMethod yX12_isHole, Cond.selects RX12 yX12_isHole yX12_isHole, Cond.code yX12_isHole cX12_isHole 3 (some .boolean), Cond.methodLink RX12 284 yX12_hearsAt, Cond.instanceMethod yX12_hearsAt, Cond.selects RX12 yX12_hearsAt yX12_hearsAt, Cond.code yX12_hearsAt cX12_hearsAt 3 (some .int), Cond.methodLink RX12 287 yX12_clashes, Cond.instanceMethod yX12_clashes, Cond.selects RX12 yX12_clashes yX12_clashes, Cond.code yX12_clashes cX12_clashes 3 (some .boolean), Cond.fieldLink RX12 40 "OverHillModel" "meets" "[I", Cond.methodLink RX12 280 yX12_isBit, Cond.static yX12_isBit, Cond.code yX12_isBit cX12_isBit 2 (some .boolean)]
def wsX12_laysRun : List Cond := .code yX12_laysRun cX12_laysRun 5 none :: ((wsX12_laysRun_r1 ++ wsX12_laysRun_r2) ++ wsX120)
def wsX12_run_r1 : List Cond := [Cond.fieldLink RX12 80 "OverHillModel" "thrown" "I", Cond.fieldLink RX12 303 "OverHillModel" "runMost" "I", Cond.methodLink RX12 296 yX12_isSpan, Cond.instanceMethod yX12_isSpan, Cond.selects RX12 yX12_isSpan yX12_isSpan, Cond.initialized RX12, Cond.code yX12_isSpan cX12_isSpan 3 (some .boolean), Cond.constantLong RX12 257 (199), Cond.methodLink RX12 254 yX12_isDance, Cond.instanceMethod yX12_isDance, Cond.selects RX12 yX12_isDance yX12_isDance, Cond.code yX12_isDance cX12_isDance 1 (some .boolean), Cond.fieldLink RX12 31 "OverHillModel" "lines" "[I", Cond.methodLink RX12 270 yX12_isBeat, Cond.static yX12_isBeat, Cond.code yX12_isBeat cX12_isBeat 2 (some .boolean), Cond.methodLink RX12 85 yX12_in, Cond.static yX12_in, Cond.code yX12_in cX12_in 6 (some .boolean), Cond.methodLink RX12 309 yX12_laysRun, Cond.instanceMethod yX12_laysRun, Cond.selects RX12 yX12_laysRun yX12_laysRun, Cond.code yX12_laysRun cX12_laysRun 5 none, Cond.fieldLink RX12 306 "OverHillModel" "runBegins" "I"]
def wsX12_run_r2 : List Cond := [Cond.methodLink RX12 290 yX12_lays, Cond.instanceMethod yX12_lays, Cond.selects RX12 yX12_lays yX12_lays, Cond.code yX12_lays cX12_lays 1 none, Cond.methodLink RX12 277 yX12_laysBut, Cond.instanceMethod yX12_laysBut, Cond.selects RX12 yX12_laysBut yX12_laysBut, Cond.code yX12_laysBut cX12_laysBut 2 none, Cond.methodLink RX12 273 yX12_dances, Cond.instanceMethod yX12_dances, Cond.selects RX12 yX12_dances yX12_dances, Cond.code yX12_dances cX12_dances 13 none, Cond.fieldLink RX12 34 "OverHillModel" "has" "[I", Cond.fieldLink RX12 65 "OverHillModel" "places" "[I", Cond.fieldLink RX12 68 "OverHillModel" "danced" "[I", Cond.fieldLink RX12 46 "OverHillModel" "isMud" "[Z", Cond.fieldLink RX12 37 "OverHillModel" "round" "[I", Cond.fieldLink RX12 43 "OverHillModel" "stumble" "[I", Cond.methodLink RX12 264 yX12_lengthOf, Cond.instanceMethod yX12_lengthOf, Cond.selects RX12 yX12_lengthOf yX12_lengthOf, Cond.code yX12_lengthOf cX12_lengthOf 2 (some .int), Cond.methodLink RX12 293 yX12_isHole, Cond.instanceMethod yX12_isHole]
def wsX12_run_r3 : List Cond := [Cond.selects RX12 yX12_isHole yX12_isHole, Cond.code yX12_isHole cX12_isHole 3 (some .boolean), Cond.methodLink RX12 284 yX12_hearsAt, Cond.instanceMethod yX12_hearsAt, Cond.selects RX12 yX12_hearsAt yX12_hearsAt, Cond.code yX12_hearsAt cX12_hearsAt 3 (some .int), Cond.methodLink RX12 287 yX12_clashes, Cond.instanceMethod yX12_clashes, Cond.selects RX12 yX12_clashes yX12_clashes, Cond.code yX12_clashes cX12_clashes 3 (some .boolean), Cond.fieldLink RX12 40 "OverHillModel" "meets" "[I", Cond.methodLink RX12 280 yX12_isBit, Cond.static yX12_isBit, Cond.code yX12_isBit cX12_isBit 2 (some .boolean)]
def wsX12_run : List Cond := .code yX12_run cX12_run 3 (some .int) :: ((wsX12_run_r1 ++ (wsX12_run_r2 ++ wsX12_run_r3)) ++ wsX120)
def wsX12_begins__r1 : List Cond := [Cond.fieldLink RX12 80 "OverHillModel" "thrown" "I", Cond.fieldLink RX12 306 "OverHillModel" "runBegins" "I", Cond.methodLink RX12 296 yX12_isSpan, Cond.instanceMethod yX12_isSpan, Cond.selects RX12 yX12_isSpan yX12_isSpan, Cond.initialized RX12, Cond.code yX12_isSpan cX12_isSpan 3 (some .boolean), Cond.constantLong RX12 257 (199), Cond.methodLink RX12 254 yX12_isDance, Cond.instanceMethod yX12_isDance, Cond.selects RX12 yX12_isDance yX12_isDance, Cond.code yX12_isDance cX12_isDance 1 (some .boolean), Cond.fieldLink RX12 31 "OverHillModel" "lines" "[I", Cond.methodLink RX12 270 yX12_isBeat, Cond.static yX12_isBeat, Cond.code yX12_isBeat cX12_isBeat 2 (some .boolean), Cond.methodLink RX12 85 yX12_in, Cond.static yX12_in, Cond.code yX12_in cX12_in 6 (some .boolean), Cond.methodLink RX12 309 yX12_laysRun, Cond.instanceMethod yX12_laysRun, Cond.selects RX12 yX12_laysRun yX12_laysRun, Cond.code yX12_laysRun cX12_laysRun 5 none, Cond.fieldLink RX12 303 "OverHillModel" "runMost" "I"]
def wsX12_begins__r2 : List Cond := [Cond.methodLink RX12 290 yX12_lays, Cond.instanceMethod yX12_lays, Cond.selects RX12 yX12_lays yX12_lays, Cond.code yX12_lays cX12_lays 1 none, Cond.methodLink RX12 277 yX12_laysBut, Cond.instanceMethod yX12_laysBut, Cond.selects RX12 yX12_laysBut yX12_laysBut, Cond.code yX12_laysBut cX12_laysBut 2 none, Cond.methodLink RX12 273 yX12_dances, Cond.instanceMethod yX12_dances, Cond.selects RX12 yX12_dances yX12_dances, Cond.code yX12_dances cX12_dances 13 none, Cond.fieldLink RX12 34 "OverHillModel" "has" "[I", Cond.fieldLink RX12 65 "OverHillModel" "places" "[I", Cond.fieldLink RX12 68 "OverHillModel" "danced" "[I", Cond.fieldLink RX12 46 "OverHillModel" "isMud" "[Z", Cond.fieldLink RX12 37 "OverHillModel" "round" "[I", Cond.fieldLink RX12 43 "OverHillModel" "stumble" "[I", Cond.methodLink RX12 264 yX12_lengthOf, Cond.instanceMethod yX12_lengthOf, Cond.selects RX12 yX12_lengthOf yX12_lengthOf, Cond.code yX12_lengthOf cX12_lengthOf 2 (some .int), Cond.methodLink RX12 293 yX12_isHole, Cond.instanceMethod yX12_isHole]
def wsX12_begins__r3 : List Cond := [Cond.selects RX12 yX12_isHole yX12_isHole, Cond.code yX12_isHole cX12_isHole 3 (some .boolean), Cond.methodLink RX12 284 yX12_hearsAt, Cond.instanceMethod yX12_hearsAt, Cond.selects RX12 yX12_hearsAt yX12_hearsAt, Cond.code yX12_hearsAt cX12_hearsAt 3 (some .int), Cond.methodLink RX12 287 yX12_clashes, Cond.instanceMethod yX12_clashes, Cond.selects RX12 yX12_clashes yX12_clashes, Cond.code yX12_clashes cX12_clashes 3 (some .boolean), Cond.fieldLink RX12 40 "OverHillModel" "meets" "[I", Cond.methodLink RX12 280 yX12_isBit, Cond.static yX12_isBit, Cond.code yX12_isBit cX12_isBit 2 (some .boolean)]
def wsX12_begins_ : List Cond := .code yX12_begins_ cX12_begins_ 3 (some .int) :: ((wsX12_begins__r1 ++ (wsX12_begins__r2 ++ wsX12_begins__r3)) ++ wsX120)
def wsX12_allHoles : List Cond := .code yX12_allHoles cX12_allHoles 1 (some .int) :: ([.methodLink RX12 299 yX12_holesOf, .instanceMethod yX12_holesOf, .selects RX12 yX12_holesOf yX12_holesOf, .initialized RX12, .code yX12_holesOf cX12_holesOf 6 (some .int), .methodLink RX12 293 yX12_isHole, .instanceMethod yX12_isHole, .selects RX12 yX12_isHole yX12_isHole, .code yX12_isHole cX12_isHole 3 (some .boolean), .fieldLink RX12 68 "OverHillModel" "danced" "[I", .methodLink RX12 284 yX12_hearsAt, .instanceMethod yX12_hearsAt, .selects RX12 yX12_hearsAt yX12_hearsAt, .code yX12_hearsAt cX12_hearsAt 3 (some .int), .fieldLink RX12 34 "OverHillModel" "has" "[I", .methodLink RX12 287 yX12_clashes, .instanceMethod yX12_clashes, .selects RX12 yX12_clashes yX12_clashes, .code yX12_clashes cX12_clashes 3 (some .boolean), .fieldLink RX12 40 "OverHillModel" "meets" "[I", .methodLink RX12 280 yX12_isBit, .static yX12_isBit, .code yX12_isBit cX12_isBit 2 (some .boolean)] ++ wsX120)
def wsX12_undoes_r1 : List Cond := [Cond.fieldLink RX12 80 "OverHillModel" "thrown" "I", Cond.fieldLink RX12 34 "OverHillModel" "has" "[I", Cond.methodLink RX12 85 yX12_in, Cond.static yX12_in, Cond.initialized RX12, Cond.code yX12_in cX12_in 6 (some .boolean), Cond.methodLink RX12 290 yX12_lays, Cond.instanceMethod yX12_lays, Cond.selects RX12 yX12_lays yX12_lays, Cond.code yX12_lays cX12_lays 1 none, Cond.methodLink RX12 277 yX12_laysBut, Cond.instanceMethod yX12_laysBut, Cond.selects RX12 yX12_laysBut yX12_laysBut, Cond.code yX12_laysBut cX12_laysBut 2 none, Cond.methodLink RX12 273 yX12_dances, Cond.instanceMethod yX12_dances, Cond.selects RX12 yX12_dances yX12_dances, Cond.code yX12_dances cX12_dances 13 none, Cond.fieldLink RX12 65 "OverHillModel" "places" "[I", Cond.fieldLink RX12 68 "OverHillModel" "danced" "[I", Cond.fieldLink RX12 46 "OverHillModel" "isMud" "[Z", Cond.fieldLink RX12 37 "OverHillModel" "round" "[I", Cond.fieldLink RX12 43 "OverHillModel" "stumble" "[I", Cond.methodLink RX12 264 yX12_lengthOf]
def wsX12_undoes_r2 : List Cond := [Cond.instanceMethod yX12_lengthOf, Cond.selects RX12 yX12_lengthOf yX12_lengthOf, Cond.code yX12_lengthOf cX12_lengthOf 2 (some .int), Cond.methodLink RX12 312 yX12_allHoles, Cond.instanceMethod yX12_allHoles, Cond.selects RX12 yX12_allHoles yX12_allHoles, Cond.code yX12_allHoles cX12_allHoles 1 (some .int), Cond.methodLink RX12 299 yX12_holesOf, Cond.instanceMethod yX12_holesOf, Cond.selects RX12 yX12_holesOf yX12_holesOf, Cond.code yX12_holesOf cX12_holesOf 6 (some .int), Cond.methodLink RX12 293 yX12_isHole, Cond.instanceMethod yX12_isHole, Cond.selects RX12 yX12_isHole yX12_isHole, Cond.code yX12_isHole cX12_isHole 3 (some .boolean), Cond.methodLink RX12 284 yX12_hearsAt, Cond.instanceMethod yX12_hearsAt, Cond.selects RX12 yX12_hearsAt yX12_hearsAt, Cond.code yX12_hearsAt cX12_hearsAt 3 (some .int), Cond.methodLink RX12 287 yX12_clashes, Cond.instanceMethod yX12_clashes, Cond.selects RX12 yX12_clashes yX12_clashes, Cond.code yX12_clashes cX12_clashes 3 (some .boolean), Cond.fieldLink RX12 40 "OverHillModel" "meets" "[I"]
def wsX12_undoes_r3 : List Cond := [Cond.methodLink RX12 280 yX12_isBit, Cond.static yX12_isBit, Cond.code yX12_isBit cX12_isBit 2 (some .boolean)]
def wsX12_undoes : List Cond := .code yX12_undoes cX12_undoes 3 (some .int) :: ((wsX12_undoes_r1 ++ (wsX12_undoes_r2 ++ wsX12_undoes_r3)) ++ wsX120)
def wsX12_causes_r1 : List Cond := [Cond.fieldLink RX12 80 "OverHillModel" "thrown" "I", Cond.fieldLink RX12 34 "OverHillModel" "has" "[I", Cond.methodLink RX12 261 yX12_isSide, Cond.instanceMethod yX12_isSide, Cond.selects RX12 yX12_isSide yX12_isSide, Cond.initialized RX12, Cond.code yX12_isSide cX12_isSide 2 (some .boolean), Cond.methodLink RX12 254 yX12_isDance, Cond.instanceMethod yX12_isDance, Cond.selects RX12 yX12_isDance yX12_isDance, Cond.code yX12_isDance cX12_isDance 1 (some .boolean), Cond.fieldLink RX12 31 "OverHillModel" "lines" "[I", Cond.methodLink RX12 85 yX12_in, Cond.static yX12_in, Cond.code yX12_in cX12_in 6 (some .boolean), Cond.methodLink RX12 270 yX12_isBeat, Cond.static yX12_isBeat, Cond.code yX12_isBeat cX12_isBeat 2 (some .boolean), Cond.constantLong RX12 257 (199), Cond.methodLink RX12 290 yX12_lays, Cond.instanceMethod yX12_lays, Cond.selects RX12 yX12_lays yX12_lays, Cond.code yX12_lays cX12_lays 1 none, Cond.methodLink RX12 277 yX12_laysBut]
def wsX12_causes_r2 : List Cond := [Cond.instanceMethod yX12_laysBut, Cond.selects RX12 yX12_laysBut yX12_laysBut, Cond.code yX12_laysBut cX12_laysBut 2 none, Cond.methodLink RX12 273 yX12_dances, Cond.instanceMethod yX12_dances, Cond.selects RX12 yX12_dances yX12_dances, Cond.code yX12_dances cX12_dances 13 none, Cond.fieldLink RX12 65 "OverHillModel" "places" "[I", Cond.fieldLink RX12 68 "OverHillModel" "danced" "[I", Cond.fieldLink RX12 46 "OverHillModel" "isMud" "[Z", Cond.fieldLink RX12 37 "OverHillModel" "round" "[I", Cond.fieldLink RX12 43 "OverHillModel" "stumble" "[I", Cond.methodLink RX12 264 yX12_lengthOf, Cond.instanceMethod yX12_lengthOf, Cond.selects RX12 yX12_lengthOf yX12_lengthOf, Cond.code yX12_lengthOf cX12_lengthOf 2 (some .int), Cond.methodLink RX12 293 yX12_isHole, Cond.instanceMethod yX12_isHole, Cond.selects RX12 yX12_isHole yX12_isHole, Cond.code yX12_isHole cX12_isHole 3 (some .boolean), Cond.methodLink RX12 284 yX12_hearsAt, Cond.instanceMethod yX12_hearsAt, Cond.selects RX12 yX12_hearsAt yX12_hearsAt, Cond.code yX12_hearsAt cX12_hearsAt 3 (some .int)]
def wsX12_causes_r3 : List Cond := [Cond.methodLink RX12 287 yX12_clashes, Cond.instanceMethod yX12_clashes, Cond.selects RX12 yX12_clashes yX12_clashes, Cond.code yX12_clashes cX12_clashes 3 (some .boolean), Cond.fieldLink RX12 40 "OverHillModel" "meets" "[I", Cond.methodLink RX12 280 yX12_isBit, Cond.static yX12_isBit, Cond.code yX12_isBit cX12_isBit 2 (some .boolean)]
def wsX12_causes : List Cond := .code yX12_causes cX12_causes 5 (some .int) :: ((wsX12_causes_r1 ++ (wsX12_causes_r2 ++ wsX12_causes_r3)) ++ wsX120)
theorem dX12_isDance_0 : decode cX12_isDance 0 = .ok (.aload_n 0, 1) := by decide +kernel
theorem dX12_isDance_1 : decode cX12_isDance 1 = .ok (.getfield 31, 3) := by decide +kernel
theorem dX12_isDance_4 : decode cX12_isDance 4 = .ok (.iconst 0, 1) := by decide +kernel
theorem dX12_isDance_5 : decode cX12_isDance 5 = .ok (.iaload, 1) := by decide +kernel
theorem dX12_isDance_6 : decode cX12_isDance 6 = .ok (.ifCond .le 7, 3) := by decide +kernel
theorem dX12_isDance_9 : decode cX12_isDance 9 = .ok (.iconst 1, 1) := by decide +kernel
theorem dX12_isDance_10 : decode cX12_isDance 10 = .ok (.goto 4, 3) := by decide +kernel
theorem dX12_isDance_13 : decode cX12_isDance 13 = .ok (.iconst 0, 1) := by decide +kernel
theorem dX12_isDance_14 : decode cX12_isDance 14 = .ok (.ireturn, 1) := by decide +kernel
theorem wrr_wsX12_isSide {i : Nat} {w : Cond} (h : wsX12_isSide[i]? = some w) : w ∈ wsX12_isSide := List.mem_of_getElem? h
theorem wru_wsX12_isSide_wsX120 : ∀ w ∈ wsX120, w ∈ wsX12_isSide := fun w h => (List.mem_cons_of_mem _ (List.mem_append_right _ h))
set_option maxRecDepth 20000 in
theorem gw_wsX12_isDance : wsX12_isDance.all goodWord = true := by decide +kernel
set_option maxRecDepth 20000 in
theorem ggX12_isSide_X12_isDance : GoodIn wsX12_isSide wsX12_isDance := goodIn_sub (List.forall_mem_cons.mpr ⟨wrr_wsX12_isSide (i := 5) rfl, (List.forall_mem_append.mpr ⟨(List.forall_mem_cons.mpr ⟨wrr_wsX12_isSide (i := 6) rfl, (fun _ h => absurd h List.not_mem_nil)⟩), wru_wsX12_isSide_wsX120⟩)⟩) gw_wsX12_isDance
set_option maxRecDepth 20000 in
theorem gX12_isSide_X12_isDance : GoodIn wsX12_isSide (wsV RX12 254 RX12 yX12_isDance wsX12_isDance) := goodIn_app (goodIn_sub (List.forall_mem_cons.mpr ⟨wrr_wsX12_isSide (i := 1) rfl, (List.forall_mem_cons.mpr ⟨wrr_wsX12_isSide (i := 2) rfl, (List.forall_mem_cons.mpr ⟨wrr_wsX12_isSide (i := 3) rfl, (List.forall_mem_cons.mpr ⟨wrr_wsX12_isSide (i := 4) rfl, (fun _ h => absurd h List.not_mem_nil)⟩)⟩)⟩)⟩) (by decide +kernel)) ggX12_isSide_X12_isDance
set_option maxRecDepth 20000 in
theorem ggX12_isSide_X12_in : GoodIn wsX12_isSide wsX12_in := goodIn_sub (List.forall_mem_cons.mpr ⟨wrr_wsX12_isSide (i := 9) rfl, (fun _ h => absurd h List.not_mem_nil)⟩) gw_wsX12_in
set_option maxRecDepth 20000 in
theorem gX12_isSide_X12_in : GoodIn wsX12_isSide (va_wsS RX12 85 yX12_in wsX12_in) := goodIn_app (goodIn_sub (List.forall_mem_cons.mpr ⟨wrr_wsX12_isSide (i := 7) rfl, (List.forall_mem_cons.mpr ⟨wrr_wsX12_isSide (i := 8) rfl, (List.forall_mem_cons.mpr ⟨wrr_wsX12_isSide (i := 4) rfl, (fun _ h => absurd h List.not_mem_nil)⟩)⟩)⟩) (by decide +kernel)) ggX12_isSide_X12_in
theorem dX12_isSide_0 : decode cX12_isSide 0 = .ok (.aload_n 0, 1) := by decide +kernel
theorem dX12_isSide_1 : decode cX12_isSide 1 = .ok (.invokevirtual 254, 3) := by decide +kernel
theorem dX12_isSide_4 : decode cX12_isSide 4 = .ok (.ifCond .eq 17, 3) := by decide +kernel
theorem dX12_isSide_7 : decode cX12_isSide 7 = .ok (.iload_n 1, 1) := by decide +kernel
theorem dX12_isSide_8 : decode cX12_isSide 8 = .ok (.i2l, 1) := by decide +kernel
theorem dX12_isSide_9 : decode cX12_isSide 9 = .ok (.lconst 0, 1) := by decide +kernel
theorem dX12_isSide_10 : decode cX12_isSide 10 = .ok (.lconst 1, 1) := by decide +kernel
theorem dX12_isSide_11 : decode cX12_isSide 11 = .ok (.invokestatic 85, 3) := by decide +kernel
theorem dX12_isSide_14 : decode cX12_isSide 14 = .ok (.ifCond .eq 7, 3) := by decide +kernel
theorem dX12_isSide_17 : decode cX12_isSide 17 = .ok (.iconst 1, 1) := by decide +kernel
theorem dX12_isSide_18 : decode cX12_isSide 18 = .ok (.goto 4, 3) := by decide +kernel
theorem dX12_isSide_21 : decode cX12_isSide 21 = .ok (.iconst 0, 1) := by decide +kernel
theorem dX12_isSide_22 : decode cX12_isSide 22 = .ok (.ireturn, 1) := by decide +kernel
theorem dX12_areRounds_0 : decode cX12_areRounds 0 = .ok (.aload_n 0, 1) := by decide +kernel
theorem dX12_areRounds_1 : decode cX12_areRounds 1 = .ok (.getfield 34, 3) := by decide +kernel
theorem dX12_areRounds_4 : decode cX12_areRounds 4 = .ok (.iconst 3, 1) := by decide +kernel
theorem dX12_areRounds_5 : decode cX12_areRounds 5 = .ok (.iaload, 1) := by decide +kernel
theorem dX12_areRounds_6 : decode cX12_areRounds 6 = .ok (.ifCond .le 16, 3) := by decide +kernel
theorem dX12_areRounds_9 : decode cX12_areRounds 9 = .ok (.aload_n 0, 1) := by decide +kernel
theorem dX12_areRounds_10 : decode cX12_areRounds 10 = .ok (.getfield 34, 3) := by decide +kernel
theorem dX12_areRounds_13 : decode cX12_areRounds 13 = .ok (.iconst 4, 1) := by decide +kernel
theorem dX12_areRounds_14 : decode cX12_areRounds 14 = .ok (.iaload, 1) := by decide +kernel
theorem dX12_areRounds_15 : decode cX12_areRounds 15 = .ok (.ifCond .le 7, 3) := by decide +kernel
theorem dX12_areRounds_18 : decode cX12_areRounds 18 = .ok (.iconst 1, 1) := by decide +kernel
theorem dX12_areRounds_19 : decode cX12_areRounds 19 = .ok (.goto 4, 3) := by decide +kernel
theorem dX12_areRounds_22 : decode cX12_areRounds 22 = .ok (.iconst 0, 1) := by decide +kernel
theorem dX12_areRounds_23 : decode cX12_areRounds 23 = .ok (.ireturn, 1) := by decide +kernel
theorem dX12_lengthOf_0 : decode cX12_lengthOf 0 = .ok (.aload_n 0, 1) := by decide +kernel
theorem dX12_lengthOf_1 : decode cX12_lengthOf 1 = .ok (.getfield 34, 3) := by decide +kernel
theorem dX12_lengthOf_4 : decode cX12_lengthOf 4 = .ok (.iconst 3, 1) := by decide +kernel
theorem dX12_lengthOf_5 : decode cX12_lengthOf 5 = .ok (.iload_n 1, 1) := by decide +kernel
theorem dX12_lengthOf_6 : decode cX12_lengthOf 6 = .ok (.iadd, 1) := by decide +kernel
theorem dX12_lengthOf_7 : decode cX12_lengthOf 7 = .ok (.iaload, 1) := by decide +kernel
theorem dX12_lengthOf_8 : decode cX12_lengthOf 8 = .ok (.ireturn, 1) := by decide +kernel
theorem wrr_wsX12_step {i : Nat} {w : Cond} (h : wsX12_step[i]? = some w) : w ∈ wsX12_step := List.mem_of_getElem? h
theorem wru_wsX12_step_wsX120 : ∀ w ∈ wsX120, w ∈ wsX12_step := fun w h => (List.mem_cons_of_mem _ (List.mem_append_right _ h))
set_option maxRecDepth 20000 in
theorem gw_wsX12_isSide : wsX12_isSide.all goodWord = true := by decide +kernel
set_option maxRecDepth 20000 in
theorem ggX12_step_X12_isSide : GoodIn wsX12_step wsX12_isSide := goodIn_sub (List.forall_mem_cons.mpr ⟨wrr_wsX12_step (i := 7) rfl, (List.forall_mem_append.mpr ⟨(List.forall_mem_cons.mpr ⟨wrr_wsX12_step (i := 8) rfl, (List.forall_mem_cons.mpr ⟨wrr_wsX12_step (i := 9) rfl, (List.forall_mem_cons.mpr ⟨wrr_wsX12_step (i := 10) rfl, (List.forall_mem_cons.mpr ⟨wrr_wsX12_step (i := 6) rfl, (List.forall_mem_cons.mpr ⟨wrr_wsX12_step (i := 11) rfl, (List.forall_mem_cons.mpr ⟨wrr_wsX12_step (i := 12) rfl, (List.forall_mem_cons.mpr ⟨wrr_wsX12_step (i := 13) rfl, (List.forall_mem_cons.mpr ⟨wrr_wsX12_step (i := 14) rfl, (List.forall_mem_cons.mpr ⟨wrr_wsX12_step (i := 15) rfl, (fun _ h => absurd h List.not_mem_nil)⟩)⟩)⟩)⟩)⟩)⟩)⟩)⟩)⟩), wru_wsX12_step_wsX120⟩)⟩) gw_wsX12_isSide
set_option maxRecDepth 20000 in
theorem gX12_step_X12_isSide : GoodIn wsX12_step (wsV RX12 261 RX12 yX12_isSide wsX12_isSide) := goodIn_app (goodIn_sub (List.forall_mem_cons.mpr ⟨wrr_wsX12_step (i := 3) rfl, (List.forall_mem_cons.mpr ⟨wrr_wsX12_step (i := 4) rfl, (List.forall_mem_cons.mpr ⟨wrr_wsX12_step (i := 5) rfl, (List.forall_mem_cons.mpr ⟨wrr_wsX12_step (i := 6) rfl, (fun _ h => absurd h List.not_mem_nil)⟩)⟩)⟩)⟩) (by decide +kernel)) ggX12_step_X12_isSide
set_option maxRecDepth 20000 in
theorem gw_wsX12_lengthOf : wsX12_lengthOf.all goodWord = true := by decide +kernel
set_option maxRecDepth 20000 in
theorem ggX12_step_X12_lengthOf : GoodIn wsX12_step wsX12_lengthOf := goodIn_sub (List.forall_mem_cons.mpr ⟨wrr_wsX12_step (i := 19) rfl, (List.forall_mem_append.mpr ⟨(List.forall_mem_cons.mpr ⟨wrr_wsX12_step (i := 20) rfl, (fun _ h => absurd h List.not_mem_nil)⟩), wru_wsX12_step_wsX120⟩)⟩) gw_wsX12_lengthOf
set_option maxRecDepth 20000 in
theorem gX12_step_X12_lengthOf : GoodIn wsX12_step (wsV RX12 264 RX12 yX12_lengthOf wsX12_lengthOf) := goodIn_app (goodIn_sub (List.forall_mem_cons.mpr ⟨wrr_wsX12_step (i := 16) rfl, (List.forall_mem_cons.mpr ⟨wrr_wsX12_step (i := 17) rfl, (List.forall_mem_cons.mpr ⟨wrr_wsX12_step (i := 18) rfl, (List.forall_mem_cons.mpr ⟨wrr_wsX12_step (i := 6) rfl, (fun _ h => absurd h List.not_mem_nil)⟩)⟩)⟩)⟩) (by decide +kernel)) ggX12_step_X12_lengthOf
set_option maxRecDepth 20000 in
theorem ggX12_step_X12_in : GoodIn wsX12_step wsX12_in := goodIn_sub (List.forall_mem_cons.mpr ⟨wrr_wsX12_step (i := 15) rfl, (fun _ h => absurd h List.not_mem_nil)⟩) gw_wsX12_in
set_option maxRecDepth 20000 in
theorem gX12_step_X12_in : GoodIn wsX12_step (va_wsS RX12 85 yX12_in wsX12_in) := goodIn_app (goodIn_sub (List.forall_mem_cons.mpr ⟨wrr_wsX12_step (i := 13) rfl, (List.forall_mem_cons.mpr ⟨wrr_wsX12_step (i := 14) rfl, (List.forall_mem_cons.mpr ⟨wrr_wsX12_step (i := 6) rfl, (fun _ h => absurd h List.not_mem_nil)⟩)⟩)⟩) (by decide +kernel)) ggX12_step_X12_in
theorem dX12_step_0 : decode cX12_step 0 = .ok (.aload_n 0, 1) := by decide +kernel
theorem dX12_step_1 : decode cX12_step 1 = .ok (.iconst 0, 1) := by decide +kernel
theorem dX12_step_2 : decode cX12_step 2 = .ok (.putfield 80, 3) := by decide +kernel
theorem dX12_step_5 : decode cX12_step 5 = .ok (.aload_n 0, 1) := by decide +kernel
theorem dX12_step_6 : decode cX12_step 6 = .ok (.iload_n 1, 1) := by decide +kernel
theorem dX12_step_7 : decode cX12_step 7 = .ok (.invokevirtual 261, 3) := by decide +kernel
theorem dX12_step_10 : decode cX12_step 10 = .ok (.ifCond .ne 8, 3) := by decide +kernel
theorem dX12_step_13 : decode cX12_step 13 = .ok (.bipush (-2), 2) := by decide +kernel
theorem dX12_step_15 : decode cX12_step 15 = .ok (.goto 35, 3) := by decide +kernel
theorem dX12_step_18 : decode cX12_step 18 = .ok (.iload_n 2, 1) := by decide +kernel
theorem dX12_step_19 : decode cX12_step 19 = .ok (.i2l, 1) := by decide +kernel
theorem dX12_step_20 : decode cX12_step 20 = .ok (.lconst 0, 1) := by decide +kernel
theorem dX12_step_21 : decode cX12_step 21 = .ok (.aload_n 0, 1) := by decide +kernel
theorem dX12_step_22 : decode cX12_step 22 = .ok (.iload_n 1, 1) := by decide +kernel
theorem dX12_step_23 : decode cX12_step 23 = .ok (.invokevirtual 264, 3) := by decide +kernel
theorem dX12_step_26 : decode cX12_step 26 = .ok (.iconst 1, 1) := by decide +kernel
theorem dX12_step_27 : decode cX12_step 27 = .ok (.isub, 1) := by decide +kernel
theorem dX12_step_28 : decode cX12_step 28 = .ok (.i2l, 1) := by decide +kernel
theorem dX12_step_29 : decode cX12_step 29 = .ok (.invokestatic 85, 3) := by decide +kernel
theorem dX12_step_32 : decode cX12_step 32 = .ok (.ifCond .eq 17, 3) := by decide +kernel
theorem dX12_step_35 : decode cX12_step 35 = .ok (.aload_n 0, 1) := by decide +kernel
theorem dX12_step_36 : decode cX12_step 36 = .ok (.getfield 37, 3) := by decide +kernel
theorem dX12_step_39 : decode cX12_step 39 = .ok (.bipush 12, 2) := by decide +kernel
theorem dX12_step_41 : decode cX12_step 41 = .ok (.iload_n 1, 1) := by decide +kernel
theorem dX12_step_42 : decode cX12_step 42 = .ok (.imul, 1) := by decide +kernel
theorem dX12_step_43 : decode cX12_step 43 = .ok (.iload_n 2, 1) := by decide +kernel
theorem dX12_step_44 : decode cX12_step 44 = .ok (.iadd, 1) := by decide +kernel
theorem dX12_step_45 : decode cX12_step 45 = .ok (.iaload, 1) := by decide +kernel
theorem dX12_step_46 : decode cX12_step 46 = .ok (.goto 4, 3) := by decide +kernel
theorem dX12_step_49 : decode cX12_step 49 = .ok (.iconst (-1), 1) := by decide +kernel
theorem dX12_step_50 : decode cX12_step 50 = .ok (.ireturn, 1) := by decide +kernel
theorem wrr_wsX12_answers {i : Nat} {w : Cond} (h : wsX12_answers[i]? = some w) : w ∈ wsX12_answers := List.mem_of_getElem? h
theorem wru_wsX12_answers_wsX120 : ∀ w ∈ wsX120, w ∈ wsX12_answers := fun w h => (List.mem_cons_of_mem _ (List.mem_append_right _ h))
set_option maxRecDepth 20000 in
theorem ggX12_answers_X12_isDance : GoodIn wsX12_answers wsX12_isDance := goodIn_sub (List.forall_mem_cons.mpr ⟨wrr_wsX12_answers (i := 7) rfl, (List.forall_mem_append.mpr ⟨(List.forall_mem_cons.mpr ⟨wrr_wsX12_answers (i := 8) rfl, (fun _ h => absurd h List.not_mem_nil)⟩), wru_wsX12_answers_wsX120⟩)⟩) gw_wsX12_isDance
set_option maxRecDepth 20000 in
theorem gX12_answers_X12_isDance : GoodIn wsX12_answers (wsV RX12 254 RX12 yX12_isDance wsX12_isDance) := goodIn_app (goodIn_sub (List.forall_mem_cons.mpr ⟨wrr_wsX12_answers (i := 3) rfl, (List.forall_mem_cons.mpr ⟨wrr_wsX12_answers (i := 4) rfl, (List.forall_mem_cons.mpr ⟨wrr_wsX12_answers (i := 5) rfl, (List.forall_mem_cons.mpr ⟨wrr_wsX12_answers (i := 6) rfl, (fun _ h => absurd h List.not_mem_nil)⟩)⟩)⟩)⟩) (by decide +kernel)) ggX12_answers_X12_isDance
set_option maxRecDepth 20000 in
theorem gw_wsX12_isStep : wsX12_isStep.all goodWord = true := by decide +kernel
set_option maxRecDepth 20000 in
theorem ggX12_answers_X12_isStep : GoodIn wsX12_answers wsX12_isStep := goodIn_sub (List.forall_mem_cons.mpr ⟨wrr_wsX12_answers (i := 11) rfl, (List.forall_mem_cons.mpr ⟨wrr_wsX12_answers (i := 12) rfl, (List.forall_mem_cons.mpr ⟨wrr_wsX12_answers (i := 13) rfl, (List.forall_mem_cons.mpr ⟨wrr_wsX12_answers (i := 14) rfl, (List.forall_mem_cons.mpr ⟨wrr_wsX12_answers (i := 6) rfl, (List.forall_mem_cons.mpr ⟨wrr_wsX12_answers (i := 15) rfl, (fun _ h => absurd h List.not_mem_nil)⟩)⟩)⟩)⟩)⟩)⟩) gw_wsX12_isStep
set_option maxRecDepth 20000 in
theorem gX12_answers_X12_isStep : GoodIn wsX12_answers (va_wsS RX12 267 yX12_isStep wsX12_isStep) := goodIn_app (goodIn_sub (List.forall_mem_cons.mpr ⟨wrr_wsX12_answers (i := 9) rfl, (List.forall_mem_cons.mpr ⟨wrr_wsX12_answers (i := 10) rfl, (List.forall_mem_cons.mpr ⟨wrr_wsX12_answers (i := 6) rfl, (fun _ h => absurd h List.not_mem_nil)⟩)⟩)⟩) (by decide +kernel)) ggX12_answers_X12_isStep
theorem dX12_answers_0 : decode cX12_answers 0 = .ok (.aload_n 0, 1) := by decide +kernel
theorem dX12_answers_1 : decode cX12_answers 1 = .ok (.iconst 0, 1) := by decide +kernel
theorem dX12_answers_2 : decode cX12_answers 2 = .ok (.putfield 80, 3) := by decide +kernel
theorem dX12_answers_5 : decode cX12_answers 5 = .ok (.aload_n 0, 1) := by decide +kernel
theorem dX12_answers_6 : decode cX12_answers 6 = .ok (.invokevirtual 254, 3) := by decide +kernel
theorem dX12_answers_9 : decode cX12_answers 9 = .ok (.ifCond .eq 20, 3) := by decide +kernel
theorem dX12_answers_12 : decode cX12_answers 12 = .ok (.iload_n 1, 1) := by decide +kernel
theorem dX12_answers_13 : decode cX12_answers 13 = .ok (.i2l, 1) := by decide +kernel
theorem dX12_answers_14 : decode cX12_answers 14 = .ok (.invokestatic 267, 3) := by decide +kernel
theorem dX12_answers_17 : decode cX12_answers 17 = .ok (.ifCond .eq 12, 3) := by decide +kernel
theorem dX12_answers_20 : decode cX12_answers 20 = .ok (.aload_n 0, 1) := by decide +kernel
theorem dX12_answers_21 : decode cX12_answers 21 = .ok (.getfield 40, 3) := by decide +kernel
theorem dX12_answers_24 : decode cX12_answers 24 = .ok (.iload_n 1, 1) := by decide +kernel
theorem dX12_answers_25 : decode cX12_answers 25 = .ok (.iaload, 1) := by decide +kernel
theorem dX12_answers_26 : decode cX12_answers 26 = .ok (.goto 5, 3) := by decide +kernel
theorem dX12_answers_29 : decode cX12_answers 29 = .ok (.bipush (-2), 2) := by decide +kernel
theorem dX12_answers_31 : decode cX12_answers 31 = .ok (.ireturn, 1) := by decide +kernel
theorem wrr_wsX12_stumbled {i : Nat} {w : Cond} (h : wsX12_stumbled[i]? = some w) : w ∈ wsX12_stumbled := List.mem_of_getElem? h
theorem wru_wsX12_stumbled_wsX120 : ∀ w ∈ wsX120, w ∈ wsX12_stumbled := fun w h => (List.mem_cons_of_mem _ (List.mem_append_right _ h))
set_option maxRecDepth 20000 in
theorem ggX12_stumbled_X12_in : GoodIn wsX12_stumbled wsX12_in := goodIn_sub (List.forall_mem_cons.mpr ⟨wrr_wsX12_stumbled (i := 8) rfl, (fun _ h => absurd h List.not_mem_nil)⟩) gw_wsX12_in
set_option maxRecDepth 20000 in
theorem gX12_stumbled_X12_in : GoodIn wsX12_stumbled (va_wsS RX12 85 yX12_in wsX12_in) := goodIn_app (goodIn_sub (List.forall_mem_cons.mpr ⟨wrr_wsX12_stumbled (i := 5) rfl, (List.forall_mem_cons.mpr ⟨wrr_wsX12_stumbled (i := 6) rfl, (List.forall_mem_cons.mpr ⟨wrr_wsX12_stumbled (i := 7) rfl, (fun _ h => absurd h List.not_mem_nil)⟩)⟩)⟩) (by decide +kernel)) ggX12_stumbled_X12_in
theorem dX12_stumbled_0 : decode cX12_stumbled 0 = .ok (.aload_n 0, 1) := by decide +kernel
theorem dX12_stumbled_1 : decode cX12_stumbled 1 = .ok (.iconst 0, 1) := by decide +kernel
theorem dX12_stumbled_2 : decode cX12_stumbled 2 = .ok (.putfield 80, 3) := by decide +kernel
theorem dX12_stumbled_5 : decode cX12_stumbled 5 = .ok (.iload_n 1, 1) := by decide +kernel
theorem dX12_stumbled_6 : decode cX12_stumbled 6 = .ok (.i2l, 1) := by decide +kernel
theorem dX12_stumbled_7 : decode cX12_stumbled 7 = .ok (.lconst 0, 1) := by decide +kernel
theorem dX12_stumbled_8 : decode cX12_stumbled 8 = .ok (.aload_n 0, 1) := by decide +kernel
theorem dX12_stumbled_9 : decode cX12_stumbled 9 = .ok (.getfield 34, 3) := by decide +kernel
theorem dX12_stumbled_12 : decode cX12_stumbled 12 = .ok (.bipush 7, 2) := by decide +kernel
theorem dX12_stumbled_14 : decode cX12_stumbled 14 = .ok (.iaload, 1) := by decide +kernel
theorem dX12_stumbled_15 : decode cX12_stumbled 15 = .ok (.iconst 1, 1) := by decide +kernel
theorem dX12_stumbled_16 : decode cX12_stumbled 16 = .ok (.isub, 1) := by decide +kernel
theorem dX12_stumbled_17 : decode cX12_stumbled 17 = .ok (.i2l, 1) := by decide +kernel
theorem dX12_stumbled_18 : decode cX12_stumbled 18 = .ok (.invokestatic 85, 3) := by decide +kernel
theorem dX12_stumbled_21 : decode cX12_stumbled 21 = .ok (.ifCond .eq 28, 3) := by decide +kernel
theorem dX12_stumbled_24 : decode cX12_stumbled 24 = .ok (.iload_n 2, 1) := by decide +kernel
theorem dX12_stumbled_25 : decode cX12_stumbled 25 = .ok (.i2l, 1) := by decide +kernel
theorem dX12_stumbled_26 : decode cX12_stumbled 26 = .ok (.lconst 0, 1) := by decide +kernel
theorem dX12_stumbled_27 : decode cX12_stumbled 27 = .ok (.ldc2_w 83, 3) := by decide +kernel
theorem dX12_stumbled_30 : decode cX12_stumbled 30 = .ok (.invokestatic 85, 3) := by decide +kernel
theorem dX12_stumbled_33 : decode cX12_stumbled 33 = .ok (.ifCond .eq 16, 3) := by decide +kernel
theorem dX12_stumbled_36 : decode cX12_stumbled 36 = .ok (.aload_n 0, 1) := by decide +kernel
theorem dX12_stumbled_37 : decode cX12_stumbled 37 = .ok (.getfield 43, 3) := by decide +kernel
theorem dX12_stumbled_40 : decode cX12_stumbled 40 = .ok (.iconst 4, 1) := by decide +kernel
theorem dX12_stumbled_41 : decode cX12_stumbled 41 = .ok (.iload_n 1, 1) := by decide +kernel
theorem dX12_stumbled_42 : decode cX12_stumbled 42 = .ok (.imul, 1) := by decide +kernel
theorem dX12_stumbled_43 : decode cX12_stumbled 43 = .ok (.iload_n 2, 1) := by decide +kernel
theorem dX12_stumbled_44 : decode cX12_stumbled 44 = .ok (.iadd, 1) := by decide +kernel
theorem dX12_stumbled_45 : decode cX12_stumbled 45 = .ok (.iaload, 1) := by decide +kernel
theorem dX12_stumbled_46 : decode cX12_stumbled 46 = .ok (.goto 5, 3) := by decide +kernel
theorem dX12_stumbled_49 : decode cX12_stumbled 49 = .ok (.bipush (-2), 2) := by decide +kernel
theorem dX12_stumbled_51 : decode cX12_stumbled 51 = .ok (.ireturn, 1) := by decide +kernel
theorem wrr_wsX12_muddy {i : Nat} {w : Cond} (h : wsX12_muddy[i]? = some w) : w ∈ wsX12_muddy := List.mem_of_getElem? h
theorem wru_wsX12_muddy_wsX120 : ∀ w ∈ wsX120, w ∈ wsX12_muddy := fun w h => (List.mem_cons_of_mem _ (List.mem_append_right _ h))
set_option maxRecDepth 20000 in
theorem ggX12_muddy_X12_isDance : GoodIn wsX12_muddy wsX12_isDance := goodIn_sub (List.forall_mem_cons.mpr ⟨wrr_wsX12_muddy (i := 7) rfl, (List.forall_mem_append.mpr ⟨(List.forall_mem_cons.mpr ⟨wrr_wsX12_muddy (i := 8) rfl, (fun _ h => absurd h List.not_mem_nil)⟩), wru_wsX12_muddy_wsX120⟩)⟩) gw_wsX12_isDance
set_option maxRecDepth 20000 in
theorem gX12_muddy_X12_isDance : GoodIn wsX12_muddy (wsV RX12 254 RX12 yX12_isDance wsX12_isDance) := goodIn_app (goodIn_sub (List.forall_mem_cons.mpr ⟨wrr_wsX12_muddy (i := 3) rfl, (List.forall_mem_cons.mpr ⟨wrr_wsX12_muddy (i := 4) rfl, (List.forall_mem_cons.mpr ⟨wrr_wsX12_muddy (i := 5) rfl, (List.forall_mem_cons.mpr ⟨wrr_wsX12_muddy (i := 6) rfl, (fun _ h => absurd h List.not_mem_nil)⟩)⟩)⟩)⟩) (by decide +kernel)) ggX12_muddy_X12_isDance
set_option maxRecDepth 20000 in
theorem gw_wsX12_isBeat : wsX12_isBeat.all goodWord = true := by decide +kernel
set_option maxRecDepth 20000 in
theorem ggX12_muddy_X12_isBeat : GoodIn wsX12_muddy wsX12_isBeat := goodIn_sub (List.forall_mem_cons.mpr ⟨wrr_wsX12_muddy (i := 11) rfl, (List.forall_mem_cons.mpr ⟨wrr_wsX12_muddy (i := 12) rfl, (List.forall_mem_cons.mpr ⟨wrr_wsX12_muddy (i := 13) rfl, (List.forall_mem_cons.mpr ⟨wrr_wsX12_muddy (i := 14) rfl, (List.forall_mem_cons.mpr ⟨wrr_wsX12_muddy (i := 6) rfl, (List.forall_mem_cons.mpr ⟨wrr_wsX12_muddy (i := 15) rfl, (fun _ h => absurd h List.not_mem_nil)⟩)⟩)⟩)⟩)⟩)⟩) gw_wsX12_isBeat
set_option maxRecDepth 20000 in
theorem gX12_muddy_X12_isBeat : GoodIn wsX12_muddy (va_wsS RX12 270 yX12_isBeat wsX12_isBeat) := goodIn_app (goodIn_sub (List.forall_mem_cons.mpr ⟨wrr_wsX12_muddy (i := 9) rfl, (List.forall_mem_cons.mpr ⟨wrr_wsX12_muddy (i := 10) rfl, (List.forall_mem_cons.mpr ⟨wrr_wsX12_muddy (i := 6) rfl, (fun _ h => absurd h List.not_mem_nil)⟩)⟩)⟩) (by decide +kernel)) ggX12_muddy_X12_isBeat
theorem dX12_muddy_0 : decode cX12_muddy 0 = .ok (.aload_n 0, 1) := by decide +kernel
theorem dX12_muddy_1 : decode cX12_muddy 1 = .ok (.iconst 0, 1) := by decide +kernel
theorem dX12_muddy_2 : decode cX12_muddy 2 = .ok (.putfield 80, 3) := by decide +kernel
theorem dX12_muddy_5 : decode cX12_muddy 5 = .ok (.aload_n 0, 1) := by decide +kernel
theorem dX12_muddy_6 : decode cX12_muddy 6 = .ok (.invokevirtual 254, 3) := by decide +kernel
theorem dX12_muddy_9 : decode cX12_muddy 9 = .ok (.ifCond .eq 28, 3) := by decide +kernel
theorem dX12_muddy_12 : decode cX12_muddy 12 = .ok (.iload_n 1, 1) := by decide +kernel
theorem dX12_muddy_13 : decode cX12_muddy 13 = .ok (.i2l, 1) := by decide +kernel
theorem dX12_muddy_14 : decode cX12_muddy 14 = .ok (.invokestatic 270, 3) := by decide +kernel
theorem dX12_muddy_17 : decode cX12_muddy 17 = .ok (.ifCond .eq 20, 3) := by decide +kernel
theorem dX12_muddy_20 : decode cX12_muddy 20 = .ok (.aload_n 0, 1) := by decide +kernel
theorem dX12_muddy_21 : decode cX12_muddy 21 = .ok (.getfield 46, 3) := by decide +kernel
theorem dX12_muddy_24 : decode cX12_muddy 24 = .ok (.iload_n 1, 1) := by decide +kernel
theorem dX12_muddy_25 : decode cX12_muddy 25 = .ok (.baload, 1) := by decide +kernel
theorem dX12_muddy_26 : decode cX12_muddy 26 = .ok (.ifCond .eq 7, 3) := by decide +kernel
theorem dX12_muddy_29 : decode cX12_muddy 29 = .ok (.iconst 1, 1) := by decide +kernel
theorem dX12_muddy_30 : decode cX12_muddy 30 = .ok (.goto 9, 3) := by decide +kernel
theorem dX12_muddy_33 : decode cX12_muddy 33 = .ok (.iconst 0, 1) := by decide +kernel
theorem dX12_muddy_34 : decode cX12_muddy 34 = .ok (.goto 5, 3) := by decide +kernel
theorem dX12_muddy_37 : decode cX12_muddy 37 = .ok (.bipush (-2), 2) := by decide +kernel
theorem dX12_muddy_39 : decode cX12_muddy 39 = .ok (.ireturn, 1) := by decide +kernel
theorem wrr_wsX12_dances {i : Nat} {w : Cond} (h : wsX12_dances[i]? = some w) : w ∈ wsX12_dances := List.mem_of_getElem? h
theorem wru_wsX12_dances_wsX120 : ∀ w ∈ wsX120, w ∈ wsX12_dances := fun w h => (List.mem_cons_of_mem _ (List.mem_append_right _ h))
set_option maxRecDepth 20000 in
theorem ggX12_dances_X12_lengthOf : GoodIn wsX12_dances wsX12_lengthOf := goodIn_sub (List.forall_mem_cons.mpr ⟨wrr_wsX12_dances (i := 11) rfl, (List.forall_mem_append.mpr ⟨(List.forall_mem_cons.mpr ⟨wrr_wsX12_dances (i := 1) rfl, (fun _ h => absurd h List.not_mem_nil)⟩), wru_wsX12_dances_wsX120⟩)⟩) gw_wsX12_lengthOf
set_option maxRecDepth 20000 in
theorem gX12_dances_X12_lengthOf : GoodIn wsX12_dances (wsV RX12 264 RX12 yX12_lengthOf wsX12_lengthOf) := goodIn_app (goodIn_sub (List.forall_mem_cons.mpr ⟨wrr_wsX12_dances (i := 7) rfl, (List.forall_mem_cons.mpr ⟨wrr_wsX12_dances (i := 8) rfl, (List.forall_mem_cons.mpr ⟨wrr_wsX12_dances (i := 9) rfl, (List.forall_mem_cons.mpr ⟨wrr_wsX12_dances (i := 10) rfl, (fun _ h => absurd h List.not_mem_nil)⟩)⟩)⟩)⟩) (by decide +kernel)) ggX12_dances_X12_lengthOf
theorem dX12_dances_0 : decode cX12_dances 0 = .ok (.aload_n 0, 1) := by decide +kernel
theorem dX12_dances_1 : decode cX12_dances 1 = .ok (.iload_n 1, 1) := by decide +kernel
theorem dX12_dances_2 : decode cX12_dances 2 = .ok (.invokevirtual 264, 3) := by decide +kernel
theorem dX12_dances_5 : decode cX12_dances 5 = .ok (.istore 6, 2) := by decide +kernel
theorem dX12_dances_7 : decode cX12_dances 7 = .ok (.aload_n 0, 1) := by decide +kernel
theorem dX12_dances_8 : decode cX12_dances 8 = .ok (.getfield 34, 3) := by decide +kernel
theorem dX12_dances_11 : decode cX12_dances 11 = .ok (.iconst 5, 1) := by decide +kernel
theorem dX12_dances_12 : decode cX12_dances 12 = .ok (.iload_n 1, 1) := by decide +kernel
theorem dX12_dances_13 : decode cX12_dances 13 = .ok (.iadd, 1) := by decide +kernel
theorem dX12_dances_14 : decode cX12_dances 14 = .ok (.iaload, 1) := by decide +kernel
theorem dX12_dances_15 : decode cX12_dances 15 = .ok (.istore 7, 2) := by decide +kernel
theorem dX12_dances_17 : decode cX12_dances 17 = .ok (.iconst 0, 1) := by decide +kernel
theorem dX12_dances_18 : decode cX12_dances 18 = .ok (.istore 8, 2) := by decide +kernel
theorem dX12_dances_20 : decode cX12_dances 20 = .ok (.iload 8, 2) := by decide +kernel
theorem dX12_dances_22 : decode cX12_dances 22 = .ok (.sipush 200, 3) := by decide +kernel
theorem dX12_dances_25 : decode cX12_dances 25 = .ok (.if_icmp .ge 218, 3) := by decide +kernel
theorem dX12_dances_28 : decode cX12_dances 28 = .ok (.sipush 200, 3) := by decide +kernel
theorem dX12_dances_31 : decode cX12_dances 31 = .ok (.iload_n 1, 1) := by decide +kernel
theorem dX12_dances_32 : decode cX12_dances 32 = .ok (.imul, 1) := by decide +kernel
theorem dX12_dances_33 : decode cX12_dances 33 = .ok (.iload 8, 2) := by decide +kernel
theorem dX12_dances_35 : decode cX12_dances 35 = .ok (.iadd, 1) := by decide +kernel
theorem dX12_dances_36 : decode cX12_dances 36 = .ok (.istore 9, 2) := by decide +kernel
theorem dX12_dances_38 : decode cX12_dances 38 = .ok (.aload_n 0, 1) := by decide +kernel
theorem dX12_dances_39 : decode cX12_dances 39 = .ok (.getfield 65, 3) := by decide +kernel
theorem dX12_dances_42 : decode cX12_dances 42 = .ok (.sipush 201, 3) := by decide +kernel
theorem dX12_dances_45 : decode cX12_dances 45 = .ok (.iload_n 1, 1) := by decide +kernel
theorem dX12_dances_46 : decode cX12_dances 46 = .ok (.imul, 1) := by decide +kernel
theorem dX12_dances_47 : decode cX12_dances 47 = .ok (.iload 8, 2) := by decide +kernel
theorem dX12_dances_49 : decode cX12_dances 49 = .ok (.iadd, 1) := by decide +kernel
theorem dX12_dances_50 : decode cX12_dances 50 = .ok (.iload 6, 2) := by decide +kernel
theorem dX12_dances_52 : decode cX12_dances 52 = .ok (.ifCond .ne 7, 3) := by decide +kernel
theorem dX12_dances_55 : decode cX12_dances 55 = .ok (.iconst (-1), 1) := by decide +kernel
theorem dX12_dances_56 : decode cX12_dances 56 = .ok (.goto 5, 3) := by decide +kernel
theorem dX12_dances_59 : decode cX12_dances 59 = .ok (.iload 7, 2) := by decide +kernel
theorem dX12_dances_61 : decode cX12_dances 61 = .ok (.iastore, 1) := by decide +kernel
theorem dX12_dances_62 : decode cX12_dances 62 = .ok (.aload_n 0, 1) := by decide +kernel
theorem dX12_dances_63 : decode cX12_dances 63 = .ok (.getfield 68, 3) := by decide +kernel
theorem dX12_dances_66 : decode cX12_dances 66 = .ok (.iload 9, 2) := by decide +kernel
theorem dX12_dances_68 : decode cX12_dances 68 = .ok (.iconst (-1), 1) := by decide +kernel
theorem dX12_dances_69 : decode cX12_dances 69 = .ok (.iastore, 1) := by decide +kernel
theorem dX12_dances_70 : decode cX12_dances 70 = .ok (.iload 6, 2) := by decide +kernel
theorem dX12_dances_72 : decode cX12_dances 72 = .ok (.ifCond .eq 165, 3) := by decide +kernel
theorem dX12_dances_75 : decode cX12_dances 75 = .ok (.aload_n 0, 1) := by decide +kernel
theorem dX12_dances_76 : decode cX12_dances 76 = .ok (.getfield 46, 3) := by decide +kernel
theorem dX12_dances_79 : decode cX12_dances 79 = .ok (.iload 8, 2) := by decide +kernel
theorem dX12_dances_81 : decode cX12_dances 81 = .ok (.baload, 1) := by decide +kernel
theorem dX12_dances_82 : decode cX12_dances 82 = .ok (.ifCond .eq 6, 3) := by decide +kernel
theorem dX12_dances_85 : decode cX12_dances 85 = .ok (.goto 152, 3) := by decide +kernel
theorem dX12_dances_88 : decode cX12_dances 88 = .ok (.aload_n 0, 1) := by decide +kernel
theorem dX12_dances_89 : decode cX12_dances 89 = .ok (.getfield 37, 3) := by decide +kernel
theorem dX12_dances_92 : decode cX12_dances 92 = .ok (.bipush 12, 2) := by decide +kernel
theorem dX12_dances_94 : decode cX12_dances 94 = .ok (.iload_n 1, 1) := by decide +kernel
theorem dX12_dances_95 : decode cX12_dances 95 = .ok (.imul, 1) := by decide +kernel
theorem dX12_dances_96 : decode cX12_dances 96 = .ok (.iload 7, 2) := by decide +kernel
theorem dX12_dances_98 : decode cX12_dances 98 = .ok (.iadd, 1) := by decide +kernel
theorem dX12_dances_99 : decode cX12_dances 99 = .ok (.iaload, 1) := by decide +kernel
theorem dX12_dances_100 : decode cX12_dances 100 = .ok (.istore 10, 2) := by decide +kernel
theorem dX12_dances_102 : decode cX12_dances 102 = .ok (.iconst 0, 1) := by decide +kernel
theorem dX12_dances_103 : decode cX12_dances 103 = .ok (.istore 11, 2) := by decide +kernel
theorem dX12_dances_105 : decode cX12_dances 105 = .ok (.iload 8, 2) := by decide +kernel
theorem dX12_dances_107 : decode cX12_dances 107 = .ok (.iload_n 3, 1) := by decide +kernel
theorem dX12_dances_108 : decode cX12_dances 108 = .ok (.if_icmp .ne 11, 3) := by decide +kernel
theorem dX12_dances_111 : decode cX12_dances 111 = .ok (.iload 4, 2) := by decide +kernel
theorem dX12_dances_113 : decode cX12_dances 113 = .ok (.istore 10, 2) := by decide +kernel
theorem dX12_dances_115 : decode cX12_dances 115 = .ok (.iload 5, 2) := by decide +kernel
theorem dX12_dances_117 : decode cX12_dances 117 = .ok (.istore 11, 2) := by decide +kernel
theorem dX12_dances_119 : decode cX12_dances 119 = .ok (.iconst 0, 1) := by decide +kernel
theorem dX12_dances_120 : decode cX12_dances 120 = .ok (.istore 12, 2) := by decide +kernel
theorem dX12_dances_122 : decode cX12_dances 122 = .ok (.iload 12, 2) := by decide +kernel
theorem dX12_dances_124 : decode cX12_dances 124 = .ok (.aload_n 0, 1) := by decide +kernel
theorem dX12_dances_125 : decode cX12_dances 125 = .ok (.getfield 34, 3) := by decide +kernel
theorem dX12_dances_128 : decode cX12_dances 128 = .ok (.bipush 7, 2) := by decide +kernel
theorem dX12_dances_130 : decode cX12_dances 130 = .ok (.iaload, 1) := by decide +kernel
theorem dX12_dances_131 : decode cX12_dances 131 = .ok (.if_icmp .ge 79, 3) := by decide +kernel
theorem dX12_dances_134 : decode cX12_dances 134 = .ok (.iload_n 2, 1) := by decide +kernel
theorem dX12_dances_135 : decode cX12_dances 135 = .ok (.bipush 99, 2) := by decide +kernel
theorem dX12_dances_137 : decode cX12_dances 137 = .ok (.if_icmp .eq 73, 3) := by decide +kernel
theorem dX12_dances_140 : decode cX12_dances 140 = .ok (.iload 12, 2) := by decide +kernel
theorem dX12_dances_142 : decode cX12_dances 142 = .ok (.iload_n 2, 1) := by decide +kernel
theorem dX12_dances_143 : decode cX12_dances 143 = .ok (.if_icmp .eq 61, 3) := by decide +kernel
theorem dX12_dances_146 : decode cX12_dances 146 = .ok (.aload_n 0, 1) := by decide +kernel
theorem dX12_dances_147 : decode cX12_dances 147 = .ok (.getfield 43, 3) := by decide +kernel
theorem dX12_dances_150 : decode cX12_dances 150 = .ok (.iconst 4, 1) := by decide +kernel
theorem dX12_dances_151 : decode cX12_dances 151 = .ok (.iload 12, 2) := by decide +kernel
theorem dX12_dances_153 : decode cX12_dances 153 = .ok (.imul, 1) := by decide +kernel
theorem dX12_dances_154 : decode cX12_dances 154 = .ok (.iaload, 1) := by decide +kernel
theorem dX12_dances_155 : decode cX12_dances 155 = .ok (.iload_n 1, 1) := by decide +kernel
theorem dX12_dances_156 : decode cX12_dances 156 = .ok (.if_icmp .ne 48, 3) := by decide +kernel
theorem dX12_dances_159 : decode cX12_dances 159 = .ok (.aload_n 0, 1) := by decide +kernel
theorem dX12_dances_160 : decode cX12_dances 160 = .ok (.getfield 43, 3) := by decide +kernel
theorem dX12_dances_163 : decode cX12_dances 163 = .ok (.iconst 4, 1) := by decide +kernel
theorem dX12_dances_164 : decode cX12_dances 164 = .ok (.iload 12, 2) := by decide +kernel
theorem dX12_dances_166 : decode cX12_dances 166 = .ok (.imul, 1) := by decide +kernel
theorem dX12_dances_167 : decode cX12_dances 167 = .ok (.iconst 1, 1) := by decide +kernel
theorem dX12_dances_168 : decode cX12_dances 168 = .ok (.iadd, 1) := by decide +kernel
theorem dX12_dances_169 : decode cX12_dances 169 = .ok (.iaload, 1) := by decide +kernel
theorem dX12_dances_170 : decode cX12_dances 170 = .ok (.iload 8, 2) := by decide +kernel
theorem dX12_dances_172 : decode cX12_dances 172 = .ok (.if_icmp .eq 6, 3) := by decide +kernel
theorem dX12_dances_175 : decode cX12_dances 175 = .ok (.goto 29, 3) := by decide +kernel
theorem dX12_dances_178 : decode cX12_dances 178 = .ok (.aload_n 0, 1) := by decide +kernel
theorem dX12_dances_179 : decode cX12_dances 179 = .ok (.getfield 43, 3) := by decide +kernel
theorem dX12_dances_182 : decode cX12_dances 182 = .ok (.iconst 4, 1) := by decide +kernel
theorem dX12_dances_183 : decode cX12_dances 183 = .ok (.iload 12, 2) := by decide +kernel
theorem dX12_dances_185 : decode cX12_dances 185 = .ok (.imul, 1) := by decide +kernel
theorem dX12_dances_186 : decode cX12_dances 186 = .ok (.iconst 2, 1) := by decide +kernel
theorem dX12_dances_187 : decode cX12_dances 187 = .ok (.iadd, 1) := by decide +kernel
theorem dX12_dances_188 : decode cX12_dances 188 = .ok (.iaload, 1) := by decide +kernel
theorem dX12_dances_189 : decode cX12_dances 189 = .ok (.istore 10, 2) := by decide +kernel
theorem dX12_dances_191 : decode cX12_dances 191 = .ok (.aload_n 0, 1) := by decide +kernel
theorem dX12_dances_192 : decode cX12_dances 192 = .ok (.getfield 43, 3) := by decide +kernel
theorem dX12_dances_195 : decode cX12_dances 195 = .ok (.iconst 4, 1) := by decide +kernel
theorem dX12_dances_196 : decode cX12_dances 196 = .ok (.iload 12, 2) := by decide +kernel
theorem dX12_dances_198 : decode cX12_dances 198 = .ok (.imul, 1) := by decide +kernel
theorem dX12_dances_199 : decode cX12_dances 199 = .ok (.iconst 3, 1) := by decide +kernel
theorem dX12_dances_200 : decode cX12_dances 200 = .ok (.iadd, 1) := by decide +kernel
theorem dX12_dances_201 : decode cX12_dances 201 = .ok (.iaload, 1) := by decide +kernel
theorem dX12_dances_202 : decode cX12_dances 202 = .ok (.istore 11, 2) := by decide +kernel
theorem dX12_dances_204 : decode cX12_dances 204 = .ok (.iinc 12 1, 3) := by decide +kernel
theorem dX12_dances_207 : decode cX12_dances 207 = .ok (.goto (-85), 3) := by decide +kernel
theorem dX12_dances_210 : decode cX12_dances 210 = .ok (.aload_n 0, 1) := by decide +kernel
theorem dX12_dances_211 : decode cX12_dances 211 = .ok (.getfield 68, 3) := by decide +kernel
theorem dX12_dances_214 : decode cX12_dances 214 = .ok (.iload 9, 2) := by decide +kernel
theorem dX12_dances_216 : decode cX12_dances 216 = .ok (.iload 10, 2) := by decide +kernel
theorem dX12_dances_218 : decode cX12_dances 218 = .ok (.iastore, 1) := by decide +kernel
theorem dX12_dances_219 : decode cX12_dances 219 = .ok (.iload 7, 2) := by decide +kernel
theorem dX12_dances_221 : decode cX12_dances 221 = .ok (.iconst 1, 1) := by decide +kernel
theorem dX12_dances_222 : decode cX12_dances 222 = .ok (.iadd, 1) := by decide +kernel
theorem dX12_dances_223 : decode cX12_dances 223 = .ok (.iload 11, 2) := by decide +kernel
theorem dX12_dances_225 : decode cX12_dances 225 = .ok (.isub, 1) := by decide +kernel
theorem dX12_dances_226 : decode cX12_dances 226 = .ok (.iload 6, 2) := by decide +kernel
theorem dX12_dances_228 : decode cX12_dances 228 = .ok (.irem, 1) := by decide +kernel
theorem dX12_dances_229 : decode cX12_dances 229 = .ok (.iload 6, 2) := by decide +kernel
theorem dX12_dances_231 : decode cX12_dances 231 = .ok (.iadd, 1) := by decide +kernel
theorem dX12_dances_232 : decode cX12_dances 232 = .ok (.iload 6, 2) := by decide +kernel
theorem dX12_dances_234 : decode cX12_dances 234 = .ok (.irem, 1) := by decide +kernel
theorem dX12_dances_235 : decode cX12_dances 235 = .ok (.istore 7, 2) := by decide +kernel
theorem dX12_dances_237 : decode cX12_dances 237 = .ok (.iinc 8 1, 3) := by decide +kernel
theorem dX12_dances_240 : decode cX12_dances 240 = .ok (.goto (-220), 3) := by decide +kernel
theorem dX12_dances_243 : decode cX12_dances 243 = .ok (.return_, 1) := by decide +kernel
theorem wrr_wsX12_laysBut {i : Nat} {w : Cond} (h : wsX12_laysBut[i]? = some w) : w ∈ wsX12_laysBut := List.mem_of_getElem? h
theorem wru_wsX12_laysBut_wsX120 : ∀ w ∈ wsX120, w ∈ wsX12_laysBut := fun w h => (List.mem_cons_of_mem _ (List.mem_append_right _ h))
set_option maxRecDepth 20000 in
theorem gw_wsX12_dances : wsX12_dances.all goodWord = true := by decide +kernel
set_option maxRecDepth 20000 in
theorem ggX12_laysBut_X12_dances : GoodIn wsX12_laysBut wsX12_dances := goodIn_sub (List.forall_mem_cons.mpr ⟨wrr_wsX12_laysBut (i := 5) rfl, (List.forall_mem_append.mpr ⟨(List.forall_mem_cons.mpr ⟨wrr_wsX12_laysBut (i := 6) rfl, (List.forall_mem_cons.mpr ⟨wrr_wsX12_laysBut (i := 7) rfl, (List.forall_mem_cons.mpr ⟨wrr_wsX12_laysBut (i := 8) rfl, (List.forall_mem_cons.mpr ⟨wrr_wsX12_laysBut (i := 9) rfl, (List.forall_mem_cons.mpr ⟨wrr_wsX12_laysBut (i := 10) rfl, (List.forall_mem_cons.mpr ⟨wrr_wsX12_laysBut (i := 11) rfl, (List.forall_mem_cons.mpr ⟨wrr_wsX12_laysBut (i := 12) rfl, (List.forall_mem_cons.mpr ⟨wrr_wsX12_laysBut (i := 13) rfl, (List.forall_mem_cons.mpr ⟨wrr_wsX12_laysBut (i := 14) rfl, (List.forall_mem_cons.mpr ⟨wrr_wsX12_laysBut (i := 4) rfl, (List.forall_mem_cons.mpr ⟨wrr_wsX12_laysBut (i := 15) rfl, (fun _ h => absurd h List.not_mem_nil)⟩)⟩)⟩)⟩)⟩)⟩)⟩)⟩)⟩)⟩)⟩), wru_wsX12_laysBut_wsX120⟩)⟩) gw_wsX12_dances
set_option maxRecDepth 20000 in
theorem gX12_laysBut_X12_dances : GoodIn wsX12_laysBut (wsV RX12 273 RX12 yX12_dances wsX12_dances) := goodIn_app (goodIn_sub (List.forall_mem_cons.mpr ⟨wrr_wsX12_laysBut (i := 1) rfl, (List.forall_mem_cons.mpr ⟨wrr_wsX12_laysBut (i := 2) rfl, (List.forall_mem_cons.mpr ⟨wrr_wsX12_laysBut (i := 3) rfl, (List.forall_mem_cons.mpr ⟨wrr_wsX12_laysBut (i := 4) rfl, (fun _ h => absurd h List.not_mem_nil)⟩)⟩)⟩)⟩) (by decide +kernel)) ggX12_laysBut_X12_dances
theorem dX12_laysBut_0 : decode cX12_laysBut 0 = .ok (.aload_n 0, 1) := by decide +kernel
theorem dX12_laysBut_1 : decode cX12_laysBut 1 = .ok (.iconst 0, 1) := by decide +kernel
theorem dX12_laysBut_2 : decode cX12_laysBut 2 = .ok (.iload_n 1, 1) := by decide +kernel
theorem dX12_laysBut_3 : decode cX12_laysBut 3 = .ok (.iconst (-1), 1) := by decide +kernel
theorem dX12_laysBut_4 : decode cX12_laysBut 4 = .ok (.iconst 0, 1) := by decide +kernel
theorem dX12_laysBut_5 : decode cX12_laysBut 5 = .ok (.iconst 0, 1) := by decide +kernel
theorem dX12_laysBut_6 : decode cX12_laysBut 6 = .ok (.invokevirtual 273, 3) := by decide +kernel
theorem dX12_laysBut_9 : decode cX12_laysBut 9 = .ok (.aload_n 0, 1) := by decide +kernel
theorem dX12_laysBut_10 : decode cX12_laysBut 10 = .ok (.iconst 1, 1) := by decide +kernel
theorem dX12_laysBut_11 : decode cX12_laysBut 11 = .ok (.iload_n 1, 1) := by decide +kernel
theorem dX12_laysBut_12 : decode cX12_laysBut 12 = .ok (.iconst (-1), 1) := by decide +kernel
theorem dX12_laysBut_13 : decode cX12_laysBut 13 = .ok (.iconst 0, 1) := by decide +kernel
theorem dX12_laysBut_14 : decode cX12_laysBut 14 = .ok (.iconst 0, 1) := by decide +kernel
theorem dX12_laysBut_15 : decode cX12_laysBut 15 = .ok (.invokevirtual 273, 3) := by decide +kernel
theorem dX12_laysBut_18 : decode cX12_laysBut 18 = .ok (.return_, 1) := by decide +kernel
theorem wrr_wsX12_lays {i : Nat} {w : Cond} (h : wsX12_lays[i]? = some w) : w ∈ wsX12_lays := List.mem_of_getElem? h
theorem wru_wsX12_lays_wsX120 : ∀ w ∈ wsX120, w ∈ wsX12_lays := fun w h => (List.mem_cons_of_mem _ (List.mem_append_right _ h))
set_option maxRecDepth 20000 in
theorem gw_wsX12_laysBut : wsX12_laysBut.all goodWord = true := by decide +kernel
set_option maxRecDepth 20000 in
theorem ggX12_lays_X12_laysBut : GoodIn wsX12_lays wsX12_laysBut := goodIn_sub (List.forall_mem_cons.mpr ⟨wrr_wsX12_lays (i := 5) rfl, (List.forall_mem_append.mpr ⟨(List.forall_mem_cons.mpr ⟨wrr_wsX12_lays (i := 6) rfl, (List.forall_mem_cons.mpr ⟨wrr_wsX12_lays (i := 7) rfl, (List.forall_mem_cons.mpr ⟨wrr_wsX12_lays (i := 8) rfl, (List.forall_mem_cons.mpr ⟨wrr_wsX12_lays (i := 4) rfl, (List.forall_mem_cons.mpr ⟨wrr_wsX12_lays (i := 9) rfl, (List.forall_mem_cons.mpr ⟨wrr_wsX12_lays (i := 10) rfl, (List.forall_mem_cons.mpr ⟨wrr_wsX12_lays (i := 11) rfl, (List.forall_mem_cons.mpr ⟨wrr_wsX12_lays (i := 12) rfl, (List.forall_mem_cons.mpr ⟨wrr_wsX12_lays (i := 13) rfl, (List.forall_mem_cons.mpr ⟨wrr_wsX12_lays (i := 14) rfl, (List.forall_mem_cons.mpr ⟨wrr_wsX12_lays (i := 15) rfl, (List.forall_mem_cons.mpr ⟨wrr_wsX12_lays (i := 16) rfl, (List.forall_mem_cons.mpr ⟨wrr_wsX12_lays (i := 17) rfl, (List.forall_mem_cons.mpr ⟨wrr_wsX12_lays (i := 18) rfl, (List.forall_mem_cons.mpr ⟨wrr_wsX12_lays (i := 19) rfl, (fun _ h => absurd h List.not_mem_nil)⟩)⟩)⟩)⟩)⟩)⟩)⟩)⟩)⟩)⟩)⟩)⟩)⟩)⟩)⟩), wru_wsX12_lays_wsX120⟩)⟩) gw_wsX12_laysBut
set_option maxRecDepth 20000 in
theorem gX12_lays_X12_laysBut : GoodIn wsX12_lays (wsV RX12 277 RX12 yX12_laysBut wsX12_laysBut) := goodIn_app (goodIn_sub (List.forall_mem_cons.mpr ⟨wrr_wsX12_lays (i := 1) rfl, (List.forall_mem_cons.mpr ⟨wrr_wsX12_lays (i := 2) rfl, (List.forall_mem_cons.mpr ⟨wrr_wsX12_lays (i := 3) rfl, (List.forall_mem_cons.mpr ⟨wrr_wsX12_lays (i := 4) rfl, (fun _ h => absurd h List.not_mem_nil)⟩)⟩)⟩)⟩) (by decide +kernel)) ggX12_lays_X12_laysBut
theorem dX12_lays_0 : decode cX12_lays 0 = .ok (.aload_n 0, 1) := by decide +kernel
theorem dX12_lays_1 : decode cX12_lays 1 = .ok (.iconst (-1), 1) := by decide +kernel
theorem dX12_lays_2 : decode cX12_lays 2 = .ok (.invokevirtual 277, 3) := by decide +kernel
theorem dX12_lays_5 : decode cX12_lays 5 = .ok (.return_, 1) := by decide +kernel
theorem dX12_hearsAt_0 : decode cX12_hearsAt 0 = .ok (.iload_n 2, 1) := by decide +kernel
theorem dX12_hearsAt_1 : decode cX12_hearsAt 1 = .ok (.aload_n 0, 1) := by decide +kernel
theorem dX12_hearsAt_2 : decode cX12_hearsAt 2 = .ok (.getfield 34, 3) := by decide +kernel
theorem dX12_hearsAt_5 : decode cX12_hearsAt 5 = .ok (.iconst 0, 1) := by decide +kernel
theorem dX12_hearsAt_6 : decode cX12_hearsAt 6 = .ok (.iaload, 1) := by decide +kernel
theorem dX12_hearsAt_7 : decode cX12_hearsAt 7 = .ok (.if_icmp .ge 7, 3) := by decide +kernel
theorem dX12_hearsAt_10 : decode cX12_hearsAt 10 = .ok (.iconst (-1), 1) := by decide +kernel
theorem dX12_hearsAt_11 : decode cX12_hearsAt 11 = .ok (.goto 24, 3) := by decide +kernel
theorem dX12_hearsAt_14 : decode cX12_hearsAt 14 = .ok (.aload_n 0, 1) := by decide +kernel
theorem dX12_hearsAt_15 : decode cX12_hearsAt 15 = .ok (.getfield 68, 3) := by decide +kernel
theorem dX12_hearsAt_18 : decode cX12_hearsAt 18 = .ok (.sipush 200, 3) := by decide +kernel
theorem dX12_hearsAt_21 : decode cX12_hearsAt 21 = .ok (.iconst 1, 1) := by decide +kernel
theorem dX12_hearsAt_22 : decode cX12_hearsAt 22 = .ok (.iload_n 1, 1) := by decide +kernel
theorem dX12_hearsAt_23 : decode cX12_hearsAt 23 = .ok (.isub, 1) := by decide +kernel
theorem dX12_hearsAt_24 : decode cX12_hearsAt 24 = .ok (.imul, 1) := by decide +kernel
theorem dX12_hearsAt_25 : decode cX12_hearsAt 25 = .ok (.iload_n 2, 1) := by decide +kernel
theorem dX12_hearsAt_26 : decode cX12_hearsAt 26 = .ok (.iadd, 1) := by decide +kernel
theorem dX12_hearsAt_27 : decode cX12_hearsAt 27 = .ok (.aload_n 0, 1) := by decide +kernel
theorem dX12_hearsAt_28 : decode cX12_hearsAt 28 = .ok (.getfield 34, 3) := by decide +kernel
theorem dX12_hearsAt_31 : decode cX12_hearsAt 31 = .ok (.iconst 0, 1) := by decide +kernel
theorem dX12_hearsAt_32 : decode cX12_hearsAt 32 = .ok (.iaload, 1) := by decide +kernel
theorem dX12_hearsAt_33 : decode cX12_hearsAt 33 = .ok (.isub, 1) := by decide +kernel
theorem dX12_hearsAt_34 : decode cX12_hearsAt 34 = .ok (.iaload, 1) := by decide +kernel
theorem dX12_hearsAt_35 : decode cX12_hearsAt 35 = .ok (.ireturn, 1) := by decide +kernel
theorem wrr_wsX12_clashes {i : Nat} {w : Cond} (h : wsX12_clashes[i]? = some w) : w ∈ wsX12_clashes := List.mem_of_getElem? h
theorem wru_wsX12_clashes_wsX120 : ∀ w ∈ wsX120, w ∈ wsX12_clashes := fun w h => (List.mem_cons_of_mem _ (List.mem_append_right _ h))
set_option maxRecDepth 20000 in
theorem gw_wsX12_isBit : wsX12_isBit.all goodWord = true := by decide +kernel
set_option maxRecDepth 20000 in
theorem ggX12_clashes_X12_isBit : GoodIn wsX12_clashes wsX12_isBit := goodIn_sub (List.forall_mem_cons.mpr ⟨wrr_wsX12_clashes (i := 5) rfl, (fun _ h => absurd h List.not_mem_nil)⟩) gw_wsX12_isBit
set_option maxRecDepth 20000 in
theorem gX12_clashes_X12_isBit : GoodIn wsX12_clashes (va_wsS RX12 280 yX12_isBit wsX12_isBit) := goodIn_app (goodIn_sub (List.forall_mem_cons.mpr ⟨wrr_wsX12_clashes (i := 2) rfl, (List.forall_mem_cons.mpr ⟨wrr_wsX12_clashes (i := 3) rfl, (List.forall_mem_cons.mpr ⟨wrr_wsX12_clashes (i := 4) rfl, (fun _ h => absurd h List.not_mem_nil)⟩)⟩)⟩) (by decide +kernel)) ggX12_clashes_X12_isBit
theorem dX12_clashes_0 : decode cX12_clashes 0 = .ok (.iload_n 1, 1) := by decide +kernel
theorem dX12_clashes_1 : decode cX12_clashes 1 = .ok (.iconst (-1), 1) := by decide +kernel
theorem dX12_clashes_2 : decode cX12_clashes 2 = .ok (.if_icmp .eq 25, 3) := by decide +kernel
theorem dX12_clashes_5 : decode cX12_clashes 5 = .ok (.iload_n 2, 1) := by decide +kernel
theorem dX12_clashes_6 : decode cX12_clashes 6 = .ok (.iconst (-1), 1) := by decide +kernel
theorem dX12_clashes_7 : decode cX12_clashes 7 = .ok (.if_icmp .eq 20, 3) := by decide +kernel
theorem dX12_clashes_10 : decode cX12_clashes 10 = .ok (.aload_n 0, 1) := by decide +kernel
theorem dX12_clashes_11 : decode cX12_clashes 11 = .ok (.getfield 40, 3) := by decide +kernel
theorem dX12_clashes_14 : decode cX12_clashes 14 = .ok (.iload_n 1, 1) := by decide +kernel
theorem dX12_clashes_15 : decode cX12_clashes 15 = .ok (.iaload, 1) := by decide +kernel
theorem dX12_clashes_16 : decode cX12_clashes 16 = .ok (.iload_n 2, 1) := by decide +kernel
theorem dX12_clashes_17 : decode cX12_clashes 17 = .ok (.invokestatic 280, 3) := by decide +kernel
theorem dX12_clashes_20 : decode cX12_clashes 20 = .ok (.ifCond .ne 7, 3) := by decide +kernel
theorem dX12_clashes_23 : decode cX12_clashes 23 = .ok (.iconst 1, 1) := by decide +kernel
theorem dX12_clashes_24 : decode cX12_clashes 24 = .ok (.goto 4, 3) := by decide +kernel
theorem dX12_clashes_27 : decode cX12_clashes 27 = .ok (.iconst 0, 1) := by decide +kernel
theorem dX12_clashes_28 : decode cX12_clashes 28 = .ok (.ireturn, 1) := by decide +kernel
theorem wrr_wsX12_isHole {i : Nat} {w : Cond} (h : wsX12_isHole[i]? = some w) : w ∈ wsX12_isHole := List.mem_of_getElem? h
theorem wru_wsX12_isHole_wsX120 : ∀ w ∈ wsX120, w ∈ wsX12_isHole := fun w h => (List.mem_cons_of_mem _ (List.mem_append_right _ h))
set_option maxRecDepth 20000 in
theorem gw_wsX12_hearsAt : wsX12_hearsAt.all goodWord = true := by decide +kernel
set_option maxRecDepth 20000 in
theorem ggX12_isHole_X12_hearsAt : GoodIn wsX12_isHole wsX12_hearsAt := goodIn_sub (List.forall_mem_cons.mpr ⟨wrr_wsX12_isHole (i := 6) rfl, (List.forall_mem_append.mpr ⟨(List.forall_mem_cons.mpr ⟨wrr_wsX12_isHole (i := 7) rfl, (List.forall_mem_cons.mpr ⟨wrr_wsX12_isHole (i := 1) rfl, (fun _ h => absurd h List.not_mem_nil)⟩)⟩), wru_wsX12_isHole_wsX120⟩)⟩) gw_wsX12_hearsAt
set_option maxRecDepth 20000 in
theorem gX12_isHole_X12_hearsAt : GoodIn wsX12_isHole (wsV RX12 284 RX12 yX12_hearsAt wsX12_hearsAt) := goodIn_app (goodIn_sub (List.forall_mem_cons.mpr ⟨wrr_wsX12_isHole (i := 2) rfl, (List.forall_mem_cons.mpr ⟨wrr_wsX12_isHole (i := 3) rfl, (List.forall_mem_cons.mpr ⟨wrr_wsX12_isHole (i := 4) rfl, (List.forall_mem_cons.mpr ⟨wrr_wsX12_isHole (i := 5) rfl, (fun _ h => absurd h List.not_mem_nil)⟩)⟩)⟩)⟩) (by decide +kernel)) ggX12_isHole_X12_hearsAt
set_option maxRecDepth 20000 in
theorem gw_wsX12_clashes : wsX12_clashes.all goodWord = true := by decide +kernel
set_option maxRecDepth 20000 in
theorem ggX12_isHole_X12_clashes : GoodIn wsX12_isHole wsX12_clashes := goodIn_sub (List.forall_mem_cons.mpr ⟨wrr_wsX12_isHole (i := 11) rfl, (List.forall_mem_append.mpr ⟨(List.forall_mem_cons.mpr ⟨wrr_wsX12_isHole (i := 12) rfl, (List.forall_mem_cons.mpr ⟨wrr_wsX12_isHole (i := 13) rfl, (List.forall_mem_cons.mpr ⟨wrr_wsX12_isHole (i := 14) rfl, (List.forall_mem_cons.mpr ⟨wrr_wsX12_isHole (i := 5) rfl, (List.forall_mem_cons.mpr ⟨wrr_wsX12_isHole (i := 15) rfl, (fun _ h => absurd h List.not_mem_nil)⟩)⟩)⟩)⟩)⟩), wru_wsX12_isHole_wsX120⟩)⟩) gw_wsX12_clashes
set_option maxRecDepth 20000 in
theorem gX12_isHole_X12_clashes : GoodIn wsX12_isHole (wsV RX12 287 RX12 yX12_clashes wsX12_clashes) := goodIn_app (goodIn_sub (List.forall_mem_cons.mpr ⟨wrr_wsX12_isHole (i := 8) rfl, (List.forall_mem_cons.mpr ⟨wrr_wsX12_isHole (i := 9) rfl, (List.forall_mem_cons.mpr ⟨wrr_wsX12_isHole (i := 10) rfl, (List.forall_mem_cons.mpr ⟨wrr_wsX12_isHole (i := 5) rfl, (fun _ h => absurd h List.not_mem_nil)⟩)⟩)⟩)⟩) (by decide +kernel)) ggX12_isHole_X12_clashes
theorem dX12_isHole_0 : decode cX12_isHole 0 = .ok (.aload_n 0, 1) := by decide +kernel
theorem dX12_isHole_1 : decode cX12_isHole 1 = .ok (.aload_n 0, 1) := by decide +kernel
theorem dX12_isHole_2 : decode cX12_isHole 2 = .ok (.getfield 68, 3) := by decide +kernel
theorem dX12_isHole_5 : decode cX12_isHole 5 = .ok (.sipush 200, 3) := by decide +kernel
theorem dX12_isHole_8 : decode cX12_isHole 8 = .ok (.iload_n 1, 1) := by decide +kernel
theorem dX12_isHole_9 : decode cX12_isHole 9 = .ok (.imul, 1) := by decide +kernel
theorem dX12_isHole_10 : decode cX12_isHole 10 = .ok (.iload_n 2, 1) := by decide +kernel
theorem dX12_isHole_11 : decode cX12_isHole 11 = .ok (.iadd, 1) := by decide +kernel
theorem dX12_isHole_12 : decode cX12_isHole 12 = .ok (.iaload, 1) := by decide +kernel
theorem dX12_isHole_13 : decode cX12_isHole 13 = .ok (.aload_n 0, 1) := by decide +kernel
theorem dX12_isHole_14 : decode cX12_isHole 14 = .ok (.iload_n 1, 1) := by decide +kernel
theorem dX12_isHole_15 : decode cX12_isHole 15 = .ok (.iload_n 2, 1) := by decide +kernel
theorem dX12_isHole_16 : decode cX12_isHole 16 = .ok (.invokevirtual 284, 3) := by decide +kernel
theorem dX12_isHole_19 : decode cX12_isHole 19 = .ok (.invokevirtual 287, 3) := by decide +kernel
theorem dX12_isHole_22 : decode cX12_isHole 22 = .ok (.ireturn, 1) := by decide +kernel
theorem wrr_wsX12_place {i : Nat} {w : Cond} (h : wsX12_place[i]? = some w) : w ∈ wsX12_place := List.mem_of_getElem? h
theorem wrr_wsX12_place_wsX12_place_r1 {i : Nat} {w : Cond} (h : wsX12_place_r1[i]? = some w) : w ∈ wsX12_place := (List.mem_cons_of_mem _ (List.mem_append_left _ (List.mem_append_left _ (List.mem_of_getElem? h))))
theorem wrr_wsX12_place_wsX12_place_r2 {i : Nat} {w : Cond} (h : wsX12_place_r2[i]? = some w) : w ∈ wsX12_place := (List.mem_cons_of_mem _ (List.mem_append_left _ (List.mem_append_right _ (List.mem_of_getElem? h))))
theorem wru_wsX12_place_wsX120 : ∀ w ∈ wsX120, w ∈ wsX12_place := fun w h => (List.mem_cons_of_mem _ (List.mem_append_right _ h))
set_option maxRecDepth 20000 in
theorem ggX12_place_X12_isSide : GoodIn wsX12_place wsX12_isSide := goodIn_sub (List.forall_mem_cons.mpr ⟨wrr_wsX12_place_wsX12_place_r1 (i := 6) rfl, (List.forall_mem_append.mpr ⟨(List.forall_mem_cons.mpr ⟨wrr_wsX12_place_wsX12_place_r1 (i := 7) rfl, (List.forall_mem_cons.mpr ⟨wrr_wsX12_place_wsX12_place_r1 (i := 8) rfl, (List.forall_mem_cons.mpr ⟨wrr_wsX12_place_wsX12_place_r1 (i := 9) rfl, (List.forall_mem_cons.mpr ⟨wrr_wsX12_place_wsX12_place_r1 (i := 5) rfl, (List.forall_mem_cons.mpr ⟨wrr_wsX12_place_wsX12_place_r1 (i := 10) rfl, (List.forall_mem_cons.mpr ⟨wrr_wsX12_place_wsX12_place_r1 (i := 11) rfl, (List.forall_mem_cons.mpr ⟨wrr_wsX12_place_wsX12_place_r1 (i := 12) rfl, (List.forall_mem_cons.mpr ⟨wrr_wsX12_place_wsX12_place_r1 (i := 13) rfl, (List.forall_mem_cons.mpr ⟨wrr_wsX12_place_wsX12_place_r1 (i := 14) rfl, (fun _ h => absurd h List.not_mem_nil)⟩)⟩)⟩)⟩)⟩)⟩)⟩)⟩)⟩), wru_wsX12_place_wsX120⟩)⟩) gw_wsX12_isSide
set_option maxRecDepth 20000 in
theorem gX12_place_X12_isSide : GoodIn wsX12_place (wsV RX12 261 RX12 yX12_isSide wsX12_isSide) := goodIn_app (goodIn_sub (List.forall_mem_cons.mpr ⟨wrr_wsX12_place_wsX12_place_r1 (i := 2) rfl, (List.forall_mem_cons.mpr ⟨wrr_wsX12_place_wsX12_place_r1 (i := 3) rfl, (List.forall_mem_cons.mpr ⟨wrr_wsX12_place_wsX12_place_r1 (i := 4) rfl, (List.forall_mem_cons.mpr ⟨wrr_wsX12_place_wsX12_place_r1 (i := 5) rfl, (fun _ h => absurd h List.not_mem_nil)⟩)⟩)⟩)⟩) (by decide +kernel)) ggX12_place_X12_isSide
set_option maxRecDepth 20000 in
theorem ggX12_place_X12_isBeat : GoodIn wsX12_place wsX12_isBeat := goodIn_sub (List.forall_mem_cons.mpr ⟨wrr_wsX12_place_wsX12_place_r1 (i := 17) rfl, (List.forall_mem_cons.mpr ⟨wrr_wsX12_place_wsX12_place_r1 (i := 18) rfl, (List.forall_mem_cons.mpr ⟨wrr_wsX12_place_wsX12_place_r1 (i := 12) rfl, (List.forall_mem_cons.mpr ⟨wrr_wsX12_place_wsX12_place_r1 (i := 13) rfl, (List.forall_mem_cons.mpr ⟨wrr_wsX12_place_wsX12_place_r1 (i := 5) rfl, (List.forall_mem_cons.mpr ⟨wrr_wsX12_place_wsX12_place_r1 (i := 14) rfl, (fun _ h => absurd h List.not_mem_nil)⟩)⟩)⟩)⟩)⟩)⟩) gw_wsX12_isBeat
set_option maxRecDepth 20000 in
theorem gX12_place_X12_isBeat : GoodIn wsX12_place (va_wsS RX12 270 yX12_isBeat wsX12_isBeat) := goodIn_app (goodIn_sub (List.forall_mem_cons.mpr ⟨wrr_wsX12_place_wsX12_place_r1 (i := 15) rfl, (List.forall_mem_cons.mpr ⟨wrr_wsX12_place_wsX12_place_r1 (i := 16) rfl, (List.forall_mem_cons.mpr ⟨wrr_wsX12_place_wsX12_place_r1 (i := 5) rfl, (fun _ h => absurd h List.not_mem_nil)⟩)⟩)⟩) (by decide +kernel)) ggX12_place_X12_isBeat
set_option maxRecDepth 20000 in
theorem gw_wsX12_lays : wsX12_lays.all goodWord = true := by decide +kernel
set_option maxRecDepth 20000 in
theorem ggX12_place_X12_lays : GoodIn wsX12_place wsX12_lays := goodIn_sub (List.forall_mem_cons.mpr ⟨wrr_wsX12_place_wsX12_place_r1 (i := 22) rfl, (List.forall_mem_append.mpr ⟨(List.forall_mem_cons.mpr ⟨wrr_wsX12_place_wsX12_place_r1 (i := 23) rfl, (List.forall_mem_cons.mpr ⟨wrr_wsX12_place_wsX12_place_r2 (i := 0) rfl, (List.forall_mem_cons.mpr ⟨wrr_wsX12_place_wsX12_place_r2 (i := 1) rfl, (List.forall_mem_cons.mpr ⟨wrr_wsX12_place_wsX12_place_r1 (i := 5) rfl, (List.forall_mem_cons.mpr ⟨wrr_wsX12_place_wsX12_place_r2 (i := 2) rfl, (List.forall_mem_cons.mpr ⟨wrr_wsX12_place_wsX12_place_r2 (i := 3) rfl, (List.forall_mem_cons.mpr ⟨wrr_wsX12_place_wsX12_place_r2 (i := 4) rfl, (List.forall_mem_cons.mpr ⟨wrr_wsX12_place_wsX12_place_r2 (i := 5) rfl, (List.forall_mem_cons.mpr ⟨wrr_wsX12_place_wsX12_place_r2 (i := 6) rfl, (List.forall_mem_cons.mpr ⟨wrr_wsX12_place_wsX12_place_r2 (i := 7) rfl, (List.forall_mem_cons.mpr ⟨wrr_wsX12_place_wsX12_place_r1 (i := 1) rfl, (List.forall_mem_cons.mpr ⟨wrr_wsX12_place_wsX12_place_r2 (i := 8) rfl, (List.forall_mem_cons.mpr ⟨wrr_wsX12_place_wsX12_place_r2 (i := 9) rfl, (List.forall_mem_cons.mpr ⟨wrr_wsX12_place_wsX12_place_r2 (i := 10) rfl, (List.forall_mem_cons.mpr ⟨wrr_wsX12_place_wsX12_place_r2 (i := 11) rfl, (List.forall_mem_cons.mpr ⟨wrr_wsX12_place_wsX12_place_r2 (i := 12) rfl, (List.forall_mem_cons.mpr ⟨wrr_wsX12_place_wsX12_place_r2 (i := 13) rfl, (List.forall_mem_cons.mpr ⟨wrr_wsX12_place_wsX12_place_r2 (i := 14) rfl, (List.forall_mem_cons.mpr ⟨wrr_wsX12_place_wsX12_place_r2 (i := 15) rfl, (fun _ h => absurd h List.not_mem_nil)⟩)⟩)⟩)⟩)⟩)⟩)⟩)⟩)⟩)⟩)⟩)⟩)⟩)⟩)⟩)⟩)⟩)⟩)⟩), wru_wsX12_place_wsX120⟩)⟩) gw_wsX12_lays
set_option maxRecDepth 20000 in
theorem gX12_place_X12_lays : GoodIn wsX12_place (wsV RX12 290 RX12 yX12_lays wsX12_lays) := goodIn_app (goodIn_sub (List.forall_mem_cons.mpr ⟨wrr_wsX12_place_wsX12_place_r1 (i := 19) rfl, (List.forall_mem_cons.mpr ⟨wrr_wsX12_place_wsX12_place_r1 (i := 20) rfl, (List.forall_mem_cons.mpr ⟨wrr_wsX12_place_wsX12_place_r1 (i := 21) rfl, (List.forall_mem_cons.mpr ⟨wrr_wsX12_place_wsX12_place_r1 (i := 5) rfl, (fun _ h => absurd h List.not_mem_nil)⟩)⟩)⟩)⟩) (by decide +kernel)) ggX12_place_X12_lays
theorem dX12_place_0 : decode cX12_place 0 = .ok (.aload_n 0, 1) := by decide +kernel
theorem dX12_place_1 : decode cX12_place 1 = .ok (.iconst 0, 1) := by decide +kernel
theorem dX12_place_2 : decode cX12_place 2 = .ok (.putfield 80, 3) := by decide +kernel
theorem dX12_place_5 : decode cX12_place 5 = .ok (.aload_n 0, 1) := by decide +kernel
theorem dX12_place_6 : decode cX12_place 6 = .ok (.iload_n 1, 1) := by decide +kernel
theorem dX12_place_7 : decode cX12_place 7 = .ok (.invokevirtual 261, 3) := by decide +kernel
theorem dX12_place_10 : decode cX12_place 10 = .ok (.ifCond .eq 11, 3) := by decide +kernel
theorem dX12_place_13 : decode cX12_place 13 = .ok (.iload_n 2, 1) := by decide +kernel
theorem dX12_place_14 : decode cX12_place 14 = .ok (.i2l, 1) := by decide +kernel
theorem dX12_place_15 : decode cX12_place 15 = .ok (.invokestatic 270, 3) := by decide +kernel
theorem dX12_place_18 : decode cX12_place 18 = .ok (.ifCond .ne 6, 3) := by decide +kernel
theorem dX12_place_21 : decode cX12_place 21 = .ok (.bipush (-2), 2) := by decide +kernel
theorem dX12_place_23 : decode cX12_place 23 = .ok (.ireturn, 1) := by decide +kernel
theorem dX12_place_24 : decode cX12_place 24 = .ok (.aload_n 0, 1) := by decide +kernel
theorem dX12_place_25 : decode cX12_place 25 = .ok (.invokevirtual 290, 3) := by decide +kernel
theorem dX12_place_28 : decode cX12_place 28 = .ok (.aload_n 0, 1) := by decide +kernel
theorem dX12_place_29 : decode cX12_place 29 = .ok (.getfield 65, 3) := by decide +kernel
theorem dX12_place_32 : decode cX12_place 32 = .ok (.sipush 201, 3) := by decide +kernel
theorem dX12_place_35 : decode cX12_place 35 = .ok (.iload_n 1, 1) := by decide +kernel
theorem dX12_place_36 : decode cX12_place 36 = .ok (.imul, 1) := by decide +kernel
theorem dX12_place_37 : decode cX12_place 37 = .ok (.iload_n 2, 1) := by decide +kernel
theorem dX12_place_38 : decode cX12_place 38 = .ok (.iadd, 1) := by decide +kernel
theorem dX12_place_39 : decode cX12_place 39 = .ok (.iaload, 1) := by decide +kernel
theorem dX12_place_40 : decode cX12_place 40 = .ok (.ireturn, 1) := by decide +kernel
theorem wrr_wsX12_danced {i : Nat} {w : Cond} (h : wsX12_danced[i]? = some w) : w ∈ wsX12_danced := List.mem_of_getElem? h
theorem wrr_wsX12_danced_wsX12_danced_r1 {i : Nat} {w : Cond} (h : wsX12_danced_r1[i]? = some w) : w ∈ wsX12_danced := (List.mem_cons_of_mem _ (List.mem_append_left _ (List.mem_append_left _ (List.mem_of_getElem? h))))
theorem wrr_wsX12_danced_wsX12_danced_r2 {i : Nat} {w : Cond} (h : wsX12_danced_r2[i]? = some w) : w ∈ wsX12_danced := (List.mem_cons_of_mem _ (List.mem_append_left _ (List.mem_append_right _ (List.mem_of_getElem? h))))
theorem wru_wsX12_danced_wsX120 : ∀ w ∈ wsX120, w ∈ wsX12_danced := fun w h => (List.mem_cons_of_mem _ (List.mem_append_right _ h))
set_option maxRecDepth 20000 in
theorem ggX12_danced_X12_isSide : GoodIn wsX12_danced wsX12_isSide := goodIn_sub (List.forall_mem_cons.mpr ⟨wrr_wsX12_danced_wsX12_danced_r1 (i := 6) rfl, (List.forall_mem_append.mpr ⟨(List.forall_mem_cons.mpr ⟨wrr_wsX12_danced_wsX12_danced_r1 (i := 7) rfl, (List.forall_mem_cons.mpr ⟨wrr_wsX12_danced_wsX12_danced_r1 (i := 8) rfl, (List.forall_mem_cons.mpr ⟨wrr_wsX12_danced_wsX12_danced_r1 (i := 9) rfl, (List.forall_mem_cons.mpr ⟨wrr_wsX12_danced_wsX12_danced_r1 (i := 5) rfl, (List.forall_mem_cons.mpr ⟨wrr_wsX12_danced_wsX12_danced_r1 (i := 10) rfl, (List.forall_mem_cons.mpr ⟨wrr_wsX12_danced_wsX12_danced_r1 (i := 11) rfl, (List.forall_mem_cons.mpr ⟨wrr_wsX12_danced_wsX12_danced_r1 (i := 12) rfl, (List.forall_mem_cons.mpr ⟨wrr_wsX12_danced_wsX12_danced_r1 (i := 13) rfl, (List.forall_mem_cons.mpr ⟨wrr_wsX12_danced_wsX12_danced_r1 (i := 14) rfl, (fun _ h => absurd h List.not_mem_nil)⟩)⟩)⟩)⟩)⟩)⟩)⟩)⟩)⟩), wru_wsX12_danced_wsX120⟩)⟩) gw_wsX12_isSide
set_option maxRecDepth 20000 in
theorem gX12_danced_X12_isSide : GoodIn wsX12_danced (wsV RX12 261 RX12 yX12_isSide wsX12_isSide) := goodIn_app (goodIn_sub (List.forall_mem_cons.mpr ⟨wrr_wsX12_danced_wsX12_danced_r1 (i := 2) rfl, (List.forall_mem_cons.mpr ⟨wrr_wsX12_danced_wsX12_danced_r1 (i := 3) rfl, (List.forall_mem_cons.mpr ⟨wrr_wsX12_danced_wsX12_danced_r1 (i := 4) rfl, (List.forall_mem_cons.mpr ⟨wrr_wsX12_danced_wsX12_danced_r1 (i := 5) rfl, (fun _ h => absurd h List.not_mem_nil)⟩)⟩)⟩)⟩) (by decide +kernel)) ggX12_danced_X12_isSide
set_option maxRecDepth 20000 in
theorem ggX12_danced_X12_isBeat : GoodIn wsX12_danced wsX12_isBeat := goodIn_sub (List.forall_mem_cons.mpr ⟨wrr_wsX12_danced_wsX12_danced_r1 (i := 17) rfl, (List.forall_mem_cons.mpr ⟨wrr_wsX12_danced_wsX12_danced_r1 (i := 18) rfl, (List.forall_mem_cons.mpr ⟨wrr_wsX12_danced_wsX12_danced_r1 (i := 12) rfl, (List.forall_mem_cons.mpr ⟨wrr_wsX12_danced_wsX12_danced_r1 (i := 13) rfl, (List.forall_mem_cons.mpr ⟨wrr_wsX12_danced_wsX12_danced_r1 (i := 5) rfl, (List.forall_mem_cons.mpr ⟨wrr_wsX12_danced_wsX12_danced_r1 (i := 14) rfl, (fun _ h => absurd h List.not_mem_nil)⟩)⟩)⟩)⟩)⟩)⟩) gw_wsX12_isBeat
set_option maxRecDepth 20000 in
theorem gX12_danced_X12_isBeat : GoodIn wsX12_danced (va_wsS RX12 270 yX12_isBeat wsX12_isBeat) := goodIn_app (goodIn_sub (List.forall_mem_cons.mpr ⟨wrr_wsX12_danced_wsX12_danced_r1 (i := 15) rfl, (List.forall_mem_cons.mpr ⟨wrr_wsX12_danced_wsX12_danced_r1 (i := 16) rfl, (List.forall_mem_cons.mpr ⟨wrr_wsX12_danced_wsX12_danced_r1 (i := 5) rfl, (fun _ h => absurd h List.not_mem_nil)⟩)⟩)⟩) (by decide +kernel)) ggX12_danced_X12_isBeat
set_option maxRecDepth 20000 in
theorem ggX12_danced_X12_lays : GoodIn wsX12_danced wsX12_lays := goodIn_sub (List.forall_mem_cons.mpr ⟨wrr_wsX12_danced_wsX12_danced_r1 (i := 22) rfl, (List.forall_mem_append.mpr ⟨(List.forall_mem_cons.mpr ⟨wrr_wsX12_danced_wsX12_danced_r1 (i := 23) rfl, (List.forall_mem_cons.mpr ⟨wrr_wsX12_danced_wsX12_danced_r2 (i := 0) rfl, (List.forall_mem_cons.mpr ⟨wrr_wsX12_danced_wsX12_danced_r2 (i := 1) rfl, (List.forall_mem_cons.mpr ⟨wrr_wsX12_danced_wsX12_danced_r1 (i := 5) rfl, (List.forall_mem_cons.mpr ⟨wrr_wsX12_danced_wsX12_danced_r2 (i := 2) rfl, (List.forall_mem_cons.mpr ⟨wrr_wsX12_danced_wsX12_danced_r2 (i := 3) rfl, (List.forall_mem_cons.mpr ⟨wrr_wsX12_danced_wsX12_danced_r2 (i := 4) rfl, (List.forall_mem_cons.mpr ⟨wrr_wsX12_danced_wsX12_danced_r2 (i := 5) rfl, (List.forall_mem_cons.mpr ⟨wrr_wsX12_danced_wsX12_danced_r2 (i := 6) rfl, (List.forall_mem_cons.mpr ⟨wrr_wsX12_danced_wsX12_danced_r2 (i := 7) rfl, (List.forall_mem_cons.mpr ⟨wrr_wsX12_danced_wsX12_danced_r2 (i := 8) rfl, (List.forall_mem_cons.mpr ⟨wrr_wsX12_danced_wsX12_danced_r1 (i := 1) rfl, (List.forall_mem_cons.mpr ⟨wrr_wsX12_danced_wsX12_danced_r2 (i := 9) rfl, (List.forall_mem_cons.mpr ⟨wrr_wsX12_danced_wsX12_danced_r2 (i := 10) rfl, (List.forall_mem_cons.mpr ⟨wrr_wsX12_danced_wsX12_danced_r2 (i := 11) rfl, (List.forall_mem_cons.mpr ⟨wrr_wsX12_danced_wsX12_danced_r2 (i := 12) rfl, (List.forall_mem_cons.mpr ⟨wrr_wsX12_danced_wsX12_danced_r2 (i := 13) rfl, (List.forall_mem_cons.mpr ⟨wrr_wsX12_danced_wsX12_danced_r2 (i := 14) rfl, (List.forall_mem_cons.mpr ⟨wrr_wsX12_danced_wsX12_danced_r2 (i := 15) rfl, (fun _ h => absurd h List.not_mem_nil)⟩)⟩)⟩)⟩)⟩)⟩)⟩)⟩)⟩)⟩)⟩)⟩)⟩)⟩)⟩)⟩)⟩)⟩)⟩), wru_wsX12_danced_wsX120⟩)⟩) gw_wsX12_lays
set_option maxRecDepth 20000 in
theorem gX12_danced_X12_lays : GoodIn wsX12_danced (wsV RX12 290 RX12 yX12_lays wsX12_lays) := goodIn_app (goodIn_sub (List.forall_mem_cons.mpr ⟨wrr_wsX12_danced_wsX12_danced_r1 (i := 19) rfl, (List.forall_mem_cons.mpr ⟨wrr_wsX12_danced_wsX12_danced_r1 (i := 20) rfl, (List.forall_mem_cons.mpr ⟨wrr_wsX12_danced_wsX12_danced_r1 (i := 21) rfl, (List.forall_mem_cons.mpr ⟨wrr_wsX12_danced_wsX12_danced_r1 (i := 5) rfl, (fun _ h => absurd h List.not_mem_nil)⟩)⟩)⟩)⟩) (by decide +kernel)) ggX12_danced_X12_lays
theorem dX12_danced_0 : decode cX12_danced 0 = .ok (.aload_n 0, 1) := by decide +kernel
theorem dX12_danced_1 : decode cX12_danced 1 = .ok (.iconst 0, 1) := by decide +kernel
theorem dX12_danced_2 : decode cX12_danced 2 = .ok (.putfield 80, 3) := by decide +kernel
theorem dX12_danced_5 : decode cX12_danced 5 = .ok (.aload_n 0, 1) := by decide +kernel
theorem dX12_danced_6 : decode cX12_danced 6 = .ok (.iload_n 1, 1) := by decide +kernel
theorem dX12_danced_7 : decode cX12_danced 7 = .ok (.invokevirtual 261, 3) := by decide +kernel
theorem dX12_danced_10 : decode cX12_danced 10 = .ok (.ifCond .eq 11, 3) := by decide +kernel
theorem dX12_danced_13 : decode cX12_danced 13 = .ok (.iload_n 2, 1) := by decide +kernel
theorem dX12_danced_14 : decode cX12_danced 14 = .ok (.i2l, 1) := by decide +kernel
theorem dX12_danced_15 : decode cX12_danced 15 = .ok (.invokestatic 270, 3) := by decide +kernel
theorem dX12_danced_18 : decode cX12_danced 18 = .ok (.ifCond .ne 6, 3) := by decide +kernel
theorem dX12_danced_21 : decode cX12_danced 21 = .ok (.bipush (-2), 2) := by decide +kernel
theorem dX12_danced_23 : decode cX12_danced 23 = .ok (.ireturn, 1) := by decide +kernel
theorem dX12_danced_24 : decode cX12_danced 24 = .ok (.aload_n 0, 1) := by decide +kernel
theorem dX12_danced_25 : decode cX12_danced 25 = .ok (.invokevirtual 290, 3) := by decide +kernel
theorem dX12_danced_28 : decode cX12_danced 28 = .ok (.aload_n 0, 1) := by decide +kernel
theorem dX12_danced_29 : decode cX12_danced 29 = .ok (.getfield 68, 3) := by decide +kernel
theorem dX12_danced_32 : decode cX12_danced 32 = .ok (.sipush 200, 3) := by decide +kernel
theorem dX12_danced_35 : decode cX12_danced 35 = .ok (.iload_n 1, 1) := by decide +kernel
theorem dX12_danced_36 : decode cX12_danced 36 = .ok (.imul, 1) := by decide +kernel
theorem dX12_danced_37 : decode cX12_danced 37 = .ok (.iload_n 2, 1) := by decide +kernel
theorem dX12_danced_38 : decode cX12_danced 38 = .ok (.iadd, 1) := by decide +kernel
theorem dX12_danced_39 : decode cX12_danced 39 = .ok (.iaload, 1) := by decide +kernel
theorem dX12_danced_40 : decode cX12_danced 40 = .ok (.ireturn, 1) := by decide +kernel
theorem wrr_wsX12_hears {i : Nat} {w : Cond} (h : wsX12_hears[i]? = some w) : w ∈ wsX12_hears := List.mem_of_getElem? h
theorem wrr_wsX12_hears_wsX12_hears_r1 {i : Nat} {w : Cond} (h : wsX12_hears_r1[i]? = some w) : w ∈ wsX12_hears := (List.mem_cons_of_mem _ (List.mem_append_left _ (List.mem_append_left _ (List.mem_of_getElem? h))))
theorem wrr_wsX12_hears_wsX12_hears_r2 {i : Nat} {w : Cond} (h : wsX12_hears_r2[i]? = some w) : w ∈ wsX12_hears := (List.mem_cons_of_mem _ (List.mem_append_left _ (List.mem_append_right _ (List.mem_of_getElem? h))))
theorem wru_wsX12_hears_wsX120 : ∀ w ∈ wsX120, w ∈ wsX12_hears := fun w h => (List.mem_cons_of_mem _ (List.mem_append_right _ h))
set_option maxRecDepth 20000 in
theorem ggX12_hears_X12_isSide : GoodIn wsX12_hears wsX12_isSide := goodIn_sub (List.forall_mem_cons.mpr ⟨wrr_wsX12_hears_wsX12_hears_r1 (i := 5) rfl, (List.forall_mem_append.mpr ⟨(List.forall_mem_cons.mpr ⟨wrr_wsX12_hears_wsX12_hears_r1 (i := 6) rfl, (List.forall_mem_cons.mpr ⟨wrr_wsX12_hears_wsX12_hears_r1 (i := 7) rfl, (List.forall_mem_cons.mpr ⟨wrr_wsX12_hears_wsX12_hears_r1 (i := 8) rfl, (List.forall_mem_cons.mpr ⟨wrr_wsX12_hears_wsX12_hears_r1 (i := 4) rfl, (List.forall_mem_cons.mpr ⟨wrr_wsX12_hears_wsX12_hears_r1 (i := 9) rfl, (List.forall_mem_cons.mpr ⟨wrr_wsX12_hears_wsX12_hears_r1 (i := 10) rfl, (List.forall_mem_cons.mpr ⟨wrr_wsX12_hears_wsX12_hears_r1 (i := 11) rfl, (List.forall_mem_cons.mpr ⟨wrr_wsX12_hears_wsX12_hears_r1 (i := 12) rfl, (List.forall_mem_cons.mpr ⟨wrr_wsX12_hears_wsX12_hears_r1 (i := 13) rfl, (fun _ h => absurd h List.not_mem_nil)⟩)⟩)⟩)⟩)⟩)⟩)⟩)⟩)⟩), wru_wsX12_hears_wsX120⟩)⟩) gw_wsX12_isSide
set_option maxRecDepth 20000 in
theorem gX12_hears_X12_isSide : GoodIn wsX12_hears (wsV RX12 261 RX12 yX12_isSide wsX12_isSide) := goodIn_app (goodIn_sub (List.forall_mem_cons.mpr ⟨wrr_wsX12_hears_wsX12_hears_r1 (i := 1) rfl, (List.forall_mem_cons.mpr ⟨wrr_wsX12_hears_wsX12_hears_r1 (i := 2) rfl, (List.forall_mem_cons.mpr ⟨wrr_wsX12_hears_wsX12_hears_r1 (i := 3) rfl, (List.forall_mem_cons.mpr ⟨wrr_wsX12_hears_wsX12_hears_r1 (i := 4) rfl, (fun _ h => absurd h List.not_mem_nil)⟩)⟩)⟩)⟩) (by decide +kernel)) ggX12_hears_X12_isSide
set_option maxRecDepth 20000 in
theorem ggX12_hears_X12_isBeat : GoodIn wsX12_hears wsX12_isBeat := goodIn_sub (List.forall_mem_cons.mpr ⟨wrr_wsX12_hears_wsX12_hears_r1 (i := 16) rfl, (List.forall_mem_cons.mpr ⟨wrr_wsX12_hears_wsX12_hears_r1 (i := 17) rfl, (List.forall_mem_cons.mpr ⟨wrr_wsX12_hears_wsX12_hears_r1 (i := 11) rfl, (List.forall_mem_cons.mpr ⟨wrr_wsX12_hears_wsX12_hears_r1 (i := 12) rfl, (List.forall_mem_cons.mpr ⟨wrr_wsX12_hears_wsX12_hears_r1 (i := 4) rfl, (List.forall_mem_cons.mpr ⟨wrr_wsX12_hears_wsX12_hears_r1 (i := 13) rfl, (fun _ h => absurd h List.not_mem_nil)⟩)⟩)⟩)⟩)⟩)⟩) gw_wsX12_isBeat
set_option maxRecDepth 20000 in
theorem gX12_hears_X12_isBeat : GoodIn wsX12_hears (va_wsS RX12 270 yX12_isBeat wsX12_isBeat) := goodIn_app (goodIn_sub (List.forall_mem_cons.mpr ⟨wrr_wsX12_hears_wsX12_hears_r1 (i := 14) rfl, (List.forall_mem_cons.mpr ⟨wrr_wsX12_hears_wsX12_hears_r1 (i := 15) rfl, (List.forall_mem_cons.mpr ⟨wrr_wsX12_hears_wsX12_hears_r1 (i := 4) rfl, (fun _ h => absurd h List.not_mem_nil)⟩)⟩)⟩) (by decide +kernel)) ggX12_hears_X12_isBeat
set_option maxRecDepth 20000 in
theorem ggX12_hears_X12_lays : GoodIn wsX12_hears wsX12_lays := goodIn_sub (List.forall_mem_cons.mpr ⟨wrr_wsX12_hears_wsX12_hears_r1 (i := 21) rfl, (List.forall_mem_append.mpr ⟨(List.forall_mem_cons.mpr ⟨wrr_wsX12_hears_wsX12_hears_r1 (i := 22) rfl, (List.forall_mem_cons.mpr ⟨wrr_wsX12_hears_wsX12_hears_r1 (i := 23) rfl, (List.forall_mem_cons.mpr ⟨wrr_wsX12_hears_wsX12_hears_r2 (i := 0) rfl, (List.forall_mem_cons.mpr ⟨wrr_wsX12_hears_wsX12_hears_r1 (i := 4) rfl, (List.forall_mem_cons.mpr ⟨wrr_wsX12_hears_wsX12_hears_r2 (i := 1) rfl, (List.forall_mem_cons.mpr ⟨wrr_wsX12_hears_wsX12_hears_r2 (i := 2) rfl, (List.forall_mem_cons.mpr ⟨wrr_wsX12_hears_wsX12_hears_r2 (i := 3) rfl, (List.forall_mem_cons.mpr ⟨wrr_wsX12_hears_wsX12_hears_r2 (i := 4) rfl, (List.forall_mem_cons.mpr ⟨wrr_wsX12_hears_wsX12_hears_r2 (i := 5) rfl, (List.forall_mem_cons.mpr ⟨wrr_wsX12_hears_wsX12_hears_r2 (i := 6) rfl, (List.forall_mem_cons.mpr ⟨wrr_wsX12_hears_wsX12_hears_r2 (i := 7) rfl, (List.forall_mem_cons.mpr ⟨wrr_wsX12_hears_wsX12_hears_r2 (i := 8) rfl, (List.forall_mem_cons.mpr ⟨wrr_wsX12_hears_wsX12_hears_r2 (i := 9) rfl, (List.forall_mem_cons.mpr ⟨wrr_wsX12_hears_wsX12_hears_r2 (i := 10) rfl, (List.forall_mem_cons.mpr ⟨wrr_wsX12_hears_wsX12_hears_r2 (i := 11) rfl, (List.forall_mem_cons.mpr ⟨wrr_wsX12_hears_wsX12_hears_r2 (i := 12) rfl, (List.forall_mem_cons.mpr ⟨wrr_wsX12_hears_wsX12_hears_r2 (i := 13) rfl, (List.forall_mem_cons.mpr ⟨wrr_wsX12_hears_wsX12_hears_r2 (i := 14) rfl, (List.forall_mem_cons.mpr ⟨wrr_wsX12_hears_wsX12_hears_r2 (i := 15) rfl, (fun _ h => absurd h List.not_mem_nil)⟩)⟩)⟩)⟩)⟩)⟩)⟩)⟩)⟩)⟩)⟩)⟩)⟩)⟩)⟩)⟩)⟩)⟩)⟩), wru_wsX12_hears_wsX120⟩)⟩) gw_wsX12_lays
set_option maxRecDepth 20000 in
theorem gX12_hears_X12_lays : GoodIn wsX12_hears (wsV RX12 290 RX12 yX12_lays wsX12_lays) := goodIn_app (goodIn_sub (List.forall_mem_cons.mpr ⟨wrr_wsX12_hears_wsX12_hears_r1 (i := 18) rfl, (List.forall_mem_cons.mpr ⟨wrr_wsX12_hears_wsX12_hears_r1 (i := 19) rfl, (List.forall_mem_cons.mpr ⟨wrr_wsX12_hears_wsX12_hears_r1 (i := 20) rfl, (List.forall_mem_cons.mpr ⟨wrr_wsX12_hears_wsX12_hears_r1 (i := 4) rfl, (fun _ h => absurd h List.not_mem_nil)⟩)⟩)⟩)⟩) (by decide +kernel)) ggX12_hears_X12_lays
set_option maxRecDepth 20000 in
theorem ggX12_hears_X12_hearsAt : GoodIn wsX12_hears wsX12_hearsAt := goodIn_sub (List.forall_mem_cons.mpr ⟨wrr_wsX12_hears_wsX12_hears_r2 (i := 19) rfl, (List.forall_mem_append.mpr ⟨(List.forall_mem_cons.mpr ⟨wrr_wsX12_hears_wsX12_hears_r2 (i := 6) rfl, (List.forall_mem_cons.mpr ⟨wrr_wsX12_hears_wsX12_hears_r2 (i := 8) rfl, (fun _ h => absurd h List.not_mem_nil)⟩)⟩), wru_wsX12_hears_wsX120⟩)⟩) gw_wsX12_hearsAt
set_option maxRecDepth 20000 in
theorem gX12_hears_X12_hearsAt : GoodIn wsX12_hears (wsV RX12 284 RX12 yX12_hearsAt wsX12_hearsAt) := goodIn_app (goodIn_sub (List.forall_mem_cons.mpr ⟨wrr_wsX12_hears_wsX12_hears_r2 (i := 16) rfl, (List.forall_mem_cons.mpr ⟨wrr_wsX12_hears_wsX12_hears_r2 (i := 17) rfl, (List.forall_mem_cons.mpr ⟨wrr_wsX12_hears_wsX12_hears_r2 (i := 18) rfl, (List.forall_mem_cons.mpr ⟨wrr_wsX12_hears_wsX12_hears_r1 (i := 4) rfl, (fun _ h => absurd h List.not_mem_nil)⟩)⟩)⟩)⟩) (by decide +kernel)) ggX12_hears_X12_hearsAt
theorem dX12_hears_0 : decode cX12_hears 0 = .ok (.aload_n 0, 1) := by decide +kernel
theorem dX12_hears_1 : decode cX12_hears 1 = .ok (.iconst 0, 1) := by decide +kernel
theorem dX12_hears_2 : decode cX12_hears 2 = .ok (.putfield 80, 3) := by decide +kernel
theorem dX12_hears_5 : decode cX12_hears 5 = .ok (.aload_n 0, 1) := by decide +kernel
theorem dX12_hears_6 : decode cX12_hears 6 = .ok (.iload_n 1, 1) := by decide +kernel
theorem dX12_hears_7 : decode cX12_hears 7 = .ok (.invokevirtual 261, 3) := by decide +kernel
theorem dX12_hears_10 : decode cX12_hears 10 = .ok (.ifCond .eq 11, 3) := by decide +kernel
theorem dX12_hears_13 : decode cX12_hears 13 = .ok (.iload_n 2, 1) := by decide +kernel
theorem dX12_hears_14 : decode cX12_hears 14 = .ok (.i2l, 1) := by decide +kernel
theorem dX12_hears_15 : decode cX12_hears 15 = .ok (.invokestatic 270, 3) := by decide +kernel
theorem dX12_hears_18 : decode cX12_hears 18 = .ok (.ifCond .ne 6, 3) := by decide +kernel
theorem dX12_hears_21 : decode cX12_hears 21 = .ok (.bipush (-2), 2) := by decide +kernel
theorem dX12_hears_23 : decode cX12_hears 23 = .ok (.ireturn, 1) := by decide +kernel
theorem dX12_hears_24 : decode cX12_hears 24 = .ok (.aload_n 0, 1) := by decide +kernel
theorem dX12_hears_25 : decode cX12_hears 25 = .ok (.invokevirtual 290, 3) := by decide +kernel
theorem dX12_hears_28 : decode cX12_hears 28 = .ok (.aload_n 0, 1) := by decide +kernel
theorem dX12_hears_29 : decode cX12_hears 29 = .ok (.iload_n 1, 1) := by decide +kernel
theorem dX12_hears_30 : decode cX12_hears 30 = .ok (.iload_n 2, 1) := by decide +kernel
theorem dX12_hears_31 : decode cX12_hears 31 = .ok (.invokevirtual 284, 3) := by decide +kernel
theorem dX12_hears_34 : decode cX12_hears 34 = .ok (.ireturn, 1) := by decide +kernel
theorem wrr_wsX12_late {i : Nat} {w : Cond} (h : wsX12_late[i]? = some w) : w ∈ wsX12_late := List.mem_of_getElem? h
theorem wrr_wsX12_late_wsX12_late_r1 {i : Nat} {w : Cond} (h : wsX12_late_r1[i]? = some w) : w ∈ wsX12_late := (List.mem_cons_of_mem _ (List.mem_append_left _ (List.mem_append_left _ (List.mem_of_getElem? h))))
theorem wrr_wsX12_late_wsX12_late_r2 {i : Nat} {w : Cond} (h : wsX12_late_r2[i]? = some w) : w ∈ wsX12_late := (List.mem_cons_of_mem _ (List.mem_append_left _ (List.mem_append_right _ (List.mem_of_getElem? h))))
theorem wru_wsX12_late_wsX120 : ∀ w ∈ wsX120, w ∈ wsX12_late := fun w h => (List.mem_cons_of_mem _ (List.mem_append_right _ h))
set_option maxRecDepth 20000 in
theorem ggX12_late_X12_isSide : GoodIn wsX12_late wsX12_isSide := goodIn_sub (List.forall_mem_cons.mpr ⟨wrr_wsX12_late_wsX12_late_r1 (i := 7) rfl, (List.forall_mem_append.mpr ⟨(List.forall_mem_cons.mpr ⟨wrr_wsX12_late_wsX12_late_r1 (i := 8) rfl, (List.forall_mem_cons.mpr ⟨wrr_wsX12_late_wsX12_late_r1 (i := 9) rfl, (List.forall_mem_cons.mpr ⟨wrr_wsX12_late_wsX12_late_r1 (i := 10) rfl, (List.forall_mem_cons.mpr ⟨wrr_wsX12_late_wsX12_late_r1 (i := 6) rfl, (List.forall_mem_cons.mpr ⟨wrr_wsX12_late_wsX12_late_r1 (i := 11) rfl, (List.forall_mem_cons.mpr ⟨wrr_wsX12_late_wsX12_late_r1 (i := 12) rfl, (List.forall_mem_cons.mpr ⟨wrr_wsX12_late_wsX12_late_r1 (i := 13) rfl, (List.forall_mem_cons.mpr ⟨wrr_wsX12_late_wsX12_late_r1 (i := 14) rfl, (List.forall_mem_cons.mpr ⟨wrr_wsX12_late_wsX12_late_r1 (i := 15) rfl, (fun _ h => absurd h List.not_mem_nil)⟩)⟩)⟩)⟩)⟩)⟩)⟩)⟩)⟩), wru_wsX12_late_wsX120⟩)⟩) gw_wsX12_isSide
set_option maxRecDepth 20000 in
theorem gX12_late_X12_isSide : GoodIn wsX12_late (wsV RX12 261 RX12 yX12_isSide wsX12_isSide) := goodIn_app (goodIn_sub (List.forall_mem_cons.mpr ⟨wrr_wsX12_late_wsX12_late_r1 (i := 3) rfl, (List.forall_mem_cons.mpr ⟨wrr_wsX12_late_wsX12_late_r1 (i := 4) rfl, (List.forall_mem_cons.mpr ⟨wrr_wsX12_late_wsX12_late_r1 (i := 5) rfl, (List.forall_mem_cons.mpr ⟨wrr_wsX12_late_wsX12_late_r1 (i := 6) rfl, (fun _ h => absurd h List.not_mem_nil)⟩)⟩)⟩)⟩) (by decide +kernel)) ggX12_late_X12_isSide
set_option maxRecDepth 20000 in
theorem ggX12_late_X12_isBeat : GoodIn wsX12_late wsX12_isBeat := goodIn_sub (List.forall_mem_cons.mpr ⟨wrr_wsX12_late_wsX12_late_r1 (i := 18) rfl, (List.forall_mem_cons.mpr ⟨wrr_wsX12_late_wsX12_late_r1 (i := 19) rfl, (List.forall_mem_cons.mpr ⟨wrr_wsX12_late_wsX12_late_r1 (i := 13) rfl, (List.forall_mem_cons.mpr ⟨wrr_wsX12_late_wsX12_late_r1 (i := 14) rfl, (List.forall_mem_cons.mpr ⟨wrr_wsX12_late_wsX12_late_r1 (i := 6) rfl, (List.forall_mem_cons.mpr ⟨wrr_wsX12_late_wsX12_late_r1 (i := 15) rfl, (fun _ h => absurd h List.not_mem_nil)⟩)⟩)⟩)⟩)⟩)⟩) gw_wsX12_isBeat
set_option maxRecDepth 20000 in
theorem gX12_late_X12_isBeat : GoodIn wsX12_late (va_wsS RX12 270 yX12_isBeat wsX12_isBeat) := goodIn_app (goodIn_sub (List.forall_mem_cons.mpr ⟨wrr_wsX12_late_wsX12_late_r1 (i := 16) rfl, (List.forall_mem_cons.mpr ⟨wrr_wsX12_late_wsX12_late_r1 (i := 17) rfl, (List.forall_mem_cons.mpr ⟨wrr_wsX12_late_wsX12_late_r1 (i := 6) rfl, (fun _ h => absurd h List.not_mem_nil)⟩)⟩)⟩) (by decide +kernel)) ggX12_late_X12_isBeat
set_option maxRecDepth 20000 in
theorem ggX12_late_X12_lengthOf : GoodIn wsX12_late wsX12_lengthOf := goodIn_sub (List.forall_mem_cons.mpr ⟨wrr_wsX12_late_wsX12_late_r1 (i := 23) rfl, (List.forall_mem_append.mpr ⟨(List.forall_mem_cons.mpr ⟨wrr_wsX12_late_wsX12_late_r1 (i := 1) rfl, (fun _ h => absurd h List.not_mem_nil)⟩), wru_wsX12_late_wsX120⟩)⟩) gw_wsX12_lengthOf
set_option maxRecDepth 20000 in
theorem gX12_late_X12_lengthOf : GoodIn wsX12_late (wsV RX12 264 RX12 yX12_lengthOf wsX12_lengthOf) := goodIn_app (goodIn_sub (List.forall_mem_cons.mpr ⟨wrr_wsX12_late_wsX12_late_r1 (i := 20) rfl, (List.forall_mem_cons.mpr ⟨wrr_wsX12_late_wsX12_late_r1 (i := 21) rfl, (List.forall_mem_cons.mpr ⟨wrr_wsX12_late_wsX12_late_r1 (i := 22) rfl, (List.forall_mem_cons.mpr ⟨wrr_wsX12_late_wsX12_late_r1 (i := 6) rfl, (fun _ h => absurd h List.not_mem_nil)⟩)⟩)⟩)⟩) (by decide +kernel)) ggX12_late_X12_lengthOf
set_option maxRecDepth 20000 in
theorem ggX12_late_X12_lays : GoodIn wsX12_late wsX12_lays := goodIn_sub (List.forall_mem_cons.mpr ⟨wrr_wsX12_late_wsX12_late_r2 (i := 3) rfl, (List.forall_mem_append.mpr ⟨(List.forall_mem_cons.mpr ⟨wrr_wsX12_late_wsX12_late_r2 (i := 4) rfl, (List.forall_mem_cons.mpr ⟨wrr_wsX12_late_wsX12_late_r2 (i := 5) rfl, (List.forall_mem_cons.mpr ⟨wrr_wsX12_late_wsX12_late_r2 (i := 6) rfl, (List.forall_mem_cons.mpr ⟨wrr_wsX12_late_wsX12_late_r1 (i := 6) rfl, (List.forall_mem_cons.mpr ⟨wrr_wsX12_late_wsX12_late_r2 (i := 7) rfl, (List.forall_mem_cons.mpr ⟨wrr_wsX12_late_wsX12_late_r2 (i := 8) rfl, (List.forall_mem_cons.mpr ⟨wrr_wsX12_late_wsX12_late_r2 (i := 9) rfl, (List.forall_mem_cons.mpr ⟨wrr_wsX12_late_wsX12_late_r2 (i := 10) rfl, (List.forall_mem_cons.mpr ⟨wrr_wsX12_late_wsX12_late_r2 (i := 11) rfl, (List.forall_mem_cons.mpr ⟨wrr_wsX12_late_wsX12_late_r1 (i := 1) rfl, (List.forall_mem_cons.mpr ⟨wrr_wsX12_late_wsX12_late_r1 (i := 2) rfl, (List.forall_mem_cons.mpr ⟨wrr_wsX12_late_wsX12_late_r2 (i := 12) rfl, (List.forall_mem_cons.mpr ⟨wrr_wsX12_late_wsX12_late_r2 (i := 13) rfl, (List.forall_mem_cons.mpr ⟨wrr_wsX12_late_wsX12_late_r2 (i := 14) rfl, (List.forall_mem_cons.mpr ⟨wrr_wsX12_late_wsX12_late_r2 (i := 15) rfl, (List.forall_mem_cons.mpr ⟨wrr_wsX12_late_wsX12_late_r1 (i := 20) rfl, (List.forall_mem_cons.mpr ⟨wrr_wsX12_late_wsX12_late_r1 (i := 21) rfl, (List.forall_mem_cons.mpr ⟨wrr_wsX12_late_wsX12_late_r1 (i := 22) rfl, (List.forall_mem_cons.mpr ⟨wrr_wsX12_late_wsX12_late_r1 (i := 23) rfl, (fun _ h => absurd h List.not_mem_nil)⟩)⟩)⟩)⟩)⟩)⟩)⟩)⟩)⟩)⟩)⟩)⟩)⟩)⟩)⟩)⟩)⟩)⟩)⟩), wru_wsX12_late_wsX120⟩)⟩) gw_wsX12_lays
set_option maxRecDepth 20000 in
theorem gX12_late_X12_lays : GoodIn wsX12_late (wsV RX12 290 RX12 yX12_lays wsX12_lays) := goodIn_app (goodIn_sub (List.forall_mem_cons.mpr ⟨wrr_wsX12_late_wsX12_late_r2 (i := 0) rfl, (List.forall_mem_cons.mpr ⟨wrr_wsX12_late_wsX12_late_r2 (i := 1) rfl, (List.forall_mem_cons.mpr ⟨wrr_wsX12_late_wsX12_late_r2 (i := 2) rfl, (List.forall_mem_cons.mpr ⟨wrr_wsX12_late_wsX12_late_r1 (i := 6) rfl, (fun _ h => absurd h List.not_mem_nil)⟩)⟩)⟩)⟩) (by decide +kernel)) ggX12_late_X12_lays
theorem dX12_late_0 : decode cX12_late 0 = .ok (.aload_n 0, 1) := by decide +kernel
theorem dX12_late_1 : decode cX12_late 1 = .ok (.iconst 0, 1) := by decide +kernel
theorem dX12_late_2 : decode cX12_late 2 = .ok (.putfield 80, 3) := by decide +kernel
theorem dX12_late_5 : decode cX12_late 5 = .ok (.aload_n 0, 1) := by decide +kernel
theorem dX12_late_6 : decode cX12_late 6 = .ok (.iload_n 1, 1) := by decide +kernel
theorem dX12_late_7 : decode cX12_late 7 = .ok (.invokevirtual 261, 3) := by decide +kernel
theorem dX12_late_10 : decode cX12_late 10 = .ok (.ifCond .eq 11, 3) := by decide +kernel
theorem dX12_late_13 : decode cX12_late 13 = .ok (.iload_n 2, 1) := by decide +kernel
theorem dX12_late_14 : decode cX12_late 14 = .ok (.i2l, 1) := by decide +kernel
theorem dX12_late_15 : decode cX12_late 15 = .ok (.invokestatic 270, 3) := by decide +kernel
theorem dX12_late_18 : decode cX12_late 18 = .ok (.ifCond .ne 6, 3) := by decide +kernel
theorem dX12_late_21 : decode cX12_late 21 = .ok (.bipush (-2), 2) := by decide +kernel
theorem dX12_late_23 : decode cX12_late 23 = .ok (.ireturn, 1) := by decide +kernel
theorem dX12_late_24 : decode cX12_late 24 = .ok (.aload_n 0, 1) := by decide +kernel
theorem dX12_late_25 : decode cX12_late 25 = .ok (.iload_n 1, 1) := by decide +kernel
theorem dX12_late_26 : decode cX12_late 26 = .ok (.invokevirtual 264, 3) := by decide +kernel
theorem dX12_late_29 : decode cX12_late 29 = .ok (.istore_n 3, 1) := by decide +kernel
theorem dX12_late_30 : decode cX12_late 30 = .ok (.iload_n 3, 1) := by decide +kernel
theorem dX12_late_31 : decode cX12_late 31 = .ok (.ifCond .ne 5, 3) := by decide +kernel
theorem dX12_late_34 : decode cX12_late 34 = .ok (.iconst (-1), 1) := by decide +kernel
theorem dX12_late_35 : decode cX12_late 35 = .ok (.ireturn, 1) := by decide +kernel
theorem dX12_late_36 : decode cX12_late 36 = .ok (.aload_n 0, 1) := by decide +kernel
theorem dX12_late_37 : decode cX12_late 37 = .ok (.invokevirtual 290, 3) := by decide +kernel
theorem dX12_late_40 : decode cX12_late 40 = .ok (.aload_n 0, 1) := by decide +kernel
theorem dX12_late_41 : decode cX12_late 41 = .ok (.getfield 34, 3) := by decide +kernel
theorem dX12_late_44 : decode cX12_late 44 = .ok (.iconst 5, 1) := by decide +kernel
theorem dX12_late_45 : decode cX12_late 45 = .ok (.iload_n 1, 1) := by decide +kernel
theorem dX12_late_46 : decode cX12_late 46 = .ok (.iadd, 1) := by decide +kernel
theorem dX12_late_47 : decode cX12_late 47 = .ok (.iaload, 1) := by decide +kernel
theorem dX12_late_48 : decode cX12_late 48 = .ok (.iload_n 2, 1) := by decide +kernel
theorem dX12_late_49 : decode cX12_late 49 = .ok (.iadd, 1) := by decide +kernel
theorem dX12_late_50 : decode cX12_late 50 = .ok (.aload_n 0, 1) := by decide +kernel
theorem dX12_late_51 : decode cX12_late 51 = .ok (.getfield 65, 3) := by decide +kernel
theorem dX12_late_54 : decode cX12_late 54 = .ok (.sipush 201, 3) := by decide +kernel
theorem dX12_late_57 : decode cX12_late 57 = .ok (.iload_n 1, 1) := by decide +kernel
theorem dX12_late_58 : decode cX12_late 58 = .ok (.imul, 1) := by decide +kernel
theorem dX12_late_59 : decode cX12_late 59 = .ok (.iload_n 2, 1) := by decide +kernel
theorem dX12_late_60 : decode cX12_late 60 = .ok (.iadd, 1) := by decide +kernel
theorem dX12_late_61 : decode cX12_late 61 = .ok (.iaload, 1) := by decide +kernel
theorem dX12_late_62 : decode cX12_late 62 = .ok (.isub, 1) := by decide +kernel
theorem dX12_late_63 : decode cX12_late 63 = .ok (.iload_n 3, 1) := by decide +kernel
theorem dX12_late_64 : decode cX12_late 64 = .ok (.irem, 1) := by decide +kernel
theorem dX12_late_65 : decode cX12_late 65 = .ok (.iload_n 3, 1) := by decide +kernel
theorem dX12_late_66 : decode cX12_late 66 = .ok (.iadd, 1) := by decide +kernel
theorem dX12_late_67 : decode cX12_late 67 = .ok (.iload_n 3, 1) := by decide +kernel
theorem dX12_late_68 : decode cX12_late 68 = .ok (.irem, 1) := by decide +kernel
theorem dX12_late_69 : decode cX12_late 69 = .ok (.ireturn, 1) := by decide +kernel
theorem wrr_wsX12_hole {i : Nat} {w : Cond} (h : wsX12_hole[i]? = some w) : w ∈ wsX12_hole := List.mem_of_getElem? h
theorem wrr_wsX12_hole_wsX12_hole_r1 {i : Nat} {w : Cond} (h : wsX12_hole_r1[i]? = some w) : w ∈ wsX12_hole := (List.mem_cons_of_mem _ (List.mem_append_left _ (List.mem_append_left _ (List.mem_of_getElem? h))))
theorem wrr_wsX12_hole_wsX12_hole_r2 {i : Nat} {w : Cond} (h : wsX12_hole_r2[i]? = some w) : w ∈ wsX12_hole := (List.mem_cons_of_mem _ (List.mem_append_left _ (List.mem_append_right _ (List.mem_append_left _ (List.mem_of_getElem? h)))))
theorem wrr_wsX12_hole_wsX12_hole_r3 {i : Nat} {w : Cond} (h : wsX12_hole_r3[i]? = some w) : w ∈ wsX12_hole := (List.mem_cons_of_mem _ (List.mem_append_left _ (List.mem_append_right _ (List.mem_append_right _ (List.mem_of_getElem? h)))))
theorem wru_wsX12_hole_wsX120 : ∀ w ∈ wsX120, w ∈ wsX12_hole := fun w h => (List.mem_cons_of_mem _ (List.mem_append_right _ h))
set_option maxRecDepth 20000 in
theorem ggX12_hole_X12_isSide : GoodIn wsX12_hole wsX12_isSide := goodIn_sub (List.forall_mem_cons.mpr ⟨wrr_wsX12_hole_wsX12_hole_r1 (i := 5) rfl, (List.forall_mem_append.mpr ⟨(List.forall_mem_cons.mpr ⟨wrr_wsX12_hole_wsX12_hole_r1 (i := 6) rfl, (List.forall_mem_cons.mpr ⟨wrr_wsX12_hole_wsX12_hole_r1 (i := 7) rfl, (List.forall_mem_cons.mpr ⟨wrr_wsX12_hole_wsX12_hole_r1 (i := 8) rfl, (List.forall_mem_cons.mpr ⟨wrr_wsX12_hole_wsX12_hole_r1 (i := 4) rfl, (List.forall_mem_cons.mpr ⟨wrr_wsX12_hole_wsX12_hole_r1 (i := 9) rfl, (List.forall_mem_cons.mpr ⟨wrr_wsX12_hole_wsX12_hole_r1 (i := 10) rfl, (List.forall_mem_cons.mpr ⟨wrr_wsX12_hole_wsX12_hole_r1 (i := 11) rfl, (List.forall_mem_cons.mpr ⟨wrr_wsX12_hole_wsX12_hole_r1 (i := 12) rfl, (List.forall_mem_cons.mpr ⟨wrr_wsX12_hole_wsX12_hole_r1 (i := 13) rfl, (fun _ h => absurd h List.not_mem_nil)⟩)⟩)⟩)⟩)⟩)⟩)⟩)⟩)⟩), wru_wsX12_hole_wsX120⟩)⟩) gw_wsX12_isSide
set_option maxRecDepth 20000 in
theorem gX12_hole_X12_isSide : GoodIn wsX12_hole (wsV RX12 261 RX12 yX12_isSide wsX12_isSide) := goodIn_app (goodIn_sub (List.forall_mem_cons.mpr ⟨wrr_wsX12_hole_wsX12_hole_r1 (i := 1) rfl, (List.forall_mem_cons.mpr ⟨wrr_wsX12_hole_wsX12_hole_r1 (i := 2) rfl, (List.forall_mem_cons.mpr ⟨wrr_wsX12_hole_wsX12_hole_r1 (i := 3) rfl, (List.forall_mem_cons.mpr ⟨wrr_wsX12_hole_wsX12_hole_r1 (i := 4) rfl, (fun _ h => absurd h List.not_mem_nil)⟩)⟩)⟩)⟩) (by decide +kernel)) ggX12_hole_X12_isSide
set_option maxRecDepth 20000 in
theorem ggX12_hole_X12_isBeat : GoodIn wsX12_hole wsX12_isBeat := goodIn_sub (List.forall_mem_cons.mpr ⟨wrr_wsX12_hole_wsX12_hole_r1 (i := 16) rfl, (List.forall_mem_cons.mpr ⟨wrr_wsX12_hole_wsX12_hole_r1 (i := 17) rfl, (List.forall_mem_cons.mpr ⟨wrr_wsX12_hole_wsX12_hole_r1 (i := 11) rfl, (List.forall_mem_cons.mpr ⟨wrr_wsX12_hole_wsX12_hole_r1 (i := 12) rfl, (List.forall_mem_cons.mpr ⟨wrr_wsX12_hole_wsX12_hole_r1 (i := 4) rfl, (List.forall_mem_cons.mpr ⟨wrr_wsX12_hole_wsX12_hole_r1 (i := 13) rfl, (fun _ h => absurd h List.not_mem_nil)⟩)⟩)⟩)⟩)⟩)⟩) gw_wsX12_isBeat
set_option maxRecDepth 20000 in
theorem gX12_hole_X12_isBeat : GoodIn wsX12_hole (va_wsS RX12 270 yX12_isBeat wsX12_isBeat) := goodIn_app (goodIn_sub (List.forall_mem_cons.mpr ⟨wrr_wsX12_hole_wsX12_hole_r1 (i := 14) rfl, (List.forall_mem_cons.mpr ⟨wrr_wsX12_hole_wsX12_hole_r1 (i := 15) rfl, (List.forall_mem_cons.mpr ⟨wrr_wsX12_hole_wsX12_hole_r1 (i := 4) rfl, (fun _ h => absurd h List.not_mem_nil)⟩)⟩)⟩) (by decide +kernel)) ggX12_hole_X12_isBeat
set_option maxRecDepth 20000 in
theorem ggX12_hole_X12_lays : GoodIn wsX12_hole wsX12_lays := goodIn_sub (List.forall_mem_cons.mpr ⟨wrr_wsX12_hole_wsX12_hole_r1 (i := 21) rfl, (List.forall_mem_append.mpr ⟨(List.forall_mem_cons.mpr ⟨wrr_wsX12_hole_wsX12_hole_r1 (i := 22) rfl, (List.forall_mem_cons.mpr ⟨wrr_wsX12_hole_wsX12_hole_r1 (i := 23) rfl, (List.forall_mem_cons.mpr ⟨wrr_wsX12_hole_wsX12_hole_r2 (i := 0) rfl, (List.forall_mem_cons.mpr ⟨wrr_wsX12_hole_wsX12_hole_r1 (i := 4) rfl, (List.forall_mem_cons.mpr ⟨wrr_wsX12_hole_wsX12_hole_r2 (i := 1) rfl, (List.forall_mem_cons.mpr ⟨wrr_wsX12_hole_wsX12_hole_r2 (i := 2) rfl, (List.forall_mem_cons.mpr ⟨wrr_wsX12_hole_wsX12_hole_r2 (i := 3) rfl, (List.forall_mem_cons.mpr ⟨wrr_wsX12_hole_wsX12_hole_r2 (i := 4) rfl, (List.forall_mem_cons.mpr ⟨wrr_wsX12_hole_wsX12_hole_r2 (i := 5) rfl, (List.forall_mem_cons.mpr ⟨wrr_wsX12_hole_wsX12_hole_r2 (i := 6) rfl, (List.forall_mem_cons.mpr ⟨wrr_wsX12_hole_wsX12_hole_r2 (i := 7) rfl, (List.forall_mem_cons.mpr ⟨wrr_wsX12_hole_wsX12_hole_r2 (i := 8) rfl, (List.forall_mem_cons.mpr ⟨wrr_wsX12_hole_wsX12_hole_r2 (i := 9) rfl, (List.forall_mem_cons.mpr ⟨wrr_wsX12_hole_wsX12_hole_r2 (i := 10) rfl, (List.forall_mem_cons.mpr ⟨wrr_wsX12_hole_wsX12_hole_r2 (i := 11) rfl, (List.forall_mem_cons.mpr ⟨wrr_wsX12_hole_wsX12_hole_r2 (i := 12) rfl, (List.forall_mem_cons.mpr ⟨wrr_wsX12_hole_wsX12_hole_r2 (i := 13) rfl, (List.forall_mem_cons.mpr ⟨wrr_wsX12_hole_wsX12_hole_r2 (i := 14) rfl, (List.forall_mem_cons.mpr ⟨wrr_wsX12_hole_wsX12_hole_r2 (i := 15) rfl, (fun _ h => absurd h List.not_mem_nil)⟩)⟩)⟩)⟩)⟩)⟩)⟩)⟩)⟩)⟩)⟩)⟩)⟩)⟩)⟩)⟩)⟩)⟩)⟩), wru_wsX12_hole_wsX120⟩)⟩) gw_wsX12_lays
set_option maxRecDepth 20000 in
theorem gX12_hole_X12_lays : GoodIn wsX12_hole (wsV RX12 290 RX12 yX12_lays wsX12_lays) := goodIn_app (goodIn_sub (List.forall_mem_cons.mpr ⟨wrr_wsX12_hole_wsX12_hole_r1 (i := 18) rfl, (List.forall_mem_cons.mpr ⟨wrr_wsX12_hole_wsX12_hole_r1 (i := 19) rfl, (List.forall_mem_cons.mpr ⟨wrr_wsX12_hole_wsX12_hole_r1 (i := 20) rfl, (List.forall_mem_cons.mpr ⟨wrr_wsX12_hole_wsX12_hole_r1 (i := 4) rfl, (fun _ h => absurd h List.not_mem_nil)⟩)⟩)⟩)⟩) (by decide +kernel)) ggX12_hole_X12_lays
set_option maxRecDepth 20000 in
theorem gw_wsX12_isHole : wsX12_isHole.all goodWord = true := by decide +kernel
set_option maxRecDepth 20000 in
theorem ggX12_hole_X12_isHole : GoodIn wsX12_hole wsX12_isHole := goodIn_sub (List.forall_mem_cons.mpr ⟨wrr_wsX12_hole_wsX12_hole_r2 (i := 19) rfl, (List.forall_mem_append.mpr ⟨(List.forall_mem_cons.mpr ⟨wrr_wsX12_hole_wsX12_hole_r2 (i := 8) rfl, (List.forall_mem_cons.mpr ⟨wrr_wsX12_hole_wsX12_hole_r2 (i := 20) rfl, (List.forall_mem_cons.mpr ⟨wrr_wsX12_hole_wsX12_hole_r2 (i := 21) rfl, (List.forall_mem_cons.mpr ⟨wrr_wsX12_hole_wsX12_hole_r2 (i := 22) rfl, (List.forall_mem_cons.mpr ⟨wrr_wsX12_hole_wsX12_hole_r1 (i := 4) rfl, (List.forall_mem_cons.mpr ⟨wrr_wsX12_hole_wsX12_hole_r2 (i := 23) rfl, (List.forall_mem_cons.mpr ⟨wrr_wsX12_hole_wsX12_hole_r2 (i := 6) rfl, (List.forall_mem_cons.mpr ⟨wrr_wsX12_hole_wsX12_hole_r3 (i := 0) rfl, (List.forall_mem_cons.mpr ⟨wrr_wsX12_hole_wsX12_hole_r3 (i := 1) rfl, (List.forall_mem_cons.mpr ⟨wrr_wsX12_hole_wsX12_hole_r3 (i := 2) rfl, (List.forall_mem_cons.mpr ⟨wrr_wsX12_hole_wsX12_hole_r3 (i := 3) rfl, (List.forall_mem_cons.mpr ⟨wrr_wsX12_hole_wsX12_hole_r3 (i := 4) rfl, (List.forall_mem_cons.mpr ⟨wrr_wsX12_hole_wsX12_hole_r3 (i := 5) rfl, (List.forall_mem_cons.mpr ⟨wrr_wsX12_hole_wsX12_hole_r3 (i := 6) rfl, (List.forall_mem_cons.mpr ⟨wrr_wsX12_hole_wsX12_hole_r3 (i := 7) rfl, (fun _ h => absurd h List.not_mem_nil)⟩)⟩)⟩)⟩)⟩)⟩)⟩)⟩)⟩)⟩)⟩)⟩)⟩)⟩)⟩), wru_wsX12_hole_wsX120⟩)⟩) gw_wsX12_isHole
set_option maxRecDepth 20000 in
theorem gX12_hole_X12_isHole : GoodIn wsX12_hole (wsV RX12 293 RX12 yX12_isHole wsX12_isHole) := goodIn_app (goodIn_sub (List.forall_mem_cons.mpr ⟨wrr_wsX12_hole_wsX12_hole_r2 (i := 16) rfl, (List.forall_mem_cons.mpr ⟨wrr_wsX12_hole_wsX12_hole_r2 (i := 17) rfl, (List.forall_mem_cons.mpr ⟨wrr_wsX12_hole_wsX12_hole_r2 (i := 18) rfl, (List.forall_mem_cons.mpr ⟨wrr_wsX12_hole_wsX12_hole_r1 (i := 4) rfl, (fun _ h => absurd h List.not_mem_nil)⟩)⟩)⟩)⟩) (by decide +kernel)) ggX12_hole_X12_isHole
theorem dX12_hole_0 : decode cX12_hole 0 = .ok (.aload_n 0, 1) := by decide +kernel
theorem dX12_hole_1 : decode cX12_hole 1 = .ok (.iconst 0, 1) := by decide +kernel
theorem dX12_hole_2 : decode cX12_hole 2 = .ok (.putfield 80, 3) := by decide +kernel
theorem dX12_hole_5 : decode cX12_hole 5 = .ok (.aload_n 0, 1) := by decide +kernel
theorem dX12_hole_6 : decode cX12_hole 6 = .ok (.iload_n 1, 1) := by decide +kernel
theorem dX12_hole_7 : decode cX12_hole 7 = .ok (.invokevirtual 261, 3) := by decide +kernel
theorem dX12_hole_10 : decode cX12_hole 10 = .ok (.ifCond .eq 11, 3) := by decide +kernel
theorem dX12_hole_13 : decode cX12_hole 13 = .ok (.iload_n 2, 1) := by decide +kernel
theorem dX12_hole_14 : decode cX12_hole 14 = .ok (.i2l, 1) := by decide +kernel
theorem dX12_hole_15 : decode cX12_hole 15 = .ok (.invokestatic 270, 3) := by decide +kernel
theorem dX12_hole_18 : decode cX12_hole 18 = .ok (.ifCond .ne 6, 3) := by decide +kernel
theorem dX12_hole_21 : decode cX12_hole 21 = .ok (.bipush (-2), 2) := by decide +kernel
theorem dX12_hole_23 : decode cX12_hole 23 = .ok (.ireturn, 1) := by decide +kernel
theorem dX12_hole_24 : decode cX12_hole 24 = .ok (.aload_n 0, 1) := by decide +kernel
theorem dX12_hole_25 : decode cX12_hole 25 = .ok (.invokevirtual 290, 3) := by decide +kernel
theorem dX12_hole_28 : decode cX12_hole 28 = .ok (.aload_n 0, 1) := by decide +kernel
theorem dX12_hole_29 : decode cX12_hole 29 = .ok (.iload_n 1, 1) := by decide +kernel
theorem dX12_hole_30 : decode cX12_hole 30 = .ok (.iload_n 2, 1) := by decide +kernel
theorem dX12_hole_31 : decode cX12_hole 31 = .ok (.invokevirtual 293, 3) := by decide +kernel
theorem dX12_hole_34 : decode cX12_hole 34 = .ok (.ifCond .eq 7, 3) := by decide +kernel
theorem dX12_hole_37 : decode cX12_hole 37 = .ok (.iconst 1, 1) := by decide +kernel
theorem dX12_hole_38 : decode cX12_hole 38 = .ok (.goto 4, 3) := by decide +kernel
theorem dX12_hole_41 : decode cX12_hole 41 = .ok (.iconst 0, 1) := by decide +kernel
theorem dX12_hole_42 : decode cX12_hole 42 = .ok (.ireturn, 1) := by decide +kernel
theorem wrr_wsX12_next_ {i : Nat} {w : Cond} (h : wsX12_next_[i]? = some w) : w ∈ wsX12_next_ := List.mem_of_getElem? h
theorem wrr_wsX12_next__wsX12_next__r1 {i : Nat} {w : Cond} (h : wsX12_next__r1[i]? = some w) : w ∈ wsX12_next_ := (List.mem_cons_of_mem _ (List.mem_append_left _ (List.mem_append_left _ (List.mem_of_getElem? h))))
theorem wrr_wsX12_next__wsX12_next__r2 {i : Nat} {w : Cond} (h : wsX12_next__r2[i]? = some w) : w ∈ wsX12_next_ := (List.mem_cons_of_mem _ (List.mem_append_left _ (List.mem_append_right _ (List.mem_append_left _ (List.mem_of_getElem? h)))))
theorem wrr_wsX12_next__wsX12_next__r3 {i : Nat} {w : Cond} (h : wsX12_next__r3[i]? = some w) : w ∈ wsX12_next_ := (List.mem_cons_of_mem _ (List.mem_append_left _ (List.mem_append_right _ (List.mem_append_right _ (List.mem_of_getElem? h)))))
theorem wru_wsX12_next__wsX120 : ∀ w ∈ wsX120, w ∈ wsX12_next_ := fun w h => (List.mem_cons_of_mem _ (List.mem_append_right _ h))
set_option maxRecDepth 20000 in
theorem ggX12_next__X12_isSide : GoodIn wsX12_next_ wsX12_isSide := goodIn_sub (List.forall_mem_cons.mpr ⟨wrr_wsX12_next__wsX12_next__r1 (i := 5) rfl, (List.forall_mem_append.mpr ⟨(List.forall_mem_cons.mpr ⟨wrr_wsX12_next__wsX12_next__r1 (i := 6) rfl, (List.forall_mem_cons.mpr ⟨wrr_wsX12_next__wsX12_next__r1 (i := 7) rfl, (List.forall_mem_cons.mpr ⟨wrr_wsX12_next__wsX12_next__r1 (i := 8) rfl, (List.forall_mem_cons.mpr ⟨wrr_wsX12_next__wsX12_next__r1 (i := 4) rfl, (List.forall_mem_cons.mpr ⟨wrr_wsX12_next__wsX12_next__r1 (i := 9) rfl, (List.forall_mem_cons.mpr ⟨wrr_wsX12_next__wsX12_next__r1 (i := 10) rfl, (List.forall_mem_cons.mpr ⟨wrr_wsX12_next__wsX12_next__r1 (i := 11) rfl, (List.forall_mem_cons.mpr ⟨wrr_wsX12_next__wsX12_next__r1 (i := 12) rfl, (List.forall_mem_cons.mpr ⟨wrr_wsX12_next__wsX12_next__r1 (i := 13) rfl, (fun _ h => absurd h List.not_mem_nil)⟩)⟩)⟩)⟩)⟩)⟩)⟩)⟩)⟩), wru_wsX12_next__wsX120⟩)⟩) gw_wsX12_isSide
set_option maxRecDepth 20000 in
theorem gX12_next__X12_isSide : GoodIn wsX12_next_ (wsV RX12 261 RX12 yX12_isSide wsX12_isSide) := goodIn_app (goodIn_sub (List.forall_mem_cons.mpr ⟨wrr_wsX12_next__wsX12_next__r1 (i := 1) rfl, (List.forall_mem_cons.mpr ⟨wrr_wsX12_next__wsX12_next__r1 (i := 2) rfl, (List.forall_mem_cons.mpr ⟨wrr_wsX12_next__wsX12_next__r1 (i := 3) rfl, (List.forall_mem_cons.mpr ⟨wrr_wsX12_next__wsX12_next__r1 (i := 4) rfl, (fun _ h => absurd h List.not_mem_nil)⟩)⟩)⟩)⟩) (by decide +kernel)) ggX12_next__X12_isSide
set_option maxRecDepth 20000 in
theorem ggX12_next__X12_isBeat : GoodIn wsX12_next_ wsX12_isBeat := goodIn_sub (List.forall_mem_cons.mpr ⟨wrr_wsX12_next__wsX12_next__r1 (i := 16) rfl, (List.forall_mem_cons.mpr ⟨wrr_wsX12_next__wsX12_next__r1 (i := 17) rfl, (List.forall_mem_cons.mpr ⟨wrr_wsX12_next__wsX12_next__r1 (i := 11) rfl, (List.forall_mem_cons.mpr ⟨wrr_wsX12_next__wsX12_next__r1 (i := 12) rfl, (List.forall_mem_cons.mpr ⟨wrr_wsX12_next__wsX12_next__r1 (i := 4) rfl, (List.forall_mem_cons.mpr ⟨wrr_wsX12_next__wsX12_next__r1 (i := 13) rfl, (fun _ h => absurd h List.not_mem_nil)⟩)⟩)⟩)⟩)⟩)⟩) gw_wsX12_isBeat
set_option maxRecDepth 20000 in
theorem gX12_next__X12_isBeat : GoodIn wsX12_next_ (va_wsS RX12 270 yX12_isBeat wsX12_isBeat) := goodIn_app (goodIn_sub (List.forall_mem_cons.mpr ⟨wrr_wsX12_next__wsX12_next__r1 (i := 14) rfl, (List.forall_mem_cons.mpr ⟨wrr_wsX12_next__wsX12_next__r1 (i := 15) rfl, (List.forall_mem_cons.mpr ⟨wrr_wsX12_next__wsX12_next__r1 (i := 4) rfl, (fun _ h => absurd h List.not_mem_nil)⟩)⟩)⟩) (by decide +kernel)) ggX12_next__X12_isBeat
set_option maxRecDepth 20000 in
theorem ggX12_next__X12_lays : GoodIn wsX12_next_ wsX12_lays := goodIn_sub (List.forall_mem_cons.mpr ⟨wrr_wsX12_next__wsX12_next__r1 (i := 21) rfl, (List.forall_mem_append.mpr ⟨(List.forall_mem_cons.mpr ⟨wrr_wsX12_next__wsX12_next__r1 (i := 22) rfl, (List.forall_mem_cons.mpr ⟨wrr_wsX12_next__wsX12_next__r1 (i := 23) rfl, (List.forall_mem_cons.mpr ⟨wrr_wsX12_next__wsX12_next__r2 (i := 0) rfl, (List.forall_mem_cons.mpr ⟨wrr_wsX12_next__wsX12_next__r1 (i := 4) rfl, (List.forall_mem_cons.mpr ⟨wrr_wsX12_next__wsX12_next__r2 (i := 1) rfl, (List.forall_mem_cons.mpr ⟨wrr_wsX12_next__wsX12_next__r2 (i := 2) rfl, (List.forall_mem_cons.mpr ⟨wrr_wsX12_next__wsX12_next__r2 (i := 3) rfl, (List.forall_mem_cons.mpr ⟨wrr_wsX12_next__wsX12_next__r2 (i := 4) rfl, (List.forall_mem_cons.mpr ⟨wrr_wsX12_next__wsX12_next__r2 (i := 5) rfl, (List.forall_mem_cons.mpr ⟨wrr_wsX12_next__wsX12_next__r2 (i := 6) rfl, (List.forall_mem_cons.mpr ⟨wrr_wsX12_next__wsX12_next__r2 (i := 7) rfl, (List.forall_mem_cons.mpr ⟨wrr_wsX12_next__wsX12_next__r2 (i := 8) rfl, (List.forall_mem_cons.mpr ⟨wrr_wsX12_next__wsX12_next__r2 (i := 9) rfl, (List.forall_mem_cons.mpr ⟨wrr_wsX12_next__wsX12_next__r2 (i := 10) rfl, (List.forall_mem_cons.mpr ⟨wrr_wsX12_next__wsX12_next__r2 (i := 11) rfl, (List.forall_mem_cons.mpr ⟨wrr_wsX12_next__wsX12_next__r2 (i := 12) rfl, (List.forall_mem_cons.mpr ⟨wrr_wsX12_next__wsX12_next__r2 (i := 13) rfl, (List.forall_mem_cons.mpr ⟨wrr_wsX12_next__wsX12_next__r2 (i := 14) rfl, (List.forall_mem_cons.mpr ⟨wrr_wsX12_next__wsX12_next__r2 (i := 15) rfl, (fun _ h => absurd h List.not_mem_nil)⟩)⟩)⟩)⟩)⟩)⟩)⟩)⟩)⟩)⟩)⟩)⟩)⟩)⟩)⟩)⟩)⟩)⟩)⟩), wru_wsX12_next__wsX120⟩)⟩) gw_wsX12_lays
set_option maxRecDepth 20000 in
theorem gX12_next__X12_lays : GoodIn wsX12_next_ (wsV RX12 290 RX12 yX12_lays wsX12_lays) := goodIn_app (goodIn_sub (List.forall_mem_cons.mpr ⟨wrr_wsX12_next__wsX12_next__r1 (i := 18) rfl, (List.forall_mem_cons.mpr ⟨wrr_wsX12_next__wsX12_next__r1 (i := 19) rfl, (List.forall_mem_cons.mpr ⟨wrr_wsX12_next__wsX12_next__r1 (i := 20) rfl, (List.forall_mem_cons.mpr ⟨wrr_wsX12_next__wsX12_next__r1 (i := 4) rfl, (fun _ h => absurd h List.not_mem_nil)⟩)⟩)⟩)⟩) (by decide +kernel)) ggX12_next__X12_lays
set_option maxRecDepth 20000 in
theorem ggX12_next__X12_isHole : GoodIn wsX12_next_ wsX12_isHole := goodIn_sub (List.forall_mem_cons.mpr ⟨wrr_wsX12_next__wsX12_next__r2 (i := 19) rfl, (List.forall_mem_append.mpr ⟨(List.forall_mem_cons.mpr ⟨wrr_wsX12_next__wsX12_next__r2 (i := 8) rfl, (List.forall_mem_cons.mpr ⟨wrr_wsX12_next__wsX12_next__r2 (i := 20) rfl, (List.forall_mem_cons.mpr ⟨wrr_wsX12_next__wsX12_next__r2 (i := 21) rfl, (List.forall_mem_cons.mpr ⟨wrr_wsX12_next__wsX12_next__r2 (i := 22) rfl, (List.forall_mem_cons.mpr ⟨wrr_wsX12_next__wsX12_next__r1 (i := 4) rfl, (List.forall_mem_cons.mpr ⟨wrr_wsX12_next__wsX12_next__r2 (i := 23) rfl, (List.forall_mem_cons.mpr ⟨wrr_wsX12_next__wsX12_next__r2 (i := 6) rfl, (List.forall_mem_cons.mpr ⟨wrr_wsX12_next__wsX12_next__r3 (i := 0) rfl, (List.forall_mem_cons.mpr ⟨wrr_wsX12_next__wsX12_next__r3 (i := 1) rfl, (List.forall_mem_cons.mpr ⟨wrr_wsX12_next__wsX12_next__r3 (i := 2) rfl, (List.forall_mem_cons.mpr ⟨wrr_wsX12_next__wsX12_next__r3 (i := 3) rfl, (List.forall_mem_cons.mpr ⟨wrr_wsX12_next__wsX12_next__r3 (i := 4) rfl, (List.forall_mem_cons.mpr ⟨wrr_wsX12_next__wsX12_next__r3 (i := 5) rfl, (List.forall_mem_cons.mpr ⟨wrr_wsX12_next__wsX12_next__r3 (i := 6) rfl, (List.forall_mem_cons.mpr ⟨wrr_wsX12_next__wsX12_next__r3 (i := 7) rfl, (fun _ h => absurd h List.not_mem_nil)⟩)⟩)⟩)⟩)⟩)⟩)⟩)⟩)⟩)⟩)⟩)⟩)⟩)⟩)⟩), wru_wsX12_next__wsX120⟩)⟩) gw_wsX12_isHole
set_option maxRecDepth 20000 in
theorem gX12_next__X12_isHole : GoodIn wsX12_next_ (wsV RX12 293 RX12 yX12_isHole wsX12_isHole) := goodIn_app (goodIn_sub (List.forall_mem_cons.mpr ⟨wrr_wsX12_next__wsX12_next__r2 (i := 16) rfl, (List.forall_mem_cons.mpr ⟨wrr_wsX12_next__wsX12_next__r2 (i := 17) rfl, (List.forall_mem_cons.mpr ⟨wrr_wsX12_next__wsX12_next__r2 (i := 18) rfl, (List.forall_mem_cons.mpr ⟨wrr_wsX12_next__wsX12_next__r1 (i := 4) rfl, (fun _ h => absurd h List.not_mem_nil)⟩)⟩)⟩)⟩) (by decide +kernel)) ggX12_next__X12_isHole
theorem dX12_next__0 : decode cX12_next_ 0 = .ok (.aload_n 0, 1) := by decide +kernel
theorem dX12_next__1 : decode cX12_next_ 1 = .ok (.iconst 0, 1) := by decide +kernel
theorem dX12_next__2 : decode cX12_next_ 2 = .ok (.putfield 80, 3) := by decide +kernel
theorem dX12_next__5 : decode cX12_next_ 5 = .ok (.aload_n 0, 1) := by decide +kernel
theorem dX12_next__6 : decode cX12_next_ 6 = .ok (.iload_n 1, 1) := by decide +kernel
theorem dX12_next__7 : decode cX12_next_ 7 = .ok (.invokevirtual 261, 3) := by decide +kernel
theorem dX12_next__10 : decode cX12_next_ 10 = .ok (.ifCond .eq 11, 3) := by decide +kernel
theorem dX12_next__13 : decode cX12_next_ 13 = .ok (.iload_n 2, 1) := by decide +kernel
theorem dX12_next__14 : decode cX12_next_ 14 = .ok (.i2l, 1) := by decide +kernel
theorem dX12_next__15 : decode cX12_next_ 15 = .ok (.invokestatic 270, 3) := by decide +kernel
theorem dX12_next__18 : decode cX12_next_ 18 = .ok (.ifCond .ne 6, 3) := by decide +kernel
theorem dX12_next__21 : decode cX12_next_ 21 = .ok (.bipush (-2), 2) := by decide +kernel
theorem dX12_next__23 : decode cX12_next_ 23 = .ok (.ireturn, 1) := by decide +kernel
theorem dX12_next__24 : decode cX12_next_ 24 = .ok (.aload_n 0, 1) := by decide +kernel
theorem dX12_next__25 : decode cX12_next_ 25 = .ok (.invokevirtual 290, 3) := by decide +kernel
theorem dX12_next__28 : decode cX12_next_ 28 = .ok (.iload_n 2, 1) := by decide +kernel
theorem dX12_next__29 : decode cX12_next_ 29 = .ok (.istore_n 3, 1) := by decide +kernel
theorem dX12_next__30 : decode cX12_next_ 30 = .ok (.iload_n 3, 1) := by decide +kernel
theorem dX12_next__31 : decode cX12_next_ 31 = .ok (.sipush 200, 3) := by decide +kernel
theorem dX12_next__34 : decode cX12_next_ 34 = .ok (.if_icmp .ge 20, 3) := by decide +kernel
theorem dX12_next__37 : decode cX12_next_ 37 = .ok (.aload_n 0, 1) := by decide +kernel
theorem dX12_next__38 : decode cX12_next_ 38 = .ok (.iload_n 1, 1) := by decide +kernel
theorem dX12_next__39 : decode cX12_next_ 39 = .ok (.iload_n 3, 1) := by decide +kernel
theorem dX12_next__40 : decode cX12_next_ 40 = .ok (.invokevirtual 293, 3) := by decide +kernel
theorem dX12_next__43 : decode cX12_next_ 43 = .ok (.ifCond .eq 5, 3) := by decide +kernel
theorem dX12_next__46 : decode cX12_next_ 46 = .ok (.iload_n 3, 1) := by decide +kernel
theorem dX12_next__47 : decode cX12_next_ 47 = .ok (.ireturn, 1) := by decide +kernel
theorem dX12_next__48 : decode cX12_next_ 48 = .ok (.iinc 3 1, 3) := by decide +kernel
theorem dX12_next__51 : decode cX12_next_ 51 = .ok (.goto (-21), 3) := by decide +kernel
theorem dX12_next__54 : decode cX12_next_ 54 = .ok (.iconst (-1), 1) := by decide +kernel
theorem dX12_next__55 : decode cX12_next_ 55 = .ok (.ireturn, 1) := by decide +kernel
theorem wrr_wsX12_holesOf {i : Nat} {w : Cond} (h : wsX12_holesOf[i]? = some w) : w ∈ wsX12_holesOf := List.mem_of_getElem? h
theorem wru_wsX12_holesOf_wsX120 : ∀ w ∈ wsX120, w ∈ wsX12_holesOf := fun w h => (List.mem_cons_of_mem _ (List.mem_append_right _ h))
set_option maxRecDepth 20000 in
theorem ggX12_holesOf_X12_isHole : GoodIn wsX12_holesOf wsX12_isHole := goodIn_sub (List.forall_mem_cons.mpr ⟨wrr_wsX12_holesOf (i := 5) rfl, (List.forall_mem_append.mpr ⟨(List.forall_mem_cons.mpr ⟨wrr_wsX12_holesOf (i := 6) rfl, (List.forall_mem_cons.mpr ⟨wrr_wsX12_holesOf (i := 7) rfl, (List.forall_mem_cons.mpr ⟨wrr_wsX12_holesOf (i := 8) rfl, (List.forall_mem_cons.mpr ⟨wrr_wsX12_holesOf (i := 9) rfl, (List.forall_mem_cons.mpr ⟨wrr_wsX12_holesOf (i := 4) rfl, (List.forall_mem_cons.mpr ⟨wrr_wsX12_holesOf (i := 10) rfl, (List.forall_mem_cons.mpr ⟨wrr_wsX12_holesOf (i := 11) rfl, (List.forall_mem_cons.mpr ⟨wrr_wsX12_holesOf (i := 12) rfl, (List.forall_mem_cons.mpr ⟨wrr_wsX12_holesOf (i := 13) rfl, (List.forall_mem_cons.mpr ⟨wrr_wsX12_holesOf (i := 14) rfl, (List.forall_mem_cons.mpr ⟨wrr_wsX12_holesOf (i := 15) rfl, (List.forall_mem_cons.mpr ⟨wrr_wsX12_holesOf (i := 16) rfl, (List.forall_mem_cons.mpr ⟨wrr_wsX12_holesOf (i := 17) rfl, (List.forall_mem_cons.mpr ⟨wrr_wsX12_holesOf (i := 18) rfl, (List.forall_mem_cons.mpr ⟨wrr_wsX12_holesOf (i := 19) rfl, (fun _ h => absurd h List.not_mem_nil)⟩)⟩)⟩)⟩)⟩)⟩)⟩)⟩)⟩)⟩)⟩)⟩)⟩)⟩)⟩), wru_wsX12_holesOf_wsX120⟩)⟩) gw_wsX12_isHole
set_option maxRecDepth 20000 in
theorem gX12_holesOf_X12_isHole : GoodIn wsX12_holesOf (wsV RX12 293 RX12 yX12_isHole wsX12_isHole) := goodIn_app (goodIn_sub (List.forall_mem_cons.mpr ⟨wrr_wsX12_holesOf (i := 1) rfl, (List.forall_mem_cons.mpr ⟨wrr_wsX12_holesOf (i := 2) rfl, (List.forall_mem_cons.mpr ⟨wrr_wsX12_holesOf (i := 3) rfl, (List.forall_mem_cons.mpr ⟨wrr_wsX12_holesOf (i := 4) rfl, (fun _ h => absurd h List.not_mem_nil)⟩)⟩)⟩)⟩) (by decide +kernel)) ggX12_holesOf_X12_isHole
theorem dX12_holesOf_0 : decode cX12_holesOf 0 = .ok (.iconst 0, 1) := by decide +kernel
theorem dX12_holesOf_1 : decode cX12_holesOf 1 = .ok (.istore 4, 2) := by decide +kernel
theorem dX12_holesOf_3 : decode cX12_holesOf 3 = .ok (.iload_n 2, 1) := by decide +kernel
theorem dX12_holesOf_4 : decode cX12_holesOf 4 = .ok (.istore 5, 2) := by decide +kernel
theorem dX12_holesOf_6 : decode cX12_holesOf 6 = .ok (.iload 5, 2) := by decide +kernel
theorem dX12_holesOf_8 : decode cX12_holesOf 8 = .ok (.iload_n 3, 1) := by decide +kernel
theorem dX12_holesOf_9 : decode cX12_holesOf 9 = .ok (.if_icmp .gt 29, 3) := by decide +kernel
theorem dX12_holesOf_12 : decode cX12_holesOf 12 = .ok (.iload 4, 2) := by decide +kernel
theorem dX12_holesOf_14 : decode cX12_holesOf 14 = .ok (.aload_n 0, 1) := by decide +kernel
theorem dX12_holesOf_15 : decode cX12_holesOf 15 = .ok (.iload_n 1, 1) := by decide +kernel
theorem dX12_holesOf_16 : decode cX12_holesOf 16 = .ok (.iload 5, 2) := by decide +kernel
theorem dX12_holesOf_18 : decode cX12_holesOf 18 = .ok (.invokevirtual 293, 3) := by decide +kernel
theorem dX12_holesOf_21 : decode cX12_holesOf 21 = .ok (.ifCond .eq 7, 3) := by decide +kernel
theorem dX12_holesOf_24 : decode cX12_holesOf 24 = .ok (.iconst 1, 1) := by decide +kernel
theorem dX12_holesOf_25 : decode cX12_holesOf 25 = .ok (.goto 4, 3) := by decide +kernel
theorem dX12_holesOf_28 : decode cX12_holesOf 28 = .ok (.iconst 0, 1) := by decide +kernel
theorem dX12_holesOf_29 : decode cX12_holesOf 29 = .ok (.iadd, 1) := by decide +kernel
theorem dX12_holesOf_30 : decode cX12_holesOf 30 = .ok (.istore 4, 2) := by decide +kernel
theorem dX12_holesOf_32 : decode cX12_holesOf 32 = .ok (.iinc 5 1, 3) := by decide +kernel
theorem dX12_holesOf_35 : decode cX12_holesOf 35 = .ok (.goto (-29), 3) := by decide +kernel
theorem dX12_holesOf_38 : decode cX12_holesOf 38 = .ok (.iload 4, 2) := by decide +kernel
theorem dX12_holesOf_40 : decode cX12_holesOf 40 = .ok (.ireturn, 1) := by decide +kernel
theorem wrr_wsX12_isSpan {i : Nat} {w : Cond} (h : wsX12_isSpan[i]? = some w) : w ∈ wsX12_isSpan := List.mem_of_getElem? h
theorem wru_wsX12_isSpan_wsX120 : ∀ w ∈ wsX120, w ∈ wsX12_isSpan := fun w h => (List.mem_cons_of_mem _ (List.mem_append_right _ h))
set_option maxRecDepth 20000 in
theorem ggX12_isSpan_X12_isDance : GoodIn wsX12_isSpan wsX12_isDance := goodIn_sub (List.forall_mem_cons.mpr ⟨wrr_wsX12_isSpan (i := 6) rfl, (List.forall_mem_append.mpr ⟨(List.forall_mem_cons.mpr ⟨wrr_wsX12_isSpan (i := 7) rfl, (fun _ h => absurd h List.not_mem_nil)⟩), wru_wsX12_isSpan_wsX120⟩)⟩) gw_wsX12_isDance
set_option maxRecDepth 20000 in
theorem gX12_isSpan_X12_isDance : GoodIn wsX12_isSpan (wsV RX12 254 RX12 yX12_isDance wsX12_isDance) := goodIn_app (goodIn_sub (List.forall_mem_cons.mpr ⟨wrr_wsX12_isSpan (i := 2) rfl, (List.forall_mem_cons.mpr ⟨wrr_wsX12_isSpan (i := 3) rfl, (List.forall_mem_cons.mpr ⟨wrr_wsX12_isSpan (i := 4) rfl, (List.forall_mem_cons.mpr ⟨wrr_wsX12_isSpan (i := 5) rfl, (fun _ h => absurd h List.not_mem_nil)⟩)⟩)⟩)⟩) (by decide +kernel)) ggX12_isSpan_X12_isDance
set_option maxRecDepth 20000 in
theorem ggX12_isSpan_X12_isBeat : GoodIn wsX12_isSpan wsX12_isBeat := goodIn_sub (List.forall_mem_cons.mpr ⟨wrr_wsX12_isSpan (i := 10) rfl, (List.forall_mem_cons.mpr ⟨wrr_wsX12_isSpan (i := 1) rfl, (List.forall_mem_cons.mpr ⟨wrr_wsX12_isSpan (i := 11) rfl, (List.forall_mem_cons.mpr ⟨wrr_wsX12_isSpan (i := 12) rfl, (List.forall_mem_cons.mpr ⟨wrr_wsX12_isSpan (i := 5) rfl, (List.forall_mem_cons.mpr ⟨wrr_wsX12_isSpan (i := 13) rfl, (fun _ h => absurd h List.not_mem_nil)⟩)⟩)⟩)⟩)⟩)⟩) gw_wsX12_isBeat
set_option maxRecDepth 20000 in
theorem gX12_isSpan_X12_isBeat : GoodIn wsX12_isSpan (va_wsS RX12 270 yX12_isBeat wsX12_isBeat) := goodIn_app (goodIn_sub (List.forall_mem_cons.mpr ⟨wrr_wsX12_isSpan (i := 8) rfl, (List.forall_mem_cons.mpr ⟨wrr_wsX12_isSpan (i := 9) rfl, (List.forall_mem_cons.mpr ⟨wrr_wsX12_isSpan (i := 5) rfl, (fun _ h => absurd h List.not_mem_nil)⟩)⟩)⟩) (by decide +kernel)) ggX12_isSpan_X12_isBeat
set_option maxRecDepth 20000 in
theorem ggX12_isSpan_X12_in : GoodIn wsX12_isSpan wsX12_in := goodIn_sub (List.forall_mem_cons.mpr ⟨wrr_wsX12_isSpan (i := 13) rfl, (fun _ h => absurd h List.not_mem_nil)⟩) gw_wsX12_in
set_option maxRecDepth 20000 in
theorem gX12_isSpan_X12_in : GoodIn wsX12_isSpan (va_wsS RX12 85 yX12_in wsX12_in) := goodIn_app (goodIn_sub (List.forall_mem_cons.mpr ⟨wrr_wsX12_isSpan (i := 11) rfl, (List.forall_mem_cons.mpr ⟨wrr_wsX12_isSpan (i := 12) rfl, (List.forall_mem_cons.mpr ⟨wrr_wsX12_isSpan (i := 5) rfl, (fun _ h => absurd h List.not_mem_nil)⟩)⟩)⟩) (by decide +kernel)) ggX12_isSpan_X12_in
theorem dX12_isSpan_0 : decode cX12_isSpan 0 = .ok (.aload_n 0, 1) := by decide +kernel
theorem dX12_isSpan_1 : decode cX12_isSpan 1 = .ok (.invokevirtual 254, 3) := by decide +kernel
theorem dX12_isSpan_4 : decode cX12_isSpan 4 = .ok (.ifCond .eq 28, 3) := by decide +kernel
theorem dX12_isSpan_7 : decode cX12_isSpan 7 = .ok (.iload_n 1, 1) := by decide +kernel
theorem dX12_isSpan_8 : decode cX12_isSpan 8 = .ok (.i2l, 1) := by decide +kernel
theorem dX12_isSpan_9 : decode cX12_isSpan 9 = .ok (.invokestatic 270, 3) := by decide +kernel
theorem dX12_isSpan_12 : decode cX12_isSpan 12 = .ok (.ifCond .eq 20, 3) := by decide +kernel
theorem dX12_isSpan_15 : decode cX12_isSpan 15 = .ok (.iload_n 2, 1) := by decide +kernel
theorem dX12_isSpan_16 : decode cX12_isSpan 16 = .ok (.i2l, 1) := by decide +kernel
theorem dX12_isSpan_17 : decode cX12_isSpan 17 = .ok (.iload_n 1, 1) := by decide +kernel
theorem dX12_isSpan_18 : decode cX12_isSpan 18 = .ok (.i2l, 1) := by decide +kernel
theorem dX12_isSpan_19 : decode cX12_isSpan 19 = .ok (.ldc2_w 257, 3) := by decide +kernel
theorem dX12_isSpan_22 : decode cX12_isSpan 22 = .ok (.invokestatic 85, 3) := by decide +kernel
theorem dX12_isSpan_25 : decode cX12_isSpan 25 = .ok (.ifCond .eq 7, 3) := by decide +kernel
theorem dX12_isSpan_28 : decode cX12_isSpan 28 = .ok (.iconst 1, 1) := by decide +kernel
theorem dX12_isSpan_29 : decode cX12_isSpan 29 = .ok (.goto 4, 3) := by decide +kernel
theorem dX12_isSpan_32 : decode cX12_isSpan 32 = .ok (.iconst 0, 1) := by decide +kernel
theorem dX12_isSpan_33 : decode cX12_isSpan 33 = .ok (.ireturn, 1) := by decide +kernel
theorem wrr_wsX12_holes {i : Nat} {w : Cond} (h : wsX12_holes[i]? = some w) : w ∈ wsX12_holes := List.mem_of_getElem? h
theorem wrr_wsX12_holes_wsX12_holes_r1 {i : Nat} {w : Cond} (h : wsX12_holes_r1[i]? = some w) : w ∈ wsX12_holes := (List.mem_cons_of_mem _ (List.mem_append_left _ (List.mem_append_left _ (List.mem_of_getElem? h))))
theorem wrr_wsX12_holes_wsX12_holes_r2 {i : Nat} {w : Cond} (h : wsX12_holes_r2[i]? = some w) : w ∈ wsX12_holes := (List.mem_cons_of_mem _ (List.mem_append_left _ (List.mem_append_right _ (List.mem_append_left _ (List.mem_of_getElem? h)))))
theorem wrr_wsX12_holes_wsX12_holes_r3 {i : Nat} {w : Cond} (h : wsX12_holes_r3[i]? = some w) : w ∈ wsX12_holes := (List.mem_cons_of_mem _ (List.mem_append_left _ (List.mem_append_right _ (List.mem_append_right _ (List.mem_of_getElem? h)))))
theorem wru_wsX12_holes_wsX120 : ∀ w ∈ wsX120, w ∈ wsX12_holes := fun w h => (List.mem_cons_of_mem _ (List.mem_append_right _ h))
set_option maxRecDepth 20000 in
theorem ggX12_holes_X12_isSide : GoodIn wsX12_holes wsX12_isSide := goodIn_sub (List.forall_mem_cons.mpr ⟨wrr_wsX12_holes_wsX12_holes_r1 (i := 5) rfl, (List.forall_mem_append.mpr ⟨(List.forall_mem_cons.mpr ⟨wrr_wsX12_holes_wsX12_holes_r1 (i := 6) rfl, (List.forall_mem_cons.mpr ⟨wrr_wsX12_holes_wsX12_holes_r1 (i := 7) rfl, (List.forall_mem_cons.mpr ⟨wrr_wsX12_holes_wsX12_holes_r1 (i := 8) rfl, (List.forall_mem_cons.mpr ⟨wrr_wsX12_holes_wsX12_holes_r1 (i := 4) rfl, (List.forall_mem_cons.mpr ⟨wrr_wsX12_holes_wsX12_holes_r1 (i := 9) rfl, (List.forall_mem_cons.mpr ⟨wrr_wsX12_holes_wsX12_holes_r1 (i := 10) rfl, (List.forall_mem_cons.mpr ⟨wrr_wsX12_holes_wsX12_holes_r1 (i := 11) rfl, (List.forall_mem_cons.mpr ⟨wrr_wsX12_holes_wsX12_holes_r1 (i := 12) rfl, (List.forall_mem_cons.mpr ⟨wrr_wsX12_holes_wsX12_holes_r1 (i := 13) rfl, (fun _ h => absurd h List.not_mem_nil)⟩)⟩)⟩)⟩)⟩)⟩)⟩)⟩)⟩), wru_wsX12_holes_wsX120⟩)⟩) gw_wsX12_isSide
set_option maxRecDepth 20000 in
theorem gX12_holes_X12_isSide : GoodIn wsX12_holes (wsV RX12 261 RX12 yX12_isSide wsX12_isSide) := goodIn_app (goodIn_sub (List.forall_mem_cons.mpr ⟨wrr_wsX12_holes_wsX12_holes_r1 (i := 1) rfl, (List.forall_mem_cons.mpr ⟨wrr_wsX12_holes_wsX12_holes_r1 (i := 2) rfl, (List.forall_mem_cons.mpr ⟨wrr_wsX12_holes_wsX12_holes_r1 (i := 3) rfl, (List.forall_mem_cons.mpr ⟨wrr_wsX12_holes_wsX12_holes_r1 (i := 4) rfl, (fun _ h => absurd h List.not_mem_nil)⟩)⟩)⟩)⟩) (by decide +kernel)) ggX12_holes_X12_isSide
set_option maxRecDepth 20000 in
theorem gw_wsX12_isSpan : wsX12_isSpan.all goodWord = true := by decide +kernel
set_option maxRecDepth 20000 in
theorem ggX12_holes_X12_isSpan : GoodIn wsX12_holes wsX12_isSpan := goodIn_sub (List.forall_mem_cons.mpr ⟨wrr_wsX12_holes_wsX12_holes_r1 (i := 17) rfl, (List.forall_mem_append.mpr ⟨(List.forall_mem_cons.mpr ⟨wrr_wsX12_holes_wsX12_holes_r1 (i := 18) rfl, (List.forall_mem_cons.mpr ⟨wrr_wsX12_holes_wsX12_holes_r1 (i := 6) rfl, (List.forall_mem_cons.mpr ⟨wrr_wsX12_holes_wsX12_holes_r1 (i := 7) rfl, (List.forall_mem_cons.mpr ⟨wrr_wsX12_holes_wsX12_holes_r1 (i := 8) rfl, (List.forall_mem_cons.mpr ⟨wrr_wsX12_holes_wsX12_holes_r1 (i := 4) rfl, (List.forall_mem_cons.mpr ⟨wrr_wsX12_holes_wsX12_holes_r1 (i := 9) rfl, (List.forall_mem_cons.mpr ⟨wrr_wsX12_holes_wsX12_holes_r1 (i := 10) rfl, (List.forall_mem_cons.mpr ⟨wrr_wsX12_holes_wsX12_holes_r1 (i := 19) rfl, (List.forall_mem_cons.mpr ⟨wrr_wsX12_holes_wsX12_holes_r1 (i := 20) rfl, (List.forall_mem_cons.mpr ⟨wrr_wsX12_holes_wsX12_holes_r1 (i := 21) rfl, (List.forall_mem_cons.mpr ⟨wrr_wsX12_holes_wsX12_holes_r1 (i := 11) rfl, (List.forall_mem_cons.mpr ⟨wrr_wsX12_holes_wsX12_holes_r1 (i := 12) rfl, (List.forall_mem_cons.mpr ⟨wrr_wsX12_holes_wsX12_holes_r1 (i := 13) rfl, (fun _ h => absurd h List.not_mem_nil)⟩)⟩)⟩)⟩)⟩)⟩)⟩)⟩)⟩)⟩)⟩)⟩)⟩), wru_wsX12_holes_wsX120⟩)⟩) gw_wsX12_isSpan
set_option maxRecDepth 20000 in
theorem gX12_holes_X12_isSpan : GoodIn wsX12_holes (wsV RX12 296 RX12 yX12_isSpan wsX12_isSpan) := goodIn_app (goodIn_sub (List.forall_mem_cons.mpr ⟨wrr_wsX12_holes_wsX12_holes_r1 (i := 14) rfl, (List.forall_mem_cons.mpr ⟨wrr_wsX12_holes_wsX12_holes_r1 (i := 15) rfl, (List.forall_mem_cons.mpr ⟨wrr_wsX12_holes_wsX12_holes_r1 (i := 16) rfl, (List.forall_mem_cons.mpr ⟨wrr_wsX12_holes_wsX12_holes_r1 (i := 4) rfl, (fun _ h => absurd h List.not_mem_nil)⟩)⟩)⟩)⟩) (by decide +kernel)) ggX12_holes_X12_isSpan
set_option maxRecDepth 20000 in
theorem ggX12_holes_X12_lays : GoodIn wsX12_holes wsX12_lays := goodIn_sub (List.forall_mem_cons.mpr ⟨wrr_wsX12_holes_wsX12_holes_r2 (i := 1) rfl, (List.forall_mem_append.mpr ⟨(List.forall_mem_cons.mpr ⟨wrr_wsX12_holes_wsX12_holes_r2 (i := 2) rfl, (List.forall_mem_cons.mpr ⟨wrr_wsX12_holes_wsX12_holes_r2 (i := 3) rfl, (List.forall_mem_cons.mpr ⟨wrr_wsX12_holes_wsX12_holes_r2 (i := 4) rfl, (List.forall_mem_cons.mpr ⟨wrr_wsX12_holes_wsX12_holes_r1 (i := 4) rfl, (List.forall_mem_cons.mpr ⟨wrr_wsX12_holes_wsX12_holes_r2 (i := 5) rfl, (List.forall_mem_cons.mpr ⟨wrr_wsX12_holes_wsX12_holes_r2 (i := 6) rfl, (List.forall_mem_cons.mpr ⟨wrr_wsX12_holes_wsX12_holes_r2 (i := 7) rfl, (List.forall_mem_cons.mpr ⟨wrr_wsX12_holes_wsX12_holes_r2 (i := 8) rfl, (List.forall_mem_cons.mpr ⟨wrr_wsX12_holes_wsX12_holes_r2 (i := 9) rfl, (List.forall_mem_cons.mpr ⟨wrr_wsX12_holes_wsX12_holes_r2 (i := 10) rfl, (List.forall_mem_cons.mpr ⟨wrr_wsX12_holes_wsX12_holes_r2 (i := 11) rfl, (List.forall_mem_cons.mpr ⟨wrr_wsX12_holes_wsX12_holes_r2 (i := 12) rfl, (List.forall_mem_cons.mpr ⟨wrr_wsX12_holes_wsX12_holes_r2 (i := 13) rfl, (List.forall_mem_cons.mpr ⟨wrr_wsX12_holes_wsX12_holes_r2 (i := 14) rfl, (List.forall_mem_cons.mpr ⟨wrr_wsX12_holes_wsX12_holes_r2 (i := 15) rfl, (List.forall_mem_cons.mpr ⟨wrr_wsX12_holes_wsX12_holes_r2 (i := 16) rfl, (List.forall_mem_cons.mpr ⟨wrr_wsX12_holes_wsX12_holes_r2 (i := 17) rfl, (List.forall_mem_cons.mpr ⟨wrr_wsX12_holes_wsX12_holes_r2 (i := 18) rfl, (List.forall_mem_cons.mpr ⟨wrr_wsX12_holes_wsX12_holes_r2 (i := 19) rfl, (fun _ h => absurd h List.not_mem_nil)⟩)⟩)⟩)⟩)⟩)⟩)⟩)⟩)⟩)⟩)⟩)⟩)⟩)⟩)⟩)⟩)⟩)⟩)⟩), wru_wsX12_holes_wsX120⟩)⟩) gw_wsX12_lays
set_option maxRecDepth 20000 in
theorem gX12_holes_X12_lays : GoodIn wsX12_holes (wsV RX12 290 RX12 yX12_lays wsX12_lays) := goodIn_app (goodIn_sub (List.forall_mem_cons.mpr ⟨wrr_wsX12_holes_wsX12_holes_r1 (i := 22) rfl, (List.forall_mem_cons.mpr ⟨wrr_wsX12_holes_wsX12_holes_r1 (i := 23) rfl, (List.forall_mem_cons.mpr ⟨wrr_wsX12_holes_wsX12_holes_r2 (i := 0) rfl, (List.forall_mem_cons.mpr ⟨wrr_wsX12_holes_wsX12_holes_r1 (i := 4) rfl, (fun _ h => absurd h List.not_mem_nil)⟩)⟩)⟩)⟩) (by decide +kernel)) ggX12_holes_X12_lays
set_option maxRecDepth 20000 in
theorem gw_wsX12_holesOf : wsX12_holesOf.all goodWord = true := by decide +kernel
set_option maxRecDepth 20000 in
theorem ggX12_holes_X12_holesOf : GoodIn wsX12_holes wsX12_holesOf := goodIn_sub (List.forall_mem_cons.mpr ⟨wrr_wsX12_holes_wsX12_holes_r2 (i := 23) rfl, (List.forall_mem_append.mpr ⟨(List.forall_mem_cons.mpr ⟨wrr_wsX12_holes_wsX12_holes_r3 (i := 0) rfl, (List.forall_mem_cons.mpr ⟨wrr_wsX12_holes_wsX12_holes_r3 (i := 1) rfl, (List.forall_mem_cons.mpr ⟨wrr_wsX12_holes_wsX12_holes_r3 (i := 2) rfl, (List.forall_mem_cons.mpr ⟨wrr_wsX12_holes_wsX12_holes_r1 (i := 4) rfl, (List.forall_mem_cons.mpr ⟨wrr_wsX12_holes_wsX12_holes_r3 (i := 3) rfl, (List.forall_mem_cons.mpr ⟨wrr_wsX12_holes_wsX12_holes_r2 (i := 12) rfl, (List.forall_mem_cons.mpr ⟨wrr_wsX12_holes_wsX12_holes_r3 (i := 4) rfl, (List.forall_mem_cons.mpr ⟨wrr_wsX12_holes_wsX12_holes_r3 (i := 5) rfl, (List.forall_mem_cons.mpr ⟨wrr_wsX12_holes_wsX12_holes_r3 (i := 6) rfl, (List.forall_mem_cons.mpr ⟨wrr_wsX12_holes_wsX12_holes_r3 (i := 7) rfl, (List.forall_mem_cons.mpr ⟨wrr_wsX12_holes_wsX12_holes_r2 (i := 10) rfl, (List.forall_mem_cons.mpr ⟨wrr_wsX12_holes_wsX12_holes_r3 (i := 8) rfl, (List.forall_mem_cons.mpr ⟨wrr_wsX12_holes_wsX12_holes_r3 (i := 9) rfl, (List.forall_mem_cons.mpr ⟨wrr_wsX12_holes_wsX12_holes_r3 (i := 10) rfl, (List.forall_mem_cons.mpr ⟨wrr_wsX12_holes_wsX12_holes_r3 (i := 11) rfl, (List.forall_mem_cons.mpr ⟨wrr_wsX12_holes_wsX12_holes_r3 (i := 12) rfl, (List.forall_mem_cons.mpr ⟨wrr_wsX12_holes_wsX12_holes_r3 (i := 13) rfl, (List.forall_mem_cons.mpr ⟨wrr_wsX12_holes_wsX12_holes_r3 (i := 14) rfl, (List.forall_mem_cons.mpr ⟨wrr_wsX12_holes_wsX12_holes_r3 (i := 15) rfl, (fun _ h => absurd h List.not_mem_nil)⟩)⟩)⟩)⟩)⟩)⟩)⟩)⟩)⟩)⟩)⟩)⟩)⟩)⟩)⟩)⟩)⟩)⟩)⟩), wru_wsX12_holes_wsX120⟩)⟩) gw_wsX12_holesOf
set_option maxRecDepth 20000 in
theorem gX12_holes_X12_holesOf : GoodIn wsX12_holes (wsV RX12 299 RX12 yX12_holesOf wsX12_holesOf) := goodIn_app (goodIn_sub (List.forall_mem_cons.mpr ⟨wrr_wsX12_holes_wsX12_holes_r2 (i := 20) rfl, (List.forall_mem_cons.mpr ⟨wrr_wsX12_holes_wsX12_holes_r2 (i := 21) rfl, (List.forall_mem_cons.mpr ⟨wrr_wsX12_holes_wsX12_holes_r2 (i := 22) rfl, (List.forall_mem_cons.mpr ⟨wrr_wsX12_holes_wsX12_holes_r1 (i := 4) rfl, (fun _ h => absurd h List.not_mem_nil)⟩)⟩)⟩)⟩) (by decide +kernel)) ggX12_holes_X12_holesOf
theorem dX12_holes_0 : decode cX12_holes 0 = .ok (.aload_n 0, 1) := by decide +kernel
theorem dX12_holes_1 : decode cX12_holes 1 = .ok (.iconst 0, 1) := by decide +kernel
theorem dX12_holes_2 : decode cX12_holes 2 = .ok (.putfield 80, 3) := by decide +kernel
theorem dX12_holes_5 : decode cX12_holes 5 = .ok (.aload_n 0, 1) := by decide +kernel
theorem dX12_holes_6 : decode cX12_holes 6 = .ok (.iload_n 1, 1) := by decide +kernel
theorem dX12_holes_7 : decode cX12_holes 7 = .ok (.invokevirtual 261, 3) := by decide +kernel
theorem dX12_holes_10 : decode cX12_holes 10 = .ok (.ifCond .eq 12, 3) := by decide +kernel
theorem dX12_holes_13 : decode cX12_holes 13 = .ok (.aload_n 0, 1) := by decide +kernel
theorem dX12_holes_14 : decode cX12_holes 14 = .ok (.iload_n 2, 1) := by decide +kernel
theorem dX12_holes_15 : decode cX12_holes 15 = .ok (.iload_n 3, 1) := by decide +kernel
theorem dX12_holes_16 : decode cX12_holes 16 = .ok (.invokevirtual 296, 3) := by decide +kernel
theorem dX12_holes_19 : decode cX12_holes 19 = .ok (.ifCond .ne 6, 3) := by decide +kernel
theorem dX12_holes_22 : decode cX12_holes 22 = .ok (.bipush (-2), 2) := by decide +kernel
theorem dX12_holes_24 : decode cX12_holes 24 = .ok (.ireturn, 1) := by decide +kernel
theorem dX12_holes_25 : decode cX12_holes 25 = .ok (.aload_n 0, 1) := by decide +kernel
theorem dX12_holes_26 : decode cX12_holes 26 = .ok (.invokevirtual 290, 3) := by decide +kernel
theorem dX12_holes_29 : decode cX12_holes 29 = .ok (.aload_n 0, 1) := by decide +kernel
theorem dX12_holes_30 : decode cX12_holes 30 = .ok (.iload_n 1, 1) := by decide +kernel
theorem dX12_holes_31 : decode cX12_holes 31 = .ok (.iload_n 2, 1) := by decide +kernel
theorem dX12_holes_32 : decode cX12_holes 32 = .ok (.iload_n 3, 1) := by decide +kernel
theorem dX12_holes_33 : decode cX12_holes 33 = .ok (.invokevirtual 299, 3) := by decide +kernel
theorem dX12_holes_36 : decode cX12_holes 36 = .ok (.ireturn, 1) := by decide +kernel
theorem wrr_wsX12_laysRun {i : Nat} {w : Cond} (h : wsX12_laysRun[i]? = some w) : w ∈ wsX12_laysRun := List.mem_of_getElem? h
theorem wrr_wsX12_laysRun_wsX12_laysRun_r1 {i : Nat} {w : Cond} (h : wsX12_laysRun_r1[i]? = some w) : w ∈ wsX12_laysRun := (List.mem_cons_of_mem _ (List.mem_append_left _ (List.mem_append_left _ (List.mem_of_getElem? h))))
theorem wrr_wsX12_laysRun_wsX12_laysRun_r2 {i : Nat} {w : Cond} (h : wsX12_laysRun_r2[i]? = some w) : w ∈ wsX12_laysRun := (List.mem_cons_of_mem _ (List.mem_append_left _ (List.mem_append_right _ (List.mem_of_getElem? h))))
theorem wru_wsX12_laysRun_wsX120 : ∀ w ∈ wsX120, w ∈ wsX12_laysRun := fun w h => (List.mem_cons_of_mem _ (List.mem_append_right _ h))
set_option maxRecDepth 20000 in
theorem ggX12_laysRun_X12_lays : GoodIn wsX12_laysRun wsX12_lays := goodIn_sub (List.forall_mem_cons.mpr ⟨wrr_wsX12_laysRun_wsX12_laysRun_r1 (i := 6) rfl, (List.forall_mem_append.mpr ⟨(List.forall_mem_cons.mpr ⟨wrr_wsX12_laysRun_wsX12_laysRun_r1 (i := 7) rfl, (List.forall_mem_cons.mpr ⟨wrr_wsX12_laysRun_wsX12_laysRun_r1 (i := 8) rfl, (List.forall_mem_cons.mpr ⟨wrr_wsX12_laysRun_wsX12_laysRun_r1 (i := 9) rfl, (List.forall_mem_cons.mpr ⟨wrr_wsX12_laysRun_wsX12_laysRun_r1 (i := 5) rfl, (List.forall_mem_cons.mpr ⟨wrr_wsX12_laysRun_wsX12_laysRun_r1 (i := 10) rfl, (List.forall_mem_cons.mpr ⟨wrr_wsX12_laysRun_wsX12_laysRun_r1 (i := 11) rfl, (List.forall_mem_cons.mpr ⟨wrr_wsX12_laysRun_wsX12_laysRun_r1 (i := 12) rfl, (List.forall_mem_cons.mpr ⟨wrr_wsX12_laysRun_wsX12_laysRun_r1 (i := 13) rfl, (List.forall_mem_cons.mpr ⟨wrr_wsX12_laysRun_wsX12_laysRun_r1 (i := 14) rfl, (List.forall_mem_cons.mpr ⟨wrr_wsX12_laysRun_wsX12_laysRun_r1 (i := 15) rfl, (List.forall_mem_cons.mpr ⟨wrr_wsX12_laysRun_wsX12_laysRun_r1 (i := 16) rfl, (List.forall_mem_cons.mpr ⟨wrr_wsX12_laysRun_wsX12_laysRun_r1 (i := 17) rfl, (List.forall_mem_cons.mpr ⟨wrr_wsX12_laysRun_wsX12_laysRun_r1 (i := 18) rfl, (List.forall_mem_cons.mpr ⟨wrr_wsX12_laysRun_wsX12_laysRun_r1 (i := 19) rfl, (List.forall_mem_cons.mpr ⟨wrr_wsX12_laysRun_wsX12_laysRun_r1 (i := 20) rfl, (List.forall_mem_cons.mpr ⟨wrr_wsX12_laysRun_wsX12_laysRun_r1 (i := 21) rfl, (List.forall_mem_cons.mpr ⟨wrr_wsX12_laysRun_wsX12_laysRun_r1 (i := 22) rfl, (List.forall_mem_cons.mpr ⟨wrr_wsX12_laysRun_wsX12_laysRun_r1 (i := 23) rfl, (List.forall_mem_cons.mpr ⟨wrr_wsX12_laysRun_wsX12_laysRun_r2 (i := 0) rfl, (fun _ h => absurd h List.not_mem_nil)⟩)⟩)⟩)⟩)⟩)⟩)⟩)⟩)⟩)⟩)⟩)⟩)⟩)⟩)⟩)⟩)⟩)⟩)⟩), wru_wsX12_laysRun_wsX120⟩)⟩) gw_wsX12_lays
set_option maxRecDepth 20000 in
theorem gX12_laysRun_X12_lays : GoodIn wsX12_laysRun (wsV RX12 290 RX12 yX12_lays wsX12_lays) := goodIn_app (goodIn_sub (List.forall_mem_cons.mpr ⟨wrr_wsX12_laysRun_wsX12_laysRun_r1 (i := 2) rfl, (List.forall_mem_cons.mpr ⟨wrr_wsX12_laysRun_wsX12_laysRun_r1 (i := 3) rfl, (List.forall_mem_cons.mpr ⟨wrr_wsX12_laysRun_wsX12_laysRun_r1 (i := 4) rfl, (List.forall_mem_cons.mpr ⟨wrr_wsX12_laysRun_wsX12_laysRun_r1 (i := 5) rfl, (fun _ h => absurd h List.not_mem_nil)⟩)⟩)⟩)⟩) (by decide +kernel)) ggX12_laysRun_X12_lays
set_option maxRecDepth 20000 in
theorem ggX12_laysRun_X12_isHole : GoodIn wsX12_laysRun wsX12_isHole := goodIn_sub (List.forall_mem_cons.mpr ⟨wrr_wsX12_laysRun_wsX12_laysRun_r2 (i := 4) rfl, (List.forall_mem_append.mpr ⟨(List.forall_mem_cons.mpr ⟨wrr_wsX12_laysRun_wsX12_laysRun_r1 (i := 17) rfl, (List.forall_mem_cons.mpr ⟨wrr_wsX12_laysRun_wsX12_laysRun_r2 (i := 5) rfl, (List.forall_mem_cons.mpr ⟨wrr_wsX12_laysRun_wsX12_laysRun_r2 (i := 6) rfl, (List.forall_mem_cons.mpr ⟨wrr_wsX12_laysRun_wsX12_laysRun_r2 (i := 7) rfl, (List.forall_mem_cons.mpr ⟨wrr_wsX12_laysRun_wsX12_laysRun_r1 (i := 5) rfl, (List.forall_mem_cons.mpr ⟨wrr_wsX12_laysRun_wsX12_laysRun_r2 (i := 8) rfl, (List.forall_mem_cons.mpr ⟨wrr_wsX12_laysRun_wsX12_laysRun_r1 (i := 15) rfl, (List.forall_mem_cons.mpr ⟨wrr_wsX12_laysRun_wsX12_laysRun_r2 (i := 9) rfl, (List.forall_mem_cons.mpr ⟨wrr_wsX12_laysRun_wsX12_laysRun_r2 (i := 10) rfl, (List.forall_mem_cons.mpr ⟨wrr_wsX12_laysRun_wsX12_laysRun_r2 (i := 11) rfl, (List.forall_mem_cons.mpr ⟨wrr_wsX12_laysRun_wsX12_laysRun_r2 (i := 12) rfl, (List.forall_mem_cons.mpr ⟨wrr_wsX12_laysRun_wsX12_laysRun_r2 (i := 13) rfl, (List.forall_mem_cons.mpr ⟨wrr_wsX12_laysRun_wsX12_laysRun_r2 (i := 14) rfl, (List.forall_mem_cons.mpr ⟨wrr_wsX12_laysRun_wsX12_laysRun_r2 (i := 15) rfl, (List.forall_mem_cons.mpr ⟨wrr_wsX12_laysRun_wsX12_laysRun_r2 (i := 16) rfl, (fun _ h => absurd h List.not_mem_nil)⟩)⟩)⟩)⟩)⟩)⟩)⟩)⟩)⟩)⟩)⟩)⟩)⟩)⟩)⟩), wru_wsX12_laysRun_wsX120⟩)⟩) gw_wsX12_isHole
set_option maxRecDepth 20000 in
theorem gX12_laysRun_X12_isHole : GoodIn wsX12_laysRun (wsV RX12 293 RX12 yX12_isHole wsX12_isHole) := goodIn_app (goodIn_sub (List.forall_mem_cons.mpr ⟨wrr_wsX12_laysRun_wsX12_laysRun_r2 (i := 1) rfl, (List.forall_mem_cons.mpr ⟨wrr_wsX12_laysRun_wsX12_laysRun_r2 (i := 2) rfl, (List.forall_mem_cons.mpr ⟨wrr_wsX12_laysRun_wsX12_laysRun_r2 (i := 3) rfl, (List.forall_mem_cons.mpr ⟨wrr_wsX12_laysRun_wsX12_laysRun_r1 (i := 5) rfl, (fun _ h => absurd h List.not_mem_nil)⟩)⟩)⟩)⟩) (by decide +kernel)) ggX12_laysRun_X12_isHole
theorem dX12_laysRun_0 : decode cX12_laysRun 0 = .ok (.aload_n 0, 1) := by decide +kernel
theorem dX12_laysRun_1 : decode cX12_laysRun 1 = .ok (.invokevirtual 290, 3) := by decide +kernel
theorem dX12_laysRun_4 : decode cX12_laysRun 4 = .ok (.aload_n 0, 1) := by decide +kernel
theorem dX12_laysRun_5 : decode cX12_laysRun 5 = .ok (.iconst 0, 1) := by decide +kernel
theorem dX12_laysRun_6 : decode cX12_laysRun 6 = .ok (.putfield 303, 3) := by decide +kernel
theorem dX12_laysRun_9 : decode cX12_laysRun 9 = .ok (.aload_n 0, 1) := by decide +kernel
theorem dX12_laysRun_10 : decode cX12_laysRun 10 = .ok (.iconst (-1), 1) := by decide +kernel
theorem dX12_laysRun_11 : decode cX12_laysRun 11 = .ok (.putfield 306, 3) := by decide +kernel
theorem dX12_laysRun_14 : decode cX12_laysRun 14 = .ok (.iconst 0, 1) := by decide +kernel
theorem dX12_laysRun_15 : decode cX12_laysRun 15 = .ok (.istore_n 3, 1) := by decide +kernel
theorem dX12_laysRun_16 : decode cX12_laysRun 16 = .ok (.iload_n 1, 1) := by decide +kernel
theorem dX12_laysRun_17 : decode cX12_laysRun 17 = .ok (.istore 4, 2) := by decide +kernel
theorem dX12_laysRun_19 : decode cX12_laysRun 19 = .ok (.iload 4, 2) := by decide +kernel
theorem dX12_laysRun_21 : decode cX12_laysRun 21 = .ok (.iload_n 2, 1) := by decide +kernel
theorem dX12_laysRun_22 : decode cX12_laysRun 22 = .ok (.if_icmp .gt 63, 3) := by decide +kernel
theorem dX12_laysRun_25 : decode cX12_laysRun 25 = .ok (.aload_n 0, 1) := by decide +kernel
theorem dX12_laysRun_26 : decode cX12_laysRun 26 = .ok (.iconst 0, 1) := by decide +kernel
theorem dX12_laysRun_27 : decode cX12_laysRun 27 = .ok (.iload 4, 2) := by decide +kernel
theorem dX12_laysRun_29 : decode cX12_laysRun 29 = .ok (.invokevirtual 293, 3) := by decide +kernel
theorem dX12_laysRun_32 : decode cX12_laysRun 32 = .ok (.ifCond .ne 13, 3) := by decide +kernel
theorem dX12_laysRun_35 : decode cX12_laysRun 35 = .ok (.aload_n 0, 1) := by decide +kernel
theorem dX12_laysRun_36 : decode cX12_laysRun 36 = .ok (.iconst 1, 1) := by decide +kernel
theorem dX12_laysRun_37 : decode cX12_laysRun 37 = .ok (.iload 4, 2) := by decide +kernel
theorem dX12_laysRun_39 : decode cX12_laysRun 39 = .ok (.invokevirtual 293, 3) := by decide +kernel
theorem dX12_laysRun_42 : decode cX12_laysRun 42 = .ok (.ifCond .eq 7, 3) := by decide +kernel
theorem dX12_laysRun_45 : decode cX12_laysRun 45 = .ok (.iconst 0, 1) := by decide +kernel
theorem dX12_laysRun_46 : decode cX12_laysRun 46 = .ok (.goto 6, 3) := by decide +kernel
theorem dX12_laysRun_49 : decode cX12_laysRun 49 = .ok (.iload_n 3, 1) := by decide +kernel
theorem dX12_laysRun_50 : decode cX12_laysRun 50 = .ok (.iconst 1, 1) := by decide +kernel
theorem dX12_laysRun_51 : decode cX12_laysRun 51 = .ok (.iadd, 1) := by decide +kernel
theorem dX12_laysRun_52 : decode cX12_laysRun 52 = .ok (.istore_n 3, 1) := by decide +kernel
theorem dX12_laysRun_53 : decode cX12_laysRun 53 = .ok (.iload_n 3, 1) := by decide +kernel
theorem dX12_laysRun_54 : decode cX12_laysRun 54 = .ok (.aload_n 0, 1) := by decide +kernel
theorem dX12_laysRun_55 : decode cX12_laysRun 55 = .ok (.getfield 303, 3) := by decide +kernel
theorem dX12_laysRun_58 : decode cX12_laysRun 58 = .ok (.if_icmp .gt 6, 3) := by decide +kernel
theorem dX12_laysRun_61 : decode cX12_laysRun 61 = .ok (.goto 18, 3) := by decide +kernel
theorem dX12_laysRun_64 : decode cX12_laysRun 64 = .ok (.aload_n 0, 1) := by decide +kernel
theorem dX12_laysRun_65 : decode cX12_laysRun 65 = .ok (.iload_n 3, 1) := by decide +kernel
theorem dX12_laysRun_66 : decode cX12_laysRun 66 = .ok (.putfield 303, 3) := by decide +kernel
theorem dX12_laysRun_69 : decode cX12_laysRun 69 = .ok (.aload_n 0, 1) := by decide +kernel
theorem dX12_laysRun_70 : decode cX12_laysRun 70 = .ok (.iload 4, 2) := by decide +kernel
theorem dX12_laysRun_72 : decode cX12_laysRun 72 = .ok (.iload_n 3, 1) := by decide +kernel
theorem dX12_laysRun_73 : decode cX12_laysRun 73 = .ok (.isub, 1) := by decide +kernel
theorem dX12_laysRun_74 : decode cX12_laysRun 74 = .ok (.iconst 1, 1) := by decide +kernel
theorem dX12_laysRun_75 : decode cX12_laysRun 75 = .ok (.iadd, 1) := by decide +kernel
theorem dX12_laysRun_76 : decode cX12_laysRun 76 = .ok (.putfield 306, 3) := by decide +kernel
theorem dX12_laysRun_79 : decode cX12_laysRun 79 = .ok (.iinc 4 1, 3) := by decide +kernel
theorem dX12_laysRun_82 : decode cX12_laysRun 82 = .ok (.goto (-63), 3) := by decide +kernel
theorem dX12_laysRun_85 : decode cX12_laysRun 85 = .ok (.return_, 1) := by decide +kernel
theorem wrr_wsX12_run {i : Nat} {w : Cond} (h : wsX12_run[i]? = some w) : w ∈ wsX12_run := List.mem_of_getElem? h
theorem wrr_wsX12_run_wsX12_run_r1 {i : Nat} {w : Cond} (h : wsX12_run_r1[i]? = some w) : w ∈ wsX12_run := (List.mem_cons_of_mem _ (List.mem_append_left _ (List.mem_append_left _ (List.mem_of_getElem? h))))
theorem wrr_wsX12_run_wsX12_run_r2 {i : Nat} {w : Cond} (h : wsX12_run_r2[i]? = some w) : w ∈ wsX12_run := (List.mem_cons_of_mem _ (List.mem_append_left _ (List.mem_append_right _ (List.mem_append_left _ (List.mem_of_getElem? h)))))
theorem wrr_wsX12_run_wsX12_run_r3 {i : Nat} {w : Cond} (h : wsX12_run_r3[i]? = some w) : w ∈ wsX12_run := (List.mem_cons_of_mem _ (List.mem_append_left _ (List.mem_append_right _ (List.mem_append_right _ (List.mem_of_getElem? h)))))
theorem wru_wsX12_run_wsX120 : ∀ w ∈ wsX120, w ∈ wsX12_run := fun w h => (List.mem_cons_of_mem _ (List.mem_append_right _ h))
set_option maxRecDepth 20000 in
theorem ggX12_run_X12_isSpan : GoodIn wsX12_run wsX12_isSpan := goodIn_sub (List.forall_mem_cons.mpr ⟨wrr_wsX12_run_wsX12_run_r1 (i := 6) rfl, (List.forall_mem_append.mpr ⟨(List.forall_mem_cons.mpr ⟨wrr_wsX12_run_wsX12_run_r1 (i := 7) rfl, (List.forall_mem_cons.mpr ⟨wrr_wsX12_run_wsX12_run_r1 (i := 8) rfl, (List.forall_mem_cons.mpr ⟨wrr_wsX12_run_wsX12_run_r1 (i := 9) rfl, (List.forall_mem_cons.mpr ⟨wrr_wsX12_run_wsX12_run_r1 (i := 10) rfl, (List.forall_mem_cons.mpr ⟨wrr_wsX12_run_wsX12_run_r1 (i := 5) rfl, (List.forall_mem_cons.mpr ⟨wrr_wsX12_run_wsX12_run_r1 (i := 11) rfl, (List.forall_mem_cons.mpr ⟨wrr_wsX12_run_wsX12_run_r1 (i := 12) rfl, (List.forall_mem_cons.mpr ⟨wrr_wsX12_run_wsX12_run_r1 (i := 13) rfl, (List.forall_mem_cons.mpr ⟨wrr_wsX12_run_wsX12_run_r1 (i := 14) rfl, (List.forall_mem_cons.mpr ⟨wrr_wsX12_run_wsX12_run_r1 (i := 15) rfl, (List.forall_mem_cons.mpr ⟨wrr_wsX12_run_wsX12_run_r1 (i := 16) rfl, (List.forall_mem_cons.mpr ⟨wrr_wsX12_run_wsX12_run_r1 (i := 17) rfl, (List.forall_mem_cons.mpr ⟨wrr_wsX12_run_wsX12_run_r1 (i := 18) rfl, (fun _ h => absurd h List.not_mem_nil)⟩)⟩)⟩)⟩)⟩)⟩)⟩)⟩)⟩)⟩)⟩)⟩)⟩), wru_wsX12_run_wsX120⟩)⟩) gw_wsX12_isSpan
set_option maxRecDepth 20000 in
theorem gX12_run_X12_isSpan : GoodIn wsX12_run (wsV RX12 296 RX12 yX12_isSpan wsX12_isSpan) := goodIn_app (goodIn_sub (List.forall_mem_cons.mpr ⟨wrr_wsX12_run_wsX12_run_r1 (i := 2) rfl, (List.forall_mem_cons.mpr ⟨wrr_wsX12_run_wsX12_run_r1 (i := 3) rfl, (List.forall_mem_cons.mpr ⟨wrr_wsX12_run_wsX12_run_r1 (i := 4) rfl, (List.forall_mem_cons.mpr ⟨wrr_wsX12_run_wsX12_run_r1 (i := 5) rfl, (fun _ h => absurd h List.not_mem_nil)⟩)⟩)⟩)⟩) (by decide +kernel)) ggX12_run_X12_isSpan
set_option maxRecDepth 20000 in
theorem gw_wsX12_laysRun : wsX12_laysRun.all goodWord = true := by decide +kernel
set_option maxRecDepth 20000 in
theorem ggX12_run_X12_laysRun : GoodIn wsX12_run wsX12_laysRun := goodIn_sub (List.forall_mem_cons.mpr ⟨wrr_wsX12_run_wsX12_run_r1 (i := 22) rfl, (List.forall_mem_append.mpr ⟨(List.forall_mem_append.mpr ⟨(List.forall_mem_cons.mpr ⟨wrr_wsX12_run_wsX12_run_r1 (i := 1) rfl, (List.forall_mem_cons.mpr ⟨wrr_wsX12_run_wsX12_run_r1 (i := 23) rfl, (List.forall_mem_cons.mpr ⟨wrr_wsX12_run_wsX12_run_r2 (i := 0) rfl, (List.forall_mem_cons.mpr ⟨wrr_wsX12_run_wsX12_run_r2 (i := 1) rfl, (List.forall_mem_cons.mpr ⟨wrr_wsX12_run_wsX12_run_r2 (i := 2) rfl, (List.forall_mem_cons.mpr ⟨wrr_wsX12_run_wsX12_run_r1 (i := 5) rfl, (List.forall_mem_cons.mpr ⟨wrr_wsX12_run_wsX12_run_r2 (i := 3) rfl, (List.forall_mem_cons.mpr ⟨wrr_wsX12_run_wsX12_run_r2 (i := 4) rfl, (List.forall_mem_cons.mpr ⟨wrr_wsX12_run_wsX12_run_r2 (i := 5) rfl, (List.forall_mem_cons.mpr ⟨wrr_wsX12_run_wsX12_run_r2 (i := 6) rfl, (List.forall_mem_cons.mpr ⟨wrr_wsX12_run_wsX12_run_r2 (i := 7) rfl, (List.forall_mem_cons.mpr ⟨wrr_wsX12_run_wsX12_run_r2 (i := 8) rfl, (List.forall_mem_cons.mpr ⟨wrr_wsX12_run_wsX12_run_r2 (i := 9) rfl, (List.forall_mem_cons.mpr ⟨wrr_wsX12_run_wsX12_run_r2 (i := 10) rfl, (List.forall_mem_cons.mpr ⟨wrr_wsX12_run_wsX12_run_r2 (i := 11) rfl, (List.forall_mem_cons.mpr ⟨wrr_wsX12_run_wsX12_run_r2 (i := 12) rfl, (List.forall_mem_cons.mpr ⟨wrr_wsX12_run_wsX12_run_r2 (i := 13) rfl, (List.forall_mem_cons.mpr ⟨wrr_wsX12_run_wsX12_run_r2 (i := 14) rfl, (List.forall_mem_cons.mpr ⟨wrr_wsX12_run_wsX12_run_r2 (i := 15) rfl, (List.forall_mem_cons.mpr ⟨wrr_wsX12_run_wsX12_run_r2 (i := 16) rfl, (List.forall_mem_cons.mpr ⟨wrr_wsX12_run_wsX12_run_r2 (i := 17) rfl, (List.forall_mem_cons.mpr ⟨wrr_wsX12_run_wsX12_run_r2 (i := 18) rfl, (List.forall_mem_cons.mpr ⟨wrr_wsX12_run_wsX12_run_r2 (i := 19) rfl, (List.forall_mem_cons.mpr ⟨wrr_wsX12_run_wsX12_run_r2 (i := 20) rfl, (fun _ h => absurd h List.not_mem_nil)⟩)⟩)⟩)⟩)⟩)⟩)⟩)⟩)⟩)⟩)⟩)⟩)⟩)⟩)⟩)⟩)⟩)⟩)⟩)⟩)⟩)⟩)⟩)⟩), (List.forall_mem_cons.mpr ⟨wrr_wsX12_run_wsX12_run_r2 (i := 21) rfl, (List.forall_mem_cons.mpr ⟨wrr_wsX12_run_wsX12_run_r2 (i := 22) rfl, (List.forall_mem_cons.mpr ⟨wrr_wsX12_run_wsX12_run_r2 (i := 23) rfl, (List.forall_mem_cons.mpr ⟨wrr_wsX12_run_wsX12_run_r3 (i := 0) rfl, (List.forall_mem_cons.mpr ⟨wrr_wsX12_run_wsX12_run_r3 (i := 1) rfl, (List.forall_mem_cons.mpr ⟨wrr_wsX12_run_wsX12_run_r3 (i := 2) rfl, (List.forall_mem_cons.mpr ⟨wrr_wsX12_run_wsX12_run_r3 (i := 3) rfl, (List.forall_mem_cons.mpr ⟨wrr_wsX12_run_wsX12_run_r3 (i := 4) rfl, (List.forall_mem_cons.mpr ⟨wrr_wsX12_run_wsX12_run_r3 (i := 5) rfl, (List.forall_mem_cons.mpr ⟨wrr_wsX12_run_wsX12_run_r3 (i := 6) rfl, (List.forall_mem_cons.mpr ⟨wrr_wsX12_run_wsX12_run_r3 (i := 7) rfl, (List.forall_mem_cons.mpr ⟨wrr_wsX12_run_wsX12_run_r3 (i := 8) rfl, (List.forall_mem_cons.mpr ⟨wrr_wsX12_run_wsX12_run_r3 (i := 9) rfl, (List.forall_mem_cons.mpr ⟨wrr_wsX12_run_wsX12_run_r3 (i := 10) rfl, (List.forall_mem_cons.mpr ⟨wrr_wsX12_run_wsX12_run_r3 (i := 11) rfl, (List.forall_mem_cons.mpr ⟨wrr_wsX12_run_wsX12_run_r3 (i := 12) rfl, (List.forall_mem_cons.mpr ⟨wrr_wsX12_run_wsX12_run_r3 (i := 13) rfl, (fun _ h => absurd h List.not_mem_nil)⟩)⟩)⟩)⟩)⟩)⟩)⟩)⟩)⟩)⟩)⟩)⟩)⟩)⟩)⟩)⟩)⟩)⟩), wru_wsX12_run_wsX120⟩)⟩) gw_wsX12_laysRun
set_option maxRecDepth 20000 in
theorem gX12_run_X12_laysRun : GoodIn wsX12_run (wsV RX12 309 RX12 yX12_laysRun wsX12_laysRun) := goodIn_app (goodIn_sub (List.forall_mem_cons.mpr ⟨wrr_wsX12_run_wsX12_run_r1 (i := 19) rfl, (List.forall_mem_cons.mpr ⟨wrr_wsX12_run_wsX12_run_r1 (i := 20) rfl, (List.forall_mem_cons.mpr ⟨wrr_wsX12_run_wsX12_run_r1 (i := 21) rfl, (List.forall_mem_cons.mpr ⟨wrr_wsX12_run_wsX12_run_r1 (i := 5) rfl, (fun _ h => absurd h List.not_mem_nil)⟩)⟩)⟩)⟩) (by decide +kernel)) ggX12_run_X12_laysRun
theorem dX12_run_0 : decode cX12_run 0 = .ok (.aload_n 0, 1) := by decide +kernel
theorem dX12_run_1 : decode cX12_run 1 = .ok (.iconst 0, 1) := by decide +kernel
theorem dX12_run_2 : decode cX12_run 2 = .ok (.putfield 80, 3) := by decide +kernel
theorem dX12_run_5 : decode cX12_run 5 = .ok (.aload_n 0, 1) := by decide +kernel
theorem dX12_run_6 : decode cX12_run 6 = .ok (.iload_n 1, 1) := by decide +kernel
theorem dX12_run_7 : decode cX12_run 7 = .ok (.iload_n 2, 1) := by decide +kernel
theorem dX12_run_8 : decode cX12_run 8 = .ok (.invokevirtual 296, 3) := by decide +kernel
theorem dX12_run_11 : decode cX12_run 11 = .ok (.ifCond .ne 6, 3) := by decide +kernel
theorem dX12_run_14 : decode cX12_run 14 = .ok (.bipush (-2), 2) := by decide +kernel
theorem dX12_run_16 : decode cX12_run 16 = .ok (.ireturn, 1) := by decide +kernel
theorem dX12_run_17 : decode cX12_run 17 = .ok (.aload_n 0, 1) := by decide +kernel
theorem dX12_run_18 : decode cX12_run 18 = .ok (.iload_n 1, 1) := by decide +kernel
theorem dX12_run_19 : decode cX12_run 19 = .ok (.iload_n 2, 1) := by decide +kernel
theorem dX12_run_20 : decode cX12_run 20 = .ok (.invokevirtual 309, 3) := by decide +kernel
theorem dX12_run_23 : decode cX12_run 23 = .ok (.aload_n 0, 1) := by decide +kernel
theorem dX12_run_24 : decode cX12_run 24 = .ok (.getfield 303, 3) := by decide +kernel
theorem dX12_run_27 : decode cX12_run 27 = .ok (.ireturn, 1) := by decide +kernel
theorem wrr_wsX12_begins_ {i : Nat} {w : Cond} (h : wsX12_begins_[i]? = some w) : w ∈ wsX12_begins_ := List.mem_of_getElem? h
theorem wrr_wsX12_begins__wsX12_begins__r1 {i : Nat} {w : Cond} (h : wsX12_begins__r1[i]? = some w) : w ∈ wsX12_begins_ := (List.mem_cons_of_mem _ (List.mem_append_left _ (List.mem_append_left _ (List.mem_of_getElem? h))))
theorem wrr_wsX12_begins__wsX12_begins__r2 {i : Nat} {w : Cond} (h : wsX12_begins__r2[i]? = some w) : w ∈ wsX12_begins_ := (List.mem_cons_of_mem _ (List.mem_append_left _ (List.mem_append_right _ (List.mem_append_left _ (List.mem_of_getElem? h)))))
theorem wrr_wsX12_begins__wsX12_begins__r3 {i : Nat} {w : Cond} (h : wsX12_begins__r3[i]? = some w) : w ∈ wsX12_begins_ := (List.mem_cons_of_mem _ (List.mem_append_left _ (List.mem_append_right _ (List.mem_append_right _ (List.mem_of_getElem? h)))))
theorem wru_wsX12_begins__wsX120 : ∀ w ∈ wsX120, w ∈ wsX12_begins_ := fun w h => (List.mem_cons_of_mem _ (List.mem_append_right _ h))
set_option maxRecDepth 20000 in
theorem ggX12_begins__X12_isSpan : GoodIn wsX12_begins_ wsX12_isSpan := goodIn_sub (List.forall_mem_cons.mpr ⟨wrr_wsX12_begins__wsX12_begins__r1 (i := 6) rfl, (List.forall_mem_append.mpr ⟨(List.forall_mem_cons.mpr ⟨wrr_wsX12_begins__wsX12_begins__r1 (i := 7) rfl, (List.forall_mem_cons.mpr ⟨wrr_wsX12_begins__wsX12_begins__r1 (i := 8) rfl, (List.forall_mem_cons.mpr ⟨wrr_wsX12_begins__wsX12_begins__r1 (i := 9) rfl, (List.forall_mem_cons.mpr ⟨wrr_wsX12_begins__wsX12_begins__r1 (i := 10) rfl, (List.forall_mem_cons.mpr ⟨wrr_wsX12_begins__wsX12_begins__r1 (i := 5) rfl, (List.forall_mem_cons.mpr ⟨wrr_wsX12_begins__wsX12_begins__r1 (i := 11) rfl, (List.forall_mem_cons.mpr ⟨wrr_wsX12_begins__wsX12_begins__r1 (i := 12) rfl, (List.forall_mem_cons.mpr ⟨wrr_wsX12_begins__wsX12_begins__r1 (i := 13) rfl, (List.forall_mem_cons.mpr ⟨wrr_wsX12_begins__wsX12_begins__r1 (i := 14) rfl, (List.forall_mem_cons.mpr ⟨wrr_wsX12_begins__wsX12_begins__r1 (i := 15) rfl, (List.forall_mem_cons.mpr ⟨wrr_wsX12_begins__wsX12_begins__r1 (i := 16) rfl, (List.forall_mem_cons.mpr ⟨wrr_wsX12_begins__wsX12_begins__r1 (i := 17) rfl, (List.forall_mem_cons.mpr ⟨wrr_wsX12_begins__wsX12_begins__r1 (i := 18) rfl, (fun _ h => absurd h List.not_mem_nil)⟩)⟩)⟩)⟩)⟩)⟩)⟩)⟩)⟩)⟩)⟩)⟩)⟩), wru_wsX12_begins__wsX120⟩)⟩) gw_wsX12_isSpan
set_option maxRecDepth 20000 in
theorem gX12_begins__X12_isSpan : GoodIn wsX12_begins_ (wsV RX12 296 RX12 yX12_isSpan wsX12_isSpan) := goodIn_app (goodIn_sub (List.forall_mem_cons.mpr ⟨wrr_wsX12_begins__wsX12_begins__r1 (i := 2) rfl, (List.forall_mem_cons.mpr ⟨wrr_wsX12_begins__wsX12_begins__r1 (i := 3) rfl, (List.forall_mem_cons.mpr ⟨wrr_wsX12_begins__wsX12_begins__r1 (i := 4) rfl, (List.forall_mem_cons.mpr ⟨wrr_wsX12_begins__wsX12_begins__r1 (i := 5) rfl, (fun _ h => absurd h List.not_mem_nil)⟩)⟩)⟩)⟩) (by decide +kernel)) ggX12_begins__X12_isSpan
set_option maxRecDepth 20000 in
theorem ggX12_begins__X12_laysRun : GoodIn wsX12_begins_ wsX12_laysRun := goodIn_sub (List.forall_mem_cons.mpr ⟨wrr_wsX12_begins__wsX12_begins__r1 (i := 22) rfl, (List.forall_mem_append.mpr ⟨(List.forall_mem_append.mpr ⟨(List.forall_mem_cons.mpr ⟨wrr_wsX12_begins__wsX12_begins__r1 (i := 23) rfl, (List.forall_mem_cons.mpr ⟨wrr_wsX12_begins__wsX12_begins__r1 (i := 1) rfl, (List.forall_mem_cons.mpr ⟨wrr_wsX12_begins__wsX12_begins__r2 (i := 0) rfl, (List.forall_mem_cons.mpr ⟨wrr_wsX12_begins__wsX12_begins__r2 (i := 1) rfl, (List.forall_mem_cons.mpr ⟨wrr_wsX12_begins__wsX12_begins__r2 (i := 2) rfl, (List.forall_mem_cons.mpr ⟨wrr_wsX12_begins__wsX12_begins__r1 (i := 5) rfl, (List.forall_mem_cons.mpr ⟨wrr_wsX12_begins__wsX12_begins__r2 (i := 3) rfl, (List.forall_mem_cons.mpr ⟨wrr_wsX12_begins__wsX12_begins__r2 (i := 4) rfl, (List.forall_mem_cons.mpr ⟨wrr_wsX12_begins__wsX12_begins__r2 (i := 5) rfl, (List.forall_mem_cons.mpr ⟨wrr_wsX12_begins__wsX12_begins__r2 (i := 6) rfl, (List.forall_mem_cons.mpr ⟨wrr_wsX12_begins__wsX12_begins__r2 (i := 7) rfl, (List.forall_mem_cons.mpr ⟨wrr_wsX12_begins__wsX12_begins__r2 (i := 8) rfl, (List.forall_mem_cons.mpr ⟨wrr_wsX12_begins__wsX12_begins__r2 (i := 9) rfl, (List.forall_mem_cons.mpr ⟨wrr_wsX12_begins__wsX12_begins__r2 (i := 10) rfl, (List.forall_mem_cons.mpr ⟨wrr_wsX12_begins__wsX12_begins__r2 (i := 11) rfl, (List.forall_mem_cons.mpr ⟨wrr_wsX12_begins__wsX12_begins__r2 (i := 12) rfl, (List.forall_mem_cons.mpr ⟨wrr_wsX12_begins__wsX12_begins__r2 (i := 13) rfl, (List.forall_mem_cons.mpr ⟨wrr_wsX12_begins__wsX12_begins__r2 (i := 14) rfl, (List.forall_mem_cons.mpr ⟨wrr_wsX12_begins__wsX12_begins__r2 (i := 15) rfl, (List.forall_mem_cons.mpr ⟨wrr_wsX12_begins__wsX12_begins__r2 (i := 16) rfl, (List.forall_mem_cons.mpr ⟨wrr_wsX12_begins__wsX12_begins__r2 (i := 17) rfl, (List.forall_mem_cons.mpr ⟨wrr_wsX12_begins__wsX12_begins__r2 (i := 18) rfl, (List.forall_mem_cons.mpr ⟨wrr_wsX12_begins__wsX12_begins__r2 (i := 19) rfl, (List.forall_mem_cons.mpr ⟨wrr_wsX12_begins__wsX12_begins__r2 (i := 20) rfl, (fun _ h => absurd h List.not_mem_nil)⟩)⟩)⟩)⟩)⟩)⟩)⟩)⟩)⟩)⟩)⟩)⟩)⟩)⟩)⟩)⟩)⟩)⟩)⟩)⟩)⟩)⟩)⟩)⟩), (List.forall_mem_cons.mpr ⟨wrr_wsX12_begins__wsX12_begins__r2 (i := 21) rfl, (List.forall_mem_cons.mpr ⟨wrr_wsX12_begins__wsX12_begins__r2 (i := 22) rfl, (List.forall_mem_cons.mpr ⟨wrr_wsX12_begins__wsX12_begins__r2 (i := 23) rfl, (List.forall_mem_cons.mpr ⟨wrr_wsX12_begins__wsX12_begins__r3 (i := 0) rfl, (List.forall_mem_cons.mpr ⟨wrr_wsX12_begins__wsX12_begins__r3 (i := 1) rfl, (List.forall_mem_cons.mpr ⟨wrr_wsX12_begins__wsX12_begins__r3 (i := 2) rfl, (List.forall_mem_cons.mpr ⟨wrr_wsX12_begins__wsX12_begins__r3 (i := 3) rfl, (List.forall_mem_cons.mpr ⟨wrr_wsX12_begins__wsX12_begins__r3 (i := 4) rfl, (List.forall_mem_cons.mpr ⟨wrr_wsX12_begins__wsX12_begins__r3 (i := 5) rfl, (List.forall_mem_cons.mpr ⟨wrr_wsX12_begins__wsX12_begins__r3 (i := 6) rfl, (List.forall_mem_cons.mpr ⟨wrr_wsX12_begins__wsX12_begins__r3 (i := 7) rfl, (List.forall_mem_cons.mpr ⟨wrr_wsX12_begins__wsX12_begins__r3 (i := 8) rfl, (List.forall_mem_cons.mpr ⟨wrr_wsX12_begins__wsX12_begins__r3 (i := 9) rfl, (List.forall_mem_cons.mpr ⟨wrr_wsX12_begins__wsX12_begins__r3 (i := 10) rfl, (List.forall_mem_cons.mpr ⟨wrr_wsX12_begins__wsX12_begins__r3 (i := 11) rfl, (List.forall_mem_cons.mpr ⟨wrr_wsX12_begins__wsX12_begins__r3 (i := 12) rfl, (List.forall_mem_cons.mpr ⟨wrr_wsX12_begins__wsX12_begins__r3 (i := 13) rfl, (fun _ h => absurd h List.not_mem_nil)⟩)⟩)⟩)⟩)⟩)⟩)⟩)⟩)⟩)⟩)⟩)⟩)⟩)⟩)⟩)⟩)⟩)⟩), wru_wsX12_begins__wsX120⟩)⟩) gw_wsX12_laysRun
set_option maxRecDepth 20000 in
theorem gX12_begins__X12_laysRun : GoodIn wsX12_begins_ (wsV RX12 309 RX12 yX12_laysRun wsX12_laysRun) := goodIn_app (goodIn_sub (List.forall_mem_cons.mpr ⟨wrr_wsX12_begins__wsX12_begins__r1 (i := 19) rfl, (List.forall_mem_cons.mpr ⟨wrr_wsX12_begins__wsX12_begins__r1 (i := 20) rfl, (List.forall_mem_cons.mpr ⟨wrr_wsX12_begins__wsX12_begins__r1 (i := 21) rfl, (List.forall_mem_cons.mpr ⟨wrr_wsX12_begins__wsX12_begins__r1 (i := 5) rfl, (fun _ h => absurd h List.not_mem_nil)⟩)⟩)⟩)⟩) (by decide +kernel)) ggX12_begins__X12_laysRun
theorem dX12_begins__0 : decode cX12_begins_ 0 = .ok (.aload_n 0, 1) := by decide +kernel
theorem dX12_begins__1 : decode cX12_begins_ 1 = .ok (.iconst 0, 1) := by decide +kernel
theorem dX12_begins__2 : decode cX12_begins_ 2 = .ok (.putfield 80, 3) := by decide +kernel
theorem dX12_begins__5 : decode cX12_begins_ 5 = .ok (.aload_n 0, 1) := by decide +kernel
theorem dX12_begins__6 : decode cX12_begins_ 6 = .ok (.iload_n 1, 1) := by decide +kernel
theorem dX12_begins__7 : decode cX12_begins_ 7 = .ok (.iload_n 2, 1) := by decide +kernel
theorem dX12_begins__8 : decode cX12_begins_ 8 = .ok (.invokevirtual 296, 3) := by decide +kernel
theorem dX12_begins__11 : decode cX12_begins_ 11 = .ok (.ifCond .ne 6, 3) := by decide +kernel
theorem dX12_begins__14 : decode cX12_begins_ 14 = .ok (.bipush (-2), 2) := by decide +kernel
theorem dX12_begins__16 : decode cX12_begins_ 16 = .ok (.ireturn, 1) := by decide +kernel
theorem dX12_begins__17 : decode cX12_begins_ 17 = .ok (.aload_n 0, 1) := by decide +kernel
theorem dX12_begins__18 : decode cX12_begins_ 18 = .ok (.iload_n 1, 1) := by decide +kernel
theorem dX12_begins__19 : decode cX12_begins_ 19 = .ok (.iload_n 2, 1) := by decide +kernel
theorem dX12_begins__20 : decode cX12_begins_ 20 = .ok (.invokevirtual 309, 3) := by decide +kernel
theorem dX12_begins__23 : decode cX12_begins_ 23 = .ok (.aload_n 0, 1) := by decide +kernel
theorem dX12_begins__24 : decode cX12_begins_ 24 = .ok (.getfield 306, 3) := by decide +kernel
theorem dX12_begins__27 : decode cX12_begins_ 27 = .ok (.ireturn, 1) := by decide +kernel
theorem wrr_wsX12_allHoles {i : Nat} {w : Cond} (h : wsX12_allHoles[i]? = some w) : w ∈ wsX12_allHoles := List.mem_of_getElem? h
theorem wru_wsX12_allHoles_wsX120 : ∀ w ∈ wsX120, w ∈ wsX12_allHoles := fun w h => (List.mem_cons_of_mem _ (List.mem_append_right _ h))
set_option maxRecDepth 20000 in
theorem ggX12_allHoles_X12_holesOf : GoodIn wsX12_allHoles wsX12_holesOf := goodIn_sub (List.forall_mem_cons.mpr ⟨wrr_wsX12_allHoles (i := 5) rfl, (List.forall_mem_append.mpr ⟨(List.forall_mem_cons.mpr ⟨wrr_wsX12_allHoles (i := 6) rfl, (List.forall_mem_cons.mpr ⟨wrr_wsX12_allHoles (i := 7) rfl, (List.forall_mem_cons.mpr ⟨wrr_wsX12_allHoles (i := 8) rfl, (List.forall_mem_cons.mpr ⟨wrr_wsX12_allHoles (i := 4) rfl, (List.forall_mem_cons.mpr ⟨wrr_wsX12_allHoles (i := 9) rfl, (List.forall_mem_cons.mpr ⟨wrr_wsX12_allHoles (i := 10) rfl, (List.forall_mem_cons.mpr ⟨wrr_wsX12_allHoles (i := 11) rfl, (List.forall_mem_cons.mpr ⟨wrr_wsX12_allHoles (i := 12) rfl, (List.forall_mem_cons.mpr ⟨wrr_wsX12_allHoles (i := 13) rfl, (List.forall_mem_cons.mpr ⟨wrr_wsX12_allHoles (i := 14) rfl, (List.forall_mem_cons.mpr ⟨wrr_wsX12_allHoles (i := 15) rfl, (List.forall_mem_cons.mpr ⟨wrr_wsX12_allHoles (i := 16) rfl, (List.forall_mem_cons.mpr ⟨wrr_wsX12_allHoles (i := 17) rfl, (List.forall_mem_cons.mpr ⟨wrr_wsX12_allHoles (i := 18) rfl, (List.forall_mem_cons.mpr ⟨wrr_wsX12_allHoles (i := 19) rfl, (List.forall_mem_cons.mpr ⟨wrr_wsX12_allHoles (i := 20) rfl, (List.forall_mem_cons.mpr ⟨wrr_wsX12_allHoles (i := 21) rfl, (List.forall_mem_cons.mpr ⟨wrr_wsX12_allHoles (i := 22) rfl, (List.forall_mem_cons.mpr ⟨wrr_wsX12_allHoles (i := 23) rfl, (fun _ h => absurd h List.not_mem_nil)⟩)⟩)⟩)⟩)⟩)⟩)⟩)⟩)⟩)⟩)⟩)⟩)⟩)⟩)⟩)⟩)⟩)⟩)⟩), wru_wsX12_allHoles_wsX120⟩)⟩) gw_wsX12_holesOf
set_option maxRecDepth 20000 in
theorem gX12_allHoles_X12_holesOf : GoodIn wsX12_allHoles (wsV RX12 299 RX12 yX12_holesOf wsX12_holesOf) := goodIn_app (goodIn_sub (List.forall_mem_cons.mpr ⟨wrr_wsX12_allHoles (i := 1) rfl, (List.forall_mem_cons.mpr ⟨wrr_wsX12_allHoles (i := 2) rfl, (List.forall_mem_cons.mpr ⟨wrr_wsX12_allHoles (i := 3) rfl, (List.forall_mem_cons.mpr ⟨wrr_wsX12_allHoles (i := 4) rfl, (fun _ h => absurd h List.not_mem_nil)⟩)⟩)⟩)⟩) (by decide +kernel)) ggX12_allHoles_X12_holesOf
theorem dX12_allHoles_0 : decode cX12_allHoles 0 = .ok (.aload_n 0, 1) := by decide +kernel
theorem dX12_allHoles_1 : decode cX12_allHoles 1 = .ok (.iconst 0, 1) := by decide +kernel
theorem dX12_allHoles_2 : decode cX12_allHoles 2 = .ok (.iconst 0, 1) := by decide +kernel
theorem dX12_allHoles_3 : decode cX12_allHoles 3 = .ok (.sipush 199, 3) := by decide +kernel
theorem dX12_allHoles_6 : decode cX12_allHoles 6 = .ok (.invokevirtual 299, 3) := by decide +kernel
theorem dX12_allHoles_9 : decode cX12_allHoles 9 = .ok (.aload_n 0, 1) := by decide +kernel
theorem dX12_allHoles_10 : decode cX12_allHoles 10 = .ok (.iconst 1, 1) := by decide +kernel
theorem dX12_allHoles_11 : decode cX12_allHoles 11 = .ok (.iconst 0, 1) := by decide +kernel
theorem dX12_allHoles_12 : decode cX12_allHoles 12 = .ok (.sipush 199, 3) := by decide +kernel
theorem dX12_allHoles_15 : decode cX12_allHoles 15 = .ok (.invokevirtual 299, 3) := by decide +kernel
theorem dX12_allHoles_18 : decode cX12_allHoles 18 = .ok (.iadd, 1) := by decide +kernel
theorem dX12_allHoles_19 : decode cX12_allHoles 19 = .ok (.ireturn, 1) := by decide +kernel
theorem wrr_wsX12_undoes {i : Nat} {w : Cond} (h : wsX12_undoes[i]? = some w) : w ∈ wsX12_undoes := List.mem_of_getElem? h
theorem wrr_wsX12_undoes_wsX12_undoes_r1 {i : Nat} {w : Cond} (h : wsX12_undoes_r1[i]? = some w) : w ∈ wsX12_undoes := (List.mem_cons_of_mem _ (List.mem_append_left _ (List.mem_append_left _ (List.mem_of_getElem? h))))
theorem wrr_wsX12_undoes_wsX12_undoes_r2 {i : Nat} {w : Cond} (h : wsX12_undoes_r2[i]? = some w) : w ∈ wsX12_undoes := (List.mem_cons_of_mem _ (List.mem_append_left _ (List.mem_append_right _ (List.mem_append_left _ (List.mem_of_getElem? h)))))
theorem wrr_wsX12_undoes_wsX12_undoes_r3 {i : Nat} {w : Cond} (h : wsX12_undoes_r3[i]? = some w) : w ∈ wsX12_undoes := (List.mem_cons_of_mem _ (List.mem_append_left _ (List.mem_append_right _ (List.mem_append_right _ (List.mem_of_getElem? h)))))
theorem wru_wsX12_undoes_wsX120 : ∀ w ∈ wsX120, w ∈ wsX12_undoes := fun w h => (List.mem_cons_of_mem _ (List.mem_append_right _ h))
set_option maxRecDepth 20000 in
theorem ggX12_undoes_X12_in : GoodIn wsX12_undoes wsX12_in := goodIn_sub (List.forall_mem_cons.mpr ⟨wrr_wsX12_undoes_wsX12_undoes_r1 (i := 5) rfl, (fun _ h => absurd h List.not_mem_nil)⟩) gw_wsX12_in
set_option maxRecDepth 20000 in
theorem gX12_undoes_X12_in : GoodIn wsX12_undoes (va_wsS RX12 85 yX12_in wsX12_in) := goodIn_app (goodIn_sub (List.forall_mem_cons.mpr ⟨wrr_wsX12_undoes_wsX12_undoes_r1 (i := 2) rfl, (List.forall_mem_cons.mpr ⟨wrr_wsX12_undoes_wsX12_undoes_r1 (i := 3) rfl, (List.forall_mem_cons.mpr ⟨wrr_wsX12_undoes_wsX12_undoes_r1 (i := 4) rfl, (fun _ h => absurd h List.not_mem_nil)⟩)⟩)⟩) (by decide +kernel)) ggX12_undoes_X12_in
set_option maxRecDepth 20000 in
theorem ggX12_undoes_X12_lays : GoodIn wsX12_undoes wsX12_lays := goodIn_sub (List.forall_mem_cons.mpr ⟨wrr_wsX12_undoes_wsX12_undoes_r1 (i := 9) rfl, (List.forall_mem_append.mpr ⟨(List.forall_mem_cons.mpr ⟨wrr_wsX12_undoes_wsX12_undoes_r1 (i := 10) rfl, (List.forall_mem_cons.mpr ⟨wrr_wsX12_undoes_wsX12_undoes_r1 (i := 11) rfl, (List.forall_mem_cons.mpr ⟨wrr_wsX12_undoes_wsX12_undoes_r1 (i := 12) rfl, (List.forall_mem_cons.mpr ⟨wrr_wsX12_undoes_wsX12_undoes_r1 (i := 4) rfl, (List.forall_mem_cons.mpr ⟨wrr_wsX12_undoes_wsX12_undoes_r1 (i := 13) rfl, (List.forall_mem_cons.mpr ⟨wrr_wsX12_undoes_wsX12_undoes_r1 (i := 14) rfl, (List.forall_mem_cons.mpr ⟨wrr_wsX12_undoes_wsX12_undoes_r1 (i := 15) rfl, (List.forall_mem_cons.mpr ⟨wrr_wsX12_undoes_wsX12_undoes_r1 (i := 16) rfl, (List.forall_mem_cons.mpr ⟨wrr_wsX12_undoes_wsX12_undoes_r1 (i := 17) rfl, (List.forall_mem_cons.mpr ⟨wrr_wsX12_undoes_wsX12_undoes_r1 (i := 1) rfl, (List.forall_mem_cons.mpr ⟨wrr_wsX12_undoes_wsX12_undoes_r1 (i := 18) rfl, (List.forall_mem_cons.mpr ⟨wrr_wsX12_undoes_wsX12_undoes_r1 (i := 19) rfl, (List.forall_mem_cons.mpr ⟨wrr_wsX12_undoes_wsX12_undoes_r1 (i := 20) rfl, (List.forall_mem_cons.mpr ⟨wrr_wsX12_undoes_wsX12_undoes_r1 (i := 21) rfl, (List.forall_mem_cons.mpr ⟨wrr_wsX12_undoes_wsX12_undoes_r1 (i := 22) rfl, (List.forall_mem_cons.mpr ⟨wrr_wsX12_undoes_wsX12_undoes_r1 (i := 23) rfl, (List.forall_mem_cons.mpr ⟨wrr_wsX12_undoes_wsX12_undoes_r2 (i := 0) rfl, (List.forall_mem_cons.mpr ⟨wrr_wsX12_undoes_wsX12_undoes_r2 (i := 1) rfl, (List.forall_mem_cons.mpr ⟨wrr_wsX12_undoes_wsX12_undoes_r2 (i := 2) rfl, (fun _ h => absurd h List.not_mem_nil)⟩)⟩)⟩)⟩)⟩)⟩)⟩)⟩)⟩)⟩)⟩)⟩)⟩)⟩)⟩)⟩)⟩)⟩)⟩), wru_wsX12_undoes_wsX120⟩)⟩) gw_wsX12_lays
set_option maxRecDepth 20000 in
theorem gX12_undoes_X12_lays : GoodIn wsX12_undoes (wsV RX12 290 RX12 yX12_lays wsX12_lays) := goodIn_app (goodIn_sub (List.forall_mem_cons.mpr ⟨wrr_wsX12_undoes_wsX12_undoes_r1 (i := 6) rfl, (List.forall_mem_cons.mpr ⟨wrr_wsX12_undoes_wsX12_undoes_r1 (i := 7) rfl, (List.forall_mem_cons.mpr ⟨wrr_wsX12_undoes_wsX12_undoes_r1 (i := 8) rfl, (List.forall_mem_cons.mpr ⟨wrr_wsX12_undoes_wsX12_undoes_r1 (i := 4) rfl, (fun _ h => absurd h List.not_mem_nil)⟩)⟩)⟩)⟩) (by decide +kernel)) ggX12_undoes_X12_lays
set_option maxRecDepth 20000 in
theorem gw_wsX12_allHoles : wsX12_allHoles.all goodWord = true := by decide +kernel
set_option maxRecDepth 20000 in
theorem ggX12_undoes_X12_allHoles : GoodIn wsX12_undoes wsX12_allHoles := goodIn_sub (List.forall_mem_cons.mpr ⟨wrr_wsX12_undoes_wsX12_undoes_r2 (i := 6) rfl, (List.forall_mem_append.mpr ⟨(List.forall_mem_cons.mpr ⟨wrr_wsX12_undoes_wsX12_undoes_r2 (i := 7) rfl, (List.forall_mem_cons.mpr ⟨wrr_wsX12_undoes_wsX12_undoes_r2 (i := 8) rfl, (List.forall_mem_cons.mpr ⟨wrr_wsX12_undoes_wsX12_undoes_r2 (i := 9) rfl, (List.forall_mem_cons.mpr ⟨wrr_wsX12_undoes_wsX12_undoes_r1 (i := 4) rfl, (List.forall_mem_cons.mpr ⟨wrr_wsX12_undoes_wsX12_undoes_r2 (i := 10) rfl, (List.forall_mem_cons.mpr ⟨wrr_wsX12_undoes_wsX12_undoes_r2 (i := 11) rfl, (List.forall_mem_cons.mpr ⟨wrr_wsX12_undoes_wsX12_undoes_r2 (i := 12) rfl, (List.forall_mem_cons.mpr ⟨wrr_wsX12_undoes_wsX12_undoes_r2 (i := 13) rfl, (List.forall_mem_cons.mpr ⟨wrr_wsX12_undoes_wsX12_undoes_r2 (i := 14) rfl, (List.forall_mem_cons.mpr ⟨wrr_wsX12_undoes_wsX12_undoes_r1 (i := 19) rfl, (List.forall_mem_cons.mpr ⟨wrr_wsX12_undoes_wsX12_undoes_r2 (i := 15) rfl, (List.forall_mem_cons.mpr ⟨wrr_wsX12_undoes_wsX12_undoes_r2 (i := 16) rfl, (List.forall_mem_cons.mpr ⟨wrr_wsX12_undoes_wsX12_undoes_r2 (i := 17) rfl, (List.forall_mem_cons.mpr ⟨wrr_wsX12_undoes_wsX12_undoes_r2 (i := 18) rfl, (List.forall_mem_cons.mpr ⟨wrr_wsX12_undoes_wsX12_undoes_r1 (i := 1) rfl, (List.forall_mem_cons.mpr ⟨wrr_wsX12_undoes_wsX12_undoes_r2 (i := 19) rfl, (List.forall_mem_cons.mpr ⟨wrr_wsX12_undoes_wsX12_undoes_r2 (i := 20) rfl, (List.forall_mem_cons.mpr ⟨wrr_wsX12_undoes_wsX12_undoes_r2 (i := 21) rfl, (List.forall_mem_cons.mpr ⟨wrr_wsX12_undoes_wsX12_undoes_r2 (i := 22) rfl, (List.forall_mem_cons.mpr ⟨wrr_wsX12_undoes_wsX12_undoes_r2 (i := 23) rfl, (List.forall_mem_cons.mpr ⟨wrr_wsX12_undoes_wsX12_undoes_r3 (i := 0) rfl, (List.forall_mem_cons.mpr ⟨wrr_wsX12_undoes_wsX12_undoes_r3 (i := 1) rfl, (List.forall_mem_cons.mpr ⟨wrr_wsX12_undoes_wsX12_undoes_r3 (i := 2) rfl, (fun _ h => absurd h List.not_mem_nil)⟩)⟩)⟩)⟩)⟩)⟩)⟩)⟩)⟩)⟩)⟩)⟩)⟩)⟩)⟩)⟩)⟩)⟩)⟩)⟩)⟩)⟩)⟩), wru_wsX12_undoes_wsX120⟩)⟩) gw_wsX12_allHoles
set_option maxRecDepth 20000 in
theorem gX12_undoes_X12_allHoles : GoodIn wsX12_undoes (wsV RX12 312 RX12 yX12_allHoles wsX12_allHoles) := goodIn_app (goodIn_sub (List.forall_mem_cons.mpr ⟨wrr_wsX12_undoes_wsX12_undoes_r2 (i := 3) rfl, (List.forall_mem_cons.mpr ⟨wrr_wsX12_undoes_wsX12_undoes_r2 (i := 4) rfl, (List.forall_mem_cons.mpr ⟨wrr_wsX12_undoes_wsX12_undoes_r2 (i := 5) rfl, (List.forall_mem_cons.mpr ⟨wrr_wsX12_undoes_wsX12_undoes_r1 (i := 4) rfl, (fun _ h => absurd h List.not_mem_nil)⟩)⟩)⟩)⟩) (by decide +kernel)) ggX12_undoes_X12_allHoles
set_option maxRecDepth 20000 in
theorem ggX12_undoes_X12_laysBut : GoodIn wsX12_undoes wsX12_laysBut := goodIn_sub (List.forall_mem_cons.mpr ⟨wrr_wsX12_undoes_wsX12_undoes_r1 (i := 13) rfl, (List.forall_mem_append.mpr ⟨(List.forall_mem_cons.mpr ⟨wrr_wsX12_undoes_wsX12_undoes_r1 (i := 14) rfl, (List.forall_mem_cons.mpr ⟨wrr_wsX12_undoes_wsX12_undoes_r1 (i := 15) rfl, (List.forall_mem_cons.mpr ⟨wrr_wsX12_undoes_wsX12_undoes_r1 (i := 16) rfl, (List.forall_mem_cons.mpr ⟨wrr_wsX12_undoes_wsX12_undoes_r1 (i := 4) rfl, (List.forall_mem_cons.mpr ⟨wrr_wsX12_undoes_wsX12_undoes_r1 (i := 17) rfl, (List.forall_mem_cons.mpr ⟨wrr_wsX12_undoes_wsX12_undoes_r1 (i := 1) rfl, (List.forall_mem_cons.mpr ⟨wrr_wsX12_undoes_wsX12_undoes_r1 (i := 18) rfl, (List.forall_mem_cons.mpr ⟨wrr_wsX12_undoes_wsX12_undoes_r1 (i := 19) rfl, (List.forall_mem_cons.mpr ⟨wrr_wsX12_undoes_wsX12_undoes_r1 (i := 20) rfl, (List.forall_mem_cons.mpr ⟨wrr_wsX12_undoes_wsX12_undoes_r1 (i := 21) rfl, (List.forall_mem_cons.mpr ⟨wrr_wsX12_undoes_wsX12_undoes_r1 (i := 22) rfl, (List.forall_mem_cons.mpr ⟨wrr_wsX12_undoes_wsX12_undoes_r1 (i := 23) rfl, (List.forall_mem_cons.mpr ⟨wrr_wsX12_undoes_wsX12_undoes_r2 (i := 0) rfl, (List.forall_mem_cons.mpr ⟨wrr_wsX12_undoes_wsX12_undoes_r2 (i := 1) rfl, (List.forall_mem_cons.mpr ⟨wrr_wsX12_undoes_wsX12_undoes_r2 (i := 2) rfl, (fun _ h => absurd h List.not_mem_nil)⟩)⟩)⟩)⟩)⟩)⟩)⟩)⟩)⟩)⟩)⟩)⟩)⟩)⟩)⟩), wru_wsX12_undoes_wsX120⟩)⟩) gw_wsX12_laysBut
set_option maxRecDepth 20000 in
theorem gX12_undoes_X12_laysBut : GoodIn wsX12_undoes (wsV RX12 277 RX12 yX12_laysBut wsX12_laysBut) := goodIn_app (goodIn_sub (List.forall_mem_cons.mpr ⟨wrr_wsX12_undoes_wsX12_undoes_r1 (i := 10) rfl, (List.forall_mem_cons.mpr ⟨wrr_wsX12_undoes_wsX12_undoes_r1 (i := 11) rfl, (List.forall_mem_cons.mpr ⟨wrr_wsX12_undoes_wsX12_undoes_r1 (i := 12) rfl, (List.forall_mem_cons.mpr ⟨wrr_wsX12_undoes_wsX12_undoes_r1 (i := 4) rfl, (fun _ h => absurd h List.not_mem_nil)⟩)⟩)⟩)⟩) (by decide +kernel)) ggX12_undoes_X12_laysBut
theorem dX12_undoes_0 : decode cX12_undoes 0 = .ok (.aload_n 0, 1) := by decide +kernel
theorem dX12_undoes_1 : decode cX12_undoes 1 = .ok (.iconst 0, 1) := by decide +kernel
theorem dX12_undoes_2 : decode cX12_undoes 2 = .ok (.putfield 80, 3) := by decide +kernel
theorem dX12_undoes_5 : decode cX12_undoes 5 = .ok (.iload_n 1, 1) := by decide +kernel
theorem dX12_undoes_6 : decode cX12_undoes 6 = .ok (.i2l, 1) := by decide +kernel
theorem dX12_undoes_7 : decode cX12_undoes 7 = .ok (.lconst 0, 1) := by decide +kernel
theorem dX12_undoes_8 : decode cX12_undoes 8 = .ok (.aload_n 0, 1) := by decide +kernel
theorem dX12_undoes_9 : decode cX12_undoes 9 = .ok (.getfield 34, 3) := by decide +kernel
theorem dX12_undoes_12 : decode cX12_undoes 12 = .ok (.bipush 7, 2) := by decide +kernel
theorem dX12_undoes_14 : decode cX12_undoes 14 = .ok (.iaload, 1) := by decide +kernel
theorem dX12_undoes_15 : decode cX12_undoes 15 = .ok (.iconst 1, 1) := by decide +kernel
theorem dX12_undoes_16 : decode cX12_undoes 16 = .ok (.isub, 1) := by decide +kernel
theorem dX12_undoes_17 : decode cX12_undoes 17 = .ok (.i2l, 1) := by decide +kernel
theorem dX12_undoes_18 : decode cX12_undoes 18 = .ok (.invokestatic 85, 3) := by decide +kernel
theorem dX12_undoes_21 : decode cX12_undoes 21 = .ok (.ifCond .ne 7, 3) := by decide +kernel
theorem dX12_undoes_24 : decode cX12_undoes 24 = .ok (.sipush (-1000), 3) := by decide +kernel
theorem dX12_undoes_27 : decode cX12_undoes 27 = .ok (.ireturn, 1) := by decide +kernel
theorem dX12_undoes_28 : decode cX12_undoes 28 = .ok (.aload_n 0, 1) := by decide +kernel
theorem dX12_undoes_29 : decode cX12_undoes 29 = .ok (.invokevirtual 290, 3) := by decide +kernel
theorem dX12_undoes_32 : decode cX12_undoes 32 = .ok (.aload_n 0, 1) := by decide +kernel
theorem dX12_undoes_33 : decode cX12_undoes 33 = .ok (.invokevirtual 312, 3) := by decide +kernel
theorem dX12_undoes_36 : decode cX12_undoes 36 = .ok (.istore_n 2, 1) := by decide +kernel
theorem dX12_undoes_37 : decode cX12_undoes 37 = .ok (.aload_n 0, 1) := by decide +kernel
theorem dX12_undoes_38 : decode cX12_undoes 38 = .ok (.iload_n 1, 1) := by decide +kernel
theorem dX12_undoes_39 : decode cX12_undoes 39 = .ok (.invokevirtual 277, 3) := by decide +kernel
theorem dX12_undoes_42 : decode cX12_undoes 42 = .ok (.iload_n 2, 1) := by decide +kernel
theorem dX12_undoes_43 : decode cX12_undoes 43 = .ok (.aload_n 0, 1) := by decide +kernel
theorem dX12_undoes_44 : decode cX12_undoes 44 = .ok (.invokevirtual 312, 3) := by decide +kernel
theorem dX12_undoes_47 : decode cX12_undoes 47 = .ok (.isub, 1) := by decide +kernel
theorem dX12_undoes_48 : decode cX12_undoes 48 = .ok (.ireturn, 1) := by decide +kernel
theorem wrr_wsX12_causes {i : Nat} {w : Cond} (h : wsX12_causes[i]? = some w) : w ∈ wsX12_causes := List.mem_of_getElem? h
theorem wrr_wsX12_causes_wsX12_causes_r1 {i : Nat} {w : Cond} (h : wsX12_causes_r1[i]? = some w) : w ∈ wsX12_causes := (List.mem_cons_of_mem _ (List.mem_append_left _ (List.mem_append_left _ (List.mem_of_getElem? h))))
theorem wrr_wsX12_causes_wsX12_causes_r2 {i : Nat} {w : Cond} (h : wsX12_causes_r2[i]? = some w) : w ∈ wsX12_causes := (List.mem_cons_of_mem _ (List.mem_append_left _ (List.mem_append_right _ (List.mem_append_left _ (List.mem_of_getElem? h)))))
theorem wrr_wsX12_causes_wsX12_causes_r3 {i : Nat} {w : Cond} (h : wsX12_causes_r3[i]? = some w) : w ∈ wsX12_causes := (List.mem_cons_of_mem _ (List.mem_append_left _ (List.mem_append_right _ (List.mem_append_right _ (List.mem_of_getElem? h)))))
theorem wru_wsX12_causes_wsX120 : ∀ w ∈ wsX120, w ∈ wsX12_causes := fun w h => (List.mem_cons_of_mem _ (List.mem_append_right _ h))
set_option maxRecDepth 20000 in
theorem ggX12_causes_X12_isSide : GoodIn wsX12_causes wsX12_isSide := goodIn_sub (List.forall_mem_cons.mpr ⟨wrr_wsX12_causes_wsX12_causes_r1 (i := 6) rfl, (List.forall_mem_append.mpr ⟨(List.forall_mem_cons.mpr ⟨wrr_wsX12_causes_wsX12_causes_r1 (i := 7) rfl, (List.forall_mem_cons.mpr ⟨wrr_wsX12_causes_wsX12_causes_r1 (i := 8) rfl, (List.forall_mem_cons.mpr ⟨wrr_wsX12_causes_wsX12_causes_r1 (i := 9) rfl, (List.forall_mem_cons.mpr ⟨wrr_wsX12_causes_wsX12_causes_r1 (i := 5) rfl, (List.forall_mem_cons.mpr ⟨wrr_wsX12_causes_wsX12_causes_r1 (i := 10) rfl, (List.forall_mem_cons.mpr ⟨wrr_wsX12_causes_wsX12_causes_r1 (i := 11) rfl, (List.forall_mem_cons.mpr ⟨wrr_wsX12_causes_wsX12_causes_r1 (i := 12) rfl, (List.forall_mem_cons.mpr ⟨wrr_wsX12_causes_wsX12_causes_r1 (i := 13) rfl, (List.forall_mem_cons.mpr ⟨wrr_wsX12_causes_wsX12_causes_r1 (i := 14) rfl, (fun _ h => absurd h List.not_mem_nil)⟩)⟩)⟩)⟩)⟩)⟩)⟩)⟩)⟩), wru_wsX12_causes_wsX120⟩)⟩) gw_wsX12_isSide
set_option maxRecDepth 20000 in
theorem gX12_causes_X12_isSide : GoodIn wsX12_causes (wsV RX12 261 RX12 yX12_isSide wsX12_isSide) := goodIn_app (goodIn_sub (List.forall_mem_cons.mpr ⟨wrr_wsX12_causes_wsX12_causes_r1 (i := 2) rfl, (List.forall_mem_cons.mpr ⟨wrr_wsX12_causes_wsX12_causes_r1 (i := 3) rfl, (List.forall_mem_cons.mpr ⟨wrr_wsX12_causes_wsX12_causes_r1 (i := 4) rfl, (List.forall_mem_cons.mpr ⟨wrr_wsX12_causes_wsX12_causes_r1 (i := 5) rfl, (fun _ h => absurd h List.not_mem_nil)⟩)⟩)⟩)⟩) (by decide +kernel)) ggX12_causes_X12_isSide
set_option maxRecDepth 20000 in
theorem ggX12_causes_X12_isBeat : GoodIn wsX12_causes wsX12_isBeat := goodIn_sub (List.forall_mem_cons.mpr ⟨wrr_wsX12_causes_wsX12_causes_r1 (i := 17) rfl, (List.forall_mem_cons.mpr ⟨wrr_wsX12_causes_wsX12_causes_r1 (i := 18) rfl, (List.forall_mem_cons.mpr ⟨wrr_wsX12_causes_wsX12_causes_r1 (i := 12) rfl, (List.forall_mem_cons.mpr ⟨wrr_wsX12_causes_wsX12_causes_r1 (i := 13) rfl, (List.forall_mem_cons.mpr ⟨wrr_wsX12_causes_wsX12_causes_r1 (i := 5) rfl, (List.forall_mem_cons.mpr ⟨wrr_wsX12_causes_wsX12_causes_r1 (i := 14) rfl, (fun _ h => absurd h List.not_mem_nil)⟩)⟩)⟩)⟩)⟩)⟩) gw_wsX12_isBeat
set_option maxRecDepth 20000 in
theorem gX12_causes_X12_isBeat : GoodIn wsX12_causes (va_wsS RX12 270 yX12_isBeat wsX12_isBeat) := goodIn_app (goodIn_sub (List.forall_mem_cons.mpr ⟨wrr_wsX12_causes_wsX12_causes_r1 (i := 15) rfl, (List.forall_mem_cons.mpr ⟨wrr_wsX12_causes_wsX12_causes_r1 (i := 16) rfl, (List.forall_mem_cons.mpr ⟨wrr_wsX12_causes_wsX12_causes_r1 (i := 5) rfl, (fun _ h => absurd h List.not_mem_nil)⟩)⟩)⟩) (by decide +kernel)) ggX12_causes_X12_isBeat
set_option maxRecDepth 20000 in
theorem ggX12_causes_X12_lays : GoodIn wsX12_causes wsX12_lays := goodIn_sub (List.forall_mem_cons.mpr ⟨wrr_wsX12_causes_wsX12_causes_r1 (i := 22) rfl, (List.forall_mem_append.mpr ⟨(List.forall_mem_cons.mpr ⟨wrr_wsX12_causes_wsX12_causes_r1 (i := 23) rfl, (List.forall_mem_cons.mpr ⟨wrr_wsX12_causes_wsX12_causes_r2 (i := 0) rfl, (List.forall_mem_cons.mpr ⟨wrr_wsX12_causes_wsX12_causes_r2 (i := 1) rfl, (List.forall_mem_cons.mpr ⟨wrr_wsX12_causes_wsX12_causes_r1 (i := 5) rfl, (List.forall_mem_cons.mpr ⟨wrr_wsX12_causes_wsX12_causes_r2 (i := 2) rfl, (List.forall_mem_cons.mpr ⟨wrr_wsX12_causes_wsX12_causes_r2 (i := 3) rfl, (List.forall_mem_cons.mpr ⟨wrr_wsX12_causes_wsX12_causes_r2 (i := 4) rfl, (List.forall_mem_cons.mpr ⟨wrr_wsX12_causes_wsX12_causes_r2 (i := 5) rfl, (List.forall_mem_cons.mpr ⟨wrr_wsX12_causes_wsX12_causes_r2 (i := 6) rfl, (List.forall_mem_cons.mpr ⟨wrr_wsX12_causes_wsX12_causes_r1 (i := 1) rfl, (List.forall_mem_cons.mpr ⟨wrr_wsX12_causes_wsX12_causes_r2 (i := 7) rfl, (List.forall_mem_cons.mpr ⟨wrr_wsX12_causes_wsX12_causes_r2 (i := 8) rfl, (List.forall_mem_cons.mpr ⟨wrr_wsX12_causes_wsX12_causes_r2 (i := 9) rfl, (List.forall_mem_cons.mpr ⟨wrr_wsX12_causes_wsX12_causes_r2 (i := 10) rfl, (List.forall_mem_cons.mpr ⟨wrr_wsX12_causes_wsX12_causes_r2 (i := 11) rfl, (List.forall_mem_cons.mpr ⟨wrr_wsX12_causes_wsX12_causes_r2 (i := 12) rfl, (List.forall_mem_cons.mpr ⟨wrr_wsX12_causes_wsX12_causes_r2 (i := 13) rfl, (List.forall_mem_cons.mpr ⟨wrr_wsX12_causes_wsX12_causes_r2 (i := 14) rfl, (List.forall_mem_cons.mpr ⟨wrr_wsX12_causes_wsX12_causes_r2 (i := 15) rfl, (fun _ h => absurd h List.not_mem_nil)⟩)⟩)⟩)⟩)⟩)⟩)⟩)⟩)⟩)⟩)⟩)⟩)⟩)⟩)⟩)⟩)⟩)⟩)⟩), wru_wsX12_causes_wsX120⟩)⟩) gw_wsX12_lays
set_option maxRecDepth 20000 in
theorem gX12_causes_X12_lays : GoodIn wsX12_causes (wsV RX12 290 RX12 yX12_lays wsX12_lays) := goodIn_app (goodIn_sub (List.forall_mem_cons.mpr ⟨wrr_wsX12_causes_wsX12_causes_r1 (i := 19) rfl, (List.forall_mem_cons.mpr ⟨wrr_wsX12_causes_wsX12_causes_r1 (i := 20) rfl, (List.forall_mem_cons.mpr ⟨wrr_wsX12_causes_wsX12_causes_r1 (i := 21) rfl, (List.forall_mem_cons.mpr ⟨wrr_wsX12_causes_wsX12_causes_r1 (i := 5) rfl, (fun _ h => absurd h List.not_mem_nil)⟩)⟩)⟩)⟩) (by decide +kernel)) ggX12_causes_X12_lays
set_option maxRecDepth 20000 in
theorem ggX12_causes_X12_isHole : GoodIn wsX12_causes wsX12_isHole := goodIn_sub (List.forall_mem_cons.mpr ⟨wrr_wsX12_causes_wsX12_causes_r2 (i := 19) rfl, (List.forall_mem_append.mpr ⟨(List.forall_mem_cons.mpr ⟨wrr_wsX12_causes_wsX12_causes_r2 (i := 8) rfl, (List.forall_mem_cons.mpr ⟨wrr_wsX12_causes_wsX12_causes_r2 (i := 20) rfl, (List.forall_mem_cons.mpr ⟨wrr_wsX12_causes_wsX12_causes_r2 (i := 21) rfl, (List.forall_mem_cons.mpr ⟨wrr_wsX12_causes_wsX12_causes_r2 (i := 22) rfl, (List.forall_mem_cons.mpr ⟨wrr_wsX12_causes_wsX12_causes_r1 (i := 5) rfl, (List.forall_mem_cons.mpr ⟨wrr_wsX12_causes_wsX12_causes_r2 (i := 23) rfl, (List.forall_mem_cons.mpr ⟨wrr_wsX12_causes_wsX12_causes_r1 (i := 1) rfl, (List.forall_mem_cons.mpr ⟨wrr_wsX12_causes_wsX12_causes_r3 (i := 0) rfl, (List.forall_mem_cons.mpr ⟨wrr_wsX12_causes_wsX12_causes_r3 (i := 1) rfl, (List.forall_mem_cons.mpr ⟨wrr_wsX12_causes_wsX12_causes_r3 (i := 2) rfl, (List.forall_mem_cons.mpr ⟨wrr_wsX12_causes_wsX12_causes_r3 (i := 3) rfl, (List.forall_mem_cons.mpr ⟨wrr_wsX12_causes_wsX12_causes_r3 (i := 4) rfl, (List.forall_mem_cons.mpr ⟨wrr_wsX12_causes_wsX12_causes_r3 (i := 5) rfl, (List.forall_mem_cons.mpr ⟨wrr_wsX12_causes_wsX12_causes_r3 (i := 6) rfl, (List.forall_mem_cons.mpr ⟨wrr_wsX12_causes_wsX12_causes_r3 (i := 7) rfl, (fun _ h => absurd h List.not_mem_nil)⟩)⟩)⟩)⟩)⟩)⟩)⟩)⟩)⟩)⟩)⟩)⟩)⟩)⟩)⟩), wru_wsX12_causes_wsX120⟩)⟩) gw_wsX12_isHole
set_option maxRecDepth 20000 in
theorem gX12_causes_X12_isHole : GoodIn wsX12_causes (wsV RX12 293 RX12 yX12_isHole wsX12_isHole) := goodIn_app (goodIn_sub (List.forall_mem_cons.mpr ⟨wrr_wsX12_causes_wsX12_causes_r2 (i := 16) rfl, (List.forall_mem_cons.mpr ⟨wrr_wsX12_causes_wsX12_causes_r2 (i := 17) rfl, (List.forall_mem_cons.mpr ⟨wrr_wsX12_causes_wsX12_causes_r2 (i := 18) rfl, (List.forall_mem_cons.mpr ⟨wrr_wsX12_causes_wsX12_causes_r1 (i := 5) rfl, (fun _ h => absurd h List.not_mem_nil)⟩)⟩)⟩)⟩) (by decide +kernel)) ggX12_causes_X12_isHole
set_option maxRecDepth 20000 in
theorem ggX12_causes_X12_laysBut : GoodIn wsX12_causes wsX12_laysBut := goodIn_sub (List.forall_mem_cons.mpr ⟨wrr_wsX12_causes_wsX12_causes_r2 (i := 2) rfl, (List.forall_mem_append.mpr ⟨(List.forall_mem_cons.mpr ⟨wrr_wsX12_causes_wsX12_causes_r2 (i := 3) rfl, (List.forall_mem_cons.mpr ⟨wrr_wsX12_causes_wsX12_causes_r2 (i := 4) rfl, (List.forall_mem_cons.mpr ⟨wrr_wsX12_causes_wsX12_causes_r2 (i := 5) rfl, (List.forall_mem_cons.mpr ⟨wrr_wsX12_causes_wsX12_causes_r1 (i := 5) rfl, (List.forall_mem_cons.mpr ⟨wrr_wsX12_causes_wsX12_causes_r2 (i := 6) rfl, (List.forall_mem_cons.mpr ⟨wrr_wsX12_causes_wsX12_causes_r1 (i := 1) rfl, (List.forall_mem_cons.mpr ⟨wrr_wsX12_causes_wsX12_causes_r2 (i := 7) rfl, (List.forall_mem_cons.mpr ⟨wrr_wsX12_causes_wsX12_causes_r2 (i := 8) rfl, (List.forall_mem_cons.mpr ⟨wrr_wsX12_causes_wsX12_causes_r2 (i := 9) rfl, (List.forall_mem_cons.mpr ⟨wrr_wsX12_causes_wsX12_causes_r2 (i := 10) rfl, (List.forall_mem_cons.mpr ⟨wrr_wsX12_causes_wsX12_causes_r2 (i := 11) rfl, (List.forall_mem_cons.mpr ⟨wrr_wsX12_causes_wsX12_causes_r2 (i := 12) rfl, (List.forall_mem_cons.mpr ⟨wrr_wsX12_causes_wsX12_causes_r2 (i := 13) rfl, (List.forall_mem_cons.mpr ⟨wrr_wsX12_causes_wsX12_causes_r2 (i := 14) rfl, (List.forall_mem_cons.mpr ⟨wrr_wsX12_causes_wsX12_causes_r2 (i := 15) rfl, (fun _ h => absurd h List.not_mem_nil)⟩)⟩)⟩)⟩)⟩)⟩)⟩)⟩)⟩)⟩)⟩)⟩)⟩)⟩)⟩), wru_wsX12_causes_wsX120⟩)⟩) gw_wsX12_laysBut
set_option maxRecDepth 20000 in
theorem gX12_causes_X12_laysBut : GoodIn wsX12_causes (wsV RX12 277 RX12 yX12_laysBut wsX12_laysBut) := goodIn_app (goodIn_sub (List.forall_mem_cons.mpr ⟨wrr_wsX12_causes_wsX12_causes_r1 (i := 23) rfl, (List.forall_mem_cons.mpr ⟨wrr_wsX12_causes_wsX12_causes_r2 (i := 0) rfl, (List.forall_mem_cons.mpr ⟨wrr_wsX12_causes_wsX12_causes_r2 (i := 1) rfl, (List.forall_mem_cons.mpr ⟨wrr_wsX12_causes_wsX12_causes_r1 (i := 5) rfl, (fun _ h => absurd h List.not_mem_nil)⟩)⟩)⟩)⟩) (by decide +kernel)) ggX12_causes_X12_laysBut
theorem dX12_causes_0 : decode cX12_causes 0 = .ok (.aload_n 0, 1) := by decide +kernel
theorem dX12_causes_1 : decode cX12_causes 1 = .ok (.iconst 0, 1) := by decide +kernel
theorem dX12_causes_2 : decode cX12_causes 2 = .ok (.putfield 80, 3) := by decide +kernel
theorem dX12_causes_5 : decode cX12_causes 5 = .ok (.aload_n 0, 1) := by decide +kernel
theorem dX12_causes_6 : decode cX12_causes 6 = .ok (.iload_n 1, 1) := by decide +kernel
theorem dX12_causes_7 : decode cX12_causes 7 = .ok (.invokevirtual 261, 3) := by decide +kernel
theorem dX12_causes_10 : decode cX12_causes 10 = .ok (.ifCond .eq 11, 3) := by decide +kernel
theorem dX12_causes_13 : decode cX12_causes 13 = .ok (.iload_n 2, 1) := by decide +kernel
theorem dX12_causes_14 : decode cX12_causes 14 = .ok (.i2l, 1) := by decide +kernel
theorem dX12_causes_15 : decode cX12_causes 15 = .ok (.invokestatic 270, 3) := by decide +kernel
theorem dX12_causes_18 : decode cX12_causes 18 = .ok (.ifCond .ne 6, 3) := by decide +kernel
theorem dX12_causes_21 : decode cX12_causes 21 = .ok (.bipush (-2), 2) := by decide +kernel
theorem dX12_causes_23 : decode cX12_causes 23 = .ok (.ireturn, 1) := by decide +kernel
theorem dX12_causes_24 : decode cX12_causes 24 = .ok (.aload_n 0, 1) := by decide +kernel
theorem dX12_causes_25 : decode cX12_causes 25 = .ok (.invokevirtual 290, 3) := by decide +kernel
theorem dX12_causes_28 : decode cX12_causes 28 = .ok (.aload_n 0, 1) := by decide +kernel
theorem dX12_causes_29 : decode cX12_causes 29 = .ok (.iload_n 1, 1) := by decide +kernel
theorem dX12_causes_30 : decode cX12_causes 30 = .ok (.iload_n 2, 1) := by decide +kernel
theorem dX12_causes_31 : decode cX12_causes 31 = .ok (.invokevirtual 293, 3) := by decide +kernel
theorem dX12_causes_34 : decode cX12_causes 34 = .ok (.ifCond .ne 5, 3) := by decide +kernel
theorem dX12_causes_37 : decode cX12_causes 37 = .ok (.iconst 0, 1) := by decide +kernel
theorem dX12_causes_38 : decode cX12_causes 38 = .ok (.ireturn, 1) := by decide +kernel
theorem dX12_causes_39 : decode cX12_causes 39 = .ok (.iconst 0, 1) := by decide +kernel
theorem dX12_causes_40 : decode cX12_causes 40 = .ok (.istore_n 3, 1) := by decide +kernel
theorem dX12_causes_41 : decode cX12_causes 41 = .ok (.iconst 0, 1) := by decide +kernel
theorem dX12_causes_42 : decode cX12_causes 42 = .ok (.istore 4, 2) := by decide +kernel
theorem dX12_causes_44 : decode cX12_causes 44 = .ok (.iload 4, 2) := by decide +kernel
theorem dX12_causes_46 : decode cX12_causes 46 = .ok (.aload_n 0, 1) := by decide +kernel
theorem dX12_causes_47 : decode cX12_causes 47 = .ok (.getfield 34, 3) := by decide +kernel
theorem dX12_causes_50 : decode cX12_causes 50 = .ok (.bipush 7, 2) := by decide +kernel
theorem dX12_causes_52 : decode cX12_causes 52 = .ok (.iaload, 1) := by decide +kernel
theorem dX12_causes_53 : decode cX12_causes 53 = .ok (.if_icmp .ge 35, 3) := by decide +kernel
theorem dX12_causes_56 : decode cX12_causes 56 = .ok (.aload_n 0, 1) := by decide +kernel
theorem dX12_causes_57 : decode cX12_causes 57 = .ok (.iload 4, 2) := by decide +kernel
theorem dX12_causes_59 : decode cX12_causes 59 = .ok (.invokevirtual 277, 3) := by decide +kernel
theorem dX12_causes_62 : decode cX12_causes 62 = .ok (.iload_n 3, 1) := by decide +kernel
theorem dX12_causes_63 : decode cX12_causes 63 = .ok (.aload_n 0, 1) := by decide +kernel
theorem dX12_causes_64 : decode cX12_causes 64 = .ok (.iload_n 1, 1) := by decide +kernel
theorem dX12_causes_65 : decode cX12_causes 65 = .ok (.iload_n 2, 1) := by decide +kernel
theorem dX12_causes_66 : decode cX12_causes 66 = .ok (.invokevirtual 293, 3) := by decide +kernel
theorem dX12_causes_69 : decode cX12_causes 69 = .ok (.ifCond .eq 7, 3) := by decide +kernel
theorem dX12_causes_72 : decode cX12_causes 72 = .ok (.iconst 0, 1) := by decide +kernel
theorem dX12_causes_73 : decode cX12_causes 73 = .ok (.goto 7, 3) := by decide +kernel
theorem dX12_causes_76 : decode cX12_causes 76 = .ok (.iconst 1, 1) := by decide +kernel
theorem dX12_causes_77 : decode cX12_causes 77 = .ok (.iload 4, 2) := by decide +kernel
theorem dX12_causes_79 : decode cX12_causes 79 = .ok (.ishl, 1) := by decide +kernel
theorem dX12_causes_80 : decode cX12_causes 80 = .ok (.ior, 1) := by decide +kernel
theorem dX12_causes_81 : decode cX12_causes 81 = .ok (.istore_n 3, 1) := by decide +kernel
theorem dX12_causes_82 : decode cX12_causes 82 = .ok (.iinc 4 1, 3) := by decide +kernel
theorem dX12_causes_85 : decode cX12_causes 85 = .ok (.goto (-41), 3) := by decide +kernel
theorem dX12_causes_88 : decode cX12_causes 88 = .ok (.iload_n 3, 1) := by decide +kernel
theorem dX12_causes_89 : decode cX12_causes 89 = .ok (.ireturn, 1) := by decide +kernel
