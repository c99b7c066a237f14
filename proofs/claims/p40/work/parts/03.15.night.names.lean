abbrev cX4_play : ByteArray := prog_6_method_2_code
def yX4_play : MethodName := ⟨RX4, "play", "(LOverHill$Dance;II)V"⟩
abbrev cX4_danceBeat : ByteArray := prog_6_method_3_code
def yX4_danceBeat : MethodName := ⟨RX4, "danceBeat", "(LOverHill$Dance;I)V"⟩
abbrev cX4_danceStep : ByteArray := prog_6_method_4_code
def yX4_danceStep : MethodName := ⟨RX4, "danceStep", "(LOverHill$Dance;I)I"⟩
abbrev cX4_lookForHole : ByteArray := prog_6_method_5_code
def yX4_lookForHole : MethodName := ⟨RX4, "lookForHole", "(LOverHill$Dance;II)V"⟩
abbrev cX4_draw : ByteArray := prog_6_method_6_code
def yX4_draw : MethodName := ⟨RX4, "draw", "()I"⟩
def wsX4_draw : List Cond := .code yX4_draw cX4_draw 1 (some .int) :: ([.constantLong RX4 79 (1103515245), .fieldLink RX4 18 "OverHill$Night" "state" "J", .constantLong RX4 81 (12345), .constantLong RX4 83 (2147483648), .constantLong RX4 85 (65536), .constantLong RX4 87 (100)] ++ wsX40)
def wsX4_danceStep_r1 : List Cond := [Cond.fieldLink RX4 15 "OverHill$Night" "places" "[I", Cond.fieldLink RX4 55 "OverHill$Dance" "lengths" "[I", Cond.fieldLink RX4 69 "OverHill$Dance" "odds" "I", Cond.fieldLink RX4 32 "OverHill$Night" "slipCount" "I", Cond.methodLink RX4 62 yX0_stepAt, Cond.instanceMethod yX0_stepAt, Cond.selects RX0 yX0_stepAt yX0_stepAt, Cond.initialized RX0, Cond.code yX0_stepAt cX0_stepAt 3 (some .int), Cond.fieldLink RX0 9 "OverHill$Dance" "steps" "[I", Cond.static yX11_wrap, Cond.initialized RX11, Cond.code yX11_wrap cX11_wrap 2 (some .int), Cond.methodLink RX11 451 yJ9_floorMod_7cf53, Cond.static yJ9_floorMod_7cf53, Cond.initialized RJ9, Cond.code yJ9_floorMod_7cf53 cJ9_floorMod_7cf53 3 (some .int), Cond.methodLink RX4 48 yX4_draw, Cond.instanceMethod yX4_draw, Cond.selects RX4 yX4_draw yX4_draw, Cond.initialized RX4, Cond.code yX4_draw cX4_draw 1 (some .int), Cond.constantLong RX4 79 (1103515245), Cond.fieldLink RX4 18 "OverHill$Night" "state" "J"]
def wsX4_danceStep_r2 : List Cond := [Cond.constantLong RX4 81 (12345), Cond.constantLong RX4 83 (2147483648), Cond.constantLong RX4 85 (65536), Cond.constantLong RX4 87 (100)]
def wsX4_danceStep : List Cond := .code yX4_danceStep cX4_danceStep 4 (some .int) :: ((wsX4_danceStep_r1 ++ wsX4_danceStep_r2) ++ wsX40 ++ wsX00)
def wsX4_danceBeat_r1 : List Cond := [Cond.fieldLink RX4 52 "OverHill$Dance" "rain" "I", Cond.fieldLink RX4 29 "OverHill$Night" "mudCount" "I", Cond.fieldLink RX4 55 "OverHill$Dance" "lengths" "[I", Cond.fieldLink RX4 9 "OverHill$Night" "danced" "[I", Cond.methodLink RX4 48 yX4_draw, Cond.instanceMethod yX4_draw, Cond.selects RX4 yX4_draw yX4_draw, Cond.initialized RX4, Cond.code yX4_draw cX4_draw 1 (some .int), Cond.constantLong RX4 79 (1103515245), Cond.fieldLink RX4 18 "OverHill$Night" "state" "J", Cond.constantLong RX4 81 (12345), Cond.constantLong RX4 83 (2147483648), Cond.constantLong RX4 85 (65536), Cond.constantLong RX4 87 (100), Cond.methodLink RX4 58 yX4_danceStep, Cond.instanceMethod yX4_danceStep, Cond.selects RX4 yX4_danceStep yX4_danceStep, Cond.code yX4_danceStep cX4_danceStep 4 (some .int), Cond.fieldLink RX4 15 "OverHill$Night" "places" "[I", Cond.fieldLink RX4 69 "OverHill$Dance" "odds" "I", Cond.fieldLink RX4 32 "OverHill$Night" "slipCount" "I", Cond.methodLink RX4 62 yX0_stepAt, Cond.instanceMethod yX0_stepAt]
def wsX4_danceBeat_r2 : List Cond := [Cond.selects RX0 yX0_stepAt yX0_stepAt, Cond.initialized RX0, Cond.code yX0_stepAt cX0_stepAt 3 (some .int), Cond.fieldLink RX0 9 "OverHill$Dance" "steps" "[I", Cond.static yX11_wrap, Cond.initialized RX11, Cond.code yX11_wrap cX11_wrap 2 (some .int), Cond.methodLink RX11 451 yJ9_floorMod_7cf53, Cond.static yJ9_floorMod_7cf53, Cond.initialized RJ9, Cond.code yJ9_floorMod_7cf53 cJ9_floorMod_7cf53 3 (some .int)]
def wsX4_danceBeat : List Cond := .code yX4_danceBeat cX4_danceBeat 6 none :: ((wsX4_danceBeat_r1 ++ wsX4_danceBeat_r2) ++ wsX00 ++ wsX40)
def wsX4_lookForHole : List Cond := .code yX4_lookForHole cX4_lookForHole 6 none :: ([.fieldLink RX4 72 "OverHill$Dance" "gap" "I", .fieldLink RX4 9 "OverHill$Night" "danced" "[I", .fieldLink RX4 22 "OverHill$Night" "holeCount" "I", .fieldLink RX4 26 "OverHill$Night" "firstHole" "I", .methodLink RX4 75 yX0_isHole, .instanceMethod yX0_isHole, .selects RX0 yX0_isHole yX0_isHole, .initialized RX0, .code yX0_isHole cX0_isHole 3 (some .boolean), .methodLink RX0 80 yX0_mayMeet, .instanceMethod yX0_mayMeet, .selects RX0 yX0_mayMeet yX0_mayMeet, .code yX0_mayMeet cX0_mayMeet 3 (some .boolean), .fieldLink RX0 21 "OverHill$Dance" "met" "[I"] ++ wsX00 ++ wsX40)
def wsX4_play_r1 : List Cond := [Cond.fieldLink RX4 18 "OverHill$Night" "state" "J", Cond.fieldLink RX4 22 "OverHill$Night" "holeCount" "I", Cond.fieldLink RX4 26 "OverHill$Night" "firstHole" "I", Cond.fieldLink RX4 29 "OverHill$Night" "mudCount" "I", Cond.fieldLink RX4 32 "OverHill$Night" "slipCount" "I", Cond.fieldLink RX4 15 "OverHill$Night" "places" "[I", Cond.fieldLink RX4 35 "OverHill$Dance" "starts" "[I", Cond.methodLink RX4 40 yX4_danceBeat, Cond.instanceMethod yX4_danceBeat, Cond.selects RX4 yX4_danceBeat yX4_danceBeat, Cond.initialized RX4, Cond.code yX4_danceBeat cX4_danceBeat 6 none, Cond.fieldLink RX4 52 "OverHill$Dance" "rain" "I", Cond.fieldLink RX4 55 "OverHill$Dance" "lengths" "[I", Cond.fieldLink RX4 9 "OverHill$Night" "danced" "[I", Cond.methodLink RX4 48 yX4_draw, Cond.instanceMethod yX4_draw, Cond.selects RX4 yX4_draw yX4_draw, Cond.code yX4_draw cX4_draw 1 (some .int), Cond.constantLong RX4 79 (1103515245), Cond.constantLong RX4 81 (12345), Cond.constantLong RX4 83 (2147483648), Cond.constantLong RX4 85 (65536), Cond.constantLong RX4 87 (100)]
def wsX4_play_r2 : List Cond := [Cond.methodLink RX4 58 yX4_danceStep, Cond.instanceMethod yX4_danceStep, Cond.selects RX4 yX4_danceStep yX4_danceStep, Cond.code yX4_danceStep cX4_danceStep 4 (some .int), Cond.fieldLink RX4 69 "OverHill$Dance" "odds" "I", Cond.methodLink RX4 62 yX0_stepAt, Cond.instanceMethod yX0_stepAt, Cond.selects RX0 yX0_stepAt yX0_stepAt, Cond.initialized RX0, Cond.code yX0_stepAt cX0_stepAt 3 (some .int), Cond.fieldLink RX0 9 "OverHill$Dance" "steps" "[I", Cond.static yX11_wrap, Cond.initialized RX11, Cond.code yX11_wrap cX11_wrap 2 (some .int), Cond.methodLink RX11 451 yJ9_floorMod_7cf53, Cond.static yJ9_floorMod_7cf53, Cond.initialized RJ9, Cond.code yJ9_floorMod_7cf53 cJ9_floorMod_7cf53 3 (some .int), Cond.methodLink RX4 44 yX4_lookForHole, Cond.instanceMethod yX4_lookForHole, Cond.selects RX4 yX4_lookForHole yX4_lookForHole, Cond.code yX4_lookForHole cX4_lookForHole 6 none, Cond.fieldLink RX4 72 "OverHill$Dance" "gap" "I", Cond.methodLink RX4 75 yX0_isHole]
def wsX4_play_r3 : List Cond := [Cond.instanceMethod yX0_isHole, Cond.selects RX0 yX0_isHole yX0_isHole, Cond.code yX0_isHole cX0_isHole 3 (some .boolean), Cond.methodLink RX0 80 yX0_mayMeet, Cond.instanceMethod yX0_mayMeet, Cond.selects RX0 yX0_mayMeet yX0_mayMeet, Cond.code yX0_mayMeet cX0_mayMeet 3 (some .boolean), Cond.fieldLink RX0 21 "OverHill$Dance" "met" "[I"]
def wsX4_play : List Cond := .code yX4_play cX4_play 5 none :: ((wsX4_play_r1 ++ (wsX4_play_r2 ++ wsX4_play_r3)) ++ wsX40 ++ wsX00)
theorem wrr_wsX4_play {i : Nat} {w : Cond} (h : wsX4_play[i]? = some w) : w ∈ wsX4_play := List.mem_of_getElem? h
theorem wrr_wsX4_play_wsX4_play_r1 {i : Nat} {w : Cond} (h : wsX4_play_r1[i]? = some w) : w ∈ wsX4_play := (List.mem_cons_of_mem _ (List.mem_append_left _ (List.mem_append_left _ (List.mem_append_left _ (List.mem_of_getElem? h)))))
theorem wrr_wsX4_play_wsX4_play_r2 {i : Nat} {w : Cond} (h : wsX4_play_r2[i]? = some w) : w ∈ wsX4_play := (List.mem_cons_of_mem _ (List.mem_append_left _ (List.mem_append_left _ (List.mem_append_right _ (List.mem_append_left _ (List.mem_of_getElem? h))))))
theorem wrr_wsX4_play_wsX4_play_r3 {i : Nat} {w : Cond} (h : wsX4_play_r3[i]? = some w) : w ∈ wsX4_play := (List.mem_cons_of_mem _ (List.mem_append_left _ (List.mem_append_left _ (List.mem_append_right _ (List.mem_append_right _ (List.mem_of_getElem? h))))))
theorem wru_wsX4_play_wsX40 : ∀ w ∈ wsX40, w ∈ wsX4_play := fun w h => (List.mem_cons_of_mem _ (List.mem_append_left _ (List.mem_append_right _ h)))
theorem wru_wsX4_play_wsX00 : ∀ w ∈ wsX00, w ∈ wsX4_play := fun w h => (List.mem_cons_of_mem _ (List.mem_append_right _ h))
set_option maxRecDepth 20000 in
theorem gw_wsX4_danceBeat : wsX4_danceBeat.all goodWord = true := by decide +kernel
set_option maxRecDepth 20000 in
theorem ggX4_play_X4_danceBeat : GoodIn wsX4_play wsX4_danceBeat := goodIn_sub (List.forall_mem_cons.mpr ⟨wrr_wsX4_play_wsX4_play_r1 (i := 11) rfl, (List.forall_mem_append.mpr ⟨(List.forall_mem_append.mpr ⟨(List.forall_mem_append.mpr ⟨(List.forall_mem_cons.mpr ⟨wrr_wsX4_play_wsX4_play_r1 (i := 12) rfl, (List.forall_mem_cons.mpr ⟨wrr_wsX4_play_wsX4_play_r1 (i := 3) rfl, (List.forall_mem_cons.mpr ⟨wrr_wsX4_play_wsX4_play_r1 (i := 13) rfl, (List.forall_mem_cons.mpr ⟨wrr_wsX4_play_wsX4_play_r1 (i := 14) rfl, (List.forall_mem_cons.mpr ⟨wrr_wsX4_play_wsX4_play_r1 (i := 15) rfl, (List.forall_mem_cons.mpr ⟨wrr_wsX4_play_wsX4_play_r1 (i := 16) rfl, (List.forall_mem_cons.mpr ⟨wrr_wsX4_play_wsX4_play_r1 (i := 17) rfl, (List.forall_mem_cons.mpr ⟨wrr_wsX4_play_wsX4_play_r1 (i := 10) rfl, (List.forall_mem_cons.mpr ⟨wrr_wsX4_play_wsX4_play_r1 (i := 18) rfl, (List.forall_mem_cons.mpr ⟨wrr_wsX4_play_wsX4_play_r1 (i := 19) rfl, (List.forall_mem_cons.mpr ⟨wrr_wsX4_play_wsX4_play_r1 (i := 0) rfl, (List.forall_mem_cons.mpr ⟨wrr_wsX4_play_wsX4_play_r1 (i := 20) rfl, (List.forall_mem_cons.mpr ⟨wrr_wsX4_play_wsX4_play_r1 (i := 21) rfl, (List.forall_mem_cons.mpr ⟨wrr_wsX4_play_wsX4_play_r1 (i := 22) rfl, (List.forall_mem_cons.mpr ⟨wrr_wsX4_play_wsX4_play_r1 (i := 23) rfl, (List.forall_mem_cons.mpr ⟨wrr_wsX4_play_wsX4_play_r2 (i := 0) rfl, (List.forall_mem_cons.mpr ⟨wrr_wsX4_play_wsX4_play_r2 (i := 1) rfl, (List.forall_mem_cons.mpr ⟨wrr_wsX4_play_wsX4_play_r2 (i := 2) rfl, (List.forall_mem_cons.mpr ⟨wrr_wsX4_play_wsX4_play_r2 (i := 3) rfl, (List.forall_mem_cons.mpr ⟨wrr_wsX4_play_wsX4_play_r1 (i := 5) rfl, (List.forall_mem_cons.mpr ⟨wrr_wsX4_play_wsX4_play_r2 (i := 4) rfl, (List.forall_mem_cons.mpr ⟨wrr_wsX4_play_wsX4_play_r1 (i := 4) rfl, (List.forall_mem_cons.mpr ⟨wrr_wsX4_play_wsX4_play_r2 (i := 5) rfl, (List.forall_mem_cons.mpr ⟨wrr_wsX4_play_wsX4_play_r2 (i := 6) rfl, (fun _ h => absurd h List.not_mem_nil)⟩)⟩)⟩)⟩)⟩)⟩)⟩)⟩)⟩)⟩)⟩)⟩)⟩)⟩)⟩)⟩)⟩)⟩)⟩)⟩)⟩)⟩)⟩)⟩), (List.forall_mem_cons.mpr ⟨wrr_wsX4_play_wsX4_play_r2 (i := 7) rfl, (List.forall_mem_cons.mpr ⟨wrr_wsX4_play_wsX4_play_r2 (i := 8) rfl, (List.forall_mem_cons.mpr ⟨wrr_wsX4_play_wsX4_play_r2 (i := 9) rfl, (List.forall_mem_cons.mpr ⟨wrr_wsX4_play_wsX4_play_r2 (i := 10) rfl, (List.forall_mem_cons.mpr ⟨wrr_wsX4_play_wsX4_play_r2 (i := 11) rfl, (List.forall_mem_cons.mpr ⟨wrr_wsX4_play_wsX4_play_r2 (i := 12) rfl, (List.forall_mem_cons.mpr ⟨wrr_wsX4_play_wsX4_play_r2 (i := 13) rfl, (List.forall_mem_cons.mpr ⟨wrr_wsX4_play_wsX4_play_r2 (i := 14) rfl, (List.forall_mem_cons.mpr ⟨wrr_wsX4_play_wsX4_play_r2 (i := 15) rfl, (List.forall_mem_cons.mpr ⟨wrr_wsX4_play_wsX4_play_r2 (i := 16) rfl, (List.forall_mem_cons.mpr ⟨wrr_wsX4_play_wsX4_play_r2 (i := 17) rfl, (fun _ h => absurd h List.not_mem_nil)⟩)⟩)⟩)⟩)⟩)⟩)⟩)⟩)⟩)⟩)⟩)⟩), wru_wsX4_play_wsX00⟩), wru_wsX4_play_wsX40⟩)⟩) gw_wsX4_danceBeat
set_option maxRecDepth 20000 in
theorem gX4_play_X4_danceBeat : GoodIn wsX4_play (wsV RX4 40 RX4 yX4_danceBeat wsX4_danceBeat) := goodIn_app (goodIn_sub (List.forall_mem_cons.mpr ⟨wrr_wsX4_play_wsX4_play_r1 (i := 7) rfl, (List.forall_mem_cons.mpr ⟨wrr_wsX4_play_wsX4_play_r1 (i := 8) rfl, (List.forall_mem_cons.mpr ⟨wrr_wsX4_play_wsX4_play_r1 (i := 9) rfl, (List.forall_mem_cons.mpr ⟨wrr_wsX4_play_wsX4_play_r1 (i := 10) rfl, (fun _ h => absurd h List.not_mem_nil)⟩)⟩)⟩)⟩) (by decide +kernel)) ggX4_play_X4_danceBeat
set_option maxRecDepth 20000 in
theorem gw_wsX4_lookForHole : wsX4_lookForHole.all goodWord = true := by decide +kernel
set_option maxRecDepth 20000 in
theorem ggX4_play_X4_lookForHole : GoodIn wsX4_play wsX4_lookForHole := goodIn_sub (List.forall_mem_cons.mpr ⟨wrr_wsX4_play_wsX4_play_r2 (i := 21) rfl, (List.forall_mem_append.mpr ⟨(List.forall_mem_append.mpr ⟨(List.forall_mem_cons.mpr ⟨wrr_wsX4_play_wsX4_play_r2 (i := 22) rfl, (List.forall_mem_cons.mpr ⟨wrr_wsX4_play_wsX4_play_r1 (i := 14) rfl, (List.forall_mem_cons.mpr ⟨wrr_wsX4_play_wsX4_play_r1 (i := 1) rfl, (List.forall_mem_cons.mpr ⟨wrr_wsX4_play_wsX4_play_r1 (i := 2) rfl, (List.forall_mem_cons.mpr ⟨wrr_wsX4_play_wsX4_play_r2 (i := 23) rfl, (List.forall_mem_cons.mpr ⟨wrr_wsX4_play_wsX4_play_r3 (i := 0) rfl, (List.forall_mem_cons.mpr ⟨wrr_wsX4_play_wsX4_play_r3 (i := 1) rfl, (List.forall_mem_cons.mpr ⟨wrr_wsX4_play_wsX4_play_r2 (i := 8) rfl, (List.forall_mem_cons.mpr ⟨wrr_wsX4_play_wsX4_play_r3 (i := 2) rfl, (List.forall_mem_cons.mpr ⟨wrr_wsX4_play_wsX4_play_r3 (i := 3) rfl, (List.forall_mem_cons.mpr ⟨wrr_wsX4_play_wsX4_play_r3 (i := 4) rfl, (List.forall_mem_cons.mpr ⟨wrr_wsX4_play_wsX4_play_r3 (i := 5) rfl, (List.forall_mem_cons.mpr ⟨wrr_wsX4_play_wsX4_play_r3 (i := 6) rfl, (List.forall_mem_cons.mpr ⟨wrr_wsX4_play_wsX4_play_r3 (i := 7) rfl, (fun _ h => absurd h List.not_mem_nil)⟩)⟩)⟩)⟩)⟩)⟩)⟩)⟩)⟩)⟩)⟩)⟩)⟩)⟩), wru_wsX4_play_wsX00⟩), wru_wsX4_play_wsX40⟩)⟩) gw_wsX4_lookForHole
set_option maxRecDepth 20000 in
theorem gX4_play_X4_lookForHole : GoodIn wsX4_play (wsV RX4 44 RX4 yX4_lookForHole wsX4_lookForHole) := goodIn_app (goodIn_sub (List.forall_mem_cons.mpr ⟨wrr_wsX4_play_wsX4_play_r2 (i := 18) rfl, (List.forall_mem_cons.mpr ⟨wrr_wsX4_play_wsX4_play_r2 (i := 19) rfl, (List.forall_mem_cons.mpr ⟨wrr_wsX4_play_wsX4_play_r2 (i := 20) rfl, (List.forall_mem_cons.mpr ⟨wrr_wsX4_play_wsX4_play_r1 (i := 10) rfl, (fun _ h => absurd h List.not_mem_nil)⟩)⟩)⟩)⟩) (by decide +kernel)) ggX4_play_X4_lookForHole
theorem dX4_play_0 : decode cX4_play 0 = .ok (.aload_n 0, 1) := by decide +kernel
theorem dX4_play_1 : decode cX4_play 1 = .ok (.iload_n 2, 1) := by decide +kernel
theorem dX4_play_2 : decode cX4_play 2 = .ok (.i2l, 1) := by decide +kernel
theorem dX4_play_3 : decode cX4_play 3 = .ok (.putfield 18, 3) := by decide +kernel
theorem dX4_play_6 : decode cX4_play 6 = .ok (.aload_n 0, 1) := by decide +kernel
theorem dX4_play_7 : decode cX4_play 7 = .ok (.iconst 0, 1) := by decide +kernel
theorem dX4_play_8 : decode cX4_play 8 = .ok (.putfield 22, 3) := by decide +kernel
theorem dX4_play_11 : decode cX4_play 11 = .ok (.aload_n 0, 1) := by decide +kernel
theorem dX4_play_12 : decode cX4_play 12 = .ok (.iconst (-1), 1) := by decide +kernel
theorem dX4_play_13 : decode cX4_play 13 = .ok (.putfield 26, 3) := by decide +kernel
theorem dX4_play_16 : decode cX4_play 16 = .ok (.aload_n 0, 1) := by decide +kernel
theorem dX4_play_17 : decode cX4_play 17 = .ok (.iconst 0, 1) := by decide +kernel
theorem dX4_play_18 : decode cX4_play 18 = .ok (.putfield 29, 3) := by decide +kernel
theorem dX4_play_21 : decode cX4_play 21 = .ok (.aload_n 0, 1) := by decide +kernel
theorem dX4_play_22 : decode cX4_play 22 = .ok (.iconst 0, 1) := by decide +kernel
theorem dX4_play_23 : decode cX4_play 23 = .ok (.putfield 32, 3) := by decide +kernel
theorem dX4_play_26 : decode cX4_play 26 = .ok (.aload_n 0, 1) := by decide +kernel
theorem dX4_play_27 : decode cX4_play 27 = .ok (.getfield 15, 3) := by decide +kernel
theorem dX4_play_30 : decode cX4_play 30 = .ok (.iconst 0, 1) := by decide +kernel
theorem dX4_play_31 : decode cX4_play 31 = .ok (.aload_n 1, 1) := by decide +kernel
theorem dX4_play_32 : decode cX4_play 32 = .ok (.getfield 35, 3) := by decide +kernel
theorem dX4_play_35 : decode cX4_play 35 = .ok (.iconst 0, 1) := by decide +kernel
theorem dX4_play_36 : decode cX4_play 36 = .ok (.iaload, 1) := by decide +kernel
theorem dX4_play_37 : decode cX4_play 37 = .ok (.iastore, 1) := by decide +kernel
theorem dX4_play_38 : decode cX4_play 38 = .ok (.aload_n 0, 1) := by decide +kernel
theorem dX4_play_39 : decode cX4_play 39 = .ok (.getfield 15, 3) := by decide +kernel
theorem dX4_play_42 : decode cX4_play 42 = .ok (.iconst 1, 1) := by decide +kernel
theorem dX4_play_43 : decode cX4_play 43 = .ok (.aload_n 1, 1) := by decide +kernel
theorem dX4_play_44 : decode cX4_play 44 = .ok (.getfield 35, 3) := by decide +kernel
theorem dX4_play_47 : decode cX4_play 47 = .ok (.iconst 1, 1) := by decide +kernel
theorem dX4_play_48 : decode cX4_play 48 = .ok (.iaload, 1) := by decide +kernel
theorem dX4_play_49 : decode cX4_play 49 = .ok (.iastore, 1) := by decide +kernel
theorem dX4_play_50 : decode cX4_play 50 = .ok (.iconst 0, 1) := by decide +kernel
theorem dX4_play_51 : decode cX4_play 51 = .ok (.istore 4, 2) := by decide +kernel
theorem dX4_play_53 : decode cX4_play 53 = .ok (.iload 4, 2) := by decide +kernel
theorem dX4_play_55 : decode cX4_play 55 = .ok (.iload_n 3, 1) := by decide +kernel
theorem dX4_play_56 : decode cX4_play 56 = .ok (.if_icmp .ge 39, 3) := by decide +kernel
theorem dX4_play_59 : decode cX4_play 59 = .ok (.iload 4, 2) := by decide +kernel
theorem dX4_play_61 : decode cX4_play 61 = .ok (.bipush 100, 2) := by decide +kernel
theorem dX4_play_63 : decode cX4_play 63 = .ok (.if_icmp .ge 32, 3) := by decide +kernel
theorem dX4_play_66 : decode cX4_play 66 = .ok (.aload_n 0, 1) := by decide +kernel
theorem dX4_play_67 : decode cX4_play 67 = .ok (.aload_n 1, 1) := by decide +kernel
theorem dX4_play_68 : decode cX4_play 68 = .ok (.iload 4, 2) := by decide +kernel
theorem dX4_play_70 : decode cX4_play 70 = .ok (.invokevirtual 40, 3) := by decide +kernel
theorem dX4_play_73 : decode cX4_play 73 = .ok (.aload_n 0, 1) := by decide +kernel
theorem dX4_play_74 : decode cX4_play 74 = .ok (.aload_n 1, 1) := by decide +kernel
theorem dX4_play_75 : decode cX4_play 75 = .ok (.iconst 0, 1) := by decide +kernel
theorem dX4_play_76 : decode cX4_play 76 = .ok (.iload 4, 2) := by decide +kernel
theorem dX4_play_78 : decode cX4_play 78 = .ok (.invokevirtual 44, 3) := by decide +kernel
theorem dX4_play_81 : decode cX4_play 81 = .ok (.aload_n 0, 1) := by decide +kernel
theorem dX4_play_82 : decode cX4_play 82 = .ok (.aload_n 1, 1) := by decide +kernel
theorem dX4_play_83 : decode cX4_play 83 = .ok (.iconst 1, 1) := by decide +kernel
theorem dX4_play_84 : decode cX4_play 84 = .ok (.iload 4, 2) := by decide +kernel
theorem dX4_play_86 : decode cX4_play 86 = .ok (.invokevirtual 44, 3) := by decide +kernel
theorem dX4_play_89 : decode cX4_play 89 = .ok (.iinc 4 1, 3) := by decide +kernel
theorem dX4_play_92 : decode cX4_play 92 = .ok (.goto (-39), 3) := by decide +kernel
theorem dX4_play_95 : decode cX4_play 95 = .ok (.return_, 1) := by decide +kernel
theorem wrr_wsX4_danceBeat {i : Nat} {w : Cond} (h : wsX4_danceBeat[i]? = some w) : w ∈ wsX4_danceBeat := List.mem_of_getElem? h
theorem wrr_wsX4_danceBeat_wsX4_danceBeat_r1 {i : Nat} {w : Cond} (h : wsX4_danceBeat_r1[i]? = some w) : w ∈ wsX4_danceBeat := (List.mem_cons_of_mem _ (List.mem_append_left _ (List.mem_append_left _ (List.mem_append_left _ (List.mem_of_getElem? h)))))
theorem wrr_wsX4_danceBeat_wsX4_danceBeat_r2 {i : Nat} {w : Cond} (h : wsX4_danceBeat_r2[i]? = some w) : w ∈ wsX4_danceBeat := (List.mem_cons_of_mem _ (List.mem_append_left _ (List.mem_append_left _ (List.mem_append_right _ (List.mem_of_getElem? h)))))
theorem wru_wsX4_danceBeat_wsX00 : ∀ w ∈ wsX00, w ∈ wsX4_danceBeat := fun w h => (List.mem_cons_of_mem _ (List.mem_append_left _ (List.mem_append_right _ h)))
theorem wru_wsX4_danceBeat_wsX40 : ∀ w ∈ wsX40, w ∈ wsX4_danceBeat := fun w h => (List.mem_cons_of_mem _ (List.mem_append_right _ h))
set_option maxRecDepth 20000 in
theorem gw_wsX4_draw : wsX4_draw.all goodWord = true := by decide +kernel
set_option maxRecDepth 20000 in
theorem ggX4_danceBeat_X4_draw : GoodIn wsX4_danceBeat wsX4_draw := goodIn_sub (List.forall_mem_cons.mpr ⟨wrr_wsX4_danceBeat_wsX4_danceBeat_r1 (i := 8) rfl, (List.forall_mem_append.mpr ⟨(List.forall_mem_cons.mpr ⟨wrr_wsX4_danceBeat_wsX4_danceBeat_r1 (i := 9) rfl, (List.forall_mem_cons.mpr ⟨wrr_wsX4_danceBeat_wsX4_danceBeat_r1 (i := 10) rfl, (List.forall_mem_cons.mpr ⟨wrr_wsX4_danceBeat_wsX4_danceBeat_r1 (i := 11) rfl, (List.forall_mem_cons.mpr ⟨wrr_wsX4_danceBeat_wsX4_danceBeat_r1 (i := 12) rfl, (List.forall_mem_cons.mpr ⟨wrr_wsX4_danceBeat_wsX4_danceBeat_r1 (i := 13) rfl, (List.forall_mem_cons.mpr ⟨wrr_wsX4_danceBeat_wsX4_danceBeat_r1 (i := 14) rfl, (fun _ h => absurd h List.not_mem_nil)⟩)⟩)⟩)⟩)⟩)⟩), wru_wsX4_danceBeat_wsX40⟩)⟩) gw_wsX4_draw
set_option maxRecDepth 20000 in
theorem gX4_danceBeat_X4_draw : GoodIn wsX4_danceBeat (wsV RX4 48 RX4 yX4_draw wsX4_draw) := goodIn_app (goodIn_sub (List.forall_mem_cons.mpr ⟨wrr_wsX4_danceBeat_wsX4_danceBeat_r1 (i := 4) rfl, (List.forall_mem_cons.mpr ⟨wrr_wsX4_danceBeat_wsX4_danceBeat_r1 (i := 5) rfl, (List.forall_mem_cons.mpr ⟨wrr_wsX4_danceBeat_wsX4_danceBeat_r1 (i := 6) rfl, (List.forall_mem_cons.mpr ⟨wrr_wsX4_danceBeat_wsX4_danceBeat_r1 (i := 7) rfl, (fun _ h => absurd h List.not_mem_nil)⟩)⟩)⟩)⟩) (by decide +kernel)) ggX4_danceBeat_X4_draw
set_option maxRecDepth 20000 in
theorem gw_wsX4_danceStep : wsX4_danceStep.all goodWord = true := by decide +kernel
set_option maxRecDepth 20000 in
theorem ggX4_danceBeat_X4_danceStep : GoodIn wsX4_danceBeat wsX4_danceStep := goodIn_sub (List.forall_mem_cons.mpr ⟨wrr_wsX4_danceBeat_wsX4_danceBeat_r1 (i := 18) rfl, (List.forall_mem_append.mpr ⟨(List.forall_mem_append.mpr ⟨(List.forall_mem_append.mpr ⟨(List.forall_mem_cons.mpr ⟨wrr_wsX4_danceBeat_wsX4_danceBeat_r1 (i := 19) rfl, (List.forall_mem_cons.mpr ⟨wrr_wsX4_danceBeat_wsX4_danceBeat_r1 (i := 2) rfl, (List.forall_mem_cons.mpr ⟨wrr_wsX4_danceBeat_wsX4_danceBeat_r1 (i := 20) rfl, (List.forall_mem_cons.mpr ⟨wrr_wsX4_danceBeat_wsX4_danceBeat_r1 (i := 21) rfl, (List.forall_mem_cons.mpr ⟨wrr_wsX4_danceBeat_wsX4_danceBeat_r1 (i := 22) rfl, (List.forall_mem_cons.mpr ⟨wrr_wsX4_danceBeat_wsX4_danceBeat_r1 (i := 23) rfl, (List.forall_mem_cons.mpr ⟨wrr_wsX4_danceBeat_wsX4_danceBeat_r2 (i := 0) rfl, (List.forall_mem_cons.mpr ⟨wrr_wsX4_danceBeat_wsX4_danceBeat_r2 (i := 1) rfl, (List.forall_mem_cons.mpr ⟨wrr_wsX4_danceBeat_wsX4_danceBeat_r2 (i := 2) rfl, (List.forall_mem_cons.mpr ⟨wrr_wsX4_danceBeat_wsX4_danceBeat_r2 (i := 3) rfl, (List.forall_mem_cons.mpr ⟨wrr_wsX4_danceBeat_wsX4_danceBeat_r2 (i := 4) rfl, (List.forall_mem_cons.mpr ⟨wrr_wsX4_danceBeat_wsX4_danceBeat_r2 (i := 5) rfl, (List.forall_mem_cons.mpr ⟨wrr_wsX4_danceBeat_wsX4_danceBeat_r2 (i := 6) rfl, (List.forall_mem_cons.mpr ⟨wrr_wsX4_danceBeat_wsX4_danceBeat_r2 (i := 7) rfl, (List.forall_mem_cons.mpr ⟨wrr_wsX4_danceBeat_wsX4_danceBeat_r2 (i := 8) rfl, (List.forall_mem_cons.mpr ⟨wrr_wsX4_danceBeat_wsX4_danceBeat_r2 (i := 9) rfl, (List.forall_mem_cons.mpr ⟨wrr_wsX4_danceBeat_wsX4_danceBeat_r2 (i := 10) rfl, (List.forall_mem_cons.mpr ⟨wrr_wsX4_danceBeat_wsX4_danceBeat_r1 (i := 4) rfl, (List.forall_mem_cons.mpr ⟨wrr_wsX4_danceBeat_wsX4_danceBeat_r1 (i := 5) rfl, (List.forall_mem_cons.mpr ⟨wrr_wsX4_danceBeat_wsX4_danceBeat_r1 (i := 6) rfl, (List.forall_mem_cons.mpr ⟨wrr_wsX4_danceBeat_wsX4_danceBeat_r1 (i := 7) rfl, (List.forall_mem_cons.mpr ⟨wrr_wsX4_danceBeat_wsX4_danceBeat_r1 (i := 8) rfl, (List.forall_mem_cons.mpr ⟨wrr_wsX4_danceBeat_wsX4_danceBeat_r1 (i := 9) rfl, (List.forall_mem_cons.mpr ⟨wrr_wsX4_danceBeat_wsX4_danceBeat_r1 (i := 10) rfl, (fun _ h => absurd h List.not_mem_nil)⟩)⟩)⟩)⟩)⟩)⟩)⟩)⟩)⟩)⟩)⟩)⟩)⟩)⟩)⟩)⟩)⟩)⟩)⟩)⟩)⟩)⟩)⟩)⟩), (List.forall_mem_cons.mpr ⟨wrr_wsX4_danceBeat_wsX4_danceBeat_r1 (i := 11) rfl, (List.forall_mem_cons.mpr ⟨wrr_wsX4_danceBeat_wsX4_danceBeat_r1 (i := 12) rfl, (List.forall_mem_cons.mpr ⟨wrr_wsX4_danceBeat_wsX4_danceBeat_r1 (i := 13) rfl, (List.forall_mem_cons.mpr ⟨wrr_wsX4_danceBeat_wsX4_danceBeat_r1 (i := 14) rfl, (fun _ h => absurd h List.not_mem_nil)⟩)⟩)⟩)⟩)⟩), wru_wsX4_danceBeat_wsX40⟩), wru_wsX4_danceBeat_wsX00⟩)⟩) gw_wsX4_danceStep
set_option maxRecDepth 20000 in
theorem gX4_danceBeat_X4_danceStep : GoodIn wsX4_danceBeat (wsV RX4 58 RX4 yX4_danceStep wsX4_danceStep) := goodIn_app (goodIn_sub (List.forall_mem_cons.mpr ⟨wrr_wsX4_danceBeat_wsX4_danceBeat_r1 (i := 15) rfl, (List.forall_mem_cons.mpr ⟨wrr_wsX4_danceBeat_wsX4_danceBeat_r1 (i := 16) rfl, (List.forall_mem_cons.mpr ⟨wrr_wsX4_danceBeat_wsX4_danceBeat_r1 (i := 17) rfl, (List.forall_mem_cons.mpr ⟨wrr_wsX4_danceBeat_wsX4_danceBeat_r1 (i := 7) rfl, (fun _ h => absurd h List.not_mem_nil)⟩)⟩)⟩)⟩) (by decide +kernel)) ggX4_danceBeat_X4_danceStep
theorem dX4_danceBeat_0 : decode cX4_danceBeat 0 = .ok (.aload_n 0, 1) := by decide +kernel
theorem dX4_danceBeat_1 : decode cX4_danceBeat 1 = .ok (.invokevirtual 48, 3) := by decide +kernel
theorem dX4_danceBeat_4 : decode cX4_danceBeat 4 = .ok (.aload_n 1, 1) := by decide +kernel
theorem dX4_danceBeat_5 : decode cX4_danceBeat 5 = .ok (.getfield 52, 3) := by decide +kernel
theorem dX4_danceBeat_8 : decode cX4_danceBeat 8 = .ok (.if_icmp .ge 7, 3) := by decide +kernel
theorem dX4_danceBeat_11 : decode cX4_danceBeat 11 = .ok (.iconst 1, 1) := by decide +kernel
theorem dX4_danceBeat_12 : decode cX4_danceBeat 12 = .ok (.goto 4, 3) := by decide +kernel
theorem dX4_danceBeat_15 : decode cX4_danceBeat 15 = .ok (.iconst 0, 1) := by decide +kernel
theorem dX4_danceBeat_16 : decode cX4_danceBeat 16 = .ok (.istore_n 3, 1) := by decide +kernel
theorem dX4_danceBeat_17 : decode cX4_danceBeat 17 = .ok (.aload_n 0, 1) := by decide +kernel
theorem dX4_danceBeat_18 : decode cX4_danceBeat 18 = .ok (.dup, 1) := by decide +kernel
theorem dX4_danceBeat_19 : decode cX4_danceBeat 19 = .ok (.getfield 29, 3) := by decide +kernel
theorem dX4_danceBeat_22 : decode cX4_danceBeat 22 = .ok (.iload_n 3, 1) := by decide +kernel
theorem dX4_danceBeat_23 : decode cX4_danceBeat 23 = .ok (.ifCond .eq 7, 3) := by decide +kernel
theorem dX4_danceBeat_26 : decode cX4_danceBeat 26 = .ok (.iconst 1, 1) := by decide +kernel
theorem dX4_danceBeat_27 : decode cX4_danceBeat 27 = .ok (.goto 4, 3) := by decide +kernel
theorem dX4_danceBeat_30 : decode cX4_danceBeat 30 = .ok (.iconst 0, 1) := by decide +kernel
theorem dX4_danceBeat_31 : decode cX4_danceBeat 31 = .ok (.iadd, 1) := by decide +kernel
theorem dX4_danceBeat_32 : decode cX4_danceBeat 32 = .ok (.putfield 29, 3) := by decide +kernel
theorem dX4_danceBeat_35 : decode cX4_danceBeat 35 = .ok (.iconst 0, 1) := by decide +kernel
theorem dX4_danceBeat_36 : decode cX4_danceBeat 36 = .ok (.istore 4, 2) := by decide +kernel
theorem dX4_danceBeat_38 : decode cX4_danceBeat 38 = .ok (.iload 4, 2) := by decide +kernel
theorem dX4_danceBeat_40 : decode cX4_danceBeat 40 = .ok (.iconst 2, 1) := by decide +kernel
theorem dX4_danceBeat_41 : decode cX4_danceBeat 41 = .ok (.if_icmp .ge 58, 3) := by decide +kernel
theorem dX4_danceBeat_44 : decode cX4_danceBeat 44 = .ok (.iload_n 3, 1) := by decide +kernel
theorem dX4_danceBeat_45 : decode cX4_danceBeat 45 = .ok (.ifCond .ne 17, 3) := by decide +kernel
theorem dX4_danceBeat_48 : decode cX4_danceBeat 48 = .ok (.aload_n 1, 1) := by decide +kernel
theorem dX4_danceBeat_49 : decode cX4_danceBeat 49 = .ok (.getfield 55, 3) := by decide +kernel
theorem dX4_danceBeat_52 : decode cX4_danceBeat 52 = .ok (.iload 4, 2) := by decide +kernel
theorem dX4_danceBeat_54 : decode cX4_danceBeat 54 = .ok (.iaload, 1) := by decide +kernel
theorem dX4_danceBeat_55 : decode cX4_danceBeat 55 = .ok (.ifCond .le 7, 3) := by decide +kernel
theorem dX4_danceBeat_58 : decode cX4_danceBeat 58 = .ok (.iconst 1, 1) := by decide +kernel
theorem dX4_danceBeat_59 : decode cX4_danceBeat 59 = .ok (.goto 4, 3) := by decide +kernel
theorem dX4_danceBeat_62 : decode cX4_danceBeat 62 = .ok (.iconst 0, 1) := by decide +kernel
theorem dX4_danceBeat_63 : decode cX4_danceBeat 63 = .ok (.istore 5, 2) := by decide +kernel
theorem dX4_danceBeat_65 : decode cX4_danceBeat 65 = .ok (.aload_n 0, 1) := by decide +kernel
theorem dX4_danceBeat_66 : decode cX4_danceBeat 66 = .ok (.getfield 9, 3) := by decide +kernel
theorem dX4_danceBeat_69 : decode cX4_danceBeat 69 = .ok (.iload 4, 2) := by decide +kernel
theorem dX4_danceBeat_71 : decode cX4_danceBeat 71 = .ok (.bipush 100, 2) := by decide +kernel
theorem dX4_danceBeat_73 : decode cX4_danceBeat 73 = .ok (.imul, 1) := by decide +kernel
theorem dX4_danceBeat_74 : decode cX4_danceBeat 74 = .ok (.iload_n 2, 1) := by decide +kernel
theorem dX4_danceBeat_75 : decode cX4_danceBeat 75 = .ok (.iadd, 1) := by decide +kernel
theorem dX4_danceBeat_76 : decode cX4_danceBeat 76 = .ok (.iload 5, 2) := by decide +kernel
theorem dX4_danceBeat_78 : decode cX4_danceBeat 78 = .ok (.ifCond .eq 13, 3) := by decide +kernel
theorem dX4_danceBeat_81 : decode cX4_danceBeat 81 = .ok (.aload_n 0, 1) := by decide +kernel
theorem dX4_danceBeat_82 : decode cX4_danceBeat 82 = .ok (.aload_n 1, 1) := by decide +kernel
theorem dX4_danceBeat_83 : decode cX4_danceBeat 83 = .ok (.iload 4, 2) := by decide +kernel
theorem dX4_danceBeat_85 : decode cX4_danceBeat 85 = .ok (.invokevirtual 58, 3) := by decide +kernel
theorem dX4_danceBeat_88 : decode cX4_danceBeat 88 = .ok (.goto 4, 3) := by decide +kernel
theorem dX4_danceBeat_91 : decode cX4_danceBeat 91 = .ok (.iconst (-1), 1) := by decide +kernel
theorem dX4_danceBeat_92 : decode cX4_danceBeat 92 = .ok (.iastore, 1) := by decide +kernel
theorem dX4_danceBeat_93 : decode cX4_danceBeat 93 = .ok (.iinc 4 1, 3) := by decide +kernel
theorem dX4_danceBeat_96 : decode cX4_danceBeat 96 = .ok (.goto (-58), 3) := by decide +kernel
theorem dX4_danceBeat_99 : decode cX4_danceBeat 99 = .ok (.return_, 1) := by decide +kernel
theorem wrr_wsX4_danceStep {i : Nat} {w : Cond} (h : wsX4_danceStep[i]? = some w) : w ∈ wsX4_danceStep := List.mem_of_getElem? h
theorem wrr_wsX4_danceStep_wsX4_danceStep_r1 {i : Nat} {w : Cond} (h : wsX4_danceStep_r1[i]? = some w) : w ∈ wsX4_danceStep := (List.mem_cons_of_mem _ (List.mem_append_left _ (List.mem_append_left _ (List.mem_append_left _ (List.mem_of_getElem? h)))))
theorem wrr_wsX4_danceStep_wsX4_danceStep_r2 {i : Nat} {w : Cond} (h : wsX4_danceStep_r2[i]? = some w) : w ∈ wsX4_danceStep := (List.mem_cons_of_mem _ (List.mem_append_left _ (List.mem_append_left _ (List.mem_append_right _ (List.mem_of_getElem? h)))))
theorem wru_wsX4_danceStep_wsX40 : ∀ w ∈ wsX40, w ∈ wsX4_danceStep := fun w h => (List.mem_cons_of_mem _ (List.mem_append_left _ (List.mem_append_right _ h)))
theorem wru_wsX4_danceStep_wsX00 : ∀ w ∈ wsX00, w ∈ wsX4_danceStep := fun w h => (List.mem_cons_of_mem _ (List.mem_append_right _ h))
set_option maxRecDepth 20000 in
theorem ggX4_danceStep_X0_stepAt : GoodIn wsX4_danceStep wsX0_stepAt := goodIn_sub (List.forall_mem_cons.mpr ⟨wrr_wsX4_danceStep_wsX4_danceStep_r1 (i := 8) rfl, (List.forall_mem_append.mpr ⟨(List.forall_mem_cons.mpr ⟨wrr_wsX4_danceStep_wsX4_danceStep_r1 (i := 9) rfl, (fun _ h => absurd h List.not_mem_nil)⟩), wru_wsX4_danceStep_wsX00⟩)⟩) gw_wsX0_stepAt
set_option maxRecDepth 20000 in
theorem gX4_danceStep_X0_stepAt : GoodIn wsX4_danceStep (wsV RX4 62 RX0 yX0_stepAt wsX0_stepAt) := goodIn_app (goodIn_sub (List.forall_mem_cons.mpr ⟨wrr_wsX4_danceStep_wsX4_danceStep_r1 (i := 4) rfl, (List.forall_mem_cons.mpr ⟨wrr_wsX4_danceStep_wsX4_danceStep_r1 (i := 5) rfl, (List.forall_mem_cons.mpr ⟨wrr_wsX4_danceStep_wsX4_danceStep_r1 (i := 6) rfl, (List.forall_mem_cons.mpr ⟨wrr_wsX4_danceStep_wsX4_danceStep_r1 (i := 7) rfl, (fun _ h => absurd h List.not_mem_nil)⟩)⟩)⟩)⟩) (by decide +kernel)) ggX4_danceStep_X0_stepAt
set_option maxRecDepth 20000 in
theorem ggX4_danceStep_X11_wrap : GoodIn wsX4_danceStep wsX11_wrap := goodIn_sub (List.forall_mem_cons.mpr ⟨wrr_wsX4_danceStep_wsX4_danceStep_r1 (i := 12) rfl, (List.forall_mem_cons.mpr ⟨wrr_wsX4_danceStep_wsX4_danceStep_r1 (i := 13) rfl, (List.forall_mem_cons.mpr ⟨wrr_wsX4_danceStep_wsX4_danceStep_r1 (i := 14) rfl, (List.forall_mem_cons.mpr ⟨wrr_wsX4_danceStep_wsX4_danceStep_r1 (i := 15) rfl, (List.forall_mem_cons.mpr ⟨wrr_wsX4_danceStep_wsX4_danceStep_r1 (i := 16) rfl, (fun _ h => absurd h List.not_mem_nil)⟩)⟩)⟩)⟩)⟩) gw_wsX11_wrap
set_option maxRecDepth 20000 in
theorem gX4_danceStep_X11_wrap_n66 : GoodIn wsX4_danceStep (wsX11_wrap) := ggX4_danceStep_X11_wrap
set_option maxRecDepth 20000 in
theorem ggX4_danceStep_X4_draw : GoodIn wsX4_danceStep wsX4_draw := goodIn_sub (List.forall_mem_cons.mpr ⟨wrr_wsX4_danceStep_wsX4_danceStep_r1 (i := 21) rfl, (List.forall_mem_append.mpr ⟨(List.forall_mem_cons.mpr ⟨wrr_wsX4_danceStep_wsX4_danceStep_r1 (i := 22) rfl, (List.forall_mem_cons.mpr ⟨wrr_wsX4_danceStep_wsX4_danceStep_r1 (i := 23) rfl, (List.forall_mem_cons.mpr ⟨wrr_wsX4_danceStep_wsX4_danceStep_r2 (i := 0) rfl, (List.forall_mem_cons.mpr ⟨wrr_wsX4_danceStep_wsX4_danceStep_r2 (i := 1) rfl, (List.forall_mem_cons.mpr ⟨wrr_wsX4_danceStep_wsX4_danceStep_r2 (i := 2) rfl, (List.forall_mem_cons.mpr ⟨wrr_wsX4_danceStep_wsX4_danceStep_r2 (i := 3) rfl, (fun _ h => absurd h List.not_mem_nil)⟩)⟩)⟩)⟩)⟩)⟩), wru_wsX4_danceStep_wsX40⟩)⟩) gw_wsX4_draw
set_option maxRecDepth 20000 in
theorem gX4_danceStep_X4_draw : GoodIn wsX4_danceStep (wsV RX4 48 RX4 yX4_draw wsX4_draw) := goodIn_app (goodIn_sub (List.forall_mem_cons.mpr ⟨wrr_wsX4_danceStep_wsX4_danceStep_r1 (i := 17) rfl, (List.forall_mem_cons.mpr ⟨wrr_wsX4_danceStep_wsX4_danceStep_r1 (i := 18) rfl, (List.forall_mem_cons.mpr ⟨wrr_wsX4_danceStep_wsX4_danceStep_r1 (i := 19) rfl, (List.forall_mem_cons.mpr ⟨wrr_wsX4_danceStep_wsX4_danceStep_r1 (i := 20) rfl, (fun _ h => absurd h List.not_mem_nil)⟩)⟩)⟩)⟩) (by decide +kernel)) ggX4_danceStep_X4_draw
theorem dX4_danceStep_0 : decode cX4_danceStep 0 = .ok (.aload_n 1, 1) := by decide +kernel
theorem dX4_danceStep_1 : decode cX4_danceStep 1 = .ok (.iload_n 2, 1) := by decide +kernel
theorem dX4_danceStep_2 : decode cX4_danceStep 2 = .ok (.aload_n 0, 1) := by decide +kernel
theorem dX4_danceStep_3 : decode cX4_danceStep 3 = .ok (.getfield 15, 3) := by decide +kernel
theorem dX4_danceStep_6 : decode cX4_danceStep 6 = .ok (.iload_n 2, 1) := by decide +kernel
theorem dX4_danceStep_7 : decode cX4_danceStep 7 = .ok (.iaload, 1) := by decide +kernel
theorem dX4_danceStep_8 : decode cX4_danceStep 8 = .ok (.invokevirtual 62, 3) := by decide +kernel
theorem dX4_danceStep_11 : decode cX4_danceStep 11 = .ok (.istore_n 3, 1) := by decide +kernel
theorem dX4_danceStep_12 : decode cX4_danceStep 12 = .ok (.aload_n 0, 1) := by decide +kernel
theorem dX4_danceStep_13 : decode cX4_danceStep 13 = .ok (.getfield 15, 3) := by decide +kernel
theorem dX4_danceStep_16 : decode cX4_danceStep 16 = .ok (.iload_n 2, 1) := by decide +kernel
theorem dX4_danceStep_17 : decode cX4_danceStep 17 = .ok (.aload_n 0, 1) := by decide +kernel
theorem dX4_danceStep_18 : decode cX4_danceStep 18 = .ok (.getfield 15, 3) := by decide +kernel
theorem dX4_danceStep_21 : decode cX4_danceStep 21 = .ok (.iload_n 2, 1) := by decide +kernel
theorem dX4_danceStep_22 : decode cX4_danceStep 22 = .ok (.iaload, 1) := by decide +kernel
theorem dX4_danceStep_23 : decode cX4_danceStep 23 = .ok (.iconst 1, 1) := by decide +kernel
theorem dX4_danceStep_24 : decode cX4_danceStep 24 = .ok (.iadd, 1) := by decide +kernel
theorem dX4_danceStep_25 : decode cX4_danceStep 25 = .ok (.aload_n 1, 1) := by decide +kernel
theorem dX4_danceStep_26 : decode cX4_danceStep 26 = .ok (.getfield 55, 3) := by decide +kernel
theorem dX4_danceStep_29 : decode cX4_danceStep 29 = .ok (.iload_n 2, 1) := by decide +kernel
theorem dX4_danceStep_30 : decode cX4_danceStep 30 = .ok (.iaload, 1) := by decide +kernel
theorem dX4_danceStep_31 : decode cX4_danceStep 31 = .ok (.invokestatic 66, 3) := by decide +kernel
theorem dX4_danceStep_34 : decode cX4_danceStep 34 = .ok (.iastore, 1) := by decide +kernel
theorem dX4_danceStep_35 : decode cX4_danceStep 35 = .ok (.aload_n 0, 1) := by decide +kernel
theorem dX4_danceStep_36 : decode cX4_danceStep 36 = .ok (.invokevirtual 48, 3) := by decide +kernel
theorem dX4_danceStep_39 : decode cX4_danceStep 39 = .ok (.aload_n 1, 1) := by decide +kernel
theorem dX4_danceStep_40 : decode cX4_danceStep 40 = .ok (.getfield 69, 3) := by decide +kernel
theorem dX4_danceStep_43 : decode cX4_danceStep 43 = .ok (.if_icmp .ge 20, 3) := by decide +kernel
theorem dX4_danceStep_46 : decode cX4_danceStep 46 = .ok (.aload_n 0, 1) := by decide +kernel
theorem dX4_danceStep_47 : decode cX4_danceStep 47 = .ok (.dup, 1) := by decide +kernel
theorem dX4_danceStep_48 : decode cX4_danceStep 48 = .ok (.getfield 32, 3) := by decide +kernel
theorem dX4_danceStep_51 : decode cX4_danceStep 51 = .ok (.iconst 1, 1) := by decide +kernel
theorem dX4_danceStep_52 : decode cX4_danceStep 52 = .ok (.iadd, 1) := by decide +kernel
theorem dX4_danceStep_53 : decode cX4_danceStep 53 = .ok (.putfield 32, 3) := by decide +kernel
theorem dX4_danceStep_56 : decode cX4_danceStep 56 = .ok (.iload_n 3, 1) := by decide +kernel
theorem dX4_danceStep_57 : decode cX4_danceStep 57 = .ok (.iconst 1, 1) := by decide +kernel
theorem dX4_danceStep_58 : decode cX4_danceStep 58 = .ok (.iadd, 1) := by decide +kernel
theorem dX4_danceStep_59 : decode cX4_danceStep 59 = .ok (.bipush 6, 2) := by decide +kernel
theorem dX4_danceStep_61 : decode cX4_danceStep 61 = .ok (.irem, 1) := by decide +kernel
theorem dX4_danceStep_62 : decode cX4_danceStep 62 = .ok (.istore_n 3, 1) := by decide +kernel
theorem dX4_danceStep_63 : decode cX4_danceStep 63 = .ok (.iload_n 3, 1) := by decide +kernel
theorem dX4_danceStep_64 : decode cX4_danceStep 64 = .ok (.ireturn, 1) := by decide +kernel
theorem wrr_wsX4_lookForHole {i : Nat} {w : Cond} (h : wsX4_lookForHole[i]? = some w) : w ∈ wsX4_lookForHole := List.mem_of_getElem? h
theorem wru_wsX4_lookForHole_wsX00 : ∀ w ∈ wsX00, w ∈ wsX4_lookForHole := fun w h => (List.mem_cons_of_mem _ (List.mem_append_left _ (List.mem_append_right _ h)))
theorem wru_wsX4_lookForHole_wsX40 : ∀ w ∈ wsX40, w ∈ wsX4_lookForHole := fun w h => (List.mem_cons_of_mem _ (List.mem_append_right _ h))
set_option maxRecDepth 20000 in
theorem ggX4_lookForHole_X0_isHole : GoodIn wsX4_lookForHole wsX0_isHole := goodIn_sub (List.forall_mem_cons.mpr ⟨wrr_wsX4_lookForHole (i := 9) rfl, (List.forall_mem_append.mpr ⟨(List.forall_mem_cons.mpr ⟨wrr_wsX4_lookForHole (i := 10) rfl, (List.forall_mem_cons.mpr ⟨wrr_wsX4_lookForHole (i := 11) rfl, (List.forall_mem_cons.mpr ⟨wrr_wsX4_lookForHole (i := 12) rfl, (List.forall_mem_cons.mpr ⟨wrr_wsX4_lookForHole (i := 8) rfl, (List.forall_mem_cons.mpr ⟨wrr_wsX4_lookForHole (i := 13) rfl, (List.forall_mem_cons.mpr ⟨wrr_wsX4_lookForHole (i := 14) rfl, (fun _ h => absurd h List.not_mem_nil)⟩)⟩)⟩)⟩)⟩)⟩), wru_wsX4_lookForHole_wsX00⟩)⟩) gw_wsX0_isHole
set_option maxRecDepth 20000 in
theorem gX4_lookForHole_X0_isHole : GoodIn wsX4_lookForHole (wsV RX4 75 RX0 yX0_isHole wsX0_isHole) := goodIn_app (goodIn_sub (List.forall_mem_cons.mpr ⟨wrr_wsX4_lookForHole (i := 5) rfl, (List.forall_mem_cons.mpr ⟨wrr_wsX4_lookForHole (i := 6) rfl, (List.forall_mem_cons.mpr ⟨wrr_wsX4_lookForHole (i := 7) rfl, (List.forall_mem_cons.mpr ⟨wrr_wsX4_lookForHole (i := 8) rfl, (fun _ h => absurd h List.not_mem_nil)⟩)⟩)⟩)⟩) (by decide +kernel)) ggX4_lookForHole_X0_isHole
theorem dX4_lookForHole_0 : decode cX4_lookForHole 0 = .ok (.iload_n 3, 1) := by decide +kernel
theorem dX4_lookForHole_1 : decode cX4_lookForHole 1 = .ok (.aload_n 1, 1) := by decide +kernel
theorem dX4_lookForHole_2 : decode cX4_lookForHole 2 = .ok (.getfield 72, 3) := by decide +kernel
theorem dX4_lookForHole_5 : decode cX4_lookForHole 5 = .ok (.isub, 1) := by decide +kernel
theorem dX4_lookForHole_6 : decode cX4_lookForHole 6 = .ok (.istore 4, 2) := by decide +kernel
theorem dX4_lookForHole_8 : decode cX4_lookForHole 8 = .ok (.iload 4, 2) := by decide +kernel
theorem dX4_lookForHole_10 : decode cX4_lookForHole 10 = .ok (.ifCond .ge 4, 3) := by decide +kernel
theorem dX4_lookForHole_13 : decode cX4_lookForHole 13 = .ok (.return_, 1) := by decide +kernel
theorem dX4_lookForHole_14 : decode cX4_lookForHole 14 = .ok (.aload_n 0, 1) := by decide +kernel
theorem dX4_lookForHole_15 : decode cX4_lookForHole 15 = .ok (.getfield 9, 3) := by decide +kernel
theorem dX4_lookForHole_18 : decode cX4_lookForHole 18 = .ok (.iconst 1, 1) := by decide +kernel
theorem dX4_lookForHole_19 : decode cX4_lookForHole 19 = .ok (.iload_n 2, 1) := by decide +kernel
theorem dX4_lookForHole_20 : decode cX4_lookForHole 20 = .ok (.isub, 1) := by decide +kernel
theorem dX4_lookForHole_21 : decode cX4_lookForHole 21 = .ok (.bipush 100, 2) := by decide +kernel
theorem dX4_lookForHole_23 : decode cX4_lookForHole 23 = .ok (.imul, 1) := by decide +kernel
theorem dX4_lookForHole_24 : decode cX4_lookForHole 24 = .ok (.iload 4, 2) := by decide +kernel
theorem dX4_lookForHole_26 : decode cX4_lookForHole 26 = .ok (.iadd, 1) := by decide +kernel
theorem dX4_lookForHole_27 : decode cX4_lookForHole 27 = .ok (.iaload, 1) := by decide +kernel
theorem dX4_lookForHole_28 : decode cX4_lookForHole 28 = .ok (.istore 5, 2) := by decide +kernel
theorem dX4_lookForHole_30 : decode cX4_lookForHole 30 = .ok (.aload_n 1, 1) := by decide +kernel
theorem dX4_lookForHole_31 : decode cX4_lookForHole 31 = .ok (.aload_n 0, 1) := by decide +kernel
theorem dX4_lookForHole_32 : decode cX4_lookForHole 32 = .ok (.getfield 9, 3) := by decide +kernel
theorem dX4_lookForHole_35 : decode cX4_lookForHole 35 = .ok (.iload_n 2, 1) := by decide +kernel
theorem dX4_lookForHole_36 : decode cX4_lookForHole 36 = .ok (.bipush 100, 2) := by decide +kernel
theorem dX4_lookForHole_38 : decode cX4_lookForHole 38 = .ok (.imul, 1) := by decide +kernel
theorem dX4_lookForHole_39 : decode cX4_lookForHole 39 = .ok (.iload_n 3, 1) := by decide +kernel
theorem dX4_lookForHole_40 : decode cX4_lookForHole 40 = .ok (.iadd, 1) := by decide +kernel
theorem dX4_lookForHole_41 : decode cX4_lookForHole 41 = .ok (.iaload, 1) := by decide +kernel
theorem dX4_lookForHole_42 : decode cX4_lookForHole 42 = .ok (.iload 5, 2) := by decide +kernel
theorem dX4_lookForHole_44 : decode cX4_lookForHole 44 = .ok (.invokevirtual 75, 3) := by decide +kernel
theorem dX4_lookForHole_47 : decode cX4_lookForHole 47 = .ok (.ifCond .eq 33, 3) := by decide +kernel
theorem dX4_lookForHole_50 : decode cX4_lookForHole 50 = .ok (.aload_n 0, 1) := by decide +kernel
theorem dX4_lookForHole_51 : decode cX4_lookForHole 51 = .ok (.dup, 1) := by decide +kernel
theorem dX4_lookForHole_52 : decode cX4_lookForHole 52 = .ok (.getfield 22, 3) := by decide +kernel
theorem dX4_lookForHole_55 : decode cX4_lookForHole 55 = .ok (.iconst 1, 1) := by decide +kernel
theorem dX4_lookForHole_56 : decode cX4_lookForHole 56 = .ok (.iadd, 1) := by decide +kernel
theorem dX4_lookForHole_57 : decode cX4_lookForHole 57 = .ok (.putfield 22, 3) := by decide +kernel
theorem dX4_lookForHole_60 : decode cX4_lookForHole 60 = .ok (.aload_n 0, 1) := by decide +kernel
theorem dX4_lookForHole_61 : decode cX4_lookForHole 61 = .ok (.aload_n 0, 1) := by decide +kernel
theorem dX4_lookForHole_62 : decode cX4_lookForHole 62 = .ok (.getfield 26, 3) := by decide +kernel
theorem dX4_lookForHole_65 : decode cX4_lookForHole 65 = .ok (.iconst (-1), 1) := by decide +kernel
theorem dX4_lookForHole_66 : decode cX4_lookForHole 66 = .ok (.if_icmp .ne 7, 3) := by decide +kernel
theorem dX4_lookForHole_69 : decode cX4_lookForHole 69 = .ok (.iload_n 3, 1) := by decide +kernel
theorem dX4_lookForHole_70 : decode cX4_lookForHole 70 = .ok (.goto 7, 3) := by decide +kernel
theorem dX4_lookForHole_73 : decode cX4_lookForHole 73 = .ok (.aload_n 0, 1) := by decide +kernel
theorem dX4_lookForHole_74 : decode cX4_lookForHole 74 = .ok (.getfield 26, 3) := by decide +kernel
theorem dX4_lookForHole_77 : decode cX4_lookForHole 77 = .ok (.putfield 26, 3) := by decide +kernel
theorem dX4_lookForHole_80 : decode cX4_lookForHole 80 = .ok (.return_, 1) := by decide +kernel
theorem dX4_draw_0 : decode cX4_draw 0 = .ok (.aload_n 0, 1) := by decide +kernel
theorem dX4_draw_1 : decode cX4_draw 1 = .ok (.ldc2_w 79, 3) := by decide +kernel
theorem dX4_draw_4 : decode cX4_draw 4 = .ok (.aload_n 0, 1) := by decide +kernel
theorem dX4_draw_5 : decode cX4_draw 5 = .ok (.getfield 18, 3) := by decide +kernel
theorem dX4_draw_8 : decode cX4_draw 8 = .ok (.lmul, 1) := by decide +kernel
theorem dX4_draw_9 : decode cX4_draw 9 = .ok (.ldc2_w 81, 3) := by decide +kernel
theorem dX4_draw_12 : decode cX4_draw 12 = .ok (.ladd, 1) := by decide +kernel
theorem dX4_draw_13 : decode cX4_draw 13 = .ok (.ldc2_w 83, 3) := by decide +kernel
theorem dX4_draw_16 : decode cX4_draw 16 = .ok (.lrem, 1) := by decide +kernel
theorem dX4_draw_17 : decode cX4_draw 17 = .ok (.putfield 18, 3) := by decide +kernel
theorem dX4_draw_20 : decode cX4_draw 20 = .ok (.aload_n 0, 1) := by decide +kernel
theorem dX4_draw_21 : decode cX4_draw 21 = .ok (.getfield 18, 3) := by decide +kernel
theorem dX4_draw_24 : decode cX4_draw 24 = .ok (.ldc2_w 85, 3) := by decide +kernel
theorem dX4_draw_27 : decode cX4_draw 27 = .ok (.ldiv, 1) := by decide +kernel
theorem dX4_draw_28 : decode cX4_draw 28 = .ok (.ldc2_w 87, 3) := by decide +kernel
theorem dX4_draw_31 : decode cX4_draw 31 = .ok (.lrem, 1) := by decide +kernel
theorem dX4_draw_32 : decode cX4_draw 32 = .ok (.l2i, 1) := by decide +kernel
theorem dX4_draw_33 : decode cX4_draw 33 = .ok (.ireturn, 1) := by decide +kernel
