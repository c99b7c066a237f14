abbrev cX12_winsFrom : ByteArray := prog_14_method_121_code
def yX12_winsFrom : MethodName := ⟨RX12, "winsFrom", "(II)Z"⟩
abbrev cX12_isPlay : ByteArray := prog_14_method_122_code
def yX12_isPlay : MethodName := ⟨RX12, "isPlay", "(III)Z"⟩
abbrev cX12_game : ByteArray := prog_14_method_124_code
def yX12_game : MethodName := ⟨RX12, "game", "(I)I"⟩
abbrev cX12_plays : ByteArray := prog_14_method_125_code
def yX12_plays : MethodName := ⟨RX12, "plays", "(I)I"⟩
def wsX12_isPlay : List Cond := .code yX12_isPlay cX12_isPlay 4 (some .boolean) :: ([.fieldLink RX12 40 "OverHillModel" "meets" "[I", .methodLink RX12 280 yX12_isBit, .static yX12_isBit, .initialized RX12, .code yX12_isBit cX12_isBit 2 (some .boolean)] ++ wsX120)
def wsX12_winsFrom : List Cond := .code yX12_winsFrom cX12_winsFrom 5 (some .boolean) :: ([.fieldLink RX12 77 "OverHillModel" "wins" "[I", .methodLink RX12 410 yX12_isPlay, .instanceMethod yX12_isPlay, .selects RX12 yX12_isPlay yX12_isPlay, .initialized RX12, .code yX12_isPlay cX12_isPlay 4 (some .boolean), .fieldLink RX12 40 "OverHillModel" "meets" "[I", .methodLink RX12 280 yX12_isBit, .static yX12_isBit, .code yX12_isBit cX12_isBit 2 (some .boolean), .methodLink RX12 413 yX12_winsFrom, .instanceMethod yX12_winsFrom, .selects RX12 yX12_winsFrom yX12_winsFrom] ++ wsX120)
def wsX12_game_r1 : List Cond := [Cond.fieldLink RX12 80 "OverHillModel" "thrown" "I", Cond.methodLink RX12 254 yX12_isDance, Cond.instanceMethod yX12_isDance, Cond.selects RX12 yX12_isDance yX12_isDance, Cond.initialized RX12, Cond.code yX12_isDance cX12_isDance 1 (some .boolean), Cond.fieldLink RX12 31 "OverHillModel" "lines" "[I", Cond.methodLink RX12 267 yX12_isStep, Cond.static yX12_isStep, Cond.code yX12_isStep cX12_isStep 2 (some .boolean), Cond.constantLong RX12 259 (5), Cond.methodLink RX12 85 yX12_in, Cond.static yX12_in, Cond.code yX12_in cX12_in 6 (some .boolean), Cond.methodLink RX12 416 yX12_laysGame, Cond.instanceMethod yX12_laysGame, Cond.selects RX12 yX12_laysGame yX12_laysGame, Cond.code yX12_laysGame cX12_laysGame 2 none, Cond.fieldLink RX12 77 "OverHillModel" "wins" "[I", Cond.methodLink RX12 413 yX12_winsFrom, Cond.instanceMethod yX12_winsFrom, Cond.selects RX12 yX12_winsFrom yX12_winsFrom, Cond.code yX12_winsFrom cX12_winsFrom 5 (some .boolean), Cond.methodLink RX12 410 yX12_isPlay]
def wsX12_game_r2 : List Cond := [Cond.instanceMethod yX12_isPlay, Cond.selects RX12 yX12_isPlay yX12_isPlay, Cond.code yX12_isPlay cX12_isPlay 4 (some .boolean), Cond.fieldLink RX12 40 "OverHillModel" "meets" "[I", Cond.methodLink RX12 280 yX12_isBit, Cond.static yX12_isBit, Cond.code yX12_isBit cX12_isBit 2 (some .boolean)]
def wsX12_game : List Cond := .code yX12_game cX12_game 2 (some .int) :: ((wsX12_game_r1 ++ wsX12_game_r2) ++ wsX120)
def wsX12_plays_r1 : List Cond := [Cond.fieldLink RX12 80 "OverHillModel" "thrown" "I", Cond.methodLink RX12 254 yX12_isDance, Cond.instanceMethod yX12_isDance, Cond.selects RX12 yX12_isDance yX12_isDance, Cond.initialized RX12, Cond.code yX12_isDance cX12_isDance 1 (some .boolean), Cond.fieldLink RX12 31 "OverHillModel" "lines" "[I", Cond.methodLink RX12 267 yX12_isStep, Cond.static yX12_isStep, Cond.code yX12_isStep cX12_isStep 2 (some .boolean), Cond.constantLong RX12 259 (5), Cond.methodLink RX12 85 yX12_in, Cond.static yX12_in, Cond.code yX12_in cX12_in 6 (some .boolean), Cond.methodLink RX12 416 yX12_laysGame, Cond.instanceMethod yX12_laysGame, Cond.selects RX12 yX12_laysGame yX12_laysGame, Cond.code yX12_laysGame cX12_laysGame 2 none, Cond.fieldLink RX12 77 "OverHillModel" "wins" "[I", Cond.methodLink RX12 410 yX12_isPlay, Cond.instanceMethod yX12_isPlay, Cond.selects RX12 yX12_isPlay yX12_isPlay, Cond.code yX12_isPlay cX12_isPlay 4 (some .boolean), Cond.fieldLink RX12 40 "OverHillModel" "meets" "[I"]
def wsX12_plays_r2 : List Cond := [Cond.methodLink RX12 280 yX12_isBit, Cond.static yX12_isBit, Cond.code yX12_isBit cX12_isBit 2 (some .boolean), Cond.methodLink RX12 413 yX12_winsFrom, Cond.instanceMethod yX12_winsFrom, Cond.selects RX12 yX12_winsFrom yX12_winsFrom, Cond.code yX12_winsFrom cX12_winsFrom 5 (some .boolean)]
def wsX12_plays : List Cond := .code yX12_plays cX12_plays 4 (some .int) :: ((wsX12_plays_r1 ++ wsX12_plays_r2) ++ wsX120)
theorem wrr_wsX12_winsFrom {i : Nat} {w : Cond} (h : wsX12_winsFrom[i]? = some w) : w ∈ wsX12_winsFrom := List.mem_of_getElem? h
theorem wru_wsX12_winsFrom_wsX120 : ∀ w ∈ wsX120, w ∈ wsX12_winsFrom := fun w h => (List.mem_cons_of_mem _ (List.mem_append_right _ h))
set_option maxRecDepth 20000 in
theorem gw_wsX12_isPlay : wsX12_isPlay.all goodWord = true := by decide +kernel
set_option maxRecDepth 20000 in
theorem ggX12_winsFrom_X12_isPlay : GoodIn wsX12_winsFrom wsX12_isPlay := goodIn_sub (List.forall_mem_cons.mpr ⟨wrr_wsX12_winsFrom (i := 6) rfl, (List.forall_mem_append.mpr ⟨(List.forall_mem_cons.mpr ⟨wrr_wsX12_winsFrom (i := 7) rfl, (List.forall_mem_cons.mpr ⟨wrr_wsX12_winsFrom (i := 8) rfl, (List.forall_mem_cons.mpr ⟨wrr_wsX12_winsFrom (i := 9) rfl, (List.forall_mem_cons.mpr ⟨wrr_wsX12_winsFrom (i := 5) rfl, (List.forall_mem_cons.mpr ⟨wrr_wsX12_winsFrom (i := 10) rfl, (fun _ h => absurd h List.not_mem_nil)⟩)⟩)⟩)⟩)⟩), wru_wsX12_winsFrom_wsX120⟩)⟩) gw_wsX12_isPlay
set_option maxRecDepth 20000 in
theorem gX12_winsFrom_X12_isPlay : GoodIn wsX12_winsFrom (wsV RX12 410 RX12 yX12_isPlay wsX12_isPlay) := goodIn_app (goodIn_sub (List.forall_mem_cons.mpr ⟨wrr_wsX12_winsFrom (i := 2) rfl, (List.forall_mem_cons.mpr ⟨wrr_wsX12_winsFrom (i := 3) rfl, (List.forall_mem_cons.mpr ⟨wrr_wsX12_winsFrom (i := 4) rfl, (List.forall_mem_cons.mpr ⟨wrr_wsX12_winsFrom (i := 5) rfl, (fun _ h => absurd h List.not_mem_nil)⟩)⟩)⟩)⟩) (by decide +kernel)) ggX12_winsFrom_X12_isPlay
set_option maxRecDepth 20000 in
theorem gw_wsX12_winsFrom : wsX12_winsFrom.all goodWord = true := by decide +kernel
set_option maxRecDepth 20000 in
theorem ggX12_winsFrom_X12_winsFrom : GoodIn wsX12_winsFrom wsX12_winsFrom := goodIn_sub (List.forall_mem_cons.mpr ⟨wrr_wsX12_winsFrom (i := 0) rfl, (List.forall_mem_append.mpr ⟨(List.forall_mem_cons.mpr ⟨wrr_wsX12_winsFrom (i := 1) rfl, (List.forall_mem_cons.mpr ⟨wrr_wsX12_winsFrom (i := 2) rfl, (List.forall_mem_cons.mpr ⟨wrr_wsX12_winsFrom (i := 3) rfl, (List.forall_mem_cons.mpr ⟨wrr_wsX12_winsFrom (i := 4) rfl, (List.forall_mem_cons.mpr ⟨wrr_wsX12_winsFrom (i := 5) rfl, (List.forall_mem_cons.mpr ⟨wrr_wsX12_winsFrom (i := 6) rfl, (List.forall_mem_cons.mpr ⟨wrr_wsX12_winsFrom (i := 7) rfl, (List.forall_mem_cons.mpr ⟨wrr_wsX12_winsFrom (i := 8) rfl, (List.forall_mem_cons.mpr ⟨wrr_wsX12_winsFrom (i := 9) rfl, (List.forall_mem_cons.mpr ⟨wrr_wsX12_winsFrom (i := 10) rfl, (List.forall_mem_cons.mpr ⟨wrr_wsX12_winsFrom (i := 11) rfl, (List.forall_mem_cons.mpr ⟨wrr_wsX12_winsFrom (i := 12) rfl, (List.forall_mem_cons.mpr ⟨wrr_wsX12_winsFrom (i := 13) rfl, (fun _ h => absurd h List.not_mem_nil)⟩)⟩)⟩)⟩)⟩)⟩)⟩)⟩)⟩)⟩)⟩)⟩)⟩), wru_wsX12_winsFrom_wsX120⟩)⟩) gw_wsX12_winsFrom
set_option maxRecDepth 20000 in
theorem gX12_winsFrom_X12_winsFrom : GoodIn wsX12_winsFrom (wsV RX12 413 RX12 yX12_winsFrom wsX12_winsFrom) := goodIn_app (goodIn_sub (List.forall_mem_cons.mpr ⟨wrr_wsX12_winsFrom (i := 11) rfl, (List.forall_mem_cons.mpr ⟨wrr_wsX12_winsFrom (i := 12) rfl, (List.forall_mem_cons.mpr ⟨wrr_wsX12_winsFrom (i := 13) rfl, (List.forall_mem_cons.mpr ⟨wrr_wsX12_winsFrom (i := 5) rfl, (fun _ h => absurd h List.not_mem_nil)⟩)⟩)⟩)⟩) (by decide +kernel)) ggX12_winsFrom_X12_winsFrom
theorem dX12_winsFrom_0 : decode cX12_winsFrom 0 = .ok (.bipush 6, 2) := by decide +kernel
theorem dX12_winsFrom_2 : decode cX12_winsFrom 2 = .ok (.iload_n 1, 1) := by decide +kernel
theorem dX12_winsFrom_3 : decode cX12_winsFrom 3 = .ok (.imul, 1) := by decide +kernel
theorem dX12_winsFrom_4 : decode cX12_winsFrom 4 = .ok (.iload_n 2, 1) := by decide +kernel
theorem dX12_winsFrom_5 : decode cX12_winsFrom 5 = .ok (.iadd, 1) := by decide +kernel
theorem dX12_winsFrom_6 : decode cX12_winsFrom 6 = .ok (.istore_n 3, 1) := by decide +kernel
theorem dX12_winsFrom_7 : decode cX12_winsFrom 7 = .ok (.aload_n 0, 1) := by decide +kernel
theorem dX12_winsFrom_8 : decode cX12_winsFrom 8 = .ok (.getfield 77, 3) := by decide +kernel
theorem dX12_winsFrom_11 : decode cX12_winsFrom 11 = .ok (.iload_n 3, 1) := by decide +kernel
theorem dX12_winsFrom_12 : decode cX12_winsFrom 12 = .ok (.iaload, 1) := by decide +kernel
theorem dX12_winsFrom_13 : decode cX12_winsFrom 13 = .ok (.ifCond .ne 71, 3) := by decide +kernel
theorem dX12_winsFrom_16 : decode cX12_winsFrom 16 = .ok (.aload_n 0, 1) := by decide +kernel
theorem dX12_winsFrom_17 : decode cX12_winsFrom 17 = .ok (.getfield 77, 3) := by decide +kernel
theorem dX12_winsFrom_20 : decode cX12_winsFrom 20 = .ok (.iload_n 3, 1) := by decide +kernel
theorem dX12_winsFrom_21 : decode cX12_winsFrom 21 = .ok (.iconst 2, 1) := by decide +kernel
theorem dX12_winsFrom_22 : decode cX12_winsFrom 22 = .ok (.iastore, 1) := by decide +kernel
theorem dX12_winsFrom_23 : decode cX12_winsFrom 23 = .ok (.iconst 0, 1) := by decide +kernel
theorem dX12_winsFrom_24 : decode cX12_winsFrom 24 = .ok (.istore 4, 2) := by decide +kernel
theorem dX12_winsFrom_26 : decode cX12_winsFrom 26 = .ok (.iload 4, 2) := by decide +kernel
theorem dX12_winsFrom_28 : decode cX12_winsFrom 28 = .ok (.bipush 6, 2) := by decide +kernel
theorem dX12_winsFrom_30 : decode cX12_winsFrom 30 = .ok (.if_icmp .ge 54, 3) := by decide +kernel
theorem dX12_winsFrom_33 : decode cX12_winsFrom 33 = .ok (.aload_n 0, 1) := by decide +kernel
theorem dX12_winsFrom_34 : decode cX12_winsFrom 34 = .ok (.getfield 77, 3) := by decide +kernel
theorem dX12_winsFrom_37 : decode cX12_winsFrom 37 = .ok (.iload_n 3, 1) := by decide +kernel
theorem dX12_winsFrom_38 : decode cX12_winsFrom 38 = .ok (.iaload, 1) := by decide +kernel
theorem dX12_winsFrom_39 : decode cX12_winsFrom 39 = .ok (.iconst 2, 1) := by decide +kernel
theorem dX12_winsFrom_40 : decode cX12_winsFrom 40 = .ok (.if_icmp .ne 44, 3) := by decide +kernel
theorem dX12_winsFrom_43 : decode cX12_winsFrom 43 = .ok (.aload_n 0, 1) := by decide +kernel
theorem dX12_winsFrom_44 : decode cX12_winsFrom 44 = .ok (.iload_n 1, 1) := by decide +kernel
theorem dX12_winsFrom_45 : decode cX12_winsFrom 45 = .ok (.iload_n 2, 1) := by decide +kernel
theorem dX12_winsFrom_46 : decode cX12_winsFrom 46 = .ok (.iload 4, 2) := by decide +kernel
theorem dX12_winsFrom_48 : decode cX12_winsFrom 48 = .ok (.invokevirtual 410, 3) := by decide +kernel
theorem dX12_winsFrom_51 : decode cX12_winsFrom 51 = .ok (.ifCond .eq 27, 3) := by decide +kernel
theorem dX12_winsFrom_54 : decode cX12_winsFrom 54 = .ok (.aload_n 0, 1) := by decide +kernel
theorem dX12_winsFrom_55 : decode cX12_winsFrom 55 = .ok (.iload_n 1, 1) := by decide +kernel
theorem dX12_winsFrom_56 : decode cX12_winsFrom 56 = .ok (.iconst 1, 1) := by decide +kernel
theorem dX12_winsFrom_57 : decode cX12_winsFrom 57 = .ok (.iconst 2, 1) := by decide +kernel
theorem dX12_winsFrom_58 : decode cX12_winsFrom 58 = .ok (.iload 4, 2) := by decide +kernel
theorem dX12_winsFrom_60 : decode cX12_winsFrom 60 = .ok (.imul, 1) := by decide +kernel
theorem dX12_winsFrom_61 : decode cX12_winsFrom 61 = .ok (.ishl, 1) := by decide +kernel
theorem dX12_winsFrom_62 : decode cX12_winsFrom 62 = .ok (.iadd, 1) := by decide +kernel
theorem dX12_winsFrom_63 : decode cX12_winsFrom 63 = .ok (.iload 4, 2) := by decide +kernel
theorem dX12_winsFrom_65 : decode cX12_winsFrom 65 = .ok (.invokevirtual 413, 3) := by decide +kernel
theorem dX12_winsFrom_68 : decode cX12_winsFrom 68 = .ok (.ifCond .ne 10, 3) := by decide +kernel
theorem dX12_winsFrom_71 : decode cX12_winsFrom 71 = .ok (.aload_n 0, 1) := by decide +kernel
theorem dX12_winsFrom_72 : decode cX12_winsFrom 72 = .ok (.getfield 77, 3) := by decide +kernel
theorem dX12_winsFrom_75 : decode cX12_winsFrom 75 = .ok (.iload_n 3, 1) := by decide +kernel
theorem dX12_winsFrom_76 : decode cX12_winsFrom 76 = .ok (.iconst 1, 1) := by decide +kernel
theorem dX12_winsFrom_77 : decode cX12_winsFrom 77 = .ok (.iastore, 1) := by decide +kernel
theorem dX12_winsFrom_78 : decode cX12_winsFrom 78 = .ok (.iinc 4 1, 3) := by decide +kernel
theorem dX12_winsFrom_81 : decode cX12_winsFrom 81 = .ok (.goto (-55), 3) := by decide +kernel
theorem dX12_winsFrom_84 : decode cX12_winsFrom 84 = .ok (.aload_n 0, 1) := by decide +kernel
theorem dX12_winsFrom_85 : decode cX12_winsFrom 85 = .ok (.getfield 77, 3) := by decide +kernel
theorem dX12_winsFrom_88 : decode cX12_winsFrom 88 = .ok (.iload_n 3, 1) := by decide +kernel
theorem dX12_winsFrom_89 : decode cX12_winsFrom 89 = .ok (.iaload, 1) := by decide +kernel
theorem dX12_winsFrom_90 : decode cX12_winsFrom 90 = .ok (.iconst 1, 1) := by decide +kernel
theorem dX12_winsFrom_91 : decode cX12_winsFrom 91 = .ok (.if_icmp .ne 7, 3) := by decide +kernel
theorem dX12_winsFrom_94 : decode cX12_winsFrom 94 = .ok (.iconst 1, 1) := by decide +kernel
theorem dX12_winsFrom_95 : decode cX12_winsFrom 95 = .ok (.goto 4, 3) := by decide +kernel
theorem dX12_winsFrom_98 : decode cX12_winsFrom 98 = .ok (.iconst 0, 1) := by decide +kernel
theorem dX12_winsFrom_99 : decode cX12_winsFrom 99 = .ok (.ireturn, 1) := by decide +kernel
theorem wrr_wsX12_isPlay {i : Nat} {w : Cond} (h : wsX12_isPlay[i]? = some w) : w ∈ wsX12_isPlay := List.mem_of_getElem? h
theorem wru_wsX12_isPlay_wsX120 : ∀ w ∈ wsX120, w ∈ wsX12_isPlay := fun w h => (List.mem_cons_of_mem _ (List.mem_append_right _ h))
set_option maxRecDepth 20000 in
theorem ggX12_isPlay_X12_isBit : GoodIn wsX12_isPlay wsX12_isBit := goodIn_sub (List.forall_mem_cons.mpr ⟨wrr_wsX12_isPlay (i := 5) rfl, (fun _ h => absurd h List.not_mem_nil)⟩) gw_wsX12_isBit
set_option maxRecDepth 20000 in
theorem gX12_isPlay_X12_isBit : GoodIn wsX12_isPlay (va_wsS RX12 280 yX12_isBit wsX12_isBit) := goodIn_app (goodIn_sub (List.forall_mem_cons.mpr ⟨wrr_wsX12_isPlay (i := 2) rfl, (List.forall_mem_cons.mpr ⟨wrr_wsX12_isPlay (i := 3) rfl, (List.forall_mem_cons.mpr ⟨wrr_wsX12_isPlay (i := 4) rfl, (fun _ h => absurd h List.not_mem_nil)⟩)⟩)⟩) (by decide +kernel)) ggX12_isPlay_X12_isBit
theorem dX12_isPlay_0 : decode cX12_isPlay 0 = .ok (.aload_n 0, 1) := by decide +kernel
theorem dX12_isPlay_1 : decode cX12_isPlay 1 = .ok (.getfield 40, 3) := by decide +kernel
theorem dX12_isPlay_4 : decode cX12_isPlay 4 = .ok (.iload_n 2, 1) := by decide +kernel
theorem dX12_isPlay_5 : decode cX12_isPlay 5 = .ok (.iaload, 1) := by decide +kernel
theorem dX12_isPlay_6 : decode cX12_isPlay 6 = .ok (.iload_n 3, 1) := by decide +kernel
theorem dX12_isPlay_7 : decode cX12_isPlay 7 = .ok (.invokestatic 280, 3) := by decide +kernel
theorem dX12_isPlay_10 : decode cX12_isPlay 10 = .ok (.ifCond .eq 18, 3) := by decide +kernel
theorem dX12_isPlay_13 : decode cX12_isPlay 13 = .ok (.iload_n 1, 1) := by decide +kernel
theorem dX12_isPlay_14 : decode cX12_isPlay 14 = .ok (.iconst 2, 1) := by decide +kernel
theorem dX12_isPlay_15 : decode cX12_isPlay 15 = .ok (.iload_n 3, 1) := by decide +kernel
theorem dX12_isPlay_16 : decode cX12_isPlay 16 = .ok (.imul, 1) := by decide +kernel
theorem dX12_isPlay_17 : decode cX12_isPlay 17 = .ok (.ishr, 1) := by decide +kernel
theorem dX12_isPlay_18 : decode cX12_isPlay 18 = .ok (.iconst 3, 1) := by decide +kernel
theorem dX12_isPlay_19 : decode cX12_isPlay 19 = .ok (.iand, 1) := by decide +kernel
theorem dX12_isPlay_20 : decode cX12_isPlay 20 = .ok (.iconst 2, 1) := by decide +kernel
theorem dX12_isPlay_21 : decode cX12_isPlay 21 = .ok (.if_icmp .ge 7, 3) := by decide +kernel
theorem dX12_isPlay_24 : decode cX12_isPlay 24 = .ok (.iconst 1, 1) := by decide +kernel
theorem dX12_isPlay_25 : decode cX12_isPlay 25 = .ok (.goto 4, 3) := by decide +kernel
theorem dX12_isPlay_28 : decode cX12_isPlay 28 = .ok (.iconst 0, 1) := by decide +kernel
theorem dX12_isPlay_29 : decode cX12_isPlay 29 = .ok (.ireturn, 1) := by decide +kernel
theorem wrr_wsX12_game {i : Nat} {w : Cond} (h : wsX12_game[i]? = some w) : w ∈ wsX12_game := List.mem_of_getElem? h
theorem wrr_wsX12_game_wsX12_game_r1 {i : Nat} {w : Cond} (h : wsX12_game_r1[i]? = some w) : w ∈ wsX12_game := (List.mem_cons_of_mem _ (List.mem_append_left _ (List.mem_append_left _ (List.mem_of_getElem? h))))
theorem wrr_wsX12_game_wsX12_game_r2 {i : Nat} {w : Cond} (h : wsX12_game_r2[i]? = some w) : w ∈ wsX12_game := (List.mem_cons_of_mem _ (List.mem_append_left _ (List.mem_append_right _ (List.mem_of_getElem? h))))
theorem wru_wsX12_game_wsX120 : ∀ w ∈ wsX120, w ∈ wsX12_game := fun w h => (List.mem_cons_of_mem _ (List.mem_append_right _ h))
set_option maxRecDepth 20000 in
theorem ggX12_game_X12_isDance : GoodIn wsX12_game wsX12_isDance := goodIn_sub (List.forall_mem_cons.mpr ⟨wrr_wsX12_game_wsX12_game_r1 (i := 5) rfl, (List.forall_mem_append.mpr ⟨(List.forall_mem_cons.mpr ⟨wrr_wsX12_game_wsX12_game_r1 (i := 6) rfl, (fun _ h => absurd h List.not_mem_nil)⟩), wru_wsX12_game_wsX120⟩)⟩) gw_wsX12_isDance
set_option maxRecDepth 20000 in
theorem gX12_game_X12_isDance : GoodIn wsX12_game (wsV RX12 254 RX12 yX12_isDance wsX12_isDance) := goodIn_app (goodIn_sub (List.forall_mem_cons.mpr ⟨wrr_wsX12_game_wsX12_game_r1 (i := 1) rfl, (List.forall_mem_cons.mpr ⟨wrr_wsX12_game_wsX12_game_r1 (i := 2) rfl, (List.forall_mem_cons.mpr ⟨wrr_wsX12_game_wsX12_game_r1 (i := 3) rfl, (List.forall_mem_cons.mpr ⟨wrr_wsX12_game_wsX12_game_r1 (i := 4) rfl, (fun _ h => absurd h List.not_mem_nil)⟩)⟩)⟩)⟩) (by decide +kernel)) ggX12_game_X12_isDance
set_option maxRecDepth 20000 in
theorem ggX12_game_X12_isStep : GoodIn wsX12_game wsX12_isStep := goodIn_sub (List.forall_mem_cons.mpr ⟨wrr_wsX12_game_wsX12_game_r1 (i := 9) rfl, (List.forall_mem_cons.mpr ⟨wrr_wsX12_game_wsX12_game_r1 (i := 10) rfl, (List.forall_mem_cons.mpr ⟨wrr_wsX12_game_wsX12_game_r1 (i := 11) rfl, (List.forall_mem_cons.mpr ⟨wrr_wsX12_game_wsX12_game_r1 (i := 12) rfl, (List.forall_mem_cons.mpr ⟨wrr_wsX12_game_wsX12_game_r1 (i := 4) rfl, (List.forall_mem_cons.mpr ⟨wrr_wsX12_game_wsX12_game_r1 (i := 13) rfl, (fun _ h => absurd h List.not_mem_nil)⟩)⟩)⟩)⟩)⟩)⟩) gw_wsX12_isStep
set_option maxRecDepth 20000 in
theorem gX12_game_X12_isStep : GoodIn wsX12_game (va_wsS RX12 267 yX12_isStep wsX12_isStep) := goodIn_app (goodIn_sub (List.forall_mem_cons.mpr ⟨wrr_wsX12_game_wsX12_game_r1 (i := 7) rfl, (List.forall_mem_cons.mpr ⟨wrr_wsX12_game_wsX12_game_r1 (i := 8) rfl, (List.forall_mem_cons.mpr ⟨wrr_wsX12_game_wsX12_game_r1 (i := 4) rfl, (fun _ h => absurd h List.not_mem_nil)⟩)⟩)⟩) (by decide +kernel)) ggX12_game_X12_isStep
set_option maxRecDepth 20000 in
theorem gw_wsX12_laysGame : wsX12_laysGame.all goodWord = true := by decide +kernel
set_option maxRecDepth 20000 in
theorem ggX12_game_X12_laysGame : GoodIn wsX12_game wsX12_laysGame := goodIn_sub (List.forall_mem_cons.mpr ⟨wrr_wsX12_game_wsX12_game_r1 (i := 17) rfl, (List.forall_mem_append.mpr ⟨(List.forall_mem_cons.mpr ⟨wrr_wsX12_game_wsX12_game_r1 (i := 18) rfl, (fun _ h => absurd h List.not_mem_nil)⟩), wru_wsX12_game_wsX120⟩)⟩) gw_wsX12_laysGame
set_option maxRecDepth 20000 in
theorem gX12_game_X12_laysGame : GoodIn wsX12_game (wsV RX12 416 RX12 yX12_laysGame wsX12_laysGame) := goodIn_app (goodIn_sub (List.forall_mem_cons.mpr ⟨wrr_wsX12_game_wsX12_game_r1 (i := 14) rfl, (List.forall_mem_cons.mpr ⟨wrr_wsX12_game_wsX12_game_r1 (i := 15) rfl, (List.forall_mem_cons.mpr ⟨wrr_wsX12_game_wsX12_game_r1 (i := 16) rfl, (List.forall_mem_cons.mpr ⟨wrr_wsX12_game_wsX12_game_r1 (i := 4) rfl, (fun _ h => absurd h List.not_mem_nil)⟩)⟩)⟩)⟩) (by decide +kernel)) ggX12_game_X12_laysGame
set_option maxRecDepth 20000 in
theorem ggX12_game_X12_winsFrom : GoodIn wsX12_game wsX12_winsFrom := goodIn_sub (List.forall_mem_cons.mpr ⟨wrr_wsX12_game_wsX12_game_r1 (i := 22) rfl, (List.forall_mem_append.mpr ⟨(List.forall_mem_cons.mpr ⟨wrr_wsX12_game_wsX12_game_r1 (i := 18) rfl, (List.forall_mem_cons.mpr ⟨wrr_wsX12_game_wsX12_game_r1 (i := 23) rfl, (List.forall_mem_cons.mpr ⟨wrr_wsX12_game_wsX12_game_r2 (i := 0) rfl, (List.forall_mem_cons.mpr ⟨wrr_wsX12_game_wsX12_game_r2 (i := 1) rfl, (List.forall_mem_cons.mpr ⟨wrr_wsX12_game_wsX12_game_r1 (i := 4) rfl, (List.forall_mem_cons.mpr ⟨wrr_wsX12_game_wsX12_game_r2 (i := 2) rfl, (List.forall_mem_cons.mpr ⟨wrr_wsX12_game_wsX12_game_r2 (i := 3) rfl, (List.forall_mem_cons.mpr ⟨wrr_wsX12_game_wsX12_game_r2 (i := 4) rfl, (List.forall_mem_cons.mpr ⟨wrr_wsX12_game_wsX12_game_r2 (i := 5) rfl, (List.forall_mem_cons.mpr ⟨wrr_wsX12_game_wsX12_game_r2 (i := 6) rfl, (List.forall_mem_cons.mpr ⟨wrr_wsX12_game_wsX12_game_r1 (i := 19) rfl, (List.forall_mem_cons.mpr ⟨wrr_wsX12_game_wsX12_game_r1 (i := 20) rfl, (List.forall_mem_cons.mpr ⟨wrr_wsX12_game_wsX12_game_r1 (i := 21) rfl, (fun _ h => absurd h List.not_mem_nil)⟩)⟩)⟩)⟩)⟩)⟩)⟩)⟩)⟩)⟩)⟩)⟩)⟩), wru_wsX12_game_wsX120⟩)⟩) gw_wsX12_winsFrom
set_option maxRecDepth 20000 in
theorem gX12_game_X12_winsFrom : GoodIn wsX12_game (wsV RX12 413 RX12 yX12_winsFrom wsX12_winsFrom) := goodIn_app (goodIn_sub (List.forall_mem_cons.mpr ⟨wrr_wsX12_game_wsX12_game_r1 (i := 19) rfl, (List.forall_mem_cons.mpr ⟨wrr_wsX12_game_wsX12_game_r1 (i := 20) rfl, (List.forall_mem_cons.mpr ⟨wrr_wsX12_game_wsX12_game_r1 (i := 21) rfl, (List.forall_mem_cons.mpr ⟨wrr_wsX12_game_wsX12_game_r1 (i := 4) rfl, (fun _ h => absurd h List.not_mem_nil)⟩)⟩)⟩)⟩) (by decide +kernel)) ggX12_game_X12_winsFrom
theorem dX12_game_0 : decode cX12_game 0 = .ok (.aload_n 0, 1) := by decide +kernel
theorem dX12_game_1 : decode cX12_game 1 = .ok (.iconst 0, 1) := by decide +kernel
theorem dX12_game_2 : decode cX12_game 2 = .ok (.putfield 80, 3) := by decide +kernel
theorem dX12_game_5 : decode cX12_game 5 = .ok (.aload_n 0, 1) := by decide +kernel
theorem dX12_game_6 : decode cX12_game 6 = .ok (.invokevirtual 254, 3) := by decide +kernel
theorem dX12_game_9 : decode cX12_game 9 = .ok (.ifCond .eq 11, 3) := by decide +kernel
theorem dX12_game_12 : decode cX12_game 12 = .ok (.iload_n 1, 1) := by decide +kernel
theorem dX12_game_13 : decode cX12_game 13 = .ok (.i2l, 1) := by decide +kernel
theorem dX12_game_14 : decode cX12_game 14 = .ok (.invokestatic 267, 3) := by decide +kernel
theorem dX12_game_17 : decode cX12_game 17 = .ok (.ifCond .ne 6, 3) := by decide +kernel
theorem dX12_game_20 : decode cX12_game 20 = .ok (.bipush (-2), 2) := by decide +kernel
theorem dX12_game_22 : decode cX12_game 22 = .ok (.ireturn, 1) := by decide +kernel
theorem dX12_game_23 : decode cX12_game 23 = .ok (.aload_n 0, 1) := by decide +kernel
theorem dX12_game_24 : decode cX12_game 24 = .ok (.invokevirtual 416, 3) := by decide +kernel
theorem dX12_game_27 : decode cX12_game 27 = .ok (.aload_n 0, 1) := by decide +kernel
theorem dX12_game_28 : decode cX12_game 28 = .ok (.iconst 1, 1) := by decide +kernel
theorem dX12_game_29 : decode cX12_game 29 = .ok (.iconst 2, 1) := by decide +kernel
theorem dX12_game_30 : decode cX12_game 30 = .ok (.iload_n 1, 1) := by decide +kernel
theorem dX12_game_31 : decode cX12_game 31 = .ok (.imul, 1) := by decide +kernel
theorem dX12_game_32 : decode cX12_game 32 = .ok (.ishl, 1) := by decide +kernel
theorem dX12_game_33 : decode cX12_game 33 = .ok (.iload_n 1, 1) := by decide +kernel
theorem dX12_game_34 : decode cX12_game 34 = .ok (.invokevirtual 413, 3) := by decide +kernel
theorem dX12_game_37 : decode cX12_game 37 = .ok (.ifCond .eq 7, 3) := by decide +kernel
theorem dX12_game_40 : decode cX12_game 40 = .ok (.iconst 1, 1) := by decide +kernel
theorem dX12_game_41 : decode cX12_game 41 = .ok (.goto 4, 3) := by decide +kernel
theorem dX12_game_44 : decode cX12_game 44 = .ok (.iconst 0, 1) := by decide +kernel
theorem dX12_game_45 : decode cX12_game 45 = .ok (.ireturn, 1) := by decide +kernel
theorem wrr_wsX12_plays {i : Nat} {w : Cond} (h : wsX12_plays[i]? = some w) : w ∈ wsX12_plays := List.mem_of_getElem? h
theorem wrr_wsX12_plays_wsX12_plays_r1 {i : Nat} {w : Cond} (h : wsX12_plays_r1[i]? = some w) : w ∈ wsX12_plays := (List.mem_cons_of_mem _ (List.mem_append_left _ (List.mem_append_left _ (List.mem_of_getElem? h))))
theorem wrr_wsX12_plays_wsX12_plays_r2 {i : Nat} {w : Cond} (h : wsX12_plays_r2[i]? = some w) : w ∈ wsX12_plays := (List.mem_cons_of_mem _ (List.mem_append_left _ (List.mem_append_right _ (List.mem_of_getElem? h))))
theorem wru_wsX12_plays_wsX120 : ∀ w ∈ wsX120, w ∈ wsX12_plays := fun w h => (List.mem_cons_of_mem _ (List.mem_append_right _ h))
set_option maxRecDepth 20000 in
theorem ggX12_plays_X12_isDance : GoodIn wsX12_plays wsX12_isDance := goodIn_sub (List.forall_mem_cons.mpr ⟨wrr_wsX12_plays_wsX12_plays_r1 (i := 5) rfl, (List.forall_mem_append.mpr ⟨(List.forall_mem_cons.mpr ⟨wrr_wsX12_plays_wsX12_plays_r1 (i := 6) rfl, (fun _ h => absurd h List.not_mem_nil)⟩), wru_wsX12_plays_wsX120⟩)⟩) gw_wsX12_isDance
set_option maxRecDepth 20000 in
theorem gX12_plays_X12_isDance : GoodIn wsX12_plays (wsV RX12 254 RX12 yX12_isDance wsX12_isDance) := goodIn_app (goodIn_sub (List.forall_mem_cons.mpr ⟨wrr_wsX12_plays_wsX12_plays_r1 (i := 1) rfl, (List.forall_mem_cons.mpr ⟨wrr_wsX12_plays_wsX12_plays_r1 (i := 2) rfl, (List.forall_mem_cons.mpr ⟨wrr_wsX12_plays_wsX12_plays_r1 (i := 3) rfl, (List.forall_mem_cons.mpr ⟨wrr_wsX12_plays_wsX12_plays_r1 (i := 4) rfl, (fun _ h => absurd h List.not_mem_nil)⟩)⟩)⟩)⟩) (by decide +kernel)) ggX12_plays_X12_isDance
set_option maxRecDepth 20000 in
theorem ggX12_plays_X12_isStep : GoodIn wsX12_plays wsX12_isStep := goodIn_sub (List.forall_mem_cons.mpr ⟨wrr_wsX12_plays_wsX12_plays_r1 (i := 9) rfl, (List.forall_mem_cons.mpr ⟨wrr_wsX12_plays_wsX12_plays_r1 (i := 10) rfl, (List.forall_mem_cons.mpr ⟨wrr_wsX12_plays_wsX12_plays_r1 (i := 11) rfl, (List.forall_mem_cons.mpr ⟨wrr_wsX12_plays_wsX12_plays_r1 (i := 12) rfl, (List.forall_mem_cons.mpr ⟨wrr_wsX12_plays_wsX12_plays_r1 (i := 4) rfl, (List.forall_mem_cons.mpr ⟨wrr_wsX12_plays_wsX12_plays_r1 (i := 13) rfl, (fun _ h => absurd h List.not_mem_nil)⟩)⟩)⟩)⟩)⟩)⟩) gw_wsX12_isStep
set_option maxRecDepth 20000 in
theorem gX12_plays_X12_isStep : GoodIn wsX12_plays (va_wsS RX12 267 yX12_isStep wsX12_isStep) := goodIn_app (goodIn_sub (List.forall_mem_cons.mpr ⟨wrr_wsX12_plays_wsX12_plays_r1 (i := 7) rfl, (List.forall_mem_cons.mpr ⟨wrr_wsX12_plays_wsX12_plays_r1 (i := 8) rfl, (List.forall_mem_cons.mpr ⟨wrr_wsX12_plays_wsX12_plays_r1 (i := 4) rfl, (fun _ h => absurd h List.not_mem_nil)⟩)⟩)⟩) (by decide +kernel)) ggX12_plays_X12_isStep
set_option maxRecDepth 20000 in
theorem ggX12_plays_X12_laysGame : GoodIn wsX12_plays wsX12_laysGame := goodIn_sub (List.forall_mem_cons.mpr ⟨wrr_wsX12_plays_wsX12_plays_r1 (i := 17) rfl, (List.forall_mem_append.mpr ⟨(List.forall_mem_cons.mpr ⟨wrr_wsX12_plays_wsX12_plays_r1 (i := 18) rfl, (fun _ h => absurd h List.not_mem_nil)⟩), wru_wsX12_plays_wsX120⟩)⟩) gw_wsX12_laysGame
set_option maxRecDepth 20000 in
theorem gX12_plays_X12_laysGame : GoodIn wsX12_plays (wsV RX12 416 RX12 yX12_laysGame wsX12_laysGame) := goodIn_app (goodIn_sub (List.forall_mem_cons.mpr ⟨wrr_wsX12_plays_wsX12_plays_r1 (i := 14) rfl, (List.forall_mem_cons.mpr ⟨wrr_wsX12_plays_wsX12_plays_r1 (i := 15) rfl, (List.forall_mem_cons.mpr ⟨wrr_wsX12_plays_wsX12_plays_r1 (i := 16) rfl, (List.forall_mem_cons.mpr ⟨wrr_wsX12_plays_wsX12_plays_r1 (i := 4) rfl, (fun _ h => absurd h List.not_mem_nil)⟩)⟩)⟩)⟩) (by decide +kernel)) ggX12_plays_X12_laysGame
set_option maxRecDepth 20000 in
theorem ggX12_plays_X12_isPlay : GoodIn wsX12_plays wsX12_isPlay := goodIn_sub (List.forall_mem_cons.mpr ⟨wrr_wsX12_plays_wsX12_plays_r1 (i := 22) rfl, (List.forall_mem_append.mpr ⟨(List.forall_mem_cons.mpr ⟨wrr_wsX12_plays_wsX12_plays_r1 (i := 23) rfl, (List.forall_mem_cons.mpr ⟨wrr_wsX12_plays_wsX12_plays_r2 (i := 0) rfl, (List.forall_mem_cons.mpr ⟨wrr_wsX12_plays_wsX12_plays_r2 (i := 1) rfl, (List.forall_mem_cons.mpr ⟨wrr_wsX12_plays_wsX12_plays_r1 (i := 4) rfl, (List.forall_mem_cons.mpr ⟨wrr_wsX12_plays_wsX12_plays_r2 (i := 2) rfl, (fun _ h => absurd h List.not_mem_nil)⟩)⟩)⟩)⟩)⟩), wru_wsX12_plays_wsX120⟩)⟩) gw_wsX12_isPlay
set_option maxRecDepth 20000 in
theorem gX12_plays_X12_isPlay : GoodIn wsX12_plays (wsV RX12 410 RX12 yX12_isPlay wsX12_isPlay) := goodIn_app (goodIn_sub (List.forall_mem_cons.mpr ⟨wrr_wsX12_plays_wsX12_plays_r1 (i := 19) rfl, (List.forall_mem_cons.mpr ⟨wrr_wsX12_plays_wsX12_plays_r1 (i := 20) rfl, (List.forall_mem_cons.mpr ⟨wrr_wsX12_plays_wsX12_plays_r1 (i := 21) rfl, (List.forall_mem_cons.mpr ⟨wrr_wsX12_plays_wsX12_plays_r1 (i := 4) rfl, (fun _ h => absurd h List.not_mem_nil)⟩)⟩)⟩)⟩) (by decide +kernel)) ggX12_plays_X12_isPlay
set_option maxRecDepth 20000 in
theorem ggX12_plays_X12_winsFrom : GoodIn wsX12_plays wsX12_winsFrom := goodIn_sub (List.forall_mem_cons.mpr ⟨wrr_wsX12_plays_wsX12_plays_r2 (i := 6) rfl, (List.forall_mem_append.mpr ⟨(List.forall_mem_cons.mpr ⟨wrr_wsX12_plays_wsX12_plays_r1 (i := 18) rfl, (List.forall_mem_cons.mpr ⟨wrr_wsX12_plays_wsX12_plays_r1 (i := 19) rfl, (List.forall_mem_cons.mpr ⟨wrr_wsX12_plays_wsX12_plays_r1 (i := 20) rfl, (List.forall_mem_cons.mpr ⟨wrr_wsX12_plays_wsX12_plays_r1 (i := 21) rfl, (List.forall_mem_cons.mpr ⟨wrr_wsX12_plays_wsX12_plays_r1 (i := 4) rfl, (List.forall_mem_cons.mpr ⟨wrr_wsX12_plays_wsX12_plays_r1 (i := 22) rfl, (List.forall_mem_cons.mpr ⟨wrr_wsX12_plays_wsX12_plays_r1 (i := 23) rfl, (List.forall_mem_cons.mpr ⟨wrr_wsX12_plays_wsX12_plays_r2 (i := 0) rfl, (List.forall_mem_cons.mpr ⟨wrr_wsX12_plays_wsX12_plays_r2 (i := 1) rfl, (List.forall_mem_cons.mpr ⟨wrr_wsX12_plays_wsX12_plays_r2 (i := 2) rfl, (List.forall_mem_cons.mpr ⟨wrr_wsX12_plays_wsX12_plays_r2 (i := 3) rfl, (List.forall_mem_cons.mpr ⟨wrr_wsX12_plays_wsX12_plays_r2 (i := 4) rfl, (List.forall_mem_cons.mpr ⟨wrr_wsX12_plays_wsX12_plays_r2 (i := 5) rfl, (fun _ h => absurd h List.not_mem_nil)⟩)⟩)⟩)⟩)⟩)⟩)⟩)⟩)⟩)⟩)⟩)⟩)⟩), wru_wsX12_plays_wsX120⟩)⟩) gw_wsX12_winsFrom
set_option maxRecDepth 20000 in
theorem gX12_plays_X12_winsFrom : GoodIn wsX12_plays (wsV RX12 413 RX12 yX12_winsFrom wsX12_winsFrom) := goodIn_app (goodIn_sub (List.forall_mem_cons.mpr ⟨wrr_wsX12_plays_wsX12_plays_r2 (i := 3) rfl, (List.forall_mem_cons.mpr ⟨wrr_wsX12_plays_wsX12_plays_r2 (i := 4) rfl, (List.forall_mem_cons.mpr ⟨wrr_wsX12_plays_wsX12_plays_r2 (i := 5) rfl, (List.forall_mem_cons.mpr ⟨wrr_wsX12_plays_wsX12_plays_r1 (i := 4) rfl, (fun _ h => absurd h List.not_mem_nil)⟩)⟩)⟩)⟩) (by decide +kernel)) ggX12_plays_X12_winsFrom
theorem dX12_plays_0 : decode cX12_plays 0 = .ok (.aload_n 0, 1) := by decide +kernel
theorem dX12_plays_1 : decode cX12_plays 1 = .ok (.iconst 0, 1) := by decide +kernel
theorem dX12_plays_2 : decode cX12_plays 2 = .ok (.putfield 80, 3) := by decide +kernel
theorem dX12_plays_5 : decode cX12_plays 5 = .ok (.aload_n 0, 1) := by decide +kernel
theorem dX12_plays_6 : decode cX12_plays 6 = .ok (.invokevirtual 254, 3) := by decide +kernel
theorem dX12_plays_9 : decode cX12_plays 9 = .ok (.ifCond .eq 11, 3) := by decide +kernel
theorem dX12_plays_12 : decode cX12_plays 12 = .ok (.iload_n 1, 1) := by decide +kernel
theorem dX12_plays_13 : decode cX12_plays 13 = .ok (.i2l, 1) := by decide +kernel
theorem dX12_plays_14 : decode cX12_plays 14 = .ok (.invokestatic 267, 3) := by decide +kernel
theorem dX12_plays_17 : decode cX12_plays 17 = .ok (.ifCond .ne 6, 3) := by decide +kernel
theorem dX12_plays_20 : decode cX12_plays 20 = .ok (.bipush (-2), 2) := by decide +kernel
theorem dX12_plays_22 : decode cX12_plays 22 = .ok (.ireturn, 1) := by decide +kernel
theorem dX12_plays_23 : decode cX12_plays 23 = .ok (.aload_n 0, 1) := by decide +kernel
theorem dX12_plays_24 : decode cX12_plays 24 = .ok (.invokevirtual 416, 3) := by decide +kernel
theorem dX12_plays_27 : decode cX12_plays 27 = .ok (.iconst 1, 1) := by decide +kernel
theorem dX12_plays_28 : decode cX12_plays 28 = .ok (.iconst 2, 1) := by decide +kernel
theorem dX12_plays_29 : decode cX12_plays 29 = .ok (.iload_n 1, 1) := by decide +kernel
theorem dX12_plays_30 : decode cX12_plays 30 = .ok (.imul, 1) := by decide +kernel
theorem dX12_plays_31 : decode cX12_plays 31 = .ok (.ishl, 1) := by decide +kernel
theorem dX12_plays_32 : decode cX12_plays 32 = .ok (.istore_n 2, 1) := by decide +kernel
theorem dX12_plays_33 : decode cX12_plays 33 = .ok (.iconst 0, 1) := by decide +kernel
theorem dX12_plays_34 : decode cX12_plays 34 = .ok (.istore_n 3, 1) := by decide +kernel
theorem dX12_plays_35 : decode cX12_plays 35 = .ok (.iload_n 3, 1) := by decide +kernel
theorem dX12_plays_36 : decode cX12_plays 36 = .ok (.bipush 6, 2) := by decide +kernel
theorem dX12_plays_38 : decode cX12_plays 38 = .ok (.if_icmp .ge 36, 3) := by decide +kernel
theorem dX12_plays_41 : decode cX12_plays 41 = .ok (.aload_n 0, 1) := by decide +kernel
theorem dX12_plays_42 : decode cX12_plays 42 = .ok (.iload_n 2, 1) := by decide +kernel
theorem dX12_plays_43 : decode cX12_plays 43 = .ok (.iload_n 1, 1) := by decide +kernel
theorem dX12_plays_44 : decode cX12_plays 44 = .ok (.iload_n 3, 1) := by decide +kernel
theorem dX12_plays_45 : decode cX12_plays 45 = .ok (.invokevirtual 410, 3) := by decide +kernel
theorem dX12_plays_48 : decode cX12_plays 48 = .ok (.ifCond .eq 20, 3) := by decide +kernel
theorem dX12_plays_51 : decode cX12_plays 51 = .ok (.aload_n 0, 1) := by decide +kernel
theorem dX12_plays_52 : decode cX12_plays 52 = .ok (.iload_n 2, 1) := by decide +kernel
theorem dX12_plays_53 : decode cX12_plays 53 = .ok (.iconst 1, 1) := by decide +kernel
theorem dX12_plays_54 : decode cX12_plays 54 = .ok (.iconst 2, 1) := by decide +kernel
theorem dX12_plays_55 : decode cX12_plays 55 = .ok (.iload_n 3, 1) := by decide +kernel
theorem dX12_plays_56 : decode cX12_plays 56 = .ok (.imul, 1) := by decide +kernel
theorem dX12_plays_57 : decode cX12_plays 57 = .ok (.ishl, 1) := by decide +kernel
theorem dX12_plays_58 : decode cX12_plays 58 = .ok (.iadd, 1) := by decide +kernel
theorem dX12_plays_59 : decode cX12_plays 59 = .ok (.iload_n 3, 1) := by decide +kernel
theorem dX12_plays_60 : decode cX12_plays 60 = .ok (.invokevirtual 413, 3) := by decide +kernel
theorem dX12_plays_63 : decode cX12_plays 63 = .ok (.ifCond .ne 5, 3) := by decide +kernel
theorem dX12_plays_66 : decode cX12_plays 66 = .ok (.iload_n 3, 1) := by decide +kernel
theorem dX12_plays_67 : decode cX12_plays 67 = .ok (.ireturn, 1) := by decide +kernel
theorem dX12_plays_68 : decode cX12_plays 68 = .ok (.iinc 3 1, 3) := by decide +kernel
theorem dX12_plays_71 : decode cX12_plays 71 = .ok (.goto (-36), 3) := by decide +kernel
theorem dX12_plays_74 : decode cX12_plays 74 = .ok (.iconst (-1), 1) := by decide +kernel
theorem dX12_plays_75 : decode cX12_plays 75 = .ok (.ireturn, 1) := by decide +kernel
