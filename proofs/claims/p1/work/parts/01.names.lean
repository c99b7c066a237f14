theorem goodIn_r {big : List Cond} (ws : List Cond) (ps : List Nat) (hp : ws = ps.filterMap (fun i => big[i]?)) (h : ws.all goodWord = true) : GoodIn big ws := by
  intro w hw
  have h1 := List.all_eq_true.mp h w hw
  rw [hp] at hw
  obtain ⟨i, -, hi⟩ := List.mem_filterMap.mp hw
  have hm : w ∈ big := by first | exact List.mem_of_getElem? hi | exact List.getElem?_mem hi
  exact ⟨hm, good_of_word h1⟩
theorem goodIn_app {big a b : List Cond} (ha : GoodIn big a) (hb : GoodIn big b) : GoodIn big (a ++ b) := fun w h => (List.mem_append.mp h).elim (ha w) (hb w)
theorem goodIn_ca {big a b : List Cond} {c : Cond} (ha : GoodIn big (c :: a)) (hb : GoodIn big b) : GoodIn big (c :: (a ++ b)) := fun w h => (List.mem_cons.mp h).elim (fun e => ha w (List.mem_cons.mpr (Or.inl e))) (fun h => (List.mem_append.mp h).elim (fun h => ha w (List.mem_cons.mpr (Or.inr h))) (hb w))
theorem goodIn_sub {big ws : List Cond} (hm : ∀ w ∈ ws, w ∈ big) (h : ws.all goodWord = true) : GoodIn big ws := fun w hw => ⟨hm w hw, good_of_word (List.all_eq_true.mp h w hw)⟩

def RX0 : String := "OverHill$Dance"
def TX0 : u_T := fun k => match k with
  | 0 => ("OverHill$Dance", "gap", "I", false)
  | 1 => ("OverHill$Dance", "odds", "I", false)
  | 2 => ("OverHill$Dance", "rain", "I", false)
  | 3 => ("OverHill$Dance", "lines", "I", false)
  | 4 => ("OverHill$Dance", "steps", "[I", true)
  | 5 => ("OverHill$Dance", "lengths", "[I", true)
  | 6 => ("OverHill$Dance", "starts", "[I", true)
  | 7 => ("OverHill$Dance", "met", "[I", true)
  | 8 => ("OverHill$Dance", "stumbles", "[I", true)
  | 9 => ("OverHill$Dance", "stumbleCount", "I", false)
  | 10 => ("OverHill$Dance", "muds", "[I", true)
  | 11 => ("OverHill$Dance", "cells", "[I", true)
  | 12 => ("OverHill$Dance", "cellCount", "I", false)
  | 13 => ("OverHill$Dance", "tunes", "[I", true)
  | 14 => ("OverHill$Dance", "tuneCount", "I", false)
  | 15 => ("OverHill$Dance", "changes", "[I", true)
  | _ => ("OverHill$Dance", "changeCount", "I", false)
def tyX0 : Nat → FieldType := fun k => match k with
  | 0 => .int
  | 1 => .int
  | 2 => .int
  | 3 => .int
  | 4 => .array .int
  | 5 => .array .int
  | 6 => .array .int
  | 7 => .array .int
  | 8 => .array .int
  | 9 => .int
  | 10 => .array .int
  | 11 => .array .int
  | 12 => .int
  | 13 => .array .int
  | 14 => .int
  | 15 => .array .int
  | _ => .int
abbrev wsX00 : List Cond := u_ws RX0 TX0 17
theorem nmX0 : ∀ a, a < 17 → ∀ b, b < 17 → a ≠ b → (TX0 a).2.1 ≠ (TX0 b).2.1 := by decide +kernel
theorem tyX0_ok : ∀ k, k < 17 → parseFieldDescriptor (TX0 k).2.2.1 = some (tyX0 k) := by decide +kernel
abbrev cX0_init : ByteArray := prog_2_method_1_code
def yX0_init : MethodName := ⟨RX0, "<init>", "()V"⟩
abbrev cX0_clear : ByteArray := prog_2_method_2_code
def yX0_clear : MethodName := ⟨RX0, "clear", "()V"⟩
abbrev cX0_copyFrom : ByteArray := prog_2_method_3_code
def yX0_copyFrom : MethodName := ⟨RX0, "copyFrom", "(LOverHill$Dance;)V"⟩
abbrev cX0_stands : ByteArray := prog_2_method_4_code
def yX0_stands : MethodName := ⟨RX0, "stands", "()Z"⟩
abbrev cX0_hasBothRounds : ByteArray := prog_2_method_5_code
def yX0_hasBothRounds : MethodName := ⟨RX0, "hasBothRounds", "()Z"⟩
abbrev cX0_hasPlace : ByteArray := prog_2_method_6_code
def yX0_hasPlace : MethodName := ⟨RX0, "hasPlace", "(II)Z"⟩
abbrev cX0_hasStumble : ByteArray := prog_2_method_7_code
def yX0_hasStumble : MethodName := ⟨RX0, "hasStumble", "(I)Z"⟩
abbrev cX0_stepAt : ByteArray := prog_2_method_8_code
def yX0_stepAt : MethodName := ⟨RX0, "stepAt", "(II)I"⟩
abbrev cX0_mayMeet : ByteArray := prog_2_method_9_code
def yX0_mayMeet : MethodName := ⟨RX0, "mayMeet", "(II)Z"⟩
abbrev cX0_isHole : ByteArray := prog_2_method_10_code
def yX0_isHole : MethodName := ⟨RX0, "isHole", "(II)Z"⟩
abbrev cX0_stumbleOf : ByteArray := prog_2_method_11_code
def yX0_stumbleOf : MethodName := ⟨RX0, "stumbleOf", "(II)I"⟩
abbrev cX0_addStumble : ByteArray := prog_2_method_12_code
def yX0_addStumble : MethodName := ⟨RX0, "addStumble", "(IIII)V"⟩
abbrev cX0_addCell : ByteArray := prog_2_method_13_code
def yX0_addCell : MethodName := ⟨RX0, "addCell", "(II)V"⟩
abbrev cX0_addTune : ByteArray := prog_2_method_14_code
def yX0_addTune : MethodName := ⟨RX0, "addTune", "(II)V"⟩
abbrev cX0_countMuds : ByteArray := prog_2_method_15_code
def yX0_countMuds : MethodName := ⟨RX0, "countMuds", "()I"⟩
abbrev cX0_keepChange : ByteArray := prog_2_method_16_code
def yX0_keepChange : MethodName := ⟨RX0, "keepChange", "(III)V"⟩
abbrev cX0_takeBack : ByteArray := prog_2_method_17_code
def yX0_takeBack : MethodName := ⟨RX0, "takeBack", "()V"⟩
def RX1 : String := "OverHill$Floor"
def TX1 : u_T := fun k => match k with
  | 0 => ("OverHill$Floor", "places", "[I", true)
  | 1 => ("OverHill$Floor", "steps", "[I", true)
  | 2 => ("OverHill$Floor", "stumbleIn", "[I", true)
  | 3 => ("OverHill$Floor", "gap", "I", false)
  | 4 => ("OverHill$Floor", "calmLength", "I", false)
  | _ => ("OverHill$Floor", "calmStart", "I", false)
def tyX1 : Nat → FieldType := fun k => match k with
  | 0 => .array .int
  | 1 => .array .int
  | 2 => .array .int
  | 3 => .int
  | 4 => .int
  | _ => .int
abbrev wsX10 : List Cond := u_ws RX1 TX1 6
theorem nmX1 : ∀ a, a < 6 → ∀ b, b < 6 → a ≠ b → (TX1 a).2.1 ≠ (TX1 b).2.1 := by decide +kernel
theorem tyX1_ok : ∀ k, k < 6 → parseFieldDescriptor (TX1 k).2.2.1 = some (tyX1 k) := by decide +kernel
abbrev cX1_init : ByteArray := prog_3_method_1_code
def yX1_init : MethodName := ⟨RX1, "<init>", "()V"⟩
abbrev cX1_lay : ByteArray := prog_3_method_2_code
def yX1_lay : MethodName := ⟨RX1, "lay", "(LOverHill$Dance;I)V"⟩
abbrev cX1_findStumbles : ByteArray := prog_3_method_3_code
def yX1_findStumbles : MethodName := ⟨RX1, "findStumbles", "(LOverHill$Dance;II)V"⟩
abbrev cX1_laySide : ByteArray := prog_3_method_4_code
def yX1_laySide : MethodName := ⟨RX1, "laySide", "(LOverHill$Dance;I)V"⟩
abbrev cX1_placeOf : ByteArray := prog_3_method_5_code
def yX1_placeOf : MethodName := ⟨RX1, "placeOf", "(II)I"⟩
abbrev cX1_stepOf : ByteArray := prog_3_method_6_code
def yX1_stepOf : MethodName := ⟨RX1, "stepOf", "(II)I"⟩
abbrev cX1_heardBy : ByteArray := prog_3_method_7_code
def yX1_heardBy : MethodName := ⟨RX1, "heardBy", "(II)I"⟩
abbrev cX1_gapes : ByteArray := prog_3_method_8_code
def yX1_gapes : MethodName := ⟨RX1, "gapes", "(LOverHill$Dance;II)Z"⟩
abbrev cX1_countHoles : ByteArray := prog_3_method_9_code
def yX1_countHoles : MethodName := ⟨RX1, "countHoles", "(LOverHill$Dance;III)I"⟩
abbrev cX1_countAllHoles : ByteArray := prog_3_method_10_code
def yX1_countAllHoles : MethodName := ⟨RX1, "countAllHoles", "(LOverHill$Dance;)I"⟩
abbrev cX1_findCalm : ByteArray := prog_3_method_11_code
def yX1_findCalm : MethodName := ⟨RX1, "findCalm", "(LOverHill$Dance;II)V"⟩
def RX2 : String := "OverHill$Game"
def TX2 : u_T := fun k => match k with
  | _ => ("OverHill$Game", "winning", "[I", true)
def tyX2 : Nat → FieldType := fun k => match k with
  | _ => .array .int
abbrev wsX20 : List Cond := u_ws RX2 TX2 1
theorem nmX2 : ∀ a, a < 1 → ∀ b, b < 1 → a ≠ b → (TX2 a).2.1 ≠ (TX2 b).2.1 := by decide +kernel
theorem tyX2_ok : ∀ k, k < 1 → parseFieldDescriptor (TX2 k).2.2.1 = some (tyX2 k) := by decide +kernel
abbrev cX2_init : ByteArray := prog_4_method_1_code
def yX2_init : MethodName := ⟨RX2, "<init>", "()V"⟩
abbrev cX2_winningStep : ByteArray := prog_4_method_2_code
def yX2_winningStep : MethodName := ⟨RX2, "winningStep", "(LOverHill$Dance;I)I"⟩
abbrev cX2_findWinning : ByteArray := prog_4_method_3_code
def yX2_findWinning : MethodName := ⟨RX2, "findWinning", "(LOverHill$Dance;I)I"⟩
def RX3 : String := "OverHill$Guess"
def TX3 : u_T := fun k => match k with
  | 0 => ("OverHill$Guess", "gap", "I", false)
  | 1 => ("OverHill$Guess", "length", "I", false)
  | 2 => ("OverHill$Guess", "round", "[I", true)
  | 3 => ("OverHill$Guess", "impossible", "Z", false)
  | 4 => ("OverHill$Guess", "firstUnlike", "I", false)
  | 5 => ("OverHill$Guess", "lastUnlike", "[I", true)
  | 6 => ("OverHill$Guess", "places", "[I", true)
  | 7 => ("OverHill$Guess", "stepsIn", "[I", true)
  | 8 => ("OverHill$Guess", "passed", "[I", true)
  | 9 => ("OverHill$Guess", "classes", "[I", true)
  | 10 => ("OverHill$Guess", "bestBeat", "I", false)
  | _ => ("OverHill$Guess", "bestLeft", "I", false)
def tyX3 : Nat → FieldType := fun k => match k with
  | 0 => .int
  | 1 => .int
  | 2 => .array .int
  | 3 => .boolean
  | 4 => .int
  | 5 => .array .int
  | 6 => .array .int
  | 7 => .array .int
  | 8 => .array .int
  | 9 => .array .int
  | 10 => .int
  | _ => .int
abbrev wsX30 : List Cond := u_ws RX3 TX3 12
theorem nmX3 : ∀ a, a < 12 → ∀ b, b < 12 → a ≠ b → (TX3 a).2.1 ≠ (TX3 b).2.1 := by decide +kernel
theorem tyX3_ok : ∀ k, k < 12 → parseFieldDescriptor (TX3 k).2.2.1 = some (tyX3 k) := by decide +kernel
abbrev cX3_init : ByteArray := prog_5_method_1_code
def yX3_init : MethodName := ⟨RX3, "<init>", "()V"⟩
abbrev cX3_begin : ByteArray := prog_5_method_2_code
def yX3_begin : MethodName := ⟨RX3, "begin", "(LOverHill$Dance;I)V"⟩
abbrev cX3_hear : ByteArray := prog_5_method_3_code
def yX3_hear : MethodName := ⟨RX3, "hear", "(II)V"⟩
abbrev cX3_countFits : ByteArray := prog_5_method_4_code
def yX3_countFits : MethodName := ⟨RX3, "countFits", "()I"⟩
abbrev cX3_leastFit : ByteArray := prog_5_method_5_code
def yX3_leastFit : MethodName := ⟨RX3, "leastFit", "()I"⟩
abbrev cX3_beatsOfFits : ByteArray := prog_5_method_6_code
def yX3_beatsOfFits : MethodName := ⟨RX3, "beatsOfFits", "()J"⟩
abbrev cX3_findBeat : ByteArray := prog_5_method_7_code
def yX3_findBeat : MethodName := ⟨RX3, "findBeat", "()V"⟩
abbrev cX3_mostAlike : ByteArray := prog_5_method_8_code
def yX3_mostAlike : MethodName := ⟨RX3, "mostAlike", "(II)I"⟩
abbrev cX3_pass : ByteArray := prog_5_method_9_code
def yX3_pass : MethodName := ⟨RX3, "pass", "(I)V"⟩
abbrev cX3_fitsWithout : ByteArray := prog_5_method_10_code
def yX3_fitsWithout : MethodName := ⟨RX3, "fitsWithout", "()Z"⟩
abbrev cX3_stepsThatFit : ByteArray := prog_5_method_11_code
def yX3_stepsThatFit : MethodName := ⟨RX3, "stepsThatFit", "(II)I"⟩
abbrev cX3_stepBack : ByteArray := prog_5_method_12_code
def yX3_stepBack : MethodName := ⟨RX3, "stepBack", "(II)I"⟩
def RX4 : String := "OverHill$Night"
def TX4 : u_T := fun k => match k with
  | 0 => ("OverHill$Night", "danced", "[I", true)
  | 1 => ("OverHill$Night", "places", "[I", true)
  | 2 => ("OverHill$Night", "state", "J", false)
  | 3 => ("OverHill$Night", "holeCount", "I", false)
  | 4 => ("OverHill$Night", "firstHole", "I", false)
  | 5 => ("OverHill$Night", "mudCount", "I", false)
  | _ => ("OverHill$Night", "slipCount", "I", false)
def tyX4 : Nat → FieldType := fun k => match k with
  | 0 => .array .int
  | 1 => .array .int
  | 2 => .long
  | 3 => .int
  | 4 => .int
  | 5 => .int
  | _ => .int
abbrev wsX40 : List Cond := u_ws RX4 TX4 7
theorem nmX4 : ∀ a, a < 7 → ∀ b, b < 7 → a ≠ b → (TX4 a).2.1 ≠ (TX4 b).2.1 := by decide +kernel
theorem tyX4_ok : ∀ k, k < 7 → parseFieldDescriptor (TX4 k).2.2.1 = some (tyX4 k) := by decide +kernel
abbrev cX4_init : ByteArray := prog_6_method_1_code
def yX4_init : MethodName := ⟨RX4, "<init>", "()V"⟩
abbrev cX4_play : ByteArray := prog_6_method_2_code
def yX4_play : MethodName := ⟨RX4, "play", "(LOverHill$Dance;II)V"⟩
abbrev cX4_danceBeat : ByteArray := prog_6_method_3_code
def yX4_danceBeat : MethodName := ⟨RX4, "danceBeat", "(LOverHill$Dance;I)V"⟩
abbrev cX4_danceStep : ByteArray := prog_6_method_4_code
def yX4_danceStep : MethodName := ⟨RX4, "danceStep", "(LOverHill$Dance;I)I"⟩
abbrev cX4_lookForHole : ByteArray := prog_6_method_5_code
def yX4_lookForHole : MethodName := ⟨RX4, "lookForHole", "(LOverHill$Dance;II)V"⟩
abbrev cX4_draw : ByteArray := prog_6_method_6_code
def yX4_draw : MethodName := ⟨RX4, "draw", "()I"⟩
def RX5 : String := "OverHill$Reader"
def TX5 : u_T := fun k => match k with
  | 0 => ("OverHill$Reader", "tape", "LOverHill$Tape;", true)
  | 1 => ("OverHill$Reader", "numberPlace", "I", false)
  | 2 => ("OverHill$Reader", "fault", "I", false)
  | _ => ("OverHill$Reader", "faultPlace", "I", false)
def tyX5 : Nat → FieldType := fun k => match k with
  | 0 => .object "OverHill$Tape"
  | 1 => .int
  | 2 => .int
  | _ => .int
abbrev wsX50 : List Cond := u_ws RX5 TX5 4
theorem nmX5 : ∀ a, a < 4 → ∀ b, b < 4 → a ≠ b → (TX5 a).2.1 ≠ (TX5 b).2.1 := by decide +kernel
theorem tyX5_ok : ∀ k, k < 4 → parseFieldDescriptor (TX5 k).2.2.1 = some (tyX5 k) := by decide +kernel
abbrev cX5_init : ByteArray := prog_7_method_1_code
def yX5_init : MethodName := ⟨RX5, "<init>", "()V"⟩
abbrev cX5_read : ByteArray := prog_7_method_2_code
def yX5_read : MethodName := ⟨RX5, "read", "(LOverHill$Dance;)Z"⟩
abbrev cX5_readLine : ByteArray := prog_7_method_3_code
def yX5_readLine : MethodName := ⟨RX5, "readLine", "(LOverHill$Dance;)V"⟩
abbrev cX5_readDance : ByteArray := prog_7_method_4_code
def yX5_readDance : MethodName := ⟨RX5, "readDance", "(LOverHill$Dance;)V"⟩
abbrev cX5_readRound : ByteArray := prog_7_method_5_code
def yX5_readRound : MethodName := ⟨RX5, "readRound", "(LOverHill$Dance;)V"⟩
abbrev cX5_readAnswers : ByteArray := prog_7_method_6_code
def yX5_readAnswers : MethodName := ⟨RX5, "readAnswers", "(LOverHill$Dance;)V"⟩
abbrev cX5_readStumble : ByteArray := prog_7_method_7_code
def yX5_readStumble : MethodName := ⟨RX5, "readStumble", "(LOverHill$Dance;)V"⟩
abbrev cX5_readMud : ByteArray := prog_7_method_8_code
def yX5_readMud : MethodName := ⟨RX5, "readMud", "(LOverHill$Dance;)V"⟩
abbrev cX5_readWood : ByteArray := prog_7_method_9_code
def yX5_readWood : MethodName := ⟨RX5, "readWood", "(LOverHill$Dance;)V"⟩
abbrev cX5_readTune : ByteArray := prog_7_method_10_code
def yX5_readTune : MethodName := ⟨RX5, "readTune", "(LOverHill$Dance;)V"⟩
abbrev cX5_beginOneOf : ByteArray := prog_7_method_11_code
def yX5_beginOneOf : MethodName := ⟨RX5, "beginOneOf", "(II)V"⟩
abbrev cX5_seesNumber : ByteArray := prog_7_method_12_code
def yX5_seesNumber : MethodName := ⟨RX5, "seesNumber", "()Z"⟩
abbrev cX5_takeWord : ByteArray := prog_7_method_13_code
def yX5_takeWord : MethodName := ⟨RX5, "takeWord", "(Ljava/lang/String;)V"⟩
abbrev cX5_takeSemicolon : ByteArray := prog_7_method_14_code
def yX5_takeSemicolon : MethodName := ⟨RX5, "takeSemicolon", "()V"⟩
abbrev cX5_takeNumber : ByteArray := prog_7_method_15_code
def yX5_takeNumber : MethodName := ⟨RX5, "takeNumber", "(II)I"⟩
abbrev cX5_fail : ByteArray := prog_7_method_16_code
def yX5_fail : MethodName := ⟨RX5, "fail", "(II)V"⟩
def RX6 : String := "OverHill$Rounds"
def TX6 : u_T := fun k => match k with
  | _ => ("OverHill$Rounds", "fits", "[I", true)
def tyX6 : Nat → FieldType := fun k => match k with
  | _ => .array .int
abbrev wsX60 : List Cond := u_ws RX6 TX6 1
theorem nmX6 : ∀ a, a < 1 → ∀ b, b < 1 → a ≠ b → (TX6 a).2.1 ≠ (TX6 b).2.1 := by decide +kernel
theorem tyX6_ok : ∀ k, k < 1 → parseFieldDescriptor (TX6 k).2.2.1 = some (tyX6 k) := by decide +kernel
abbrev cX6_init : ByteArray := prog_8_method_1_code
def yX6_init : MethodName := ⟨RX6, "<init>", "()V"⟩
abbrev cX6_periodOf : ByteArray := prog_8_method_2_code
def yX6_periodOf : MethodName := ⟨RX6, "periodOf", "(LOverHill$Dance;)I"⟩
abbrev cX6_firstIn : ByteArray := prog_8_method_3_code
def yX6_firstIn : MethodName := ⟨RX6, "firstIn", "(LOverHill$Dance;III)I"⟩
abbrev cX6_holesShifted : ByteArray := prog_8_method_4_code
def yX6_holesShifted : MethodName := ⟨RX6, "holesShifted", "(LOverHill$Dance;I)I"⟩
abbrev cX6_leastShift : ByteArray := prog_8_method_5_code
def yX6_leastShift : MethodName := ⟨RX6, "leastShift", "(LOverHill$Dance;)I"⟩
abbrev cX6_findFits : ByteArray := prog_8_method_6_code
def yX6_findFits : MethodName := ⟨RX6, "findFits", "(LOverHill$Dance;I)V"⟩
abbrev cX6_firstStuck : ByteArray := prog_8_method_7_code
def yX6_firstStuck : MethodName := ⟨RX6, "firstStuck", "(LOverHill$Dance;I)I"⟩
abbrev cX6_fitting : ByteArray := prog_8_method_8_code
def yX6_fitting : MethodName := ⟨RX6, "fitting", "(LOverHill$Dance;II)I"⟩
abbrev cX6_countChanged : ByteArray := prog_8_method_9_code
def yX6_countChanged : MethodName := ⟨RX6, "countChanged", "(LOverHill$Dance;I)I"⟩
abbrev cX6_metBy : ByteArray := prog_8_method_10_code
def yX6_metBy : MethodName := ⟨RX6, "metBy", "(LOverHill$Dance;I)I"⟩
abbrev cX6_placeIn : ByteArray := prog_8_method_11_code
def yX6_placeIn : MethodName := ⟨RX6, "placeIn", "(LOverHill$Dance;II)I"⟩
abbrev cX6_stepIn : ByteArray := prog_8_method_12_code
def yX6_stepIn : MethodName := ⟨RX6, "stepIn", "(LOverHill$Dance;II)I"⟩
def RX7 : String := "OverHill$Slots"
def TX7 : u_T := fun k => match k with
  | 0 => ("OverHill$Slots", "widths", "[I", true)
  | 1 => ("OverHill$Slots", "sizes", "[I", true)
  | _ => ("OverHill$Slots", "numbers", "[J", true)
def tyX7 : Nat → FieldType := fun k => match k with
  | 0 => .array .int
  | 1 => .array .int
  | _ => .array .long
abbrev wsX70 : List Cond := u_ws RX7 TX7 3
theorem nmX7 : ∀ a, a < 3 → ∀ b, b < 3 → a ≠ b → (TX7 a).2.1 ≠ (TX7 b).2.1 := by decide +kernel
theorem tyX7_ok : ∀ k, k < 3 → parseFieldDescriptor (TX7 k).2.2.1 = some (tyX7 k) := by decide +kernel
abbrev cX7_init : ByteArray := prog_9_method_1_code
def yX7_init : MethodName := ⟨RX7, "<init>", "()V"⟩
abbrev cX7_isSlot : ByteArray := prog_9_method_2_code
def yX7_isSlot : MethodName := ⟨RX7, "isSlot", "(I)Z"⟩
abbrev cX7_has : ByteArray := prog_9_method_3_code
def yX7_has : MethodName := ⟨RX7, "has", "(I)Z"⟩
abbrev cX7_countRows : ByteArray := prog_9_method_4_code
def yX7_countRows : MethodName := ⟨RX7, "countRows", "()I"⟩
abbrev cX7_make : ByteArray := prog_9_method_5_code
def yX7_make : MethodName := ⟨RX7, "make", "(III)V"⟩
abbrev cX7_at : ByteArray := prog_9_method_6_code
def yX7_at : MethodName := ⟨RX7, "at", "(II)J"⟩
abbrev cX7_put : ByteArray := prog_9_method_7_code
def yX7_put : MethodName := ⟨RX7, "put", "(IIJ)V"⟩
abbrev cX7_holds : ByteArray := prog_9_method_8_code
def yX7_holds : MethodName := ⟨RX7, "holds", "(III)Z"⟩
abbrev cX7_move : ByteArray := prog_9_method_9_code
def yX7_move : MethodName := ⟨RX7, "move", "(IIIII)V"⟩
abbrev cX7_refusalOfHeard : ByteArray := prog_9_method_10_code
def yX7_refusalOfHeard : MethodName := ⟨RX7, "refusalOfHeard", "(I)I"⟩
abbrev cX7_refusalOfSteps : ByteArray := prog_9_method_11_code
def yX7_refusalOfSteps : MethodName := ⟨RX7, "refusalOfSteps", "(I)I"⟩
abbrev cX7_shortest : ByteArray := prog_9_method_12_code
def yX7_shortest : MethodName := ⟨RX7, "shortest", "(I)I"⟩
abbrev cX7_told : ByteArray := prog_9_method_13_code
def yX7_told : MethodName := ⟨RX7, "told", "(III)I"⟩
abbrev cX7_countUntold : ByteArray := prog_9_method_14_code
def yX7_countUntold : MethodName := ⟨RX7, "countUntold", "(II)I"⟩
abbrev cX7_goesRound : ByteArray := prog_9_method_15_code
def yX7_goesRound : MethodName := ⟨RX7, "goesRound", "(II)Z"⟩
abbrev cX7_isTold : ByteArray := prog_9_method_16_code
def yX7_isTold : MethodName := ⟨RX7, "isTold", "(J)Z"⟩
abbrev cX7_isBetween : ByteArray := prog_9_method_17_code
def yX7_isBetween : MethodName := ⟨RX7, "isBetween", "(JJJ)Z"⟩
abbrev cX7_cut : ByteArray := prog_9_method_18_code
def yX7_cut : MethodName := ⟨RX7, "cut", "(JI)J"⟩
def RX8 : String := "OverHill$Tape"
def TX8 : u_T := fun k => match k with
  | 0 => ("OverHill$Tape", "bytes", "[B", true)
  | 1 => ("OverHill$Tape", "length", "I", false)
  | 2 => ("OverHill$Tape", "kind", "I", false)
  | 3 => ("OverHill$Tape", "from", "I", false)
  | 4 => ("OverHill$Tape", "upto", "I", false)
  | _ => ("OverHill$Tape", "value", "I", false)
def tyX8 : Nat → FieldType := fun k => match k with
  | 0 => .array .byte
  | 1 => .int
  | 2 => .int
  | 3 => .int
  | 4 => .int
  | _ => .int
abbrev wsX80 : List Cond := u_ws RX8 TX8 6
theorem nmX8 : ∀ a, a < 6 → ∀ b, b < 6 → a ≠ b → (TX8 a).2.1 ≠ (TX8 b).2.1 := by decide +kernel
theorem tyX8_ok : ∀ k, k < 6 → parseFieldDescriptor (TX8 k).2.2.1 = some (tyX8 k) := by decide +kernel
abbrev cX8_init : ByteArray := prog_10_method_1_code
def yX8_init : MethodName := ⟨RX8, "<init>", "()V"⟩
abbrev cX8_push : ByteArray := prog_10_method_2_code
def yX8_push : MethodName := ⟨RX8, "push", "(I)V"⟩
abbrev cX8_rewind : ByteArray := prog_10_method_3_code
def yX8_rewind : MethodName := ⟨RX8, "rewind", "()V"⟩
abbrev cX8_advance : ByteArray := prog_10_method_4_code
def yX8_advance : MethodName := ⟨RX8, "advance", "()V"⟩
abbrev cX8_isWord : ByteArray := prog_10_method_5_code
def yX8_isWord : MethodName := ⟨RX8, "isWord", "(Ljava/lang/String;)Z"⟩
abbrev cX8_kindOf : ByteArray := prog_10_method_6_code
def yX8_kindOf : MethodName := ⟨RX8, "kindOf", "(I)I"⟩
def RX9 : String := "OverHill$Tunes"
def TX9 : u_T := fun k => match k with
  | 0 => ("OverHill$Tunes", "every", "J", false)
  | _ => ("OverHill$Tunes", "at", "J", false)
def tyX9 : Nat → FieldType := fun k => match k with
  | 0 => .long
  | _ => .long
abbrev wsX90 : List Cond := u_ws RX9 TX9 2
theorem nmX9 : ∀ a, a < 2 → ∀ b, b < 2 → a ≠ b → (TX9 a).2.1 ≠ (TX9 b).2.1 := by decide +kernel
theorem tyX9_ok : ∀ k, k < 2 → parseFieldDescriptor (TX9 k).2.2.1 = some (tyX9 k) := by decide +kernel
abbrev cX9_init : ByteArray := prog_11_method_1_code
def yX9_init : MethodName := ⟨RX9, "<init>", "()V"⟩
abbrev cX9_join : ByteArray := prog_11_method_2_code
def yX9_join : MethodName := ⟨RX9, "join", "(LOverHill$Dance;I)V"⟩
abbrev cX9_joinOne : ByteArray := prog_11_method_3_code
def yX9_joinOne : MethodName := ⟨RX9, "joinOne", "(II)V"⟩
abbrev cX9_firstFrom : ByteArray := prog_11_method_4_code
def yX9_firstFrom : MethodName := ⟨RX9, "firstFrom", "(I)J"⟩
abbrev cX9_largestSet : ByteArray := prog_11_method_5_code
def yX9_largestSet : MethodName := ⟨RX9, "largestSet", "(LOverHill$Dance;)I"⟩
def RX10 : String := "OverHill$Wood"
def TX10 : u_T := fun k => match k with
  | 0 => ("OverHill$Wood", "arrivals", "[I", true)
  | 1 => ("OverHill$Wood", "meetingBeat", "I", false)
  | _ => ("OverHill$Wood", "meetingCell", "I", false)
def tyX10 : Nat → FieldType := fun k => match k with
  | 0 => .array .int
  | 1 => .int
  | _ => .int
abbrev wsX100 : List Cond := u_ws RX10 TX10 3
theorem nmX10 : ∀ a, a < 3 → ∀ b, b < 3 → a ≠ b → (TX10 a).2.1 ≠ (TX10 b).2.1 := by decide +kernel
theorem tyX10_ok : ∀ k, k < 3 → parseFieldDescriptor (TX10 k).2.2.1 = some (tyX10 k) := by decide +kernel
abbrev cX10_init : ByteArray := prog_12_method_1_code
def yX10_init : MethodName := ⟨RX10, "<init>", "()V"⟩
abbrev cX10_through : ByteArray := prog_12_method_2_code
def yX10_through : MethodName := ⟨RX10, "through", "(LOverHill$Dance;II)I"⟩
abbrev cX10_findMeeting : ByteArray := prog_12_method_3_code
def yX10_findMeeting : MethodName := ⟨RX10, "findMeeting", "(LOverHill$Dance;II)V"⟩
abbrev cX10_slowest : ByteArray := prog_12_method_4_code
def yX10_slowest : MethodName := ⟨RX10, "slowest", "(LOverHill$Dance;)I"⟩
def RX11 : String := "OverHill"
def TX11 : u_T := fun k => match k with
  | 0 => ("OverHill", "reader", "LOverHill$Reader;", true)
  | 1 => ("OverHill", "tape", "LOverHill$Tape;", true)
  | 2 => ("OverHill", "now", "LOverHill$Dance;", false)
  | 3 => ("OverHill", "spare", "LOverHill$Dance;", false)
  | 4 => ("OverHill", "images", "[LOverHill$Dance;", true)
  | 5 => ("OverHill", "kept", "[I", true)
  | 6 => ("OverHill", "floor", "LOverHill$Floor;", true)
  | 7 => ("OverHill", "trial", "LOverHill$Floor;", true)
  | 8 => ("OverHill", "laid", "Z", false)
  | 9 => ("OverHill", "rounds", "LOverHill$Rounds;", true)
  | 10 => ("OverHill", "guess", "LOverHill$Guess;", true)
  | 11 => ("OverHill", "wood", "LOverHill$Wood;", true)
  | 12 => ("OverHill", "tunes", "LOverHill$Tunes;", true)
  | 13 => ("OverHill", "games", "LOverHill$Game;", true)
  | 14 => ("OverHill", "night", "LOverHill$Night;", true)
  | _ => ("OverHill", "slots", "LOverHill$Slots;", true)
def tyX11 : Nat → FieldType := fun k => match k with
  | 0 => .object "OverHill$Reader"
  | 1 => .object "OverHill$Tape"
  | 2 => .object "OverHill$Dance"
  | 3 => .object "OverHill$Dance"
  | 4 => .array (.object "OverHill$Dance")
  | 5 => .array .int
  | 6 => .object "OverHill$Floor"
  | 7 => .object "OverHill$Floor"
  | 8 => .boolean
  | 9 => .object "OverHill$Rounds"
  | 10 => .object "OverHill$Guess"
  | 11 => .object "OverHill$Wood"
  | 12 => .object "OverHill$Tunes"
  | 13 => .object "OverHill$Game"
  | 14 => .object "OverHill$Night"
  | _ => .object "OverHill$Slots"
abbrev wsX110 : List Cond := u_ws RX11 TX11 16
theorem nmX11 : ∀ a, a < 16 → ∀ b, b < 16 → a ≠ b → (TX11 a).2.1 ≠ (TX11 b).2.1 := by decide +kernel
theorem tyX11_ok : ∀ k, k < 16 → parseFieldDescriptor (TX11 k).2.2.1 = some (tyX11 k) := by decide +kernel
abbrev cX11_init : ByteArray := prog_1_method_1_code
def yX11_init : MethodName := ⟨RX11, "<init>", "()V"⟩
abbrev cX11_feed : ByteArray := prog_1_method_2_code
def yX11_feed : MethodName := ⟨RX11, "feed", "(IIIII)I"⟩
abbrev cX11_end : ByteArray := prog_1_method_3_code
def yX11_end : MethodName := ⟨RX11, "end", "(I)I"⟩
abbrev cX11_dance : ByteArray := prog_1_method_4_code
def yX11_dance : MethodName := ⟨RX11, "dance", "()I"⟩
abbrev cX11_fault : ByteArray := prog_1_method_5_code
def yX11_fault : MethodName := ⟨RX11, "fault", "(I)I"⟩
abbrev cX11_step : ByteArray := prog_1_method_6_code
def yX11_step : MethodName := ⟨RX11, "step", "(II)I"⟩
abbrev cX11_answers : ByteArray := prog_1_method_7_code
def yX11_answers : MethodName := ⟨RX11, "answers", "(I)I"⟩
abbrev cX11_stumbled : ByteArray := prog_1_method_8_code
def yX11_stumbled : MethodName := ⟨RX11, "stumbled", "(II)I"⟩
abbrev cX11_muddy : ByteArray := prog_1_method_9_code
def yX11_muddy : MethodName := ⟨RX11, "muddy", "(I)I"⟩
abbrev cX11_place : ByteArray := prog_1_method_10_code
def yX11_place : MethodName := ⟨RX11, "place", "(II)I"⟩
abbrev cX11_danced : ByteArray := prog_1_method_11_code
def yX11_danced : MethodName := ⟨RX11, "danced", "(II)I"⟩
abbrev cX11_hears : ByteArray := prog_1_method_12_code
def yX11_hears : MethodName := ⟨RX11, "hears", "(II)I"⟩
abbrev cX11_late : ByteArray := prog_1_method_13_code
def yX11_late : MethodName := ⟨RX11, "late", "(II)I"⟩
abbrev cX11_hole : ByteArray := prog_1_method_14_code
def yX11_hole : MethodName := ⟨RX11, "hole", "(II)I"⟩
abbrev cX11_next : ByteArray := prog_1_method_15_code
def yX11_next : MethodName := ⟨RX11, "next", "(II)I"⟩
abbrev cX11_holes : ByteArray := prog_1_method_16_code
def yX11_holes : MethodName := ⟨RX11, "holes", "(III)I"⟩
abbrev cX11_run : ByteArray := prog_1_method_17_code
def yX11_run : MethodName := ⟨RX11, "run", "(II)I"⟩
abbrev cX11_begins : ByteArray := prog_1_method_18_code
def yX11_begins : MethodName := ⟨RX11, "begins", "(II)I"⟩
abbrev cX11_undoes : ByteArray := prog_1_method_19_code
def yX11_undoes : MethodName := ⟨RX11, "undoes", "(I)I"⟩
abbrev cX11_causes : ByteArray := prog_1_method_20_code
def yX11_causes : MethodName := ⟨RX11, "causes", "(II)I"⟩
abbrev cX11_period : ByteArray := prog_1_method_21_code
def yX11_period : MethodName := ⟨RX11, "period", "()I"⟩
abbrev cX11_meets : ByteArray := prog_1_method_22_code
def yX11_meets : MethodName := ⟨RX11, "meets", "(III)I"⟩
abbrev cX11_shifted : ByteArray := prog_1_method_23_code
def yX11_shifted : MethodName := ⟨RX11, "shifted", "(I)I"⟩
abbrev cX11_shift : ByteArray := prog_1_method_24_code
def yX11_shift : MethodName := ⟨RX11, "shift", "()I"⟩
abbrev cX11_least : ByteArray := prog_1_method_25_code
def yX11_least : MethodName := ⟨RX11, "least", "()I"⟩
abbrev cX11_mend : ByteArray := prog_1_method_26_code
def yX11_mend : MethodName := ⟨RX11, "mend", "(I)I"⟩
abbrev cX11_mended : ByteArray := prog_1_method_27_code
def yX11_mended : MethodName := ⟨RX11, "mended", "(II)I"⟩
abbrev cX11_stuck : ByteArray := prog_1_method_28_code
def yX11_stuck : MethodName := ⟨RX11, "stuck", "(I)I"⟩
abbrev cX11_heard : ByteArray := prog_1_method_29_code
def yX11_heard : MethodName := ⟨RX11, "heard", "(II)I"⟩
abbrev cX11_first : ByteArray := prog_1_method_30_code
def yX11_first : MethodName := ⟨RX11, "first", "(II)I"⟩
abbrev cX11_when : ByteArray := prog_1_method_31_code
def yX11_when : MethodName := ⟨RX11, "when", "(II)J"⟩
abbrev cX11_listen : ByteArray := prog_1_method_32_code
def yX11_listen : MethodName := ⟨RX11, "listen", "(II)I"⟩
abbrev cX11_leaves : ByteArray := prog_1_method_33_code
def yX11_leaves : MethodName := ⟨RX11, "leaves", "(II)I"⟩
abbrev cX11_crosses : ByteArray := prog_1_method_34_code
def yX11_crosses : MethodName := ⟨RX11, "crosses", "(I)I"⟩
abbrev cX11_returns : ByteArray := prog_1_method_35_code
def yX11_returns : MethodName := ⟨RX11, "returns", "(I)I"⟩
abbrev cX11_meet : ByteArray := prog_1_method_36_code
def yX11_meet : MethodName := ⟨RX11, "meet", "(II)I"⟩
abbrev cX11_cell : ByteArray := prog_1_method_37_code
def yX11_cell : MethodName := ⟨RX11, "cell", "(II)I"⟩
abbrev cX11_longest : ByteArray := prog_1_method_38_code
def yX11_longest : MethodName := ⟨RX11, "longest", "()I"⟩
abbrev cX11_half : ByteArray := prog_1_method_39_code
def yX11_half : MethodName := ⟨RX11, "half", "(I)I"⟩
abbrev cX11_fills : ByteArray := prog_1_method_40_code
def yX11_fills : MethodName := ⟨RX11, "fills", "(II)I"⟩
abbrev cX11_open : ByteArray := prog_1_method_41_code
def yX11_open : MethodName := ⟨RX11, "open", "(I)I"⟩
abbrev cX11_together : ByteArray := prog_1_method_42_code
def yX11_together : MethodName := ⟨RX11, "together", "(II)J"⟩
abbrev cX11_again : ByteArray := prog_1_method_43_code
def yX11_again : MethodName := ⟨RX11, "again", "(I)J"⟩
abbrev cX11_most : ByteArray := prog_1_method_44_code
def yX11_most : MethodName := ⟨RX11, "most", "()I"⟩
abbrev cX11_chorus : ByteArray := prog_1_method_45_code
def yX11_chorus : MethodName := ⟨RX11, "chorus", "()I"⟩
abbrev cX11_treaties : ByteArray := prog_1_method_46_code
def yX11_treaties : MethodName := ⟨RX11, "treaties", "()I"⟩
abbrev cX11_leads : ByteArray := prog_1_method_47_code
def yX11_leads : MethodName := ⟨RX11, "leads", "(I)I"⟩
abbrev cX11_game : ByteArray := prog_1_method_48_code
def yX11_game : MethodName := ⟨RX11, "game", "(I)I"⟩
abbrev cX11_plays : ByteArray := prog_1_method_49_code
def yX11_plays : MethodName := ⟨RX11, "plays", "(I)I"⟩
abbrev cX11_dry : ByteArray := prog_1_method_50_code
def yX11_dry : MethodName := ⟨RX11, "dry", "(II)J"⟩
abbrev cX11_wet : ByteArray := prog_1_method_51_code
def yX11_wet : MethodName := ⟨RX11, "wet", "(III)J"⟩
abbrev cX11_drawn : ByteArray := prog_1_method_52_code
def yX11_drawn : MethodName := ⟨RX11, "drawn", "(III)I"⟩
abbrev cX11_nights : ByteArray := prog_1_method_53_code
def yX11_nights : MethodName := ⟨RX11, "nights", "(III)I"⟩
abbrev cX11_stumble : ByteArray := prog_1_method_54_code
def yX11_stumble : MethodName := ⟨RX11, "stumble", "(IIII)I"⟩
abbrev cX11_mud : ByteArray := prog_1_method_55_code
def yX11_mud : MethodName := ⟨RX11, "mud", "(II)I"⟩
abbrev cX11_teach : ByteArray := prog_1_method_56_code
def yX11_teach : MethodName := ⟨RX11, "teach", "(III)I"⟩
abbrev cX11_undo : ByteArray := prog_1_method_57_code
def yX11_undo : MethodName := ⟨RX11, "undo", "()I"⟩
abbrev cX11_count : ByteArray := prog_1_method_58_code
def yX11_count : MethodName := ⟨RX11, "count", "(I)I"⟩
abbrev cX11_image : ByteArray := prog_1_method_59_code
def yX11_image : MethodName := ⟨RX11, "image", "(I)I"⟩
abbrev cX11_back : ByteArray := prog_1_method_60_code
def yX11_back : MethodName := ⟨RX11, "back", "(I)I"⟩
abbrev cX11_row : ByteArray := prog_1_method_61_code
def yX11_row : MethodName := ⟨RX11, "row", "(III)I"⟩
abbrev cX11_write : ByteArray := prog_1_method_62_code
def yX11_write : MethodName := ⟨RX11, "write", "(IIJ)I"⟩
abbrev cX11_paste : ByteArray := prog_1_method_63_code
def yX11_paste : MethodName := ⟨RX11, "paste", "(IIIII)I"⟩
abbrev cX11_has : ByteArray := prog_1_method_64_code
def yX11_has : MethodName := ⟨RX11, "has", "(II)Z"⟩
abbrev cX11_hasSpan : ByteArray := prog_1_method_65_code
def yX11_hasSpan : MethodName := ⟨RX11, "hasSpan", "(II)Z"⟩
abbrev cX11_hasRounds : ByteArray := prog_1_method_66_code
def yX11_hasRounds : MethodName := ⟨RX11, "hasRounds", "()Z"⟩
abbrev cX11_hasSet : ByteArray := prog_1_method_67_code
def yX11_hasSet : MethodName := ⟨RX11, "hasSet", "(I)Z"⟩
abbrev cX11_hasNight : ByteArray := prog_1_method_68_code
def yX11_hasNight : MethodName := ⟨RX11, "hasNight", "(II)Z"⟩
abbrev cX11_isWithin : ByteArray := prog_1_method_69_code
def yX11_isWithin : MethodName := ⟨RX11, "isWithin", "(II)Z"⟩
abbrev cX11_isSide : ByteArray := prog_1_method_70_code
def yX11_isSide : MethodName := ⟨RX11, "isSide", "(I)Z"⟩
abbrev cX11_isStep : ByteArray := prog_1_method_71_code
def yX11_isStep : MethodName := ⟨RX11, "isStep", "(I)Z"⟩
abbrev cX11_isBeat : ByteArray := prog_1_method_72_code
def yX11_isBeat : MethodName := ⟨RX11, "isBeat", "(I)Z"⟩
abbrev cX11_plainFloor : ByteArray := prog_1_method_73_code
def yX11_plainFloor : MethodName := ⟨RX11, "plainFloor", "()LOverHill$Floor;"⟩
abbrev cX11_listenTo : ByteArray := prog_1_method_74_code
def yX11_listenTo : MethodName := ⟨RX11, "listenTo", "(II)I"⟩
abbrev cX11_wrap : ByteArray := prog_1_method_75_code
def yX11_wrap : MethodName := ⟨RX11, "wrap", "(II)I"⟩
abbrev cX11_commonDivisor : ByteArray := prog_1_method_76_code
def yX11_commonDivisor : MethodName := ⟨RX11, "commonDivisor", "(JJ)J"⟩
abbrev cX11_commonMultiple : ByteArray := prog_1_method_77_code
def yX11_commonMultiple : MethodName := ⟨RX11, "commonMultiple", "(JJ)J"⟩
abbrev cX11_power : ByteArray := prog_1_method_78_code
def yX11_power : MethodName := ⟨RX11, "power", "(II)J"⟩
abbrev cX11_choices : ByteArray := prog_1_method_79_code
def yX11_choices : MethodName := ⟨RX11, "choices", "(II)J"⟩
def RX12 : String := "OverHillModel"
def TX12 : u_T := fun k => match k with
  | 0 => ("OverHillModel", "thrown", "I", false)
  | 1 => ("OverHillModel", "width", "[I", true)
  | 2 => ("OverHillModel", "many", "[I", true)
  | 3 => ("OverHillModel", "cells", "[J", true)
  | 4 => ("OverHillModel", "moved", "[J", true)
  | 5 => ("OverHillModel", "tape", "[B", true)
  | 6 => ("OverHillModel", "taped", "I", false)
  | 7 => ("OverHillModel", "at", "I", false)
  | 8 => ("OverHillModel", "token", "I", false)
  | 9 => ("OverHillModel", "place", "I", false)
  | 10 => ("OverHillModel", "value", "I", false)
  | 11 => ("OverHillModel", "word", "J", false)
  | 12 => ("OverHillModel", "bad", "I", false)
  | 13 => ("OverHillModel", "badPlace", "I", false)
  | 14 => ("OverHillModel", "fault", "I", false)
  | 15 => ("OverHillModel", "faultPlace", "I", false)
  | 16 => ("OverHillModel", "lines", "[I", true)
  | 17 => ("OverHillModel", "has", "[I", true)
  | 18 => ("OverHillModel", "round", "[I", true)
  | 19 => ("OverHillModel", "meets", "[I", true)
  | 20 => ("OverHillModel", "stumble", "[I", true)
  | 21 => ("OverHillModel", "isMud", "[Z", true)
  | 22 => ("OverHillModel", "cell", "[I", true)
  | 23 => ("OverHillModel", "tune", "[I", true)
  | 24 => ("OverHillModel", "change", "[I", true)
  | 25 => ("OverHillModel", "isKept", "[Z", true)
  | 26 => ("OverHillModel", "steps", "[I", true)
  | 27 => ("OverHillModel", "places", "[I", true)
  | 28 => ("OverHillModel", "danced", "[I", true)
  | 29 => ("OverHillModel", "runMost", "I", false)
  | 30 => ("OverHillModel", "runBegins", "I", false)
  | 31 => ("OverHillModel", "heardBy", "[I", true)
  | 32 => ("OverHillModel", "fitMany", "I", false)
  | 33 => ("OverHillModel", "fitFirst", "I", false)
  | 34 => ("OverHillModel", "fitBeats", "J", false)
  | 35 => ("OverHillModel", "listenLeaves", "I", false)
  | 36 => ("OverHillModel", "there", "[I", true)
  | 37 => ("OverHillModel", "metAt", "I", false)
  | 38 => ("OverHillModel", "metIn", "I", false)
  | 39 => ("OverHillModel", "wins", "[I", true)
  | 40 => ("OverHillModel", "nightHoles", "I", false)
  | 41 => ("OverHillModel", "nightFirst", "I", false)
  | 42 => ("OverHillModel", "nightMud", "I", false)
  | 43 => ("OverHillModel", "nightSlips", "I", false)
  | _ => ("OverHillModel", "drawnNow", "J", false)
def tyX12 : Nat → FieldType := fun k => match k with
  | 0 => .int
  | 1 => .array .int
  | 2 => .array .int
  | 3 => .array .long
  | 4 => .array .long
  | 5 => .array .byte
  | 6 => .int
  | 7 => .int
  | 8 => .int
  | 9 => .int
  | 10 => .int
  | 11 => .long
  | 12 => .int
  | 13 => .int
  | 14 => .int
  | 15 => .int
  | 16 => .array .int
  | 17 => .array .int
  | 18 => .array .int
  | 19 => .array .int
  | 20 => .array .int
  | 21 => .array .boolean
  | 22 => .array .int
  | 23 => .array .int
  | 24 => .array .int
  | 25 => .array .boolean
  | 26 => .array .int
  | 27 => .array .int
  | 28 => .array .int
  | 29 => .int
  | 30 => .int
  | 31 => .array .int
  | 32 => .int
  | 33 => .int
  | 34 => .long
  | 35 => .int
  | 36 => .array .int
  | 37 => .int
  | 38 => .int
  | 39 => .array .int
  | 40 => .int
  | 41 => .int
  | 42 => .int
  | 43 => .int
  | _ => .long
abbrev wsX120 : List Cond := u_ws RX12 TX12 45
theorem nmX12 : ∀ a, a < 45 → ∀ b, b < 45 → a ≠ b → (TX12 a).2.1 ≠ (TX12 b).2.1 := by decide +kernel
theorem tyX12_ok : ∀ k, k < 45 → parseFieldDescriptor (TX12 k).2.2.1 = some (tyX12 k) := by decide +kernel
def RJ6 : String := "java/lang/Integer"
abbrev cJ6_numberOfTrailingZeros_0f7a4 : ByteArray := prog_15_method_48_code
def yJ6_numberOfTrailingZeros_0f7a4 : MethodName := ⟨RJ6, "numberOfTrailingZeros", "(I)I"⟩
abbrev cJ6_bitCount_0f7a4 : ByteArray := prog_15_method_49_code
def yJ6_bitCount_0f7a4 : MethodName := ⟨RJ6, "bitCount", "(I)I"⟩
def RJ9 : String := "java/lang/Math"
abbrev cJ9_floorMod_7cf53 : ByteArray := prog_16_method_50_code
def yJ9_floorMod_7cf53 : MethodName := ⟨RJ9, "floorMod", "(II)I"⟩
abbrev cJ9_floorMod_f86c9 : ByteArray := prog_16_method_52_code
def yJ9_floorMod_f86c9 : MethodName := ⟨RJ9, "floorMod", "(JJ)J"⟩
def RJ0 : String := "java/lang/String"
abbrev cJ0_length_8abf5 : ByteArray := prog_17_method_54_code
def yJ0_length_8abf5 : MethodName := ⟨RJ0, "length", "()I"⟩
abbrev cJ0_charAt_5068e : ByteArray := prog_17_method_56_code
def yJ0_charAt_5068e : MethodName := ⟨RJ0, "charAt", "(I)C"⟩
abbrev cJ0_coder_7d493 : ByteArray := prog_17_method_152_code
def yJ0_coder_7d493 : MethodName := ⟨RJ0, "coder", "()B"⟩
abbrev cJ0_isLatin1_aae02 : ByteArray := prog_17_method_154_code
def yJ0_isLatin1_aae02 : MethodName := ⟨RJ0, "isLatin1", "()Z"⟩
abbrev cJ0_checkIndex_df160 : ByteArray := prog_17_method_155_code
def yJ0_checkIndex_df160 : MethodName := ⟨RJ0, "checkIndex", "(II)V"⟩
def RJ1 : String := "java/lang/StringLatin1"
abbrev cJ1_charAt_3b067 : ByteArray := prog_18_method_2_code
def yJ1_charAt_3b067 : MethodName := ⟨RJ1, "charAt", "([BI)C"⟩
def RJ2 : String := "java/lang/StringUTF16"
abbrev cJ2_getChar_3b067 : ByteArray := prog_19_method_5_code
def yJ2_getChar_3b067 : MethodName := ⟨RJ2, "getChar", "([BI)C"⟩
abbrev cJ2_length_9d52b : ByteArray := prog_19_method_6_code
def yJ2_length_9d52b : MethodName := ⟨RJ2, "length", "([B)I"⟩
abbrev cJ2_charAt_3b067 : ByteArray := prog_19_method_83_code
def yJ2_charAt_3b067 : MethodName := ⟨RJ2, "charAt", "([BI)C"⟩
abbrev cJ2_checkIndex_2214a : ByteArray := prog_19_method_91_code
def yJ2_checkIndex_2214a : MethodName := ⟨RJ2, "checkIndex", "(I[B)V"⟩
def RJ7 : String := "java/util/Arrays"
abbrev cJ7_fill_53178 : ByteArray := prog_21_method_103_code
def yJ7_fill_53178 : MethodName := ⟨RJ7, "fill", "([II)V"⟩
def RJ3 : String := "jdk/internal/util/Preconditions"
abbrev cJ3_checkIndex_8e157 : ByteArray := prog_22_method_11_code
def yJ3_checkIndex_8e157 : MethodName := ⟨RJ3, "checkIndex", "(IILjava/util/function/BiFunction;)I"⟩
def RL : String := "OverHillLaw"
def wsX0_init : List Cond := .code yX0_init cX0_init 1 none :: ([.methodLink RX0 3 objectInit, .instanceMethod objectInit, .code objectInit ⟨#[0xb1]⟩ 1 none, .arrayClass .int, .fieldLink RX0 9 "OverHill$Dance" "steps" "[I", .fieldLink RX0 15 "OverHill$Dance" "lengths" "[I", .fieldLink RX0 18 "OverHill$Dance" "starts" "[I", .fieldLink RX0 21 "OverHill$Dance" "met" "[I", .fieldLink RX0 24 "OverHill$Dance" "stumbles" "[I", .fieldLink RX0 27 "OverHill$Dance" "muds" "[I", .fieldLink RX0 30 "OverHill$Dance" "cells" "[I", .fieldLink RX0 33 "OverHill$Dance" "tunes" "[I", .fieldLink RX0 36 "OverHill$Dance" "changes" "[I"] ++ wsX00)
def wsJ7_fill_53178 : List Cond := .code yJ7_fill_53178 cJ7_fill_53178 4 none :: ([])
def wsX0_clear : List Cond := .code yX0_clear cX0_clear 1 none :: ([.fieldLink RX0 39 "OverHill$Dance" "gap" "I", .fieldLink RX0 43 "OverHill$Dance" "odds" "I", .fieldLink RX0 46 "OverHill$Dance" "rain" "I", .fieldLink RX0 49 "OverHill$Dance" "lines" "I", .fieldLink RX0 15 "OverHill$Dance" "lengths" "[I", .fieldLink RX0 18 "OverHill$Dance" "starts" "[I", .fieldLink RX0 21 "OverHill$Dance" "met" "[I", .fieldLink RX0 27 "OverHill$Dance" "muds" "[I", .fieldLink RX0 58 "OverHill$Dance" "stumbleCount" "I", .fieldLink RX0 61 "OverHill$Dance" "cellCount" "I", .fieldLink RX0 64 "OverHill$Dance" "tuneCount" "I", .fieldLink RX0 67 "OverHill$Dance" "changeCount" "I", .methodLink RX0 52 yJ7_fill_53178, .static yJ7_fill_53178, .initialized RJ7, .code yJ7_fill_53178 cJ7_fill_53178 4 none] ++ wsX00)
def wsX0_copyFrom : List Cond := .code yX0_copyFrom cX0_copyFrom 2 none :: ([.fieldLink RX0 39 "OverHill$Dance" "gap" "I", .fieldLink RX0 43 "OverHill$Dance" "odds" "I", .fieldLink RX0 46 "OverHill$Dance" "rain" "I", .fieldLink RX0 49 "OverHill$Dance" "lines" "I", .fieldLink RX0 58 "OverHill$Dance" "stumbleCount" "I", .fieldLink RX0 61 "OverHill$Dance" "cellCount" "I", .fieldLink RX0 64 "OverHill$Dance" "tuneCount" "I", .fieldLink RX0 67 "OverHill$Dance" "changeCount" "I", .fieldLink RX0 9 "OverHill$Dance" "steps" "[I", .methodLink RX0 70 arraycopyName, .native arraycopyName, .static arraycopyName, .initialized "java/lang/System", .fieldLink RX0 15 "OverHill$Dance" "lengths" "[I", .fieldLink RX0 18 "OverHill$Dance" "starts" "[I", .fieldLink RX0 21 "OverHill$Dance" "met" "[I", .fieldLink RX0 24 "OverHill$Dance" "stumbles" "[I", .fieldLink RX0 27 "OverHill$Dance" "muds" "[I", .fieldLink RX0 30 "OverHill$Dance" "cells" "[I", .fieldLink RX0 33 "OverHill$Dance" "tunes" "[I", .fieldLink RX0 36 "OverHill$Dance" "changes" "[I"] ++ wsX00)
def wsX0_stands : List Cond := .code yX0_stands cX0_stands 1 (some .boolean) :: ([.fieldLink RX0 49 "OverHill$Dance" "lines" "I"] ++ wsX00)
def wsX11_isWithin : List Cond := .code yX11_isWithin cX11_isWithin 2 (some .boolean) :: ([])
def wsX0_hasStumble : List Cond := .code yX0_hasStumble cX0_hasStumble 2 (some .boolean) :: ([.fieldLink RX0 58 "OverHill$Dance" "stumbleCount" "I", .static yX11_isWithin, .initialized RX11, .code yX11_isWithin cX11_isWithin 2 (some .boolean)] ++ wsX00)
def wsX0_countMuds : List Cond := .code yX0_countMuds cX0_countMuds 3 (some .int) :: ([.fieldLink RX0 27 "OverHill$Dance" "muds" "[I"] ++ wsX00)
def wsX1_init : List Cond := .code yX1_init cX1_init 1 none :: ([.methodLink RX1 3 objectInit, .instanceMethod objectInit, .code objectInit ⟨#[0xb1]⟩ 1 none, .arrayClass .int, .fieldLink RX1 9 "OverHill$Floor" "places" "[I", .fieldLink RX1 15 "OverHill$Floor" "steps" "[I", .fieldLink RX1 18 "OverHill$Floor" "stumbleIn" "[I"] ++ wsX10)
def wsX2_init : List Cond := .code yX2_init cX2_init 1 none :: ([.methodLink RX2 3 objectInit, .instanceMethod objectInit, .code objectInit ⟨#[0xb1]⟩ 1 none, .arrayClass .int, .fieldLink RX2 11 "OverHill$Game" "winning" "[I"] ++ wsX20)
def wsX3_init : List Cond := .code yX3_init cX3_init 1 none :: ([.methodLink RX3 3 objectInit, .instanceMethod objectInit, .code objectInit ⟨#[0xb1]⟩ 1 none, .arrayClass .int, .fieldLink RX3 9 "OverHill$Guess" "round" "[I", .fieldLink RX3 15 "OverHill$Guess" "lastUnlike" "[I", .fieldLink RX3 18 "OverHill$Guess" "places" "[I", .fieldLink RX3 21 "OverHill$Guess" "stepsIn" "[I", .fieldLink RX3 24 "OverHill$Guess" "passed" "[I", .fieldLink RX3 27 "OverHill$Guess" "classes" "[I"] ++ wsX30)
def wsX4_init : List Cond := .code yX4_init cX4_init 1 none :: ([.methodLink RX4 3 objectInit, .instanceMethod objectInit, .code objectInit ⟨#[0xb1]⟩ 1 none, .arrayClass .int, .fieldLink RX4 9 "OverHill$Night" "danced" "[I", .fieldLink RX4 15 "OverHill$Night" "places" "[I"] ++ wsX40)
def wsX8_init : List Cond := .code yX8_init cX8_init 1 none :: ([.methodLink RX8 3 objectInit, .instanceMethod objectInit, .code objectInit ⟨#[0xb1]⟩ 1 none, .arrayClass .byte, .fieldLink RX8 9 "OverHill$Tape" "bytes" "[B"] ++ wsX80)
def wsX5_init : List Cond := .code yX5_init cX5_init 1 none :: ([.methodLink RX5 3 objectInit, .instanceMethod objectInit, .code objectInit ⟨#[0xb1]⟩ 1 none, .classLink RX5 9 RX8, .instantiable RX8 6, .initialized RX8, .fieldLink RX5 12 "OverHill$Reader" "tape" "LOverHill$Tape;", .fieldLink RX5 18 "OverHill$Reader" "faultPlace" "I", .instanceMethod yX8_init, .code yX8_init cX8_init 1 none, .methodLink RX8 3 objectInit, .arrayClass .byte, .fieldLink RX8 9 "OverHill$Tape" "bytes" "[B"] ++ wsX80 ++ wsX50)
def wsX8_advance : List Cond := .code yX8_advance cX8_advance 1 none :: ([.fieldLink RX8 19 "OverHill$Tape" "upto" "I", .fieldLink RX8 25 "OverHill$Tape" "from" "I", .fieldLink RX8 15 "OverHill$Tape" "length" "I", .fieldLink RX8 9 "OverHill$Tape" "bytes" "[B", .fieldLink RX8 32 "OverHill$Tape" "value" "I", .fieldLink RX8 35 "OverHill$Tape" "kind" "I", .methodLink RX8 38 Lib.Math.min.name, .static Lib.Math.min.name, .initialized "java/lang/Math", .code Lib.Math.min.name Lib.Math.min.code 2 (some .int), .methodLink RX8 28 yX8_kindOf, .static yX8_kindOf, .initialized RX8, .code yX8_kindOf cX8_kindOf 1 (some .int)] ++ wsX80)
def wsX8_rewind : List Cond := .code yX8_rewind cX8_rewind 1 none :: ([.fieldLink RX8 19 "OverHill$Tape" "upto" "I", .methodLink RX8 22 yX8_advance, .instanceMethod yX8_advance, .selects RX8 yX8_advance yX8_advance, .initialized RX8, .code yX8_advance cX8_advance 1 none, .fieldLink RX8 25 "OverHill$Tape" "from" "I", .fieldLink RX8 15 "OverHill$Tape" "length" "I", .fieldLink RX8 9 "OverHill$Tape" "bytes" "[B", .fieldLink RX8 32 "OverHill$Tape" "value" "I", .fieldLink RX8 35 "OverHill$Tape" "kind" "I", .methodLink RX8 38 Lib.Math.min.name, .static Lib.Math.min.name, .initialized "java/lang/Math", .code Lib.Math.min.name Lib.Math.min.code 2 (some .int), .methodLink RX8 28 yX8_kindOf, .static yX8_kindOf, .code yX8_kindOf cX8_kindOf 1 (some .int)] ++ wsX80)
def wsX5_read_r1 : List Cond := [Cond.fieldLink RX5 27 "OverHill$Reader" "fault" "I", Cond.fieldLink RX5 18 "OverHill$Reader" "faultPlace" "I", Cond.fieldLink RX5 12 "OverHill$Reader" "tape" "LOverHill$Tape;", Cond.fieldLink RX5 33 "OverHill$Tape" "kind" "I", Cond.fieldLink RX5 43 "OverHill$Dance" "lines" "I", Cond.methodLink RX5 22 yX0_clear, Cond.instanceMethod yX0_clear, Cond.selects RX0 yX0_clear yX0_clear, Cond.initialized RX0, Cond.code yX0_clear cX0_clear 1 none, Cond.fieldLink RX0 39 "OverHill$Dance" "gap" "I", Cond.fieldLink RX0 43 "OverHill$Dance" "odds" "I", Cond.fieldLink RX0 46 "OverHill$Dance" "rain" "I", Cond.fieldLink RX0 49 "OverHill$Dance" "lines" "I", Cond.fieldLink RX0 15 "OverHill$Dance" "lengths" "[I", Cond.fieldLink RX0 18 "OverHill$Dance" "starts" "[I", Cond.fieldLink RX0 21 "OverHill$Dance" "met" "[I", Cond.fieldLink RX0 27 "OverHill$Dance" "muds" "[I", Cond.fieldLink RX0 58 "OverHill$Dance" "stumbleCount" "I", Cond.fieldLink RX0 61 "OverHill$Dance" "cellCount" "I", Cond.fieldLink RX0 64 "OverHill$Dance" "tuneCount" "I", Cond.fieldLink RX0 67 "OverHill$Dance" "changeCount" "I", Cond.methodLink RX0 52 yJ7_fill_53178, Cond.static yJ7_fill_53178]
def wsX5_read_r2 : List Cond := [Cond.initialized RJ7, Cond.code yJ7_fill_53178 cJ7_fill_53178 4 none, Cond.methodLink RX5 30 yX8_rewind, Cond.instanceMethod yX8_rewind, Cond.selects RX8 yX8_rewind yX8_rewind, Cond.initialized RX8, Cond.code yX8_rewind cX8_rewind 1 none, Cond.fieldLink RX8 19 "OverHill$Tape" "upto" "I", Cond.methodLink RX8 22 yX8_advance, Cond.instanceMethod yX8_advance, Cond.selects RX8 yX8_advance yX8_advance, Cond.code yX8_advance cX8_advance 1 none, Cond.fieldLink RX8 25 "OverHill$Tape" "from" "I", Cond.fieldLink RX8 15 "OverHill$Tape" "length" "I", Cond.fieldLink RX8 9 "OverHill$Tape" "bytes" "[B", Cond.fieldLink RX8 32 "OverHill$Tape" "value" "I", Cond.fieldLink RX8 35 "OverHill$Tape" "kind" "I", Cond.methodLink RX8 38 Lib.Math.min.name, Cond.static Lib.Math.min.name, Cond.initialized "java/lang/Math", Cond.code Lib.Math.min.name Lib.Math.min.code 2 (some .int), Cond.methodLink RX8 28 yX8_kindOf, Cond.static yX8_kindOf, Cond.code yX8_kindOf cX8_kindOf 1 (some .int)]
def wsX5_read_r3 : List Cond := [Cond.methodLink RX5 36 yX5_readLine, Cond.instanceMethod yX5_readLine, Cond.selects RX5 yX5_readLine yX5_readLine, Cond.initialized RX5, Cond.code yX5_readLine cX5_readLine 3 none, Cond.fieldLink RX5 52 "OverHill$Tape" "from" "I", Cond.methodLink RX5 48 yX8_isWord, Cond.instanceMethod yX8_isWord, Cond.selects RX8 yX8_isWord yX8_isWord, Cond.code yX8_isWord cX8_isWord 3 (some .boolean), Cond.methodLink RX8 44 yJ0_length_8abf5, Cond.instanceMethod yJ0_length_8abf5, Cond.selects RJ0 yJ0_length_8abf5 yJ0_length_8abf5, Cond.initialized RJ0, Cond.code yJ0_length_8abf5 cJ0_length_8abf5 1 (some .int), Cond.fieldLink RJ0 9 "java/lang/String" "value" "[B", Cond.methodLink RJ0 335 yJ0_coder_7d493, Cond.instanceMethod yJ0_coder_7d493, Cond.selects RJ0 yJ0_coder_7d493 yJ0_coder_7d493, Cond.code yJ0_coder_7d493 cJ0_coder_7d493 1 (some .byte), Cond.fieldLink RJ0 38 "java/lang/String" "COMPACT_STRINGS" "Z", Cond.fieldLink RJ0 15 "java/lang/String" "coder" "B", Cond.methodLink RX8 49 yJ0_charAt_5068e, Cond.instanceMethod yJ0_charAt_5068e]
def wsX5_read_r4 : List Cond := [Cond.selects RJ0 yJ0_charAt_5068e yJ0_charAt_5068e, Cond.code yJ0_charAt_5068e cJ0_charAt_5068e 2 (some .char), Cond.methodLink RJ0 492 yJ0_isLatin1_aae02, Cond.instanceMethod yJ0_isLatin1_aae02, Cond.selects RJ0 yJ0_isLatin1_aae02 yJ0_isLatin1_aae02, Cond.code yJ0_isLatin1_aae02 cJ0_isLatin1_aae02 1 (some .boolean), Cond.methodLink RJ0 495 yJ1_charAt_3b067, Cond.static yJ1_charAt_3b067, Cond.initialized RJ1, Cond.code yJ1_charAt_3b067 cJ1_charAt_3b067 2 (some .char), Cond.methodLink RJ1 9 yJ0_checkIndex_df160, Cond.static yJ0_checkIndex_df160, Cond.code yJ0_checkIndex_df160 cJ0_checkIndex_df160 2 none, Cond.fieldLink RJ0 1053 "jdk/internal/util/Preconditions" "SIOOBE_FORMATTER" "Ljava/util/function/BiFunction;", Cond.methodLink RJ0 1059 yJ3_checkIndex_8e157, Cond.static yJ3_checkIndex_8e157, Cond.initialized RJ3, Cond.code yJ3_checkIndex_8e157 cJ3_checkIndex_8e157 3 (some .int), Cond.methodLink RJ0 498 yJ2_charAt_3b067, Cond.static yJ2_charAt_3b067, Cond.initialized RJ2, Cond.code yJ2_charAt_3b067 cJ2_charAt_3b067 2 (some .char), Cond.methodLink RJ2 67 yJ2_checkIndex_2214a, Cond.static yJ2_checkIndex_2214a]
def wsX5_read_r5 : List Cond := [Cond.code yJ2_checkIndex_2214a cJ2_checkIndex_2214a 2 none, Cond.methodLink RJ2 48 yJ2_length_9d52b, Cond.static yJ2_length_9d52b, Cond.code yJ2_length_9d52b cJ2_length_9d52b 1 (some .int), Cond.methodLink RJ2 414 yJ0_checkIndex_df160, Cond.methodLink RJ2 71 yJ2_getChar_3b067, Cond.static yJ2_getChar_3b067, Cond.code yJ2_getChar_3b067 cJ2_getChar_3b067 2 (some .char), Cond.fieldLink RJ2 44 "java/lang/StringUTF16" "$assertionsDisabled" "Z", Cond.fieldLink RJ2 59 "java/lang/StringUTF16" "HI_BYTE_SHIFT" "I", Cond.fieldLink RJ2 63 "java/lang/StringUTF16" "LO_BYTE_SHIFT" "I", Cond.methodLink RX5 55 yX5_fail, Cond.instanceMethod yX5_fail, Cond.selects RX5 yX5_fail yX5_fail, Cond.code yX5_fail cX5_fail 3 none, Cond.methodLink RX5 59 yX5_readDance, Cond.instanceMethod yX5_readDance, Cond.selects RX5 yX5_readDance yX5_readDance, Cond.code yX5_readDance cX5_readDance 2 none, Cond.fieldLink RX5 105 "OverHill$Dance" "gap" "I", Cond.fieldLink RX5 109 "OverHill$Dance" "odds" "I", Cond.fieldLink RX5 113 "OverHill$Dance" "rain" "I", Cond.methodLink RX5 92 yX8_advance, Cond.methodLink RX5 97 yX5_takeWord]
def wsX5_read_r6 : List Cond := [Cond.instanceMethod yX5_takeWord, Cond.selects RX5 yX5_takeWord yX5_takeWord, Cond.code yX5_takeWord cX5_takeWord 2 none, Cond.methodLink RX5 101 yX5_takeNumber, Cond.instanceMethod yX5_takeNumber, Cond.selects RX5 yX5_takeNumber yX5_takeNumber, Cond.code yX5_takeNumber cX5_takeNumber 4 (some .int), Cond.fieldLink RX5 175 "OverHill$Tape" "value" "I", Cond.fieldLink RX5 121 "OverHill$Reader" "numberPlace" "I", Cond.methodLink RX5 64 yX5_readRound, Cond.instanceMethod yX5_readRound, Cond.selects RX5 yX5_readRound yX5_readRound, Cond.code yX5_readRound cX5_readRound 6 none, Cond.fieldLink RX5 124 "OverHill$Dance" "steps" "[I", Cond.fieldLink RX5 130 "OverHill$Dance" "starts" "[I", Cond.fieldLink RX5 133 "OverHill$Dance" "lengths" "[I", Cond.methodLink RX5 117 yX5_seesNumber, Cond.instanceMethod yX5_seesNumber, Cond.selects RX5 yX5_seesNumber yX5_seesNumber, Cond.code yX5_seesNumber cX5_seesNumber 1 (some .boolean), Cond.methodLink RX5 69 yX5_readAnswers, Cond.instanceMethod yX5_readAnswers, Cond.selects RX5 yX5_readAnswers yX5_readAnswers, Cond.code yX5_readAnswers cX5_readAnswers 5 none]
def wsX5_read_r7 : List Cond := [Cond.fieldLink RX5 136 "OverHill$Dance" "met" "[I", Cond.methodLink RX5 74 yX5_readStumble, Cond.instanceMethod yX5_readStumble, Cond.selects RX5 yX5_readStumble yX5_readStumble, Cond.code yX5_readStumble cX5_readStumble 6 none, Cond.fieldLink RX5 139 "OverHill$Dance" "stumbleCount" "I", Cond.methodLink RX5 142 yX5_beginOneOf, Cond.instanceMethod yX5_beginOneOf, Cond.selects RX5 yX5_beginOneOf yX5_beginOneOf, Cond.code yX5_beginOneOf cX5_beginOneOf 3 none, Cond.methodLink RX5 147 yX0_stumbleOf, Cond.instanceMethod yX0_stumbleOf, Cond.selects RX0 yX0_stumbleOf yX0_stumbleOf, Cond.code yX0_stumbleOf cX0_stumbleOf 5 (some .int), Cond.fieldLink RX0 24 "OverHill$Dance" "stumbles" "[I", Cond.methodLink RX5 154 yX0_addStumble, Cond.instanceMethod yX0_addStumble, Cond.selects RX0 yX0_addStumble yX0_addStumble, Cond.code yX0_addStumble cX0_addStumble 6 none, Cond.methodLink RX5 79 yX5_readMud, Cond.instanceMethod yX5_readMud, Cond.selects RX5 yX5_readMud yX5_readMud, Cond.code yX5_readMud cX5_readMud 3 none, Cond.fieldLink RX5 158 "OverHill$Dance" "muds" "[I"]
def wsX5_read_r8 : List Cond := [Cond.methodLink RX5 84 yX5_readWood, Cond.instanceMethod yX5_readWood, Cond.selects RX5 yX5_readWood yX5_readWood, Cond.code yX5_readWood cX5_readWood 3 none, Cond.fieldLink RX5 161 "OverHill$Dance" "cellCount" "I", Cond.methodLink RX5 166 yX0_addCell, Cond.instanceMethod yX0_addCell, Cond.selects RX0 yX0_addCell yX0_addCell, Cond.code yX0_addCell cX0_addCell 3 none, Cond.fieldLink RX0 30 "OverHill$Dance" "cells" "[I", Cond.methodLink RX5 89 yX5_readTune, Cond.instanceMethod yX5_readTune, Cond.selects RX5 yX5_readTune yX5_readTune, Cond.code yX5_readTune cX5_readTune 3 none, Cond.fieldLink RX5 169 "OverHill$Dance" "tuneCount" "I", Cond.methodLink RX5 172 yX0_addTune, Cond.instanceMethod yX0_addTune, Cond.selects RX0 yX0_addTune yX0_addTune, Cond.code yX0_addTune cX0_addTune 3 none, Cond.fieldLink RX0 33 "OverHill$Dance" "tunes" "[I", Cond.methodLink RX5 40 yX5_takeSemicolon, Cond.instanceMethod yX5_takeSemicolon, Cond.selects RX5 yX5_takeSemicolon yX5_takeSemicolon, Cond.code yX5_takeSemicolon cX5_takeSemicolon 1 none]
def wsX5_read : List Cond := .code yX5_read cX5_read 3 (some .boolean) :: ((wsX5_read_r1 ++ (wsX5_read_r2 ++ (wsX5_read_r3 ++ (wsX5_read_r4 ++ (wsX5_read_r5 ++ (wsX5_read_r6 ++ (wsX5_read_r7 ++ wsX5_read_r8))))))) ++ wsX50 ++ wsX80 ++ wsX00)
def wsX6_init : List Cond := .code yX6_init cX6_init 1 none :: ([.methodLink RX6 3 objectInit, .instanceMethod objectInit, .code objectInit ⟨#[0xb1]⟩ 1 none, .arrayClass .int, .fieldLink RX6 9 "OverHill$Rounds" "fits" "[I"] ++ wsX60)
def wsX7_init : List Cond := .code yX7_init cX7_init 1 none :: ([.methodLink RX7 3 objectInit, .instanceMethod objectInit, .code objectInit ⟨#[0xb1]⟩ 1 none, .arrayClass .int, .fieldLink RX7 11 "OverHill$Slots" "widths" "[I", .fieldLink RX7 15 "OverHill$Slots" "sizes" "[I", .arrayClass .long, .fieldLink RX7 18 "OverHill$Slots" "numbers" "[J"] ++ wsX70)
def wsX7_isSlot : List Cond := .code yX7_isSlot cX7_isSlot 1 (some .boolean) :: ([.static yX11_isWithin, .initialized RX11, .code yX11_isWithin cX11_isWithin 2 (some .boolean)])
def wsX7_has : List Cond := .code yX7_has cX7_has 2 (some .boolean) :: ([.fieldLink RX7 15 "OverHill$Slots" "sizes" "[I"] ++ wsX70)
def wsX7_countRows : List Cond := .code yX7_countRows cX7_countRows 3 (some .int) :: ([.methodLink RX7 26 yX7_has, .instanceMethod yX7_has, .selects RX7 yX7_has yX7_has, .initialized RX7, .code yX7_has cX7_has 2 (some .boolean), .fieldLink RX7 15 "OverHill$Slots" "sizes" "[I"] ++ wsX70)
def wsX7_make : List Cond := .code yX7_make cX7_make 5 none :: ([.fieldLink RX7 11 "OverHill$Slots" "widths" "[I", .fieldLink RX7 15 "OverHill$Slots" "sizes" "[I", .fieldLink RX7 18 "OverHill$Slots" "numbers" "[J"] ++ wsX70)
def wsX7_refusalOfSteps_r1 : List Cond := [Cond.fieldLink RX7 15 "OverHill$Slots" "sizes" "[I", Cond.methodLink RX7 40 yX7_isSlot, Cond.static yX7_isSlot, Cond.initialized RX7, Cond.code yX7_isSlot cX7_isSlot 1 (some .boolean), Cond.static yX11_isWithin, Cond.initialized RX11, Cond.code yX11_isWithin cX11_isWithin 2 (some .boolean), Cond.methodLink RX7 26 yX7_has, Cond.instanceMethod yX7_has, Cond.selects RX7 yX7_has yX7_has, Cond.code yX7_has cX7_has 2 (some .boolean), Cond.methodLink RX7 43 yX7_at, Cond.instanceMethod yX7_at, Cond.selects RX7 yX7_at yX7_at, Cond.code yX7_at cX7_at 3 (some .long), Cond.fieldLink RX7 18 "OverHill$Slots" "numbers" "[J", Cond.methodLink RX7 53 yX7_isTold, Cond.static yX7_isTold, Cond.code yX7_isTold cX7_isTold 2 (some .boolean), Cond.constantLong RX7 60 (-1), Cond.constantLong RX7 70 (5), Cond.methodLink RX7 49 yX7_isBetween, Cond.static yX7_isBetween]
def wsX7_refusalOfSteps_r2 : List Cond := [Cond.code yX7_isBetween cX7_isBetween 6 (some .boolean)]
def wsX7_refusalOfSteps : List Cond := .code yX7_refusalOfSteps cX7_refusalOfSteps 3 (some .int) :: ((wsX7_refusalOfSteps_r1 ++ wsX7_refusalOfSteps_r2) ++ wsX70)
def wsX8_push : List Cond := .code yX8_push cX8_push 3 none :: ([.fieldLink RX8 15 "OverHill$Tape" "length" "I", .fieldLink RX8 9 "OverHill$Tape" "bytes" "[B"] ++ wsX80)
def wsX9_init : List Cond := .code yX9_init cX9_init 1 none :: ([.methodLink RX9 3 objectInit, .instanceMethod objectInit, .code objectInit ⟨#[0xb1]⟩ 1 none])
def wsX10_init : List Cond := .code yX10_init cX10_init 1 none :: ([.methodLink RX10 3 objectInit, .instanceMethod objectInit, .code objectInit ⟨#[0xb1]⟩ 1 none, .arrayClass .int, .fieldLink RX10 9 "OverHill$Wood" "arrivals" "[I"] ++ wsX100)
def wsX11_init_r1 : List Cond := [Cond.methodLink RX11 1 objectInit, Cond.instanceMethod objectInit, Cond.code objectInit ⟨#[0xb1]⟩ 1 none, Cond.classLink RX11 7 RX5, Cond.instantiable RX5 4, Cond.initialized RX5, Cond.fieldLink RX11 10 "OverHill" "reader" "LOverHill$Reader;", Cond.fieldLink RX11 16 "OverHill$Reader" "tape" "LOverHill$Tape;", Cond.fieldLink RX11 20 "OverHill" "tape" "LOverHill$Tape;", Cond.classLink RX11 21 RX0, Cond.instantiable RX0 17, Cond.initialized RX0, Cond.fieldLink RX11 24 "OverHill" "now" "LOverHill$Dance;", Cond.fieldLink RX11 28 "OverHill" "spare" "LOverHill$Dance;", Cond.fieldLink RX11 31 "OverHill" "images" "[LOverHill$Dance;", Cond.arrayClass .int, Cond.fieldLink RX11 35 "OverHill" "kept" "[I", Cond.classLink RX11 39 RX1, Cond.instantiable RX1 6, Cond.initialized RX1, Cond.fieldLink RX11 42 "OverHill" "floor" "LOverHill$Floor;", Cond.fieldLink RX11 46 "OverHill" "trial" "LOverHill$Floor;", Cond.fieldLink RX11 49 "OverHill" "laid" "Z", Cond.classLink RX11 53 RX6]
def wsX11_init_r2 : List Cond := [Cond.instantiable RX6 1, Cond.initialized RX6, Cond.fieldLink RX11 56 "OverHill" "rounds" "LOverHill$Rounds;", Cond.classLink RX11 60 RX3, Cond.instantiable RX3 12, Cond.initialized RX3, Cond.fieldLink RX11 63 "OverHill" "guess" "LOverHill$Guess;", Cond.classLink RX11 67 RX10, Cond.instantiable RX10 3, Cond.initialized RX10, Cond.fieldLink RX11 70 "OverHill" "wood" "LOverHill$Wood;", Cond.classLink RX11 74 RX9, Cond.instantiable RX9 2, Cond.initialized RX9, Cond.fieldLink RX11 77 "OverHill" "tunes" "LOverHill$Tunes;", Cond.classLink RX11 81 RX2, Cond.instantiable RX2 1, Cond.initialized RX2, Cond.fieldLink RX11 84 "OverHill" "games" "LOverHill$Game;", Cond.classLink RX11 88 RX4, Cond.instantiable RX4 7, Cond.initialized RX4, Cond.fieldLink RX11 91 "OverHill" "night" "LOverHill$Night;", Cond.classLink RX11 95 RX7]
def wsX11_init_r3 : List Cond := [Cond.instantiable RX7 3, Cond.initialized RX7, Cond.fieldLink RX11 98 "OverHill" "slots" "LOverHill$Slots;", Cond.instanceMethod yX5_init, Cond.code yX5_init cX5_init 1 none, Cond.methodLink RX5 3 objectInit, Cond.classLink RX5 9 RX8, Cond.instantiable RX8 6, Cond.initialized RX8, Cond.fieldLink RX5 12 "OverHill$Reader" "tape" "LOverHill$Tape;", Cond.fieldLink RX5 18 "OverHill$Reader" "faultPlace" "I", Cond.instanceMethod yX8_init, Cond.code yX8_init cX8_init 1 none, Cond.methodLink RX8 3 objectInit, Cond.arrayClass .byte, Cond.fieldLink RX8 9 "OverHill$Tape" "bytes" "[B", Cond.instanceMethod yX0_init, Cond.code yX0_init cX0_init 1 none, Cond.methodLink RX0 3 objectInit, Cond.fieldLink RX0 9 "OverHill$Dance" "steps" "[I", Cond.fieldLink RX0 15 "OverHill$Dance" "lengths" "[I", Cond.fieldLink RX0 18 "OverHill$Dance" "starts" "[I", Cond.fieldLink RX0 21 "OverHill$Dance" "met" "[I", Cond.fieldLink RX0 24 "OverHill$Dance" "stumbles" "[I"]
def wsX11_init_r4 : List Cond := [Cond.fieldLink RX0 27 "OverHill$Dance" "muds" "[I", Cond.fieldLink RX0 30 "OverHill$Dance" "cells" "[I", Cond.fieldLink RX0 33 "OverHill$Dance" "tunes" "[I", Cond.fieldLink RX0 36 "OverHill$Dance" "changes" "[I", Cond.instanceMethod yX1_init, Cond.code yX1_init cX1_init 1 none, Cond.methodLink RX1 3 objectInit, Cond.fieldLink RX1 9 "OverHill$Floor" "places" "[I", Cond.fieldLink RX1 15 "OverHill$Floor" "steps" "[I", Cond.fieldLink RX1 18 "OverHill$Floor" "stumbleIn" "[I", Cond.instanceMethod yX6_init, Cond.code yX6_init cX6_init 1 none, Cond.methodLink RX6 3 objectInit, Cond.fieldLink RX6 9 "OverHill$Rounds" "fits" "[I", Cond.instanceMethod yX3_init, Cond.code yX3_init cX3_init 1 none, Cond.methodLink RX3 3 objectInit, Cond.fieldLink RX3 9 "OverHill$Guess" "round" "[I", Cond.fieldLink RX3 15 "OverHill$Guess" "lastUnlike" "[I", Cond.fieldLink RX3 18 "OverHill$Guess" "places" "[I", Cond.fieldLink RX3 21 "OverHill$Guess" "stepsIn" "[I", Cond.fieldLink RX3 24 "OverHill$Guess" "passed" "[I", Cond.fieldLink RX3 27 "OverHill$Guess" "classes" "[I", Cond.instanceMethod yX10_init]
def wsX11_init_r5 : List Cond := [Cond.code yX10_init cX10_init 1 none, Cond.methodLink RX10 3 objectInit, Cond.fieldLink RX10 9 "OverHill$Wood" "arrivals" "[I", Cond.instanceMethod yX9_init, Cond.code yX9_init cX9_init 1 none, Cond.methodLink RX9 3 objectInit, Cond.instanceMethod yX2_init, Cond.code yX2_init cX2_init 1 none, Cond.methodLink RX2 3 objectInit, Cond.fieldLink RX2 11 "OverHill$Game" "winning" "[I", Cond.instanceMethod yX4_init, Cond.code yX4_init cX4_init 1 none, Cond.methodLink RX4 3 objectInit, Cond.fieldLink RX4 9 "OverHill$Night" "danced" "[I", Cond.fieldLink RX4 15 "OverHill$Night" "places" "[I", Cond.instanceMethod yX7_init, Cond.code yX7_init cX7_init 1 none, Cond.methodLink RX7 3 objectInit, Cond.fieldLink RX7 11 "OverHill$Slots" "widths" "[I", Cond.fieldLink RX7 15 "OverHill$Slots" "sizes" "[I", Cond.arrayClass .long, Cond.fieldLink RX7 18 "OverHill$Slots" "numbers" "[J"]
def wsX11_init : List Cond := .code yX11_init cX11_init 2 none :: ((wsX11_init_r1 ++ (wsX11_init_r2 ++ (wsX11_init_r3 ++ (wsX11_init_r4 ++ wsX11_init_r5)))) ++ wsX50 ++ wsX110 ++ wsX00 ++ wsX10 ++ wsX60 ++ wsX30 ++ wsX100 ++ wsX90 ++ wsX20 ++ wsX40 ++ wsX70 ++ wsX80)
def wsX11_feed : List Cond := .code yX11_feed cX11_feed 6 (some .int) :: ([.fieldLink RX11 20 "OverHill" "tape" "LOverHill$Tape;", .fieldLink RX11 102 "OverHill$Tape" "length" "I", .methodLink RX11 108 yX8_push, .instanceMethod yX8_push, .selects RX8 yX8_push yX8_push, .initialized RX8, .code yX8_push cX8_push 3 none, .fieldLink RX8 15 "OverHill$Tape" "length" "I", .fieldLink RX8 9 "OverHill$Tape" "bytes" "[B"] ++ wsX110 ++ wsX80)
def wsX11_end : List Cond := .code yX11_end cX11_end 2 (some .int) :: ([.fieldLink RX11 20 "OverHill" "tape" "LOverHill$Tape;", .fieldLink RX11 102 "OverHill$Tape" "length" "I"] ++ wsX110 ++ wsX80)
def wsX11_dance_r1 : List Cond := [Cond.fieldLink RX11 10 "OverHill" "reader" "LOverHill$Reader;", Cond.fieldLink RX11 28 "OverHill" "spare" "LOverHill$Dance;", Cond.fieldLink RX11 24 "OverHill" "now" "LOverHill$Dance;", Cond.fieldLink RX11 20 "OverHill" "tape" "LOverHill$Tape;", Cond.fieldLink RX11 102 "OverHill$Tape" "length" "I", Cond.fieldLink RX11 49 "OverHill" "laid" "Z", Cond.fieldLink RX11 116 "OverHill$Dance" "lines" "I", Cond.methodLink RX11 112 yX5_read, Cond.instanceMethod yX5_read, Cond.selects RX5 yX5_read yX5_read, Cond.initialized RX5, Cond.code yX5_read cX5_read 3 (some .boolean), Cond.fieldLink RX5 27 "OverHill$Reader" "fault" "I", Cond.fieldLink RX5 18 "OverHill$Reader" "faultPlace" "I", Cond.fieldLink RX5 12 "OverHill$Reader" "tape" "LOverHill$Tape;", Cond.fieldLink RX5 33 "OverHill$Tape" "kind" "I", Cond.fieldLink RX5 43 "OverHill$Dance" "lines" "I", Cond.methodLink RX5 22 yX0_clear, Cond.instanceMethod yX0_clear, Cond.selects RX0 yX0_clear yX0_clear, Cond.initialized RX0, Cond.code yX0_clear cX0_clear 1 none, Cond.fieldLink RX0 39 "OverHill$Dance" "gap" "I", Cond.fieldLink RX0 43 "OverHill$Dance" "odds" "I"]
def wsX11_dance_r2 : List Cond := [Cond.fieldLink RX0 46 "OverHill$Dance" "rain" "I", Cond.fieldLink RX0 49 "OverHill$Dance" "lines" "I", Cond.fieldLink RX0 15 "OverHill$Dance" "lengths" "[I", Cond.fieldLink RX0 18 "OverHill$Dance" "starts" "[I", Cond.fieldLink RX0 21 "OverHill$Dance" "met" "[I", Cond.fieldLink RX0 27 "OverHill$Dance" "muds" "[I", Cond.fieldLink RX0 58 "OverHill$Dance" "stumbleCount" "I", Cond.fieldLink RX0 61 "OverHill$Dance" "cellCount" "I", Cond.fieldLink RX0 64 "OverHill$Dance" "tuneCount" "I", Cond.fieldLink RX0 67 "OverHill$Dance" "changeCount" "I", Cond.methodLink RX0 52 yJ7_fill_53178, Cond.static yJ7_fill_53178, Cond.initialized RJ7, Cond.code yJ7_fill_53178 cJ7_fill_53178 4 none, Cond.methodLink RX5 30 yX8_rewind, Cond.instanceMethod yX8_rewind, Cond.selects RX8 yX8_rewind yX8_rewind, Cond.initialized RX8, Cond.code yX8_rewind cX8_rewind 1 none, Cond.fieldLink RX8 19 "OverHill$Tape" "upto" "I", Cond.methodLink RX8 22 yX8_advance, Cond.instanceMethod yX8_advance, Cond.selects RX8 yX8_advance yX8_advance, Cond.code yX8_advance cX8_advance 1 none]
def wsX11_dance_r3 : List Cond := [Cond.fieldLink RX8 25 "OverHill$Tape" "from" "I", Cond.fieldLink RX8 15 "OverHill$Tape" "length" "I", Cond.fieldLink RX8 9 "OverHill$Tape" "bytes" "[B", Cond.fieldLink RX8 32 "OverHill$Tape" "value" "I", Cond.fieldLink RX8 35 "OverHill$Tape" "kind" "I", Cond.methodLink RX8 38 Lib.Math.min.name, Cond.static Lib.Math.min.name, Cond.initialized "java/lang/Math", Cond.code Lib.Math.min.name Lib.Math.min.code 2 (some .int), Cond.methodLink RX8 28 yX8_kindOf, Cond.static yX8_kindOf, Cond.code yX8_kindOf cX8_kindOf 1 (some .int), Cond.methodLink RX5 36 yX5_readLine, Cond.instanceMethod yX5_readLine, Cond.selects RX5 yX5_readLine yX5_readLine, Cond.code yX5_readLine cX5_readLine 3 none, Cond.fieldLink RX5 52 "OverHill$Tape" "from" "I", Cond.methodLink RX5 48 yX8_isWord, Cond.instanceMethod yX8_isWord, Cond.selects RX8 yX8_isWord yX8_isWord, Cond.code yX8_isWord cX8_isWord 3 (some .boolean), Cond.methodLink RX8 44 yJ0_length_8abf5, Cond.instanceMethod yJ0_length_8abf5, Cond.selects RJ0 yJ0_length_8abf5 yJ0_length_8abf5]
def wsX11_dance_r4 : List Cond := [Cond.initialized RJ0, Cond.code yJ0_length_8abf5 cJ0_length_8abf5 1 (some .int), Cond.fieldLink RJ0 9 "java/lang/String" "value" "[B", Cond.methodLink RJ0 335 yJ0_coder_7d493, Cond.instanceMethod yJ0_coder_7d493, Cond.selects RJ0 yJ0_coder_7d493 yJ0_coder_7d493, Cond.code yJ0_coder_7d493 cJ0_coder_7d493 1 (some .byte), Cond.fieldLink RJ0 38 "java/lang/String" "COMPACT_STRINGS" "Z", Cond.fieldLink RJ0 15 "java/lang/String" "coder" "B", Cond.methodLink RX8 49 yJ0_charAt_5068e, Cond.instanceMethod yJ0_charAt_5068e, Cond.selects RJ0 yJ0_charAt_5068e yJ0_charAt_5068e, Cond.code yJ0_charAt_5068e cJ0_charAt_5068e 2 (some .char), Cond.methodLink RJ0 492 yJ0_isLatin1_aae02, Cond.instanceMethod yJ0_isLatin1_aae02, Cond.selects RJ0 yJ0_isLatin1_aae02 yJ0_isLatin1_aae02, Cond.code yJ0_isLatin1_aae02 cJ0_isLatin1_aae02 1 (some .boolean), Cond.methodLink RJ0 495 yJ1_charAt_3b067, Cond.static yJ1_charAt_3b067, Cond.initialized RJ1, Cond.code yJ1_charAt_3b067 cJ1_charAt_3b067 2 (some .char), Cond.methodLink RJ1 9 yJ0_checkIndex_df160, Cond.static yJ0_checkIndex_df160, Cond.code yJ0_checkIndex_df160 cJ0_checkIndex_df160 2 none]
def wsX11_dance_r5 : List Cond := [Cond.fieldLink RJ0 1053 "jdk/internal/util/Preconditions" "SIOOBE_FORMATTER" "Ljava/util/function/BiFunction;", Cond.methodLink RJ0 1059 yJ3_checkIndex_8e157, Cond.static yJ3_checkIndex_8e157, Cond.initialized RJ3, Cond.code yJ3_checkIndex_8e157 cJ3_checkIndex_8e157 3 (some .int), Cond.methodLink RJ0 498 yJ2_charAt_3b067, Cond.static yJ2_charAt_3b067, Cond.initialized RJ2, Cond.code yJ2_charAt_3b067 cJ2_charAt_3b067 2 (some .char), Cond.methodLink RJ2 67 yJ2_checkIndex_2214a, Cond.static yJ2_checkIndex_2214a, Cond.code yJ2_checkIndex_2214a cJ2_checkIndex_2214a 2 none, Cond.methodLink RJ2 48 yJ2_length_9d52b, Cond.static yJ2_length_9d52b, Cond.code yJ2_length_9d52b cJ2_length_9d52b 1 (some .int), Cond.methodLink RJ2 414 yJ0_checkIndex_df160, Cond.methodLink RJ2 71 yJ2_getChar_3b067, Cond.static yJ2_getChar_3b067, Cond.code yJ2_getChar_3b067 cJ2_getChar_3b067 2 (some .char), Cond.fieldLink RJ2 44 "java/lang/StringUTF16" "$assertionsDisabled" "Z", Cond.fieldLink RJ2 59 "java/lang/StringUTF16" "HI_BYTE_SHIFT" "I", Cond.fieldLink RJ2 63 "java/lang/StringUTF16" "LO_BYTE_SHIFT" "I", Cond.methodLink RX5 55 yX5_fail, Cond.instanceMethod yX5_fail]
def wsX11_dance_r6 : List Cond := [Cond.selects RX5 yX5_fail yX5_fail, Cond.code yX5_fail cX5_fail 3 none, Cond.methodLink RX5 59 yX5_readDance, Cond.instanceMethod yX5_readDance, Cond.selects RX5 yX5_readDance yX5_readDance, Cond.code yX5_readDance cX5_readDance 2 none, Cond.fieldLink RX5 105 "OverHill$Dance" "gap" "I", Cond.fieldLink RX5 109 "OverHill$Dance" "odds" "I", Cond.fieldLink RX5 113 "OverHill$Dance" "rain" "I", Cond.methodLink RX5 92 yX8_advance, Cond.methodLink RX5 97 yX5_takeWord, Cond.instanceMethod yX5_takeWord, Cond.selects RX5 yX5_takeWord yX5_takeWord, Cond.code yX5_takeWord cX5_takeWord 2 none, Cond.methodLink RX5 101 yX5_takeNumber, Cond.instanceMethod yX5_takeNumber, Cond.selects RX5 yX5_takeNumber yX5_takeNumber, Cond.code yX5_takeNumber cX5_takeNumber 4 (some .int), Cond.fieldLink RX5 175 "OverHill$Tape" "value" "I", Cond.fieldLink RX5 121 "OverHill$Reader" "numberPlace" "I", Cond.methodLink RX5 64 yX5_readRound, Cond.instanceMethod yX5_readRound, Cond.selects RX5 yX5_readRound yX5_readRound, Cond.code yX5_readRound cX5_readRound 6 none]
def wsX11_dance_r7 : List Cond := [Cond.fieldLink RX5 124 "OverHill$Dance" "steps" "[I", Cond.fieldLink RX5 130 "OverHill$Dance" "starts" "[I", Cond.fieldLink RX5 133 "OverHill$Dance" "lengths" "[I", Cond.methodLink RX5 117 yX5_seesNumber, Cond.instanceMethod yX5_seesNumber, Cond.selects RX5 yX5_seesNumber yX5_seesNumber, Cond.code yX5_seesNumber cX5_seesNumber 1 (some .boolean), Cond.methodLink RX5 69 yX5_readAnswers, Cond.instanceMethod yX5_readAnswers, Cond.selects RX5 yX5_readAnswers yX5_readAnswers, Cond.code yX5_readAnswers cX5_readAnswers 5 none, Cond.fieldLink RX5 136 "OverHill$Dance" "met" "[I", Cond.methodLink RX5 74 yX5_readStumble, Cond.instanceMethod yX5_readStumble, Cond.selects RX5 yX5_readStumble yX5_readStumble, Cond.code yX5_readStumble cX5_readStumble 6 none, Cond.fieldLink RX5 139 "OverHill$Dance" "stumbleCount" "I", Cond.methodLink RX5 142 yX5_beginOneOf, Cond.instanceMethod yX5_beginOneOf, Cond.selects RX5 yX5_beginOneOf yX5_beginOneOf, Cond.code yX5_beginOneOf cX5_beginOneOf 3 none, Cond.methodLink RX5 147 yX0_stumbleOf, Cond.instanceMethod yX0_stumbleOf, Cond.selects RX0 yX0_stumbleOf yX0_stumbleOf]
def wsX11_dance_r8 : List Cond := [Cond.code yX0_stumbleOf cX0_stumbleOf 5 (some .int), Cond.fieldLink RX0 24 "OverHill$Dance" "stumbles" "[I", Cond.methodLink RX5 154 yX0_addStumble, Cond.instanceMethod yX0_addStumble, Cond.selects RX0 yX0_addStumble yX0_addStumble, Cond.code yX0_addStumble cX0_addStumble 6 none, Cond.methodLink RX5 79 yX5_readMud, Cond.instanceMethod yX5_readMud, Cond.selects RX5 yX5_readMud yX5_readMud, Cond.code yX5_readMud cX5_readMud 3 none, Cond.fieldLink RX5 158 "OverHill$Dance" "muds" "[I", Cond.methodLink RX5 84 yX5_readWood, Cond.instanceMethod yX5_readWood, Cond.selects RX5 yX5_readWood yX5_readWood, Cond.code yX5_readWood cX5_readWood 3 none, Cond.fieldLink RX5 161 "OverHill$Dance" "cellCount" "I", Cond.methodLink RX5 166 yX0_addCell, Cond.instanceMethod yX0_addCell, Cond.selects RX0 yX0_addCell yX0_addCell, Cond.code yX0_addCell cX0_addCell 3 none, Cond.fieldLink RX0 30 "OverHill$Dance" "cells" "[I", Cond.methodLink RX5 89 yX5_readTune, Cond.instanceMethod yX5_readTune, Cond.selects RX5 yX5_readTune yX5_readTune]
def wsX11_dance_r9 : List Cond := [Cond.code yX5_readTune cX5_readTune 3 none, Cond.fieldLink RX5 169 "OverHill$Dance" "tuneCount" "I", Cond.methodLink RX5 172 yX0_addTune, Cond.instanceMethod yX0_addTune, Cond.selects RX0 yX0_addTune yX0_addTune, Cond.code yX0_addTune cX0_addTune 3 none, Cond.fieldLink RX0 33 "OverHill$Dance" "tunes" "[I", Cond.methodLink RX5 40 yX5_takeSemicolon, Cond.instanceMethod yX5_takeSemicolon, Cond.selects RX5 yX5_takeSemicolon yX5_takeSemicolon, Cond.code yX5_takeSemicolon cX5_takeSemicolon 1 none]
def wsX11_dance : List Cond := .code yX11_dance cX11_dance 2 (some .int) :: ((wsX11_dance_r1 ++ (wsX11_dance_r2 ++ (wsX11_dance_r3 ++ (wsX11_dance_r4 ++ (wsX11_dance_r5 ++ (wsX11_dance_r6 ++ (wsX11_dance_r7 ++ (wsX11_dance_r8 ++ wsX11_dance_r9)))))))) ++ wsX110 ++ wsX80 ++ wsX00 ++ wsX50)
def wsX11_fault : List Cond := .code yX11_fault cX11_fault 2 (some .int) :: ([.fieldLink RX11 10 "OverHill" "reader" "LOverHill$Reader;", .fieldLink RX11 119 "OverHill$Reader" "fault" "I", .fieldLink RX11 122 "OverHill$Reader" "faultPlace" "I"] ++ wsX110 ++ wsX50)
def wsX11_isSide : List Cond := .code yX11_isSide cX11_isSide 1 (some .boolean) :: ([.methodLink RX11 150 yX11_isWithin, .static yX11_isWithin, .initialized RX11, .code yX11_isWithin cX11_isWithin 2 (some .boolean)])
def wsX11_step : List Cond := .code yX11_step cX11_step 3 (some .int) :: ([.fieldLink RX11 24 "OverHill" "now" "LOverHill$Dance;", .methodLink RX11 125 yX0_stands, .instanceMethod yX0_stands, .selects RX0 yX0_stands yX0_stands, .initialized RX0, .code yX0_stands cX0_stands 1 (some .boolean), .fieldLink RX0 49 "OverHill$Dance" "lines" "I", .methodLink RX11 129 yX11_isSide, .static yX11_isSide, .initialized RX11, .code yX11_isSide cX11_isSide 1 (some .boolean), .methodLink RX11 150 yX11_isWithin, .static yX11_isWithin, .code yX11_isWithin cX11_isWithin 2 (some .boolean), .methodLink RX11 133 yX0_hasPlace, .instanceMethod yX0_hasPlace, .selects RX0 yX0_hasPlace yX0_hasPlace, .code yX0_hasPlace cX0_hasPlace 3 (some .boolean), .fieldLink RX0 15 "OverHill$Dance" "lengths" "[I", .methodLink RX11 137 yX0_stepAt, .instanceMethod yX0_stepAt, .selects RX0 yX0_stepAt yX0_stepAt, .code yX0_stepAt cX0_stepAt 3 (some .int), .fieldLink RX0 9 "OverHill$Dance" "steps" "[I"] ++ wsX110 ++ wsX00)
def wsX11_isStep : List Cond := .code yX11_isStep cX11_isStep 1 (some .boolean) :: ([.methodLink RX11 150 yX11_isWithin, .static yX11_isWithin, .initialized RX11, .code yX11_isWithin cX11_isWithin 2 (some .boolean)])
def wsX11_answers : List Cond := .code yX11_answers cX11_answers 2 (some .int) :: ([.fieldLink RX11 24 "OverHill" "now" "LOverHill$Dance;", .fieldLink RX11 144 "OverHill$Dance" "met" "[I", .methodLink RX11 125 yX0_stands, .instanceMethod yX0_stands, .selects RX0 yX0_stands yX0_stands, .initialized RX0, .code yX0_stands cX0_stands 1 (some .boolean), .fieldLink RX0 49 "OverHill$Dance" "lines" "I", .methodLink RX11 141 yX11_isStep, .static yX11_isStep, .initialized RX11, .code yX11_isStep cX11_isStep 1 (some .boolean), .methodLink RX11 150 yX11_isWithin, .static yX11_isWithin, .code yX11_isWithin cX11_isWithin 2 (some .boolean)] ++ wsX110 ++ wsX00)
def wsX11_stumbled : List Cond := .code yX11_stumbled cX11_stumbled 3 (some .int) :: ([.fieldLink RX11 24 "OverHill" "now" "LOverHill$Dance;", .fieldLink RX11 153 "OverHill$Dance" "stumbles" "[I", .methodLink RX11 147 yX0_hasStumble, .instanceMethod yX0_hasStumble, .selects RX0 yX0_hasStumble yX0_hasStumble, .initialized RX0, .code yX0_hasStumble cX0_hasStumble 2 (some .boolean), .fieldLink RX0 58 "OverHill$Dance" "stumbleCount" "I", .static yX11_isWithin, .initialized RX11, .code yX11_isWithin cX11_isWithin 2 (some .boolean), .methodLink RX11 150 yX11_isWithin] ++ wsX110 ++ wsX00)
def wsX11_isBeat : List Cond := .code yX11_isBeat cX11_isBeat 1 (some .boolean) :: ([.methodLink RX11 150 yX11_isWithin, .static yX11_isWithin, .initialized RX11, .code yX11_isWithin cX11_isWithin 2 (some .boolean)])
def wsX11_muddy : List Cond := .code yX11_muddy cX11_muddy 2 (some .int) :: ([.fieldLink RX11 24 "OverHill" "now" "LOverHill$Dance;", .fieldLink RX11 159 "OverHill$Dance" "muds" "[I", .methodLink RX11 125 yX0_stands, .instanceMethod yX0_stands, .selects RX0 yX0_stands yX0_stands, .initialized RX0, .code yX0_stands cX0_stands 1 (some .boolean), .fieldLink RX0 49 "OverHill$Dance" "lines" "I", .methodLink RX11 156 yX11_isBeat, .static yX11_isBeat, .initialized RX11, .code yX11_isBeat cX11_isBeat 1 (some .boolean), .methodLink RX11 150 yX11_isWithin, .static yX11_isWithin, .code yX11_isWithin cX11_isWithin 2 (some .boolean)] ++ wsX110 ++ wsX00)
def wsX11_has : List Cond := .code yX11_has cX11_has 3 (some .boolean) :: ([.fieldLink RX11 24 "OverHill" "now" "LOverHill$Dance;", .methodLink RX11 125 yX0_stands, .instanceMethod yX0_stands, .selects RX0 yX0_stands yX0_stands, .initialized RX0, .code yX0_stands cX0_stands 1 (some .boolean), .fieldLink RX0 49 "OverHill$Dance" "lines" "I", .methodLink RX11 129 yX11_isSide, .static yX11_isSide, .initialized RX11, .code yX11_isSide cX11_isSide 1 (some .boolean), .methodLink RX11 150 yX11_isWithin, .static yX11_isWithin, .code yX11_isWithin cX11_isWithin 2 (some .boolean), .methodLink RX11 156 yX11_isBeat, .static yX11_isBeat, .code yX11_isBeat cX11_isBeat 1 (some .boolean)] ++ wsX110 ++ wsX00)
def wsX11_place_r1 : List Cond := [Cond.methodLink RX11 162 yX11_has, Cond.instanceMethod yX11_has, Cond.selects RX11 yX11_has yX11_has, Cond.initialized RX11, Cond.code yX11_has cX11_has 3 (some .boolean), Cond.fieldLink RX11 24 "OverHill" "now" "LOverHill$Dance;", Cond.methodLink RX11 125 yX0_stands, Cond.instanceMethod yX0_stands, Cond.selects RX0 yX0_stands yX0_stands, Cond.initialized RX0, Cond.code yX0_stands cX0_stands 1 (some .boolean), Cond.fieldLink RX0 49 "OverHill$Dance" "lines" "I", Cond.methodLink RX11 129 yX11_isSide, Cond.static yX11_isSide, Cond.code yX11_isSide cX11_isSide 1 (some .boolean), Cond.methodLink RX11 150 yX11_isWithin, Cond.static yX11_isWithin, Cond.code yX11_isWithin cX11_isWithin 2 (some .boolean), Cond.methodLink RX11 156 yX11_isBeat, Cond.static yX11_isBeat, Cond.code yX11_isBeat cX11_isBeat 1 (some .boolean), Cond.methodLink RX11 165 yX11_plainFloor, Cond.instanceMethod yX11_plainFloor, Cond.selects RX11 yX11_plainFloor yX11_plainFloor]
def wsX11_place_r2 : List Cond := [Cond.code yX11_plainFloor cX11_plainFloor 1 (some (.object "OverHill$Floor")), Cond.fieldLink RX11 49 "OverHill" "laid" "Z", Cond.fieldLink RX11 42 "OverHill" "floor" "LOverHill$Floor;", Cond.methodLink RX11 208 yX1_lay, Cond.instanceMethod yX1_lay, Cond.selects RX1 yX1_lay yX1_lay, Cond.initialized RX1, Cond.code yX1_lay cX1_lay 4 none, Cond.fieldLink RX1 21 "OverHill$Dance" "gap" "I", Cond.fieldLink RX1 27 "OverHill$Floor" "gap" "I", Cond.methodLink RX1 28 yX1_findStumbles, Cond.instanceMethod yX1_findStumbles, Cond.selects RX1 yX1_findStumbles yX1_findStumbles, Cond.code yX1_findStumbles cX1_findStumbles 6 none, Cond.fieldLink RX1 18 "OverHill$Floor" "stumbleIn" "[I", Cond.fieldLink RX1 42 "OverHill$Dance" "stumbleCount" "I", Cond.fieldLink RX1 45 "OverHill$Dance" "stumbles" "[I", Cond.methodLink RX1 36 yJ7_fill_53178, Cond.static yJ7_fill_53178, Cond.initialized RJ7, Cond.code yJ7_fill_53178 cJ7_fill_53178 4 none, Cond.methodLink RX1 32 yX1_laySide, Cond.instanceMethod yX1_laySide, Cond.selects RX1 yX1_laySide yX1_laySide]
def wsX11_place_r3 : List Cond := [Cond.code yX1_laySide cX1_laySide 10 none, Cond.fieldLink RX1 48 "OverHill$Dance" "lengths" "[I", Cond.fieldLink RX1 51 "OverHill$Dance" "starts" "[I", Cond.fieldLink RX1 9 "OverHill$Floor" "places" "[I", Cond.fieldLink RX1 15 "OverHill$Floor" "steps" "[I", Cond.fieldLink RX1 54 "OverHill$Dance" "muds" "[I", Cond.methodLink RX1 57 yX0_stepAt, Cond.instanceMethod yX0_stepAt, Cond.selects RX0 yX0_stepAt yX0_stepAt, Cond.code yX0_stepAt cX0_stepAt 3 (some .int), Cond.fieldLink RX0 9 "OverHill$Dance" "steps" "[I", Cond.static yX11_wrap, Cond.code yX11_wrap cX11_wrap 2 (some .int), Cond.methodLink RX11 451 yJ9_floorMod_7cf53, Cond.static yJ9_floorMod_7cf53, Cond.initialized RJ9, Cond.code yJ9_floorMod_7cf53 cJ9_floorMod_7cf53 3 (some .int), Cond.methodLink RX11 169 yX1_placeOf, Cond.instanceMethod yX1_placeOf, Cond.selects RX1 yX1_placeOf yX1_placeOf, Cond.code yX1_placeOf cX1_placeOf 3 (some .int)]
def wsX11_place : List Cond := .code yX11_place cX11_place 3 (some .int) :: ((wsX11_place_r1 ++ (wsX11_place_r2 ++ wsX11_place_r3)) ++ wsX110 ++ wsX00 ++ wsX10)
def wsX11_danced_r1 : List Cond := [Cond.methodLink RX11 162 yX11_has, Cond.instanceMethod yX11_has, Cond.selects RX11 yX11_has yX11_has, Cond.initialized RX11, Cond.code yX11_has cX11_has 3 (some .boolean), Cond.fieldLink RX11 24 "OverHill" "now" "LOverHill$Dance;", Cond.methodLink RX11 125 yX0_stands, Cond.instanceMethod yX0_stands, Cond.selects RX0 yX0_stands yX0_stands, Cond.initialized RX0, Cond.code yX0_stands cX0_stands 1 (some .boolean), Cond.fieldLink RX0 49 "OverHill$Dance" "lines" "I", Cond.methodLink RX11 129 yX11_isSide, Cond.static yX11_isSide, Cond.code yX11_isSide cX11_isSide 1 (some .boolean), Cond.methodLink RX11 150 yX11_isWithin, Cond.static yX11_isWithin, Cond.code yX11_isWithin cX11_isWithin 2 (some .boolean), Cond.methodLink RX11 156 yX11_isBeat, Cond.static yX11_isBeat, Cond.code yX11_isBeat cX11_isBeat 1 (some .boolean), Cond.methodLink RX11 165 yX11_plainFloor, Cond.instanceMethod yX11_plainFloor, Cond.selects RX11 yX11_plainFloor yX11_plainFloor]
def wsX11_danced_r2 : List Cond := [Cond.code yX11_plainFloor cX11_plainFloor 1 (some (.object "OverHill$Floor")), Cond.fieldLink RX11 49 "OverHill" "laid" "Z", Cond.fieldLink RX11 42 "OverHill" "floor" "LOverHill$Floor;", Cond.methodLink RX11 208 yX1_lay, Cond.instanceMethod yX1_lay, Cond.selects RX1 yX1_lay yX1_lay, Cond.initialized RX1, Cond.code yX1_lay cX1_lay 4 none, Cond.fieldLink RX1 21 "OverHill$Dance" "gap" "I", Cond.fieldLink RX1 27 "OverHill$Floor" "gap" "I", Cond.methodLink RX1 28 yX1_findStumbles, Cond.instanceMethod yX1_findStumbles, Cond.selects RX1 yX1_findStumbles yX1_findStumbles, Cond.code yX1_findStumbles cX1_findStumbles 6 none, Cond.fieldLink RX1 18 "OverHill$Floor" "stumbleIn" "[I", Cond.fieldLink RX1 42 "OverHill$Dance" "stumbleCount" "I", Cond.fieldLink RX1 45 "OverHill$Dance" "stumbles" "[I", Cond.methodLink RX1 36 yJ7_fill_53178, Cond.static yJ7_fill_53178, Cond.initialized RJ7, Cond.code yJ7_fill_53178 cJ7_fill_53178 4 none, Cond.methodLink RX1 32 yX1_laySide, Cond.instanceMethod yX1_laySide, Cond.selects RX1 yX1_laySide yX1_laySide]
def wsX11_danced_r3 : List Cond := [Cond.code yX1_laySide cX1_laySide 10 none, Cond.fieldLink RX1 48 "OverHill$Dance" "lengths" "[I", Cond.fieldLink RX1 51 "OverHill$Dance" "starts" "[I", Cond.fieldLink RX1 9 "OverHill$Floor" "places" "[I", Cond.fieldLink RX1 15 "OverHill$Floor" "steps" "[I", Cond.fieldLink RX1 54 "OverHill$Dance" "muds" "[I", Cond.methodLink RX1 57 yX0_stepAt, Cond.instanceMethod yX0_stepAt, Cond.selects RX0 yX0_stepAt yX0_stepAt, Cond.code yX0_stepAt cX0_stepAt 3 (some .int), Cond.fieldLink RX0 9 "OverHill$Dance" "steps" "[I", Cond.static yX11_wrap, Cond.code yX11_wrap cX11_wrap 2 (some .int), Cond.methodLink RX11 451 yJ9_floorMod_7cf53, Cond.static yJ9_floorMod_7cf53, Cond.initialized RJ9, Cond.code yJ9_floorMod_7cf53 cJ9_floorMod_7cf53 3 (some .int), Cond.methodLink RX11 172 yX1_stepOf, Cond.instanceMethod yX1_stepOf, Cond.selects RX1 yX1_stepOf yX1_stepOf, Cond.code yX1_stepOf cX1_stepOf 3 (some .int)]
def wsX11_danced : List Cond := .code yX11_danced cX11_danced 3 (some .int) :: ((wsX11_danced_r1 ++ (wsX11_danced_r2 ++ wsX11_danced_r3)) ++ wsX110 ++ wsX00 ++ wsX10)
def wsX11_hears_r1 : List Cond := [Cond.methodLink RX11 162 yX11_has, Cond.instanceMethod yX11_has, Cond.selects RX11 yX11_has yX11_has, Cond.initialized RX11, Cond.code yX11_has cX11_has 3 (some .boolean), Cond.fieldLink RX11 24 "OverHill" "now" "LOverHill$Dance;", Cond.methodLink RX11 125 yX0_stands, Cond.instanceMethod yX0_stands, Cond.selects RX0 yX0_stands yX0_stands, Cond.initialized RX0, Cond.code yX0_stands cX0_stands 1 (some .boolean), Cond.fieldLink RX0 49 "OverHill$Dance" "lines" "I", Cond.methodLink RX11 129 yX11_isSide, Cond.static yX11_isSide, Cond.code yX11_isSide cX11_isSide 1 (some .boolean), Cond.methodLink RX11 150 yX11_isWithin, Cond.static yX11_isWithin, Cond.code yX11_isWithin cX11_isWithin 2 (some .boolean), Cond.methodLink RX11 156 yX11_isBeat, Cond.static yX11_isBeat, Cond.code yX11_isBeat cX11_isBeat 1 (some .boolean), Cond.methodLink RX11 165 yX11_plainFloor, Cond.instanceMethod yX11_plainFloor, Cond.selects RX11 yX11_plainFloor yX11_plainFloor]
def wsX11_hears_r2 : List Cond := [Cond.code yX11_plainFloor cX11_plainFloor 1 (some (.object "OverHill$Floor")), Cond.fieldLink RX11 49 "OverHill" "laid" "Z", Cond.fieldLink RX11 42 "OverHill" "floor" "LOverHill$Floor;", Cond.methodLink RX11 208 yX1_lay, Cond.instanceMethod yX1_lay, Cond.selects RX1 yX1_lay yX1_lay, Cond.initialized RX1, Cond.code yX1_lay cX1_lay 4 none, Cond.fieldLink RX1 21 "OverHill$Dance" "gap" "I", Cond.fieldLink RX1 27 "OverHill$Floor" "gap" "I", Cond.methodLink RX1 28 yX1_findStumbles, Cond.instanceMethod yX1_findStumbles, Cond.selects RX1 yX1_findStumbles yX1_findStumbles, Cond.code yX1_findStumbles cX1_findStumbles 6 none, Cond.fieldLink RX1 18 "OverHill$Floor" "stumbleIn" "[I", Cond.fieldLink RX1 42 "OverHill$Dance" "stumbleCount" "I", Cond.fieldLink RX1 45 "OverHill$Dance" "stumbles" "[I", Cond.methodLink RX1 36 yJ7_fill_53178, Cond.static yJ7_fill_53178, Cond.initialized RJ7, Cond.code yJ7_fill_53178 cJ7_fill_53178 4 none, Cond.methodLink RX1 32 yX1_laySide, Cond.instanceMethod yX1_laySide, Cond.selects RX1 yX1_laySide yX1_laySide]
def wsX11_hears_r3 : List Cond := [Cond.code yX1_laySide cX1_laySide 10 none, Cond.fieldLink RX1 48 "OverHill$Dance" "lengths" "[I", Cond.fieldLink RX1 51 "OverHill$Dance" "starts" "[I", Cond.fieldLink RX1 9 "OverHill$Floor" "places" "[I", Cond.fieldLink RX1 15 "OverHill$Floor" "steps" "[I", Cond.fieldLink RX1 54 "OverHill$Dance" "muds" "[I", Cond.methodLink RX1 57 yX0_stepAt, Cond.instanceMethod yX0_stepAt, Cond.selects RX0 yX0_stepAt yX0_stepAt, Cond.code yX0_stepAt cX0_stepAt 3 (some .int), Cond.fieldLink RX0 9 "OverHill$Dance" "steps" "[I", Cond.static yX11_wrap, Cond.code yX11_wrap cX11_wrap 2 (some .int), Cond.methodLink RX11 451 yJ9_floorMod_7cf53, Cond.static yJ9_floorMod_7cf53, Cond.initialized RJ9, Cond.code yJ9_floorMod_7cf53 cJ9_floorMod_7cf53 3 (some .int), Cond.methodLink RX11 175 yX1_heardBy, Cond.instanceMethod yX1_heardBy, Cond.selects RX1 yX1_heardBy yX1_heardBy, Cond.code yX1_heardBy cX1_heardBy 3 (some .int), Cond.methodLink RX1 64 yX1_stepOf, Cond.instanceMethod yX1_stepOf, Cond.selects RX1 yX1_stepOf yX1_stepOf]
def wsX11_hears_r4 : List Cond := [Cond.code yX1_stepOf cX1_stepOf 3 (some .int)]
def wsX11_hears : List Cond := .code yX11_hears cX11_hears 3 (some .int) :: ((wsX11_hears_r1 ++ (wsX11_hears_r2 ++ (wsX11_hears_r3 ++ wsX11_hears_r4))) ++ wsX110 ++ wsX00 ++ wsX10)
def wsX11_late_r1 : List Cond := [Cond.fieldLink RX11 24 "OverHill" "now" "LOverHill$Dance;", Cond.fieldLink RX11 178 "OverHill$Dance" "lengths" "[I", Cond.fieldLink RX11 181 "OverHill$Dance" "starts" "[I", Cond.methodLink RX11 162 yX11_has, Cond.instanceMethod yX11_has, Cond.selects RX11 yX11_has yX11_has, Cond.initialized RX11, Cond.code yX11_has cX11_has 3 (some .boolean), Cond.methodLink RX11 125 yX0_stands, Cond.instanceMethod yX0_stands, Cond.selects RX0 yX0_stands yX0_stands, Cond.initialized RX0, Cond.code yX0_stands cX0_stands 1 (some .boolean), Cond.fieldLink RX0 49 "OverHill$Dance" "lines" "I", Cond.methodLink RX11 129 yX11_isSide, Cond.static yX11_isSide, Cond.code yX11_isSide cX11_isSide 1 (some .boolean), Cond.methodLink RX11 150 yX11_isWithin, Cond.static yX11_isWithin, Cond.code yX11_isWithin cX11_isWithin 2 (some .boolean), Cond.methodLink RX11 156 yX11_isBeat, Cond.static yX11_isBeat, Cond.code yX11_isBeat cX11_isBeat 1 (some .boolean), Cond.methodLink RX11 165 yX11_plainFloor]
def wsX11_late_r2 : List Cond := [Cond.instanceMethod yX11_plainFloor, Cond.selects RX11 yX11_plainFloor yX11_plainFloor, Cond.code yX11_plainFloor cX11_plainFloor 1 (some (.object "OverHill$Floor")), Cond.fieldLink RX11 49 "OverHill" "laid" "Z", Cond.fieldLink RX11 42 "OverHill" "floor" "LOverHill$Floor;", Cond.methodLink RX11 208 yX1_lay, Cond.instanceMethod yX1_lay, Cond.selects RX1 yX1_lay yX1_lay, Cond.initialized RX1, Cond.code yX1_lay cX1_lay 4 none, Cond.fieldLink RX1 21 "OverHill$Dance" "gap" "I", Cond.fieldLink RX1 27 "OverHill$Floor" "gap" "I", Cond.methodLink RX1 28 yX1_findStumbles, Cond.instanceMethod yX1_findStumbles, Cond.selects RX1 yX1_findStumbles yX1_findStumbles, Cond.code yX1_findStumbles cX1_findStumbles 6 none, Cond.fieldLink RX1 18 "OverHill$Floor" "stumbleIn" "[I", Cond.fieldLink RX1 42 "OverHill$Dance" "stumbleCount" "I", Cond.fieldLink RX1 45 "OverHill$Dance" "stumbles" "[I", Cond.methodLink RX1 36 yJ7_fill_53178, Cond.static yJ7_fill_53178, Cond.initialized RJ7, Cond.code yJ7_fill_53178 cJ7_fill_53178 4 none, Cond.methodLink RX1 32 yX1_laySide]
def wsX11_late_r3 : List Cond := [Cond.instanceMethod yX1_laySide, Cond.selects RX1 yX1_laySide yX1_laySide, Cond.code yX1_laySide cX1_laySide 10 none, Cond.fieldLink RX1 48 "OverHill$Dance" "lengths" "[I", Cond.fieldLink RX1 51 "OverHill$Dance" "starts" "[I", Cond.fieldLink RX1 9 "OverHill$Floor" "places" "[I", Cond.fieldLink RX1 15 "OverHill$Floor" "steps" "[I", Cond.fieldLink RX1 54 "OverHill$Dance" "muds" "[I", Cond.methodLink RX1 57 yX0_stepAt, Cond.instanceMethod yX0_stepAt, Cond.selects RX0 yX0_stepAt yX0_stepAt, Cond.code yX0_stepAt cX0_stepAt 3 (some .int), Cond.fieldLink RX0 9 "OverHill$Dance" "steps" "[I", Cond.static yX11_wrap, Cond.code yX11_wrap cX11_wrap 2 (some .int), Cond.methodLink RX11 451 yJ9_floorMod_7cf53, Cond.static yJ9_floorMod_7cf53, Cond.initialized RJ9, Cond.code yJ9_floorMod_7cf53 cJ9_floorMod_7cf53 3 (some .int), Cond.methodLink RX11 169 yX1_placeOf, Cond.instanceMethod yX1_placeOf, Cond.selects RX1 yX1_placeOf yX1_placeOf, Cond.code yX1_placeOf cX1_placeOf 3 (some .int), Cond.methodLink RX11 184 yX11_wrap]
def wsX11_late : List Cond := .code yX11_late cX11_late 4 (some .int) :: ((wsX11_late_r1 ++ (wsX11_late_r2 ++ wsX11_late_r3)) ++ wsX110 ++ wsX00 ++ wsX10)
def wsX11_hole_r1 : List Cond := [Cond.fieldLink RX11 24 "OverHill" "now" "LOverHill$Dance;", Cond.methodLink RX11 162 yX11_has, Cond.instanceMethod yX11_has, Cond.selects RX11 yX11_has yX11_has, Cond.initialized RX11, Cond.code yX11_has cX11_has 3 (some .boolean), Cond.methodLink RX11 125 yX0_stands, Cond.instanceMethod yX0_stands, Cond.selects RX0 yX0_stands yX0_stands, Cond.initialized RX0, Cond.code yX0_stands cX0_stands 1 (some .boolean), Cond.fieldLink RX0 49 "OverHill$Dance" "lines" "I", Cond.methodLink RX11 129 yX11_isSide, Cond.static yX11_isSide, Cond.code yX11_isSide cX11_isSide 1 (some .boolean), Cond.methodLink RX11 150 yX11_isWithin, Cond.static yX11_isWithin, Cond.code yX11_isWithin cX11_isWithin 2 (some .boolean), Cond.methodLink RX11 156 yX11_isBeat, Cond.static yX11_isBeat, Cond.code yX11_isBeat cX11_isBeat 1 (some .boolean), Cond.methodLink RX11 165 yX11_plainFloor, Cond.instanceMethod yX11_plainFloor, Cond.selects RX11 yX11_plainFloor yX11_plainFloor]
def wsX11_hole_r2 : List Cond := [Cond.code yX11_plainFloor cX11_plainFloor 1 (some (.object "OverHill$Floor")), Cond.fieldLink RX11 49 "OverHill" "laid" "Z", Cond.fieldLink RX11 42 "OverHill" "floor" "LOverHill$Floor;", Cond.methodLink RX11 208 yX1_lay, Cond.instanceMethod yX1_lay, Cond.selects RX1 yX1_lay yX1_lay, Cond.initialized RX1, Cond.code yX1_lay cX1_lay 4 none, Cond.fieldLink RX1 21 "OverHill$Dance" "gap" "I", Cond.fieldLink RX1 27 "OverHill$Floor" "gap" "I", Cond.methodLink RX1 28 yX1_findStumbles, Cond.instanceMethod yX1_findStumbles, Cond.selects RX1 yX1_findStumbles yX1_findStumbles, Cond.code yX1_findStumbles cX1_findStumbles 6 none, Cond.fieldLink RX1 18 "OverHill$Floor" "stumbleIn" "[I", Cond.fieldLink RX1 42 "OverHill$Dance" "stumbleCount" "I", Cond.fieldLink RX1 45 "OverHill$Dance" "stumbles" "[I", Cond.methodLink RX1 36 yJ7_fill_53178, Cond.static yJ7_fill_53178, Cond.initialized RJ7, Cond.code yJ7_fill_53178 cJ7_fill_53178 4 none, Cond.methodLink RX1 32 yX1_laySide, Cond.instanceMethod yX1_laySide, Cond.selects RX1 yX1_laySide yX1_laySide]
def wsX11_hole_r3 : List Cond := [Cond.code yX1_laySide cX1_laySide 10 none, Cond.fieldLink RX1 48 "OverHill$Dance" "lengths" "[I", Cond.fieldLink RX1 51 "OverHill$Dance" "starts" "[I", Cond.fieldLink RX1 9 "OverHill$Floor" "places" "[I", Cond.fieldLink RX1 15 "OverHill$Floor" "steps" "[I", Cond.fieldLink RX1 54 "OverHill$Dance" "muds" "[I", Cond.methodLink RX1 57 yX0_stepAt, Cond.instanceMethod yX0_stepAt, Cond.selects RX0 yX0_stepAt yX0_stepAt, Cond.code yX0_stepAt cX0_stepAt 3 (some .int), Cond.fieldLink RX0 9 "OverHill$Dance" "steps" "[I", Cond.static yX11_wrap, Cond.code yX11_wrap cX11_wrap 2 (some .int), Cond.methodLink RX11 451 yJ9_floorMod_7cf53, Cond.static yJ9_floorMod_7cf53, Cond.initialized RJ9, Cond.code yJ9_floorMod_7cf53 cJ9_floorMod_7cf53 3 (some .int), Cond.methodLink RX11 187 yX1_gapes, Cond.instanceMethod yX1_gapes, Cond.selects RX1 yX1_gapes yX1_gapes, Cond.code yX1_gapes cX1_gapes 4 (some .boolean), Cond.methodLink RX1 64 yX1_stepOf, Cond.instanceMethod yX1_stepOf, Cond.selects RX1 yX1_stepOf yX1_stepOf]
def wsX11_hole_r4 : List Cond := [Cond.code yX1_stepOf cX1_stepOf 3 (some .int), Cond.methodLink RX1 67 yX1_heardBy, Cond.instanceMethod yX1_heardBy, Cond.selects RX1 yX1_heardBy yX1_heardBy, Cond.code yX1_heardBy cX1_heardBy 3 (some .int), Cond.methodLink RX1 70 yX0_isHole, Cond.instanceMethod yX0_isHole, Cond.selects RX0 yX0_isHole yX0_isHole, Cond.code yX0_isHole cX0_isHole 3 (some .boolean), Cond.methodLink RX0 80 yX0_mayMeet, Cond.instanceMethod yX0_mayMeet, Cond.selects RX0 yX0_mayMeet yX0_mayMeet, Cond.code yX0_mayMeet cX0_mayMeet 3 (some .boolean), Cond.fieldLink RX0 21 "OverHill$Dance" "met" "[I"]
def wsX11_hole : List Cond := .code yX11_hole cX11_hole 3 (some .int) :: ((wsX11_hole_r1 ++ (wsX11_hole_r2 ++ (wsX11_hole_r3 ++ wsX11_hole_r4))) ++ wsX110 ++ wsX00 ++ wsX10)
def wsX11_next_r1 : List Cond := [Cond.fieldLink RX11 24 "OverHill" "now" "LOverHill$Dance;", Cond.methodLink RX11 162 yX11_has, Cond.instanceMethod yX11_has, Cond.selects RX11 yX11_has yX11_has, Cond.initialized RX11, Cond.code yX11_has cX11_has 3 (some .boolean), Cond.methodLink RX11 125 yX0_stands, Cond.instanceMethod yX0_stands, Cond.selects RX0 yX0_stands yX0_stands, Cond.initialized RX0, Cond.code yX0_stands cX0_stands 1 (some .boolean), Cond.fieldLink RX0 49 "OverHill$Dance" "lines" "I", Cond.methodLink RX11 129 yX11_isSide, Cond.static yX11_isSide, Cond.code yX11_isSide cX11_isSide 1 (some .boolean), Cond.methodLink RX11 150 yX11_isWithin, Cond.static yX11_isWithin, Cond.code yX11_isWithin cX11_isWithin 2 (some .boolean), Cond.methodLink RX11 156 yX11_isBeat, Cond.static yX11_isBeat, Cond.code yX11_isBeat cX11_isBeat 1 (some .boolean), Cond.methodLink RX11 165 yX11_plainFloor, Cond.instanceMethod yX11_plainFloor, Cond.selects RX11 yX11_plainFloor yX11_plainFloor]
def wsX11_next_r2 : List Cond := [Cond.code yX11_plainFloor cX11_plainFloor 1 (some (.object "OverHill$Floor")), Cond.fieldLink RX11 49 "OverHill" "laid" "Z", Cond.fieldLink RX11 42 "OverHill" "floor" "LOverHill$Floor;", Cond.methodLink RX11 208 yX1_lay, Cond.instanceMethod yX1_lay, Cond.selects RX1 yX1_lay yX1_lay, Cond.initialized RX1, Cond.code yX1_lay cX1_lay 4 none, Cond.fieldLink RX1 21 "OverHill$Dance" "gap" "I", Cond.fieldLink RX1 27 "OverHill$Floor" "gap" "I", Cond.methodLink RX1 28 yX1_findStumbles, Cond.instanceMethod yX1_findStumbles, Cond.selects RX1 yX1_findStumbles yX1_findStumbles, Cond.code yX1_findStumbles cX1_findStumbles 6 none, Cond.fieldLink RX1 18 "OverHill$Floor" "stumbleIn" "[I", Cond.fieldLink RX1 42 "OverHill$Dance" "stumbleCount" "I", Cond.fieldLink RX1 45 "OverHill$Dance" "stumbles" "[I", Cond.methodLink RX1 36 yJ7_fill_53178, Cond.static yJ7_fill_53178, Cond.initialized RJ7, Cond.code yJ7_fill_53178 cJ7_fill_53178 4 none, Cond.methodLink RX1 32 yX1_laySide, Cond.instanceMethod yX1_laySide, Cond.selects RX1 yX1_laySide yX1_laySide]
def wsX11_next_r3 : List Cond := [Cond.code yX1_laySide cX1_laySide 10 none, Cond.fieldLink RX1 48 "OverHill$Dance" "lengths" "[I", Cond.fieldLink RX1 51 "OverHill$Dance" "starts" "[I", Cond.fieldLink RX1 9 "OverHill$Floor" "places" "[I", Cond.fieldLink RX1 15 "OverHill$Floor" "steps" "[I", Cond.fieldLink RX1 54 "OverHill$Dance" "muds" "[I", Cond.methodLink RX1 57 yX0_stepAt, Cond.instanceMethod yX0_stepAt, Cond.selects RX0 yX0_stepAt yX0_stepAt, Cond.code yX0_stepAt cX0_stepAt 3 (some .int), Cond.fieldLink RX0 9 "OverHill$Dance" "steps" "[I", Cond.static yX11_wrap, Cond.code yX11_wrap cX11_wrap 2 (some .int), Cond.methodLink RX11 451 yJ9_floorMod_7cf53, Cond.static yJ9_floorMod_7cf53, Cond.initialized RJ9, Cond.code yJ9_floorMod_7cf53 cJ9_floorMod_7cf53 3 (some .int), Cond.methodLink RX11 187 yX1_gapes, Cond.instanceMethod yX1_gapes, Cond.selects RX1 yX1_gapes yX1_gapes, Cond.code yX1_gapes cX1_gapes 4 (some .boolean), Cond.methodLink RX1 64 yX1_stepOf, Cond.instanceMethod yX1_stepOf, Cond.selects RX1 yX1_stepOf yX1_stepOf]
def wsX11_next_r4 : List Cond := [Cond.code yX1_stepOf cX1_stepOf 3 (some .int), Cond.methodLink RX1 67 yX1_heardBy, Cond.instanceMethod yX1_heardBy, Cond.selects RX1 yX1_heardBy yX1_heardBy, Cond.code yX1_heardBy cX1_heardBy 3 (some .int), Cond.methodLink RX1 70 yX0_isHole, Cond.instanceMethod yX0_isHole, Cond.selects RX0 yX0_isHole yX0_isHole, Cond.code yX0_isHole cX0_isHole 3 (some .boolean), Cond.methodLink RX0 80 yX0_mayMeet, Cond.instanceMethod yX0_mayMeet, Cond.selects RX0 yX0_mayMeet yX0_mayMeet, Cond.code yX0_mayMeet cX0_mayMeet 3 (some .boolean), Cond.fieldLink RX0 21 "OverHill$Dance" "met" "[I"]
def wsX11_next : List Cond := .code yX11_next cX11_next 5 (some .int) :: ((wsX11_next_r1 ++ (wsX11_next_r2 ++ (wsX11_next_r3 ++ wsX11_next_r4))) ++ wsX110 ++ wsX00 ++ wsX10)
def wsX11_hasSpan : List Cond := .code yX11_hasSpan cX11_hasSpan 3 (some .boolean) :: ([.fieldLink RX11 24 "OverHill" "now" "LOverHill$Dance;", .methodLink RX11 125 yX0_stands, .instanceMethod yX0_stands, .selects RX0 yX0_stands yX0_stands, .initialized RX0, .code yX0_stands cX0_stands 1 (some .boolean), .fieldLink RX0 49 "OverHill$Dance" "lines" "I", .methodLink RX11 156 yX11_isBeat, .static yX11_isBeat, .initialized RX11, .code yX11_isBeat cX11_isBeat 1 (some .boolean), .methodLink RX11 150 yX11_isWithin, .static yX11_isWithin, .code yX11_isWithin cX11_isWithin 2 (some .boolean)] ++ wsX110 ++ wsX00)
def wsX11_holes_r1 : List Cond := [Cond.fieldLink RX11 24 "OverHill" "now" "LOverHill$Dance;", Cond.methodLink RX11 129 yX11_isSide, Cond.static yX11_isSide, Cond.initialized RX11, Cond.code yX11_isSide cX11_isSide 1 (some .boolean), Cond.methodLink RX11 150 yX11_isWithin, Cond.static yX11_isWithin, Cond.code yX11_isWithin cX11_isWithin 2 (some .boolean), Cond.methodLink RX11 191 yX11_hasSpan, Cond.instanceMethod yX11_hasSpan, Cond.selects RX11 yX11_hasSpan yX11_hasSpan, Cond.code yX11_hasSpan cX11_hasSpan 3 (some .boolean), Cond.methodLink RX11 125 yX0_stands, Cond.instanceMethod yX0_stands, Cond.selects RX0 yX0_stands yX0_stands, Cond.initialized RX0, Cond.code yX0_stands cX0_stands 1 (some .boolean), Cond.fieldLink RX0 49 "OverHill$Dance" "lines" "I", Cond.methodLink RX11 156 yX11_isBeat, Cond.static yX11_isBeat, Cond.code yX11_isBeat cX11_isBeat 1 (some .boolean), Cond.methodLink RX11 165 yX11_plainFloor, Cond.instanceMethod yX11_plainFloor, Cond.selects RX11 yX11_plainFloor yX11_plainFloor]
def wsX11_holes_r2 : List Cond := [Cond.code yX11_plainFloor cX11_plainFloor 1 (some (.object "OverHill$Floor")), Cond.fieldLink RX11 49 "OverHill" "laid" "Z", Cond.fieldLink RX11 42 "OverHill" "floor" "LOverHill$Floor;", Cond.methodLink RX11 208 yX1_lay, Cond.instanceMethod yX1_lay, Cond.selects RX1 yX1_lay yX1_lay, Cond.initialized RX1, Cond.code yX1_lay cX1_lay 4 none, Cond.fieldLink RX1 21 "OverHill$Dance" "gap" "I", Cond.fieldLink RX1 27 "OverHill$Floor" "gap" "I", Cond.methodLink RX1 28 yX1_findStumbles, Cond.instanceMethod yX1_findStumbles, Cond.selects RX1 yX1_findStumbles yX1_findStumbles, Cond.code yX1_findStumbles cX1_findStumbles 6 none, Cond.fieldLink RX1 18 "OverHill$Floor" "stumbleIn" "[I", Cond.fieldLink RX1 42 "OverHill$Dance" "stumbleCount" "I", Cond.fieldLink RX1 45 "OverHill$Dance" "stumbles" "[I", Cond.methodLink RX1 36 yJ7_fill_53178, Cond.static yJ7_fill_53178, Cond.initialized RJ7, Cond.code yJ7_fill_53178 cJ7_fill_53178 4 none, Cond.methodLink RX1 32 yX1_laySide, Cond.instanceMethod yX1_laySide, Cond.selects RX1 yX1_laySide yX1_laySide]
def wsX11_holes_r3 : List Cond := [Cond.code yX1_laySide cX1_laySide 10 none, Cond.fieldLink RX1 48 "OverHill$Dance" "lengths" "[I", Cond.fieldLink RX1 51 "OverHill$Dance" "starts" "[I", Cond.fieldLink RX1 9 "OverHill$Floor" "places" "[I", Cond.fieldLink RX1 15 "OverHill$Floor" "steps" "[I", Cond.fieldLink RX1 54 "OverHill$Dance" "muds" "[I", Cond.methodLink RX1 57 yX0_stepAt, Cond.instanceMethod yX0_stepAt, Cond.selects RX0 yX0_stepAt yX0_stepAt, Cond.code yX0_stepAt cX0_stepAt 3 (some .int), Cond.fieldLink RX0 9 "OverHill$Dance" "steps" "[I", Cond.static yX11_wrap, Cond.code yX11_wrap cX11_wrap 2 (some .int), Cond.methodLink RX11 451 yJ9_floorMod_7cf53, Cond.static yJ9_floorMod_7cf53, Cond.initialized RJ9, Cond.code yJ9_floorMod_7cf53 cJ9_floorMod_7cf53 3 (some .int), Cond.methodLink RX11 194 yX1_countHoles, Cond.instanceMethod yX1_countHoles, Cond.selects RX1 yX1_countHoles yX1_countHoles, Cond.code yX1_countHoles cX1_countHoles 7 (some .int), Cond.methodLink RX1 74 yX1_gapes, Cond.instanceMethod yX1_gapes, Cond.selects RX1 yX1_gapes yX1_gapes]
def wsX11_holes_r4 : List Cond := [Cond.code yX1_gapes cX1_gapes 4 (some .boolean), Cond.methodLink RX1 64 yX1_stepOf, Cond.instanceMethod yX1_stepOf, Cond.selects RX1 yX1_stepOf yX1_stepOf, Cond.code yX1_stepOf cX1_stepOf 3 (some .int), Cond.methodLink RX1 67 yX1_heardBy, Cond.instanceMethod yX1_heardBy, Cond.selects RX1 yX1_heardBy yX1_heardBy, Cond.code yX1_heardBy cX1_heardBy 3 (some .int), Cond.methodLink RX1 70 yX0_isHole, Cond.instanceMethod yX0_isHole, Cond.selects RX0 yX0_isHole yX0_isHole, Cond.code yX0_isHole cX0_isHole 3 (some .boolean), Cond.methodLink RX0 80 yX0_mayMeet, Cond.instanceMethod yX0_mayMeet, Cond.selects RX0 yX0_mayMeet yX0_mayMeet, Cond.code yX0_mayMeet cX0_mayMeet 3 (some .boolean), Cond.fieldLink RX0 21 "OverHill$Dance" "met" "[I"]
def wsX11_holes : List Cond := .code yX11_holes cX11_holes 4 (some .int) :: ((wsX11_holes_r1 ++ (wsX11_holes_r2 ++ (wsX11_holes_r3 ++ wsX11_holes_r4))) ++ wsX110 ++ wsX00 ++ wsX10)
def wsX11_run_r1 : List Cond := [Cond.fieldLink RX11 24 "OverHill" "now" "LOverHill$Dance;", Cond.fieldLink RX11 42 "OverHill" "floor" "LOverHill$Floor;", Cond.fieldLink RX11 202 "OverHill$Floor" "calmLength" "I", Cond.methodLink RX11 191 yX11_hasSpan, Cond.instanceMethod yX11_hasSpan, Cond.selects RX11 yX11_hasSpan yX11_hasSpan, Cond.initialized RX11, Cond.code yX11_hasSpan cX11_hasSpan 3 (some .boolean), Cond.methodLink RX11 125 yX0_stands, Cond.instanceMethod yX0_stands, Cond.selects RX0 yX0_stands yX0_stands, Cond.initialized RX0, Cond.code yX0_stands cX0_stands 1 (some .boolean), Cond.fieldLink RX0 49 "OverHill$Dance" "lines" "I", Cond.methodLink RX11 156 yX11_isBeat, Cond.static yX11_isBeat, Cond.code yX11_isBeat cX11_isBeat 1 (some .boolean), Cond.methodLink RX11 150 yX11_isWithin, Cond.static yX11_isWithin, Cond.code yX11_isWithin cX11_isWithin 2 (some .boolean), Cond.methodLink RX11 165 yX11_plainFloor, Cond.instanceMethod yX11_plainFloor, Cond.selects RX11 yX11_plainFloor yX11_plainFloor, Cond.code yX11_plainFloor cX11_plainFloor 1 (some (.object "OverHill$Floor"))]
def wsX11_run_r2 : List Cond := [Cond.fieldLink RX11 49 "OverHill" "laid" "Z", Cond.methodLink RX11 208 yX1_lay, Cond.instanceMethod yX1_lay, Cond.selects RX1 yX1_lay yX1_lay, Cond.initialized RX1, Cond.code yX1_lay cX1_lay 4 none, Cond.fieldLink RX1 21 "OverHill$Dance" "gap" "I", Cond.fieldLink RX1 27 "OverHill$Floor" "gap" "I", Cond.methodLink RX1 28 yX1_findStumbles, Cond.instanceMethod yX1_findStumbles, Cond.selects RX1 yX1_findStumbles yX1_findStumbles, Cond.code yX1_findStumbles cX1_findStumbles 6 none, Cond.fieldLink RX1 18 "OverHill$Floor" "stumbleIn" "[I", Cond.fieldLink RX1 42 "OverHill$Dance" "stumbleCount" "I", Cond.fieldLink RX1 45 "OverHill$Dance" "stumbles" "[I", Cond.methodLink RX1 36 yJ7_fill_53178, Cond.static yJ7_fill_53178, Cond.initialized RJ7, Cond.code yJ7_fill_53178 cJ7_fill_53178 4 none, Cond.methodLink RX1 32 yX1_laySide, Cond.instanceMethod yX1_laySide, Cond.selects RX1 yX1_laySide yX1_laySide, Cond.code yX1_laySide cX1_laySide 10 none, Cond.fieldLink RX1 48 "OverHill$Dance" "lengths" "[I"]
def wsX11_run_r3 : List Cond := [Cond.fieldLink RX1 51 "OverHill$Dance" "starts" "[I", Cond.fieldLink RX1 9 "OverHill$Floor" "places" "[I", Cond.fieldLink RX1 15 "OverHill$Floor" "steps" "[I", Cond.fieldLink RX1 54 "OverHill$Dance" "muds" "[I", Cond.methodLink RX1 57 yX0_stepAt, Cond.instanceMethod yX0_stepAt, Cond.selects RX0 yX0_stepAt yX0_stepAt, Cond.code yX0_stepAt cX0_stepAt 3 (some .int), Cond.fieldLink RX0 9 "OverHill$Dance" "steps" "[I", Cond.static yX11_wrap, Cond.code yX11_wrap cX11_wrap 2 (some .int), Cond.methodLink RX11 451 yJ9_floorMod_7cf53, Cond.static yJ9_floorMod_7cf53, Cond.initialized RJ9, Cond.code yJ9_floorMod_7cf53 cJ9_floorMod_7cf53 3 (some .int), Cond.methodLink RX11 198 yX1_findCalm, Cond.instanceMethod yX1_findCalm, Cond.selects RX1 yX1_findCalm yX1_findCalm, Cond.code yX1_findCalm cX1_findCalm 6 none, Cond.fieldLink RX1 82 "OverHill$Floor" "calmLength" "I", Cond.fieldLink RX1 85 "OverHill$Floor" "calmStart" "I", Cond.methodLink RX1 74 yX1_gapes, Cond.instanceMethod yX1_gapes, Cond.selects RX1 yX1_gapes yX1_gapes]
def wsX11_run_r4 : List Cond := [Cond.code yX1_gapes cX1_gapes 4 (some .boolean), Cond.methodLink RX1 64 yX1_stepOf, Cond.instanceMethod yX1_stepOf, Cond.selects RX1 yX1_stepOf yX1_stepOf, Cond.code yX1_stepOf cX1_stepOf 3 (some .int), Cond.methodLink RX1 67 yX1_heardBy, Cond.instanceMethod yX1_heardBy, Cond.selects RX1 yX1_heardBy yX1_heardBy, Cond.code yX1_heardBy cX1_heardBy 3 (some .int), Cond.methodLink RX1 70 yX0_isHole, Cond.instanceMethod yX0_isHole, Cond.selects RX0 yX0_isHole yX0_isHole, Cond.code yX0_isHole cX0_isHole 3 (some .boolean), Cond.methodLink RX0 80 yX0_mayMeet, Cond.instanceMethod yX0_mayMeet, Cond.selects RX0 yX0_mayMeet yX0_mayMeet, Cond.code yX0_mayMeet cX0_mayMeet 3 (some .boolean), Cond.fieldLink RX0 21 "OverHill$Dance" "met" "[I"]
def wsX11_run : List Cond := .code yX11_run cX11_run 3 (some .int) :: ((wsX11_run_r1 ++ (wsX11_run_r2 ++ (wsX11_run_r3 ++ wsX11_run_r4))) ++ wsX110 ++ wsX10 ++ wsX00)
def wsX11_begins_r1 : List Cond := [Cond.fieldLink RX11 24 "OverHill" "now" "LOverHill$Dance;", Cond.fieldLink RX11 42 "OverHill" "floor" "LOverHill$Floor;", Cond.fieldLink RX11 205 "OverHill$Floor" "calmStart" "I", Cond.methodLink RX11 191 yX11_hasSpan, Cond.instanceMethod yX11_hasSpan, Cond.selects RX11 yX11_hasSpan yX11_hasSpan, Cond.initialized RX11, Cond.code yX11_hasSpan cX11_hasSpan 3 (some .boolean), Cond.methodLink RX11 125 yX0_stands, Cond.instanceMethod yX0_stands, Cond.selects RX0 yX0_stands yX0_stands, Cond.initialized RX0, Cond.code yX0_stands cX0_stands 1 (some .boolean), Cond.fieldLink RX0 49 "OverHill$Dance" "lines" "I", Cond.methodLink RX11 156 yX11_isBeat, Cond.static yX11_isBeat, Cond.code yX11_isBeat cX11_isBeat 1 (some .boolean), Cond.methodLink RX11 150 yX11_isWithin, Cond.static yX11_isWithin, Cond.code yX11_isWithin cX11_isWithin 2 (some .boolean), Cond.methodLink RX11 165 yX11_plainFloor, Cond.instanceMethod yX11_plainFloor, Cond.selects RX11 yX11_plainFloor yX11_plainFloor, Cond.code yX11_plainFloor cX11_plainFloor 1 (some (.object "OverHill$Floor"))]
def wsX11_begins_r2 : List Cond := [Cond.fieldLink RX11 49 "OverHill" "laid" "Z", Cond.methodLink RX11 208 yX1_lay, Cond.instanceMethod yX1_lay, Cond.selects RX1 yX1_lay yX1_lay, Cond.initialized RX1, Cond.code yX1_lay cX1_lay 4 none, Cond.fieldLink RX1 21 "OverHill$Dance" "gap" "I", Cond.fieldLink RX1 27 "OverHill$Floor" "gap" "I", Cond.methodLink RX1 28 yX1_findStumbles, Cond.instanceMethod yX1_findStumbles, Cond.selects RX1 yX1_findStumbles yX1_findStumbles, Cond.code yX1_findStumbles cX1_findStumbles 6 none, Cond.fieldLink RX1 18 "OverHill$Floor" "stumbleIn" "[I", Cond.fieldLink RX1 42 "OverHill$Dance" "stumbleCount" "I", Cond.fieldLink RX1 45 "OverHill$Dance" "stumbles" "[I", Cond.methodLink RX1 36 yJ7_fill_53178, Cond.static yJ7_fill_53178, Cond.initialized RJ7, Cond.code yJ7_fill_53178 cJ7_fill_53178 4 none, Cond.methodLink RX1 32 yX1_laySide, Cond.instanceMethod yX1_laySide, Cond.selects RX1 yX1_laySide yX1_laySide, Cond.code yX1_laySide cX1_laySide 10 none, Cond.fieldLink RX1 48 "OverHill$Dance" "lengths" "[I"]
def wsX11_begins_r3 : List Cond := [Cond.fieldLink RX1 51 "OverHill$Dance" "starts" "[I", Cond.fieldLink RX1 9 "OverHill$Floor" "places" "[I", Cond.fieldLink RX1 15 "OverHill$Floor" "steps" "[I", Cond.fieldLink RX1 54 "OverHill$Dance" "muds" "[I", Cond.methodLink RX1 57 yX0_stepAt, Cond.instanceMethod yX0_stepAt, Cond.selects RX0 yX0_stepAt yX0_stepAt, Cond.code yX0_stepAt cX0_stepAt 3 (some .int), Cond.fieldLink RX0 9 "OverHill$Dance" "steps" "[I", Cond.static yX11_wrap, Cond.code yX11_wrap cX11_wrap 2 (some .int), Cond.methodLink RX11 451 yJ9_floorMod_7cf53, Cond.static yJ9_floorMod_7cf53, Cond.initialized RJ9, Cond.code yJ9_floorMod_7cf53 cJ9_floorMod_7cf53 3 (some .int), Cond.methodLink RX11 198 yX1_findCalm, Cond.instanceMethod yX1_findCalm, Cond.selects RX1 yX1_findCalm yX1_findCalm, Cond.code yX1_findCalm cX1_findCalm 6 none, Cond.fieldLink RX1 82 "OverHill$Floor" "calmLength" "I", Cond.fieldLink RX1 85 "OverHill$Floor" "calmStart" "I", Cond.methodLink RX1 74 yX1_gapes, Cond.instanceMethod yX1_gapes, Cond.selects RX1 yX1_gapes yX1_gapes]
def wsX11_begins_r4 : List Cond := [Cond.code yX1_gapes cX1_gapes 4 (some .boolean), Cond.methodLink RX1 64 yX1_stepOf, Cond.instanceMethod yX1_stepOf, Cond.selects RX1 yX1_stepOf yX1_stepOf, Cond.code yX1_stepOf cX1_stepOf 3 (some .int), Cond.methodLink RX1 67 yX1_heardBy, Cond.instanceMethod yX1_heardBy, Cond.selects RX1 yX1_heardBy yX1_heardBy, Cond.code yX1_heardBy cX1_heardBy 3 (some .int), Cond.methodLink RX1 70 yX0_isHole, Cond.instanceMethod yX0_isHole, Cond.selects RX0 yX0_isHole yX0_isHole, Cond.code yX0_isHole cX0_isHole 3 (some .boolean), Cond.methodLink RX0 80 yX0_mayMeet, Cond.instanceMethod yX0_mayMeet, Cond.selects RX0 yX0_mayMeet yX0_mayMeet, Cond.code yX0_mayMeet cX0_mayMeet 3 (some .boolean), Cond.fieldLink RX0 21 "OverHill$Dance" "met" "[I"]
def wsX11_begins : List Cond := .code yX11_begins cX11_begins 3 (some .int) :: ((wsX11_begins_r1 ++ (wsX11_begins_r2 ++ (wsX11_begins_r3 ++ wsX11_begins_r4))) ++ wsX110 ++ wsX10 ++ wsX00)
def wsX11_undoes_r1 : List Cond := [Cond.fieldLink RX11 24 "OverHill" "now" "LOverHill$Dance;", Cond.fieldLink RX11 46 "OverHill" "trial" "LOverHill$Floor;", Cond.methodLink RX11 147 yX0_hasStumble, Cond.instanceMethod yX0_hasStumble, Cond.selects RX0 yX0_hasStumble yX0_hasStumble, Cond.initialized RX0, Cond.code yX0_hasStumble cX0_hasStumble 2 (some .boolean), Cond.fieldLink RX0 58 "OverHill$Dance" "stumbleCount" "I", Cond.static yX11_isWithin, Cond.initialized RX11, Cond.code yX11_isWithin cX11_isWithin 2 (some .boolean), Cond.methodLink RX11 208 yX1_lay, Cond.instanceMethod yX1_lay, Cond.selects RX1 yX1_lay yX1_lay, Cond.initialized RX1, Cond.code yX1_lay cX1_lay 4 none, Cond.fieldLink RX1 21 "OverHill$Dance" "gap" "I", Cond.fieldLink RX1 27 "OverHill$Floor" "gap" "I", Cond.methodLink RX1 28 yX1_findStumbles, Cond.instanceMethod yX1_findStumbles, Cond.selects RX1 yX1_findStumbles yX1_findStumbles, Cond.code yX1_findStumbles cX1_findStumbles 6 none, Cond.fieldLink RX1 18 "OverHill$Floor" "stumbleIn" "[I", Cond.fieldLink RX1 42 "OverHill$Dance" "stumbleCount" "I"]
def wsX11_undoes_r2 : List Cond := [Cond.fieldLink RX1 45 "OverHill$Dance" "stumbles" "[I", Cond.methodLink RX1 36 yJ7_fill_53178, Cond.static yJ7_fill_53178, Cond.initialized RJ7, Cond.code yJ7_fill_53178 cJ7_fill_53178 4 none, Cond.methodLink RX1 32 yX1_laySide, Cond.instanceMethod yX1_laySide, Cond.selects RX1 yX1_laySide yX1_laySide, Cond.code yX1_laySide cX1_laySide 10 none, Cond.fieldLink RX1 48 "OverHill$Dance" "lengths" "[I", Cond.fieldLink RX1 51 "OverHill$Dance" "starts" "[I", Cond.fieldLink RX1 9 "OverHill$Floor" "places" "[I", Cond.fieldLink RX1 15 "OverHill$Floor" "steps" "[I", Cond.fieldLink RX1 54 "OverHill$Dance" "muds" "[I", Cond.methodLink RX1 57 yX0_stepAt, Cond.instanceMethod yX0_stepAt, Cond.selects RX0 yX0_stepAt yX0_stepAt, Cond.code yX0_stepAt cX0_stepAt 3 (some .int), Cond.fieldLink RX0 9 "OverHill$Dance" "steps" "[I", Cond.static yX11_wrap, Cond.code yX11_wrap cX11_wrap 2 (some .int), Cond.methodLink RX11 451 yJ9_floorMod_7cf53, Cond.static yJ9_floorMod_7cf53, Cond.initialized RJ9]
def wsX11_undoes_r3 : List Cond := [Cond.code yJ9_floorMod_7cf53 cJ9_floorMod_7cf53 3 (some .int), Cond.methodLink RX11 165 yX11_plainFloor, Cond.instanceMethod yX11_plainFloor, Cond.selects RX11 yX11_plainFloor yX11_plainFloor, Cond.code yX11_plainFloor cX11_plainFloor 1 (some (.object "OverHill$Floor")), Cond.fieldLink RX11 49 "OverHill" "laid" "Z", Cond.fieldLink RX11 42 "OverHill" "floor" "LOverHill$Floor;", Cond.methodLink RX11 212 yX1_countAllHoles, Cond.instanceMethod yX1_countAllHoles, Cond.selects RX1 yX1_countAllHoles yX1_countAllHoles, Cond.code yX1_countAllHoles cX1_countAllHoles 2 (some .int), Cond.methodLink RX1 78 yX1_countHoles, Cond.instanceMethod yX1_countHoles, Cond.selects RX1 yX1_countHoles yX1_countHoles, Cond.code yX1_countHoles cX1_countHoles 7 (some .int), Cond.methodLink RX1 74 yX1_gapes, Cond.instanceMethod yX1_gapes, Cond.selects RX1 yX1_gapes yX1_gapes, Cond.code yX1_gapes cX1_gapes 4 (some .boolean), Cond.methodLink RX1 64 yX1_stepOf, Cond.instanceMethod yX1_stepOf, Cond.selects RX1 yX1_stepOf yX1_stepOf, Cond.code yX1_stepOf cX1_stepOf 3 (some .int), Cond.methodLink RX1 67 yX1_heardBy]
def wsX11_undoes_r4 : List Cond := [Cond.instanceMethod yX1_heardBy, Cond.selects RX1 yX1_heardBy yX1_heardBy, Cond.code yX1_heardBy cX1_heardBy 3 (some .int), Cond.methodLink RX1 70 yX0_isHole, Cond.instanceMethod yX0_isHole, Cond.selects RX0 yX0_isHole yX0_isHole, Cond.code yX0_isHole cX0_isHole 3 (some .boolean), Cond.methodLink RX0 80 yX0_mayMeet, Cond.instanceMethod yX0_mayMeet, Cond.selects RX0 yX0_mayMeet yX0_mayMeet, Cond.code yX0_mayMeet cX0_mayMeet 3 (some .boolean), Cond.fieldLink RX0 21 "OverHill$Dance" "met" "[I"]
def wsX11_undoes : List Cond := .code yX11_undoes cX11_undoes 2 (some .int) :: ((wsX11_undoes_r1 ++ (wsX11_undoes_r2 ++ (wsX11_undoes_r3 ++ wsX11_undoes_r4))) ++ wsX110 ++ wsX00 ++ wsX10)
def wsX11_causes_r1 : List Cond := [Cond.fieldLink RX11 24 "OverHill" "now" "LOverHill$Dance;", Cond.fieldLink RX11 216 "OverHill$Dance" "stumbleCount" "I", Cond.fieldLink RX11 46 "OverHill" "trial" "LOverHill$Floor;", Cond.methodLink RX11 162 yX11_has, Cond.instanceMethod yX11_has, Cond.selects RX11 yX11_has yX11_has, Cond.initialized RX11, Cond.code yX11_has cX11_has 3 (some .boolean), Cond.methodLink RX11 125 yX0_stands, Cond.instanceMethod yX0_stands, Cond.selects RX0 yX0_stands yX0_stands, Cond.initialized RX0, Cond.code yX0_stands cX0_stands 1 (some .boolean), Cond.fieldLink RX0 49 "OverHill$Dance" "lines" "I", Cond.methodLink RX11 129 yX11_isSide, Cond.static yX11_isSide, Cond.code yX11_isSide cX11_isSide 1 (some .boolean), Cond.methodLink RX11 150 yX11_isWithin, Cond.static yX11_isWithin, Cond.code yX11_isWithin cX11_isWithin 2 (some .boolean), Cond.methodLink RX11 156 yX11_isBeat, Cond.static yX11_isBeat, Cond.code yX11_isBeat cX11_isBeat 1 (some .boolean), Cond.methodLink RX11 165 yX11_plainFloor]
def wsX11_causes_r2 : List Cond := [Cond.instanceMethod yX11_plainFloor, Cond.selects RX11 yX11_plainFloor yX11_plainFloor, Cond.code yX11_plainFloor cX11_plainFloor 1 (some (.object "OverHill$Floor")), Cond.fieldLink RX11 49 "OverHill" "laid" "Z", Cond.fieldLink RX11 42 "OverHill" "floor" "LOverHill$Floor;", Cond.methodLink RX11 208 yX1_lay, Cond.instanceMethod yX1_lay, Cond.selects RX1 yX1_lay yX1_lay, Cond.initialized RX1, Cond.code yX1_lay cX1_lay 4 none, Cond.fieldLink RX1 21 "OverHill$Dance" "gap" "I", Cond.fieldLink RX1 27 "OverHill$Floor" "gap" "I", Cond.methodLink RX1 28 yX1_findStumbles, Cond.instanceMethod yX1_findStumbles, Cond.selects RX1 yX1_findStumbles yX1_findStumbles, Cond.code yX1_findStumbles cX1_findStumbles 6 none, Cond.fieldLink RX1 18 "OverHill$Floor" "stumbleIn" "[I", Cond.fieldLink RX1 42 "OverHill$Dance" "stumbleCount" "I", Cond.fieldLink RX1 45 "OverHill$Dance" "stumbles" "[I", Cond.methodLink RX1 36 yJ7_fill_53178, Cond.static yJ7_fill_53178, Cond.initialized RJ7, Cond.code yJ7_fill_53178 cJ7_fill_53178 4 none, Cond.methodLink RX1 32 yX1_laySide]
def wsX11_causes_r3 : List Cond := [Cond.instanceMethod yX1_laySide, Cond.selects RX1 yX1_laySide yX1_laySide, Cond.code yX1_laySide cX1_laySide 10 none, Cond.fieldLink RX1 48 "OverHill$Dance" "lengths" "[I", Cond.fieldLink RX1 51 "OverHill$Dance" "starts" "[I", Cond.fieldLink RX1 9 "OverHill$Floor" "places" "[I", Cond.fieldLink RX1 15 "OverHill$Floor" "steps" "[I", Cond.fieldLink RX1 54 "OverHill$Dance" "muds" "[I", Cond.methodLink RX1 57 yX0_stepAt, Cond.instanceMethod yX0_stepAt, Cond.selects RX0 yX0_stepAt yX0_stepAt, Cond.code yX0_stepAt cX0_stepAt 3 (some .int), Cond.fieldLink RX0 9 "OverHill$Dance" "steps" "[I", Cond.static yX11_wrap, Cond.code yX11_wrap cX11_wrap 2 (some .int), Cond.methodLink RX11 451 yJ9_floorMod_7cf53, Cond.static yJ9_floorMod_7cf53, Cond.initialized RJ9, Cond.code yJ9_floorMod_7cf53 cJ9_floorMod_7cf53 3 (some .int), Cond.methodLink RX11 187 yX1_gapes, Cond.instanceMethod yX1_gapes, Cond.selects RX1 yX1_gapes yX1_gapes, Cond.code yX1_gapes cX1_gapes 4 (some .boolean), Cond.methodLink RX1 64 yX1_stepOf]
def wsX11_causes_r4 : List Cond := [Cond.instanceMethod yX1_stepOf, Cond.selects RX1 yX1_stepOf yX1_stepOf, Cond.code yX1_stepOf cX1_stepOf 3 (some .int), Cond.methodLink RX1 67 yX1_heardBy, Cond.instanceMethod yX1_heardBy, Cond.selects RX1 yX1_heardBy yX1_heardBy, Cond.code yX1_heardBy cX1_heardBy 3 (some .int), Cond.methodLink RX1 70 yX0_isHole, Cond.instanceMethod yX0_isHole, Cond.selects RX0 yX0_isHole yX0_isHole, Cond.code yX0_isHole cX0_isHole 3 (some .boolean), Cond.methodLink RX0 80 yX0_mayMeet, Cond.instanceMethod yX0_mayMeet, Cond.selects RX0 yX0_mayMeet yX0_mayMeet, Cond.code yX0_mayMeet cX0_mayMeet 3 (some .boolean), Cond.fieldLink RX0 21 "OverHill$Dance" "met" "[I"]
def wsX11_causes : List Cond := .code yX11_causes cX11_causes 5 (some .int) :: ((wsX11_causes_r1 ++ (wsX11_causes_r2 ++ (wsX11_causes_r3 ++ wsX11_causes_r4))) ++ wsX110 ++ wsX00 ++ wsX10)
def wsX11_period : List Cond := .code yX11_period cX11_period 1 (some .int) :: ([.fieldLink RX11 24 "OverHill" "now" "LOverHill$Dance;", .methodLink RX11 125 yX0_stands, .instanceMethod yX0_stands, .selects RX0 yX0_stands yX0_stands, .initialized RX0, .code yX0_stands cX0_stands 1 (some .boolean), .fieldLink RX0 49 "OverHill$Dance" "lines" "I", .methodLink RX11 219 yX0_hasBothRounds, .instanceMethod yX0_hasBothRounds, .selects RX0 yX0_hasBothRounds yX0_hasBothRounds, .code yX0_hasBothRounds cX0_hasBothRounds 1 (some .boolean), .fieldLink RX0 15 "OverHill$Dance" "lengths" "[I", .methodLink RX11 222 yX6_periodOf, .static yX6_periodOf, .initialized RX6, .code yX6_periodOf cX6_periodOf 1 (some .int), .fieldLink RX6 15 "OverHill$Dance" "lengths" "[I", .static yX11_commonMultiple, .initialized RX11, .code yX11_commonMultiple cX11_commonMultiple 6 (some .long), .methodLink RX11 347 yX11_commonDivisor, .static yX11_commonDivisor, .code yX11_commonDivisor cX11_commonDivisor 11 (some .long)] ++ wsX110 ++ wsX00)
def wsX11_meets_r1 : List Cond := [Cond.fieldLink RX11 24 "OverHill" "now" "LOverHill$Dance;", Cond.methodLink RX11 125 yX0_stands, Cond.instanceMethod yX0_stands, Cond.selects RX0 yX0_stands yX0_stands, Cond.initialized RX0, Cond.code yX0_stands cX0_stands 1 (some .boolean), Cond.fieldLink RX0 49 "OverHill$Dance" "lines" "I", Cond.methodLink RX11 133 yX0_hasPlace, Cond.instanceMethod yX0_hasPlace, Cond.selects RX0 yX0_hasPlace yX0_hasPlace, Cond.code yX0_hasPlace cX0_hasPlace 3 (some .boolean), Cond.fieldLink RX0 15 "OverHill$Dance" "lengths" "[I", Cond.static yX11_isWithin, Cond.initialized RX11, Cond.code yX11_isWithin cX11_isWithin 2 (some .boolean), Cond.methodLink RX11 156 yX11_isBeat, Cond.static yX11_isBeat, Cond.code yX11_isBeat cX11_isBeat 1 (some .boolean), Cond.methodLink RX11 150 yX11_isWithin, Cond.methodLink RX11 225 yX6_firstIn, Cond.static yX6_firstIn, Cond.initialized RX6, Cond.code yX6_firstIn cX6_firstIn 6 (some .int), Cond.methodLink RX6 24 yX6_periodOf]
def wsX11_meets_r2 : List Cond := [Cond.static yX6_periodOf, Cond.code yX6_periodOf cX6_periodOf 1 (some .int), Cond.fieldLink RX6 15 "OverHill$Dance" "lengths" "[I", Cond.static yX11_commonMultiple, Cond.code yX11_commonMultiple cX11_commonMultiple 6 (some .long), Cond.methodLink RX11 347 yX11_commonDivisor, Cond.static yX11_commonDivisor, Cond.code yX11_commonDivisor cX11_commonDivisor 11 (some .long), Cond.methodLink RX6 28 yX6_placeIn, Cond.static yX6_placeIn, Cond.code yX6_placeIn cX6_placeIn 3 (some .int), Cond.fieldLink RX6 75 "OverHill$Dance" "starts" "[I", Cond.static yX11_wrap, Cond.code yX11_wrap cX11_wrap 2 (some .int), Cond.methodLink RX11 451 yJ9_floorMod_7cf53, Cond.static yJ9_floorMod_7cf53, Cond.initialized RJ9, Cond.code yJ9_floorMod_7cf53 cJ9_floorMod_7cf53 3 (some .int)]
def wsX11_meets : List Cond := .code yX11_meets cX11_meets 4 (some .int) :: ((wsX11_meets_r1 ++ wsX11_meets_r2) ++ wsX110 ++ wsX00)
def wsX11_hasRounds : List Cond := .code yX11_hasRounds cX11_hasRounds 1 (some .boolean) :: ([.fieldLink RX11 24 "OverHill" "now" "LOverHill$Dance;", .methodLink RX11 125 yX0_stands, .instanceMethod yX0_stands, .selects RX0 yX0_stands yX0_stands, .initialized RX0, .code yX0_stands cX0_stands 1 (some .boolean), .fieldLink RX0 49 "OverHill$Dance" "lines" "I", .methodLink RX11 219 yX0_hasBothRounds, .instanceMethod yX0_hasBothRounds, .selects RX0 yX0_hasBothRounds yX0_hasBothRounds, .code yX0_hasBothRounds cX0_hasBothRounds 1 (some .boolean), .fieldLink RX0 15 "OverHill$Dance" "lengths" "[I"] ++ wsX110 ++ wsX00)
def wsX11_shifted_r1 : List Cond := [Cond.fieldLink RX11 24 "OverHill" "now" "LOverHill$Dance;", Cond.fieldLink RX11 178 "OverHill$Dance" "lengths" "[I", Cond.methodLink RX11 228 yX11_hasRounds, Cond.instanceMethod yX11_hasRounds, Cond.selects RX11 yX11_hasRounds yX11_hasRounds, Cond.initialized RX11, Cond.code yX11_hasRounds cX11_hasRounds 1 (some .boolean), Cond.methodLink RX11 125 yX0_stands, Cond.instanceMethod yX0_stands, Cond.selects RX0 yX0_stands yX0_stands, Cond.initialized RX0, Cond.code yX0_stands cX0_stands 1 (some .boolean), Cond.fieldLink RX0 49 "OverHill$Dance" "lines" "I", Cond.methodLink RX11 219 yX0_hasBothRounds, Cond.instanceMethod yX0_hasBothRounds, Cond.selects RX0 yX0_hasBothRounds yX0_hasBothRounds, Cond.code yX0_hasBothRounds cX0_hasBothRounds 1 (some .boolean), Cond.fieldLink RX0 15 "OverHill$Dance" "lengths" "[I", Cond.methodLink RX11 150 yX11_isWithin, Cond.static yX11_isWithin, Cond.code yX11_isWithin cX11_isWithin 2 (some .boolean), Cond.methodLink RX11 231 yX6_holesShifted, Cond.static yX6_holesShifted, Cond.initialized RX6]
def wsX11_shifted_r2 : List Cond := [Cond.code yX6_holesShifted cX6_holesShifted 6 (some .int), Cond.fieldLink RX6 32 "OverHill$Dance" "gap" "I", Cond.methodLink RX6 24 yX6_periodOf, Cond.static yX6_periodOf, Cond.code yX6_periodOf cX6_periodOf 1 (some .int), Cond.fieldLink RX6 15 "OverHill$Dance" "lengths" "[I", Cond.static yX11_commonMultiple, Cond.code yX11_commonMultiple cX11_commonMultiple 6 (some .long), Cond.methodLink RX11 347 yX11_commonDivisor, Cond.static yX11_commonDivisor, Cond.code yX11_commonDivisor cX11_commonDivisor 11 (some .long), Cond.methodLink RX6 36 yX6_stepIn, Cond.static yX6_stepIn, Cond.code yX6_stepIn cX6_stepIn 3 (some .int), Cond.methodLink RX6 28 yX6_placeIn, Cond.static yX6_placeIn, Cond.code yX6_placeIn cX6_placeIn 3 (some .int), Cond.fieldLink RX6 75 "OverHill$Dance" "starts" "[I", Cond.static yX11_wrap, Cond.code yX11_wrap cX11_wrap 2 (some .int), Cond.methodLink RX11 451 yJ9_floorMod_7cf53, Cond.static yJ9_floorMod_7cf53, Cond.initialized RJ9, Cond.code yJ9_floorMod_7cf53 cJ9_floorMod_7cf53 3 (some .int)]
def wsX11_shifted_r3 : List Cond := [Cond.methodLink RX6 59 yX0_stepAt, Cond.instanceMethod yX0_stepAt, Cond.selects RX0 yX0_stepAt yX0_stepAt, Cond.code yX0_stepAt cX0_stepAt 3 (some .int), Cond.fieldLink RX0 9 "OverHill$Dance" "steps" "[I", Cond.methodLink RX6 39 yX0_isHole, Cond.instanceMethod yX0_isHole, Cond.selects RX0 yX0_isHole yX0_isHole, Cond.code yX0_isHole cX0_isHole 3 (some .boolean), Cond.methodLink RX0 80 yX0_mayMeet, Cond.instanceMethod yX0_mayMeet, Cond.selects RX0 yX0_mayMeet yX0_mayMeet, Cond.code yX0_mayMeet cX0_mayMeet 3 (some .boolean), Cond.fieldLink RX0 21 "OverHill$Dance" "met" "[I"]
def wsX11_shifted : List Cond := .code yX11_shifted cX11_shifted 2 (some .int) :: ((wsX11_shifted_r1 ++ (wsX11_shifted_r2 ++ wsX11_shifted_r3)) ++ wsX110 ++ wsX00)
def wsX11_shift_r1 : List Cond := [Cond.fieldLink RX11 24 "OverHill" "now" "LOverHill$Dance;", Cond.methodLink RX11 228 yX11_hasRounds, Cond.instanceMethod yX11_hasRounds, Cond.selects RX11 yX11_hasRounds yX11_hasRounds, Cond.initialized RX11, Cond.code yX11_hasRounds cX11_hasRounds 1 (some .boolean), Cond.methodLink RX11 125 yX0_stands, Cond.instanceMethod yX0_stands, Cond.selects RX0 yX0_stands yX0_stands, Cond.initialized RX0, Cond.code yX0_stands cX0_stands 1 (some .boolean), Cond.fieldLink RX0 49 "OverHill$Dance" "lines" "I", Cond.methodLink RX11 219 yX0_hasBothRounds, Cond.instanceMethod yX0_hasBothRounds, Cond.selects RX0 yX0_hasBothRounds yX0_hasBothRounds, Cond.code yX0_hasBothRounds cX0_hasBothRounds 1 (some .boolean), Cond.fieldLink RX0 15 "OverHill$Dance" "lengths" "[I", Cond.methodLink RX11 235 yX6_leastShift, Cond.static yX6_leastShift, Cond.initialized RX6, Cond.code yX6_leastShift cX6_leastShift 5 (some .int), Cond.fieldLink RX6 15 "OverHill$Dance" "lengths" "[I", Cond.methodLink RX6 43 yX6_holesShifted, Cond.static yX6_holesShifted]
def wsX11_shift_r2 : List Cond := [Cond.code yX6_holesShifted cX6_holesShifted 6 (some .int), Cond.fieldLink RX6 32 "OverHill$Dance" "gap" "I", Cond.methodLink RX6 24 yX6_periodOf, Cond.static yX6_periodOf, Cond.code yX6_periodOf cX6_periodOf 1 (some .int), Cond.static yX11_commonMultiple, Cond.code yX11_commonMultiple cX11_commonMultiple 6 (some .long), Cond.methodLink RX11 347 yX11_commonDivisor, Cond.static yX11_commonDivisor, Cond.code yX11_commonDivisor cX11_commonDivisor 11 (some .long), Cond.methodLink RX6 36 yX6_stepIn, Cond.static yX6_stepIn, Cond.code yX6_stepIn cX6_stepIn 3 (some .int), Cond.methodLink RX6 28 yX6_placeIn, Cond.static yX6_placeIn, Cond.code yX6_placeIn cX6_placeIn 3 (some .int), Cond.fieldLink RX6 75 "OverHill$Dance" "starts" "[I", Cond.static yX11_wrap, Cond.code yX11_wrap cX11_wrap 2 (some .int), Cond.methodLink RX11 451 yJ9_floorMod_7cf53, Cond.static yJ9_floorMod_7cf53, Cond.initialized RJ9, Cond.code yJ9_floorMod_7cf53 cJ9_floorMod_7cf53 3 (some .int), Cond.methodLink RX6 59 yX0_stepAt]
def wsX11_shift_r3 : List Cond := [Cond.instanceMethod yX0_stepAt, Cond.selects RX0 yX0_stepAt yX0_stepAt, Cond.code yX0_stepAt cX0_stepAt 3 (some .int), Cond.fieldLink RX0 9 "OverHill$Dance" "steps" "[I", Cond.methodLink RX6 39 yX0_isHole, Cond.instanceMethod yX0_isHole, Cond.selects RX0 yX0_isHole yX0_isHole, Cond.code yX0_isHole cX0_isHole 3 (some .boolean), Cond.methodLink RX0 80 yX0_mayMeet, Cond.instanceMethod yX0_mayMeet, Cond.selects RX0 yX0_mayMeet yX0_mayMeet, Cond.code yX0_mayMeet cX0_mayMeet 3 (some .boolean), Cond.fieldLink RX0 21 "OverHill$Dance" "met" "[I", Cond.methodLink RX11 231 yX6_holesShifted]
def wsX11_shift : List Cond := .code yX11_shift cX11_shift 2 (some .int) :: ((wsX11_shift_r1 ++ (wsX11_shift_r2 ++ wsX11_shift_r3)) ++ wsX110 ++ wsX00)
def wsX11_least_r1 : List Cond := [Cond.fieldLink RX11 24 "OverHill" "now" "LOverHill$Dance;", Cond.methodLink RX11 228 yX11_hasRounds, Cond.instanceMethod yX11_hasRounds, Cond.selects RX11 yX11_hasRounds yX11_hasRounds, Cond.initialized RX11, Cond.code yX11_hasRounds cX11_hasRounds 1 (some .boolean), Cond.methodLink RX11 125 yX0_stands, Cond.instanceMethod yX0_stands, Cond.selects RX0 yX0_stands yX0_stands, Cond.initialized RX0, Cond.code yX0_stands cX0_stands 1 (some .boolean), Cond.fieldLink RX0 49 "OverHill$Dance" "lines" "I", Cond.methodLink RX11 219 yX0_hasBothRounds, Cond.instanceMethod yX0_hasBothRounds, Cond.selects RX0 yX0_hasBothRounds yX0_hasBothRounds, Cond.code yX0_hasBothRounds cX0_hasBothRounds 1 (some .boolean), Cond.fieldLink RX0 15 "OverHill$Dance" "lengths" "[I", Cond.methodLink RX11 235 yX6_leastShift, Cond.static yX6_leastShift, Cond.initialized RX6, Cond.code yX6_leastShift cX6_leastShift 5 (some .int), Cond.fieldLink RX6 15 "OverHill$Dance" "lengths" "[I", Cond.methodLink RX6 43 yX6_holesShifted, Cond.static yX6_holesShifted]
def wsX11_least_r2 : List Cond := [Cond.code yX6_holesShifted cX6_holesShifted 6 (some .int), Cond.fieldLink RX6 32 "OverHill$Dance" "gap" "I", Cond.methodLink RX6 24 yX6_periodOf, Cond.static yX6_periodOf, Cond.code yX6_periodOf cX6_periodOf 1 (some .int), Cond.static yX11_commonMultiple, Cond.code yX11_commonMultiple cX11_commonMultiple 6 (some .long), Cond.methodLink RX11 347 yX11_commonDivisor, Cond.static yX11_commonDivisor, Cond.code yX11_commonDivisor cX11_commonDivisor 11 (some .long), Cond.methodLink RX6 36 yX6_stepIn, Cond.static yX6_stepIn, Cond.code yX6_stepIn cX6_stepIn 3 (some .int), Cond.methodLink RX6 28 yX6_placeIn, Cond.static yX6_placeIn, Cond.code yX6_placeIn cX6_placeIn 3 (some .int), Cond.fieldLink RX6 75 "OverHill$Dance" "starts" "[I", Cond.static yX11_wrap, Cond.code yX11_wrap cX11_wrap 2 (some .int), Cond.methodLink RX11 451 yJ9_floorMod_7cf53, Cond.static yJ9_floorMod_7cf53, Cond.initialized RJ9, Cond.code yJ9_floorMod_7cf53 cJ9_floorMod_7cf53 3 (some .int), Cond.methodLink RX6 59 yX0_stepAt]
def wsX11_least_r3 : List Cond := [Cond.instanceMethod yX0_stepAt, Cond.selects RX0 yX0_stepAt yX0_stepAt, Cond.code yX0_stepAt cX0_stepAt 3 (some .int), Cond.fieldLink RX0 9 "OverHill$Dance" "steps" "[I", Cond.methodLink RX6 39 yX0_isHole, Cond.instanceMethod yX0_isHole, Cond.selects RX0 yX0_isHole yX0_isHole, Cond.code yX0_isHole cX0_isHole 3 (some .boolean), Cond.methodLink RX0 80 yX0_mayMeet, Cond.instanceMethod yX0_mayMeet, Cond.selects RX0 yX0_mayMeet yX0_mayMeet, Cond.code yX0_mayMeet cX0_mayMeet 3 (some .boolean), Cond.fieldLink RX0 21 "OverHill$Dance" "met" "[I"]
def wsX11_least : List Cond := .code yX11_least cX11_least 1 (some .int) :: ((wsX11_least_r1 ++ (wsX11_least_r2 ++ wsX11_least_r3)) ++ wsX110 ++ wsX00)
def wsX11_mend_r1 : List Cond := [Cond.fieldLink RX11 56 "OverHill" "rounds" "LOverHill$Rounds;", Cond.fieldLink RX11 24 "OverHill" "now" "LOverHill$Dance;", Cond.methodLink RX11 228 yX11_hasRounds, Cond.instanceMethod yX11_hasRounds, Cond.selects RX11 yX11_hasRounds yX11_hasRounds, Cond.initialized RX11, Cond.code yX11_hasRounds cX11_hasRounds 1 (some .boolean), Cond.methodLink RX11 125 yX0_stands, Cond.instanceMethod yX0_stands, Cond.selects RX0 yX0_stands yX0_stands, Cond.initialized RX0, Cond.code yX0_stands cX0_stands 1 (some .boolean), Cond.fieldLink RX0 49 "OverHill$Dance" "lines" "I", Cond.methodLink RX11 219 yX0_hasBothRounds, Cond.instanceMethod yX0_hasBothRounds, Cond.selects RX0 yX0_hasBothRounds yX0_hasBothRounds, Cond.code yX0_hasBothRounds cX0_hasBothRounds 1 (some .boolean), Cond.fieldLink RX0 15 "OverHill$Dance" "lengths" "[I", Cond.methodLink RX11 129 yX11_isSide, Cond.static yX11_isSide, Cond.code yX11_isSide cX11_isSide 1 (some .boolean), Cond.methodLink RX11 150 yX11_isWithin, Cond.static yX11_isWithin, Cond.code yX11_isWithin cX11_isWithin 2 (some .boolean)]
def wsX11_mend_r2 : List Cond := [Cond.methodLink RX11 238 yX6_findFits, Cond.instanceMethod yX6_findFits, Cond.selects RX6 yX6_findFits yX6_findFits, Cond.initialized RX6, Cond.code yX6_findFits cX6_findFits 7 none, Cond.fieldLink RX6 9 "OverHill$Rounds" "fits" "[I", Cond.fieldLink RX6 32 "OverHill$Dance" "gap" "I", Cond.fieldLink RX6 56 "OverHill$Dance" "met" "[I", Cond.methodLink RX6 47 yJ7_fill_53178, Cond.static yJ7_fill_53178, Cond.initialized RJ7, Cond.code yJ7_fill_53178 cJ7_fill_53178 4 none, Cond.methodLink RX6 24 yX6_periodOf, Cond.static yX6_periodOf, Cond.code yX6_periodOf cX6_periodOf 1 (some .int), Cond.fieldLink RX6 15 "OverHill$Dance" "lengths" "[I", Cond.static yX11_commonMultiple, Cond.code yX11_commonMultiple cX11_commonMultiple 6 (some .long), Cond.methodLink RX11 347 yX11_commonDivisor, Cond.static yX11_commonDivisor, Cond.code yX11_commonDivisor cX11_commonDivisor 11 (some .long), Cond.methodLink RX6 36 yX6_stepIn, Cond.static yX6_stepIn, Cond.code yX6_stepIn cX6_stepIn 3 (some .int)]
def wsX11_mend_r3 : List Cond := [Cond.methodLink RX6 28 yX6_placeIn, Cond.static yX6_placeIn, Cond.code yX6_placeIn cX6_placeIn 3 (some .int), Cond.fieldLink RX6 75 "OverHill$Dance" "starts" "[I", Cond.static yX11_wrap, Cond.code yX11_wrap cX11_wrap 2 (some .int), Cond.methodLink RX11 451 yJ9_floorMod_7cf53, Cond.static yJ9_floorMod_7cf53, Cond.initialized RJ9, Cond.code yJ9_floorMod_7cf53 cJ9_floorMod_7cf53 3 (some .int), Cond.methodLink RX6 59 yX0_stepAt, Cond.instanceMethod yX0_stepAt, Cond.selects RX0 yX0_stepAt yX0_stepAt, Cond.code yX0_stepAt cX0_stepAt 3 (some .int), Cond.fieldLink RX0 9 "OverHill$Dance" "steps" "[I", Cond.methodLink RX6 53 yX6_metBy, Cond.static yX6_metBy, Cond.code yX6_metBy cX6_metBy 4 (some .int), Cond.methodLink RX6 72 yX0_mayMeet, Cond.instanceMethod yX0_mayMeet, Cond.selects RX0 yX0_mayMeet yX0_mayMeet, Cond.code yX0_mayMeet cX0_mayMeet 3 (some .boolean), Cond.fieldLink RX0 21 "OverHill$Dance" "met" "[I", Cond.methodLink RX11 241 yX6_firstStuck]
def wsX11_mend_r4 : List Cond := [Cond.instanceMethod yX6_firstStuck, Cond.selects RX6 yX6_firstStuck yX6_firstStuck, Cond.code yX6_firstStuck cX6_firstStuck 4 (some .int), Cond.methodLink RX11 244 yX6_countChanged, Cond.instanceMethod yX6_countChanged, Cond.selects RX6 yX6_countChanged yX6_countChanged, Cond.code yX6_countChanged cX6_countChanged 5 (some .int), Cond.methodLink RX6 69 yX6_fitting, Cond.instanceMethod yX6_fitting, Cond.selects RX6 yX6_fitting yX6_fitting, Cond.code yX6_fitting cX6_fitting 6 (some .int), Cond.methodLink RX6 63 yJ6_numberOfTrailingZeros_0f7a4, Cond.static yJ6_numberOfTrailingZeros_0f7a4, Cond.initialized RJ6, Cond.code yJ6_numberOfTrailingZeros_0f7a4 cJ6_numberOfTrailingZeros_0f7a4 2 (some .int), Cond.constant RJ6 264 (65536)]
def wsX11_mend : List Cond := .code yX11_mend cX11_mend 2 (some .int) :: ((wsX11_mend_r1 ++ (wsX11_mend_r2 ++ (wsX11_mend_r3 ++ wsX11_mend_r4))) ++ wsX110 ++ wsX00 ++ wsX60)
def wsX11_mended_r1 : List Cond := [Cond.fieldLink RX11 24 "OverHill" "now" "LOverHill$Dance;", Cond.fieldLink RX11 56 "OverHill" "rounds" "LOverHill$Rounds;", Cond.methodLink RX11 228 yX11_hasRounds, Cond.instanceMethod yX11_hasRounds, Cond.selects RX11 yX11_hasRounds yX11_hasRounds, Cond.initialized RX11, Cond.code yX11_hasRounds cX11_hasRounds 1 (some .boolean), Cond.methodLink RX11 125 yX0_stands, Cond.instanceMethod yX0_stands, Cond.selects RX0 yX0_stands yX0_stands, Cond.initialized RX0, Cond.code yX0_stands cX0_stands 1 (some .boolean), Cond.fieldLink RX0 49 "OverHill$Dance" "lines" "I", Cond.methodLink RX11 219 yX0_hasBothRounds, Cond.instanceMethod yX0_hasBothRounds, Cond.selects RX0 yX0_hasBothRounds yX0_hasBothRounds, Cond.code yX0_hasBothRounds cX0_hasBothRounds 1 (some .boolean), Cond.fieldLink RX0 15 "OverHill$Dance" "lengths" "[I", Cond.methodLink RX11 129 yX11_isSide, Cond.static yX11_isSide, Cond.code yX11_isSide cX11_isSide 1 (some .boolean), Cond.methodLink RX11 150 yX11_isWithin, Cond.static yX11_isWithin, Cond.code yX11_isWithin cX11_isWithin 2 (some .boolean)]
def wsX11_mended_r2 : List Cond := [Cond.methodLink RX11 133 yX0_hasPlace, Cond.instanceMethod yX0_hasPlace, Cond.selects RX0 yX0_hasPlace yX0_hasPlace, Cond.code yX0_hasPlace cX0_hasPlace 3 (some .boolean), Cond.methodLink RX11 238 yX6_findFits, Cond.instanceMethod yX6_findFits, Cond.selects RX6 yX6_findFits yX6_findFits, Cond.initialized RX6, Cond.code yX6_findFits cX6_findFits 7 none, Cond.fieldLink RX6 9 "OverHill$Rounds" "fits" "[I", Cond.fieldLink RX6 32 "OverHill$Dance" "gap" "I", Cond.fieldLink RX6 56 "OverHill$Dance" "met" "[I", Cond.methodLink RX6 47 yJ7_fill_53178, Cond.static yJ7_fill_53178, Cond.initialized RJ7, Cond.code yJ7_fill_53178 cJ7_fill_53178 4 none, Cond.methodLink RX6 24 yX6_periodOf, Cond.static yX6_periodOf, Cond.code yX6_periodOf cX6_periodOf 1 (some .int), Cond.fieldLink RX6 15 "OverHill$Dance" "lengths" "[I", Cond.static yX11_commonMultiple, Cond.code yX11_commonMultiple cX11_commonMultiple 6 (some .long), Cond.methodLink RX11 347 yX11_commonDivisor, Cond.static yX11_commonDivisor]
def wsX11_mended_r3 : List Cond := [Cond.code yX11_commonDivisor cX11_commonDivisor 11 (some .long), Cond.methodLink RX6 36 yX6_stepIn, Cond.static yX6_stepIn, Cond.code yX6_stepIn cX6_stepIn 3 (some .int), Cond.methodLink RX6 28 yX6_placeIn, Cond.static yX6_placeIn, Cond.code yX6_placeIn cX6_placeIn 3 (some .int), Cond.fieldLink RX6 75 "OverHill$Dance" "starts" "[I", Cond.static yX11_wrap, Cond.code yX11_wrap cX11_wrap 2 (some .int), Cond.methodLink RX11 451 yJ9_floorMod_7cf53, Cond.static yJ9_floorMod_7cf53, Cond.initialized RJ9, Cond.code yJ9_floorMod_7cf53 cJ9_floorMod_7cf53 3 (some .int), Cond.methodLink RX6 59 yX0_stepAt, Cond.instanceMethod yX0_stepAt, Cond.selects RX0 yX0_stepAt yX0_stepAt, Cond.code yX0_stepAt cX0_stepAt 3 (some .int), Cond.fieldLink RX0 9 "OverHill$Dance" "steps" "[I", Cond.methodLink RX6 53 yX6_metBy, Cond.static yX6_metBy, Cond.code yX6_metBy cX6_metBy 4 (some .int), Cond.methodLink RX6 72 yX0_mayMeet, Cond.instanceMethod yX0_mayMeet]
def wsX11_mended_r4 : List Cond := [Cond.selects RX0 yX0_mayMeet yX0_mayMeet, Cond.code yX0_mayMeet cX0_mayMeet 3 (some .boolean), Cond.fieldLink RX0 21 "OverHill$Dance" "met" "[I", Cond.methodLink RX11 241 yX6_firstStuck, Cond.instanceMethod yX6_firstStuck, Cond.selects RX6 yX6_firstStuck yX6_firstStuck, Cond.code yX6_firstStuck cX6_firstStuck 4 (some .int), Cond.methodLink RX11 247 yX6_fitting, Cond.instanceMethod yX6_fitting, Cond.selects RX6 yX6_fitting yX6_fitting, Cond.code yX6_fitting cX6_fitting 6 (some .int), Cond.methodLink RX6 63 yJ6_numberOfTrailingZeros_0f7a4, Cond.static yJ6_numberOfTrailingZeros_0f7a4, Cond.initialized RJ6, Cond.code yJ6_numberOfTrailingZeros_0f7a4 cJ6_numberOfTrailingZeros_0f7a4 2 (some .int), Cond.constant RJ6 264 (65536)]
def wsX11_mended : List Cond := .code yX11_mended cX11_mended 3 (some .int) :: ((wsX11_mended_r1 ++ (wsX11_mended_r2 ++ (wsX11_mended_r3 ++ wsX11_mended_r4))) ++ wsX110 ++ wsX00 ++ wsX60)
def wsX11_stuck_r1 : List Cond := [Cond.fieldLink RX11 56 "OverHill" "rounds" "LOverHill$Rounds;", Cond.fieldLink RX11 24 "OverHill" "now" "LOverHill$Dance;", Cond.methodLink RX11 228 yX11_hasRounds, Cond.instanceMethod yX11_hasRounds, Cond.selects RX11 yX11_hasRounds yX11_hasRounds, Cond.initialized RX11, Cond.code yX11_hasRounds cX11_hasRounds 1 (some .boolean), Cond.methodLink RX11 125 yX0_stands, Cond.instanceMethod yX0_stands, Cond.selects RX0 yX0_stands yX0_stands, Cond.initialized RX0, Cond.code yX0_stands cX0_stands 1 (some .boolean), Cond.fieldLink RX0 49 "OverHill$Dance" "lines" "I", Cond.methodLink RX11 219 yX0_hasBothRounds, Cond.instanceMethod yX0_hasBothRounds, Cond.selects RX0 yX0_hasBothRounds yX0_hasBothRounds, Cond.code yX0_hasBothRounds cX0_hasBothRounds 1 (some .boolean), Cond.fieldLink RX0 15 "OverHill$Dance" "lengths" "[I", Cond.methodLink RX11 129 yX11_isSide, Cond.static yX11_isSide, Cond.code yX11_isSide cX11_isSide 1 (some .boolean), Cond.methodLink RX11 150 yX11_isWithin, Cond.static yX11_isWithin, Cond.code yX11_isWithin cX11_isWithin 2 (some .boolean)]
def wsX11_stuck_r2 : List Cond := [Cond.methodLink RX11 238 yX6_findFits, Cond.instanceMethod yX6_findFits, Cond.selects RX6 yX6_findFits yX6_findFits, Cond.initialized RX6, Cond.code yX6_findFits cX6_findFits 7 none, Cond.fieldLink RX6 9 "OverHill$Rounds" "fits" "[I", Cond.fieldLink RX6 32 "OverHill$Dance" "gap" "I", Cond.fieldLink RX6 56 "OverHill$Dance" "met" "[I", Cond.methodLink RX6 47 yJ7_fill_53178, Cond.static yJ7_fill_53178, Cond.initialized RJ7, Cond.code yJ7_fill_53178 cJ7_fill_53178 4 none, Cond.methodLink RX6 24 yX6_periodOf, Cond.static yX6_periodOf, Cond.code yX6_periodOf cX6_periodOf 1 (some .int), Cond.fieldLink RX6 15 "OverHill$Dance" "lengths" "[I", Cond.static yX11_commonMultiple, Cond.code yX11_commonMultiple cX11_commonMultiple 6 (some .long), Cond.methodLink RX11 347 yX11_commonDivisor, Cond.static yX11_commonDivisor, Cond.code yX11_commonDivisor cX11_commonDivisor 11 (some .long), Cond.methodLink RX6 36 yX6_stepIn, Cond.static yX6_stepIn, Cond.code yX6_stepIn cX6_stepIn 3 (some .int)]
def wsX11_stuck_r3 : List Cond := [Cond.methodLink RX6 28 yX6_placeIn, Cond.static yX6_placeIn, Cond.code yX6_placeIn cX6_placeIn 3 (some .int), Cond.fieldLink RX6 75 "OverHill$Dance" "starts" "[I", Cond.static yX11_wrap, Cond.code yX11_wrap cX11_wrap 2 (some .int), Cond.methodLink RX11 451 yJ9_floorMod_7cf53, Cond.static yJ9_floorMod_7cf53, Cond.initialized RJ9, Cond.code yJ9_floorMod_7cf53 cJ9_floorMod_7cf53 3 (some .int), Cond.methodLink RX6 59 yX0_stepAt, Cond.instanceMethod yX0_stepAt, Cond.selects RX0 yX0_stepAt yX0_stepAt, Cond.code yX0_stepAt cX0_stepAt 3 (some .int), Cond.fieldLink RX0 9 "OverHill$Dance" "steps" "[I", Cond.methodLink RX6 53 yX6_metBy, Cond.static yX6_metBy, Cond.code yX6_metBy cX6_metBy 4 (some .int), Cond.methodLink RX6 72 yX0_mayMeet, Cond.instanceMethod yX0_mayMeet, Cond.selects RX0 yX0_mayMeet yX0_mayMeet, Cond.code yX0_mayMeet cX0_mayMeet 3 (some .boolean), Cond.fieldLink RX0 21 "OverHill$Dance" "met" "[I", Cond.methodLink RX11 241 yX6_firstStuck]
def wsX11_stuck_r4 : List Cond := [Cond.instanceMethod yX6_firstStuck, Cond.selects RX6 yX6_firstStuck yX6_firstStuck, Cond.code yX6_firstStuck cX6_firstStuck 4 (some .int)]
def wsX11_stuck : List Cond := .code yX11_stuck cX11_stuck 2 (some .int) :: ((wsX11_stuck_r1 ++ (wsX11_stuck_r2 ++ (wsX11_stuck_r3 ++ wsX11_stuck_r4))) ++ wsX110 ++ wsX00 ++ wsX60)
def wsX11_listenTo_r1 : List Cond := [Cond.fieldLink RX11 24 "OverHill" "now" "LOverHill$Dance;", Cond.fieldLink RX11 98 "OverHill" "slots" "LOverHill$Slots;", Cond.fieldLink RX11 63 "OverHill" "guess" "LOverHill$Guess;", Cond.fieldLink RX11 419 "OverHill$Slots" "sizes" "[I", Cond.methodLink RX11 125 yX0_stands, Cond.instanceMethod yX0_stands, Cond.selects RX0 yX0_stands yX0_stands, Cond.initialized RX0, Cond.code yX0_stands cX0_stands 1 (some .boolean), Cond.fieldLink RX0 49 "OverHill$Dance" "lines" "I", Cond.methodLink RX11 129 yX11_isSide, Cond.static yX11_isSide, Cond.initialized RX11, Cond.code yX11_isSide cX11_isSide 1 (some .boolean), Cond.methodLink RX11 150 yX11_isWithin, Cond.static yX11_isWithin, Cond.code yX11_isWithin cX11_isWithin 2 (some .boolean), Cond.methodLink RX11 438 yX7_refusalOfHeard, Cond.instanceMethod yX7_refusalOfHeard, Cond.selects RX7 yX7_refusalOfHeard yX7_refusalOfHeard, Cond.initialized RX7, Cond.code yX7_refusalOfHeard cX7_refusalOfHeard 5 (some .int), Cond.fieldLink RX7 15 "OverHill$Slots" "sizes" "[I", Cond.constantLong RX7 47 (199)]
def wsX11_listenTo_r2 : List Cond := [Cond.methodLink RX7 40 yX7_isSlot, Cond.static yX7_isSlot, Cond.code yX7_isSlot cX7_isSlot 1 (some .boolean), Cond.methodLink RX7 26 yX7_has, Cond.instanceMethod yX7_has, Cond.selects RX7 yX7_has yX7_has, Cond.code yX7_has cX7_has 2 (some .boolean), Cond.methodLink RX7 43 yX7_at, Cond.instanceMethod yX7_at, Cond.selects RX7 yX7_at yX7_at, Cond.code yX7_at cX7_at 3 (some .long), Cond.fieldLink RX7 18 "OverHill$Slots" "numbers" "[J", Cond.methodLink RX7 49 yX7_isBetween, Cond.static yX7_isBetween, Cond.code yX7_isBetween cX7_isBetween 6 (some .boolean), Cond.methodLink RX7 53 yX7_isTold, Cond.static yX7_isTold, Cond.code yX7_isTold cX7_isTold 2 (some .boolean), Cond.constantLong RX7 60 (-1), Cond.constantLong RX7 70 (5), Cond.methodLink RX11 441 yX3_begin, Cond.instanceMethod yX3_begin, Cond.selects RX3 yX3_begin yX3_begin, Cond.initialized RX3]
def wsX11_listenTo_r3 : List Cond := [Cond.code yX3_begin cX3_begin 6 none, Cond.fieldLink RX3 30 "OverHill$Dance" "gap" "I", Cond.fieldLink RX3 36 "OverHill$Guess" "gap" "I", Cond.fieldLink RX3 37 "OverHill$Dance" "lengths" "[I", Cond.fieldLink RX3 40 "OverHill$Guess" "length" "I", Cond.fieldLink RX3 43 "OverHill$Dance" "steps" "[I", Cond.fieldLink RX3 9 "OverHill$Guess" "round" "[I", Cond.methodLink RX3 46 arraycopyName, Cond.native arraycopyName, Cond.static arraycopyName, Cond.initialized "java/lang/System", Cond.fieldLink RX3 52 "OverHill$Guess" "impossible" "Z", Cond.fieldLink RX3 56 "OverHill$Guess" "firstUnlike" "I", Cond.fieldLink RX3 15 "OverHill$Guess" "lastUnlike" "[I", Cond.fieldLink RX3 21 "OverHill$Guess" "stepsIn" "[I", Cond.fieldLink RX3 65 "OverHill$Dance" "starts" "[I", Cond.fieldLink RX3 68 "OverHill$Dance" "muds" "[I", Cond.fieldLink RX3 18 "OverHill$Guess" "places" "[I", Cond.methodLink RX3 59 yJ7_fill_53178, Cond.static yJ7_fill_53178, Cond.initialized RJ7, Cond.code yJ7_fill_53178 cJ7_fill_53178 4 none, Cond.static yX11_wrap, Cond.code yX11_wrap cX11_wrap 2 (some .int)]
def wsX11_listenTo_r4 : List Cond := [Cond.methodLink RX11 451 yJ9_floorMod_7cf53, Cond.static yJ9_floorMod_7cf53, Cond.initialized RJ9, Cond.code yJ9_floorMod_7cf53 cJ9_floorMod_7cf53 3 (some .int), Cond.methodLink RX11 444 yX7_at, Cond.methodLink RX11 447 yX3_hear, Cond.instanceMethod yX3_hear, Cond.selects RX3 yX3_hear yX3_hear, Cond.code yX3_hear cX3_hear 5 none, Cond.methodLink RX3 78 Lib.Math.min.name, Cond.static Lib.Math.min.name, Cond.initialized "java/lang/Math", Cond.code Lib.Math.min.name Lib.Math.min.code 2 (some .int), Cond.methodLink RX3 83 Lib.Math.max.name, Cond.static Lib.Math.max.name, Cond.code Lib.Math.max.name Lib.Math.max.code 2 (some .int), Cond.methodLink RX3 75 yX3_stepBack, Cond.instanceMethod yX3_stepBack, Cond.selects RX3 yX3_stepBack yX3_stepBack, Cond.code yX3_stepBack cX3_stepBack 3 (some .int)]
def wsX11_listenTo : List Cond := .code yX11_listenTo cX11_listenTo 5 (some .int) :: ((wsX11_listenTo_r1 ++ (wsX11_listenTo_r2 ++ (wsX11_listenTo_r3 ++ wsX11_listenTo_r4))) ++ wsX110 ++ wsX70 ++ wsX00 ++ wsX30)
def wsX11_heard_r1 : List Cond := [Cond.fieldLink RX11 63 "OverHill" "guess" "LOverHill$Guess;", Cond.methodLink RX11 251 yX11_listenTo, Cond.instanceMethod yX11_listenTo, Cond.selects RX11 yX11_listenTo yX11_listenTo, Cond.initialized RX11, Cond.code yX11_listenTo cX11_listenTo 5 (some .int), Cond.fieldLink RX11 24 "OverHill" "now" "LOverHill$Dance;", Cond.fieldLink RX11 98 "OverHill" "slots" "LOverHill$Slots;", Cond.fieldLink RX11 419 "OverHill$Slots" "sizes" "[I", Cond.methodLink RX11 125 yX0_stands, Cond.instanceMethod yX0_stands, Cond.selects RX0 yX0_stands yX0_stands, Cond.initialized RX0, Cond.code yX0_stands cX0_stands 1 (some .boolean), Cond.fieldLink RX0 49 "OverHill$Dance" "lines" "I", Cond.methodLink RX11 129 yX11_isSide, Cond.static yX11_isSide, Cond.code yX11_isSide cX11_isSide 1 (some .boolean), Cond.methodLink RX11 150 yX11_isWithin, Cond.static yX11_isWithin, Cond.code yX11_isWithin cX11_isWithin 2 (some .boolean), Cond.methodLink RX11 438 yX7_refusalOfHeard, Cond.instanceMethod yX7_refusalOfHeard, Cond.selects RX7 yX7_refusalOfHeard yX7_refusalOfHeard]
def wsX11_heard_r2 : List Cond := [Cond.initialized RX7, Cond.code yX7_refusalOfHeard cX7_refusalOfHeard 5 (some .int), Cond.fieldLink RX7 15 "OverHill$Slots" "sizes" "[I", Cond.constantLong RX7 47 (199), Cond.methodLink RX7 40 yX7_isSlot, Cond.static yX7_isSlot, Cond.code yX7_isSlot cX7_isSlot 1 (some .boolean), Cond.methodLink RX7 26 yX7_has, Cond.instanceMethod yX7_has, Cond.selects RX7 yX7_has yX7_has, Cond.code yX7_has cX7_has 2 (some .boolean), Cond.methodLink RX7 43 yX7_at, Cond.instanceMethod yX7_at, Cond.selects RX7 yX7_at yX7_at, Cond.code yX7_at cX7_at 3 (some .long), Cond.fieldLink RX7 18 "OverHill$Slots" "numbers" "[J", Cond.methodLink RX7 49 yX7_isBetween, Cond.static yX7_isBetween, Cond.code yX7_isBetween cX7_isBetween 6 (some .boolean), Cond.methodLink RX7 53 yX7_isTold, Cond.static yX7_isTold, Cond.code yX7_isTold cX7_isTold 2 (some .boolean), Cond.constantLong RX7 60 (-1), Cond.constantLong RX7 70 (5)]
def wsX11_heard_r3 : List Cond := [Cond.methodLink RX11 441 yX3_begin, Cond.instanceMethod yX3_begin, Cond.selects RX3 yX3_begin yX3_begin, Cond.initialized RX3, Cond.code yX3_begin cX3_begin 6 none, Cond.fieldLink RX3 30 "OverHill$Dance" "gap" "I", Cond.fieldLink RX3 36 "OverHill$Guess" "gap" "I", Cond.fieldLink RX3 37 "OverHill$Dance" "lengths" "[I", Cond.fieldLink RX3 40 "OverHill$Guess" "length" "I", Cond.fieldLink RX3 43 "OverHill$Dance" "steps" "[I", Cond.fieldLink RX3 9 "OverHill$Guess" "round" "[I", Cond.methodLink RX3 46 arraycopyName, Cond.native arraycopyName, Cond.static arraycopyName, Cond.initialized "java/lang/System", Cond.fieldLink RX3 52 "OverHill$Guess" "impossible" "Z", Cond.fieldLink RX3 56 "OverHill$Guess" "firstUnlike" "I", Cond.fieldLink RX3 15 "OverHill$Guess" "lastUnlike" "[I", Cond.fieldLink RX3 21 "OverHill$Guess" "stepsIn" "[I", Cond.fieldLink RX3 65 "OverHill$Dance" "starts" "[I", Cond.fieldLink RX3 68 "OverHill$Dance" "muds" "[I", Cond.fieldLink RX3 18 "OverHill$Guess" "places" "[I", Cond.methodLink RX3 59 yJ7_fill_53178, Cond.static yJ7_fill_53178]
def wsX11_heard_r4 : List Cond := [Cond.initialized RJ7, Cond.code yJ7_fill_53178 cJ7_fill_53178 4 none, Cond.static yX11_wrap, Cond.code yX11_wrap cX11_wrap 2 (some .int), Cond.methodLink RX11 451 yJ9_floorMod_7cf53, Cond.static yJ9_floorMod_7cf53, Cond.initialized RJ9, Cond.code yJ9_floorMod_7cf53 cJ9_floorMod_7cf53 3 (some .int), Cond.methodLink RX11 444 yX7_at, Cond.methodLink RX11 447 yX3_hear, Cond.instanceMethod yX3_hear, Cond.selects RX3 yX3_hear yX3_hear, Cond.code yX3_hear cX3_hear 5 none, Cond.methodLink RX3 78 Lib.Math.min.name, Cond.static Lib.Math.min.name, Cond.initialized "java/lang/Math", Cond.code Lib.Math.min.name Lib.Math.min.code 2 (some .int), Cond.methodLink RX3 83 Lib.Math.max.name, Cond.static Lib.Math.max.name, Cond.code Lib.Math.max.name Lib.Math.max.code 2 (some .int), Cond.methodLink RX3 75 yX3_stepBack, Cond.instanceMethod yX3_stepBack, Cond.selects RX3 yX3_stepBack yX3_stepBack, Cond.code yX3_stepBack cX3_stepBack 3 (some .int)]
def wsX11_heard_r5 : List Cond := [Cond.methodLink RX11 254 yX3_countFits, Cond.instanceMethod yX3_countFits, Cond.selects RX3 yX3_countFits yX3_countFits, Cond.code yX3_countFits cX3_countFits 4 (some .int), Cond.methodLink RX3 86 yX3_fitsWithout, Cond.instanceMethod yX3_fitsWithout, Cond.selects RX3 yX3_fitsWithout yX3_fitsWithout, Cond.code yX3_fitsWithout cX3_fitsWithout 1 (some .boolean), Cond.methodLink RX3 90 yX3_stepsThatFit, Cond.instanceMethod yX3_stepsThatFit, Cond.selects RX3 yX3_stepsThatFit yX3_stepsThatFit, Cond.code yX3_stepsThatFit cX3_stepsThatFit 4 (some .int), Cond.methodLink RX3 93 yJ6_bitCount_0f7a4, Cond.static yJ6_bitCount_0f7a4, Cond.initialized RJ6, Cond.code yJ6_bitCount_0f7a4 cJ6_bitCount_0f7a4 1 (some .int), Cond.constant RJ6 265 (1431655765), Cond.constant RJ6 266 (858993459), Cond.constant RJ6 267 (252645135)]
def wsX11_heard : List Cond := .code yX11_heard cX11_heard 4 (some .int) :: ((wsX11_heard_r1 ++ (wsX11_heard_r2 ++ (wsX11_heard_r3 ++ (wsX11_heard_r4 ++ wsX11_heard_r5)))) ++ wsX110 ++ wsX70 ++ wsX00 ++ wsX30)
def wsX11_first_r1 : List Cond := [Cond.fieldLink RX11 63 "OverHill" "guess" "LOverHill$Guess;", Cond.methodLink RX11 251 yX11_listenTo, Cond.instanceMethod yX11_listenTo, Cond.selects RX11 yX11_listenTo yX11_listenTo, Cond.initialized RX11, Cond.code yX11_listenTo cX11_listenTo 5 (some .int), Cond.fieldLink RX11 24 "OverHill" "now" "LOverHill$Dance;", Cond.fieldLink RX11 98 "OverHill" "slots" "LOverHill$Slots;", Cond.fieldLink RX11 419 "OverHill$Slots" "sizes" "[I", Cond.methodLink RX11 125 yX0_stands, Cond.instanceMethod yX0_stands, Cond.selects RX0 yX0_stands yX0_stands, Cond.initialized RX0, Cond.code yX0_stands cX0_stands 1 (some .boolean), Cond.fieldLink RX0 49 "OverHill$Dance" "lines" "I", Cond.methodLink RX11 129 yX11_isSide, Cond.static yX11_isSide, Cond.code yX11_isSide cX11_isSide 1 (some .boolean), Cond.methodLink RX11 150 yX11_isWithin, Cond.static yX11_isWithin, Cond.code yX11_isWithin cX11_isWithin 2 (some .boolean), Cond.methodLink RX11 438 yX7_refusalOfHeard, Cond.instanceMethod yX7_refusalOfHeard, Cond.selects RX7 yX7_refusalOfHeard yX7_refusalOfHeard]
def wsX11_first_r2 : List Cond := [Cond.initialized RX7, Cond.code yX7_refusalOfHeard cX7_refusalOfHeard 5 (some .int), Cond.fieldLink RX7 15 "OverHill$Slots" "sizes" "[I", Cond.constantLong RX7 47 (199), Cond.methodLink RX7 40 yX7_isSlot, Cond.static yX7_isSlot, Cond.code yX7_isSlot cX7_isSlot 1 (some .boolean), Cond.methodLink RX7 26 yX7_has, Cond.instanceMethod yX7_has, Cond.selects RX7 yX7_has yX7_has, Cond.code yX7_has cX7_has 2 (some .boolean), Cond.methodLink RX7 43 yX7_at, Cond.instanceMethod yX7_at, Cond.selects RX7 yX7_at yX7_at, Cond.code yX7_at cX7_at 3 (some .long), Cond.fieldLink RX7 18 "OverHill$Slots" "numbers" "[J", Cond.methodLink RX7 49 yX7_isBetween, Cond.static yX7_isBetween, Cond.code yX7_isBetween cX7_isBetween 6 (some .boolean), Cond.methodLink RX7 53 yX7_isTold, Cond.static yX7_isTold, Cond.code yX7_isTold cX7_isTold 2 (some .boolean), Cond.constantLong RX7 60 (-1), Cond.constantLong RX7 70 (5)]
def wsX11_first_r3 : List Cond := [Cond.methodLink RX11 441 yX3_begin, Cond.instanceMethod yX3_begin, Cond.selects RX3 yX3_begin yX3_begin, Cond.initialized RX3, Cond.code yX3_begin cX3_begin 6 none, Cond.fieldLink RX3 30 "OverHill$Dance" "gap" "I", Cond.fieldLink RX3 36 "OverHill$Guess" "gap" "I", Cond.fieldLink RX3 37 "OverHill$Dance" "lengths" "[I", Cond.fieldLink RX3 40 "OverHill$Guess" "length" "I", Cond.fieldLink RX3 43 "OverHill$Dance" "steps" "[I", Cond.fieldLink RX3 9 "OverHill$Guess" "round" "[I", Cond.methodLink RX3 46 arraycopyName, Cond.native arraycopyName, Cond.static arraycopyName, Cond.initialized "java/lang/System", Cond.fieldLink RX3 52 "OverHill$Guess" "impossible" "Z", Cond.fieldLink RX3 56 "OverHill$Guess" "firstUnlike" "I", Cond.fieldLink RX3 15 "OverHill$Guess" "lastUnlike" "[I", Cond.fieldLink RX3 21 "OverHill$Guess" "stepsIn" "[I", Cond.fieldLink RX3 65 "OverHill$Dance" "starts" "[I", Cond.fieldLink RX3 68 "OverHill$Dance" "muds" "[I", Cond.fieldLink RX3 18 "OverHill$Guess" "places" "[I", Cond.methodLink RX3 59 yJ7_fill_53178, Cond.static yJ7_fill_53178]
def wsX11_first_r4 : List Cond := [Cond.initialized RJ7, Cond.code yJ7_fill_53178 cJ7_fill_53178 4 none, Cond.static yX11_wrap, Cond.code yX11_wrap cX11_wrap 2 (some .int), Cond.methodLink RX11 451 yJ9_floorMod_7cf53, Cond.static yJ9_floorMod_7cf53, Cond.initialized RJ9, Cond.code yJ9_floorMod_7cf53 cJ9_floorMod_7cf53 3 (some .int), Cond.methodLink RX11 444 yX7_at, Cond.methodLink RX11 447 yX3_hear, Cond.instanceMethod yX3_hear, Cond.selects RX3 yX3_hear yX3_hear, Cond.code yX3_hear cX3_hear 5 none, Cond.methodLink RX3 78 Lib.Math.min.name, Cond.static Lib.Math.min.name, Cond.initialized "java/lang/Math", Cond.code Lib.Math.min.name Lib.Math.min.code 2 (some .int), Cond.methodLink RX3 83 Lib.Math.max.name, Cond.static Lib.Math.max.name, Cond.code Lib.Math.max.name Lib.Math.max.code 2 (some .int), Cond.methodLink RX3 75 yX3_stepBack, Cond.instanceMethod yX3_stepBack, Cond.selects RX3 yX3_stepBack yX3_stepBack, Cond.code yX3_stepBack cX3_stepBack 3 (some .int)]
def wsX11_first_r5 : List Cond := [Cond.methodLink RX11 258 yX3_leastFit, Cond.instanceMethod yX3_leastFit, Cond.selects RX3 yX3_leastFit yX3_leastFit, Cond.code yX3_leastFit cX3_leastFit 4 (some .int), Cond.methodLink RX3 86 yX3_fitsWithout, Cond.instanceMethod yX3_fitsWithout, Cond.selects RX3 yX3_fitsWithout yX3_fitsWithout, Cond.code yX3_fitsWithout cX3_fitsWithout 1 (some .boolean), Cond.methodLink RX3 90 yX3_stepsThatFit, Cond.instanceMethod yX3_stepsThatFit, Cond.selects RX3 yX3_stepsThatFit yX3_stepsThatFit, Cond.code yX3_stepsThatFit cX3_stepsThatFit 4 (some .int)]
def wsX11_first : List Cond := .code yX11_first cX11_first 4 (some .int) :: ((wsX11_first_r1 ++ (wsX11_first_r2 ++ (wsX11_first_r3 ++ (wsX11_first_r4 ++ wsX11_first_r5)))) ++ wsX110 ++ wsX70 ++ wsX00 ++ wsX30)
def wsX11_when_r1 : List Cond := [Cond.fieldLink RX11 63 "OverHill" "guess" "LOverHill$Guess;", Cond.methodLink RX11 251 yX11_listenTo, Cond.instanceMethod yX11_listenTo, Cond.selects RX11 yX11_listenTo yX11_listenTo, Cond.initialized RX11, Cond.code yX11_listenTo cX11_listenTo 5 (some .int), Cond.fieldLink RX11 24 "OverHill" "now" "LOverHill$Dance;", Cond.fieldLink RX11 98 "OverHill" "slots" "LOverHill$Slots;", Cond.fieldLink RX11 419 "OverHill$Slots" "sizes" "[I", Cond.methodLink RX11 125 yX0_stands, Cond.instanceMethod yX0_stands, Cond.selects RX0 yX0_stands yX0_stands, Cond.initialized RX0, Cond.code yX0_stands cX0_stands 1 (some .boolean), Cond.fieldLink RX0 49 "OverHill$Dance" "lines" "I", Cond.methodLink RX11 129 yX11_isSide, Cond.static yX11_isSide, Cond.code yX11_isSide cX11_isSide 1 (some .boolean), Cond.methodLink RX11 150 yX11_isWithin, Cond.static yX11_isWithin, Cond.code yX11_isWithin cX11_isWithin 2 (some .boolean), Cond.methodLink RX11 438 yX7_refusalOfHeard, Cond.instanceMethod yX7_refusalOfHeard, Cond.selects RX7 yX7_refusalOfHeard yX7_refusalOfHeard]
def wsX11_when_r2 : List Cond := [Cond.initialized RX7, Cond.code yX7_refusalOfHeard cX7_refusalOfHeard 5 (some .int), Cond.fieldLink RX7 15 "OverHill$Slots" "sizes" "[I", Cond.constantLong RX7 47 (199), Cond.methodLink RX7 40 yX7_isSlot, Cond.static yX7_isSlot, Cond.code yX7_isSlot cX7_isSlot 1 (some .boolean), Cond.methodLink RX7 26 yX7_has, Cond.instanceMethod yX7_has, Cond.selects RX7 yX7_has yX7_has, Cond.code yX7_has cX7_has 2 (some .boolean), Cond.methodLink RX7 43 yX7_at, Cond.instanceMethod yX7_at, Cond.selects RX7 yX7_at yX7_at, Cond.code yX7_at cX7_at 3 (some .long), Cond.fieldLink RX7 18 "OverHill$Slots" "numbers" "[J", Cond.methodLink RX7 49 yX7_isBetween, Cond.static yX7_isBetween, Cond.code yX7_isBetween cX7_isBetween 6 (some .boolean), Cond.methodLink RX7 53 yX7_isTold, Cond.static yX7_isTold, Cond.code yX7_isTold cX7_isTold 2 (some .boolean), Cond.constantLong RX7 60 (-1), Cond.constantLong RX7 70 (5)]
def wsX11_when_r3 : List Cond := [Cond.methodLink RX11 441 yX3_begin, Cond.instanceMethod yX3_begin, Cond.selects RX3 yX3_begin yX3_begin, Cond.initialized RX3, Cond.code yX3_begin cX3_begin 6 none, Cond.fieldLink RX3 30 "OverHill$Dance" "gap" "I", Cond.fieldLink RX3 36 "OverHill$Guess" "gap" "I", Cond.fieldLink RX3 37 "OverHill$Dance" "lengths" "[I", Cond.fieldLink RX3 40 "OverHill$Guess" "length" "I", Cond.fieldLink RX3 43 "OverHill$Dance" "steps" "[I", Cond.fieldLink RX3 9 "OverHill$Guess" "round" "[I", Cond.methodLink RX3 46 arraycopyName, Cond.native arraycopyName, Cond.static arraycopyName, Cond.initialized "java/lang/System", Cond.fieldLink RX3 52 "OverHill$Guess" "impossible" "Z", Cond.fieldLink RX3 56 "OverHill$Guess" "firstUnlike" "I", Cond.fieldLink RX3 15 "OverHill$Guess" "lastUnlike" "[I", Cond.fieldLink RX3 21 "OverHill$Guess" "stepsIn" "[I", Cond.fieldLink RX3 65 "OverHill$Dance" "starts" "[I", Cond.fieldLink RX3 68 "OverHill$Dance" "muds" "[I", Cond.fieldLink RX3 18 "OverHill$Guess" "places" "[I", Cond.methodLink RX3 59 yJ7_fill_53178, Cond.static yJ7_fill_53178]
def wsX11_when_r4 : List Cond := [Cond.initialized RJ7, Cond.code yJ7_fill_53178 cJ7_fill_53178 4 none, Cond.static yX11_wrap, Cond.code yX11_wrap cX11_wrap 2 (some .int), Cond.methodLink RX11 451 yJ9_floorMod_7cf53, Cond.static yJ9_floorMod_7cf53, Cond.initialized RJ9, Cond.code yJ9_floorMod_7cf53 cJ9_floorMod_7cf53 3 (some .int), Cond.methodLink RX11 444 yX7_at, Cond.methodLink RX11 447 yX3_hear, Cond.instanceMethod yX3_hear, Cond.selects RX3 yX3_hear yX3_hear, Cond.code yX3_hear cX3_hear 5 none, Cond.methodLink RX3 78 Lib.Math.min.name, Cond.static Lib.Math.min.name, Cond.initialized "java/lang/Math", Cond.code Lib.Math.min.name Lib.Math.min.code 2 (some .int), Cond.methodLink RX3 83 Lib.Math.max.name, Cond.static Lib.Math.max.name, Cond.code Lib.Math.max.name Lib.Math.max.code 2 (some .int), Cond.methodLink RX3 75 yX3_stepBack, Cond.instanceMethod yX3_stepBack, Cond.selects RX3 yX3_stepBack yX3_stepBack, Cond.code yX3_stepBack cX3_stepBack 3 (some .int)]
def wsX11_when_r5 : List Cond := [Cond.methodLink RX11 261 yX3_beatsOfFits, Cond.instanceMethod yX3_beatsOfFits, Cond.selects RX3 yX3_beatsOfFits yX3_beatsOfFits, Cond.code yX3_beatsOfFits cX3_beatsOfFits 5 (some .long), Cond.methodLink RX3 90 yX3_stepsThatFit, Cond.instanceMethod yX3_stepsThatFit, Cond.selects RX3 yX3_stepsThatFit yX3_stepsThatFit, Cond.code yX3_stepsThatFit cX3_stepsThatFit 4 (some .int), Cond.methodLink RX3 86 yX3_fitsWithout, Cond.instanceMethod yX3_fitsWithout, Cond.selects RX3 yX3_fitsWithout yX3_fitsWithout, Cond.code yX3_fitsWithout cX3_fitsWithout 1 (some .boolean)]
def wsX11_when : List Cond := .code yX11_when cX11_when 4 (some .long) :: ((wsX11_when_r1 ++ (wsX11_when_r2 ++ (wsX11_when_r3 ++ (wsX11_when_r4 ++ wsX11_when_r5)))) ++ wsX110 ++ wsX70 ++ wsX00 ++ wsX30)
def wsX11_listen_r1 : List Cond := [Cond.fieldLink RX11 63 "OverHill" "guess" "LOverHill$Guess;", Cond.fieldLink RX11 268 "OverHill$Guess" "bestBeat" "I", Cond.methodLink RX11 251 yX11_listenTo, Cond.instanceMethod yX11_listenTo, Cond.selects RX11 yX11_listenTo yX11_listenTo, Cond.initialized RX11, Cond.code yX11_listenTo cX11_listenTo 5 (some .int), Cond.fieldLink RX11 24 "OverHill" "now" "LOverHill$Dance;", Cond.fieldLink RX11 98 "OverHill" "slots" "LOverHill$Slots;", Cond.fieldLink RX11 419 "OverHill$Slots" "sizes" "[I", Cond.methodLink RX11 125 yX0_stands, Cond.instanceMethod yX0_stands, Cond.selects RX0 yX0_stands yX0_stands, Cond.initialized RX0, Cond.code yX0_stands cX0_stands 1 (some .boolean), Cond.fieldLink RX0 49 "OverHill$Dance" "lines" "I", Cond.methodLink RX11 129 yX11_isSide, Cond.static yX11_isSide, Cond.code yX11_isSide cX11_isSide 1 (some .boolean), Cond.methodLink RX11 150 yX11_isWithin, Cond.static yX11_isWithin, Cond.code yX11_isWithin cX11_isWithin 2 (some .boolean), Cond.methodLink RX11 438 yX7_refusalOfHeard, Cond.instanceMethod yX7_refusalOfHeard]
def wsX11_listen_r2 : List Cond := [Cond.selects RX7 yX7_refusalOfHeard yX7_refusalOfHeard, Cond.initialized RX7, Cond.code yX7_refusalOfHeard cX7_refusalOfHeard 5 (some .int), Cond.fieldLink RX7 15 "OverHill$Slots" "sizes" "[I", Cond.constantLong RX7 47 (199), Cond.methodLink RX7 40 yX7_isSlot, Cond.static yX7_isSlot, Cond.code yX7_isSlot cX7_isSlot 1 (some .boolean), Cond.methodLink RX7 26 yX7_has, Cond.instanceMethod yX7_has, Cond.selects RX7 yX7_has yX7_has, Cond.code yX7_has cX7_has 2 (some .boolean), Cond.methodLink RX7 43 yX7_at, Cond.instanceMethod yX7_at, Cond.selects RX7 yX7_at yX7_at, Cond.code yX7_at cX7_at 3 (some .long), Cond.fieldLink RX7 18 "OverHill$Slots" "numbers" "[J", Cond.methodLink RX7 49 yX7_isBetween, Cond.static yX7_isBetween, Cond.code yX7_isBetween cX7_isBetween 6 (some .boolean), Cond.methodLink RX7 53 yX7_isTold, Cond.static yX7_isTold, Cond.code yX7_isTold cX7_isTold 2 (some .boolean), Cond.constantLong RX7 60 (-1)]
def wsX11_listen_r3 : List Cond := [Cond.constantLong RX7 70 (5), Cond.methodLink RX11 441 yX3_begin, Cond.instanceMethod yX3_begin, Cond.selects RX3 yX3_begin yX3_begin, Cond.initialized RX3, Cond.code yX3_begin cX3_begin 6 none, Cond.fieldLink RX3 30 "OverHill$Dance" "gap" "I", Cond.fieldLink RX3 36 "OverHill$Guess" "gap" "I", Cond.fieldLink RX3 37 "OverHill$Dance" "lengths" "[I", Cond.fieldLink RX3 40 "OverHill$Guess" "length" "I", Cond.fieldLink RX3 43 "OverHill$Dance" "steps" "[I", Cond.fieldLink RX3 9 "OverHill$Guess" "round" "[I", Cond.methodLink RX3 46 arraycopyName, Cond.native arraycopyName, Cond.static arraycopyName, Cond.initialized "java/lang/System", Cond.fieldLink RX3 52 "OverHill$Guess" "impossible" "Z", Cond.fieldLink RX3 56 "OverHill$Guess" "firstUnlike" "I", Cond.fieldLink RX3 15 "OverHill$Guess" "lastUnlike" "[I", Cond.fieldLink RX3 21 "OverHill$Guess" "stepsIn" "[I", Cond.fieldLink RX3 65 "OverHill$Dance" "starts" "[I", Cond.fieldLink RX3 68 "OverHill$Dance" "muds" "[I", Cond.fieldLink RX3 18 "OverHill$Guess" "places" "[I", Cond.methodLink RX3 59 yJ7_fill_53178]
def wsX11_listen_r4 : List Cond := [Cond.static yJ7_fill_53178, Cond.initialized RJ7, Cond.code yJ7_fill_53178 cJ7_fill_53178 4 none, Cond.static yX11_wrap, Cond.code yX11_wrap cX11_wrap 2 (some .int), Cond.methodLink RX11 451 yJ9_floorMod_7cf53, Cond.static yJ9_floorMod_7cf53, Cond.initialized RJ9, Cond.code yJ9_floorMod_7cf53 cJ9_floorMod_7cf53 3 (some .int), Cond.methodLink RX11 444 yX7_at, Cond.methodLink RX11 447 yX3_hear, Cond.instanceMethod yX3_hear, Cond.selects RX3 yX3_hear yX3_hear, Cond.code yX3_hear cX3_hear 5 none, Cond.methodLink RX3 78 Lib.Math.min.name, Cond.static Lib.Math.min.name, Cond.initialized "java/lang/Math", Cond.code Lib.Math.min.name Lib.Math.min.code 2 (some .int), Cond.methodLink RX3 83 Lib.Math.max.name, Cond.static Lib.Math.max.name, Cond.code Lib.Math.max.name Lib.Math.max.code 2 (some .int), Cond.methodLink RX3 75 yX3_stepBack, Cond.instanceMethod yX3_stepBack, Cond.selects RX3 yX3_stepBack yX3_stepBack]
def wsX11_listen_r5 : List Cond := [Cond.code yX3_stepBack cX3_stepBack 3 (some .int), Cond.methodLink RX11 265 yX3_findBeat, Cond.instanceMethod yX3_findBeat, Cond.selects RX3 yX3_findBeat yX3_findBeat, Cond.code yX3_findBeat cX3_findBeat 5 none, Cond.fieldLink RX3 103 "OverHill$Guess" "bestBeat" "I", Cond.fieldLink RX3 106 "OverHill$Guess" "bestLeft" "I", Cond.fieldLink RX3 24 "OverHill$Guess" "passed" "[I", Cond.methodLink RX3 99 yX3_countFits, Cond.instanceMethod yX3_countFits, Cond.selects RX3 yX3_countFits yX3_countFits, Cond.code yX3_countFits cX3_countFits 4 (some .int), Cond.methodLink RX3 86 yX3_fitsWithout, Cond.instanceMethod yX3_fitsWithout, Cond.selects RX3 yX3_fitsWithout yX3_fitsWithout, Cond.code yX3_fitsWithout cX3_fitsWithout 1 (some .boolean), Cond.methodLink RX3 90 yX3_stepsThatFit, Cond.instanceMethod yX3_stepsThatFit, Cond.selects RX3 yX3_stepsThatFit yX3_stepsThatFit, Cond.code yX3_stepsThatFit cX3_stepsThatFit 4 (some .int), Cond.methodLink RX3 93 yJ6_bitCount_0f7a4, Cond.static yJ6_bitCount_0f7a4, Cond.initialized RJ6, Cond.code yJ6_bitCount_0f7a4 cJ6_bitCount_0f7a4 1 (some .int)]
def wsX11_listen_r6 : List Cond := [Cond.constant RJ6 265 (1431655765), Cond.constant RJ6 266 (858993459), Cond.constant RJ6 267 (252645135), Cond.methodLink RX3 109 yX3_mostAlike, Cond.instanceMethod yX3_mostAlike, Cond.selects RX3 yX3_mostAlike yX3_mostAlike, Cond.code yX3_mostAlike cX3_mostAlike 7 (some .int), Cond.fieldLink RX3 27 "OverHill$Guess" "classes" "[I", Cond.methodLink RX3 112 yX3_pass, Cond.instanceMethod yX3_pass, Cond.selects RX3 yX3_pass yX3_pass, Cond.code yX3_pass cX3_pass 3 none]
def wsX11_listen : List Cond := .code yX11_listen cX11_listen 4 (some .int) :: ((wsX11_listen_r1 ++ (wsX11_listen_r2 ++ (wsX11_listen_r3 ++ (wsX11_listen_r4 ++ (wsX11_listen_r5 ++ wsX11_listen_r6))))) ++ wsX110 ++ wsX30 ++ wsX70 ++ wsX00)
def wsX11_leaves_r1 : List Cond := [Cond.fieldLink RX11 63 "OverHill" "guess" "LOverHill$Guess;", Cond.fieldLink RX11 271 "OverHill$Guess" "bestLeft" "I", Cond.methodLink RX11 251 yX11_listenTo, Cond.instanceMethod yX11_listenTo, Cond.selects RX11 yX11_listenTo yX11_listenTo, Cond.initialized RX11, Cond.code yX11_listenTo cX11_listenTo 5 (some .int), Cond.fieldLink RX11 24 "OverHill" "now" "LOverHill$Dance;", Cond.fieldLink RX11 98 "OverHill" "slots" "LOverHill$Slots;", Cond.fieldLink RX11 419 "OverHill$Slots" "sizes" "[I", Cond.methodLink RX11 125 yX0_stands, Cond.instanceMethod yX0_stands, Cond.selects RX0 yX0_stands yX0_stands, Cond.initialized RX0, Cond.code yX0_stands cX0_stands 1 (some .boolean), Cond.fieldLink RX0 49 "OverHill$Dance" "lines" "I", Cond.methodLink RX11 129 yX11_isSide, Cond.static yX11_isSide, Cond.code yX11_isSide cX11_isSide 1 (some .boolean), Cond.methodLink RX11 150 yX11_isWithin, Cond.static yX11_isWithin, Cond.code yX11_isWithin cX11_isWithin 2 (some .boolean), Cond.methodLink RX11 438 yX7_refusalOfHeard, Cond.instanceMethod yX7_refusalOfHeard]
def wsX11_leaves_r2 : List Cond := [Cond.selects RX7 yX7_refusalOfHeard yX7_refusalOfHeard, Cond.initialized RX7, Cond.code yX7_refusalOfHeard cX7_refusalOfHeard 5 (some .int), Cond.fieldLink RX7 15 "OverHill$Slots" "sizes" "[I", Cond.constantLong RX7 47 (199), Cond.methodLink RX7 40 yX7_isSlot, Cond.static yX7_isSlot, Cond.code yX7_isSlot cX7_isSlot 1 (some .boolean), Cond.methodLink RX7 26 yX7_has, Cond.instanceMethod yX7_has, Cond.selects RX7 yX7_has yX7_has, Cond.code yX7_has cX7_has 2 (some .boolean), Cond.methodLink RX7 43 yX7_at, Cond.instanceMethod yX7_at, Cond.selects RX7 yX7_at yX7_at, Cond.code yX7_at cX7_at 3 (some .long), Cond.fieldLink RX7 18 "OverHill$Slots" "numbers" "[J", Cond.methodLink RX7 49 yX7_isBetween, Cond.static yX7_isBetween, Cond.code yX7_isBetween cX7_isBetween 6 (some .boolean), Cond.methodLink RX7 53 yX7_isTold, Cond.static yX7_isTold, Cond.code yX7_isTold cX7_isTold 2 (some .boolean), Cond.constantLong RX7 60 (-1)]
def wsX11_leaves_r3 : List Cond := [Cond.constantLong RX7 70 (5), Cond.methodLink RX11 441 yX3_begin, Cond.instanceMethod yX3_begin, Cond.selects RX3 yX3_begin yX3_begin, Cond.initialized RX3, Cond.code yX3_begin cX3_begin 6 none, Cond.fieldLink RX3 30 "OverHill$Dance" "gap" "I", Cond.fieldLink RX3 36 "OverHill$Guess" "gap" "I", Cond.fieldLink RX3 37 "OverHill$Dance" "lengths" "[I", Cond.fieldLink RX3 40 "OverHill$Guess" "length" "I", Cond.fieldLink RX3 43 "OverHill$Dance" "steps" "[I", Cond.fieldLink RX3 9 "OverHill$Guess" "round" "[I", Cond.methodLink RX3 46 arraycopyName, Cond.native arraycopyName, Cond.static arraycopyName, Cond.initialized "java/lang/System", Cond.fieldLink RX3 52 "OverHill$Guess" "impossible" "Z", Cond.fieldLink RX3 56 "OverHill$Guess" "firstUnlike" "I", Cond.fieldLink RX3 15 "OverHill$Guess" "lastUnlike" "[I", Cond.fieldLink RX3 21 "OverHill$Guess" "stepsIn" "[I", Cond.fieldLink RX3 65 "OverHill$Dance" "starts" "[I", Cond.fieldLink RX3 68 "OverHill$Dance" "muds" "[I", Cond.fieldLink RX3 18 "OverHill$Guess" "places" "[I", Cond.methodLink RX3 59 yJ7_fill_53178]
def wsX11_leaves_r4 : List Cond := [Cond.static yJ7_fill_53178, Cond.initialized RJ7, Cond.code yJ7_fill_53178 cJ7_fill_53178 4 none, Cond.static yX11_wrap, Cond.code yX11_wrap cX11_wrap 2 (some .int), Cond.methodLink RX11 451 yJ9_floorMod_7cf53, Cond.static yJ9_floorMod_7cf53, Cond.initialized RJ9, Cond.code yJ9_floorMod_7cf53 cJ9_floorMod_7cf53 3 (some .int), Cond.methodLink RX11 444 yX7_at, Cond.methodLink RX11 447 yX3_hear, Cond.instanceMethod yX3_hear, Cond.selects RX3 yX3_hear yX3_hear, Cond.code yX3_hear cX3_hear 5 none, Cond.methodLink RX3 78 Lib.Math.min.name, Cond.static Lib.Math.min.name, Cond.initialized "java/lang/Math", Cond.code Lib.Math.min.name Lib.Math.min.code 2 (some .int), Cond.methodLink RX3 83 Lib.Math.max.name, Cond.static Lib.Math.max.name, Cond.code Lib.Math.max.name Lib.Math.max.code 2 (some .int), Cond.methodLink RX3 75 yX3_stepBack, Cond.instanceMethod yX3_stepBack, Cond.selects RX3 yX3_stepBack yX3_stepBack]
def wsX11_leaves_r5 : List Cond := [Cond.code yX3_stepBack cX3_stepBack 3 (some .int), Cond.methodLink RX11 265 yX3_findBeat, Cond.instanceMethod yX3_findBeat, Cond.selects RX3 yX3_findBeat yX3_findBeat, Cond.code yX3_findBeat cX3_findBeat 5 none, Cond.fieldLink RX3 103 "OverHill$Guess" "bestBeat" "I", Cond.fieldLink RX3 106 "OverHill$Guess" "bestLeft" "I", Cond.fieldLink RX3 24 "OverHill$Guess" "passed" "[I", Cond.methodLink RX3 99 yX3_countFits, Cond.instanceMethod yX3_countFits, Cond.selects RX3 yX3_countFits yX3_countFits, Cond.code yX3_countFits cX3_countFits 4 (some .int), Cond.methodLink RX3 86 yX3_fitsWithout, Cond.instanceMethod yX3_fitsWithout, Cond.selects RX3 yX3_fitsWithout yX3_fitsWithout, Cond.code yX3_fitsWithout cX3_fitsWithout 1 (some .boolean), Cond.methodLink RX3 90 yX3_stepsThatFit, Cond.instanceMethod yX3_stepsThatFit, Cond.selects RX3 yX3_stepsThatFit yX3_stepsThatFit, Cond.code yX3_stepsThatFit cX3_stepsThatFit 4 (some .int), Cond.methodLink RX3 93 yJ6_bitCount_0f7a4, Cond.static yJ6_bitCount_0f7a4, Cond.initialized RJ6, Cond.code yJ6_bitCount_0f7a4 cJ6_bitCount_0f7a4 1 (some .int)]
def wsX11_leaves_r6 : List Cond := [Cond.constant RJ6 265 (1431655765), Cond.constant RJ6 266 (858993459), Cond.constant RJ6 267 (252645135), Cond.methodLink RX3 109 yX3_mostAlike, Cond.instanceMethod yX3_mostAlike, Cond.selects RX3 yX3_mostAlike yX3_mostAlike, Cond.code yX3_mostAlike cX3_mostAlike 7 (some .int), Cond.fieldLink RX3 27 "OverHill$Guess" "classes" "[I", Cond.methodLink RX3 112 yX3_pass, Cond.instanceMethod yX3_pass, Cond.selects RX3 yX3_pass yX3_pass, Cond.code yX3_pass cX3_pass 3 none]
def wsX11_leaves : List Cond := .code yX11_leaves cX11_leaves 4 (some .int) :: ((wsX11_leaves_r1 ++ (wsX11_leaves_r2 ++ (wsX11_leaves_r3 ++ (wsX11_leaves_r4 ++ (wsX11_leaves_r5 ++ wsX11_leaves_r6))))) ++ wsX110 ++ wsX30 ++ wsX70 ++ wsX00)
def wsX11_crosses_r1 : List Cond := [Cond.fieldLink RX11 24 "OverHill" "now" "LOverHill$Dance;", Cond.fieldLink RX11 70 "OverHill" "wood" "LOverHill$Wood;", Cond.methodLink RX11 125 yX0_stands, Cond.instanceMethod yX0_stands, Cond.selects RX0 yX0_stands yX0_stands, Cond.initialized RX0, Cond.code yX0_stands cX0_stands 1 (some .boolean), Cond.fieldLink RX0 49 "OverHill$Dance" "lines" "I", Cond.methodLink RX11 156 yX11_isBeat, Cond.static yX11_isBeat, Cond.initialized RX11, Cond.code yX11_isBeat cX11_isBeat 1 (some .boolean), Cond.methodLink RX11 150 yX11_isWithin, Cond.static yX11_isWithin, Cond.code yX11_isWithin cX11_isWithin 2 (some .boolean), Cond.methodLink RX11 274 yX10_through, Cond.instanceMethod yX10_through, Cond.selects RX10 yX10_through yX10_through, Cond.initialized RX10, Cond.code yX10_through cX10_through 9 (some .int), Cond.fieldLink RX10 15 "OverHill$Dance" "cellCount" "I", Cond.fieldLink RX10 21 "OverHill$Dance" "cells" "[I", Cond.fieldLink RX10 9 "OverHill$Wood" "arrivals" "[I", Cond.static yX11_wrap]
def wsX11_crosses_r2 : List Cond := [Cond.code yX11_wrap cX11_wrap 2 (some .int), Cond.methodLink RX11 451 yJ9_floorMod_7cf53, Cond.static yJ9_floorMod_7cf53, Cond.initialized RJ9, Cond.code yJ9_floorMod_7cf53 cJ9_floorMod_7cf53 3 (some .int)]
def wsX11_crosses : List Cond := .code yX11_crosses cX11_crosses 2 (some .int) :: ((wsX11_crosses_r1 ++ wsX11_crosses_r2) ++ wsX110 ++ wsX00 ++ wsX100)
def wsX11_returns_r1 : List Cond := [Cond.fieldLink RX11 24 "OverHill" "now" "LOverHill$Dance;", Cond.fieldLink RX11 70 "OverHill" "wood" "LOverHill$Wood;", Cond.methodLink RX11 125 yX0_stands, Cond.instanceMethod yX0_stands, Cond.selects RX0 yX0_stands yX0_stands, Cond.initialized RX0, Cond.code yX0_stands cX0_stands 1 (some .boolean), Cond.fieldLink RX0 49 "OverHill$Dance" "lines" "I", Cond.methodLink RX11 156 yX11_isBeat, Cond.static yX11_isBeat, Cond.initialized RX11, Cond.code yX11_isBeat cX11_isBeat 1 (some .boolean), Cond.methodLink RX11 150 yX11_isWithin, Cond.static yX11_isWithin, Cond.code yX11_isWithin cX11_isWithin 2 (some .boolean), Cond.methodLink RX11 274 yX10_through, Cond.instanceMethod yX10_through, Cond.selects RX10 yX10_through yX10_through, Cond.initialized RX10, Cond.code yX10_through cX10_through 9 (some .int), Cond.fieldLink RX10 15 "OverHill$Dance" "cellCount" "I", Cond.fieldLink RX10 21 "OverHill$Dance" "cells" "[I", Cond.fieldLink RX10 9 "OverHill$Wood" "arrivals" "[I", Cond.static yX11_wrap]
def wsX11_returns_r2 : List Cond := [Cond.code yX11_wrap cX11_wrap 2 (some .int), Cond.methodLink RX11 451 yJ9_floorMod_7cf53, Cond.static yJ9_floorMod_7cf53, Cond.initialized RJ9, Cond.code yJ9_floorMod_7cf53 cJ9_floorMod_7cf53 3 (some .int)]
def wsX11_returns : List Cond := .code yX11_returns cX11_returns 2 (some .int) :: ((wsX11_returns_r1 ++ wsX11_returns_r2) ++ wsX110 ++ wsX00 ++ wsX100)
def wsX11_meet_r1 : List Cond := [Cond.fieldLink RX11 24 "OverHill" "now" "LOverHill$Dance;", Cond.fieldLink RX11 70 "OverHill" "wood" "LOverHill$Wood;", Cond.fieldLink RX11 280 "OverHill$Wood" "meetingBeat" "I", Cond.methodLink RX11 125 yX0_stands, Cond.instanceMethod yX0_stands, Cond.selects RX0 yX0_stands yX0_stands, Cond.initialized RX0, Cond.code yX0_stands cX0_stands 1 (some .boolean), Cond.fieldLink RX0 49 "OverHill$Dance" "lines" "I", Cond.methodLink RX11 156 yX11_isBeat, Cond.static yX11_isBeat, Cond.initialized RX11, Cond.code yX11_isBeat cX11_isBeat 1 (some .boolean), Cond.methodLink RX11 150 yX11_isWithin, Cond.static yX11_isWithin, Cond.code yX11_isWithin cX11_isWithin 2 (some .boolean), Cond.methodLink RX11 277 yX10_findMeeting, Cond.instanceMethod yX10_findMeeting, Cond.selects RX10 yX10_findMeeting yX10_findMeeting, Cond.initialized RX10, Cond.code yX10_findMeeting cX10_findMeeting 6 none, Cond.fieldLink RX10 32 "OverHill$Wood" "meetingBeat" "I", Cond.fieldLink RX10 35 "OverHill$Wood" "meetingCell" "I", Cond.fieldLink RX10 15 "OverHill$Dance" "cellCount" "I"]
def wsX11_meet_r2 : List Cond := [Cond.fieldLink RX10 9 "OverHill$Wood" "arrivals" "[I", Cond.methodLink RX10 38 Lib.Math.max.name, Cond.static Lib.Math.max.name, Cond.initialized "java/lang/Math", Cond.code Lib.Math.max.name Lib.Math.max.code 2 (some .int), Cond.methodLink RX10 28 yX10_through, Cond.instanceMethod yX10_through, Cond.selects RX10 yX10_through yX10_through, Cond.code yX10_through cX10_through 9 (some .int), Cond.fieldLink RX10 21 "OverHill$Dance" "cells" "[I", Cond.static yX11_wrap, Cond.code yX11_wrap cX11_wrap 2 (some .int), Cond.methodLink RX11 451 yJ9_floorMod_7cf53, Cond.static yJ9_floorMod_7cf53, Cond.initialized RJ9, Cond.code yJ9_floorMod_7cf53 cJ9_floorMod_7cf53 3 (some .int)]
def wsX11_meet : List Cond := .code yX11_meet cX11_meet 3 (some .int) :: ((wsX11_meet_r1 ++ wsX11_meet_r2) ++ wsX110 ++ wsX100 ++ wsX00)
def wsX11_cell_r1 : List Cond := [Cond.fieldLink RX11 24 "OverHill" "now" "LOverHill$Dance;", Cond.fieldLink RX11 70 "OverHill" "wood" "LOverHill$Wood;", Cond.fieldLink RX11 283 "OverHill$Wood" "meetingCell" "I", Cond.methodLink RX11 125 yX0_stands, Cond.instanceMethod yX0_stands, Cond.selects RX0 yX0_stands yX0_stands, Cond.initialized RX0, Cond.code yX0_stands cX0_stands 1 (some .boolean), Cond.fieldLink RX0 49 "OverHill$Dance" "lines" "I", Cond.methodLink RX11 156 yX11_isBeat, Cond.static yX11_isBeat, Cond.initialized RX11, Cond.code yX11_isBeat cX11_isBeat 1 (some .boolean), Cond.methodLink RX11 150 yX11_isWithin, Cond.static yX11_isWithin, Cond.code yX11_isWithin cX11_isWithin 2 (some .boolean), Cond.methodLink RX11 277 yX10_findMeeting, Cond.instanceMethod yX10_findMeeting, Cond.selects RX10 yX10_findMeeting yX10_findMeeting, Cond.initialized RX10, Cond.code yX10_findMeeting cX10_findMeeting 6 none, Cond.fieldLink RX10 32 "OverHill$Wood" "meetingBeat" "I", Cond.fieldLink RX10 35 "OverHill$Wood" "meetingCell" "I", Cond.fieldLink RX10 15 "OverHill$Dance" "cellCount" "I"]
def wsX11_cell_r2 : List Cond := [Cond.fieldLink RX10 9 "OverHill$Wood" "arrivals" "[I", Cond.methodLink RX10 38 Lib.Math.max.name, Cond.static Lib.Math.max.name, Cond.initialized "java/lang/Math", Cond.code Lib.Math.max.name Lib.Math.max.code 2 (some .int), Cond.methodLink RX10 28 yX10_through, Cond.instanceMethod yX10_through, Cond.selects RX10 yX10_through yX10_through, Cond.code yX10_through cX10_through 9 (some .int), Cond.fieldLink RX10 21 "OverHill$Dance" "cells" "[I", Cond.static yX11_wrap, Cond.code yX11_wrap cX11_wrap 2 (some .int), Cond.methodLink RX11 451 yJ9_floorMod_7cf53, Cond.static yJ9_floorMod_7cf53, Cond.initialized RJ9, Cond.code yJ9_floorMod_7cf53 cJ9_floorMod_7cf53 3 (some .int)]
def wsX11_cell : List Cond := .code yX11_cell cX11_cell 3 (some .int) :: ((wsX11_cell_r1 ++ wsX11_cell_r2) ++ wsX110 ++ wsX100 ++ wsX00)
def wsX11_longest_r1 : List Cond := [Cond.fieldLink RX11 24 "OverHill" "now" "LOverHill$Dance;", Cond.fieldLink RX11 70 "OverHill" "wood" "LOverHill$Wood;", Cond.methodLink RX11 125 yX0_stands, Cond.instanceMethod yX0_stands, Cond.selects RX0 yX0_stands yX0_stands, Cond.initialized RX0, Cond.code yX0_stands cX0_stands 1 (some .boolean), Cond.fieldLink RX0 49 "OverHill$Dance" "lines" "I", Cond.methodLink RX11 286 yX10_slowest, Cond.instanceMethod yX10_slowest, Cond.selects RX10 yX10_slowest yX10_slowest, Cond.initialized RX10, Cond.code yX10_slowest cX10_slowest 4 (some .int), Cond.methodLink RX10 38 Lib.Math.max.name, Cond.static Lib.Math.max.name, Cond.initialized "java/lang/Math", Cond.code Lib.Math.max.name Lib.Math.max.code 2 (some .int), Cond.methodLink RX10 28 yX10_through, Cond.instanceMethod yX10_through, Cond.selects RX10 yX10_through yX10_through, Cond.code yX10_through cX10_through 9 (some .int), Cond.fieldLink RX10 15 "OverHill$Dance" "cellCount" "I", Cond.fieldLink RX10 21 "OverHill$Dance" "cells" "[I", Cond.fieldLink RX10 9 "OverHill$Wood" "arrivals" "[I"]
def wsX11_longest_r2 : List Cond := [Cond.static yX11_wrap, Cond.initialized RX11, Cond.code yX11_wrap cX11_wrap 2 (some .int), Cond.methodLink RX11 451 yJ9_floorMod_7cf53, Cond.static yJ9_floorMod_7cf53, Cond.initialized RJ9, Cond.code yJ9_floorMod_7cf53 cJ9_floorMod_7cf53 3 (some .int)]
def wsX11_longest : List Cond := .code yX11_longest cX11_longest 1 (some .int) :: ((wsX11_longest_r1 ++ wsX11_longest_r2) ++ wsX110 ++ wsX00 ++ wsX100)
def wsX11_half_r1 : List Cond := [Cond.fieldLink RX11 98 "OverHill" "slots" "LOverHill$Slots;", Cond.methodLink RX11 289 yX7_refusalOfSteps, Cond.instanceMethod yX7_refusalOfSteps, Cond.selects RX7 yX7_refusalOfSteps yX7_refusalOfSteps, Cond.initialized RX7, Cond.code yX7_refusalOfSteps cX7_refusalOfSteps 3 (some .int), Cond.fieldLink RX7 15 "OverHill$Slots" "sizes" "[I", Cond.methodLink RX7 40 yX7_isSlot, Cond.static yX7_isSlot, Cond.code yX7_isSlot cX7_isSlot 1 (some .boolean), Cond.static yX11_isWithin, Cond.initialized RX11, Cond.code yX11_isWithin cX11_isWithin 2 (some .boolean), Cond.methodLink RX7 26 yX7_has, Cond.instanceMethod yX7_has, Cond.selects RX7 yX7_has yX7_has, Cond.code yX7_has cX7_has 2 (some .boolean), Cond.methodLink RX7 43 yX7_at, Cond.instanceMethod yX7_at, Cond.selects RX7 yX7_at yX7_at, Cond.code yX7_at cX7_at 3 (some .long), Cond.fieldLink RX7 18 "OverHill$Slots" "numbers" "[J", Cond.methodLink RX7 53 yX7_isTold, Cond.static yX7_isTold]
def wsX11_half_r2 : List Cond := [Cond.code yX7_isTold cX7_isTold 2 (some .boolean), Cond.constantLong RX7 60 (-1), Cond.constantLong RX7 70 (5), Cond.methodLink RX7 49 yX7_isBetween, Cond.static yX7_isBetween, Cond.code yX7_isBetween cX7_isBetween 6 (some .boolean), Cond.methodLink RX11 293 yX7_shortest, Cond.instanceMethod yX7_shortest, Cond.selects RX7 yX7_shortest yX7_shortest, Cond.code yX7_shortest cX7_shortest 3 (some .int), Cond.methodLink RX7 57 yX7_goesRound, Cond.instanceMethod yX7_goesRound, Cond.selects RX7 yX7_goesRound yX7_goesRound, Cond.code yX7_goesRound cX7_goesRound 6 (some .boolean), Cond.static yX11_wrap, Cond.code yX11_wrap cX11_wrap 2 (some .int), Cond.methodLink RX11 451 yJ9_floorMod_7cf53, Cond.static yJ9_floorMod_7cf53, Cond.initialized RJ9, Cond.code yJ9_floorMod_7cf53 cJ9_floorMod_7cf53 3 (some .int), Cond.methodLink RX7 62 yX7_told, Cond.instanceMethod yX7_told, Cond.selects RX7 yX7_told yX7_told, Cond.code yX7_told cX7_told 5 (some .int)]
def wsX11_half : List Cond := .code yX11_half cX11_half 3 (some .int) :: ((wsX11_half_r1 ++ wsX11_half_r2) ++ wsX110 ++ wsX70)
def wsX11_fills_r1 : List Cond := [Cond.fieldLink RX11 98 "OverHill" "slots" "LOverHill$Slots;", Cond.methodLink RX11 289 yX7_refusalOfSteps, Cond.instanceMethod yX7_refusalOfSteps, Cond.selects RX7 yX7_refusalOfSteps yX7_refusalOfSteps, Cond.initialized RX7, Cond.code yX7_refusalOfSteps cX7_refusalOfSteps 3 (some .int), Cond.fieldLink RX7 15 "OverHill$Slots" "sizes" "[I", Cond.methodLink RX7 40 yX7_isSlot, Cond.static yX7_isSlot, Cond.code yX7_isSlot cX7_isSlot 1 (some .boolean), Cond.static yX11_isWithin, Cond.initialized RX11, Cond.code yX11_isWithin cX11_isWithin 2 (some .boolean), Cond.methodLink RX7 26 yX7_has, Cond.instanceMethod yX7_has, Cond.selects RX7 yX7_has yX7_has, Cond.code yX7_has cX7_has 2 (some .boolean), Cond.methodLink RX7 43 yX7_at, Cond.instanceMethod yX7_at, Cond.selects RX7 yX7_at yX7_at, Cond.code yX7_at cX7_at 3 (some .long), Cond.fieldLink RX7 18 "OverHill$Slots" "numbers" "[J", Cond.methodLink RX7 53 yX7_isTold, Cond.static yX7_isTold]
def wsX11_fills_r2 : List Cond := [Cond.code yX7_isTold cX7_isTold 2 (some .boolean), Cond.constantLong RX7 60 (-1), Cond.constantLong RX7 70 (5), Cond.methodLink RX7 49 yX7_isBetween, Cond.static yX7_isBetween, Cond.code yX7_isBetween cX7_isBetween 6 (some .boolean), Cond.methodLink RX11 293 yX7_shortest, Cond.instanceMethod yX7_shortest, Cond.selects RX7 yX7_shortest yX7_shortest, Cond.code yX7_shortest cX7_shortest 3 (some .int), Cond.methodLink RX7 57 yX7_goesRound, Cond.instanceMethod yX7_goesRound, Cond.selects RX7 yX7_goesRound yX7_goesRound, Cond.code yX7_goesRound cX7_goesRound 6 (some .boolean), Cond.static yX11_wrap, Cond.code yX11_wrap cX11_wrap 2 (some .int), Cond.methodLink RX11 451 yJ9_floorMod_7cf53, Cond.static yJ9_floorMod_7cf53, Cond.initialized RJ9, Cond.code yJ9_floorMod_7cf53 cJ9_floorMod_7cf53 3 (some .int), Cond.methodLink RX7 62 yX7_told, Cond.instanceMethod yX7_told, Cond.selects RX7 yX7_told yX7_told, Cond.code yX7_told cX7_told 5 (some .int)]
def wsX11_fills_r3 : List Cond := [Cond.methodLink RX11 150 yX11_isWithin, Cond.methodLink RX11 296 yX7_told]
def wsX11_fills : List Cond := .code yX11_fills cX11_fills 5 (some .int) :: ((wsX11_fills_r1 ++ (wsX11_fills_r2 ++ wsX11_fills_r3)) ++ wsX110 ++ wsX70)
def wsX11_open_r1 : List Cond := [Cond.fieldLink RX11 98 "OverHill" "slots" "LOverHill$Slots;", Cond.methodLink RX11 289 yX7_refusalOfSteps, Cond.instanceMethod yX7_refusalOfSteps, Cond.selects RX7 yX7_refusalOfSteps yX7_refusalOfSteps, Cond.initialized RX7, Cond.code yX7_refusalOfSteps cX7_refusalOfSteps 3 (some .int), Cond.fieldLink RX7 15 "OverHill$Slots" "sizes" "[I", Cond.methodLink RX7 40 yX7_isSlot, Cond.static yX7_isSlot, Cond.code yX7_isSlot cX7_isSlot 1 (some .boolean), Cond.static yX11_isWithin, Cond.initialized RX11, Cond.code yX11_isWithin cX11_isWithin 2 (some .boolean), Cond.methodLink RX7 26 yX7_has, Cond.instanceMethod yX7_has, Cond.selects RX7 yX7_has yX7_has, Cond.code yX7_has cX7_has 2 (some .boolean), Cond.methodLink RX7 43 yX7_at, Cond.instanceMethod yX7_at, Cond.selects RX7 yX7_at yX7_at, Cond.code yX7_at cX7_at 3 (some .long), Cond.fieldLink RX7 18 "OverHill$Slots" "numbers" "[J", Cond.methodLink RX7 53 yX7_isTold, Cond.static yX7_isTold]
def wsX11_open_r2 : List Cond := [Cond.code yX7_isTold cX7_isTold 2 (some .boolean), Cond.constantLong RX7 60 (-1), Cond.constantLong RX7 70 (5), Cond.methodLink RX7 49 yX7_isBetween, Cond.static yX7_isBetween, Cond.code yX7_isBetween cX7_isBetween 6 (some .boolean), Cond.methodLink RX11 293 yX7_shortest, Cond.instanceMethod yX7_shortest, Cond.selects RX7 yX7_shortest yX7_shortest, Cond.code yX7_shortest cX7_shortest 3 (some .int), Cond.methodLink RX7 57 yX7_goesRound, Cond.instanceMethod yX7_goesRound, Cond.selects RX7 yX7_goesRound yX7_goesRound, Cond.code yX7_goesRound cX7_goesRound 6 (some .boolean), Cond.static yX11_wrap, Cond.code yX11_wrap cX11_wrap 2 (some .int), Cond.methodLink RX11 451 yJ9_floorMod_7cf53, Cond.static yJ9_floorMod_7cf53, Cond.initialized RJ9, Cond.code yJ9_floorMod_7cf53 cJ9_floorMod_7cf53 3 (some .int), Cond.methodLink RX7 62 yX7_told, Cond.instanceMethod yX7_told, Cond.selects RX7 yX7_told yX7_told, Cond.code yX7_told cX7_told 5 (some .int)]
def wsX11_open_r3 : List Cond := [Cond.methodLink RX11 300 yX7_countUntold, Cond.instanceMethod yX7_countUntold, Cond.selects RX7 yX7_countUntold yX7_countUntold, Cond.code yX7_countUntold cX7_countUntold 5 (some .int)]
def wsX11_open : List Cond := .code yX11_open cX11_open 4 (some .int) :: ((wsX11_open_r1 ++ (wsX11_open_r2 ++ wsX11_open_r3)) ++ wsX110 ++ wsX70)
def wsX11_hasSet : List Cond := .code yX11_hasSet cX11_hasSet 2 (some .boolean) :: ([.fieldLink RX11 24 "OverHill" "now" "LOverHill$Dance;", .fieldLink RX11 401 "OverHill$Dance" "tuneCount" "I", .methodLink RX11 125 yX0_stands, .instanceMethod yX0_stands, .selects RX0 yX0_stands yX0_stands, .initialized RX0, .code yX0_stands cX0_stands 1 (some .boolean), .fieldLink RX0 49 "OverHill$Dance" "lines" "I", .methodLink RX11 150 yX11_isWithin, .static yX11_isWithin, .initialized RX11, .code yX11_isWithin cX11_isWithin 2 (some .boolean)] ++ wsX110 ++ wsX00)
def wsX11_together_r1 : List Cond := [Cond.constantLong RX11 306 (-2), Cond.fieldLink RX11 77 "OverHill" "tunes" "LOverHill$Tunes;", Cond.fieldLink RX11 24 "OverHill" "now" "LOverHill$Dance;", Cond.methodLink RX11 303 yX11_hasSet, Cond.instanceMethod yX11_hasSet, Cond.selects RX11 yX11_hasSet yX11_hasSet, Cond.initialized RX11, Cond.code yX11_hasSet cX11_hasSet 2 (some .boolean), Cond.fieldLink RX11 401 "OverHill$Dance" "tuneCount" "I", Cond.methodLink RX11 125 yX0_stands, Cond.instanceMethod yX0_stands, Cond.selects RX0 yX0_stands yX0_stands, Cond.initialized RX0, Cond.code yX0_stands cX0_stands 1 (some .boolean), Cond.fieldLink RX0 49 "OverHill$Dance" "lines" "I", Cond.methodLink RX11 150 yX11_isWithin, Cond.static yX11_isWithin, Cond.code yX11_isWithin cX11_isWithin 2 (some .boolean), Cond.methodLink RX11 156 yX11_isBeat, Cond.static yX11_isBeat, Cond.code yX11_isBeat cX11_isBeat 1 (some .boolean), Cond.methodLink RX11 308 yX9_join, Cond.instanceMethod yX9_join, Cond.selects RX9 yX9_join yX9_join]
def wsX11_together_r2 : List Cond := [Cond.initialized RX9, Cond.code yX9_join cX9_join 4 none, Cond.fieldLink RX9 9 "OverHill$Tunes" "every" "J", Cond.fieldLink RX9 15 "OverHill$Tunes" "at" "J", Cond.fieldLink RX9 18 "OverHill$Dance" "tuneCount" "I", Cond.fieldLink RX9 24 "OverHill$Dance" "tunes" "[I", Cond.methodLink RX9 28 yX9_joinOne, Cond.instanceMethod yX9_joinOne, Cond.selects RX9 yX9_joinOne yX9_joinOne, Cond.code yX9_joinOne cX9_joinOne 8 none, Cond.constantLong RX9 32 (-1), Cond.static yX11_commonMultiple, Cond.code yX11_commonMultiple cX11_commonMultiple 6 (some .long), Cond.methodLink RX11 347 yX11_commonDivisor, Cond.static yX11_commonDivisor, Cond.code yX11_commonDivisor cX11_commonDivisor 11 (some .long), Cond.methodLink RX11 311 yX9_firstFrom, Cond.instanceMethod yX9_firstFrom, Cond.selects RX9 yX9_firstFrom yX9_firstFrom, Cond.code yX9_firstFrom cX9_firstFrom 2 (some .long), Cond.methodLink RX9 38 yJ9_floorMod_f86c9, Cond.static yJ9_floorMod_f86c9, Cond.initialized RJ9, Cond.code yJ9_floorMod_f86c9 cJ9_floorMod_f86c9 6 (some .long)]
def wsX11_together : List Cond := .code yX11_together cX11_together 3 (some .long) :: ((wsX11_together_r1 ++ wsX11_together_r2) ++ wsX110 ++ wsX00 ++ wsX90)
def wsX11_again_r1 : List Cond := [Cond.constantLong RX11 306 (-2), Cond.fieldLink RX11 77 "OverHill" "tunes" "LOverHill$Tunes;", Cond.fieldLink RX11 24 "OverHill" "now" "LOverHill$Dance;", Cond.fieldLink RX11 315 "OverHill$Tunes" "every" "J", Cond.methodLink RX11 303 yX11_hasSet, Cond.instanceMethod yX11_hasSet, Cond.selects RX11 yX11_hasSet yX11_hasSet, Cond.initialized RX11, Cond.code yX11_hasSet cX11_hasSet 2 (some .boolean), Cond.fieldLink RX11 401 "OverHill$Dance" "tuneCount" "I", Cond.methodLink RX11 125 yX0_stands, Cond.instanceMethod yX0_stands, Cond.selects RX0 yX0_stands yX0_stands, Cond.initialized RX0, Cond.code yX0_stands cX0_stands 1 (some .boolean), Cond.fieldLink RX0 49 "OverHill$Dance" "lines" "I", Cond.methodLink RX11 150 yX11_isWithin, Cond.static yX11_isWithin, Cond.code yX11_isWithin cX11_isWithin 2 (some .boolean), Cond.methodLink RX11 308 yX9_join, Cond.instanceMethod yX9_join, Cond.selects RX9 yX9_join yX9_join, Cond.initialized RX9, Cond.code yX9_join cX9_join 4 none]
def wsX11_again_r2 : List Cond := [Cond.fieldLink RX9 9 "OverHill$Tunes" "every" "J", Cond.fieldLink RX9 15 "OverHill$Tunes" "at" "J", Cond.fieldLink RX9 18 "OverHill$Dance" "tuneCount" "I", Cond.fieldLink RX9 24 "OverHill$Dance" "tunes" "[I", Cond.methodLink RX9 28 yX9_joinOne, Cond.instanceMethod yX9_joinOne, Cond.selects RX9 yX9_joinOne yX9_joinOne, Cond.code yX9_joinOne cX9_joinOne 8 none, Cond.constantLong RX9 32 (-1), Cond.static yX11_commonMultiple, Cond.code yX11_commonMultiple cX11_commonMultiple 6 (some .long), Cond.methodLink RX11 347 yX11_commonDivisor, Cond.static yX11_commonDivisor, Cond.code yX11_commonDivisor cX11_commonDivisor 11 (some .long)]
def wsX11_again : List Cond := .code yX11_again cX11_again 2 (some .long) :: ((wsX11_again_r1 ++ wsX11_again_r2) ++ wsX110 ++ wsX90 ++ wsX00)
def wsX11_most_r1 : List Cond := [Cond.fieldLink RX11 24 "OverHill" "now" "LOverHill$Dance;", Cond.fieldLink RX11 77 "OverHill" "tunes" "LOverHill$Tunes;", Cond.methodLink RX11 125 yX0_stands, Cond.instanceMethod yX0_stands, Cond.selects RX0 yX0_stands yX0_stands, Cond.initialized RX0, Cond.code yX0_stands cX0_stands 1 (some .boolean), Cond.fieldLink RX0 49 "OverHill$Dance" "lines" "I", Cond.methodLink RX11 319 yX9_largestSet, Cond.instanceMethod yX9_largestSet, Cond.selects RX9 yX9_largestSet yX9_largestSet, Cond.initialized RX9, Cond.code yX9_largestSet cX9_largestSet 4 (some .int), Cond.fieldLink RX9 18 "OverHill$Dance" "tuneCount" "I", Cond.fieldLink RX9 15 "OverHill$Tunes" "at" "J", Cond.constantLong RX9 32 (-1), Cond.methodLink RX9 43 yJ6_bitCount_0f7a4, Cond.static yJ6_bitCount_0f7a4, Cond.initialized RJ6, Cond.code yJ6_bitCount_0f7a4 cJ6_bitCount_0f7a4 1 (some .int), Cond.constant RJ6 265 (1431655765), Cond.constant RJ6 266 (858993459), Cond.constant RJ6 267 (252645135), Cond.methodLink RX9 49 yX9_join]
def wsX11_most_r2 : List Cond := [Cond.instanceMethod yX9_join, Cond.selects RX9 yX9_join yX9_join, Cond.code yX9_join cX9_join 4 none, Cond.fieldLink RX9 9 "OverHill$Tunes" "every" "J", Cond.fieldLink RX9 24 "OverHill$Dance" "tunes" "[I", Cond.methodLink RX9 28 yX9_joinOne, Cond.instanceMethod yX9_joinOne, Cond.selects RX9 yX9_joinOne yX9_joinOne, Cond.code yX9_joinOne cX9_joinOne 8 none, Cond.static yX11_commonMultiple, Cond.initialized RX11, Cond.code yX11_commonMultiple cX11_commonMultiple 6 (some .long), Cond.methodLink RX11 347 yX11_commonDivisor, Cond.static yX11_commonDivisor, Cond.code yX11_commonDivisor cX11_commonDivisor 11 (some .long), Cond.methodLink RX11 322 yJ6_bitCount_0f7a4]
def wsX11_most : List Cond := .code yX11_most cX11_most 1 (some .int) :: ((wsX11_most_r1 ++ wsX11_most_r2) ++ wsX110 ++ wsX00 ++ wsX90)
def wsX11_chorus_r1 : List Cond := [Cond.fieldLink RX11 24 "OverHill" "now" "LOverHill$Dance;", Cond.fieldLink RX11 77 "OverHill" "tunes" "LOverHill$Tunes;", Cond.methodLink RX11 125 yX0_stands, Cond.instanceMethod yX0_stands, Cond.selects RX0 yX0_stands yX0_stands, Cond.initialized RX0, Cond.code yX0_stands cX0_stands 1 (some .boolean), Cond.fieldLink RX0 49 "OverHill$Dance" "lines" "I", Cond.methodLink RX11 319 yX9_largestSet, Cond.instanceMethod yX9_largestSet, Cond.selects RX9 yX9_largestSet yX9_largestSet, Cond.initialized RX9, Cond.code yX9_largestSet cX9_largestSet 4 (some .int), Cond.fieldLink RX9 18 "OverHill$Dance" "tuneCount" "I", Cond.fieldLink RX9 15 "OverHill$Tunes" "at" "J", Cond.constantLong RX9 32 (-1), Cond.methodLink RX9 43 yJ6_bitCount_0f7a4, Cond.static yJ6_bitCount_0f7a4, Cond.initialized RJ6, Cond.code yJ6_bitCount_0f7a4 cJ6_bitCount_0f7a4 1 (some .int), Cond.constant RJ6 265 (1431655765), Cond.constant RJ6 266 (858993459), Cond.constant RJ6 267 (252645135), Cond.methodLink RX9 49 yX9_join]
def wsX11_chorus_r2 : List Cond := [Cond.instanceMethod yX9_join, Cond.selects RX9 yX9_join yX9_join, Cond.code yX9_join cX9_join 4 none, Cond.fieldLink RX9 9 "OverHill$Tunes" "every" "J", Cond.fieldLink RX9 24 "OverHill$Dance" "tunes" "[I", Cond.methodLink RX9 28 yX9_joinOne, Cond.instanceMethod yX9_joinOne, Cond.selects RX9 yX9_joinOne yX9_joinOne, Cond.code yX9_joinOne cX9_joinOne 8 none, Cond.static yX11_commonMultiple, Cond.initialized RX11, Cond.code yX11_commonMultiple cX11_commonMultiple 6 (some .long), Cond.methodLink RX11 347 yX11_commonDivisor, Cond.static yX11_commonDivisor, Cond.code yX11_commonDivisor cX11_commonDivisor 11 (some .long)]
def wsX11_chorus : List Cond := .code yX11_chorus cX11_chorus 1 (some .int) :: ((wsX11_chorus_r1 ++ wsX11_chorus_r2) ++ wsX110 ++ wsX00 ++ wsX90)
def wsX11_treaties : List Cond := .code yX11_treaties cX11_treaties 4 (some .int) :: ([.fieldLink RX11 24 "OverHill" "now" "LOverHill$Dance;", .methodLink RX11 125 yX0_stands, .instanceMethod yX0_stands, .selects RX0 yX0_stands yX0_stands, .initialized RX0, .code yX0_stands cX0_stands 1 (some .boolean), .fieldLink RX0 49 "OverHill$Dance" "lines" "I", .methodLink RX11 327 yX0_mayMeet, .instanceMethod yX0_mayMeet, .selects RX0 yX0_mayMeet yX0_mayMeet, .code yX0_mayMeet cX0_mayMeet 3 (some .boolean), .fieldLink RX0 21 "OverHill$Dance" "met" "[I"] ++ wsX110 ++ wsX00)
def wsX11_leads : List Cond := .code yX11_leads cX11_leads 5 (some .int) :: ([.fieldLink RX11 24 "OverHill" "now" "LOverHill$Dance;", .fieldLink RX11 144 "OverHill$Dance" "met" "[I", .methodLink RX11 125 yX0_stands, .instanceMethod yX0_stands, .selects RX0 yX0_stands yX0_stands, .initialized RX0, .code yX0_stands cX0_stands 1 (some .boolean), .fieldLink RX0 49 "OverHill$Dance" "lines" "I", .methodLink RX11 150 yX11_isWithin, .static yX11_isWithin, .initialized RX11, .code yX11_isWithin cX11_isWithin 2 (some .boolean), .methodLink RX11 322 yJ6_bitCount_0f7a4, .static yJ6_bitCount_0f7a4, .initialized RJ6, .code yJ6_bitCount_0f7a4 cJ6_bitCount_0f7a4 1 (some .int), .constant RJ6 265 (1431655765), .constant RJ6 266 (858993459), .constant RJ6 267 (252645135)] ++ wsX110 ++ wsX00)
def wsX11_game_r1 : List Cond := [Cond.fieldLink RX11 24 "OverHill" "now" "LOverHill$Dance;", Cond.fieldLink RX11 84 "OverHill" "games" "LOverHill$Game;", Cond.methodLink RX11 125 yX0_stands, Cond.instanceMethod yX0_stands, Cond.selects RX0 yX0_stands yX0_stands, Cond.initialized RX0, Cond.code yX0_stands cX0_stands 1 (some .boolean), Cond.fieldLink RX0 49 "OverHill$Dance" "lines" "I", Cond.methodLink RX11 141 yX11_isStep, Cond.static yX11_isStep, Cond.initialized RX11, Cond.code yX11_isStep cX11_isStep 1 (some .boolean), Cond.methodLink RX11 150 yX11_isWithin, Cond.static yX11_isWithin, Cond.code yX11_isWithin cX11_isWithin 2 (some .boolean), Cond.methodLink RX11 330 yX2_winningStep, Cond.instanceMethod yX2_winningStep, Cond.selects RX2 yX2_winningStep yX2_winningStep, Cond.initialized RX2, Cond.code yX2_winningStep cX2_winningStep 4 (some .int), Cond.fieldLink RX2 11 "OverHill$Game" "winning" "[I", Cond.fieldLink RX2 19 "OverHill$Game" "POWERS" "[I", Cond.fieldLink RX2 22 "OverHill$Dance" "met" "[I", Cond.methodLink RX2 15 yX2_findWinning]
def wsX11_game_r2 : List Cond := [Cond.instanceMethod yX2_findWinning, Cond.selects RX2 yX2_findWinning yX2_findWinning, Cond.code yX2_findWinning cX2_findWinning 6 (some .int), Cond.methodLink RX2 27 yJ6_numberOfTrailingZeros_0f7a4, Cond.static yJ6_numberOfTrailingZeros_0f7a4, Cond.initialized RJ6, Cond.code yJ6_numberOfTrailingZeros_0f7a4 cJ6_numberOfTrailingZeros_0f7a4 2 (some .int), Cond.constant RJ6 264 (65536)]
def wsX11_game : List Cond := .code yX11_game cX11_game 2 (some .int) :: ((wsX11_game_r1 ++ wsX11_game_r2) ++ wsX110 ++ wsX00 ++ wsX20)
def wsX11_plays_r1 : List Cond := [Cond.fieldLink RX11 24 "OverHill" "now" "LOverHill$Dance;", Cond.fieldLink RX11 84 "OverHill" "games" "LOverHill$Game;", Cond.methodLink RX11 125 yX0_stands, Cond.instanceMethod yX0_stands, Cond.selects RX0 yX0_stands yX0_stands, Cond.initialized RX0, Cond.code yX0_stands cX0_stands 1 (some .boolean), Cond.fieldLink RX0 49 "OverHill$Dance" "lines" "I", Cond.methodLink RX11 141 yX11_isStep, Cond.static yX11_isStep, Cond.initialized RX11, Cond.code yX11_isStep cX11_isStep 1 (some .boolean), Cond.methodLink RX11 150 yX11_isWithin, Cond.static yX11_isWithin, Cond.code yX11_isWithin cX11_isWithin 2 (some .boolean), Cond.methodLink RX11 330 yX2_winningStep, Cond.instanceMethod yX2_winningStep, Cond.selects RX2 yX2_winningStep yX2_winningStep, Cond.initialized RX2, Cond.code yX2_winningStep cX2_winningStep 4 (some .int), Cond.fieldLink RX2 11 "OverHill$Game" "winning" "[I", Cond.fieldLink RX2 19 "OverHill$Game" "POWERS" "[I", Cond.fieldLink RX2 22 "OverHill$Dance" "met" "[I", Cond.methodLink RX2 15 yX2_findWinning]
def wsX11_plays_r2 : List Cond := [Cond.instanceMethod yX2_findWinning, Cond.selects RX2 yX2_findWinning yX2_findWinning, Cond.code yX2_findWinning cX2_findWinning 6 (some .int), Cond.methodLink RX2 27 yJ6_numberOfTrailingZeros_0f7a4, Cond.static yJ6_numberOfTrailingZeros_0f7a4, Cond.initialized RJ6, Cond.code yJ6_numberOfTrailingZeros_0f7a4 cJ6_numberOfTrailingZeros_0f7a4 2 (some .int), Cond.constant RJ6 264 (65536)]
def wsX11_plays : List Cond := .code yX11_plays cX11_plays 2 (some .int) :: ((wsX11_plays_r1 ++ wsX11_plays_r2) ++ wsX110 ++ wsX00 ++ wsX20)
def wsX11_wet : List Cond := .code yX11_wet cX11_wet 10 (some .long) :: ([.fieldLink RX11 24 "OverHill" "now" "LOverHill$Dance;", .constantLong RX11 306 (-2), .fieldLink RX11 341 "OverHill$Dance" "rain" "I", .methodLink RX11 125 yX0_stands, .instanceMethod yX0_stands, .selects RX0 yX0_stands yX0_stands, .initialized RX0, .code yX0_stands cX0_stands 1 (some .boolean), .fieldLink RX0 49 "OverHill$Dance" "lines" "I", .methodLink RX11 150 yX11_isWithin, .static yX11_isWithin, .initialized RX11, .code yX11_isWithin cX11_isWithin 2 (some .boolean), .methodLink RX11 337 yX11_choices, .static yX11_choices, .code yX11_choices cX11_choices 5 (some .long), .methodLink RX11 344 yX11_power, .static yX11_power, .code yX11_power cX11_power 5 (some .long), .methodLink RX11 347 yX11_commonDivisor, .static yX11_commonDivisor, .code yX11_commonDivisor cX11_commonDivisor 11 (some .long)] ++ wsX110 ++ wsX00)
def wsX11_dry_r1 : List Cond := [Cond.methodLink RX11 333 yX11_wet, Cond.instanceMethod yX11_wet, Cond.selects RX11 yX11_wet yX11_wet, Cond.initialized RX11, Cond.code yX11_wet cX11_wet 10 (some .long), Cond.fieldLink RX11 24 "OverHill" "now" "LOverHill$Dance;", Cond.constantLong RX11 306 (-2), Cond.fieldLink RX11 341 "OverHill$Dance" "rain" "I", Cond.methodLink RX11 125 yX0_stands, Cond.instanceMethod yX0_stands, Cond.selects RX0 yX0_stands yX0_stands, Cond.initialized RX0, Cond.code yX0_stands cX0_stands 1 (some .boolean), Cond.fieldLink RX0 49 "OverHill$Dance" "lines" "I", Cond.methodLink RX11 150 yX11_isWithin, Cond.static yX11_isWithin, Cond.code yX11_isWithin cX11_isWithin 2 (some .boolean), Cond.methodLink RX11 337 yX11_choices, Cond.static yX11_choices, Cond.code yX11_choices cX11_choices 5 (some .long), Cond.methodLink RX11 344 yX11_power, Cond.static yX11_power, Cond.code yX11_power cX11_power 5 (some .long), Cond.methodLink RX11 347 yX11_commonDivisor]
def wsX11_dry_r2 : List Cond := [Cond.static yX11_commonDivisor, Cond.code yX11_commonDivisor cX11_commonDivisor 11 (some .long)]
def wsX11_dry : List Cond := .code yX11_dry cX11_dry 3 (some .long) :: ((wsX11_dry_r1 ++ wsX11_dry_r2) ++ wsX110 ++ wsX00)
def wsX11_hasNight : List Cond := .code yX11_hasNight cX11_hasNight 3 (some .boolean) :: ([.fieldLink RX11 24 "OverHill" "now" "LOverHill$Dance;", .constant RX11 437 (2000000000), .methodLink RX11 125 yX0_stands, .instanceMethod yX0_stands, .selects RX0 yX0_stands yX0_stands, .initialized RX0, .code yX0_stands cX0_stands 1 (some .boolean), .fieldLink RX0 49 "OverHill$Dance" "lines" "I"] ++ wsX110 ++ wsX00)
def wsX11_drawn_r1 : List Cond := [Cond.fieldLink RX11 91 "OverHill" "night" "LOverHill$Night;", Cond.fieldLink RX11 24 "OverHill" "now" "LOverHill$Dance;", Cond.fieldLink RX11 357 "OverHill$Night" "holeCount" "I", Cond.fieldLink RX11 360 "OverHill$Night" "firstHole" "I", Cond.fieldLink RX11 363 "OverHill$Night" "mudCount" "I", Cond.fieldLink RX11 366 "OverHill$Night" "slipCount" "I", Cond.methodLink RX11 351 yX11_hasNight, Cond.instanceMethod yX11_hasNight, Cond.selects RX11 yX11_hasNight yX11_hasNight, Cond.initialized RX11, Cond.code yX11_hasNight cX11_hasNight 3 (some .boolean), Cond.constant RX11 437 (2000000000), Cond.methodLink RX11 125 yX0_stands, Cond.instanceMethod yX0_stands, Cond.selects RX0 yX0_stands yX0_stands, Cond.initialized RX0, Cond.code yX0_stands cX0_stands 1 (some .boolean), Cond.fieldLink RX0 49 "OverHill$Dance" "lines" "I", Cond.methodLink RX11 150 yX11_isWithin, Cond.static yX11_isWithin, Cond.code yX11_isWithin cX11_isWithin 2 (some .boolean), Cond.methodLink RX11 354 yX4_play, Cond.instanceMethod yX4_play, Cond.selects RX4 yX4_play yX4_play]
def wsX11_drawn_r2 : List Cond := [Cond.initialized RX4, Cond.code yX4_play cX4_play 5 none, Cond.fieldLink RX4 18 "OverHill$Night" "state" "J", Cond.fieldLink RX4 22 "OverHill$Night" "holeCount" "I", Cond.fieldLink RX4 26 "OverHill$Night" "firstHole" "I", Cond.fieldLink RX4 29 "OverHill$Night" "mudCount" "I", Cond.fieldLink RX4 32 "OverHill$Night" "slipCount" "I", Cond.fieldLink RX4 15 "OverHill$Night" "places" "[I", Cond.fieldLink RX4 35 "OverHill$Dance" "starts" "[I", Cond.methodLink RX4 40 yX4_danceBeat, Cond.instanceMethod yX4_danceBeat, Cond.selects RX4 yX4_danceBeat yX4_danceBeat, Cond.code yX4_danceBeat cX4_danceBeat 6 none, Cond.fieldLink RX4 52 "OverHill$Dance" "rain" "I", Cond.fieldLink RX4 55 "OverHill$Dance" "lengths" "[I", Cond.fieldLink RX4 9 "OverHill$Night" "danced" "[I", Cond.methodLink RX4 48 yX4_draw, Cond.instanceMethod yX4_draw, Cond.selects RX4 yX4_draw yX4_draw, Cond.code yX4_draw cX4_draw 1 (some .int), Cond.constantLong RX4 79 (1103515245), Cond.constantLong RX4 81 (12345), Cond.constantLong RX4 83 (2147483648), Cond.constantLong RX4 85 (65536)]
def wsX11_drawn_r3 : List Cond := [Cond.constantLong RX4 87 (100), Cond.methodLink RX4 58 yX4_danceStep, Cond.instanceMethod yX4_danceStep, Cond.selects RX4 yX4_danceStep yX4_danceStep, Cond.code yX4_danceStep cX4_danceStep 4 (some .int), Cond.fieldLink RX4 69 "OverHill$Dance" "odds" "I", Cond.methodLink RX4 62 yX0_stepAt, Cond.instanceMethod yX0_stepAt, Cond.selects RX0 yX0_stepAt yX0_stepAt, Cond.code yX0_stepAt cX0_stepAt 3 (some .int), Cond.fieldLink RX0 9 "OverHill$Dance" "steps" "[I", Cond.static yX11_wrap, Cond.code yX11_wrap cX11_wrap 2 (some .int), Cond.methodLink RX11 451 yJ9_floorMod_7cf53, Cond.static yJ9_floorMod_7cf53, Cond.initialized RJ9, Cond.code yJ9_floorMod_7cf53 cJ9_floorMod_7cf53 3 (some .int), Cond.methodLink RX4 44 yX4_lookForHole, Cond.instanceMethod yX4_lookForHole, Cond.selects RX4 yX4_lookForHole yX4_lookForHole, Cond.code yX4_lookForHole cX4_lookForHole 6 none, Cond.fieldLink RX4 72 "OverHill$Dance" "gap" "I", Cond.methodLink RX4 75 yX0_isHole, Cond.instanceMethod yX0_isHole]
def wsX11_drawn_r4 : List Cond := [Cond.selects RX0 yX0_isHole yX0_isHole, Cond.code yX0_isHole cX0_isHole 3 (some .boolean), Cond.methodLink RX0 80 yX0_mayMeet, Cond.instanceMethod yX0_mayMeet, Cond.selects RX0 yX0_mayMeet yX0_mayMeet, Cond.code yX0_mayMeet cX0_mayMeet 3 (some .boolean), Cond.fieldLink RX0 21 "OverHill$Dance" "met" "[I"]
def wsX11_drawn : List Cond := .code yX11_drawn cX11_drawn 4 (some .int) :: ((wsX11_drawn_r1 ++ (wsX11_drawn_r2 ++ (wsX11_drawn_r3 ++ wsX11_drawn_r4))) ++ wsX110 ++ wsX40 ++ wsX00)
def wsX11_nights_r1 : List Cond := [Cond.fieldLink RX11 91 "OverHill" "night" "LOverHill$Night;", Cond.fieldLink RX11 24 "OverHill" "now" "LOverHill$Dance;", Cond.fieldLink RX11 357 "OverHill$Night" "holeCount" "I", Cond.methodLink RX11 351 yX11_hasNight, Cond.instanceMethod yX11_hasNight, Cond.selects RX11 yX11_hasNight yX11_hasNight, Cond.initialized RX11, Cond.code yX11_hasNight cX11_hasNight 3 (some .boolean), Cond.constant RX11 437 (2000000000), Cond.methodLink RX11 125 yX0_stands, Cond.instanceMethod yX0_stands, Cond.selects RX0 yX0_stands yX0_stands, Cond.initialized RX0, Cond.code yX0_stands cX0_stands 1 (some .boolean), Cond.fieldLink RX0 49 "OverHill$Dance" "lines" "I", Cond.methodLink RX11 354 yX4_play, Cond.instanceMethod yX4_play, Cond.selects RX4 yX4_play yX4_play, Cond.initialized RX4, Cond.code yX4_play cX4_play 5 none, Cond.fieldLink RX4 18 "OverHill$Night" "state" "J", Cond.fieldLink RX4 22 "OverHill$Night" "holeCount" "I", Cond.fieldLink RX4 26 "OverHill$Night" "firstHole" "I", Cond.fieldLink RX4 29 "OverHill$Night" "mudCount" "I"]
def wsX11_nights_r2 : List Cond := [Cond.fieldLink RX4 32 "OverHill$Night" "slipCount" "I", Cond.fieldLink RX4 15 "OverHill$Night" "places" "[I", Cond.fieldLink RX4 35 "OverHill$Dance" "starts" "[I", Cond.methodLink RX4 40 yX4_danceBeat, Cond.instanceMethod yX4_danceBeat, Cond.selects RX4 yX4_danceBeat yX4_danceBeat, Cond.code yX4_danceBeat cX4_danceBeat 6 none, Cond.fieldLink RX4 52 "OverHill$Dance" "rain" "I", Cond.fieldLink RX4 55 "OverHill$Dance" "lengths" "[I", Cond.fieldLink RX4 9 "OverHill$Night" "danced" "[I", Cond.methodLink RX4 48 yX4_draw, Cond.instanceMethod yX4_draw, Cond.selects RX4 yX4_draw yX4_draw, Cond.code yX4_draw cX4_draw 1 (some .int), Cond.constantLong RX4 79 (1103515245), Cond.constantLong RX4 81 (12345), Cond.constantLong RX4 83 (2147483648), Cond.constantLong RX4 85 (65536), Cond.constantLong RX4 87 (100), Cond.methodLink RX4 58 yX4_danceStep, Cond.instanceMethod yX4_danceStep, Cond.selects RX4 yX4_danceStep yX4_danceStep, Cond.code yX4_danceStep cX4_danceStep 4 (some .int), Cond.fieldLink RX4 69 "OverHill$Dance" "odds" "I"]
def wsX11_nights_r3 : List Cond := [Cond.methodLink RX4 62 yX0_stepAt, Cond.instanceMethod yX0_stepAt, Cond.selects RX0 yX0_stepAt yX0_stepAt, Cond.code yX0_stepAt cX0_stepAt 3 (some .int), Cond.fieldLink RX0 9 "OverHill$Dance" "steps" "[I", Cond.static yX11_wrap, Cond.code yX11_wrap cX11_wrap 2 (some .int), Cond.methodLink RX11 451 yJ9_floorMod_7cf53, Cond.static yJ9_floorMod_7cf53, Cond.initialized RJ9, Cond.code yJ9_floorMod_7cf53 cJ9_floorMod_7cf53 3 (some .int), Cond.methodLink RX4 44 yX4_lookForHole, Cond.instanceMethod yX4_lookForHole, Cond.selects RX4 yX4_lookForHole yX4_lookForHole, Cond.code yX4_lookForHole cX4_lookForHole 6 none, Cond.fieldLink RX4 72 "OverHill$Dance" "gap" "I", Cond.methodLink RX4 75 yX0_isHole, Cond.instanceMethod yX0_isHole, Cond.selects RX0 yX0_isHole yX0_isHole, Cond.code yX0_isHole cX0_isHole 3 (some .boolean), Cond.methodLink RX0 80 yX0_mayMeet, Cond.instanceMethod yX0_mayMeet, Cond.selects RX0 yX0_mayMeet yX0_mayMeet, Cond.code yX0_mayMeet cX0_mayMeet 3 (some .boolean)]
def wsX11_nights_r4 : List Cond := [Cond.fieldLink RX0 21 "OverHill$Dance" "met" "[I"]
def wsX11_nights : List Cond := .code yX11_nights cX11_nights 6 (some .int) :: ((wsX11_nights_r1 ++ (wsX11_nights_r2 ++ (wsX11_nights_r3 ++ wsX11_nights_r4))) ++ wsX110 ++ wsX40 ++ wsX00)
def wsX11_stumble_r1 : List Cond := [Cond.fieldLink RX11 24 "OverHill" "now" "LOverHill$Dance;", Cond.fieldLink RX11 216 "OverHill$Dance" "stumbleCount" "I", Cond.fieldLink RX11 369 "OverHill$Dance" "changeCount" "I", Cond.fieldLink RX11 49 "OverHill" "laid" "Z", Cond.methodLink RX11 162 yX11_has, Cond.instanceMethod yX11_has, Cond.selects RX11 yX11_has yX11_has, Cond.initialized RX11, Cond.code yX11_has cX11_has 3 (some .boolean), Cond.methodLink RX11 125 yX0_stands, Cond.instanceMethod yX0_stands, Cond.selects RX0 yX0_stands yX0_stands, Cond.initialized RX0, Cond.code yX0_stands cX0_stands 1 (some .boolean), Cond.fieldLink RX0 49 "OverHill$Dance" "lines" "I", Cond.methodLink RX11 129 yX11_isSide, Cond.static yX11_isSide, Cond.code yX11_isSide cX11_isSide 1 (some .boolean), Cond.methodLink RX11 150 yX11_isWithin, Cond.static yX11_isWithin, Cond.code yX11_isWithin cX11_isWithin 2 (some .boolean), Cond.methodLink RX11 156 yX11_isBeat, Cond.static yX11_isBeat, Cond.code yX11_isBeat cX11_isBeat 1 (some .boolean)]
def wsX11_stumble_r2 : List Cond := [Cond.methodLink RX11 141 yX11_isStep, Cond.static yX11_isStep, Cond.code yX11_isStep cX11_isStep 1 (some .boolean), Cond.methodLink RX11 372 yX0_stumbleOf, Cond.instanceMethod yX0_stumbleOf, Cond.selects RX0 yX0_stumbleOf yX0_stumbleOf, Cond.code yX0_stumbleOf cX0_stumbleOf 5 (some .int), Cond.fieldLink RX0 58 "OverHill$Dance" "stumbleCount" "I", Cond.fieldLink RX0 24 "OverHill$Dance" "stumbles" "[I", Cond.methodLink RX11 375 yX0_keepChange, Cond.instanceMethod yX0_keepChange, Cond.selects RX0 yX0_keepChange yX0_keepChange, Cond.code yX0_keepChange cX0_keepChange 5 none, Cond.fieldLink RX0 67 "OverHill$Dance" "changeCount" "I", Cond.fieldLink RX0 36 "OverHill$Dance" "changes" "[I", Cond.methodLink RX11 379 yX0_addStumble, Cond.instanceMethod yX0_addStumble, Cond.selects RX0 yX0_addStumble yX0_addStumble, Cond.code yX0_addStumble cX0_addStumble 6 none]
def wsX11_stumble : List Cond := .code yX11_stumble cX11_stumble 6 (some .int) :: ((wsX11_stumble_r1 ++ wsX11_stumble_r2) ++ wsX110 ++ wsX00)
def wsX11_mud : List Cond := .code yX11_mud cX11_mud 4 (some .int) :: ([.fieldLink RX11 24 "OverHill" "now" "LOverHill$Dance;", .fieldLink RX11 369 "OverHill$Dance" "changeCount" "I", .fieldLink RX11 159 "OverHill$Dance" "muds" "[I", .fieldLink RX11 49 "OverHill" "laid" "Z", .methodLink RX11 125 yX0_stands, .instanceMethod yX0_stands, .selects RX0 yX0_stands yX0_stands, .initialized RX0, .code yX0_stands cX0_stands 1 (some .boolean), .fieldLink RX0 49 "OverHill$Dance" "lines" "I", .methodLink RX11 156 yX11_isBeat, .static yX11_isBeat, .initialized RX11, .code yX11_isBeat cX11_isBeat 1 (some .boolean), .methodLink RX11 150 yX11_isWithin, .static yX11_isWithin, .code yX11_isWithin cX11_isWithin 2 (some .boolean), .methodLink RX11 375 yX0_keepChange, .instanceMethod yX0_keepChange, .selects RX0 yX0_keepChange yX0_keepChange, .code yX0_keepChange cX0_keepChange 5 none, .fieldLink RX0 67 "OverHill$Dance" "changeCount" "I", .fieldLink RX0 36 "OverHill$Dance" "changes" "[I"] ++ wsX110 ++ wsX00)
def wsX11_teach_r1 : List Cond := [Cond.fieldLink RX11 24 "OverHill" "now" "LOverHill$Dance;", Cond.fieldLink RX11 369 "OverHill$Dance" "changeCount" "I", Cond.fieldLink RX11 383 "OverHill$Dance" "steps" "[I", Cond.fieldLink RX11 49 "OverHill" "laid" "Z", Cond.methodLink RX11 125 yX0_stands, Cond.instanceMethod yX0_stands, Cond.selects RX0 yX0_stands yX0_stands, Cond.initialized RX0, Cond.code yX0_stands cX0_stands 1 (some .boolean), Cond.fieldLink RX0 49 "OverHill$Dance" "lines" "I", Cond.methodLink RX11 129 yX11_isSide, Cond.static yX11_isSide, Cond.initialized RX11, Cond.code yX11_isSide cX11_isSide 1 (some .boolean), Cond.methodLink RX11 150 yX11_isWithin, Cond.static yX11_isWithin, Cond.code yX11_isWithin cX11_isWithin 2 (some .boolean), Cond.methodLink RX11 133 yX0_hasPlace, Cond.instanceMethod yX0_hasPlace, Cond.selects RX0 yX0_hasPlace yX0_hasPlace, Cond.code yX0_hasPlace cX0_hasPlace 3 (some .boolean), Cond.fieldLink RX0 15 "OverHill$Dance" "lengths" "[I", Cond.methodLink RX11 141 yX11_isStep, Cond.static yX11_isStep]
def wsX11_teach_r2 : List Cond := [Cond.code yX11_isStep cX11_isStep 1 (some .boolean), Cond.methodLink RX11 375 yX0_keepChange, Cond.instanceMethod yX0_keepChange, Cond.selects RX0 yX0_keepChange yX0_keepChange, Cond.code yX0_keepChange cX0_keepChange 5 none, Cond.fieldLink RX0 67 "OverHill$Dance" "changeCount" "I", Cond.fieldLink RX0 36 "OverHill$Dance" "changes" "[I"]
def wsX11_teach : List Cond := .code yX11_teach cX11_teach 6 (some .int) :: ((wsX11_teach_r1 ++ wsX11_teach_r2) ++ wsX110 ++ wsX00)
def wsX11_undo : List Cond := .code yX11_undo cX11_undo 1 (some .int) :: ([.fieldLink RX11 24 "OverHill" "now" "LOverHill$Dance;", .fieldLink RX11 369 "OverHill$Dance" "changeCount" "I", .fieldLink RX11 49 "OverHill" "laid" "Z", .methodLink RX11 125 yX0_stands, .instanceMethod yX0_stands, .selects RX0 yX0_stands yX0_stands, .initialized RX0, .code yX0_stands cX0_stands 1 (some .boolean), .fieldLink RX0 49 "OverHill$Dance" "lines" "I", .methodLink RX11 386 yX0_takeBack, .instanceMethod yX0_takeBack, .selects RX0 yX0_takeBack yX0_takeBack, .code yX0_takeBack cX0_takeBack 4 none, .fieldLink RX0 67 "OverHill$Dance" "changeCount" "I", .fieldLink RX0 36 "OverHill$Dance" "changes" "[I", .fieldLink RX0 58 "OverHill$Dance" "stumbleCount" "I", .fieldLink RX0 27 "OverHill$Dance" "muds" "[I", .fieldLink RX0 9 "OverHill$Dance" "steps" "[I"] ++ wsX110 ++ wsX00)
def wsX11_count_r1 : List Cond := [Cond.fieldLink RX11 24 "OverHill" "now" "LOverHill$Dance;", Cond.fieldLink RX11 389 "OverHill$Dance" "gap" "I", Cond.fieldLink RX11 392 "OverHill$Dance" "odds" "I", Cond.fieldLink RX11 341 "OverHill$Dance" "rain" "I", Cond.fieldLink RX11 178 "OverHill$Dance" "lengths" "[I", Cond.fieldLink RX11 216 "OverHill$Dance" "stumbleCount" "I", Cond.fieldLink RX11 398 "OverHill$Dance" "cellCount" "I", Cond.fieldLink RX11 401 "OverHill$Dance" "tuneCount" "I", Cond.fieldLink RX11 369 "OverHill$Dance" "changeCount" "I", Cond.fieldLink RX11 116 "OverHill$Dance" "lines" "I", Cond.fieldLink RX11 20 "OverHill" "tape" "LOverHill$Tape;", Cond.fieldLink RX11 102 "OverHill$Tape" "length" "I", Cond.fieldLink RX11 98 "OverHill" "slots" "LOverHill$Slots;", Cond.methodLink RX11 395 yX0_countMuds, Cond.instanceMethod yX0_countMuds, Cond.selects RX0 yX0_countMuds yX0_countMuds, Cond.initialized RX0, Cond.code yX0_countMuds cX0_countMuds 3 (some .int), Cond.fieldLink RX0 27 "OverHill$Dance" "muds" "[I", Cond.methodLink RX11 404 yX7_countRows, Cond.instanceMethod yX7_countRows, Cond.selects RX7 yX7_countRows yX7_countRows, Cond.initialized RX7, Cond.code yX7_countRows cX7_countRows 3 (some .int)]
def wsX11_count_r2 : List Cond := [Cond.methodLink RX7 26 yX7_has, Cond.instanceMethod yX7_has, Cond.selects RX7 yX7_has yX7_has, Cond.code yX7_has cX7_has 2 (some .boolean), Cond.fieldLink RX7 15 "OverHill$Slots" "sizes" "[I"]
def wsX11_count : List Cond := .code yX11_count cX11_count 2 (some .int) :: ((wsX11_count_r1 ++ wsX11_count_r2) ++ wsX110 ++ wsX00 ++ wsX80 ++ wsX70)
def wsX11_image_r1 : List Cond := [Cond.fieldLink RX11 31 "OverHill" "images" "[LOverHill$Dance;", Cond.fieldLink RX11 24 "OverHill" "now" "LOverHill$Dance;", Cond.fieldLink RX11 35 "OverHill" "kept" "[I", Cond.methodLink RX11 150 yX11_isWithin, Cond.static yX11_isWithin, Cond.initialized RX11, Cond.code yX11_isWithin cX11_isWithin 2 (some .boolean), Cond.methodLink RX11 407 yX0_copyFrom, Cond.instanceMethod yX0_copyFrom, Cond.selects RX0 yX0_copyFrom yX0_copyFrom, Cond.initialized RX0, Cond.code yX0_copyFrom cX0_copyFrom 2 none, Cond.fieldLink RX0 39 "OverHill$Dance" "gap" "I", Cond.fieldLink RX0 43 "OverHill$Dance" "odds" "I", Cond.fieldLink RX0 46 "OverHill$Dance" "rain" "I", Cond.fieldLink RX0 49 "OverHill$Dance" "lines" "I", Cond.fieldLink RX0 58 "OverHill$Dance" "stumbleCount" "I", Cond.fieldLink RX0 61 "OverHill$Dance" "cellCount" "I", Cond.fieldLink RX0 64 "OverHill$Dance" "tuneCount" "I", Cond.fieldLink RX0 67 "OverHill$Dance" "changeCount" "I", Cond.fieldLink RX0 9 "OverHill$Dance" "steps" "[I", Cond.methodLink RX0 70 arraycopyName, Cond.native arraycopyName, Cond.static arraycopyName]
def wsX11_image_r2 : List Cond := [Cond.initialized "java/lang/System", Cond.fieldLink RX0 15 "OverHill$Dance" "lengths" "[I", Cond.fieldLink RX0 18 "OverHill$Dance" "starts" "[I", Cond.fieldLink RX0 21 "OverHill$Dance" "met" "[I", Cond.fieldLink RX0 24 "OverHill$Dance" "stumbles" "[I", Cond.fieldLink RX0 27 "OverHill$Dance" "muds" "[I", Cond.fieldLink RX0 30 "OverHill$Dance" "cells" "[I", Cond.fieldLink RX0 33 "OverHill$Dance" "tunes" "[I", Cond.fieldLink RX0 36 "OverHill$Dance" "changes" "[I"]
def wsX11_image : List Cond := .code yX11_image cX11_image 2 (some .int) :: ((wsX11_image_r1 ++ wsX11_image_r2) ++ wsX110 ++ wsX00)
def wsX11_back_r1 : List Cond := [Cond.fieldLink RX11 35 "OverHill" "kept" "[I", Cond.fieldLink RX11 24 "OverHill" "now" "LOverHill$Dance;", Cond.fieldLink RX11 31 "OverHill" "images" "[LOverHill$Dance;", Cond.fieldLink RX11 49 "OverHill" "laid" "Z", Cond.methodLink RX11 150 yX11_isWithin, Cond.static yX11_isWithin, Cond.initialized RX11, Cond.code yX11_isWithin cX11_isWithin 2 (some .boolean), Cond.methodLink RX11 407 yX0_copyFrom, Cond.instanceMethod yX0_copyFrom, Cond.selects RX0 yX0_copyFrom yX0_copyFrom, Cond.initialized RX0, Cond.code yX0_copyFrom cX0_copyFrom 2 none, Cond.fieldLink RX0 39 "OverHill$Dance" "gap" "I", Cond.fieldLink RX0 43 "OverHill$Dance" "odds" "I", Cond.fieldLink RX0 46 "OverHill$Dance" "rain" "I", Cond.fieldLink RX0 49 "OverHill$Dance" "lines" "I", Cond.fieldLink RX0 58 "OverHill$Dance" "stumbleCount" "I", Cond.fieldLink RX0 61 "OverHill$Dance" "cellCount" "I", Cond.fieldLink RX0 64 "OverHill$Dance" "tuneCount" "I", Cond.fieldLink RX0 67 "OverHill$Dance" "changeCount" "I", Cond.fieldLink RX0 9 "OverHill$Dance" "steps" "[I", Cond.methodLink RX0 70 arraycopyName, Cond.native arraycopyName]
def wsX11_back_r2 : List Cond := [Cond.static arraycopyName, Cond.initialized "java/lang/System", Cond.fieldLink RX0 15 "OverHill$Dance" "lengths" "[I", Cond.fieldLink RX0 18 "OverHill$Dance" "starts" "[I", Cond.fieldLink RX0 21 "OverHill$Dance" "met" "[I", Cond.fieldLink RX0 24 "OverHill$Dance" "stumbles" "[I", Cond.fieldLink RX0 27 "OverHill$Dance" "muds" "[I", Cond.fieldLink RX0 30 "OverHill$Dance" "cells" "[I", Cond.fieldLink RX0 33 "OverHill$Dance" "tunes" "[I", Cond.fieldLink RX0 36 "OverHill$Dance" "changes" "[I"]
def wsX11_back : List Cond := .code yX11_back cX11_back 2 (some .int) :: ((wsX11_back_r1 ++ wsX11_back_r2) ++ wsX110 ++ wsX00)
def wsX11_row : List Cond := .code yX11_row cX11_row 4 (some .int) :: ([.fieldLink RX11 98 "OverHill" "slots" "LOverHill$Slots;", .methodLink RX11 411 yX7_isSlot, .static yX7_isSlot, .initialized RX7, .code yX7_isSlot cX7_isSlot 1 (some .boolean), .static yX11_isWithin, .initialized RX11, .code yX11_isWithin cX11_isWithin 2 (some .boolean), .methodLink RX11 150 yX11_isWithin, .methodLink RX11 414 yX7_make, .instanceMethod yX7_make, .selects RX7 yX7_make yX7_make, .code yX7_make cX7_make 5 none, .fieldLink RX7 11 "OverHill$Slots" "widths" "[I", .fieldLink RX7 15 "OverHill$Slots" "sizes" "[I", .fieldLink RX7 18 "OverHill$Slots" "numbers" "[J"] ++ wsX110 ++ wsX70)
def wsX11_write : List Cond := .code yX11_write cX11_write 5 (some .int) :: ([.fieldLink RX11 98 "OverHill" "slots" "LOverHill$Slots;", .fieldLink RX11 419 "OverHill$Slots" "sizes" "[I", .methodLink RX11 411 yX7_isSlot, .static yX7_isSlot, .initialized RX7, .code yX7_isSlot cX7_isSlot 1 (some .boolean), .static yX11_isWithin, .initialized RX11, .code yX11_isWithin cX11_isWithin 2 (some .boolean), .methodLink RX11 417 yX7_has, .instanceMethod yX7_has, .selects RX7 yX7_has yX7_has, .code yX7_has cX7_has 2 (some .boolean), .fieldLink RX7 15 "OverHill$Slots" "sizes" "[I", .methodLink RX11 150 yX11_isWithin, .methodLink RX11 422 yX7_put, .instanceMethod yX7_put, .selects RX7 yX7_put yX7_put, .code yX7_put cX7_put 5 none, .fieldLink RX7 18 "OverHill$Slots" "numbers" "[J", .fieldLink RX7 11 "OverHill$Slots" "widths" "[I", .methodLink RX7 30 yX7_cut, .static yX7_cut, .code yX7_cut cX7_cut 3 (some .long)] ++ wsX110 ++ wsX70)
def wsX11_paste_r1 : List Cond := [Cond.fieldLink RX11 98 "OverHill" "slots" "LOverHill$Slots;", Cond.fieldLink RX11 426 "OverHill$Slots" "widths" "[I", Cond.methodLink RX11 411 yX7_isSlot, Cond.static yX7_isSlot, Cond.initialized RX7, Cond.code yX7_isSlot cX7_isSlot 1 (some .boolean), Cond.static yX11_isWithin, Cond.initialized RX11, Cond.code yX11_isWithin cX11_isWithin 2 (some .boolean), Cond.methodLink RX11 417 yX7_has, Cond.instanceMethod yX7_has, Cond.selects RX7 yX7_has yX7_has, Cond.code yX7_has cX7_has 2 (some .boolean), Cond.fieldLink RX7 15 "OverHill$Slots" "sizes" "[I", Cond.methodLink RX11 429 yX7_holds, Cond.instanceMethod yX7_holds, Cond.selects RX7 yX7_holds yX7_holds, Cond.code yX7_holds cX7_holds 4 (some .boolean), Cond.methodLink RX11 433 yX7_move, Cond.instanceMethod yX7_move, Cond.selects RX7 yX7_move yX7_move, Cond.code yX7_move cX7_move 6 none, Cond.fieldLink RX7 18 "OverHill$Slots" "numbers" "[J", Cond.methodLink RX7 34 arraycopyName]
def wsX11_paste_r2 : List Cond := [Cond.native arraycopyName, Cond.static arraycopyName, Cond.initialized "java/lang/System"]
def wsX11_paste : List Cond := .code yX11_paste cX11_paste 6 (some .int) :: ((wsX11_paste_r1 ++ wsX11_paste_r2) ++ wsX110 ++ wsX70)
theorem dX0_init_0 : decode cX0_init 0 = .ok (.aload_n 0, 1) := by decide +kernel
theorem dX0_init_1 : decode cX0_init 1 = .ok (.invokespecial 3, 3) := by decide +kernel
theorem dX0_init_4 : decode cX0_init 4 = .ok (.aload_n 0, 1) := by decide +kernel
theorem dX0_init_5 : decode cX0_init 5 = .ok (.bipush 24, 2) := by decide +kernel
theorem dX0_init_7 : decode cX0_init 7 = .ok (.newarray .int, 2) := by decide +kernel
theorem dX0_init_9 : decode cX0_init 9 = .ok (.putfield 9, 3) := by decide +kernel
theorem dX0_init_12 : decode cX0_init 12 = .ok (.aload_n 0, 1) := by decide +kernel
theorem dX0_init_13 : decode cX0_init 13 = .ok (.iconst 2, 1) := by decide +kernel
theorem dX0_init_14 : decode cX0_init 14 = .ok (.newarray .int, 2) := by decide +kernel
theorem dX0_init_16 : decode cX0_init 16 = .ok (.putfield 15, 3) := by decide +kernel
theorem dX0_init_19 : decode cX0_init 19 = .ok (.aload_n 0, 1) := by decide +kernel
theorem dX0_init_20 : decode cX0_init 20 = .ok (.iconst 2, 1) := by decide +kernel
theorem dX0_init_21 : decode cX0_init 21 = .ok (.newarray .int, 2) := by decide +kernel
theorem dX0_init_23 : decode cX0_init 23 = .ok (.putfield 18, 3) := by decide +kernel
theorem dX0_init_26 : decode cX0_init 26 = .ok (.aload_n 0, 1) := by decide +kernel
theorem dX0_init_27 : decode cX0_init 27 = .ok (.bipush 6, 2) := by decide +kernel
theorem dX0_init_29 : decode cX0_init 29 = .ok (.newarray .int, 2) := by decide +kernel
theorem dX0_init_31 : decode cX0_init 31 = .ok (.putfield 21, 3) := by decide +kernel
theorem dX0_init_34 : decode cX0_init 34 = .ok (.aload_n 0, 1) := by decide +kernel
theorem dX0_init_35 : decode cX0_init 35 = .ok (.bipush 32, 2) := by decide +kernel
theorem dX0_init_37 : decode cX0_init 37 = .ok (.newarray .int, 2) := by decide +kernel
theorem dX0_init_39 : decode cX0_init 39 = .ok (.putfield 24, 3) := by decide +kernel
theorem dX0_init_42 : decode cX0_init 42 = .ok (.aload_n 0, 1) := by decide +kernel
theorem dX0_init_43 : decode cX0_init 43 = .ok (.sipush 200, 3) := by decide +kernel
theorem dX0_init_46 : decode cX0_init 46 = .ok (.newarray .int, 2) := by decide +kernel
theorem dX0_init_48 : decode cX0_init 48 = .ok (.putfield 27, 3) := by decide +kernel
theorem dX0_init_51 : decode cX0_init 51 = .ok (.aload_n 0, 1) := by decide +kernel
theorem dX0_init_52 : decode cX0_init 52 = .ok (.bipush 24, 2) := by decide +kernel
theorem dX0_init_54 : decode cX0_init 54 = .ok (.newarray .int, 2) := by decide +kernel
theorem dX0_init_56 : decode cX0_init 56 = .ok (.putfield 30, 3) := by decide +kernel
theorem dX0_init_59 : decode cX0_init 59 = .ok (.aload_n 0, 1) := by decide +kernel
theorem dX0_init_60 : decode cX0_init 60 = .ok (.bipush 10, 2) := by decide +kernel
theorem dX0_init_62 : decode cX0_init 62 = .ok (.newarray .int, 2) := by decide +kernel
theorem dX0_init_64 : decode cX0_init 64 = .ok (.putfield 33, 3) := by decide +kernel
theorem dX0_init_67 : decode cX0_init 67 = .ok (.aload_n 0, 1) := by decide +kernel
theorem dX0_init_68 : decode cX0_init 68 = .ok (.bipush 120, 2) := by decide +kernel
theorem dX0_init_70 : decode cX0_init 70 = .ok (.newarray .int, 2) := by decide +kernel
theorem dX0_init_72 : decode cX0_init 72 = .ok (.putfield 36, 3) := by decide +kernel
theorem dX0_init_75 : decode cX0_init 75 = .ok (.return_, 1) := by decide +kernel
set_option maxRecDepth 20000 in
theorem ggX0_clear_J7_fill_53178 : GoodIn wsX0_clear wsJ7_fill_53178 := goodIn_r _ [16] (by decide +kernel) (by decide +kernel)
set_option maxRecDepth 20000 in
theorem gX0_clear_J7_fill_53178 : GoodIn wsX0_clear (va_wsS RX0 52 yJ7_fill_53178 wsJ7_fill_53178) := goodIn_app (goodIn_of _ (by decide +kernel)) ggX0_clear_J7_fill_53178
theorem dX0_clear_0 : decode cX0_clear 0 = .ok (.aload_n 0, 1) := by decide +kernel
theorem dX0_clear_1 : decode cX0_clear 1 = .ok (.iconst 0, 1) := by decide +kernel
theorem dX0_clear_2 : decode cX0_clear 2 = .ok (.putfield 39, 3) := by decide +kernel
theorem dX0_clear_5 : decode cX0_clear 5 = .ok (.aload_n 0, 1) := by decide +kernel
theorem dX0_clear_6 : decode cX0_clear 6 = .ok (.iconst 0, 1) := by decide +kernel
theorem dX0_clear_7 : decode cX0_clear 7 = .ok (.putfield 43, 3) := by decide +kernel
theorem dX0_clear_10 : decode cX0_clear 10 = .ok (.aload_n 0, 1) := by decide +kernel
theorem dX0_clear_11 : decode cX0_clear 11 = .ok (.iconst 0, 1) := by decide +kernel
theorem dX0_clear_12 : decode cX0_clear 12 = .ok (.putfield 46, 3) := by decide +kernel
theorem dX0_clear_15 : decode cX0_clear 15 = .ok (.aload_n 0, 1) := by decide +kernel
theorem dX0_clear_16 : decode cX0_clear 16 = .ok (.iconst 0, 1) := by decide +kernel
theorem dX0_clear_17 : decode cX0_clear 17 = .ok (.putfield 49, 3) := by decide +kernel
theorem dX0_clear_20 : decode cX0_clear 20 = .ok (.aload_n 0, 1) := by decide +kernel
theorem dX0_clear_21 : decode cX0_clear 21 = .ok (.getfield 15, 3) := by decide +kernel
theorem dX0_clear_24 : decode cX0_clear 24 = .ok (.iconst 0, 1) := by decide +kernel
theorem dX0_clear_25 : decode cX0_clear 25 = .ok (.invokestatic 52, 3) := by decide +kernel
theorem dX0_clear_28 : decode cX0_clear 28 = .ok (.aload_n 0, 1) := by decide +kernel
theorem dX0_clear_29 : decode cX0_clear 29 = .ok (.getfield 18, 3) := by decide +kernel
theorem dX0_clear_32 : decode cX0_clear 32 = .ok (.iconst 0, 1) := by decide +kernel
theorem dX0_clear_33 : decode cX0_clear 33 = .ok (.invokestatic 52, 3) := by decide +kernel
theorem dX0_clear_36 : decode cX0_clear 36 = .ok (.aload_n 0, 1) := by decide +kernel
theorem dX0_clear_37 : decode cX0_clear 37 = .ok (.getfield 21, 3) := by decide +kernel
theorem dX0_clear_40 : decode cX0_clear 40 = .ok (.bipush 63, 2) := by decide +kernel
theorem dX0_clear_42 : decode cX0_clear 42 = .ok (.invokestatic 52, 3) := by decide +kernel
theorem dX0_clear_45 : decode cX0_clear 45 = .ok (.aload_n 0, 1) := by decide +kernel
theorem dX0_clear_46 : decode cX0_clear 46 = .ok (.getfield 27, 3) := by decide +kernel
theorem dX0_clear_49 : decode cX0_clear 49 = .ok (.iconst 0, 1) := by decide +kernel
theorem dX0_clear_50 : decode cX0_clear 50 = .ok (.invokestatic 52, 3) := by decide +kernel
theorem dX0_clear_53 : decode cX0_clear 53 = .ok (.aload_n 0, 1) := by decide +kernel
theorem dX0_clear_54 : decode cX0_clear 54 = .ok (.iconst 0, 1) := by decide +kernel
theorem dX0_clear_55 : decode cX0_clear 55 = .ok (.putfield 58, 3) := by decide +kernel
theorem dX0_clear_58 : decode cX0_clear 58 = .ok (.aload_n 0, 1) := by decide +kernel
theorem dX0_clear_59 : decode cX0_clear 59 = .ok (.iconst 0, 1) := by decide +kernel
theorem dX0_clear_60 : decode cX0_clear 60 = .ok (.putfield 61, 3) := by decide +kernel
theorem dX0_clear_63 : decode cX0_clear 63 = .ok (.aload_n 0, 1) := by decide +kernel
theorem dX0_clear_64 : decode cX0_clear 64 = .ok (.iconst 0, 1) := by decide +kernel
theorem dX0_clear_65 : decode cX0_clear 65 = .ok (.putfield 64, 3) := by decide +kernel
theorem dX0_clear_68 : decode cX0_clear 68 = .ok (.aload_n 0, 1) := by decide +kernel
theorem dX0_clear_69 : decode cX0_clear 69 = .ok (.iconst 0, 1) := by decide +kernel
theorem dX0_clear_70 : decode cX0_clear 70 = .ok (.putfield 67, 3) := by decide +kernel
theorem dX0_clear_73 : decode cX0_clear 73 = .ok (.return_, 1) := by decide +kernel
theorem dX0_copyFrom_0 : decode cX0_copyFrom 0 = .ok (.aload_n 0, 1) := by decide +kernel
theorem dX0_copyFrom_1 : decode cX0_copyFrom 1 = .ok (.aload_n 1, 1) := by decide +kernel
theorem dX0_copyFrom_2 : decode cX0_copyFrom 2 = .ok (.getfield 39, 3) := by decide +kernel
theorem dX0_copyFrom_5 : decode cX0_copyFrom 5 = .ok (.putfield 39, 3) := by decide +kernel
theorem dX0_copyFrom_8 : decode cX0_copyFrom 8 = .ok (.aload_n 0, 1) := by decide +kernel
theorem dX0_copyFrom_9 : decode cX0_copyFrom 9 = .ok (.aload_n 1, 1) := by decide +kernel
theorem dX0_copyFrom_10 : decode cX0_copyFrom 10 = .ok (.getfield 43, 3) := by decide +kernel
theorem dX0_copyFrom_13 : decode cX0_copyFrom 13 = .ok (.putfield 43, 3) := by decide +kernel
theorem dX0_copyFrom_16 : decode cX0_copyFrom 16 = .ok (.aload_n 0, 1) := by decide +kernel
theorem dX0_copyFrom_17 : decode cX0_copyFrom 17 = .ok (.aload_n 1, 1) := by decide +kernel
theorem dX0_copyFrom_18 : decode cX0_copyFrom 18 = .ok (.getfield 46, 3) := by decide +kernel
theorem dX0_copyFrom_21 : decode cX0_copyFrom 21 = .ok (.putfield 46, 3) := by decide +kernel
theorem dX0_copyFrom_24 : decode cX0_copyFrom 24 = .ok (.aload_n 0, 1) := by decide +kernel
theorem dX0_copyFrom_25 : decode cX0_copyFrom 25 = .ok (.aload_n 1, 1) := by decide +kernel
theorem dX0_copyFrom_26 : decode cX0_copyFrom 26 = .ok (.getfield 49, 3) := by decide +kernel
theorem dX0_copyFrom_29 : decode cX0_copyFrom 29 = .ok (.putfield 49, 3) := by decide +kernel
theorem dX0_copyFrom_32 : decode cX0_copyFrom 32 = .ok (.aload_n 0, 1) := by decide +kernel
theorem dX0_copyFrom_33 : decode cX0_copyFrom 33 = .ok (.aload_n 1, 1) := by decide +kernel
theorem dX0_copyFrom_34 : decode cX0_copyFrom 34 = .ok (.getfield 58, 3) := by decide +kernel
theorem dX0_copyFrom_37 : decode cX0_copyFrom 37 = .ok (.putfield 58, 3) := by decide +kernel
theorem dX0_copyFrom_40 : decode cX0_copyFrom 40 = .ok (.aload_n 0, 1) := by decide +kernel
theorem dX0_copyFrom_41 : decode cX0_copyFrom 41 = .ok (.aload_n 1, 1) := by decide +kernel
theorem dX0_copyFrom_42 : decode cX0_copyFrom 42 = .ok (.getfield 61, 3) := by decide +kernel
theorem dX0_copyFrom_45 : decode cX0_copyFrom 45 = .ok (.putfield 61, 3) := by decide +kernel
theorem dX0_copyFrom_48 : decode cX0_copyFrom 48 = .ok (.aload_n 0, 1) := by decide +kernel
theorem dX0_copyFrom_49 : decode cX0_copyFrom 49 = .ok (.aload_n 1, 1) := by decide +kernel
theorem dX0_copyFrom_50 : decode cX0_copyFrom 50 = .ok (.getfield 64, 3) := by decide +kernel
theorem dX0_copyFrom_53 : decode cX0_copyFrom 53 = .ok (.putfield 64, 3) := by decide +kernel
theorem dX0_copyFrom_56 : decode cX0_copyFrom 56 = .ok (.aload_n 0, 1) := by decide +kernel
theorem dX0_copyFrom_57 : decode cX0_copyFrom 57 = .ok (.aload_n 1, 1) := by decide +kernel
theorem dX0_copyFrom_58 : decode cX0_copyFrom 58 = .ok (.getfield 67, 3) := by decide +kernel
theorem dX0_copyFrom_61 : decode cX0_copyFrom 61 = .ok (.putfield 67, 3) := by decide +kernel
theorem dX0_copyFrom_64 : decode cX0_copyFrom 64 = .ok (.aload_n 1, 1) := by decide +kernel
theorem dX0_copyFrom_65 : decode cX0_copyFrom 65 = .ok (.getfield 9, 3) := by decide +kernel
theorem dX0_copyFrom_68 : decode cX0_copyFrom 68 = .ok (.iconst 0, 1) := by decide +kernel
theorem dX0_copyFrom_69 : decode cX0_copyFrom 69 = .ok (.aload_n 0, 1) := by decide +kernel
theorem dX0_copyFrom_70 : decode cX0_copyFrom 70 = .ok (.getfield 9, 3) := by decide +kernel
theorem dX0_copyFrom_73 : decode cX0_copyFrom 73 = .ok (.iconst 0, 1) := by decide +kernel
theorem dX0_copyFrom_74 : decode cX0_copyFrom 74 = .ok (.aload_n 0, 1) := by decide +kernel
theorem dX0_copyFrom_75 : decode cX0_copyFrom 75 = .ok (.getfield 9, 3) := by decide +kernel
theorem dX0_copyFrom_78 : decode cX0_copyFrom 78 = .ok (.arraylength, 1) := by decide +kernel
theorem dX0_copyFrom_79 : decode cX0_copyFrom 79 = .ok (.invokestatic 70, 3) := by decide +kernel
theorem dX0_copyFrom_82 : decode cX0_copyFrom 82 = .ok (.aload_n 1, 1) := by decide +kernel
theorem dX0_copyFrom_83 : decode cX0_copyFrom 83 = .ok (.getfield 15, 3) := by decide +kernel
theorem dX0_copyFrom_86 : decode cX0_copyFrom 86 = .ok (.iconst 0, 1) := by decide +kernel
theorem dX0_copyFrom_87 : decode cX0_copyFrom 87 = .ok (.aload_n 0, 1) := by decide +kernel
theorem dX0_copyFrom_88 : decode cX0_copyFrom 88 = .ok (.getfield 15, 3) := by decide +kernel
theorem dX0_copyFrom_91 : decode cX0_copyFrom 91 = .ok (.iconst 0, 1) := by decide +kernel
theorem dX0_copyFrom_92 : decode cX0_copyFrom 92 = .ok (.aload_n 0, 1) := by decide +kernel
theorem dX0_copyFrom_93 : decode cX0_copyFrom 93 = .ok (.getfield 15, 3) := by decide +kernel
theorem dX0_copyFrom_96 : decode cX0_copyFrom 96 = .ok (.arraylength, 1) := by decide +kernel
theorem dX0_copyFrom_97 : decode cX0_copyFrom 97 = .ok (.invokestatic 70, 3) := by decide +kernel
theorem dX0_copyFrom_100 : decode cX0_copyFrom 100 = .ok (.aload_n 1, 1) := by decide +kernel
theorem dX0_copyFrom_101 : decode cX0_copyFrom 101 = .ok (.getfield 18, 3) := by decide +kernel
theorem dX0_copyFrom_104 : decode cX0_copyFrom 104 = .ok (.iconst 0, 1) := by decide +kernel
theorem dX0_copyFrom_105 : decode cX0_copyFrom 105 = .ok (.aload_n 0, 1) := by decide +kernel
theorem dX0_copyFrom_106 : decode cX0_copyFrom 106 = .ok (.getfield 18, 3) := by decide +kernel
theorem dX0_copyFrom_109 : decode cX0_copyFrom 109 = .ok (.iconst 0, 1) := by decide +kernel
theorem dX0_copyFrom_110 : decode cX0_copyFrom 110 = .ok (.aload_n 0, 1) := by decide +kernel
theorem dX0_copyFrom_111 : decode cX0_copyFrom 111 = .ok (.getfield 18, 3) := by decide +kernel
theorem dX0_copyFrom_114 : decode cX0_copyFrom 114 = .ok (.arraylength, 1) := by decide +kernel
theorem dX0_copyFrom_115 : decode cX0_copyFrom 115 = .ok (.invokestatic 70, 3) := by decide +kernel
theorem dX0_copyFrom_118 : decode cX0_copyFrom 118 = .ok (.aload_n 1, 1) := by decide +kernel
theorem dX0_copyFrom_119 : decode cX0_copyFrom 119 = .ok (.getfield 21, 3) := by decide +kernel
theorem dX0_copyFrom_122 : decode cX0_copyFrom 122 = .ok (.iconst 0, 1) := by decide +kernel
theorem dX0_copyFrom_123 : decode cX0_copyFrom 123 = .ok (.aload_n 0, 1) := by decide +kernel
theorem dX0_copyFrom_124 : decode cX0_copyFrom 124 = .ok (.getfield 21, 3) := by decide +kernel
theorem dX0_copyFrom_127 : decode cX0_copyFrom 127 = .ok (.iconst 0, 1) := by decide +kernel
theorem dX0_copyFrom_128 : decode cX0_copyFrom 128 = .ok (.aload_n 0, 1) := by decide +kernel
theorem dX0_copyFrom_129 : decode cX0_copyFrom 129 = .ok (.getfield 21, 3) := by decide +kernel
theorem dX0_copyFrom_132 : decode cX0_copyFrom 132 = .ok (.arraylength, 1) := by decide +kernel
theorem dX0_copyFrom_133 : decode cX0_copyFrom 133 = .ok (.invokestatic 70, 3) := by decide +kernel
theorem dX0_copyFrom_136 : decode cX0_copyFrom 136 = .ok (.aload_n 1, 1) := by decide +kernel
theorem dX0_copyFrom_137 : decode cX0_copyFrom 137 = .ok (.getfield 24, 3) := by decide +kernel
theorem dX0_copyFrom_140 : decode cX0_copyFrom 140 = .ok (.iconst 0, 1) := by decide +kernel
theorem dX0_copyFrom_141 : decode cX0_copyFrom 141 = .ok (.aload_n 0, 1) := by decide +kernel
theorem dX0_copyFrom_142 : decode cX0_copyFrom 142 = .ok (.getfield 24, 3) := by decide +kernel
theorem dX0_copyFrom_145 : decode cX0_copyFrom 145 = .ok (.iconst 0, 1) := by decide +kernel
theorem dX0_copyFrom_146 : decode cX0_copyFrom 146 = .ok (.aload_n 0, 1) := by decide +kernel
theorem dX0_copyFrom_147 : decode cX0_copyFrom 147 = .ok (.getfield 24, 3) := by decide +kernel
theorem dX0_copyFrom_150 : decode cX0_copyFrom 150 = .ok (.arraylength, 1) := by decide +kernel
theorem dX0_copyFrom_151 : decode cX0_copyFrom 151 = .ok (.invokestatic 70, 3) := by decide +kernel
theorem dX0_copyFrom_154 : decode cX0_copyFrom 154 = .ok (.aload_n 1, 1) := by decide +kernel
theorem dX0_copyFrom_155 : decode cX0_copyFrom 155 = .ok (.getfield 27, 3) := by decide +kernel
theorem dX0_copyFrom_158 : decode cX0_copyFrom 158 = .ok (.iconst 0, 1) := by decide +kernel
theorem dX0_copyFrom_159 : decode cX0_copyFrom 159 = .ok (.aload_n 0, 1) := by decide +kernel
theorem dX0_copyFrom_160 : decode cX0_copyFrom 160 = .ok (.getfield 27, 3) := by decide +kernel
theorem dX0_copyFrom_163 : decode cX0_copyFrom 163 = .ok (.iconst 0, 1) := by decide +kernel
theorem dX0_copyFrom_164 : decode cX0_copyFrom 164 = .ok (.aload_n 0, 1) := by decide +kernel
theorem dX0_copyFrom_165 : decode cX0_copyFrom 165 = .ok (.getfield 27, 3) := by decide +kernel
theorem dX0_copyFrom_168 : decode cX0_copyFrom 168 = .ok (.arraylength, 1) := by decide +kernel
theorem dX0_copyFrom_169 : decode cX0_copyFrom 169 = .ok (.invokestatic 70, 3) := by decide +kernel
theorem dX0_copyFrom_172 : decode cX0_copyFrom 172 = .ok (.aload_n 1, 1) := by decide +kernel
theorem dX0_copyFrom_173 : decode cX0_copyFrom 173 = .ok (.getfield 30, 3) := by decide +kernel
theorem dX0_copyFrom_176 : decode cX0_copyFrom 176 = .ok (.iconst 0, 1) := by decide +kernel
theorem dX0_copyFrom_177 : decode cX0_copyFrom 177 = .ok (.aload_n 0, 1) := by decide +kernel
theorem dX0_copyFrom_178 : decode cX0_copyFrom 178 = .ok (.getfield 30, 3) := by decide +kernel
theorem dX0_copyFrom_181 : decode cX0_copyFrom 181 = .ok (.iconst 0, 1) := by decide +kernel
theorem dX0_copyFrom_182 : decode cX0_copyFrom 182 = .ok (.aload_n 0, 1) := by decide +kernel
theorem dX0_copyFrom_183 : decode cX0_copyFrom 183 = .ok (.getfield 30, 3) := by decide +kernel
theorem dX0_copyFrom_186 : decode cX0_copyFrom 186 = .ok (.arraylength, 1) := by decide +kernel
theorem dX0_copyFrom_187 : decode cX0_copyFrom 187 = .ok (.invokestatic 70, 3) := by decide +kernel
theorem dX0_copyFrom_190 : decode cX0_copyFrom 190 = .ok (.aload_n 1, 1) := by decide +kernel
theorem dX0_copyFrom_191 : decode cX0_copyFrom 191 = .ok (.getfield 33, 3) := by decide +kernel
theorem dX0_copyFrom_194 : decode cX0_copyFrom 194 = .ok (.iconst 0, 1) := by decide +kernel
theorem dX0_copyFrom_195 : decode cX0_copyFrom 195 = .ok (.aload_n 0, 1) := by decide +kernel
theorem dX0_copyFrom_196 : decode cX0_copyFrom 196 = .ok (.getfield 33, 3) := by decide +kernel
theorem dX0_copyFrom_199 : decode cX0_copyFrom 199 = .ok (.iconst 0, 1) := by decide +kernel
theorem dX0_copyFrom_200 : decode cX0_copyFrom 200 = .ok (.aload_n 0, 1) := by decide +kernel
theorem dX0_copyFrom_201 : decode cX0_copyFrom 201 = .ok (.getfield 33, 3) := by decide +kernel
theorem dX0_copyFrom_204 : decode cX0_copyFrom 204 = .ok (.arraylength, 1) := by decide +kernel
theorem dX0_copyFrom_205 : decode cX0_copyFrom 205 = .ok (.invokestatic 70, 3) := by decide +kernel
theorem dX0_copyFrom_208 : decode cX0_copyFrom 208 = .ok (.aload_n 1, 1) := by decide +kernel
theorem dX0_copyFrom_209 : decode cX0_copyFrom 209 = .ok (.getfield 36, 3) := by decide +kernel
theorem dX0_copyFrom_212 : decode cX0_copyFrom 212 = .ok (.iconst 0, 1) := by decide +kernel
theorem dX0_copyFrom_213 : decode cX0_copyFrom 213 = .ok (.aload_n 0, 1) := by decide +kernel
theorem dX0_copyFrom_214 : decode cX0_copyFrom 214 = .ok (.getfield 36, 3) := by decide +kernel
theorem dX0_copyFrom_217 : decode cX0_copyFrom 217 = .ok (.iconst 0, 1) := by decide +kernel
theorem dX0_copyFrom_218 : decode cX0_copyFrom 218 = .ok (.aload_n 0, 1) := by decide +kernel
theorem dX0_copyFrom_219 : decode cX0_copyFrom 219 = .ok (.getfield 36, 3) := by decide +kernel
theorem dX0_copyFrom_222 : decode cX0_copyFrom 222 = .ok (.arraylength, 1) := by decide +kernel
theorem dX0_copyFrom_223 : decode cX0_copyFrom 223 = .ok (.invokestatic 70, 3) := by decide +kernel
theorem dX0_copyFrom_226 : decode cX0_copyFrom 226 = .ok (.return_, 1) := by decide +kernel
theorem dX0_stands_0 : decode cX0_stands 0 = .ok (.aload_n 0, 1) := by decide +kernel
theorem dX0_stands_1 : decode cX0_stands 1 = .ok (.getfield 49, 3) := by decide +kernel
theorem dX0_stands_4 : decode cX0_stands 4 = .ok (.ifCond .le 7, 3) := by decide +kernel
theorem dX0_stands_11 : decode cX0_stands 11 = .ok (.iconst 0, 1) := by decide +kernel
theorem dX0_stands_12 : decode cX0_stands 12 = .ok (.ireturn, 1) := by decide +kernel
set_option maxRecDepth 20000 in
theorem ggX0_hasStumble_X11_isWithin : GoodIn wsX0_hasStumble wsX11_isWithin := goodIn_r _ [4] (by decide +kernel) (by decide +kernel)
set_option maxRecDepth 20000 in
theorem gX0_hasStumble_X11_isWithin_n76 : GoodIn wsX0_hasStumble (wsX11_isWithin) := ggX0_hasStumble_X11_isWithin
theorem dX0_hasStumble_0 : decode cX0_hasStumble 0 = .ok (.iload_n 1, 1) := by decide +kernel
theorem dX0_hasStumble_1 : decode cX0_hasStumble 1 = .ok (.aload_n 0, 1) := by decide +kernel
theorem dX0_hasStumble_2 : decode cX0_hasStumble 2 = .ok (.getfield 58, 3) := by decide +kernel
theorem dX0_hasStumble_5 : decode cX0_hasStumble 5 = .ok (.invokestatic 76, 3) := by decide +kernel
theorem dX0_hasStumble_8 : decode cX0_hasStumble 8 = .ok (.ireturn, 1) := by decide +kernel
theorem dX0_countMuds_0 : decode cX0_countMuds 0 = .ok (.iconst 0, 1) := by decide +kernel
theorem dX0_countMuds_1 : decode cX0_countMuds 1 = .ok (.istore_n 1, 1) := by decide +kernel
theorem dX0_countMuds_2 : decode cX0_countMuds 2 = .ok (.iconst 0, 1) := by decide +kernel
theorem dX0_countMuds_3 : decode cX0_countMuds 3 = .ok (.istore_n 2, 1) := by decide +kernel
theorem dX0_countMuds_4 : decode cX0_countMuds 4 = .ok (.iload_n 2, 1) := by decide +kernel
theorem dX0_countMuds_5 : decode cX0_countMuds 5 = .ok (.sipush 200, 3) := by decide +kernel
theorem dX0_countMuds_8 : decode cX0_countMuds 8 = .ok (.if_icmp .ge 18, 3) := by decide +kernel
theorem dX0_countMuds_11 : decode cX0_countMuds 11 = .ok (.iload_n 1, 1) := by decide +kernel
theorem dX0_countMuds_12 : decode cX0_countMuds 12 = .ok (.aload_n 0, 1) := by decide +kernel
theorem dX0_countMuds_13 : decode cX0_countMuds 13 = .ok (.getfield 27, 3) := by decide +kernel
theorem dX0_countMuds_16 : decode cX0_countMuds 16 = .ok (.iload_n 2, 1) := by decide +kernel
theorem dX0_countMuds_17 : decode cX0_countMuds 17 = .ok (.iaload, 1) := by decide +kernel
theorem dX0_countMuds_18 : decode cX0_countMuds 18 = .ok (.iadd, 1) := by decide +kernel
theorem dX0_countMuds_19 : decode cX0_countMuds 19 = .ok (.istore_n 1, 1) := by decide +kernel
theorem dX0_countMuds_20 : decode cX0_countMuds 20 = .ok (.iinc 2 1, 3) := by decide +kernel
theorem dX0_countMuds_23 : decode cX0_countMuds 23 = .ok (.goto (-19), 3) := by decide +kernel
theorem dX0_countMuds_26 : decode cX0_countMuds 26 = .ok (.iload_n 1, 1) := by decide +kernel
theorem dX0_countMuds_27 : decode cX0_countMuds 27 = .ok (.ireturn, 1) := by decide +kernel
theorem dX1_init_0 : decode cX1_init 0 = .ok (.aload_n 0, 1) := by decide +kernel
theorem dX1_init_1 : decode cX1_init 1 = .ok (.invokespecial 3, 3) := by decide +kernel
theorem dX1_init_4 : decode cX1_init 4 = .ok (.aload_n 0, 1) := by decide +kernel
theorem dX1_init_5 : decode cX1_init 5 = .ok (.sipush 400, 3) := by decide +kernel
theorem dX1_init_8 : decode cX1_init 8 = .ok (.newarray .int, 2) := by decide +kernel
theorem dX1_init_10 : decode cX1_init 10 = .ok (.putfield 9, 3) := by decide +kernel
theorem dX1_init_13 : decode cX1_init 13 = .ok (.aload_n 0, 1) := by decide +kernel
theorem dX1_init_14 : decode cX1_init 14 = .ok (.sipush 400, 3) := by decide +kernel
theorem dX1_init_17 : decode cX1_init 17 = .ok (.newarray .int, 2) := by decide +kernel
theorem dX1_init_19 : decode cX1_init 19 = .ok (.putfield 15, 3) := by decide +kernel
theorem dX1_init_22 : decode cX1_init 22 = .ok (.aload_n 0, 1) := by decide +kernel
theorem dX1_init_23 : decode cX1_init 23 = .ok (.sipush 200, 3) := by decide +kernel
theorem dX1_init_26 : decode cX1_init 26 = .ok (.newarray .int, 2) := by decide +kernel
theorem dX1_init_28 : decode cX1_init 28 = .ok (.putfield 18, 3) := by decide +kernel
theorem dX1_init_31 : decode cX1_init 31 = .ok (.return_, 1) := by decide +kernel
theorem dX2_init_0 : decode cX2_init 0 = .ok (.aload_n 0, 1) := by decide +kernel
theorem dX2_init_1 : decode cX2_init 1 = .ok (.invokespecial 3, 3) := by decide +kernel
theorem dX2_init_4 : decode cX2_init 4 = .ok (.aload_n 0, 1) := by decide +kernel
theorem dX2_init_5 : decode cX2_init 5 = .ok (.sipush 729, 3) := by decide +kernel
theorem dX2_init_8 : decode cX2_init 8 = .ok (.newarray .int, 2) := by decide +kernel
theorem dX2_init_10 : decode cX2_init 10 = .ok (.putfield 11, 3) := by decide +kernel
theorem dX2_init_13 : decode cX2_init 13 = .ok (.return_, 1) := by decide +kernel
theorem dX3_init_0 : decode cX3_init 0 = .ok (.aload_n 0, 1) := by decide +kernel
theorem dX3_init_1 : decode cX3_init 1 = .ok (.invokespecial 3, 3) := by decide +kernel
theorem dX3_init_4 : decode cX3_init 4 = .ok (.aload_n 0, 1) := by decide +kernel
theorem dX3_init_5 : decode cX3_init 5 = .ok (.bipush 12, 2) := by decide +kernel
theorem dX3_init_7 : decode cX3_init 7 = .ok (.newarray .int, 2) := by decide +kernel
theorem dX3_init_9 : decode cX3_init 9 = .ok (.putfield 9, 3) := by decide +kernel
theorem dX3_init_12 : decode cX3_init 12 = .ok (.aload_n 0, 1) := by decide +kernel
theorem dX3_init_13 : decode cX3_init 13 = .ok (.bipush 10, 2) := by decide +kernel
theorem dX3_init_15 : decode cX3_init 15 = .ok (.newarray .int, 2) := by decide +kernel
theorem dX3_init_17 : decode cX3_init 17 = .ok (.putfield 15, 3) := by decide +kernel
theorem dX3_init_20 : decode cX3_init 20 = .ok (.aload_n 0, 1) := by decide +kernel
theorem dX3_init_21 : decode cX3_init 21 = .ok (.sipush 200, 3) := by decide +kernel
theorem dX3_init_24 : decode cX3_init 24 = .ok (.newarray .int, 2) := by decide +kernel
theorem dX3_init_26 : decode cX3_init 26 = .ok (.putfield 18, 3) := by decide +kernel
theorem dX3_init_29 : decode cX3_init 29 = .ok (.aload_n 0, 1) := by decide +kernel
theorem dX3_init_30 : decode cX3_init 30 = .ok (.bipush 60, 2) := by decide +kernel
theorem dX3_init_32 : decode cX3_init 32 = .ok (.newarray .int, 2) := by decide +kernel
theorem dX3_init_34 : decode cX3_init 34 = .ok (.putfield 21, 3) := by decide +kernel
theorem dX3_init_37 : decode cX3_init 37 = .ok (.aload_n 0, 1) := by decide +kernel
theorem dX3_init_38 : decode cX3_init 38 = .ok (.bipush 10, 2) := by decide +kernel
theorem dX3_init_40 : decode cX3_init 40 = .ok (.newarray .int, 2) := by decide +kernel
theorem dX3_init_42 : decode cX3_init 42 = .ok (.putfield 24, 3) := by decide +kernel
theorem dX3_init_45 : decode cX3_init 45 = .ok (.aload_n 0, 1) := by decide +kernel
theorem dX3_init_46 : decode cX3_init 46 = .ok (.bipush 6, 2) := by decide +kernel
theorem dX3_init_48 : decode cX3_init 48 = .ok (.newarray .int, 2) := by decide +kernel
theorem dX3_init_50 : decode cX3_init 50 = .ok (.putfield 27, 3) := by decide +kernel
theorem dX3_init_53 : decode cX3_init 53 = .ok (.return_, 1) := by decide +kernel
theorem dX4_init_0 : decode cX4_init 0 = .ok (.aload_n 0, 1) := by decide +kernel
theorem dX4_init_1 : decode cX4_init 1 = .ok (.invokespecial 3, 3) := by decide +kernel
theorem dX4_init_4 : decode cX4_init 4 = .ok (.aload_n 0, 1) := by decide +kernel
theorem dX4_init_5 : decode cX4_init 5 = .ok (.sipush 200, 3) := by decide +kernel
theorem dX4_init_8 : decode cX4_init 8 = .ok (.newarray .int, 2) := by decide +kernel
theorem dX4_init_10 : decode cX4_init 10 = .ok (.putfield 9, 3) := by decide +kernel
theorem dX4_init_13 : decode cX4_init 13 = .ok (.aload_n 0, 1) := by decide +kernel
theorem dX4_init_14 : decode cX4_init 14 = .ok (.iconst 2, 1) := by decide +kernel
theorem dX4_init_15 : decode cX4_init 15 = .ok (.newarray .int, 2) := by decide +kernel
theorem dX4_init_17 : decode cX4_init 17 = .ok (.putfield 15, 3) := by decide +kernel
theorem dX4_init_20 : decode cX4_init 20 = .ok (.return_, 1) := by decide +kernel
set_option maxRecDepth 20000 in
theorem ggX5_init_X8_init : GoodIn wsX5_init wsX8_init := goodIn_r _ [10, 11, 2, 3, 12, 13, 14, 15, 16, 17, 18, 19] (by decide +kernel) (by decide +kernel)
set_option maxRecDepth 20000 in
theorem gX5_init_X8_init_n11 : GoodIn wsX5_init (wsX8_init) := ggX5_init_X8_init
theorem dX5_init_0 : decode cX5_init 0 = .ok (.aload_n 0, 1) := by decide +kernel
theorem dX5_init_1 : decode cX5_init 1 = .ok (.invokespecial 3, 3) := by decide +kernel
theorem dX5_init_4 : decode cX5_init 4 = .ok (.aload_n 0, 1) := by decide +kernel
theorem dX5_init_5 : decode cX5_init 5 = .ok (.new 9, 3) := by decide +kernel
theorem dX5_init_8 : decode cX5_init 8 = .ok (.dup, 1) := by decide +kernel
theorem dX5_init_9 : decode cX5_init 9 = .ok (.invokespecial 11, 3) := by decide +kernel
theorem dX5_init_12 : decode cX5_init 12 = .ok (.putfield 12, 3) := by decide +kernel
theorem dX5_init_15 : decode cX5_init 15 = .ok (.aload_n 0, 1) := by decide +kernel
theorem dX5_init_16 : decode cX5_init 16 = .ok (.iconst (-1), 1) := by decide +kernel
theorem dX5_init_17 : decode cX5_init 17 = .ok (.putfield 18, 3) := by decide +kernel
theorem dX5_init_20 : decode cX5_init 20 = .ok (.return_, 1) := by decide +kernel
set_option maxRecDepth 20000 in
theorem ggX5_read_X0_clear : GoodIn wsX5_read wsX0_clear := goodIn_r _ [10, 11, 12, 13, 14, 15, 16, 17, 18, 19, 20, 21, 22, 23, 24, 25, 26, 203, 204, 205, 206, 207, 208, 209, 210, 211, 212, 213, 214, 215, 216, 217, 218, 219] (by decide +kernel) (by decide +kernel)
set_option maxRecDepth 20000 in
theorem gX5_read_X0_clear : GoodIn wsX5_read (wsV RX5 22 RX0 yX0_clear wsX0_clear) := goodIn_app (goodIn_of _ (by decide +kernel)) ggX5_read_X0_clear
set_option maxRecDepth 20000 in
theorem ggX5_read_X8_rewind : GoodIn wsX5_read wsX8_rewind := goodIn_r _ [31, 32, 33, 34, 35, 30, 36, 37, 38, 39, 40, 41, 42, 43, 44, 45, 46, 47, 48, 197, 198, 199, 200, 201, 202] (by decide +kernel) (by decide +kernel)
set_option maxRecDepth 20000 in
theorem gX5_read_X8_rewind : GoodIn wsX5_read (wsV RX5 30 RX8 yX8_rewind wsX8_rewind) := goodIn_app (goodIn_of _ (by decide +kernel)) ggX5_read_X8_rewind
theorem dX5_read_0 : decode cX5_read 0 = .ok (.aload_n 1, 1) := by decide +kernel
theorem dX5_read_1 : decode cX5_read 1 = .ok (.invokevirtual 22, 3) := by decide +kernel
theorem dX5_read_4 : decode cX5_read 4 = .ok (.aload_n 0, 1) := by decide +kernel
theorem dX5_read_5 : decode cX5_read 5 = .ok (.iconst 0, 1) := by decide +kernel
theorem dX5_read_6 : decode cX5_read 6 = .ok (.putfield 27, 3) := by decide +kernel
theorem dX5_read_9 : decode cX5_read 9 = .ok (.aload_n 0, 1) := by decide +kernel
theorem dX5_read_10 : decode cX5_read 10 = .ok (.iconst (-1), 1) := by decide +kernel
theorem dX5_read_11 : decode cX5_read 11 = .ok (.putfield 18, 3) := by decide +kernel
theorem dX5_read_14 : decode cX5_read 14 = .ok (.aload_n 0, 1) := by decide +kernel
theorem dX5_read_15 : decode cX5_read 15 = .ok (.getfield 12, 3) := by decide +kernel
theorem dX5_read_18 : decode cX5_read 18 = .ok (.invokevirtual 30, 3) := by decide +kernel
theorem dX5_read_21 : decode cX5_read 21 = .ok (.iconst 0, 1) := by decide +kernel
theorem dX5_read_22 : decode cX5_read 22 = .ok (.istore_n 2, 1) := by decide +kernel
theorem dX5_read_23 : decode cX5_read 23 = .ok (.iload_n 2, 1) := by decide +kernel
theorem dX5_read_24 : decode cX5_read 24 = .ok (.sipush 1200, 3) := by decide +kernel
theorem dX5_read_27 : decode cX5_read 27 = .ok (.if_icmp .ge 45, 3) := by decide +kernel
theorem dX5_read_30 : decode cX5_read 30 = .ok (.aload_n 0, 1) := by decide +kernel
theorem dX5_read_31 : decode cX5_read 31 = .ok (.getfield 27, 3) := by decide +kernel
theorem dX5_read_34 : decode cX5_read 34 = .ok (.ifCond .ne 38, 3) := by decide +kernel
theorem dX5_read_37 : decode cX5_read 37 = .ok (.aload_n 0, 1) := by decide +kernel
theorem dX5_read_38 : decode cX5_read 38 = .ok (.getfield 12, 3) := by decide +kernel
theorem dX5_read_41 : decode cX5_read 41 = .ok (.getfield 33, 3) := by decide +kernel
theorem dX5_read_44 : decode cX5_read 44 = .ok (.ifCond .eq 28, 3) := by decide +kernel
theorem dX5_read_72 : decode cX5_read 72 = .ok (.aload_n 0, 1) := by decide +kernel
theorem dX5_read_73 : decode cX5_read 73 = .ok (.getfield 27, 3) := by decide +kernel
theorem dX5_read_76 : decode cX5_read 76 = .ok (.ifCond .ne 7, 3) := by decide +kernel
theorem dX5_read_79 : decode cX5_read 79 = .ok (.iconst 1, 1) := by decide +kernel
theorem dX5_read_80 : decode cX5_read 80 = .ok (.goto 4, 3) := by decide +kernel
theorem dX5_read_84 : decode cX5_read 84 = .ok (.ireturn, 1) := by decide +kernel
theorem dX6_init_0 : decode cX6_init 0 = .ok (.aload_n 0, 1) := by decide +kernel
theorem dX6_init_1 : decode cX6_init 1 = .ok (.invokespecial 3, 3) := by decide +kernel
theorem dX6_init_4 : decode cX6_init 4 = .ok (.aload_n 0, 1) := by decide +kernel
theorem dX6_init_5 : decode cX6_init 5 = .ok (.bipush 12, 2) := by decide +kernel
theorem dX6_init_7 : decode cX6_init 7 = .ok (.newarray .int, 2) := by decide +kernel
theorem dX6_init_9 : decode cX6_init 9 = .ok (.putfield 9, 3) := by decide +kernel
theorem dX6_init_12 : decode cX6_init 12 = .ok (.return_, 1) := by decide +kernel
theorem dX7_init_0 : decode cX7_init 0 = .ok (.aload_n 0, 1) := by decide +kernel
theorem dX7_init_1 : decode cX7_init 1 = .ok (.invokespecial 3, 3) := by decide +kernel
theorem dX7_init_4 : decode cX7_init 4 = .ok (.aload_n 0, 1) := by decide +kernel
theorem dX7_init_5 : decode cX7_init 5 = .ok (.iconst 4, 1) := by decide +kernel
theorem dX7_init_6 : decode cX7_init 6 = .ok (.newarray .int, 2) := by decide +kernel
theorem dX7_init_8 : decode cX7_init 8 = .ok (.putfield 11, 3) := by decide +kernel
theorem dX7_init_11 : decode cX7_init 11 = .ok (.aload_n 0, 1) := by decide +kernel
theorem dX7_init_12 : decode cX7_init 12 = .ok (.iconst 4, 1) := by decide +kernel
theorem dX7_init_13 : decode cX7_init 13 = .ok (.newarray .int, 2) := by decide +kernel
theorem dX7_init_15 : decode cX7_init 15 = .ok (.dup, 1) := by decide +kernel
theorem dX7_init_16 : decode cX7_init 16 = .ok (.iconst 0, 1) := by decide +kernel
theorem dX7_init_17 : decode cX7_init 17 = .ok (.iconst (-1), 1) := by decide +kernel
theorem dX7_init_18 : decode cX7_init 18 = .ok (.iastore, 1) := by decide +kernel
theorem dX7_init_19 : decode cX7_init 19 = .ok (.dup, 1) := by decide +kernel
theorem dX7_init_20 : decode cX7_init 20 = .ok (.iconst 1, 1) := by decide +kernel
theorem dX7_init_21 : decode cX7_init 21 = .ok (.iconst (-1), 1) := by decide +kernel
theorem dX7_init_22 : decode cX7_init 22 = .ok (.iastore, 1) := by decide +kernel
theorem dX7_init_23 : decode cX7_init 23 = .ok (.dup, 1) := by decide +kernel
theorem dX7_init_24 : decode cX7_init 24 = .ok (.iconst 2, 1) := by decide +kernel
theorem dX7_init_25 : decode cX7_init 25 = .ok (.iconst (-1), 1) := by decide +kernel
theorem dX7_init_26 : decode cX7_init 26 = .ok (.iastore, 1) := by decide +kernel
theorem dX7_init_27 : decode cX7_init 27 = .ok (.dup, 1) := by decide +kernel
theorem dX7_init_28 : decode cX7_init 28 = .ok (.iconst 3, 1) := by decide +kernel
theorem dX7_init_29 : decode cX7_init 29 = .ok (.iconst (-1), 1) := by decide +kernel
theorem dX7_init_30 : decode cX7_init 30 = .ok (.iastore, 1) := by decide +kernel
theorem dX7_init_31 : decode cX7_init 31 = .ok (.putfield 15, 3) := by decide +kernel
theorem dX7_init_34 : decode cX7_init 34 = .ok (.aload_n 0, 1) := by decide +kernel
theorem dX7_init_35 : decode cX7_init 35 = .ok (.sipush 240, 3) := by decide +kernel
theorem dX7_init_38 : decode cX7_init 38 = .ok (.newarray .long, 2) := by decide +kernel
theorem dX7_init_40 : decode cX7_init 40 = .ok (.putfield 18, 3) := by decide +kernel
theorem dX7_init_43 : decode cX7_init 43 = .ok (.return_, 1) := by decide +kernel
set_option maxRecDepth 20000 in
theorem ggX7_isSlot_X11_isWithin : GoodIn wsX7_isSlot wsX11_isWithin := goodIn_r _ [3] (by decide +kernel) (by decide +kernel)
set_option maxRecDepth 20000 in
theorem gX7_isSlot_X11_isWithin_n22 : GoodIn wsX7_isSlot (wsX11_isWithin) := ggX7_isSlot_X11_isWithin
theorem dX7_isSlot_0 : decode cX7_isSlot 0 = .ok (.iload_n 0, 1) := by decide +kernel
theorem dX7_isSlot_1 : decode cX7_isSlot 1 = .ok (.iconst 4, 1) := by decide +kernel
theorem dX7_isSlot_2 : decode cX7_isSlot 2 = .ok (.invokestatic 22, 3) := by decide +kernel
theorem dX7_isSlot_5 : decode cX7_isSlot 5 = .ok (.ireturn, 1) := by decide +kernel
theorem dX7_has_0 : decode cX7_has 0 = .ok (.aload_n 0, 1) := by decide +kernel
theorem dX7_has_1 : decode cX7_has 1 = .ok (.getfield 15, 3) := by decide +kernel
theorem dX7_has_4 : decode cX7_has 4 = .ok (.iload_n 1, 1) := by decide +kernel
theorem dX7_has_5 : decode cX7_has 5 = .ok (.iaload, 1) := by decide +kernel
theorem dX7_has_6 : decode cX7_has 6 = .ok (.iconst (-1), 1) := by decide +kernel
theorem dX7_has_7 : decode cX7_has 7 = .ok (.if_icmp .eq 7, 3) := by decide +kernel
theorem dX7_has_14 : decode cX7_has 14 = .ok (.iconst 0, 1) := by decide +kernel
theorem dX7_has_15 : decode cX7_has 15 = .ok (.ireturn, 1) := by decide +kernel
set_option maxRecDepth 20000 in
theorem ggX7_countRows_X7_has : GoodIn wsX7_countRows wsX7_has := goodIn_r _ [5, 6, 7, 8, 9] (by decide +kernel) (by decide +kernel)
set_option maxRecDepth 20000 in
theorem gX7_countRows_X7_has : GoodIn wsX7_countRows (wsV RX7 26 RX7 yX7_has wsX7_has) := goodIn_app (goodIn_of _ (by decide +kernel)) ggX7_countRows_X7_has
theorem dX7_countRows_0 : decode cX7_countRows 0 = .ok (.iconst 0, 1) := by decide +kernel
theorem dX7_countRows_1 : decode cX7_countRows 1 = .ok (.istore_n 1, 1) := by decide +kernel
theorem dX7_countRows_2 : decode cX7_countRows 2 = .ok (.iconst 0, 1) := by decide +kernel
theorem dX7_countRows_3 : decode cX7_countRows 3 = .ok (.istore_n 2, 1) := by decide +kernel
theorem dX7_countRows_4 : decode cX7_countRows 4 = .ok (.iload_n 2, 1) := by decide +kernel
theorem dX7_countRows_5 : decode cX7_countRows 5 = .ok (.iconst 4, 1) := by decide +kernel
theorem dX7_countRows_6 : decode cX7_countRows 6 = .ok (.if_icmp .ge 25, 3) := by decide +kernel
theorem dX7_countRows_9 : decode cX7_countRows 9 = .ok (.iload_n 1, 1) := by decide +kernel
theorem dX7_countRows_10 : decode cX7_countRows 10 = .ok (.aload_n 0, 1) := by decide +kernel
theorem dX7_countRows_11 : decode cX7_countRows 11 = .ok (.iload_n 2, 1) := by decide +kernel
theorem dX7_countRows_12 : decode cX7_countRows 12 = .ok (.invokevirtual 26, 3) := by decide +kernel
theorem dX7_countRows_15 : decode cX7_countRows 15 = .ok (.ifCond .eq 7, 3) := by decide +kernel
theorem dX7_countRows_22 : decode cX7_countRows 22 = .ok (.iconst 0, 1) := by decide +kernel
theorem dX7_countRows_23 : decode cX7_countRows 23 = .ok (.iadd, 1) := by decide +kernel
theorem dX7_countRows_24 : decode cX7_countRows 24 = .ok (.istore_n 1, 1) := by decide +kernel
theorem dX7_countRows_25 : decode cX7_countRows 25 = .ok (.iinc 2 1, 3) := by decide +kernel
theorem dX7_countRows_28 : decode cX7_countRows 28 = .ok (.goto (-24), 3) := by decide +kernel
theorem dX7_countRows_31 : decode cX7_countRows 31 = .ok (.iload_n 1, 1) := by decide +kernel
theorem dX7_countRows_32 : decode cX7_countRows 32 = .ok (.ireturn, 1) := by decide +kernel
theorem dX7_make_0 : decode cX7_make 0 = .ok (.aload_n 0, 1) := by decide +kernel
theorem dX7_make_1 : decode cX7_make 1 = .ok (.getfield 11, 3) := by decide +kernel
theorem dX7_make_4 : decode cX7_make 4 = .ok (.iload_n 1, 1) := by decide +kernel
theorem dX7_make_5 : decode cX7_make 5 = .ok (.iload_n 2, 1) := by decide +kernel
theorem dX7_make_6 : decode cX7_make 6 = .ok (.iastore, 1) := by decide +kernel
theorem dX7_make_7 : decode cX7_make 7 = .ok (.aload_n 0, 1) := by decide +kernel
theorem dX7_make_8 : decode cX7_make 8 = .ok (.getfield 15, 3) := by decide +kernel
theorem dX7_make_11 : decode cX7_make 11 = .ok (.iload_n 1, 1) := by decide +kernel
theorem dX7_make_12 : decode cX7_make 12 = .ok (.iload_n 3, 1) := by decide +kernel
theorem dX7_make_13 : decode cX7_make 13 = .ok (.iastore, 1) := by decide +kernel
theorem dX7_make_14 : decode cX7_make 14 = .ok (.iconst 0, 1) := by decide +kernel
theorem dX7_make_15 : decode cX7_make 15 = .ok (.istore 4, 2) := by decide +kernel
theorem dX7_make_17 : decode cX7_make 17 = .ok (.iload 4, 2) := by decide +kernel
theorem dX7_make_19 : decode cX7_make 19 = .ok (.bipush 60, 2) := by decide +kernel
theorem dX7_make_21 : decode cX7_make 21 = .ok (.if_icmp .ge 22, 3) := by decide +kernel
theorem dX7_make_24 : decode cX7_make 24 = .ok (.aload_n 0, 1) := by decide +kernel
theorem dX7_make_25 : decode cX7_make 25 = .ok (.getfield 18, 3) := by decide +kernel
theorem dX7_make_28 : decode cX7_make 28 = .ok (.iload_n 1, 1) := by decide +kernel
theorem dX7_make_29 : decode cX7_make 29 = .ok (.bipush 60, 2) := by decide +kernel
theorem dX7_make_31 : decode cX7_make 31 = .ok (.imul, 1) := by decide +kernel
theorem dX7_make_32 : decode cX7_make 32 = .ok (.iload 4, 2) := by decide +kernel
theorem dX7_make_34 : decode cX7_make 34 = .ok (.iadd, 1) := by decide +kernel
theorem dX7_make_35 : decode cX7_make 35 = .ok (.lconst 0, 1) := by decide +kernel
theorem dX7_make_36 : decode cX7_make 36 = .ok (.lastore, 1) := by decide +kernel
theorem dX7_make_37 : decode cX7_make 37 = .ok (.iinc 4 1, 3) := by decide +kernel
theorem dX7_make_40 : decode cX7_make 40 = .ok (.goto (-23), 3) := by decide +kernel
theorem dX7_make_43 : decode cX7_make 43 = .ok (.return_, 1) := by decide +kernel
set_option maxRecDepth 20000 in
theorem ggX7_refusalOfSteps_X7_isSlot : GoodIn wsX7_refusalOfSteps wsX7_isSlot := goodIn_r _ [5, 6, 7, 8] (by decide +kernel) (by decide +kernel)
set_option maxRecDepth 20000 in
theorem gX7_refusalOfSteps_X7_isSlot : GoodIn wsX7_refusalOfSteps (va_wsS RX7 40 yX7_isSlot wsX7_isSlot) := goodIn_app (goodIn_of _ (by decide +kernel)) ggX7_refusalOfSteps_X7_isSlot
set_option maxRecDepth 20000 in
theorem ggX7_refusalOfSteps_X7_has : GoodIn wsX7_refusalOfSteps wsX7_has := goodIn_r _ [12, 1, 26, 27, 28] (by decide +kernel) (by decide +kernel)
set_option maxRecDepth 20000 in
theorem gX7_refusalOfSteps_X7_has : GoodIn wsX7_refusalOfSteps (wsV RX7 26 RX7 yX7_has wsX7_has) := goodIn_app (goodIn_of _ (by decide +kernel)) ggX7_refusalOfSteps_X7_has
theorem dX7_refusalOfSteps_0 : decode cX7_refusalOfSteps 0 = .ok (.iload_n 1, 1) := by decide +kernel
theorem dX7_refusalOfSteps_1 : decode cX7_refusalOfSteps 1 = .ok (.invokestatic 40, 3) := by decide +kernel
theorem dX7_refusalOfSteps_4 : decode cX7_refusalOfSteps 4 = .ok (.ifCond .ne 6, 3) := by decide +kernel
theorem dX7_refusalOfSteps_7 : decode cX7_refusalOfSteps 7 = .ok (.bipush (-2), 2) := by decide +kernel
theorem dX7_refusalOfSteps_9 : decode cX7_refusalOfSteps 9 = .ok (.ireturn, 1) := by decide +kernel
theorem dX7_refusalOfSteps_10 : decode cX7_refusalOfSteps 10 = .ok (.aload_n 0, 1) := by decide +kernel
theorem dX7_refusalOfSteps_11 : decode cX7_refusalOfSteps 11 = .ok (.iload_n 1, 1) := by decide +kernel
theorem dX7_refusalOfSteps_12 : decode cX7_refusalOfSteps 12 = .ok (.invokevirtual 26, 3) := by decide +kernel
theorem dX7_refusalOfSteps_15 : decode cX7_refusalOfSteps 15 = .ok (.ifCond .ne 6, 3) := by decide +kernel
theorem dX7_refusalOfSteps_18 : decode cX7_refusalOfSteps 18 = .ok (.bipush (-6), 2) := by decide +kernel
theorem dX7_refusalOfSteps_20 : decode cX7_refusalOfSteps 20 = .ok (.ireturn, 1) := by decide +kernel
theorem dX8_init_0 : decode cX8_init 0 = .ok (.aload_n 0, 1) := by decide +kernel
theorem dX8_init_1 : decode cX8_init 1 = .ok (.invokespecial 3, 3) := by decide +kernel
theorem dX8_init_4 : decode cX8_init 4 = .ok (.aload_n 0, 1) := by decide +kernel
theorem dX8_init_5 : decode cX8_init 5 = .ok (.sipush 1200, 3) := by decide +kernel
theorem dX8_init_8 : decode cX8_init 8 = .ok (.newarray .byte, 2) := by decide +kernel
theorem dX8_init_10 : decode cX8_init 10 = .ok (.putfield 9, 3) := by decide +kernel
theorem dX8_init_13 : decode cX8_init 13 = .ok (.return_, 1) := by decide +kernel
theorem dX8_push_0 : decode cX8_push 0 = .ok (.bipush 24, 2) := by decide +kernel
theorem dX8_push_2 : decode cX8_push 2 = .ok (.istore_n 2, 1) := by decide +kernel
theorem dX8_push_3 : decode cX8_push 3 = .ok (.iload_n 2, 1) := by decide +kernel
theorem dX8_push_4 : decode cX8_push 4 = .ok (.ifCond .lt 42, 3) := by decide +kernel
theorem dX8_push_7 : decode cX8_push 7 = .ok (.aload_n 0, 1) := by decide +kernel
theorem dX8_push_8 : decode cX8_push 8 = .ok (.getfield 15, 3) := by decide +kernel
theorem dX8_push_11 : decode cX8_push 11 = .ok (.sipush 1200, 3) := by decide +kernel
theorem dX8_push_14 : decode cX8_push 14 = .ok (.if_icmp .ge 32, 3) := by decide +kernel
theorem dX8_push_17 : decode cX8_push 17 = .ok (.aload_n 0, 1) := by decide +kernel
theorem dX8_push_18 : decode cX8_push 18 = .ok (.getfield 9, 3) := by decide +kernel
theorem dX8_push_21 : decode cX8_push 21 = .ok (.aload_n 0, 1) := by decide +kernel
theorem dX8_push_22 : decode cX8_push 22 = .ok (.getfield 15, 3) := by decide +kernel
theorem dX8_push_25 : decode cX8_push 25 = .ok (.iload_n 1, 1) := by decide +kernel
theorem dX8_push_26 : decode cX8_push 26 = .ok (.iload_n 2, 1) := by decide +kernel
theorem dX8_push_27 : decode cX8_push 27 = .ok (.ishr, 1) := by decide +kernel
theorem dX8_push_28 : decode cX8_push 28 = .ok (.i2b, 1) := by decide +kernel
theorem dX8_push_29 : decode cX8_push 29 = .ok (.bastore, 1) := by decide +kernel
theorem dX8_push_30 : decode cX8_push 30 = .ok (.aload_n 0, 1) := by decide +kernel
theorem dX8_push_31 : decode cX8_push 31 = .ok (.dup, 1) := by decide +kernel
theorem dX8_push_32 : decode cX8_push 32 = .ok (.getfield 15, 3) := by decide +kernel
theorem dX8_push_35 : decode cX8_push 35 = .ok (.iconst 1, 1) := by decide +kernel
theorem dX8_push_36 : decode cX8_push 36 = .ok (.iadd, 1) := by decide +kernel
theorem dX8_push_37 : decode cX8_push 37 = .ok (.putfield 15, 3) := by decide +kernel
theorem dX8_push_40 : decode cX8_push 40 = .ok (.iinc 2 (-8), 3) := by decide +kernel
theorem dX8_push_43 : decode cX8_push 43 = .ok (.goto (-40), 3) := by decide +kernel
theorem dX8_push_46 : decode cX8_push 46 = .ok (.return_, 1) := by decide +kernel
set_option maxRecDepth 20000 in
theorem ggX8_rewind_X8_advance : GoodIn wsX8_rewind wsX8_advance := goodIn_r _ [6, 1, 7, 8, 9, 10, 11, 12, 13, 14, 15, 16, 17, 5, 18, 19, 20, 21, 22, 23, 24] (by decide +kernel) (by decide +kernel)
set_option maxRecDepth 20000 in
theorem gX8_rewind_X8_advance : GoodIn wsX8_rewind (wsV RX8 22 RX8 yX8_advance wsX8_advance) := goodIn_app (goodIn_of _ (by decide +kernel)) ggX8_rewind_X8_advance
theorem dX8_rewind_0 : decode cX8_rewind 0 = .ok (.aload_n 0, 1) := by decide +kernel
theorem dX8_rewind_1 : decode cX8_rewind 1 = .ok (.iconst 0, 1) := by decide +kernel
theorem dX8_rewind_2 : decode cX8_rewind 2 = .ok (.putfield 19, 3) := by decide +kernel
theorem dX8_rewind_5 : decode cX8_rewind 5 = .ok (.aload_n 0, 1) := by decide +kernel
theorem dX8_rewind_6 : decode cX8_rewind 6 = .ok (.invokevirtual 22, 3) := by decide +kernel
theorem dX8_rewind_9 : decode cX8_rewind 9 = .ok (.return_, 1) := by decide +kernel
theorem dX8_advance_0 : decode cX8_advance 0 = .ok (.aload_n 0, 1) := by decide +kernel
theorem dX8_advance_1 : decode cX8_advance 1 = .ok (.aload_n 0, 1) := by decide +kernel
theorem dX8_advance_2 : decode cX8_advance 2 = .ok (.getfield 19, 3) := by decide +kernel
theorem dX8_advance_5 : decode cX8_advance 5 = .ok (.putfield 25, 3) := by decide +kernel
theorem dX8_advance_8 : decode cX8_advance 8 = .ok (.aload_n 0, 1) := by decide +kernel
theorem dX8_advance_9 : decode cX8_advance 9 = .ok (.getfield 25, 3) := by decide +kernel
theorem dX8_advance_12 : decode cX8_advance 12 = .ok (.aload_n 0, 1) := by decide +kernel
theorem dX8_advance_13 : decode cX8_advance 13 = .ok (.getfield 15, 3) := by decide +kernel
theorem dX8_advance_16 : decode cX8_advance 16 = .ok (.if_icmp .ge 32, 3) := by decide +kernel
theorem dX8_advance_48 : decode cX8_advance 48 = .ok (.aload_n 0, 1) := by decide +kernel
theorem dX8_advance_49 : decode cX8_advance 49 = .ok (.aload_n 0, 1) := by decide +kernel
theorem dX8_advance_50 : decode cX8_advance 50 = .ok (.getfield 25, 3) := by decide +kernel
theorem dX8_advance_53 : decode cX8_advance 53 = .ok (.putfield 19, 3) := by decide +kernel
theorem dX8_advance_56 : decode cX8_advance 56 = .ok (.aload_n 0, 1) := by decide +kernel
theorem dX8_advance_57 : decode cX8_advance 57 = .ok (.iconst 0, 1) := by decide +kernel
theorem dX8_advance_58 : decode cX8_advance 58 = .ok (.putfield 32, 3) := by decide +kernel
theorem dX8_advance_61 : decode cX8_advance 61 = .ok (.aload_n 0, 1) := by decide +kernel
theorem dX8_advance_62 : decode cX8_advance 62 = .ok (.aload_n 0, 1) := by decide +kernel
theorem dX8_advance_63 : decode cX8_advance 63 = .ok (.getfield 25, 3) := by decide +kernel
theorem dX8_advance_66 : decode cX8_advance 66 = .ok (.aload_n 0, 1) := by decide +kernel
theorem dX8_advance_67 : decode cX8_advance 67 = .ok (.getfield 15, 3) := by decide +kernel
theorem dX8_advance_70 : decode cX8_advance 70 = .ok (.if_icmp .ge 18, 3) := by decide +kernel
theorem dX8_advance_88 : decode cX8_advance 88 = .ok (.iconst 0, 1) := by decide +kernel
theorem dX8_advance_89 : decode cX8_advance 89 = .ok (.putfield 35, 3) := by decide +kernel
theorem dX8_advance_92 : decode cX8_advance 92 = .ok (.aload_n 0, 1) := by decide +kernel
theorem dX8_advance_93 : decode cX8_advance 93 = .ok (.getfield 35, 3) := by decide +kernel
theorem dX8_advance_96 : decode cX8_advance 96 = .ok (.iconst 3, 1) := by decide +kernel
theorem dX8_advance_97 : decode cX8_advance 97 = .ok (.if_icmp .eq 11, 3) := by decide +kernel
theorem dX8_advance_100 : decode cX8_advance 100 = .ok (.aload_n 0, 1) := by decide +kernel
theorem dX8_advance_101 : decode cX8_advance 101 = .ok (.getfield 35, 3) := by decide +kernel
theorem dX8_advance_104 : decode cX8_advance 104 = .ok (.iconst 5, 1) := by decide +kernel
theorem dX8_advance_105 : decode cX8_advance 105 = .ok (.if_icmp .ne 14, 3) := by decide +kernel
theorem dX8_advance_119 : decode cX8_advance 119 = .ok (.aload_n 0, 1) := by decide +kernel
theorem dX8_advance_120 : decode cX8_advance 120 = .ok (.getfield 19, 3) := by decide +kernel
theorem dX8_advance_123 : decode cX8_advance 123 = .ok (.aload_n 0, 1) := by decide +kernel
theorem dX8_advance_124 : decode cX8_advance 124 = .ok (.getfield 15, 3) := by decide +kernel
theorem dX8_advance_127 : decode cX8_advance 127 = .ok (.if_icmp .ge 65, 3) := by decide +kernel
theorem dX8_advance_192 : decode cX8_advance 192 = .ok (.return_, 1) := by decide +kernel
theorem dX9_init_0 : decode cX9_init 0 = .ok (.aload_n 0, 1) := by decide +kernel
theorem dX9_init_1 : decode cX9_init 1 = .ok (.invokespecial 3, 3) := by decide +kernel
theorem dX9_init_4 : decode cX9_init 4 = .ok (.return_, 1) := by decide +kernel
theorem dX10_init_0 : decode cX10_init 0 = .ok (.aload_n 0, 1) := by decide +kernel
theorem dX10_init_1 : decode cX10_init 1 = .ok (.invokespecial 3, 3) := by decide +kernel
theorem dX10_init_4 : decode cX10_init 4 = .ok (.aload_n 0, 1) := by decide +kernel
theorem dX10_init_5 : decode cX10_init 5 = .ok (.bipush 24, 2) := by decide +kernel
theorem dX10_init_7 : decode cX10_init 7 = .ok (.newarray .int, 2) := by decide +kernel
theorem dX10_init_9 : decode cX10_init 9 = .ok (.putfield 9, 3) := by decide +kernel
theorem dX10_init_12 : decode cX10_init 12 = .ok (.return_, 1) := by decide +kernel
set_option maxRecDepth 20000 in
theorem ggX11_init_X5_init : GoodIn wsX11_init wsX5_init := goodIn_r _ [53, 54, 2, 3, 55, 56, 57, 58, 59, 60, 61, 62, 63, 64, 191, 192, 193, 194, 195, 196, 119, 120, 121, 122] (by decide +kernel) (by decide +kernel)
set_option maxRecDepth 20000 in
theorem gX11_init_X5_init_n9 : GoodIn wsX11_init (wsX5_init) := ggX11_init_X5_init
set_option maxRecDepth 20000 in
theorem ggX11_init_X0_init : GoodIn wsX11_init wsX0_init := goodIn_r _ [66, 67, 2, 3, 16, 68, 69, 70, 71, 72, 73, 74, 75, 76, 139, 140, 141, 142, 143, 144, 145, 146, 147, 148, 149, 150, 151, 152, 153, 154, 155] (by decide +kernel) (by decide +kernel)
set_option maxRecDepth 20000 in
theorem gX11_init_X0_init_n23 : GoodIn wsX11_init (wsX0_init) := ggX11_init_X0_init
set_option maxRecDepth 20000 in
theorem ggX11_init_X1_init : GoodIn wsX11_init wsX1_init := goodIn_r _ [78, 79, 2, 3, 16, 80, 81, 82, 156, 157, 158, 159, 160, 161] (by decide +kernel) (by decide +kernel)
set_option maxRecDepth 20000 in
theorem gX11_init_X1_init_n41 : GoodIn wsX11_init (wsX1_init) := ggX11_init_X1_init
set_option maxRecDepth 20000 in
theorem ggX11_init_X6_init : GoodIn wsX11_init wsX6_init := goodIn_r _ [84, 85, 2, 3, 16, 86, 162] (by decide +kernel) (by decide +kernel)
set_option maxRecDepth 20000 in
theorem gX11_init_X6_init_n55 : GoodIn wsX11_init (wsX6_init) := ggX11_init_X6_init
set_option maxRecDepth 20000 in
theorem ggX11_init_X3_init : GoodIn wsX11_init wsX3_init := goodIn_r _ [88, 89, 2, 3, 16, 90, 91, 92, 93, 94, 95, 163, 164, 165, 166, 167, 168, 169, 170, 171, 172, 173, 174] (by decide +kernel) (by decide +kernel)
set_option maxRecDepth 20000 in
theorem gX11_init_X3_init_n62 : GoodIn wsX11_init (wsX3_init) := ggX11_init_X3_init
set_option maxRecDepth 20000 in
theorem ggX11_init_X10_init : GoodIn wsX11_init wsX10_init := goodIn_r _ [97, 98, 2, 3, 16, 99, 175, 176, 177] (by decide +kernel) (by decide +kernel)
set_option maxRecDepth 20000 in
theorem gX11_init_X10_init_n69 : GoodIn wsX11_init (wsX10_init) := ggX11_init_X10_init
set_option maxRecDepth 20000 in
theorem ggX11_init_X9_init : GoodIn wsX11_init wsX9_init := goodIn_r _ [101, 102, 2, 3] (by decide +kernel) (by decide +kernel)
set_option maxRecDepth 20000 in
theorem gX11_init_X9_init_n76 : GoodIn wsX11_init (wsX9_init) := ggX11_init_X9_init
set_option maxRecDepth 20000 in
theorem ggX11_init_X2_init : GoodIn wsX11_init wsX2_init := goodIn_r _ [104, 105, 2, 3, 16, 106, 180] (by decide +kernel) (by decide +kernel)
set_option maxRecDepth 20000 in
theorem gX11_init_X2_init_n83 : GoodIn wsX11_init (wsX2_init) := ggX11_init_X2_init
set_option maxRecDepth 20000 in
theorem ggX11_init_X4_init : GoodIn wsX11_init wsX4_init := goodIn_r _ [108, 109, 2, 3, 16, 110, 111, 181, 182, 183, 184, 185, 186, 187] (by decide +kernel) (by decide +kernel)
set_option maxRecDepth 20000 in
theorem gX11_init_X4_init_n90 : GoodIn wsX11_init (wsX4_init) := ggX11_init_X4_init
set_option maxRecDepth 20000 in
theorem ggX11_init_X7_init : GoodIn wsX11_init wsX7_init := goodIn_r _ [113, 114, 2, 3, 16, 115, 116, 117, 118, 188, 189, 190] (by decide +kernel) (by decide +kernel)
set_option maxRecDepth 20000 in
theorem gX11_init_X7_init_n97 : GoodIn wsX11_init (wsX7_init) := ggX11_init_X7_init
theorem dX11_init_0 : decode cX11_init 0 = .ok (.aload_n 0, 1) := by decide +kernel
theorem dX11_init_1 : decode cX11_init 1 = .ok (.invokespecial 1, 3) := by decide +kernel
theorem dX11_init_4 : decode cX11_init 4 = .ok (.aload_n 0, 1) := by decide +kernel
theorem dX11_init_5 : decode cX11_init 5 = .ok (.new 7, 3) := by decide +kernel
theorem dX11_init_8 : decode cX11_init 8 = .ok (.dup, 1) := by decide +kernel
theorem dX11_init_9 : decode cX11_init 9 = .ok (.invokespecial 9, 3) := by decide +kernel
theorem dX11_init_12 : decode cX11_init 12 = .ok (.putfield 10, 3) := by decide +kernel
theorem dX11_init_15 : decode cX11_init 15 = .ok (.aload_n 0, 1) := by decide +kernel
theorem dX11_init_16 : decode cX11_init 16 = .ok (.aload_n 0, 1) := by decide +kernel
theorem dX11_init_17 : decode cX11_init 17 = .ok (.getfield 10, 3) := by decide +kernel
theorem dX11_init_20 : decode cX11_init 20 = .ok (.getfield 16, 3) := by decide +kernel
theorem dX11_init_23 : decode cX11_init 23 = .ok (.putfield 20, 3) := by decide +kernel
theorem dX11_init_26 : decode cX11_init 26 = .ok (.aload_n 0, 1) := by decide +kernel
theorem dX11_init_27 : decode cX11_init 27 = .ok (.new 21, 3) := by decide +kernel
theorem dX11_init_30 : decode cX11_init 30 = .ok (.dup, 1) := by decide +kernel
theorem dX11_init_31 : decode cX11_init 31 = .ok (.invokespecial 23, 3) := by decide +kernel
theorem dX11_init_34 : decode cX11_init 34 = .ok (.putfield 24, 3) := by decide +kernel
theorem dX11_init_37 : decode cX11_init 37 = .ok (.aload_n 0, 1) := by decide +kernel
theorem dX11_init_38 : decode cX11_init 38 = .ok (.new 21, 3) := by decide +kernel
theorem dX11_init_41 : decode cX11_init 41 = .ok (.dup, 1) := by decide +kernel
theorem dX11_init_42 : decode cX11_init 42 = .ok (.invokespecial 23, 3) := by decide +kernel
theorem dX11_init_45 : decode cX11_init 45 = .ok (.putfield 28, 3) := by decide +kernel
theorem dX11_init_48 : decode cX11_init 48 = .ok (.aload_n 0, 1) := by decide +kernel
theorem dX11_init_49 : decode cX11_init 49 = .ok (.iconst 3, 1) := by decide +kernel
theorem dX11_init_50 : decode cX11_init 50 = .ok (.anewarray 21, 3) := by decide +kernel
theorem dX11_init_53 : decode cX11_init 53 = .ok (.putfield 31, 3) := by decide +kernel
theorem dX11_init_56 : decode cX11_init 56 = .ok (.aload_n 0, 1) := by decide +kernel
theorem dX11_init_57 : decode cX11_init 57 = .ok (.iconst 3, 1) := by decide +kernel
theorem dX11_init_58 : decode cX11_init 58 = .ok (.newarray .int, 2) := by decide +kernel
theorem dX11_init_60 : decode cX11_init 60 = .ok (.putfield 35, 3) := by decide +kernel
theorem dX11_init_63 : decode cX11_init 63 = .ok (.aload_n 0, 1) := by decide +kernel
theorem dX11_init_64 : decode cX11_init 64 = .ok (.new 39, 3) := by decide +kernel
theorem dX11_init_67 : decode cX11_init 67 = .ok (.dup, 1) := by decide +kernel
theorem dX11_init_68 : decode cX11_init 68 = .ok (.invokespecial 41, 3) := by decide +kernel
theorem dX11_init_71 : decode cX11_init 71 = .ok (.putfield 42, 3) := by decide +kernel
theorem dX11_init_74 : decode cX11_init 74 = .ok (.aload_n 0, 1) := by decide +kernel
theorem dX11_init_75 : decode cX11_init 75 = .ok (.new 39, 3) := by decide +kernel
theorem dX11_init_78 : decode cX11_init 78 = .ok (.dup, 1) := by decide +kernel
theorem dX11_init_79 : decode cX11_init 79 = .ok (.invokespecial 41, 3) := by decide +kernel
theorem dX11_init_82 : decode cX11_init 82 = .ok (.putfield 46, 3) := by decide +kernel
theorem dX11_init_85 : decode cX11_init 85 = .ok (.aload_n 0, 1) := by decide +kernel
theorem dX11_init_86 : decode cX11_init 86 = .ok (.iconst 0, 1) := by decide +kernel
theorem dX11_init_87 : decode cX11_init 87 = .ok (.putfield 49, 3) := by decide +kernel
theorem dX11_init_90 : decode cX11_init 90 = .ok (.aload_n 0, 1) := by decide +kernel
theorem dX11_init_91 : decode cX11_init 91 = .ok (.new 53, 3) := by decide +kernel
theorem dX11_init_94 : decode cX11_init 94 = .ok (.dup, 1) := by decide +kernel
theorem dX11_init_95 : decode cX11_init 95 = .ok (.invokespecial 55, 3) := by decide +kernel
theorem dX11_init_98 : decode cX11_init 98 = .ok (.putfield 56, 3) := by decide +kernel
theorem dX11_init_101 : decode cX11_init 101 = .ok (.aload_n 0, 1) := by decide +kernel
theorem dX11_init_102 : decode cX11_init 102 = .ok (.new 60, 3) := by decide +kernel
theorem dX11_init_105 : decode cX11_init 105 = .ok (.dup, 1) := by decide +kernel
theorem dX11_init_106 : decode cX11_init 106 = .ok (.invokespecial 62, 3) := by decide +kernel
theorem dX11_init_109 : decode cX11_init 109 = .ok (.putfield 63, 3) := by decide +kernel
theorem dX11_init_112 : decode cX11_init 112 = .ok (.aload_n 0, 1) := by decide +kernel
theorem dX11_init_113 : decode cX11_init 113 = .ok (.new 67, 3) := by decide +kernel
theorem dX11_init_116 : decode cX11_init 116 = .ok (.dup, 1) := by decide +kernel
theorem dX11_init_117 : decode cX11_init 117 = .ok (.invokespecial 69, 3) := by decide +kernel
theorem dX11_init_120 : decode cX11_init 120 = .ok (.putfield 70, 3) := by decide +kernel
theorem dX11_init_123 : decode cX11_init 123 = .ok (.aload_n 0, 1) := by decide +kernel
theorem dX11_init_124 : decode cX11_init 124 = .ok (.new 74, 3) := by decide +kernel
theorem dX11_init_127 : decode cX11_init 127 = .ok (.dup, 1) := by decide +kernel
theorem dX11_init_128 : decode cX11_init 128 = .ok (.invokespecial 76, 3) := by decide +kernel
theorem dX11_init_131 : decode cX11_init 131 = .ok (.putfield 77, 3) := by decide +kernel
theorem dX11_init_134 : decode cX11_init 134 = .ok (.aload_n 0, 1) := by decide +kernel
theorem dX11_init_135 : decode cX11_init 135 = .ok (.new 81, 3) := by decide +kernel
theorem dX11_init_138 : decode cX11_init 138 = .ok (.dup, 1) := by decide +kernel
theorem dX11_init_139 : decode cX11_init 139 = .ok (.invokespecial 83, 3) := by decide +kernel
theorem dX11_init_142 : decode cX11_init 142 = .ok (.putfield 84, 3) := by decide +kernel
theorem dX11_init_145 : decode cX11_init 145 = .ok (.aload_n 0, 1) := by decide +kernel
theorem dX11_init_146 : decode cX11_init 146 = .ok (.new 88, 3) := by decide +kernel
theorem dX11_init_149 : decode cX11_init 149 = .ok (.dup, 1) := by decide +kernel
theorem dX11_init_150 : decode cX11_init 150 = .ok (.invokespecial 90, 3) := by decide +kernel
theorem dX11_init_153 : decode cX11_init 153 = .ok (.putfield 91, 3) := by decide +kernel
theorem dX11_init_156 : decode cX11_init 156 = .ok (.aload_n 0, 1) := by decide +kernel
theorem dX11_init_157 : decode cX11_init 157 = .ok (.new 95, 3) := by decide +kernel
theorem dX11_init_160 : decode cX11_init 160 = .ok (.dup, 1) := by decide +kernel
theorem dX11_init_161 : decode cX11_init 161 = .ok (.invokespecial 97, 3) := by decide +kernel
theorem dX11_init_164 : decode cX11_init 164 = .ok (.putfield 98, 3) := by decide +kernel
theorem dX11_init_167 : decode cX11_init 167 = .ok (.iconst 0, 1) := by decide +kernel
theorem dX11_init_168 : decode cX11_init 168 = .ok (.istore_n 1, 1) := by decide +kernel
theorem dX11_init_169 : decode cX11_init 169 = .ok (.iload_n 1, 1) := by decide +kernel
theorem dX11_init_170 : decode cX11_init 170 = .ok (.iconst 3, 1) := by decide +kernel
theorem dX11_init_171 : decode cX11_init 171 = .ok (.if_icmp .ge 22, 3) := by decide +kernel
theorem dX11_init_174 : decode cX11_init 174 = .ok (.aload_n 0, 1) := by decide +kernel
theorem dX11_init_175 : decode cX11_init 175 = .ok (.getfield 31, 3) := by decide +kernel
theorem dX11_init_178 : decode cX11_init 178 = .ok (.iload_n 1, 1) := by decide +kernel
theorem dX11_init_179 : decode cX11_init 179 = .ok (.new 21, 3) := by decide +kernel
theorem dX11_init_182 : decode cX11_init 182 = .ok (.dup, 1) := by decide +kernel
theorem dX11_init_183 : decode cX11_init 183 = .ok (.invokespecial 23, 3) := by decide +kernel
theorem dX11_init_186 : decode cX11_init 186 = .ok (.aastore, 1) := by decide +kernel
theorem dX11_init_187 : decode cX11_init 187 = .ok (.iinc 1 1, 3) := by decide +kernel
theorem dX11_init_190 : decode cX11_init 190 = .ok (.goto (-21), 3) := by decide +kernel
theorem dX11_init_193 : decode cX11_init 193 = .ok (.return_, 1) := by decide +kernel
set_option maxRecDepth 20000 in
theorem ggX11_feed_X8_push : GoodIn wsX11_feed wsX8_push := goodIn_r _ [7, 8, 9, 26, 27, 28, 29, 30, 31] (by decide +kernel) (by decide +kernel)
set_option maxRecDepth 20000 in
theorem gX11_feed_X8_push : GoodIn wsX11_feed (wsV RX11 108 RX8 yX8_push wsX8_push) := goodIn_app (goodIn_of _ (by decide +kernel)) ggX11_feed_X8_push
theorem dX11_feed_0 : decode cX11_feed 0 = .ok (.aload_n 0, 1) := by decide +kernel
theorem dX11_feed_1 : decode cX11_feed 1 = .ok (.getfield 20, 3) := by decide +kernel
theorem dX11_feed_4 : decode cX11_feed 4 = .ok (.getfield 102, 3) := by decide +kernel
theorem dX11_feed_7 : decode cX11_feed 7 = .ok (.bipush 20, 2) := by decide +kernel
theorem dX11_feed_9 : decode cX11_feed 9 = .ok (.iadd, 1) := by decide +kernel
theorem dX11_feed_10 : decode cX11_feed 10 = .ok (.sipush 1200, 3) := by decide +kernel
theorem dX11_feed_13 : decode cX11_feed 13 = .ok (.if_icmp .le 5, 3) := by decide +kernel
theorem dX11_feed_18 : decode cX11_feed 18 = .ok (.aload_n 0, 1) := by decide +kernel
theorem dX11_feed_19 : decode cX11_feed 19 = .ok (.getfield 20, 3) := by decide +kernel
theorem dX11_feed_22 : decode cX11_feed 22 = .ok (.iload_n 1, 1) := by decide +kernel
theorem dX11_feed_23 : decode cX11_feed 23 = .ok (.invokevirtual 108, 3) := by decide +kernel
theorem dX11_feed_26 : decode cX11_feed 26 = .ok (.aload_n 0, 1) := by decide +kernel
theorem dX11_feed_27 : decode cX11_feed 27 = .ok (.getfield 20, 3) := by decide +kernel
theorem dX11_feed_30 : decode cX11_feed 30 = .ok (.iload_n 2, 1) := by decide +kernel
theorem dX11_feed_31 : decode cX11_feed 31 = .ok (.invokevirtual 108, 3) := by decide +kernel
theorem dX11_feed_34 : decode cX11_feed 34 = .ok (.aload_n 0, 1) := by decide +kernel
theorem dX11_feed_35 : decode cX11_feed 35 = .ok (.getfield 20, 3) := by decide +kernel
theorem dX11_feed_38 : decode cX11_feed 38 = .ok (.iload_n 3, 1) := by decide +kernel
theorem dX11_feed_39 : decode cX11_feed 39 = .ok (.invokevirtual 108, 3) := by decide +kernel
theorem dX11_feed_42 : decode cX11_feed 42 = .ok (.aload_n 0, 1) := by decide +kernel
theorem dX11_feed_43 : decode cX11_feed 43 = .ok (.getfield 20, 3) := by decide +kernel
theorem dX11_feed_46 : decode cX11_feed 46 = .ok (.iload 4, 2) := by decide +kernel
theorem dX11_feed_48 : decode cX11_feed 48 = .ok (.invokevirtual 108, 3) := by decide +kernel
theorem dX11_feed_51 : decode cX11_feed 51 = .ok (.aload_n 0, 1) := by decide +kernel
theorem dX11_feed_52 : decode cX11_feed 52 = .ok (.getfield 20, 3) := by decide +kernel
theorem dX11_feed_55 : decode cX11_feed 55 = .ok (.iload 5, 2) := by decide +kernel
theorem dX11_feed_57 : decode cX11_feed 57 = .ok (.invokevirtual 108, 3) := by decide +kernel
theorem dX11_feed_60 : decode cX11_feed 60 = .ok (.aload_n 0, 1) := by decide +kernel
theorem dX11_feed_61 : decode cX11_feed 61 = .ok (.getfield 20, 3) := by decide +kernel
theorem dX11_feed_64 : decode cX11_feed 64 = .ok (.getfield 102, 3) := by decide +kernel
theorem dX11_feed_67 : decode cX11_feed 67 = .ok (.ireturn, 1) := by decide +kernel
theorem dX11_end_0 : decode cX11_end 0 = .ok (.iload_n 1, 1) := by decide +kernel
theorem dX11_end_1 : decode cX11_end 1 = .ok (.ifCond .lt 14, 3) := by decide +kernel
theorem dX11_end_4 : decode cX11_end 4 = .ok (.iload_n 1, 1) := by decide +kernel
theorem dX11_end_5 : decode cX11_end 5 = .ok (.aload_n 0, 1) := by decide +kernel
theorem dX11_end_6 : decode cX11_end 6 = .ok (.getfield 20, 3) := by decide +kernel
theorem dX11_end_9 : decode cX11_end 9 = .ok (.getfield 102, 3) := by decide +kernel
theorem dX11_end_12 : decode cX11_end 12 = .ok (.if_icmp .le 5, 3) := by decide +kernel
theorem dX11_end_15 : decode cX11_end 15 = .ok (.iconst (-1), 1) := by decide +kernel
theorem dX11_end_16 : decode cX11_end 16 = .ok (.ireturn, 1) := by decide +kernel
theorem dX11_end_17 : decode cX11_end 17 = .ok (.aload_n 0, 1) := by decide +kernel
theorem dX11_end_18 : decode cX11_end 18 = .ok (.getfield 20, 3) := by decide +kernel
theorem dX11_end_21 : decode cX11_end 21 = .ok (.iload_n 1, 1) := by decide +kernel
theorem dX11_end_22 : decode cX11_end 22 = .ok (.putfield 102, 3) := by decide +kernel
theorem dX11_end_25 : decode cX11_end 25 = .ok (.iload_n 1, 1) := by decide +kernel
theorem dX11_end_26 : decode cX11_end 26 = .ok (.ireturn, 1) := by decide +kernel
set_option maxRecDepth 20000 in
theorem ggX11_dance_X5_read : GoodIn wsX11_dance wsX5_read := goodIn_r _ [12, 13, 14, 15, 16, 17, 18, 19, 20, 21, 22, 23, 24, 25, 26, 27, 28, 29, 30, 31, 32, 33, 34, 35, 36, 37, 38, 39, 40, 41, 42, 43, 44, 45, 46, 47, 48, 49, 50, 51, 52, 53, 54, 55, 56, 57, 58, 59, 60, 61, 62, 63, 11, 64, 65, 66, 67, 68, 69, 70, 71, 72, 73, 74, 75, 76, 77, 78, 79, 80, 81, 82, 83, 84, 85, 86, 87, 88, 89, 90, 91, 92, 93, 94, 95, 96, 97, 98, 99, 100, 101, 102, 103, 104, 105, 106, 107, 108, 109, 110, 111, 112, 113, 114, 115, 116, 117, 118, 119, 120, 121, 122, 123, 124, 125, 126, 127, 128, 129, 130, 131, 132, 133, 134, 135, 136, 137, 138, 139, 140, 141, 142, 143, 144, 145, 146, 147, 148, 149, 150, 151, 152, 153, 154, 155, 156, 157, 158, 159, 160, 161, 162, 163, 164, 165, 166, 167, 168, 169, 170, 171, 172, 173, 174, 175, 176, 177, 178, 179, 180, 181, 182, 183, 184, 185, 186, 187, 188, 189, 190, 191, 192, 193, 194, 195, 196, 197, 198, 199, 200, 201, 202, 203, 243, 244, 245, 246, 220, 221, 222, 223, 224, 225, 226, 227, 228, 229, 230, 231, 232, 233, 234, 235, 236, 237, 238, 239, 240, 241, 242] (by decide +kernel) (by decide +kernel)
set_option maxRecDepth 20000 in
theorem gX11_dance_X5_read : GoodIn wsX11_dance (wsV RX11 112 RX5 yX5_read wsX5_read) := goodIn_app (goodIn_of _ (by decide +kernel)) ggX11_dance_X5_read
theorem dX11_dance_0 : decode cX11_dance 0 = .ok (.aload_n 0, 1) := by decide +kernel
theorem dX11_dance_1 : decode cX11_dance 1 = .ok (.getfield 10, 3) := by decide +kernel
theorem dX11_dance_4 : decode cX11_dance 4 = .ok (.aload_n 0, 1) := by decide +kernel
theorem dX11_dance_5 : decode cX11_dance 5 = .ok (.getfield 28, 3) := by decide +kernel
theorem dX11_dance_8 : decode cX11_dance 8 = .ok (.invokevirtual 112, 3) := by decide +kernel
theorem dX11_dance_11 : decode cX11_dance 11 = .ok (.ifCond .ne 6, 3) := by decide +kernel
theorem dX11_dance_17 : decode cX11_dance 17 = .ok (.aload_n 0, 1) := by decide +kernel
theorem dX11_dance_18 : decode cX11_dance 18 = .ok (.getfield 24, 3) := by decide +kernel
theorem dX11_dance_21 : decode cX11_dance 21 = .ok (.astore_n 1, 1) := by decide +kernel
theorem dX11_dance_22 : decode cX11_dance 22 = .ok (.aload_n 0, 1) := by decide +kernel
theorem dX11_dance_23 : decode cX11_dance 23 = .ok (.aload_n 0, 1) := by decide +kernel
theorem dX11_dance_24 : decode cX11_dance 24 = .ok (.getfield 28, 3) := by decide +kernel
theorem dX11_dance_27 : decode cX11_dance 27 = .ok (.putfield 24, 3) := by decide +kernel
theorem dX11_dance_30 : decode cX11_dance 30 = .ok (.aload_n 0, 1) := by decide +kernel
theorem dX11_dance_31 : decode cX11_dance 31 = .ok (.aload_n 1, 1) := by decide +kernel
theorem dX11_dance_32 : decode cX11_dance 32 = .ok (.putfield 28, 3) := by decide +kernel
theorem dX11_dance_35 : decode cX11_dance 35 = .ok (.aload_n 0, 1) := by decide +kernel
theorem dX11_dance_36 : decode cX11_dance 36 = .ok (.getfield 20, 3) := by decide +kernel
theorem dX11_dance_39 : decode cX11_dance 39 = .ok (.iconst 0, 1) := by decide +kernel
theorem dX11_dance_40 : decode cX11_dance 40 = .ok (.putfield 102, 3) := by decide +kernel
theorem dX11_dance_43 : decode cX11_dance 43 = .ok (.aload_n 0, 1) := by decide +kernel
theorem dX11_dance_44 : decode cX11_dance 44 = .ok (.iconst 0, 1) := by decide +kernel
theorem dX11_dance_45 : decode cX11_dance 45 = .ok (.putfield 49, 3) := by decide +kernel
theorem dX11_dance_48 : decode cX11_dance 48 = .ok (.aload_n 0, 1) := by decide +kernel
theorem dX11_dance_49 : decode cX11_dance 49 = .ok (.getfield 24, 3) := by decide +kernel
theorem dX11_dance_52 : decode cX11_dance 52 = .ok (.getfield 116, 3) := by decide +kernel
theorem dX11_dance_55 : decode cX11_dance 55 = .ok (.ireturn, 1) := by decide +kernel
theorem dX11_fault_0 : decode cX11_fault 0 = .ok (.iload_n 1, 1) := by decide +kernel
theorem dX11_fault_1 : decode cX11_fault 1 = .ok (.lookupswitch 43 #[(0, 27), (1, 35)], 27) := by decide +kernel
theorem dX11_fault_28 : decode cX11_fault 28 = .ok (.aload_n 0, 1) := by decide +kernel
theorem dX11_fault_29 : decode cX11_fault 29 = .ok (.getfield 10, 3) := by decide +kernel
theorem dX11_fault_32 : decode cX11_fault 32 = .ok (.getfield 119, 3) := by decide +kernel
theorem dX11_fault_35 : decode cX11_fault 35 = .ok (.ireturn, 1) := by decide +kernel
theorem dX11_fault_36 : decode cX11_fault 36 = .ok (.aload_n 0, 1) := by decide +kernel
theorem dX11_fault_37 : decode cX11_fault 37 = .ok (.getfield 10, 3) := by decide +kernel
theorem dX11_fault_40 : decode cX11_fault 40 = .ok (.getfield 122, 3) := by decide +kernel
theorem dX11_fault_43 : decode cX11_fault 43 = .ok (.ireturn, 1) := by decide +kernel
theorem dX11_fault_44 : decode cX11_fault 44 = .ok (.iconst (-1), 1) := by decide +kernel
theorem dX11_fault_45 : decode cX11_fault 45 = .ok (.ireturn, 1) := by decide +kernel
set_option maxRecDepth 20000 in
theorem ggX11_step_X0_stands : GoodIn wsX11_step wsX0_stands := goodIn_r _ [6, 7, 41, 42, 43, 44, 45, 46, 47, 48, 49, 50, 51, 52, 53, 54, 55, 56, 57] (by decide +kernel) (by decide +kernel)
set_option maxRecDepth 20000 in
theorem gX11_step_X0_stands : GoodIn wsX11_step (wsV RX11 125 RX0 yX0_stands wsX0_stands) := goodIn_app (goodIn_of _ (by decide +kernel)) ggX11_step_X0_stands
theorem dX11_step_0 : decode cX11_step 0 = .ok (.aload_n 0, 1) := by decide +kernel
theorem dX11_step_1 : decode cX11_step 1 = .ok (.getfield 24, 3) := by decide +kernel
theorem dX11_step_4 : decode cX11_step 4 = .ok (.invokevirtual 125, 3) := by decide +kernel
theorem dX11_step_7 : decode cX11_step 7 = .ok (.ifCond .eq 10, 3) := by decide +kernel
theorem dX11_step_17 : decode cX11_step 17 = .ok (.bipush (-2), 2) := by decide +kernel
theorem dX11_step_19 : decode cX11_step 19 = .ok (.ireturn, 1) := by decide +kernel
set_option maxRecDepth 20000 in
theorem ggX11_answers_X0_stands : GoodIn wsX11_answers wsX0_stands := goodIn_r _ [7, 8, 32, 33, 34, 35, 36, 37, 38, 39, 40, 41, 42, 43, 44, 45, 46, 47, 48] (by decide +kernel) (by decide +kernel)
set_option maxRecDepth 20000 in
theorem gX11_answers_X0_stands : GoodIn wsX11_answers (wsV RX11 125 RX0 yX0_stands wsX0_stands) := goodIn_app (goodIn_of _ (by decide +kernel)) ggX11_answers_X0_stands
theorem dX11_answers_0 : decode cX11_answers 0 = .ok (.aload_n 0, 1) := by decide +kernel
theorem dX11_answers_1 : decode cX11_answers 1 = .ok (.getfield 24, 3) := by decide +kernel
theorem dX11_answers_4 : decode cX11_answers 4 = .ok (.invokevirtual 125, 3) := by decide +kernel
theorem dX11_answers_7 : decode cX11_answers 7 = .ok (.ifCond .eq 22, 3) := by decide +kernel
theorem dX11_answers_29 : decode cX11_answers 29 = .ok (.bipush (-2), 2) := by decide +kernel
theorem dX11_answers_31 : decode cX11_answers 31 = .ok (.ireturn, 1) := by decide +kernel
set_option maxRecDepth 20000 in
theorem ggX11_stumbled_X0_hasStumble : GoodIn wsX11_stumbled wsX0_hasStumble := goodIn_r _ [7, 8, 9, 10, 11, 29, 30, 31, 32, 33, 34, 35, 36, 37, 38, 39, 40, 41, 42, 43, 44, 45] (by decide +kernel) (by decide +kernel)
set_option maxRecDepth 20000 in
theorem gX11_stumbled_X0_hasStumble : GoodIn wsX11_stumbled (wsV RX11 147 RX0 yX0_hasStumble wsX0_hasStumble) := goodIn_app (goodIn_of _ (by decide +kernel)) ggX11_stumbled_X0_hasStumble
theorem dX11_stumbled_0 : decode cX11_stumbled 0 = .ok (.aload_n 0, 1) := by decide +kernel
theorem dX11_stumbled_1 : decode cX11_stumbled 1 = .ok (.getfield 24, 3) := by decide +kernel
theorem dX11_stumbled_4 : decode cX11_stumbled 4 = .ok (.iload_n 1, 1) := by decide +kernel
theorem dX11_stumbled_5 : decode cX11_stumbled 5 = .ok (.invokevirtual 147, 3) := by decide +kernel
theorem dX11_stumbled_8 : decode cX11_stumbled 8 = .ok (.ifCond .eq 11, 3) := by decide +kernel
theorem dX11_stumbled_19 : decode cX11_stumbled 19 = .ok (.bipush (-2), 2) := by decide +kernel
theorem dX11_stumbled_21 : decode cX11_stumbled 21 = .ok (.ireturn, 1) := by decide +kernel
set_option maxRecDepth 20000 in
theorem ggX11_muddy_X0_stands : GoodIn wsX11_muddy wsX0_stands := goodIn_r _ [7, 8, 32, 33, 34, 35, 36, 37, 38, 39, 40, 41, 42, 43, 44, 45, 46, 47, 48] (by decide +kernel) (by decide +kernel)
set_option maxRecDepth 20000 in
theorem gX11_muddy_X0_stands : GoodIn wsX11_muddy (wsV RX11 125 RX0 yX0_stands wsX0_stands) := goodIn_app (goodIn_of _ (by decide +kernel)) ggX11_muddy_X0_stands
theorem dX11_muddy_0 : decode cX11_muddy 0 = .ok (.aload_n 0, 1) := by decide +kernel
theorem dX11_muddy_1 : decode cX11_muddy 1 = .ok (.getfield 24, 3) := by decide +kernel
theorem dX11_muddy_4 : decode cX11_muddy 4 = .ok (.invokevirtual 125, 3) := by decide +kernel
theorem dX11_muddy_7 : decode cX11_muddy 7 = .ok (.ifCond .eq 22, 3) := by decide +kernel
theorem dX11_muddy_29 : decode cX11_muddy 29 = .ok (.bipush (-2), 2) := by decide +kernel
theorem dX11_muddy_31 : decode cX11_muddy 31 = .ok (.ireturn, 1) := by decide +kernel
set_option maxRecDepth 20000 in
theorem ggX11_place_X11_has : GoodIn wsX11_place wsX11_has := goodIn_r _ [5, 6, 7, 8, 9, 10, 11, 12, 13, 14, 4, 15, 16, 17, 18, 19, 20, 21, 70, 71, 72, 73, 74, 75, 76, 77, 78, 79, 80, 81, 82, 83, 84, 85, 86, 87, 88, 89, 90, 91, 92, 93, 94, 95, 96, 97, 98, 99, 100, 101, 102] (by decide +kernel) (by decide +kernel)
set_option maxRecDepth 20000 in
theorem gX11_place_X11_has : GoodIn wsX11_place (wsV RX11 162 RX11 yX11_has wsX11_has) := goodIn_app (goodIn_of _ (by decide +kernel)) ggX11_place_X11_has
theorem dX11_place_0 : decode cX11_place 0 = .ok (.aload_n 0, 1) := by decide +kernel
theorem dX11_place_1 : decode cX11_place 1 = .ok (.iload_n 1, 1) := by decide +kernel
theorem dX11_place_2 : decode cX11_place 2 = .ok (.iload_n 2, 1) := by decide +kernel
theorem dX11_place_3 : decode cX11_place 3 = .ok (.invokevirtual 162, 3) := by decide +kernel
theorem dX11_place_6 : decode cX11_place 6 = .ok (.ifCond .eq 15, 3) := by decide +kernel
theorem dX11_place_21 : decode cX11_place 21 = .ok (.bipush (-2), 2) := by decide +kernel
theorem dX11_place_23 : decode cX11_place 23 = .ok (.ireturn, 1) := by decide +kernel
set_option maxRecDepth 20000 in
theorem ggX11_danced_X11_has : GoodIn wsX11_danced wsX11_has := goodIn_r _ [5, 6, 7, 8, 9, 10, 11, 12, 13, 14, 4, 15, 16, 17, 18, 19, 20, 21, 70, 71, 72, 73, 74, 75, 76, 77, 78, 79, 80, 81, 82, 83, 84, 85, 86, 87, 88, 89, 90, 91, 92, 93, 94, 95, 96, 97, 98, 99, 100, 101, 102] (by decide +kernel) (by decide +kernel)
set_option maxRecDepth 20000 in
theorem gX11_danced_X11_has : GoodIn wsX11_danced (wsV RX11 162 RX11 yX11_has wsX11_has) := goodIn_app (goodIn_of _ (by decide +kernel)) ggX11_danced_X11_has
theorem dX11_danced_0 : decode cX11_danced 0 = .ok (.aload_n 0, 1) := by decide +kernel
theorem dX11_danced_1 : decode cX11_danced 1 = .ok (.iload_n 1, 1) := by decide +kernel
theorem dX11_danced_2 : decode cX11_danced 2 = .ok (.iload_n 2, 1) := by decide +kernel
theorem dX11_danced_3 : decode cX11_danced 3 = .ok (.invokevirtual 162, 3) := by decide +kernel
theorem dX11_danced_6 : decode cX11_danced 6 = .ok (.ifCond .eq 15, 3) := by decide +kernel
theorem dX11_danced_21 : decode cX11_danced 21 = .ok (.bipush (-2), 2) := by decide +kernel
theorem dX11_danced_23 : decode cX11_danced 23 = .ok (.ireturn, 1) := by decide +kernel
set_option maxRecDepth 20000 in
theorem ggX11_hears_X11_has : GoodIn wsX11_hears wsX11_has := goodIn_r _ [5, 6, 7, 8, 9, 10, 11, 12, 13, 14, 4, 15, 16, 17, 18, 19, 20, 21, 74, 75, 76, 77, 78, 79, 80, 81, 82, 83, 84, 85, 86, 87, 88, 89, 90, 91, 92, 93, 94, 95, 96, 97, 98, 99, 100, 101, 102, 103, 104, 105, 106] (by decide +kernel) (by decide +kernel)
set_option maxRecDepth 20000 in
theorem gX11_hears_X11_has : GoodIn wsX11_hears (wsV RX11 162 RX11 yX11_has wsX11_has) := goodIn_app (goodIn_of _ (by decide +kernel)) ggX11_hears_X11_has
theorem dX11_hears_0 : decode cX11_hears 0 = .ok (.aload_n 0, 1) := by decide +kernel
theorem dX11_hears_1 : decode cX11_hears 1 = .ok (.iload_n 1, 1) := by decide +kernel
theorem dX11_hears_2 : decode cX11_hears 2 = .ok (.iload_n 2, 1) := by decide +kernel
theorem dX11_hears_3 : decode cX11_hears 3 = .ok (.invokevirtual 162, 3) := by decide +kernel
theorem dX11_hears_6 : decode cX11_hears 6 = .ok (.ifCond .eq 15, 3) := by decide +kernel
theorem dX11_hears_21 : decode cX11_hears 21 = .ok (.bipush (-2), 2) := by decide +kernel
theorem dX11_hears_23 : decode cX11_hears 23 = .ok (.ireturn, 1) := by decide +kernel
set_option maxRecDepth 20000 in
theorem ggX11_late_X11_has : GoodIn wsX11_late wsX11_has := goodIn_r _ [8, 1, 9, 10, 11, 12, 13, 14, 15, 16, 7, 17, 18, 19, 20, 21, 22, 23, 73, 74, 75, 76, 77, 78, 79, 80, 81, 82, 83, 84, 85, 86, 87, 88, 89, 90, 91, 92, 93, 94, 95, 96, 97, 98, 99, 100, 101, 102, 103, 104, 105] (by decide +kernel) (by decide +kernel)
set_option maxRecDepth 20000 in
theorem gX11_late_X11_has : GoodIn wsX11_late (wsV RX11 162 RX11 yX11_has wsX11_has) := goodIn_app (goodIn_of _ (by decide +kernel)) ggX11_late_X11_has
theorem dX11_late_0 : decode cX11_late 0 = .ok (.aload_n 0, 1) := by decide +kernel
theorem dX11_late_1 : decode cX11_late 1 = .ok (.iload_n 1, 1) := by decide +kernel
theorem dX11_late_2 : decode cX11_late 2 = .ok (.iload_n 2, 1) := by decide +kernel
theorem dX11_late_3 : decode cX11_late 3 = .ok (.invokevirtual 162, 3) := by decide +kernel
theorem dX11_late_6 : decode cX11_late 6 = .ok (.ifCond .ne 6, 3) := by decide +kernel
theorem dX11_late_9 : decode cX11_late 9 = .ok (.bipush (-2), 2) := by decide +kernel
theorem dX11_late_11 : decode cX11_late 11 = .ok (.ireturn, 1) := by decide +kernel
set_option maxRecDepth 20000 in
theorem ggX11_hole_X11_has : GoodIn wsX11_hole wsX11_has := goodIn_r _ [6, 1, 7, 8, 9, 10, 11, 12, 13, 14, 5, 15, 16, 17, 18, 19, 20, 21, 87, 88, 89, 90, 91, 92, 93, 94, 95, 96, 97, 98, 99, 100, 101, 102, 103, 104, 105, 106, 107, 108, 109, 110, 111, 112, 113, 114, 115, 116, 117, 118, 119] (by decide +kernel) (by decide +kernel)
set_option maxRecDepth 20000 in
theorem gX11_hole_X11_has : GoodIn wsX11_hole (wsV RX11 162 RX11 yX11_has wsX11_has) := goodIn_app (goodIn_of _ (by decide +kernel)) ggX11_hole_X11_has
theorem dX11_hole_0 : decode cX11_hole 0 = .ok (.aload_n 0, 1) := by decide +kernel
theorem dX11_hole_1 : decode cX11_hole 1 = .ok (.iload_n 1, 1) := by decide +kernel
theorem dX11_hole_2 : decode cX11_hole 2 = .ok (.iload_n 2, 1) := by decide +kernel
theorem dX11_hole_3 : decode cX11_hole 3 = .ok (.invokevirtual 162, 3) := by decide +kernel
theorem dX11_hole_6 : decode cX11_hole 6 = .ok (.ifCond .ne 6, 3) := by decide +kernel
theorem dX11_hole_9 : decode cX11_hole 9 = .ok (.bipush (-2), 2) := by decide +kernel
theorem dX11_hole_11 : decode cX11_hole 11 = .ok (.ireturn, 1) := by decide +kernel
set_option maxRecDepth 20000 in
theorem ggX11_next_X11_has : GoodIn wsX11_next wsX11_has := goodIn_r _ [6, 1, 7, 8, 9, 10, 11, 12, 13, 14, 5, 15, 16, 17, 18, 19, 20, 21, 87, 88, 89, 90, 91, 92, 93, 94, 95, 96, 97, 98, 99, 100, 101, 102, 103, 104, 105, 106, 107, 108, 109, 110, 111, 112, 113, 114, 115, 116, 117, 118, 119] (by decide +kernel) (by decide +kernel)
set_option maxRecDepth 20000 in
theorem gX11_next_X11_has : GoodIn wsX11_next (wsV RX11 162 RX11 yX11_has wsX11_has) := goodIn_app (goodIn_of _ (by decide +kernel)) ggX11_next_X11_has
theorem dX11_next_0 : decode cX11_next 0 = .ok (.aload_n 0, 1) := by decide +kernel
theorem dX11_next_1 : decode cX11_next 1 = .ok (.iload_n 1, 1) := by decide +kernel
theorem dX11_next_2 : decode cX11_next 2 = .ok (.iload_n 2, 1) := by decide +kernel
theorem dX11_next_3 : decode cX11_next 3 = .ok (.invokevirtual 162, 3) := by decide +kernel
theorem dX11_next_6 : decode cX11_next 6 = .ok (.ifCond .ne 6, 3) := by decide +kernel
theorem dX11_next_9 : decode cX11_next 9 = .ok (.bipush (-2), 2) := by decide +kernel
theorem dX11_next_11 : decode cX11_next 11 = .ok (.ireturn, 1) := by decide +kernel
set_option maxRecDepth 20000 in
theorem ggX11_holes_X11_isSide : GoodIn wsX11_holes wsX11_isSide := goodIn_r _ [5, 6, 7, 4, 8] (by decide +kernel) (by decide +kernel)
set_option maxRecDepth 20000 in
theorem gX11_holes_X11_isSide : GoodIn wsX11_holes (va_wsS RX11 129 yX11_isSide wsX11_isSide) := goodIn_app (goodIn_of _ (by decide +kernel)) ggX11_holes_X11_isSide
set_option maxRecDepth 20000 in
theorem ggX11_holes_X11_hasSpan : GoodIn wsX11_holes wsX11_hasSpan := goodIn_r _ [12, 1, 13, 14, 15, 16, 17, 18, 19, 20, 4, 21, 6, 7, 8, 91, 92, 93, 94, 95, 96, 97, 98, 99, 100, 101, 102, 103, 104, 105, 106, 107, 108, 109, 110, 111, 112, 113, 114, 115, 116, 117, 118, 119, 120, 121, 122, 123] (by decide +kernel) (by decide +kernel)
set_option maxRecDepth 20000 in
theorem gX11_holes_X11_hasSpan : GoodIn wsX11_holes (wsV RX11 191 RX11 yX11_hasSpan wsX11_hasSpan) := goodIn_app (goodIn_of _ (by decide +kernel)) ggX11_holes_X11_hasSpan
theorem dX11_holes_0 : decode cX11_holes 0 = .ok (.iload_n 1, 1) := by decide +kernel
theorem dX11_holes_1 : decode cX11_holes 1 = .ok (.invokestatic 129, 3) := by decide +kernel
theorem dX11_holes_4 : decode cX11_holes 4 = .ok (.ifCond .eq 12, 3) := by decide +kernel
theorem dX11_holes_7 : decode cX11_holes 7 = .ok (.aload_n 0, 1) := by decide +kernel
theorem dX11_holes_8 : decode cX11_holes 8 = .ok (.iload_n 2, 1) := by decide +kernel
theorem dX11_holes_9 : decode cX11_holes 9 = .ok (.iload_n 3, 1) := by decide +kernel
theorem dX11_holes_10 : decode cX11_holes 10 = .ok (.invokevirtual 191, 3) := by decide +kernel
theorem dX11_holes_13 : decode cX11_holes 13 = .ok (.ifCond .ne 6, 3) := by decide +kernel
theorem dX11_holes_16 : decode cX11_holes 16 = .ok (.bipush (-2), 2) := by decide +kernel
theorem dX11_holes_18 : decode cX11_holes 18 = .ok (.ireturn, 1) := by decide +kernel
set_option maxRecDepth 20000 in
theorem ggX11_run_X11_hasSpan : GoodIn wsX11_run wsX11_hasSpan := goodIn_r _ [8, 1, 9, 10, 11, 12, 13, 14, 15, 16, 7, 17, 18, 19, 20, 91, 92, 93, 94, 95, 96, 97, 98, 99, 100, 101, 102, 103, 104, 105, 106, 113, 114, 115, 116, 117, 118, 119, 120, 121, 122, 123, 124, 125, 126, 127, 128, 129] (by decide +kernel) (by decide +kernel)
set_option maxRecDepth 20000 in
theorem gX11_run_X11_hasSpan : GoodIn wsX11_run (wsV RX11 191 RX11 yX11_hasSpan wsX11_hasSpan) := goodIn_app (goodIn_of _ (by decide +kernel)) ggX11_run_X11_hasSpan
theorem dX11_run_0 : decode cX11_run 0 = .ok (.aload_n 0, 1) := by decide +kernel
theorem dX11_run_1 : decode cX11_run 1 = .ok (.iload_n 1, 1) := by decide +kernel
theorem dX11_run_2 : decode cX11_run 2 = .ok (.iload_n 2, 1) := by decide +kernel
theorem dX11_run_3 : decode cX11_run 3 = .ok (.invokevirtual 191, 3) := by decide +kernel
theorem dX11_run_6 : decode cX11_run 6 = .ok (.ifCond .ne 6, 3) := by decide +kernel
theorem dX11_run_9 : decode cX11_run 9 = .ok (.bipush (-2), 2) := by decide +kernel
theorem dX11_run_11 : decode cX11_run 11 = .ok (.ireturn, 1) := by decide +kernel
set_option maxRecDepth 20000 in
theorem ggX11_begins_X11_hasSpan : GoodIn wsX11_begins wsX11_hasSpan := goodIn_r _ [8, 1, 9, 10, 11, 12, 13, 14, 15, 16, 7, 17, 18, 19, 20, 91, 92, 93, 94, 95, 96, 97, 98, 99, 100, 101, 102, 103, 104, 105, 106, 113, 114, 115, 116, 117, 118, 119, 120, 121, 122, 123, 124, 125, 126, 127, 128, 129] (by decide +kernel) (by decide +kernel)
set_option maxRecDepth 20000 in
theorem gX11_begins_X11_hasSpan : GoodIn wsX11_begins (wsV RX11 191 RX11 yX11_hasSpan wsX11_hasSpan) := goodIn_app (goodIn_of _ (by decide +kernel)) ggX11_begins_X11_hasSpan
theorem dX11_begins_0 : decode cX11_begins 0 = .ok (.aload_n 0, 1) := by decide +kernel
theorem dX11_begins_1 : decode cX11_begins 1 = .ok (.iload_n 1, 1) := by decide +kernel
theorem dX11_begins_2 : decode cX11_begins 2 = .ok (.iload_n 2, 1) := by decide +kernel
theorem dX11_begins_3 : decode cX11_begins 3 = .ok (.invokevirtual 191, 3) := by decide +kernel
theorem dX11_begins_6 : decode cX11_begins 6 = .ok (.ifCond .ne 6, 3) := by decide +kernel
theorem dX11_begins_9 : decode cX11_begins 9 = .ok (.bipush (-2), 2) := by decide +kernel
theorem dX11_begins_11 : decode cX11_begins 11 = .ok (.ireturn, 1) := by decide +kernel
set_option maxRecDepth 20000 in
theorem ggX11_undoes_X0_hasStumble : GoodIn wsX11_undoes wsX0_hasStumble := goodIn_r _ [7, 8, 9, 10, 11, 101, 102, 103, 104, 105, 106, 107, 108, 109, 110, 111, 112, 113, 114, 115, 116, 117] (by decide +kernel) (by decide +kernel)
set_option maxRecDepth 20000 in
theorem gX11_undoes_X0_hasStumble : GoodIn wsX11_undoes (wsV RX11 147 RX0 yX0_hasStumble wsX0_hasStumble) := goodIn_app (goodIn_of _ (by decide +kernel)) ggX11_undoes_X0_hasStumble
theorem dX11_undoes_0 : decode cX11_undoes 0 = .ok (.aload_n 0, 1) := by decide +kernel
theorem dX11_undoes_1 : decode cX11_undoes 1 = .ok (.getfield 24, 3) := by decide +kernel
theorem dX11_undoes_4 : decode cX11_undoes 4 = .ok (.iload_n 1, 1) := by decide +kernel
theorem dX11_undoes_5 : decode cX11_undoes 5 = .ok (.invokevirtual 147, 3) := by decide +kernel
theorem dX11_undoes_8 : decode cX11_undoes 8 = .ok (.ifCond .ne 7, 3) := by decide +kernel
theorem dX11_undoes_11 : decode cX11_undoes 11 = .ok (.sipush (-1000), 3) := by decide +kernel
theorem dX11_undoes_14 : decode cX11_undoes 14 = .ok (.ireturn, 1) := by decide +kernel
set_option maxRecDepth 20000 in
theorem ggX11_causes_X11_has : GoodIn wsX11_causes wsX11_has := goodIn_r _ [8, 1, 9, 10, 11, 12, 13, 14, 15, 16, 7, 17, 18, 19, 20, 21, 22, 23, 89, 90, 91, 92, 93, 94, 95, 96, 97, 98, 99, 100, 101, 102, 103, 104, 105, 106, 107, 108, 109, 110, 111, 112, 113, 114, 115, 116, 117, 118, 119, 120, 121] (by decide +kernel) (by decide +kernel)
set_option maxRecDepth 20000 in
theorem gX11_causes_X11_has : GoodIn wsX11_causes (wsV RX11 162 RX11 yX11_has wsX11_has) := goodIn_app (goodIn_of _ (by decide +kernel)) ggX11_causes_X11_has
theorem dX11_causes_0 : decode cX11_causes 0 = .ok (.aload_n 0, 1) := by decide +kernel
theorem dX11_causes_1 : decode cX11_causes 1 = .ok (.iload_n 1, 1) := by decide +kernel
theorem dX11_causes_2 : decode cX11_causes 2 = .ok (.iload_n 2, 1) := by decide +kernel
theorem dX11_causes_3 : decode cX11_causes 3 = .ok (.invokevirtual 162, 3) := by decide +kernel
theorem dX11_causes_6 : decode cX11_causes 6 = .ok (.ifCond .ne 6, 3) := by decide +kernel
theorem dX11_causes_9 : decode cX11_causes 9 = .ok (.bipush (-2), 2) := by decide +kernel
theorem dX11_causes_11 : decode cX11_causes 11 = .ok (.ireturn, 1) := by decide +kernel
set_option maxRecDepth 20000 in
theorem ggX11_period_X0_stands : GoodIn wsX11_period wsX0_stands := goodIn_r _ [6, 7, 40, 41, 42, 43, 44, 45, 46, 47, 48, 49, 50, 51, 52, 53, 54, 55, 56] (by decide +kernel) (by decide +kernel)
set_option maxRecDepth 20000 in
theorem gX11_period_X0_stands : GoodIn wsX11_period (wsV RX11 125 RX0 yX0_stands wsX0_stands) := goodIn_app (goodIn_of _ (by decide +kernel)) ggX11_period_X0_stands
theorem dX11_period_0 : decode cX11_period 0 = .ok (.aload_n 0, 1) := by decide +kernel
theorem dX11_period_1 : decode cX11_period 1 = .ok (.getfield 24, 3) := by decide +kernel
theorem dX11_period_4 : decode cX11_period 4 = .ok (.invokevirtual 125, 3) := by decide +kernel
theorem dX11_period_7 : decode cX11_period 7 = .ok (.ifCond .ne 6, 3) := by decide +kernel
theorem dX11_period_10 : decode cX11_period 10 = .ok (.bipush (-2), 2) := by decide +kernel
theorem dX11_period_12 : decode cX11_period 12 = .ok (.ireturn, 1) := by decide +kernel
set_option maxRecDepth 20000 in
theorem ggX11_meets_X0_stands : GoodIn wsX11_meets wsX0_stands := goodIn_r _ [6, 7, 59, 60, 61, 62, 63, 64, 65, 66, 67, 68, 69, 70, 71, 72, 73, 74, 75] (by decide +kernel) (by decide +kernel)
set_option maxRecDepth 20000 in
theorem gX11_meets_X0_stands : GoodIn wsX11_meets (wsV RX11 125 RX0 yX0_stands wsX0_stands) := goodIn_app (goodIn_of _ (by decide +kernel)) ggX11_meets_X0_stands
theorem dX11_meets_0 : decode cX11_meets 0 = .ok (.aload_n 0, 1) := by decide +kernel
theorem dX11_meets_1 : decode cX11_meets 1 = .ok (.getfield 24, 3) := by decide +kernel
theorem dX11_meets_4 : decode cX11_meets 4 = .ok (.invokevirtual 125, 3) := by decide +kernel
theorem dX11_meets_7 : decode cX11_meets 7 = .ok (.ifCond .eq 34, 3) := by decide +kernel
theorem dX11_meets_41 : decode cX11_meets 41 = .ok (.bipush (-2), 2) := by decide +kernel
theorem dX11_meets_43 : decode cX11_meets 43 = .ok (.ireturn, 1) := by decide +kernel
set_option maxRecDepth 20000 in
theorem ggX11_shifted_X11_hasRounds : GoodIn wsX11_shifted wsX11_hasRounds := goodIn_r _ [7, 1, 8, 9, 10, 11, 12, 13, 14, 15, 16, 17, 18, 63, 64, 65, 66, 67, 68, 69, 70, 71, 72, 73, 74, 75, 76, 77, 78, 79, 80, 81, 82, 83, 84, 85, 86, 87, 88, 89, 90, 91, 92, 93, 94, 95] (by decide +kernel) (by decide +kernel)
set_option maxRecDepth 20000 in
theorem gX11_shifted_X11_hasRounds : GoodIn wsX11_shifted (wsV RX11 228 RX11 yX11_hasRounds wsX11_hasRounds) := goodIn_app (goodIn_of _ (by decide +kernel)) ggX11_shifted_X11_hasRounds
theorem dX11_shifted_0 : decode cX11_shifted 0 = .ok (.aload_n 0, 1) := by decide +kernel
theorem dX11_shifted_1 : decode cX11_shifted 1 = .ok (.invokevirtual 228, 3) := by decide +kernel
theorem dX11_shifted_4 : decode cX11_shifted 4 = .ok (.ifCond .eq 19, 3) := by decide +kernel
theorem dX11_shifted_23 : decode cX11_shifted 23 = .ok (.bipush (-2), 2) := by decide +kernel
theorem dX11_shifted_25 : decode cX11_shifted 25 = .ok (.ireturn, 1) := by decide +kernel
set_option maxRecDepth 20000 in
theorem ggX11_shift_X11_hasRounds : GoodIn wsX11_shift wsX11_hasRounds := goodIn_r _ [6, 1, 7, 8, 9, 10, 11, 12, 13, 14, 15, 16, 17, 63, 64, 65, 66, 67, 68, 69, 70, 71, 72, 73, 74, 75, 76, 77, 78, 79, 80, 81, 82, 83, 84, 85, 86, 87, 88, 89, 90, 91, 92, 93, 94, 95] (by decide +kernel) (by decide +kernel)
set_option maxRecDepth 20000 in
theorem gX11_shift_X11_hasRounds : GoodIn wsX11_shift (wsV RX11 228 RX11 yX11_hasRounds wsX11_hasRounds) := goodIn_app (goodIn_of _ (by decide +kernel)) ggX11_shift_X11_hasRounds
theorem dX11_shift_0 : decode cX11_shift 0 = .ok (.aload_n 0, 1) := by decide +kernel
theorem dX11_shift_1 : decode cX11_shift 1 = .ok (.invokevirtual 228, 3) := by decide +kernel
theorem dX11_shift_4 : decode cX11_shift 4 = .ok (.ifCond .ne 6, 3) := by decide +kernel
theorem dX11_shift_7 : decode cX11_shift 7 = .ok (.bipush (-2), 2) := by decide +kernel
theorem dX11_shift_9 : decode cX11_shift 9 = .ok (.ireturn, 1) := by decide +kernel
set_option maxRecDepth 20000 in
theorem ggX11_least_X11_hasRounds : GoodIn wsX11_least wsX11_hasRounds := goodIn_r _ [6, 1, 7, 8, 9, 10, 11, 12, 13, 14, 15, 16, 17, 62, 63, 64, 65, 66, 67, 68, 69, 70, 71, 72, 73, 74, 75, 76, 77, 78, 79, 80, 81, 82, 83, 84, 85, 86, 87, 88, 89, 90, 91, 92, 93, 94] (by decide +kernel) (by decide +kernel)
set_option maxRecDepth 20000 in
theorem gX11_least_X11_hasRounds : GoodIn wsX11_least (wsV RX11 228 RX11 yX11_hasRounds wsX11_hasRounds) := goodIn_app (goodIn_of _ (by decide +kernel)) ggX11_least_X11_hasRounds
theorem dX11_least_0 : decode cX11_least 0 = .ok (.aload_n 0, 1) := by decide +kernel
theorem dX11_least_1 : decode cX11_least 1 = .ok (.invokevirtual 228, 3) := by decide +kernel
theorem dX11_least_4 : decode cX11_least 4 = .ok (.ifCond .eq 13, 3) := by decide +kernel
theorem dX11_least_17 : decode cX11_least 17 = .ok (.bipush (-2), 2) := by decide +kernel
theorem dX11_least_19 : decode cX11_least 19 = .ok (.ireturn, 1) := by decide +kernel
set_option maxRecDepth 20000 in
theorem ggX11_mend_X11_hasRounds : GoodIn wsX11_mend wsX11_hasRounds := goodIn_r _ [7, 2, 8, 9, 10, 11, 12, 13, 14, 15, 16, 17, 18, 89, 90, 91, 92, 93, 94, 95, 96, 97, 98, 99, 100, 101, 102, 103, 104, 105, 106, 107, 108, 109, 110, 111, 112, 113, 114, 115, 116, 117, 118, 119, 120, 121] (by decide +kernel) (by decide +kernel)
set_option maxRecDepth 20000 in
theorem gX11_mend_X11_hasRounds : GoodIn wsX11_mend (wsV RX11 228 RX11 yX11_hasRounds wsX11_hasRounds) := goodIn_app (goodIn_of _ (by decide +kernel)) ggX11_mend_X11_hasRounds
theorem dX11_mend_0 : decode cX11_mend 0 = .ok (.aload_n 0, 1) := by decide +kernel
theorem dX11_mend_1 : decode cX11_mend 1 = .ok (.invokevirtual 228, 3) := by decide +kernel
theorem dX11_mend_4 : decode cX11_mend 4 = .ok (.ifCond .eq 10, 3) := by decide +kernel
theorem dX11_mend_14 : decode cX11_mend 14 = .ok (.bipush (-2), 2) := by decide +kernel
theorem dX11_mend_16 : decode cX11_mend 16 = .ok (.ireturn, 1) := by decide +kernel
set_option maxRecDepth 20000 in
theorem ggX11_mended_X11_hasRounds : GoodIn wsX11_mended wsX11_hasRounds := goodIn_r _ [7, 1, 8, 9, 10, 11, 12, 13, 14, 15, 16, 17, 18, 89, 90, 91, 92, 93, 94, 95, 96, 97, 98, 99, 100, 101, 102, 103, 104, 105, 106, 107, 108, 109, 110, 111, 112, 113, 114, 115, 116, 117, 118, 119, 120, 121] (by decide +kernel) (by decide +kernel)
set_option maxRecDepth 20000 in
theorem gX11_mended_X11_hasRounds : GoodIn wsX11_mended (wsV RX11 228 RX11 yX11_hasRounds wsX11_hasRounds) := goodIn_app (goodIn_of _ (by decide +kernel)) ggX11_mended_X11_hasRounds
theorem dX11_mended_0 : decode cX11_mended 0 = .ok (.aload_n 0, 1) := by decide +kernel
theorem dX11_mended_1 : decode cX11_mended 1 = .ok (.invokevirtual 228, 3) := by decide +kernel
theorem dX11_mended_4 : decode cX11_mended 4 = .ok (.ifCond .eq 22, 3) := by decide +kernel
theorem dX11_mended_26 : decode cX11_mended 26 = .ok (.bipush (-2), 2) := by decide +kernel
theorem dX11_mended_28 : decode cX11_mended 28 = .ok (.ireturn, 1) := by decide +kernel
set_option maxRecDepth 20000 in
theorem ggX11_stuck_X11_hasRounds : GoodIn wsX11_stuck wsX11_hasRounds := goodIn_r _ [7, 2, 8, 9, 10, 11, 12, 13, 14, 15, 16, 17, 18, 76, 77, 78, 79, 80, 81, 82, 83, 84, 85, 86, 87, 88, 89, 90, 91, 92, 93, 94, 95, 96, 97, 98, 99, 100, 101, 102, 103, 104, 105, 106, 107, 108] (by decide +kernel) (by decide +kernel)
set_option maxRecDepth 20000 in
theorem gX11_stuck_X11_hasRounds : GoodIn wsX11_stuck (wsV RX11 228 RX11 yX11_hasRounds wsX11_hasRounds) := goodIn_app (goodIn_of _ (by decide +kernel)) ggX11_stuck_X11_hasRounds
theorem dX11_stuck_0 : decode cX11_stuck 0 = .ok (.aload_n 0, 1) := by decide +kernel
theorem dX11_stuck_1 : decode cX11_stuck 1 = .ok (.invokevirtual 228, 3) := by decide +kernel
theorem dX11_stuck_4 : decode cX11_stuck 4 = .ok (.ifCond .eq 10, 3) := by decide +kernel
theorem dX11_stuck_14 : decode cX11_stuck 14 = .ok (.bipush (-2), 2) := by decide +kernel
theorem dX11_stuck_16 : decode cX11_stuck 16 = .ok (.ireturn, 1) := by decide +kernel
set_option maxRecDepth 20000 in
theorem ggX11_heard_X11_listenTo : GoodIn wsX11_heard wsX11_listenTo := goodIn_r _ [6, 7, 8, 1, 9, 10, 11, 12, 13, 14, 15, 16, 17, 5, 18, 19, 20, 21, 22, 23, 24, 25, 26, 27, 28, 29, 30, 31, 32, 33, 34, 35, 36, 37, 38, 39, 40, 41, 42, 43, 44, 45, 46, 47, 48, 49, 50, 51, 52, 53, 54, 55, 56, 57, 58, 59, 60, 61, 62, 63, 64, 65, 66, 67, 68, 69, 70, 71, 72, 73, 74, 75, 76, 77, 78, 79, 80, 81, 82, 83, 84, 85, 86, 87, 88, 89, 90, 91, 92, 93, 94, 95, 96, 116, 117, 118, 119, 120, 121, 122, 123, 124, 125, 126, 127, 128, 129, 130, 131, 132, 133, 134, 135, 136, 137, 138, 139, 140, 141, 142, 143, 144, 145, 146, 147, 148, 149, 150, 151, 152, 153, 154, 155, 156, 157, 158, 159, 160, 161, 162, 163] (by decide +kernel) (by decide +kernel)
set_option maxRecDepth 20000 in
theorem gX11_heard_X11_listenTo : GoodIn wsX11_heard (wsV RX11 251 RX11 yX11_listenTo wsX11_listenTo) := goodIn_app (goodIn_of _ (by decide +kernel)) ggX11_heard_X11_listenTo
theorem dX11_heard_0 : decode cX11_heard 0 = .ok (.aload_n 0, 1) := by decide +kernel
theorem dX11_heard_1 : decode cX11_heard 1 = .ok (.iload_n 1, 1) := by decide +kernel
theorem dX11_heard_2 : decode cX11_heard 2 = .ok (.iload_n 2, 1) := by decide +kernel
theorem dX11_heard_3 : decode cX11_heard 3 = .ok (.invokevirtual 251, 3) := by decide +kernel
theorem dX11_heard_6 : decode cX11_heard 6 = .ok (.istore_n 3, 1) := by decide +kernel
theorem dX11_heard_7 : decode cX11_heard 7 = .ok (.iload_n 3, 1) := by decide +kernel
theorem dX11_heard_8 : decode cX11_heard 8 = .ok (.ifCond .ge 7, 3) := by decide +kernel
theorem dX11_heard_11 : decode cX11_heard 11 = .ok (.iload_n 3, 1) := by decide +kernel
theorem dX11_heard_12 : decode cX11_heard 12 = .ok (.goto 10, 3) := by decide +kernel
theorem dX11_heard_22 : decode cX11_heard 22 = .ok (.ireturn, 1) := by decide +kernel
set_option maxRecDepth 20000 in
theorem ggX11_first_X11_listenTo : GoodIn wsX11_first wsX11_listenTo := goodIn_r _ [6, 7, 8, 1, 9, 10, 11, 12, 13, 14, 15, 16, 17, 5, 18, 19, 20, 21, 22, 23, 24, 25, 26, 27, 28, 29, 30, 31, 32, 33, 34, 35, 36, 37, 38, 39, 40, 41, 42, 43, 44, 45, 46, 47, 48, 49, 50, 51, 52, 53, 54, 55, 56, 57, 58, 59, 60, 61, 62, 63, 64, 65, 66, 67, 68, 69, 70, 71, 72, 73, 74, 75, 76, 77, 78, 79, 80, 81, 82, 83, 84, 85, 86, 87, 88, 89, 90, 91, 92, 93, 94, 95, 96, 109, 110, 111, 112, 113, 114, 115, 116, 117, 118, 119, 120, 121, 122, 123, 124, 125, 126, 127, 128, 129, 130, 131, 132, 133, 134, 135, 136, 137, 138, 139, 140, 141, 142, 143, 144, 145, 146, 147, 148, 149, 150, 151, 152, 153, 154, 155, 156] (by decide +kernel) (by decide +kernel)
set_option maxRecDepth 20000 in
theorem gX11_first_X11_listenTo : GoodIn wsX11_first (wsV RX11 251 RX11 yX11_listenTo wsX11_listenTo) := goodIn_app (goodIn_of _ (by decide +kernel)) ggX11_first_X11_listenTo
theorem dX11_first_0 : decode cX11_first 0 = .ok (.aload_n 0, 1) := by decide +kernel
theorem dX11_first_1 : decode cX11_first 1 = .ok (.iload_n 1, 1) := by decide +kernel
theorem dX11_first_2 : decode cX11_first 2 = .ok (.iload_n 2, 1) := by decide +kernel
theorem dX11_first_3 : decode cX11_first 3 = .ok (.invokevirtual 251, 3) := by decide +kernel
theorem dX11_first_6 : decode cX11_first 6 = .ok (.istore_n 3, 1) := by decide +kernel
theorem dX11_first_7 : decode cX11_first 7 = .ok (.iload_n 3, 1) := by decide +kernel
theorem dX11_first_8 : decode cX11_first 8 = .ok (.ifCond .ge 7, 3) := by decide +kernel
theorem dX11_first_11 : decode cX11_first 11 = .ok (.iload_n 3, 1) := by decide +kernel
theorem dX11_first_12 : decode cX11_first 12 = .ok (.goto 10, 3) := by decide +kernel
theorem dX11_first_22 : decode cX11_first 22 = .ok (.ireturn, 1) := by decide +kernel
set_option maxRecDepth 20000 in
theorem ggX11_when_X11_listenTo : GoodIn wsX11_when wsX11_listenTo := goodIn_r _ [6, 7, 8, 1, 9, 10, 11, 12, 13, 14, 15, 16, 17, 5, 18, 19, 20, 21, 22, 23, 24, 25, 26, 27, 28, 29, 30, 31, 32, 33, 34, 35, 36, 37, 38, 39, 40, 41, 42, 43, 44, 45, 46, 47, 48, 49, 50, 51, 52, 53, 54, 55, 56, 57, 58, 59, 60, 61, 62, 63, 64, 65, 66, 67, 68, 69, 70, 71, 72, 73, 74, 75, 76, 77, 78, 79, 80, 81, 82, 83, 84, 85, 86, 87, 88, 89, 90, 91, 92, 93, 94, 95, 96, 109, 110, 111, 112, 113, 114, 115, 116, 117, 118, 119, 120, 121, 122, 123, 124, 125, 126, 127, 128, 129, 130, 131, 132, 133, 134, 135, 136, 137, 138, 139, 140, 141, 142, 143, 144, 145, 146, 147, 148, 149, 150, 151, 152, 153, 154, 155, 156] (by decide +kernel) (by decide +kernel)
set_option maxRecDepth 20000 in
theorem gX11_when_X11_listenTo : GoodIn wsX11_when (wsV RX11 251 RX11 yX11_listenTo wsX11_listenTo) := goodIn_app (goodIn_of _ (by decide +kernel)) ggX11_when_X11_listenTo
theorem dX11_when_0 : decode cX11_when 0 = .ok (.aload_n 0, 1) := by decide +kernel
theorem dX11_when_1 : decode cX11_when 1 = .ok (.iload_n 1, 1) := by decide +kernel
theorem dX11_when_2 : decode cX11_when 2 = .ok (.iload_n 2, 1) := by decide +kernel
theorem dX11_when_3 : decode cX11_when 3 = .ok (.invokevirtual 251, 3) := by decide +kernel
theorem dX11_when_6 : decode cX11_when 6 = .ok (.istore_n 3, 1) := by decide +kernel
theorem dX11_when_7 : decode cX11_when 7 = .ok (.iload_n 3, 1) := by decide +kernel
theorem dX11_when_8 : decode cX11_when 8 = .ok (.ifCond .ge 8, 3) := by decide +kernel
theorem dX11_when_11 : decode cX11_when 11 = .ok (.iload_n 3, 1) := by decide +kernel
theorem dX11_when_12 : decode cX11_when 12 = .ok (.i2l, 1) := by decide +kernel
theorem dX11_when_13 : decode cX11_when 13 = .ok (.goto 10, 3) := by decide +kernel
theorem dX11_when_23 : decode cX11_when 23 = .ok (.lreturn, 1) := by decide +kernel
set_option maxRecDepth 20000 in
theorem ggX11_listen_X11_listenTo : GoodIn wsX11_listen wsX11_listenTo := goodIn_r _ [7, 8, 9, 1, 10, 11, 12, 13, 14, 15, 16, 17, 18, 6, 19, 20, 21, 22, 23, 24, 25, 26, 27, 28, 29, 30, 31, 32, 33, 34, 35, 36, 37, 38, 39, 40, 41, 42, 43, 44, 45, 46, 47, 48, 49, 50, 51, 52, 53, 54, 55, 56, 57, 58, 59, 60, 61, 62, 63, 64, 65, 66, 67, 68, 69, 70, 71, 72, 73, 74, 75, 76, 77, 78, 79, 80, 81, 82, 83, 84, 85, 86, 87, 88, 89, 90, 91, 92, 93, 94, 95, 96, 97, 133, 134, 135, 136, 137, 138, 139, 140, 141, 142, 143, 144, 145, 146, 147, 148, 161, 162, 163, 164, 165, 166, 167, 168, 169, 170, 171, 172, 173, 174, 175, 176, 177, 178, 179, 180, 149, 150, 151, 152, 153, 154, 155, 156, 157, 158, 159, 160] (by decide +kernel) (by decide +kernel)
set_option maxRecDepth 20000 in
theorem gX11_listen_X11_listenTo : GoodIn wsX11_listen (wsV RX11 251 RX11 yX11_listenTo wsX11_listenTo) := goodIn_app (goodIn_of _ (by decide +kernel)) ggX11_listen_X11_listenTo
theorem dX11_listen_0 : decode cX11_listen 0 = .ok (.aload_n 0, 1) := by decide +kernel
theorem dX11_listen_1 : decode cX11_listen 1 = .ok (.iload_n 1, 1) := by decide +kernel
theorem dX11_listen_2 : decode cX11_listen 2 = .ok (.iload_n 2, 1) := by decide +kernel
theorem dX11_listen_3 : decode cX11_listen 3 = .ok (.invokevirtual 251, 3) := by decide +kernel
theorem dX11_listen_6 : decode cX11_listen 6 = .ok (.istore_n 3, 1) := by decide +kernel
theorem dX11_listen_7 : decode cX11_listen 7 = .ok (.iload_n 3, 1) := by decide +kernel
theorem dX11_listen_8 : decode cX11_listen 8 = .ok (.ifCond .ge 5, 3) := by decide +kernel
theorem dX11_listen_11 : decode cX11_listen 11 = .ok (.iload_n 3, 1) := by decide +kernel
theorem dX11_listen_12 : decode cX11_listen 12 = .ok (.ireturn, 1) := by decide +kernel
set_option maxRecDepth 20000 in
theorem ggX11_leaves_X11_listenTo : GoodIn wsX11_leaves wsX11_listenTo := goodIn_r _ [7, 8, 9, 1, 10, 11, 12, 13, 14, 15, 16, 17, 18, 6, 19, 20, 21, 22, 23, 24, 25, 26, 27, 28, 29, 30, 31, 32, 33, 34, 35, 36, 37, 38, 39, 40, 41, 42, 43, 44, 45, 46, 47, 48, 49, 50, 51, 52, 53, 54, 55, 56, 57, 58, 59, 60, 61, 62, 63, 64, 65, 66, 67, 68, 69, 70, 71, 72, 73, 74, 75, 76, 77, 78, 79, 80, 81, 82, 83, 84, 85, 86, 87, 88, 89, 90, 91, 92, 93, 94, 95, 96, 97, 133, 134, 135, 136, 137, 138, 139, 140, 141, 142, 143, 144, 145, 146, 147, 148, 161, 162, 163, 164, 165, 166, 167, 168, 169, 170, 171, 172, 173, 174, 175, 176, 177, 178, 179, 180, 149, 150, 151, 152, 153, 154, 155, 156, 157, 158, 159, 160] (by decide +kernel) (by decide +kernel)
set_option maxRecDepth 20000 in
theorem gX11_leaves_X11_listenTo : GoodIn wsX11_leaves (wsV RX11 251 RX11 yX11_listenTo wsX11_listenTo) := goodIn_app (goodIn_of _ (by decide +kernel)) ggX11_leaves_X11_listenTo
theorem dX11_leaves_0 : decode cX11_leaves 0 = .ok (.aload_n 0, 1) := by decide +kernel
theorem dX11_leaves_1 : decode cX11_leaves 1 = .ok (.iload_n 1, 1) := by decide +kernel
theorem dX11_leaves_2 : decode cX11_leaves 2 = .ok (.iload_n 2, 1) := by decide +kernel
theorem dX11_leaves_3 : decode cX11_leaves 3 = .ok (.invokevirtual 251, 3) := by decide +kernel
theorem dX11_leaves_6 : decode cX11_leaves 6 = .ok (.istore_n 3, 1) := by decide +kernel
theorem dX11_leaves_7 : decode cX11_leaves 7 = .ok (.iload_n 3, 1) := by decide +kernel
theorem dX11_leaves_8 : decode cX11_leaves 8 = .ok (.ifCond .ge 5, 3) := by decide +kernel
theorem dX11_leaves_11 : decode cX11_leaves 11 = .ok (.iload_n 3, 1) := by decide +kernel
theorem dX11_leaves_12 : decode cX11_leaves 12 = .ok (.ireturn, 1) := by decide +kernel
set_option maxRecDepth 20000 in
theorem ggX11_crosses_X0_stands : GoodIn wsX11_crosses wsX0_stands := goodIn_r _ [7, 8, 46, 47, 48, 49, 50, 51, 52, 53, 54, 55, 56, 57, 58, 59, 60, 61, 62] (by decide +kernel) (by decide +kernel)
set_option maxRecDepth 20000 in
theorem gX11_crosses_X0_stands : GoodIn wsX11_crosses (wsV RX11 125 RX0 yX0_stands wsX0_stands) := goodIn_app (goodIn_of _ (by decide +kernel)) ggX11_crosses_X0_stands
theorem dX11_crosses_0 : decode cX11_crosses 0 = .ok (.aload_n 0, 1) := by decide +kernel
theorem dX11_crosses_1 : decode cX11_crosses 1 = .ok (.getfield 24, 3) := by decide +kernel
theorem dX11_crosses_4 : decode cX11_crosses 4 = .ok (.invokevirtual 125, 3) := by decide +kernel
theorem dX11_crosses_7 : decode cX11_crosses 7 = .ok (.ifCond .eq 26, 3) := by decide +kernel
theorem dX11_crosses_33 : decode cX11_crosses 33 = .ok (.bipush (-2), 2) := by decide +kernel
theorem dX11_crosses_35 : decode cX11_crosses 35 = .ok (.ireturn, 1) := by decide +kernel
set_option maxRecDepth 20000 in
theorem ggX11_returns_X0_stands : GoodIn wsX11_returns wsX0_stands := goodIn_r _ [7, 8, 46, 47, 48, 49, 50, 51, 52, 53, 54, 55, 56, 57, 58, 59, 60, 61, 62] (by decide +kernel) (by decide +kernel)
set_option maxRecDepth 20000 in
theorem gX11_returns_X0_stands : GoodIn wsX11_returns (wsV RX11 125 RX0 yX0_stands wsX0_stands) := goodIn_app (goodIn_of _ (by decide +kernel)) ggX11_returns_X0_stands
theorem dX11_returns_0 : decode cX11_returns 0 = .ok (.aload_n 0, 1) := by decide +kernel
theorem dX11_returns_1 : decode cX11_returns 1 = .ok (.getfield 24, 3) := by decide +kernel
theorem dX11_returns_4 : decode cX11_returns 4 = .ok (.invokevirtual 125, 3) := by decide +kernel
theorem dX11_returns_7 : decode cX11_returns 7 = .ok (.ifCond .eq 26, 3) := by decide +kernel
theorem dX11_returns_33 : decode cX11_returns 33 = .ok (.bipush (-2), 2) := by decide +kernel
theorem dX11_returns_35 : decode cX11_returns 35 = .ok (.ireturn, 1) := by decide +kernel
set_option maxRecDepth 20000 in
theorem ggX11_meet_X0_stands : GoodIn wsX11_meet wsX0_stands := goodIn_r _ [8, 9, 60, 61, 62, 63, 64, 65, 66, 67, 68, 69, 70, 71, 72, 73, 74, 75, 76] (by decide +kernel) (by decide +kernel)
set_option maxRecDepth 20000 in
theorem gX11_meet_X0_stands : GoodIn wsX11_meet (wsV RX11 125 RX0 yX0_stands wsX0_stands) := goodIn_app (goodIn_of _ (by decide +kernel)) ggX11_meet_X0_stands
theorem dX11_meet_0 : decode cX11_meet 0 = .ok (.aload_n 0, 1) := by decide +kernel
theorem dX11_meet_1 : decode cX11_meet 1 = .ok (.getfield 24, 3) := by decide +kernel
theorem dX11_meet_4 : decode cX11_meet 4 = .ok (.invokevirtual 125, 3) := by decide +kernel
theorem dX11_meet_7 : decode cX11_meet 7 = .ok (.ifCond .eq 17, 3) := by decide +kernel
theorem dX11_meet_24 : decode cX11_meet 24 = .ok (.bipush (-2), 2) := by decide +kernel
theorem dX11_meet_26 : decode cX11_meet 26 = .ok (.ireturn, 1) := by decide +kernel
set_option maxRecDepth 20000 in
theorem ggX11_cell_X0_stands : GoodIn wsX11_cell wsX0_stands := goodIn_r _ [8, 9, 60, 61, 62, 63, 64, 65, 66, 67, 68, 69, 70, 71, 72, 73, 74, 75, 76] (by decide +kernel) (by decide +kernel)
set_option maxRecDepth 20000 in
theorem gX11_cell_X0_stands : GoodIn wsX11_cell (wsV RX11 125 RX0 yX0_stands wsX0_stands) := goodIn_app (goodIn_of _ (by decide +kernel)) ggX11_cell_X0_stands
theorem dX11_cell_0 : decode cX11_cell 0 = .ok (.aload_n 0, 1) := by decide +kernel
theorem dX11_cell_1 : decode cX11_cell 1 = .ok (.getfield 24, 3) := by decide +kernel
theorem dX11_cell_4 : decode cX11_cell 4 = .ok (.invokevirtual 125, 3) := by decide +kernel
theorem dX11_cell_7 : decode cX11_cell 7 = .ok (.ifCond .eq 17, 3) := by decide +kernel
theorem dX11_cell_24 : decode cX11_cell 24 = .ok (.bipush (-2), 2) := by decide +kernel
theorem dX11_cell_26 : decode cX11_cell 26 = .ok (.ireturn, 1) := by decide +kernel
set_option maxRecDepth 20000 in
theorem ggX11_longest_X0_stands : GoodIn wsX11_longest wsX0_stands := goodIn_r _ [7, 8, 48, 49, 50, 51, 52, 53, 54, 55, 56, 57, 58, 59, 60, 61, 62, 63, 64] (by decide +kernel) (by decide +kernel)
set_option maxRecDepth 20000 in
theorem gX11_longest_X0_stands : GoodIn wsX11_longest (wsV RX11 125 RX0 yX0_stands wsX0_stands) := goodIn_app (goodIn_of _ (by decide +kernel)) ggX11_longest_X0_stands
theorem dX11_longest_0 : decode cX11_longest 0 = .ok (.aload_n 0, 1) := by decide +kernel
theorem dX11_longest_1 : decode cX11_longest 1 = .ok (.getfield 24, 3) := by decide +kernel
theorem dX11_longest_4 : decode cX11_longest 4 = .ok (.invokevirtual 125, 3) := by decide +kernel
theorem dX11_longest_7 : decode cX11_longest 7 = .ok (.ifCond .eq 17, 3) := by decide +kernel
theorem dX11_longest_24 : decode cX11_longest 24 = .ok (.bipush (-2), 2) := by decide +kernel
theorem dX11_longest_26 : decode cX11_longest 26 = .ok (.ireturn, 1) := by decide +kernel
set_option maxRecDepth 20000 in
theorem ggX11_half_X7_refusalOfSteps : GoodIn wsX11_half wsX7_refusalOfSteps := goodIn_r _ [6, 7, 8, 9, 5, 10, 11, 12, 13, 14, 15, 16, 17, 18, 19, 20, 21, 22, 23, 24, 25, 26, 27, 28, 29, 30, 65, 66, 67] (by decide +kernel) (by decide +kernel)
set_option maxRecDepth 20000 in
theorem gX11_half_X7_refusalOfSteps : GoodIn wsX11_half (wsV RX11 289 RX7 yX7_refusalOfSteps wsX7_refusalOfSteps) := goodIn_app (goodIn_of _ (by decide +kernel)) ggX11_half_X7_refusalOfSteps
theorem dX11_half_0 : decode cX11_half 0 = .ok (.aload_n 0, 1) := by decide +kernel
theorem dX11_half_1 : decode cX11_half 1 = .ok (.getfield 98, 3) := by decide +kernel
theorem dX11_half_4 : decode cX11_half 4 = .ok (.iload_n 1, 1) := by decide +kernel
theorem dX11_half_5 : decode cX11_half 5 = .ok (.invokevirtual 289, 3) := by decide +kernel
theorem dX11_half_8 : decode cX11_half 8 = .ok (.istore_n 2, 1) := by decide +kernel
theorem dX11_half_9 : decode cX11_half 9 = .ok (.iload_n 2, 1) := by decide +kernel
theorem dX11_half_10 : decode cX11_half 10 = .ok (.ifCond .ge 7, 3) := by decide +kernel
theorem dX11_half_13 : decode cX11_half 13 = .ok (.iload_n 2, 1) := by decide +kernel
theorem dX11_half_14 : decode cX11_half 14 = .ok (.goto 11, 3) := by decide +kernel
theorem dX11_half_25 : decode cX11_half 25 = .ok (.ireturn, 1) := by decide +kernel
set_option maxRecDepth 20000 in
theorem ggX11_fills_X7_refusalOfSteps : GoodIn wsX11_fills wsX7_refusalOfSteps := goodIn_r _ [6, 7, 8, 9, 5, 10, 11, 12, 13, 14, 15, 16, 17, 18, 19, 20, 21, 22, 23, 24, 25, 26, 27, 28, 29, 30, 67, 68, 69] (by decide +kernel) (by decide +kernel)
set_option maxRecDepth 20000 in
theorem gX11_fills_X7_refusalOfSteps : GoodIn wsX11_fills (wsV RX11 289 RX7 yX7_refusalOfSteps wsX7_refusalOfSteps) := goodIn_app (goodIn_of _ (by decide +kernel)) ggX11_fills_X7_refusalOfSteps
theorem dX11_fills_0 : decode cX11_fills 0 = .ok (.aload_n 0, 1) := by decide +kernel
theorem dX11_fills_1 : decode cX11_fills 1 = .ok (.getfield 98, 3) := by decide +kernel
theorem dX11_fills_4 : decode cX11_fills 4 = .ok (.iload_n 1, 1) := by decide +kernel
theorem dX11_fills_5 : decode cX11_fills 5 = .ok (.invokevirtual 289, 3) := by decide +kernel
theorem dX11_fills_8 : decode cX11_fills 8 = .ok (.istore_n 3, 1) := by decide +kernel
theorem dX11_fills_9 : decode cX11_fills 9 = .ok (.iload_n 3, 1) := by decide +kernel
theorem dX11_fills_10 : decode cX11_fills 10 = .ok (.ifCond .ge 5, 3) := by decide +kernel
theorem dX11_fills_13 : decode cX11_fills 13 = .ok (.iload_n 3, 1) := by decide +kernel
theorem dX11_fills_14 : decode cX11_fills 14 = .ok (.ireturn, 1) := by decide +kernel
set_option maxRecDepth 20000 in
theorem ggX11_open_X7_refusalOfSteps : GoodIn wsX11_open wsX7_refusalOfSteps := goodIn_r _ [6, 7, 8, 9, 5, 10, 11, 12, 13, 14, 15, 16, 17, 18, 19, 20, 21, 22, 23, 24, 25, 26, 27, 28, 29, 30, 69, 70, 71] (by decide +kernel) (by decide +kernel)
set_option maxRecDepth 20000 in
theorem gX11_open_X7_refusalOfSteps : GoodIn wsX11_open (wsV RX11 289 RX7 yX7_refusalOfSteps wsX7_refusalOfSteps) := goodIn_app (goodIn_of _ (by decide +kernel)) ggX11_open_X7_refusalOfSteps
theorem dX11_open_0 : decode cX11_open 0 = .ok (.aload_n 0, 1) := by decide +kernel
theorem dX11_open_1 : decode cX11_open 1 = .ok (.getfield 98, 3) := by decide +kernel
theorem dX11_open_4 : decode cX11_open 4 = .ok (.iload_n 1, 1) := by decide +kernel
theorem dX11_open_5 : decode cX11_open 5 = .ok (.invokevirtual 289, 3) := by decide +kernel
theorem dX11_open_8 : decode cX11_open 8 = .ok (.istore_n 2, 1) := by decide +kernel
theorem dX11_open_9 : decode cX11_open 9 = .ok (.iload_n 2, 1) := by decide +kernel
theorem dX11_open_10 : decode cX11_open 10 = .ok (.ifCond .ge 5, 3) := by decide +kernel
theorem dX11_open_13 : decode cX11_open 13 = .ok (.iload_n 2, 1) := by decide +kernel
theorem dX11_open_14 : decode cX11_open 14 = .ok (.ireturn, 1) := by decide +kernel
set_option maxRecDepth 20000 in
theorem ggX11_together_X11_hasSet : GoodIn wsX11_together wsX11_hasSet := goodIn_r _ [8, 3, 9, 10, 11, 12, 13, 14, 15, 16, 17, 7, 18, 49, 50, 51, 52, 53, 54, 55, 56, 57, 58, 59, 60, 61, 62, 63, 64, 65, 66, 67, 68, 69, 70, 71, 72, 73, 74, 75, 76, 77, 78, 79, 80, 81] (by decide +kernel) (by decide +kernel)
set_option maxRecDepth 20000 in
theorem gX11_together_X11_hasSet : GoodIn wsX11_together (wsV RX11 303 RX11 yX11_hasSet wsX11_hasSet) := goodIn_app (goodIn_of _ (by decide +kernel)) ggX11_together_X11_hasSet
theorem dX11_together_0 : decode cX11_together 0 = .ok (.aload_n 0, 1) := by decide +kernel
theorem dX11_together_1 : decode cX11_together 1 = .ok (.iload_n 1, 1) := by decide +kernel
theorem dX11_together_2 : decode cX11_together 2 = .ok (.invokevirtual 303, 3) := by decide +kernel
theorem dX11_together_5 : decode cX11_together 5 = .ok (.ifCond .eq 10, 3) := by decide +kernel
theorem dX11_together_15 : decode cX11_together 15 = .ok (.ldc2_w 306, 3) := by decide +kernel
theorem dX11_together_18 : decode cX11_together 18 = .ok (.lreturn, 1) := by decide +kernel
set_option maxRecDepth 20000 in
theorem ggX11_again_X11_hasSet : GoodIn wsX11_again wsX11_hasSet := goodIn_r _ [9, 3, 10, 11, 12, 13, 14, 15, 16, 17, 18, 8, 19, 39, 40, 41, 42, 43, 44, 45, 46, 47, 48, 49, 50, 51, 52, 53, 54, 57, 58, 59, 60, 61, 62, 63, 64, 65, 66, 67, 68, 69, 70, 71, 72, 73] (by decide +kernel) (by decide +kernel)
set_option maxRecDepth 20000 in
theorem gX11_again_X11_hasSet : GoodIn wsX11_again (wsV RX11 303 RX11 yX11_hasSet wsX11_hasSet) := goodIn_app (goodIn_of _ (by decide +kernel)) ggX11_again_X11_hasSet
theorem dX11_again_0 : decode cX11_again 0 = .ok (.aload_n 0, 1) := by decide +kernel
theorem dX11_again_1 : decode cX11_again 1 = .ok (.iload_n 1, 1) := by decide +kernel
theorem dX11_again_2 : decode cX11_again 2 = .ok (.invokevirtual 303, 3) := by decide +kernel
theorem dX11_again_5 : decode cX11_again 5 = .ok (.ifCond .ne 7, 3) := by decide +kernel
theorem dX11_again_8 : decode cX11_again 8 = .ok (.ldc2_w 306, 3) := by decide +kernel
theorem dX11_again_11 : decode cX11_again 11 = .ok (.lreturn, 1) := by decide +kernel
set_option maxRecDepth 20000 in
theorem ggX11_most_X0_stands : GoodIn wsX11_most wsX0_stands := goodIn_r _ [7, 8, 57, 58, 59, 60, 61, 62, 63, 64, 65, 66, 67, 68, 69, 70, 71, 72, 73] (by decide +kernel) (by decide +kernel)
set_option maxRecDepth 20000 in
theorem gX11_most_X0_stands : GoodIn wsX11_most (wsV RX11 125 RX0 yX0_stands wsX0_stands) := goodIn_app (goodIn_of _ (by decide +kernel)) ggX11_most_X0_stands
theorem dX11_most_0 : decode cX11_most 0 = .ok (.aload_n 0, 1) := by decide +kernel
theorem dX11_most_1 : decode cX11_most 1 = .ok (.getfield 24, 3) := by decide +kernel
theorem dX11_most_4 : decode cX11_most 4 = .ok (.invokevirtual 125, 3) := by decide +kernel
theorem dX11_most_7 : decode cX11_most 7 = .ok (.ifCond .eq 20, 3) := by decide +kernel
theorem dX11_most_27 : decode cX11_most 27 = .ok (.bipush (-2), 2) := by decide +kernel
theorem dX11_most_29 : decode cX11_most 29 = .ok (.ireturn, 1) := by decide +kernel
set_option maxRecDepth 20000 in
theorem ggX11_chorus_X0_stands : GoodIn wsX11_chorus wsX0_stands := goodIn_r _ [7, 8, 56, 57, 58, 59, 60, 61, 62, 63, 64, 65, 66, 67, 68, 69, 70, 71, 72] (by decide +kernel) (by decide +kernel)
set_option maxRecDepth 20000 in
theorem gX11_chorus_X0_stands : GoodIn wsX11_chorus (wsV RX11 125 RX0 yX0_stands wsX0_stands) := goodIn_app (goodIn_of _ (by decide +kernel)) ggX11_chorus_X0_stands
theorem dX11_chorus_0 : decode cX11_chorus 0 = .ok (.aload_n 0, 1) := by decide +kernel
theorem dX11_chorus_1 : decode cX11_chorus 1 = .ok (.getfield 24, 3) := by decide +kernel
theorem dX11_chorus_4 : decode cX11_chorus 4 = .ok (.invokevirtual 125, 3) := by decide +kernel
theorem dX11_chorus_7 : decode cX11_chorus 7 = .ok (.ifCond .eq 17, 3) := by decide +kernel
theorem dX11_chorus_24 : decode cX11_chorus 24 = .ok (.bipush (-2), 2) := by decide +kernel
theorem dX11_chorus_26 : decode cX11_chorus 26 = .ok (.ireturn, 1) := by decide +kernel
set_option maxRecDepth 20000 in
theorem ggX11_treaties_X0_stands : GoodIn wsX11_treaties wsX0_stands := goodIn_r _ [6, 7, 29, 30, 31, 32, 33, 34, 35, 36, 37, 38, 39, 40, 41, 42, 43, 44, 45] (by decide +kernel) (by decide +kernel)
set_option maxRecDepth 20000 in
theorem gX11_treaties_X0_stands : GoodIn wsX11_treaties (wsV RX11 125 RX0 yX0_stands wsX0_stands) := goodIn_app (goodIn_of _ (by decide +kernel)) ggX11_treaties_X0_stands
theorem dX11_treaties_0 : decode cX11_treaties 0 = .ok (.aload_n 0, 1) := by decide +kernel
theorem dX11_treaties_1 : decode cX11_treaties 1 = .ok (.getfield 24, 3) := by decide +kernel
theorem dX11_treaties_4 : decode cX11_treaties 4 = .ok (.invokevirtual 125, 3) := by decide +kernel
theorem dX11_treaties_7 : decode cX11_treaties 7 = .ok (.ifCond .ne 6, 3) := by decide +kernel
theorem dX11_treaties_10 : decode cX11_treaties 10 = .ok (.bipush (-2), 2) := by decide +kernel
theorem dX11_treaties_12 : decode cX11_treaties 12 = .ok (.ireturn, 1) := by decide +kernel
set_option maxRecDepth 20000 in
theorem ggX11_leads_X0_stands : GoodIn wsX11_leads wsX0_stands := goodIn_r _ [7, 8, 36, 37, 38, 39, 40, 41, 42, 43, 44, 45, 46, 47, 48, 49, 50, 51, 52] (by decide +kernel) (by decide +kernel)
set_option maxRecDepth 20000 in
theorem gX11_leads_X0_stands : GoodIn wsX11_leads (wsV RX11 125 RX0 yX0_stands wsX0_stands) := goodIn_app (goodIn_of _ (by decide +kernel)) ggX11_leads_X0_stands
theorem dX11_leads_0 : decode cX11_leads 0 = .ok (.aload_n 0, 1) := by decide +kernel
theorem dX11_leads_1 : decode cX11_leads 1 = .ok (.getfield 24, 3) := by decide +kernel
theorem dX11_leads_4 : decode cX11_leads 4 = .ok (.invokevirtual 125, 3) := by decide +kernel
theorem dX11_leads_7 : decode cX11_leads 7 = .ok (.ifCond .eq 11, 3) := by decide +kernel
theorem dX11_leads_18 : decode cX11_leads 18 = .ok (.bipush (-2), 2) := by decide +kernel
theorem dX11_leads_20 : decode cX11_leads 20 = .ok (.ireturn, 1) := by decide +kernel
set_option maxRecDepth 20000 in
theorem ggX11_game_X0_stands : GoodIn wsX11_game wsX0_stands := goodIn_r _ [7, 8, 49, 50, 51, 52, 53, 54, 55, 56, 57, 58, 59, 60, 61, 62, 63, 64, 65] (by decide +kernel) (by decide +kernel)
set_option maxRecDepth 20000 in
theorem gX11_game_X0_stands : GoodIn wsX11_game (wsV RX11 125 RX0 yX0_stands wsX0_stands) := goodIn_app (goodIn_of _ (by decide +kernel)) ggX11_game_X0_stands
theorem dX11_game_0 : decode cX11_game 0 = .ok (.aload_n 0, 1) := by decide +kernel
theorem dX11_game_1 : decode cX11_game 1 = .ok (.getfield 24, 3) := by decide +kernel
theorem dX11_game_4 : decode cX11_game 4 = .ok (.invokevirtual 125, 3) := by decide +kernel
theorem dX11_game_7 : decode cX11_game 7 = .ok (.ifCond .eq 10, 3) := by decide +kernel
theorem dX11_game_17 : decode cX11_game 17 = .ok (.bipush (-2), 2) := by decide +kernel
theorem dX11_game_19 : decode cX11_game 19 = .ok (.ireturn, 1) := by decide +kernel
set_option maxRecDepth 20000 in
theorem ggX11_plays_X0_stands : GoodIn wsX11_plays wsX0_stands := goodIn_r _ [7, 8, 49, 50, 51, 52, 53, 54, 55, 56, 57, 58, 59, 60, 61, 62, 63, 64, 65] (by decide +kernel) (by decide +kernel)
set_option maxRecDepth 20000 in
theorem gX11_plays_X0_stands : GoodIn wsX11_plays (wsV RX11 125 RX0 yX0_stands wsX0_stands) := goodIn_app (goodIn_of _ (by decide +kernel)) ggX11_plays_X0_stands
theorem dX11_plays_0 : decode cX11_plays 0 = .ok (.aload_n 0, 1) := by decide +kernel
theorem dX11_plays_1 : decode cX11_plays 1 = .ok (.getfield 24, 3) := by decide +kernel
theorem dX11_plays_4 : decode cX11_plays 4 = .ok (.invokevirtual 125, 3) := by decide +kernel
theorem dX11_plays_7 : decode cX11_plays 7 = .ok (.ifCond .eq 25, 3) := by decide +kernel
theorem dX11_plays_32 : decode cX11_plays 32 = .ok (.bipush (-2), 2) := by decide +kernel
theorem dX11_plays_34 : decode cX11_plays 34 = .ok (.ireturn, 1) := by decide +kernel
set_option maxRecDepth 20000 in
theorem ggX11_dry_X11_wet : GoodIn wsX11_dry wsX11_wet := goodIn_r _ [5, 6, 7, 8, 9, 10, 11, 12, 13, 14, 15, 16, 4, 17, 18, 19, 20, 21, 22, 23, 24, 25, 26, 27, 28, 29, 30, 31, 32, 33, 34, 35, 36, 37, 38, 39, 40, 41, 42, 43, 44, 45, 46, 47, 48, 49, 50, 51, 52, 53, 54, 55, 56, 57, 58, 59] (by decide +kernel) (by decide +kernel)
set_option maxRecDepth 20000 in
theorem gX11_dry_X11_wet : GoodIn wsX11_dry (wsV RX11 333 RX11 yX11_wet wsX11_wet) := goodIn_app (goodIn_of _ (by decide +kernel)) ggX11_dry_X11_wet
theorem dX11_dry_0 : decode cX11_dry 0 = .ok (.aload_n 0, 1) := by decide +kernel
theorem dX11_dry_1 : decode cX11_dry 1 = .ok (.iload_n 1, 1) := by decide +kernel
theorem dX11_dry_2 : decode cX11_dry 2 = .ok (.iconst 0, 1) := by decide +kernel
theorem dX11_dry_3 : decode cX11_dry 3 = .ok (.iload_n 2, 1) := by decide +kernel
theorem dX11_dry_4 : decode cX11_dry 4 = .ok (.invokevirtual 333, 3) := by decide +kernel
theorem dX11_dry_7 : decode cX11_dry 7 = .ok (.lreturn, 1) := by decide +kernel
set_option maxRecDepth 20000 in
theorem ggX11_wet_X0_stands : GoodIn wsX11_wet wsX0_stands := goodIn_r _ [8, 9, 39, 40, 41, 42, 43, 44, 45, 46, 47, 48, 49, 50, 51, 52, 53, 54, 55] (by decide +kernel) (by decide +kernel)
set_option maxRecDepth 20000 in
theorem gX11_wet_X0_stands : GoodIn wsX11_wet (wsV RX11 125 RX0 yX0_stands wsX0_stands) := goodIn_app (goodIn_of _ (by decide +kernel)) ggX11_wet_X0_stands
theorem dX11_wet_0 : decode cX11_wet 0 = .ok (.aload_n 0, 1) := by decide +kernel
theorem dX11_wet_1 : decode cX11_wet 1 = .ok (.getfield 24, 3) := by decide +kernel
theorem dX11_wet_4 : decode cX11_wet 4 = .ok (.invokevirtual 125, 3) := by decide +kernel
theorem dX11_wet_7 : decode cX11_wet 7 = .ok (.ifCond .eq 32, 3) := by decide +kernel
theorem dX11_wet_39 : decode cX11_wet 39 = .ok (.ldc2_w 306, 3) := by decide +kernel
theorem dX11_wet_42 : decode cX11_wet 42 = .ok (.lreturn, 1) := by decide +kernel
set_option maxRecDepth 20000 in
theorem ggX11_drawn_X11_hasNight : GoodIn wsX11_drawn wsX11_hasNight := goodIn_r _ [11, 2, 12, 13, 14, 15, 16, 17, 18, 80, 81, 82, 83, 84, 85, 86, 87, 88, 89, 90, 91, 92, 93, 94, 95, 103, 104, 105, 106, 107, 108, 109, 110, 111, 112, 113, 114, 115, 116, 117, 118, 119] (by decide +kernel) (by decide +kernel)
set_option maxRecDepth 20000 in
theorem gX11_drawn_X11_hasNight : GoodIn wsX11_drawn (wsV RX11 351 RX11 yX11_hasNight wsX11_hasNight) := goodIn_app (goodIn_of _ (by decide +kernel)) ggX11_drawn_X11_hasNight
theorem dX11_drawn_0 : decode cX11_drawn 0 = .ok (.aload_n 0, 1) := by decide +kernel
theorem dX11_drawn_1 : decode cX11_drawn 1 = .ok (.iload_n 1, 1) := by decide +kernel
theorem dX11_drawn_2 : decode cX11_drawn 2 = .ok (.iload_n 2, 1) := by decide +kernel
theorem dX11_drawn_3 : decode cX11_drawn 3 = .ok (.invokevirtual 351, 3) := by decide +kernel
theorem dX11_drawn_6 : decode cX11_drawn 6 = .ok (.ifCond .eq 11, 3) := by decide +kernel
theorem dX11_drawn_17 : decode cX11_drawn 17 = .ok (.bipush (-2), 2) := by decide +kernel
theorem dX11_drawn_19 : decode cX11_drawn 19 = .ok (.ireturn, 1) := by decide +kernel
set_option maxRecDepth 20000 in
theorem ggX11_nights_X11_hasNight : GoodIn wsX11_nights wsX11_hasNight := goodIn_r _ [8, 2, 9, 10, 11, 12, 13, 14, 15, 74, 75, 76, 77, 78, 79, 80, 81, 82, 83, 84, 85, 86, 87, 88, 89, 97, 98, 99, 100, 101, 102, 103, 104, 105, 106, 107, 108, 109, 110, 111, 112, 113] (by decide +kernel) (by decide +kernel)
set_option maxRecDepth 20000 in
theorem gX11_nights_X11_hasNight : GoodIn wsX11_nights (wsV RX11 351 RX11 yX11_hasNight wsX11_hasNight) := goodIn_app (goodIn_of _ (by decide +kernel)) ggX11_nights_X11_hasNight
theorem dX11_nights_0 : decode cX11_nights 0 = .ok (.aload_n 0, 1) := by decide +kernel
theorem dX11_nights_1 : decode cX11_nights 1 = .ok (.iload_n 1, 1) := by decide +kernel
theorem dX11_nights_2 : decode cX11_nights 2 = .ok (.iload_n 3, 1) := by decide +kernel
theorem dX11_nights_3 : decode cX11_nights 3 = .ok (.invokevirtual 351, 3) := by decide +kernel
theorem dX11_nights_6 : decode cX11_nights 6 = .ok (.ifCond .eq 14, 3) := by decide +kernel
theorem dX11_nights_20 : decode cX11_nights 20 = .ok (.bipush (-2), 2) := by decide +kernel
theorem dX11_nights_22 : decode cX11_nights 22 = .ok (.ireturn, 1) := by decide +kernel
set_option maxRecDepth 20000 in
theorem ggX11_stumble_X11_has : GoodIn wsX11_stumble wsX11_has := goodIn_r _ [9, 1, 10, 11, 12, 13, 14, 15, 16, 17, 8, 18, 19, 20, 21, 22, 23, 24, 44, 45, 46, 47, 48, 49, 50, 51, 52, 53, 54, 55, 56, 57, 58, 59, 60, 61, 62, 63, 64, 65, 66, 67, 68, 69, 70, 71, 72, 73, 74, 75, 76] (by decide +kernel) (by decide +kernel)
set_option maxRecDepth 20000 in
theorem gX11_stumble_X11_has : GoodIn wsX11_stumble (wsV RX11 162 RX11 yX11_has wsX11_has) := goodIn_app (goodIn_of _ (by decide +kernel)) ggX11_stumble_X11_has
theorem dX11_stumble_0 : decode cX11_stumble 0 = .ok (.aload_n 0, 1) := by decide +kernel
theorem dX11_stumble_1 : decode cX11_stumble 1 = .ok (.iload_n 1, 1) := by decide +kernel
theorem dX11_stumble_2 : decode cX11_stumble 2 = .ok (.iload_n 2, 1) := by decide +kernel
theorem dX11_stumble_3 : decode cX11_stumble 3 = .ok (.invokevirtual 162, 3) := by decide +kernel
theorem dX11_stumble_6 : decode cX11_stumble 6 = .ok (.ifCond .eq 20, 3) := by decide +kernel
theorem dX11_stumble_26 : decode cX11_stumble 26 = .ok (.bipush (-2), 2) := by decide +kernel
theorem dX11_stumble_28 : decode cX11_stumble 28 = .ok (.ireturn, 1) := by decide +kernel
set_option maxRecDepth 20000 in
theorem ggX11_mud_X0_stands : GoodIn wsX11_mud wsX0_stands := goodIn_r _ [9, 10, 40, 41, 42, 43, 44, 45, 46, 47, 48, 49, 50, 51, 52, 53, 54, 55, 56] (by decide +kernel) (by decide +kernel)
set_option maxRecDepth 20000 in
theorem gX11_mud_X0_stands : GoodIn wsX11_mud (wsV RX11 125 RX0 yX0_stands wsX0_stands) := goodIn_app (goodIn_of _ (by decide +kernel)) ggX11_mud_X0_stands
theorem dX11_mud_0 : decode cX11_mud 0 = .ok (.aload_n 0, 1) := by decide +kernel
theorem dX11_mud_1 : decode cX11_mud 1 = .ok (.getfield 24, 3) := by decide +kernel
theorem dX11_mud_4 : decode cX11_mud 4 = .ok (.invokevirtual 125, 3) := by decide +kernel
theorem dX11_mud_7 : decode cX11_mud 7 = .ok (.ifCond .eq 18, 3) := by decide +kernel
theorem dX11_mud_25 : decode cX11_mud 25 = .ok (.bipush (-2), 2) := by decide +kernel
theorem dX11_mud_27 : decode cX11_mud 27 = .ok (.ireturn, 1) := by decide +kernel
set_option maxRecDepth 20000 in
theorem ggX11_teach_X0_stands : GoodIn wsX11_teach wsX0_stands := goodIn_r _ [9, 10, 48, 49, 50, 51, 52, 53, 54, 55, 56, 57, 58, 59, 60, 61, 62, 63, 64] (by decide +kernel) (by decide +kernel)
set_option maxRecDepth 20000 in
theorem gX11_teach_X0_stands : GoodIn wsX11_teach (wsV RX11 125 RX0 yX0_stands wsX0_stands) := goodIn_app (goodIn_of _ (by decide +kernel)) ggX11_teach_X0_stands
theorem dX11_teach_0 : decode cX11_teach 0 = .ok (.aload_n 0, 1) := by decide +kernel
theorem dX11_teach_1 : decode cX11_teach 1 = .ok (.getfield 24, 3) := by decide +kernel
theorem dX11_teach_4 : decode cX11_teach 4 = .ok (.invokevirtual 125, 3) := by decide +kernel
theorem dX11_teach_7 : decode cX11_teach 7 = .ok (.ifCond .eq 29, 3) := by decide +kernel
theorem dX11_teach_36 : decode cX11_teach 36 = .ok (.bipush (-2), 2) := by decide +kernel
theorem dX11_teach_38 : decode cX11_teach 38 = .ok (.ireturn, 1) := by decide +kernel
set_option maxRecDepth 20000 in
theorem ggX11_undo_X0_stands : GoodIn wsX11_undo wsX0_stands := goodIn_r _ [8, 9, 35, 36, 37, 38, 39, 40, 41, 42, 43, 44, 45, 46, 47, 48, 49, 50, 51] (by decide +kernel) (by decide +kernel)
set_option maxRecDepth 20000 in
theorem gX11_undo_X0_stands : GoodIn wsX11_undo (wsV RX11 125 RX0 yX0_stands wsX0_stands) := goodIn_app (goodIn_of _ (by decide +kernel)) ggX11_undo_X0_stands
theorem dX11_undo_0 : decode cX11_undo 0 = .ok (.aload_n 0, 1) := by decide +kernel
theorem dX11_undo_1 : decode cX11_undo 1 = .ok (.getfield 24, 3) := by decide +kernel
theorem dX11_undo_4 : decode cX11_undo 4 = .ok (.invokevirtual 125, 3) := by decide +kernel
theorem dX11_undo_7 : decode cX11_undo 7 = .ok (.ifCond .ne 6, 3) := by decide +kernel
theorem dX11_undo_10 : decode cX11_undo 10 = .ok (.bipush (-2), 2) := by decide +kernel
theorem dX11_undo_12 : decode cX11_undo 12 = .ok (.ireturn, 1) := by decide +kernel
set_option maxRecDepth 20000 in
theorem ggX11_count_X0_countMuds : GoodIn wsX11_count wsX0_countMuds := goodIn_r _ [18, 19, 46, 47, 48, 49, 50, 51, 52, 53, 54, 55, 56, 57, 58, 59, 60, 61, 62] (by decide +kernel) (by decide +kernel)
set_option maxRecDepth 20000 in
theorem gX11_count_X0_countMuds : GoodIn wsX11_count (wsV RX11 395 RX0 yX0_countMuds wsX0_countMuds) := goodIn_app (goodIn_of _ (by decide +kernel)) ggX11_count_X0_countMuds
set_option maxRecDepth 20000 in
theorem ggX11_count_X7_countRows : GoodIn wsX11_count wsX7_countRows := goodIn_r _ [24, 25, 26, 27, 23, 28, 29, 69, 70, 71] (by decide +kernel) (by decide +kernel)
set_option maxRecDepth 20000 in
theorem gX11_count_X7_countRows : GoodIn wsX11_count (wsV RX11 404 RX7 yX7_countRows wsX7_countRows) := goodIn_app (goodIn_of _ (by decide +kernel)) ggX11_count_X7_countRows
theorem dX11_count_0 : decode cX11_count 0 = .ok (.iload_n 1, 1) := by decide +kernel
theorem dX11_count_1 : decode cX11_count 1 = .ok (.tableswitch 175 0 12 #[67, 75, 83, 91, 101, 111, 119, 127, 135, 143, 151, 159, 167], 67) := by decide +kernel
theorem dX11_count_68 : decode cX11_count 68 = .ok (.aload_n 0, 1) := by decide +kernel
theorem dX11_count_69 : decode cX11_count 69 = .ok (.getfield 24, 3) := by decide +kernel
theorem dX11_count_72 : decode cX11_count 72 = .ok (.getfield 389, 3) := by decide +kernel
theorem dX11_count_75 : decode cX11_count 75 = .ok (.ireturn, 1) := by decide +kernel
theorem dX11_count_76 : decode cX11_count 76 = .ok (.aload_n 0, 1) := by decide +kernel
theorem dX11_count_77 : decode cX11_count 77 = .ok (.getfield 24, 3) := by decide +kernel
theorem dX11_count_80 : decode cX11_count 80 = .ok (.getfield 392, 3) := by decide +kernel
theorem dX11_count_83 : decode cX11_count 83 = .ok (.ireturn, 1) := by decide +kernel
theorem dX11_count_84 : decode cX11_count 84 = .ok (.aload_n 0, 1) := by decide +kernel
theorem dX11_count_85 : decode cX11_count 85 = .ok (.getfield 24, 3) := by decide +kernel
theorem dX11_count_88 : decode cX11_count 88 = .ok (.getfield 341, 3) := by decide +kernel
theorem dX11_count_91 : decode cX11_count 91 = .ok (.ireturn, 1) := by decide +kernel
theorem dX11_count_92 : decode cX11_count 92 = .ok (.aload_n 0, 1) := by decide +kernel
theorem dX11_count_93 : decode cX11_count 93 = .ok (.getfield 24, 3) := by decide +kernel
theorem dX11_count_96 : decode cX11_count 96 = .ok (.getfield 178, 3) := by decide +kernel
theorem dX11_count_99 : decode cX11_count 99 = .ok (.iconst 0, 1) := by decide +kernel
theorem dX11_count_100 : decode cX11_count 100 = .ok (.iaload, 1) := by decide +kernel
theorem dX11_count_101 : decode cX11_count 101 = .ok (.ireturn, 1) := by decide +kernel
theorem dX11_count_102 : decode cX11_count 102 = .ok (.aload_n 0, 1) := by decide +kernel
theorem dX11_count_103 : decode cX11_count 103 = .ok (.getfield 24, 3) := by decide +kernel
theorem dX11_count_106 : decode cX11_count 106 = .ok (.getfield 178, 3) := by decide +kernel
theorem dX11_count_109 : decode cX11_count 109 = .ok (.iconst 1, 1) := by decide +kernel
theorem dX11_count_110 : decode cX11_count 110 = .ok (.iaload, 1) := by decide +kernel
theorem dX11_count_111 : decode cX11_count 111 = .ok (.ireturn, 1) := by decide +kernel
theorem dX11_count_112 : decode cX11_count 112 = .ok (.aload_n 0, 1) := by decide +kernel
theorem dX11_count_113 : decode cX11_count 113 = .ok (.getfield 24, 3) := by decide +kernel
theorem dX11_count_116 : decode cX11_count 116 = .ok (.getfield 216, 3) := by decide +kernel
theorem dX11_count_119 : decode cX11_count 119 = .ok (.ireturn, 1) := by decide +kernel
theorem dX11_count_120 : decode cX11_count 120 = .ok (.aload_n 0, 1) := by decide +kernel
theorem dX11_count_121 : decode cX11_count 121 = .ok (.getfield 24, 3) := by decide +kernel
theorem dX11_count_124 : decode cX11_count 124 = .ok (.invokevirtual 395, 3) := by decide +kernel
theorem dX11_count_127 : decode cX11_count 127 = .ok (.ireturn, 1) := by decide +kernel
theorem dX11_count_128 : decode cX11_count 128 = .ok (.aload_n 0, 1) := by decide +kernel
theorem dX11_count_129 : decode cX11_count 129 = .ok (.getfield 24, 3) := by decide +kernel
theorem dX11_count_132 : decode cX11_count 132 = .ok (.getfield 398, 3) := by decide +kernel
theorem dX11_count_135 : decode cX11_count 135 = .ok (.ireturn, 1) := by decide +kernel
theorem dX11_count_136 : decode cX11_count 136 = .ok (.aload_n 0, 1) := by decide +kernel
theorem dX11_count_137 : decode cX11_count 137 = .ok (.getfield 24, 3) := by decide +kernel
theorem dX11_count_140 : decode cX11_count 140 = .ok (.getfield 401, 3) := by decide +kernel
theorem dX11_count_143 : decode cX11_count 143 = .ok (.ireturn, 1) := by decide +kernel
theorem dX11_count_144 : decode cX11_count 144 = .ok (.aload_n 0, 1) := by decide +kernel
theorem dX11_count_145 : decode cX11_count 145 = .ok (.getfield 24, 3) := by decide +kernel
theorem dX11_count_148 : decode cX11_count 148 = .ok (.getfield 369, 3) := by decide +kernel
theorem dX11_count_151 : decode cX11_count 151 = .ok (.ireturn, 1) := by decide +kernel
theorem dX11_count_152 : decode cX11_count 152 = .ok (.aload_n 0, 1) := by decide +kernel
theorem dX11_count_153 : decode cX11_count 153 = .ok (.getfield 24, 3) := by decide +kernel
theorem dX11_count_156 : decode cX11_count 156 = .ok (.getfield 116, 3) := by decide +kernel
theorem dX11_count_159 : decode cX11_count 159 = .ok (.ireturn, 1) := by decide +kernel
theorem dX11_count_160 : decode cX11_count 160 = .ok (.aload_n 0, 1) := by decide +kernel
theorem dX11_count_161 : decode cX11_count 161 = .ok (.getfield 20, 3) := by decide +kernel
theorem dX11_count_164 : decode cX11_count 164 = .ok (.getfield 102, 3) := by decide +kernel
theorem dX11_count_167 : decode cX11_count 167 = .ok (.ireturn, 1) := by decide +kernel
theorem dX11_count_168 : decode cX11_count 168 = .ok (.aload_n 0, 1) := by decide +kernel
theorem dX11_count_169 : decode cX11_count 169 = .ok (.getfield 98, 3) := by decide +kernel
theorem dX11_count_172 : decode cX11_count 172 = .ok (.invokevirtual 404, 3) := by decide +kernel
theorem dX11_count_175 : decode cX11_count 175 = .ok (.ireturn, 1) := by decide +kernel
theorem dX11_count_176 : decode cX11_count 176 = .ok (.iconst (-1), 1) := by decide +kernel
theorem dX11_count_177 : decode cX11_count 177 = .ok (.ireturn, 1) := by decide +kernel
set_option maxRecDepth 20000 in
theorem ggX11_image_X11_isWithin : GoodIn wsX11_image wsX11_isWithin := goodIn_r _ [7] (by decide +kernel) (by decide +kernel)
set_option maxRecDepth 20000 in
theorem gX11_image_X11_isWithin : GoodIn wsX11_image (va_wsS RX11 150 yX11_isWithin wsX11_isWithin) := goodIn_app (goodIn_of _ (by decide +kernel)) ggX11_image_X11_isWithin
set_option maxRecDepth 20000 in
theorem ggX11_image_X0_copyFrom : GoodIn wsX11_image wsX0_copyFrom := goodIn_r _ [12, 13, 14, 15, 16, 17, 18, 19, 20, 21, 22, 23, 24, 25, 26, 27, 28, 29, 30, 31, 32, 33, 50, 51, 52, 53, 54, 55, 56, 57, 58, 59, 60, 61, 62, 63, 64, 65, 66] (by decide +kernel) (by decide +kernel)
set_option maxRecDepth 20000 in
theorem gX11_image_X0_copyFrom : GoodIn wsX11_image (wsV RX11 407 RX0 yX0_copyFrom wsX0_copyFrom) := goodIn_app (goodIn_of _ (by decide +kernel)) ggX11_image_X0_copyFrom
theorem dX11_image_0 : decode cX11_image 0 = .ok (.iload_n 1, 1) := by decide +kernel
theorem dX11_image_1 : decode cX11_image 1 = .ok (.iconst 3, 1) := by decide +kernel
theorem dX11_image_2 : decode cX11_image 2 = .ok (.invokestatic 150, 3) := by decide +kernel
theorem dX11_image_5 : decode cX11_image 5 = .ok (.ifCond .ne 6, 3) := by decide +kernel
theorem dX11_image_8 : decode cX11_image 8 = .ok (.bipush (-2), 2) := by decide +kernel
theorem dX11_image_10 : decode cX11_image 10 = .ok (.ireturn, 1) := by decide +kernel
theorem dX11_image_11 : decode cX11_image 11 = .ok (.aload_n 0, 1) := by decide +kernel
theorem dX11_image_12 : decode cX11_image 12 = .ok (.getfield 31, 3) := by decide +kernel
theorem dX11_image_15 : decode cX11_image 15 = .ok (.iload_n 1, 1) := by decide +kernel
theorem dX11_image_16 : decode cX11_image 16 = .ok (.aaload, 1) := by decide +kernel
theorem dX11_image_17 : decode cX11_image 17 = .ok (.aload_n 0, 1) := by decide +kernel
theorem dX11_image_18 : decode cX11_image 18 = .ok (.getfield 24, 3) := by decide +kernel
theorem dX11_image_21 : decode cX11_image 21 = .ok (.invokevirtual 407, 3) := by decide +kernel
theorem dX11_image_24 : decode cX11_image 24 = .ok (.aload_n 0, 1) := by decide +kernel
theorem dX11_image_25 : decode cX11_image 25 = .ok (.getfield 35, 3) := by decide +kernel
theorem dX11_image_28 : decode cX11_image 28 = .ok (.iload_n 1, 1) := by decide +kernel
theorem dX11_image_29 : decode cX11_image 29 = .ok (.iconst 1, 1) := by decide +kernel
theorem dX11_image_30 : decode cX11_image 30 = .ok (.iastore, 1) := by decide +kernel
theorem dX11_image_31 : decode cX11_image 31 = .ok (.iconst 0, 1) := by decide +kernel
theorem dX11_image_32 : decode cX11_image 32 = .ok (.ireturn, 1) := by decide +kernel
set_option maxRecDepth 20000 in
theorem ggX11_back_X11_isWithin : GoodIn wsX11_back wsX11_isWithin := goodIn_r _ [8] (by decide +kernel) (by decide +kernel)
set_option maxRecDepth 20000 in
theorem gX11_back_X11_isWithin : GoodIn wsX11_back (va_wsS RX11 150 yX11_isWithin wsX11_isWithin) := goodIn_app (goodIn_of _ (by decide +kernel)) ggX11_back_X11_isWithin
theorem dX11_back_0 : decode cX11_back 0 = .ok (.iload_n 1, 1) := by decide +kernel
theorem dX11_back_1 : decode cX11_back 1 = .ok (.iconst 3, 1) := by decide +kernel
theorem dX11_back_2 : decode cX11_back 2 = .ok (.invokestatic 150, 3) := by decide +kernel
theorem dX11_back_5 : decode cX11_back 5 = .ok (.ifCond .ne 6, 3) := by decide +kernel
theorem dX11_back_8 : decode cX11_back 8 = .ok (.bipush (-2), 2) := by decide +kernel
theorem dX11_back_10 : decode cX11_back 10 = .ok (.ireturn, 1) := by decide +kernel
theorem dX11_back_11 : decode cX11_back 11 = .ok (.aload_n 0, 1) := by decide +kernel
theorem dX11_back_12 : decode cX11_back 12 = .ok (.getfield 35, 3) := by decide +kernel
theorem dX11_back_15 : decode cX11_back 15 = .ok (.iload_n 1, 1) := by decide +kernel
theorem dX11_back_16 : decode cX11_back 16 = .ok (.iaload, 1) := by decide +kernel
theorem dX11_back_17 : decode cX11_back 17 = .ok (.ifCond .ne 6, 3) := by decide +kernel
theorem dX11_back_20 : decode cX11_back 20 = .ok (.bipush (-6), 2) := by decide +kernel
theorem dX11_back_22 : decode cX11_back 22 = .ok (.ireturn, 1) := by decide +kernel
set_option maxRecDepth 20000 in
theorem ggX11_row_X7_isSlot : GoodIn wsX11_row wsX7_isSlot := goodIn_r _ [5, 6, 7, 8] (by decide +kernel) (by decide +kernel)
set_option maxRecDepth 20000 in
theorem gX11_row_X7_isSlot : GoodIn wsX11_row (va_wsS RX11 411 yX7_isSlot wsX7_isSlot) := goodIn_app (goodIn_of _ (by decide +kernel)) ggX11_row_X7_isSlot
set_option maxRecDepth 20000 in
theorem ggX11_row_X11_isWithin : GoodIn wsX11_row wsX11_isWithin := goodIn_r _ [8] (by decide +kernel) (by decide +kernel)
set_option maxRecDepth 20000 in
theorem gX11_row_X11_isWithin : GoodIn wsX11_row (va_wsS RX11 150 yX11_isWithin wsX11_isWithin) := goodIn_app (goodIn_of _ (by decide +kernel)) ggX11_row_X11_isWithin
set_option maxRecDepth 20000 in
theorem ggX11_row_X7_make : GoodIn wsX11_row wsX7_make := goodIn_r _ [13, 14, 15, 16, 33, 34, 35] (by decide +kernel) (by decide +kernel)
set_option maxRecDepth 20000 in
theorem gX11_row_X7_make : GoodIn wsX11_row (wsV RX11 414 RX7 yX7_make wsX7_make) := goodIn_app (goodIn_of _ (by decide +kernel)) ggX11_row_X7_make
theorem dX11_row_0 : decode cX11_row 0 = .ok (.iload_n 1, 1) := by decide +kernel
theorem dX11_row_1 : decode cX11_row 1 = .ok (.invokestatic 411, 3) := by decide +kernel
theorem dX11_row_4 : decode cX11_row 4 = .ok (.ifCond .eq 17, 3) := by decide +kernel
theorem dX11_row_7 : decode cX11_row 7 = .ok (.iload_n 2, 1) := by decide +kernel
theorem dX11_row_8 : decode cX11_row 8 = .ok (.iconst 4, 1) := by decide +kernel
theorem dX11_row_9 : decode cX11_row 9 = .ok (.invokestatic 150, 3) := by decide +kernel
theorem dX11_row_12 : decode cX11_row 12 = .ok (.ifCond .eq 9, 3) := by decide +kernel
theorem dX11_row_15 : decode cX11_row 15 = .ok (.iload_n 3, 1) := by decide +kernel
theorem dX11_row_16 : decode cX11_row 16 = .ok (.bipush 60, 2) := by decide +kernel
theorem dX11_row_18 : decode cX11_row 18 = .ok (.if_icmp .le 6, 3) := by decide +kernel
theorem dX11_row_21 : decode cX11_row 21 = .ok (.bipush (-2), 2) := by decide +kernel
theorem dX11_row_23 : decode cX11_row 23 = .ok (.ireturn, 1) := by decide +kernel
theorem dX11_row_24 : decode cX11_row 24 = .ok (.iload_n 3, 1) := by decide +kernel
theorem dX11_row_25 : decode cX11_row 25 = .ok (.ifCond .ge 6, 3) := by decide +kernel
theorem dX11_row_28 : decode cX11_row 28 = .ok (.bipush (-3), 2) := by decide +kernel
theorem dX11_row_30 : decode cX11_row 30 = .ok (.ireturn, 1) := by decide +kernel
theorem dX11_row_31 : decode cX11_row 31 = .ok (.aload_n 0, 1) := by decide +kernel
theorem dX11_row_32 : decode cX11_row 32 = .ok (.getfield 98, 3) := by decide +kernel
theorem dX11_row_35 : decode cX11_row 35 = .ok (.iload_n 1, 1) := by decide +kernel
theorem dX11_row_36 : decode cX11_row 36 = .ok (.iload_n 2, 1) := by decide +kernel
theorem dX11_row_37 : decode cX11_row 37 = .ok (.iload_n 3, 1) := by decide +kernel
theorem dX11_row_38 : decode cX11_row 38 = .ok (.invokevirtual 414, 3) := by decide +kernel
theorem dX11_row_41 : decode cX11_row 41 = .ok (.iconst 0, 1) := by decide +kernel
theorem dX11_row_42 : decode cX11_row 42 = .ok (.ireturn, 1) := by decide +kernel
set_option maxRecDepth 20000 in
theorem ggX11_write_X7_isSlot : GoodIn wsX11_write wsX7_isSlot := goodIn_r _ [6, 7, 8, 9] (by decide +kernel) (by decide +kernel)
set_option maxRecDepth 20000 in
theorem gX11_write_X7_isSlot : GoodIn wsX11_write (va_wsS RX11 411 yX7_isSlot wsX7_isSlot) := goodIn_app (goodIn_of _ (by decide +kernel)) ggX11_write_X7_isSlot
set_option maxRecDepth 20000 in
theorem ggX11_write_X7_has : GoodIn wsX11_write wsX7_has := goodIn_r _ [13, 14, 41, 42, 43] (by decide +kernel) (by decide +kernel)
set_option maxRecDepth 20000 in
theorem gX11_write_X7_has : GoodIn wsX11_write (wsV RX11 417 RX7 yX7_has wsX7_has) := goodIn_app (goodIn_of _ (by decide +kernel)) ggX11_write_X7_has
theorem dX11_write_0 : decode cX11_write 0 = .ok (.iload_n 1, 1) := by decide +kernel
theorem dX11_write_1 : decode cX11_write 1 = .ok (.invokestatic 411, 3) := by decide +kernel
theorem dX11_write_4 : decode cX11_write 4 = .ok (.ifCond .ne 6, 3) := by decide +kernel
theorem dX11_write_7 : decode cX11_write 7 = .ok (.bipush (-2), 2) := by decide +kernel
theorem dX11_write_9 : decode cX11_write 9 = .ok (.ireturn, 1) := by decide +kernel
theorem dX11_write_10 : decode cX11_write 10 = .ok (.aload_n 0, 1) := by decide +kernel
theorem dX11_write_11 : decode cX11_write 11 = .ok (.getfield 98, 3) := by decide +kernel
theorem dX11_write_14 : decode cX11_write 14 = .ok (.iload_n 1, 1) := by decide +kernel
theorem dX11_write_15 : decode cX11_write 15 = .ok (.invokevirtual 417, 3) := by decide +kernel
theorem dX11_write_18 : decode cX11_write 18 = .ok (.ifCond .ne 6, 3) := by decide +kernel
theorem dX11_write_21 : decode cX11_write 21 = .ok (.bipush (-6), 2) := by decide +kernel
theorem dX11_write_23 : decode cX11_write 23 = .ok (.ireturn, 1) := by decide +kernel
set_option maxRecDepth 20000 in
theorem ggX11_paste_X7_isSlot : GoodIn wsX11_paste wsX7_isSlot := goodIn_r _ [6, 7, 8, 9] (by decide +kernel) (by decide +kernel)
set_option maxRecDepth 20000 in
theorem gX11_paste_X7_isSlot : GoodIn wsX11_paste (va_wsS RX11 411 yX7_isSlot wsX7_isSlot) := goodIn_app (goodIn_of _ (by decide +kernel)) ggX11_paste_X7_isSlot
set_option maxRecDepth 20000 in
theorem ggX11_paste_X7_has : GoodIn wsX11_paste wsX7_has := goodIn_r _ [13, 14, 44, 45, 46] (by decide +kernel) (by decide +kernel)
set_option maxRecDepth 20000 in
theorem gX11_paste_X7_has : GoodIn wsX11_paste (wsV RX11 417 RX7 yX7_has wsX7_has) := goodIn_app (goodIn_of _ (by decide +kernel)) ggX11_paste_X7_has
theorem dX11_paste_0 : decode cX11_paste 0 = .ok (.iload_n 1, 1) := by decide +kernel
theorem dX11_paste_1 : decode cX11_paste 1 = .ok (.invokestatic 411, 3) := by decide +kernel
theorem dX11_paste_4 : decode cX11_paste 4 = .ok (.ifCond .eq 10, 3) := by decide +kernel
theorem dX11_paste_7 : decode cX11_paste 7 = .ok (.iload_n 3, 1) := by decide +kernel
theorem dX11_paste_8 : decode cX11_paste 8 = .ok (.invokestatic 411, 3) := by decide +kernel
theorem dX11_paste_11 : decode cX11_paste 11 = .ok (.ifCond .ne 6, 3) := by decide +kernel
theorem dX11_paste_14 : decode cX11_paste 14 = .ok (.bipush (-2), 2) := by decide +kernel
theorem dX11_paste_16 : decode cX11_paste 16 = .ok (.ireturn, 1) := by decide +kernel
theorem dX11_paste_17 : decode cX11_paste 17 = .ok (.aload_n 0, 1) := by decide +kernel
theorem dX11_paste_18 : decode cX11_paste 18 = .ok (.getfield 98, 3) := by decide +kernel
theorem dX11_paste_21 : decode cX11_paste 21 = .ok (.iload_n 1, 1) := by decide +kernel
theorem dX11_paste_22 : decode cX11_paste 22 = .ok (.invokevirtual 417, 3) := by decide +kernel
theorem dX11_paste_25 : decode cX11_paste 25 = .ok (.ifCond .eq 14, 3) := by decide +kernel
theorem dX11_paste_39 : decode cX11_paste 39 = .ok (.bipush (-6), 2) := by decide +kernel
theorem dX11_paste_41 : decode cX11_paste 41 = .ok (.ireturn, 1) := by decide +kernel
set_option maxRecDepth 20000 in
theorem ggX11_has_X0_stands : GoodIn wsX11_has wsX0_stands := goodIn_r _ [6, 7, 34, 35, 36, 37, 38, 39, 40, 41, 42, 43, 44, 45, 46, 47, 48, 49, 50] (by decide +kernel) (by decide +kernel)
set_option maxRecDepth 20000 in
theorem gX11_has_X0_stands : GoodIn wsX11_has (wsV RX11 125 RX0 yX0_stands wsX0_stands) := goodIn_app (goodIn_of _ (by decide +kernel)) ggX11_has_X0_stands
theorem dX11_has_0 : decode cX11_has 0 = .ok (.aload_n 0, 1) := by decide +kernel
theorem dX11_has_1 : decode cX11_has 1 = .ok (.getfield 24, 3) := by decide +kernel
theorem dX11_has_4 : decode cX11_has 4 = .ok (.invokevirtual 125, 3) := by decide +kernel
theorem dX11_has_7 : decode cX11_has 7 = .ok (.ifCond .eq 21, 3) := by decide +kernel
theorem dX11_has_28 : decode cX11_has 28 = .ok (.iconst 0, 1) := by decide +kernel
theorem dX11_has_29 : decode cX11_has 29 = .ok (.ireturn, 1) := by decide +kernel
set_option maxRecDepth 20000 in
theorem ggX11_hasSpan_X0_stands : GoodIn wsX11_hasSpan wsX0_stands := goodIn_r _ [6, 7, 31, 32, 33, 34, 35, 36, 37, 38, 39, 40, 41, 42, 43, 44, 45, 46, 47] (by decide +kernel) (by decide +kernel)
set_option maxRecDepth 20000 in
theorem gX11_hasSpan_X0_stands : GoodIn wsX11_hasSpan (wsV RX11 125 RX0 yX0_stands wsX0_stands) := goodIn_app (goodIn_of _ (by decide +kernel)) ggX11_hasSpan_X0_stands
theorem dX11_hasSpan_0 : decode cX11_hasSpan 0 = .ok (.aload_n 0, 1) := by decide +kernel
theorem dX11_hasSpan_1 : decode cX11_hasSpan 1 = .ok (.getfield 24, 3) := by decide +kernel
theorem dX11_hasSpan_4 : decode cX11_hasSpan 4 = .ok (.invokevirtual 125, 3) := by decide +kernel
theorem dX11_hasSpan_7 : decode cX11_hasSpan 7 = .ok (.ifCond .eq 26, 3) := by decide +kernel
theorem dX11_hasSpan_33 : decode cX11_hasSpan 33 = .ok (.iconst 0, 1) := by decide +kernel
theorem dX11_hasSpan_34 : decode cX11_hasSpan 34 = .ok (.ireturn, 1) := by decide +kernel
set_option maxRecDepth 20000 in
theorem ggX11_hasRounds_X0_stands : GoodIn wsX11_hasRounds wsX0_stands := goodIn_r _ [6, 7, 29, 30, 31, 32, 33, 34, 35, 36, 37, 38, 39, 40, 41, 42, 43, 44, 45] (by decide +kernel) (by decide +kernel)
set_option maxRecDepth 20000 in
theorem gX11_hasRounds_X0_stands : GoodIn wsX11_hasRounds (wsV RX11 125 RX0 yX0_stands wsX0_stands) := goodIn_app (goodIn_of _ (by decide +kernel)) ggX11_hasRounds_X0_stands
theorem dX11_hasRounds_0 : decode cX11_hasRounds 0 = .ok (.aload_n 0, 1) := by decide +kernel
theorem dX11_hasRounds_1 : decode cX11_hasRounds 1 = .ok (.getfield 24, 3) := by decide +kernel
theorem dX11_hasRounds_4 : decode cX11_hasRounds 4 = .ok (.invokevirtual 125, 3) := by decide +kernel
theorem dX11_hasRounds_7 : decode cX11_hasRounds 7 = .ok (.ifCond .eq 17, 3) := by decide +kernel
theorem dX11_hasRounds_24 : decode cX11_hasRounds 24 = .ok (.iconst 0, 1) := by decide +kernel
theorem dX11_hasRounds_25 : decode cX11_hasRounds 25 = .ok (.ireturn, 1) := by decide +kernel
set_option maxRecDepth 20000 in
theorem ggX11_hasSet_X0_stands : GoodIn wsX11_hasSet wsX0_stands := goodIn_r _ [7, 8, 29, 30, 31, 32, 33, 34, 35, 36, 37, 38, 39, 40, 41, 42, 43, 44, 45] (by decide +kernel) (by decide +kernel)
set_option maxRecDepth 20000 in
theorem gX11_hasSet_X0_stands : GoodIn wsX11_hasSet (wsV RX11 125 RX0 yX0_stands wsX0_stands) := goodIn_app (goodIn_of _ (by decide +kernel)) ggX11_hasSet_X0_stands
theorem dX11_hasSet_0 : decode cX11_hasSet 0 = .ok (.aload_n 0, 1) := by decide +kernel
theorem dX11_hasSet_1 : decode cX11_hasSet 1 = .ok (.getfield 24, 3) := by decide +kernel
theorem dX11_hasSet_4 : decode cX11_hasSet 4 = .ok (.invokevirtual 125, 3) := by decide +kernel
theorem dX11_hasSet_7 : decode cX11_hasSet 7 = .ok (.ifCond .eq 23, 3) := by decide +kernel
theorem dX11_hasSet_30 : decode cX11_hasSet 30 = .ok (.iconst 0, 1) := by decide +kernel
theorem dX11_hasSet_31 : decode cX11_hasSet 31 = .ok (.ireturn, 1) := by decide +kernel
set_option maxRecDepth 20000 in
theorem ggX11_hasNight_X0_stands : GoodIn wsX11_hasNight wsX0_stands := goodIn_r _ [7, 8, 25, 26, 27, 28, 29, 30, 31, 32, 33, 34, 35, 36, 37, 38, 39, 40, 41] (by decide +kernel) (by decide +kernel)
set_option maxRecDepth 20000 in
theorem gX11_hasNight_X0_stands : GoodIn wsX11_hasNight (wsV RX11 125 RX0 yX0_stands wsX0_stands) := goodIn_app (goodIn_of _ (by decide +kernel)) ggX11_hasNight_X0_stands
theorem dX11_hasNight_0 : decode cX11_hasNight 0 = .ok (.aload_n 0, 1) := by decide +kernel
theorem dX11_hasNight_1 : decode cX11_hasNight 1 = .ok (.getfield 24, 3) := by decide +kernel
theorem dX11_hasNight_4 : decode cX11_hasNight 4 = .ok (.invokevirtual 125, 3) := by decide +kernel
theorem dX11_hasNight_7 : decode cX11_hasNight 7 = .ok (.ifCond .eq 29, 3) := by decide +kernel
theorem dX11_hasNight_36 : decode cX11_hasNight 36 = .ok (.iconst 0, 1) := by decide +kernel
theorem dX11_hasNight_37 : decode cX11_hasNight 37 = .ok (.ireturn, 1) := by decide +kernel
theorem dX11_isWithin_0 : decode cX11_isWithin 0 = .ok (.iload_n 0, 1) := by decide +kernel
theorem dX11_isWithin_1 : decode cX11_isWithin 1 = .ok (.ifCond .lt 12, 3) := by decide +kernel
theorem dX11_isWithin_4 : decode cX11_isWithin 4 = .ok (.iload_n 0, 1) := by decide +kernel
theorem dX11_isWithin_5 : decode cX11_isWithin 5 = .ok (.iload_n 1, 1) := by decide +kernel
theorem dX11_isWithin_6 : decode cX11_isWithin 6 = .ok (.if_icmp .ge 7, 3) := by decide +kernel
theorem dX11_isWithin_9 : decode cX11_isWithin 9 = .ok (.iconst 1, 1) := by decide +kernel
theorem dX11_isWithin_10 : decode cX11_isWithin 10 = .ok (.goto 4, 3) := by decide +kernel
theorem dX11_isWithin_13 : decode cX11_isWithin 13 = .ok (.iconst 0, 1) := by decide +kernel
theorem dX11_isWithin_14 : decode cX11_isWithin 14 = .ok (.ireturn, 1) := by decide +kernel
set_option maxRecDepth 20000 in
theorem ggX11_isSide_X11_isWithin : GoodIn wsX11_isSide wsX11_isWithin := goodIn_r _ [4] (by decide +kernel) (by decide +kernel)
set_option maxRecDepth 20000 in
theorem gX11_isSide_X11_isWithin : GoodIn wsX11_isSide (va_wsS RX11 150 yX11_isWithin wsX11_isWithin) := goodIn_app (goodIn_of _ (by decide +kernel)) ggX11_isSide_X11_isWithin
theorem dX11_isSide_0 : decode cX11_isSide 0 = .ok (.iload_n 0, 1) := by decide +kernel
theorem dX11_isSide_1 : decode cX11_isSide 1 = .ok (.iconst 2, 1) := by decide +kernel
theorem dX11_isSide_2 : decode cX11_isSide 2 = .ok (.invokestatic 150, 3) := by decide +kernel
theorem dX11_isSide_5 : decode cX11_isSide 5 = .ok (.ireturn, 1) := by decide +kernel
set_option maxRecDepth 20000 in
theorem ggX11_isStep_X11_isWithin : GoodIn wsX11_isStep wsX11_isWithin := goodIn_r _ [4] (by decide +kernel) (by decide +kernel)
set_option maxRecDepth 20000 in
theorem gX11_isStep_X11_isWithin : GoodIn wsX11_isStep (va_wsS RX11 150 yX11_isWithin wsX11_isWithin) := goodIn_app (goodIn_of _ (by decide +kernel)) ggX11_isStep_X11_isWithin
theorem dX11_isStep_0 : decode cX11_isStep 0 = .ok (.iload_n 0, 1) := by decide +kernel
theorem dX11_isStep_1 : decode cX11_isStep 1 = .ok (.bipush 6, 2) := by decide +kernel
theorem dX11_isStep_3 : decode cX11_isStep 3 = .ok (.invokestatic 150, 3) := by decide +kernel
theorem dX11_isStep_6 : decode cX11_isStep 6 = .ok (.ireturn, 1) := by decide +kernel
set_option maxRecDepth 20000 in
theorem ggX11_isBeat_X11_isWithin : GoodIn wsX11_isBeat wsX11_isWithin := goodIn_r _ [4] (by decide +kernel) (by decide +kernel)
set_option maxRecDepth 20000 in
theorem gX11_isBeat_X11_isWithin : GoodIn wsX11_isBeat (va_wsS RX11 150 yX11_isWithin wsX11_isWithin) := goodIn_app (goodIn_of _ (by decide +kernel)) ggX11_isBeat_X11_isWithin
theorem dX11_isBeat_0 : decode cX11_isBeat 0 = .ok (.iload_n 0, 1) := by decide +kernel
theorem dX11_isBeat_1 : decode cX11_isBeat 1 = .ok (.sipush 200, 3) := by decide +kernel
theorem dX11_isBeat_4 : decode cX11_isBeat 4 = .ok (.invokestatic 150, 3) := by decide +kernel
theorem dX11_isBeat_7 : decode cX11_isBeat 7 = .ok (.ireturn, 1) := by decide +kernel
set_option maxRecDepth 20000 in
theorem ggX11_listenTo_X0_stands : GoodIn wsX11_listenTo wsX0_stands := goodIn_r _ [9, 10, 112, 113, 114, 115, 116, 117, 118, 119, 120, 121, 122, 123, 124, 125, 126, 127, 128] (by decide +kernel) (by decide +kernel)
set_option maxRecDepth 20000 in
theorem gX11_listenTo_X0_stands : GoodIn wsX11_listenTo (wsV RX11 125 RX0 yX0_stands wsX0_stands) := goodIn_app (goodIn_of _ (by decide +kernel)) ggX11_listenTo_X0_stands
theorem dX11_listenTo_0 : decode cX11_listenTo 0 = .ok (.aload_n 0, 1) := by decide +kernel
theorem dX11_listenTo_1 : decode cX11_listenTo 1 = .ok (.getfield 24, 3) := by decide +kernel
theorem dX11_listenTo_4 : decode cX11_listenTo 4 = .ok (.invokevirtual 125, 3) := by decide +kernel
theorem dX11_listenTo_7 : decode cX11_listenTo 7 = .ok (.ifCond .eq 10, 3) := by decide +kernel
theorem dX11_listenTo_17 : decode cX11_listenTo 17 = .ok (.bipush (-2), 2) := by decide +kernel
theorem dX11_listenTo_19 : decode cX11_listenTo 19 = .ok (.ireturn, 1) := by decide +kernel
theorem dJ7_fill_53178_0 : decode cJ7_fill_53178 0 = .ok (.iconst 0, 1) := by decide +kernel
theorem dJ7_fill_53178_1 : decode cJ7_fill_53178 1 = .ok (.istore_n 2, 1) := by decide +kernel
theorem dJ7_fill_53178_2 : decode cJ7_fill_53178 2 = .ok (.aload_n 0, 1) := by decide +kernel
theorem dJ7_fill_53178_3 : decode cJ7_fill_53178 3 = .ok (.arraylength, 1) := by decide +kernel
theorem dJ7_fill_53178_4 : decode cJ7_fill_53178 4 = .ok (.istore_n 3, 1) := by decide +kernel
theorem dJ7_fill_53178_5 : decode cJ7_fill_53178 5 = .ok (.iload_n 2, 1) := by decide +kernel
theorem dJ7_fill_53178_6 : decode cJ7_fill_53178 6 = .ok (.iload_n 3, 1) := by decide +kernel
theorem dJ7_fill_53178_7 : decode cJ7_fill_53178 7 = .ok (.if_icmp .ge 13, 3) := by decide +kernel
theorem dJ7_fill_53178_10 : decode cJ7_fill_53178 10 = .ok (.aload_n 0, 1) := by decide +kernel
theorem dJ7_fill_53178_11 : decode cJ7_fill_53178 11 = .ok (.iload_n 2, 1) := by decide +kernel
theorem dJ7_fill_53178_12 : decode cJ7_fill_53178 12 = .ok (.iload_n 1, 1) := by decide +kernel
theorem dJ7_fill_53178_13 : decode cJ7_fill_53178 13 = .ok (.iastore, 1) := by decide +kernel
theorem dJ7_fill_53178_14 : decode cJ7_fill_53178 14 = .ok (.iinc 2 1, 3) := by decide +kernel
theorem dJ7_fill_53178_17 : decode cJ7_fill_53178 17 = .ok (.goto (-12), 3) := by decide +kernel
theorem dJ7_fill_53178_20 : decode cJ7_fill_53178 20 = .ok (.return_, 1) := by decide +kernel
abbrev vwCl : List vw_C := [(RX0, TX0, 17), (RX1, TX1, 6), (RX2, TX2, 1), (RX3, TX3, 12), (RX4, TX4, 7), (RX5, TX5, 4), (RX6, TX6, 1), (RX7, TX7, 3), (RX8, TX8, 6), (RX9, TX9, 2), (RX10, TX10, 3), (RX11, TX11, 16), (RX12, TX12, 45)]
