theorem goodIn_r {big : List Cond} (ws : List Cond) (ps : List Nat) (hp : ws = ps.filterMap (fun i => big[i]?)) (h : ws.all goodWord = true) : GoodIn big ws := by
  intro w hw
  have h1 := List.all_eq_true.mp h w hw
  rw [hp] at hw
  obtain ⟨i, -, hi⟩ := List.mem_filterMap.mp hw
  have hm : w ∈ big := by first | exact List.mem_of_getElem? hi | exact List.getElem?_mem hi
  exact ⟨hm, good_of_word h1⟩
theorem goodIn_app {big a b : List Cond} (ha : GoodIn big a) (hb : GoodIn big b) : GoodIn big (a ++ b) := fun w h => (List.mem_append.mp h).elim (ha w) (hb w)
theorem goodIn_ca {big a b : List Cond} {c : Cond} (ha : GoodIn big (c :: a)) (hb : GoodIn big b) : GoodIn big (c :: (a ++ b)) := fun w h => (List.mem_cons.mp h).elim (fun e => ha w (List.mem_cons.mpr (Or.inl e))) (fun h => (List.mem_append.mp h).elim (fun h => ha w (List.mem_cons.mpr (Or.inr h))) (hb w))
theorem goodIn_sub {big ws : List Cond} (hm : ∀ w ∈ ws, w ∈ big) (h : ws.all goodWord = true) : GoodIn big ws := fun w hw => ⟨hm w hw, good_of_word (List.all_eq_true.mp h w hw)⟩

def RX0 : String := "OverHill$Dance"
def TX0 : u_T := fun k => match k with
  | 0 => ("OverHill$Dance", "gap", "I", false)
  | 1 => ("OverHill$Dance", "odds", "I", false)
  | 2 => ("OverHill$Dance", "rain", "I", false)
  | 3 => ("OverHill$Dance", "lines", "I", false)
  | 4 => ("OverHill$Dance", "steps", "[I", true)
  | 5 => ("OverHill$Dance", "lengths", "[I", true)
  | 6 => ("OverHill$Dance", "starts", "[I", true)
  | 7 => ("OverHill$Dance", "met", "[I", true)
  | 8 => ("OverHill$Dance", "stumbles", "[I", true)
  | 9 => ("OverHill$Dance", "stumbleCount", "I", false)
  | 10 => ("OverHill$Dance", "muds", "[I", true)
  | 11 => ("OverHill$Dance", "cells", "[I", true)
  | 12 => ("OverHill$Dance", "cellCount", "I", false)
  | 13 => ("OverHill$Dance", "tunes", "[I", true)
  | 14 => ("OverHill$Dance", "tuneCount", "I", false)
  | 15 => ("OverHill$Dance", "changes", "[I", true)
  | _ => ("OverHill$Dance", "changeCount", "I", false)
def tyX0 : Nat → FieldType := fun k => match k with
  | 0 => .int
  | 1 => .int
  | 2 => .int
  | 3 => .int
  | 4 => .array .int
  | 5 => .array .int
  | 6 => .array .int
  | 7 => .array .int
  | 8 => .array .int
  | 9 => .int
  | 10 => .array .int
  | 11 => .array .int
  | 12 => .int
  | 13 => .array .int
  | 14 => .int
  | 15 => .array .int
  | _ => .int
abbrev wsX00 : List Cond := u_ws RX0 TX0 17
theorem nmX0 : ∀ a, a < 17 → ∀ b, b < 17 → a ≠ b → (TX0 a).2.1 ≠ (TX0 b).2.1 := by decide +kernel
theorem tyX0_ok : ∀ k, k < 17 → parseFieldDescriptor (TX0 k).2.2.1 = some (tyX0 k) := by decide +kernel
def yX0_init : MethodName := ⟨RX0, "<init>", "()V"⟩
abbrev cX0_stands : ByteArray := prog_2_method_4_code
def yX0_stands : MethodName := ⟨RX0, "stands", "()Z"⟩
abbrev cX0_hasPlace : ByteArray := prog_2_method_6_code
def yX0_hasPlace : MethodName := ⟨RX0, "hasPlace", "(II)Z"⟩
abbrev cX0_stepAt : ByteArray := prog_2_method_8_code
def yX0_stepAt : MethodName := ⟨RX0, "stepAt", "(II)I"⟩
def RX1 : String := "OverHill$Floor"
def TX1 : u_T := fun k => match k with
  | 0 => ("OverHill$Floor", "places", "[I", true)
  | 1 => ("OverHill$Floor", "steps", "[I", true)
  | 2 => ("OverHill$Floor", "stumbleIn", "[I", true)
  | 3 => ("OverHill$Floor", "gap", "I", false)
  | 4 => ("OverHill$Floor", "calmLength", "I", false)
  | _ => ("OverHill$Floor", "calmStart", "I", false)
def tyX1 : Nat → FieldType := fun k => match k with
  | 0 => .array .int
  | 1 => .array .int
  | 2 => .array .int
  | 3 => .int
  | 4 => .int
  | _ => .int
abbrev wsX10 : List Cond := u_ws RX1 TX1 6
theorem nmX1 : ∀ a, a < 6 → ∀ b, b < 6 → a ≠ b → (TX1 a).2.1 ≠ (TX1 b).2.1 := by decide +kernel
theorem tyX1_ok : ∀ k, k < 6 → parseFieldDescriptor (TX1 k).2.2.1 = some (tyX1 k) := by decide +kernel
def yX1_init : MethodName := ⟨RX1, "<init>", "()V"⟩
def RX2 : String := "OverHill$Game"
def TX2 : u_T := fun k => match k with
  | _ => ("OverHill$Game", "winning", "[I", true)
def tyX2 : Nat → FieldType := fun k => match k with
  | _ => .array .int
abbrev wsX20 : List Cond := u_ws RX2 TX2 1
theorem nmX2 : ∀ a, a < 1 → ∀ b, b < 1 → a ≠ b → (TX2 a).2.1 ≠ (TX2 b).2.1 := by decide +kernel
theorem tyX2_ok : ∀ k, k < 1 → parseFieldDescriptor (TX2 k).2.2.1 = some (tyX2 k) := by decide +kernel
def yX2_init : MethodName := ⟨RX2, "<init>", "()V"⟩
def RX3 : String := "OverHill$Guess"
def TX3 : u_T := fun k => match k with
  | 0 => ("OverHill$Guess", "gap", "I", false)
  | 1 => ("OverHill$Guess", "length", "I", false)
  | 2 => ("OverHill$Guess", "round", "[I", true)
  | 3 => ("OverHill$Guess", "impossible", "Z", false)
  | 4 => ("OverHill$Guess", "firstUnlike", "I", false)
  | 5 => ("OverHill$Guess", "lastUnlike", "[I", true)
  | 6 => ("OverHill$Guess", "places", "[I", true)
  | 7 => ("OverHill$Guess", "stepsIn", "[I", true)
  | 8 => ("OverHill$Guess", "passed", "[I", true)
  | 9 => ("OverHill$Guess", "classes", "[I", true)
  | 10 => ("OverHill$Guess", "bestBeat", "I", false)
  | _ => ("OverHill$Guess", "bestLeft", "I", false)
def tyX3 : Nat → FieldType := fun k => match k with
  | 0 => .int
  | 1 => .int
  | 2 => .array .int
  | 3 => .boolean
  | 4 => .int
  | 5 => .array .int
  | 6 => .array .int
  | 7 => .array .int
  | 8 => .array .int
  | 9 => .array .int
  | 10 => .int
  | _ => .int
abbrev wsX30 : List Cond := u_ws RX3 TX3 12
theorem nmX3 : ∀ a, a < 12 → ∀ b, b < 12 → a ≠ b → (TX3 a).2.1 ≠ (TX3 b).2.1 := by decide +kernel
theorem tyX3_ok : ∀ k, k < 12 → parseFieldDescriptor (TX3 k).2.2.1 = some (tyX3 k) := by decide +kernel
def yX3_init : MethodName := ⟨RX3, "<init>", "()V"⟩
def RX4 : String := "OverHill$Night"
def TX4 : u_T := fun k => match k with
  | 0 => ("OverHill$Night", "danced", "[I", true)
  | 1 => ("OverHill$Night", "places", "[I", true)
  | 2 => ("OverHill$Night", "state", "J", false)
  | 3 => ("OverHill$Night", "holeCount", "I", false)
  | 4 => ("OverHill$Night", "firstHole", "I", false)
  | 5 => ("OverHill$Night", "mudCount", "I", false)
  | _ => ("OverHill$Night", "slipCount", "I", false)
def tyX4 : Nat → FieldType := fun k => match k with
  | 0 => .array .int
  | 1 => .array .int
  | 2 => .long
  | 3 => .int
  | 4 => .int
  | 5 => .int
  | _ => .int
abbrev wsX40 : List Cond := u_ws RX4 TX4 7
theorem nmX4 : ∀ a, a < 7 → ∀ b, b < 7 → a ≠ b → (TX4 a).2.1 ≠ (TX4 b).2.1 := by decide +kernel
theorem tyX4_ok : ∀ k, k < 7 → parseFieldDescriptor (TX4 k).2.2.1 = some (tyX4 k) := by decide +kernel
def yX4_init : MethodName := ⟨RX4, "<init>", "()V"⟩
def RX5 : String := "OverHill$Reader"
def TX5 : u_T := fun k => match k with
  | 0 => ("OverHill$Reader", "tape", "LOverHill$Tape;", true)
  | 1 => ("OverHill$Reader", "numberPlace", "I", false)
  | 2 => ("OverHill$Reader", "fault", "I", false)
  | _ => ("OverHill$Reader", "faultPlace", "I", false)
def tyX5 : Nat → FieldType := fun k => match k with
  | 0 => .object "OverHill$Tape"
  | 1 => .int
  | 2 => .int
  | _ => .int
abbrev wsX50 : List Cond := u_ws RX5 TX5 4
theorem nmX5 : ∀ a, a < 4 → ∀ b, b < 4 → a ≠ b → (TX5 a).2.1 ≠ (TX5 b).2.1 := by decide +kernel
theorem tyX5_ok : ∀ k, k < 4 → parseFieldDescriptor (TX5 k).2.2.1 = some (tyX5 k) := by decide +kernel
def yX5_init : MethodName := ⟨RX5, "<init>", "()V"⟩
def RX6 : String := "OverHill$Rounds"
def TX6 : u_T := fun k => match k with
  | _ => ("OverHill$Rounds", "fits", "[I", true)
def tyX6 : Nat → FieldType := fun k => match k with
  | _ => .array .int
abbrev wsX60 : List Cond := u_ws RX6 TX6 1
theorem nmX6 : ∀ a, a < 1 → ∀ b, b < 1 → a ≠ b → (TX6 a).2.1 ≠ (TX6 b).2.1 := by decide +kernel
theorem tyX6_ok : ∀ k, k < 1 → parseFieldDescriptor (TX6 k).2.2.1 = some (tyX6 k) := by decide +kernel
def yX6_init : MethodName := ⟨RX6, "<init>", "()V"⟩
def RX7 : String := "OverHill$Slots"
def TX7 : u_T := fun k => match k with
  | 0 => ("OverHill$Slots", "widths", "[I", true)
  | 1 => ("OverHill$Slots", "sizes", "[I", true)
  | _ => ("OverHill$Slots", "numbers", "[J", true)
def tyX7 : Nat → FieldType := fun k => match k with
  | 0 => .array .int
  | 1 => .array .int
  | _ => .array .long
abbrev wsX70 : List Cond := u_ws RX7 TX7 3
theorem nmX7 : ∀ a, a < 3 → ∀ b, b < 3 → a ≠ b → (TX7 a).2.1 ≠ (TX7 b).2.1 := by decide +kernel
theorem tyX7_ok : ∀ k, k < 3 → parseFieldDescriptor (TX7 k).2.2.1 = some (tyX7 k) := by decide +kernel
def yX7_init : MethodName := ⟨RX7, "<init>", "()V"⟩
def RX8 : String := "OverHill$Tape"
def TX8 : u_T := fun k => match k with
  | 0 => ("OverHill$Tape", "bytes", "[B", true)
  | 1 => ("OverHill$Tape", "length", "I", false)
  | 2 => ("OverHill$Tape", "kind", "I", false)
  | 3 => ("OverHill$Tape", "from", "I", false)
  | 4 => ("OverHill$Tape", "upto", "I", false)
  | _ => ("OverHill$Tape", "value", "I", false)
def tyX8 : Nat → FieldType := fun k => match k with
  | 0 => .array .byte
  | 1 => .int
  | 2 => .int
  | 3 => .int
  | 4 => .int
  | _ => .int
abbrev wsX80 : List Cond := u_ws RX8 TX8 6
theorem nmX8 : ∀ a, a < 6 → ∀ b, b < 6 → a ≠ b → (TX8 a).2.1 ≠ (TX8 b).2.1 := by decide +kernel
theorem tyX8_ok : ∀ k, k < 6 → parseFieldDescriptor (TX8 k).2.2.1 = some (tyX8 k) := by decide +kernel
def yX8_init : MethodName := ⟨RX8, "<init>", "()V"⟩
def RX9 : String := "OverHill$Tunes"
def TX9 : u_T := fun k => match k with
  | 0 => ("OverHill$Tunes", "every", "J", false)
  | _ => ("OverHill$Tunes", "at", "J", false)
def tyX9 : Nat → FieldType := fun k => match k with
  | 0 => .long
  | _ => .long
abbrev wsX90 : List Cond := u_ws RX9 TX9 2
theorem nmX9 : ∀ a, a < 2 → ∀ b, b < 2 → a ≠ b → (TX9 a).2.1 ≠ (TX9 b).2.1 := by decide +kernel
theorem tyX9_ok : ∀ k, k < 2 → parseFieldDescriptor (TX9 k).2.2.1 = some (tyX9 k) := by decide +kernel
def yX9_init : MethodName := ⟨RX9, "<init>", "()V"⟩
def RX10 : String := "OverHill$Wood"
def TX10 : u_T := fun k => match k with
  | 0 => ("OverHill$Wood", "arrivals", "[I", true)
  | 1 => ("OverHill$Wood", "meetingBeat", "I", false)
  | _ => ("OverHill$Wood", "meetingCell", "I", false)
def tyX10 : Nat → FieldType := fun k => match k with
  | 0 => .array .int
  | 1 => .int
  | _ => .int
abbrev wsX100 : List Cond := u_ws RX10 TX10 3
theorem nmX10 : ∀ a, a < 3 → ∀ b, b < 3 → a ≠ b → (TX10 a).2.1 ≠ (TX10 b).2.1 := by decide +kernel
theorem tyX10_ok : ∀ k, k < 3 → parseFieldDescriptor (TX10 k).2.2.1 = some (tyX10 k) := by decide +kernel
def yX10_init : MethodName := ⟨RX10, "<init>", "()V"⟩
def RX11 : String := "OverHill"
def TX11 : u_T := fun k => match k with
  | 0 => ("OverHill", "reader", "LOverHill$Reader;", true)
  | 1 => ("OverHill", "tape", "LOverHill$Tape;", true)
  | 2 => ("OverHill", "now", "LOverHill$Dance;", false)
  | 3 => ("OverHill", "spare", "LOverHill$Dance;", false)
  | 4 => ("OverHill", "images", "[LOverHill$Dance;", true)
  | 5 => ("OverHill", "kept", "[I", true)
  | 6 => ("OverHill", "floor", "LOverHill$Floor;", true)
  | 7 => ("OverHill", "trial", "LOverHill$Floor;", true)
  | 8 => ("OverHill", "laid", "Z", false)
  | 9 => ("OverHill", "rounds", "LOverHill$Rounds;", true)
  | 10 => ("OverHill", "guess", "LOverHill$Guess;", true)
  | 11 => ("OverHill", "wood", "LOverHill$Wood;", true)
  | 12 => ("OverHill", "tunes", "LOverHill$Tunes;", true)
  | 13 => ("OverHill", "games", "LOverHill$Game;", true)
  | 14 => ("OverHill", "night", "LOverHill$Night;", true)
  | _ => ("OverHill", "slots", "LOverHill$Slots;", true)
def tyX11 : Nat → FieldType := fun k => match k with
  | 0 => .object "OverHill$Reader"
  | 1 => .object "OverHill$Tape"
  | 2 => .object "OverHill$Dance"
  | 3 => .object "OverHill$Dance"
  | 4 => .array (.object "OverHill$Dance")
  | 5 => .array .int
  | 6 => .object "OverHill$Floor"
  | 7 => .object "OverHill$Floor"
  | 8 => .boolean
  | 9 => .object "OverHill$Rounds"
  | 10 => .object "OverHill$Guess"
  | 11 => .object "OverHill$Wood"
  | 12 => .object "OverHill$Tunes"
  | 13 => .object "OverHill$Game"
  | 14 => .object "OverHill$Night"
  | _ => .object "OverHill$Slots"
abbrev wsX110 : List Cond := u_ws RX11 TX11 16
theorem nmX11 : ∀ a, a < 16 → ∀ b, b < 16 → a ≠ b → (TX11 a).2.1 ≠ (TX11 b).2.1 := by decide +kernel
theorem tyX11_ok : ∀ k, k < 16 → parseFieldDescriptor (TX11 k).2.2.1 = some (tyX11 k) := by decide +kernel
abbrev cX11_step : ByteArray := prog_1_method_6_code
def yX11_step : MethodName := ⟨RX11, "step", "(II)I"⟩
abbrev cX11_isWithin : ByteArray := prog_1_method_69_code
def yX11_isWithin : MethodName := ⟨RX11, "isWithin", "(II)Z"⟩
abbrev cX11_isSide : ByteArray := prog_1_method_70_code
def yX11_isSide : MethodName := ⟨RX11, "isSide", "(I)Z"⟩
abbrev cX11_isStep : ByteArray := prog_1_method_71_code
def yX11_isStep : MethodName := ⟨RX11, "isStep", "(I)Z"⟩
abbrev cX11_isBeat : ByteArray := prog_1_method_72_code
def yX11_isBeat : MethodName := ⟨RX11, "isBeat", "(I)Z"⟩
def yX11_wrap : MethodName := ⟨RX11, "wrap", "(II)I"⟩
def yX11_commonMultiple : MethodName := ⟨RX11, "commonMultiple", "(JJ)J"⟩
def RX12 : String := "OverHillModel"
def TX12 : u_T := fun k => match k with
  | 0 => ("OverHillModel", "thrown", "I", false)
  | 1 => ("OverHillModel", "width", "[I", true)
  | 2 => ("OverHillModel", "many", "[I", true)
  | 3 => ("OverHillModel", "cells", "[J", true)
  | 4 => ("OverHillModel", "moved", "[J", true)
  | 5 => ("OverHillModel", "tape", "[B", true)
  | 6 => ("OverHillModel", "taped", "I", false)
  | 7 => ("OverHillModel", "at", "I", false)
  | 8 => ("OverHillModel", "token", "I", false)
  | 9 => ("OverHillModel", "place", "I", false)
  | 10 => ("OverHillModel", "value", "I", false)
  | 11 => ("OverHillModel", "word", "J", false)
  | 12 => ("OverHillModel", "bad", "I", false)
  | 13 => ("OverHillModel", "badPlace", "I", false)
  | 14 => ("OverHillModel", "fault", "I", false)
  | 15 => ("OverHillModel", "faultPlace", "I", false)
  | 16 => ("OverHillModel", "lines", "[I", true)
  | 17 => ("OverHillModel", "has", "[I", true)
  | 18 => ("OverHillModel", "round", "[I", true)
  | 19 => ("OverHillModel", "meets", "[I", true)
  | 20 => ("OverHillModel", "stumble", "[I", true)
  | 21 => ("OverHillModel", "isMud", "[Z", true)
  | 22 => ("OverHillModel", "cell", "[I", true)
  | 23 => ("OverHillModel", "tune", "[I", true)
  | 24 => ("OverHillModel", "change", "[I", true)
  | 25 => ("OverHillModel", "isKept", "[Z", true)
  | 26 => ("OverHillModel", "steps", "[I", true)
  | 27 => ("OverHillModel", "places", "[I", true)
  | 28 => ("OverHillModel", "danced", "[I", true)
  | 29 => ("OverHillModel", "runMost", "I", false)
  | 30 => ("OverHillModel", "runBegins", "I", false)
  | 31 => ("OverHillModel", "heardBy", "[I", true)
  | 32 => ("OverHillModel", "fitMany", "I", false)
  | 33 => ("OverHillModel", "fitFirst", "I", false)
  | 34 => ("OverHillModel", "fitBeats", "J", false)
  | 35 => ("OverHillModel", "listenLeaves", "I", false)
  | 36 => ("OverHillModel", "there", "[I", true)
  | 37 => ("OverHillModel", "metAt", "I", false)
  | 38 => ("OverHillModel", "metIn", "I", false)
  | 39 => ("OverHillModel", "wins", "[I", true)
  | 40 => ("OverHillModel", "nightHoles", "I", false)
  | 41 => ("OverHillModel", "nightFirst", "I", false)
  | 42 => ("OverHillModel", "nightMud", "I", false)
  | 43 => ("OverHillModel", "nightSlips", "I", false)
  | _ => ("OverHillModel", "drawnNow", "J", false)
def tyX12 : Nat → FieldType := fun k => match k with
  | 0 => .int
  | 1 => .array .int
  | 2 => .array .int
  | 3 => .array .long
  | 4 => .array .long
  | 5 => .array .byte
  | 6 => .int
  | 7 => .int
  | 8 => .int
  | 9 => .int
  | 10 => .int
  | 11 => .long
  | 12 => .int
  | 13 => .int
  | 14 => .int
  | 15 => .int
  | 16 => .array .int
  | 17 => .array .int
  | 18 => .array .int
  | 19 => .array .int
  | 20 => .array .int
  | 21 => .array .boolean
  | 22 => .array .int
  | 23 => .array .int
  | 24 => .array .int
  | 25 => .array .boolean
  | 26 => .array .int
  | 27 => .array .int
  | 28 => .array .int
  | 29 => .int
  | 30 => .int
  | 31 => .array .int
  | 32 => .int
  | 33 => .int
  | 34 => .long
  | 35 => .int
  | 36 => .array .int
  | 37 => .int
  | 38 => .int
  | 39 => .array .int
  | 40 => .int
  | 41 => .int
  | 42 => .int
  | 43 => .int
  | _ => .long
abbrev wsX120 : List Cond := u_ws RX12 TX12 45
theorem nmX12 : ∀ a, a < 45 → ∀ b, b < 45 → a ≠ b → (TX12 a).2.1 ≠ (TX12 b).2.1 := by decide +kernel
theorem tyX12_ok : ∀ k, k < 45 → parseFieldDescriptor (TX12 k).2.2.1 = some (tyX12 k) := by decide +kernel
def RL : String := "OverHillLaw"
def wsX0_stands : List Cond := .code yX0_stands cX0_stands 1 (some .boolean) :: ([.fieldLink RX0 49 "OverHill$Dance" "lines" "I"] ++ wsX00)
def wsX11_isWithin : List Cond := .code yX11_isWithin cX11_isWithin 2 (some .boolean) :: ([])
def wsX11_isSide : List Cond := .code yX11_isSide cX11_isSide 1 (some .boolean) :: ([.methodLink RX11 150 yX11_isWithin, .static yX11_isWithin, .initialized RX11, .code yX11_isWithin cX11_isWithin 2 (some .boolean)])
def wsX11_step : List Cond := .code yX11_step cX11_step 3 (some .int) :: ([.fieldLink RX11 24 "OverHill" "now" "LOverHill$Dance;", .methodLink RX11 125 yX0_stands, .instanceMethod yX0_stands, .selects RX0 yX0_stands yX0_stands, .initialized RX0, .code yX0_stands cX0_stands 1 (some .boolean), .fieldLink RX0 49 "OverHill$Dance" "lines" "I", .methodLink RX11 129 yX11_isSide, .static yX11_isSide, .initialized RX11, .code yX11_isSide cX11_isSide 1 (some .boolean), .methodLink RX11 150 yX11_isWithin, .static yX11_isWithin, .code yX11_isWithin cX11_isWithin 2 (some .boolean), .methodLink RX11 133 yX0_hasPlace, .instanceMethod yX0_hasPlace, .selects RX0 yX0_hasPlace yX0_hasPlace, .code yX0_hasPlace cX0_hasPlace 3 (some .boolean), .fieldLink RX0 15 "OverHill$Dance" "lengths" "[I", .methodLink RX11 137 yX0_stepAt, .instanceMethod yX0_stepAt, .selects RX0 yX0_stepAt yX0_stepAt, .code yX0_stepAt cX0_stepAt 3 (some .int), .fieldLink RX0 9 "OverHill$Dance" "steps" "[I"] ++ wsX110 ++ wsX00)
def wsX11_isStep : List Cond := .code yX11_isStep cX11_isStep 1 (some .boolean) :: ([.methodLink RX11 150 yX11_isWithin, .static yX11_isWithin, .initialized RX11, .code yX11_isWithin cX11_isWithin 2 (some .boolean)])
def wsX11_isBeat : List Cond := .code yX11_isBeat cX11_isBeat 1 (some .boolean) :: ([.methodLink RX11 150 yX11_isWithin, .static yX11_isWithin, .initialized RX11, .code yX11_isWithin cX11_isWithin 2 (some .boolean)])
theorem dX0_stands_0 : decode cX0_stands 0 = .ok (.aload_n 0, 1) := by decide +kernel
theorem dX0_stands_1 : decode cX0_stands 1 = .ok (.getfield 49, 3) := by decide +kernel
theorem dX0_stands_4 : decode cX0_stands 4 = .ok (.ifCond .le 7, 3) := by decide +kernel
theorem dX0_stands_11 : decode cX0_stands 11 = .ok (.iconst 0, 1) := by decide +kernel
theorem dX0_stands_12 : decode cX0_stands 12 = .ok (.ireturn, 1) := by decide +kernel
set_option maxRecDepth 20000 in
theorem ggX11_step_X0_stands : GoodIn wsX11_step wsX0_stands := goodIn_r _ [6, 7, 41, 42, 43, 44, 45, 46, 47, 48, 49, 50, 51, 52, 53, 54, 55, 56, 57] (by decide +kernel) (by decide +kernel)
set_option maxRecDepth 20000 in
theorem gX11_step_X0_stands : GoodIn wsX11_step (wsV RX11 125 RX0 yX0_stands wsX0_stands) := goodIn_app (goodIn_of _ (by decide +kernel)) ggX11_step_X0_stands
theorem dX11_step_0 : decode cX11_step 0 = .ok (.aload_n 0, 1) := by decide +kernel
theorem dX11_step_1 : decode cX11_step 1 = .ok (.getfield 24, 3) := by decide +kernel
theorem dX11_step_4 : decode cX11_step 4 = .ok (.invokevirtual 125, 3) := by decide +kernel
theorem dX11_step_7 : decode cX11_step 7 = .ok (.ifCond .eq 10, 3) := by decide +kernel
theorem dX11_step_17 : decode cX11_step 17 = .ok (.bipush (-2), 2) := by decide +kernel
theorem dX11_step_19 : decode cX11_step 19 = .ok (.ireturn, 1) := by decide +kernel
theorem dX11_isWithin_0 : decode cX11_isWithin 0 = .ok (.iload_n 0, 1) := by decide +kernel
theorem dX11_isWithin_1 : decode cX11_isWithin 1 = .ok (.ifCond .lt 12, 3) := by decide +kernel
theorem dX11_isWithin_4 : decode cX11_isWithin 4 = .ok (.iload_n 0, 1) := by decide +kernel
theorem dX11_isWithin_5 : decode cX11_isWithin 5 = .ok (.iload_n 1, 1) := by decide +kernel
theorem dX11_isWithin_6 : decode cX11_isWithin 6 = .ok (.if_icmp .ge 7, 3) := by decide +kernel
theorem dX11_isWithin_9 : decode cX11_isWithin 9 = .ok (.iconst 1, 1) := by decide +kernel
theorem dX11_isWithin_10 : decode cX11_isWithin 10 = .ok (.goto 4, 3) := by decide +kernel
theorem dX11_isWithin_13 : decode cX11_isWithin 13 = .ok (.iconst 0, 1) := by decide +kernel
theorem dX11_isWithin_14 : decode cX11_isWithin 14 = .ok (.ireturn, 1) := by decide +kernel
set_option maxRecDepth 20000 in
theorem ggX11_isSide_X11_isWithin : GoodIn wsX11_isSide wsX11_isWithin := goodIn_r _ [4] (by decide +kernel) (by decide +kernel)
set_option maxRecDepth 20000 in
theorem gX11_isSide_X11_isWithin : GoodIn wsX11_isSide (va_wsS RX11 150 yX11_isWithin wsX11_isWithin) := goodIn_app (goodIn_of _ (by decide +kernel)) ggX11_isSide_X11_isWithin
theorem dX11_isSide_0 : decode cX11_isSide 0 = .ok (.iload_n 0, 1) := by decide +kernel
theorem dX11_isSide_1 : decode cX11_isSide 1 = .ok (.iconst 2, 1) := by decide +kernel
theorem dX11_isSide_2 : decode cX11_isSide 2 = .ok (.invokestatic 150, 3) := by decide +kernel
theorem dX11_isSide_5 : decode cX11_isSide 5 = .ok (.ireturn, 1) := by decide +kernel
set_option maxRecDepth 20000 in
theorem ggX11_isStep_X11_isWithin : GoodIn wsX11_isStep wsX11_isWithin := goodIn_r _ [4] (by decide +kernel) (by decide +kernel)
set_option maxRecDepth 20000 in
theorem gX11_isStep_X11_isWithin : GoodIn wsX11_isStep (va_wsS RX11 150 yX11_isWithin wsX11_isWithin) := goodIn_app (goodIn_of _ (by decide +kernel)) ggX11_isStep_X11_isWithin
theorem dX11_isStep_0 : decode cX11_isStep 0 = .ok (.iload_n 0, 1) := by decide +kernel
theorem dX11_isStep_1 : decode cX11_isStep 1 = .ok (.bipush 6, 2) := by decide +kernel
theorem dX11_isStep_3 : decode cX11_isStep 3 = .ok (.invokestatic 150, 3) := by decide +kernel
theorem dX11_isStep_6 : decode cX11_isStep 6 = .ok (.ireturn, 1) := by decide +kernel
set_option maxRecDepth 20000 in
theorem ggX11_isBeat_X11_isWithin : GoodIn wsX11_isBeat wsX11_isWithin := goodIn_r _ [4] (by decide +kernel) (by decide +kernel)
set_option maxRecDepth 20000 in
theorem gX11_isBeat_X11_isWithin : GoodIn wsX11_isBeat (va_wsS RX11 150 yX11_isWithin wsX11_isWithin) := goodIn_app (goodIn_of _ (by decide +kernel)) ggX11_isBeat_X11_isWithin
theorem dX11_isBeat_0 : decode cX11_isBeat 0 = .ok (.iload_n 0, 1) := by decide +kernel
theorem dX11_isBeat_1 : decode cX11_isBeat 1 = .ok (.sipush 200, 3) := by decide +kernel
theorem dX11_isBeat_4 : decode cX11_isBeat 4 = .ok (.invokestatic 150, 3) := by decide +kernel
theorem dX11_isBeat_7 : decode cX11_isBeat 7 = .ok (.ireturn, 1) := by decide +kernel
abbrev vwCl : List vw_C := [(RX0, TX0, 17), (RX1, TX1, 6), (RX2, TX2, 1), (RX3, TX3, 12), (RX4, TX4, 7), (RX5, TX5, 4), (RX6, TX6, 1), (RX7, TX7, 3), (RX8, TX8, 6), (RX9, TX9, 2), (RX10, TX10, 3), (RX11, TX11, 16), (RX12, TX12, 45)]
