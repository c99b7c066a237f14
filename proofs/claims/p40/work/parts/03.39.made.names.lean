abbrev cX0_init : ByteArray := prog_2_method_1_code
abbrev cX1_init : ByteArray := prog_3_method_1_code
abbrev cX2_init : ByteArray := prog_4_method_1_code
abbrev cX3_init : ByteArray := prog_5_method_1_code
abbrev cX4_init : ByteArray := prog_6_method_1_code
abbrev cX5_init : ByteArray := prog_7_method_1_code
abbrev cX6_init : ByteArray := prog_8_method_1_code
abbrev cX7_init : ByteArray := prog_9_method_1_code
abbrev cX8_init : ByteArray := prog_10_method_1_code
abbrev cX9_init : ByteArray := prog_11_method_1_code
abbrev cX10_init : ByteArray := prog_12_method_1_code
abbrev cX11_init : ByteArray := prog_1_method_1_code
def yX11_init : MethodName := ⟨RX11, "<init>", "()V"⟩
abbrev cX12_init : ByteArray := prog_14_method_1_code
def yX12_init : MethodName := ⟨RX12, "<init>", "()V"⟩
def wsX0_init : List Cond := .code yX0_init cX0_init 1 none :: ([.methodLink RX0 3 objectInit, .instanceMethod objectInit, .code objectInit ⟨#[0xb1]⟩ 1 none, .arrayClass .int, .fieldLink RX0 9 "OverHill$Dance" "steps" "[I", .fieldLink RX0 15 "OverHill$Dance" "lengths" "[I", .fieldLink RX0 18 "OverHill$Dance" "starts" "[I", .fieldLink RX0 21 "OverHill$Dance" "met" "[I", .fieldLink RX0 24 "OverHill$Dance" "stumbles" "[I", .fieldLink RX0 27 "OverHill$Dance" "muds" "[I", .fieldLink RX0 30 "OverHill$Dance" "cells" "[I", .fieldLink RX0 33 "OverHill$Dance" "tunes" "[I", .fieldLink RX0 36 "OverHill$Dance" "changes" "[I"] ++ wsX00)
def wsX1_init : List Cond := .code yX1_init cX1_init 1 none :: ([.methodLink RX1 3 objectInit, .instanceMethod objectInit, .code objectInit ⟨#[0xb1]⟩ 1 none, .arrayClass .int, .fieldLink RX1 9 "OverHill$Floor" "places" "[I", .fieldLink RX1 15 "OverHill$Floor" "steps" "[I", .fieldLink RX1 18 "OverHill$Floor" "stumbleIn" "[I"] ++ wsX10)
def wsX2_init : List Cond := .code yX2_init cX2_init 1 none :: ([.methodLink RX2 3 objectInit, .instanceMethod objectInit, .code objectInit ⟨#[0xb1]⟩ 1 none, .arrayClass .int, .fieldLink RX2 11 "OverHill$Game" "winning" "[I"] ++ wsX20)
def wsX3_init : List Cond := .code yX3_init cX3_init 1 none :: ([.methodLink RX3 3 objectInit, .instanceMethod objectInit, .code objectInit ⟨#[0xb1]⟩ 1 none, .arrayClass .int, .fieldLink RX3 9 "OverHill$Guess" "round" "[I", .fieldLink RX3 15 "OverHill$Guess" "lastUnlike" "[I", .fieldLink RX3 18 "OverHill$Guess" "places" "[I", .fieldLink RX3 21 "OverHill$Guess" "stepsIn" "[I", .fieldLink RX3 24 "OverHill$Guess" "passed" "[I", .fieldLink RX3 27 "OverHill$Guess" "classes" "[I"] ++ wsX30)
def wsX4_init : List Cond := .code yX4_init cX4_init 1 none :: ([.methodLink RX4 3 objectInit, .instanceMethod objectInit, .code objectInit ⟨#[0xb1]⟩ 1 none, .arrayClass .int, .fieldLink RX4 9 "OverHill$Night" "danced" "[I", .fieldLink RX4 15 "OverHill$Night" "places" "[I"] ++ wsX40)
def wsX8_init : List Cond := .code yX8_init cX8_init 1 none :: ([.methodLink RX8 3 objectInit, .instanceMethod objectInit, .code objectInit ⟨#[0xb1]⟩ 1 none, .arrayClass .byte, .fieldLink RX8 9 "OverHill$Tape" "bytes" "[B"] ++ wsX80)
def wsX5_init : List Cond := .code yX5_init cX5_init 1 none :: ([.methodLink RX5 3 objectInit, .instanceMethod objectInit, .code objectInit ⟨#[0xb1]⟩ 1 none, .classLink RX5 9 RX8, .instantiable RX8 6, .initialized RX8, .fieldLink RX5 12 "OverHill$Reader" "tape" "LOverHill$Tape;", .fieldLink RX5 18 "OverHill$Reader" "faultPlace" "I", .instanceMethod yX8_init, .code yX8_init cX8_init 1 none, .methodLink RX8 3 objectInit, .arrayClass .byte, .fieldLink RX8 9 "OverHill$Tape" "bytes" "[B"] ++ wsX80 ++ wsX50)
def wsX6_init : List Cond := .code yX6_init cX6_init 1 none :: ([.methodLink RX6 3 objectInit, .instanceMethod objectInit, .code objectInit ⟨#[0xb1]⟩ 1 none, .arrayClass .int, .fieldLink RX6 9 "OverHill$Rounds" "fits" "[I"] ++ wsX60)
def wsX7_init : List Cond := .code yX7_init cX7_init 1 none :: ([.methodLink RX7 3 objectInit, .instanceMethod objectInit, .code objectInit ⟨#[0xb1]⟩ 1 none, .arrayClass .int, .fieldLink RX7 11 "OverHill$Slots" "widths" "[I", .fieldLink RX7 15 "OverHill$Slots" "sizes" "[I", .arrayClass .long, .fieldLink RX7 18 "OverHill$Slots" "numbers" "[J"] ++ wsX70)
def wsX9_init : List Cond := .code yX9_init cX9_init 1 none :: ([.methodLink RX9 3 objectInit, .instanceMethod objectInit, .code objectInit ⟨#[0xb1]⟩ 1 none])
def wsX10_init : List Cond := .code yX10_init cX10_init 1 none :: ([.methodLink RX10 3 objectInit, .instanceMethod objectInit, .code objectInit ⟨#[0xb1]⟩ 1 none, .arrayClass .int, .fieldLink RX10 9 "OverHill$Wood" "arrivals" "[I"] ++ wsX100)
def wsX11_init_r1 : List Cond := [Cond.methodLink RX11 1 objectInit, Cond.instanceMethod objectInit, Cond.code objectInit ⟨#[0xb1]⟩ 1 none, Cond.classLink RX11 7 RX5, Cond.instantiable RX5 4, Cond.initialized RX5, Cond.fieldLink RX11 10 "OverHill" "reader" "LOverHill$Reader;", Cond.fieldLink RX11 16 "OverHill$Reader" "tape" "LOverHill$Tape;", Cond.fieldLink RX11 20 "OverHill" "tape" "LOverHill$Tape;", Cond.classLink RX11 21 RX0, Cond.instantiable RX0 17, Cond.initialized RX0, Cond.fieldLink RX11 24 "OverHill" "now" "LOverHill$Dance;", Cond.fieldLink RX11 28 "OverHill" "spare" "LOverHill$Dance;", Cond.fieldLink RX11 31 "OverHill" "images" "[LOverHill$Dance;", Cond.arrayClass .int, Cond.fieldLink RX11 35 "OverHill" "kept" "[I", Cond.classLink RX11 39 RX1, Cond.instantiable RX1 6, Cond.initialized RX1, Cond.fieldLink RX11 42 "OverHill" "floor" "LOverHill$Floor;", Cond.fieldLink RX11 46 "OverHill" "trial" "LOverHill$Floor;", Cond.fieldLink RX11 49 "OverHill" "laid" "Z", Cond.classLink RX11 53 RX6]
def wsX11_init_r2 : List Cond := [Cond.instantiable RX6 1, Cond.initialized RX6, Cond.fieldLink RX11 56 "OverHill" "rounds" "LOverHill$Rounds;", Cond.classLink RX11 60 RX3, Cond.instantiable RX3 12, Cond.initialized RX3, Cond.fieldLink RX11 63 "OverHill" "guess" "LOverHill$Guess;", Cond.classLink RX11 67 RX10, Cond.instantiable RX10 3, Cond.initialized RX10, Cond.fieldLink RX11 70 "OverHill" "wood" "LOverHill$Wood;", Cond.classLink RX11 74 RX9, Cond.instantiable RX9 2, Cond.initialized RX9, Cond.fieldLink RX11 77 "OverHill" "tunes" "LOverHill$Tunes;", Cond.classLink RX11 81 RX2, Cond.instantiable RX2 1, Cond.initialized RX2, Cond.fieldLink RX11 84 "OverHill" "games" "LOverHill$Game;", Cond.classLink RX11 88 RX4, Cond.instantiable RX4 7, Cond.initialized RX4, Cond.fieldLink RX11 91 "OverHill" "night" "LOverHill$Night;", Cond.classLink RX11 95 RX7]
def wsX11_init_r3 : List Cond := [Cond.instantiable RX7 3, Cond.initialized RX7, Cond.fieldLink RX11 98 "OverHill" "slots" "LOverHill$Slots;", Cond.instanceMethod yX5_init, Cond.code yX5_init cX5_init 1 none, Cond.methodLink RX5 3 objectInit, Cond.classLink RX5 9 RX8, Cond.instantiable RX8 6, Cond.initialized RX8, Cond.fieldLink RX5 12 "OverHill$Reader" "tape" "LOverHill$Tape;", Cond.fieldLink RX5 18 "OverHill$Reader" "faultPlace" "I", Cond.instanceMethod yX8_init, Cond.code yX8_init cX8_init 1 none, Cond.methodLink RX8 3 objectInit, Cond.arrayClass .byte, Cond.fieldLink RX8 9 "OverHill$Tape" "bytes" "[B", Cond.instanceMethod yX0_init, Cond.code yX0_init cX0_init 1 none, Cond.methodLink RX0 3 objectInit, Cond.fieldLink RX0 9 "OverHill$Dance" "steps" "[I", Cond.fieldLink RX0 15 "OverHill$Dance" "lengths" "[I", Cond.fieldLink RX0 18 "OverHill$Dance" "starts" "[I", Cond.fieldLink RX0 21 "OverHill$Dance" "met" "[I", Cond.fieldLink RX0 24 "OverHill$Dance" "stumbles" "[I"]
def wsX11_init_r4 : List Cond := [Cond.fieldLink RX0 27 "OverHill$Dance" "muds" "[I", Cond.fieldLink RX0 30 "OverHill$Dance" "cells" "[I", Cond.fieldLink RX0 33 "OverHill$Dance" "tunes" "[I", Cond.fieldLink RX0 36 "OverHill$Dance" "changes" "[I", Cond.instanceMethod yX1_init, Cond.code yX1_init cX1_init 1 none, Cond.methodLink RX1 3 objectInit, Cond.fieldLink RX1 9 "OverHill$Floor" "places" "[I", Cond.fieldLink RX1 15 "OverHill$Floor" "steps" "[I", Cond.fieldLink RX1 18 "OverHill$Floor" "stumbleIn" "[I", Cond.instanceMethod yX6_init, Cond.code yX6_init cX6_init 1 none, Cond.methodLink RX6 3 objectInit, Cond.fieldLink RX6 9 "OverHill$Rounds" "fits" "[I", Cond.instanceMethod yX3_init, Cond.code yX3_init cX3_init 1 none, Cond.methodLink RX3 3 objectInit, Cond.fieldLink RX3 9 "OverHill$Guess" "round" "[I", Cond.fieldLink RX3 15 "OverHill$Guess" "lastUnlike" "[I", Cond.fieldLink RX3 18 "OverHill$Guess" "places" "[I", Cond.fieldLink RX3 21 "OverHill$Guess" "stepsIn" "[I", Cond.fieldLink RX3 24 "OverHill$Guess" "passed" "[I", Cond.fieldLink RX3 27 "OverHill$Guess" "classes" "[I", Cond.instanceMethod yX10_init]
def wsX11_init_r5 : List Cond := [Cond.code yX10_init cX10_init 1 none, Cond.methodLink RX10 3 objectInit, Cond.fieldLink RX10 9 "OverHill$Wood" "arrivals" "[I", Cond.instanceMethod yX9_init, Cond.code yX9_init cX9_init 1 none, Cond.methodLink RX9 3 objectInit, Cond.instanceMethod yX2_init, Cond.code yX2_init cX2_init 1 none, Cond.methodLink RX2 3 objectInit, Cond.fieldLink RX2 11 "OverHill$Game" "winning" "[I", Cond.instanceMethod yX4_init, Cond.code yX4_init cX4_init 1 none, Cond.methodLink RX4 3 objectInit, Cond.fieldLink RX4 9 "OverHill$Night" "danced" "[I", Cond.fieldLink RX4 15 "OverHill$Night" "places" "[I", Cond.instanceMethod yX7_init, Cond.code yX7_init cX7_init 1 none, Cond.methodLink RX7 3 objectInit, Cond.fieldLink RX7 11 "OverHill$Slots" "widths" "[I", Cond.fieldLink RX7 15 "OverHill$Slots" "sizes" "[I", Cond.arrayClass .long, Cond.fieldLink RX7 18 "OverHill$Slots" "numbers" "[J"]
def wsX11_init : List Cond := .code yX11_init cX11_init 2 none :: ((wsX11_init_r1 ++ (wsX11_init_r2 ++ (wsX11_init_r3 ++ (wsX11_init_r4 ++ wsX11_init_r5)))) ++ wsX50 ++ wsX110 ++ wsX00 ++ wsX10 ++ wsX60 ++ wsX30 ++ wsX100 ++ wsX90 ++ wsX20 ++ wsX40 ++ wsX70 ++ wsX80)
def wsX12_init_r1 : List Cond := [Cond.methodLink RX12 1 objectInit, Cond.instanceMethod objectInit, Cond.code objectInit ⟨#[0xb1]⟩ 1 none, Cond.arrayClass .int, Cond.fieldLink RX12 7 "OverHillModel" "width" "[I", Cond.fieldLink RX12 13 "OverHillModel" "many" "[I", Cond.arrayClass .long, Cond.fieldLink RX12 16 "OverHillModel" "cells" "[J", Cond.fieldLink RX12 20 "OverHillModel" "moved" "[J", Cond.arrayClass .byte, Cond.fieldLink RX12 23 "OverHillModel" "tape" "[B", Cond.fieldLink RX12 27 "OverHillModel" "faultPlace" "I", Cond.fieldLink RX12 31 "OverHillModel" "lines" "[I", Cond.fieldLink RX12 34 "OverHillModel" "has" "[I", Cond.fieldLink RX12 37 "OverHillModel" "round" "[I", Cond.fieldLink RX12 40 "OverHillModel" "meets" "[I", Cond.fieldLink RX12 43 "OverHillModel" "stumble" "[I", Cond.arrayClass .boolean, Cond.fieldLink RX12 46 "OverHillModel" "isMud" "[Z", Cond.fieldLink RX12 50 "OverHillModel" "cell" "[I", Cond.fieldLink RX12 53 "OverHillModel" "tune" "[I", Cond.fieldLink RX12 56 "OverHillModel" "change" "[I", Cond.fieldLink RX12 59 "OverHillModel" "isKept" "[Z", Cond.fieldLink RX12 62 "OverHillModel" "steps" "[I"]
def wsX12_init_r2 : List Cond := [Cond.fieldLink RX12 65 "OverHillModel" "places" "[I", Cond.fieldLink RX12 68 "OverHillModel" "danced" "[I", Cond.fieldLink RX12 71 "OverHillModel" "heardBy" "[I", Cond.fieldLink RX12 74 "OverHillModel" "there" "[I", Cond.fieldLink RX12 77 "OverHillModel" "wins" "[I"]
def wsX12_init : List Cond := .code yX12_init cX12_init 2 none :: ((wsX12_init_r1 ++ wsX12_init_r2) ++ wsX120)
theorem dX0_init_0 : decode cX0_init 0 = .ok (.aload_n 0, 1) := by decide +kernel
theorem dX0_init_1 : decode cX0_init 1 = .ok (.invokespecial 3, 3) := by decide +kernel
theorem dX0_init_4 : decode cX0_init 4 = .ok (.aload_n 0, 1) := by decide +kernel
theorem dX0_init_5 : decode cX0_init 5 = .ok (.bipush 24, 2) := by decide +kernel
theorem dX0_init_7 : decode cX0_init 7 = .ok (.newarray .int, 2) := by decide +kernel
theorem dX0_init_9 : decode cX0_init 9 = .ok (.putfield 9, 3) := by decide +kernel
theorem dX0_init_12 : decode cX0_init 12 = .ok (.aload_n 0, 1) := by decide +kernel
theorem dX0_init_13 : decode cX0_init 13 = .ok (.iconst 2, 1) := by decide +kernel
theorem dX0_init_14 : decode cX0_init 14 = .ok (.newarray .int, 2) := by decide +kernel
theorem dX0_init_16 : decode cX0_init 16 = .ok (.putfield 15, 3) := by decide +kernel
theorem dX0_init_19 : decode cX0_init 19 = .ok (.aload_n 0, 1) := by decide +kernel
theorem dX0_init_20 : decode cX0_init 20 = .ok (.iconst 2, 1) := by decide +kernel
theorem dX0_init_21 : decode cX0_init 21 = .ok (.newarray .int, 2) := by decide +kernel
theorem dX0_init_23 : decode cX0_init 23 = .ok (.putfield 18, 3) := by decide +kernel
theorem dX0_init_26 : decode cX0_init 26 = .ok (.aload_n 0, 1) := by decide +kernel
theorem dX0_init_27 : decode cX0_init 27 = .ok (.bipush 6, 2) := by decide +kernel
theorem dX0_init_29 : decode cX0_init 29 = .ok (.newarray .int, 2) := by decide +kernel
theorem dX0_init_31 : decode cX0_init 31 = .ok (.putfield 21, 3) := by decide +kernel
theorem dX0_init_34 : decode cX0_init 34 = .ok (.aload_n 0, 1) := by decide +kernel
theorem dX0_init_35 : decode cX0_init 35 = .ok (.bipush 32, 2) := by decide +kernel
theorem dX0_init_37 : decode cX0_init 37 = .ok (.newarray .int, 2) := by decide +kernel
theorem dX0_init_39 : decode cX0_init 39 = .ok (.putfield 24, 3) := by decide +kernel
theorem dX0_init_42 : decode cX0_init 42 = .ok (.aload_n 0, 1) := by decide +kernel
theorem dX0_init_43 : decode cX0_init 43 = .ok (.sipush 200, 3) := by decide +kernel
theorem dX0_init_46 : decode cX0_init 46 = .ok (.newarray .int, 2) := by decide +kernel
theorem dX0_init_48 : decode cX0_init 48 = .ok (.putfield 27, 3) := by decide +kernel
theorem dX0_init_51 : decode cX0_init 51 = .ok (.aload_n 0, 1) := by decide +kernel
theorem dX0_init_52 : decode cX0_init 52 = .ok (.bipush 24, 2) := by decide +kernel
theorem dX0_init_54 : decode cX0_init 54 = .ok (.newarray .int, 2) := by decide +kernel
theorem dX0_init_56 : decode cX0_init 56 = .ok (.putfield 30, 3) := by decide +kernel
theorem dX0_init_59 : decode cX0_init 59 = .ok (.aload_n 0, 1) := by decide +kernel
theorem dX0_init_60 : decode cX0_init 60 = .ok (.bipush 10, 2) := by decide +kernel
theorem dX0_init_62 : decode cX0_init 62 = .ok (.newarray .int, 2) := by decide +kernel
theorem dX0_init_64 : decode cX0_init 64 = .ok (.putfield 33, 3) := by decide +kernel
theorem dX0_init_67 : decode cX0_init 67 = .ok (.aload_n 0, 1) := by decide +kernel
theorem dX0_init_68 : decode cX0_init 68 = .ok (.bipush 120, 2) := by decide +kernel
theorem dX0_init_70 : decode cX0_init 70 = .ok (.newarray .int, 2) := by decide +kernel
theorem dX0_init_72 : decode cX0_init 72 = .ok (.putfield 36, 3) := by decide +kernel
theorem dX0_init_75 : decode cX0_init 75 = .ok (.return_, 1) := by decide +kernel
theorem dX1_init_0 : decode cX1_init 0 = .ok (.aload_n 0, 1) := by decide +kernel
theorem dX1_init_1 : decode cX1_init 1 = .ok (.invokespecial 3, 3) := by decide +kernel
theorem dX1_init_4 : decode cX1_init 4 = .ok (.aload_n 0, 1) := by decide +kernel
theorem dX1_init_5 : decode cX1_init 5 = .ok (.sipush 400, 3) := by decide +kernel
theorem dX1_init_8 : decode cX1_init 8 = .ok (.newarray .int, 2) := by decide +kernel
theorem dX1_init_10 : decode cX1_init 10 = .ok (.putfield 9, 3) := by decide +kernel
theorem dX1_init_13 : decode cX1_init 13 = .ok (.aload_n 0, 1) := by decide +kernel
theorem dX1_init_14 : decode cX1_init 14 = .ok (.sipush 400, 3) := by decide +kernel
theorem dX1_init_17 : decode cX1_init 17 = .ok (.newarray .int, 2) := by decide +kernel
theorem dX1_init_19 : decode cX1_init 19 = .ok (.putfield 15, 3) := by decide +kernel
theorem dX1_init_22 : decode cX1_init 22 = .ok (.aload_n 0, 1) := by decide +kernel
theorem dX1_init_23 : decode cX1_init 23 = .ok (.sipush 200, 3) := by decide +kernel
theorem dX1_init_26 : decode cX1_init 26 = .ok (.newarray .int, 2) := by decide +kernel
theorem dX1_init_28 : decode cX1_init 28 = .ok (.putfield 18, 3) := by decide +kernel
theorem dX1_init_31 : decode cX1_init 31 = .ok (.return_, 1) := by decide +kernel
theorem dX2_init_0 : decode cX2_init 0 = .ok (.aload_n 0, 1) := by decide +kernel
theorem dX2_init_1 : decode cX2_init 1 = .ok (.invokespecial 3, 3) := by decide +kernel
theorem dX2_init_4 : decode cX2_init 4 = .ok (.aload_n 0, 1) := by decide +kernel
theorem dX2_init_5 : decode cX2_init 5 = .ok (.sipush 729, 3) := by decide +kernel
theorem dX2_init_8 : decode cX2_init 8 = .ok (.newarray .int, 2) := by decide +kernel
theorem dX2_init_10 : decode cX2_init 10 = .ok (.putfield 11, 3) := by decide +kernel
theorem dX2_init_13 : decode cX2_init 13 = .ok (.return_, 1) := by decide +kernel
theorem dX3_init_0 : decode cX3_init 0 = .ok (.aload_n 0, 1) := by decide +kernel
theorem dX3_init_1 : decode cX3_init 1 = .ok (.invokespecial 3, 3) := by decide +kernel
theorem dX3_init_4 : decode cX3_init 4 = .ok (.aload_n 0, 1) := by decide +kernel
theorem dX3_init_5 : decode cX3_init 5 = .ok (.bipush 12, 2) := by decide +kernel
theorem dX3_init_7 : decode cX3_init 7 = .ok (.newarray .int, 2) := by decide +kernel
theorem dX3_init_9 : decode cX3_init 9 = .ok (.putfield 9, 3) := by decide +kernel
theorem dX3_init_12 : decode cX3_init 12 = .ok (.aload_n 0, 1) := by decide +kernel
theorem dX3_init_13 : decode cX3_init 13 = .ok (.bipush 10, 2) := by decide +kernel
theorem dX3_init_15 : decode cX3_init 15 = .ok (.newarray .int, 2) := by decide +kernel
theorem dX3_init_17 : decode cX3_init 17 = .ok (.putfield 15, 3) := by decide +kernel
theorem dX3_init_20 : decode cX3_init 20 = .ok (.aload_n 0, 1) := by decide +kernel
theorem dX3_init_21 : decode cX3_init 21 = .ok (.sipush 200, 3) := by decide +kernel
theorem dX3_init_24 : decode cX3_init 24 = .ok (.newarray .int, 2) := by decide +kernel
theorem dX3_init_26 : decode cX3_init 26 = .ok (.putfield 18, 3) := by decide +kernel
theorem dX3_init_29 : decode cX3_init 29 = .ok (.aload_n 0, 1) := by decide +kernel
theorem dX3_init_30 : decode cX3_init 30 = .ok (.bipush 60, 2) := by decide +kernel
theorem dX3_init_32 : decode cX3_init 32 = .ok (.newarray .int, 2) := by decide +kernel
theorem dX3_init_34 : decode cX3_init 34 = .ok (.putfield 21, 3) := by decide +kernel
theorem dX3_init_37 : decode cX3_init 37 = .ok (.aload_n 0, 1) := by decide +kernel
theorem dX3_init_38 : decode cX3_init 38 = .ok (.bipush 10, 2) := by decide +kernel
theorem dX3_init_40 : decode cX3_init 40 = .ok (.newarray .int, 2) := by decide +kernel
theorem dX3_init_42 : decode cX3_init 42 = .ok (.putfield 24, 3) := by decide +kernel
theorem dX3_init_45 : decode cX3_init 45 = .ok (.aload_n 0, 1) := by decide +kernel
theorem dX3_init_46 : decode cX3_init 46 = .ok (.bipush 6, 2) := by decide +kernel
theorem dX3_init_48 : decode cX3_init 48 = .ok (.newarray .int, 2) := by decide +kernel
theorem dX3_init_50 : decode cX3_init 50 = .ok (.putfield 27, 3) := by decide +kernel
theorem dX3_init_53 : decode cX3_init 53 = .ok (.return_, 1) := by decide +kernel
theorem dX4_init_0 : decode cX4_init 0 = .ok (.aload_n 0, 1) := by decide +kernel
theorem dX4_init_1 : decode cX4_init 1 = .ok (.invokespecial 3, 3) := by decide +kernel
theorem dX4_init_4 : decode cX4_init 4 = .ok (.aload_n 0, 1) := by decide +kernel
theorem dX4_init_5 : decode cX4_init 5 = .ok (.sipush 200, 3) := by decide +kernel
theorem dX4_init_8 : decode cX4_init 8 = .ok (.newarray .int, 2) := by decide +kernel
theorem dX4_init_10 : decode cX4_init 10 = .ok (.putfield 9, 3) := by decide +kernel
theorem dX4_init_13 : decode cX4_init 13 = .ok (.aload_n 0, 1) := by decide +kernel
theorem dX4_init_14 : decode cX4_init 14 = .ok (.iconst 2, 1) := by decide +kernel
theorem dX4_init_15 : decode cX4_init 15 = .ok (.newarray .int, 2) := by decide +kernel
theorem dX4_init_17 : decode cX4_init 17 = .ok (.putfield 15, 3) := by decide +kernel
theorem dX4_init_20 : decode cX4_init 20 = .ok (.return_, 1) := by decide +kernel
theorem wrr_wsX5_init {i : Nat} {w : Cond} (h : wsX5_init[i]? = some w) : w ∈ wsX5_init := List.mem_of_getElem? h
theorem wru_wsX5_init_wsX80 : ∀ w ∈ wsX80, w ∈ wsX5_init := fun w h => (List.mem_cons_of_mem _ (List.mem_append_left _ (List.mem_append_right _ h)))
theorem wru_wsX5_init_wsX50 : ∀ w ∈ wsX50, w ∈ wsX5_init := fun w h => (List.mem_cons_of_mem _ (List.mem_append_right _ h))
set_option maxRecDepth 20000 in
theorem gw_wsX8_init : wsX8_init.all goodWord = true := by decide +kernel
set_option maxRecDepth 20000 in
theorem ggX5_init_X8_init : GoodIn wsX5_init wsX8_init := goodIn_sub (List.forall_mem_cons.mpr ⟨wrr_wsX5_init (i := 10) rfl, (List.forall_mem_append.mpr ⟨(List.forall_mem_cons.mpr ⟨wrr_wsX5_init (i := 11) rfl, (List.forall_mem_cons.mpr ⟨wrr_wsX5_init (i := 2) rfl, (List.forall_mem_cons.mpr ⟨wrr_wsX5_init (i := 3) rfl, (List.forall_mem_cons.mpr ⟨wrr_wsX5_init (i := 12) rfl, (List.forall_mem_cons.mpr ⟨wrr_wsX5_init (i := 13) rfl, (fun _ h => absurd h List.not_mem_nil)⟩)⟩)⟩)⟩)⟩), wru_wsX5_init_wsX80⟩)⟩) gw_wsX8_init
set_option maxRecDepth 20000 in
theorem gX5_init_X8_init_n11 : GoodIn wsX5_init (wsX8_init) := ggX5_init_X8_init
theorem dX5_init_0 : decode cX5_init 0 = .ok (.aload_n 0, 1) := by decide +kernel
theorem dX5_init_1 : decode cX5_init 1 = .ok (.invokespecial 3, 3) := by decide +kernel
theorem dX5_init_4 : decode cX5_init 4 = .ok (.aload_n 0, 1) := by decide +kernel
theorem dX5_init_5 : decode cX5_init 5 = .ok (.new 9, 3) := by decide +kernel
theorem dX5_init_8 : decode cX5_init 8 = .ok (.dup, 1) := by decide +kernel
theorem dX5_init_9 : decode cX5_init 9 = .ok (.invokespecial 11, 3) := by decide +kernel
theorem dX5_init_12 : decode cX5_init 12 = .ok (.putfield 12, 3) := by decide +kernel
theorem dX5_init_15 : decode cX5_init 15 = .ok (.aload_n 0, 1) := by decide +kernel
theorem dX5_init_16 : decode cX5_init 16 = .ok (.iconst (-1), 1) := by decide +kernel
theorem dX5_init_17 : decode cX5_init 17 = .ok (.putfield 18, 3) := by decide +kernel
theorem dX5_init_20 : decode cX5_init 20 = .ok (.return_, 1) := by decide +kernel
theorem dX6_init_0 : decode cX6_init 0 = .ok (.aload_n 0, 1) := by decide +kernel
theorem dX6_init_1 : decode cX6_init 1 = .ok (.invokespecial 3, 3) := by decide +kernel
theorem dX6_init_4 : decode cX6_init 4 = .ok (.aload_n 0, 1) := by decide +kernel
theorem dX6_init_5 : decode cX6_init 5 = .ok (.bipush 12, 2) := by decide +kernel
theorem dX6_init_7 : decode cX6_init 7 = .ok (.newarray .int, 2) := by decide +kernel
theorem dX6_init_9 : decode cX6_init 9 = .ok (.putfield 9, 3) := by decide +kernel
theorem dX6_init_12 : decode cX6_init 12 = .ok (.return_, 1) := by decide +kernel
theorem dX7_init_0 : decode cX7_init 0 = .ok (.aload_n 0, 1) := by decide +kernel
theorem dX7_init_1 : decode cX7_init 1 = .ok (.invokespecial 3, 3) := by decide +kernel
theorem dX7_init_4 : decode cX7_init 4 = .ok (.aload_n 0, 1) := by decide +kernel
theorem dX7_init_5 : decode cX7_init 5 = .ok (.iconst 4, 1) := by decide +kernel
theorem dX7_init_6 : decode cX7_init 6 = .ok (.newarray .int, 2) := by decide +kernel
theorem dX7_init_8 : decode cX7_init 8 = .ok (.putfield 11, 3) := by decide +kernel
theorem dX7_init_11 : decode cX7_init 11 = .ok (.aload_n 0, 1) := by decide +kernel
theorem dX7_init_12 : decode cX7_init 12 = .ok (.iconst 4, 1) := by decide +kernel
theorem dX7_init_13 : decode cX7_init 13 = .ok (.newarray .int, 2) := by decide +kernel
theorem dX7_init_15 : decode cX7_init 15 = .ok (.dup, 1) := by decide +kernel
theorem dX7_init_16 : decode cX7_init 16 = .ok (.iconst 0, 1) := by decide +kernel
theorem dX7_init_17 : decode cX7_init 17 = .ok (.iconst (-1), 1) := by decide +kernel
theorem dX7_init_18 : decode cX7_init 18 = .ok (.iastore, 1) := by decide +kernel
theorem dX7_init_19 : decode cX7_init 19 = .ok (.dup, 1) := by decide +kernel
theorem dX7_init_20 : decode cX7_init 20 = .ok (.iconst 1, 1) := by decide +kernel
theorem dX7_init_21 : decode cX7_init 21 = .ok (.iconst (-1), 1) := by decide +kernel
theorem dX7_init_22 : decode cX7_init 22 = .ok (.iastore, 1) := by decide +kernel
theorem dX7_init_23 : decode cX7_init 23 = .ok (.dup, 1) := by decide +kernel
theorem dX7_init_24 : decode cX7_init 24 = .ok (.iconst 2, 1) := by decide +kernel
theorem dX7_init_25 : decode cX7_init 25 = .ok (.iconst (-1), 1) := by decide +kernel
theorem dX7_init_26 : decode cX7_init 26 = .ok (.iastore, 1) := by decide +kernel
theorem dX7_init_27 : decode cX7_init 27 = .ok (.dup, 1) := by decide +kernel
theorem dX7_init_28 : decode cX7_init 28 = .ok (.iconst 3, 1) := by decide +kernel
theorem dX7_init_29 : decode cX7_init 29 = .ok (.iconst (-1), 1) := by decide +kernel
theorem dX7_init_30 : decode cX7_init 30 = .ok (.iastore, 1) := by decide +kernel
theorem dX7_init_31 : decode cX7_init 31 = .ok (.putfield 15, 3) := by decide +kernel
theorem dX7_init_34 : decode cX7_init 34 = .ok (.aload_n 0, 1) := by decide +kernel
theorem dX7_init_35 : decode cX7_init 35 = .ok (.sipush 240, 3) := by decide +kernel
theorem dX7_init_38 : decode cX7_init 38 = .ok (.newarray .long, 2) := by decide +kernel
theorem dX7_init_40 : decode cX7_init 40 = .ok (.putfield 18, 3) := by decide +kernel
theorem dX7_init_43 : decode cX7_init 43 = .ok (.return_, 1) := by decide +kernel
theorem dX8_init_0 : decode cX8_init 0 = .ok (.aload_n 0, 1) := by decide +kernel
theorem dX8_init_1 : decode cX8_init 1 = .ok (.invokespecial 3, 3) := by decide +kernel
theorem dX8_init_4 : decode cX8_init 4 = .ok (.aload_n 0, 1) := by decide +kernel
theorem dX8_init_5 : decode cX8_init 5 = .ok (.sipush 1200, 3) := by decide +kernel
theorem dX8_init_8 : decode cX8_init 8 = .ok (.newarray .byte, 2) := by decide +kernel
theorem dX8_init_10 : decode cX8_init 10 = .ok (.putfield 9, 3) := by decide +kernel
theorem dX8_init_13 : decode cX8_init 13 = .ok (.return_, 1) := by decide +kernel
theorem dX9_init_0 : decode cX9_init 0 = .ok (.aload_n 0, 1) := by decide +kernel
theorem dX9_init_1 : decode cX9_init 1 = .ok (.invokespecial 3, 3) := by decide +kernel
theorem dX9_init_4 : decode cX9_init 4 = .ok (.return_, 1) := by decide +kernel
theorem dX10_init_0 : decode cX10_init 0 = .ok (.aload_n 0, 1) := by decide +kernel
theorem dX10_init_1 : decode cX10_init 1 = .ok (.invokespecial 3, 3) := by decide +kernel
theorem dX10_init_4 : decode cX10_init 4 = .ok (.aload_n 0, 1) := by decide +kernel
theorem dX10_init_5 : decode cX10_init 5 = .ok (.bipush 24, 2) := by decide +kernel
theorem dX10_init_7 : decode cX10_init 7 = .ok (.newarray .int, 2) := by decide +kernel
theorem dX10_init_9 : decode cX10_init 9 = .ok (.putfield 9, 3) := by decide +kernel
theorem dX10_init_12 : decode cX10_init 12 = .ok (.return_, 1) := by decide +kernel
theorem wrr_wsX11_init {i : Nat} {w : Cond} (h : wsX11_init[i]? = some w) : w ∈ wsX11_init := List.mem_of_getElem? h
theorem wrr_wsX11_init_wsX11_init_r1 {i : Nat} {w : Cond} (h : wsX11_init_r1[i]? = some w) : w ∈ wsX11_init := (List.mem_cons_of_mem _ (List.mem_append_left _ (List.mem_append_left _ (List.mem_append_left _ (List.mem_append_left _ (List.mem_append_left _ (List.mem_append_left _ (List.mem_append_left _ (List.mem_append_left _ (List.mem_append_left _ (List.mem_append_left _ (List.mem_append_left _ (List.mem_append_left _ (List.mem_append_left _ (List.mem_of_getElem? h)))))))))))))))
theorem wrr_wsX11_init_wsX11_init_r2 {i : Nat} {w : Cond} (h : wsX11_init_r2[i]? = some w) : w ∈ wsX11_init := (List.mem_cons_of_mem _ (List.mem_append_left _ (List.mem_append_left _ (List.mem_append_left _ (List.mem_append_left _ (List.mem_append_left _ (List.mem_append_left _ (List.mem_append_left _ (List.mem_append_left _ (List.mem_append_left _ (List.mem_append_left _ (List.mem_append_left _ (List.mem_append_left _ (List.mem_append_right _ (List.mem_append_left _ (List.mem_of_getElem? h))))))))))))))))
theorem wrr_wsX11_init_wsX11_init_r3 {i : Nat} {w : Cond} (h : wsX11_init_r3[i]? = some w) : w ∈ wsX11_init := (List.mem_cons_of_mem _ (List.mem_append_left _ (List.mem_append_left _ (List.mem_append_left _ (List.mem_append_left _ (List.mem_append_left _ (List.mem_append_left _ (List.mem_append_left _ (List.mem_append_left _ (List.mem_append_left _ (List.mem_append_left _ (List.mem_append_left _ (List.mem_append_left _ (List.mem_append_right _ (List.mem_append_right _ (List.mem_append_left _ (List.mem_of_getElem? h)))))))))))))))))
theorem wrr_wsX11_init_wsX11_init_r4 {i : Nat} {w : Cond} (h : wsX11_init_r4[i]? = some w) : w ∈ wsX11_init := (List.mem_cons_of_mem _ (List.mem_append_left _ (List.mem_append_left _ (List.mem_append_left _ (List.mem_append_left _ (List.mem_append_left _ (List.mem_append_left _ (List.mem_append_left _ (List.mem_append_left _ (List.mem_append_left _ (List.mem_append_left _ (List.mem_append_left _ (List.mem_append_left _ (List.mem_append_right _ (List.mem_append_right _ (List.mem_append_right _ (List.mem_append_left _ (List.mem_of_getElem? h))))))))))))))))))
theorem wrr_wsX11_init_wsX11_init_r5 {i : Nat} {w : Cond} (h : wsX11_init_r5[i]? = some w) : w ∈ wsX11_init := (List.mem_cons_of_mem _ (List.mem_append_left _ (List.mem_append_left _ (List.mem_append_left _ (List.mem_append_left _ (List.mem_append_left _ (List.mem_append_left _ (List.mem_append_left _ (List.mem_append_left _ (List.mem_append_left _ (List.mem_append_left _ (List.mem_append_left _ (List.mem_append_left _ (List.mem_append_right _ (List.mem_append_right _ (List.mem_append_right _ (List.mem_append_right _ (List.mem_of_getElem? h))))))))))))))))))
theorem wru_wsX11_init_wsX50 : ∀ w ∈ wsX50, w ∈ wsX11_init := fun w h => (List.mem_cons_of_mem _ (List.mem_append_left _ (List.mem_append_left _ (List.mem_append_left _ (List.mem_append_left _ (List.mem_append_left _ (List.mem_append_left _ (List.mem_append_left _ (List.mem_append_left _ (List.mem_append_left _ (List.mem_append_left _ (List.mem_append_left _ (List.mem_append_right _ h)))))))))))))
theorem wru_wsX11_init_wsX110 : ∀ w ∈ wsX110, w ∈ wsX11_init := fun w h => (List.mem_cons_of_mem _ (List.mem_append_left _ (List.mem_append_left _ (List.mem_append_left _ (List.mem_append_left _ (List.mem_append_left _ (List.mem_append_left _ (List.mem_append_left _ (List.mem_append_left _ (List.mem_append_left _ (List.mem_append_left _ (List.mem_append_right _ h))))))))))))
theorem wru_wsX11_init_wsX00 : ∀ w ∈ wsX00, w ∈ wsX11_init := fun w h => (List.mem_cons_of_mem _ (List.mem_append_left _ (List.mem_append_left _ (List.mem_append_left _ (List.mem_append_left _ (List.mem_append_left _ (List.mem_append_left _ (List.mem_append_left _ (List.mem_append_left _ (List.mem_append_left _ (List.mem_append_right _ h)))))))))))
theorem wru_wsX11_init_wsX10 : ∀ w ∈ wsX10, w ∈ wsX11_init := fun w h => (List.mem_cons_of_mem _ (List.mem_append_left _ (List.mem_append_left _ (List.mem_append_left _ (List.mem_append_left _ (List.mem_append_left _ (List.mem_append_left _ (List.mem_append_left _ (List.mem_append_left _ (List.mem_append_right _ h))))))))))
theorem wru_wsX11_init_wsX60 : ∀ w ∈ wsX60, w ∈ wsX11_init := fun w h => (List.mem_cons_of_mem _ (List.mem_append_left _ (List.mem_append_left _ (List.mem_append_left _ (List.mem_append_left _ (List.mem_append_left _ (List.mem_append_left _ (List.mem_append_left _ (List.mem_append_right _ h)))))))))
theorem wru_wsX11_init_wsX30 : ∀ w ∈ wsX30, w ∈ wsX11_init := fun w h => (List.mem_cons_of_mem _ (List.mem_append_left _ (List.mem_append_left _ (List.mem_append_left _ (List.mem_append_left _ (List.mem_append_left _ (List.mem_append_left _ (List.mem_append_right _ h))))))))
theorem wru_wsX11_init_wsX100 : ∀ w ∈ wsX100, w ∈ wsX11_init := fun w h => (List.mem_cons_of_mem _ (List.mem_append_left _ (List.mem_append_left _ (List.mem_append_left _ (List.mem_append_left _ (List.mem_append_left _ (List.mem_append_right _ h)))))))
theorem wru_wsX11_init_wsX90 : ∀ w ∈ wsX90, w ∈ wsX11_init := fun w h => (List.mem_cons_of_mem _ (List.mem_append_left _ (List.mem_append_left _ (List.mem_append_left _ (List.mem_append_left _ (List.mem_append_right _ h))))))
theorem wru_wsX11_init_wsX20 : ∀ w ∈ wsX20, w ∈ wsX11_init := fun w h => (List.mem_cons_of_mem _ (List.mem_append_left _ (List.mem_append_left _ (List.mem_append_left _ (List.mem_append_right _ h)))))
theorem wru_wsX11_init_wsX40 : ∀ w ∈ wsX40, w ∈ wsX11_init := fun w h => (List.mem_cons_of_mem _ (List.mem_append_left _ (List.mem_append_left _ (List.mem_append_right _ h))))
theorem wru_wsX11_init_wsX70 : ∀ w ∈ wsX70, w ∈ wsX11_init := fun w h => (List.mem_cons_of_mem _ (List.mem_append_left _ (List.mem_append_right _ h)))
theorem wru_wsX11_init_wsX80 : ∀ w ∈ wsX80, w ∈ wsX11_init := fun w h => (List.mem_cons_of_mem _ (List.mem_append_right _ h))
set_option maxRecDepth 20000 in
theorem gw_wsX5_init : wsX5_init.all goodWord = true := by decide +kernel
set_option maxRecDepth 20000 in
theorem ggX11_init_X5_init : GoodIn wsX11_init wsX5_init := goodIn_sub (List.forall_mem_cons.mpr ⟨wrr_wsX11_init_wsX11_init_r3 (i := 4) rfl, (List.forall_mem_append.mpr ⟨(List.forall_mem_append.mpr ⟨(List.forall_mem_cons.mpr ⟨wrr_wsX11_init_wsX11_init_r3 (i := 5) rfl, (List.forall_mem_cons.mpr ⟨wrr_wsX11_init_wsX11_init_r1 (i := 1) rfl, (List.forall_mem_cons.mpr ⟨wrr_wsX11_init_wsX11_init_r1 (i := 2) rfl, (List.forall_mem_cons.mpr ⟨wrr_wsX11_init_wsX11_init_r3 (i := 6) rfl, (List.forall_mem_cons.mpr ⟨wrr_wsX11_init_wsX11_init_r3 (i := 7) rfl, (List.forall_mem_cons.mpr ⟨wrr_wsX11_init_wsX11_init_r3 (i := 8) rfl, (List.forall_mem_cons.mpr ⟨wrr_wsX11_init_wsX11_init_r3 (i := 9) rfl, (List.forall_mem_cons.mpr ⟨wrr_wsX11_init_wsX11_init_r3 (i := 10) rfl, (List.forall_mem_cons.mpr ⟨wrr_wsX11_init_wsX11_init_r3 (i := 11) rfl, (List.forall_mem_cons.mpr ⟨wrr_wsX11_init_wsX11_init_r3 (i := 12) rfl, (List.forall_mem_cons.mpr ⟨wrr_wsX11_init_wsX11_init_r3 (i := 13) rfl, (List.forall_mem_cons.mpr ⟨wrr_wsX11_init_wsX11_init_r3 (i := 14) rfl, (List.forall_mem_cons.mpr ⟨wrr_wsX11_init_wsX11_init_r3 (i := 15) rfl, (fun _ h => absurd h List.not_mem_nil)⟩)⟩)⟩)⟩)⟩)⟩)⟩)⟩)⟩)⟩)⟩)⟩)⟩), wru_wsX11_init_wsX80⟩), wru_wsX11_init_wsX50⟩)⟩) gw_wsX5_init
set_option maxRecDepth 20000 in
theorem gX11_init_X5_init_n9 : GoodIn wsX11_init (wsX5_init) := ggX11_init_X5_init
set_option maxRecDepth 20000 in
theorem gw_wsX0_init : wsX0_init.all goodWord = true := by decide +kernel
set_option maxRecDepth 20000 in
theorem ggX11_init_X0_init : GoodIn wsX11_init wsX0_init := goodIn_sub (List.forall_mem_cons.mpr ⟨wrr_wsX11_init_wsX11_init_r3 (i := 17) rfl, (List.forall_mem_append.mpr ⟨(List.forall_mem_cons.mpr ⟨wrr_wsX11_init_wsX11_init_r3 (i := 18) rfl, (List.forall_mem_cons.mpr ⟨wrr_wsX11_init_wsX11_init_r1 (i := 1) rfl, (List.forall_mem_cons.mpr ⟨wrr_wsX11_init_wsX11_init_r1 (i := 2) rfl, (List.forall_mem_cons.mpr ⟨wrr_wsX11_init_wsX11_init_r1 (i := 15) rfl, (List.forall_mem_cons.mpr ⟨wrr_wsX11_init_wsX11_init_r3 (i := 19) rfl, (List.forall_mem_cons.mpr ⟨wrr_wsX11_init_wsX11_init_r3 (i := 20) rfl, (List.forall_mem_cons.mpr ⟨wrr_wsX11_init_wsX11_init_r3 (i := 21) rfl, (List.forall_mem_cons.mpr ⟨wrr_wsX11_init_wsX11_init_r3 (i := 22) rfl, (List.forall_mem_cons.mpr ⟨wrr_wsX11_init_wsX11_init_r3 (i := 23) rfl, (List.forall_mem_cons.mpr ⟨wrr_wsX11_init_wsX11_init_r4 (i := 0) rfl, (List.forall_mem_cons.mpr ⟨wrr_wsX11_init_wsX11_init_r4 (i := 1) rfl, (List.forall_mem_cons.mpr ⟨wrr_wsX11_init_wsX11_init_r4 (i := 2) rfl, (List.forall_mem_cons.mpr ⟨wrr_wsX11_init_wsX11_init_r4 (i := 3) rfl, (fun _ h => absurd h List.not_mem_nil)⟩)⟩)⟩)⟩)⟩)⟩)⟩)⟩)⟩)⟩)⟩)⟩)⟩), wru_wsX11_init_wsX00⟩)⟩) gw_wsX0_init
set_option maxRecDepth 20000 in
theorem gX11_init_X0_init_n23 : GoodIn wsX11_init (wsX0_init) := ggX11_init_X0_init
set_option maxRecDepth 20000 in
theorem gw_wsX1_init : wsX1_init.all goodWord = true := by decide +kernel
set_option maxRecDepth 20000 in
theorem ggX11_init_X1_init : GoodIn wsX11_init wsX1_init := goodIn_sub (List.forall_mem_cons.mpr ⟨wrr_wsX11_init_wsX11_init_r4 (i := 5) rfl, (List.forall_mem_append.mpr ⟨(List.forall_mem_cons.mpr ⟨wrr_wsX11_init_wsX11_init_r4 (i := 6) rfl, (List.forall_mem_cons.mpr ⟨wrr_wsX11_init_wsX11_init_r1 (i := 1) rfl, (List.forall_mem_cons.mpr ⟨wrr_wsX11_init_wsX11_init_r1 (i := 2) rfl, (List.forall_mem_cons.mpr ⟨wrr_wsX11_init_wsX11_init_r1 (i := 15) rfl, (List.forall_mem_cons.mpr ⟨wrr_wsX11_init_wsX11_init_r4 (i := 7) rfl, (List.forall_mem_cons.mpr ⟨wrr_wsX11_init_wsX11_init_r4 (i := 8) rfl, (List.forall_mem_cons.mpr ⟨wrr_wsX11_init_wsX11_init_r4 (i := 9) rfl, (fun _ h => absurd h List.not_mem_nil)⟩)⟩)⟩)⟩)⟩)⟩)⟩), wru_wsX11_init_wsX10⟩)⟩) gw_wsX1_init
set_option maxRecDepth 20000 in
theorem gX11_init_X1_init_n41 : GoodIn wsX11_init (wsX1_init) := ggX11_init_X1_init
set_option maxRecDepth 20000 in
theorem gw_wsX6_init : wsX6_init.all goodWord = true := by decide +kernel
set_option maxRecDepth 20000 in
theorem ggX11_init_X6_init : GoodIn wsX11_init wsX6_init := goodIn_sub (List.forall_mem_cons.mpr ⟨wrr_wsX11_init_wsX11_init_r4 (i := 11) rfl, (List.forall_mem_append.mpr ⟨(List.forall_mem_cons.mpr ⟨wrr_wsX11_init_wsX11_init_r4 (i := 12) rfl, (List.forall_mem_cons.mpr ⟨wrr_wsX11_init_wsX11_init_r1 (i := 1) rfl, (List.forall_mem_cons.mpr ⟨wrr_wsX11_init_wsX11_init_r1 (i := 2) rfl, (List.forall_mem_cons.mpr ⟨wrr_wsX11_init_wsX11_init_r1 (i := 15) rfl, (List.forall_mem_cons.mpr ⟨wrr_wsX11_init_wsX11_init_r4 (i := 13) rfl, (fun _ h => absurd h List.not_mem_nil)⟩)⟩)⟩)⟩)⟩), wru_wsX11_init_wsX60⟩)⟩) gw_wsX6_init
set_option maxRecDepth 20000 in
theorem gX11_init_X6_init_n55 : GoodIn wsX11_init (wsX6_init) := ggX11_init_X6_init
set_option maxRecDepth 20000 in
theorem gw_wsX3_init : wsX3_init.all goodWord = true := by decide +kernel
set_option maxRecDepth 20000 in
theorem ggX11_init_X3_init : GoodIn wsX11_init wsX3_init := goodIn_sub (List.forall_mem_cons.mpr ⟨wrr_wsX11_init_wsX11_init_r4 (i := 15) rfl, (List.forall_mem_append.mpr ⟨(List.forall_mem_cons.mpr ⟨wrr_wsX11_init_wsX11_init_r4 (i := 16) rfl, (List.forall_mem_cons.mpr ⟨wrr_wsX11_init_wsX11_init_r1 (i := 1) rfl, (List.forall_mem_cons.mpr ⟨wrr_wsX11_init_wsX11_init_r1 (i := 2) rfl, (List.forall_mem_cons.mpr ⟨wrr_wsX11_init_wsX11_init_r1 (i := 15) rfl, (List.forall_mem_cons.mpr ⟨wrr_wsX11_init_wsX11_init_r4 (i := 17) rfl, (List.forall_mem_cons.mpr ⟨wrr_wsX11_init_wsX11_init_r4 (i := 18) rfl, (List.forall_mem_cons.mpr ⟨wrr_wsX11_init_wsX11_init_r4 (i := 19) rfl, (List.forall_mem_cons.mpr ⟨wrr_wsX11_init_wsX11_init_r4 (i := 20) rfl, (List.forall_mem_cons.mpr ⟨wrr_wsX11_init_wsX11_init_r4 (i := 21) rfl, (List.forall_mem_cons.mpr ⟨wrr_wsX11_init_wsX11_init_r4 (i := 22) rfl, (fun _ h => absurd h List.not_mem_nil)⟩)⟩)⟩)⟩)⟩)⟩)⟩)⟩)⟩)⟩), wru_wsX11_init_wsX30⟩)⟩) gw_wsX3_init
set_option maxRecDepth 20000 in
theorem gX11_init_X3_init_n62 : GoodIn wsX11_init (wsX3_init) := ggX11_init_X3_init
set_option maxRecDepth 20000 in
theorem gw_wsX10_init : wsX10_init.all goodWord = true := by decide +kernel
set_option maxRecDepth 20000 in
theorem ggX11_init_X10_init : GoodIn wsX11_init wsX10_init := goodIn_sub (List.forall_mem_cons.mpr ⟨wrr_wsX11_init_wsX11_init_r5 (i := 0) rfl, (List.forall_mem_append.mpr ⟨(List.forall_mem_cons.mpr ⟨wrr_wsX11_init_wsX11_init_r5 (i := 1) rfl, (List.forall_mem_cons.mpr ⟨wrr_wsX11_init_wsX11_init_r1 (i := 1) rfl, (List.forall_mem_cons.mpr ⟨wrr_wsX11_init_wsX11_init_r1 (i := 2) rfl, (List.forall_mem_cons.mpr ⟨wrr_wsX11_init_wsX11_init_r1 (i := 15) rfl, (List.forall_mem_cons.mpr ⟨wrr_wsX11_init_wsX11_init_r5 (i := 2) rfl, (fun _ h => absurd h List.not_mem_nil)⟩)⟩)⟩)⟩)⟩), wru_wsX11_init_wsX100⟩)⟩) gw_wsX10_init
set_option maxRecDepth 20000 in
theorem gX11_init_X10_init_n69 : GoodIn wsX11_init (wsX10_init) := ggX11_init_X10_init
set_option maxRecDepth 20000 in
theorem gw_wsX9_init : wsX9_init.all goodWord = true := by decide +kernel
set_option maxRecDepth 20000 in
theorem ggX11_init_X9_init : GoodIn wsX11_init wsX9_init := goodIn_sub (List.forall_mem_cons.mpr ⟨wrr_wsX11_init_wsX11_init_r5 (i := 4) rfl, (List.forall_mem_cons.mpr ⟨wrr_wsX11_init_wsX11_init_r5 (i := 5) rfl, (List.forall_mem_cons.mpr ⟨wrr_wsX11_init_wsX11_init_r1 (i := 1) rfl, (List.forall_mem_cons.mpr ⟨wrr_wsX11_init_wsX11_init_r1 (i := 2) rfl, (fun _ h => absurd h List.not_mem_nil)⟩)⟩)⟩)⟩) gw_wsX9_init
set_option maxRecDepth 20000 in
theorem gX11_init_X9_init_n76 : GoodIn wsX11_init (wsX9_init) := ggX11_init_X9_init
set_option maxRecDepth 20000 in
theorem gw_wsX2_init : wsX2_init.all goodWord = true := by decide +kernel
set_option maxRecDepth 20000 in
theorem ggX11_init_X2_init : GoodIn wsX11_init wsX2_init := goodIn_sub (List.forall_mem_cons.mpr ⟨wrr_wsX11_init_wsX11_init_r5 (i := 7) rfl, (List.forall_mem_append.mpr ⟨(List.forall_mem_cons.mpr ⟨wrr_wsX11_init_wsX11_init_r5 (i := 8) rfl, (List.forall_mem_cons.mpr ⟨wrr_wsX11_init_wsX11_init_r1 (i := 1) rfl, (List.forall_mem_cons.mpr ⟨wrr_wsX11_init_wsX11_init_r1 (i := 2) rfl, (List.forall_mem_cons.mpr ⟨wrr_wsX11_init_wsX11_init_r1 (i := 15) rfl, (List.forall_mem_cons.mpr ⟨wrr_wsX11_init_wsX11_init_r5 (i := 9) rfl, (fun _ h => absurd h List.not_mem_nil)⟩)⟩)⟩)⟩)⟩), wru_wsX11_init_wsX20⟩)⟩) gw_wsX2_init
set_option maxRecDepth 20000 in
theorem gX11_init_X2_init_n83 : GoodIn wsX11_init (wsX2_init) := ggX11_init_X2_init
set_option maxRecDepth 20000 in
theorem gw_wsX4_init : wsX4_init.all goodWord = true := by decide +kernel
set_option maxRecDepth 20000 in
theorem ggX11_init_X4_init : GoodIn wsX11_init wsX4_init := goodIn_sub (List.forall_mem_cons.mpr ⟨wrr_wsX11_init_wsX11_init_r5 (i := 11) rfl, (List.forall_mem_append.mpr ⟨(List.forall_mem_cons.mpr ⟨wrr_wsX11_init_wsX11_init_r5 (i := 12) rfl, (List.forall_mem_cons.mpr ⟨wrr_wsX11_init_wsX11_init_r1 (i := 1) rfl, (List.forall_mem_cons.mpr ⟨wrr_wsX11_init_wsX11_init_r1 (i := 2) rfl, (List.forall_mem_cons.mpr ⟨wrr_wsX11_init_wsX11_init_r1 (i := 15) rfl, (List.forall_mem_cons.mpr ⟨wrr_wsX11_init_wsX11_init_r5 (i := 13) rfl, (List.forall_mem_cons.mpr ⟨wrr_wsX11_init_wsX11_init_r5 (i := 14) rfl, (fun _ h => absurd h List.not_mem_nil)⟩)⟩)⟩)⟩)⟩)⟩), wru_wsX11_init_wsX40⟩)⟩) gw_wsX4_init
set_option maxRecDepth 20000 in
theorem gX11_init_X4_init_n90 : GoodIn wsX11_init (wsX4_init) := ggX11_init_X4_init
set_option maxRecDepth 20000 in
theorem gw_wsX7_init : wsX7_init.all goodWord = true := by decide +kernel
set_option maxRecDepth 20000 in
theorem ggX11_init_X7_init : GoodIn wsX11_init wsX7_init := goodIn_sub (List.forall_mem_cons.mpr ⟨wrr_wsX11_init_wsX11_init_r5 (i := 16) rfl, (List.forall_mem_append.mpr ⟨(List.forall_mem_cons.mpr ⟨wrr_wsX11_init_wsX11_init_r5 (i := 17) rfl, (List.forall_mem_cons.mpr ⟨wrr_wsX11_init_wsX11_init_r1 (i := 1) rfl, (List.forall_mem_cons.mpr ⟨wrr_wsX11_init_wsX11_init_r1 (i := 2) rfl, (List.forall_mem_cons.mpr ⟨wrr_wsX11_init_wsX11_init_r1 (i := 15) rfl, (List.forall_mem_cons.mpr ⟨wrr_wsX11_init_wsX11_init_r5 (i := 18) rfl, (List.forall_mem_cons.mpr ⟨wrr_wsX11_init_wsX11_init_r5 (i := 19) rfl, (List.forall_mem_cons.mpr ⟨wrr_wsX11_init_wsX11_init_r5 (i := 20) rfl, (List.forall_mem_cons.mpr ⟨wrr_wsX11_init_wsX11_init_r5 (i := 21) rfl, (fun _ h => absurd h List.not_mem_nil)⟩)⟩)⟩)⟩)⟩)⟩)⟩)⟩), wru_wsX11_init_wsX70⟩)⟩) gw_wsX7_init
set_option maxRecDepth 20000 in
theorem gX11_init_X7_init_n97 : GoodIn wsX11_init (wsX7_init) := ggX11_init_X7_init
theorem dX11_init_0 : decode cX11_init 0 = .ok (.aload_n 0, 1) := by decide +kernel
theorem dX11_init_1 : decode cX11_init 1 = .ok (.invokespecial 1, 3) := by decide +kernel
theorem dX11_init_4 : decode cX11_init 4 = .ok (.aload_n 0, 1) := by decide +kernel
theorem dX11_init_5 : decode cX11_init 5 = .ok (.new 7, 3) := by decide +kernel
theorem dX11_init_8 : decode cX11_init 8 = .ok (.dup, 1) := by decide +kernel
theorem dX11_init_9 : decode cX11_init 9 = .ok (.invokespecial 9, 3) := by decide +kernel
theorem dX11_init_12 : decode cX11_init 12 = .ok (.putfield 10, 3) := by decide +kernel
theorem dX11_init_15 : decode cX11_init 15 = .ok (.aload_n 0, 1) := by decide +kernel
theorem dX11_init_16 : decode cX11_init 16 = .ok (.aload_n 0, 1) := by decide +kernel
theorem dX11_init_17 : decode cX11_init 17 = .ok (.getfield 10, 3) := by decide +kernel
theorem dX11_init_20 : decode cX11_init 20 = .ok (.getfield 16, 3) := by decide +kernel
theorem dX11_init_23 : decode cX11_init 23 = .ok (.putfield 20, 3) := by decide +kernel
theorem dX11_init_26 : decode cX11_init 26 = .ok (.aload_n 0, 1) := by decide +kernel
theorem dX11_init_27 : decode cX11_init 27 = .ok (.new 21, 3) := by decide +kernel
theorem dX11_init_30 : decode cX11_init 30 = .ok (.dup, 1) := by decide +kernel
theorem dX11_init_31 : decode cX11_init 31 = .ok (.invokespecial 23, 3) := by decide +kernel
theorem dX11_init_34 : decode cX11_init 34 = .ok (.putfield 24, 3) := by decide +kernel
theorem dX11_init_37 : decode cX11_init 37 = .ok (.aload_n 0, 1) := by decide +kernel
theorem dX11_init_38 : decode cX11_init 38 = .ok (.new 21, 3) := by decide +kernel
theorem dX11_init_41 : decode cX11_init 41 = .ok (.dup, 1) := by decide +kernel
theorem dX11_init_42 : decode cX11_init 42 = .ok (.invokespecial 23, 3) := by decide +kernel
theorem dX11_init_45 : decode cX11_init 45 = .ok (.putfield 28, 3) := by decide +kernel
theorem dX11_init_48 : decode cX11_init 48 = .ok (.aload_n 0, 1) := by decide +kernel
theorem dX11_init_49 : decode cX11_init 49 = .ok (.iconst 3, 1) := by decide +kernel
theorem dX11_init_50 : decode cX11_init 50 = .ok (.anewarray 21, 3) := by decide +kernel
theorem dX11_init_53 : decode cX11_init 53 = .ok (.putfield 31, 3) := by decide +kernel
theorem dX11_init_56 : decode cX11_init 56 = .ok (.aload_n 0, 1) := by decide +kernel
theorem dX11_init_57 : decode cX11_init 57 = .ok (.iconst 3, 1) := by decide +kernel
theorem dX11_init_58 : decode cX11_init 58 = .ok (.newarray .int, 2) := by decide +kernel
theorem dX11_init_60 : decode cX11_init 60 = .ok (.putfield 35, 3) := by decide +kernel
theorem dX11_init_63 : decode cX11_init 63 = .ok (.aload_n 0, 1) := by decide +kernel
theorem dX11_init_64 : decode cX11_init 64 = .ok (.new 39, 3) := by decide +kernel
theorem dX11_init_67 : decode cX11_init 67 = .ok (.dup, 1) := by decide +kernel
theorem dX11_init_68 : decode cX11_init 68 = .ok (.invokespecial 41, 3) := by decide +kernel
theorem dX11_init_71 : decode cX11_init 71 = .ok (.putfield 42, 3) := by decide +kernel
theorem dX11_init_74 : decode cX11_init 74 = .ok (.aload_n 0, 1) := by decide +kernel
theorem dX11_init_75 : decode cX11_init 75 = .ok (.new 39, 3) := by decide +kernel
theorem dX11_init_78 : decode cX11_init 78 = .ok (.dup, 1) := by decide +kernel
theorem dX11_init_79 : decode cX11_init 79 = .ok (.invokespecial 41, 3) := by decide +kernel
theorem dX11_init_82 : decode cX11_init 82 = .ok (.putfield 46, 3) := by decide +kernel
theorem dX11_init_85 : decode cX11_init 85 = .ok (.aload_n 0, 1) := by decide +kernel
theorem dX11_init_86 : decode cX11_init 86 = .ok (.iconst 0, 1) := by decide +kernel
theorem dX11_init_87 : decode cX11_init 87 = .ok (.putfield 49, 3) := by decide +kernel
theorem dX11_init_90 : decode cX11_init 90 = .ok (.aload_n 0, 1) := by decide +kernel
theorem dX11_init_91 : decode cX11_init 91 = .ok (.new 53, 3) := by decide +kernel
theorem dX11_init_94 : decode cX11_init 94 = .ok (.dup, 1) := by decide +kernel
theorem dX11_init_95 : decode cX11_init 95 = .ok (.invokespecial 55, 3) := by decide +kernel
theorem dX11_init_98 : decode cX11_init 98 = .ok (.putfield 56, 3) := by decide +kernel
theorem dX11_init_101 : decode cX11_init 101 = .ok (.aload_n 0, 1) := by decide +kernel
theorem dX11_init_102 : decode cX11_init 102 = .ok (.new 60, 3) := by decide +kernel
theorem dX11_init_105 : decode cX11_init 105 = .ok (.dup, 1) := by decide +kernel
theorem dX11_init_106 : decode cX11_init 106 = .ok (.invokespecial 62, 3) := by decide +kernel
theorem dX11_init_109 : decode cX11_init 109 = .ok (.putfield 63, 3) := by decide +kernel
theorem dX11_init_112 : decode cX11_init 112 = .ok (.aload_n 0, 1) := by decide +kernel
theorem dX11_init_113 : decode cX11_init 113 = .ok (.new 67, 3) := by decide +kernel
theorem dX11_init_116 : decode cX11_init 116 = .ok (.dup, 1) := by decide +kernel
theorem dX11_init_117 : decode cX11_init 117 = .ok (.invokespecial 69, 3) := by decide +kernel
theorem dX11_init_120 : decode cX11_init 120 = .ok (.putfield 70, 3) := by decide +kernel
theorem dX11_init_123 : decode cX11_init 123 = .ok (.aload_n 0, 1) := by decide +kernel
theorem dX11_init_124 : decode cX11_init 124 = .ok (.new 74, 3) := by decide +kernel
theorem dX11_init_127 : decode cX11_init 127 = .ok (.dup, 1) := by decide +kernel
theorem dX11_init_128 : decode cX11_init 128 = .ok (.invokespecial 76, 3) := by decide +kernel
theorem dX11_init_131 : decode cX11_init 131 = .ok (.putfield 77, 3) := by decide +kernel
theorem dX11_init_134 : decode cX11_init 134 = .ok (.aload_n 0, 1) := by decide +kernel
theorem dX11_init_135 : decode cX11_init 135 = .ok (.new 81, 3) := by decide +kernel
theorem dX11_init_138 : decode cX11_init 138 = .ok (.dup, 1) := by decide +kernel
theorem dX11_init_139 : decode cX11_init 139 = .ok (.invokespecial 83, 3) := by decide +kernel
theorem dX11_init_142 : decode cX11_init 142 = .ok (.putfield 84, 3) := by decide +kernel
theorem dX11_init_145 : decode cX11_init 145 = .ok (.aload_n 0, 1) := by decide +kernel
theorem dX11_init_146 : decode cX11_init 146 = .ok (.new 88, 3) := by decide +kernel
theorem dX11_init_149 : decode cX11_init 149 = .ok (.dup, 1) := by decide +kernel
theorem dX11_init_150 : decode cX11_init 150 = .ok (.invokespecial 90, 3) := by decide +kernel
theorem dX11_init_153 : decode cX11_init 153 = .ok (.putfield 91, 3) := by decide +kernel
theorem dX11_init_156 : decode cX11_init 156 = .ok (.aload_n 0, 1) := by decide +kernel
theorem dX11_init_157 : decode cX11_init 157 = .ok (.new 95, 3) := by decide +kernel
theorem dX11_init_160 : decode cX11_init 160 = .ok (.dup, 1) := by decide +kernel
theorem dX11_init_161 : decode cX11_init 161 = .ok (.invokespecial 97, 3) := by decide +kernel
theorem dX11_init_164 : decode cX11_init 164 = .ok (.putfield 98, 3) := by decide +kernel
theorem dX11_init_167 : decode cX11_init 167 = .ok (.iconst 0, 1) := by decide +kernel
theorem dX11_init_168 : decode cX11_init 168 = .ok (.istore_n 1, 1) := by decide +kernel
theorem dX11_init_169 : decode cX11_init 169 = .ok (.iload_n 1, 1) := by decide +kernel
theorem dX11_init_170 : decode cX11_init 170 = .ok (.iconst 3, 1) := by decide +kernel
theorem dX11_init_171 : decode cX11_init 171 = .ok (.if_icmp .ge 22, 3) := by decide +kernel
theorem dX11_init_174 : decode cX11_init 174 = .ok (.aload_n 0, 1) := by decide +kernel
theorem dX11_init_175 : decode cX11_init 175 = .ok (.getfield 31, 3) := by decide +kernel
theorem dX11_init_178 : decode cX11_init 178 = .ok (.iload_n 1, 1) := by decide +kernel
theorem dX11_init_179 : decode cX11_init 179 = .ok (.new 21, 3) := by decide +kernel
theorem dX11_init_182 : decode cX11_init 182 = .ok (.dup, 1) := by decide +kernel
theorem dX11_init_183 : decode cX11_init 183 = .ok (.invokespecial 23, 3) := by decide +kernel
theorem dX11_init_186 : decode cX11_init 186 = .ok (.aastore, 1) := by decide +kernel
theorem dX11_init_187 : decode cX11_init 187 = .ok (.iinc 1 1, 3) := by decide +kernel
theorem dX11_init_190 : decode cX11_init 190 = .ok (.goto (-21), 3) := by decide +kernel
theorem dX11_init_193 : decode cX11_init 193 = .ok (.return_, 1) := by decide +kernel
theorem dX12_init_0 : decode cX12_init 0 = .ok (.aload_n 0, 1) := by decide +kernel
theorem dX12_init_1 : decode cX12_init 1 = .ok (.invokespecial 1, 3) := by decide +kernel
theorem dX12_init_4 : decode cX12_init 4 = .ok (.aload_n 0, 1) := by decide +kernel
theorem dX12_init_5 : decode cX12_init 5 = .ok (.iconst 4, 1) := by decide +kernel
theorem dX12_init_6 : decode cX12_init 6 = .ok (.newarray .int, 2) := by decide +kernel
theorem dX12_init_8 : decode cX12_init 8 = .ok (.putfield 7, 3) := by decide +kernel
theorem dX12_init_11 : decode cX12_init 11 = .ok (.aload_n 0, 1) := by decide +kernel
theorem dX12_init_12 : decode cX12_init 12 = .ok (.iconst 4, 1) := by decide +kernel
theorem dX12_init_13 : decode cX12_init 13 = .ok (.newarray .int, 2) := by decide +kernel
theorem dX12_init_15 : decode cX12_init 15 = .ok (.putfield 13, 3) := by decide +kernel
theorem dX12_init_18 : decode cX12_init 18 = .ok (.aload_n 0, 1) := by decide +kernel
theorem dX12_init_19 : decode cX12_init 19 = .ok (.sipush 240, 3) := by decide +kernel
theorem dX12_init_22 : decode cX12_init 22 = .ok (.newarray .long, 2) := by decide +kernel
theorem dX12_init_24 : decode cX12_init 24 = .ok (.putfield 16, 3) := by decide +kernel
theorem dX12_init_27 : decode cX12_init 27 = .ok (.aload_n 0, 1) := by decide +kernel
theorem dX12_init_28 : decode cX12_init 28 = .ok (.bipush 60, 2) := by decide +kernel
theorem dX12_init_30 : decode cX12_init 30 = .ok (.newarray .long, 2) := by decide +kernel
theorem dX12_init_32 : decode cX12_init 32 = .ok (.putfield 20, 3) := by decide +kernel
theorem dX12_init_35 : decode cX12_init 35 = .ok (.aload_n 0, 1) := by decide +kernel
theorem dX12_init_36 : decode cX12_init 36 = .ok (.sipush 1200, 3) := by decide +kernel
theorem dX12_init_39 : decode cX12_init 39 = .ok (.newarray .byte, 2) := by decide +kernel
theorem dX12_init_41 : decode cX12_init 41 = .ok (.putfield 23, 3) := by decide +kernel
theorem dX12_init_44 : decode cX12_init 44 = .ok (.aload_n 0, 1) := by decide +kernel
theorem dX12_init_45 : decode cX12_init 45 = .ok (.iconst (-1), 1) := by decide +kernel
theorem dX12_init_46 : decode cX12_init 46 = .ok (.putfield 27, 3) := by decide +kernel
theorem dX12_init_49 : decode cX12_init 49 = .ok (.aload_n 0, 1) := by decide +kernel
theorem dX12_init_50 : decode cX12_init 50 = .ok (.iconst 5, 1) := by decide +kernel
theorem dX12_init_51 : decode cX12_init 51 = .ok (.newarray .int, 2) := by decide +kernel
theorem dX12_init_53 : decode cX12_init 53 = .ok (.putfield 31, 3) := by decide +kernel
theorem dX12_init_56 : decode cX12_init 56 = .ok (.aload_n 0, 1) := by decide +kernel
theorem dX12_init_57 : decode cX12_init 57 = .ok (.bipush 55, 2) := by decide +kernel
theorem dX12_init_59 : decode cX12_init 59 = .ok (.newarray .int, 2) := by decide +kernel
theorem dX12_init_61 : decode cX12_init 61 = .ok (.putfield 34, 3) := by decide +kernel
theorem dX12_init_64 : decode cX12_init 64 = .ok (.aload_n 0, 1) := by decide +kernel
theorem dX12_init_65 : decode cX12_init 65 = .ok (.bipush 120, 2) := by decide +kernel
theorem dX12_init_67 : decode cX12_init 67 = .ok (.newarray .int, 2) := by decide +kernel
theorem dX12_init_69 : decode cX12_init 69 = .ok (.putfield 37, 3) := by decide +kernel
theorem dX12_init_72 : decode cX12_init 72 = .ok (.aload_n 0, 1) := by decide +kernel
theorem dX12_init_73 : decode cX12_init 73 = .ok (.bipush 30, 2) := by decide +kernel
theorem dX12_init_75 : decode cX12_init 75 = .ok (.newarray .int, 2) := by decide +kernel
theorem dX12_init_77 : decode cX12_init 77 = .ok (.putfield 40, 3) := by decide +kernel
theorem dX12_init_80 : decode cX12_init 80 = .ok (.aload_n 0, 1) := by decide +kernel
theorem dX12_init_81 : decode cX12_init 81 = .ok (.sipush 160, 3) := by decide +kernel
theorem dX12_init_84 : decode cX12_init 84 = .ok (.newarray .int, 2) := by decide +kernel
theorem dX12_init_86 : decode cX12_init 86 = .ok (.putfield 43, 3) := by decide +kernel
theorem dX12_init_89 : decode cX12_init 89 = .ok (.aload_n 0, 1) := by decide +kernel
theorem dX12_init_90 : decode cX12_init 90 = .ok (.sipush 1000, 3) := by decide +kernel
theorem dX12_init_93 : decode cX12_init 93 = .ok (.newarray .boolean, 2) := by decide +kernel
theorem dX12_init_95 : decode cX12_init 95 = .ok (.putfield 46, 3) := by decide +kernel
theorem dX12_init_98 : decode cX12_init 98 = .ok (.aload_n 0, 1) := by decide +kernel
theorem dX12_init_99 : decode cX12_init 99 = .ok (.bipush 120, 2) := by decide +kernel
theorem dX12_init_101 : decode cX12_init 101 = .ok (.newarray .int, 2) := by decide +kernel
theorem dX12_init_103 : decode cX12_init 103 = .ok (.putfield 50, 3) := by decide +kernel
theorem dX12_init_106 : decode cX12_init 106 = .ok (.aload_n 0, 1) := by decide +kernel
theorem dX12_init_107 : decode cX12_init 107 = .ok (.bipush 50, 2) := by decide +kernel
theorem dX12_init_109 : decode cX12_init 109 = .ok (.newarray .int, 2) := by decide +kernel
theorem dX12_init_111 : decode cX12_init 111 = .ok (.putfield 53, 3) := by decide +kernel
theorem dX12_init_114 : decode cX12_init 114 = .ok (.aload_n 0, 1) := by decide +kernel
theorem dX12_init_115 : decode cX12_init 115 = .ok (.sipush 800, 3) := by decide +kernel
theorem dX12_init_118 : decode cX12_init 118 = .ok (.newarray .int, 2) := by decide +kernel
theorem dX12_init_120 : decode cX12_init 120 = .ok (.putfield 56, 3) := by decide +kernel
theorem dX12_init_123 : decode cX12_init 123 = .ok (.aload_n 0, 1) := by decide +kernel
theorem dX12_init_124 : decode cX12_init 124 = .ok (.iconst 3, 1) := by decide +kernel
theorem dX12_init_125 : decode cX12_init 125 = .ok (.newarray .boolean, 2) := by decide +kernel
theorem dX12_init_127 : decode cX12_init 127 = .ok (.putfield 59, 3) := by decide +kernel
theorem dX12_init_130 : decode cX12_init 130 = .ok (.aload_n 0, 1) := by decide +kernel
theorem dX12_init_131 : decode cX12_init 131 = .ok (.bipush 13, 2) := by decide +kernel
theorem dX12_init_133 : decode cX12_init 133 = .ok (.newarray .int, 2) := by decide +kernel
theorem dX12_init_135 : decode cX12_init 135 = .ok (.putfield 62, 3) := by decide +kernel
theorem dX12_init_138 : decode cX12_init 138 = .ok (.aload_n 0, 1) := by decide +kernel
theorem dX12_init_139 : decode cX12_init 139 = .ok (.sipush 402, 3) := by decide +kernel
theorem dX12_init_142 : decode cX12_init 142 = .ok (.newarray .int, 2) := by decide +kernel
theorem dX12_init_144 : decode cX12_init 144 = .ok (.putfield 65, 3) := by decide +kernel
theorem dX12_init_147 : decode cX12_init 147 = .ok (.aload_n 0, 1) := by decide +kernel
theorem dX12_init_148 : decode cX12_init 148 = .ok (.sipush 400, 3) := by decide +kernel
theorem dX12_init_151 : decode cX12_init 151 = .ok (.newarray .int, 2) := by decide +kernel
theorem dX12_init_153 : decode cX12_init 153 = .ok (.putfield 68, 3) := by decide +kernel
theorem dX12_init_156 : decode cX12_init 156 = .ok (.aload_n 0, 1) := by decide +kernel
theorem dX12_init_157 : decode cX12_init 157 = .ok (.sipush 560, 3) := by decide +kernel
theorem dX12_init_160 : decode cX12_init 160 = .ok (.newarray .int, 2) := by decide +kernel
theorem dX12_init_162 : decode cX12_init 162 = .ok (.putfield 71, 3) := by decide +kernel
theorem dX12_init_165 : decode cX12_init 165 = .ok (.aload_n 0, 1) := by decide +kernel
theorem dX12_init_166 : decode cX12_init 166 = .ok (.bipush 24, 2) := by decide +kernel
theorem dX12_init_168 : decode cX12_init 168 = .ok (.newarray .int, 2) := by decide +kernel
theorem dX12_init_170 : decode cX12_init 170 = .ok (.putfield 74, 3) := by decide +kernel
theorem dX12_init_173 : decode cX12_init 173 = .ok (.aload_n 0, 1) := by decide +kernel
theorem dX12_init_174 : decode cX12_init 174 = .ok (.sipush 24576, 3) := by decide +kernel
theorem dX12_init_177 : decode cX12_init 177 = .ok (.newarray .int, 2) := by decide +kernel
theorem dX12_init_179 : decode cX12_init 179 = .ok (.putfield 77, 3) := by decide +kernel
theorem dX12_init_182 : decode cX12_init 182 = .ok (.iconst 0, 1) := by decide +kernel
theorem dX12_init_183 : decode cX12_init 183 = .ok (.istore_n 1, 1) := by decide +kernel
theorem dX12_init_184 : decode cX12_init 184 = .ok (.iload_n 1, 1) := by decide +kernel
theorem dX12_init_185 : decode cX12_init 185 = .ok (.iconst 4, 1) := by decide +kernel
theorem dX12_init_186 : decode cX12_init 186 = .ok (.if_icmp .ge 16, 3) := by decide +kernel
theorem dX12_init_189 : decode cX12_init 189 = .ok (.aload_n 0, 1) := by decide +kernel
theorem dX12_init_190 : decode cX12_init 190 = .ok (.getfield 7, 3) := by decide +kernel
theorem dX12_init_193 : decode cX12_init 193 = .ok (.iload_n 1, 1) := by decide +kernel
theorem dX12_init_194 : decode cX12_init 194 = .ok (.iconst (-1), 1) := by decide +kernel
theorem dX12_init_195 : decode cX12_init 195 = .ok (.iastore, 1) := by decide +kernel
theorem dX12_init_196 : decode cX12_init 196 = .ok (.iinc 1 1, 3) := by decide +kernel
theorem dX12_init_199 : decode cX12_init 199 = .ok (.goto (-15), 3) := by decide +kernel
theorem dX12_init_202 : decode cX12_init 202 = .ok (.return_, 1) := by decide +kernel
