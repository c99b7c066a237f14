abbrev cX12_init : ByteArray := prog_14_method_1_code
def yX12_init : MethodName := ⟨RX12, "<init>", "()V"⟩
abbrev cX12_in : ByteArray := prog_14_method_3_code
def yX12_in : MethodName := ⟨RX12, "in", "(JJJ)Z"⟩
abbrev cX12_isSlot : ByteArray := prog_14_method_4_code
def yX12_isSlot : MethodName := ⟨RX12, "isSlot", "(I)Z"⟩
abbrev cX12_row : ByteArray := prog_14_method_5_code
def yX12_row : MethodName := ⟨RX12, "row", "(III)I"⟩
abbrev cX12_cut : ByteArray := prog_14_method_6_code
def yX12_cut : MethodName := ⟨RX12, "cut", "(JI)J"⟩
abbrev cX12_write : ByteArray := prog_14_method_7_code
def yX12_write : MethodName := ⟨RX12, "write", "(IIJ)I"⟩
abbrev cX12_paste : ByteArray := prog_14_method_8_code
def yX12_paste : MethodName := ⟨RX12, "paste", "(IIIII)I"⟩
abbrev cX12_feed : ByteArray := prog_14_method_9_code
def yX12_feed : MethodName := ⟨RX12, "feed", "(IIIII)I"⟩
abbrev cX12_four : ByteArray := prog_14_method_10_code
def yX12_four : MethodName := ⟨RX12, "four", "(I)V"⟩
abbrev cX12_end : ByteArray := prog_14_method_11_code
def yX12_end : MethodName := ⟨RX12, "end", "(I)I"⟩
abbrev cX12_isByte : ByteArray := prog_14_method_12_code
def yX12_isByte : MethodName := ⟨RX12, "isByte", "(III)Z"⟩
abbrev cX12_next : ByteArray := prog_14_method_13_code
def yX12_next : MethodName := ⟨RX12, "next", "()V"⟩
abbrev cX12_isGood : ByteArray := prog_14_method_14_code
def yX12_isGood : MethodName := ⟨RX12, "isGood", "()Z"⟩
abbrev cX12_fails : ByteArray := prog_14_method_15_code
def yX12_fails : MethodName := ⟨RX12, "fails", "(I)V"⟩
abbrev cX12_is : ByteArray := prog_14_method_16_code
def yX12_is : MethodName := ⟨RX12, "is", "(J)Z"⟩
abbrev cX12_takes : ByteArray := prog_14_method_17_code
def yX12_takes : MethodName := ⟨RX12, "takes", "(J)Z"⟩
abbrev cX12_asks : ByteArray := prog_14_method_18_code
def yX12_asks : MethodName := ⟨RX12, "asks", "(J)V"⟩
abbrev cX12_number : ByteArray := prog_14_method_19_code
def yX12_number : MethodName := ⟨RX12, "number", "(II)I"⟩
abbrev cX12_number_ : ByteArray := prog_14_method_20_code
def yX12_number_ : MethodName := ⟨RX12, "number", "(JII)I"⟩
abbrev cX12_ends : ByteArray := prog_14_method_21_code
def yX12_ends : MethodName := ⟨RX12, "ends", "()V"⟩
abbrev cX12_begins : ByteArray := prog_14_method_22_code
def yX12_begins : MethodName := ⟨RX12, "begins", "()V"⟩
abbrev cX12_isOver : ByteArray := prog_14_method_23_code
def yX12_isOver : MethodName := ⟨RX12, "isOver", "()V"⟩
abbrev cX12_fault : ByteArray := prog_14_method_24_code
def yX12_fault : MethodName := ⟨RX12, "fault", "(I)I"⟩
abbrev cX12_hasRead : ByteArray := prog_14_method_25_code
def yX12_hasRead : MethodName := ⟨RX12, "hasRead", "(I)I"⟩
abbrev cX12_reads : ByteArray := prog_14_method_26_code
def yX12_reads : MethodName := ⟨RX12, "reads", "(II)V"⟩
abbrev cX12_stepHere : ByteArray := prog_14_method_27_code
def yX12_stepHere : MethodName := ⟨RX12, "stepHere", "()I"⟩
abbrev cX12_beatHere : ByteArray := prog_14_method_28_code
def yX12_beatHere : MethodName := ⟨RX12, "beatHere", "()I"⟩
abbrev cX12_roundLine : ByteArray := prog_14_method_29_code
def yX12_roundLine : MethodName := ⟨RX12, "roundLine", "()V"⟩
abbrev cX12_answersLine : ByteArray := prog_14_method_30_code
def yX12_answersLine : MethodName := ⟨RX12, "answersLine", "()V"⟩
abbrev cX12_isStumbled : ByteArray := prog_14_method_31_code
def yX12_isStumbled : MethodName := ⟨RX12, "isStumbled", "(III)Z"⟩
abbrev cX12_stumbleLine : ByteArray := prog_14_method_32_code
def yX12_stumbleLine : MethodName := ⟨RX12, "stumbleLine", "()V"⟩
abbrev cX12_everyLine : ByteArray := prog_14_method_33_code
def yX12_everyLine : MethodName := ⟨RX12, "everyLine", "([III)V"⟩
abbrev cX12_line : ByteArray := prog_14_method_34_code
def yX12_line : MethodName := ⟨RX12, "line", "()V"⟩
abbrev cX12_clears : ByteArray := prog_14_method_35_code
def yX12_clears : MethodName := ⟨RX12, "clears", "()V"⟩
abbrev cX12_dance : ByteArray := prog_14_method_36_code
def yX12_dance : MethodName := ⟨RX12, "dance", "()I"⟩
abbrev cX12_copyRow : ByteArray := prog_14_method_37_code
def yX12_copyRow : MethodName := ⟨RX12, "copyRow", "([IIII)V"⟩
abbrev cX12_copyDance : ByteArray := prog_14_method_38_code
def yX12_copyDance : MethodName := ⟨RX12, "copyDance", "(II)V"⟩
abbrev cX12_isDance : ByteArray := prog_14_method_39_code
def yX12_isDance : MethodName := ⟨RX12, "isDance", "()Z"⟩
abbrev cX12_isSide : ByteArray := prog_14_method_40_code
def yX12_isSide : MethodName := ⟨RX12, "isSide", "(I)Z"⟩
abbrev cX12_isBeat : ByteArray := prog_14_method_41_code
def yX12_isBeat : MethodName := ⟨RX12, "isBeat", "(J)Z"⟩
abbrev cX12_isStep : ByteArray := prog_14_method_42_code
def yX12_isStep : MethodName := ⟨RX12, "isStep", "(J)Z"⟩
abbrev cX12_areRounds : ByteArray := prog_14_method_43_code
def yX12_areRounds : MethodName := ⟨RX12, "areRounds", "()Z"⟩
abbrev cX12_lengthOf : ByteArray := prog_14_method_44_code
def yX12_lengthOf : MethodName := ⟨RX12, "lengthOf", "(I)I"⟩
abbrev cX12_isBit : ByteArray := prog_14_method_45_code
def yX12_isBit : MethodName := ⟨RX12, "isBit", "(II)Z"⟩
abbrev cX12_sizeOf : ByteArray := prog_14_method_46_code
def yX12_sizeOf : MethodName := ⟨RX12, "sizeOf", "(I)I"⟩
abbrev cX12_step : ByteArray := prog_14_method_47_code
def yX12_step : MethodName := ⟨RX12, "step", "(II)I"⟩
abbrev cX12_answers : ByteArray := prog_14_method_48_code
def yX12_answers : MethodName := ⟨RX12, "answers", "(I)I"⟩
abbrev cX12_stumbled : ByteArray := prog_14_method_49_code
def yX12_stumbled : MethodName := ⟨RX12, "stumbled", "(II)I"⟩
abbrev cX12_muddy : ByteArray := prog_14_method_50_code
def yX12_muddy : MethodName := ⟨RX12, "muddy", "(I)I"⟩
abbrev cX12_dances : ByteArray := prog_14_method_51_code
def yX12_dances : MethodName := ⟨RX12, "dances", "(IIIII)V"⟩
abbrev cX12_laysBut : ByteArray := prog_14_method_52_code
def yX12_laysBut : MethodName := ⟨RX12, "laysBut", "(I)V"⟩
abbrev cX12_lays : ByteArray := prog_14_method_53_code
def yX12_lays : MethodName := ⟨RX12, "lays", "()V"⟩
abbrev cX12_hearsAt : ByteArray := prog_14_method_54_code
def yX12_hearsAt : MethodName := ⟨RX12, "hearsAt", "(II)I"⟩
abbrev cX12_clashes : ByteArray := prog_14_method_55_code
def yX12_clashes : MethodName := ⟨RX12, "clashes", "(II)Z"⟩
abbrev cX12_isHole : ByteArray := prog_14_method_56_code
def yX12_isHole : MethodName := ⟨RX12, "isHole", "(II)Z"⟩
abbrev cX12_place : ByteArray := prog_14_method_57_code
def yX12_place : MethodName := ⟨RX12, "place", "(II)I"⟩
abbrev cX12_danced : ByteArray := prog_14_method_58_code
def yX12_danced : MethodName := ⟨RX12, "danced", "(II)I"⟩
abbrev cX12_hears : ByteArray := prog_14_method_59_code
def yX12_hears : MethodName := ⟨RX12, "hears", "(II)I"⟩
abbrev cX12_late : ByteArray := prog_14_method_60_code
def yX12_late : MethodName := ⟨RX12, "late", "(II)I"⟩
abbrev cX12_hole : ByteArray := prog_14_method_61_code
def yX12_hole : MethodName := ⟨RX12, "hole", "(II)I"⟩
abbrev cX12_next_ : ByteArray := prog_14_method_62_code
def yX12_next_ : MethodName := ⟨RX12, "next", "(II)I"⟩
abbrev cX12_holesOf : ByteArray := prog_14_method_63_code
def yX12_holesOf : MethodName := ⟨RX12, "holesOf", "(III)I"⟩
abbrev cX12_isSpan : ByteArray := prog_14_method_64_code
def yX12_isSpan : MethodName := ⟨RX12, "isSpan", "(II)Z"⟩
abbrev cX12_holes : ByteArray := prog_14_method_65_code
def yX12_holes : MethodName := ⟨RX12, "holes", "(III)I"⟩
abbrev cX12_laysRun : ByteArray := prog_14_method_66_code
def yX12_laysRun : MethodName := ⟨RX12, "laysRun", "(II)V"⟩
abbrev cX12_run : ByteArray := prog_14_method_67_code
def yX12_run : MethodName := ⟨RX12, "run", "(II)I"⟩
abbrev cX12_begins_ : ByteArray := prog_14_method_68_code
def yX12_begins_ : MethodName := ⟨RX12, "begins", "(II)I"⟩
abbrev cX12_allHoles : ByteArray := prog_14_method_69_code
def yX12_allHoles : MethodName := ⟨RX12, "allHoles", "()I"⟩
abbrev cX12_undoes : ByteArray := prog_14_method_70_code
def yX12_undoes : MethodName := ⟨RX12, "undoes", "(I)I"⟩
abbrev cX12_causes : ByteArray := prog_14_method_71_code
def yX12_causes : MethodName := ⟨RX12, "causes", "(II)I"⟩
abbrev cX12_common : ByteArray := prog_14_method_72_code
def yX12_common : MethodName := ⟨RX12, "common", "(II)I"⟩
abbrev cX12_commonLong : ByteArray := prog_14_method_73_code
def yX12_commonLong : MethodName := ⟨RX12, "commonLong", "(JJ)J"⟩
abbrev cX12_periodOf : ByteArray := prog_14_method_74_code
def yX12_periodOf : MethodName := ⟨RX12, "periodOf", "()I"⟩
abbrev cX12_period : ByteArray := prog_14_method_75_code
def yX12_period : MethodName := ⟨RX12, "period", "()I"⟩
abbrev cX12_plain : ByteArray := prog_14_method_76_code
def yX12_plain : MethodName := ⟨RX12, "plain", "(III)I"⟩
abbrev cX12_meets : ByteArray := prog_14_method_77_code
def yX12_meets : MethodName := ⟨RX12, "meets", "(III)I"⟩
abbrev cX12_shiftedOf : ByteArray := prog_14_method_78_code
def yX12_shiftedOf : MethodName := ⟨RX12, "shiftedOf", "(I)I"⟩
abbrev cX12_shifted : ByteArray := prog_14_method_79_code
def yX12_shifted : MethodName := ⟨RX12, "shifted", "(I)I"⟩
abbrev cX12_shift : ByteArray := prog_14_method_80_code
def yX12_shift : MethodName := ⟨RX12, "shift", "()I"⟩
abbrev cX12_least : ByteArray := prog_14_method_81_code
def yX12_least : MethodName := ⟨RX12, "least", "()I"⟩
abbrev cX12_mayBe : ByteArray := prog_14_method_82_code
def yX12_mayBe : MethodName := ⟨RX12, "mayBe", "(II)I"⟩
abbrev cX12_mendedOf : ByteArray := prog_14_method_83_code
def yX12_mendedOf : MethodName := ⟨RX12, "mendedOf", "(II)I"⟩
abbrev cX12_stuckOf : ByteArray := prog_14_method_84_code
def yX12_stuckOf : MethodName := ⟨RX12, "stuckOf", "(I)I"⟩
abbrev cX12_mend : ByteArray := prog_14_method_85_code
def yX12_mend : MethodName := ⟨RX12, "mend", "(I)I"⟩
abbrev cX12_mended : ByteArray := prog_14_method_86_code
def yX12_mended : MethodName := ⟨RX12, "mended", "(II)I"⟩
abbrev cX12_stuck : ByteArray := prog_14_method_87_code
def yX12_stuck : MethodName := ⟨RX12, "stuck", "(I)I"⟩
abbrev cX12_whyNot : ByteArray := prog_14_method_88_code
def yX12_whyNot : MethodName := ⟨RX12, "whyNot", "(II)I"⟩
abbrev cX12_isHeard : ByteArray := prog_14_method_89_code
def yX12_isHeard : MethodName := ⟨RX12, "isHeard", "(II)Z"⟩
abbrev cX12_laysFits : ByteArray := prog_14_method_90_code
def yX12_laysFits : MethodName := ⟨RX12, "laysFits", "(II)V"⟩
abbrev cX12_heard : ByteArray := prog_14_method_91_code
def yX12_heard : MethodName := ⟨RX12, "heard", "(II)I"⟩
abbrev cX12_first : ByteArray := prog_14_method_92_code
def yX12_first : MethodName := ⟨RX12, "first", "(II)I"⟩
abbrev cX12_when : ByteArray := prog_14_method_93_code
def yX12_when : MethodName := ⟨RX12, "when", "(II)J"⟩
abbrev cX12_listens : ByteArray := prog_14_method_94_code
def yX12_listens : MethodName := ⟨RX12, "listens", "(II)I"⟩
abbrev cX12_listen : ByteArray := prog_14_method_95_code
def yX12_listen : MethodName := ⟨RX12, "listen", "(II)I"⟩
abbrev cX12_leaves : ByteArray := prog_14_method_96_code
def yX12_leaves : MethodName := ⟨RX12, "leaves", "(II)I"⟩
abbrev cX12_walks : ByteArray := prog_14_method_97_code
def yX12_walks : MethodName := ⟨RX12, "walks", "(II)I"⟩
abbrev cX12_known : ByteArray := prog_14_method_98_code
def yX12_known : MethodName := ⟨RX12, "known", "(I)I"⟩
abbrev cX12_crosses : ByteArray := prog_14_method_99_code
def yX12_crosses : MethodName := ⟨RX12, "crosses", "(I)I"⟩
abbrev cX12_returns : ByteArray := prog_14_method_100_code
def yX12_returns : MethodName := ⟨RX12, "returns", "(I)I"⟩
abbrev cX12_laysMeet : ByteArray := prog_14_method_101_code
def yX12_laysMeet : MethodName := ⟨RX12, "laysMeet", "(II)V"⟩
abbrev cX12_meet : ByteArray := prog_14_method_102_code
def yX12_meet : MethodName := ⟨RX12, "meet", "(II)I"⟩
abbrev cX12_cell : ByteArray := prog_14_method_103_code
def yX12_cell : MethodName := ⟨RX12, "cell", "(II)I"⟩
abbrev cX12_longest : ByteArray := prog_14_method_104_code
def yX12_longest : MethodName := ⟨RX12, "longest", "()I"⟩
abbrev cX12_whyNotHalf : ByteArray := prog_14_method_105_code
def yX12_whyNotHalf : MethodName := ⟨RX12, "whyNotHalf", "(I)I"⟩
abbrev cX12_isHalf : ByteArray := prog_14_method_106_code
def yX12_isHalf : MethodName := ⟨RX12, "isHalf", "(II)Z"⟩
abbrev cX12_halfOf : ByteArray := prog_14_method_107_code
def yX12_halfOf : MethodName := ⟨RX12, "halfOf", "(I)I"⟩
abbrev cX12_half : ByteArray := prog_14_method_108_code
def yX12_half : MethodName := ⟨RX12, "half", "(I)I"⟩
abbrev cX12_fills : ByteArray := prog_14_method_109_code
def yX12_fills : MethodName := ⟨RX12, "fills", "(II)I"⟩
abbrev cX12_open : ByteArray := prog_14_method_110_code
def yX12_open : MethodName := ⟨RX12, "open", "(I)I"⟩
abbrev cX12_isSet : ByteArray := prog_14_method_111_code
def yX12_isSet : MethodName := ⟨RX12, "isSet", "(I)Z"⟩
abbrev cX12_againOf : ByteArray := prog_14_method_112_code
def yX12_againOf : MethodName := ⟨RX12, "againOf", "(I)J"⟩
abbrev cX12_togetherOf : ByteArray := prog_14_method_113_code
def yX12_togetherOf : MethodName := ⟨RX12, "togetherOf", "(II)J"⟩
abbrev cX12_together : ByteArray := prog_14_method_114_code
def yX12_together : MethodName := ⟨RX12, "together", "(II)J"⟩
abbrev cX12_again : ByteArray := prog_14_method_115_code
def yX12_again : MethodName := ⟨RX12, "again", "(I)J"⟩
abbrev cX12_chorusOf : ByteArray := prog_14_method_116_code
def yX12_chorusOf : MethodName := ⟨RX12, "chorusOf", "()I"⟩
abbrev cX12_most : ByteArray := prog_14_method_117_code
def yX12_most : MethodName := ⟨RX12, "most", "()I"⟩
abbrev cX12_chorus : ByteArray := prog_14_method_118_code
def yX12_chorus : MethodName := ⟨RX12, "chorus", "()I"⟩
abbrev cX12_treaties : ByteArray := prog_14_method_119_code
def yX12_treaties : MethodName := ⟨RX12, "treaties", "()I"⟩
abbrev cX12_leads : ByteArray := prog_14_method_120_code
def yX12_leads : MethodName := ⟨RX12, "leads", "(I)I"⟩
abbrev cX12_winsFrom : ByteArray := prog_14_method_121_code
def yX12_winsFrom : MethodName := ⟨RX12, "winsFrom", "(II)Z"⟩
abbrev cX12_isPlay : ByteArray := prog_14_method_122_code
def yX12_isPlay : MethodName := ⟨RX12, "isPlay", "(III)Z"⟩
abbrev cX12_laysGame : ByteArray := prog_14_method_123_code
def yX12_laysGame : MethodName := ⟨RX12, "laysGame", "()V"⟩
abbrev cX12_game : ByteArray := prog_14_method_124_code
def yX12_game : MethodName := ⟨RX12, "game", "(I)I"⟩
abbrev cX12_plays : ByteArray := prog_14_method_125_code
def yX12_plays : MethodName := ⟨RX12, "plays", "(I)I"⟩
abbrev cX12_power : ByteArray := prog_14_method_126_code
def yX12_power : MethodName := ⟨RX12, "power", "(JI)J"⟩
abbrev cX12_part : ByteArray := prog_14_method_127_code
def yX12_part : MethodName := ⟨RX12, "part", "(JJI)J"⟩
abbrev cX12_isRain : ByteArray := prog_14_method_128_code
def yX12_isRain : MethodName := ⟨RX12, "isRain", "(II)Z"⟩
abbrev cX12_dry : ByteArray := prog_14_method_129_code
def yX12_dry : MethodName := ⟨RX12, "dry", "(II)J"⟩
abbrev cX12_wet : ByteArray := prog_14_method_130_code
def yX12_wet : MethodName := ⟨RX12, "wet", "(III)J"⟩
abbrev cX12_isBelow : ByteArray := prog_14_method_131_code
def yX12_isBelow : MethodName := ⟨RX12, "isBelow", "(I)Z"⟩
abbrev cX12_draws : ByteArray := prog_14_method_132_code
def yX12_draws : MethodName := ⟨RX12, "draws", "(JI)V"⟩
abbrev cX12_slips : ByteArray := prog_14_method_133_code
def yX12_slips : MethodName := ⟨RX12, "slips", "(I)I"⟩
abbrev cX12_isDraw : ByteArray := prog_14_method_134_code
def yX12_isDraw : MethodName := ⟨RX12, "isDraw", "(II)Z"⟩
abbrev cX12_drawn : ByteArray := prog_14_method_135_code
def yX12_drawn : MethodName := ⟨RX12, "drawn", "(III)I"⟩
abbrev cX12_nights : ByteArray := prog_14_method_136_code
def yX12_nights : MethodName := ⟨RX12, "nights", "(III)I"⟩
abbrev cX12_changes : ByteArray := prog_14_method_137_code
def yX12_changes : MethodName := ⟨RX12, "changes", "(IIII)V"⟩
abbrev cX12_stumble : ByteArray := prog_14_method_138_code
def yX12_stumble : MethodName := ⟨RX12, "stumble", "(IIII)I"⟩
abbrev cX12_mud : ByteArray := prog_14_method_139_code
def yX12_mud : MethodName := ⟨RX12, "mud", "(II)I"⟩
abbrev cX12_teach : ByteArray := prog_14_method_140_code
def yX12_teach : MethodName := ⟨RX12, "teach", "(III)I"⟩
abbrev cX12_undo : ByteArray := prog_14_method_141_code
def yX12_undo : MethodName := ⟨RX12, "undo", "()I"⟩
abbrev cX12_count : ByteArray := prog_14_method_142_code
def yX12_count : MethodName := ⟨RX12, "count", "(I)I"⟩
abbrev cX12_image : ByteArray := prog_14_method_143_code
def yX12_image : MethodName := ⟨RX12, "image", "(I)I"⟩
abbrev cX12_back : ByteArray := prog_14_method_144_code
def yX12_back : MethodName := ⟨RX12, "back", "(I)I"⟩
def wsX12_init_r1 : List Cond := [Cond.methodLink RX12 1 objectInit, Cond.instanceMethod objectInit, Cond.code objectInit ⟨#[0xb1]⟩ 1 none, Cond.arrayClass .int, Cond.fieldLink RX12 7 "OverHillModel" "width" "[I", Cond.fieldLink RX12 13 "OverHillModel" "many" "[I", Cond.arrayClass .long, Cond.fieldLink RX12 16 "OverHillModel" "cells" "[J", Cond.fieldLink RX12 20 "OverHillModel" "moved" "[J", Cond.arrayClass .byte, Cond.fieldLink RX12 23 "OverHillModel" "tape" "[B", Cond.fieldLink RX12 27 "OverHillModel" "faultPlace" "I", Cond.fieldLink RX12 31 "OverHillModel" "lines" "[I", Cond.fieldLink RX12 34 "OverHillModel" "has" "[I", Cond.fieldLink RX12 37 "OverHillModel" "round" "[I", Cond.fieldLink RX12 40 "OverHillModel" "meets" "[I", Cond.fieldLink RX12 43 "OverHillModel" "stumble" "[I", Cond.arrayClass .boolean, Cond.fieldLink RX12 46 "OverHillModel" "isMud" "[Z", Cond.fieldLink RX12 50 "OverHillModel" "cell" "[I", Cond.fieldLink RX12 53 "OverHillModel" "tune" "[I", Cond.fieldLink RX12 56 "OverHillModel" "change" "[I", Cond.fieldLink RX12 59 "OverHillModel" "isKept" "[Z", Cond.fieldLink RX12 62 "OverHillModel" "steps" "[I"]
def wsX12_init_r2 : List Cond := [Cond.fieldLink RX12 65 "OverHillModel" "places" "[I", Cond.fieldLink RX12 68 "OverHillModel" "danced" "[I", Cond.fieldLink RX12 71 "OverHillModel" "heardBy" "[I", Cond.fieldLink RX12 74 "OverHillModel" "there" "[I", Cond.fieldLink RX12 77 "OverHillModel" "wins" "[I"]
def wsX12_init : List Cond := .code yX12_init cX12_init 2 none :: ((wsX12_init_r1 ++ wsX12_init_r2) ++ wsX120)
def wsX12_in : List Cond := .code yX12_in cX12_in 6 (some .boolean) :: ([])
def wsX12_isSlot : List Cond := .code yX12_isSlot cX12_isSlot 1 (some .boolean) :: ([.constantLong RX12 83 (3), .methodLink RX12 85 yX12_in, .static yX12_in, .initialized RX12, .code yX12_in cX12_in 6 (some .boolean)])
def wsX12_row : List Cond := .code yX12_row cX12_row 5 (some .int) :: ([.fieldLink RX12 80 "OverHillModel" "thrown" "I", .constantLong RX12 83 (3), .fieldLink RX12 7 "OverHillModel" "width" "[I", .fieldLink RX12 13 "OverHillModel" "many" "[I", .fieldLink RX12 16 "OverHillModel" "cells" "[J", .methodLink RX12 89 yX12_isSlot, .static yX12_isSlot, .initialized RX12, .code yX12_isSlot cX12_isSlot 1 (some .boolean), .methodLink RX12 85 yX12_in, .static yX12_in, .code yX12_in cX12_in 6 (some .boolean)] ++ wsX120)
def wsX12_write : List Cond := .code yX12_write cX12_write 5 (some .int) :: ([.fieldLink RX12 80 "OverHillModel" "thrown" "I", .fieldLink RX12 7 "OverHillModel" "width" "[I", .fieldLink RX12 13 "OverHillModel" "many" "[I", .fieldLink RX12 16 "OverHillModel" "cells" "[J", .methodLink RX12 89 yX12_isSlot, .static yX12_isSlot, .initialized RX12, .code yX12_isSlot cX12_isSlot 1 (some .boolean), .constantLong RX12 83 (3), .methodLink RX12 85 yX12_in, .static yX12_in, .code yX12_in cX12_in 6 (some .boolean), .methodLink RX12 93 yX12_cut, .static yX12_cut, .code yX12_cut cX12_cut 3 (some .long)] ++ wsX120)
def wsX12_paste : List Cond := .code yX12_paste cX12_paste 7 (some .int) :: ([.fieldLink RX12 80 "OverHillModel" "thrown" "I", .fieldLink RX12 7 "OverHillModel" "width" "[I", .fieldLink RX12 13 "OverHillModel" "many" "[I", .fieldLink RX12 20 "OverHillModel" "moved" "[J", .fieldLink RX12 16 "OverHillModel" "cells" "[J", .methodLink RX12 89 yX12_isSlot, .static yX12_isSlot, .initialized RX12, .code yX12_isSlot cX12_isSlot 1 (some .boolean), .constantLong RX12 83 (3), .methodLink RX12 85 yX12_in, .static yX12_in, .code yX12_in cX12_in 6 (some .boolean)] ++ wsX120)
def wsX12_four : List Cond := .code yX12_four cX12_four 3 none :: ([.fieldLink RX12 23 "OverHillModel" "tape" "[B", .fieldLink RX12 97 "OverHillModel" "taped" "I"] ++ wsX120)
def wsX12_feed : List Cond := .code yX12_feed cX12_feed 6 (some .int) :: ([.fieldLink RX12 80 "OverHillModel" "thrown" "I", .fieldLink RX12 97 "OverHillModel" "taped" "I", .methodLink RX12 100 yX12_four, .instanceMethod yX12_four, .selects RX12 yX12_four yX12_four, .initialized RX12, .code yX12_four cX12_four 3 none, .fieldLink RX12 23 "OverHillModel" "tape" "[B"] ++ wsX120)
def wsX12_end : List Cond := .code yX12_end cX12_end 2 (some .int) :: ([.fieldLink RX12 80 "OverHillModel" "thrown" "I", .fieldLink RX12 97 "OverHillModel" "taped" "I", .methodLink RX12 85 yX12_in, .static yX12_in, .initialized RX12, .code yX12_in cX12_in 6 (some .boolean)] ++ wsX120)
def wsX12_isByte : List Cond := .code yX12_isByte cX12_isByte 4 (some .boolean) :: ([.fieldLink RX12 97 "OverHillModel" "taped" "I", .fieldLink RX12 23 "OverHillModel" "tape" "[B"] ++ wsX120)
def wsX12_next : List Cond := .code yX12_next cX12_next 2 none :: ([.fieldLink RX12 104 "OverHillModel" "at" "I", .fieldLink RX12 111 "OverHillModel" "place" "I", .fieldLink RX12 114 "OverHillModel" "value" "I", .fieldLink RX12 117 "OverHillModel" "word" "J", .fieldLink RX12 97 "OverHillModel" "taped" "I", .fieldLink RX12 121 "OverHillModel" "token" "I", .constantLong RX12 124 (-1), .constantLong RX12 126 (27), .fieldLink RX12 23 "OverHillModel" "tape" "[B", .constantLong RX12 128 (96), .constant RX12 130 (100000), .constant RX12 131 (1000000), .methodLink RX12 107 yX12_isByte, .instanceMethod yX12_isByte, .selects RX12 yX12_isByte yX12_isByte, .initialized RX12, .code yX12_isByte cX12_isByte 4 (some .boolean)] ++ wsX120)
def wsX12_isGood : List Cond := .code yX12_isGood cX12_isGood 1 (some .boolean) :: ([.fieldLink RX12 132 "OverHillModel" "bad" "I"] ++ wsX120)
def wsX12_begins : List Cond := .code yX12_begins cX12_begins 1 none :: ([.fieldLink RX12 132 "OverHillModel" "bad" "I", .fieldLink RX12 135 "OverHillModel" "badPlace" "I", .fieldLink RX12 104 "OverHillModel" "at" "I", .methodLink RX12 142 yX12_next, .instanceMethod yX12_next, .selects RX12 yX12_next yX12_next, .initialized RX12, .code yX12_next cX12_next 2 none, .fieldLink RX12 111 "OverHillModel" "place" "I", .fieldLink RX12 114 "OverHillModel" "value" "I", .fieldLink RX12 117 "OverHillModel" "word" "J", .fieldLink RX12 97 "OverHillModel" "taped" "I", .fieldLink RX12 121 "OverHillModel" "token" "I", .constantLong RX12 124 (-1), .constantLong RX12 126 (27), .fieldLink RX12 23 "OverHillModel" "tape" "[B", .constantLong RX12 128 (96), .constant RX12 130 (100000), .constant RX12 131 (1000000), .methodLink RX12 107 yX12_isByte, .instanceMethod yX12_isByte, .selects RX12 yX12_isByte yX12_isByte, .code yX12_isByte cX12_isByte 4 (some .boolean)] ++ wsX120)
def wsX12_isOver : List Cond := .code yX12_isOver cX12_isOver 1 none :: ([.fieldLink RX12 97 "OverHillModel" "taped" "I", .fieldLink RX12 132 "OverHillModel" "bad" "I", .fieldLink RX12 159 "OverHillModel" "fault" "I", .fieldLink RX12 135 "OverHillModel" "badPlace" "I", .fieldLink RX12 27 "OverHillModel" "faultPlace" "I"] ++ wsX120)
def wsX12_fault : List Cond := .code yX12_fault cX12_fault 2 (some .int) :: ([.fieldLink RX12 80 "OverHillModel" "thrown" "I", .fieldLink RX12 159 "OverHillModel" "fault" "I", .fieldLink RX12 27 "OverHillModel" "faultPlace" "I"] ++ wsX120)
def wsX12_reads : List Cond := .code yX12_reads cX12_reads 3 none :: ([.fieldLink RX12 34 "OverHillModel" "has" "[I"] ++ wsX120)
def wsX12_clears : List Cond := .code yX12_clears cX12_clears 2 none :: ([.fieldLink RX12 31 "OverHillModel" "lines" "[I", .fieldLink RX12 40 "OverHillModel" "meets" "[I", .fieldLink RX12 46 "OverHillModel" "isMud" "[Z", .methodLink RX12 177 yX12_reads, .instanceMethod yX12_reads, .selects RX12 yX12_reads yX12_reads, .initialized RX12, .code yX12_reads cX12_reads 3 none, .fieldLink RX12 34 "OverHillModel" "has" "[I"] ++ wsX120)
def wsX12_copyRow : List Cond := .code yX12_copyRow cX12_copyRow 5 none :: ([])
def wsX12_copyDance : List Cond := .code yX12_copyDance cX12_copyDance 4 none :: ([.fieldLink RX12 31 "OverHillModel" "lines" "[I", .fieldLink RX12 34 "OverHillModel" "has" "[I", .fieldLink RX12 37 "OverHillModel" "round" "[I", .fieldLink RX12 40 "OverHillModel" "meets" "[I", .fieldLink RX12 43 "OverHillModel" "stumble" "[I", .fieldLink RX12 50 "OverHillModel" "cell" "[I", .fieldLink RX12 53 "OverHillModel" "tune" "[I", .fieldLink RX12 56 "OverHillModel" "change" "[I", .fieldLink RX12 46 "OverHillModel" "isMud" "[Z", .methodLink RX12 250 yX12_copyRow, .static yX12_copyRow, .initialized RX12, .code yX12_copyRow cX12_copyRow 5 none] ++ wsX120)
def wsX12_dance_r1 : List Cond := [Cond.fieldLink RX12 80 "OverHillModel" "thrown" "I", Cond.fieldLink RX12 121 "OverHillModel" "token" "I", Cond.fieldLink RX12 31 "OverHillModel" "lines" "[I", Cond.constantLong RX12 230 (2155739), Cond.constantLong RX12 232 (5146), Cond.constantLong RX12 234 (298288), Cond.constantLong RX12 236 (355280), Cond.fieldLink RX12 132 "OverHillModel" "bad" "I", Cond.methodLink RX12 224 yX12_clears, Cond.instanceMethod yX12_clears, Cond.selects RX12 yX12_clears yX12_clears, Cond.initialized RX12, Cond.code yX12_clears cX12_clears 2 none, Cond.fieldLink RX12 40 "OverHillModel" "meets" "[I", Cond.fieldLink RX12 46 "OverHillModel" "isMud" "[Z", Cond.methodLink RX12 177 yX12_reads, Cond.instanceMethod yX12_reads, Cond.selects RX12 yX12_reads yX12_reads, Cond.code yX12_reads cX12_reads 3 none, Cond.fieldLink RX12 34 "OverHillModel" "has" "[I", Cond.methodLink RX12 227 yX12_begins, Cond.instanceMethod yX12_begins, Cond.selects RX12 yX12_begins yX12_begins, Cond.code yX12_begins cX12_begins 1 none]
def wsX12_dance_r2 : List Cond := [Cond.fieldLink RX12 135 "OverHillModel" "badPlace" "I", Cond.fieldLink RX12 104 "OverHillModel" "at" "I", Cond.methodLink RX12 142 yX12_next, Cond.instanceMethod yX12_next, Cond.selects RX12 yX12_next yX12_next, Cond.code yX12_next cX12_next 2 none, Cond.fieldLink RX12 111 "OverHillModel" "place" "I", Cond.fieldLink RX12 114 "OverHillModel" "value" "I", Cond.fieldLink RX12 117 "OverHillModel" "word" "J", Cond.fieldLink RX12 97 "OverHillModel" "taped" "I", Cond.constantLong RX12 124 (-1), Cond.constantLong RX12 126 (27), Cond.fieldLink RX12 23 "OverHillModel" "tape" "[B", Cond.constantLong RX12 128 (96), Cond.constant RX12 130 (100000), Cond.constant RX12 131 (1000000), Cond.methodLink RX12 107 yX12_isByte, Cond.instanceMethod yX12_isByte, Cond.selects RX12 yX12_isByte yX12_isByte, Cond.code yX12_isByte cX12_isByte 4 (some .boolean), Cond.methodLink RX12 168 yX12_isGood, Cond.instanceMethod yX12_isGood, Cond.selects RX12 yX12_isGood yX12_isGood, Cond.code yX12_isGood cX12_isGood 1 (some .boolean)]
def wsX12_dance_r3 : List Cond := [Cond.methodLink RX12 151 yX12_asks, Cond.instanceMethod yX12_asks, Cond.selects RX12 yX12_asks yX12_asks, Cond.code yX12_asks cX12_asks 3 none, Cond.methodLink RX12 145 yX12_takes, Cond.instanceMethod yX12_takes, Cond.selects RX12 yX12_takes yX12_takes, Cond.code yX12_takes cX12_takes 3 (some .boolean), Cond.methodLink RX12 138 yX12_is, Cond.instanceMethod yX12_is, Cond.selects RX12 yX12_is yX12_is, Cond.code yX12_is cX12_is 3 (some .boolean), Cond.methodLink RX12 148 yX12_fails, Cond.instanceMethod yX12_fails, Cond.selects RX12 yX12_fails yX12_fails, Cond.code yX12_fails cX12_fails 2 none, Cond.methodLink RX12 174 yX12_number_, Cond.instanceMethod yX12_number_, Cond.selects RX12 yX12_number_ yX12_number_, Cond.code yX12_number_ cX12_number_ 5 (some .int), Cond.methodLink RX12 155 yX12_number, Cond.instanceMethod yX12_number, Cond.selects RX12 yX12_number yX12_number, Cond.code yX12_number cX12_number 4 (some .int)]
def wsX12_dance_r4 : List Cond := [Cond.methodLink RX12 85 yX12_in, Cond.static yX12_in, Cond.code yX12_in cX12_in 6 (some .boolean), Cond.methodLink RX12 238 yX12_line, Cond.instanceMethod yX12_line, Cond.selects RX12 yX12_line yX12_line, Cond.code yX12_line cX12_line 5 none, Cond.constantLong RX12 197 (7659385358), Cond.constantLong RX12 199 (464053), Cond.constantLong RX12 201 (409352), Cond.constantLong RX12 206 (3094387), Cond.fieldLink RX12 50 "OverHillModel" "cell" "[I", Cond.fieldLink RX12 53 "OverHillModel" "tune" "[I", Cond.constantLong RX12 212 (9876874), Cond.constantLong RX12 217 (598859425), Cond.constantLong RX12 222 (10048), Cond.methodLink RX12 181 yX12_hasRead, Cond.instanceMethod yX12_hasRead, Cond.selects RX12 yX12_hasRead yX12_hasRead, Cond.code yX12_hasRead cX12_hasRead 2 (some .int), Cond.methodLink RX12 203 yX12_stumbleLine, Cond.instanceMethod yX12_stumbleLine, Cond.selects RX12 yX12_stumbleLine yX12_stumbleLine, Cond.code yX12_stumbleLine cX12_stumbleLine 3 none]
def wsX12_dance_r5 : List Cond := [Cond.constantLong RX12 185 (47), Cond.fieldLink RX12 43 "OverHillModel" "stumble" "[I", Cond.constantLong RX12 193 (89821), Cond.constantLong RX12 195 (8782), Cond.methodLink RX12 187 yX12_isStumbled, Cond.instanceMethod yX12_isStumbled, Cond.selects RX12 yX12_isStumbled yX12_isStumbled, Cond.code yX12_isStumbled cX12_isStumbled 5 (some .boolean), Cond.methodLink RX12 190 yX12_beatHere, Cond.instanceMethod yX12_beatHere, Cond.selects RX12 yX12_beatHere yX12_beatHere, Cond.code yX12_beatHere cX12_beatHere 1 (some .int), Cond.methodLink RX12 208 yX12_everyLine, Cond.instanceMethod yX12_everyLine, Cond.selects RX12 yX12_everyLine yX12_everyLine, Cond.code yX12_everyLine cX12_everyLine 4 none, Cond.methodLink RX12 214 yX12_roundLine, Cond.instanceMethod yX12_roundLine, Cond.selects RX12 yX12_roundLine yX12_roundLine, Cond.code yX12_roundLine cX12_roundLine 5 none, Cond.constantLong RX12 162 (411), Cond.fieldLink RX12 62 "OverHillModel" "steps" "[I", Cond.constantLong RX12 172 (31499758), Cond.fieldLink RX12 37 "OverHillModel" "round" "[I"]
def wsX12_dance_r6 : List Cond := [Cond.methodLink RX12 164 yX12_stepHere, Cond.instanceMethod yX12_stepHere, Cond.selects RX12 yX12_stepHere yX12_stepHere, Cond.code yX12_stepHere cX12_stepHere 1 (some .int), Cond.methodLink RX12 219 yX12_answersLine, Cond.instanceMethod yX12_answersLine, Cond.selects RX12 yX12_answersLine yX12_answersLine, Cond.code yX12_answersLine cX12_answersLine 3 none, Cond.methodLink RX12 241 yX12_ends, Cond.instanceMethod yX12_ends, Cond.selects RX12 yX12_ends yX12_ends, Cond.code yX12_ends cX12_ends 1 none, Cond.methodLink RX12 244 yX12_isOver, Cond.instanceMethod yX12_isOver, Cond.selects RX12 yX12_isOver yX12_isOver, Cond.code yX12_isOver cX12_isOver 1 none, Cond.fieldLink RX12 159 "OverHillModel" "fault" "I", Cond.fieldLink RX12 27 "OverHillModel" "faultPlace" "I", Cond.methodLink RX12 247 yX12_copyDance, Cond.instanceMethod yX12_copyDance, Cond.selects RX12 yX12_copyDance yX12_copyDance, Cond.code yX12_copyDance cX12_copyDance 4 none, Cond.fieldLink RX12 56 "OverHillModel" "change" "[I", Cond.methodLink RX12 250 yX12_copyRow]
def wsX12_dance_r7 : List Cond := [Cond.static yX12_copyRow, Cond.code yX12_copyRow cX12_copyRow 5 none]
def wsX12_dance : List Cond := .code yX12_dance cX12_dance 1 (some .int) :: ((wsX12_dance_r1 ++ (wsX12_dance_r2 ++ (wsX12_dance_r3 ++ (wsX12_dance_r4 ++ (wsX12_dance_r5 ++ (wsX12_dance_r6 ++ wsX12_dance_r7)))))) ++ wsX120)
def wsX12_isDance : List Cond := .code yX12_isDance cX12_isDance 1 (some .boolean) :: ([.fieldLink RX12 31 "OverHillModel" "lines" "[I"] ++ wsX120)
def wsX12_isSide : List Cond := .code yX12_isSide cX12_isSide 2 (some .boolean) :: ([.methodLink RX12 254 yX12_isDance, .instanceMethod yX12_isDance, .selects RX12 yX12_isDance yX12_isDance, .initialized RX12, .code yX12_isDance cX12_isDance 1 (some .boolean), .fieldLink RX12 31 "OverHillModel" "lines" "[I", .methodLink RX12 85 yX12_in, .static yX12_in, .code yX12_in cX12_in 6 (some .boolean)] ++ wsX120)
def wsX12_lengthOf : List Cond := .code yX12_lengthOf cX12_lengthOf 2 (some .int) :: ([.fieldLink RX12 34 "OverHillModel" "has" "[I"] ++ wsX120)
def wsX12_step : List Cond := .code yX12_step cX12_step 3 (some .int) :: ([.fieldLink RX12 80 "OverHillModel" "thrown" "I", .fieldLink RX12 37 "OverHillModel" "round" "[I", .methodLink RX12 261 yX12_isSide, .instanceMethod yX12_isSide, .selects RX12 yX12_isSide yX12_isSide, .initialized RX12, .code yX12_isSide cX12_isSide 2 (some .boolean), .methodLink RX12 254 yX12_isDance, .instanceMethod yX12_isDance, .selects RX12 yX12_isDance yX12_isDance, .code yX12_isDance cX12_isDance 1 (some .boolean), .fieldLink RX12 31 "OverHillModel" "lines" "[I", .methodLink RX12 85 yX12_in, .static yX12_in, .code yX12_in cX12_in 6 (some .boolean), .methodLink RX12 264 yX12_lengthOf, .instanceMethod yX12_lengthOf, .selects RX12 yX12_lengthOf yX12_lengthOf, .code yX12_lengthOf cX12_lengthOf 2 (some .int), .fieldLink RX12 34 "OverHillModel" "has" "[I"] ++ wsX120)
def wsX12_answers : List Cond := .code yX12_answers cX12_answers 2 (some .int) :: ([.fieldLink RX12 80 "OverHillModel" "thrown" "I", .fieldLink RX12 40 "OverHillModel" "meets" "[I", .methodLink RX12 254 yX12_isDance, .instanceMethod yX12_isDance, .selects RX12 yX12_isDance yX12_isDance, .initialized RX12, .code yX12_isDance cX12_isDance 1 (some .boolean), .fieldLink RX12 31 "OverHillModel" "lines" "[I", .methodLink RX12 267 yX12_isStep, .static yX12_isStep, .code yX12_isStep cX12_isStep 2 (some .boolean), .constantLong RX12 259 (5), .methodLink RX12 85 yX12_in, .static yX12_in, .code yX12_in cX12_in 6 (some .boolean)] ++ wsX120)
def wsX12_stumbled : List Cond := .code yX12_stumbled cX12_stumbled 3 (some .int) :: ([.fieldLink RX12 80 "OverHillModel" "thrown" "I", .fieldLink RX12 34 "OverHillModel" "has" "[I", .constantLong RX12 83 (3), .fieldLink RX12 43 "OverHillModel" "stumble" "[I", .methodLink RX12 85 yX12_in, .static yX12_in, .initialized RX12, .code yX12_in cX12_in 6 (some .boolean)] ++ wsX120)
def wsX12_muddy : List Cond := .code yX12_muddy cX12_muddy 2 (some .int) :: ([.fieldLink RX12 80 "OverHillModel" "thrown" "I", .fieldLink RX12 46 "OverHillModel" "isMud" "[Z", .methodLink RX12 254 yX12_isDance, .instanceMethod yX12_isDance, .selects RX12 yX12_isDance yX12_isDance, .initialized RX12, .code yX12_isDance cX12_isDance 1 (some .boolean), .fieldLink RX12 31 "OverHillModel" "lines" "[I", .methodLink RX12 270 yX12_isBeat, .static yX12_isBeat, .code yX12_isBeat cX12_isBeat 2 (some .boolean), .constantLong RX12 257 (199), .methodLink RX12 85 yX12_in, .static yX12_in, .code yX12_in cX12_in 6 (some .boolean)] ++ wsX120)
def wsX12_place_r1 : List Cond := [Cond.fieldLink RX12 80 "OverHillModel" "thrown" "I", Cond.fieldLink RX12 65 "OverHillModel" "places" "[I", Cond.methodLink RX12 261 yX12_isSide, Cond.instanceMethod yX12_isSide, Cond.selects RX12 yX12_isSide yX12_isSide, Cond.initialized RX12, Cond.code yX12_isSide cX12_isSide 2 (some .boolean), Cond.methodLink RX12 254 yX12_isDance, Cond.instanceMethod yX12_isDance, Cond.selects RX12 yX12_isDance yX12_isDance, Cond.code yX12_isDance cX12_isDance 1 (some .boolean), Cond.fieldLink RX12 31 "OverHillModel" "lines" "[I", Cond.methodLink RX12 85 yX12_in, Cond.static yX12_in, Cond.code yX12_in cX12_in 6 (some .boolean), Cond.methodLink RX12 270 yX12_isBeat, Cond.static yX12_isBeat, Cond.code yX12_isBeat cX12_isBeat 2 (some .boolean), Cond.constantLong RX12 257 (199), Cond.methodLink RX12 290 yX12_lays, Cond.instanceMethod yX12_lays, Cond.selects RX12 yX12_lays yX12_lays, Cond.code yX12_lays cX12_lays 1 none, Cond.methodLink RX12 277 yX12_laysBut]
def wsX12_place_r2 : List Cond := [Cond.instanceMethod yX12_laysBut, Cond.selects RX12 yX12_laysBut yX12_laysBut, Cond.code yX12_laysBut cX12_laysBut 2 none, Cond.methodLink RX12 273 yX12_dances, Cond.instanceMethod yX12_dances, Cond.selects RX12 yX12_dances yX12_dances, Cond.code yX12_dances cX12_dances 13 none, Cond.fieldLink RX12 34 "OverHillModel" "has" "[I", Cond.fieldLink RX12 68 "OverHillModel" "danced" "[I", Cond.fieldLink RX12 46 "OverHillModel" "isMud" "[Z", Cond.fieldLink RX12 37 "OverHillModel" "round" "[I", Cond.fieldLink RX12 43 "OverHillModel" "stumble" "[I", Cond.methodLink RX12 264 yX12_lengthOf, Cond.instanceMethod yX12_lengthOf, Cond.selects RX12 yX12_lengthOf yX12_lengthOf, Cond.code yX12_lengthOf cX12_lengthOf 2 (some .int)]
def wsX12_place : List Cond := .code yX12_place cX12_place 3 (some .int) :: ((wsX12_place_r1 ++ wsX12_place_r2) ++ wsX120)
def wsX12_danced_r1 : List Cond := [Cond.fieldLink RX12 80 "OverHillModel" "thrown" "I", Cond.fieldLink RX12 68 "OverHillModel" "danced" "[I", Cond.methodLink RX12 261 yX12_isSide, Cond.instanceMethod yX12_isSide, Cond.selects RX12 yX12_isSide yX12_isSide, Cond.initialized RX12, Cond.code yX12_isSide cX12_isSide 2 (some .boolean), Cond.methodLink RX12 254 yX12_isDance, Cond.instanceMethod yX12_isDance, Cond.selects RX12 yX12_isDance yX12_isDance, Cond.code yX12_isDance cX12_isDance 1 (some .boolean), Cond.fieldLink RX12 31 "OverHillModel" "lines" "[I", Cond.methodLink RX12 85 yX12_in, Cond.static yX12_in, Cond.code yX12_in cX12_in 6 (some .boolean), Cond.methodLink RX12 270 yX12_isBeat, Cond.static yX12_isBeat, Cond.code yX12_isBeat cX12_isBeat 2 (some .boolean), Cond.constantLong RX12 257 (199), Cond.methodLink RX12 290 yX12_lays, Cond.instanceMethod yX12_lays, Cond.selects RX12 yX12_lays yX12_lays, Cond.code yX12_lays cX12_lays 1 none, Cond.methodLink RX12 277 yX12_laysBut]
def wsX12_danced_r2 : List Cond := [Cond.instanceMethod yX12_laysBut, Cond.selects RX12 yX12_laysBut yX12_laysBut, Cond.code yX12_laysBut cX12_laysBut 2 none, Cond.methodLink RX12 273 yX12_dances, Cond.instanceMethod yX12_dances, Cond.selects RX12 yX12_dances yX12_dances, Cond.code yX12_dances cX12_dances 13 none, Cond.fieldLink RX12 34 "OverHillModel" "has" "[I", Cond.fieldLink RX12 65 "OverHillModel" "places" "[I", Cond.fieldLink RX12 46 "OverHillModel" "isMud" "[Z", Cond.fieldLink RX12 37 "OverHillModel" "round" "[I", Cond.fieldLink RX12 43 "OverHillModel" "stumble" "[I", Cond.methodLink RX12 264 yX12_lengthOf, Cond.instanceMethod yX12_lengthOf, Cond.selects RX12 yX12_lengthOf yX12_lengthOf, Cond.code yX12_lengthOf cX12_lengthOf 2 (some .int)]
def wsX12_danced : List Cond := .code yX12_danced cX12_danced 3 (some .int) :: ((wsX12_danced_r1 ++ wsX12_danced_r2) ++ wsX120)
def wsX12_hears_r1 : List Cond := [Cond.fieldLink RX12 80 "OverHillModel" "thrown" "I", Cond.methodLink RX12 261 yX12_isSide, Cond.instanceMethod yX12_isSide, Cond.selects RX12 yX12_isSide yX12_isSide, Cond.initialized RX12, Cond.code yX12_isSide cX12_isSide 2 (some .boolean), Cond.methodLink RX12 254 yX12_isDance, Cond.instanceMethod yX12_isDance, Cond.selects RX12 yX12_isDance yX12_isDance, Cond.code yX12_isDance cX12_isDance 1 (some .boolean), Cond.fieldLink RX12 31 "OverHillModel" "lines" "[I", Cond.methodLink RX12 85 yX12_in, Cond.static yX12_in, Cond.code yX12_in cX12_in 6 (some .boolean), Cond.methodLink RX12 270 yX12_isBeat, Cond.static yX12_isBeat, Cond.code yX12_isBeat cX12_isBeat 2 (some .boolean), Cond.constantLong RX12 257 (199), Cond.methodLink RX12 290 yX12_lays, Cond.instanceMethod yX12_lays, Cond.selects RX12 yX12_lays yX12_lays, Cond.code yX12_lays cX12_lays 1 none, Cond.methodLink RX12 277 yX12_laysBut, Cond.instanceMethod yX12_laysBut]
def wsX12_hears_r2 : List Cond := [Cond.selects RX12 yX12_laysBut yX12_laysBut, Cond.code yX12_laysBut cX12_laysBut 2 none, Cond.methodLink RX12 273 yX12_dances, Cond.instanceMethod yX12_dances, Cond.selects RX12 yX12_dances yX12_dances, Cond.code yX12_dances cX12_dances 13 none, Cond.fieldLink RX12 34 "OverHillModel" "has" "[I", Cond.fieldLink RX12 65 "OverHillModel" "places" "[I", Cond.fieldLink RX12 68 "OverHillModel" "danced" "[I", Cond.fieldLink RX12 46 "OverHillModel" "isMud" "[Z", Cond.fieldLink RX12 37 "OverHillModel" "round" "[I", Cond.fieldLink RX12 43 "OverHillModel" "stumble" "[I", Cond.methodLink RX12 264 yX12_lengthOf, Cond.instanceMethod yX12_lengthOf, Cond.selects RX12 yX12_lengthOf yX12_lengthOf, Cond.code yX12_lengthOf cX12_lengthOf 2 (some .int), Cond.methodLink RX12 284 yX12_hearsAt, Cond.instanceMethod yX12_hearsAt, Cond.selects RX12 yX12_hearsAt yX12_hearsAt, Cond.code yX12_hearsAt cX12_hearsAt 3 (some .int)]
def wsX12_hears : List Cond := .code yX12_hears cX12_hears 3 (some .int) :: ((wsX12_hears_r1 ++ wsX12_hears_r2) ++ wsX120)
def wsX12_late_r1 : List Cond := [Cond.fieldLink RX12 80 "OverHillModel" "thrown" "I", Cond.fieldLink RX12 34 "OverHillModel" "has" "[I", Cond.fieldLink RX12 65 "OverHillModel" "places" "[I", Cond.methodLink RX12 261 yX12_isSide, Cond.instanceMethod yX12_isSide, Cond.selects RX12 yX12_isSide yX12_isSide, Cond.initialized RX12, Cond.code yX12_isSide cX12_isSide 2 (some .boolean), Cond.methodLink RX12 254 yX12_isDance, Cond.instanceMethod yX12_isDance, Cond.selects RX12 yX12_isDance yX12_isDance, Cond.code yX12_isDance cX12_isDance 1 (some .boolean), Cond.fieldLink RX12 31 "OverHillModel" "lines" "[I", Cond.methodLink RX12 85 yX12_in, Cond.static yX12_in, Cond.code yX12_in cX12_in 6 (some .boolean), Cond.methodLink RX12 270 yX12_isBeat, Cond.static yX12_isBeat, Cond.code yX12_isBeat cX12_isBeat 2 (some .boolean), Cond.constantLong RX12 257 (199), Cond.methodLink RX12 264 yX12_lengthOf, Cond.instanceMethod yX12_lengthOf, Cond.selects RX12 yX12_lengthOf yX12_lengthOf, Cond.code yX12_lengthOf cX12_lengthOf 2 (some .int)]
def wsX12_late_r2 : List Cond := [Cond.methodLink RX12 290 yX12_lays, Cond.instanceMethod yX12_lays, Cond.selects RX12 yX12_lays yX12_lays, Cond.code yX12_lays cX12_lays 1 none, Cond.methodLink RX12 277 yX12_laysBut, Cond.instanceMethod yX12_laysBut, Cond.selects RX12 yX12_laysBut yX12_laysBut, Cond.code yX12_laysBut cX12_laysBut 2 none, Cond.methodLink RX12 273 yX12_dances, Cond.instanceMethod yX12_dances, Cond.selects RX12 yX12_dances yX12_dances, Cond.code yX12_dances cX12_dances 13 none, Cond.fieldLink RX12 68 "OverHillModel" "danced" "[I", Cond.fieldLink RX12 46 "OverHillModel" "isMud" "[Z", Cond.fieldLink RX12 37 "OverHillModel" "round" "[I", Cond.fieldLink RX12 43 "OverHillModel" "stumble" "[I"]
def wsX12_late : List Cond := .code yX12_late cX12_late 4 (some .int) :: ((wsX12_late_r1 ++ wsX12_late_r2) ++ wsX120)
def wsX12_hole_r1 : List Cond := [Cond.fieldLink RX12 80 "OverHillModel" "thrown" "I", Cond.methodLink RX12 261 yX12_isSide, Cond.instanceMethod yX12_isSide, Cond.selects RX12 yX12_isSide yX12_isSide, Cond.initialized RX12, Cond.code yX12_isSide cX12_isSide 2 (some .boolean), Cond.methodLink RX12 254 yX12_isDance, Cond.instanceMethod yX12_isDance, Cond.selects RX12 yX12_isDance yX12_isDance, Cond.code yX12_isDance cX12_isDance 1 (some .boolean), Cond.fieldLink RX12 31 "OverHillModel" "lines" "[I", Cond.methodLink RX12 85 yX12_in, Cond.static yX12_in, Cond.code yX12_in cX12_in 6 (some .boolean), Cond.methodLink RX12 270 yX12_isBeat, Cond.static yX12_isBeat, Cond.code yX12_isBeat cX12_isBeat 2 (some .boolean), Cond.constantLong RX12 257 (199), Cond.methodLink RX12 290 yX12_lays, Cond.instanceMethod yX12_lays, Cond.selects RX12 yX12_lays yX12_lays, Cond.code yX12_lays cX12_lays 1 none, Cond.methodLink RX12 277 yX12_laysBut, Cond.instanceMethod yX12_laysBut]
def wsX12_hole_r2 : List Cond := [Cond.selects RX12 yX12_laysBut yX12_laysBut, Cond.code yX12_laysBut cX12_laysBut 2 none, Cond.methodLink RX12 273 yX12_dances, Cond.instanceMethod yX12_dances, Cond.selects RX12 yX12_dances yX12_dances, Cond.code yX12_dances cX12_dances 13 none, Cond.fieldLink RX12 34 "OverHillModel" "has" "[I", Cond.fieldLink RX12 65 "OverHillModel" "places" "[I", Cond.fieldLink RX12 68 "OverHillModel" "danced" "[I", Cond.fieldLink RX12 46 "OverHillModel" "isMud" "[Z", Cond.fieldLink RX12 37 "OverHillModel" "round" "[I", Cond.fieldLink RX12 43 "OverHillModel" "stumble" "[I", Cond.methodLink RX12 264 yX12_lengthOf, Cond.instanceMethod yX12_lengthOf, Cond.selects RX12 yX12_lengthOf yX12_lengthOf, Cond.code yX12_lengthOf cX12_lengthOf 2 (some .int), Cond.methodLink RX12 293 yX12_isHole, Cond.instanceMethod yX12_isHole, Cond.selects RX12 yX12_isHole yX12_isHole, Cond.code yX12_isHole cX12_isHole 3 (some .boolean), Cond.methodLink RX12 284 yX12_hearsAt, Cond.instanceMethod yX12_hearsAt, Cond.selects RX12 yX12_hearsAt yX12_hearsAt, Cond.code yX12_hearsAt cX12_hearsAt 3 (some .int)]
def wsX12_hole_r3 : List Cond := [Cond.methodLink RX12 287 yX12_clashes, Cond.instanceMethod yX12_clashes, Cond.selects RX12 yX12_clashes yX12_clashes, Cond.code yX12_clashes cX12_clashes 3 (some .boolean), Cond.fieldLink RX12 40 "OverHillModel" "meets" "[I", Cond.methodLink RX12 280 yX12_isBit, Cond.static yX12_isBit, Cond.code yX12_isBit cX12_isBit 2 (some .boolean)]
def wsX12_hole : List Cond := .code yX12_hole cX12_hole 3 (some .int) :: ((wsX12_hole_r1 ++ (wsX12_hole_r2 ++ wsX12_hole_r3)) ++ wsX120)
def wsX12_next__r1 : List Cond := [Cond.fieldLink RX12 80 "OverHillModel" "thrown" "I", Cond.methodLink RX12 261 yX12_isSide, Cond.instanceMethod yX12_isSide, Cond.selects RX12 yX12_isSide yX12_isSide, Cond.initialized RX12, Cond.code yX12_isSide cX12_isSide 2 (some .boolean), Cond.methodLink RX12 254 yX12_isDance, Cond.instanceMethod yX12_isDance, Cond.selects RX12 yX12_isDance yX12_isDance, Cond.code yX12_isDance cX12_isDance 1 (some .boolean), Cond.fieldLink RX12 31 "OverHillModel" "lines" "[I", Cond.methodLink RX12 85 yX12_in, Cond.static yX12_in, Cond.code yX12_in cX12_in 6 (some .boolean), Cond.methodLink RX12 270 yX12_isBeat, Cond.static yX12_isBeat, Cond.code yX12_isBeat cX12_isBeat 2 (some .boolean), Cond.constantLong RX12 257 (199), Cond.methodLink RX12 290 yX12_lays, Cond.instanceMethod yX12_lays, Cond.selects RX12 yX12_lays yX12_lays, Cond.code yX12_lays cX12_lays 1 none, Cond.methodLink RX12 277 yX12_laysBut, Cond.instanceMethod yX12_laysBut]
def wsX12_next__r2 : List Cond := [Cond.selects RX12 yX12_laysBut yX12_laysBut, Cond.code yX12_laysBut cX12_laysBut 2 none, Cond.methodLink RX12 273 yX12_dances, Cond.instanceMethod yX12_dances, Cond.selects RX12 yX12_dances yX12_dances, Cond.code yX12_dances cX12_dances 13 none, Cond.fieldLink RX12 34 "OverHillModel" "has" "[I", Cond.fieldLink RX12 65 "OverHillModel" "places" "[I", Cond.fieldLink RX12 68 "OverHillModel" "danced" "[I", Cond.fieldLink RX12 46 "OverHillModel" "isMud" "[Z", Cond.fieldLink RX12 37 "OverHillModel" "round" "[I", Cond.fieldLink RX12 43 "OverHillModel" "stumble" "[I", Cond.methodLink RX12 264 yX12_lengthOf, Cond.instanceMethod yX12_lengthOf, Cond.selects RX12 yX12_lengthOf yX12_lengthOf, Cond.code yX12_lengthOf cX12_lengthOf 2 (some .int), Cond.methodLink RX12 293 yX12_isHole, Cond.instanceMethod yX12_isHole, Cond.selects RX12 yX12_isHole yX12_isHole, Cond.code yX12_isHole cX12_isHole 3 (some .boolean), Cond.methodLink RX12 284 yX12_hearsAt, Cond.instanceMethod yX12_hearsAt, Cond.selects RX12 yX12_hearsAt yX12_hearsAt, Cond.code yX12_hearsAt cX12_hearsAt 3 (some .int)]
def wsX12_next__r3 : List Cond := [Cond.methodLink RX12 287 yX12_clashes, Cond.instanceMethod yX12_clashes, Cond.selects RX12 yX12_clashes yX12_clashes, Cond.code yX12_clashes cX12_clashes 3 (some .boolean), Cond.fieldLink RX12 40 "OverHillModel" "meets" "[I", Cond.methodLink RX12 280 yX12_isBit, Cond.static yX12_isBit, Cond.code yX12_isBit cX12_isBit 2 (some .boolean)]
def wsX12_next_ : List Cond := .code yX12_next_ cX12_next_ 4 (some .int) :: ((wsX12_next__r1 ++ (wsX12_next__r2 ++ wsX12_next__r3)) ++ wsX120)
def wsX12_isSpan : List Cond := .code yX12_isSpan cX12_isSpan 3 (some .boolean) :: ([.constantLong RX12 257 (199), .methodLink RX12 254 yX12_isDance, .instanceMethod yX12_isDance, .selects RX12 yX12_isDance yX12_isDance, .initialized RX12, .code yX12_isDance cX12_isDance 1 (some .boolean), .fieldLink RX12 31 "OverHillModel" "lines" "[I", .methodLink RX12 270 yX12_isBeat, .static yX12_isBeat, .code yX12_isBeat cX12_isBeat 2 (some .boolean), .methodLink RX12 85 yX12_in, .static yX12_in, .code yX12_in cX12_in 6 (some .boolean)] ++ wsX120)
def wsX12_holes_r1 : List Cond := [Cond.fieldLink RX12 80 "OverHillModel" "thrown" "I", Cond.methodLink RX12 261 yX12_isSide, Cond.instanceMethod yX12_isSide, Cond.selects RX12 yX12_isSide yX12_isSide, Cond.initialized RX12, Cond.code yX12_isSide cX12_isSide 2 (some .boolean), Cond.methodLink RX12 254 yX12_isDance, Cond.instanceMethod yX12_isDance, Cond.selects RX12 yX12_isDance yX12_isDance, Cond.code yX12_isDance cX12_isDance 1 (some .boolean), Cond.fieldLink RX12 31 "OverHillModel" "lines" "[I", Cond.methodLink RX12 85 yX12_in, Cond.static yX12_in, Cond.code yX12_in cX12_in 6 (some .boolean), Cond.methodLink RX12 296 yX12_isSpan, Cond.instanceMethod yX12_isSpan, Cond.selects RX12 yX12_isSpan yX12_isSpan, Cond.code yX12_isSpan cX12_isSpan 3 (some .boolean), Cond.constantLong RX12 257 (199), Cond.methodLink RX12 270 yX12_isBeat, Cond.static yX12_isBeat, Cond.code yX12_isBeat cX12_isBeat 2 (some .boolean), Cond.methodLink RX12 290 yX12_lays, Cond.instanceMethod yX12_lays]
def wsX12_holes_r2 : List Cond := [Cond.selects RX12 yX12_lays yX12_lays, Cond.code yX12_lays cX12_lays 1 none, Cond.methodLink RX12 277 yX12_laysBut, Cond.instanceMethod yX12_laysBut, Cond.selects RX12 yX12_laysBut yX12_laysBut, Cond.code yX12_laysBut cX12_laysBut 2 none, Cond.methodLink RX12 273 yX12_dances, Cond.instanceMethod yX12_dances, Cond.selects RX12 yX12_dances yX12_dances, Cond.code yX12_dances cX12_dances 13 none, Cond.fieldLink RX12 34 "OverHillModel" "has" "[I", Cond.fieldLink RX12 65 "OverHillModel" "places" "[I", Cond.fieldLink RX12 68 "OverHillModel" "danced" "[I", Cond.fieldLink RX12 46 "OverHillModel" "isMud" "[Z", Cond.fieldLink RX12 37 "OverHillModel" "round" "[I", Cond.fieldLink RX12 43 "OverHillModel" "stumble" "[I", Cond.methodLink RX12 264 yX12_lengthOf, Cond.instanceMethod yX12_lengthOf, Cond.selects RX12 yX12_lengthOf yX12_lengthOf, Cond.code yX12_lengthOf cX12_lengthOf 2 (some .int), Cond.methodLink RX12 299 yX12_holesOf, Cond.instanceMethod yX12_holesOf, Cond.selects RX12 yX12_holesOf yX12_holesOf, Cond.code yX12_holesOf cX12_holesOf 6 (some .int)]
def wsX12_holes_r3 : List Cond := [Cond.methodLink RX12 293 yX12_isHole, Cond.instanceMethod yX12_isHole, Cond.selects RX12 yX12_isHole yX12_isHole, Cond.code yX12_isHole cX12_isHole 3 (some .boolean), Cond.methodLink RX12 284 yX12_hearsAt, Cond.instanceMethod yX12_hearsAt, Cond.selects RX12 yX12_hearsAt yX12_hearsAt, Cond.code yX12_hearsAt cX12_hearsAt 3 (some .int), Cond.methodLink RX12 287 yX12_clashes, Cond.instanceMethod yX12_clashes, Cond.selects RX12 yX12_clashes yX12_clashes, Cond.code yX12_clashes cX12_clashes 3 (some .boolean), Cond.fieldLink RX12 40 "OverHillModel" "meets" "[I", Cond.methodLink RX12 280 yX12_isBit, Cond.static yX12_isBit, Cond.code yX12_isBit cX12_isBit 2 (some .boolean)]
def wsX12_holes : List Cond := .code yX12_holes cX12_holes 4 (some .int) :: ((wsX12_holes_r1 ++ (wsX12_holes_r2 ++ wsX12_holes_r3)) ++ wsX120)
def wsX12_run_r1 : List Cond := [Cond.fieldLink RX12 80 "OverHillModel" "thrown" "I", Cond.fieldLink RX12 303 "OverHillModel" "runMost" "I", Cond.methodLink RX12 296 yX12_isSpan, Cond.instanceMethod yX12_isSpan, Cond.selects RX12 yX12_isSpan yX12_isSpan, Cond.initialized RX12, Cond.code yX12_isSpan cX12_isSpan 3 (some .boolean), Cond.constantLong RX12 257 (199), Cond.methodLink RX12 254 yX12_isDance, Cond.instanceMethod yX12_isDance, Cond.selects RX12 yX12_isDance yX12_isDance, Cond.code yX12_isDance cX12_isDance 1 (some .boolean), Cond.fieldLink RX12 31 "OverHillModel" "lines" "[I", Cond.methodLink RX12 270 yX12_isBeat, Cond.static yX12_isBeat, Cond.code yX12_isBeat cX12_isBeat 2 (some .boolean), Cond.methodLink RX12 85 yX12_in, Cond.static yX12_in, Cond.code yX12_in cX12_in 6 (some .boolean), Cond.methodLink RX12 309 yX12_laysRun, Cond.instanceMethod yX12_laysRun, Cond.selects RX12 yX12_laysRun yX12_laysRun, Cond.code yX12_laysRun cX12_laysRun 5 none, Cond.fieldLink RX12 306 "OverHillModel" "runBegins" "I"]
def wsX12_run_r2 : List Cond := [Cond.methodLink RX12 290 yX12_lays, Cond.instanceMethod yX12_lays, Cond.selects RX12 yX12_lays yX12_lays, Cond.code yX12_lays cX12_lays 1 none, Cond.methodLink RX12 277 yX12_laysBut, Cond.instanceMethod yX12_laysBut, Cond.selects RX12 yX12_laysBut yX12_laysBut, Cond.code yX12_laysBut cX12_laysBut 2 none, Cond.methodLink RX12 273 yX12_dances, Cond.instanceMethod yX12_dances, Cond.selects RX12 yX12_dances yX12_dances, Cond.code yX12_dances cX12_dances 13 none, Cond.fieldLink RX12 34 "OverHillModel" "has" "[I", Cond.fieldLink RX12 65 "OverHillModel" "places" "[I", Cond.fieldLink RX12 68 "OverHillModel" "danced" "[I", Cond.fieldLink RX12 46 "OverHillModel" "isMud" "[Z", Cond.fieldLink RX12 37 "OverHillModel" "round" "[I", Cond.fieldLink RX12 43 "OverHillModel" "stumble" "[I", Cond.methodLink RX12 264 yX12_lengthOf, Cond.instanceMethod yX12_lengthOf, Cond.selects RX12 yX12_lengthOf yX12_lengthOf, Cond.code yX12_lengthOf cX12_lengthOf 2 (some .int), Cond.methodLink RX12 293 yX12_isHole, Cond.instanceMethod yX12_isHole]
def wsX12_run_r3 : List Cond := [Cond.selects RX12 yX12_isHole yX12_isHole, Cond.code yX12_isHole cX12_isHole 3 (some .boolean), Cond.methodLink RX12 284 yX12_hearsAt, Cond.instanceMethod yX12_hearsAt, Cond.selects RX12 yX12_hearsAt yX12_hearsAt, Cond.code yX12_hearsAt cX12_hearsAt 3 (some .int), Cond.methodLink RX12 287 yX12_clashes, Cond.instanceMethod yX12_clashes, Cond.selects RX12 yX12_clashes yX12_clashes, Cond.code yX12_clashes cX12_clashes 3 (some .boolean), Cond.fieldLink RX12 40 "OverHillModel" "meets" "[I", Cond.methodLink RX12 280 yX12_isBit, Cond.static yX12_isBit, Cond.code yX12_isBit cX12_isBit 2 (some .boolean)]
def wsX12_run : List Cond := .code yX12_run cX12_run 3 (some .int) :: ((wsX12_run_r1 ++ (wsX12_run_r2 ++ wsX12_run_r3)) ++ wsX120)
def wsX12_begins__r1 : List Cond := [Cond.fieldLink RX12 80 "OverHillModel" "thrown" "I", Cond.fieldLink RX12 306 "OverHillModel" "runBegins" "I", Cond.methodLink RX12 296 yX12_isSpan, Cond.instanceMethod yX12_isSpan, Cond.selects RX12 yX12_isSpan yX12_isSpan, Cond.initialized RX12, Cond.code yX12_isSpan cX12_isSpan 3 (some .boolean), Cond.constantLong RX12 257 (199), Cond.methodLink RX12 254 yX12_isDance, Cond.instanceMethod yX12_isDance, Cond.selects RX12 yX12_isDance yX12_isDance, Cond.code yX12_isDance cX12_isDance 1 (some .boolean), Cond.fieldLink RX12 31 "OverHillModel" "lines" "[I", Cond.methodLink RX12 270 yX12_isBeat, Cond.static yX12_isBeat, Cond.code yX12_isBeat cX12_isBeat 2 (some .boolean), Cond.methodLink RX12 85 yX12_in, Cond.static yX12_in, Cond.code yX12_in cX12_in 6 (some .boolean), Cond.methodLink RX12 309 yX12_laysRun, Cond.instanceMethod yX12_laysRun, Cond.selects RX12 yX12_laysRun yX12_laysRun, Cond.code yX12_laysRun cX12_laysRun 5 none, Cond.fieldLink RX12 303 "OverHillModel" "runMost" "I"]
def wsX12_begins__r2 : List Cond := [Cond.methodLink RX12 290 yX12_lays, Cond.instanceMethod yX12_lays, Cond.selects RX12 yX12_lays yX12_lays, Cond.code yX12_lays cX12_lays 1 none, Cond.methodLink RX12 277 yX12_laysBut, Cond.instanceMethod yX12_laysBut, Cond.selects RX12 yX12_laysBut yX12_laysBut, Cond.code yX12_laysBut cX12_laysBut 2 none, Cond.methodLink RX12 273 yX12_dances, Cond.instanceMethod yX12_dances, Cond.selects RX12 yX12_dances yX12_dances, Cond.code yX12_dances cX12_dances 13 none, Cond.fieldLink RX12 34 "OverHillModel" "has" "[I", Cond.fieldLink RX12 65 "OverHillModel" "places" "[I", Cond.fieldLink RX12 68 "OverHillModel" "danced" "[I", Cond.fieldLink RX12 46 "OverHillModel" "isMud" "[Z", Cond.fieldLink RX12 37 "OverHillModel" "round" "[I", Cond.fieldLink RX12 43 "OverHillModel" "stumble" "[I", Cond.methodLink RX12 264 yX12_lengthOf, Cond.instanceMethod yX12_lengthOf, Cond.selects RX12 yX12_lengthOf yX12_lengthOf, Cond.code yX12_lengthOf cX12_lengthOf 2 (some .int), Cond.methodLink RX12 293 yX12_isHole, Cond.instanceMethod yX12_isHole]
def wsX12_begins__r3 : List Cond := [Cond.selects RX12 yX12_isHole yX12_isHole, Cond.code yX12_isHole cX12_isHole 3 (some .boolean), Cond.methodLink RX12 284 yX12_hearsAt, Cond.instanceMethod yX12_hearsAt, Cond.selects RX12 yX12_hearsAt yX12_hearsAt, Cond.code yX12_hearsAt cX12_hearsAt 3 (some .int), Cond.methodLink RX12 287 yX12_clashes, Cond.instanceMethod yX12_clashes, Cond.selects RX12 yX12_clashes yX12_clashes, Cond.code yX12_clashes cX12_clashes 3 (some .boolean), Cond.fieldLink RX12 40 "OverHillModel" "meets" "[I", Cond.methodLink RX12 280 yX12_isBit, Cond.static yX12_isBit, Cond.code yX12_isBit cX12_isBit 2 (some .boolean)]
def wsX12_begins_ : List Cond := .code yX12_begins_ cX12_begins_ 3 (some .int) :: ((wsX12_begins__r1 ++ (wsX12_begins__r2 ++ wsX12_begins__r3)) ++ wsX120)
def wsX12_undoes_r1 : List Cond := [Cond.fieldLink RX12 80 "OverHillModel" "thrown" "I", Cond.fieldLink RX12 34 "OverHillModel" "has" "[I", Cond.methodLink RX12 85 yX12_in, Cond.static yX12_in, Cond.initialized RX12, Cond.code yX12_in cX12_in 6 (some .boolean), Cond.methodLink RX12 290 yX12_lays, Cond.instanceMethod yX12_lays, Cond.selects RX12 yX12_lays yX12_lays, Cond.code yX12_lays cX12_lays 1 none, Cond.methodLink RX12 277 yX12_laysBut, Cond.instanceMethod yX12_laysBut, Cond.selects RX12 yX12_laysBut yX12_laysBut, Cond.code yX12_laysBut cX12_laysBut 2 none, Cond.methodLink RX12 273 yX12_dances, Cond.instanceMethod yX12_dances, Cond.selects RX12 yX12_dances yX12_dances, Cond.code yX12_dances cX12_dances 13 none, Cond.fieldLink RX12 65 "OverHillModel" "places" "[I", Cond.fieldLink RX12 68 "OverHillModel" "danced" "[I", Cond.fieldLink RX12 46 "OverHillModel" "isMud" "[Z", Cond.fieldLink RX12 37 "OverHillModel" "round" "[I", Cond.fieldLink RX12 43 "OverHillModel" "stumble" "[I", Cond.methodLink RX12 264 yX12_lengthOf]
def wsX12_undoes_r2 : List Cond := [Cond.instanceMethod yX12_lengthOf, Cond.selects RX12 yX12_lengthOf yX12_lengthOf, Cond.code yX12_lengthOf cX12_lengthOf 2 (some .int), Cond.methodLink RX12 312 yX12_allHoles, Cond.instanceMethod yX12_allHoles, Cond.selects RX12 yX12_allHoles yX12_allHoles, Cond.code yX12_allHoles cX12_allHoles 1 (some .int), Cond.methodLink RX12 299 yX12_holesOf, Cond.instanceMethod yX12_holesOf, Cond.selects RX12 yX12_holesOf yX12_holesOf, Cond.code yX12_holesOf cX12_holesOf 6 (some .int), Cond.methodLink RX12 293 yX12_isHole, Cond.instanceMethod yX12_isHole, Cond.selects RX12 yX12_isHole yX12_isHole, Cond.code yX12_isHole cX12_isHole 3 (some .boolean), Cond.methodLink RX12 284 yX12_hearsAt, Cond.instanceMethod yX12_hearsAt, Cond.selects RX12 yX12_hearsAt yX12_hearsAt, Cond.code yX12_hearsAt cX12_hearsAt 3 (some .int), Cond.methodLink RX12 287 yX12_clashes, Cond.instanceMethod yX12_clashes, Cond.selects RX12 yX12_clashes yX12_clashes, Cond.code yX12_clashes cX12_clashes 3 (some .boolean), Cond.fieldLink RX12 40 "OverHillModel" "meets" "[I"]
def wsX12_undoes_r3 : List Cond := [Cond.methodLink RX12 280 yX12_isBit, Cond.static yX12_isBit, Cond.code yX12_isBit cX12_isBit 2 (some .boolean)]
def wsX12_undoes : List Cond := .code yX12_undoes cX12_undoes 3 (some .int) :: ((wsX12_undoes_r1 ++ (wsX12_undoes_r2 ++ wsX12_undoes_r3)) ++ wsX120)
def wsX12_causes_r1 : List Cond := [Cond.fieldLink RX12 80 "OverHillModel" "thrown" "I", Cond.fieldLink RX12 34 "OverHillModel" "has" "[I", Cond.methodLink RX12 261 yX12_isSide, Cond.instanceMethod yX12_isSide, Cond.selects RX12 yX12_isSide yX12_isSide, Cond.initialized RX12, Cond.code yX12_isSide cX12_isSide 2 (some .boolean), Cond.methodLink RX12 254 yX12_isDance, Cond.instanceMethod yX12_isDance, Cond.selects RX12 yX12_isDance yX12_isDance, Cond.code yX12_isDance cX12_isDance 1 (some .boolean), Cond.fieldLink RX12 31 "OverHillModel" "lines" "[I", Cond.methodLink RX12 85 yX12_in, Cond.static yX12_in, Cond.code yX12_in cX12_in 6 (some .boolean), Cond.methodLink RX12 270 yX12_isBeat, Cond.static yX12_isBeat, Cond.code yX12_isBeat cX12_isBeat 2 (some .boolean), Cond.constantLong RX12 257 (199), Cond.methodLink RX12 290 yX12_lays, Cond.instanceMethod yX12_lays, Cond.selects RX12 yX12_lays yX12_lays, Cond.code yX12_lays cX12_lays 1 none, Cond.methodLink RX12 277 yX12_laysBut]
def wsX12_causes_r2 : List Cond := [Cond.instanceMethod yX12_laysBut, Cond.selects RX12 yX12_laysBut yX12_laysBut, Cond.code yX12_laysBut cX12_laysBut 2 none, Cond.methodLink RX12 273 yX12_dances, Cond.instanceMethod yX12_dances, Cond.selects RX12 yX12_dances yX12_dances, Cond.code yX12_dances cX12_dances 13 none, Cond.fieldLink RX12 65 "OverHillModel" "places" "[I", Cond.fieldLink RX12 68 "OverHillModel" "danced" "[I", Cond.fieldLink RX12 46 "OverHillModel" "isMud" "[Z", Cond.fieldLink RX12 37 "OverHillModel" "round" "[I", Cond.fieldLink RX12 43 "OverHillModel" "stumble" "[I", Cond.methodLink RX12 264 yX12_lengthOf, Cond.instanceMethod yX12_lengthOf, Cond.selects RX12 yX12_lengthOf yX12_lengthOf, Cond.code yX12_lengthOf cX12_lengthOf 2 (some .int), Cond.methodLink RX12 293 yX12_isHole, Cond.instanceMethod yX12_isHole, Cond.selects RX12 yX12_isHole yX12_isHole, Cond.code yX12_isHole cX12_isHole 3 (some .boolean), Cond.methodLink RX12 284 yX12_hearsAt, Cond.instanceMethod yX12_hearsAt, Cond.selects RX12 yX12_hearsAt yX12_hearsAt, Cond.code yX12_hearsAt cX12_hearsAt 3 (some .int)]
def wsX12_causes_r3 : List Cond := [Cond.methodLink RX12 287 yX12_clashes, Cond.instanceMethod yX12_clashes, Cond.selects RX12 yX12_clashes yX12_clashes, Cond.code yX12_clashes cX12_clashes 3 (some .boolean), Cond.fieldLink RX12 40 "OverHillModel" "meets" "[I", Cond.methodLink RX12 280 yX12_isBit, Cond.static yX12_isBit, Cond.code yX12_isBit cX12_isBit 2 (some .boolean)]
def wsX12_causes : List Cond := .code yX12_causes cX12_causes 5 (some .int) :: ((wsX12_causes_r1 ++ (wsX12_causes_r2 ++ wsX12_causes_r3)) ++ wsX120)
def wsX12_period : List Cond := .code yX12_period cX12_period 1 (some .int) :: ([.fieldLink RX12 80 "OverHillModel" "thrown" "I", .methodLink RX12 254 yX12_isDance, .instanceMethod yX12_isDance, .selects RX12 yX12_isDance yX12_isDance, .initialized RX12, .code yX12_isDance cX12_isDance 1 (some .boolean), .fieldLink RX12 31 "OverHillModel" "lines" "[I", .methodLink RX12 322 yX12_areRounds, .instanceMethod yX12_areRounds, .selects RX12 yX12_areRounds yX12_areRounds, .code yX12_areRounds cX12_areRounds 1 (some .boolean), .fieldLink RX12 34 "OverHillModel" "has" "[I", .methodLink RX12 325 yX12_periodOf, .instanceMethod yX12_periodOf, .selects RX12 yX12_periodOf yX12_periodOf, .code yX12_periodOf cX12_periodOf 1 (some .int), .methodLink RX12 264 yX12_lengthOf, .instanceMethod yX12_lengthOf, .selects RX12 yX12_lengthOf yX12_lengthOf, .code yX12_lengthOf cX12_lengthOf 2 (some .int), .methodLink RX12 315 yX12_common, .static yX12_common, .code yX12_common cX12_common 2 (some .int)] ++ wsX120)
def wsX12_meets_r1 : List Cond := [Cond.fieldLink RX12 80 "OverHillModel" "thrown" "I", Cond.fieldLink RX12 34 "OverHillModel" "has" "[I", Cond.methodLink RX12 254 yX12_isDance, Cond.instanceMethod yX12_isDance, Cond.selects RX12 yX12_isDance yX12_isDance, Cond.initialized RX12, Cond.code yX12_isDance cX12_isDance 1 (some .boolean), Cond.fieldLink RX12 31 "OverHillModel" "lines" "[I", Cond.methodLink RX12 264 yX12_lengthOf, Cond.instanceMethod yX12_lengthOf, Cond.selects RX12 yX12_lengthOf yX12_lengthOf, Cond.code yX12_lengthOf cX12_lengthOf 2 (some .int), Cond.methodLink RX12 85 yX12_in, Cond.static yX12_in, Cond.code yX12_in cX12_in 6 (some .boolean), Cond.methodLink RX12 270 yX12_isBeat, Cond.static yX12_isBeat, Cond.code yX12_isBeat cX12_isBeat 2 (some .boolean), Cond.constantLong RX12 257 (199), Cond.methodLink RX12 325 yX12_periodOf, Cond.instanceMethod yX12_periodOf, Cond.selects RX12 yX12_periodOf yX12_periodOf, Cond.code yX12_periodOf cX12_periodOf 1 (some .int), Cond.methodLink RX12 315 yX12_common]
def wsX12_meets_r2 : List Cond := [Cond.static yX12_common, Cond.code yX12_common cX12_common 2 (some .int)]
def wsX12_meets : List Cond := .code yX12_meets cX12_meets 5 (some .int) :: ((wsX12_meets_r1 ++ wsX12_meets_r2) ++ wsX120)
def wsX12_shifted_r1 : List Cond := [Cond.fieldLink RX12 80 "OverHillModel" "thrown" "I", Cond.methodLink RX12 254 yX12_isDance, Cond.instanceMethod yX12_isDance, Cond.selects RX12 yX12_isDance yX12_isDance, Cond.initialized RX12, Cond.code yX12_isDance cX12_isDance 1 (some .boolean), Cond.fieldLink RX12 31 "OverHillModel" "lines" "[I", Cond.methodLink RX12 322 yX12_areRounds, Cond.instanceMethod yX12_areRounds, Cond.selects RX12 yX12_areRounds yX12_areRounds, Cond.code yX12_areRounds cX12_areRounds 1 (some .boolean), Cond.fieldLink RX12 34 "OverHillModel" "has" "[I", Cond.methodLink RX12 264 yX12_lengthOf, Cond.instanceMethod yX12_lengthOf, Cond.selects RX12 yX12_lengthOf yX12_lengthOf, Cond.code yX12_lengthOf cX12_lengthOf 2 (some .int), Cond.methodLink RX12 85 yX12_in, Cond.static yX12_in, Cond.code yX12_in cX12_in 6 (some .boolean), Cond.methodLink RX12 331 yX12_shiftedOf, Cond.instanceMethod yX12_shiftedOf, Cond.selects RX12 yX12_shiftedOf yX12_shiftedOf, Cond.code yX12_shiftedOf cX12_shiftedOf 5 (some .int), Cond.methodLink RX12 325 yX12_periodOf]
def wsX12_shifted_r2 : List Cond := [Cond.instanceMethod yX12_periodOf, Cond.selects RX12 yX12_periodOf yX12_periodOf, Cond.code yX12_periodOf cX12_periodOf 1 (some .int), Cond.methodLink RX12 315 yX12_common, Cond.static yX12_common, Cond.code yX12_common cX12_common 2 (some .int), Cond.methodLink RX12 328 yX12_plain, Cond.instanceMethod yX12_plain, Cond.selects RX12 yX12_plain yX12_plain, Cond.code yX12_plain cX12_plain 4 (some .int), Cond.fieldLink RX12 37 "OverHillModel" "round" "[I", Cond.methodLink RX12 287 yX12_clashes, Cond.instanceMethod yX12_clashes, Cond.selects RX12 yX12_clashes yX12_clashes, Cond.code yX12_clashes cX12_clashes 3 (some .boolean), Cond.fieldLink RX12 40 "OverHillModel" "meets" "[I", Cond.methodLink RX12 280 yX12_isBit, Cond.static yX12_isBit, Cond.code yX12_isBit cX12_isBit 2 (some .boolean)]
def wsX12_shifted : List Cond := .code yX12_shifted cX12_shifted 2 (some .int) :: ((wsX12_shifted_r1 ++ wsX12_shifted_r2) ++ wsX120)
def wsX12_shift_r1 : List Cond := [Cond.fieldLink RX12 80 "OverHillModel" "thrown" "I", Cond.methodLink RX12 254 yX12_isDance, Cond.instanceMethod yX12_isDance, Cond.selects RX12 yX12_isDance yX12_isDance, Cond.initialized RX12, Cond.code yX12_isDance cX12_isDance 1 (some .boolean), Cond.fieldLink RX12 31 "OverHillModel" "lines" "[I", Cond.methodLink RX12 322 yX12_areRounds, Cond.instanceMethod yX12_areRounds, Cond.selects RX12 yX12_areRounds yX12_areRounds, Cond.code yX12_areRounds cX12_areRounds 1 (some .boolean), Cond.fieldLink RX12 34 "OverHillModel" "has" "[I", Cond.methodLink RX12 264 yX12_lengthOf, Cond.instanceMethod yX12_lengthOf, Cond.selects RX12 yX12_lengthOf yX12_lengthOf, Cond.code yX12_lengthOf cX12_lengthOf 2 (some .int), Cond.methodLink RX12 331 yX12_shiftedOf, Cond.instanceMethod yX12_shiftedOf, Cond.selects RX12 yX12_shiftedOf yX12_shiftedOf, Cond.code yX12_shiftedOf cX12_shiftedOf 5 (some .int), Cond.methodLink RX12 325 yX12_periodOf, Cond.instanceMethod yX12_periodOf, Cond.selects RX12 yX12_periodOf yX12_periodOf, Cond.code yX12_periodOf cX12_periodOf 1 (some .int)]
def wsX12_shift_r2 : List Cond := [Cond.methodLink RX12 315 yX12_common, Cond.static yX12_common, Cond.code yX12_common cX12_common 2 (some .int), Cond.methodLink RX12 328 yX12_plain, Cond.instanceMethod yX12_plain, Cond.selects RX12 yX12_plain yX12_plain, Cond.code yX12_plain cX12_plain 4 (some .int), Cond.fieldLink RX12 37 "OverHillModel" "round" "[I", Cond.methodLink RX12 287 yX12_clashes, Cond.instanceMethod yX12_clashes, Cond.selects RX12 yX12_clashes yX12_clashes, Cond.code yX12_clashes cX12_clashes 3 (some .boolean), Cond.fieldLink RX12 40 "OverHillModel" "meets" "[I", Cond.methodLink RX12 280 yX12_isBit, Cond.static yX12_isBit, Cond.code yX12_isBit cX12_isBit 2 (some .boolean)]
def wsX12_shift : List Cond := .code yX12_shift cX12_shift 2 (some .int) :: ((wsX12_shift_r1 ++ wsX12_shift_r2) ++ wsX120)
def wsX12_least_r1 : List Cond := [Cond.fieldLink RX12 80 "OverHillModel" "thrown" "I", Cond.methodLink RX12 254 yX12_isDance, Cond.instanceMethod yX12_isDance, Cond.selects RX12 yX12_isDance yX12_isDance, Cond.initialized RX12, Cond.code yX12_isDance cX12_isDance 1 (some .boolean), Cond.fieldLink RX12 31 "OverHillModel" "lines" "[I", Cond.methodLink RX12 322 yX12_areRounds, Cond.instanceMethod yX12_areRounds, Cond.selects RX12 yX12_areRounds yX12_areRounds, Cond.code yX12_areRounds cX12_areRounds 1 (some .boolean), Cond.fieldLink RX12 34 "OverHillModel" "has" "[I", Cond.methodLink RX12 264 yX12_lengthOf, Cond.instanceMethod yX12_lengthOf, Cond.selects RX12 yX12_lengthOf yX12_lengthOf, Cond.code yX12_lengthOf cX12_lengthOf 2 (some .int), Cond.methodLink RX12 331 yX12_shiftedOf, Cond.instanceMethod yX12_shiftedOf, Cond.selects RX12 yX12_shiftedOf yX12_shiftedOf, Cond.code yX12_shiftedOf cX12_shiftedOf 5 (some .int), Cond.methodLink RX12 325 yX12_periodOf, Cond.instanceMethod yX12_periodOf, Cond.selects RX12 yX12_periodOf yX12_periodOf, Cond.code yX12_periodOf cX12_periodOf 1 (some .int)]
def wsX12_least_r2 : List Cond := [Cond.methodLink RX12 315 yX12_common, Cond.static yX12_common, Cond.code yX12_common cX12_common 2 (some .int), Cond.methodLink RX12 328 yX12_plain, Cond.instanceMethod yX12_plain, Cond.selects RX12 yX12_plain yX12_plain, Cond.code yX12_plain cX12_plain 4 (some .int), Cond.fieldLink RX12 37 "OverHillModel" "round" "[I", Cond.methodLink RX12 287 yX12_clashes, Cond.instanceMethod yX12_clashes, Cond.selects RX12 yX12_clashes yX12_clashes, Cond.code yX12_clashes cX12_clashes 3 (some .boolean), Cond.fieldLink RX12 40 "OverHillModel" "meets" "[I", Cond.methodLink RX12 280 yX12_isBit, Cond.static yX12_isBit, Cond.code yX12_isBit cX12_isBit 2 (some .boolean)]
def wsX12_least : List Cond := .code yX12_least cX12_least 3 (some .int) :: ((wsX12_least_r1 ++ wsX12_least_r2) ++ wsX120)
def wsX12_mend_r1 : List Cond := [Cond.fieldLink RX12 80 "OverHillModel" "thrown" "I", Cond.fieldLink RX12 37 "OverHillModel" "round" "[I", Cond.methodLink RX12 261 yX12_isSide, Cond.instanceMethod yX12_isSide, Cond.selects RX12 yX12_isSide yX12_isSide, Cond.initialized RX12, Cond.code yX12_isSide cX12_isSide 2 (some .boolean), Cond.methodLink RX12 254 yX12_isDance, Cond.instanceMethod yX12_isDance, Cond.selects RX12 yX12_isDance yX12_isDance, Cond.code yX12_isDance cX12_isDance 1 (some .boolean), Cond.fieldLink RX12 31 "OverHillModel" "lines" "[I", Cond.methodLink RX12 85 yX12_in, Cond.static yX12_in, Cond.code yX12_in cX12_in 6 (some .boolean), Cond.methodLink RX12 322 yX12_areRounds, Cond.instanceMethod yX12_areRounds, Cond.selects RX12 yX12_areRounds yX12_areRounds, Cond.code yX12_areRounds cX12_areRounds 1 (some .boolean), Cond.fieldLink RX12 34 "OverHillModel" "has" "[I", Cond.methodLink RX12 340 yX12_stuckOf, Cond.instanceMethod yX12_stuckOf, Cond.selects RX12 yX12_stuckOf yX12_stuckOf, Cond.code yX12_stuckOf cX12_stuckOf 3 (some .int)]
def wsX12_mend_r2 : List Cond := [Cond.methodLink RX12 264 yX12_lengthOf, Cond.instanceMethod yX12_lengthOf, Cond.selects RX12 yX12_lengthOf yX12_lengthOf, Cond.code yX12_lengthOf cX12_lengthOf 2 (some .int), Cond.methodLink RX12 337 yX12_mendedOf, Cond.instanceMethod yX12_mendedOf, Cond.selects RX12 yX12_mendedOf yX12_mendedOf, Cond.code yX12_mendedOf cX12_mendedOf 6 (some .int), Cond.methodLink RX12 334 yX12_mayBe, Cond.instanceMethod yX12_mayBe, Cond.selects RX12 yX12_mayBe yX12_mayBe, Cond.code yX12_mayBe cX12_mayBe 9 (some .int), Cond.fieldLink RX12 40 "OverHillModel" "meets" "[I", Cond.methodLink RX12 325 yX12_periodOf, Cond.instanceMethod yX12_periodOf, Cond.selects RX12 yX12_periodOf yX12_periodOf, Cond.code yX12_periodOf cX12_periodOf 1 (some .int), Cond.methodLink RX12 315 yX12_common, Cond.static yX12_common, Cond.code yX12_common cX12_common 2 (some .int), Cond.methodLink RX12 328 yX12_plain, Cond.instanceMethod yX12_plain, Cond.selects RX12 yX12_plain yX12_plain, Cond.code yX12_plain cX12_plain 4 (some .int)]
def wsX12_mend_r3 : List Cond := [Cond.methodLink RX12 280 yX12_isBit, Cond.static yX12_isBit, Cond.code yX12_isBit cX12_isBit 2 (some .boolean)]
def wsX12_mend : List Cond := .code yX12_mend cX12_mend 4 (some .int) :: ((wsX12_mend_r1 ++ (wsX12_mend_r2 ++ wsX12_mend_r3)) ++ wsX120)
def wsX12_mended_r1 : List Cond := [Cond.fieldLink RX12 80 "OverHillModel" "thrown" "I", Cond.methodLink RX12 261 yX12_isSide, Cond.instanceMethod yX12_isSide, Cond.selects RX12 yX12_isSide yX12_isSide, Cond.initialized RX12, Cond.code yX12_isSide cX12_isSide 2 (some .boolean), Cond.methodLink RX12 254 yX12_isDance, Cond.instanceMethod yX12_isDance, Cond.selects RX12 yX12_isDance yX12_isDance, Cond.code yX12_isDance cX12_isDance 1 (some .boolean), Cond.fieldLink RX12 31 "OverHillModel" "lines" "[I", Cond.methodLink RX12 85 yX12_in, Cond.static yX12_in, Cond.code yX12_in cX12_in 6 (some .boolean), Cond.methodLink RX12 322 yX12_areRounds, Cond.instanceMethod yX12_areRounds, Cond.selects RX12 yX12_areRounds yX12_areRounds, Cond.code yX12_areRounds cX12_areRounds 1 (some .boolean), Cond.fieldLink RX12 34 "OverHillModel" "has" "[I", Cond.methodLink RX12 264 yX12_lengthOf, Cond.instanceMethod yX12_lengthOf, Cond.selects RX12 yX12_lengthOf yX12_lengthOf, Cond.code yX12_lengthOf cX12_lengthOf 2 (some .int), Cond.methodLink RX12 340 yX12_stuckOf]
def wsX12_mended_r2 : List Cond := [Cond.instanceMethod yX12_stuckOf, Cond.selects RX12 yX12_stuckOf yX12_stuckOf, Cond.code yX12_stuckOf cX12_stuckOf 3 (some .int), Cond.methodLink RX12 337 yX12_mendedOf, Cond.instanceMethod yX12_mendedOf, Cond.selects RX12 yX12_mendedOf yX12_mendedOf, Cond.code yX12_mendedOf cX12_mendedOf 6 (some .int), Cond.fieldLink RX12 37 "OverHillModel" "round" "[I", Cond.methodLink RX12 334 yX12_mayBe, Cond.instanceMethod yX12_mayBe, Cond.selects RX12 yX12_mayBe yX12_mayBe, Cond.code yX12_mayBe cX12_mayBe 9 (some .int), Cond.fieldLink RX12 40 "OverHillModel" "meets" "[I", Cond.methodLink RX12 325 yX12_periodOf, Cond.instanceMethod yX12_periodOf, Cond.selects RX12 yX12_periodOf yX12_periodOf, Cond.code yX12_periodOf cX12_periodOf 1 (some .int), Cond.methodLink RX12 315 yX12_common, Cond.static yX12_common, Cond.code yX12_common cX12_common 2 (some .int), Cond.methodLink RX12 328 yX12_plain, Cond.instanceMethod yX12_plain, Cond.selects RX12 yX12_plain yX12_plain, Cond.code yX12_plain cX12_plain 4 (some .int)]
def wsX12_mended_r3 : List Cond := [Cond.methodLink RX12 280 yX12_isBit, Cond.static yX12_isBit, Cond.code yX12_isBit cX12_isBit 2 (some .boolean)]
def wsX12_mended : List Cond := .code yX12_mended cX12_mended 3 (some .int) :: ((wsX12_mended_r1 ++ (wsX12_mended_r2 ++ wsX12_mended_r3)) ++ wsX120)
def wsX12_stuck_r1 : List Cond := [Cond.fieldLink RX12 80 "OverHillModel" "thrown" "I", Cond.methodLink RX12 261 yX12_isSide, Cond.instanceMethod yX12_isSide, Cond.selects RX12 yX12_isSide yX12_isSide, Cond.initialized RX12, Cond.code yX12_isSide cX12_isSide 2 (some .boolean), Cond.methodLink RX12 254 yX12_isDance, Cond.instanceMethod yX12_isDance, Cond.selects RX12 yX12_isDance yX12_isDance, Cond.code yX12_isDance cX12_isDance 1 (some .boolean), Cond.fieldLink RX12 31 "OverHillModel" "lines" "[I", Cond.methodLink RX12 85 yX12_in, Cond.static yX12_in, Cond.code yX12_in cX12_in 6 (some .boolean), Cond.methodLink RX12 322 yX12_areRounds, Cond.instanceMethod yX12_areRounds, Cond.selects RX12 yX12_areRounds yX12_areRounds, Cond.code yX12_areRounds cX12_areRounds 1 (some .boolean), Cond.fieldLink RX12 34 "OverHillModel" "has" "[I", Cond.methodLink RX12 340 yX12_stuckOf, Cond.instanceMethod yX12_stuckOf, Cond.selects RX12 yX12_stuckOf yX12_stuckOf, Cond.code yX12_stuckOf cX12_stuckOf 3 (some .int), Cond.methodLink RX12 264 yX12_lengthOf]
def wsX12_stuck_r2 : List Cond := [Cond.instanceMethod yX12_lengthOf, Cond.selects RX12 yX12_lengthOf yX12_lengthOf, Cond.code yX12_lengthOf cX12_lengthOf 2 (some .int), Cond.methodLink RX12 337 yX12_mendedOf, Cond.instanceMethod yX12_mendedOf, Cond.selects RX12 yX12_mendedOf yX12_mendedOf, Cond.code yX12_mendedOf cX12_mendedOf 6 (some .int), Cond.fieldLink RX12 37 "OverHillModel" "round" "[I", Cond.methodLink RX12 334 yX12_mayBe, Cond.instanceMethod yX12_mayBe, Cond.selects RX12 yX12_mayBe yX12_mayBe, Cond.code yX12_mayBe cX12_mayBe 9 (some .int), Cond.fieldLink RX12 40 "OverHillModel" "meets" "[I", Cond.methodLink RX12 325 yX12_periodOf, Cond.instanceMethod yX12_periodOf, Cond.selects RX12 yX12_periodOf yX12_periodOf, Cond.code yX12_periodOf cX12_periodOf 1 (some .int), Cond.methodLink RX12 315 yX12_common, Cond.static yX12_common, Cond.code yX12_common cX12_common 2 (some .int), Cond.methodLink RX12 328 yX12_plain, Cond.instanceMethod yX12_plain, Cond.selects RX12 yX12_plain yX12_plain, Cond.code yX12_plain cX12_plain 4 (some .int)]
def wsX12_stuck_r3 : List Cond := [Cond.methodLink RX12 280 yX12_isBit, Cond.static yX12_isBit, Cond.code yX12_isBit cX12_isBit 2 (some .boolean)]
def wsX12_stuck : List Cond := .code yX12_stuck cX12_stuck 2 (some .int) :: ((wsX12_stuck_r1 ++ (wsX12_stuck_r2 ++ wsX12_stuck_r3)) ++ wsX120)
def wsX12_whyNot_r1 : List Cond := [Cond.fieldLink RX12 7 "OverHillModel" "width" "[I", Cond.fieldLink RX12 13 "OverHillModel" "many" "[I", Cond.fieldLink RX12 16 "OverHillModel" "cells" "[J", Cond.constantLong RX12 124 (-1), Cond.constantLong RX12 259 (5), Cond.methodLink RX12 89 yX12_isSlot, Cond.static yX12_isSlot, Cond.initialized RX12, Cond.code yX12_isSlot cX12_isSlot 1 (some .boolean), Cond.constantLong RX12 83 (3), Cond.methodLink RX12 85 yX12_in, Cond.static yX12_in, Cond.code yX12_in cX12_in 6 (some .boolean), Cond.methodLink RX12 261 yX12_isSide, Cond.instanceMethod yX12_isSide, Cond.selects RX12 yX12_isSide yX12_isSide, Cond.code yX12_isSide cX12_isSide 2 (some .boolean), Cond.methodLink RX12 254 yX12_isDance, Cond.instanceMethod yX12_isDance, Cond.selects RX12 yX12_isDance yX12_isDance, Cond.code yX12_isDance cX12_isDance 1 (some .boolean), Cond.fieldLink RX12 31 "OverHillModel" "lines" "[I", Cond.methodLink RX12 270 yX12_isBeat, Cond.static yX12_isBeat]
def wsX12_whyNot_r2 : List Cond := [Cond.code yX12_isBeat cX12_isBeat 2 (some .boolean), Cond.constantLong RX12 257 (199)]
def wsX12_whyNot : List Cond := .code yX12_whyNot cX12_whyNot 4 (some .int) :: ((wsX12_whyNot_r1 ++ wsX12_whyNot_r2) ++ wsX120)
def wsX12_heard_r1 : List Cond := [Cond.fieldLink RX12 80 "OverHillModel" "thrown" "I", Cond.fieldLink RX12 343 "OverHillModel" "fitMany" "I", Cond.methodLink RX12 355 yX12_whyNot, Cond.instanceMethod yX12_whyNot, Cond.selects RX12 yX12_whyNot yX12_whyNot, Cond.initialized RX12, Cond.code yX12_whyNot cX12_whyNot 4 (some .int), Cond.fieldLink RX12 7 "OverHillModel" "width" "[I", Cond.fieldLink RX12 13 "OverHillModel" "many" "[I", Cond.fieldLink RX12 16 "OverHillModel" "cells" "[J", Cond.constantLong RX12 124 (-1), Cond.constantLong RX12 259 (5), Cond.methodLink RX12 89 yX12_isSlot, Cond.static yX12_isSlot, Cond.code yX12_isSlot cX12_isSlot 1 (some .boolean), Cond.constantLong RX12 83 (3), Cond.methodLink RX12 85 yX12_in, Cond.static yX12_in, Cond.code yX12_in cX12_in 6 (some .boolean), Cond.methodLink RX12 261 yX12_isSide, Cond.instanceMethod yX12_isSide, Cond.selects RX12 yX12_isSide yX12_isSide, Cond.code yX12_isSide cX12_isSide 2 (some .boolean), Cond.methodLink RX12 254 yX12_isDance]
def wsX12_heard_r2 : List Cond := [Cond.instanceMethod yX12_isDance, Cond.selects RX12 yX12_isDance yX12_isDance, Cond.code yX12_isDance cX12_isDance 1 (some .boolean), Cond.fieldLink RX12 31 "OverHillModel" "lines" "[I", Cond.methodLink RX12 270 yX12_isBeat, Cond.static yX12_isBeat, Cond.code yX12_isBeat cX12_isBeat 2 (some .boolean), Cond.constantLong RX12 257 (199), Cond.methodLink RX12 358 yX12_laysFits, Cond.instanceMethod yX12_laysFits, Cond.selects RX12 yX12_laysFits yX12_laysFits, Cond.code yX12_laysFits cX12_laysFits 6 none, Cond.fieldLink RX12 346 "OverHillModel" "fitFirst" "I", Cond.fieldLink RX12 349 "OverHillModel" "fitBeats" "J", Cond.fieldLink RX12 71 "OverHillModel" "heardBy" "[I", Cond.methodLink RX12 273 yX12_dances, Cond.instanceMethod yX12_dances, Cond.selects RX12 yX12_dances yX12_dances, Cond.code yX12_dances cX12_dances 13 none, Cond.fieldLink RX12 34 "OverHillModel" "has" "[I", Cond.fieldLink RX12 65 "OverHillModel" "places" "[I", Cond.fieldLink RX12 68 "OverHillModel" "danced" "[I", Cond.fieldLink RX12 46 "OverHillModel" "isMud" "[Z", Cond.fieldLink RX12 37 "OverHillModel" "round" "[I"]
def wsX12_heard_r3 : List Cond := [Cond.fieldLink RX12 43 "OverHillModel" "stumble" "[I", Cond.methodLink RX12 264 yX12_lengthOf, Cond.instanceMethod yX12_lengthOf, Cond.selects RX12 yX12_lengthOf yX12_lengthOf, Cond.code yX12_lengthOf cX12_lengthOf 2 (some .int), Cond.methodLink RX12 352 yX12_isHeard, Cond.instanceMethod yX12_isHeard, Cond.selects RX12 yX12_isHeard yX12_isHeard, Cond.code yX12_isHeard cX12_isHeard 4 (some .boolean), Cond.methodLink RX12 284 yX12_hearsAt, Cond.instanceMethod yX12_hearsAt, Cond.selects RX12 yX12_hearsAt yX12_hearsAt, Cond.code yX12_hearsAt cX12_hearsAt 3 (some .int)]
def wsX12_heard : List Cond := .code yX12_heard cX12_heard 4 (some .int) :: ((wsX12_heard_r1 ++ (wsX12_heard_r2 ++ wsX12_heard_r3)) ++ wsX120)
def wsX12_first_r1 : List Cond := [Cond.fieldLink RX12 80 "OverHillModel" "thrown" "I", Cond.fieldLink RX12 346 "OverHillModel" "fitFirst" "I", Cond.methodLink RX12 355 yX12_whyNot, Cond.instanceMethod yX12_whyNot, Cond.selects RX12 yX12_whyNot yX12_whyNot, Cond.initialized RX12, Cond.code yX12_whyNot cX12_whyNot 4 (some .int), Cond.fieldLink RX12 7 "OverHillModel" "width" "[I", Cond.fieldLink RX12 13 "OverHillModel" "many" "[I", Cond.fieldLink RX12 16 "OverHillModel" "cells" "[J", Cond.constantLong RX12 124 (-1), Cond.constantLong RX12 259 (5), Cond.methodLink RX12 89 yX12_isSlot, Cond.static yX12_isSlot, Cond.code yX12_isSlot cX12_isSlot 1 (some .boolean), Cond.constantLong RX12 83 (3), Cond.methodLink RX12 85 yX12_in, Cond.static yX12_in, Cond.code yX12_in cX12_in 6 (some .boolean), Cond.methodLink RX12 261 yX12_isSide, Cond.instanceMethod yX12_isSide, Cond.selects RX12 yX12_isSide yX12_isSide, Cond.code yX12_isSide cX12_isSide 2 (some .boolean), Cond.methodLink RX12 254 yX12_isDance]
def wsX12_first_r2 : List Cond := [Cond.instanceMethod yX12_isDance, Cond.selects RX12 yX12_isDance yX12_isDance, Cond.code yX12_isDance cX12_isDance 1 (some .boolean), Cond.fieldLink RX12 31 "OverHillModel" "lines" "[I", Cond.methodLink RX12 270 yX12_isBeat, Cond.static yX12_isBeat, Cond.code yX12_isBeat cX12_isBeat 2 (some .boolean), Cond.constantLong RX12 257 (199), Cond.methodLink RX12 358 yX12_laysFits, Cond.instanceMethod yX12_laysFits, Cond.selects RX12 yX12_laysFits yX12_laysFits, Cond.code yX12_laysFits cX12_laysFits 6 none, Cond.fieldLink RX12 343 "OverHillModel" "fitMany" "I", Cond.fieldLink RX12 349 "OverHillModel" "fitBeats" "J", Cond.fieldLink RX12 71 "OverHillModel" "heardBy" "[I", Cond.methodLink RX12 273 yX12_dances, Cond.instanceMethod yX12_dances, Cond.selects RX12 yX12_dances yX12_dances, Cond.code yX12_dances cX12_dances 13 none, Cond.fieldLink RX12 34 "OverHillModel" "has" "[I", Cond.fieldLink RX12 65 "OverHillModel" "places" "[I", Cond.fieldLink RX12 68 "OverHillModel" "danced" "[I", Cond.fieldLink RX12 46 "OverHillModel" "isMud" "[Z", Cond.fieldLink RX12 37 "OverHillModel" "round" "[I"]
def wsX12_first_r3 : List Cond := [Cond.fieldLink RX12 43 "OverHillModel" "stumble" "[I", Cond.methodLink RX12 264 yX12_lengthOf, Cond.instanceMethod yX12_lengthOf, Cond.selects RX12 yX12_lengthOf yX12_lengthOf, Cond.code yX12_lengthOf cX12_lengthOf 2 (some .int), Cond.methodLink RX12 352 yX12_isHeard, Cond.instanceMethod yX12_isHeard, Cond.selects RX12 yX12_isHeard yX12_isHeard, Cond.code yX12_isHeard cX12_isHeard 4 (some .boolean), Cond.methodLink RX12 284 yX12_hearsAt, Cond.instanceMethod yX12_hearsAt, Cond.selects RX12 yX12_hearsAt yX12_hearsAt, Cond.code yX12_hearsAt cX12_hearsAt 3 (some .int)]
def wsX12_first : List Cond := .code yX12_first cX12_first 4 (some .int) :: ((wsX12_first_r1 ++ (wsX12_first_r2 ++ wsX12_first_r3)) ++ wsX120)
def wsX12_when_r1 : List Cond := [Cond.fieldLink RX12 80 "OverHillModel" "thrown" "I", Cond.fieldLink RX12 349 "OverHillModel" "fitBeats" "J", Cond.methodLink RX12 355 yX12_whyNot, Cond.instanceMethod yX12_whyNot, Cond.selects RX12 yX12_whyNot yX12_whyNot, Cond.initialized RX12, Cond.code yX12_whyNot cX12_whyNot 4 (some .int), Cond.fieldLink RX12 7 "OverHillModel" "width" "[I", Cond.fieldLink RX12 13 "OverHillModel" "many" "[I", Cond.fieldLink RX12 16 "OverHillModel" "cells" "[J", Cond.constantLong RX12 124 (-1), Cond.constantLong RX12 259 (5), Cond.methodLink RX12 89 yX12_isSlot, Cond.static yX12_isSlot, Cond.code yX12_isSlot cX12_isSlot 1 (some .boolean), Cond.constantLong RX12 83 (3), Cond.methodLink RX12 85 yX12_in, Cond.static yX12_in, Cond.code yX12_in cX12_in 6 (some .boolean), Cond.methodLink RX12 261 yX12_isSide, Cond.instanceMethod yX12_isSide, Cond.selects RX12 yX12_isSide yX12_isSide, Cond.code yX12_isSide cX12_isSide 2 (some .boolean), Cond.methodLink RX12 254 yX12_isDance]
def wsX12_when_r2 : List Cond := [Cond.instanceMethod yX12_isDance, Cond.selects RX12 yX12_isDance yX12_isDance, Cond.code yX12_isDance cX12_isDance 1 (some .boolean), Cond.fieldLink RX12 31 "OverHillModel" "lines" "[I", Cond.methodLink RX12 270 yX12_isBeat, Cond.static yX12_isBeat, Cond.code yX12_isBeat cX12_isBeat 2 (some .boolean), Cond.constantLong RX12 257 (199), Cond.methodLink RX12 358 yX12_laysFits, Cond.instanceMethod yX12_laysFits, Cond.selects RX12 yX12_laysFits yX12_laysFits, Cond.code yX12_laysFits cX12_laysFits 6 none, Cond.fieldLink RX12 343 "OverHillModel" "fitMany" "I", Cond.fieldLink RX12 346 "OverHillModel" "fitFirst" "I", Cond.fieldLink RX12 71 "OverHillModel" "heardBy" "[I", Cond.methodLink RX12 273 yX12_dances, Cond.instanceMethod yX12_dances, Cond.selects RX12 yX12_dances yX12_dances, Cond.code yX12_dances cX12_dances 13 none, Cond.fieldLink RX12 34 "OverHillModel" "has" "[I", Cond.fieldLink RX12 65 "OverHillModel" "places" "[I", Cond.fieldLink RX12 68 "OverHillModel" "danced" "[I", Cond.fieldLink RX12 46 "OverHillModel" "isMud" "[Z", Cond.fieldLink RX12 37 "OverHillModel" "round" "[I"]
def wsX12_when_r3 : List Cond := [Cond.fieldLink RX12 43 "OverHillModel" "stumble" "[I", Cond.methodLink RX12 264 yX12_lengthOf, Cond.instanceMethod yX12_lengthOf, Cond.selects RX12 yX12_lengthOf yX12_lengthOf, Cond.code yX12_lengthOf cX12_lengthOf 2 (some .int), Cond.methodLink RX12 352 yX12_isHeard, Cond.instanceMethod yX12_isHeard, Cond.selects RX12 yX12_isHeard yX12_isHeard, Cond.code yX12_isHeard cX12_isHeard 4 (some .boolean), Cond.methodLink RX12 284 yX12_hearsAt, Cond.instanceMethod yX12_hearsAt, Cond.selects RX12 yX12_hearsAt yX12_hearsAt, Cond.code yX12_hearsAt cX12_hearsAt 3 (some .int)]
def wsX12_when : List Cond := .code yX12_when cX12_when 4 (some .long) :: ((wsX12_when_r1 ++ (wsX12_when_r2 ++ wsX12_when_r3)) ++ wsX120)
def wsX12_listen_r1 : List Cond := [Cond.fieldLink RX12 80 "OverHillModel" "thrown" "I", Cond.methodLink RX12 355 yX12_whyNot, Cond.instanceMethod yX12_whyNot, Cond.selects RX12 yX12_whyNot yX12_whyNot, Cond.initialized RX12, Cond.code yX12_whyNot cX12_whyNot 4 (some .int), Cond.fieldLink RX12 7 "OverHillModel" "width" "[I", Cond.fieldLink RX12 13 "OverHillModel" "many" "[I", Cond.fieldLink RX12 16 "OverHillModel" "cells" "[J", Cond.constantLong RX12 124 (-1), Cond.constantLong RX12 259 (5), Cond.methodLink RX12 89 yX12_isSlot, Cond.static yX12_isSlot, Cond.code yX12_isSlot cX12_isSlot 1 (some .boolean), Cond.constantLong RX12 83 (3), Cond.methodLink RX12 85 yX12_in, Cond.static yX12_in, Cond.code yX12_in cX12_in 6 (some .boolean), Cond.methodLink RX12 261 yX12_isSide, Cond.instanceMethod yX12_isSide, Cond.selects RX12 yX12_isSide yX12_isSide, Cond.code yX12_isSide cX12_isSide 2 (some .boolean), Cond.methodLink RX12 254 yX12_isDance, Cond.instanceMethod yX12_isDance]
def wsX12_listen_r2 : List Cond := [Cond.selects RX12 yX12_isDance yX12_isDance, Cond.code yX12_isDance cX12_isDance 1 (some .boolean), Cond.fieldLink RX12 31 "OverHillModel" "lines" "[I", Cond.methodLink RX12 270 yX12_isBeat, Cond.static yX12_isBeat, Cond.code yX12_isBeat cX12_isBeat 2 (some .boolean), Cond.constantLong RX12 257 (199), Cond.methodLink RX12 364 yX12_listens, Cond.instanceMethod yX12_listens, Cond.selects RX12 yX12_listens yX12_listens, Cond.code yX12_listens cX12_listens 7 (some .int), Cond.fieldLink RX12 343 "OverHillModel" "fitMany" "I", Cond.fieldLink RX12 361 "OverHillModel" "listenLeaves" "I", Cond.fieldLink RX12 71 "OverHillModel" "heardBy" "[I", Cond.methodLink RX12 358 yX12_laysFits, Cond.instanceMethod yX12_laysFits, Cond.selects RX12 yX12_laysFits yX12_laysFits, Cond.code yX12_laysFits cX12_laysFits 6 none, Cond.fieldLink RX12 346 "OverHillModel" "fitFirst" "I", Cond.fieldLink RX12 349 "OverHillModel" "fitBeats" "J", Cond.methodLink RX12 273 yX12_dances, Cond.instanceMethod yX12_dances, Cond.selects RX12 yX12_dances yX12_dances, Cond.code yX12_dances cX12_dances 13 none]
def wsX12_listen_r3 : List Cond := [Cond.fieldLink RX12 34 "OverHillModel" "has" "[I", Cond.fieldLink RX12 65 "OverHillModel" "places" "[I", Cond.fieldLink RX12 68 "OverHillModel" "danced" "[I", Cond.fieldLink RX12 46 "OverHillModel" "isMud" "[Z", Cond.fieldLink RX12 37 "OverHillModel" "round" "[I", Cond.fieldLink RX12 43 "OverHillModel" "stumble" "[I", Cond.methodLink RX12 264 yX12_lengthOf, Cond.instanceMethod yX12_lengthOf, Cond.selects RX12 yX12_lengthOf yX12_lengthOf, Cond.code yX12_lengthOf cX12_lengthOf 2 (some .int), Cond.methodLink RX12 352 yX12_isHeard, Cond.instanceMethod yX12_isHeard, Cond.selects RX12 yX12_isHeard yX12_isHeard, Cond.code yX12_isHeard cX12_isHeard 4 (some .boolean), Cond.methodLink RX12 284 yX12_hearsAt, Cond.instanceMethod yX12_hearsAt, Cond.selects RX12 yX12_hearsAt yX12_hearsAt, Cond.code yX12_hearsAt cX12_hearsAt 3 (some .int)]
def wsX12_listen : List Cond := .code yX12_listen cX12_listen 4 (some .int) :: ((wsX12_listen_r1 ++ (wsX12_listen_r2 ++ wsX12_listen_r3)) ++ wsX120)
def wsX12_leaves_r1 : List Cond := [Cond.fieldLink RX12 80 "OverHillModel" "thrown" "I", Cond.fieldLink RX12 361 "OverHillModel" "listenLeaves" "I", Cond.methodLink RX12 355 yX12_whyNot, Cond.instanceMethod yX12_whyNot, Cond.selects RX12 yX12_whyNot yX12_whyNot, Cond.initialized RX12, Cond.code yX12_whyNot cX12_whyNot 4 (some .int), Cond.fieldLink RX12 7 "OverHillModel" "width" "[I", Cond.fieldLink RX12 13 "OverHillModel" "many" "[I", Cond.fieldLink RX12 16 "OverHillModel" "cells" "[J", Cond.constantLong RX12 124 (-1), Cond.constantLong RX12 259 (5), Cond.methodLink RX12 89 yX12_isSlot, Cond.static yX12_isSlot, Cond.code yX12_isSlot cX12_isSlot 1 (some .boolean), Cond.constantLong RX12 83 (3), Cond.methodLink RX12 85 yX12_in, Cond.static yX12_in, Cond.code yX12_in cX12_in 6 (some .boolean), Cond.methodLink RX12 261 yX12_isSide, Cond.instanceMethod yX12_isSide, Cond.selects RX12 yX12_isSide yX12_isSide, Cond.code yX12_isSide cX12_isSide 2 (some .boolean), Cond.methodLink RX12 254 yX12_isDance]
def wsX12_leaves_r2 : List Cond := [Cond.instanceMethod yX12_isDance, Cond.selects RX12 yX12_isDance yX12_isDance, Cond.code yX12_isDance cX12_isDance 1 (some .boolean), Cond.fieldLink RX12 31 "OverHillModel" "lines" "[I", Cond.methodLink RX12 270 yX12_isBeat, Cond.static yX12_isBeat, Cond.code yX12_isBeat cX12_isBeat 2 (some .boolean), Cond.constantLong RX12 257 (199), Cond.methodLink RX12 364 yX12_listens, Cond.instanceMethod yX12_listens, Cond.selects RX12 yX12_listens yX12_listens, Cond.code yX12_listens cX12_listens 7 (some .int), Cond.fieldLink RX12 343 "OverHillModel" "fitMany" "I", Cond.fieldLink RX12 71 "OverHillModel" "heardBy" "[I", Cond.methodLink RX12 358 yX12_laysFits, Cond.instanceMethod yX12_laysFits, Cond.selects RX12 yX12_laysFits yX12_laysFits, Cond.code yX12_laysFits cX12_laysFits 6 none, Cond.fieldLink RX12 346 "OverHillModel" "fitFirst" "I", Cond.fieldLink RX12 349 "OverHillModel" "fitBeats" "J", Cond.methodLink RX12 273 yX12_dances, Cond.instanceMethod yX12_dances, Cond.selects RX12 yX12_dances yX12_dances, Cond.code yX12_dances cX12_dances 13 none]
def wsX12_leaves_r3 : List Cond := [Cond.fieldLink RX12 34 "OverHillModel" "has" "[I", Cond.fieldLink RX12 65 "OverHillModel" "places" "[I", Cond.fieldLink RX12 68 "OverHillModel" "danced" "[I", Cond.fieldLink RX12 46 "OverHillModel" "isMud" "[Z", Cond.fieldLink RX12 37 "OverHillModel" "round" "[I", Cond.fieldLink RX12 43 "OverHillModel" "stumble" "[I", Cond.methodLink RX12 264 yX12_lengthOf, Cond.instanceMethod yX12_lengthOf, Cond.selects RX12 yX12_lengthOf yX12_lengthOf, Cond.code yX12_lengthOf cX12_lengthOf 2 (some .int), Cond.methodLink RX12 352 yX12_isHeard, Cond.instanceMethod yX12_isHeard, Cond.selects RX12 yX12_isHeard yX12_isHeard, Cond.code yX12_isHeard cX12_isHeard 4 (some .boolean), Cond.methodLink RX12 284 yX12_hearsAt, Cond.instanceMethod yX12_hearsAt, Cond.selects RX12 yX12_hearsAt yX12_hearsAt, Cond.code yX12_hearsAt cX12_hearsAt 3 (some .int)]
def wsX12_leaves : List Cond := .code yX12_leaves cX12_leaves 4 (some .int) :: ((wsX12_leaves_r1 ++ (wsX12_leaves_r2 ++ wsX12_leaves_r3)) ++ wsX120)
def wsX12_crosses : List Cond := .code yX12_crosses cX12_crosses 2 (some .int) :: ([.fieldLink RX12 80 "OverHillModel" "thrown" "I", .methodLink RX12 254 yX12_isDance, .instanceMethod yX12_isDance, .selects RX12 yX12_isDance yX12_isDance, .initialized RX12, .code yX12_isDance cX12_isDance 1 (some .boolean), .fieldLink RX12 31 "OverHillModel" "lines" "[I", .methodLink RX12 270 yX12_isBeat, .static yX12_isBeat, .code yX12_isBeat cX12_isBeat 2 (some .boolean), .constantLong RX12 257 (199), .methodLink RX12 85 yX12_in, .static yX12_in, .code yX12_in cX12_in 6 (some .boolean), .methodLink RX12 367 yX12_walks, .instanceMethod yX12_walks, .selects RX12 yX12_walks yX12_walks, .code yX12_walks cX12_walks 6 (some .int), .fieldLink RX12 34 "OverHillModel" "has" "[I", .fieldLink RX12 50 "OverHillModel" "cell" "[I", .fieldLink RX12 74 "OverHillModel" "there" "[I", .methodLink RX12 370 yX12_known, .static yX12_known, .code yX12_known cX12_known 1 (some .int)] ++ wsX120)
def wsX12_returns : List Cond := .code yX12_returns cX12_returns 2 (some .int) :: ([.fieldLink RX12 80 "OverHillModel" "thrown" "I", .methodLink RX12 254 yX12_isDance, .instanceMethod yX12_isDance, .selects RX12 yX12_isDance yX12_isDance, .initialized RX12, .code yX12_isDance cX12_isDance 1 (some .boolean), .fieldLink RX12 31 "OverHillModel" "lines" "[I", .methodLink RX12 270 yX12_isBeat, .static yX12_isBeat, .code yX12_isBeat cX12_isBeat 2 (some .boolean), .constantLong RX12 257 (199), .methodLink RX12 85 yX12_in, .static yX12_in, .code yX12_in cX12_in 6 (some .boolean), .methodLink RX12 367 yX12_walks, .instanceMethod yX12_walks, .selects RX12 yX12_walks yX12_walks, .code yX12_walks cX12_walks 6 (some .int), .fieldLink RX12 34 "OverHillModel" "has" "[I", .fieldLink RX12 50 "OverHillModel" "cell" "[I", .fieldLink RX12 74 "OverHillModel" "there" "[I", .methodLink RX12 370 yX12_known, .static yX12_known, .code yX12_known cX12_known 1 (some .int)] ++ wsX120)
def wsX12_meet_r1 : List Cond := [Cond.fieldLink RX12 80 "OverHillModel" "thrown" "I", Cond.fieldLink RX12 373 "OverHillModel" "metAt" "I", Cond.methodLink RX12 254 yX12_isDance, Cond.instanceMethod yX12_isDance, Cond.selects RX12 yX12_isDance yX12_isDance, Cond.initialized RX12, Cond.code yX12_isDance cX12_isDance 1 (some .boolean), Cond.fieldLink RX12 31 "OverHillModel" "lines" "[I", Cond.methodLink RX12 270 yX12_isBeat, Cond.static yX12_isBeat, Cond.code yX12_isBeat cX12_isBeat 2 (some .boolean), Cond.constantLong RX12 257 (199), Cond.methodLink RX12 85 yX12_in, Cond.static yX12_in, Cond.code yX12_in cX12_in 6 (some .boolean), Cond.methodLink RX12 379 yX12_laysMeet, Cond.instanceMethod yX12_laysMeet, Cond.selects RX12 yX12_laysMeet yX12_laysMeet, Cond.code yX12_laysMeet cX12_laysMeet 5 none, Cond.constant RX12 131 (1000000), Cond.fieldLink RX12 376 "OverHillModel" "metIn" "I", Cond.fieldLink RX12 34 "OverHillModel" "has" "[I", Cond.fieldLink RX12 74 "OverHillModel" "there" "[I", Cond.methodLink RX12 367 yX12_walks]
def wsX12_meet_r2 : List Cond := [Cond.instanceMethod yX12_walks, Cond.selects RX12 yX12_walks yX12_walks, Cond.code yX12_walks cX12_walks 6 (some .int), Cond.fieldLink RX12 50 "OverHillModel" "cell" "[I", Cond.methodLink RX12 370 yX12_known, Cond.static yX12_known, Cond.code yX12_known cX12_known 1 (some .int)]
def wsX12_meet : List Cond := .code yX12_meet cX12_meet 3 (some .int) :: ((wsX12_meet_r1 ++ wsX12_meet_r2) ++ wsX120)
def wsX12_cell_r1 : List Cond := [Cond.fieldLink RX12 80 "OverHillModel" "thrown" "I", Cond.fieldLink RX12 376 "OverHillModel" "metIn" "I", Cond.methodLink RX12 254 yX12_isDance, Cond.instanceMethod yX12_isDance, Cond.selects RX12 yX12_isDance yX12_isDance, Cond.initialized RX12, Cond.code yX12_isDance cX12_isDance 1 (some .boolean), Cond.fieldLink RX12 31 "OverHillModel" "lines" "[I", Cond.methodLink RX12 270 yX12_isBeat, Cond.static yX12_isBeat, Cond.code yX12_isBeat cX12_isBeat 2 (some .boolean), Cond.constantLong RX12 257 (199), Cond.methodLink RX12 85 yX12_in, Cond.static yX12_in, Cond.code yX12_in cX12_in 6 (some .boolean), Cond.methodLink RX12 379 yX12_laysMeet, Cond.instanceMethod yX12_laysMeet, Cond.selects RX12 yX12_laysMeet yX12_laysMeet, Cond.code yX12_laysMeet cX12_laysMeet 5 none, Cond.constant RX12 131 (1000000), Cond.fieldLink RX12 373 "OverHillModel" "metAt" "I", Cond.fieldLink RX12 34 "OverHillModel" "has" "[I", Cond.fieldLink RX12 74 "OverHillModel" "there" "[I", Cond.methodLink RX12 367 yX12_walks]
def wsX12_cell_r2 : List Cond := [Cond.instanceMethod yX12_walks, Cond.selects RX12 yX12_walks yX12_walks, Cond.code yX12_walks cX12_walks 6 (some .int), Cond.fieldLink RX12 50 "OverHillModel" "cell" "[I"]
def wsX12_cell : List Cond := .code yX12_cell cX12_cell 3 (some .int) :: ((wsX12_cell_r1 ++ wsX12_cell_r2) ++ wsX120)
def wsX12_longest : List Cond := .code yX12_longest cX12_longest 4 (some .int) :: ([.fieldLink RX12 80 "OverHillModel" "thrown" "I", .methodLink RX12 254 yX12_isDance, .instanceMethod yX12_isDance, .selects RX12 yX12_isDance yX12_isDance, .initialized RX12, .code yX12_isDance cX12_isDance 1 (some .boolean), .fieldLink RX12 31 "OverHillModel" "lines" "[I", .methodLink RX12 367 yX12_walks, .instanceMethod yX12_walks, .selects RX12 yX12_walks yX12_walks, .code yX12_walks cX12_walks 6 (some .int), .fieldLink RX12 34 "OverHillModel" "has" "[I", .fieldLink RX12 50 "OverHillModel" "cell" "[I", .fieldLink RX12 74 "OverHillModel" "there" "[I"] ++ wsX120)
def wsX12_whyNotHalf : List Cond := .code yX12_whyNotHalf cX12_whyNotHalf 3 (some .int) :: ([.fieldLink RX12 7 "OverHillModel" "width" "[I", .fieldLink RX12 13 "OverHillModel" "many" "[I", .fieldLink RX12 16 "OverHillModel" "cells" "[J", .constantLong RX12 124 (-1), .constantLong RX12 259 (5), .methodLink RX12 89 yX12_isSlot, .static yX12_isSlot, .initialized RX12, .code yX12_isSlot cX12_isSlot 1 (some .boolean), .constantLong RX12 83 (3), .methodLink RX12 85 yX12_in, .static yX12_in, .code yX12_in cX12_in 6 (some .boolean)] ++ wsX120)
def wsX12_half_r1 : List Cond := [Cond.fieldLink RX12 80 "OverHillModel" "thrown" "I", Cond.methodLink RX12 385 yX12_whyNotHalf, Cond.instanceMethod yX12_whyNotHalf, Cond.selects RX12 yX12_whyNotHalf yX12_whyNotHalf, Cond.initialized RX12, Cond.code yX12_whyNotHalf cX12_whyNotHalf 3 (some .int), Cond.fieldLink RX12 7 "OverHillModel" "width" "[I", Cond.fieldLink RX12 13 "OverHillModel" "many" "[I", Cond.fieldLink RX12 16 "OverHillModel" "cells" "[J", Cond.constantLong RX12 124 (-1), Cond.constantLong RX12 259 (5), Cond.methodLink RX12 89 yX12_isSlot, Cond.static yX12_isSlot, Cond.code yX12_isSlot cX12_isSlot 1 (some .boolean), Cond.constantLong RX12 83 (3), Cond.methodLink RX12 85 yX12_in, Cond.static yX12_in, Cond.code yX12_in cX12_in 6 (some .boolean), Cond.methodLink RX12 388 yX12_halfOf, Cond.instanceMethod yX12_halfOf, Cond.selects RX12 yX12_halfOf yX12_halfOf, Cond.code yX12_halfOf cX12_halfOf 3 (some .int), Cond.methodLink RX12 382 yX12_isHalf, Cond.instanceMethod yX12_isHalf]
def wsX12_half_r2 : List Cond := [Cond.selects RX12 yX12_isHalf yX12_isHalf, Cond.code yX12_isHalf cX12_isHalf 5 (some .boolean), Cond.fieldLink RX12 62 "OverHillModel" "steps" "[I"]
def wsX12_half : List Cond := .code yX12_half cX12_half 3 (some .int) :: ((wsX12_half_r1 ++ wsX12_half_r2) ++ wsX120)
def wsX12_fills_r1 : List Cond := [Cond.fieldLink RX12 80 "OverHillModel" "thrown" "I", Cond.fieldLink RX12 62 "OverHillModel" "steps" "[I", Cond.methodLink RX12 385 yX12_whyNotHalf, Cond.instanceMethod yX12_whyNotHalf, Cond.selects RX12 yX12_whyNotHalf yX12_whyNotHalf, Cond.initialized RX12, Cond.code yX12_whyNotHalf cX12_whyNotHalf 3 (some .int), Cond.fieldLink RX12 7 "OverHillModel" "width" "[I", Cond.fieldLink RX12 13 "OverHillModel" "many" "[I", Cond.fieldLink RX12 16 "OverHillModel" "cells" "[J", Cond.constantLong RX12 124 (-1), Cond.constantLong RX12 259 (5), Cond.methodLink RX12 89 yX12_isSlot, Cond.static yX12_isSlot, Cond.code yX12_isSlot cX12_isSlot 1 (some .boolean), Cond.constantLong RX12 83 (3), Cond.methodLink RX12 85 yX12_in, Cond.static yX12_in, Cond.code yX12_in cX12_in 6 (some .boolean), Cond.methodLink RX12 388 yX12_halfOf, Cond.instanceMethod yX12_halfOf, Cond.selects RX12 yX12_halfOf yX12_halfOf, Cond.code yX12_halfOf cX12_halfOf 3 (some .int), Cond.methodLink RX12 382 yX12_isHalf]
def wsX12_fills_r2 : List Cond := [Cond.instanceMethod yX12_isHalf, Cond.selects RX12 yX12_isHalf yX12_isHalf, Cond.code yX12_isHalf cX12_isHalf 5 (some .boolean)]
def wsX12_fills : List Cond := .code yX12_fills cX12_fills 4 (some .int) :: ((wsX12_fills_r1 ++ wsX12_fills_r2) ++ wsX120)
def wsX12_open_r1 : List Cond := [Cond.fieldLink RX12 80 "OverHillModel" "thrown" "I", Cond.fieldLink RX12 62 "OverHillModel" "steps" "[I", Cond.methodLink RX12 385 yX12_whyNotHalf, Cond.instanceMethod yX12_whyNotHalf, Cond.selects RX12 yX12_whyNotHalf yX12_whyNotHalf, Cond.initialized RX12, Cond.code yX12_whyNotHalf cX12_whyNotHalf 3 (some .int), Cond.fieldLink RX12 7 "OverHillModel" "width" "[I", Cond.fieldLink RX12 13 "OverHillModel" "many" "[I", Cond.fieldLink RX12 16 "OverHillModel" "cells" "[J", Cond.constantLong RX12 124 (-1), Cond.constantLong RX12 259 (5), Cond.methodLink RX12 89 yX12_isSlot, Cond.static yX12_isSlot, Cond.code yX12_isSlot cX12_isSlot 1 (some .boolean), Cond.constantLong RX12 83 (3), Cond.methodLink RX12 85 yX12_in, Cond.static yX12_in, Cond.code yX12_in cX12_in 6 (some .boolean), Cond.methodLink RX12 388 yX12_halfOf, Cond.instanceMethod yX12_halfOf, Cond.selects RX12 yX12_halfOf yX12_halfOf, Cond.code yX12_halfOf cX12_halfOf 3 (some .int), Cond.methodLink RX12 382 yX12_isHalf]
def wsX12_open_r2 : List Cond := [Cond.instanceMethod yX12_isHalf, Cond.selects RX12 yX12_isHalf yX12_isHalf, Cond.code yX12_isHalf cX12_isHalf 5 (some .boolean)]
def wsX12_open : List Cond := .code yX12_open cX12_open 6 (some .int) :: ((wsX12_open_r1 ++ wsX12_open_r2) ++ wsX120)
def wsX12_isSet : List Cond := .code yX12_isSet cX12_isSet 2 (some .boolean) :: ([.fieldLink RX12 34 "OverHillModel" "has" "[I", .methodLink RX12 254 yX12_isDance, .instanceMethod yX12_isDance, .selects RX12 yX12_isDance yX12_isDance, .initialized RX12, .code yX12_isDance cX12_isDance 1 (some .boolean), .fieldLink RX12 31 "OverHillModel" "lines" "[I", .methodLink RX12 85 yX12_in, .static yX12_in, .code yX12_in cX12_in 6 (some .boolean)] ++ wsX120)
def wsX12_together_r1 : List Cond := [Cond.fieldLink RX12 80 "OverHillModel" "thrown" "I", Cond.constantLong RX12 398 (-2), Cond.methodLink RX12 391 yX12_isSet, Cond.instanceMethod yX12_isSet, Cond.selects RX12 yX12_isSet yX12_isSet, Cond.initialized RX12, Cond.code yX12_isSet cX12_isSet 2 (some .boolean), Cond.fieldLink RX12 34 "OverHillModel" "has" "[I", Cond.methodLink RX12 254 yX12_isDance, Cond.instanceMethod yX12_isDance, Cond.selects RX12 yX12_isDance yX12_isDance, Cond.code yX12_isDance cX12_isDance 1 (some .boolean), Cond.fieldLink RX12 31 "OverHillModel" "lines" "[I", Cond.methodLink RX12 85 yX12_in, Cond.static yX12_in, Cond.code yX12_in cX12_in 6 (some .boolean), Cond.methodLink RX12 270 yX12_isBeat, Cond.static yX12_isBeat, Cond.code yX12_isBeat cX12_isBeat 2 (some .boolean), Cond.constantLong RX12 257 (199), Cond.methodLink RX12 394 yX12_togetherOf, Cond.instanceMethod yX12_togetherOf, Cond.selects RX12 yX12_togetherOf yX12_togetherOf, Cond.code yX12_togetherOf cX12_togetherOf 9 (some .long)]
def wsX12_together_r2 : List Cond := [Cond.fieldLink RX12 53 "OverHillModel" "tune" "[I", Cond.constantLong RX12 124 (-1), Cond.methodLink RX12 280 yX12_isBit, Cond.static yX12_isBit, Cond.code yX12_isBit cX12_isBit 2 (some .boolean), Cond.methodLink RX12 318 yX12_commonLong, Cond.static yX12_commonLong, Cond.code yX12_commonLong cX12_commonLong 4 (some .long)]
def wsX12_together : List Cond := .code yX12_together cX12_together 3 (some .long) :: ((wsX12_together_r1 ++ wsX12_together_r2) ++ wsX120)
def wsX12_again_r1 : List Cond := [Cond.fieldLink RX12 80 "OverHillModel" "thrown" "I", Cond.constantLong RX12 398 (-2), Cond.methodLink RX12 391 yX12_isSet, Cond.instanceMethod yX12_isSet, Cond.selects RX12 yX12_isSet yX12_isSet, Cond.initialized RX12, Cond.code yX12_isSet cX12_isSet 2 (some .boolean), Cond.fieldLink RX12 34 "OverHillModel" "has" "[I", Cond.methodLink RX12 254 yX12_isDance, Cond.instanceMethod yX12_isDance, Cond.selects RX12 yX12_isDance yX12_isDance, Cond.code yX12_isDance cX12_isDance 1 (some .boolean), Cond.fieldLink RX12 31 "OverHillModel" "lines" "[I", Cond.methodLink RX12 85 yX12_in, Cond.static yX12_in, Cond.code yX12_in cX12_in 6 (some .boolean), Cond.methodLink RX12 400 yX12_againOf, Cond.instanceMethod yX12_againOf, Cond.selects RX12 yX12_againOf yX12_againOf, Cond.code yX12_againOf cX12_againOf 5 (some .long), Cond.fieldLink RX12 53 "OverHillModel" "tune" "[I", Cond.methodLink RX12 280 yX12_isBit, Cond.static yX12_isBit, Cond.code yX12_isBit cX12_isBit 2 (some .boolean)]
def wsX12_again_r2 : List Cond := [Cond.methodLink RX12 318 yX12_commonLong, Cond.static yX12_commonLong, Cond.code yX12_commonLong cX12_commonLong 4 (some .long)]
def wsX12_again : List Cond := .code yX12_again cX12_again 2 (some .long) :: ((wsX12_again_r1 ++ wsX12_again_r2) ++ wsX120)
def wsX12_most_r1 : List Cond := [Cond.fieldLink RX12 80 "OverHillModel" "thrown" "I", Cond.methodLink RX12 254 yX12_isDance, Cond.instanceMethod yX12_isDance, Cond.selects RX12 yX12_isDance yX12_isDance, Cond.initialized RX12, Cond.code yX12_isDance cX12_isDance 1 (some .boolean), Cond.fieldLink RX12 31 "OverHillModel" "lines" "[I", Cond.methodLink RX12 407 yX12_chorusOf, Cond.instanceMethod yX12_chorusOf, Cond.selects RX12 yX12_chorusOf yX12_chorusOf, Cond.code yX12_chorusOf cX12_chorusOf 3 (some .int), Cond.fieldLink RX12 34 "OverHillModel" "has" "[I", Cond.constantLong RX12 124 (-1), Cond.methodLink RX12 404 yX12_sizeOf, Cond.static yX12_sizeOf, Cond.code yX12_sizeOf cX12_sizeOf 3 (some .int), Cond.methodLink RX12 394 yX12_togetherOf, Cond.instanceMethod yX12_togetherOf, Cond.selects RX12 yX12_togetherOf yX12_togetherOf, Cond.code yX12_togetherOf cX12_togetherOf 9 (some .long), Cond.fieldLink RX12 53 "OverHillModel" "tune" "[I", Cond.methodLink RX12 280 yX12_isBit, Cond.static yX12_isBit, Cond.code yX12_isBit cX12_isBit 2 (some .boolean)]
def wsX12_most_r2 : List Cond := [Cond.methodLink RX12 318 yX12_commonLong, Cond.static yX12_commonLong, Cond.code yX12_commonLong cX12_commonLong 4 (some .long)]
def wsX12_most : List Cond := .code yX12_most cX12_most 1 (some .int) :: ((wsX12_most_r1 ++ wsX12_most_r2) ++ wsX120)
def wsX12_chorus_r1 : List Cond := [Cond.fieldLink RX12 80 "OverHillModel" "thrown" "I", Cond.methodLink RX12 254 yX12_isDance, Cond.instanceMethod yX12_isDance, Cond.selects RX12 yX12_isDance yX12_isDance, Cond.initialized RX12, Cond.code yX12_isDance cX12_isDance 1 (some .boolean), Cond.fieldLink RX12 31 "OverHillModel" "lines" "[I", Cond.methodLink RX12 407 yX12_chorusOf, Cond.instanceMethod yX12_chorusOf, Cond.selects RX12 yX12_chorusOf yX12_chorusOf, Cond.code yX12_chorusOf cX12_chorusOf 3 (some .int), Cond.fieldLink RX12 34 "OverHillModel" "has" "[I", Cond.constantLong RX12 124 (-1), Cond.methodLink RX12 404 yX12_sizeOf, Cond.static yX12_sizeOf, Cond.code yX12_sizeOf cX12_sizeOf 3 (some .int), Cond.methodLink RX12 394 yX12_togetherOf, Cond.instanceMethod yX12_togetherOf, Cond.selects RX12 yX12_togetherOf yX12_togetherOf, Cond.code yX12_togetherOf cX12_togetherOf 9 (some .long), Cond.fieldLink RX12 53 "OverHillModel" "tune" "[I", Cond.methodLink RX12 280 yX12_isBit, Cond.static yX12_isBit, Cond.code yX12_isBit cX12_isBit 2 (some .boolean)]
def wsX12_chorus_r2 : List Cond := [Cond.methodLink RX12 318 yX12_commonLong, Cond.static yX12_commonLong, Cond.code yX12_commonLong cX12_commonLong 4 (some .long)]
def wsX12_chorus : List Cond := .code yX12_chorus cX12_chorus 1 (some .int) :: ((wsX12_chorus_r1 ++ wsX12_chorus_r2) ++ wsX120)
def wsX12_treaties : List Cond := .code yX12_treaties cX12_treaties 4 (some .int) :: ([.fieldLink RX12 80 "OverHillModel" "thrown" "I", .fieldLink RX12 40 "OverHillModel" "meets" "[I", .methodLink RX12 254 yX12_isDance, .instanceMethod yX12_isDance, .selects RX12 yX12_isDance yX12_isDance, .initialized RX12, .code yX12_isDance cX12_isDance 1 (some .boolean), .fieldLink RX12 31 "OverHillModel" "lines" "[I", .methodLink RX12 280 yX12_isBit, .static yX12_isBit, .code yX12_isBit cX12_isBit 2 (some .boolean)] ++ wsX120)
def wsX12_leads : List Cond := .code yX12_leads cX12_leads 4 (some .int) :: ([.fieldLink RX12 80 "OverHillModel" "thrown" "I", .fieldLink RX12 40 "OverHillModel" "meets" "[I", .methodLink RX12 254 yX12_isDance, .instanceMethod yX12_isDance, .selects RX12 yX12_isDance yX12_isDance, .initialized RX12, .code yX12_isDance cX12_isDance 1 (some .boolean), .fieldLink RX12 31 "OverHillModel" "lines" "[I", .methodLink RX12 85 yX12_in, .static yX12_in, .code yX12_in cX12_in 6 (some .boolean), .methodLink RX12 404 yX12_sizeOf, .static yX12_sizeOf, .code yX12_sizeOf cX12_sizeOf 3 (some .int)] ++ wsX120)
def wsX12_game_r1 : List Cond := [Cond.fieldLink RX12 80 "OverHillModel" "thrown" "I", Cond.methodLink RX12 254 yX12_isDance, Cond.instanceMethod yX12_isDance, Cond.selects RX12 yX12_isDance yX12_isDance, Cond.initialized RX12, Cond.code yX12_isDance cX12_isDance 1 (some .boolean), Cond.fieldLink RX12 31 "OverHillModel" "lines" "[I", Cond.methodLink RX12 267 yX12_isStep, Cond.static yX12_isStep, Cond.code yX12_isStep cX12_isStep 2 (some .boolean), Cond.constantLong RX12 259 (5), Cond.methodLink RX12 85 yX12_in, Cond.static yX12_in, Cond.code yX12_in cX12_in 6 (some .boolean), Cond.methodLink RX12 416 yX12_laysGame, Cond.instanceMethod yX12_laysGame, Cond.selects RX12 yX12_laysGame yX12_laysGame, Cond.code yX12_laysGame cX12_laysGame 2 none, Cond.fieldLink RX12 77 "OverHillModel" "wins" "[I", Cond.methodLink RX12 413 yX12_winsFrom, Cond.instanceMethod yX12_winsFrom, Cond.selects RX12 yX12_winsFrom yX12_winsFrom, Cond.code yX12_winsFrom cX12_winsFrom 5 (some .boolean), Cond.methodLink RX12 410 yX12_isPlay]
def wsX12_game_r2 : List Cond := [Cond.instanceMethod yX12_isPlay, Cond.selects RX12 yX12_isPlay yX12_isPlay, Cond.code yX12_isPlay cX12_isPlay 4 (some .boolean), Cond.fieldLink RX12 40 "OverHillModel" "meets" "[I", Cond.methodLink RX12 280 yX12_isBit, Cond.static yX12_isBit, Cond.code yX12_isBit cX12_isBit 2 (some .boolean)]
def wsX12_game : List Cond := .code yX12_game cX12_game 2 (some .int) :: ((wsX12_game_r1 ++ wsX12_game_r2) ++ wsX120)
def wsX12_plays_r1 : List Cond := [Cond.fieldLink RX12 80 "OverHillModel" "thrown" "I", Cond.methodLink RX12 254 yX12_isDance, Cond.instanceMethod yX12_isDance, Cond.selects RX12 yX12_isDance yX12_isDance, Cond.initialized RX12, Cond.code yX12_isDance cX12_isDance 1 (some .boolean), Cond.fieldLink RX12 31 "OverHillModel" "lines" "[I", Cond.methodLink RX12 267 yX12_isStep, Cond.static yX12_isStep, Cond.code yX12_isStep cX12_isStep 2 (some .boolean), Cond.constantLong RX12 259 (5), Cond.methodLink RX12 85 yX12_in, Cond.static yX12_in, Cond.code yX12_in cX12_in 6 (some .boolean), Cond.methodLink RX12 416 yX12_laysGame, Cond.instanceMethod yX12_laysGame, Cond.selects RX12 yX12_laysGame yX12_laysGame, Cond.code yX12_laysGame cX12_laysGame 2 none, Cond.fieldLink RX12 77 "OverHillModel" "wins" "[I", Cond.methodLink RX12 410 yX12_isPlay, Cond.instanceMethod yX12_isPlay, Cond.selects RX12 yX12_isPlay yX12_isPlay, Cond.code yX12_isPlay cX12_isPlay 4 (some .boolean), Cond.fieldLink RX12 40 "OverHillModel" "meets" "[I"]
def wsX12_plays_r2 : List Cond := [Cond.methodLink RX12 280 yX12_isBit, Cond.static yX12_isBit, Cond.code yX12_isBit cX12_isBit 2 (some .boolean), Cond.methodLink RX12 413 yX12_winsFrom, Cond.instanceMethod yX12_winsFrom, Cond.selects RX12 yX12_winsFrom yX12_winsFrom, Cond.code yX12_winsFrom cX12_winsFrom 5 (some .boolean)]
def wsX12_plays : List Cond := .code yX12_plays cX12_plays 4 (some .int) :: ((wsX12_plays_r1 ++ wsX12_plays_r2) ++ wsX120)
def wsX12_isRain : List Cond := .code yX12_isRain cX12_isRain 3 (some .boolean) :: ([.constantLong RX12 419 (9), .methodLink RX12 254 yX12_isDance, .instanceMethod yX12_isDance, .selects RX12 yX12_isDance yX12_isDance, .initialized RX12, .code yX12_isDance cX12_isDance 1 (some .boolean), .fieldLink RX12 31 "OverHillModel" "lines" "[I", .methodLink RX12 85 yX12_in, .static yX12_in, .code yX12_in cX12_in 6 (some .boolean)] ++ wsX120)
def wsX12_dry_r1 : List Cond := [Cond.fieldLink RX12 80 "OverHillModel" "thrown" "I", Cond.constantLong RX12 424 (100), Cond.fieldLink RX12 34 "OverHillModel" "has" "[I", Cond.constantLong RX12 398 (-2), Cond.methodLink RX12 421 yX12_isRain, Cond.instanceMethod yX12_isRain, Cond.selects RX12 yX12_isRain yX12_isRain, Cond.initialized RX12, Cond.code yX12_isRain cX12_isRain 3 (some .boolean), Cond.constantLong RX12 419 (9), Cond.methodLink RX12 254 yX12_isDance, Cond.instanceMethod yX12_isDance, Cond.selects RX12 yX12_isDance yX12_isDance, Cond.code yX12_isDance cX12_isDance 1 (some .boolean), Cond.fieldLink RX12 31 "OverHillModel" "lines" "[I", Cond.methodLink RX12 85 yX12_in, Cond.static yX12_in, Cond.code yX12_in cX12_in 6 (some .boolean), Cond.methodLink RX12 426 yX12_power, Cond.static yX12_power, Cond.code yX12_power cX12_power 6 (some .long), Cond.methodLink RX12 429 yX12_part, Cond.static yX12_part, Cond.code yX12_part cX12_part 5 (some .long)]
def wsX12_dry_r2 : List Cond := [Cond.methodLink RX12 318 yX12_commonLong, Cond.static yX12_commonLong, Cond.code yX12_commonLong cX12_commonLong 4 (some .long)]
def wsX12_dry : List Cond := .code yX12_dry cX12_dry 3 (some .long) :: ((wsX12_dry_r1 ++ wsX12_dry_r2) ++ wsX120)
def wsX12_wet_r1 : List Cond := [Cond.fieldLink RX12 80 "OverHillModel" "thrown" "I", Cond.constantLong RX12 398 (-2), Cond.fieldLink RX12 34 "OverHillModel" "has" "[I", Cond.constantLong RX12 424 (100), Cond.methodLink RX12 421 yX12_isRain, Cond.instanceMethod yX12_isRain, Cond.selects RX12 yX12_isRain yX12_isRain, Cond.initialized RX12, Cond.code yX12_isRain cX12_isRain 3 (some .boolean), Cond.constantLong RX12 419 (9), Cond.methodLink RX12 254 yX12_isDance, Cond.instanceMethod yX12_isDance, Cond.selects RX12 yX12_isDance yX12_isDance, Cond.code yX12_isDance cX12_isDance 1 (some .boolean), Cond.fieldLink RX12 31 "OverHillModel" "lines" "[I", Cond.methodLink RX12 85 yX12_in, Cond.static yX12_in, Cond.code yX12_in cX12_in 6 (some .boolean), Cond.methodLink RX12 426 yX12_power, Cond.static yX12_power, Cond.code yX12_power cX12_power 6 (some .long), Cond.methodLink RX12 429 yX12_part, Cond.static yX12_part, Cond.code yX12_part cX12_part 5 (some .long)]
def wsX12_wet_r2 : List Cond := [Cond.methodLink RX12 318 yX12_commonLong, Cond.static yX12_commonLong, Cond.code yX12_commonLong cX12_commonLong 4 (some .long)]
def wsX12_wet : List Cond := .code yX12_wet cX12_wet 7 (some .long) :: ((wsX12_wet_r1 ++ wsX12_wet_r2) ++ wsX120)
def wsX12_isDraw : List Cond := .code yX12_isDraw cX12_isDraw 3 (some .boolean) :: ([.constantLong RX12 462 (2000000000), .constantLong RX12 424 (100), .methodLink RX12 254 yX12_isDance, .instanceMethod yX12_isDance, .selects RX12 yX12_isDance yX12_isDance, .initialized RX12, .code yX12_isDance cX12_isDance 1 (some .boolean), .fieldLink RX12 31 "OverHillModel" "lines" "[I", .methodLink RX12 85 yX12_in, .static yX12_in, .code yX12_in cX12_in 6 (some .boolean)] ++ wsX120)
def wsX12_drawn_r1 : List Cond := [Cond.fieldLink RX12 80 "OverHillModel" "thrown" "I", Cond.constantLong RX12 83 (3), Cond.fieldLink RX12 444 "OverHillModel" "nightHoles" "I", Cond.fieldLink RX12 447 "OverHillModel" "nightFirst" "I", Cond.fieldLink RX12 450 "OverHillModel" "nightMud" "I", Cond.fieldLink RX12 453 "OverHillModel" "nightSlips" "I", Cond.methodLink RX12 464 yX12_isDraw, Cond.instanceMethod yX12_isDraw, Cond.selects RX12 yX12_isDraw yX12_isDraw, Cond.initialized RX12, Cond.code yX12_isDraw cX12_isDraw 3 (some .boolean), Cond.constantLong RX12 462 (2000000000), Cond.constantLong RX12 424 (100), Cond.methodLink RX12 254 yX12_isDance, Cond.instanceMethod yX12_isDance, Cond.selects RX12 yX12_isDance yX12_isDance, Cond.code yX12_isDance cX12_isDance 1 (some .boolean), Cond.fieldLink RX12 31 "OverHillModel" "lines" "[I", Cond.methodLink RX12 85 yX12_in, Cond.static yX12_in, Cond.code yX12_in cX12_in 6 (some .boolean), Cond.methodLink RX12 467 yX12_draws, Cond.instanceMethod yX12_draws, Cond.selects RX12 yX12_draws yX12_draws]
def wsX12_drawn_r2 : List Cond := [Cond.code yX12_draws cX12_draws 8 none, Cond.fieldLink RX12 435 "OverHillModel" "drawnNow" "J", Cond.fieldLink RX12 34 "OverHillModel" "has" "[I", Cond.fieldLink RX12 68 "OverHillModel" "danced" "[I", Cond.fieldLink RX12 37 "OverHillModel" "round" "[I", Cond.methodLink RX12 456 yX12_isBelow, Cond.instanceMethod yX12_isBelow, Cond.selects RX12 yX12_isBelow yX12_isBelow, Cond.code yX12_isBelow cX12_isBelow 2 (some .boolean), Cond.constantLong RX12 433 (1103515245), Cond.constantLong RX12 438 (12345), Cond.constantLong RX12 440 (2147483648), Cond.constantLong RX12 442 (65536), Cond.methodLink RX12 264 yX12_lengthOf, Cond.instanceMethod yX12_lengthOf, Cond.selects RX12 yX12_lengthOf yX12_lengthOf, Cond.code yX12_lengthOf cX12_lengthOf 2 (some .int), Cond.methodLink RX12 459 yX12_slips, Cond.instanceMethod yX12_slips, Cond.selects RX12 yX12_slips yX12_slips, Cond.code yX12_slips cX12_slips 2 (some .int), Cond.methodLink RX12 293 yX12_isHole, Cond.instanceMethod yX12_isHole, Cond.selects RX12 yX12_isHole yX12_isHole]
def wsX12_drawn_r3 : List Cond := [Cond.code yX12_isHole cX12_isHole 3 (some .boolean), Cond.methodLink RX12 284 yX12_hearsAt, Cond.instanceMethod yX12_hearsAt, Cond.selects RX12 yX12_hearsAt yX12_hearsAt, Cond.code yX12_hearsAt cX12_hearsAt 3 (some .int), Cond.methodLink RX12 287 yX12_clashes, Cond.instanceMethod yX12_clashes, Cond.selects RX12 yX12_clashes yX12_clashes, Cond.code yX12_clashes cX12_clashes 3 (some .boolean), Cond.fieldLink RX12 40 "OverHillModel" "meets" "[I", Cond.methodLink RX12 280 yX12_isBit, Cond.static yX12_isBit, Cond.code yX12_isBit cX12_isBit 2 (some .boolean)]
def wsX12_drawn : List Cond := .code yX12_drawn cX12_drawn 4 (some .int) :: ((wsX12_drawn_r1 ++ (wsX12_drawn_r2 ++ wsX12_drawn_r3)) ++ wsX120)
def wsX12_nights_r1 : List Cond := [Cond.fieldLink RX12 80 "OverHillModel" "thrown" "I", Cond.constantLong RX12 471 (20), Cond.fieldLink RX12 444 "OverHillModel" "nightHoles" "I", Cond.methodLink RX12 464 yX12_isDraw, Cond.instanceMethod yX12_isDraw, Cond.selects RX12 yX12_isDraw yX12_isDraw, Cond.initialized RX12, Cond.code yX12_isDraw cX12_isDraw 3 (some .boolean), Cond.constantLong RX12 462 (2000000000), Cond.constantLong RX12 424 (100), Cond.methodLink RX12 254 yX12_isDance, Cond.instanceMethod yX12_isDance, Cond.selects RX12 yX12_isDance yX12_isDance, Cond.code yX12_isDance cX12_isDance 1 (some .boolean), Cond.fieldLink RX12 31 "OverHillModel" "lines" "[I", Cond.methodLink RX12 85 yX12_in, Cond.static yX12_in, Cond.code yX12_in cX12_in 6 (some .boolean), Cond.methodLink RX12 467 yX12_draws, Cond.instanceMethod yX12_draws, Cond.selects RX12 yX12_draws yX12_draws, Cond.code yX12_draws cX12_draws 8 none, Cond.fieldLink RX12 435 "OverHillModel" "drawnNow" "J", Cond.fieldLink RX12 447 "OverHillModel" "nightFirst" "I"]
def wsX12_nights_r2 : List Cond := [Cond.fieldLink RX12 450 "OverHillModel" "nightMud" "I", Cond.fieldLink RX12 453 "OverHillModel" "nightSlips" "I", Cond.fieldLink RX12 34 "OverHillModel" "has" "[I", Cond.fieldLink RX12 68 "OverHillModel" "danced" "[I", Cond.fieldLink RX12 37 "OverHillModel" "round" "[I", Cond.methodLink RX12 456 yX12_isBelow, Cond.instanceMethod yX12_isBelow, Cond.selects RX12 yX12_isBelow yX12_isBelow, Cond.code yX12_isBelow cX12_isBelow 2 (some .boolean), Cond.constantLong RX12 433 (1103515245), Cond.constantLong RX12 438 (12345), Cond.constantLong RX12 440 (2147483648), Cond.constantLong RX12 442 (65536), Cond.methodLink RX12 264 yX12_lengthOf, Cond.instanceMethod yX12_lengthOf, Cond.selects RX12 yX12_lengthOf yX12_lengthOf, Cond.code yX12_lengthOf cX12_lengthOf 2 (some .int), Cond.methodLink RX12 459 yX12_slips, Cond.instanceMethod yX12_slips, Cond.selects RX12 yX12_slips yX12_slips, Cond.code yX12_slips cX12_slips 2 (some .int), Cond.methodLink RX12 293 yX12_isHole, Cond.instanceMethod yX12_isHole, Cond.selects RX12 yX12_isHole yX12_isHole]
def wsX12_nights_r3 : List Cond := [Cond.code yX12_isHole cX12_isHole 3 (some .boolean), Cond.methodLink RX12 284 yX12_hearsAt, Cond.instanceMethod yX12_hearsAt, Cond.selects RX12 yX12_hearsAt yX12_hearsAt, Cond.code yX12_hearsAt cX12_hearsAt 3 (some .int), Cond.methodLink RX12 287 yX12_clashes, Cond.instanceMethod yX12_clashes, Cond.selects RX12 yX12_clashes yX12_clashes, Cond.code yX12_clashes cX12_clashes 3 (some .boolean), Cond.fieldLink RX12 40 "OverHillModel" "meets" "[I", Cond.methodLink RX12 280 yX12_isBit, Cond.static yX12_isBit, Cond.code yX12_isBit cX12_isBit 2 (some .boolean)]
def wsX12_nights : List Cond := .code yX12_nights cX12_nights 6 (some .int) :: ((wsX12_nights_r1 ++ (wsX12_nights_r2 ++ wsX12_nights_r3)) ++ wsX120)
def wsX12_stumble_r1 : List Cond := [Cond.fieldLink RX12 80 "OverHillModel" "thrown" "I", Cond.constantLong RX12 419 (9), Cond.fieldLink RX12 34 "OverHillModel" "has" "[I", Cond.fieldLink RX12 43 "OverHillModel" "stumble" "[I", Cond.methodLink RX12 261 yX12_isSide, Cond.instanceMethod yX12_isSide, Cond.selects RX12 yX12_isSide yX12_isSide, Cond.initialized RX12, Cond.code yX12_isSide cX12_isSide 2 (some .boolean), Cond.methodLink RX12 254 yX12_isDance, Cond.instanceMethod yX12_isDance, Cond.selects RX12 yX12_isDance yX12_isDance, Cond.code yX12_isDance cX12_isDance 1 (some .boolean), Cond.fieldLink RX12 31 "OverHillModel" "lines" "[I", Cond.methodLink RX12 85 yX12_in, Cond.static yX12_in, Cond.code yX12_in cX12_in 6 (some .boolean), Cond.methodLink RX12 270 yX12_isBeat, Cond.static yX12_isBeat, Cond.code yX12_isBeat cX12_isBeat 2 (some .boolean), Cond.constantLong RX12 257 (199), Cond.methodLink RX12 267 yX12_isStep, Cond.static yX12_isStep, Cond.code yX12_isStep cX12_isStep 2 (some .boolean)]
def wsX12_stumble_r2 : List Cond := [Cond.constantLong RX12 259 (5), Cond.methodLink RX12 187 yX12_isStumbled, Cond.instanceMethod yX12_isStumbled, Cond.selects RX12 yX12_isStumbled yX12_isStumbled, Cond.code yX12_isStumbled cX12_isStumbled 5 (some .boolean), Cond.methodLink RX12 473 yX12_changes, Cond.instanceMethod yX12_changes, Cond.selects RX12 yX12_changes yX12_changes, Cond.code yX12_changes cX12_changes 6 none, Cond.fieldLink RX12 56 "OverHillModel" "change" "[I"]
def wsX12_stumble : List Cond := .code yX12_stumble cX12_stumble 6 (some .int) :: ((wsX12_stumble_r1 ++ wsX12_stumble_r2) ++ wsX120)
def wsX12_mud : List Cond := .code yX12_mud cX12_mud 4 (some .int) :: ([.fieldLink RX12 80 "OverHillModel" "thrown" "I", .fieldLink RX12 34 "OverHillModel" "has" "[I", .fieldLink RX12 46 "OverHillModel" "isMud" "[Z", .methodLink RX12 254 yX12_isDance, .instanceMethod yX12_isDance, .selects RX12 yX12_isDance yX12_isDance, .initialized RX12, .code yX12_isDance cX12_isDance 1 (some .boolean), .fieldLink RX12 31 "OverHillModel" "lines" "[I", .methodLink RX12 270 yX12_isBeat, .static yX12_isBeat, .code yX12_isBeat cX12_isBeat 2 (some .boolean), .constantLong RX12 257 (199), .methodLink RX12 85 yX12_in, .static yX12_in, .code yX12_in cX12_in 6 (some .boolean), .methodLink RX12 473 yX12_changes, .instanceMethod yX12_changes, .selects RX12 yX12_changes yX12_changes, .code yX12_changes cX12_changes 6 none, .fieldLink RX12 56 "OverHillModel" "change" "[I"] ++ wsX120)
def wsX12_teach_r1 : List Cond := [Cond.fieldLink RX12 80 "OverHillModel" "thrown" "I", Cond.fieldLink RX12 34 "OverHillModel" "has" "[I", Cond.fieldLink RX12 37 "OverHillModel" "round" "[I", Cond.methodLink RX12 261 yX12_isSide, Cond.instanceMethod yX12_isSide, Cond.selects RX12 yX12_isSide yX12_isSide, Cond.initialized RX12, Cond.code yX12_isSide cX12_isSide 2 (some .boolean), Cond.methodLink RX12 254 yX12_isDance, Cond.instanceMethod yX12_isDance, Cond.selects RX12 yX12_isDance yX12_isDance, Cond.code yX12_isDance cX12_isDance 1 (some .boolean), Cond.fieldLink RX12 31 "OverHillModel" "lines" "[I", Cond.methodLink RX12 85 yX12_in, Cond.static yX12_in, Cond.code yX12_in cX12_in 6 (some .boolean), Cond.methodLink RX12 264 yX12_lengthOf, Cond.instanceMethod yX12_lengthOf, Cond.selects RX12 yX12_lengthOf yX12_lengthOf, Cond.code yX12_lengthOf cX12_lengthOf 2 (some .int), Cond.methodLink RX12 267 yX12_isStep, Cond.static yX12_isStep, Cond.code yX12_isStep cX12_isStep 2 (some .boolean), Cond.constantLong RX12 259 (5)]
def wsX12_teach_r2 : List Cond := [Cond.methodLink RX12 473 yX12_changes, Cond.instanceMethod yX12_changes, Cond.selects RX12 yX12_changes yX12_changes, Cond.code yX12_changes cX12_changes 6 none, Cond.fieldLink RX12 56 "OverHillModel" "change" "[I"]
def wsX12_teach : List Cond := .code yX12_teach cX12_teach 5 (some .int) :: ((wsX12_teach_r1 ++ wsX12_teach_r2) ++ wsX120)
def wsX12_undo : List Cond := .code yX12_undo cX12_undo 2 (some .int) :: ([.fieldLink RX12 80 "OverHillModel" "thrown" "I", .fieldLink RX12 34 "OverHillModel" "has" "[I", .fieldLink RX12 56 "OverHillModel" "change" "[I", .fieldLink RX12 46 "OverHillModel" "isMud" "[Z", .fieldLink RX12 37 "OverHillModel" "round" "[I", .methodLink RX12 254 yX12_isDance, .instanceMethod yX12_isDance, .selects RX12 yX12_isDance yX12_isDance, .initialized RX12, .code yX12_isDance cX12_isDance 1 (some .boolean), .fieldLink RX12 31 "OverHillModel" "lines" "[I"] ++ wsX120)
def wsX12_count : List Cond := .code yX12_count cX12_count 4 (some .int) :: ([.fieldLink RX12 80 "OverHillModel" "thrown" "I", .fieldLink RX12 34 "OverHillModel" "has" "[I", .fieldLink RX12 46 "OverHillModel" "isMud" "[Z", .fieldLink RX12 31 "OverHillModel" "lines" "[I", .fieldLink RX12 97 "OverHillModel" "taped" "I", .fieldLink RX12 7 "OverHillModel" "width" "[I", .methodLink RX12 264 yX12_lengthOf, .instanceMethod yX12_lengthOf, .selects RX12 yX12_lengthOf yX12_lengthOf, .initialized RX12, .code yX12_lengthOf cX12_lengthOf 2 (some .int)] ++ wsX120)
def wsX12_image : List Cond := .code yX12_image cX12_image 2 (some .int) :: ([.fieldLink RX12 80 "OverHillModel" "thrown" "I", .constantLong RX12 477 (2), .fieldLink RX12 59 "OverHillModel" "isKept" "[Z", .methodLink RX12 85 yX12_in, .static yX12_in, .initialized RX12, .code yX12_in cX12_in 6 (some .boolean), .methodLink RX12 247 yX12_copyDance, .instanceMethod yX12_copyDance, .selects RX12 yX12_copyDance yX12_copyDance, .code yX12_copyDance cX12_copyDance 4 none, .fieldLink RX12 31 "OverHillModel" "lines" "[I", .fieldLink RX12 34 "OverHillModel" "has" "[I", .fieldLink RX12 37 "OverHillModel" "round" "[I", .fieldLink RX12 40 "OverHillModel" "meets" "[I", .fieldLink RX12 43 "OverHillModel" "stumble" "[I", .fieldLink RX12 50 "OverHillModel" "cell" "[I", .fieldLink RX12 53 "OverHillModel" "tune" "[I", .fieldLink RX12 56 "OverHillModel" "change" "[I", .fieldLink RX12 46 "OverHillModel" "isMud" "[Z", .methodLink RX12 250 yX12_copyRow, .static yX12_copyRow, .code yX12_copyRow cX12_copyRow 5 none] ++ wsX120)
def wsX12_back : List Cond := .code yX12_back cX12_back 2 (some .int) :: ([.fieldLink RX12 80 "OverHillModel" "thrown" "I", .constantLong RX12 477 (2), .fieldLink RX12 59 "OverHillModel" "isKept" "[Z", .methodLink RX12 85 yX12_in, .static yX12_in, .initialized RX12, .code yX12_in cX12_in 6 (some .boolean), .methodLink RX12 247 yX12_copyDance, .instanceMethod yX12_copyDance, .selects RX12 yX12_copyDance yX12_copyDance, .code yX12_copyDance cX12_copyDance 4 none, .fieldLink RX12 31 "OverHillModel" "lines" "[I", .fieldLink RX12 34 "OverHillModel" "has" "[I", .fieldLink RX12 37 "OverHillModel" "round" "[I", .fieldLink RX12 40 "OverHillModel" "meets" "[I", .fieldLink RX12 43 "OverHillModel" "stumble" "[I", .fieldLink RX12 50 "OverHillModel" "cell" "[I", .fieldLink RX12 53 "OverHillModel" "tune" "[I", .fieldLink RX12 56 "OverHillModel" "change" "[I", .fieldLink RX12 46 "OverHillModel" "isMud" "[Z", .methodLink RX12 250 yX12_copyRow, .static yX12_copyRow, .code yX12_copyRow cX12_copyRow 5 none] ++ wsX120)
theorem dX12_init_0 : decode cX12_init 0 = .ok (.aload_n 0, 1) := by decide +kernel
theorem dX12_init_1 : decode cX12_init 1 = .ok (.invokespecial 1, 3) := by decide +kernel
theorem dX12_init_4 : decode cX12_init 4 = .ok (.aload_n 0, 1) := by decide +kernel
theorem dX12_init_5 : decode cX12_init 5 = .ok (.iconst 4, 1) := by decide +kernel
theorem dX12_init_6 : decode cX12_init 6 = .ok (.newarray .int, 2) := by decide +kernel
theorem dX12_init_8 : decode cX12_init 8 = .ok (.putfield 7, 3) := by decide +kernel
theorem dX12_init_11 : decode cX12_init 11 = .ok (.aload_n 0, 1) := by decide +kernel
theorem dX12_init_12 : decode cX12_init 12 = .ok (.iconst 4, 1) := by decide +kernel
theorem dX12_init_13 : decode cX12_init 13 = .ok (.newarray .int, 2) := by decide +kernel
theorem dX12_init_15 : decode cX12_init 15 = .ok (.putfield 13, 3) := by decide +kernel
theorem dX12_init_18 : decode cX12_init 18 = .ok (.aload_n 0, 1) := by decide +kernel
theorem dX12_init_19 : decode cX12_init 19 = .ok (.sipush 240, 3) := by decide +kernel
theorem dX12_init_22 : decode cX12_init 22 = .ok (.newarray .long, 2) := by decide +kernel
theorem dX12_init_24 : decode cX12_init 24 = .ok (.putfield 16, 3) := by decide +kernel
theorem dX12_init_27 : decode cX12_init 27 = .ok (.aload_n 0, 1) := by decide +kernel
theorem dX12_init_28 : decode cX12_init 28 = .ok (.bipush 60, 2) := by decide +kernel
theorem dX12_init_30 : decode cX12_init 30 = .ok (.newarray .long, 2) := by decide +kernel
theorem dX12_init_32 : decode cX12_init 32 = .ok (.putfield 20, 3) := by decide +kernel
theorem dX12_init_35 : decode cX12_init 35 = .ok (.aload_n 0, 1) := by decide +kernel
theorem dX12_init_36 : decode cX12_init 36 = .ok (.sipush 1200, 3) := by decide +kernel
theorem dX12_init_39 : decode cX12_init 39 = .ok (.newarray .byte, 2) := by decide +kernel
theorem dX12_init_41 : decode cX12_init 41 = .ok (.putfield 23, 3) := by decide +kernel
theorem dX12_init_44 : decode cX12_init 44 = .ok (.aload_n 0, 1) := by decide +kernel
theorem dX12_init_45 : decode cX12_init 45 = .ok (.iconst (-1), 1) := by decide +kernel
theorem dX12_init_46 : decode cX12_init 46 = .ok (.putfield 27, 3) := by decide +kernel
theorem dX12_init_49 : decode cX12_init 49 = .ok (.aload_n 0, 1) := by decide +kernel
theorem dX12_init_50 : decode cX12_init 50 = .ok (.iconst 5, 1) := by decide +kernel
theorem dX12_init_51 : decode cX12_init 51 = .ok (.newarray .int, 2) := by decide +kernel
theorem dX12_init_53 : decode cX12_init 53 = .ok (.putfield 31, 3) := by decide +kernel
theorem dX12_init_56 : decode cX12_init 56 = .ok (.aload_n 0, 1) := by decide +kernel
theorem dX12_init_57 : decode cX12_init 57 = .ok (.bipush 55, 2) := by decide +kernel
theorem dX12_init_59 : decode cX12_init 59 = .ok (.newarray .int, 2) := by decide +kernel
theorem dX12_init_61 : decode cX12_init 61 = .ok (.putfield 34, 3) := by decide +kernel
theorem dX12_init_64 : decode cX12_init 64 = .ok (.aload_n 0, 1) := by decide +kernel
theorem dX12_init_65 : decode cX12_init 65 = .ok (.bipush 120, 2) := by decide +kernel
theorem dX12_init_67 : decode cX12_init 67 = .ok (.newarray .int, 2) := by decide +kernel
theorem dX12_init_69 : decode cX12_init 69 = .ok (.putfield 37, 3) := by decide +kernel
theorem dX12_init_72 : decode cX12_init 72 = .ok (.aload_n 0, 1) := by decide +kernel
theorem dX12_init_73 : decode cX12_init 73 = .ok (.bipush 30, 2) := by decide +kernel
theorem dX12_init_75 : decode cX12_init 75 = .ok (.newarray .int, 2) := by decide +kernel
theorem dX12_init_77 : decode cX12_init 77 = .ok (.putfield 40, 3) := by decide +kernel
theorem dX12_init_80 : decode cX12_init 80 = .ok (.aload_n 0, 1) := by decide +kernel
theorem dX12_init_81 : decode cX12_init 81 = .ok (.sipush 160, 3) := by decide +kernel
theorem dX12_init_84 : decode cX12_init 84 = .ok (.newarray .int, 2) := by decide +kernel
theorem dX12_init_86 : decode cX12_init 86 = .ok (.putfield 43, 3) := by decide +kernel
theorem dX12_init_89 : decode cX12_init 89 = .ok (.aload_n 0, 1) := by decide +kernel
theorem dX12_init_90 : decode cX12_init 90 = .ok (.sipush 1000, 3) := by decide +kernel
theorem dX12_init_93 : decode cX12_init 93 = .ok (.newarray .boolean, 2) := by decide +kernel
theorem dX12_init_95 : decode cX12_init 95 = .ok (.putfield 46, 3) := by decide +kernel
theorem dX12_init_98 : decode cX12_init 98 = .ok (.aload_n 0, 1) := by decide +kernel
theorem dX12_init_99 : decode cX12_init 99 = .ok (.bipush 120, 2) := by decide +kernel
theorem dX12_init_101 : decode cX12_init 101 = .ok (.newarray .int, 2) := by decide +kernel
theorem dX12_init_103 : decode cX12_init 103 = .ok (.putfield 50, 3) := by decide +kernel
theorem dX12_init_106 : decode cX12_init 106 = .ok (.aload_n 0, 1) := by decide +kernel
theorem dX12_init_107 : decode cX12_init 107 = .ok (.bipush 50, 2) := by decide +kernel
theorem dX12_init_109 : decode cX12_init 109 = .ok (.newarray .int, 2) := by decide +kernel
theorem dX12_init_111 : decode cX12_init 111 = .ok (.putfield 53, 3) := by decide +kernel
theorem dX12_init_114 : decode cX12_init 114 = .ok (.aload_n 0, 1) := by decide +kernel
theorem dX12_init_115 : decode cX12_init 115 = .ok (.sipush 800, 3) := by decide +kernel
theorem dX12_init_118 : decode cX12_init 118 = .ok (.newarray .int, 2) := by decide +kernel
theorem dX12_init_120 : decode cX12_init 120 = .ok (.putfield 56, 3) := by decide +kernel
theorem dX12_init_123 : decode cX12_init 123 = .ok (.aload_n 0, 1) := by decide +kernel
theorem dX12_init_124 : decode cX12_init 124 = .ok (.iconst 3, 1) := by decide +kernel
theorem dX12_init_125 : decode cX12_init 125 = .ok (.newarray .boolean, 2) := by decide +kernel
theorem dX12_init_127 : decode cX12_init 127 = .ok (.putfield 59, 3) := by decide +kernel
theorem dX12_init_130 : decode cX12_init 130 = .ok (.aload_n 0, 1) := by decide +kernel
theorem dX12_init_131 : decode cX12_init 131 = .ok (.bipush 13, 2) := by decide +kernel
theorem dX12_init_133 : decode cX12_init 133 = .ok (.newarray .int, 2) := by decide +kernel
theorem dX12_init_135 : decode cX12_init 135 = .ok (.putfield 62, 3) := by decide +kernel
theorem dX12_init_138 : decode cX12_init 138 = .ok (.aload_n 0, 1) := by decide +kernel
theorem dX12_init_139 : decode cX12_init 139 = .ok (.sipush 402, 3) := by decide +kernel
theorem dX12_init_142 : decode cX12_init 142 = .ok (.newarray .int, 2) := by decide +kernel
theorem dX12_init_144 : decode cX12_init 144 = .ok (.putfield 65, 3) := by decide +kernel
theorem dX12_init_147 : decode cX12_init 147 = .ok (.aload_n 0, 1) := by decide +kernel
theorem dX12_init_148 : decode cX12_init 148 = .ok (.sipush 400, 3) := by decide +kernel
theorem dX12_init_151 : decode cX12_init 151 = .ok (.newarray .int, 2) := by decide +kernel
theorem dX12_init_153 : decode cX12_init 153 = .ok (.putfield 68, 3) := by decide +kernel
theorem dX12_init_156 : decode cX12_init 156 = .ok (.aload_n 0, 1) := by decide +kernel
theorem dX12_init_157 : decode cX12_init 157 = .ok (.sipush 560, 3) := by decide +kernel
theorem dX12_init_160 : decode cX12_init 160 = .ok (.newarray .int, 2) := by decide +kernel
theorem dX12_init_162 : decode cX12_init 162 = .ok (.putfield 71, 3) := by decide +kernel
theorem dX12_init_165 : decode cX12_init 165 = .ok (.aload_n 0, 1) := by decide +kernel
theorem dX12_init_166 : decode cX12_init 166 = .ok (.bipush 24, 2) := by decide +kernel
theorem dX12_init_168 : decode cX12_init 168 = .ok (.newarray .int, 2) := by decide +kernel
theorem dX12_init_170 : decode cX12_init 170 = .ok (.putfield 74, 3) := by decide +kernel
theorem dX12_init_173 : decode cX12_init 173 = .ok (.aload_n 0, 1) := by decide +kernel
theorem dX12_init_174 : decode cX12_init 174 = .ok (.sipush 24576, 3) := by decide +kernel
theorem dX12_init_177 : decode cX12_init 177 = .ok (.newarray .int, 2) := by decide +kernel
theorem dX12_init_179 : decode cX12_init 179 = .ok (.putfield 77, 3) := by decide +kernel
theorem dX12_init_182 : decode cX12_init 182 = .ok (.iconst 0, 1) := by decide +kernel
theorem dX12_init_183 : decode cX12_init 183 = .ok (.istore_n 1, 1) := by decide +kernel
theorem dX12_init_184 : decode cX12_init 184 = .ok (.iload_n 1, 1) := by decide +kernel
theorem dX12_init_185 : decode cX12_init 185 = .ok (.iconst 4, 1) := by decide +kernel
theorem dX12_init_186 : decode cX12_init 186 = .ok (.if_icmp .ge 16, 3) := by decide +kernel
theorem dX12_init_189 : decode cX12_init 189 = .ok (.aload_n 0, 1) := by decide +kernel
theorem dX12_init_190 : decode cX12_init 190 = .ok (.getfield 7, 3) := by decide +kernel
theorem dX12_init_193 : decode cX12_init 193 = .ok (.iload_n 1, 1) := by decide +kernel
theorem dX12_init_194 : decode cX12_init 194 = .ok (.iconst (-1), 1) := by decide +kernel
theorem dX12_init_195 : decode cX12_init 195 = .ok (.iastore, 1) := by decide +kernel
theorem dX12_init_196 : decode cX12_init 196 = .ok (.iinc 1 1, 3) := by decide +kernel
theorem dX12_init_199 : decode cX12_init 199 = .ok (.goto (-15), 3) := by decide +kernel
theorem dX12_init_202 : decode cX12_init 202 = .ok (.return_, 1) := by decide +kernel
theorem dX12_in_0 : decode cX12_in 0 = .ok (.lload_n 0, 1) := by decide +kernel
theorem dX12_in_1 : decode cX12_in 1 = .ok (.lload_n 2, 1) := by decide +kernel
theorem dX12_in_2 : decode cX12_in 2 = .ok (.lcmp, 1) := by decide +kernel
theorem dX12_in_3 : decode cX12_in 3 = .ok (.ifCond .lt 14, 3) := by decide +kernel
theorem dX12_in_6 : decode cX12_in 6 = .ok (.lload_n 0, 1) := by decide +kernel
theorem dX12_in_7 : decode cX12_in 7 = .ok (.lload 4, 2) := by decide +kernel
theorem dX12_in_9 : decode cX12_in 9 = .ok (.lcmp, 1) := by decide +kernel
theorem dX12_in_10 : decode cX12_in 10 = .ok (.ifCond .gt 7, 3) := by decide +kernel
theorem dX12_in_13 : decode cX12_in 13 = .ok (.iconst 1, 1) := by decide +kernel
theorem dX12_in_14 : decode cX12_in 14 = .ok (.goto 4, 3) := by decide +kernel
theorem dX12_in_17 : decode cX12_in 17 = .ok (.iconst 0, 1) := by decide +kernel
theorem dX12_in_18 : decode cX12_in 18 = .ok (.ireturn, 1) := by decide +kernel
set_option maxRecDepth 20000 in
theorem ggX12_isSlot_X12_in : GoodIn wsX12_isSlot wsX12_in := goodIn_r _ [5] (by decide +kernel) (by decide +kernel)
set_option maxRecDepth 20000 in
theorem gX12_isSlot_X12_in : GoodIn wsX12_isSlot (va_wsS RX12 85 yX12_in wsX12_in) := goodIn_app (goodIn_of _ (by decide +kernel)) ggX12_isSlot_X12_in
theorem dX12_isSlot_0 : decode cX12_isSlot 0 = .ok (.iload_n 0, 1) := by decide +kernel
theorem dX12_isSlot_1 : decode cX12_isSlot 1 = .ok (.i2l, 1) := by decide +kernel
theorem dX12_isSlot_2 : decode cX12_isSlot 2 = .ok (.lconst 0, 1) := by decide +kernel
theorem dX12_isSlot_3 : decode cX12_isSlot 3 = .ok (.ldc2_w 83, 3) := by decide +kernel
theorem dX12_isSlot_6 : decode cX12_isSlot 6 = .ok (.invokestatic 85, 3) := by decide +kernel
theorem dX12_isSlot_9 : decode cX12_isSlot 9 = .ok (.ireturn, 1) := by decide +kernel
set_option maxRecDepth 20000 in
theorem ggX12_row_X12_isSlot : GoodIn wsX12_row wsX12_isSlot := goodIn_r _ [9, 2, 10, 11, 8, 12] (by decide +kernel) (by decide +kernel)
set_option maxRecDepth 20000 in
theorem gX12_row_X12_isSlot : GoodIn wsX12_row (va_wsS RX12 89 yX12_isSlot wsX12_isSlot) := goodIn_app (goodIn_of _ (by decide +kernel)) ggX12_row_X12_isSlot
set_option maxRecDepth 20000 in
theorem ggX12_row_X12_in : GoodIn wsX12_row wsX12_in := goodIn_r _ [12] (by decide +kernel) (by decide +kernel)
set_option maxRecDepth 20000 in
theorem gX12_row_X12_in : GoodIn wsX12_row (va_wsS RX12 85 yX12_in wsX12_in) := goodIn_app (goodIn_of _ (by decide +kernel)) ggX12_row_X12_in
theorem dX12_row_0 : decode cX12_row 0 = .ok (.aload_n 0, 1) := by decide +kernel
theorem dX12_row_1 : decode cX12_row 1 = .ok (.iconst 0, 1) := by decide +kernel
theorem dX12_row_2 : decode cX12_row 2 = .ok (.putfield 80, 3) := by decide +kernel
theorem dX12_row_5 : decode cX12_row 5 = .ok (.iload_n 1, 1) := by decide +kernel
theorem dX12_row_6 : decode cX12_row 6 = .ok (.invokestatic 89, 3) := by decide +kernel
theorem dX12_row_9 : decode cX12_row 9 = .ok (.ifCond .eq 21, 3) := by decide +kernel
theorem dX12_row_12 : decode cX12_row 12 = .ok (.iload_n 2, 1) := by decide +kernel
theorem dX12_row_13 : decode cX12_row 13 = .ok (.i2l, 1) := by decide +kernel
theorem dX12_row_14 : decode cX12_row 14 = .ok (.lconst 0, 1) := by decide +kernel
theorem dX12_row_15 : decode cX12_row 15 = .ok (.ldc2_w 83, 3) := by decide +kernel
theorem dX12_row_18 : decode cX12_row 18 = .ok (.invokestatic 85, 3) := by decide +kernel
theorem dX12_row_21 : decode cX12_row 21 = .ok (.ifCond .eq 9, 3) := by decide +kernel
theorem dX12_row_24 : decode cX12_row 24 = .ok (.iload_n 3, 1) := by decide +kernel
theorem dX12_row_25 : decode cX12_row 25 = .ok (.bipush 60, 2) := by decide +kernel
theorem dX12_row_27 : decode cX12_row 27 = .ok (.if_icmp .le 6, 3) := by decide +kernel
theorem dX12_row_30 : decode cX12_row 30 = .ok (.bipush (-2), 2) := by decide +kernel
theorem dX12_row_32 : decode cX12_row 32 = .ok (.ireturn, 1) := by decide +kernel
theorem dX12_row_33 : decode cX12_row 33 = .ok (.iload_n 3, 1) := by decide +kernel
theorem dX12_row_34 : decode cX12_row 34 = .ok (.ifCond .ge 6, 3) := by decide +kernel
theorem dX12_row_37 : decode cX12_row 37 = .ok (.bipush (-3), 2) := by decide +kernel
theorem dX12_row_39 : decode cX12_row 39 = .ok (.ireturn, 1) := by decide +kernel
theorem dX12_row_40 : decode cX12_row 40 = .ok (.aload_n 0, 1) := by decide +kernel
theorem dX12_row_41 : decode cX12_row 41 = .ok (.getfield 7, 3) := by decide +kernel
theorem dX12_row_44 : decode cX12_row 44 = .ok (.iload_n 1, 1) := by decide +kernel
theorem dX12_row_45 : decode cX12_row 45 = .ok (.iload_n 2, 1) := by decide +kernel
theorem dX12_row_46 : decode cX12_row 46 = .ok (.iastore, 1) := by decide +kernel
theorem dX12_row_47 : decode cX12_row 47 = .ok (.aload_n 0, 1) := by decide +kernel
theorem dX12_row_48 : decode cX12_row 48 = .ok (.getfield 13, 3) := by decide +kernel
theorem dX12_row_51 : decode cX12_row 51 = .ok (.iload_n 1, 1) := by decide +kernel
theorem dX12_row_52 : decode cX12_row 52 = .ok (.iload_n 3, 1) := by decide +kernel
theorem dX12_row_53 : decode cX12_row 53 = .ok (.iastore, 1) := by decide +kernel
theorem dX12_row_54 : decode cX12_row 54 = .ok (.iconst 0, 1) := by decide +kernel
theorem dX12_row_55 : decode cX12_row 55 = .ok (.istore 4, 2) := by decide +kernel
theorem dX12_row_57 : decode cX12_row 57 = .ok (.iload 4, 2) := by decide +kernel
theorem dX12_row_59 : decode cX12_row 59 = .ok (.iload_n 3, 1) := by decide +kernel
theorem dX12_row_60 : decode cX12_row 60 = .ok (.if_icmp .ge 22, 3) := by decide +kernel
theorem dX12_row_63 : decode cX12_row 63 = .ok (.aload_n 0, 1) := by decide +kernel
theorem dX12_row_64 : decode cX12_row 64 = .ok (.getfield 16, 3) := by decide +kernel
theorem dX12_row_67 : decode cX12_row 67 = .ok (.bipush 60, 2) := by decide +kernel
theorem dX12_row_69 : decode cX12_row 69 = .ok (.iload_n 1, 1) := by decide +kernel
theorem dX12_row_70 : decode cX12_row 70 = .ok (.imul, 1) := by decide +kernel
theorem dX12_row_71 : decode cX12_row 71 = .ok (.iload 4, 2) := by decide +kernel
theorem dX12_row_73 : decode cX12_row 73 = .ok (.iadd, 1) := by decide +kernel
theorem dX12_row_74 : decode cX12_row 74 = .ok (.lconst 0, 1) := by decide +kernel
theorem dX12_row_75 : decode cX12_row 75 = .ok (.lastore, 1) := by decide +kernel
theorem dX12_row_76 : decode cX12_row 76 = .ok (.iinc 4 1, 3) := by decide +kernel
theorem dX12_row_79 : decode cX12_row 79 = .ok (.goto (-22), 3) := by decide +kernel
theorem dX12_row_82 : decode cX12_row 82 = .ok (.iconst 0, 1) := by decide +kernel
theorem dX12_row_83 : decode cX12_row 83 = .ok (.ireturn, 1) := by decide +kernel
set_option maxRecDepth 20000 in
theorem ggX12_write_X12_isSlot : GoodIn wsX12_write wsX12_isSlot := goodIn_r _ [8, 9, 10, 11, 7, 12] (by decide +kernel) (by decide +kernel)
set_option maxRecDepth 20000 in
theorem gX12_write_X12_isSlot : GoodIn wsX12_write (va_wsS RX12 89 yX12_isSlot wsX12_isSlot) := goodIn_app (goodIn_of _ (by decide +kernel)) ggX12_write_X12_isSlot
theorem dX12_write_0 : decode cX12_write 0 = .ok (.aload_n 0, 1) := by decide +kernel
theorem dX12_write_1 : decode cX12_write 1 = .ok (.iconst 0, 1) := by decide +kernel
theorem dX12_write_2 : decode cX12_write 2 = .ok (.putfield 80, 3) := by decide +kernel
theorem dX12_write_5 : decode cX12_write 5 = .ok (.iload_n 1, 1) := by decide +kernel
theorem dX12_write_6 : decode cX12_write 6 = .ok (.invokestatic 89, 3) := by decide +kernel
theorem dX12_write_9 : decode cX12_write 9 = .ok (.ifCond .ne 6, 3) := by decide +kernel
theorem dX12_write_12 : decode cX12_write 12 = .ok (.bipush (-2), 2) := by decide +kernel
theorem dX12_write_14 : decode cX12_write 14 = .ok (.ireturn, 1) := by decide +kernel
theorem dX12_write_15 : decode cX12_write 15 = .ok (.aload_n 0, 1) := by decide +kernel
theorem dX12_write_16 : decode cX12_write 16 = .ok (.getfield 7, 3) := by decide +kernel
theorem dX12_write_19 : decode cX12_write 19 = .ok (.iload_n 1, 1) := by decide +kernel
theorem dX12_write_20 : decode cX12_write 20 = .ok (.iaload, 1) := by decide +kernel
theorem dX12_write_21 : decode cX12_write 21 = .ok (.iconst (-1), 1) := by decide +kernel
theorem dX12_write_22 : decode cX12_write 22 = .ok (.if_icmp .ne 6, 3) := by decide +kernel
theorem dX12_write_25 : decode cX12_write 25 = .ok (.bipush (-6), 2) := by decide +kernel
theorem dX12_write_27 : decode cX12_write 27 = .ok (.ireturn, 1) := by decide +kernel
set_option maxRecDepth 20000 in
theorem ggX12_paste_X12_isSlot : GoodIn wsX12_paste wsX12_isSlot := goodIn_r _ [9, 10, 11, 12, 8, 13] (by decide +kernel) (by decide +kernel)
set_option maxRecDepth 20000 in
theorem gX12_paste_X12_isSlot : GoodIn wsX12_paste (va_wsS RX12 89 yX12_isSlot wsX12_isSlot) := goodIn_app (goodIn_of _ (by decide +kernel)) ggX12_paste_X12_isSlot
theorem dX12_paste_0 : decode cX12_paste 0 = .ok (.aload_n 0, 1) := by decide +kernel
theorem dX12_paste_1 : decode cX12_paste 1 = .ok (.iconst 0, 1) := by decide +kernel
theorem dX12_paste_2 : decode cX12_paste 2 = .ok (.putfield 80, 3) := by decide +kernel
theorem dX12_paste_5 : decode cX12_paste 5 = .ok (.iload_n 1, 1) := by decide +kernel
theorem dX12_paste_6 : decode cX12_paste 6 = .ok (.invokestatic 89, 3) := by decide +kernel
theorem dX12_paste_9 : decode cX12_paste 9 = .ok (.ifCond .eq 10, 3) := by decide +kernel
theorem dX12_paste_12 : decode cX12_paste 12 = .ok (.iload_n 3, 1) := by decide +kernel
theorem dX12_paste_13 : decode cX12_paste 13 = .ok (.invokestatic 89, 3) := by decide +kernel
theorem dX12_paste_16 : decode cX12_paste 16 = .ok (.ifCond .ne 6, 3) := by decide +kernel
theorem dX12_paste_19 : decode cX12_paste 19 = .ok (.bipush (-2), 2) := by decide +kernel
theorem dX12_paste_21 : decode cX12_paste 21 = .ok (.ireturn, 1) := by decide +kernel
theorem dX12_paste_22 : decode cX12_paste 22 = .ok (.aload_n 0, 1) := by decide +kernel
theorem dX12_paste_23 : decode cX12_paste 23 = .ok (.getfield 7, 3) := by decide +kernel
theorem dX12_paste_26 : decode cX12_paste 26 = .ok (.iload_n 1, 1) := by decide +kernel
theorem dX12_paste_27 : decode cX12_paste 27 = .ok (.iaload, 1) := by decide +kernel
theorem dX12_paste_28 : decode cX12_paste 28 = .ok (.iconst (-1), 1) := by decide +kernel
theorem dX12_paste_29 : decode cX12_paste 29 = .ok (.if_icmp .eq 13, 3) := by decide +kernel
theorem dX12_paste_42 : decode cX12_paste 42 = .ok (.bipush (-6), 2) := by decide +kernel
theorem dX12_paste_44 : decode cX12_paste 44 = .ok (.ireturn, 1) := by decide +kernel
set_option maxRecDepth 20000 in
theorem ggX12_feed_X12_four : GoodIn wsX12_feed wsX12_four := goodIn_r _ [7, 8, 2, 9, 10, 11, 12, 13, 14, 15, 16, 17, 18, 19, 20, 21, 22, 23, 24, 25, 26, 27, 28, 29, 30, 31, 32, 33, 34, 35, 36, 37, 38, 39, 40, 41, 42, 43, 44, 45, 46, 47, 48, 49, 50, 51, 52, 53] (by decide +kernel) (by decide +kernel)
set_option maxRecDepth 20000 in
theorem gX12_feed_X12_four : GoodIn wsX12_feed (wsV RX12 100 RX12 yX12_four wsX12_four) := goodIn_app (goodIn_of _ (by decide +kernel)) ggX12_feed_X12_four
theorem dX12_feed_0 : decode cX12_feed 0 = .ok (.aload_n 0, 1) := by decide +kernel
theorem dX12_feed_1 : decode cX12_feed 1 = .ok (.iconst 0, 1) := by decide +kernel
theorem dX12_feed_2 : decode cX12_feed 2 = .ok (.putfield 80, 3) := by decide +kernel
theorem dX12_feed_5 : decode cX12_feed 5 = .ok (.aload_n 0, 1) := by decide +kernel
theorem dX12_feed_6 : decode cX12_feed 6 = .ok (.getfield 97, 3) := by decide +kernel
theorem dX12_feed_9 : decode cX12_feed 9 = .ok (.bipush 20, 2) := by decide +kernel
theorem dX12_feed_11 : decode cX12_feed 11 = .ok (.iadd, 1) := by decide +kernel
theorem dX12_feed_12 : decode cX12_feed 12 = .ok (.sipush 1200, 3) := by decide +kernel
theorem dX12_feed_15 : decode cX12_feed 15 = .ok (.if_icmp .le 5, 3) := by decide +kernel
theorem dX12_feed_20 : decode cX12_feed 20 = .ok (.aload_n 0, 1) := by decide +kernel
theorem dX12_feed_21 : decode cX12_feed 21 = .ok (.iload_n 1, 1) := by decide +kernel
theorem dX12_feed_22 : decode cX12_feed 22 = .ok (.invokevirtual 100, 3) := by decide +kernel
theorem dX12_feed_25 : decode cX12_feed 25 = .ok (.aload_n 0, 1) := by decide +kernel
theorem dX12_feed_26 : decode cX12_feed 26 = .ok (.iload_n 2, 1) := by decide +kernel
theorem dX12_feed_27 : decode cX12_feed 27 = .ok (.invokevirtual 100, 3) := by decide +kernel
theorem dX12_feed_30 : decode cX12_feed 30 = .ok (.aload_n 0, 1) := by decide +kernel
theorem dX12_feed_31 : decode cX12_feed 31 = .ok (.iload_n 3, 1) := by decide +kernel
theorem dX12_feed_32 : decode cX12_feed 32 = .ok (.invokevirtual 100, 3) := by decide +kernel
theorem dX12_feed_35 : decode cX12_feed 35 = .ok (.aload_n 0, 1) := by decide +kernel
theorem dX12_feed_36 : decode cX12_feed 36 = .ok (.iload 4, 2) := by decide +kernel
theorem dX12_feed_38 : decode cX12_feed 38 = .ok (.invokevirtual 100, 3) := by decide +kernel
theorem dX12_feed_41 : decode cX12_feed 41 = .ok (.aload_n 0, 1) := by decide +kernel
theorem dX12_feed_42 : decode cX12_feed 42 = .ok (.iload 5, 2) := by decide +kernel
theorem dX12_feed_44 : decode cX12_feed 44 = .ok (.invokevirtual 100, 3) := by decide +kernel
theorem dX12_feed_47 : decode cX12_feed 47 = .ok (.aload_n 0, 1) := by decide +kernel
theorem dX12_feed_48 : decode cX12_feed 48 = .ok (.getfield 97, 3) := by decide +kernel
theorem dX12_feed_51 : decode cX12_feed 51 = .ok (.ireturn, 1) := by decide +kernel
theorem dX12_four_0 : decode cX12_four 0 = .ok (.bipush 24, 2) := by decide +kernel
theorem dX12_four_2 : decode cX12_four 2 = .ok (.istore_n 2, 1) := by decide +kernel
theorem dX12_four_3 : decode cX12_four 3 = .ok (.iload_n 2, 1) := by decide +kernel
theorem dX12_four_4 : decode cX12_four 4 = .ok (.ifCond .lt 32, 3) := by decide +kernel
theorem dX12_four_7 : decode cX12_four 7 = .ok (.aload_n 0, 1) := by decide +kernel
theorem dX12_four_8 : decode cX12_four 8 = .ok (.getfield 23, 3) := by decide +kernel
theorem dX12_four_11 : decode cX12_four 11 = .ok (.aload_n 0, 1) := by decide +kernel
theorem dX12_four_12 : decode cX12_four 12 = .ok (.getfield 97, 3) := by decide +kernel
theorem dX12_four_15 : decode cX12_four 15 = .ok (.iload_n 1, 1) := by decide +kernel
theorem dX12_four_16 : decode cX12_four 16 = .ok (.iload_n 2, 1) := by decide +kernel
theorem dX12_four_17 : decode cX12_four 17 = .ok (.ishr, 1) := by decide +kernel
theorem dX12_four_18 : decode cX12_four 18 = .ok (.i2b, 1) := by decide +kernel
theorem dX12_four_19 : decode cX12_four 19 = .ok (.bastore, 1) := by decide +kernel
theorem dX12_four_20 : decode cX12_four 20 = .ok (.aload_n 0, 1) := by decide +kernel
theorem dX12_four_21 : decode cX12_four 21 = .ok (.dup, 1) := by decide +kernel
theorem dX12_four_22 : decode cX12_four 22 = .ok (.getfield 97, 3) := by decide +kernel
theorem dX12_four_25 : decode cX12_four 25 = .ok (.iconst 1, 1) := by decide +kernel
theorem dX12_four_26 : decode cX12_four 26 = .ok (.iadd, 1) := by decide +kernel
theorem dX12_four_27 : decode cX12_four 27 = .ok (.putfield 97, 3) := by decide +kernel
theorem dX12_four_30 : decode cX12_four 30 = .ok (.iinc 2 (-8), 3) := by decide +kernel
theorem dX12_four_33 : decode cX12_four 33 = .ok (.goto (-30), 3) := by decide +kernel
theorem dX12_four_36 : decode cX12_four 36 = .ok (.return_, 1) := by decide +kernel
set_option maxRecDepth 20000 in
theorem ggX12_end_X12_in : GoodIn wsX12_end wsX12_in := goodIn_r _ [6] (by decide +kernel) (by decide +kernel)
set_option maxRecDepth 20000 in
theorem gX12_end_X12_in : GoodIn wsX12_end (va_wsS RX12 85 yX12_in wsX12_in) := goodIn_app (goodIn_of _ (by decide +kernel)) ggX12_end_X12_in
theorem dX12_end_0 : decode cX12_end 0 = .ok (.aload_n 0, 1) := by decide +kernel
theorem dX12_end_1 : decode cX12_end 1 = .ok (.iconst 0, 1) := by decide +kernel
theorem dX12_end_2 : decode cX12_end 2 = .ok (.putfield 80, 3) := by decide +kernel
theorem dX12_end_5 : decode cX12_end 5 = .ok (.iload_n 1, 1) := by decide +kernel
theorem dX12_end_6 : decode cX12_end 6 = .ok (.i2l, 1) := by decide +kernel
theorem dX12_end_7 : decode cX12_end 7 = .ok (.lconst 0, 1) := by decide +kernel
theorem dX12_end_8 : decode cX12_end 8 = .ok (.aload_n 0, 1) := by decide +kernel
theorem dX12_end_9 : decode cX12_end 9 = .ok (.getfield 97, 3) := by decide +kernel
theorem dX12_end_12 : decode cX12_end 12 = .ok (.i2l, 1) := by decide +kernel
theorem dX12_end_13 : decode cX12_end 13 = .ok (.invokestatic 85, 3) := by decide +kernel
theorem dX12_end_16 : decode cX12_end 16 = .ok (.ifCond .ne 5, 3) := by decide +kernel
theorem dX12_end_19 : decode cX12_end 19 = .ok (.iconst (-1), 1) := by decide +kernel
theorem dX12_end_20 : decode cX12_end 20 = .ok (.ireturn, 1) := by decide +kernel
theorem dX12_end_21 : decode cX12_end 21 = .ok (.aload_n 0, 1) := by decide +kernel
theorem dX12_end_22 : decode cX12_end 22 = .ok (.iload_n 1, 1) := by decide +kernel
theorem dX12_end_23 : decode cX12_end 23 = .ok (.putfield 97, 3) := by decide +kernel
theorem dX12_end_26 : decode cX12_end 26 = .ok (.iload_n 1, 1) := by decide +kernel
theorem dX12_end_27 : decode cX12_end 27 = .ok (.ireturn, 1) := by decide +kernel
theorem dX12_isByte_0 : decode cX12_isByte 0 = .ok (.iload_n 1, 1) := by decide +kernel
theorem dX12_isByte_1 : decode cX12_isByte 1 = .ok (.aload_n 0, 1) := by decide +kernel
theorem dX12_isByte_2 : decode cX12_isByte 2 = .ok (.getfield 97, 3) := by decide +kernel
theorem dX12_isByte_5 : decode cX12_isByte 5 = .ok (.if_icmp .ge 27, 3) := by decide +kernel
theorem dX12_isByte_32 : decode cX12_isByte 32 = .ok (.iconst 0, 1) := by decide +kernel
theorem dX12_isByte_33 : decode cX12_isByte 33 = .ok (.ireturn, 1) := by decide +kernel
set_option maxRecDepth 20000 in
theorem ggX12_next_X12_isByte : GoodIn wsX12_next wsX12_isByte := goodIn_r _ [17, 5, 9, 18, 19, 20, 21, 22, 23, 24, 25, 26, 27, 28, 29, 30, 31, 32, 33, 34, 35, 36, 37, 38, 39, 40, 41, 42, 43, 44, 45, 46, 47, 48, 49, 50, 51, 52, 53, 54, 55, 56, 57, 58, 59, 60, 61, 62] (by decide +kernel) (by decide +kernel)
set_option maxRecDepth 20000 in
theorem gX12_next_X12_isByte : GoodIn wsX12_next (wsV RX12 107 RX12 yX12_isByte wsX12_isByte) := goodIn_app (goodIn_of _ (by decide +kernel)) ggX12_next_X12_isByte
theorem dX12_next_0 : decode cX12_next 0 = .ok (.aload_n 0, 1) := by decide +kernel
theorem dX12_next_1 : decode cX12_next 1 = .ok (.aload_n 0, 1) := by decide +kernel
theorem dX12_next_2 : decode cX12_next 2 = .ok (.getfield 104, 3) := by decide +kernel
theorem dX12_next_5 : decode cX12_next 5 = .ok (.bipush 32, 2) := by decide +kernel
theorem dX12_next_7 : decode cX12_next 7 = .ok (.bipush 32, 2) := by decide +kernel
theorem dX12_next_9 : decode cX12_next 9 = .ok (.invokevirtual 107, 3) := by decide +kernel
theorem dX12_next_12 : decode cX12_next 12 = .ok (.ifCond .ne 18, 3) := by decide +kernel
theorem dX12_next_15 : decode cX12_next 15 = .ok (.aload_n 0, 1) := by decide +kernel
theorem dX12_next_16 : decode cX12_next 16 = .ok (.aload_n 0, 1) := by decide +kernel
theorem dX12_next_17 : decode cX12_next 17 = .ok (.getfield 104, 3) := by decide +kernel
theorem dX12_next_20 : decode cX12_next 20 = .ok (.bipush 10, 2) := by decide +kernel
theorem dX12_next_22 : decode cX12_next 22 = .ok (.bipush 10, 2) := by decide +kernel
theorem dX12_next_24 : decode cX12_next 24 = .ok (.invokevirtual 107, 3) := by decide +kernel
theorem dX12_next_27 : decode cX12_next 27 = .ok (.ifCond .eq 16, 3) := by decide +kernel
theorem dX12_next_43 : decode cX12_next 43 = .ok (.aload_n 0, 1) := by decide +kernel
theorem dX12_next_44 : decode cX12_next 44 = .ok (.aload_n 0, 1) := by decide +kernel
theorem dX12_next_45 : decode cX12_next 45 = .ok (.getfield 104, 3) := by decide +kernel
theorem dX12_next_48 : decode cX12_next 48 = .ok (.putfield 111, 3) := by decide +kernel
theorem dX12_next_51 : decode cX12_next 51 = .ok (.aload_n 0, 1) := by decide +kernel
theorem dX12_next_52 : decode cX12_next 52 = .ok (.iconst 0, 1) := by decide +kernel
theorem dX12_next_53 : decode cX12_next 53 = .ok (.putfield 114, 3) := by decide +kernel
theorem dX12_next_56 : decode cX12_next 56 = .ok (.aload_n 0, 1) := by decide +kernel
theorem dX12_next_57 : decode cX12_next 57 = .ok (.lconst 0, 1) := by decide +kernel
theorem dX12_next_58 : decode cX12_next 58 = .ok (.putfield 117, 3) := by decide +kernel
theorem dX12_next_61 : decode cX12_next 61 = .ok (.aload_n 0, 1) := by decide +kernel
theorem dX12_next_62 : decode cX12_next 62 = .ok (.getfield 104, 3) := by decide +kernel
theorem dX12_next_65 : decode cX12_next 65 = .ok (.aload_n 0, 1) := by decide +kernel
theorem dX12_next_66 : decode cX12_next 66 = .ok (.getfield 97, 3) := by decide +kernel
theorem dX12_next_69 : decode cX12_next 69 = .ok (.if_icmp .ne 11, 3) := by decide +kernel
theorem dX12_next_72 : decode cX12_next 72 = .ok (.aload_n 0, 1) := by decide +kernel
theorem dX12_next_73 : decode cX12_next 73 = .ok (.iconst 0, 1) := by decide +kernel
theorem dX12_next_74 : decode cX12_next 74 = .ok (.putfield 121, 3) := by decide +kernel
theorem dX12_next_77 : decode cX12_next 77 = .ok (.goto 230, 3) := by decide +kernel
theorem dX12_next_307 : decode cX12_next 307 = .ok (.return_, 1) := by decide +kernel
theorem dX12_isGood_0 : decode cX12_isGood 0 = .ok (.aload_n 0, 1) := by decide +kernel
theorem dX12_isGood_1 : decode cX12_isGood 1 = .ok (.getfield 132, 3) := by decide +kernel
theorem dX12_isGood_4 : decode cX12_isGood 4 = .ok (.ifCond .ne 7, 3) := by decide +kernel
theorem dX12_isGood_7 : decode cX12_isGood 7 = .ok (.iconst 1, 1) := by decide +kernel
theorem dX12_isGood_8 : decode cX12_isGood 8 = .ok (.goto 4, 3) := by decide +kernel
theorem dX12_isGood_12 : decode cX12_isGood 12 = .ok (.ireturn, 1) := by decide +kernel
set_option maxRecDepth 20000 in
theorem ggX12_begins_X12_next : GoodIn wsX12_begins wsX12_next := goodIn_r _ [8, 3, 9, 10, 11, 12, 13, 14, 15, 16, 17, 18, 19, 20, 21, 22, 7, 23, 24, 25, 26, 27, 28, 29, 30, 31, 32, 33, 34, 35, 36, 37, 38, 39, 40, 41, 42, 43, 44, 45, 46, 47, 48, 49, 50, 51, 52, 53, 54, 55, 56, 57, 58, 59, 60, 61, 62, 63, 64, 65, 66, 67, 68] (by decide +kernel) (by decide +kernel)
set_option maxRecDepth 20000 in
theorem gX12_begins_X12_next : GoodIn wsX12_begins (wsV RX12 142 RX12 yX12_next wsX12_next) := goodIn_app (goodIn_of _ (by decide +kernel)) ggX12_begins_X12_next
theorem dX12_begins_0 : decode cX12_begins 0 = .ok (.aload_n 0, 1) := by decide +kernel
theorem dX12_begins_1 : decode cX12_begins 1 = .ok (.iconst 0, 1) := by decide +kernel
theorem dX12_begins_2 : decode cX12_begins 2 = .ok (.putfield 132, 3) := by decide +kernel
theorem dX12_begins_5 : decode cX12_begins 5 = .ok (.aload_n 0, 1) := by decide +kernel
theorem dX12_begins_6 : decode cX12_begins 6 = .ok (.iconst (-1), 1) := by decide +kernel
theorem dX12_begins_7 : decode cX12_begins 7 = .ok (.putfield 135, 3) := by decide +kernel
theorem dX12_begins_10 : decode cX12_begins 10 = .ok (.aload_n 0, 1) := by decide +kernel
theorem dX12_begins_11 : decode cX12_begins 11 = .ok (.iconst 0, 1) := by decide +kernel
theorem dX12_begins_12 : decode cX12_begins 12 = .ok (.putfield 104, 3) := by decide +kernel
theorem dX12_begins_15 : decode cX12_begins 15 = .ok (.aload_n 0, 1) := by decide +kernel
theorem dX12_begins_16 : decode cX12_begins 16 = .ok (.invokevirtual 142, 3) := by decide +kernel
theorem dX12_begins_19 : decode cX12_begins 19 = .ok (.return_, 1) := by decide +kernel
theorem dX12_isOver_0 : decode cX12_isOver 0 = .ok (.aload_n 0, 1) := by decide +kernel
theorem dX12_isOver_1 : decode cX12_isOver 1 = .ok (.iconst 0, 1) := by decide +kernel
theorem dX12_isOver_2 : decode cX12_isOver 2 = .ok (.putfield 97, 3) := by decide +kernel
theorem dX12_isOver_5 : decode cX12_isOver 5 = .ok (.aload_n 0, 1) := by decide +kernel
theorem dX12_isOver_6 : decode cX12_isOver 6 = .ok (.aload_n 0, 1) := by decide +kernel
theorem dX12_isOver_7 : decode cX12_isOver 7 = .ok (.getfield 132, 3) := by decide +kernel
theorem dX12_isOver_10 : decode cX12_isOver 10 = .ok (.putfield 159, 3) := by decide +kernel
theorem dX12_isOver_13 : decode cX12_isOver 13 = .ok (.aload_n 0, 1) := by decide +kernel
theorem dX12_isOver_14 : decode cX12_isOver 14 = .ok (.aload_n 0, 1) := by decide +kernel
theorem dX12_isOver_15 : decode cX12_isOver 15 = .ok (.getfield 132, 3) := by decide +kernel
theorem dX12_isOver_18 : decode cX12_isOver 18 = .ok (.ifCond .ne 7, 3) := by decide +kernel
theorem dX12_isOver_21 : decode cX12_isOver 21 = .ok (.iconst (-1), 1) := by decide +kernel
theorem dX12_isOver_22 : decode cX12_isOver 22 = .ok (.goto 7, 3) := by decide +kernel
theorem dX12_isOver_29 : decode cX12_isOver 29 = .ok (.putfield 27, 3) := by decide +kernel
theorem dX12_isOver_32 : decode cX12_isOver 32 = .ok (.return_, 1) := by decide +kernel
theorem dX12_fault_0 : decode cX12_fault 0 = .ok (.aload_n 0, 1) := by decide +kernel
theorem dX12_fault_1 : decode cX12_fault 1 = .ok (.iconst 0, 1) := by decide +kernel
theorem dX12_fault_2 : decode cX12_fault 2 = .ok (.putfield 80, 3) := by decide +kernel
theorem dX12_fault_5 : decode cX12_fault 5 = .ok (.iload_n 1, 1) := by decide +kernel
theorem dX12_fault_6 : decode cX12_fault 6 = .ok (.ifCond .ne 10, 3) := by decide +kernel
theorem dX12_fault_9 : decode cX12_fault 9 = .ok (.aload_n 0, 1) := by decide +kernel
theorem dX12_fault_10 : decode cX12_fault 10 = .ok (.getfield 159, 3) := by decide +kernel
theorem dX12_fault_13 : decode cX12_fault 13 = .ok (.goto 16, 3) := by decide +kernel
theorem dX12_fault_16 : decode cX12_fault 16 = .ok (.iload_n 1, 1) := by decide +kernel
theorem dX12_fault_17 : decode cX12_fault 17 = .ok (.iconst 1, 1) := by decide +kernel
theorem dX12_fault_18 : decode cX12_fault 18 = .ok (.if_icmp .ne 10, 3) := by decide +kernel
theorem dX12_fault_21 : decode cX12_fault 21 = .ok (.aload_n 0, 1) := by decide +kernel
theorem dX12_fault_22 : decode cX12_fault 22 = .ok (.getfield 27, 3) := by decide +kernel
theorem dX12_fault_25 : decode cX12_fault 25 = .ok (.goto 4, 3) := by decide +kernel
theorem dX12_fault_28 : decode cX12_fault 28 = .ok (.iconst (-1), 1) := by decide +kernel
theorem dX12_fault_29 : decode cX12_fault 29 = .ok (.ireturn, 1) := by decide +kernel
theorem dX12_reads_0 : decode cX12_reads 0 = .ok (.aload_n 0, 1) := by decide +kernel
theorem dX12_reads_1 : decode cX12_reads 1 = .ok (.getfield 34, 3) := by decide +kernel
theorem dX12_reads_4 : decode cX12_reads 4 = .ok (.bipush 44, 2) := by decide +kernel
theorem dX12_reads_6 : decode cX12_reads 6 = .ok (.iload_n 1, 1) := by decide +kernel
theorem dX12_reads_7 : decode cX12_reads 7 = .ok (.iadd, 1) := by decide +kernel
theorem dX12_reads_8 : decode cX12_reads 8 = .ok (.iload_n 2, 1) := by decide +kernel
theorem dX12_reads_9 : decode cX12_reads 9 = .ok (.iastore, 1) := by decide +kernel
theorem dX12_reads_10 : decode cX12_reads 10 = .ok (.return_, 1) := by decide +kernel
set_option maxRecDepth 20000 in
theorem ggX12_clears_X12_reads : GoodIn wsX12_clears wsX12_reads := goodIn_r _ [8, 9, 10, 11, 12, 13, 14, 15, 16, 17, 18, 19, 20, 21, 22, 23, 24, 25, 26, 27, 28, 29, 30, 31, 32, 33, 34, 35, 36, 37, 38, 39, 40, 41, 42, 43, 44, 45, 46, 47, 48, 49, 50, 51, 52, 53, 54] (by decide +kernel) (by decide +kernel)
set_option maxRecDepth 20000 in
theorem gX12_clears_X12_reads : GoodIn wsX12_clears (wsV RX12 177 RX12 yX12_reads wsX12_reads) := goodIn_app (goodIn_of _ (by decide +kernel)) ggX12_clears_X12_reads
theorem dX12_clears_0 : decode cX12_clears 0 = .ok (.aload_n 0, 1) := by decide +kernel
theorem dX12_clears_1 : decode cX12_clears 1 = .ok (.getfield 31, 3) := by decide +kernel
theorem dX12_clears_4 : decode cX12_clears 4 = .ok (.iconst 4, 1) := by decide +kernel
theorem dX12_clears_5 : decode cX12_clears 5 = .ok (.iconst 0, 1) := by decide +kernel
theorem dX12_clears_6 : decode cX12_clears 6 = .ok (.iastore, 1) := by decide +kernel
theorem dX12_clears_7 : decode cX12_clears 7 = .ok (.iconst 0, 1) := by decide +kernel
theorem dX12_clears_8 : decode cX12_clears 8 = .ok (.istore_n 1, 1) := by decide +kernel
theorem dX12_clears_9 : decode cX12_clears 9 = .ok (.iload_n 1, 1) := by decide +kernel
theorem dX12_clears_10 : decode cX12_clears 10 = .ok (.bipush 11, 2) := by decide +kernel
theorem dX12_clears_12 : decode cX12_clears 12 = .ok (.if_icmp .ge 15, 3) := by decide +kernel
theorem dX12_clears_15 : decode cX12_clears 15 = .ok (.aload_n 0, 1) := by decide +kernel
theorem dX12_clears_16 : decode cX12_clears 16 = .ok (.iload_n 1, 1) := by decide +kernel
theorem dX12_clears_17 : decode cX12_clears 17 = .ok (.iconst 0, 1) := by decide +kernel
theorem dX12_clears_18 : decode cX12_clears 18 = .ok (.invokevirtual 177, 3) := by decide +kernel
theorem dX12_clears_21 : decode cX12_clears 21 = .ok (.iinc 1 1, 3) := by decide +kernel
theorem dX12_clears_24 : decode cX12_clears 24 = .ok (.goto (-15), 3) := by decide +kernel
theorem dX12_clears_27 : decode cX12_clears 27 = .ok (.iconst 0, 1) := by decide +kernel
theorem dX12_clears_28 : decode cX12_clears 28 = .ok (.istore_n 1, 1) := by decide +kernel
theorem dX12_clears_29 : decode cX12_clears 29 = .ok (.iload_n 1, 1) := by decide +kernel
theorem dX12_clears_30 : decode cX12_clears 30 = .ok (.bipush 6, 2) := by decide +kernel
theorem dX12_clears_32 : decode cX12_clears 32 = .ok (.if_icmp .ge 20, 3) := by decide +kernel
theorem dX12_clears_35 : decode cX12_clears 35 = .ok (.aload_n 0, 1) := by decide +kernel
theorem dX12_clears_36 : decode cX12_clears 36 = .ok (.getfield 40, 3) := by decide +kernel
theorem dX12_clears_39 : decode cX12_clears 39 = .ok (.bipush 24, 2) := by decide +kernel
theorem dX12_clears_41 : decode cX12_clears 41 = .ok (.iload_n 1, 1) := by decide +kernel
theorem dX12_clears_42 : decode cX12_clears 42 = .ok (.iadd, 1) := by decide +kernel
theorem dX12_clears_43 : decode cX12_clears 43 = .ok (.bipush 63, 2) := by decide +kernel
theorem dX12_clears_45 : decode cX12_clears 45 = .ok (.iastore, 1) := by decide +kernel
theorem dX12_clears_46 : decode cX12_clears 46 = .ok (.iinc 1 1, 3) := by decide +kernel
theorem dX12_clears_49 : decode cX12_clears 49 = .ok (.goto (-20), 3) := by decide +kernel
theorem dX12_clears_52 : decode cX12_clears 52 = .ok (.iconst 0, 1) := by decide +kernel
theorem dX12_clears_53 : decode cX12_clears 53 = .ok (.istore_n 1, 1) := by decide +kernel
theorem dX12_clears_54 : decode cX12_clears 54 = .ok (.iload_n 1, 1) := by decide +kernel
theorem dX12_clears_55 : decode cX12_clears 55 = .ok (.sipush 200, 3) := by decide +kernel
theorem dX12_clears_58 : decode cX12_clears 58 = .ok (.if_icmp .ge 20, 3) := by decide +kernel
theorem dX12_clears_61 : decode cX12_clears 61 = .ok (.aload_n 0, 1) := by decide +kernel
theorem dX12_clears_62 : decode cX12_clears 62 = .ok (.getfield 46, 3) := by decide +kernel
theorem dX12_clears_65 : decode cX12_clears 65 = .ok (.sipush 800, 3) := by decide +kernel
theorem dX12_clears_68 : decode cX12_clears 68 = .ok (.iload_n 1, 1) := by decide +kernel
theorem dX12_clears_69 : decode cX12_clears 69 = .ok (.iadd, 1) := by decide +kernel
theorem dX12_clears_70 : decode cX12_clears 70 = .ok (.iconst 0, 1) := by decide +kernel
theorem dX12_clears_71 : decode cX12_clears 71 = .ok (.bastore, 1) := by decide +kernel
theorem dX12_clears_72 : decode cX12_clears 72 = .ok (.iinc 1 1, 3) := by decide +kernel
theorem dX12_clears_75 : decode cX12_clears 75 = .ok (.goto (-21), 3) := by decide +kernel
theorem dX12_clears_78 : decode cX12_clears 78 = .ok (.return_, 1) := by decide +kernel
set_option maxRecDepth 20000 in
theorem ggX12_dance_X12_clears : GoodIn wsX12_dance wsX12_clears := goodIn_r _ [13, 3, 14, 15, 16, 17, 18, 12, 19, 20, 147, 148, 149, 150, 151, 152, 153, 154, 155, 156, 157, 158, 159, 160, 161, 162, 163, 164, 165, 166, 167, 168, 169, 170, 171, 172, 173, 174, 175, 176, 177, 178, 179, 180, 181, 182, 183, 184, 185, 186, 187, 188, 189, 190, 191] (by decide +kernel) (by decide +kernel)
set_option maxRecDepth 20000 in
theorem gX12_dance_X12_clears : GoodIn wsX12_dance (wsV RX12 224 RX12 yX12_clears wsX12_clears) := goodIn_app (goodIn_of _ (by decide +kernel)) ggX12_dance_X12_clears
set_option maxRecDepth 20000 in
theorem ggX12_dance_X12_begins : GoodIn wsX12_dance wsX12_begins := goodIn_r _ [24, 8, 25, 26, 27, 28, 29, 12, 30, 31, 32, 33, 34, 2, 35, 36, 37, 38, 39, 40, 41, 42, 43, 44, 147, 148, 149, 150, 151, 152, 153, 154, 155, 156, 157, 158, 159, 160, 161, 162, 163, 164, 165, 166, 167, 168, 169, 170, 171, 172, 173, 174, 175, 176, 177, 178, 179, 180, 181, 182, 183, 184, 185, 186, 187, 188, 189, 190, 191] (by decide +kernel) (by decide +kernel)
set_option maxRecDepth 20000 in
theorem gX12_dance_X12_begins : GoodIn wsX12_dance (wsV RX12 227 RX12 yX12_begins wsX12_begins) := goodIn_app (goodIn_of _ (by decide +kernel)) ggX12_dance_X12_begins
set_option maxRecDepth 20000 in
theorem ggX12_dance_X12_isGood : GoodIn wsX12_dance wsX12_isGood := goodIn_r _ [48, 8, 147, 148, 149, 150, 151, 152, 153, 154, 155, 156, 157, 158, 159, 160, 161, 162, 163, 164, 165, 166, 167, 168, 169, 170, 171, 172, 173, 174, 175, 176, 177, 178, 179, 180, 181, 182, 183, 184, 185, 186, 187, 188, 189, 190, 191] (by decide +kernel) (by decide +kernel)
set_option maxRecDepth 20000 in
theorem gX12_dance_X12_isGood : GoodIn wsX12_dance (wsV RX12 168 RX12 yX12_isGood wsX12_isGood) := goodIn_app (goodIn_of _ (by decide +kernel)) ggX12_dance_X12_isGood
set_option maxRecDepth 20000 in
theorem ggX12_dance_X12_isOver : GoodIn wsX12_dance wsX12_isOver := goodIn_r _ [136, 34, 8, 137, 25, 138, 147, 148, 149, 150, 151, 152, 153, 154, 155, 156, 157, 158, 159, 160, 161, 162, 163, 164, 165, 166, 167, 168, 169, 170, 171, 172, 173, 174, 175, 176, 177, 178, 179, 180, 181, 182, 183, 184, 185, 186, 187, 188, 189, 190, 191] (by decide +kernel) (by decide +kernel)
set_option maxRecDepth 20000 in
theorem gX12_dance_X12_isOver : GoodIn wsX12_dance (wsV RX12 244 RX12 yX12_isOver wsX12_isOver) := goodIn_app (goodIn_of _ (by decide +kernel)) ggX12_dance_X12_isOver
set_option maxRecDepth 20000 in
theorem ggX12_dance_X12_copyDance : GoodIn wsX12_dance wsX12_copyDance := goodIn_r _ [142, 3, 20, 120, 14, 98, 84, 85, 143, 15, 144, 145, 12, 146, 147, 148, 149, 150, 151, 152, 153, 154, 155, 156, 157, 158, 159, 160, 161, 162, 163, 164, 165, 166, 167, 168, 169, 170, 171, 172, 173, 174, 175, 176, 177, 178, 179, 180, 181, 182, 183, 184, 185, 186, 187, 188, 189, 190, 191] (by decide +kernel) (by decide +kernel)
set_option maxRecDepth 20000 in
theorem gX12_dance_X12_copyDance : GoodIn wsX12_dance (wsV RX12 247 RX12 yX12_copyDance wsX12_copyDance) := goodIn_app (goodIn_of _ (by decide +kernel)) ggX12_dance_X12_copyDance
theorem dX12_dance_0 : decode cX12_dance 0 = .ok (.aload_n 0, 1) := by decide +kernel
theorem dX12_dance_1 : decode cX12_dance 1 = .ok (.iconst 0, 1) := by decide +kernel
theorem dX12_dance_2 : decode cX12_dance 2 = .ok (.putfield 80, 3) := by decide +kernel
theorem dX12_dance_5 : decode cX12_dance 5 = .ok (.aload_n 0, 1) := by decide +kernel
theorem dX12_dance_6 : decode cX12_dance 6 = .ok (.invokevirtual 224, 3) := by decide +kernel
theorem dX12_dance_9 : decode cX12_dance 9 = .ok (.aload_n 0, 1) := by decide +kernel
theorem dX12_dance_10 : decode cX12_dance 10 = .ok (.invokevirtual 227, 3) := by decide +kernel
theorem dX12_dance_13 : decode cX12_dance 13 = .ok (.aload_n 0, 1) := by decide +kernel
theorem dX12_dance_14 : decode cX12_dance 14 = .ok (.invokevirtual 168, 3) := by decide +kernel
theorem dX12_dance_17 : decode cX12_dance 17 = .ok (.ifCond .eq 102, 3) := by decide +kernel
theorem dX12_dance_20 : decode cX12_dance 20 = .ok (.aload_n 0, 1) := by decide +kernel
theorem dX12_dance_21 : decode cX12_dance 21 = .ok (.getfield 121, 3) := by decide +kernel
theorem dX12_dance_24 : decode cX12_dance 24 = .ok (.ifCond .eq 95, 3) := by decide +kernel
theorem dX12_dance_119 : decode cX12_dance 119 = .ok (.aload_n 0, 1) := by decide +kernel
theorem dX12_dance_120 : decode cX12_dance 120 = .ok (.invokevirtual 244, 3) := by decide +kernel
theorem dX12_dance_123 : decode cX12_dance 123 = .ok (.aload_n 0, 1) := by decide +kernel
theorem dX12_dance_124 : decode cX12_dance 124 = .ok (.getfield 132, 3) := by decide +kernel
theorem dX12_dance_127 : decode cX12_dance 127 = .ok (.ifCond .eq 6, 3) := by decide +kernel
theorem dX12_dance_133 : decode cX12_dance 133 = .ok (.aload_n 0, 1) := by decide +kernel
theorem dX12_dance_134 : decode cX12_dance 134 = .ok (.iconst 4, 1) := by decide +kernel
theorem dX12_dance_135 : decode cX12_dance 135 = .ok (.iconst 0, 1) := by decide +kernel
theorem dX12_dance_136 : decode cX12_dance 136 = .ok (.invokevirtual 247, 3) := by decide +kernel
theorem dX12_dance_139 : decode cX12_dance 139 = .ok (.aload_n 0, 1) := by decide +kernel
theorem dX12_dance_140 : decode cX12_dance 140 = .ok (.getfield 31, 3) := by decide +kernel
theorem dX12_dance_143 : decode cX12_dance 143 = .ok (.iconst 0, 1) := by decide +kernel
theorem dX12_dance_144 : decode cX12_dance 144 = .ok (.iaload, 1) := by decide +kernel
theorem dX12_dance_145 : decode cX12_dance 145 = .ok (.ireturn, 1) := by decide +kernel
theorem dX12_copyRow_0 : decode cX12_copyRow 0 = .ok (.iconst 0, 1) := by decide +kernel
theorem dX12_copyRow_1 : decode cX12_copyRow 1 = .ok (.istore 4, 2) := by decide +kernel
theorem dX12_copyRow_3 : decode cX12_copyRow 3 = .ok (.iload 4, 2) := by decide +kernel
theorem dX12_copyRow_5 : decode cX12_copyRow 5 = .ok (.iload_n 1, 1) := by decide +kernel
theorem dX12_copyRow_6 : decode cX12_copyRow 6 = .ok (.if_icmp .ge 25, 3) := by decide +kernel
theorem dX12_copyRow_9 : decode cX12_copyRow 9 = .ok (.aload_n 0, 1) := by decide +kernel
theorem dX12_copyRow_10 : decode cX12_copyRow 10 = .ok (.iload_n 1, 1) := by decide +kernel
theorem dX12_copyRow_11 : decode cX12_copyRow 11 = .ok (.iload_n 3, 1) := by decide +kernel
theorem dX12_copyRow_12 : decode cX12_copyRow 12 = .ok (.imul, 1) := by decide +kernel
theorem dX12_copyRow_13 : decode cX12_copyRow 13 = .ok (.iload 4, 2) := by decide +kernel
theorem dX12_copyRow_15 : decode cX12_copyRow 15 = .ok (.iadd, 1) := by decide +kernel
theorem dX12_copyRow_16 : decode cX12_copyRow 16 = .ok (.aload_n 0, 1) := by decide +kernel
theorem dX12_copyRow_17 : decode cX12_copyRow 17 = .ok (.iload_n 1, 1) := by decide +kernel
theorem dX12_copyRow_18 : decode cX12_copyRow 18 = .ok (.iload_n 2, 1) := by decide +kernel
theorem dX12_copyRow_19 : decode cX12_copyRow 19 = .ok (.imul, 1) := by decide +kernel
theorem dX12_copyRow_20 : decode cX12_copyRow 20 = .ok (.iload 4, 2) := by decide +kernel
theorem dX12_copyRow_22 : decode cX12_copyRow 22 = .ok (.iadd, 1) := by decide +kernel
theorem dX12_copyRow_23 : decode cX12_copyRow 23 = .ok (.iaload, 1) := by decide +kernel
theorem dX12_copyRow_24 : decode cX12_copyRow 24 = .ok (.iastore, 1) := by decide +kernel
theorem dX12_copyRow_25 : decode cX12_copyRow 25 = .ok (.iinc 4 1, 3) := by decide +kernel
theorem dX12_copyRow_28 : decode cX12_copyRow 28 = .ok (.goto (-25), 3) := by decide +kernel
theorem dX12_copyRow_31 : decode cX12_copyRow 31 = .ok (.return_, 1) := by decide +kernel
set_option maxRecDepth 20000 in
theorem ggX12_copyDance_X12_copyRow : GoodIn wsX12_copyDance wsX12_copyRow := goodIn_r _ [13] (by decide +kernel) (by decide +kernel)
set_option maxRecDepth 20000 in
theorem gX12_copyDance_X12_copyRow : GoodIn wsX12_copyDance (va_wsS RX12 250 yX12_copyRow wsX12_copyRow) := goodIn_app (goodIn_of _ (by decide +kernel)) ggX12_copyDance_X12_copyRow
theorem dX12_copyDance_0 : decode cX12_copyDance 0 = .ok (.aload_n 0, 1) := by decide +kernel
theorem dX12_copyDance_1 : decode cX12_copyDance 1 = .ok (.getfield 31, 3) := by decide +kernel
theorem dX12_copyDance_4 : decode cX12_copyDance 4 = .ok (.iconst 1, 1) := by decide +kernel
theorem dX12_copyDance_5 : decode cX12_copyDance 5 = .ok (.iload_n 1, 1) := by decide +kernel
theorem dX12_copyDance_6 : decode cX12_copyDance 6 = .ok (.iload_n 2, 1) := by decide +kernel
theorem dX12_copyDance_7 : decode cX12_copyDance 7 = .ok (.invokestatic 250, 3) := by decide +kernel
theorem dX12_copyDance_10 : decode cX12_copyDance 10 = .ok (.aload_n 0, 1) := by decide +kernel
theorem dX12_copyDance_11 : decode cX12_copyDance 11 = .ok (.getfield 34, 3) := by decide +kernel
theorem dX12_copyDance_14 : decode cX12_copyDance 14 = .ok (.bipush 11, 2) := by decide +kernel
theorem dX12_copyDance_16 : decode cX12_copyDance 16 = .ok (.iload_n 1, 1) := by decide +kernel
theorem dX12_copyDance_17 : decode cX12_copyDance 17 = .ok (.iload_n 2, 1) := by decide +kernel
theorem dX12_copyDance_18 : decode cX12_copyDance 18 = .ok (.invokestatic 250, 3) := by decide +kernel
theorem dX12_copyDance_21 : decode cX12_copyDance 21 = .ok (.aload_n 0, 1) := by decide +kernel
theorem dX12_copyDance_22 : decode cX12_copyDance 22 = .ok (.getfield 37, 3) := by decide +kernel
theorem dX12_copyDance_25 : decode cX12_copyDance 25 = .ok (.bipush 24, 2) := by decide +kernel
theorem dX12_copyDance_27 : decode cX12_copyDance 27 = .ok (.iload_n 1, 1) := by decide +kernel
theorem dX12_copyDance_28 : decode cX12_copyDance 28 = .ok (.iload_n 2, 1) := by decide +kernel
theorem dX12_copyDance_29 : decode cX12_copyDance 29 = .ok (.invokestatic 250, 3) := by decide +kernel
theorem dX12_copyDance_32 : decode cX12_copyDance 32 = .ok (.aload_n 0, 1) := by decide +kernel
theorem dX12_copyDance_33 : decode cX12_copyDance 33 = .ok (.getfield 40, 3) := by decide +kernel
theorem dX12_copyDance_36 : decode cX12_copyDance 36 = .ok (.bipush 6, 2) := by decide +kernel
theorem dX12_copyDance_38 : decode cX12_copyDance 38 = .ok (.iload_n 1, 1) := by decide +kernel
theorem dX12_copyDance_39 : decode cX12_copyDance 39 = .ok (.iload_n 2, 1) := by decide +kernel
theorem dX12_copyDance_40 : decode cX12_copyDance 40 = .ok (.invokestatic 250, 3) := by decide +kernel
theorem dX12_copyDance_43 : decode cX12_copyDance 43 = .ok (.aload_n 0, 1) := by decide +kernel
theorem dX12_copyDance_44 : decode cX12_copyDance 44 = .ok (.getfield 43, 3) := by decide +kernel
theorem dX12_copyDance_47 : decode cX12_copyDance 47 = .ok (.bipush 32, 2) := by decide +kernel
theorem dX12_copyDance_49 : decode cX12_copyDance 49 = .ok (.iload_n 1, 1) := by decide +kernel
theorem dX12_copyDance_50 : decode cX12_copyDance 50 = .ok (.iload_n 2, 1) := by decide +kernel
theorem dX12_copyDance_51 : decode cX12_copyDance 51 = .ok (.invokestatic 250, 3) := by decide +kernel
theorem dX12_copyDance_54 : decode cX12_copyDance 54 = .ok (.aload_n 0, 1) := by decide +kernel
theorem dX12_copyDance_55 : decode cX12_copyDance 55 = .ok (.getfield 50, 3) := by decide +kernel
theorem dX12_copyDance_58 : decode cX12_copyDance 58 = .ok (.bipush 24, 2) := by decide +kernel
theorem dX12_copyDance_60 : decode cX12_copyDance 60 = .ok (.iload_n 1, 1) := by decide +kernel
theorem dX12_copyDance_61 : decode cX12_copyDance 61 = .ok (.iload_n 2, 1) := by decide +kernel
theorem dX12_copyDance_62 : decode cX12_copyDance 62 = .ok (.invokestatic 250, 3) := by decide +kernel
theorem dX12_copyDance_65 : decode cX12_copyDance 65 = .ok (.aload_n 0, 1) := by decide +kernel
theorem dX12_copyDance_66 : decode cX12_copyDance 66 = .ok (.getfield 53, 3) := by decide +kernel
theorem dX12_copyDance_69 : decode cX12_copyDance 69 = .ok (.bipush 10, 2) := by decide +kernel
theorem dX12_copyDance_71 : decode cX12_copyDance 71 = .ok (.iload_n 1, 1) := by decide +kernel
theorem dX12_copyDance_72 : decode cX12_copyDance 72 = .ok (.iload_n 2, 1) := by decide +kernel
theorem dX12_copyDance_73 : decode cX12_copyDance 73 = .ok (.invokestatic 250, 3) := by decide +kernel
theorem dX12_copyDance_76 : decode cX12_copyDance 76 = .ok (.aload_n 0, 1) := by decide +kernel
theorem dX12_copyDance_77 : decode cX12_copyDance 77 = .ok (.getfield 56, 3) := by decide +kernel
theorem dX12_copyDance_80 : decode cX12_copyDance 80 = .ok (.sipush 160, 3) := by decide +kernel
theorem dX12_copyDance_83 : decode cX12_copyDance 83 = .ok (.iload_n 1, 1) := by decide +kernel
theorem dX12_copyDance_84 : decode cX12_copyDance 84 = .ok (.iload_n 2, 1) := by decide +kernel
theorem dX12_copyDance_85 : decode cX12_copyDance 85 = .ok (.invokestatic 250, 3) := by decide +kernel
theorem dX12_copyDance_88 : decode cX12_copyDance 88 = .ok (.iconst 0, 1) := by decide +kernel
theorem dX12_copyDance_89 : decode cX12_copyDance 89 = .ok (.istore_n 3, 1) := by decide +kernel
theorem dX12_copyDance_90 : decode cX12_copyDance 90 = .ok (.iload_n 3, 1) := by decide +kernel
theorem dX12_copyDance_91 : decode cX12_copyDance 91 = .ok (.sipush 200, 3) := by decide +kernel
theorem dX12_copyDance_94 : decode cX12_copyDance 94 = .ok (.if_icmp .ge 33, 3) := by decide +kernel
theorem dX12_copyDance_97 : decode cX12_copyDance 97 = .ok (.aload_n 0, 1) := by decide +kernel
theorem dX12_copyDance_98 : decode cX12_copyDance 98 = .ok (.getfield 46, 3) := by decide +kernel
theorem dX12_copyDance_101 : decode cX12_copyDance 101 = .ok (.sipush 200, 3) := by decide +kernel
theorem dX12_copyDance_104 : decode cX12_copyDance 104 = .ok (.iload_n 2, 1) := by decide +kernel
theorem dX12_copyDance_105 : decode cX12_copyDance 105 = .ok (.imul, 1) := by decide +kernel
theorem dX12_copyDance_106 : decode cX12_copyDance 106 = .ok (.iload_n 3, 1) := by decide +kernel
theorem dX12_copyDance_107 : decode cX12_copyDance 107 = .ok (.iadd, 1) := by decide +kernel
theorem dX12_copyDance_108 : decode cX12_copyDance 108 = .ok (.aload_n 0, 1) := by decide +kernel
theorem dX12_copyDance_109 : decode cX12_copyDance 109 = .ok (.getfield 46, 3) := by decide +kernel
theorem dX12_copyDance_112 : decode cX12_copyDance 112 = .ok (.sipush 200, 3) := by decide +kernel
theorem dX12_copyDance_115 : decode cX12_copyDance 115 = .ok (.iload_n 1, 1) := by decide +kernel
theorem dX12_copyDance_116 : decode cX12_copyDance 116 = .ok (.imul, 1) := by decide +kernel
theorem dX12_copyDance_117 : decode cX12_copyDance 117 = .ok (.iload_n 3, 1) := by decide +kernel
theorem dX12_copyDance_118 : decode cX12_copyDance 118 = .ok (.iadd, 1) := by decide +kernel
theorem dX12_copyDance_119 : decode cX12_copyDance 119 = .ok (.baload, 1) := by decide +kernel
theorem dX12_copyDance_120 : decode cX12_copyDance 120 = .ok (.bastore, 1) := by decide +kernel
theorem dX12_copyDance_121 : decode cX12_copyDance 121 = .ok (.iinc 3 1, 3) := by decide +kernel
theorem dX12_copyDance_124 : decode cX12_copyDance 124 = .ok (.goto (-34), 3) := by decide +kernel
theorem dX12_copyDance_127 : decode cX12_copyDance 127 = .ok (.return_, 1) := by decide +kernel
theorem dX12_isDance_0 : decode cX12_isDance 0 = .ok (.aload_n 0, 1) := by decide +kernel
theorem dX12_isDance_1 : decode cX12_isDance 1 = .ok (.getfield 31, 3) := by decide +kernel
theorem dX12_isDance_4 : decode cX12_isDance 4 = .ok (.iconst 0, 1) := by decide +kernel
theorem dX12_isDance_5 : decode cX12_isDance 5 = .ok (.iaload, 1) := by decide +kernel
theorem dX12_isDance_6 : decode cX12_isDance 6 = .ok (.ifCond .le 7, 3) := by decide +kernel
theorem dX12_isDance_13 : decode cX12_isDance 13 = .ok (.iconst 0, 1) := by decide +kernel
theorem dX12_isDance_14 : decode cX12_isDance 14 = .ok (.ireturn, 1) := by decide +kernel
set_option maxRecDepth 20000 in
theorem ggX12_isSide_X12_isDance : GoodIn wsX12_isSide wsX12_isDance := goodIn_r _ [5, 6, 10, 11, 12, 13, 14, 15, 16, 17, 18, 19, 20, 21, 22, 23, 24, 25, 26, 27, 28, 29, 30, 31, 32, 33, 34, 35, 36, 37, 38, 39, 40, 41, 42, 43, 44, 45, 46, 47, 48, 49, 50, 51, 52, 53, 54] (by decide +kernel) (by decide +kernel)
set_option maxRecDepth 20000 in
theorem gX12_isSide_X12_isDance : GoodIn wsX12_isSide (wsV RX12 254 RX12 yX12_isDance wsX12_isDance) := goodIn_app (goodIn_of _ (by decide +kernel)) ggX12_isSide_X12_isDance
theorem dX12_isSide_0 : decode cX12_isSide 0 = .ok (.aload_n 0, 1) := by decide +kernel
theorem dX12_isSide_1 : decode cX12_isSide 1 = .ok (.invokevirtual 254, 3) := by decide +kernel
theorem dX12_isSide_4 : decode cX12_isSide 4 = .ok (.ifCond .eq 17, 3) := by decide +kernel
theorem dX12_isSide_21 : decode cX12_isSide 21 = .ok (.iconst 0, 1) := by decide +kernel
theorem dX12_isSide_22 : decode cX12_isSide 22 = .ok (.ireturn, 1) := by decide +kernel
theorem dX12_lengthOf_0 : decode cX12_lengthOf 0 = .ok (.aload_n 0, 1) := by decide +kernel
theorem dX12_lengthOf_1 : decode cX12_lengthOf 1 = .ok (.getfield 34, 3) := by decide +kernel
theorem dX12_lengthOf_4 : decode cX12_lengthOf 4 = .ok (.iconst 3, 1) := by decide +kernel
theorem dX12_lengthOf_5 : decode cX12_lengthOf 5 = .ok (.iload_n 1, 1) := by decide +kernel
theorem dX12_lengthOf_6 : decode cX12_lengthOf 6 = .ok (.iadd, 1) := by decide +kernel
theorem dX12_lengthOf_7 : decode cX12_lengthOf 7 = .ok (.iaload, 1) := by decide +kernel
theorem dX12_lengthOf_8 : decode cX12_lengthOf 8 = .ok (.ireturn, 1) := by decide +kernel
set_option maxRecDepth 20000 in
theorem ggX12_step_X12_isSide : GoodIn wsX12_step wsX12_isSide := goodIn_r _ [7, 8, 9, 10, 6, 11, 12, 13, 14, 15, 21, 22, 23, 24, 25, 26, 27, 28, 29, 30, 31, 32, 33, 34, 35, 36, 37, 38, 39, 40, 41, 42, 43, 44, 45, 46, 47, 48, 49, 50, 51, 52, 53, 54, 55, 56, 57, 58, 59, 60, 61, 62, 63, 64, 65] (by decide +kernel) (by decide +kernel)
set_option maxRecDepth 20000 in
theorem gX12_step_X12_isSide : GoodIn wsX12_step (wsV RX12 261 RX12 yX12_isSide wsX12_isSide) := goodIn_app (goodIn_of _ (by decide +kernel)) ggX12_step_X12_isSide
theorem dX12_step_0 : decode cX12_step 0 = .ok (.aload_n 0, 1) := by decide +kernel
theorem dX12_step_1 : decode cX12_step 1 = .ok (.iconst 0, 1) := by decide +kernel
theorem dX12_step_2 : decode cX12_step 2 = .ok (.putfield 80, 3) := by decide +kernel
theorem dX12_step_5 : decode cX12_step 5 = .ok (.aload_n 0, 1) := by decide +kernel
theorem dX12_step_6 : decode cX12_step 6 = .ok (.iload_n 1, 1) := by decide +kernel
theorem dX12_step_7 : decode cX12_step 7 = .ok (.invokevirtual 261, 3) := by decide +kernel
theorem dX12_step_10 : decode cX12_step 10 = .ok (.ifCond .ne 8, 3) := by decide +kernel
theorem dX12_step_13 : decode cX12_step 13 = .ok (.bipush (-2), 2) := by decide +kernel
theorem dX12_step_15 : decode cX12_step 15 = .ok (.goto 35, 3) := by decide +kernel
theorem dX12_step_50 : decode cX12_step 50 = .ok (.ireturn, 1) := by decide +kernel
set_option maxRecDepth 20000 in
theorem ggX12_answers_X12_isDance : GoodIn wsX12_answers wsX12_isDance := goodIn_r _ [7, 8, 16, 17, 18, 19, 20, 21, 22, 23, 24, 25, 26, 27, 28, 29, 30, 31, 32, 33, 34, 35, 36, 37, 38, 39, 40, 41, 42, 43, 44, 45, 46, 47, 48, 49, 50, 51, 52, 53, 54, 55, 56, 57, 58, 59, 60] (by decide +kernel) (by decide +kernel)
set_option maxRecDepth 20000 in
theorem gX12_answers_X12_isDance : GoodIn wsX12_answers (wsV RX12 254 RX12 yX12_isDance wsX12_isDance) := goodIn_app (goodIn_of _ (by decide +kernel)) ggX12_answers_X12_isDance
theorem dX12_answers_0 : decode cX12_answers 0 = .ok (.aload_n 0, 1) := by decide +kernel
theorem dX12_answers_1 : decode cX12_answers 1 = .ok (.iconst 0, 1) := by decide +kernel
theorem dX12_answers_2 : decode cX12_answers 2 = .ok (.putfield 80, 3) := by decide +kernel
theorem dX12_answers_5 : decode cX12_answers 5 = .ok (.aload_n 0, 1) := by decide +kernel
theorem dX12_answers_6 : decode cX12_answers 6 = .ok (.invokevirtual 254, 3) := by decide +kernel
theorem dX12_answers_9 : decode cX12_answers 9 = .ok (.ifCond .eq 20, 3) := by decide +kernel
theorem dX12_answers_29 : decode cX12_answers 29 = .ok (.bipush (-2), 2) := by decide +kernel
theorem dX12_answers_31 : decode cX12_answers 31 = .ok (.ireturn, 1) := by decide +kernel
set_option maxRecDepth 20000 in
theorem ggX12_stumbled_X12_in : GoodIn wsX12_stumbled wsX12_in := goodIn_r _ [8] (by decide +kernel) (by decide +kernel)
set_option maxRecDepth 20000 in
theorem gX12_stumbled_X12_in : GoodIn wsX12_stumbled (va_wsS RX12 85 yX12_in wsX12_in) := goodIn_app (goodIn_of _ (by decide +kernel)) ggX12_stumbled_X12_in
theorem dX12_stumbled_0 : decode cX12_stumbled 0 = .ok (.aload_n 0, 1) := by decide +kernel
theorem dX12_stumbled_1 : decode cX12_stumbled 1 = .ok (.iconst 0, 1) := by decide +kernel
theorem dX12_stumbled_2 : decode cX12_stumbled 2 = .ok (.putfield 80, 3) := by decide +kernel
theorem dX12_stumbled_5 : decode cX12_stumbled 5 = .ok (.iload_n 1, 1) := by decide +kernel
theorem dX12_stumbled_6 : decode cX12_stumbled 6 = .ok (.i2l, 1) := by decide +kernel
theorem dX12_stumbled_7 : decode cX12_stumbled 7 = .ok (.lconst 0, 1) := by decide +kernel
theorem dX12_stumbled_8 : decode cX12_stumbled 8 = .ok (.aload_n 0, 1) := by decide +kernel
theorem dX12_stumbled_9 : decode cX12_stumbled 9 = .ok (.getfield 34, 3) := by decide +kernel
theorem dX12_stumbled_12 : decode cX12_stumbled 12 = .ok (.bipush 7, 2) := by decide +kernel
theorem dX12_stumbled_14 : decode cX12_stumbled 14 = .ok (.iaload, 1) := by decide +kernel
theorem dX12_stumbled_15 : decode cX12_stumbled 15 = .ok (.iconst 1, 1) := by decide +kernel
theorem dX12_stumbled_16 : decode cX12_stumbled 16 = .ok (.isub, 1) := by decide +kernel
theorem dX12_stumbled_17 : decode cX12_stumbled 17 = .ok (.i2l, 1) := by decide +kernel
theorem dX12_stumbled_18 : decode cX12_stumbled 18 = .ok (.invokestatic 85, 3) := by decide +kernel
theorem dX12_stumbled_21 : decode cX12_stumbled 21 = .ok (.ifCond .eq 28, 3) := by decide +kernel
theorem dX12_stumbled_49 : decode cX12_stumbled 49 = .ok (.bipush (-2), 2) := by decide +kernel
theorem dX12_stumbled_51 : decode cX12_stumbled 51 = .ok (.ireturn, 1) := by decide +kernel
set_option maxRecDepth 20000 in
theorem ggX12_muddy_X12_isDance : GoodIn wsX12_muddy wsX12_isDance := goodIn_r _ [7, 8, 16, 17, 18, 19, 20, 21, 22, 23, 24, 25, 26, 27, 28, 29, 30, 31, 32, 33, 34, 35, 36, 37, 38, 39, 40, 41, 42, 43, 44, 45, 46, 47, 48, 49, 50, 51, 52, 53, 54, 55, 56, 57, 58, 59, 60] (by decide +kernel) (by decide +kernel)
set_option maxRecDepth 20000 in
theorem gX12_muddy_X12_isDance : GoodIn wsX12_muddy (wsV RX12 254 RX12 yX12_isDance wsX12_isDance) := goodIn_app (goodIn_of _ (by decide +kernel)) ggX12_muddy_X12_isDance
theorem dX12_muddy_0 : decode cX12_muddy 0 = .ok (.aload_n 0, 1) := by decide +kernel
theorem dX12_muddy_1 : decode cX12_muddy 1 = .ok (.iconst 0, 1) := by decide +kernel
theorem dX12_muddy_2 : decode cX12_muddy 2 = .ok (.putfield 80, 3) := by decide +kernel
theorem dX12_muddy_5 : decode cX12_muddy 5 = .ok (.aload_n 0, 1) := by decide +kernel
theorem dX12_muddy_6 : decode cX12_muddy 6 = .ok (.invokevirtual 254, 3) := by decide +kernel
theorem dX12_muddy_9 : decode cX12_muddy 9 = .ok (.ifCond .eq 28, 3) := by decide +kernel
theorem dX12_muddy_37 : decode cX12_muddy 37 = .ok (.bipush (-2), 2) := by decide +kernel
theorem dX12_muddy_39 : decode cX12_muddy 39 = .ok (.ireturn, 1) := by decide +kernel
set_option maxRecDepth 20000 in
theorem ggX12_place_X12_isSide : GoodIn wsX12_place wsX12_isSide := goodIn_r _ [7, 8, 9, 10, 6, 11, 12, 13, 14, 15, 41, 42, 43, 44, 45, 46, 47, 48, 49, 50, 51, 52, 53, 54, 55, 56, 57, 58, 59, 60, 61, 62, 63, 64, 65, 66, 67, 68, 69, 70, 71, 72, 73, 74, 75, 76, 77, 78, 79, 80, 81, 82, 83, 84, 85] (by decide +kernel) (by decide +kernel)
set_option maxRecDepth 20000 in
theorem gX12_place_X12_isSide : GoodIn wsX12_place (wsV RX12 261 RX12 yX12_isSide wsX12_isSide) := goodIn_app (goodIn_of _ (by decide +kernel)) ggX12_place_X12_isSide
theorem dX12_place_0 : decode cX12_place 0 = .ok (.aload_n 0, 1) := by decide +kernel
theorem dX12_place_1 : decode cX12_place 1 = .ok (.iconst 0, 1) := by decide +kernel
theorem dX12_place_2 : decode cX12_place 2 = .ok (.putfield 80, 3) := by decide +kernel
theorem dX12_place_5 : decode cX12_place 5 = .ok (.aload_n 0, 1) := by decide +kernel
theorem dX12_place_6 : decode cX12_place 6 = .ok (.iload_n 1, 1) := by decide +kernel
theorem dX12_place_7 : decode cX12_place 7 = .ok (.invokevirtual 261, 3) := by decide +kernel
theorem dX12_place_10 : decode cX12_place 10 = .ok (.ifCond .eq 11, 3) := by decide +kernel
theorem dX12_place_21 : decode cX12_place 21 = .ok (.bipush (-2), 2) := by decide +kernel
theorem dX12_place_23 : decode cX12_place 23 = .ok (.ireturn, 1) := by decide +kernel
set_option maxRecDepth 20000 in
theorem ggX12_danced_X12_isSide : GoodIn wsX12_danced wsX12_isSide := goodIn_r _ [7, 8, 9, 10, 6, 11, 12, 13, 14, 15, 41, 42, 43, 44, 45, 46, 47, 48, 49, 50, 51, 52, 53, 54, 55, 56, 57, 58, 59, 60, 61, 62, 63, 64, 65, 66, 67, 68, 69, 70, 71, 72, 73, 74, 75, 76, 77, 78, 79, 80, 81, 82, 83, 84, 85] (by decide +kernel) (by decide +kernel)
set_option maxRecDepth 20000 in
theorem gX12_danced_X12_isSide : GoodIn wsX12_danced (wsV RX12 261 RX12 yX12_isSide wsX12_isSide) := goodIn_app (goodIn_of _ (by decide +kernel)) ggX12_danced_X12_isSide
theorem dX12_danced_0 : decode cX12_danced 0 = .ok (.aload_n 0, 1) := by decide +kernel
theorem dX12_danced_1 : decode cX12_danced 1 = .ok (.iconst 0, 1) := by decide +kernel
theorem dX12_danced_2 : decode cX12_danced 2 = .ok (.putfield 80, 3) := by decide +kernel
theorem dX12_danced_5 : decode cX12_danced 5 = .ok (.aload_n 0, 1) := by decide +kernel
theorem dX12_danced_6 : decode cX12_danced 6 = .ok (.iload_n 1, 1) := by decide +kernel
theorem dX12_danced_7 : decode cX12_danced 7 = .ok (.invokevirtual 261, 3) := by decide +kernel
theorem dX12_danced_10 : decode cX12_danced 10 = .ok (.ifCond .eq 11, 3) := by decide +kernel
theorem dX12_danced_21 : decode cX12_danced 21 = .ok (.bipush (-2), 2) := by decide +kernel
theorem dX12_danced_23 : decode cX12_danced 23 = .ok (.ireturn, 1) := by decide +kernel
set_option maxRecDepth 20000 in
theorem ggX12_hears_X12_isSide : GoodIn wsX12_hears wsX12_isSide := goodIn_r _ [6, 7, 8, 9, 5, 10, 11, 12, 13, 14, 45, 46, 47, 48, 49, 50, 51, 52, 53, 54, 55, 56, 57, 58, 59, 60, 61, 62, 63, 64, 65, 66, 67, 68, 69, 70, 71, 72, 73, 74, 75, 76, 77, 78, 79, 80, 81, 82, 83, 84, 85, 86, 87, 88, 89] (by decide +kernel) (by decide +kernel)
set_option maxRecDepth 20000 in
theorem gX12_hears_X12_isSide : GoodIn wsX12_hears (wsV RX12 261 RX12 yX12_isSide wsX12_isSide) := goodIn_app (goodIn_of _ (by decide +kernel)) ggX12_hears_X12_isSide
theorem dX12_hears_0 : decode cX12_hears 0 = .ok (.aload_n 0, 1) := by decide +kernel
theorem dX12_hears_1 : decode cX12_hears 1 = .ok (.iconst 0, 1) := by decide +kernel
theorem dX12_hears_2 : decode cX12_hears 2 = .ok (.putfield 80, 3) := by decide +kernel
theorem dX12_hears_5 : decode cX12_hears 5 = .ok (.aload_n 0, 1) := by decide +kernel
theorem dX12_hears_6 : decode cX12_hears 6 = .ok (.iload_n 1, 1) := by decide +kernel
theorem dX12_hears_7 : decode cX12_hears 7 = .ok (.invokevirtual 261, 3) := by decide +kernel
theorem dX12_hears_10 : decode cX12_hears 10 = .ok (.ifCond .eq 11, 3) := by decide +kernel
theorem dX12_hears_21 : decode cX12_hears 21 = .ok (.bipush (-2), 2) := by decide +kernel
theorem dX12_hears_23 : decode cX12_hears 23 = .ok (.ireturn, 1) := by decide +kernel
set_option maxRecDepth 20000 in
theorem ggX12_late_X12_isSide : GoodIn wsX12_late wsX12_isSide := goodIn_r _ [8, 9, 10, 11, 7, 12, 13, 14, 15, 16, 41, 42, 43, 44, 45, 46, 47, 48, 49, 50, 51, 52, 53, 54, 55, 56, 57, 58, 59, 60, 61, 62, 63, 64, 65, 66, 67, 68, 69, 70, 71, 72, 73, 74, 75, 76, 77, 78, 79, 80, 81, 82, 83, 84, 85] (by decide +kernel) (by decide +kernel)
set_option maxRecDepth 20000 in
theorem gX12_late_X12_isSide : GoodIn wsX12_late (wsV RX12 261 RX12 yX12_isSide wsX12_isSide) := goodIn_app (goodIn_of _ (by decide +kernel)) ggX12_late_X12_isSide
theorem dX12_late_0 : decode cX12_late 0 = .ok (.aload_n 0, 1) := by decide +kernel
theorem dX12_late_1 : decode cX12_late 1 = .ok (.iconst 0, 1) := by decide +kernel
theorem dX12_late_2 : decode cX12_late 2 = .ok (.putfield 80, 3) := by decide +kernel
theorem dX12_late_5 : decode cX12_late 5 = .ok (.aload_n 0, 1) := by decide +kernel
theorem dX12_late_6 : decode cX12_late 6 = .ok (.iload_n 1, 1) := by decide +kernel
theorem dX12_late_7 : decode cX12_late 7 = .ok (.invokevirtual 261, 3) := by decide +kernel
theorem dX12_late_10 : decode cX12_late 10 = .ok (.ifCond .eq 11, 3) := by decide +kernel
theorem dX12_late_21 : decode cX12_late 21 = .ok (.bipush (-2), 2) := by decide +kernel
theorem dX12_late_23 : decode cX12_late 23 = .ok (.ireturn, 1) := by decide +kernel
set_option maxRecDepth 20000 in
theorem ggX12_hole_X12_isSide : GoodIn wsX12_hole wsX12_isSide := goodIn_r _ [6, 7, 8, 9, 5, 10, 11, 12, 13, 14, 57, 58, 59, 60, 61, 62, 63, 64, 65, 66, 67, 68, 69, 70, 71, 72, 73, 74, 75, 76, 77, 78, 79, 80, 81, 82, 83, 84, 85, 86, 87, 88, 89, 90, 91, 92, 93, 94, 95, 96, 97, 98, 99, 100, 101] (by decide +kernel) (by decide +kernel)
set_option maxRecDepth 20000 in
theorem gX12_hole_X12_isSide : GoodIn wsX12_hole (wsV RX12 261 RX12 yX12_isSide wsX12_isSide) := goodIn_app (goodIn_of _ (by decide +kernel)) ggX12_hole_X12_isSide
theorem dX12_hole_0 : decode cX12_hole 0 = .ok (.aload_n 0, 1) := by decide +kernel
theorem dX12_hole_1 : decode cX12_hole 1 = .ok (.iconst 0, 1) := by decide +kernel
theorem dX12_hole_2 : decode cX12_hole 2 = .ok (.putfield 80, 3) := by decide +kernel
theorem dX12_hole_5 : decode cX12_hole 5 = .ok (.aload_n 0, 1) := by decide +kernel
theorem dX12_hole_6 : decode cX12_hole 6 = .ok (.iload_n 1, 1) := by decide +kernel
theorem dX12_hole_7 : decode cX12_hole 7 = .ok (.invokevirtual 261, 3) := by decide +kernel
theorem dX12_hole_10 : decode cX12_hole 10 = .ok (.ifCond .eq 11, 3) := by decide +kernel
theorem dX12_hole_21 : decode cX12_hole 21 = .ok (.bipush (-2), 2) := by decide +kernel
theorem dX12_hole_23 : decode cX12_hole 23 = .ok (.ireturn, 1) := by decide +kernel
set_option maxRecDepth 20000 in
theorem ggX12_next__X12_isSide : GoodIn wsX12_next_ wsX12_isSide := goodIn_r _ [6, 7, 8, 9, 5, 10, 11, 12, 13, 14, 57, 58, 59, 60, 61, 62, 63, 64, 65, 66, 67, 68, 69, 70, 71, 72, 73, 74, 75, 76, 77, 78, 79, 80, 81, 82, 83, 84, 85, 86, 87, 88, 89, 90, 91, 92, 93, 94, 95, 96, 97, 98, 99, 100, 101] (by decide +kernel) (by decide +kernel)
set_option maxRecDepth 20000 in
theorem gX12_next__X12_isSide : GoodIn wsX12_next_ (wsV RX12 261 RX12 yX12_isSide wsX12_isSide) := goodIn_app (goodIn_of _ (by decide +kernel)) ggX12_next__X12_isSide
theorem dX12_next__0 : decode cX12_next_ 0 = .ok (.aload_n 0, 1) := by decide +kernel
theorem dX12_next__1 : decode cX12_next_ 1 = .ok (.iconst 0, 1) := by decide +kernel
theorem dX12_next__2 : decode cX12_next_ 2 = .ok (.putfield 80, 3) := by decide +kernel
theorem dX12_next__5 : decode cX12_next_ 5 = .ok (.aload_n 0, 1) := by decide +kernel
theorem dX12_next__6 : decode cX12_next_ 6 = .ok (.iload_n 1, 1) := by decide +kernel
theorem dX12_next__7 : decode cX12_next_ 7 = .ok (.invokevirtual 261, 3) := by decide +kernel
theorem dX12_next__10 : decode cX12_next_ 10 = .ok (.ifCond .eq 11, 3) := by decide +kernel
theorem dX12_next__21 : decode cX12_next_ 21 = .ok (.bipush (-2), 2) := by decide +kernel
theorem dX12_next__23 : decode cX12_next_ 23 = .ok (.ireturn, 1) := by decide +kernel
set_option maxRecDepth 20000 in
theorem ggX12_isSpan_X12_isDance : GoodIn wsX12_isSpan wsX12_isDance := goodIn_r _ [6, 7, 14, 15, 16, 17, 18, 19, 20, 21, 22, 23, 24, 25, 26, 27, 28, 29, 30, 31, 32, 33, 34, 35, 36, 37, 38, 39, 40, 41, 42, 43, 44, 45, 46, 47, 48, 49, 50, 51, 52, 53, 54, 55, 56, 57, 58] (by decide +kernel) (by decide +kernel)
set_option maxRecDepth 20000 in
theorem gX12_isSpan_X12_isDance : GoodIn wsX12_isSpan (wsV RX12 254 RX12 yX12_isDance wsX12_isDance) := goodIn_app (goodIn_of _ (by decide +kernel)) ggX12_isSpan_X12_isDance
theorem dX12_isSpan_0 : decode cX12_isSpan 0 = .ok (.aload_n 0, 1) := by decide +kernel
theorem dX12_isSpan_1 : decode cX12_isSpan 1 = .ok (.invokevirtual 254, 3) := by decide +kernel
theorem dX12_isSpan_4 : decode cX12_isSpan 4 = .ok (.ifCond .eq 28, 3) := by decide +kernel
theorem dX12_isSpan_32 : decode cX12_isSpan 32 = .ok (.iconst 0, 1) := by decide +kernel
theorem dX12_isSpan_33 : decode cX12_isSpan 33 = .ok (.ireturn, 1) := by decide +kernel
set_option maxRecDepth 20000 in
theorem ggX12_holes_X12_isSide : GoodIn wsX12_holes wsX12_isSide := goodIn_r _ [6, 7, 8, 9, 5, 10, 11, 12, 13, 14, 65, 66, 67, 68, 69, 70, 71, 72, 73, 74, 75, 76, 77, 78, 79, 80, 81, 82, 83, 84, 85, 86, 87, 88, 89, 90, 91, 92, 93, 94, 95, 96, 97, 98, 99, 100, 101, 102, 103, 104, 105, 106, 107, 108, 109] (by decide +kernel) (by decide +kernel)
set_option maxRecDepth 20000 in
theorem gX12_holes_X12_isSide : GoodIn wsX12_holes (wsV RX12 261 RX12 yX12_isSide wsX12_isSide) := goodIn_app (goodIn_of _ (by decide +kernel)) ggX12_holes_X12_isSide
theorem dX12_holes_0 : decode cX12_holes 0 = .ok (.aload_n 0, 1) := by decide +kernel
theorem dX12_holes_1 : decode cX12_holes 1 = .ok (.iconst 0, 1) := by decide +kernel
theorem dX12_holes_2 : decode cX12_holes 2 = .ok (.putfield 80, 3) := by decide +kernel
theorem dX12_holes_5 : decode cX12_holes 5 = .ok (.aload_n 0, 1) := by decide +kernel
theorem dX12_holes_6 : decode cX12_holes 6 = .ok (.iload_n 1, 1) := by decide +kernel
theorem dX12_holes_7 : decode cX12_holes 7 = .ok (.invokevirtual 261, 3) := by decide +kernel
theorem dX12_holes_10 : decode cX12_holes 10 = .ok (.ifCond .eq 12, 3) := by decide +kernel
theorem dX12_holes_22 : decode cX12_holes 22 = .ok (.bipush (-2), 2) := by decide +kernel
theorem dX12_holes_24 : decode cX12_holes 24 = .ok (.ireturn, 1) := by decide +kernel
set_option maxRecDepth 20000 in
theorem ggX12_run_X12_isSpan : GoodIn wsX12_run wsX12_isSpan := goodIn_r _ [7, 8, 9, 10, 11, 6, 12, 13, 14, 15, 16, 17, 18, 19, 63, 64, 65, 66, 67, 68, 69, 70, 71, 72, 73, 74, 75, 76, 77, 78, 79, 80, 81, 82, 83, 84, 85, 86, 87, 88, 89, 90, 91, 92, 93, 94, 95, 96, 97, 98, 99, 100, 101, 102, 103, 104, 105, 106, 107] (by decide +kernel) (by decide +kernel)
set_option maxRecDepth 20000 in
theorem gX12_run_X12_isSpan : GoodIn wsX12_run (wsV RX12 296 RX12 yX12_isSpan wsX12_isSpan) := goodIn_app (goodIn_of _ (by decide +kernel)) ggX12_run_X12_isSpan
theorem dX12_run_0 : decode cX12_run 0 = .ok (.aload_n 0, 1) := by decide +kernel
theorem dX12_run_1 : decode cX12_run 1 = .ok (.iconst 0, 1) := by decide +kernel
theorem dX12_run_2 : decode cX12_run 2 = .ok (.putfield 80, 3) := by decide +kernel
theorem dX12_run_5 : decode cX12_run 5 = .ok (.aload_n 0, 1) := by decide +kernel
theorem dX12_run_6 : decode cX12_run 6 = .ok (.iload_n 1, 1) := by decide +kernel
theorem dX12_run_7 : decode cX12_run 7 = .ok (.iload_n 2, 1) := by decide +kernel
theorem dX12_run_8 : decode cX12_run 8 = .ok (.invokevirtual 296, 3) := by decide +kernel
theorem dX12_run_11 : decode cX12_run 11 = .ok (.ifCond .ne 6, 3) := by decide +kernel
theorem dX12_run_14 : decode cX12_run 14 = .ok (.bipush (-2), 2) := by decide +kernel
theorem dX12_run_16 : decode cX12_run 16 = .ok (.ireturn, 1) := by decide +kernel
set_option maxRecDepth 20000 in
theorem ggX12_begins__X12_isSpan : GoodIn wsX12_begins_ wsX12_isSpan := goodIn_r _ [7, 8, 9, 10, 11, 6, 12, 13, 14, 15, 16, 17, 18, 19, 63, 64, 65, 66, 67, 68, 69, 70, 71, 72, 73, 74, 75, 76, 77, 78, 79, 80, 81, 82, 83, 84, 85, 86, 87, 88, 89, 90, 91, 92, 93, 94, 95, 96, 97, 98, 99, 100, 101, 102, 103, 104, 105, 106, 107] (by decide +kernel) (by decide +kernel)
set_option maxRecDepth 20000 in
theorem gX12_begins__X12_isSpan : GoodIn wsX12_begins_ (wsV RX12 296 RX12 yX12_isSpan wsX12_isSpan) := goodIn_app (goodIn_of _ (by decide +kernel)) ggX12_begins__X12_isSpan
theorem dX12_begins__0 : decode cX12_begins_ 0 = .ok (.aload_n 0, 1) := by decide +kernel
theorem dX12_begins__1 : decode cX12_begins_ 1 = .ok (.iconst 0, 1) := by decide +kernel
theorem dX12_begins__2 : decode cX12_begins_ 2 = .ok (.putfield 80, 3) := by decide +kernel
theorem dX12_begins__5 : decode cX12_begins_ 5 = .ok (.aload_n 0, 1) := by decide +kernel
theorem dX12_begins__6 : decode cX12_begins_ 6 = .ok (.iload_n 1, 1) := by decide +kernel
theorem dX12_begins__7 : decode cX12_begins_ 7 = .ok (.iload_n 2, 1) := by decide +kernel
theorem dX12_begins__8 : decode cX12_begins_ 8 = .ok (.invokevirtual 296, 3) := by decide +kernel
theorem dX12_begins__11 : decode cX12_begins_ 11 = .ok (.ifCond .ne 6, 3) := by decide +kernel
theorem dX12_begins__14 : decode cX12_begins_ 14 = .ok (.bipush (-2), 2) := by decide +kernel
theorem dX12_begins__16 : decode cX12_begins_ 16 = .ok (.ireturn, 1) := by decide +kernel
set_option maxRecDepth 20000 in
theorem ggX12_undoes_X12_in : GoodIn wsX12_undoes wsX12_in := goodIn_r _ [6] (by decide +kernel) (by decide +kernel)
set_option maxRecDepth 20000 in
theorem gX12_undoes_X12_in : GoodIn wsX12_undoes (va_wsS RX12 85 yX12_in wsX12_in) := goodIn_app (goodIn_of _ (by decide +kernel)) ggX12_undoes_X12_in
theorem dX12_undoes_0 : decode cX12_undoes 0 = .ok (.aload_n 0, 1) := by decide +kernel
theorem dX12_undoes_1 : decode cX12_undoes 1 = .ok (.iconst 0, 1) := by decide +kernel
theorem dX12_undoes_2 : decode cX12_undoes 2 = .ok (.putfield 80, 3) := by decide +kernel
theorem dX12_undoes_5 : decode cX12_undoes 5 = .ok (.iload_n 1, 1) := by decide +kernel
theorem dX12_undoes_6 : decode cX12_undoes 6 = .ok (.i2l, 1) := by decide +kernel
theorem dX12_undoes_7 : decode cX12_undoes 7 = .ok (.lconst 0, 1) := by decide +kernel
theorem dX12_undoes_8 : decode cX12_undoes 8 = .ok (.aload_n 0, 1) := by decide +kernel
theorem dX12_undoes_9 : decode cX12_undoes 9 = .ok (.getfield 34, 3) := by decide +kernel
theorem dX12_undoes_12 : decode cX12_undoes 12 = .ok (.bipush 7, 2) := by decide +kernel
theorem dX12_undoes_14 : decode cX12_undoes 14 = .ok (.iaload, 1) := by decide +kernel
theorem dX12_undoes_15 : decode cX12_undoes 15 = .ok (.iconst 1, 1) := by decide +kernel
theorem dX12_undoes_16 : decode cX12_undoes 16 = .ok (.isub, 1) := by decide +kernel
theorem dX12_undoes_17 : decode cX12_undoes 17 = .ok (.i2l, 1) := by decide +kernel
theorem dX12_undoes_18 : decode cX12_undoes 18 = .ok (.invokestatic 85, 3) := by decide +kernel
theorem dX12_undoes_21 : decode cX12_undoes 21 = .ok (.ifCond .ne 7, 3) := by decide +kernel
theorem dX12_undoes_24 : decode cX12_undoes 24 = .ok (.sipush (-1000), 3) := by decide +kernel
theorem dX12_undoes_27 : decode cX12_undoes 27 = .ok (.ireturn, 1) := by decide +kernel
set_option maxRecDepth 20000 in
theorem ggX12_causes_X12_isSide : GoodIn wsX12_causes wsX12_isSide := goodIn_r _ [7, 8, 9, 10, 6, 11, 12, 13, 14, 15, 57, 58, 59, 60, 61, 62, 63, 64, 65, 66, 67, 68, 69, 70, 71, 72, 73, 74, 75, 76, 77, 78, 79, 80, 81, 82, 83, 84, 85, 86, 87, 88, 89, 90, 91, 92, 93, 94, 95, 96, 97, 98, 99, 100, 101] (by decide +kernel) (by decide +kernel)
set_option maxRecDepth 20000 in
theorem gX12_causes_X12_isSide : GoodIn wsX12_causes (wsV RX12 261 RX12 yX12_isSide wsX12_isSide) := goodIn_app (goodIn_of _ (by decide +kernel)) ggX12_causes_X12_isSide
theorem dX12_causes_0 : decode cX12_causes 0 = .ok (.aload_n 0, 1) := by decide +kernel
theorem dX12_causes_1 : decode cX12_causes 1 = .ok (.iconst 0, 1) := by decide +kernel
theorem dX12_causes_2 : decode cX12_causes 2 = .ok (.putfield 80, 3) := by decide +kernel
theorem dX12_causes_5 : decode cX12_causes 5 = .ok (.aload_n 0, 1) := by decide +kernel
theorem dX12_causes_6 : decode cX12_causes 6 = .ok (.iload_n 1, 1) := by decide +kernel
theorem dX12_causes_7 : decode cX12_causes 7 = .ok (.invokevirtual 261, 3) := by decide +kernel
theorem dX12_causes_10 : decode cX12_causes 10 = .ok (.ifCond .eq 11, 3) := by decide +kernel
theorem dX12_causes_21 : decode cX12_causes 21 = .ok (.bipush (-2), 2) := by decide +kernel
theorem dX12_causes_23 : decode cX12_causes 23 = .ok (.ireturn, 1) := by decide +kernel
set_option maxRecDepth 20000 in
theorem ggX12_period_X12_isDance : GoodIn wsX12_period wsX12_isDance := goodIn_r _ [6, 7, 24, 25, 26, 27, 28, 29, 30, 31, 32, 33, 34, 35, 36, 37, 38, 39, 40, 41, 42, 43, 44, 45, 46, 47, 48, 49, 50, 51, 52, 53, 54, 55, 56, 57, 58, 59, 60, 61, 62, 63, 64, 65, 66, 67, 68] (by decide +kernel) (by decide +kernel)
set_option maxRecDepth 20000 in
theorem gX12_period_X12_isDance : GoodIn wsX12_period (wsV RX12 254 RX12 yX12_isDance wsX12_isDance) := goodIn_app (goodIn_of _ (by decide +kernel)) ggX12_period_X12_isDance
theorem dX12_period_0 : decode cX12_period 0 = .ok (.aload_n 0, 1) := by decide +kernel
theorem dX12_period_1 : decode cX12_period 1 = .ok (.iconst 0, 1) := by decide +kernel
theorem dX12_period_2 : decode cX12_period 2 = .ok (.putfield 80, 3) := by decide +kernel
theorem dX12_period_5 : decode cX12_period 5 = .ok (.aload_n 0, 1) := by decide +kernel
theorem dX12_period_6 : decode cX12_period 6 = .ok (.invokevirtual 254, 3) := by decide +kernel
theorem dX12_period_9 : decode cX12_period 9 = .ok (.ifCond .ne 8, 3) := by decide +kernel
theorem dX12_period_12 : decode cX12_period 12 = .ok (.bipush (-2), 2) := by decide +kernel
theorem dX12_period_14 : decode cX12_period 14 = .ok (.goto 18, 3) := by decide +kernel
theorem dX12_period_32 : decode cX12_period 32 = .ok (.ireturn, 1) := by decide +kernel
set_option maxRecDepth 20000 in
theorem ggX12_meets_X12_isDance : GoodIn wsX12_meets wsX12_isDance := goodIn_r _ [7, 8, 27, 28, 29, 30, 31, 32, 33, 34, 35, 36, 37, 38, 39, 40, 41, 42, 43, 44, 45, 46, 47, 48, 49, 50, 51, 52, 53, 54, 55, 56, 57, 58, 59, 60, 61, 62, 63, 64, 65, 66, 67, 68, 69, 70, 71] (by decide +kernel) (by decide +kernel)
set_option maxRecDepth 20000 in
theorem gX12_meets_X12_isDance : GoodIn wsX12_meets (wsV RX12 254 RX12 yX12_isDance wsX12_isDance) := goodIn_app (goodIn_of _ (by decide +kernel)) ggX12_meets_X12_isDance
theorem dX12_meets_0 : decode cX12_meets 0 = .ok (.aload_n 0, 1) := by decide +kernel
theorem dX12_meets_1 : decode cX12_meets 1 = .ok (.iconst 0, 1) := by decide +kernel
theorem dX12_meets_2 : decode cX12_meets 2 = .ok (.putfield 80, 3) := by decide +kernel
theorem dX12_meets_5 : decode cX12_meets 5 = .ok (.aload_n 0, 1) := by decide +kernel
theorem dX12_meets_6 : decode cX12_meets 6 = .ok (.invokevirtual 254, 3) := by decide +kernel
theorem dX12_meets_9 : decode cX12_meets 9 = .ok (.ifCond .eq 45, 3) := by decide +kernel
theorem dX12_meets_54 : decode cX12_meets 54 = .ok (.bipush (-2), 2) := by decide +kernel
theorem dX12_meets_56 : decode cX12_meets 56 = .ok (.ireturn, 1) := by decide +kernel
set_option maxRecDepth 20000 in
theorem ggX12_shifted_X12_isDance : GoodIn wsX12_shifted wsX12_isDance := goodIn_r _ [6, 7, 44, 45, 46, 47, 48, 49, 50, 51, 52, 53, 54, 55, 56, 57, 58, 59, 60, 61, 62, 63, 64, 65, 66, 67, 68, 69, 70, 71, 72, 73, 74, 75, 76, 77, 78, 79, 80, 81, 82, 83, 84, 85, 86, 87, 88] (by decide +kernel) (by decide +kernel)
set_option maxRecDepth 20000 in
theorem gX12_shifted_X12_isDance : GoodIn wsX12_shifted (wsV RX12 254 RX12 yX12_isDance wsX12_isDance) := goodIn_app (goodIn_of _ (by decide +kernel)) ggX12_shifted_X12_isDance
theorem dX12_shifted_0 : decode cX12_shifted 0 = .ok (.aload_n 0, 1) := by decide +kernel
theorem dX12_shifted_1 : decode cX12_shifted 1 = .ok (.iconst 0, 1) := by decide +kernel
theorem dX12_shifted_2 : decode cX12_shifted 2 = .ok (.putfield 80, 3) := by decide +kernel
theorem dX12_shifted_5 : decode cX12_shifted 5 = .ok (.aload_n 0, 1) := by decide +kernel
theorem dX12_shifted_6 : decode cX12_shifted 6 = .ok (.invokevirtual 254, 3) := by decide +kernel
theorem dX12_shifted_9 : decode cX12_shifted 9 = .ok (.ifCond .eq 35, 3) := by decide +kernel
theorem dX12_shifted_44 : decode cX12_shifted 44 = .ok (.bipush (-2), 2) := by decide +kernel
theorem dX12_shifted_46 : decode cX12_shifted 46 = .ok (.ireturn, 1) := by decide +kernel
set_option maxRecDepth 20000 in
theorem ggX12_shift_X12_isDance : GoodIn wsX12_shift wsX12_isDance := goodIn_r _ [6, 7, 41, 42, 43, 44, 45, 46, 47, 48, 49, 50, 51, 52, 53, 54, 55, 56, 57, 58, 59, 60, 61, 62, 63, 64, 65, 66, 67, 68, 69, 70, 71, 72, 73, 74, 75, 76, 77, 78, 79, 80, 81, 82, 83, 84, 85] (by decide +kernel) (by decide +kernel)
set_option maxRecDepth 20000 in
theorem gX12_shift_X12_isDance : GoodIn wsX12_shift (wsV RX12 254 RX12 yX12_isDance wsX12_isDance) := goodIn_app (goodIn_of _ (by decide +kernel)) ggX12_shift_X12_isDance
theorem dX12_shift_0 : decode cX12_shift 0 = .ok (.aload_n 0, 1) := by decide +kernel
theorem dX12_shift_1 : decode cX12_shift 1 = .ok (.iconst 0, 1) := by decide +kernel
theorem dX12_shift_2 : decode cX12_shift 2 = .ok (.putfield 80, 3) := by decide +kernel
theorem dX12_shift_5 : decode cX12_shift 5 = .ok (.aload_n 0, 1) := by decide +kernel
theorem dX12_shift_6 : decode cX12_shift 6 = .ok (.invokevirtual 254, 3) := by decide +kernel
theorem dX12_shift_9 : decode cX12_shift 9 = .ok (.ifCond .eq 10, 3) := by decide +kernel
theorem dX12_shift_19 : decode cX12_shift 19 = .ok (.bipush (-2), 2) := by decide +kernel
theorem dX12_shift_21 : decode cX12_shift 21 = .ok (.ireturn, 1) := by decide +kernel
set_option maxRecDepth 20000 in
theorem ggX12_least_X12_isDance : GoodIn wsX12_least wsX12_isDance := goodIn_r _ [6, 7, 41, 42, 43, 44, 45, 46, 47, 48, 49, 50, 51, 52, 53, 54, 55, 56, 57, 58, 59, 60, 61, 62, 63, 64, 65, 66, 67, 68, 69, 70, 71, 72, 73, 74, 75, 76, 77, 78, 79, 80, 81, 82, 83, 84, 85] (by decide +kernel) (by decide +kernel)
set_option maxRecDepth 20000 in
theorem gX12_least_X12_isDance : GoodIn wsX12_least (wsV RX12 254 RX12 yX12_isDance wsX12_isDance) := goodIn_app (goodIn_of _ (by decide +kernel)) ggX12_least_X12_isDance
theorem dX12_least_0 : decode cX12_least 0 = .ok (.aload_n 0, 1) := by decide +kernel
theorem dX12_least_1 : decode cX12_least 1 = .ok (.iconst 0, 1) := by decide +kernel
theorem dX12_least_2 : decode cX12_least 2 = .ok (.putfield 80, 3) := by decide +kernel
theorem dX12_least_5 : decode cX12_least 5 = .ok (.aload_n 0, 1) := by decide +kernel
theorem dX12_least_6 : decode cX12_least 6 = .ok (.invokevirtual 254, 3) := by decide +kernel
theorem dX12_least_9 : decode cX12_least 9 = .ok (.ifCond .eq 10, 3) := by decide +kernel
theorem dX12_least_19 : decode cX12_least 19 = .ok (.bipush (-2), 2) := by decide +kernel
theorem dX12_least_21 : decode cX12_least 21 = .ok (.ireturn, 1) := by decide +kernel
set_option maxRecDepth 20000 in
theorem ggX12_mend_X12_isSide : GoodIn wsX12_mend wsX12_isSide := goodIn_r _ [7, 8, 9, 10, 6, 11, 12, 13, 14, 15, 52, 53, 54, 55, 56, 57, 58, 59, 60, 61, 62, 63, 64, 65, 66, 67, 68, 69, 70, 71, 72, 73, 74, 75, 76, 77, 78, 79, 80, 81, 82, 83, 84, 85, 86, 87, 88, 89, 90, 91, 92, 93, 94, 95, 96] (by decide +kernel) (by decide +kernel)
set_option maxRecDepth 20000 in
theorem gX12_mend_X12_isSide : GoodIn wsX12_mend (wsV RX12 261 RX12 yX12_isSide wsX12_isSide) := goodIn_app (goodIn_of _ (by decide +kernel)) ggX12_mend_X12_isSide
theorem dX12_mend_0 : decode cX12_mend 0 = .ok (.aload_n 0, 1) := by decide +kernel
theorem dX12_mend_1 : decode cX12_mend 1 = .ok (.iconst 0, 1) := by decide +kernel
theorem dX12_mend_2 : decode cX12_mend 2 = .ok (.putfield 80, 3) := by decide +kernel
theorem dX12_mend_5 : decode cX12_mend 5 = .ok (.aload_n 0, 1) := by decide +kernel
theorem dX12_mend_6 : decode cX12_mend 6 = .ok (.iload_n 1, 1) := by decide +kernel
theorem dX12_mend_7 : decode cX12_mend 7 = .ok (.invokevirtual 261, 3) := by decide +kernel
theorem dX12_mend_10 : decode cX12_mend 10 = .ok (.ifCond .eq 10, 3) := by decide +kernel
theorem dX12_mend_20 : decode cX12_mend 20 = .ok (.bipush (-2), 2) := by decide +kernel
theorem dX12_mend_22 : decode cX12_mend 22 = .ok (.ireturn, 1) := by decide +kernel
set_option maxRecDepth 20000 in
theorem ggX12_mended_X12_isSide : GoodIn wsX12_mended wsX12_isSide := goodIn_r _ [6, 7, 8, 9, 5, 10, 11, 12, 13, 14, 52, 53, 54, 55, 56, 57, 58, 59, 60, 61, 62, 63, 64, 65, 66, 67, 68, 69, 70, 71, 72, 73, 74, 75, 76, 77, 78, 79, 80, 81, 82, 83, 84, 85, 86, 87, 88, 89, 90, 91, 92, 93, 94, 95, 96] (by decide +kernel) (by decide +kernel)
set_option maxRecDepth 20000 in
theorem gX12_mended_X12_isSide : GoodIn wsX12_mended (wsV RX12 261 RX12 yX12_isSide wsX12_isSide) := goodIn_app (goodIn_of _ (by decide +kernel)) ggX12_mended_X12_isSide
theorem dX12_mended_0 : decode cX12_mended 0 = .ok (.aload_n 0, 1) := by decide +kernel
theorem dX12_mended_1 : decode cX12_mended 1 = .ok (.iconst 0, 1) := by decide +kernel
theorem dX12_mended_2 : decode cX12_mended 2 = .ok (.putfield 80, 3) := by decide +kernel
theorem dX12_mended_5 : decode cX12_mended 5 = .ok (.aload_n 0, 1) := by decide +kernel
theorem dX12_mended_6 : decode cX12_mended 6 = .ok (.iload_n 1, 1) := by decide +kernel
theorem dX12_mended_7 : decode cX12_mended 7 = .ok (.invokevirtual 261, 3) := by decide +kernel
theorem dX12_mended_10 : decode cX12_mended 10 = .ok (.ifCond .eq 27, 3) := by decide +kernel
theorem dX12_mended_37 : decode cX12_mended 37 = .ok (.bipush (-2), 2) := by decide +kernel
theorem dX12_mended_39 : decode cX12_mended 39 = .ok (.ireturn, 1) := by decide +kernel
set_option maxRecDepth 20000 in
theorem ggX12_stuck_X12_isSide : GoodIn wsX12_stuck wsX12_isSide := goodIn_r _ [6, 7, 8, 9, 5, 10, 11, 12, 13, 14, 52, 53, 54, 55, 56, 57, 58, 59, 60, 61, 62, 63, 64, 65, 66, 67, 68, 69, 70, 71, 72, 73, 74, 75, 76, 77, 78, 79, 80, 81, 82, 83, 84, 85, 86, 87, 88, 89, 90, 91, 92, 93, 94, 95, 96] (by decide +kernel) (by decide +kernel)
set_option maxRecDepth 20000 in
theorem gX12_stuck_X12_isSide : GoodIn wsX12_stuck (wsV RX12 261 RX12 yX12_isSide wsX12_isSide) := goodIn_app (goodIn_of _ (by decide +kernel)) ggX12_stuck_X12_isSide
theorem dX12_stuck_0 : decode cX12_stuck 0 = .ok (.aload_n 0, 1) := by decide +kernel
theorem dX12_stuck_1 : decode cX12_stuck 1 = .ok (.iconst 0, 1) := by decide +kernel
theorem dX12_stuck_2 : decode cX12_stuck 2 = .ok (.putfield 80, 3) := by decide +kernel
theorem dX12_stuck_5 : decode cX12_stuck 5 = .ok (.aload_n 0, 1) := by decide +kernel
theorem dX12_stuck_6 : decode cX12_stuck 6 = .ok (.iload_n 1, 1) := by decide +kernel
theorem dX12_stuck_7 : decode cX12_stuck 7 = .ok (.invokevirtual 261, 3) := by decide +kernel
theorem dX12_stuck_10 : decode cX12_stuck 10 = .ok (.ifCond .eq 18, 3) := by decide +kernel
theorem dX12_stuck_28 : decode cX12_stuck 28 = .ok (.bipush (-2), 2) := by decide +kernel
theorem dX12_stuck_30 : decode cX12_stuck 30 = .ok (.ireturn, 1) := by decide +kernel
set_option maxRecDepth 20000 in
theorem ggX12_whyNot_X12_isSlot : GoodIn wsX12_whyNot wsX12_isSlot := goodIn_r _ [9, 10, 11, 12, 8, 13] (by decide +kernel) (by decide +kernel)
set_option maxRecDepth 20000 in
theorem gX12_whyNot_X12_isSlot : GoodIn wsX12_whyNot (va_wsS RX12 89 yX12_isSlot wsX12_isSlot) := goodIn_app (goodIn_of _ (by decide +kernel)) ggX12_whyNot_X12_isSlot
set_option maxRecDepth 20000 in
theorem ggX12_whyNot_X12_isSide : GoodIn wsX12_whyNot wsX12_isSide := goodIn_r _ [17, 18, 19, 20, 8, 21, 22, 11, 12, 13, 27, 28, 29, 30, 31, 32, 33, 34, 35, 36, 37, 38, 39, 40, 41, 42, 43, 44, 45, 46, 47, 48, 49, 50, 51, 52, 53, 54, 55, 56, 57, 58, 59, 60, 61, 62, 63, 64, 65, 66, 67, 68, 69, 70, 71] (by decide +kernel) (by decide +kernel)
set_option maxRecDepth 20000 in
theorem gX12_whyNot_X12_isSide : GoodIn wsX12_whyNot (wsV RX12 261 RX12 yX12_isSide wsX12_isSide) := goodIn_app (goodIn_of _ (by decide +kernel)) ggX12_whyNot_X12_isSide
theorem dX12_whyNot_0 : decode cX12_whyNot 0 = .ok (.iload_n 1, 1) := by decide +kernel
theorem dX12_whyNot_1 : decode cX12_whyNot 1 = .ok (.invokestatic 89, 3) := by decide +kernel
theorem dX12_whyNot_4 : decode cX12_whyNot 4 = .ok (.ifCond .eq 11, 3) := by decide +kernel
theorem dX12_whyNot_7 : decode cX12_whyNot 7 = .ok (.aload_n 0, 1) := by decide +kernel
theorem dX12_whyNot_8 : decode cX12_whyNot 8 = .ok (.iload_n 2, 1) := by decide +kernel
theorem dX12_whyNot_9 : decode cX12_whyNot 9 = .ok (.invokevirtual 261, 3) := by decide +kernel
theorem dX12_whyNot_12 : decode cX12_whyNot 12 = .ok (.ifCond .ne 6, 3) := by decide +kernel
theorem dX12_whyNot_15 : decode cX12_whyNot 15 = .ok (.bipush (-2), 2) := by decide +kernel
theorem dX12_whyNot_17 : decode cX12_whyNot 17 = .ok (.ireturn, 1) := by decide +kernel
set_option maxRecDepth 20000 in
theorem ggX12_heard_X12_whyNot : GoodIn wsX12_heard wsX12_whyNot := goodIn_r _ [7, 8, 9, 10, 11, 12, 13, 14, 6, 15, 16, 17, 18, 19, 20, 21, 22, 23, 24, 25, 26, 27, 28, 29, 30, 31, 32, 62, 63, 64, 65, 66, 67, 68, 69, 70, 71, 72, 73, 74, 75, 76, 77, 78, 79, 80, 81, 82, 83, 84, 85, 86, 87, 88, 89, 90, 91, 92, 93, 94, 95, 96, 97, 98, 99, 100, 101, 102, 103, 104, 105, 106] (by decide +kernel) (by decide +kernel)
set_option maxRecDepth 20000 in
theorem gX12_heard_X12_whyNot : GoodIn wsX12_heard (wsV RX12 355 RX12 yX12_whyNot wsX12_whyNot) := goodIn_app (goodIn_of _ (by decide +kernel)) ggX12_heard_X12_whyNot
theorem dX12_heard_0 : decode cX12_heard 0 = .ok (.aload_n 0, 1) := by decide +kernel
theorem dX12_heard_1 : decode cX12_heard 1 = .ok (.iconst 0, 1) := by decide +kernel
theorem dX12_heard_2 : decode cX12_heard 2 = .ok (.putfield 80, 3) := by decide +kernel
theorem dX12_heard_5 : decode cX12_heard 5 = .ok (.aload_n 0, 1) := by decide +kernel
theorem dX12_heard_6 : decode cX12_heard 6 = .ok (.iload_n 1, 1) := by decide +kernel
theorem dX12_heard_7 : decode cX12_heard 7 = .ok (.iload_n 2, 1) := by decide +kernel
theorem dX12_heard_8 : decode cX12_heard 8 = .ok (.invokevirtual 355, 3) := by decide +kernel
theorem dX12_heard_11 : decode cX12_heard 11 = .ok (.istore_n 3, 1) := by decide +kernel
theorem dX12_heard_12 : decode cX12_heard 12 = .ok (.iload_n 3, 1) := by decide +kernel
theorem dX12_heard_13 : decode cX12_heard 13 = .ok (.ifCond .eq 5, 3) := by decide +kernel
theorem dX12_heard_16 : decode cX12_heard 16 = .ok (.iload_n 3, 1) := by decide +kernel
theorem dX12_heard_17 : decode cX12_heard 17 = .ok (.ireturn, 1) := by decide +kernel
set_option maxRecDepth 20000 in
theorem ggX12_first_X12_whyNot : GoodIn wsX12_first wsX12_whyNot := goodIn_r _ [7, 8, 9, 10, 11, 12, 13, 14, 6, 15, 16, 17, 18, 19, 20, 21, 22, 23, 24, 25, 26, 27, 28, 29, 30, 31, 32, 62, 63, 64, 65, 66, 67, 68, 69, 70, 71, 72, 73, 74, 75, 76, 77, 78, 79, 80, 81, 82, 83, 84, 85, 86, 87, 88, 89, 90, 91, 92, 93, 94, 95, 96, 97, 98, 99, 100, 101, 102, 103, 104, 105, 106] (by decide +kernel) (by decide +kernel)
set_option maxRecDepth 20000 in
theorem gX12_first_X12_whyNot : GoodIn wsX12_first (wsV RX12 355 RX12 yX12_whyNot wsX12_whyNot) := goodIn_app (goodIn_of _ (by decide +kernel)) ggX12_first_X12_whyNot
theorem dX12_first_0 : decode cX12_first 0 = .ok (.aload_n 0, 1) := by decide +kernel
theorem dX12_first_1 : decode cX12_first 1 = .ok (.iconst 0, 1) := by decide +kernel
theorem dX12_first_2 : decode cX12_first 2 = .ok (.putfield 80, 3) := by decide +kernel
theorem dX12_first_5 : decode cX12_first 5 = .ok (.aload_n 0, 1) := by decide +kernel
theorem dX12_first_6 : decode cX12_first 6 = .ok (.iload_n 1, 1) := by decide +kernel
theorem dX12_first_7 : decode cX12_first 7 = .ok (.iload_n 2, 1) := by decide +kernel
theorem dX12_first_8 : decode cX12_first 8 = .ok (.invokevirtual 355, 3) := by decide +kernel
theorem dX12_first_11 : decode cX12_first 11 = .ok (.istore_n 3, 1) := by decide +kernel
theorem dX12_first_12 : decode cX12_first 12 = .ok (.iload_n 3, 1) := by decide +kernel
theorem dX12_first_13 : decode cX12_first 13 = .ok (.ifCond .eq 5, 3) := by decide +kernel
theorem dX12_first_16 : decode cX12_first 16 = .ok (.iload_n 3, 1) := by decide +kernel
theorem dX12_first_17 : decode cX12_first 17 = .ok (.ireturn, 1) := by decide +kernel
set_option maxRecDepth 20000 in
theorem ggX12_when_X12_whyNot : GoodIn wsX12_when wsX12_whyNot := goodIn_r _ [7, 8, 9, 10, 11, 12, 13, 14, 6, 15, 16, 17, 18, 19, 20, 21, 22, 23, 24, 25, 26, 27, 28, 29, 30, 31, 32, 62, 63, 64, 65, 66, 67, 68, 69, 70, 71, 72, 73, 74, 75, 76, 77, 78, 79, 80, 81, 82, 83, 84, 85, 86, 87, 88, 89, 90, 91, 92, 93, 94, 95, 96, 97, 98, 99, 100, 101, 102, 103, 104, 105, 106] (by decide +kernel) (by decide +kernel)
set_option maxRecDepth 20000 in
theorem gX12_when_X12_whyNot : GoodIn wsX12_when (wsV RX12 355 RX12 yX12_whyNot wsX12_whyNot) := goodIn_app (goodIn_of _ (by decide +kernel)) ggX12_when_X12_whyNot
theorem dX12_when_0 : decode cX12_when 0 = .ok (.aload_n 0, 1) := by decide +kernel
theorem dX12_when_1 : decode cX12_when 1 = .ok (.iconst 0, 1) := by decide +kernel
theorem dX12_when_2 : decode cX12_when 2 = .ok (.putfield 80, 3) := by decide +kernel
theorem dX12_when_5 : decode cX12_when 5 = .ok (.aload_n 0, 1) := by decide +kernel
theorem dX12_when_6 : decode cX12_when 6 = .ok (.iload_n 1, 1) := by decide +kernel
theorem dX12_when_7 : decode cX12_when 7 = .ok (.iload_n 2, 1) := by decide +kernel
theorem dX12_when_8 : decode cX12_when 8 = .ok (.invokevirtual 355, 3) := by decide +kernel
theorem dX12_when_11 : decode cX12_when 11 = .ok (.istore_n 3, 1) := by decide +kernel
theorem dX12_when_12 : decode cX12_when 12 = .ok (.iload_n 3, 1) := by decide +kernel
theorem dX12_when_13 : decode cX12_when 13 = .ok (.ifCond .eq 6, 3) := by decide +kernel
theorem dX12_when_16 : decode cX12_when 16 = .ok (.iload_n 3, 1) := by decide +kernel
theorem dX12_when_17 : decode cX12_when 17 = .ok (.i2l, 1) := by decide +kernel
theorem dX12_when_18 : decode cX12_when 18 = .ok (.lreturn, 1) := by decide +kernel
set_option maxRecDepth 20000 in
theorem ggX12_listen_X12_whyNot : GoodIn wsX12_listen wsX12_whyNot := goodIn_r _ [6, 7, 8, 9, 10, 11, 12, 13, 5, 14, 15, 16, 17, 18, 19, 20, 21, 22, 23, 24, 25, 26, 27, 28, 29, 30, 31, 67, 68, 69, 70, 71, 72, 73, 74, 75, 76, 77, 78, 79, 80, 81, 82, 83, 84, 85, 86, 87, 88, 89, 90, 91, 92, 93, 94, 95, 96, 97, 98, 99, 100, 101, 102, 103, 104, 105, 106, 107, 108, 109, 110, 111] (by decide +kernel) (by decide +kernel)
set_option maxRecDepth 20000 in
theorem gX12_listen_X12_whyNot : GoodIn wsX12_listen (wsV RX12 355 RX12 yX12_whyNot wsX12_whyNot) := goodIn_app (goodIn_of _ (by decide +kernel)) ggX12_listen_X12_whyNot
theorem dX12_listen_0 : decode cX12_listen 0 = .ok (.aload_n 0, 1) := by decide +kernel
theorem dX12_listen_1 : decode cX12_listen 1 = .ok (.iconst 0, 1) := by decide +kernel
theorem dX12_listen_2 : decode cX12_listen 2 = .ok (.putfield 80, 3) := by decide +kernel
theorem dX12_listen_5 : decode cX12_listen 5 = .ok (.aload_n 0, 1) := by decide +kernel
theorem dX12_listen_6 : decode cX12_listen 6 = .ok (.iload_n 1, 1) := by decide +kernel
theorem dX12_listen_7 : decode cX12_listen 7 = .ok (.iload_n 2, 1) := by decide +kernel
theorem dX12_listen_8 : decode cX12_listen 8 = .ok (.invokevirtual 355, 3) := by decide +kernel
theorem dX12_listen_11 : decode cX12_listen 11 = .ok (.istore_n 3, 1) := by decide +kernel
theorem dX12_listen_12 : decode cX12_listen 12 = .ok (.iload_n 3, 1) := by decide +kernel
theorem dX12_listen_13 : decode cX12_listen 13 = .ok (.ifCond .eq 7, 3) := by decide +kernel
theorem dX12_listen_16 : decode cX12_listen 16 = .ok (.iload_n 3, 1) := by decide +kernel
theorem dX12_listen_17 : decode cX12_listen 17 = .ok (.goto 9, 3) := by decide +kernel
theorem dX12_listen_26 : decode cX12_listen 26 = .ok (.ireturn, 1) := by decide +kernel
set_option maxRecDepth 20000 in
theorem ggX12_leaves_X12_whyNot : GoodIn wsX12_leaves wsX12_whyNot := goodIn_r _ [7, 8, 9, 10, 11, 12, 13, 14, 6, 15, 16, 17, 18, 19, 20, 21, 22, 23, 24, 25, 26, 27, 28, 29, 30, 31, 32, 67, 68, 69, 70, 71, 72, 73, 74, 75, 76, 77, 78, 79, 80, 81, 82, 83, 84, 85, 86, 87, 88, 89, 90, 91, 92, 93, 94, 95, 96, 97, 98, 99, 100, 101, 102, 103, 104, 105, 106, 107, 108, 109, 110, 111] (by decide +kernel) (by decide +kernel)
set_option maxRecDepth 20000 in
theorem gX12_leaves_X12_whyNot : GoodIn wsX12_leaves (wsV RX12 355 RX12 yX12_whyNot wsX12_whyNot) := goodIn_app (goodIn_of _ (by decide +kernel)) ggX12_leaves_X12_whyNot
theorem dX12_leaves_0 : decode cX12_leaves 0 = .ok (.aload_n 0, 1) := by decide +kernel
theorem dX12_leaves_1 : decode cX12_leaves 1 = .ok (.iconst 0, 1) := by decide +kernel
theorem dX12_leaves_2 : decode cX12_leaves 2 = .ok (.putfield 80, 3) := by decide +kernel
theorem dX12_leaves_5 : decode cX12_leaves 5 = .ok (.aload_n 0, 1) := by decide +kernel
theorem dX12_leaves_6 : decode cX12_leaves 6 = .ok (.iload_n 1, 1) := by decide +kernel
theorem dX12_leaves_7 : decode cX12_leaves 7 = .ok (.iload_n 2, 1) := by decide +kernel
theorem dX12_leaves_8 : decode cX12_leaves 8 = .ok (.invokevirtual 355, 3) := by decide +kernel
theorem dX12_leaves_11 : decode cX12_leaves 11 = .ok (.istore_n 3, 1) := by decide +kernel
theorem dX12_leaves_12 : decode cX12_leaves 12 = .ok (.iload_n 3, 1) := by decide +kernel
theorem dX12_leaves_13 : decode cX12_leaves 13 = .ok (.ifCond .eq 5, 3) := by decide +kernel
theorem dX12_leaves_16 : decode cX12_leaves 16 = .ok (.iload_n 3, 1) := by decide +kernel
theorem dX12_leaves_17 : decode cX12_leaves 17 = .ok (.ireturn, 1) := by decide +kernel
set_option maxRecDepth 20000 in
theorem ggX12_crosses_X12_isDance : GoodIn wsX12_crosses wsX12_isDance := goodIn_r _ [6, 7, 25, 26, 27, 28, 29, 30, 31, 32, 33, 34, 35, 36, 37, 38, 39, 40, 41, 42, 43, 44, 45, 46, 47, 48, 49, 50, 51, 52, 53, 54, 55, 56, 57, 58, 59, 60, 61, 62, 63, 64, 65, 66, 67, 68, 69] (by decide +kernel) (by decide +kernel)
set_option maxRecDepth 20000 in
theorem gX12_crosses_X12_isDance : GoodIn wsX12_crosses (wsV RX12 254 RX12 yX12_isDance wsX12_isDance) := goodIn_app (goodIn_of _ (by decide +kernel)) ggX12_crosses_X12_isDance
theorem dX12_crosses_0 : decode cX12_crosses 0 = .ok (.aload_n 0, 1) := by decide +kernel
theorem dX12_crosses_1 : decode cX12_crosses 1 = .ok (.iconst 0, 1) := by decide +kernel
theorem dX12_crosses_2 : decode cX12_crosses 2 = .ok (.putfield 80, 3) := by decide +kernel
theorem dX12_crosses_5 : decode cX12_crosses 5 = .ok (.aload_n 0, 1) := by decide +kernel
theorem dX12_crosses_6 : decode cX12_crosses 6 = .ok (.invokevirtual 254, 3) := by decide +kernel
theorem dX12_crosses_9 : decode cX12_crosses 9 = .ok (.ifCond .eq 23, 3) := by decide +kernel
theorem dX12_crosses_32 : decode cX12_crosses 32 = .ok (.bipush (-2), 2) := by decide +kernel
theorem dX12_crosses_34 : decode cX12_crosses 34 = .ok (.ireturn, 1) := by decide +kernel
set_option maxRecDepth 20000 in
theorem ggX12_returns_X12_isDance : GoodIn wsX12_returns wsX12_isDance := goodIn_r _ [6, 7, 25, 26, 27, 28, 29, 30, 31, 32, 33, 34, 35, 36, 37, 38, 39, 40, 41, 42, 43, 44, 45, 46, 47, 48, 49, 50, 51, 52, 53, 54, 55, 56, 57, 58, 59, 60, 61, 62, 63, 64, 65, 66, 67, 68, 69] (by decide +kernel) (by decide +kernel)
set_option maxRecDepth 20000 in
theorem gX12_returns_X12_isDance : GoodIn wsX12_returns (wsV RX12 254 RX12 yX12_isDance wsX12_isDance) := goodIn_app (goodIn_of _ (by decide +kernel)) ggX12_returns_X12_isDance
theorem dX12_returns_0 : decode cX12_returns 0 = .ok (.aload_n 0, 1) := by decide +kernel
theorem dX12_returns_1 : decode cX12_returns 1 = .ok (.iconst 0, 1) := by decide +kernel
theorem dX12_returns_2 : decode cX12_returns 2 = .ok (.putfield 80, 3) := by decide +kernel
theorem dX12_returns_5 : decode cX12_returns 5 = .ok (.aload_n 0, 1) := by decide +kernel
theorem dX12_returns_6 : decode cX12_returns 6 = .ok (.invokevirtual 254, 3) := by decide +kernel
theorem dX12_returns_9 : decode cX12_returns 9 = .ok (.ifCond .eq 23, 3) := by decide +kernel
theorem dX12_returns_32 : decode cX12_returns 32 = .ok (.bipush (-2), 2) := by decide +kernel
theorem dX12_returns_34 : decode cX12_returns 34 = .ok (.ireturn, 1) := by decide +kernel
set_option maxRecDepth 20000 in
theorem ggX12_meet_X12_isDance : GoodIn wsX12_meet wsX12_isDance := goodIn_r _ [7, 8, 32, 33, 34, 35, 36, 37, 38, 39, 40, 41, 42, 43, 44, 45, 46, 47, 48, 49, 50, 51, 52, 53, 54, 55, 56, 57, 58, 59, 60, 61, 62, 63, 64, 65, 66, 67, 68, 69, 70, 71, 72, 73, 74, 75, 76] (by decide +kernel) (by decide +kernel)
set_option maxRecDepth 20000 in
theorem gX12_meet_X12_isDance : GoodIn wsX12_meet (wsV RX12 254 RX12 yX12_isDance wsX12_isDance) := goodIn_app (goodIn_of _ (by decide +kernel)) ggX12_meet_X12_isDance
theorem dX12_meet_0 : decode cX12_meet 0 = .ok (.aload_n 0, 1) := by decide +kernel
theorem dX12_meet_1 : decode cX12_meet 1 = .ok (.iconst 0, 1) := by decide +kernel
theorem dX12_meet_2 : decode cX12_meet 2 = .ok (.putfield 80, 3) := by decide +kernel
theorem dX12_meet_5 : decode cX12_meet 5 = .ok (.aload_n 0, 1) := by decide +kernel
theorem dX12_meet_6 : decode cX12_meet 6 = .ok (.invokevirtual 254, 3) := by decide +kernel
theorem dX12_meet_9 : decode cX12_meet 9 = .ok (.ifCond .eq 19, 3) := by decide +kernel
theorem dX12_meet_28 : decode cX12_meet 28 = .ok (.bipush (-2), 2) := by decide +kernel
theorem dX12_meet_30 : decode cX12_meet 30 = .ok (.ireturn, 1) := by decide +kernel
set_option maxRecDepth 20000 in
theorem ggX12_cell_X12_isDance : GoodIn wsX12_cell wsX12_isDance := goodIn_r _ [7, 8, 29, 30, 31, 32, 33, 34, 35, 36, 37, 38, 39, 40, 41, 42, 43, 44, 45, 46, 47, 48, 49, 50, 51, 52, 53, 54, 55, 56, 57, 58, 59, 60, 61, 62, 63, 64, 65, 66, 67, 68, 69, 70, 71, 72, 73] (by decide +kernel) (by decide +kernel)
set_option maxRecDepth 20000 in
theorem gX12_cell_X12_isDance : GoodIn wsX12_cell (wsV RX12 254 RX12 yX12_isDance wsX12_isDance) := goodIn_app (goodIn_of _ (by decide +kernel)) ggX12_cell_X12_isDance
theorem dX12_cell_0 : decode cX12_cell 0 = .ok (.aload_n 0, 1) := by decide +kernel
theorem dX12_cell_1 : decode cX12_cell 1 = .ok (.iconst 0, 1) := by decide +kernel
theorem dX12_cell_2 : decode cX12_cell 2 = .ok (.putfield 80, 3) := by decide +kernel
theorem dX12_cell_5 : decode cX12_cell 5 = .ok (.aload_n 0, 1) := by decide +kernel
theorem dX12_cell_6 : decode cX12_cell 6 = .ok (.invokevirtual 254, 3) := by decide +kernel
theorem dX12_cell_9 : decode cX12_cell 9 = .ok (.ifCond .eq 19, 3) := by decide +kernel
theorem dX12_cell_28 : decode cX12_cell 28 = .ok (.bipush (-2), 2) := by decide +kernel
theorem dX12_cell_30 : decode cX12_cell 30 = .ok (.ireturn, 1) := by decide +kernel
set_option maxRecDepth 20000 in
theorem ggX12_longest_X12_isDance : GoodIn wsX12_longest wsX12_isDance := goodIn_r _ [6, 7, 15, 16, 17, 18, 19, 20, 21, 22, 23, 24, 25, 26, 27, 28, 29, 30, 31, 32, 33, 34, 35, 36, 37, 38, 39, 40, 41, 42, 43, 44, 45, 46, 47, 48, 49, 50, 51, 52, 53, 54, 55, 56, 57, 58, 59] (by decide +kernel) (by decide +kernel)
set_option maxRecDepth 20000 in
theorem gX12_longest_X12_isDance : GoodIn wsX12_longest (wsV RX12 254 RX12 yX12_isDance wsX12_isDance) := goodIn_app (goodIn_of _ (by decide +kernel)) ggX12_longest_X12_isDance
theorem dX12_longest_0 : decode cX12_longest 0 = .ok (.aload_n 0, 1) := by decide +kernel
theorem dX12_longest_1 : decode cX12_longest 1 = .ok (.iconst 0, 1) := by decide +kernel
theorem dX12_longest_2 : decode cX12_longest 2 = .ok (.putfield 80, 3) := by decide +kernel
theorem dX12_longest_5 : decode cX12_longest 5 = .ok (.aload_n 0, 1) := by decide +kernel
theorem dX12_longest_6 : decode cX12_longest 6 = .ok (.invokevirtual 254, 3) := by decide +kernel
theorem dX12_longest_9 : decode cX12_longest 9 = .ok (.ifCond .ne 6, 3) := by decide +kernel
theorem dX12_longest_12 : decode cX12_longest 12 = .ok (.bipush (-2), 2) := by decide +kernel
theorem dX12_longest_14 : decode cX12_longest 14 = .ok (.ireturn, 1) := by decide +kernel
set_option maxRecDepth 20000 in
theorem ggX12_whyNotHalf_X12_isSlot : GoodIn wsX12_whyNotHalf wsX12_isSlot := goodIn_r _ [9, 10, 11, 12, 8, 13] (by decide +kernel) (by decide +kernel)
set_option maxRecDepth 20000 in
theorem gX12_whyNotHalf_X12_isSlot : GoodIn wsX12_whyNotHalf (va_wsS RX12 89 yX12_isSlot wsX12_isSlot) := goodIn_app (goodIn_of _ (by decide +kernel)) ggX12_whyNotHalf_X12_isSlot
theorem dX12_whyNotHalf_0 : decode cX12_whyNotHalf 0 = .ok (.iload_n 1, 1) := by decide +kernel
theorem dX12_whyNotHalf_1 : decode cX12_whyNotHalf 1 = .ok (.invokestatic 89, 3) := by decide +kernel
theorem dX12_whyNotHalf_4 : decode cX12_whyNotHalf 4 = .ok (.ifCond .ne 6, 3) := by decide +kernel
theorem dX12_whyNotHalf_7 : decode cX12_whyNotHalf 7 = .ok (.bipush (-2), 2) := by decide +kernel
theorem dX12_whyNotHalf_9 : decode cX12_whyNotHalf 9 = .ok (.ireturn, 1) := by decide +kernel
theorem dX12_whyNotHalf_10 : decode cX12_whyNotHalf 10 = .ok (.aload_n 0, 1) := by decide +kernel
theorem dX12_whyNotHalf_11 : decode cX12_whyNotHalf 11 = .ok (.getfield 7, 3) := by decide +kernel
theorem dX12_whyNotHalf_14 : decode cX12_whyNotHalf 14 = .ok (.iload_n 1, 1) := by decide +kernel
theorem dX12_whyNotHalf_15 : decode cX12_whyNotHalf 15 = .ok (.iaload, 1) := by decide +kernel
theorem dX12_whyNotHalf_16 : decode cX12_whyNotHalf 16 = .ok (.iconst (-1), 1) := by decide +kernel
theorem dX12_whyNotHalf_17 : decode cX12_whyNotHalf 17 = .ok (.if_icmp .ne 6, 3) := by decide +kernel
theorem dX12_whyNotHalf_20 : decode cX12_whyNotHalf 20 = .ok (.bipush (-6), 2) := by decide +kernel
theorem dX12_whyNotHalf_22 : decode cX12_whyNotHalf 22 = .ok (.ireturn, 1) := by decide +kernel
set_option maxRecDepth 20000 in
theorem ggX12_half_X12_whyNotHalf : GoodIn wsX12_half wsX12_whyNotHalf := goodIn_r _ [6, 7, 8, 9, 10, 11, 12, 13, 5, 14, 15, 16, 17, 18, 28, 29, 30, 31, 32, 33, 34, 35, 36, 37, 38, 39, 40, 41, 42, 43, 44, 45, 46, 47, 48, 49, 50, 51, 52, 53, 54, 55, 56, 57, 58, 59, 60, 61, 62, 63, 64, 65, 66, 67, 68, 69, 70, 71, 72] (by decide +kernel) (by decide +kernel)
set_option maxRecDepth 20000 in
theorem gX12_half_X12_whyNotHalf : GoodIn wsX12_half (wsV RX12 385 RX12 yX12_whyNotHalf wsX12_whyNotHalf) := goodIn_app (goodIn_of _ (by decide +kernel)) ggX12_half_X12_whyNotHalf
theorem dX12_half_0 : decode cX12_half 0 = .ok (.aload_n 0, 1) := by decide +kernel
theorem dX12_half_1 : decode cX12_half 1 = .ok (.iconst 0, 1) := by decide +kernel
theorem dX12_half_2 : decode cX12_half 2 = .ok (.putfield 80, 3) := by decide +kernel
theorem dX12_half_5 : decode cX12_half 5 = .ok (.aload_n 0, 1) := by decide +kernel
theorem dX12_half_6 : decode cX12_half 6 = .ok (.iload_n 1, 1) := by decide +kernel
theorem dX12_half_7 : decode cX12_half 7 = .ok (.invokevirtual 385, 3) := by decide +kernel
theorem dX12_half_10 : decode cX12_half 10 = .ok (.istore_n 2, 1) := by decide +kernel
theorem dX12_half_11 : decode cX12_half 11 = .ok (.iload_n 2, 1) := by decide +kernel
theorem dX12_half_12 : decode cX12_half 12 = .ok (.ifCond .eq 7, 3) := by decide +kernel
theorem dX12_half_15 : decode cX12_half 15 = .ok (.iload_n 2, 1) := by decide +kernel
theorem dX12_half_16 : decode cX12_half 16 = .ok (.goto 8, 3) := by decide +kernel
theorem dX12_half_24 : decode cX12_half 24 = .ok (.ireturn, 1) := by decide +kernel
set_option maxRecDepth 20000 in
theorem ggX12_fills_X12_whyNotHalf : GoodIn wsX12_fills wsX12_whyNotHalf := goodIn_r _ [7, 8, 9, 10, 11, 12, 13, 14, 6, 15, 16, 17, 18, 19, 28, 29, 30, 31, 32, 33, 34, 35, 36, 37, 38, 39, 40, 41, 42, 43, 44, 45, 46, 47, 48, 49, 50, 51, 52, 53, 54, 55, 56, 57, 58, 59, 60, 61, 62, 63, 64, 65, 66, 67, 68, 69, 70, 71, 72] (by decide +kernel) (by decide +kernel)
set_option maxRecDepth 20000 in
theorem gX12_fills_X12_whyNotHalf : GoodIn wsX12_fills (wsV RX12 385 RX12 yX12_whyNotHalf wsX12_whyNotHalf) := goodIn_app (goodIn_of _ (by decide +kernel)) ggX12_fills_X12_whyNotHalf
theorem dX12_fills_0 : decode cX12_fills 0 = .ok (.aload_n 0, 1) := by decide +kernel
theorem dX12_fills_1 : decode cX12_fills 1 = .ok (.iconst 0, 1) := by decide +kernel
theorem dX12_fills_2 : decode cX12_fills 2 = .ok (.putfield 80, 3) := by decide +kernel
theorem dX12_fills_5 : decode cX12_fills 5 = .ok (.aload_n 0, 1) := by decide +kernel
theorem dX12_fills_6 : decode cX12_fills 6 = .ok (.iload_n 1, 1) := by decide +kernel
theorem dX12_fills_7 : decode cX12_fills 7 = .ok (.invokevirtual 385, 3) := by decide +kernel
theorem dX12_fills_10 : decode cX12_fills 10 = .ok (.istore_n 3, 1) := by decide +kernel
theorem dX12_fills_11 : decode cX12_fills 11 = .ok (.iload_n 3, 1) := by decide +kernel
theorem dX12_fills_12 : decode cX12_fills 12 = .ok (.ifCond .eq 5, 3) := by decide +kernel
theorem dX12_fills_15 : decode cX12_fills 15 = .ok (.iload_n 3, 1) := by decide +kernel
theorem dX12_fills_16 : decode cX12_fills 16 = .ok (.ireturn, 1) := by decide +kernel
set_option maxRecDepth 20000 in
theorem ggX12_open_X12_whyNotHalf : GoodIn wsX12_open wsX12_whyNotHalf := goodIn_r _ [7, 8, 9, 10, 11, 12, 13, 14, 6, 15, 16, 17, 18, 19, 28, 29, 30, 31, 32, 33, 34, 35, 36, 37, 38, 39, 40, 41, 42, 43, 44, 45, 46, 47, 48, 49, 50, 51, 52, 53, 54, 55, 56, 57, 58, 59, 60, 61, 62, 63, 64, 65, 66, 67, 68, 69, 70, 71, 72] (by decide +kernel) (by decide +kernel)
set_option maxRecDepth 20000 in
theorem gX12_open_X12_whyNotHalf : GoodIn wsX12_open (wsV RX12 385 RX12 yX12_whyNotHalf wsX12_whyNotHalf) := goodIn_app (goodIn_of _ (by decide +kernel)) ggX12_open_X12_whyNotHalf
theorem dX12_open_0 : decode cX12_open 0 = .ok (.aload_n 0, 1) := by decide +kernel
theorem dX12_open_1 : decode cX12_open 1 = .ok (.iconst 0, 1) := by decide +kernel
theorem dX12_open_2 : decode cX12_open 2 = .ok (.putfield 80, 3) := by decide +kernel
theorem dX12_open_5 : decode cX12_open 5 = .ok (.aload_n 0, 1) := by decide +kernel
theorem dX12_open_6 : decode cX12_open 6 = .ok (.iload_n 1, 1) := by decide +kernel
theorem dX12_open_7 : decode cX12_open 7 = .ok (.invokevirtual 385, 3) := by decide +kernel
theorem dX12_open_10 : decode cX12_open 10 = .ok (.istore_n 2, 1) := by decide +kernel
theorem dX12_open_11 : decode cX12_open 11 = .ok (.iload_n 2, 1) := by decide +kernel
theorem dX12_open_12 : decode cX12_open 12 = .ok (.ifCond .eq 5, 3) := by decide +kernel
theorem dX12_open_15 : decode cX12_open 15 = .ok (.iload_n 2, 1) := by decide +kernel
theorem dX12_open_16 : decode cX12_open 16 = .ok (.ireturn, 1) := by decide +kernel
set_option maxRecDepth 20000 in
theorem ggX12_isSet_X12_isDance : GoodIn wsX12_isSet wsX12_isDance := goodIn_r _ [6, 7, 11, 12, 13, 14, 15, 16, 17, 18, 19, 20, 21, 22, 23, 24, 25, 26, 27, 28, 29, 30, 31, 32, 33, 34, 35, 36, 37, 38, 39, 40, 41, 42, 43, 44, 45, 46, 47, 48, 49, 50, 51, 52, 53, 54, 55] (by decide +kernel) (by decide +kernel)
set_option maxRecDepth 20000 in
theorem gX12_isSet_X12_isDance : GoodIn wsX12_isSet (wsV RX12 254 RX12 yX12_isDance wsX12_isDance) := goodIn_app (goodIn_of _ (by decide +kernel)) ggX12_isSet_X12_isDance
theorem dX12_isSet_0 : decode cX12_isSet 0 = .ok (.aload_n 0, 1) := by decide +kernel
theorem dX12_isSet_1 : decode cX12_isSet 1 = .ok (.invokevirtual 254, 3) := by decide +kernel
theorem dX12_isSet_4 : decode cX12_isSet 4 = .ok (.ifCond .eq 28, 3) := by decide +kernel
theorem dX12_isSet_32 : decode cX12_isSet 32 = .ok (.iconst 0, 1) := by decide +kernel
theorem dX12_isSet_33 : decode cX12_isSet 33 = .ok (.ireturn, 1) := by decide +kernel
set_option maxRecDepth 20000 in
theorem ggX12_together_X12_isSet : GoodIn wsX12_together wsX12_isSet := goodIn_r _ [7, 8, 9, 10, 11, 6, 12, 13, 14, 15, 16, 33, 34, 35, 36, 37, 38, 39, 40, 41, 42, 43, 44, 45, 46, 47, 48, 49, 50, 51, 52, 53, 54, 55, 56, 57, 58, 59, 60, 61, 62, 63, 64, 65, 66, 67, 68, 69, 70, 71, 72, 73, 74, 75, 76, 77] (by decide +kernel) (by decide +kernel)
set_option maxRecDepth 20000 in
theorem gX12_together_X12_isSet : GoodIn wsX12_together (wsV RX12 391 RX12 yX12_isSet wsX12_isSet) := goodIn_app (goodIn_of _ (by decide +kernel)) ggX12_together_X12_isSet
theorem dX12_together_0 : decode cX12_together 0 = .ok (.aload_n 0, 1) := by decide +kernel
theorem dX12_together_1 : decode cX12_together 1 = .ok (.iconst 0, 1) := by decide +kernel
theorem dX12_together_2 : decode cX12_together 2 = .ok (.putfield 80, 3) := by decide +kernel
theorem dX12_together_5 : decode cX12_together 5 = .ok (.aload_n 0, 1) := by decide +kernel
theorem dX12_together_6 : decode cX12_together 6 = .ok (.iload_n 1, 1) := by decide +kernel
theorem dX12_together_7 : decode cX12_together 7 = .ok (.invokevirtual 391, 3) := by decide +kernel
theorem dX12_together_10 : decode cX12_together 10 = .ok (.ifCond .eq 20, 3) := by decide +kernel
theorem dX12_together_30 : decode cX12_together 30 = .ok (.ldc2_w 398, 3) := by decide +kernel
theorem dX12_together_33 : decode cX12_together 33 = .ok (.lreturn, 1) := by decide +kernel
set_option maxRecDepth 20000 in
theorem ggX12_again_X12_isSet : GoodIn wsX12_again wsX12_isSet := goodIn_r _ [7, 8, 9, 10, 11, 6, 12, 13, 14, 15, 16, 28, 29, 30, 31, 32, 33, 34, 35, 36, 37, 38, 39, 40, 41, 42, 43, 44, 45, 46, 47, 48, 49, 50, 51, 52, 53, 54, 55, 56, 57, 58, 59, 60, 61, 62, 63, 64, 65, 66, 67, 68, 69, 70, 71, 72] (by decide +kernel) (by decide +kernel)
set_option maxRecDepth 20000 in
theorem gX12_again_X12_isSet : GoodIn wsX12_again (wsV RX12 391 RX12 yX12_isSet wsX12_isSet) := goodIn_app (goodIn_of _ (by decide +kernel)) ggX12_again_X12_isSet
theorem dX12_again_0 : decode cX12_again 0 = .ok (.aload_n 0, 1) := by decide +kernel
theorem dX12_again_1 : decode cX12_again 1 = .ok (.iconst 0, 1) := by decide +kernel
theorem dX12_again_2 : decode cX12_again 2 = .ok (.putfield 80, 3) := by decide +kernel
theorem dX12_again_5 : decode cX12_again 5 = .ok (.aload_n 0, 1) := by decide +kernel
theorem dX12_again_6 : decode cX12_again 6 = .ok (.iload_n 1, 1) := by decide +kernel
theorem dX12_again_7 : decode cX12_again 7 = .ok (.invokevirtual 391, 3) := by decide +kernel
theorem dX12_again_10 : decode cX12_again 10 = .ok (.ifCond .eq 11, 3) := by decide +kernel
theorem dX12_again_21 : decode cX12_again 21 = .ok (.ldc2_w 398, 3) := by decide +kernel
theorem dX12_again_24 : decode cX12_again 24 = .ok (.lreturn, 1) := by decide +kernel
set_option maxRecDepth 20000 in
theorem ggX12_most_X12_isDance : GoodIn wsX12_most wsX12_isDance := goodIn_r _ [6, 7, 28, 29, 30, 31, 32, 33, 34, 35, 36, 37, 38, 39, 40, 41, 42, 43, 44, 45, 46, 47, 48, 49, 50, 51, 52, 53, 54, 55, 56, 57, 58, 59, 60, 61, 62, 63, 64, 65, 66, 67, 68, 69, 70, 71, 72] (by decide +kernel) (by decide +kernel)
set_option maxRecDepth 20000 in
theorem gX12_most_X12_isDance : GoodIn wsX12_most (wsV RX12 254 RX12 yX12_isDance wsX12_isDance) := goodIn_app (goodIn_of _ (by decide +kernel)) ggX12_most_X12_isDance
theorem dX12_most_0 : decode cX12_most 0 = .ok (.aload_n 0, 1) := by decide +kernel
theorem dX12_most_1 : decode cX12_most 1 = .ok (.iconst 0, 1) := by decide +kernel
theorem dX12_most_2 : decode cX12_most 2 = .ok (.putfield 80, 3) := by decide +kernel
theorem dX12_most_5 : decode cX12_most 5 = .ok (.aload_n 0, 1) := by decide +kernel
theorem dX12_most_6 : decode cX12_most 6 = .ok (.invokevirtual 254, 3) := by decide +kernel
theorem dX12_most_9 : decode cX12_most 9 = .ok (.ifCond .eq 13, 3) := by decide +kernel
theorem dX12_most_22 : decode cX12_most 22 = .ok (.bipush (-2), 2) := by decide +kernel
theorem dX12_most_24 : decode cX12_most 24 = .ok (.ireturn, 1) := by decide +kernel
set_option maxRecDepth 20000 in
theorem ggX12_chorus_X12_isDance : GoodIn wsX12_chorus wsX12_isDance := goodIn_r _ [6, 7, 28, 29, 30, 31, 32, 33, 34, 35, 36, 37, 38, 39, 40, 41, 42, 43, 44, 45, 46, 47, 48, 49, 50, 51, 52, 53, 54, 55, 56, 57, 58, 59, 60, 61, 62, 63, 64, 65, 66, 67, 68, 69, 70, 71, 72] (by decide +kernel) (by decide +kernel)
set_option maxRecDepth 20000 in
theorem gX12_chorus_X12_isDance : GoodIn wsX12_chorus (wsV RX12 254 RX12 yX12_isDance wsX12_isDance) := goodIn_app (goodIn_of _ (by decide +kernel)) ggX12_chorus_X12_isDance
theorem dX12_chorus_0 : decode cX12_chorus 0 = .ok (.aload_n 0, 1) := by decide +kernel
theorem dX12_chorus_1 : decode cX12_chorus 1 = .ok (.iconst 0, 1) := by decide +kernel
theorem dX12_chorus_2 : decode cX12_chorus 2 = .ok (.putfield 80, 3) := by decide +kernel
theorem dX12_chorus_5 : decode cX12_chorus 5 = .ok (.aload_n 0, 1) := by decide +kernel
theorem dX12_chorus_6 : decode cX12_chorus 6 = .ok (.invokevirtual 254, 3) := by decide +kernel
theorem dX12_chorus_9 : decode cX12_chorus 9 = .ok (.ifCond .eq 10, 3) := by decide +kernel
theorem dX12_chorus_19 : decode cX12_chorus 19 = .ok (.bipush (-2), 2) := by decide +kernel
theorem dX12_chorus_21 : decode cX12_chorus 21 = .ok (.ireturn, 1) := by decide +kernel
set_option maxRecDepth 20000 in
theorem ggX12_treaties_X12_isDance : GoodIn wsX12_treaties wsX12_isDance := goodIn_r _ [7, 8, 12, 13, 14, 15, 16, 17, 18, 19, 20, 21, 22, 23, 24, 25, 26, 27, 28, 29, 30, 31, 32, 33, 34, 35, 36, 37, 38, 39, 40, 41, 42, 43, 44, 45, 46, 47, 48, 49, 50, 51, 52, 53, 54, 55, 56] (by decide +kernel) (by decide +kernel)
set_option maxRecDepth 20000 in
theorem gX12_treaties_X12_isDance : GoodIn wsX12_treaties (wsV RX12 254 RX12 yX12_isDance wsX12_isDance) := goodIn_app (goodIn_of _ (by decide +kernel)) ggX12_treaties_X12_isDance
theorem dX12_treaties_0 : decode cX12_treaties 0 = .ok (.aload_n 0, 1) := by decide +kernel
theorem dX12_treaties_1 : decode cX12_treaties 1 = .ok (.iconst 0, 1) := by decide +kernel
theorem dX12_treaties_2 : decode cX12_treaties 2 = .ok (.putfield 80, 3) := by decide +kernel
theorem dX12_treaties_5 : decode cX12_treaties 5 = .ok (.aload_n 0, 1) := by decide +kernel
theorem dX12_treaties_6 : decode cX12_treaties 6 = .ok (.invokevirtual 254, 3) := by decide +kernel
theorem dX12_treaties_9 : decode cX12_treaties 9 = .ok (.ifCond .ne 6, 3) := by decide +kernel
theorem dX12_treaties_12 : decode cX12_treaties 12 = .ok (.bipush (-2), 2) := by decide +kernel
theorem dX12_treaties_14 : decode cX12_treaties 14 = .ok (.ireturn, 1) := by decide +kernel
set_option maxRecDepth 20000 in
theorem ggX12_leads_X12_isDance : GoodIn wsX12_leads wsX12_isDance := goodIn_r _ [7, 8, 15, 16, 17, 18, 19, 20, 21, 22, 23, 24, 25, 26, 27, 28, 29, 30, 31, 32, 33, 34, 35, 36, 37, 38, 39, 40, 41, 42, 43, 44, 45, 46, 47, 48, 49, 50, 51, 52, 53, 54, 55, 56, 57, 58, 59] (by decide +kernel) (by decide +kernel)
set_option maxRecDepth 20000 in
theorem gX12_leads_X12_isDance : GoodIn wsX12_leads (wsV RX12 254 RX12 yX12_isDance wsX12_isDance) := goodIn_app (goodIn_of _ (by decide +kernel)) ggX12_leads_X12_isDance
theorem dX12_leads_0 : decode cX12_leads 0 = .ok (.aload_n 0, 1) := by decide +kernel
theorem dX12_leads_1 : decode cX12_leads 1 = .ok (.iconst 0, 1) := by decide +kernel
theorem dX12_leads_2 : decode cX12_leads 2 = .ok (.putfield 80, 3) := by decide +kernel
theorem dX12_leads_5 : decode cX12_leads 5 = .ok (.aload_n 0, 1) := by decide +kernel
theorem dX12_leads_6 : decode cX12_leads 6 = .ok (.invokevirtual 254, 3) := by decide +kernel
theorem dX12_leads_9 : decode cX12_leads 9 = .ok (.ifCond .eq 13, 3) := by decide +kernel
theorem dX12_leads_22 : decode cX12_leads 22 = .ok (.bipush (-2), 2) := by decide +kernel
theorem dX12_leads_24 : decode cX12_leads 24 = .ok (.ireturn, 1) := by decide +kernel
set_option maxRecDepth 20000 in
theorem ggX12_game_X12_isDance : GoodIn wsX12_game wsX12_isDance := goodIn_r _ [6, 7, 32, 33, 34, 35, 36, 37, 38, 39, 40, 41, 42, 43, 44, 45, 46, 47, 48, 49, 50, 51, 52, 53, 54, 55, 56, 57, 58, 59, 60, 61, 62, 63, 64, 65, 66, 67, 68, 69, 70, 71, 72, 73, 74, 75, 76] (by decide +kernel) (by decide +kernel)
set_option maxRecDepth 20000 in
theorem gX12_game_X12_isDance : GoodIn wsX12_game (wsV RX12 254 RX12 yX12_isDance wsX12_isDance) := goodIn_app (goodIn_of _ (by decide +kernel)) ggX12_game_X12_isDance
theorem dX12_game_0 : decode cX12_game 0 = .ok (.aload_n 0, 1) := by decide +kernel
theorem dX12_game_1 : decode cX12_game 1 = .ok (.iconst 0, 1) := by decide +kernel
theorem dX12_game_2 : decode cX12_game 2 = .ok (.putfield 80, 3) := by decide +kernel
theorem dX12_game_5 : decode cX12_game 5 = .ok (.aload_n 0, 1) := by decide +kernel
theorem dX12_game_6 : decode cX12_game 6 = .ok (.invokevirtual 254, 3) := by decide +kernel
theorem dX12_game_9 : decode cX12_game 9 = .ok (.ifCond .eq 11, 3) := by decide +kernel
theorem dX12_game_20 : decode cX12_game 20 = .ok (.bipush (-2), 2) := by decide +kernel
theorem dX12_game_22 : decode cX12_game 22 = .ok (.ireturn, 1) := by decide +kernel
set_option maxRecDepth 20000 in
theorem ggX12_plays_X12_isDance : GoodIn wsX12_plays wsX12_isDance := goodIn_r _ [6, 7, 32, 33, 34, 35, 36, 37, 38, 39, 40, 41, 42, 43, 44, 45, 46, 47, 48, 49, 50, 51, 52, 53, 54, 55, 56, 57, 58, 59, 60, 61, 62, 63, 64, 65, 66, 67, 68, 69, 70, 71, 72, 73, 74, 75, 76] (by decide +kernel) (by decide +kernel)
set_option maxRecDepth 20000 in
theorem gX12_plays_X12_isDance : GoodIn wsX12_plays (wsV RX12 254 RX12 yX12_isDance wsX12_isDance) := goodIn_app (goodIn_of _ (by decide +kernel)) ggX12_plays_X12_isDance
theorem dX12_plays_0 : decode cX12_plays 0 = .ok (.aload_n 0, 1) := by decide +kernel
theorem dX12_plays_1 : decode cX12_plays 1 = .ok (.iconst 0, 1) := by decide +kernel
theorem dX12_plays_2 : decode cX12_plays 2 = .ok (.putfield 80, 3) := by decide +kernel
theorem dX12_plays_5 : decode cX12_plays 5 = .ok (.aload_n 0, 1) := by decide +kernel
theorem dX12_plays_6 : decode cX12_plays 6 = .ok (.invokevirtual 254, 3) := by decide +kernel
theorem dX12_plays_9 : decode cX12_plays 9 = .ok (.ifCond .eq 11, 3) := by decide +kernel
theorem dX12_plays_20 : decode cX12_plays 20 = .ok (.bipush (-2), 2) := by decide +kernel
theorem dX12_plays_22 : decode cX12_plays 22 = .ok (.ireturn, 1) := by decide +kernel
set_option maxRecDepth 20000 in
theorem ggX12_isRain_X12_isDance : GoodIn wsX12_isRain wsX12_isDance := goodIn_r _ [6, 7, 11, 12, 13, 14, 15, 16, 17, 18, 19, 20, 21, 22, 23, 24, 25, 26, 27, 28, 29, 30, 31, 32, 33, 34, 35, 36, 37, 38, 39, 40, 41, 42, 43, 44, 45, 46, 47, 48, 49, 50, 51, 52, 53, 54, 55] (by decide +kernel) (by decide +kernel)
set_option maxRecDepth 20000 in
theorem gX12_isRain_X12_isDance : GoodIn wsX12_isRain (wsV RX12 254 RX12 yX12_isDance wsX12_isDance) := goodIn_app (goodIn_of _ (by decide +kernel)) ggX12_isRain_X12_isDance
theorem dX12_isRain_0 : decode cX12_isRain 0 = .ok (.aload_n 0, 1) := by decide +kernel
theorem dX12_isRain_1 : decode cX12_isRain 1 = .ok (.invokevirtual 254, 3) := by decide +kernel
theorem dX12_isRain_4 : decode cX12_isRain 4 = .ok (.ifCond .eq 29, 3) := by decide +kernel
theorem dX12_isRain_33 : decode cX12_isRain 33 = .ok (.iconst 0, 1) := by decide +kernel
theorem dX12_isRain_34 : decode cX12_isRain 34 = .ok (.ireturn, 1) := by decide +kernel
set_option maxRecDepth 20000 in
theorem ggX12_dry_X12_isRain : GoodIn wsX12_dry wsX12_isRain := goodIn_r _ [9, 10, 11, 12, 13, 8, 14, 15, 16, 17, 18, 28, 29, 30, 31, 32, 33, 34, 35, 36, 37, 38, 39, 40, 41, 42, 43, 44, 45, 46, 47, 48, 49, 50, 51, 52, 53, 54, 55, 56, 57, 58, 59, 60, 61, 62, 63, 64, 65, 66, 67, 68, 69, 70, 71, 72] (by decide +kernel) (by decide +kernel)
set_option maxRecDepth 20000 in
theorem gX12_dry_X12_isRain : GoodIn wsX12_dry (wsV RX12 421 RX12 yX12_isRain wsX12_isRain) := goodIn_app (goodIn_of _ (by decide +kernel)) ggX12_dry_X12_isRain
theorem dX12_dry_0 : decode cX12_dry 0 = .ok (.aload_n 0, 1) := by decide +kernel
theorem dX12_dry_1 : decode cX12_dry 1 = .ok (.iconst 0, 1) := by decide +kernel
theorem dX12_dry_2 : decode cX12_dry 2 = .ok (.putfield 80, 3) := by decide +kernel
theorem dX12_dry_5 : decode cX12_dry 5 = .ok (.aload_n 0, 1) := by decide +kernel
theorem dX12_dry_6 : decode cX12_dry 6 = .ok (.iload_n 1, 1) := by decide +kernel
theorem dX12_dry_7 : decode cX12_dry 7 = .ok (.iload_n 2, 1) := by decide +kernel
theorem dX12_dry_8 : decode cX12_dry 8 = .ok (.invokevirtual 421, 3) := by decide +kernel
theorem dX12_dry_11 : decode cX12_dry 11 = .ok (.ifCond .eq 32, 3) := by decide +kernel
theorem dX12_dry_43 : decode cX12_dry 43 = .ok (.ldc2_w 398, 3) := by decide +kernel
theorem dX12_dry_46 : decode cX12_dry 46 = .ok (.lreturn, 1) := by decide +kernel
set_option maxRecDepth 20000 in
theorem ggX12_wet_X12_isRain : GoodIn wsX12_wet wsX12_isRain := goodIn_r _ [9, 10, 11, 12, 13, 8, 14, 15, 16, 17, 18, 28, 29, 30, 31, 32, 33, 34, 35, 36, 37, 38, 39, 40, 41, 42, 43, 44, 45, 46, 47, 48, 49, 50, 51, 52, 53, 54, 55, 56, 57, 58, 59, 60, 61, 62, 63, 64, 65, 66, 67, 68, 69, 70, 71, 72] (by decide +kernel) (by decide +kernel)
set_option maxRecDepth 20000 in
theorem gX12_wet_X12_isRain : GoodIn wsX12_wet (wsV RX12 421 RX12 yX12_isRain wsX12_isRain) := goodIn_app (goodIn_of _ (by decide +kernel)) ggX12_wet_X12_isRain
theorem dX12_wet_0 : decode cX12_wet 0 = .ok (.aload_n 0, 1) := by decide +kernel
theorem dX12_wet_1 : decode cX12_wet 1 = .ok (.iconst 0, 1) := by decide +kernel
theorem dX12_wet_2 : decode cX12_wet 2 = .ok (.putfield 80, 3) := by decide +kernel
theorem dX12_wet_5 : decode cX12_wet 5 = .ok (.aload_n 0, 1) := by decide +kernel
theorem dX12_wet_6 : decode cX12_wet 6 = .ok (.iload_n 1, 1) := by decide +kernel
theorem dX12_wet_7 : decode cX12_wet 7 = .ok (.iload_n 3, 1) := by decide +kernel
theorem dX12_wet_8 : decode cX12_wet 8 = .ok (.invokevirtual 421, 3) := by decide +kernel
theorem dX12_wet_11 : decode cX12_wet 11 = .ok (.ifCond .eq 14, 3) := by decide +kernel
theorem dX12_wet_25 : decode cX12_wet 25 = .ok (.ldc2_w 398, 3) := by decide +kernel
theorem dX12_wet_28 : decode cX12_wet 28 = .ok (.lreturn, 1) := by decide +kernel
set_option maxRecDepth 20000 in
theorem ggX12_isDraw_X12_isDance : GoodIn wsX12_isDraw wsX12_isDance := goodIn_r _ [7, 8, 12, 13, 14, 15, 16, 17, 18, 19, 20, 21, 22, 23, 24, 25, 26, 27, 28, 29, 30, 31, 32, 33, 34, 35, 36, 37, 38, 39, 40, 41, 42, 43, 44, 45, 46, 47, 48, 49, 50, 51, 52, 53, 54, 55, 56] (by decide +kernel) (by decide +kernel)
set_option maxRecDepth 20000 in
theorem gX12_isDraw_X12_isDance : GoodIn wsX12_isDraw (wsV RX12 254 RX12 yX12_isDance wsX12_isDance) := goodIn_app (goodIn_of _ (by decide +kernel)) ggX12_isDraw_X12_isDance
theorem dX12_isDraw_0 : decode cX12_isDraw 0 = .ok (.aload_n 0, 1) := by decide +kernel
theorem dX12_isDraw_1 : decode cX12_isDraw 1 = .ok (.invokevirtual 254, 3) := by decide +kernel
theorem dX12_isDraw_4 : decode cX12_isDraw 4 = .ok (.ifCond .eq 31, 3) := by decide +kernel
theorem dX12_isDraw_35 : decode cX12_isDraw 35 = .ok (.iconst 0, 1) := by decide +kernel
theorem dX12_isDraw_36 : decode cX12_isDraw 36 = .ok (.ireturn, 1) := by decide +kernel
set_option maxRecDepth 20000 in
theorem ggX12_drawn_X12_isDraw : GoodIn wsX12_drawn wsX12_isDraw := goodIn_r _ [11, 12, 13, 14, 15, 16, 10, 17, 18, 19, 20, 21, 62, 63, 64, 65, 66, 67, 68, 69, 70, 71, 72, 73, 74, 75, 76, 77, 78, 79, 80, 81, 82, 83, 84, 85, 86, 87, 88, 89, 90, 91, 92, 93, 94, 95, 96, 97, 98, 99, 100, 101, 102, 103, 104, 105, 106] (by decide +kernel) (by decide +kernel)
set_option maxRecDepth 20000 in
theorem gX12_drawn_X12_isDraw : GoodIn wsX12_drawn (wsV RX12 464 RX12 yX12_isDraw wsX12_isDraw) := goodIn_app (goodIn_of _ (by decide +kernel)) ggX12_drawn_X12_isDraw
theorem dX12_drawn_0 : decode cX12_drawn 0 = .ok (.aload_n 0, 1) := by decide +kernel
theorem dX12_drawn_1 : decode cX12_drawn 1 = .ok (.iconst 0, 1) := by decide +kernel
theorem dX12_drawn_2 : decode cX12_drawn 2 = .ok (.putfield 80, 3) := by decide +kernel
theorem dX12_drawn_5 : decode cX12_drawn 5 = .ok (.aload_n 0, 1) := by decide +kernel
theorem dX12_drawn_6 : decode cX12_drawn 6 = .ok (.iload_n 1, 1) := by decide +kernel
theorem dX12_drawn_7 : decode cX12_drawn 7 = .ok (.iload_n 2, 1) := by decide +kernel
theorem dX12_drawn_8 : decode cX12_drawn 8 = .ok (.invokevirtual 464, 3) := by decide +kernel
theorem dX12_drawn_11 : decode cX12_drawn 11 = .ok (.ifCond .eq 15, 3) := by decide +kernel
theorem dX12_drawn_26 : decode cX12_drawn 26 = .ok (.bipush (-2), 2) := by decide +kernel
theorem dX12_drawn_28 : decode cX12_drawn 28 = .ok (.ireturn, 1) := by decide +kernel
set_option maxRecDepth 20000 in
theorem ggX12_nights_X12_isDraw : GoodIn wsX12_nights wsX12_isDraw := goodIn_r _ [8, 9, 10, 11, 12, 13, 7, 14, 15, 16, 17, 18, 62, 63, 64, 65, 66, 67, 68, 69, 70, 71, 72, 73, 74, 75, 76, 77, 78, 79, 80, 81, 82, 83, 84, 85, 86, 87, 88, 89, 90, 91, 92, 93, 94, 95, 96, 97, 98, 99, 100, 101, 102, 103, 104, 105, 106] (by decide +kernel) (by decide +kernel)
set_option maxRecDepth 20000 in
theorem gX12_nights_X12_isDraw : GoodIn wsX12_nights (wsV RX12 464 RX12 yX12_isDraw wsX12_isDraw) := goodIn_app (goodIn_of _ (by decide +kernel)) ggX12_nights_X12_isDraw
theorem dX12_nights_0 : decode cX12_nights 0 = .ok (.aload_n 0, 1) := by decide +kernel
theorem dX12_nights_1 : decode cX12_nights 1 = .ok (.iconst 0, 1) := by decide +kernel
theorem dX12_nights_2 : decode cX12_nights 2 = .ok (.putfield 80, 3) := by decide +kernel
theorem dX12_nights_5 : decode cX12_nights 5 = .ok (.aload_n 0, 1) := by decide +kernel
theorem dX12_nights_6 : decode cX12_nights 6 = .ok (.iload_n 1, 1) := by decide +kernel
theorem dX12_nights_7 : decode cX12_nights 7 = .ok (.iload_n 3, 1) := by decide +kernel
theorem dX12_nights_8 : decode cX12_nights 8 = .ok (.invokevirtual 464, 3) := by decide +kernel
theorem dX12_nights_11 : decode cX12_nights 11 = .ok (.ifCond .eq 15, 3) := by decide +kernel
theorem dX12_nights_26 : decode cX12_nights 26 = .ok (.bipush (-2), 2) := by decide +kernel
theorem dX12_nights_28 : decode cX12_nights 28 = .ok (.ireturn, 1) := by decide +kernel
set_option maxRecDepth 20000 in
theorem ggX12_stumble_X12_isSide : GoodIn wsX12_stumble wsX12_isSide := goodIn_r _ [9, 10, 11, 12, 8, 13, 14, 15, 16, 17, 35, 36, 37, 38, 39, 40, 41, 42, 43, 44, 45, 46, 47, 48, 49, 50, 51, 52, 53, 54, 55, 56, 57, 58, 59, 60, 61, 62, 63, 64, 65, 66, 67, 68, 69, 70, 71, 72, 73, 74, 75, 76, 77, 78, 79] (by decide +kernel) (by decide +kernel)
set_option maxRecDepth 20000 in
theorem gX12_stumble_X12_isSide : GoodIn wsX12_stumble (wsV RX12 261 RX12 yX12_isSide wsX12_isSide) := goodIn_app (goodIn_of _ (by decide +kernel)) ggX12_stumble_X12_isSide
theorem dX12_stumble_0 : decode cX12_stumble 0 = .ok (.aload_n 0, 1) := by decide +kernel
theorem dX12_stumble_1 : decode cX12_stumble 1 = .ok (.iconst 0, 1) := by decide +kernel
theorem dX12_stumble_2 : decode cX12_stumble 2 = .ok (.putfield 80, 3) := by decide +kernel
theorem dX12_stumble_5 : decode cX12_stumble 5 = .ok (.aload_n 0, 1) := by decide +kernel
theorem dX12_stumble_6 : decode cX12_stumble 6 = .ok (.iload_n 1, 1) := by decide +kernel
theorem dX12_stumble_7 : decode cX12_stumble 7 = .ok (.invokevirtual 261, 3) := by decide +kernel
theorem dX12_stumble_10 : decode cX12_stumble 10 = .ok (.ifCond .eq 32, 3) := by decide +kernel
theorem dX12_stumble_42 : decode cX12_stumble 42 = .ok (.bipush (-2), 2) := by decide +kernel
theorem dX12_stumble_44 : decode cX12_stumble 44 = .ok (.ireturn, 1) := by decide +kernel
set_option maxRecDepth 20000 in
theorem ggX12_mud_X12_isDance : GoodIn wsX12_mud wsX12_isDance := goodIn_r _ [8, 9, 22, 23, 24, 25, 26, 27, 28, 29, 30, 31, 32, 33, 34, 35, 36, 37, 38, 39, 40, 41, 42, 43, 44, 45, 46, 47, 48, 49, 50, 51, 52, 53, 54, 55, 56, 57, 58, 59, 60, 61, 62, 63, 64, 65, 66] (by decide +kernel) (by decide +kernel)
set_option maxRecDepth 20000 in
theorem gX12_mud_X12_isDance : GoodIn wsX12_mud (wsV RX12 254 RX12 yX12_isDance wsX12_isDance) := goodIn_app (goodIn_of _ (by decide +kernel)) ggX12_mud_X12_isDance
theorem dX12_mud_0 : decode cX12_mud 0 = .ok (.aload_n 0, 1) := by decide +kernel
theorem dX12_mud_1 : decode cX12_mud 1 = .ok (.iconst 0, 1) := by decide +kernel
theorem dX12_mud_2 : decode cX12_mud 2 = .ok (.putfield 80, 3) := by decide +kernel
theorem dX12_mud_5 : decode cX12_mud 5 = .ok (.aload_n 0, 1) := by decide +kernel
theorem dX12_mud_6 : decode cX12_mud 6 = .ok (.invokevirtual 254, 3) := by decide +kernel
theorem dX12_mud_9 : decode cX12_mud 9 = .ok (.ifCond .eq 21, 3) := by decide +kernel
theorem dX12_mud_30 : decode cX12_mud 30 = .ok (.bipush (-2), 2) := by decide +kernel
theorem dX12_mud_32 : decode cX12_mud 32 = .ok (.ireturn, 1) := by decide +kernel
set_option maxRecDepth 20000 in
theorem ggX12_teach_X12_isSide : GoodIn wsX12_teach wsX12_isSide := goodIn_r _ [8, 9, 10, 11, 7, 12, 13, 14, 15, 16, 30, 31, 32, 33, 34, 35, 36, 37, 38, 39, 40, 41, 42, 43, 44, 45, 46, 47, 48, 49, 50, 51, 52, 53, 54, 55, 56, 57, 58, 59, 60, 61, 62, 63, 64, 65, 66, 67, 68, 69, 70, 71, 72, 73, 74] (by decide +kernel) (by decide +kernel)
set_option maxRecDepth 20000 in
theorem gX12_teach_X12_isSide : GoodIn wsX12_teach (wsV RX12 261 RX12 yX12_isSide wsX12_isSide) := goodIn_app (goodIn_of _ (by decide +kernel)) ggX12_teach_X12_isSide
theorem dX12_teach_0 : decode cX12_teach 0 = .ok (.aload_n 0, 1) := by decide +kernel
theorem dX12_teach_1 : decode cX12_teach 1 = .ok (.iconst 0, 1) := by decide +kernel
theorem dX12_teach_2 : decode cX12_teach 2 = .ok (.putfield 80, 3) := by decide +kernel
theorem dX12_teach_5 : decode cX12_teach 5 = .ok (.aload_n 0, 1) := by decide +kernel
theorem dX12_teach_6 : decode cX12_teach 6 = .ok (.iload_n 1, 1) := by decide +kernel
theorem dX12_teach_7 : decode cX12_teach 7 = .ok (.invokevirtual 261, 3) := by decide +kernel
theorem dX12_teach_10 : decode cX12_teach 10 = .ok (.ifCond .eq 28, 3) := by decide +kernel
theorem dX12_teach_38 : decode cX12_teach 38 = .ok (.bipush (-2), 2) := by decide +kernel
theorem dX12_teach_40 : decode cX12_teach 40 = .ok (.ireturn, 1) := by decide +kernel
set_option maxRecDepth 20000 in
theorem ggX12_undo_X12_isDance : GoodIn wsX12_undo wsX12_isDance := goodIn_r _ [10, 11, 12, 13, 14, 15, 16, 17, 18, 19, 20, 21, 22, 23, 24, 25, 26, 27, 28, 29, 30, 31, 32, 33, 34, 35, 36, 37, 38, 39, 40, 41, 42, 43, 44, 45, 46, 47, 48, 49, 50, 51, 52, 53, 54, 55, 56] (by decide +kernel) (by decide +kernel)
set_option maxRecDepth 20000 in
theorem gX12_undo_X12_isDance : GoodIn wsX12_undo (wsV RX12 254 RX12 yX12_isDance wsX12_isDance) := goodIn_app (goodIn_of _ (by decide +kernel)) ggX12_undo_X12_isDance
theorem dX12_undo_0 : decode cX12_undo 0 = .ok (.aload_n 0, 1) := by decide +kernel
theorem dX12_undo_1 : decode cX12_undo 1 = .ok (.iconst 0, 1) := by decide +kernel
theorem dX12_undo_2 : decode cX12_undo 2 = .ok (.putfield 80, 3) := by decide +kernel
theorem dX12_undo_5 : decode cX12_undo 5 = .ok (.aload_n 0, 1) := by decide +kernel
theorem dX12_undo_6 : decode cX12_undo 6 = .ok (.invokevirtual 254, 3) := by decide +kernel
theorem dX12_undo_9 : decode cX12_undo 9 = .ok (.ifCond .ne 6, 3) := by decide +kernel
theorem dX12_undo_12 : decode cX12_undo 12 = .ok (.bipush (-2), 2) := by decide +kernel
theorem dX12_undo_14 : decode cX12_undo 14 = .ok (.ireturn, 1) := by decide +kernel
set_option maxRecDepth 20000 in
theorem ggX12_count_X12_lengthOf : GoodIn wsX12_count wsX12_lengthOf := goodIn_r _ [11, 2, 12, 13, 14, 15, 16, 17, 18, 19, 20, 21, 22, 23, 24, 25, 26, 27, 28, 29, 30, 31, 32, 33, 34, 35, 36, 37, 38, 39, 40, 41, 42, 43, 44, 45, 46, 47, 48, 49, 50, 51, 52, 53, 54, 55, 56] (by decide +kernel) (by decide +kernel)
set_option maxRecDepth 20000 in
theorem gX12_count_X12_lengthOf : GoodIn wsX12_count (wsV RX12 264 RX12 yX12_lengthOf wsX12_lengthOf) := goodIn_app (goodIn_of _ (by decide +kernel)) ggX12_count_X12_lengthOf
theorem dX12_count_0 : decode cX12_count 0 = .ok (.aload_n 0, 1) := by decide +kernel
theorem dX12_count_1 : decode cX12_count 1 = .ok (.iconst 0, 1) := by decide +kernel
theorem dX12_count_2 : decode cX12_count 2 = .ok (.putfield 80, 3) := by decide +kernel
theorem dX12_count_5 : decode cX12_count 5 = .ok (.iconst 0, 1) := by decide +kernel
theorem dX12_count_6 : decode cX12_count 6 = .ok (.istore_n 2, 1) := by decide +kernel
theorem dX12_count_7 : decode cX12_count 7 = .ok (.iload_n 1, 1) := by decide +kernel
theorem dX12_count_8 : decode cX12_count 8 = .ok (.tableswitch 212 0 12 #[68, 75, 82, 89, 95, 101, 109, 143, 151, 159, 167, 174, 179], 68) := by decide +kernel
theorem dX12_count_76 : decode cX12_count 76 = .ok (.aload_n 0, 1) := by decide +kernel
theorem dX12_count_77 : decode cX12_count 77 = .ok (.getfield 34, 3) := by decide +kernel
theorem dX12_count_80 : decode cX12_count 80 = .ok (.iconst 0, 1) := by decide +kernel
theorem dX12_count_81 : decode cX12_count 81 = .ok (.iaload, 1) := by decide +kernel
theorem dX12_count_82 : decode cX12_count 82 = .ok (.ireturn, 1) := by decide +kernel
theorem dX12_count_83 : decode cX12_count 83 = .ok (.aload_n 0, 1) := by decide +kernel
theorem dX12_count_84 : decode cX12_count 84 = .ok (.getfield 34, 3) := by decide +kernel
theorem dX12_count_87 : decode cX12_count 87 = .ok (.iconst 1, 1) := by decide +kernel
theorem dX12_count_88 : decode cX12_count 88 = .ok (.iaload, 1) := by decide +kernel
theorem dX12_count_89 : decode cX12_count 89 = .ok (.ireturn, 1) := by decide +kernel
theorem dX12_count_90 : decode cX12_count 90 = .ok (.aload_n 0, 1) := by decide +kernel
theorem dX12_count_91 : decode cX12_count 91 = .ok (.getfield 34, 3) := by decide +kernel
theorem dX12_count_94 : decode cX12_count 94 = .ok (.iconst 2, 1) := by decide +kernel
theorem dX12_count_95 : decode cX12_count 95 = .ok (.iaload, 1) := by decide +kernel
theorem dX12_count_96 : decode cX12_count 96 = .ok (.ireturn, 1) := by decide +kernel
theorem dX12_count_97 : decode cX12_count 97 = .ok (.aload_n 0, 1) := by decide +kernel
theorem dX12_count_98 : decode cX12_count 98 = .ok (.iconst 0, 1) := by decide +kernel
theorem dX12_count_99 : decode cX12_count 99 = .ok (.invokevirtual 264, 3) := by decide +kernel
theorem dX12_count_102 : decode cX12_count 102 = .ok (.ireturn, 1) := by decide +kernel
theorem dX12_count_103 : decode cX12_count 103 = .ok (.aload_n 0, 1) := by decide +kernel
theorem dX12_count_104 : decode cX12_count 104 = .ok (.iconst 1, 1) := by decide +kernel
theorem dX12_count_105 : decode cX12_count 105 = .ok (.invokevirtual 264, 3) := by decide +kernel
theorem dX12_count_108 : decode cX12_count 108 = .ok (.ireturn, 1) := by decide +kernel
theorem dX12_count_109 : decode cX12_count 109 = .ok (.aload_n 0, 1) := by decide +kernel
theorem dX12_count_110 : decode cX12_count 110 = .ok (.getfield 34, 3) := by decide +kernel
theorem dX12_count_113 : decode cX12_count 113 = .ok (.bipush 7, 2) := by decide +kernel
theorem dX12_count_115 : decode cX12_count 115 = .ok (.iaload, 1) := by decide +kernel
theorem dX12_count_116 : decode cX12_count 116 = .ok (.ireturn, 1) := by decide +kernel
theorem dX12_count_117 : decode cX12_count 117 = .ok (.iconst 0, 1) := by decide +kernel
theorem dX12_count_118 : decode cX12_count 118 = .ok (.istore_n 3, 1) := by decide +kernel
theorem dX12_count_119 : decode cX12_count 119 = .ok (.iload_n 3, 1) := by decide +kernel
theorem dX12_count_120 : decode cX12_count 120 = .ok (.sipush 200, 3) := by decide +kernel
theorem dX12_count_123 : decode cX12_count 123 = .ok (.if_icmp .ge 26, 3) := by decide +kernel
theorem dX12_count_126 : decode cX12_count 126 = .ok (.iload_n 2, 1) := by decide +kernel
theorem dX12_count_127 : decode cX12_count 127 = .ok (.aload_n 0, 1) := by decide +kernel
theorem dX12_count_128 : decode cX12_count 128 = .ok (.getfield 46, 3) := by decide +kernel
theorem dX12_count_131 : decode cX12_count 131 = .ok (.iload_n 3, 1) := by decide +kernel
theorem dX12_count_132 : decode cX12_count 132 = .ok (.baload, 1) := by decide +kernel
theorem dX12_count_133 : decode cX12_count 133 = .ok (.ifCond .eq 7, 3) := by decide +kernel
theorem dX12_count_140 : decode cX12_count 140 = .ok (.iconst 0, 1) := by decide +kernel
theorem dX12_count_141 : decode cX12_count 141 = .ok (.iadd, 1) := by decide +kernel
theorem dX12_count_142 : decode cX12_count 142 = .ok (.istore_n 2, 1) := by decide +kernel
theorem dX12_count_143 : decode cX12_count 143 = .ok (.iinc 3 1, 3) := by decide +kernel
theorem dX12_count_146 : decode cX12_count 146 = .ok (.goto (-27), 3) := by decide +kernel
theorem dX12_count_149 : decode cX12_count 149 = .ok (.iload_n 2, 1) := by decide +kernel
theorem dX12_count_150 : decode cX12_count 150 = .ok (.ireturn, 1) := by decide +kernel
theorem dX12_count_151 : decode cX12_count 151 = .ok (.aload_n 0, 1) := by decide +kernel
theorem dX12_count_152 : decode cX12_count 152 = .ok (.getfield 34, 3) := by decide +kernel
theorem dX12_count_155 : decode cX12_count 155 = .ok (.bipush 8, 2) := by decide +kernel
theorem dX12_count_157 : decode cX12_count 157 = .ok (.iaload, 1) := by decide +kernel
theorem dX12_count_158 : decode cX12_count 158 = .ok (.ireturn, 1) := by decide +kernel
theorem dX12_count_159 : decode cX12_count 159 = .ok (.aload_n 0, 1) := by decide +kernel
theorem dX12_count_160 : decode cX12_count 160 = .ok (.getfield 34, 3) := by decide +kernel
theorem dX12_count_163 : decode cX12_count 163 = .ok (.bipush 9, 2) := by decide +kernel
theorem dX12_count_165 : decode cX12_count 165 = .ok (.iaload, 1) := by decide +kernel
theorem dX12_count_166 : decode cX12_count 166 = .ok (.ireturn, 1) := by decide +kernel
theorem dX12_count_167 : decode cX12_count 167 = .ok (.aload_n 0, 1) := by decide +kernel
theorem dX12_count_168 : decode cX12_count 168 = .ok (.getfield 34, 3) := by decide +kernel
theorem dX12_count_171 : decode cX12_count 171 = .ok (.bipush 10, 2) := by decide +kernel
theorem dX12_count_173 : decode cX12_count 173 = .ok (.iaload, 1) := by decide +kernel
theorem dX12_count_174 : decode cX12_count 174 = .ok (.ireturn, 1) := by decide +kernel
theorem dX12_count_175 : decode cX12_count 175 = .ok (.aload_n 0, 1) := by decide +kernel
theorem dX12_count_176 : decode cX12_count 176 = .ok (.getfield 31, 3) := by decide +kernel
theorem dX12_count_179 : decode cX12_count 179 = .ok (.iconst 0, 1) := by decide +kernel
theorem dX12_count_180 : decode cX12_count 180 = .ok (.iaload, 1) := by decide +kernel
theorem dX12_count_181 : decode cX12_count 181 = .ok (.ireturn, 1) := by decide +kernel
theorem dX12_count_182 : decode cX12_count 182 = .ok (.aload_n 0, 1) := by decide +kernel
theorem dX12_count_183 : decode cX12_count 183 = .ok (.getfield 97, 3) := by decide +kernel
theorem dX12_count_186 : decode cX12_count 186 = .ok (.ireturn, 1) := by decide +kernel
theorem dX12_count_187 : decode cX12_count 187 = .ok (.iconst 0, 1) := by decide +kernel
theorem dX12_count_188 : decode cX12_count 188 = .ok (.istore_n 3, 1) := by decide +kernel
theorem dX12_count_189 : decode cX12_count 189 = .ok (.iload_n 3, 1) := by decide +kernel
theorem dX12_count_190 : decode cX12_count 190 = .ok (.iconst 4, 1) := by decide +kernel
theorem dX12_count_191 : decode cX12_count 191 = .ok (.if_icmp .ge 27, 3) := by decide +kernel
theorem dX12_count_194 : decode cX12_count 194 = .ok (.iload_n 2, 1) := by decide +kernel
theorem dX12_count_195 : decode cX12_count 195 = .ok (.aload_n 0, 1) := by decide +kernel
theorem dX12_count_196 : decode cX12_count 196 = .ok (.getfield 7, 3) := by decide +kernel
theorem dX12_count_199 : decode cX12_count 199 = .ok (.iload_n 3, 1) := by decide +kernel
theorem dX12_count_200 : decode cX12_count 200 = .ok (.iaload, 1) := by decide +kernel
theorem dX12_count_201 : decode cX12_count 201 = .ok (.iconst (-1), 1) := by decide +kernel
theorem dX12_count_202 : decode cX12_count 202 = .ok (.if_icmp .ne 7, 3) := by decide +kernel
theorem dX12_count_205 : decode cX12_count 205 = .ok (.iconst 0, 1) := by decide +kernel
theorem dX12_count_206 : decode cX12_count 206 = .ok (.goto 4, 3) := by decide +kernel
theorem dX12_count_210 : decode cX12_count 210 = .ok (.iadd, 1) := by decide +kernel
theorem dX12_count_211 : decode cX12_count 211 = .ok (.istore_n 2, 1) := by decide +kernel
theorem dX12_count_212 : decode cX12_count 212 = .ok (.iinc 3 1, 3) := by decide +kernel
theorem dX12_count_215 : decode cX12_count 215 = .ok (.goto (-26), 3) := by decide +kernel
theorem dX12_count_218 : decode cX12_count 218 = .ok (.iload_n 2, 1) := by decide +kernel
theorem dX12_count_219 : decode cX12_count 219 = .ok (.ireturn, 1) := by decide +kernel
theorem dX12_count_220 : decode cX12_count 220 = .ok (.iconst (-1), 1) := by decide +kernel
theorem dX12_count_221 : decode cX12_count 221 = .ok (.ireturn, 1) := by decide +kernel
set_option maxRecDepth 20000 in
theorem ggX12_image_X12_in : GoodIn wsX12_image wsX12_in := goodIn_r _ [7] (by decide +kernel) (by decide +kernel)
set_option maxRecDepth 20000 in
theorem gX12_image_X12_in : GoodIn wsX12_image (va_wsS RX12 85 yX12_in wsX12_in) := goodIn_app (goodIn_of _ (by decide +kernel)) ggX12_image_X12_in
set_option maxRecDepth 20000 in
theorem ggX12_image_X12_copyDance : GoodIn wsX12_image wsX12_copyDance := goodIn_r _ [11, 12, 13, 14, 15, 16, 17, 18, 19, 20, 21, 22, 6, 23, 24, 25, 26, 27, 28, 29, 30, 31, 32, 33, 34, 35, 36, 37, 38, 39, 40, 41, 42, 43, 44, 45, 46, 47, 48, 49, 50, 51, 52, 53, 54, 55, 56, 57, 58, 59, 60, 61, 62, 63, 64, 65, 66, 67, 68] (by decide +kernel) (by decide +kernel)
set_option maxRecDepth 20000 in
theorem gX12_image_X12_copyDance : GoodIn wsX12_image (wsV RX12 247 RX12 yX12_copyDance wsX12_copyDance) := goodIn_app (goodIn_of _ (by decide +kernel)) ggX12_image_X12_copyDance
theorem dX12_image_0 : decode cX12_image 0 = .ok (.aload_n 0, 1) := by decide +kernel
theorem dX12_image_1 : decode cX12_image 1 = .ok (.iconst 0, 1) := by decide +kernel
theorem dX12_image_2 : decode cX12_image 2 = .ok (.putfield 80, 3) := by decide +kernel
theorem dX12_image_5 : decode cX12_image 5 = .ok (.iload_n 1, 1) := by decide +kernel
theorem dX12_image_6 : decode cX12_image 6 = .ok (.i2l, 1) := by decide +kernel
theorem dX12_image_7 : decode cX12_image 7 = .ok (.lconst 0, 1) := by decide +kernel
theorem dX12_image_8 : decode cX12_image 8 = .ok (.ldc2_w 477, 3) := by decide +kernel
theorem dX12_image_11 : decode cX12_image 11 = .ok (.invokestatic 85, 3) := by decide +kernel
theorem dX12_image_14 : decode cX12_image 14 = .ok (.ifCond .ne 6, 3) := by decide +kernel
theorem dX12_image_17 : decode cX12_image 17 = .ok (.bipush (-2), 2) := by decide +kernel
theorem dX12_image_19 : decode cX12_image 19 = .ok (.ireturn, 1) := by decide +kernel
theorem dX12_image_20 : decode cX12_image 20 = .ok (.aload_n 0, 1) := by decide +kernel
theorem dX12_image_21 : decode cX12_image 21 = .ok (.iconst 0, 1) := by decide +kernel
theorem dX12_image_22 : decode cX12_image 22 = .ok (.iconst 1, 1) := by decide +kernel
theorem dX12_image_23 : decode cX12_image 23 = .ok (.iload_n 1, 1) := by decide +kernel
theorem dX12_image_24 : decode cX12_image 24 = .ok (.iadd, 1) := by decide +kernel
theorem dX12_image_25 : decode cX12_image 25 = .ok (.invokevirtual 247, 3) := by decide +kernel
theorem dX12_image_28 : decode cX12_image 28 = .ok (.aload_n 0, 1) := by decide +kernel
theorem dX12_image_29 : decode cX12_image 29 = .ok (.getfield 59, 3) := by decide +kernel
theorem dX12_image_32 : decode cX12_image 32 = .ok (.iload_n 1, 1) := by decide +kernel
theorem dX12_image_33 : decode cX12_image 33 = .ok (.iconst 1, 1) := by decide +kernel
theorem dX12_image_34 : decode cX12_image 34 = .ok (.bastore, 1) := by decide +kernel
theorem dX12_image_35 : decode cX12_image 35 = .ok (.iconst 0, 1) := by decide +kernel
theorem dX12_image_36 : decode cX12_image 36 = .ok (.ireturn, 1) := by decide +kernel
set_option maxRecDepth 20000 in
theorem ggX12_back_X12_in : GoodIn wsX12_back wsX12_in := goodIn_r _ [7] (by decide +kernel) (by decide +kernel)
set_option maxRecDepth 20000 in
theorem gX12_back_X12_in : GoodIn wsX12_back (va_wsS RX12 85 yX12_in wsX12_in) := goodIn_app (goodIn_of _ (by decide +kernel)) ggX12_back_X12_in
theorem dX12_back_0 : decode cX12_back 0 = .ok (.aload_n 0, 1) := by decide +kernel
theorem dX12_back_1 : decode cX12_back 1 = .ok (.iconst 0, 1) := by decide +kernel
theorem dX12_back_2 : decode cX12_back 2 = .ok (.putfield 80, 3) := by decide +kernel
theorem dX12_back_5 : decode cX12_back 5 = .ok (.iload_n 1, 1) := by decide +kernel
theorem dX12_back_6 : decode cX12_back 6 = .ok (.i2l, 1) := by decide +kernel
theorem dX12_back_7 : decode cX12_back 7 = .ok (.lconst 0, 1) := by decide +kernel
theorem dX12_back_8 : decode cX12_back 8 = .ok (.ldc2_w 477, 3) := by decide +kernel
theorem dX12_back_11 : decode cX12_back 11 = .ok (.invokestatic 85, 3) := by decide +kernel
theorem dX12_back_14 : decode cX12_back 14 = .ok (.ifCond .ne 6, 3) := by decide +kernel
theorem dX12_back_17 : decode cX12_back 17 = .ok (.bipush (-2), 2) := by decide +kernel
theorem dX12_back_19 : decode cX12_back 19 = .ok (.ireturn, 1) := by decide +kernel
theorem dX12_back_20 : decode cX12_back 20 = .ok (.aload_n 0, 1) := by decide +kernel
theorem dX12_back_21 : decode cX12_back 21 = .ok (.getfield 59, 3) := by decide +kernel
theorem dX12_back_24 : decode cX12_back 24 = .ok (.iload_n 1, 1) := by decide +kernel
theorem dX12_back_25 : decode cX12_back 25 = .ok (.baload, 1) := by decide +kernel
theorem dX12_back_26 : decode cX12_back 26 = .ok (.ifCond .ne 6, 3) := by decide +kernel
theorem dX12_back_29 : decode cX12_back 29 = .ok (.bipush (-6), 2) := by decide +kernel
theorem dX12_back_31 : decode cX12_back 31 = .ok (.ireturn, 1) := by decide +kernel
