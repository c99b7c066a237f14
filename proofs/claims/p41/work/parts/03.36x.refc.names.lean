abbrev cX12_clears : ByteArray := prog_14_method_35_code
def yX12_clears : MethodName := ⟨RX12, "clears", "()V"⟩
abbrev cX12_copyRow : ByteArray := prog_14_method_37_code
def yX12_copyRow : MethodName := ⟨RX12, "copyRow", "([IIII)V"⟩
abbrev cX12_copyDance : ByteArray := prog_14_method_38_code
def yX12_copyDance : MethodName := ⟨RX12, "copyDance", "(II)V"⟩
def wsX12_clears : List Cond := .code yX12_clears cX12_clears 2 none :: ([.fieldLink RX12 31 "OverHillModel" "lines" "[I", .fieldLink RX12 40 "OverHillModel" "meets" "[I", .fieldLink RX12 46 "OverHillModel" "isMud" "[Z", .methodLink RX12 177 yX12_reads, .instanceMethod yX12_reads, .selects RX12 yX12_reads yX12_reads, .initialized RX12, .code yX12_reads cX12_reads 3 none, .fieldLink RX12 34 "OverHillModel" "has" "[I"] ++ wsX120)
def wsX12_copyRow : List Cond := .code yX12_copyRow cX12_copyRow 5 none :: ([])
def wsX12_copyDance : List Cond := .code yX12_copyDance cX12_copyDance 4 none :: ([.fieldLink RX12 31 "OverHillModel" "lines" "[I", .fieldLink RX12 34 "OverHillModel" "has" "[I", .fieldLink RX12 37 "OverHillModel" "round" "[I", .fieldLink RX12 40 "OverHillModel" "meets" "[I", .fieldLink RX12 43 "OverHillModel" "stumble" "[I", .fieldLink RX12 50 "OverHillModel" "cell" "[I", .fieldLink RX12 53 "OverHillModel" "tune" "[I", .fieldLink RX12 56 "OverHillModel" "change" "[I", .fieldLink RX12 46 "OverHillModel" "isMud" "[Z", .methodLink RX12 250 yX12_copyRow, .static yX12_copyRow, .initialized RX12, .code yX12_copyRow cX12_copyRow 5 none] ++ wsX120)
theorem wrr_wsX12_clears {i : Nat} {w : Cond} (h : wsX12_clears[i]? = some w) : w ∈ wsX12_clears := List.mem_of_getElem? h
theorem wru_wsX12_clears_wsX120 : ∀ w ∈ wsX120, w ∈ wsX12_clears := fun w h => (List.mem_cons_of_mem _ (List.mem_append_right _ h))
set_option maxRecDepth 20000 in
theorem ggX12_clears_X12_reads : GoodIn wsX12_clears wsX12_reads := goodIn_sub (List.forall_mem_cons.mpr ⟨wrr_wsX12_clears (i := 8) rfl, (List.forall_mem_append.mpr ⟨(List.forall_mem_cons.mpr ⟨wrr_wsX12_clears (i := 9) rfl, (fun _ h => absurd h List.not_mem_nil)⟩), wru_wsX12_clears_wsX120⟩)⟩) gw_wsX12_reads
set_option maxRecDepth 20000 in
theorem gX12_clears_X12_reads : GoodIn wsX12_clears (wsV RX12 177 RX12 yX12_reads wsX12_reads) := goodIn_app (goodIn_sub (List.forall_mem_cons.mpr ⟨wrr_wsX12_clears (i := 4) rfl, (List.forall_mem_cons.mpr ⟨wrr_wsX12_clears (i := 5) rfl, (List.forall_mem_cons.mpr ⟨wrr_wsX12_clears (i := 6) rfl, (List.forall_mem_cons.mpr ⟨wrr_wsX12_clears (i := 7) rfl, (fun _ h => absurd h List.not_mem_nil)⟩)⟩)⟩)⟩) (by decide +kernel)) ggX12_clears_X12_reads
theorem dX12_clears_0 : decode cX12_clears 0 = .ok (.aload_n 0, 1) := by decide +kernel
theorem dX12_clears_1 : decode cX12_clears 1 = .ok (.getfield 31, 3) := by decide +kernel
theorem dX12_clears_4 : decode cX12_clears 4 = .ok (.iconst 4, 1) := by decide +kernel
theorem dX12_clears_5 : decode cX12_clears 5 = .ok (.iconst 0, 1) := by decide +kernel
theorem dX12_clears_6 : decode cX12_clears 6 = .ok (.iastore, 1) := by decide +kernel
theorem dX12_clears_7 : decode cX12_clears 7 = .ok (.iconst 0, 1) := by decide +kernel
theorem dX12_clears_8 : decode cX12_clears 8 = .ok (.istore_n 1, 1) := by decide +kernel
theorem dX12_clears_9 : decode cX12_clears 9 = .ok (.iload_n 1, 1) := by decide +kernel
theorem dX12_clears_10 : decode cX12_clears 10 = .ok (.bipush 11, 2) := by decide +kernel
theorem dX12_clears_12 : decode cX12_clears 12 = .ok (.if_icmp .ge 15, 3) := by decide +kernel
theorem dX12_clears_15 : decode cX12_clears 15 = .ok (.aload_n 0, 1) := by decide +kernel
theorem dX12_clears_16 : decode cX12_clears 16 = .ok (.iload_n 1, 1) := by decide +kernel
theorem dX12_clears_17 : decode cX12_clears 17 = .ok (.iconst 0, 1) := by decide +kernel
theorem dX12_clears_18 : decode cX12_clears 18 = .ok (.invokevirtual 177, 3) := by decide +kernel
theorem dX12_clears_21 : decode cX12_clears 21 = .ok (.iinc 1 1, 3) := by decide +kernel
theorem dX12_clears_24 : decode cX12_clears 24 = .ok (.goto (-15), 3) := by decide +kernel
theorem dX12_clears_27 : decode cX12_clears 27 = .ok (.iconst 0, 1) := by decide +kernel
theorem dX12_clears_28 : decode cX12_clears 28 = .ok (.istore_n 1, 1) := by decide +kernel
theorem dX12_clears_29 : decode cX12_clears 29 = .ok (.iload_n 1, 1) := by decide +kernel
theorem dX12_clears_30 : decode cX12_clears 30 = .ok (.bipush 6, 2) := by decide +kernel
theorem dX12_clears_32 : decode cX12_clears 32 = .ok (.if_icmp .ge 20, 3) := by decide +kernel
theorem dX12_clears_35 : decode cX12_clears 35 = .ok (.aload_n 0, 1) := by decide +kernel
theorem dX12_clears_36 : decode cX12_clears 36 = .ok (.getfield 40, 3) := by decide +kernel
theorem dX12_clears_39 : decode cX12_clears 39 = .ok (.bipush 24, 2) := by decide +kernel
theorem dX12_clears_41 : decode cX12_clears 41 = .ok (.iload_n 1, 1) := by decide +kernel
theorem dX12_clears_42 : decode cX12_clears 42 = .ok (.iadd, 1) := by decide +kernel
theorem dX12_clears_43 : decode cX12_clears 43 = .ok (.bipush 63, 2) := by decide +kernel
theorem dX12_clears_45 : decode cX12_clears 45 = .ok (.iastore, 1) := by decide +kernel
theorem dX12_clears_46 : decode cX12_clears 46 = .ok (.iinc 1 1, 3) := by decide +kernel
theorem dX12_clears_49 : decode cX12_clears 49 = .ok (.goto (-20), 3) := by decide +kernel
theorem dX12_clears_52 : decode cX12_clears 52 = .ok (.iconst 0, 1) := by decide +kernel
theorem dX12_clears_53 : decode cX12_clears 53 = .ok (.istore_n 1, 1) := by decide +kernel
theorem dX12_clears_54 : decode cX12_clears 54 = .ok (.iload_n 1, 1) := by decide +kernel
theorem dX12_clears_55 : decode cX12_clears 55 = .ok (.sipush 200, 3) := by decide +kernel
theorem dX12_clears_58 : decode cX12_clears 58 = .ok (.if_icmp .ge 20, 3) := by decide +kernel
theorem dX12_clears_61 : decode cX12_clears 61 = .ok (.aload_n 0, 1) := by decide +kernel
theorem dX12_clears_62 : decode cX12_clears 62 = .ok (.getfield 46, 3) := by decide +kernel
theorem dX12_clears_65 : decode cX12_clears 65 = .ok (.sipush 800, 3) := by decide +kernel
theorem dX12_clears_68 : decode cX12_clears 68 = .ok (.iload_n 1, 1) := by decide +kernel
theorem dX12_clears_69 : decode cX12_clears 69 = .ok (.iadd, 1) := by decide +kernel
theorem dX12_clears_70 : decode cX12_clears 70 = .ok (.iconst 0, 1) := by decide +kernel
theorem dX12_clears_71 : decode cX12_clears 71 = .ok (.bastore, 1) := by decide +kernel
theorem dX12_clears_72 : decode cX12_clears 72 = .ok (.iinc 1 1, 3) := by decide +kernel
theorem dX12_clears_75 : decode cX12_clears 75 = .ok (.goto (-21), 3) := by decide +kernel
theorem dX12_clears_78 : decode cX12_clears 78 = .ok (.return_, 1) := by decide +kernel
theorem dX12_copyRow_0 : decode cX12_copyRow 0 = .ok (.iconst 0, 1) := by decide +kernel
theorem dX12_copyRow_1 : decode cX12_copyRow 1 = .ok (.istore 4, 2) := by decide +kernel
theorem dX12_copyRow_3 : decode cX12_copyRow 3 = .ok (.iload 4, 2) := by decide +kernel
theorem dX12_copyRow_5 : decode cX12_copyRow 5 = .ok (.iload_n 1, 1) := by decide +kernel
theorem dX12_copyRow_6 : decode cX12_copyRow 6 = .ok (.if_icmp .ge 25, 3) := by decide +kernel
theorem dX12_copyRow_9 : decode cX12_copyRow 9 = .ok (.aload_n 0, 1) := by decide +kernel
theorem dX12_copyRow_10 : decode cX12_copyRow 10 = .ok (.iload_n 1, 1) := by decide +kernel
theorem dX12_copyRow_11 : decode cX12_copyRow 11 = .ok (.iload_n 3, 1) := by decide +kernel
theorem dX12_copyRow_12 : decode cX12_copyRow 12 = .ok (.imul, 1) := by decide +kernel
theorem dX12_copyRow_13 : decode cX12_copyRow 13 = .ok (.iload 4, 2) := by decide +kernel
theorem dX12_copyRow_15 : decode cX12_copyRow 15 = .ok (.iadd, 1) := by decide +kernel
theorem dX12_copyRow_16 : decode cX12_copyRow 16 = .ok (.aload_n 0, 1) := by decide +kernel
theorem dX12_copyRow_17 : decode cX12_copyRow 17 = .ok (.iload_n 1, 1) := by decide +kernel
theorem dX12_copyRow_18 : decode cX12_copyRow 18 = .ok (.iload_n 2, 1) := by decide +kernel
theorem dX12_copyRow_19 : decode cX12_copyRow 19 = .ok (.imul, 1) := by decide +kernel
theorem dX12_copyRow_20 : decode cX12_copyRow 20 = .ok (.iload 4, 2) := by decide +kernel
theorem dX12_copyRow_22 : decode cX12_copyRow 22 = .ok (.iadd, 1) := by decide +kernel
theorem dX12_copyRow_23 : decode cX12_copyRow 23 = .ok (.iaload, 1) := by decide +kernel
theorem dX12_copyRow_24 : decode cX12_copyRow 24 = .ok (.iastore, 1) := by decide +kernel
theorem dX12_copyRow_25 : decode cX12_copyRow 25 = .ok (.iinc 4 1, 3) := by decide +kernel
theorem dX12_copyRow_28 : decode cX12_copyRow 28 = .ok (.goto (-25), 3) := by decide +kernel
theorem dX12_copyRow_31 : decode cX12_copyRow 31 = .ok (.return_, 1) := by decide +kernel
theorem wrr_wsX12_copyDance {i : Nat} {w : Cond} (h : wsX12_copyDance[i]? = some w) : w ∈ wsX12_copyDance := List.mem_of_getElem? h
theorem wru_wsX12_copyDance_wsX120 : ∀ w ∈ wsX120, w ∈ wsX12_copyDance := fun w h => (List.mem_cons_of_mem _ (List.mem_append_right _ h))
set_option maxRecDepth 20000 in
theorem gw_wsX12_copyRow : wsX12_copyRow.all goodWord = true := by decide +kernel
set_option maxRecDepth 20000 in
theorem ggX12_copyDance_X12_copyRow : GoodIn wsX12_copyDance wsX12_copyRow := goodIn_sub (List.forall_mem_cons.mpr ⟨wrr_wsX12_copyDance (i := 13) rfl, (fun _ h => absurd h List.not_mem_nil)⟩) gw_wsX12_copyRow
set_option maxRecDepth 20000 in
theorem gX12_copyDance_X12_copyRow : GoodIn wsX12_copyDance (va_wsS RX12 250 yX12_copyRow wsX12_copyRow) := goodIn_app (goodIn_sub (List.forall_mem_cons.mpr ⟨wrr_wsX12_copyDance (i := 10) rfl, (List.forall_mem_cons.mpr ⟨wrr_wsX12_copyDance (i := 11) rfl, (List.forall_mem_cons.mpr ⟨wrr_wsX12_copyDance (i := 12) rfl, (fun _ h => absurd h List.not_mem_nil)⟩)⟩)⟩) (by decide +kernel)) ggX12_copyDance_X12_copyRow
theorem dX12_copyDance_0 : decode cX12_copyDance 0 = .ok (.aload_n 0, 1) := by decide +kernel
theorem dX12_copyDance_1 : decode cX12_copyDance 1 = .ok (.getfield 31, 3) := by decide +kernel
theorem dX12_copyDance_4 : decode cX12_copyDance 4 = .ok (.iconst 1, 1) := by decide +kernel
theorem dX12_copyDance_5 : decode cX12_copyDance 5 = .ok (.iload_n 1, 1) := by decide +kernel
theorem dX12_copyDance_6 : decode cX12_copyDance 6 = .ok (.iload_n 2, 1) := by decide +kernel
theorem dX12_copyDance_7 : decode cX12_copyDance 7 = .ok (.invokestatic 250, 3) := by decide +kernel
theorem dX12_copyDance_10 : decode cX12_copyDance 10 = .ok (.aload_n 0, 1) := by decide +kernel
theorem dX12_copyDance_11 : decode cX12_copyDance 11 = .ok (.getfield 34, 3) := by decide +kernel
theorem dX12_copyDance_14 : decode cX12_copyDance 14 = .ok (.bipush 11, 2) := by decide +kernel
theorem dX12_copyDance_16 : decode cX12_copyDance 16 = .ok (.iload_n 1, 1) := by decide +kernel
theorem dX12_copyDance_17 : decode cX12_copyDance 17 = .ok (.iload_n 2, 1) := by decide +kernel
theorem dX12_copyDance_18 : decode cX12_copyDance 18 = .ok (.invokestatic 250, 3) := by decide +kernel
theorem dX12_copyDance_21 : decode cX12_copyDance 21 = .ok (.aload_n 0, 1) := by decide +kernel
theorem dX12_copyDance_22 : decode cX12_copyDance 22 = .ok (.getfield 37, 3) := by decide +kernel
theorem dX12_copyDance_25 : decode cX12_copyDance 25 = .ok (.bipush 24, 2) := by decide +kernel
theorem dX12_copyDance_27 : decode cX12_copyDance 27 = .ok (.iload_n 1, 1) := by decide +kernel
theorem dX12_copyDance_28 : decode cX12_copyDance 28 = .ok (.iload_n 2, 1) := by decide +kernel
theorem dX12_copyDance_29 : decode cX12_copyDance 29 = .ok (.invokestatic 250, 3) := by decide +kernel
theorem dX12_copyDance_32 : decode cX12_copyDance 32 = .ok (.aload_n 0, 1) := by decide +kernel
theorem dX12_copyDance_33 : decode cX12_copyDance 33 = .ok (.getfield 40, 3) := by decide +kernel
theorem dX12_copyDance_36 : decode cX12_copyDance 36 = .ok (.bipush 6, 2) := by decide +kernel
theorem dX12_copyDance_38 : decode cX12_copyDance 38 = .ok (.iload_n 1, 1) := by decide +kernel
theorem dX12_copyDance_39 : decode cX12_copyDance 39 = .ok (.iload_n 2, 1) := by decide +kernel
theorem dX12_copyDance_40 : decode cX12_copyDance 40 = .ok (.invokestatic 250, 3) := by decide +kernel
theorem dX12_copyDance_43 : decode cX12_copyDance 43 = .ok (.aload_n 0, 1) := by decide +kernel
theorem dX12_copyDance_44 : decode cX12_copyDance 44 = .ok (.getfield 43, 3) := by decide +kernel
theorem dX12_copyDance_47 : decode cX12_copyDance 47 = .ok (.bipush 32, 2) := by decide +kernel
theorem dX12_copyDance_49 : decode cX12_copyDance 49 = .ok (.iload_n 1, 1) := by decide +kernel
theorem dX12_copyDance_50 : decode cX12_copyDance 50 = .ok (.iload_n 2, 1) := by decide +kernel
theorem dX12_copyDance_51 : decode cX12_copyDance 51 = .ok (.invokestatic 250, 3) := by decide +kernel
theorem dX12_copyDance_54 : decode cX12_copyDance 54 = .ok (.aload_n 0, 1) := by decide +kernel
theorem dX12_copyDance_55 : decode cX12_copyDance 55 = .ok (.getfield 50, 3) := by decide +kernel
theorem dX12_copyDance_58 : decode cX12_copyDance 58 = .ok (.bipush 24, 2) := by decide +kernel
theorem dX12_copyDance_60 : decode cX12_copyDance 60 = .ok (.iload_n 1, 1) := by decide +kernel
theorem dX12_copyDance_61 : decode cX12_copyDance 61 = .ok (.iload_n 2, 1) := by decide +kernel
theorem dX12_copyDance_62 : decode cX12_copyDance 62 = .ok (.invokestatic 250, 3) := by decide +kernel
theorem dX12_copyDance_65 : decode cX12_copyDance 65 = .ok (.aload_n 0, 1) := by decide +kernel
theorem dX12_copyDance_66 : decode cX12_copyDance 66 = .ok (.getfield 53, 3) := by decide +kernel
theorem dX12_copyDance_69 : decode cX12_copyDance 69 = .ok (.bipush 10, 2) := by decide +kernel
theorem dX12_copyDance_71 : decode cX12_copyDance 71 = .ok (.iload_n 1, 1) := by decide +kernel
theorem dX12_copyDance_72 : decode cX12_copyDance 72 = .ok (.iload_n 2, 1) := by decide +kernel
theorem dX12_copyDance_73 : decode cX12_copyDance 73 = .ok (.invokestatic 250, 3) := by decide +kernel
theorem dX12_copyDance_76 : decode cX12_copyDance 76 = .ok (.aload_n 0, 1) := by decide +kernel
theorem dX12_copyDance_77 : decode cX12_copyDance 77 = .ok (.getfield 56, 3) := by decide +kernel
theorem dX12_copyDance_80 : decode cX12_copyDance 80 = .ok (.sipush 160, 3) := by decide +kernel
theorem dX12_copyDance_83 : decode cX12_copyDance 83 = .ok (.iload_n 1, 1) := by decide +kernel
theorem dX12_copyDance_84 : decode cX12_copyDance 84 = .ok (.iload_n 2, 1) := by decide +kernel
theorem dX12_copyDance_85 : decode cX12_copyDance 85 = .ok (.invokestatic 250, 3) := by decide +kernel
theorem dX12_copyDance_88 : decode cX12_copyDance 88 = .ok (.iconst 0, 1) := by decide +kernel
theorem dX12_copyDance_89 : decode cX12_copyDance 89 = .ok (.istore_n 3, 1) := by decide +kernel
theorem dX12_copyDance_90 : decode cX12_copyDance 90 = .ok (.iload_n 3, 1) := by decide +kernel
theorem dX12_copyDance_91 : decode cX12_copyDance 91 = .ok (.sipush 200, 3) := by decide +kernel
theorem dX12_copyDance_94 : decode cX12_copyDance 94 = .ok (.if_icmp .ge 33, 3) := by decide +kernel
theorem dX12_copyDance_97 : decode cX12_copyDance 97 = .ok (.aload_n 0, 1) := by decide +kernel
theorem dX12_copyDance_98 : decode cX12_copyDance 98 = .ok (.getfield 46, 3) := by decide +kernel
theorem dX12_copyDance_101 : decode cX12_copyDance 101 = .ok (.sipush 200, 3) := by decide +kernel
theorem dX12_copyDance_104 : decode cX12_copyDance 104 = .ok (.iload_n 2, 1) := by decide +kernel
theorem dX12_copyDance_105 : decode cX12_copyDance 105 = .ok (.imul, 1) := by decide +kernel
theorem dX12_copyDance_106 : decode cX12_copyDance 106 = .ok (.iload_n 3, 1) := by decide +kernel
theorem dX12_copyDance_107 : decode cX12_copyDance 107 = .ok (.iadd, 1) := by decide +kernel
theorem dX12_copyDance_108 : decode cX12_copyDance 108 = .ok (.aload_n 0, 1) := by decide +kernel
theorem dX12_copyDance_109 : decode cX12_copyDance 109 = .ok (.getfield 46, 3) := by decide +kernel
theorem dX12_copyDance_112 : decode cX12_copyDance 112 = .ok (.sipush 200, 3) := by decide +kernel
theorem dX12_copyDance_115 : decode cX12_copyDance 115 = .ok (.iload_n 1, 1) := by decide +kernel
theorem dX12_copyDance_116 : decode cX12_copyDance 116 = .ok (.imul, 1) := by decide +kernel
theorem dX12_copyDance_117 : decode cX12_copyDance 117 = .ok (.iload_n 3, 1) := by decide +kernel
theorem dX12_copyDance_118 : decode cX12_copyDance 118 = .ok (.iadd, 1) := by decide +kernel
theorem dX12_copyDance_119 : decode cX12_copyDance 119 = .ok (.baload, 1) := by decide +kernel
theorem dX12_copyDance_120 : decode cX12_copyDance 120 = .ok (.bastore, 1) := by decide +kernel
theorem dX12_copyDance_121 : decode cX12_copyDance 121 = .ok (.iinc 3 1, 3) := by decide +kernel
theorem dX12_copyDance_124 : decode cX12_copyDance 124 = .ok (.goto (-34), 3) := by decide +kernel
theorem dX12_copyDance_127 : decode cX12_copyDance 127 = .ok (.return_, 1) := by decide +kernel
