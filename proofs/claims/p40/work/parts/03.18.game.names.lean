abbrev cX2_winningStep : ByteArray := prog_4_method_2_code
def yX2_winningStep : MethodName := ⟨RX2, "winningStep", "(LOverHill$Dance;I)I"⟩
abbrev cX2_findWinning : ByteArray := prog_4_method_3_code
def yX2_findWinning : MethodName := ⟨RX2, "findWinning", "(LOverHill$Dance;I)I"⟩
def wsX2_findWinning : List Cond := .code yX2_findWinning cX2_findWinning 6 (some .int) :: ([.fieldLink RX2 19 "OverHill$Game" "POWERS" "[I", .fieldLink RX2 11 "OverHill$Game" "winning" "[I", .fieldLink RX2 22 "OverHill$Dance" "met" "[I"] ++ wsX20 ++ wsX00)
def wsX2_winningStep : List Cond := .code yX2_winningStep cX2_winningStep 4 (some .int) :: ([.fieldLink RX2 11 "OverHill$Game" "winning" "[I", .fieldLink RX2 19 "OverHill$Game" "POWERS" "[I", .fieldLink RX2 22 "OverHill$Dance" "met" "[I", .methodLink RX2 15 yX2_findWinning, .instanceMethod yX2_findWinning, .selects RX2 yX2_findWinning yX2_findWinning, .initialized RX2, .code yX2_findWinning cX2_findWinning 6 (some .int), .methodLink RX2 27 yJ6_numberOfTrailingZeros_0f7a4, .static yJ6_numberOfTrailingZeros_0f7a4, .initialized RJ6, .code yJ6_numberOfTrailingZeros_0f7a4 cJ6_numberOfTrailingZeros_0f7a4 2 (some .int), .constant RJ6 264 (65536)] ++ wsX20 ++ wsX00)
theorem wrr_wsX2_winningStep {i : Nat} {w : Cond} (h : wsX2_winningStep[i]? = some w) : w ∈ wsX2_winningStep := List.mem_of_getElem? h
theorem wru_wsX2_winningStep_wsX20 : ∀ w ∈ wsX20, w ∈ wsX2_winningStep := fun w h => (List.mem_cons_of_mem _ (List.mem_append_left _ (List.mem_append_right _ h)))
theorem wru_wsX2_winningStep_wsX00 : ∀ w ∈ wsX00, w ∈ wsX2_winningStep := fun w h => (List.mem_cons_of_mem _ (List.mem_append_right _ h))
set_option maxRecDepth 20000 in
theorem gw_wsX2_findWinning : wsX2_findWinning.all goodWord = true := by decide +kernel
set_option maxRecDepth 20000 in
theorem ggX2_winningStep_X2_findWinning : GoodIn wsX2_winningStep wsX2_findWinning := goodIn_sub (List.forall_mem_cons.mpr ⟨wrr_wsX2_winningStep (i := 8) rfl, (List.forall_mem_append.mpr ⟨(List.forall_mem_append.mpr ⟨(List.forall_mem_cons.mpr ⟨wrr_wsX2_winningStep (i := 2) rfl, (List.forall_mem_cons.mpr ⟨wrr_wsX2_winningStep (i := 1) rfl, (List.forall_mem_cons.mpr ⟨wrr_wsX2_winningStep (i := 3) rfl, (fun _ h => absurd h List.not_mem_nil)⟩)⟩)⟩), wru_wsX2_winningStep_wsX20⟩), wru_wsX2_winningStep_wsX00⟩)⟩) gw_wsX2_findWinning
set_option maxRecDepth 20000 in
theorem gX2_winningStep_X2_findWinning : GoodIn wsX2_winningStep (wsV RX2 15 RX2 yX2_findWinning wsX2_findWinning) := goodIn_app (goodIn_sub (List.forall_mem_cons.mpr ⟨wrr_wsX2_winningStep (i := 4) rfl, (List.forall_mem_cons.mpr ⟨wrr_wsX2_winningStep (i := 5) rfl, (List.forall_mem_cons.mpr ⟨wrr_wsX2_winningStep (i := 6) rfl, (List.forall_mem_cons.mpr ⟨wrr_wsX2_winningStep (i := 7) rfl, (fun _ h => absurd h List.not_mem_nil)⟩)⟩)⟩)⟩) (by decide +kernel)) ggX2_winningStep_X2_findWinning
set_option maxRecDepth 20000 in
theorem ggX2_winningStep_J6_numberOfTrailingZeros_0f7a4 : GoodIn wsX2_winningStep wsJ6_numberOfTrailingZeros_0f7a4 := goodIn_sub (List.forall_mem_cons.mpr ⟨wrr_wsX2_winningStep (i := 12) rfl, (List.forall_mem_cons.mpr ⟨wrr_wsX2_winningStep (i := 13) rfl, (fun _ h => absurd h List.not_mem_nil)⟩)⟩) gw_wsJ6_numberOfTrailingZeros_0f7a4
set_option maxRecDepth 20000 in
theorem gX2_winningStep_J6_numberOfTrailingZeros_0f7a4 : GoodIn wsX2_winningStep (va_wsS RX2 27 yJ6_numberOfTrailingZeros_0f7a4 wsJ6_numberOfTrailingZeros_0f7a4) := goodIn_app (goodIn_sub (List.forall_mem_cons.mpr ⟨wrr_wsX2_winningStep (i := 9) rfl, (List.forall_mem_cons.mpr ⟨wrr_wsX2_winningStep (i := 10) rfl, (List.forall_mem_cons.mpr ⟨wrr_wsX2_winningStep (i := 11) rfl, (fun _ h => absurd h List.not_mem_nil)⟩)⟩)⟩) (by decide +kernel)) ggX2_winningStep_J6_numberOfTrailingZeros_0f7a4
theorem dX2_winningStep_0 : decode cX2_winningStep 0 = .ok (.sipush 728, 3) := by decide +kernel
theorem dX2_winningStep_3 : decode cX2_winningStep 3 = .ok (.istore_n 3, 1) := by decide +kernel
theorem dX2_winningStep_4 : decode cX2_winningStep 4 = .ok (.iload_n 3, 1) := by decide +kernel
theorem dX2_winningStep_5 : decode cX2_winningStep 5 = .ok (.ifCond .lt 21, 3) := by decide +kernel
theorem dX2_winningStep_8 : decode cX2_winningStep 8 = .ok (.aload_n 0, 1) := by decide +kernel
theorem dX2_winningStep_9 : decode cX2_winningStep 9 = .ok (.getfield 11, 3) := by decide +kernel
theorem dX2_winningStep_12 : decode cX2_winningStep 12 = .ok (.iload_n 3, 1) := by decide +kernel
theorem dX2_winningStep_13 : decode cX2_winningStep 13 = .ok (.aload_n 0, 1) := by decide +kernel
theorem dX2_winningStep_14 : decode cX2_winningStep 14 = .ok (.aload_n 1, 1) := by decide +kernel
theorem dX2_winningStep_15 : decode cX2_winningStep 15 = .ok (.iload_n 3, 1) := by decide +kernel
theorem dX2_winningStep_16 : decode cX2_winningStep 16 = .ok (.invokevirtual 15, 3) := by decide +kernel
theorem dX2_winningStep_19 : decode cX2_winningStep 19 = .ok (.iastore, 1) := by decide +kernel
theorem dX2_winningStep_20 : decode cX2_winningStep 20 = .ok (.iinc 3 (-1), 3) := by decide +kernel
theorem dX2_winningStep_23 : decode cX2_winningStep 23 = .ok (.goto (-19), 3) := by decide +kernel
theorem dX2_winningStep_26 : decode cX2_winningStep 26 = .ok (.aload_n 0, 1) := by decide +kernel
theorem dX2_winningStep_27 : decode cX2_winningStep 27 = .ok (.getfield 11, 3) := by decide +kernel
theorem dX2_winningStep_30 : decode cX2_winningStep 30 = .ok (.getstatic 19, 3) := by decide +kernel
theorem dX2_winningStep_33 : decode cX2_winningStep 33 = .ok (.iload_n 2, 1) := by decide +kernel
theorem dX2_winningStep_34 : decode cX2_winningStep 34 = .ok (.iaload, 1) := by decide +kernel
theorem dX2_winningStep_35 : decode cX2_winningStep 35 = .ok (.iaload, 1) := by decide +kernel
theorem dX2_winningStep_36 : decode cX2_winningStep 36 = .ok (.aload_n 1, 1) := by decide +kernel
theorem dX2_winningStep_37 : decode cX2_winningStep 37 = .ok (.getfield 22, 3) := by decide +kernel
theorem dX2_winningStep_40 : decode cX2_winningStep 40 = .ok (.iload_n 2, 1) := by decide +kernel
theorem dX2_winningStep_41 : decode cX2_winningStep 41 = .ok (.iaload, 1) := by decide +kernel
theorem dX2_winningStep_42 : decode cX2_winningStep 42 = .ok (.iand, 1) := by decide +kernel
theorem dX2_winningStep_43 : decode cX2_winningStep 43 = .ok (.istore_n 3, 1) := by decide +kernel
theorem dX2_winningStep_44 : decode cX2_winningStep 44 = .ok (.iload_n 3, 1) := by decide +kernel
theorem dX2_winningStep_45 : decode cX2_winningStep 45 = .ok (.ifCond .ne 7, 3) := by decide +kernel
theorem dX2_winningStep_48 : decode cX2_winningStep 48 = .ok (.iconst (-1), 1) := by decide +kernel
theorem dX2_winningStep_49 : decode cX2_winningStep 49 = .ok (.goto 7, 3) := by decide +kernel
theorem dX2_winningStep_52 : decode cX2_winningStep 52 = .ok (.iload_n 3, 1) := by decide +kernel
theorem dX2_winningStep_53 : decode cX2_winningStep 53 = .ok (.invokestatic 27, 3) := by decide +kernel
theorem dX2_winningStep_56 : decode cX2_winningStep 56 = .ok (.ireturn, 1) := by decide +kernel
theorem dX2_findWinning_0 : decode cX2_findWinning 0 = .ok (.iconst 0, 1) := by decide +kernel
theorem dX2_findWinning_1 : decode cX2_findWinning 1 = .ok (.istore_n 3, 1) := by decide +kernel
theorem dX2_findWinning_2 : decode cX2_findWinning 2 = .ok (.iconst 0, 1) := by decide +kernel
theorem dX2_findWinning_3 : decode cX2_findWinning 3 = .ok (.istore 4, 2) := by decide +kernel
theorem dX2_findWinning_5 : decode cX2_findWinning 5 = .ok (.iload 4, 2) := by decide +kernel
theorem dX2_findWinning_7 : decode cX2_findWinning 7 = .ok (.bipush 6, 2) := by decide +kernel
theorem dX2_findWinning_9 : decode cX2_findWinning 9 = .ok (.if_icmp .ge 66, 3) := by decide +kernel
theorem dX2_findWinning_12 : decode cX2_findWinning 12 = .ok (.iload_n 2, 1) := by decide +kernel
theorem dX2_findWinning_13 : decode cX2_findWinning 13 = .ok (.getstatic 19, 3) := by decide +kernel
theorem dX2_findWinning_16 : decode cX2_findWinning 16 = .ok (.iload 4, 2) := by decide +kernel
theorem dX2_findWinning_18 : decode cX2_findWinning 18 = .ok (.iaload, 1) := by decide +kernel
theorem dX2_findWinning_19 : decode cX2_findWinning 19 = .ok (.idiv, 1) := by decide +kernel
theorem dX2_findWinning_20 : decode cX2_findWinning 20 = .ok (.iconst 3, 1) := by decide +kernel
theorem dX2_findWinning_21 : decode cX2_findWinning 21 = .ok (.irem, 1) := by decide +kernel
theorem dX2_findWinning_22 : decode cX2_findWinning 22 = .ok (.iconst 2, 1) := by decide +kernel
theorem dX2_findWinning_23 : decode cX2_findWinning 23 = .ok (.if_icmp .ge 7, 3) := by decide +kernel
theorem dX2_findWinning_26 : decode cX2_findWinning 26 = .ok (.iconst 1, 1) := by decide +kernel
theorem dX2_findWinning_27 : decode cX2_findWinning 27 = .ok (.goto 4, 3) := by decide +kernel
theorem dX2_findWinning_30 : decode cX2_findWinning 30 = .ok (.iconst 0, 1) := by decide +kernel
theorem dX2_findWinning_31 : decode cX2_findWinning 31 = .ok (.istore 5, 2) := by decide +kernel
theorem dX2_findWinning_33 : decode cX2_findWinning 33 = .ok (.iload 5, 2) := by decide +kernel
theorem dX2_findWinning_35 : decode cX2_findWinning 35 = .ok (.ifCond .eq 34, 3) := by decide +kernel
theorem dX2_findWinning_38 : decode cX2_findWinning 38 = .ok (.aload_n 0, 1) := by decide +kernel
theorem dX2_findWinning_39 : decode cX2_findWinning 39 = .ok (.getfield 11, 3) := by decide +kernel
theorem dX2_findWinning_42 : decode cX2_findWinning 42 = .ok (.iload_n 2, 1) := by decide +kernel
theorem dX2_findWinning_43 : decode cX2_findWinning 43 = .ok (.getstatic 19, 3) := by decide +kernel
theorem dX2_findWinning_46 : decode cX2_findWinning 46 = .ok (.iload 4, 2) := by decide +kernel
theorem dX2_findWinning_48 : decode cX2_findWinning 48 = .ok (.iaload, 1) := by decide +kernel
theorem dX2_findWinning_49 : decode cX2_findWinning 49 = .ok (.iadd, 1) := by decide +kernel
theorem dX2_findWinning_50 : decode cX2_findWinning 50 = .ok (.iaload, 1) := by decide +kernel
theorem dX2_findWinning_51 : decode cX2_findWinning 51 = .ok (.aload_n 1, 1) := by decide +kernel
theorem dX2_findWinning_52 : decode cX2_findWinning 52 = .ok (.getfield 22, 3) := by decide +kernel
theorem dX2_findWinning_55 : decode cX2_findWinning 55 = .ok (.iload 4, 2) := by decide +kernel
theorem dX2_findWinning_57 : decode cX2_findWinning 57 = .ok (.iaload, 1) := by decide +kernel
theorem dX2_findWinning_58 : decode cX2_findWinning 58 = .ok (.iand, 1) := by decide +kernel
theorem dX2_findWinning_59 : decode cX2_findWinning 59 = .ok (.ifCond .ne 10, 3) := by decide +kernel
theorem dX2_findWinning_62 : decode cX2_findWinning 62 = .ok (.iload_n 3, 1) := by decide +kernel
theorem dX2_findWinning_63 : decode cX2_findWinning 63 = .ok (.iconst 1, 1) := by decide +kernel
theorem dX2_findWinning_64 : decode cX2_findWinning 64 = .ok (.iload 4, 2) := by decide +kernel
theorem dX2_findWinning_66 : decode cX2_findWinning 66 = .ok (.ishl, 1) := by decide +kernel
theorem dX2_findWinning_67 : decode cX2_findWinning 67 = .ok (.ior, 1) := by decide +kernel
theorem dX2_findWinning_68 : decode cX2_findWinning 68 = .ok (.istore_n 3, 1) := by decide +kernel
theorem dX2_findWinning_69 : decode cX2_findWinning 69 = .ok (.iinc 4 1, 3) := by decide +kernel
theorem dX2_findWinning_72 : decode cX2_findWinning 72 = .ok (.goto (-67), 3) := by decide +kernel
theorem dX2_findWinning_75 : decode cX2_findWinning 75 = .ok (.iload_n 3, 1) := by decide +kernel
theorem dX2_findWinning_76 : decode cX2_findWinning 76 = .ok (.ireturn, 1) := by decide +kernel
