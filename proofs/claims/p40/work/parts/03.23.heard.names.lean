abbrev cX7_refusalOfHeard : ByteArray := prog_9_method_10_code
def yX7_refusalOfHeard : MethodName := ⟨RX7, "refusalOfHeard", "(I)I"⟩
def wsX7_refusalOfHeard_r1 : List Cond := [Cond.fieldLink RX7 15 "OverHill$Slots" "sizes" "[I", Cond.constantLong RX7 47 (199), Cond.methodLink RX7 40 yX7_isSlot, Cond.static yX7_isSlot, Cond.initialized RX7, Cond.code yX7_isSlot cX7_isSlot 1 (some .boolean), Cond.static yX11_isWithin, Cond.initialized RX11, Cond.code yX11_isWithin cX11_isWithin 2 (some .boolean), Cond.methodLink RX7 26 yX7_has, Cond.instanceMethod yX7_has, Cond.selects RX7 yX7_has yX7_has, Cond.code yX7_has cX7_has 2 (some .boolean), Cond.methodLink RX7 43 yX7_at, Cond.instanceMethod yX7_at, Cond.selects RX7 yX7_at yX7_at, Cond.code yX7_at cX7_at 3 (some .long), Cond.fieldLink RX7 18 "OverHill$Slots" "numbers" "[J", Cond.methodLink RX7 49 yX7_isBetween, Cond.static yX7_isBetween, Cond.code yX7_isBetween cX7_isBetween 6 (some .boolean), Cond.methodLink RX7 53 yX7_isTold, Cond.static yX7_isTold, Cond.code yX7_isTold cX7_isTold 2 (some .boolean)]
def wsX7_refusalOfHeard_r2 : List Cond := [Cond.constantLong RX7 60 (-1), Cond.constantLong RX7 70 (5)]
def wsX7_refusalOfHeard : List Cond := .code yX7_refusalOfHeard cX7_refusalOfHeard 5 (some .int) :: ((wsX7_refusalOfHeard_r1 ++ wsX7_refusalOfHeard_r2) ++ wsX70)
theorem wrr_wsX7_refusalOfHeard {i : Nat} {w : Cond} (h : wsX7_refusalOfHeard[i]? = some w) : w ∈ wsX7_refusalOfHeard := List.mem_of_getElem? h
theorem wrr_wsX7_refusalOfHeard_wsX7_refusalOfHeard_r1 {i : Nat} {w : Cond} (h : wsX7_refusalOfHeard_r1[i]? = some w) : w ∈ wsX7_refusalOfHeard := (List.mem_cons_of_mem _ (List.mem_append_left _ (List.mem_append_left _ (List.mem_of_getElem? h))))
theorem wrr_wsX7_refusalOfHeard_wsX7_refusalOfHeard_r2 {i : Nat} {w : Cond} (h : wsX7_refusalOfHeard_r2[i]? = some w) : w ∈ wsX7_refusalOfHeard := (List.mem_cons_of_mem _ (List.mem_append_left _ (List.mem_append_right _ (List.mem_of_getElem? h))))
theorem wru_wsX7_refusalOfHeard_wsX70 : ∀ w ∈ wsX70, w ∈ wsX7_refusalOfHeard := fun w h => (List.mem_cons_of_mem _ (List.mem_append_right _ h))
set_option maxRecDepth 20000 in
theorem ggX7_refusalOfHeard_X7_isSlot : GoodIn wsX7_refusalOfHeard wsX7_isSlot := goodIn_sub (List.forall_mem_cons.mpr ⟨wrr_wsX7_refusalOfHeard_wsX7_refusalOfHeard_r1 (i := 5) rfl, (List.forall_mem_cons.mpr ⟨wrr_wsX7_refusalOfHeard_wsX7_refusalOfHeard_r1 (i := 6) rfl, (List.forall_mem_cons.mpr ⟨wrr_wsX7_refusalOfHeard_wsX7_refusalOfHeard_r1 (i := 7) rfl, (List.forall_mem_cons.mpr ⟨wrr_wsX7_refusalOfHeard_wsX7_refusalOfHeard_r1 (i := 8) rfl, (fun _ h => absurd h List.not_mem_nil)⟩)⟩)⟩)⟩) gw_wsX7_isSlot
set_option maxRecDepth 20000 in
theorem gX7_refusalOfHeard_X7_isSlot : GoodIn wsX7_refusalOfHeard (va_wsS RX7 40 yX7_isSlot wsX7_isSlot) := goodIn_app (goodIn_sub (List.forall_mem_cons.mpr ⟨wrr_wsX7_refusalOfHeard_wsX7_refusalOfHeard_r1 (i := 2) rfl, (List.forall_mem_cons.mpr ⟨wrr_wsX7_refusalOfHeard_wsX7_refusalOfHeard_r1 (i := 3) rfl, (List.forall_mem_cons.mpr ⟨wrr_wsX7_refusalOfHeard_wsX7_refusalOfHeard_r1 (i := 4) rfl, (fun _ h => absurd h List.not_mem_nil)⟩)⟩)⟩) (by decide +kernel)) ggX7_refusalOfHeard_X7_isSlot
set_option maxRecDepth 20000 in
theorem ggX7_refusalOfHeard_X7_has : GoodIn wsX7_refusalOfHeard wsX7_has := goodIn_sub (List.forall_mem_cons.mpr ⟨wrr_wsX7_refusalOfHeard_wsX7_refusalOfHeard_r1 (i := 12) rfl, (List.forall_mem_append.mpr ⟨(List.forall_mem_cons.mpr ⟨wrr_wsX7_refusalOfHeard_wsX7_refusalOfHeard_r1 (i := 0) rfl, (fun _ h => absurd h List.not_mem_nil)⟩), wru_wsX7_refusalOfHeard_wsX70⟩)⟩) gw_wsX7_has
set_option maxRecDepth 20000 in
theorem gX7_refusalOfHeard_X7_has : GoodIn wsX7_refusalOfHeard (wsV RX7 26 RX7 yX7_has wsX7_has) := goodIn_app (goodIn_sub (List.forall_mem_cons.mpr ⟨wrr_wsX7_refusalOfHeard_wsX7_refusalOfHeard_r1 (i := 9) rfl, (List.forall_mem_cons.mpr ⟨wrr_wsX7_refusalOfHeard_wsX7_refusalOfHeard_r1 (i := 10) rfl, (List.forall_mem_cons.mpr ⟨wrr_wsX7_refusalOfHeard_wsX7_refusalOfHeard_r1 (i := 11) rfl, (List.forall_mem_cons.mpr ⟨wrr_wsX7_refusalOfHeard_wsX7_refusalOfHeard_r1 (i := 4) rfl, (fun _ h => absurd h List.not_mem_nil)⟩)⟩)⟩)⟩) (by decide +kernel)) ggX7_refusalOfHeard_X7_has
set_option maxRecDepth 20000 in
theorem ggX7_refusalOfHeard_X7_at : GoodIn wsX7_refusalOfHeard wsX7_at := goodIn_sub (List.forall_mem_cons.mpr ⟨wrr_wsX7_refusalOfHeard_wsX7_refusalOfHeard_r1 (i := 16) rfl, (List.forall_mem_append.mpr ⟨(List.forall_mem_cons.mpr ⟨wrr_wsX7_refusalOfHeard_wsX7_refusalOfHeard_r1 (i := 17) rfl, (fun _ h => absurd h List.not_mem_nil)⟩), wru_wsX7_refusalOfHeard_wsX70⟩)⟩) gw_wsX7_at
set_option maxRecDepth 20000 in
theorem gX7_refusalOfHeard_X7_at : GoodIn wsX7_refusalOfHeard (wsV RX7 43 RX7 yX7_at wsX7_at) := goodIn_app (goodIn_sub (List.forall_mem_cons.mpr ⟨wrr_wsX7_refusalOfHeard_wsX7_refusalOfHeard_r1 (i := 13) rfl, (List.forall_mem_cons.mpr ⟨wrr_wsX7_refusalOfHeard_wsX7_refusalOfHeard_r1 (i := 14) rfl, (List.forall_mem_cons.mpr ⟨wrr_wsX7_refusalOfHeard_wsX7_refusalOfHeard_r1 (i := 15) rfl, (List.forall_mem_cons.mpr ⟨wrr_wsX7_refusalOfHeard_wsX7_refusalOfHeard_r1 (i := 4) rfl, (fun _ h => absurd h List.not_mem_nil)⟩)⟩)⟩)⟩) (by decide +kernel)) ggX7_refusalOfHeard_X7_at
set_option maxRecDepth 20000 in
theorem ggX7_refusalOfHeard_X7_isBetween : GoodIn wsX7_refusalOfHeard wsX7_isBetween := goodIn_sub (List.forall_mem_cons.mpr ⟨wrr_wsX7_refusalOfHeard_wsX7_refusalOfHeard_r1 (i := 20) rfl, (fun _ h => absurd h List.not_mem_nil)⟩) gw_wsX7_isBetween
set_option maxRecDepth 20000 in
theorem gX7_refusalOfHeard_X7_isBetween : GoodIn wsX7_refusalOfHeard (va_wsS RX7 49 yX7_isBetween wsX7_isBetween) := goodIn_app (goodIn_sub (List.forall_mem_cons.mpr ⟨wrr_wsX7_refusalOfHeard_wsX7_refusalOfHeard_r1 (i := 18) rfl, (List.forall_mem_cons.mpr ⟨wrr_wsX7_refusalOfHeard_wsX7_refusalOfHeard_r1 (i := 19) rfl, (List.forall_mem_cons.mpr ⟨wrr_wsX7_refusalOfHeard_wsX7_refusalOfHeard_r1 (i := 4) rfl, (fun _ h => absurd h List.not_mem_nil)⟩)⟩)⟩) (by decide +kernel)) ggX7_refusalOfHeard_X7_isBetween
set_option maxRecDepth 20000 in
theorem ggX7_refusalOfHeard_X7_isTold : GoodIn wsX7_refusalOfHeard wsX7_isTold := goodIn_sub (List.forall_mem_cons.mpr ⟨wrr_wsX7_refusalOfHeard_wsX7_refusalOfHeard_r1 (i := 23) rfl, (List.forall_mem_cons.mpr ⟨wrr_wsX7_refusalOfHeard_wsX7_refusalOfHeard_r2 (i := 0) rfl, (List.forall_mem_cons.mpr ⟨wrr_wsX7_refusalOfHeard_wsX7_refusalOfHeard_r2 (i := 1) rfl, (List.forall_mem_cons.mpr ⟨wrr_wsX7_refusalOfHeard_wsX7_refusalOfHeard_r1 (i := 18) rfl, (List.forall_mem_cons.mpr ⟨wrr_wsX7_refusalOfHeard_wsX7_refusalOfHeard_r1 (i := 19) rfl, (List.forall_mem_cons.mpr ⟨wrr_wsX7_refusalOfHeard_wsX7_refusalOfHeard_r1 (i := 4) rfl, (List.forall_mem_cons.mpr ⟨wrr_wsX7_refusalOfHeard_wsX7_refusalOfHeard_r1 (i := 20) rfl, (fun _ h => absurd h List.not_mem_nil)⟩)⟩)⟩)⟩)⟩)⟩)⟩) gw_wsX7_isTold
set_option maxRecDepth 20000 in
theorem gX7_refusalOfHeard_X7_isTold : GoodIn wsX7_refusalOfHeard (va_wsS RX7 53 yX7_isTold wsX7_isTold) := goodIn_app (goodIn_sub (List.forall_mem_cons.mpr ⟨wrr_wsX7_refusalOfHeard_wsX7_refusalOfHeard_r1 (i := 21) rfl, (List.forall_mem_cons.mpr ⟨wrr_wsX7_refusalOfHeard_wsX7_refusalOfHeard_r1 (i := 22) rfl, (List.forall_mem_cons.mpr ⟨wrr_wsX7_refusalOfHeard_wsX7_refusalOfHeard_r1 (i := 4) rfl, (fun _ h => absurd h List.not_mem_nil)⟩)⟩)⟩) (by decide +kernel)) ggX7_refusalOfHeard_X7_isTold
theorem dX7_refusalOfHeard_0 : decode cX7_refusalOfHeard 0 = .ok (.iload_n 1, 1) := by decide +kernel
theorem dX7_refusalOfHeard_1 : decode cX7_refusalOfHeard 1 = .ok (.invokestatic 40, 3) := by decide +kernel
theorem dX7_refusalOfHeard_4 : decode cX7_refusalOfHeard 4 = .ok (.ifCond .ne 6, 3) := by decide +kernel
theorem dX7_refusalOfHeard_7 : decode cX7_refusalOfHeard 7 = .ok (.bipush (-2), 2) := by decide +kernel
theorem dX7_refusalOfHeard_9 : decode cX7_refusalOfHeard 9 = .ok (.ireturn, 1) := by decide +kernel
theorem dX7_refusalOfHeard_10 : decode cX7_refusalOfHeard 10 = .ok (.aload_n 0, 1) := by decide +kernel
theorem dX7_refusalOfHeard_11 : decode cX7_refusalOfHeard 11 = .ok (.iload_n 1, 1) := by decide +kernel
theorem dX7_refusalOfHeard_12 : decode cX7_refusalOfHeard 12 = .ok (.invokevirtual 26, 3) := by decide +kernel
theorem dX7_refusalOfHeard_15 : decode cX7_refusalOfHeard 15 = .ok (.ifCond .ne 6, 3) := by decide +kernel
theorem dX7_refusalOfHeard_18 : decode cX7_refusalOfHeard 18 = .ok (.bipush (-6), 2) := by decide +kernel
theorem dX7_refusalOfHeard_20 : decode cX7_refusalOfHeard 20 = .ok (.ireturn, 1) := by decide +kernel
theorem dX7_refusalOfHeard_21 : decode cX7_refusalOfHeard 21 = .ok (.aload_n 0, 1) := by decide +kernel
theorem dX7_refusalOfHeard_22 : decode cX7_refusalOfHeard 22 = .ok (.getfield 15, 3) := by decide +kernel
theorem dX7_refusalOfHeard_25 : decode cX7_refusalOfHeard 25 = .ok (.iload_n 1, 1) := by decide +kernel
theorem dX7_refusalOfHeard_26 : decode cX7_refusalOfHeard 26 = .ok (.iaload, 1) := by decide +kernel
theorem dX7_refusalOfHeard_27 : decode cX7_refusalOfHeard 27 = .ok (.iconst 2, 1) := by decide +kernel
theorem dX7_refusalOfHeard_28 : decode cX7_refusalOfHeard 28 = .ok (.irem, 1) := by decide +kernel
theorem dX7_refusalOfHeard_29 : decode cX7_refusalOfHeard 29 = .ok (.ifCond .ne 7, 3) := by decide +kernel
theorem dX7_refusalOfHeard_32 : decode cX7_refusalOfHeard 32 = .ok (.iconst 1, 1) := by decide +kernel
theorem dX7_refusalOfHeard_33 : decode cX7_refusalOfHeard 33 = .ok (.goto 4, 3) := by decide +kernel
theorem dX7_refusalOfHeard_36 : decode cX7_refusalOfHeard 36 = .ok (.iconst 0, 1) := by decide +kernel
theorem dX7_refusalOfHeard_37 : decode cX7_refusalOfHeard 37 = .ok (.istore_n 2, 1) := by decide +kernel
theorem dX7_refusalOfHeard_38 : decode cX7_refusalOfHeard 38 = .ok (.iconst 0, 1) := by decide +kernel
theorem dX7_refusalOfHeard_39 : decode cX7_refusalOfHeard 39 = .ok (.istore_n 3, 1) := by decide +kernel
theorem dX7_refusalOfHeard_40 : decode cX7_refusalOfHeard 40 = .ok (.iload_n 3, 1) := by decide +kernel
theorem dX7_refusalOfHeard_41 : decode cX7_refusalOfHeard 41 = .ok (.aload_n 0, 1) := by decide +kernel
theorem dX7_refusalOfHeard_42 : decode cX7_refusalOfHeard 42 = .ok (.getfield 15, 3) := by decide +kernel
theorem dX7_refusalOfHeard_45 : decode cX7_refusalOfHeard 45 = .ok (.iload_n 1, 1) := by decide +kernel
theorem dX7_refusalOfHeard_46 : decode cX7_refusalOfHeard 46 = .ok (.iaload, 1) := by decide +kernel
theorem dX7_refusalOfHeard_47 : decode cX7_refusalOfHeard 47 = .ok (.if_icmp .ge 57, 3) := by decide +kernel
theorem dX7_refusalOfHeard_50 : decode cX7_refusalOfHeard 50 = .ok (.iload_n 3, 1) := by decide +kernel
theorem dX7_refusalOfHeard_51 : decode cX7_refusalOfHeard 51 = .ok (.iconst 2, 1) := by decide +kernel
theorem dX7_refusalOfHeard_52 : decode cX7_refusalOfHeard 52 = .ok (.irem, 1) := by decide +kernel
theorem dX7_refusalOfHeard_53 : decode cX7_refusalOfHeard 53 = .ok (.ifCond .ne 19, 3) := by decide +kernel
theorem dX7_refusalOfHeard_56 : decode cX7_refusalOfHeard 56 = .ok (.aload_n 0, 1) := by decide +kernel
theorem dX7_refusalOfHeard_57 : decode cX7_refusalOfHeard 57 = .ok (.iload_n 1, 1) := by decide +kernel
theorem dX7_refusalOfHeard_58 : decode cX7_refusalOfHeard 58 = .ok (.iload_n 3, 1) := by decide +kernel
theorem dX7_refusalOfHeard_59 : decode cX7_refusalOfHeard 59 = .ok (.invokevirtual 43, 3) := by decide +kernel
theorem dX7_refusalOfHeard_62 : decode cX7_refusalOfHeard 62 = .ok (.lconst 0, 1) := by decide +kernel
theorem dX7_refusalOfHeard_63 : decode cX7_refusalOfHeard 63 = .ok (.ldc2_w 47, 3) := by decide +kernel
theorem dX7_refusalOfHeard_66 : decode cX7_refusalOfHeard 66 = .ok (.invokestatic 49, 3) := by decide +kernel
theorem dX7_refusalOfHeard_69 : decode cX7_refusalOfHeard 69 = .ok (.goto 12, 3) := by decide +kernel
theorem dX7_refusalOfHeard_72 : decode cX7_refusalOfHeard 72 = .ok (.aload_n 0, 1) := by decide +kernel
theorem dX7_refusalOfHeard_73 : decode cX7_refusalOfHeard 73 = .ok (.iload_n 1, 1) := by decide +kernel
theorem dX7_refusalOfHeard_74 : decode cX7_refusalOfHeard 74 = .ok (.iload_n 3, 1) := by decide +kernel
theorem dX7_refusalOfHeard_75 : decode cX7_refusalOfHeard 75 = .ok (.invokevirtual 43, 3) := by decide +kernel
theorem dX7_refusalOfHeard_78 : decode cX7_refusalOfHeard 78 = .ok (.invokestatic 53, 3) := by decide +kernel
theorem dX7_refusalOfHeard_81 : decode cX7_refusalOfHeard 81 = .ok (.istore 4, 2) := by decide +kernel
theorem dX7_refusalOfHeard_83 : decode cX7_refusalOfHeard 83 = .ok (.iload_n 2, 1) := by decide +kernel
theorem dX7_refusalOfHeard_84 : decode cX7_refusalOfHeard 84 = .ok (.ifCond .eq 12, 3) := by decide +kernel
theorem dX7_refusalOfHeard_87 : decode cX7_refusalOfHeard 87 = .ok (.iload 4, 2) := by decide +kernel
theorem dX7_refusalOfHeard_89 : decode cX7_refusalOfHeard 89 = .ok (.ifCond .eq 7, 3) := by decide +kernel
theorem dX7_refusalOfHeard_92 : decode cX7_refusalOfHeard 92 = .ok (.iconst 1, 1) := by decide +kernel
theorem dX7_refusalOfHeard_93 : decode cX7_refusalOfHeard 93 = .ok (.goto 4, 3) := by decide +kernel
theorem dX7_refusalOfHeard_96 : decode cX7_refusalOfHeard 96 = .ok (.iconst 0, 1) := by decide +kernel
theorem dX7_refusalOfHeard_97 : decode cX7_refusalOfHeard 97 = .ok (.istore_n 2, 1) := by decide +kernel
theorem dX7_refusalOfHeard_98 : decode cX7_refusalOfHeard 98 = .ok (.iinc 3 1, 3) := by decide +kernel
theorem dX7_refusalOfHeard_101 : decode cX7_refusalOfHeard 101 = .ok (.goto (-61), 3) := by decide +kernel
theorem dX7_refusalOfHeard_104 : decode cX7_refusalOfHeard 104 = .ok (.iload_n 2, 1) := by decide +kernel
theorem dX7_refusalOfHeard_105 : decode cX7_refusalOfHeard 105 = .ok (.ifCond .eq 7, 3) := by decide +kernel
theorem dX7_refusalOfHeard_108 : decode cX7_refusalOfHeard 108 = .ok (.iconst 0, 1) := by decide +kernel
theorem dX7_refusalOfHeard_109 : decode cX7_refusalOfHeard 109 = .ok (.goto 5, 3) := by decide +kernel
theorem dX7_refusalOfHeard_112 : decode cX7_refusalOfHeard 112 = .ok (.bipush (-2), 2) := by decide +kernel
theorem dX7_refusalOfHeard_114 : decode cX7_refusalOfHeard 114 = .ok (.ireturn, 1) := by decide +kernel
