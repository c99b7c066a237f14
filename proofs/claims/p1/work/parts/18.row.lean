set_option maxHeartbeats 4000000 in
set_option maxRecDepth 100000 in
/-- the loop of X7_make at 17 -/
theorem lp_X7_make_17 {p : Program} {l : Launch} {e : Env} {Rm : Room} {s : State} {m : MethodId} {args : Array Value} {below : List Frame} {meth : Method} {c : Code} {cells slots : Nat} {Q : State → Prop} {A : Nat → Prop} (D : va_G) (cI cJ cB cZ cO : ClassId) (a : Nat) (b0 : Nat) (b1 : Nat) (b2 : Nat) (x1 : Int32) (x2 : Int32) (x3 : Int32) (g211 : Nat → Int32) (g212 : Nat → Int32) (h_x : 0 ≤ x1.toInt ∧ x1.toInt < 4) (hx : p.tables.exec = Jvm.exec) (hb : c.code = cX7_make) (hown : s.vm.findClass RX7 = some m.cls) (hts : ∀ w ∈ wsX7_make, w.before args s = true) (hE : ct_E D (ct_T cI cJ cB cZ cO) s)
    (hk : ∀ (fl : Nat → Int64) (H : Heap) (locs : List Loc) (ls : Array Slot), va_P D vwCl [(a, .inr (7, [.ref b0, .ref b1, .ref b2])), (b0, .inl (cI, 4, .inl (g211))), (b1, .inl (cI, 4, .inl (g212))), (b2, .inl (cJ, 240, .inr (.inl (fl))))] H → va_D A [(a, .inr (7, [.ref b0, .ref b1, .ref b2])), (b0, .inl (cI, 4, .inl (g211))), (b1, .inl (cI, 4, .inl (g212))), (b2, .inl (cJ, 240, .inr (.inl (fl))))] → va_S A s.heap H locs → lv_has ls 5 [(4, .int (nI 60)), (0, .ref a), (1, .int x1), (2, .int x2), (3, .int x3)] → W p l e Rm s m args below meth c H locs cells slots Q (F0 m 43 ls [])) :
    ∀ (fu i : Nat) (fl : Nat → Int64) (H : Heap) (locs : List Loc) (ls : Array Slot), i + fu = 60 → va_P D vwCl [(a, .inr (7, [.ref b0, .ref b1, .ref b2])), (b0, .inl (cI, 4, .inl (g211))), (b1, .inl (cI, 4, .inl (g212))), (b2, .inl (cJ, 240, .inr (.inl (fl))))] H → va_D A [(a, .inr (7, [.ref b0, .ref b1, .ref b2])), (b0, .inl (cI, 4, .inl (g211))), (b1, .inl (cI, 4, .inl (g212))), (b2, .inl (cJ, 240, .inr (.inl (fl))))] → va_S A s.heap H locs → lv_has ls 5 [(4, .int (nI i)), (0, .ref a), (1, .int x1), (2, .int x2), (3, .int x3)] → W p l e Rm s m args below meth c H locs cells slots Q (F0 m 17 ls []) := by
  have hK := hE.1
  have hi7 : ∀ w ∈ u_ws RX7 TX7 3, w ∈ wsX7_make := fun w h => List.mem_cons_of_mem _ (List.mem_append_right _ h)
  intro fu
  induction fu with
  | zero =>
    intro i fl H locs ls hin hP hD hS hl
    obtain rfl : i = 60 := by omega
    refine lv_iload hx hb dX7_make_17 (lv_at hl 0 rfl) ?_
    refine lv_bipush (v := 60) hx hb dX7_make_19 (by decide) ?_
    refine lv_icmp_ge (tgt := 43) hx hb dX7_make_21 (by decide) (fun _ => ?_) (fun hc => absurd hc (by decide))
    exact hk fl H locs ls hP hD hS (lv_sub hl [0, 1, 2, 3, 4] rfl)
  | succ fu ih =>
    intro i fl H locs ls hin hP hD hS hl
    refine lv_iload hx hb dX7_make_17 (lv_at hl 0 rfl) ?_
    refine lv_bipush (v := 60) hx hb dX7_make_19 (by decide) ?_
    refine lv_icmp_ge (tgt := 43) hx hb dX7_make_21 (by decide) (fun hc => absurd hc (nI_ge (a := i) (b := 60) (by omega) (by omega))) (fun _ => ?_)
    refine lv_aload_n hx hb dX7_make_24 rfl (lv_at hl 1 rfl) ?_
    refine va_get (D := D) (ci := 7) (v := .ref b2) (C := RX7) (T := TX7) (N := 3) hx hb hts hi7 hown hK hP 0 rfl rfl 2 (by decide) (hts (.fieldLink RX7 18 "OverHill$Slots" "numbers" "[J") (by decide +kernel)) (fun _ h9 => h9) rfl dX7_make_25 ?_
    refine lv_iload_n hx hb dX7_make_28 rfl (lv_at hl 2 rfl) ?_
    refine lv_bipush (v := 60) hx hb dX7_make_29 (by decide) ?_
    refine lv_imul hx hb dX7_make_31 ?_
    refine lv_topi (fun z213 ez213 => ?_)
    have fz213 : z213.toInt = (x1.toInt * 60) := by rw [ez213]; exact tq_mul rfl (by decide) (by omega)
    refine lv_iload hx hb dX7_make_32 (lv_at hl 0 rfl) ?_
    refine lv_iadd hx hb dX7_make_34 ?_
    refine lv_topi (fun z214 ez214 => ?_)
    have fz214 : z214.toInt = ((x1.toInt * 60) + (i : Int)) := by rw [ez214]; exact tq_add fz213 (nI_toInt (by omega)) (by omega)
    refine lv_lconst (v := 0) hx hb dX7_make_35 (by decide) ?_
    refine va_last (D := D) hx hb hK hP hD hS 3 1 rfl rfl (tq_in fz214 (by omega)) dX7_make_36 (fun H locs hP hD hS => ?_)
    obtain ⟨g215, hP, hD⟩ : ∃ g215 : Nat → Int64, va_P D vwCl [(a, .inr (7, [.ref b0, .ref b1, .ref b2])), (b0, .inl (cI, 4, .inl (g211))), (b1, .inl (cI, 4, .inl (g212))), (b2, .inl (cJ, 240, .inr (.inl (g215))))] H ∧ va_D A [(a, .inr (7, [.ref b0, .ref b1, .ref b2])), (b0, .inl (cI, 4, .inl (g211))), (b1, .inl (cI, 4, .inl (g212))), (b2, .inl (cJ, 240, .inr (.inl (g215))))] := ⟨_, hP, hD⟩
    refine lv_iinc (v := (nI (i + 1))) (lv' := [(4, .int (nI (i + 1))), (0, .ref a), (1, .int x1), (2, .int x2), (3, .int x3)]) hx hb dX7_make_37 hl (k := 0) rfl (nI_1 i) (by decide) rfl (fun ls hl => ?_)
    refine lv_goto (tgt := 17) hx hb dX7_make_40 (by decide) ?_
    exact ih (i + 1) g215 H locs ls (by omega) hP hD hS (lv_sub hl [0, 1, 2, 3, 4] rfl)
abbrev w_c_X7_make (cI cJ cB cZ cO : ClassId) (a : Nat) (b0 : Nat) (b1 : Nat) (b2 : Nat) : va_W := [(a, .inr (7, [.ref b0, .ref b1, .ref b2])), (b0, .inl (cI, 4, .inl (fun _ => 0))), (b1, .inl (cI, 4, .inl (szf))), (b2, .inl (cJ, 240, .inr (.inl (fun _ => 0))))]
set_option maxHeartbeats 4000000 in
set_option maxRecDepth 100000 in
/-- a row made -/
theorem c_X7_make (l : Launch) (D : va_G) (cI cJ cB cZ cO : ClassId) (a : Nat) (b0 : Nat) (b1 : Nat) (b2 : Nat) (x1 : Int32) (x2 : Int32) (x3 : Int32) (h_x : 0 ≤ x1.toInt ∧ x1.toInt < 4) (sz : Nat) : Met l yX7_make wsX7_make ({ frames := 0, cells := 0, slots := 0, locals := 0 }) (va_Pc [.ref a, .int x1, .int x2, .int x3] (ct_P D (ct_T cI cJ cB cZ cO) (w_c_X7_make cI cJ cB cZ cO a b0 b1 b2) sz)) (va_Qv (fun (u : Unit) => True) (fun (u : Unit) t => ct_Q D (va_A (w_c_X7_make cI cJ cB cZ cO a b0 b1 b2) sz) [] t) (va_A (w_c_X7_make cI cJ cB cZ cO a b0 b1 b2) sz)) 0 0 (va_A (w_c_X7_make cI cJ cB cZ cO a b0 b1 b2) sz) := by
  refine Met.ofW (cc := cX7_make) (maxL := 5) (ret := none) (by decide) rfl ?_
  intro p e s m args below meth c s₁ B hml hv
  obtain ⟨rfl, hsz, hP, hE, hD0⟩ := hv
  have hx := B.exec
  have hb := B.bytes
  have hr := B.returns
  have hts := atoms_spec (ws := wsX7_make) B.pre
  have hown : s.vm.findClass RX7 = some m.cls := findClass_of_methodNamed B.named
  have hlocks := B.notSynchronized
  have hK := hE.1
  have hi7 : ∀ w ∈ u_ws RX7 TX7 3, w ∈ wsX7_make := fun w h => List.mem_cons_of_mem _ (List.mem_append_right _ h)
  subst hsz
  have hD := hD0.self (sz := s.heap.size)
  generalize hAe : va_A (w_c_X7_make cI cJ cB cZ cO a b0 b1 b2) s.heap.size = A at hD ⊢
  have hA : ∀ q : Nat, s.heap.size ≤ q → A q := fun q h => by rw [← hAe]; exact Or.inr h
  have hS : va_S A s.heap s.heap [] := va_S.rf
  have hP : va_P D vwCl [(a, .inr (7, [.ref b0, .ref b1, .ref b2])), (b0, .inl (cI, 4, .inl (fun _ => 0))), (b1, .inl (cI, 4, .inl (szf))), (b2, .inl (cJ, 240, .inr (.inl (fun _ => 0))))] s.heap := hP
  have hD : va_D A [(a, .inr (7, [.ref b0, .ref b1, .ref b2])), (b0, .inl (cI, 4, .inl (fun _ => 0))), (b1, .inl (cI, 4, .inl (szf))), (b2, .inl (cJ, 240, .inr (.inl (fun _ => 0))))] := hD
  have hl := lv_entry ([.ref a, .int x1, .int x2, .int x3]) (n := 5) (Nat.le_of_ble_eq_true rfl)
  rw [lg_entry_eq]
  generalize (lg_sl ([.ref a, .int x1, .int x2, .int x3]) ++ List.replicate (5 - (lg_sl ([.ref a, .int x1, .int x2, .int x3])).length) Slot.unset).toArray = ls at hl ⊢
  have hl : lv_has ls 5 [(0, .ref a), (1, .int x1), (2, .int x2), (3, .int x3)] := hl
  obtain ⟨H, hHe⟩ : ∃ H : Heap, H = s.heap := ⟨_, rfl⟩
  rw [← hHe] at hP
  have hS : va_S A s.heap H [] := by rw [hHe]; exact va_S.rf
  refine ct_start hHe ?_
  refine lv_aload_n hx hb dX7_make_0 rfl (lv_at hl 0 rfl) ?_
  refine va_get (D := D) (ci := 7) (v := .ref b0) (C := RX7) (T := TX7) (N := 3) hx hb hts hi7 hown hK hP 0 rfl rfl 0 (by decide) (hts (.fieldLink RX7 11 "OverHill$Slots" "widths" "[I") (by decide +kernel)) (fun _ h9 => h9) rfl dX7_make_1 ?_
  refine lv_iload_n hx hb dX7_make_4 rfl (lv_at hl 1 rfl) ?_
  refine lv_iload_n hx hb dX7_make_5 rfl (lv_at hl 2 rfl) ?_
  refine va_iast (D := D) hx hb hK hP hD hS 1 0 rfl rfl (tq_in rfl (by omega)) dX7_make_6 (fun H locs hP hD hS => ?_)
  obtain ⟨g211, hP, hD⟩ : ∃ g211 : Nat → Int32, va_P D vwCl [(a, .inr (7, [.ref b0, .ref b1, .ref b2])), (b0, .inl (cI, 4, .inl (g211))), (b1, .inl (cI, 4, .inl (szf))), (b2, .inl (cJ, 240, .inr (.inl (fun _ => 0))))] H ∧ va_D A [(a, .inr (7, [.ref b0, .ref b1, .ref b2])), (b0, .inl (cI, 4, .inl (g211))), (b1, .inl (cI, 4, .inl (szf))), (b2, .inl (cJ, 240, .inr (.inl (fun _ => 0))))] := ⟨_, hP, hD⟩
  refine lv_aload_n hx hb dX7_make_7 rfl (lv_at hl 0 rfl) ?_
  refine va_get (D := D) (ci := 7) (v := .ref b1) (C := RX7) (T := TX7) (N := 3) hx hb hts hi7 hown hK hP 0 rfl rfl 1 (by decide) (hts (.fieldLink RX7 15 "OverHill$Slots" "sizes" "[I") (by decide +kernel)) (fun _ h9 => h9) rfl dX7_make_8 ?_
  refine lv_iload_n hx hb dX7_make_11 rfl (lv_at hl 1 rfl) ?_
  refine lv_iload_n hx hb dX7_make_12 rfl (lv_at hl 3 rfl) ?_
  refine va_iast (D := D) hx hb hK hP hD hS 2 0 rfl rfl (tq_in rfl (by omega)) dX7_make_13 (fun H locs hP hD hS => ?_)
  obtain ⟨g212, hP, hD⟩ : ∃ g212 : Nat → Int32, va_P D vwCl [(a, .inr (7, [.ref b0, .ref b1, .ref b2])), (b0, .inl (cI, 4, .inl (g211))), (b1, .inl (cI, 4, .inl (g212))), (b2, .inl (cJ, 240, .inr (.inl (fun _ => 0))))] H ∧ va_D A [(a, .inr (7, [.ref b0, .ref b1, .ref b2])), (b0, .inl (cI, 4, .inl (g211))), (b1, .inl (cI, 4, .inl (g212))), (b2, .inl (cJ, 240, .inr (.inl (fun _ => 0))))] := ⟨_, hP, hD⟩
  refine lv_iconst (v := 0) hx hb dX7_make_14 (by decide) ?_
  refine lv_istore (lv' := [(4, .int 0), (0, .ref a), (1, .int x1), (2, .int x2), (3, .int x3)]) hx hb dX7_make_15 hl (by decide) rfl (fun ls hl => ?_)
  refine lp_X7_make_17 D cI cJ cB cZ cO a b0 b1 b2 x1 x2 x3 g211 g212 h_x hx hb hown hts hE (fun fl H locs ls hP hD hS hl => ?_) 60 0 (fun _ => 0) _ _ _ (by omega) hP hD hS (lv_sub hl [0, 1, 2, 3, 4] rfl)
  have hP9 := hP.sub (ws' := []) [] rfl
  have hD9 := hD.sub (ws' := []) [] (by decide) rfl
  exact W.vret hx hb hr (fun t ht hW => ⟨⟨(), rfl, trivial, by rw [ht]; exact hP9, hD9⟩, hS.F ht⟩) hS.2.2 dX7_make_43
abbrev w_c_X11_row (cI cJ cB cZ cO : ClassId) (h : Nat) (r : Nat → Nat) : va_W := [oo h r (r 2) (r 3), ((r 15), .inr (7, [.ref (r 17), .ref (r 18), .ref (r 19)])), ((r 17), .inl (cI, 4, .inl (fun _ => 0))), ((r 18), .inl (cI, 4, .inl (szf))), ((r 19), .inl (cJ, 240, .inr (.inl (fun _ => 0))))]
set_option maxHeartbeats 4000000 in
set_option maxRecDepth 100000 in
/-- row, on a new object -/
theorem c_X11_row (l : Launch) (D : va_G) (cI cJ cB cZ cO : ClassId) (h : Nat) (r : Nat → Nat) (x1 : Int32) (x2 : Int32) (x3 : Int32) (sz : Nat) : Met l yX11_row wsX11_row ({ frames := 2, cells := 0, slots := 0, locals := 41 }) (va_Pc [.ref h, .int x1, .int x2, .int x3] (ct_P D (ct_T cI cJ cB cZ cO) (w_c_X11_row cI cJ cB cZ cO h r) sz)) (va_Qi (fun (rz : Int32) (u : Unit) => (rz = (-2) ∧ ¬ ((0 ≤ x1.toInt ∧ x1.toInt < 4) ∧ (0 ≤ x2.toInt ∧ x2.toInt < 4) ∧ x3.toInt ≤ 60)) ∨ (rz = (-3) ∧ ((0 ≤ x1.toInt ∧ x1.toInt < 4) ∧ (0 ≤ x2.toInt ∧ x2.toInt < 4) ∧ x3.toInt ≤ 60) ∧ x3.toInt < 0) ∨ (rz = 0 ∧ ((0 ≤ x1.toInt ∧ x1.toInt < 4) ∧ (0 ≤ x2.toInt ∧ x2.toInt < 4) ∧ x3.toInt ≤ 60) ∧ 0 ≤ x3.toInt)) (fun (u : Unit) t => ct_Q D (va_A (w_c_X11_row cI cJ cB cZ cO h r) sz) [] t) (va_A (w_c_X11_row cI cJ cB cZ cO h r) sz)) 0 0 (va_A (w_c_X11_row cI cJ cB cZ cO h r) sz) := by
  refine Met.ofW (cc := cX11_row) (maxL := 4) (ret := (some .int)) (by decide) rfl ?_
  intro p e s m args below meth c s₁ B hml hv
  obtain ⟨rfl, hsz, hP, hE, hD0⟩ := hv
  have hx := B.exec
  have hb := B.bytes
  have hr := B.returns
  have hts := atoms_spec (ws := wsX11_row) B.pre
  have hown : s.vm.findClass RX11 = some m.cls := findClass_of_methodNamed B.named
  have hlocks := B.notSynchronized
  have hK := hE.1
  have hi11 : ∀ w ∈ u_ws RX11 TX11 16, w ∈ wsX11_row := fun w h => List.mem_cons_of_mem _ (List.mem_append_left _ (List.mem_append_right _ h))
  subst hsz
  have hD := hD0.self (sz := s.heap.size)
  generalize hAe : va_A (w_c_X11_row cI cJ cB cZ cO h r) s.heap.size = A at hD ⊢
  have hA : ∀ q : Nat, s.heap.size ≤ q → A q := fun q h => by rw [← hAe]; exact Or.inr h
  have hS : va_S A s.heap s.heap [] := va_S.rf
  have hP : va_P D vwCl [oo h r (r 2) (r 3), ((r 15), .inr (7, [.ref (r 17), .ref (r 18), .ref (r 19)])), ((r 17), .inl (cI, 4, .inl (fun _ => 0))), ((r 18), .inl (cI, 4, .inl (szf))), ((r 19), .inl (cJ, 240, .inr (.inl (fun _ => 0))))] s.heap := hP
  have hD : va_D A [oo h r (r 2) (r 3), ((r 15), .inr (7, [.ref (r 17), .ref (r 18), .ref (r 19)])), ((r 17), .inl (cI, 4, .inl (fun _ => 0))), ((r 18), .inl (cI, 4, .inl (szf))), ((r 19), .inl (cJ, 240, .inr (.inl (fun _ => 0))))] := hD
  have hl := lv_entry ([.ref h, .int x1, .int x2, .int x3]) (n := 4) (Nat.le_of_ble_eq_true rfl)
  rw [lg_entry_eq]
  generalize (lg_sl ([.ref h, .int x1, .int x2, .int x3]) ++ List.replicate (4 - (lg_sl ([.ref h, .int x1, .int x2, .int x3])).length) Slot.unset).toArray = ls at hl ⊢
  have hl : lv_has ls 4 [(0, .ref h), (1, .int x1), (2, .int x2), (3, .int x3)] := hl
  obtain ⟨H, hHe⟩ : ∃ H : Heap, H = s.heap := ⟨_, rfl⟩
  rw [← hHe] at hP
  have hS : va_S A s.heap H [] := by rw [hHe]; exact va_S.rf
  refine ct_start hHe ?_
  refine lv_iload_n hx hb dX11_row_0 rfl (lv_at hl 1 rfl) ?_
  refine ct_calli (D := D) (wc := (w_c_X7_isSlot cI cJ cB cZ cO )) (wr := [oo h r (r 2) (r 3), ((r 15), .inr (7, [.ref (r 17), .ref (r 18), .ref (r 19)])), ((r 17), .inl (cI, 4, .inl (fun _ => 0))), ((r 18), .inl (cI, 4, .inl (szf))), ((r 19), .inl (cJ, 240, .inr (.inl (fun _ => 0))))]) (va_runS (As := [.int x1]) (rest := []) ⟨hx, hb, hml, hown, hts⟩ (c_X7_isSlot l D cI cJ cB cZ cO x1 H.size) (va_cwS 1 hts gX11_row_X7_isSlot rfl rfl rfl (by decide +kernel) ⟨Nat.le_of_ble_eq_true rfl, Nat.le_of_ble_eq_true rfl⟩) (ct_preS (T := ct_T cI cJ cB cZ cO) hE hP hD [] (by decide) rfl) rfl rfl hl.1 rfl (lv_room (Nat.le_of_ble_eq_true rfl)) dX11_row_1 ⟨Nat.le_of_ble_eq_true rfl, Nat.le_of_ble_eq_true rfl⟩) hP hD hS hA [] [0, 1, 2, 3, 4] rfl rfl (by decide) (by decide) (fun rz u H locs hw hP hD hS => ?_)
  have hP : va_P D vwCl [oo h r (r 2) (r 3), ((r 15), .inr (7, [.ref (r 17), .ref (r 18), .ref (r 19)])), ((r 17), .inl (cI, 4, .inl (fun _ => 0))), ((r 18), .inl (cI, 4, .inl (szf))), ((r 19), .inl (cJ, 240, .inr (.inl (fun _ => 0))))] H := hP
  have hD : va_D A [oo h r (r 2) (r 3), ((r 15), .inr (7, [.ref (r 17), .ref (r 18), .ref (r 19)])), ((r 17), .inl (cI, 4, .inl (fun _ => 0))), ((r 18), .inl (cI, 4, .inl (szf))), ((r 19), .inl (cJ, 240, .inr (.inl (fun _ => 0))))] := hD
  rcases hw with ⟨rfl, hq216⟩ | ⟨rfl, hq216⟩
  · refine lv_if_eq (tgt := 21) hx hb dX11_row_4 (by decide) (fun hc => absurd hc (by decide)) (fun _ => ?_)
    refine lv_iload_n hx hb dX11_row_7 rfl (lv_at hl 2 rfl) ?_
    refine lv_iconst (v := 4) hx hb dX11_row_8 (by decide) ?_
    refine ct_calli (D := D) (wc := (w_c_X11_isWithin cI cJ cB cZ cO )) (wr := [oo h r (r 2) (r 3), ((r 15), .inr (7, [.ref (r 17), .ref (r 18), .ref (r 19)])), ((r 17), .inl (cI, 4, .inl (fun _ => 0))), ((r 18), .inl (cI, 4, .inl (szf))), ((r 19), .inl (cJ, 240, .inr (.inl (fun _ => 0))))]) (va_runS (As := [.int x2, .int 4]) (rest := []) ⟨hx, hb, hml, hown, hts⟩ (c_X11_isWithin l D cI cJ cB cZ cO x2 4 4 (by decide) H.size) (va_cwS 2 hts gX11_row_X11_isWithin rfl rfl rfl (by decide +kernel) ⟨Nat.le_of_ble_eq_true rfl, Nat.le_of_ble_eq_true rfl⟩) (ct_preS (T := ct_T cI cJ cB cZ cO) hE hP hD [] (by decide) rfl) rfl rfl hl.1 rfl (lv_room (Nat.le_of_ble_eq_true rfl)) dX11_row_9 ⟨Nat.le_of_ble_eq_true rfl, Nat.le_of_ble_eq_true rfl⟩) hP hD hS hA [] [0, 1, 2, 3, 4] rfl rfl (by decide) (by decide) (fun rz u H locs hw hP hD hS => ?_)
    have hP : va_P D vwCl [oo h r (r 2) (r 3), ((r 15), .inr (7, [.ref (r 17), .ref (r 18), .ref (r 19)])), ((r 17), .inl (cI, 4, .inl (fun _ => 0))), ((r 18), .inl (cI, 4, .inl (szf))), ((r 19), .inl (cJ, 240, .inr (.inl (fun _ => 0))))] H := hP
    have hD : va_D A [oo h r (r 2) (r 3), ((r 15), .inr (7, [.ref (r 17), .ref (r 18), .ref (r 19)])), ((r 17), .inl (cI, 4, .inl (fun _ => 0))), ((r 18), .inl (cI, 4, .inl (szf))), ((r 19), .inl (cJ, 240, .inr (.inl (fun _ => 0))))] := hD
    rcases hw with ⟨rfl, hq217⟩ | ⟨rfl, hq217⟩
    · refine lv_if_eq (tgt := 21) hx hb dX11_row_12 (by decide) (fun hc => absurd hc (by decide)) (fun _ => ?_)
      refine lv_iload_n hx hb dX11_row_15 rfl (lv_at hl 3 rfl) ?_
      refine lv_bipush (v := 60) hx hb dX11_row_16 (by decide) ?_
      refine lv_icmp_le (tgt := 24) hx hb dX11_row_18 (by decide) (fun hc => ?_) (fun hc => ?_)
      · have hq218 : x3.toInt ≤ 60 := tq_le rfl (by decide) hc
        refine lv_iload_n hx hb dX11_row_24 rfl (lv_at hl 3 rfl) ?_
        refine lv_if_ge (tgt := 31) hx hb dX11_row_25 (by decide) (fun hc => ?_) (fun hc => ?_)
        · have hq219 : 0 ≤ x3.toInt := tq_le (by decide) rfl hc
          refine lv_aload_n hx hb dX11_row_31 rfl (lv_at hl 0 rfl) ?_
          refine va_get (D := D) (ci := 11) (v := .ref (r 15)) (C := RX11) (T := TX11) (N := 16) hx hb hts hi11 hown hK hP 0 rfl rfl 15 (by decide) (hts (.fieldLink RX11 98 "OverHill" "slots" "LOverHill$Slots;") (by decide +kernel)) (fun _ h9 => h9) rfl dX11_row_32 ?_
          refine lv_iload_n hx hb dX11_row_35 rfl (lv_at hl 1 rfl) ?_
          refine lv_iload_n hx hb dX11_row_36 rfl (lv_at hl 2 rfl) ?_
          refine lv_iload_n hx hb dX11_row_37 rfl (lv_at hl 3 rfl) ?_
          refine ct_callv (D := D) (wc := (w_c_X7_make cI cJ cB cZ cO (r 15) (r 17) (r 18) (r 19))) (wr := [oo h r (r 2) (r 3)]) (va_runV (As := [.int x1, .int x2, .int x3]) (rest := []) ⟨hx, hb, hml, hown, hts⟩ (c_X7_make l D cI cJ cB cZ cO (r 15) (r 17) (r 18) (r 19) x1 x2 x3 (by omega) H.size) (cwV 3 hts gX11_row_X7_make rfl rfl rfl (by decide +kernel) ⟨Nat.le_of_ble_eq_true rfl, Nat.le_of_ble_eq_true rfl⟩) (ct_preV (T := ct_T cI cJ cB cZ cO) (ci := 7) (q0 := 1) hE hP hD [1, 2, 3, 4] (by decide) rfl rfl rfl) rfl rfl hl.1 rfl (lv_room (Nat.le_of_ble_eq_true rfl)) dX11_row_38 ⟨Nat.le_of_ble_eq_true rfl, Nat.le_of_ble_eq_true rfl⟩) hP hD hS hA [1, 2, 3, 4] [0] rfl rfl (by decide) (by decide) (fun u H locs hw hP hD hS => ?_)
          have hP : va_P D vwCl [oo h r (r 2) (r 3)] H := hP
          have hD : va_D A [oo h r (r 2) (r 3)] := hD
          refine lv_iconst (v := 0) hx hb dX11_row_41 (by decide) ?_
          have hP9 := hP.sub (ws' := []) [] rfl
          have hD9 := hD.sub (ws' := []) [] (by decide) rfl
          exact W.iret (v := 0) hx hb hr (fun t ht hW => ⟨⟨0, (), rfl, (Or.inr (Or.inr (⟨rfl, by omega⟩))), by rw [ht]; exact hP9, hD9⟩, hS.F ht⟩) hS.2.2 dX11_row_42
        · have hq219 : x3.toInt < 0 := tq_nle (by decide) rfl hc
          refine lv_bipush (v := (-3)) hx hb dX11_row_28 (by decide) ?_
          have hP9 := hP.sub (ws' := []) [] rfl
          have hD9 := hD.sub (ws' := []) [] (by decide) rfl
          exact W.iret (v := (-3)) hx hb hr (fun t ht hW => ⟨⟨(-3), (), rfl, (Or.inr (Or.inl ⟨rfl, by omega⟩)), by rw [ht]; exact hP9, hD9⟩, hS.F ht⟩) hS.2.2 dX11_row_30
      · have hq218 : 60 < x3.toInt := tq_nle rfl (by decide) hc
        refine lv_bipush (v := (-2)) hx hb dX11_row_21 (by decide) ?_
        have hP9 := hP.sub (ws' := []) [] rfl
        have hD9 := hD.sub (ws' := []) [] (by decide) rfl
        exact W.iret (v := (-2)) hx hb hr (fun t ht hW => ⟨⟨(-2), (), rfl, (Or.inl ⟨rfl, by omega⟩), by rw [ht]; exact hP9, hD9⟩, hS.F ht⟩) hS.2.2 dX11_row_23
    · refine lv_if_eq (tgt := 21) hx hb dX11_row_12 (by decide) (fun _ => ?_) (fun hc => absurd hc (by decide))
      refine lv_bipush (v := (-2)) hx hb dX11_row_21 (by decide) ?_
      have hP9 := hP.sub (ws' := []) [] rfl
      have hD9 := hD.sub (ws' := []) [] (by decide) rfl
      exact W.iret (v := (-2)) hx hb hr (fun t ht hW => ⟨⟨(-2), (), rfl, (Or.inl ⟨rfl, by omega⟩), by rw [ht]; exact hP9, hD9⟩, hS.F ht⟩) hS.2.2 dX11_row_23
  · refine lv_if_eq (tgt := 21) hx hb dX11_row_4 (by decide) (fun _ => ?_) (fun hc => absurd hc (by decide))
    refine lv_bipush (v := (-2)) hx hb dX11_row_21 (by decide) ?_
    have hP9 := hP.sub (ws' := []) [] rfl
    have hD9 := hD.sub (ws' := []) [] (by decide) rfl
    exact W.iret (v := (-2)) hx hb hr (fun t ht hW => ⟨⟨(-2), (), rfl, (Or.inl ⟨rfl, by omega⟩), by rw [ht]; exact hP9, hD9⟩, hS.F ht⟩) hS.2.2 dX11_row_23
