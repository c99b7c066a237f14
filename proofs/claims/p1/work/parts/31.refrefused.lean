abbrev w_c_X12_step (cI cJ cB cZ cO : ClassId) (h : Nat) (r : Nat → Nat) : va_W := [mo h r 0 0, ((r 16), .inl (cI, 5, .inl (fun _ => 0)))]
set_option maxHeartbeats 4000000 in
set_option maxRecDepth 100000 in
/-- step, of the reference, on a new object -/
theorem c_X12_step (l : Launch) (D : va_G) (cI cJ cB cZ cO : ClassId) (h : Nat) (r : Nat → Nat) (x1 : Int32) (x2 : Int32) (sz : Nat) : Met l yX12_step wsX12_step ({ frames := 2, cells := 0, slots := 0, locals := 41 }) (va_Pc [.ref h, .int x1, .int x2] (ct_P D (ct_T cI cJ cB cZ cO) (w_c_X12_step cI cJ cB cZ cO h r) sz)) (va_Qi (fun (rz : Int32) (u : Unit) => (rz = (-2) ∧ True)) (fun (u : Unit) t => ct_Q D (va_A (w_c_X12_step cI cJ cB cZ cO h r) sz) [] t) (va_A (w_c_X12_step cI cJ cB cZ cO h r) sz)) 0 0 (va_A (w_c_X12_step cI cJ cB cZ cO h r) sz) := by
  refine Met.ofW (cc := cX12_step) (maxL := 3) (ret := (some .int)) (by decide) rfl ?_
  intro p e s m args below meth c s₁ B hml hv
  obtain ⟨rfl, hsz, hP, hE, hD0⟩ := hv
  have hx := B.exec
  have hb := B.bytes
  have hr := B.returns
  have hts := atoms_spec (ws := wsX12_step) B.pre
  have hown : s.vm.findClass RX12 = some m.cls := findClass_of_methodNamed B.named
  have hlocks := B.notSynchronized
  have hK := hE.1
  have hi12 : ∀ w ∈ u_ws RX12 TX12 45, w ∈ wsX12_step := fun w h => List.mem_cons_of_mem _ (List.mem_append_right _ h)
  subst hsz
  have hD := hD0.self (sz := s.heap.size)
  generalize hAe : va_A (w_c_X12_step cI cJ cB cZ cO h r) s.heap.size = A at hD ⊢
  have hA : ∀ q : Nat, s.heap.size ≤ q → A q := fun q h => by rw [← hAe]; exact Or.inr h
  have hS : va_S A s.heap s.heap [] := va_S.rf
  have hP : va_P D vwCl [mo h r 0 0, ((r 16), .inl (cI, 5, .inl (fun _ => 0)))] s.heap := hP
  have hD : va_D A [mo h r 0 0, ((r 16), .inl (cI, 5, .inl (fun _ => 0)))] := hD
  have hl := lv_entry ([.ref h, .int x1, .int x2]) (n := 3) (Nat.le_of_ble_eq_true rfl)
  rw [lg_entry_eq]
  generalize (lg_sl ([.ref h, .int x1, .int x2]) ++ List.replicate (3 - (lg_sl ([.ref h, .int x1, .int x2])).length) Slot.unset).toArray = ls at hl ⊢
  have hl : lv_has ls 3 [(0, .ref h), (1, .int x1), (2, .int x2)] := hl
  obtain ⟨H, hHe⟩ : ∃ H : Heap, H = s.heap := ⟨_, rfl⟩
  rw [← hHe] at hP
  have hS : va_S A s.heap H [] := by rw [hHe]; exact va_S.rf
  refine ct_start hHe ?_
  refine lv_aload_n hx hb dX12_step_0 rfl (lv_at hl 0 rfl) ?_
  refine lv_iconst (v := 0) hx hb dX12_step_1 (by decide) ?_
  refine va_put (D := D) (ci := 12) (v := .int 0) (ty := .int) (C := RX12) (T := TX12) (N := 45) hx hb hts hi12 tyX12 tyX12_ok nmX12 hown hK hP hD hS 0 rfl rfl 0 (by decide) (hts (.fieldLink RX12 80 "OverHillModel" "thrown" "I") (by decide +kernel)) (fun _ h9 => h9) rfl (by decide +kernel) rfl rfl (Nat.le_of_ble_eq_true rfl) dX12_step_2 (fun H locs hP hD hS => ?_)
  have hP : va_P D vwCl [mo h r 0 0, ((r 16), .inl (cI, 5, .inl (fun _ => 0)))] H := hP
  have hD : va_D A [mo h r 0 0, ((r 16), .inl (cI, 5, .inl (fun _ => 0)))] := hD
  refine lv_aload_n hx hb dX12_step_5 rfl (lv_at hl 0 rfl) ?_
  refine lv_iload_n hx hb dX12_step_6 rfl (lv_at hl 1 rfl) ?_
  refine ct_calli (D := D) (wc := (w_c_X12_isSide cI cJ cB cZ cO h r)) (wr := []) (va_runV (As := [.int x1]) (rest := []) ⟨hx, hb, hml, hown, hts⟩ (c_X12_isSide l D cI cJ cB cZ cO h r x1 H.size) (cwV 1 hts gX12_step_X12_isSide rfl rfl rfl (by decide +kernel) ⟨Nat.le_of_ble_eq_true rfl, Nat.le_of_ble_eq_true rfl⟩) (ct_preV (T := ct_T cI cJ cB cZ cO) (ci := 12) (q0 := 0) hE hP hD [0, 1] (by decide) rfl rfl rfl) rfl rfl hl.1 rfl (lv_room (Nat.le_of_ble_eq_true rfl)) dX12_step_7 ⟨Nat.le_of_ble_eq_true rfl, Nat.le_of_ble_eq_true rfl⟩) hP hD hS hA [0, 1] [] rfl rfl (by decide) (by decide) (fun rz u H locs hw hP hD hS => ?_)
  have hP : va_P D vwCl [mo h r 0 0, ((r 16), .inl (cI, 5, .inl (fun _ => 0)))] H := hP
  have hD : va_D A [mo h r 0 0, ((r 16), .inl (cI, 5, .inl (fun _ => 0)))] := hD
  obtain ⟨rfl, hq288⟩ := hw
  refine lv_if_ne (tgt := 18) hx hb dX12_step_10 (by decide) (fun hc => absurd hc (by decide)) (fun _ => ?_)
  refine lv_bipush (v := (-2)) hx hb dX12_step_13 (by decide) ?_
  refine lv_goto (tgt := 50) hx hb dX12_step_15 (by decide) ?_
  have hP9 := hP.sub (ws' := []) [] rfl
  have hD9 := hD.sub (ws' := []) [] (by decide) rfl
  exact W.iret (v := (-2)) hx hb hr (fun t ht hW => ⟨⟨(-2), (), rfl, ⟨rfl, trivial⟩, by rw [ht]; exact hP9, hD9⟩, hS.F ht⟩) hS.2.2 dX12_step_50
abbrev w_c_X12_answers (cI cJ cB cZ cO : ClassId) (h : Nat) (r : Nat → Nat) : va_W := [mo h r 0 0, ((r 16), .inl (cI, 5, .inl (fun _ => 0)))]
set_option maxHeartbeats 4000000 in
set_option maxRecDepth 100000 in
/-- answers, of the reference, on a new object -/
theorem c_X12_answers (l : Launch) (D : va_G) (cI cJ cB cZ cO : ClassId) (h : Nat) (r : Nat → Nat) (x1 : Int32) (sz : Nat) : Met l yX12_answers wsX12_answers ({ frames := 1, cells := 0, slots := 0, locals := 20 }) (va_Pc [.ref h, .int x1] (ct_P D (ct_T cI cJ cB cZ cO) (w_c_X12_answers cI cJ cB cZ cO h r) sz)) (va_Qi (fun (rz : Int32) (u : Unit) => (rz = (-2) ∧ True)) (fun (u : Unit) t => ct_Q D (va_A (w_c_X12_answers cI cJ cB cZ cO h r) sz) [] t) (va_A (w_c_X12_answers cI cJ cB cZ cO h r) sz)) 0 0 (va_A (w_c_X12_answers cI cJ cB cZ cO h r) sz) := by
  refine Met.ofW (cc := cX12_answers) (maxL := 2) (ret := (some .int)) (by decide) rfl ?_
  intro p e s m args below meth c s₁ B hml hv
  obtain ⟨rfl, hsz, hP, hE, hD0⟩ := hv
  have hx := B.exec
  have hb := B.bytes
  have hr := B.returns
  have hts := atoms_spec (ws := wsX12_answers) B.pre
  have hown : s.vm.findClass RX12 = some m.cls := findClass_of_methodNamed B.named
  have hlocks := B.notSynchronized
  have hK := hE.1
  have hi12 : ∀ w ∈ u_ws RX12 TX12 45, w ∈ wsX12_answers := fun w h => List.mem_cons_of_mem _ (List.mem_append_right _ h)
  subst hsz
  have hD := hD0.self (sz := s.heap.size)
  generalize hAe : va_A (w_c_X12_answers cI cJ cB cZ cO h r) s.heap.size = A at hD ⊢
  have hA : ∀ q : Nat, s.heap.size ≤ q → A q := fun q h => by rw [← hAe]; exact Or.inr h
  have hS : va_S A s.heap s.heap [] := va_S.rf
  have hP : va_P D vwCl [mo h r 0 0, ((r 16), .inl (cI, 5, .inl (fun _ => 0)))] s.heap := hP
  have hD : va_D A [mo h r 0 0, ((r 16), .inl (cI, 5, .inl (fun _ => 0)))] := hD
  have hl := lv_entry ([.ref h, .int x1]) (n := 2) (Nat.le_of_ble_eq_true rfl)
  rw [lg_entry_eq]
  generalize (lg_sl ([.ref h, .int x1]) ++ List.replicate (2 - (lg_sl ([.ref h, .int x1])).length) Slot.unset).toArray = ls at hl ⊢
  have hl : lv_has ls 2 [(0, .ref h), (1, .int x1)] := hl
  obtain ⟨H, hHe⟩ : ∃ H : Heap, H = s.heap := ⟨_, rfl⟩
  rw [← hHe] at hP
  have hS : va_S A s.heap H [] := by rw [hHe]; exact va_S.rf
  refine ct_start hHe ?_
  refine lv_aload_n hx hb dX12_answers_0 rfl (lv_at hl 0 rfl) ?_
  refine lv_iconst (v := 0) hx hb dX12_answers_1 (by decide) ?_
  refine va_put (D := D) (ci := 12) (v := .int 0) (ty := .int) (C := RX12) (T := TX12) (N := 45) hx hb hts hi12 tyX12 tyX12_ok nmX12 hown hK hP hD hS 0 rfl rfl 0 (by decide) (hts (.fieldLink RX12 80 "OverHillModel" "thrown" "I") (by decide +kernel)) (fun _ h9 => h9) rfl (by decide +kernel) rfl rfl (Nat.le_of_ble_eq_true rfl) dX12_answers_2 (fun H locs hP hD hS => ?_)
  have hP : va_P D vwCl [mo h r 0 0, ((r 16), .inl (cI, 5, .inl (fun _ => 0)))] H := hP
  have hD : va_D A [mo h r 0 0, ((r 16), .inl (cI, 5, .inl (fun _ => 0)))] := hD
  refine lv_aload_n hx hb dX12_answers_5 rfl (lv_at hl 0 rfl) ?_
  refine ct_calli (D := D) (wc := (w_c_X12_isDance cI cJ cB cZ cO h r)) (wr := []) (va_runV (As := []) (rest := []) ⟨hx, hb, hml, hown, hts⟩ (c_X12_isDance l D cI cJ cB cZ cO h r H.size) (cwV 0 hts gX12_answers_X12_isDance rfl rfl rfl (by decide +kernel) ⟨Nat.le_of_ble_eq_true rfl, Nat.le_of_ble_eq_true rfl⟩) (ct_preV (T := ct_T cI cJ cB cZ cO) (ci := 12) (q0 := 0) hE hP hD [0, 1] (by decide) rfl rfl rfl) rfl rfl hl.1 rfl (lv_room (Nat.le_of_ble_eq_true rfl)) dX12_answers_6 ⟨Nat.le_of_ble_eq_true rfl, Nat.le_of_ble_eq_true rfl⟩) hP hD hS hA [0, 1] [] rfl rfl (by decide) (by decide) (fun rz u H locs hw hP hD hS => ?_)
  have hP : va_P D vwCl [mo h r 0 0, ((r 16), .inl (cI, 5, .inl (fun _ => 0)))] H := hP
  have hD : va_D A [mo h r 0 0, ((r 16), .inl (cI, 5, .inl (fun _ => 0)))] := hD
  obtain ⟨rfl, hq289⟩ := hw
  refine lv_if_eq (tgt := 29) hx hb dX12_answers_9 (by decide) (fun _ => ?_) (fun hc => absurd hc (by decide))
  refine lv_bipush (v := (-2)) hx hb dX12_answers_29 (by decide) ?_
  have hP9 := hP.sub (ws' := []) [] rfl
  have hD9 := hD.sub (ws' := []) [] (by decide) rfl
  exact W.iret (v := (-2)) hx hb hr (fun t ht hW => ⟨⟨(-2), (), rfl, ⟨rfl, trivial⟩, by rw [ht]; exact hP9, hD9⟩, hS.F ht⟩) hS.2.2 dX12_answers_31
abbrev w_c_X12_muddy (cI cJ cB cZ cO : ClassId) (h : Nat) (r : Nat → Nat) : va_W := [mo h r 0 0, ((r 16), .inl (cI, 5, .inl (fun _ => 0)))]
set_option maxHeartbeats 4000000 in
set_option maxRecDepth 100000 in
/-- muddy, of the reference, on a new object -/
theorem c_X12_muddy (l : Launch) (D : va_G) (cI cJ cB cZ cO : ClassId) (h : Nat) (r : Nat → Nat) (x1 : Int32) (sz : Nat) : Met l yX12_muddy wsX12_muddy ({ frames := 1, cells := 0, slots := 0, locals := 20 }) (va_Pc [.ref h, .int x1] (ct_P D (ct_T cI cJ cB cZ cO) (w_c_X12_muddy cI cJ cB cZ cO h r) sz)) (va_Qi (fun (rz : Int32) (u : Unit) => (rz = (-2) ∧ True)) (fun (u : Unit) t => ct_Q D (va_A (w_c_X12_muddy cI cJ cB cZ cO h r) sz) [] t) (va_A (w_c_X12_muddy cI cJ cB cZ cO h r) sz)) 0 0 (va_A (w_c_X12_muddy cI cJ cB cZ cO h r) sz) := by
  refine Met.ofW (cc := cX12_muddy) (maxL := 2) (ret := (some .int)) (by decide) rfl ?_
  intro p e s m args below meth c s₁ B hml hv
  obtain ⟨rfl, hsz, hP, hE, hD0⟩ := hv
  have hx := B.exec
  have hb := B.bytes
  have hr := B.returns
  have hts := atoms_spec (ws := wsX12_muddy) B.pre
  have hown : s.vm.findClass RX12 = some m.cls := findClass_of_methodNamed B.named
  have hlocks := B.notSynchronized
  have hK := hE.1
  have hi12 : ∀ w ∈ u_ws RX12 TX12 45, w ∈ wsX12_muddy := fun w h => List.mem_cons_of_mem _ (List.mem_append_right _ h)
  subst hsz
  have hD := hD0.self (sz := s.heap.size)
  generalize hAe : va_A (w_c_X12_muddy cI cJ cB cZ cO h r) s.heap.size = A at hD ⊢
  have hA : ∀ q : Nat, s.heap.size ≤ q → A q := fun q h => by rw [← hAe]; exact Or.inr h
  have hS : va_S A s.heap s.heap [] := va_S.rf
  have hP : va_P D vwCl [mo h r 0 0, ((r 16), .inl (cI, 5, .inl (fun _ => 0)))] s.heap := hP
  have hD : va_D A [mo h r 0 0, ((r 16), .inl (cI, 5, .inl (fun _ => 0)))] := hD
  have hl := lv_entry ([.ref h, .int x1]) (n := 2) (Nat.le_of_ble_eq_true rfl)
  rw [lg_entry_eq]
  generalize (lg_sl ([.ref h, .int x1]) ++ List.replicate (2 - (lg_sl ([.ref h, .int x1])).length) Slot.unset).toArray = ls at hl ⊢
  have hl : lv_has ls 2 [(0, .ref h), (1, .int x1)] := hl
  obtain ⟨H, hHe⟩ : ∃ H : Heap, H = s.heap := ⟨_, rfl⟩
  rw [← hHe] at hP
  have hS : va_S A s.heap H [] := by rw [hHe]; exact va_S.rf
  refine ct_start hHe ?_
  refine lv_aload_n hx hb dX12_muddy_0 rfl (lv_at hl 0 rfl) ?_
  refine lv_iconst (v := 0) hx hb dX12_muddy_1 (by decide) ?_
  refine va_put (D := D) (ci := 12) (v := .int 0) (ty := .int) (C := RX12) (T := TX12) (N := 45) hx hb hts hi12 tyX12 tyX12_ok nmX12 hown hK hP hD hS 0 rfl rfl 0 (by decide) (hts (.fieldLink RX12 80 "OverHillModel" "thrown" "I") (by decide +kernel)) (fun _ h9 => h9) rfl (by decide +kernel) rfl rfl (Nat.le_of_ble_eq_true rfl) dX12_muddy_2 (fun H locs hP hD hS => ?_)
  have hP : va_P D vwCl [mo h r 0 0, ((r 16), .inl (cI, 5, .inl (fun _ => 0)))] H := hP
  have hD : va_D A [mo h r 0 0, ((r 16), .inl (cI, 5, .inl (fun _ => 0)))] := hD
  refine lv_aload_n hx hb dX12_muddy_5 rfl (lv_at hl 0 rfl) ?_
  refine ct_calli (D := D) (wc := (w_c_X12_isDance cI cJ cB cZ cO h r)) (wr := []) (va_runV (As := []) (rest := []) ⟨hx, hb, hml, hown, hts⟩ (c_X12_isDance l D cI cJ cB cZ cO h r H.size) (cwV 0 hts gX12_muddy_X12_isDance rfl rfl rfl (by decide +kernel) ⟨Nat.le_of_ble_eq_true rfl, Nat.le_of_ble_eq_true rfl⟩) (ct_preV (T := ct_T cI cJ cB cZ cO) (ci := 12) (q0 := 0) hE hP hD [0, 1] (by decide) rfl rfl rfl) rfl rfl hl.1 rfl (lv_room (Nat.le_of_ble_eq_true rfl)) dX12_muddy_6 ⟨Nat.le_of_ble_eq_true rfl, Nat.le_of_ble_eq_true rfl⟩) hP hD hS hA [0, 1] [] rfl rfl (by decide) (by decide) (fun rz u H locs hw hP hD hS => ?_)
  have hP : va_P D vwCl [mo h r 0 0, ((r 16), .inl (cI, 5, .inl (fun _ => 0)))] H := hP
  have hD : va_D A [mo h r 0 0, ((r 16), .inl (cI, 5, .inl (fun _ => 0)))] := hD
  obtain ⟨rfl, hq290⟩ := hw
  refine lv_if_eq (tgt := 37) hx hb dX12_muddy_9 (by decide) (fun _ => ?_) (fun hc => absurd hc (by decide))
  refine lv_bipush (v := (-2)) hx hb dX12_muddy_37 (by decide) ?_
  have hP9 := hP.sub (ws' := []) [] rfl
  have hD9 := hD.sub (ws' := []) [] (by decide) rfl
  exact W.iret (v := (-2)) hx hb hr (fun t ht hW => ⟨⟨(-2), (), rfl, ⟨rfl, trivial⟩, by rw [ht]; exact hP9, hD9⟩, hS.F ht⟩) hS.2.2 dX12_muddy_39
abbrev w_c_X12_place (cI cJ cB cZ cO : ClassId) (h : Nat) (r : Nat → Nat) : va_W := [mo h r 0 0, ((r 16), .inl (cI, 5, .inl (fun _ => 0)))]
set_option maxHeartbeats 4000000 in
set_option maxRecDepth 100000 in
/-- place, of the reference, on a new object -/
theorem c_X12_place (l : Launch) (D : va_G) (cI cJ cB cZ cO : ClassId) (h : Nat) (r : Nat → Nat) (x1 : Int32) (x2 : Int32) (sz : Nat) : Met l yX12_place wsX12_place ({ frames := 2, cells := 0, slots := 0, locals := 41 }) (va_Pc [.ref h, .int x1, .int x2] (ct_P D (ct_T cI cJ cB cZ cO) (w_c_X12_place cI cJ cB cZ cO h r) sz)) (va_Qi (fun (rz : Int32) (u : Unit) => (rz = (-2) ∧ True)) (fun (u : Unit) t => ct_Q D (va_A (w_c_X12_place cI cJ cB cZ cO h r) sz) [] t) (va_A (w_c_X12_place cI cJ cB cZ cO h r) sz)) 0 0 (va_A (w_c_X12_place cI cJ cB cZ cO h r) sz) := by
  refine Met.ofW (cc := cX12_place) (maxL := 3) (ret := (some .int)) (by decide) rfl ?_
  intro p e s m args below meth c s₁ B hml hv
  obtain ⟨rfl, hsz, hP, hE, hD0⟩ := hv
  have hx := B.exec
  have hb := B.bytes
  have hr := B.returns
  have hts := atoms_spec (ws := wsX12_place) B.pre
  have hown : s.vm.findClass RX12 = some m.cls := findClass_of_methodNamed B.named
  have hlocks := B.notSynchronized
  have hK := hE.1
  have hi12 : ∀ w ∈ u_ws RX12 TX12 45, w ∈ wsX12_place := fun w h => List.mem_cons_of_mem _ (List.mem_append_right _ h)
  subst hsz
  have hD := hD0.self (sz := s.heap.size)
  generalize hAe : va_A (w_c_X12_place cI cJ cB cZ cO h r) s.heap.size = A at hD ⊢
  have hA : ∀ q : Nat, s.heap.size ≤ q → A q := fun q h => by rw [← hAe]; exact Or.inr h
  have hS : va_S A s.heap s.heap [] := va_S.rf
  have hP : va_P D vwCl [mo h r 0 0, ((r 16), .inl (cI, 5, .inl (fun _ => 0)))] s.heap := hP
  have hD : va_D A [mo h r 0 0, ((r 16), .inl (cI, 5, .inl (fun _ => 0)))] := hD
  have hl := lv_entry ([.ref h, .int x1, .int x2]) (n := 3) (Nat.le_of_ble_eq_true rfl)
  rw [lg_entry_eq]
  generalize (lg_sl ([.ref h, .int x1, .int x2]) ++ List.replicate (3 - (lg_sl ([.ref h, .int x1, .int x2])).length) Slot.unset).toArray = ls at hl ⊢
  have hl : lv_has ls 3 [(0, .ref h), (1, .int x1), (2, .int x2)] := hl
  obtain ⟨H, hHe⟩ : ∃ H : Heap, H = s.heap := ⟨_, rfl⟩
  rw [← hHe] at hP
  have hS : va_S A s.heap H [] := by rw [hHe]; exact va_S.rf
  refine ct_start hHe ?_
  refine lv_aload_n hx hb dX12_place_0 rfl (lv_at hl 0 rfl) ?_
  refine lv_iconst (v := 0) hx hb dX12_place_1 (by decide) ?_
  refine va_put (D := D) (ci := 12) (v := .int 0) (ty := .int) (C := RX12) (T := TX12) (N := 45) hx hb hts hi12 tyX12 tyX12_ok nmX12 hown hK hP hD hS 0 rfl rfl 0 (by decide) (hts (.fieldLink RX12 80 "OverHillModel" "thrown" "I") (by decide +kernel)) (fun _ h9 => h9) rfl (by decide +kernel) rfl rfl (Nat.le_of_ble_eq_true rfl) dX12_place_2 (fun H locs hP hD hS => ?_)
  have hP : va_P D vwCl [mo h r 0 0, ((r 16), .inl (cI, 5, .inl (fun _ => 0)))] H := hP
  have hD : va_D A [mo h r 0 0, ((r 16), .inl (cI, 5, .inl (fun _ => 0)))] := hD
  refine lv_aload_n hx hb dX12_place_5 rfl (lv_at hl 0 rfl) ?_
  refine lv_iload_n hx hb dX12_place_6 rfl (lv_at hl 1 rfl) ?_
  refine ct_calli (D := D) (wc := (w_c_X12_isSide cI cJ cB cZ cO h r)) (wr := []) (va_runV (As := [.int x1]) (rest := []) ⟨hx, hb, hml, hown, hts⟩ (c_X12_isSide l D cI cJ cB cZ cO h r x1 H.size) (cwV 1 hts gX12_place_X12_isSide rfl rfl rfl (by decide +kernel) ⟨Nat.le_of_ble_eq_true rfl, Nat.le_of_ble_eq_true rfl⟩) (ct_preV (T := ct_T cI cJ cB cZ cO) (ci := 12) (q0 := 0) hE hP hD [0, 1] (by decide) rfl rfl rfl) rfl rfl hl.1 rfl (lv_room (Nat.le_of_ble_eq_true rfl)) dX12_place_7 ⟨Nat.le_of_ble_eq_true rfl, Nat.le_of_ble_eq_true rfl⟩) hP hD hS hA [0, 1] [] rfl rfl (by decide) (by decide) (fun rz u H locs hw hP hD hS => ?_)
  have hP : va_P D vwCl [mo h r 0 0, ((r 16), .inl (cI, 5, .inl (fun _ => 0)))] H := hP
  have hD : va_D A [mo h r 0 0, ((r 16), .inl (cI, 5, .inl (fun _ => 0)))] := hD
  obtain ⟨rfl, hq291⟩ := hw
  refine lv_if_eq (tgt := 21) hx hb dX12_place_10 (by decide) (fun _ => ?_) (fun hc => absurd hc (by decide))
  refine lv_bipush (v := (-2)) hx hb dX12_place_21 (by decide) ?_
  have hP9 := hP.sub (ws' := []) [] rfl
  have hD9 := hD.sub (ws' := []) [] (by decide) rfl
  exact W.iret (v := (-2)) hx hb hr (fun t ht hW => ⟨⟨(-2), (), rfl, ⟨rfl, trivial⟩, by rw [ht]; exact hP9, hD9⟩, hS.F ht⟩) hS.2.2 dX12_place_23
abbrev w_c_X12_danced (cI cJ cB cZ cO : ClassId) (h : Nat) (r : Nat → Nat) : va_W := [mo h r 0 0, ((r 16), .inl (cI, 5, .inl (fun _ => 0)))]
set_option maxHeartbeats 4000000 in
set_option maxRecDepth 100000 in
/-- danced, of the reference, on a new object -/
theorem c_X12_danced (l : Launch) (D : va_G) (cI cJ cB cZ cO : ClassId) (h : Nat) (r : Nat → Nat) (x1 : Int32) (x2 : Int32) (sz : Nat) : Met l yX12_danced wsX12_danced ({ frames := 2, cells := 0, slots := 0, locals := 41 }) (va_Pc [.ref h, .int x1, .int x2] (ct_P D (ct_T cI cJ cB cZ cO) (w_c_X12_danced cI cJ cB cZ cO h r) sz)) (va_Qi (fun (rz : Int32) (u : Unit) => (rz = (-2) ∧ True)) (fun (u : Unit) t => ct_Q D (va_A (w_c_X12_danced cI cJ cB cZ cO h r) sz) [] t) (va_A (w_c_X12_danced cI cJ cB cZ cO h r) sz)) 0 0 (va_A (w_c_X12_danced cI cJ cB cZ cO h r) sz) := by
  refine Met.ofW (cc := cX12_danced) (maxL := 3) (ret := (some .int)) (by decide) rfl ?_
  intro p e s m args below meth c s₁ B hml hv
  obtain ⟨rfl, hsz, hP, hE, hD0⟩ := hv
  have hx := B.exec
  have hb := B.bytes
  have hr := B.returns
  have hts := atoms_spec (ws := wsX12_danced) B.pre
  have hown : s.vm.findClass RX12 = some m.cls := findClass_of_methodNamed B.named
  have hlocks := B.notSynchronized
  have hK := hE.1
  have hi12 : ∀ w ∈ u_ws RX12 TX12 45, w ∈ wsX12_danced := fun w h => List.mem_cons_of_mem _ (List.mem_append_right _ h)
  subst hsz
  have hD := hD0.self (sz := s.heap.size)
  generalize hAe : va_A (w_c_X12_danced cI cJ cB cZ cO h r) s.heap.size = A at hD ⊢
  have hA : ∀ q : Nat, s.heap.size ≤ q → A q := fun q h => by rw [← hAe]; exact Or.inr h
  have hS : va_S A s.heap s.heap [] := va_S.rf
  have hP : va_P D vwCl [mo h r 0 0, ((r 16), .inl (cI, 5, .inl (fun _ => 0)))] s.heap := hP
  have hD : va_D A [mo h r 0 0, ((r 16), .inl (cI, 5, .inl (fun _ => 0)))] := hD
  have hl := lv_entry ([.ref h, .int x1, .int x2]) (n := 3) (Nat.le_of_ble_eq_true rfl)
  rw [lg_entry_eq]
  generalize (lg_sl ([.ref h, .int x1, .int x2]) ++ List.replicate (3 - (lg_sl ([.ref h, .int x1, .int x2])).length) Slot.unset).toArray = ls at hl ⊢
  have hl : lv_has ls 3 [(0, .ref h), (1, .int x1), (2, .int x2)] := hl
  obtain ⟨H, hHe⟩ : ∃ H : Heap, H = s.heap := ⟨_, rfl⟩
  rw [← hHe] at hP
  have hS : va_S A s.heap H [] := by rw [hHe]; exact va_S.rf
  refine ct_start hHe ?_
  refine lv_aload_n hx hb dX12_danced_0 rfl (lv_at hl 0 rfl) ?_
  refine lv_iconst (v := 0) hx hb dX12_danced_1 (by decide) ?_
  refine va_put (D := D) (ci := 12) (v := .int 0) (ty := .int) (C := RX12) (T := TX12) (N := 45) hx hb hts hi12 tyX12 tyX12_ok nmX12 hown hK hP hD hS 0 rfl rfl 0 (by decide) (hts (.fieldLink RX12 80 "OverHillModel" "thrown" "I") (by decide +kernel)) (fun _ h9 => h9) rfl (by decide +kernel) rfl rfl (Nat.le_of_ble_eq_true rfl) dX12_danced_2 (fun H locs hP hD hS => ?_)
  have hP : va_P D vwCl [mo h r 0 0, ((r 16), .inl (cI, 5, .inl (fun _ => 0)))] H := hP
  have hD : va_D A [mo h r 0 0, ((r 16), .inl (cI, 5, .inl (fun _ => 0)))] := hD
  refine lv_aload_n hx hb dX12_danced_5 rfl (lv_at hl 0 rfl) ?_
  refine lv_iload_n hx hb dX12_danced_6 rfl (lv_at hl 1 rfl) ?_
  refine ct_calli (D := D) (wc := (w_c_X12_isSide cI cJ cB cZ cO h r)) (wr := []) (va_runV (As := [.int x1]) (rest := []) ⟨hx, hb, hml, hown, hts⟩ (c_X12_isSide l D cI cJ cB cZ cO h r x1 H.size) (cwV 1 hts gX12_danced_X12_isSide rfl rfl rfl (by decide +kernel) ⟨Nat.le_of_ble_eq_true rfl, Nat.le_of_ble_eq_true rfl⟩) (ct_preV (T := ct_T cI cJ cB cZ cO) (ci := 12) (q0 := 0) hE hP hD [0, 1] (by decide) rfl rfl rfl) rfl rfl hl.1 rfl (lv_room (Nat.le_of_ble_eq_true rfl)) dX12_danced_7 ⟨Nat.le_of_ble_eq_true rfl, Nat.le_of_ble_eq_true rfl⟩) hP hD hS hA [0, 1] [] rfl rfl (by decide) (by decide) (fun rz u H locs hw hP hD hS => ?_)
  have hP : va_P D vwCl [mo h r 0 0, ((r 16), .inl (cI, 5, .inl (fun _ => 0)))] H := hP
  have hD : va_D A [mo h r 0 0, ((r 16), .inl (cI, 5, .inl (fun _ => 0)))] := hD
  obtain ⟨rfl, hq292⟩ := hw
  refine lv_if_eq (tgt := 21) hx hb dX12_danced_10 (by decide) (fun _ => ?_) (fun hc => absurd hc (by decide))
  refine lv_bipush (v := (-2)) hx hb dX12_danced_21 (by decide) ?_
  have hP9 := hP.sub (ws' := []) [] rfl
  have hD9 := hD.sub (ws' := []) [] (by decide) rfl
  exact W.iret (v := (-2)) hx hb hr (fun t ht hW => ⟨⟨(-2), (), rfl, ⟨rfl, trivial⟩, by rw [ht]; exact hP9, hD9⟩, hS.F ht⟩) hS.2.2 dX12_danced_23
abbrev w_c_X12_hears (cI cJ cB cZ cO : ClassId) (h : Nat) (r : Nat → Nat) : va_W := [mo h r 0 0, ((r 16), .inl (cI, 5, .inl (fun _ => 0)))]
set_option maxHeartbeats 4000000 in
set_option maxRecDepth 100000 in
/-- hears, of the reference, on a new object -/
theorem c_X12_hears (l : Launch) (D : va_G) (cI cJ cB cZ cO : ClassId) (h : Nat) (r : Nat → Nat) (x1 : Int32) (x2 : Int32) (sz : Nat) : Met l yX12_hears wsX12_hears ({ frames := 2, cells := 0, slots := 0, locals := 41 }) (va_Pc [.ref h, .int x1, .int x2] (ct_P D (ct_T cI cJ cB cZ cO) (w_c_X12_hears cI cJ cB cZ cO h r) sz)) (va_Qi (fun (rz : Int32) (u : Unit) => (rz = (-2) ∧ True)) (fun (u : Unit) t => ct_Q D (va_A (w_c_X12_hears cI cJ cB cZ cO h r) sz) [] t) (va_A (w_c_X12_hears cI cJ cB cZ cO h r) sz)) 0 0 (va_A (w_c_X12_hears cI cJ cB cZ cO h r) sz) := by
  refine Met.ofW (cc := cX12_hears) (maxL := 3) (ret := (some .int)) (by decide) rfl ?_
  intro p e s m args below meth c s₁ B hml hv
  obtain ⟨rfl, hsz, hP, hE, hD0⟩ := hv
  have hx := B.exec
  have hb := B.bytes
  have hr := B.returns
  have hts := atoms_spec (ws := wsX12_hears) B.pre
  have hown : s.vm.findClass RX12 = some m.cls := findClass_of_methodNamed B.named
  have hlocks := B.notSynchronized
  have hK := hE.1
  have hi12 : ∀ w ∈ u_ws RX12 TX12 45, w ∈ wsX12_hears := fun w h => List.mem_cons_of_mem _ (List.mem_append_right _ h)
  subst hsz
  have hD := hD0.self (sz := s.heap.size)
  generalize hAe : va_A (w_c_X12_hears cI cJ cB cZ cO h r) s.heap.size = A at hD ⊢
  have hA : ∀ q : Nat, s.heap.size ≤ q → A q := fun q h => by rw [← hAe]; exact Or.inr h
  have hS : va_S A s.heap s.heap [] := va_S.rf
  have hP : va_P D vwCl [mo h r 0 0, ((r 16), .inl (cI, 5, .inl (fun _ => 0)))] s.heap := hP
  have hD : va_D A [mo h r 0 0, ((r 16), .inl (cI, 5, .inl (fun _ => 0)))] := hD
  have hl := lv_entry ([.ref h, .int x1, .int x2]) (n := 3) (Nat.le_of_ble_eq_true rfl)
  rw [lg_entry_eq]
  generalize (lg_sl ([.ref h, .int x1, .int x2]) ++ List.replicate (3 - (lg_sl ([.ref h, .int x1, .int x2])).length) Slot.unset).toArray = ls at hl ⊢
  have hl : lv_has ls 3 [(0, .ref h), (1, .int x1), (2, .int x2)] := hl
  obtain ⟨H, hHe⟩ : ∃ H : Heap, H = s.heap := ⟨_, rfl⟩
  rw [← hHe] at hP
  have hS : va_S A s.heap H [] := by rw [hHe]; exact va_S.rf
  refine ct_start hHe ?_
  refine lv_aload_n hx hb dX12_hears_0 rfl (lv_at hl 0 rfl) ?_
  refine lv_iconst (v := 0) hx hb dX12_hears_1 (by decide) ?_
  refine va_put (D := D) (ci := 12) (v := .int 0) (ty := .int) (C := RX12) (T := TX12) (N := 45) hx hb hts hi12 tyX12 tyX12_ok nmX12 hown hK hP hD hS 0 rfl rfl 0 (by decide) (hts (.fieldLink RX12 80 "OverHillModel" "thrown" "I") (by decide +kernel)) (fun _ h9 => h9) rfl (by decide +kernel) rfl rfl (Nat.le_of_ble_eq_true rfl) dX12_hears_2 (fun H locs hP hD hS => ?_)
  have hP : va_P D vwCl [mo h r 0 0, ((r 16), .inl (cI, 5, .inl (fun _ => 0)))] H := hP
  have hD : va_D A [mo h r 0 0, ((r 16), .inl (cI, 5, .inl (fun _ => 0)))] := hD
  refine lv_aload_n hx hb dX12_hears_5 rfl (lv_at hl 0 rfl) ?_
  refine lv_iload_n hx hb dX12_hears_6 rfl (lv_at hl 1 rfl) ?_
  refine ct_calli (D := D) (wc := (w_c_X12_isSide cI cJ cB cZ cO h r)) (wr := []) (va_runV (As := [.int x1]) (rest := []) ⟨hx, hb, hml, hown, hts⟩ (c_X12_isSide l D cI cJ cB cZ cO h r x1 H.size) (cwV 1 hts gX12_hears_X12_isSide rfl rfl rfl (by decide +kernel) ⟨Nat.le_of_ble_eq_true rfl, Nat.le_of_ble_eq_true rfl⟩) (ct_preV (T := ct_T cI cJ cB cZ cO) (ci := 12) (q0 := 0) hE hP hD [0, 1] (by decide) rfl rfl rfl) rfl rfl hl.1 rfl (lv_room (Nat.le_of_ble_eq_true rfl)) dX12_hears_7 ⟨Nat.le_of_ble_eq_true rfl, Nat.le_of_ble_eq_true rfl⟩) hP hD hS hA [0, 1] [] rfl rfl (by decide) (by decide) (fun rz u H locs hw hP hD hS => ?_)
  have hP : va_P D vwCl [mo h r 0 0, ((r 16), .inl (cI, 5, .inl (fun _ => 0)))] H := hP
  have hD : va_D A [mo h r 0 0, ((r 16), .inl (cI, 5, .inl (fun _ => 0)))] := hD
  obtain ⟨rfl, hq293⟩ := hw
  refine lv_if_eq (tgt := 21) hx hb dX12_hears_10 (by decide) (fun _ => ?_) (fun hc => absurd hc (by decide))
  refine lv_bipush (v := (-2)) hx hb dX12_hears_21 (by decide) ?_
  have hP9 := hP.sub (ws' := []) [] rfl
  have hD9 := hD.sub (ws' := []) [] (by decide) rfl
  exact W.iret (v := (-2)) hx hb hr (fun t ht hW => ⟨⟨(-2), (), rfl, ⟨rfl, trivial⟩, by rw [ht]; exact hP9, hD9⟩, hS.F ht⟩) hS.2.2 dX12_hears_23
abbrev w_c_X12_late (cI cJ cB cZ cO : ClassId) (h : Nat) (r : Nat → Nat) : va_W := [mo h r 0 0, ((r 16), .inl (cI, 5, .inl (fun _ => 0)))]
set_option maxHeartbeats 4000000 in
set_option maxRecDepth 100000 in
/-- late, of the reference, on a new object -/
theorem c_X12_late (l : Launch) (D : va_G) (cI cJ cB cZ cO : ClassId) (h : Nat) (r : Nat → Nat) (x1 : Int32) (x2 : Int32) (sz : Nat) : Met l yX12_late wsX12_late ({ frames := 2, cells := 0, slots := 0, locals := 41 }) (va_Pc [.ref h, .int x1, .int x2] (ct_P D (ct_T cI cJ cB cZ cO) (w_c_X12_late cI cJ cB cZ cO h r) sz)) (va_Qi (fun (rz : Int32) (u : Unit) => (rz = (-2) ∧ True)) (fun (u : Unit) t => ct_Q D (va_A (w_c_X12_late cI cJ cB cZ cO h r) sz) [] t) (va_A (w_c_X12_late cI cJ cB cZ cO h r) sz)) 0 0 (va_A (w_c_X12_late cI cJ cB cZ cO h r) sz) := by
  refine Met.ofW (cc := cX12_late) (maxL := 4) (ret := (some .int)) (by decide) rfl ?_
  intro p e s m args below meth c s₁ B hml hv
  obtain ⟨rfl, hsz, hP, hE, hD0⟩ := hv
  have hx := B.exec
  have hb := B.bytes
  have hr := B.returns
  have hts := atoms_spec (ws := wsX12_late) B.pre
  have hown : s.vm.findClass RX12 = some m.cls := findClass_of_methodNamed B.named
  have hlocks := B.notSynchronized
  have hK := hE.1
  have hi12 : ∀ w ∈ u_ws RX12 TX12 45, w ∈ wsX12_late := fun w h => List.mem_cons_of_mem _ (List.mem_append_right _ h)
  subst hsz
  have hD := hD0.self (sz := s.heap.size)
  generalize hAe : va_A (w_c_X12_late cI cJ cB cZ cO h r) s.heap.size = A at hD ⊢
  have hA : ∀ q : Nat, s.heap.size ≤ q → A q := fun q h => by rw [← hAe]; exact Or.inr h
  have hS : va_S A s.heap s.heap [] := va_S.rf
  have hP : va_P D vwCl [mo h r 0 0, ((r 16), .inl (cI, 5, .inl (fun _ => 0)))] s.heap := hP
  have hD : va_D A [mo h r 0 0, ((r 16), .inl (cI, 5, .inl (fun _ => 0)))] := hD
  have hl := lv_entry ([.ref h, .int x1, .int x2]) (n := 4) (Nat.le_of_ble_eq_true rfl)
  rw [lg_entry_eq]
  generalize (lg_sl ([.ref h, .int x1, .int x2]) ++ List.replicate (4 - (lg_sl ([.ref h, .int x1, .int x2])).length) Slot.unset).toArray = ls at hl ⊢
  have hl : lv_has ls 4 [(0, .ref h), (1, .int x1), (2, .int x2)] := hl
  obtain ⟨H, hHe⟩ : ∃ H : Heap, H = s.heap := ⟨_, rfl⟩
  rw [← hHe] at hP
  have hS : va_S A s.heap H [] := by rw [hHe]; exact va_S.rf
  refine ct_start hHe ?_
  refine lv_aload_n hx hb dX12_late_0 rfl (lv_at hl 0 rfl) ?_
  refine lv_iconst (v := 0) hx hb dX12_late_1 (by decide) ?_
  refine va_put (D := D) (ci := 12) (v := .int 0) (ty := .int) (C := RX12) (T := TX12) (N := 45) hx hb hts hi12 tyX12 tyX12_ok nmX12 hown hK hP hD hS 0 rfl rfl 0 (by decide) (hts (.fieldLink RX12 80 "OverHillModel" "thrown" "I") (by decide +kernel)) (fun _ h9 => h9) rfl (by decide +kernel) rfl rfl (Nat.le_of_ble_eq_true rfl) dX12_late_2 (fun H locs hP hD hS => ?_)
  have hP : va_P D vwCl [mo h r 0 0, ((r 16), .inl (cI, 5, .inl (fun _ => 0)))] H := hP
  have hD : va_D A [mo h r 0 0, ((r 16), .inl (cI, 5, .inl (fun _ => 0)))] := hD
  refine lv_aload_n hx hb dX12_late_5 rfl (lv_at hl 0 rfl) ?_
  refine lv_iload_n hx hb dX12_late_6 rfl (lv_at hl 1 rfl) ?_
  refine ct_calli (D := D) (wc := (w_c_X12_isSide cI cJ cB cZ cO h r)) (wr := []) (va_runV (As := [.int x1]) (rest := []) ⟨hx, hb, hml, hown, hts⟩ (c_X12_isSide l D cI cJ cB cZ cO h r x1 H.size) (cwV 1 hts gX12_late_X12_isSide rfl rfl rfl (by decide +kernel) ⟨Nat.le_of_ble_eq_true rfl, Nat.le_of_ble_eq_true rfl⟩) (ct_preV (T := ct_T cI cJ cB cZ cO) (ci := 12) (q0 := 0) hE hP hD [0, 1] (by decide) rfl rfl rfl) rfl rfl hl.1 rfl (lv_room (Nat.le_of_ble_eq_true rfl)) dX12_late_7 ⟨Nat.le_of_ble_eq_true rfl, Nat.le_of_ble_eq_true rfl⟩) hP hD hS hA [0, 1] [] rfl rfl (by decide) (by decide) (fun rz u H locs hw hP hD hS => ?_)
  have hP : va_P D vwCl [mo h r 0 0, ((r 16), .inl (cI, 5, .inl (fun _ => 0)))] H := hP
  have hD : va_D A [mo h r 0 0, ((r 16), .inl (cI, 5, .inl (fun _ => 0)))] := hD
  obtain ⟨rfl, hq294⟩ := hw
  refine lv_if_eq (tgt := 21) hx hb dX12_late_10 (by decide) (fun _ => ?_) (fun hc => absurd hc (by decide))
  refine lv_bipush (v := (-2)) hx hb dX12_late_21 (by decide) ?_
  have hP9 := hP.sub (ws' := []) [] rfl
  have hD9 := hD.sub (ws' := []) [] (by decide) rfl
  exact W.iret (v := (-2)) hx hb hr (fun t ht hW => ⟨⟨(-2), (), rfl, ⟨rfl, trivial⟩, by rw [ht]; exact hP9, hD9⟩, hS.F ht⟩) hS.2.2 dX12_late_23
abbrev w_c_X12_hole (cI cJ cB cZ cO : ClassId) (h : Nat) (r : Nat → Nat) : va_W := [mo h r 0 0, ((r 16), .inl (cI, 5, .inl (fun _ => 0)))]
set_option maxHeartbeats 4000000 in
set_option maxRecDepth 100000 in
/-- hole, of the reference, on a new object -/
theorem c_X12_hole (l : Launch) (D : va_G) (cI cJ cB cZ cO : ClassId) (h : Nat) (r : Nat → Nat) (x1 : Int32) (x2 : Int32) (sz : Nat) : Met l yX12_hole wsX12_hole ({ frames := 2, cells := 0, slots := 0, locals := 41 }) (va_Pc [.ref h, .int x1, .int x2] (ct_P D (ct_T cI cJ cB cZ cO) (w_c_X12_hole cI cJ cB cZ cO h r) sz)) (va_Qi (fun (rz : Int32) (u : Unit) => (rz = (-2) ∧ True)) (fun (u : Unit) t => ct_Q D (va_A (w_c_X12_hole cI cJ cB cZ cO h r) sz) [] t) (va_A (w_c_X12_hole cI cJ cB cZ cO h r) sz)) 0 0 (va_A (w_c_X12_hole cI cJ cB cZ cO h r) sz) := by
  refine Met.ofW (cc := cX12_hole) (maxL := 3) (ret := (some .int)) (by decide) rfl ?_
  intro p e s m args below meth c s₁ B hml hv
  obtain ⟨rfl, hsz, hP, hE, hD0⟩ := hv
  have hx := B.exec
  have hb := B.bytes
  have hr := B.returns
  have hts := atoms_spec (ws := wsX12_hole) B.pre
  have hown : s.vm.findClass RX12 = some m.cls := findClass_of_methodNamed B.named
  have hlocks := B.notSynchronized
  have hK := hE.1
  have hi12 : ∀ w ∈ u_ws RX12 TX12 45, w ∈ wsX12_hole := fun w h => List.mem_cons_of_mem _ (List.mem_append_right _ h)
  subst hsz
  have hD := hD0.self (sz := s.heap.size)
  generalize hAe : va_A (w_c_X12_hole cI cJ cB cZ cO h r) s.heap.size = A at hD ⊢
  have hA : ∀ q : Nat, s.heap.size ≤ q → A q := fun q h => by rw [← hAe]; exact Or.inr h
  have hS : va_S A s.heap s.heap [] := va_S.rf
  have hP : va_P D vwCl [mo h r 0 0, ((r 16), .inl (cI, 5, .inl (fun _ => 0)))] s.heap := hP
  have hD : va_D A [mo h r 0 0, ((r 16), .inl (cI, 5, .inl (fun _ => 0)))] := hD
  have hl := lv_entry ([.ref h, .int x1, .int x2]) (n := 3) (Nat.le_of_ble_eq_true rfl)
  rw [lg_entry_eq]
  generalize (lg_sl ([.ref h, .int x1, .int x2]) ++ List.replicate (3 - (lg_sl ([.ref h, .int x1, .int x2])).length) Slot.unset).toArray = ls at hl ⊢
  have hl : lv_has ls 3 [(0, .ref h), (1, .int x1), (2, .int x2)] := hl
  obtain ⟨H, hHe⟩ : ∃ H : Heap, H = s.heap := ⟨_, rfl⟩
  rw [← hHe] at hP
  have hS : va_S A s.heap H [] := by rw [hHe]; exact va_S.rf
  refine ct_start hHe ?_
  refine lv_aload_n hx hb dX12_hole_0 rfl (lv_at hl 0 rfl) ?_
  refine lv_iconst (v := 0) hx hb dX12_hole_1 (by decide) ?_
  refine va_put (D := D) (ci := 12) (v := .int 0) (ty := .int) (C := RX12) (T := TX12) (N := 45) hx hb hts hi12 tyX12 tyX12_ok nmX12 hown hK hP hD hS 0 rfl rfl 0 (by decide) (hts (.fieldLink RX12 80 "OverHillModel" "thrown" "I") (by decide +kernel)) (fun _ h9 => h9) rfl (by decide +kernel) rfl rfl (Nat.le_of_ble_eq_true rfl) dX12_hole_2 (fun H locs hP hD hS => ?_)
  have hP : va_P D vwCl [mo h r 0 0, ((r 16), .inl (cI, 5, .inl (fun _ => 0)))] H := hP
  have hD : va_D A [mo h r 0 0, ((r 16), .inl (cI, 5, .inl (fun _ => 0)))] := hD
  refine lv_aload_n hx hb dX12_hole_5 rfl (lv_at hl 0 rfl) ?_
  refine lv_iload_n hx hb dX12_hole_6 rfl (lv_at hl 1 rfl) ?_
  refine ct_calli (D := D) (wc := (w_c_X12_isSide cI cJ cB cZ cO h r)) (wr := []) (va_runV (As := [.int x1]) (rest := []) ⟨hx, hb, hml, hown, hts⟩ (c_X12_isSide l D cI cJ cB cZ cO h r x1 H.size) (cwV 1 hts gX12_hole_X12_isSide rfl rfl rfl (by decide +kernel) ⟨Nat.le_of_ble_eq_true rfl, Nat.le_of_ble_eq_true rfl⟩) (ct_preV (T := ct_T cI cJ cB cZ cO) (ci := 12) (q0 := 0) hE hP hD [0, 1] (by decide) rfl rfl rfl) rfl rfl hl.1 rfl (lv_room (Nat.le_of_ble_eq_true rfl)) dX12_hole_7 ⟨Nat.le_of_ble_eq_true rfl, Nat.le_of_ble_eq_true rfl⟩) hP hD hS hA [0, 1] [] rfl rfl (by decide) (by decide) (fun rz u H locs hw hP hD hS => ?_)
  have hP : va_P D vwCl [mo h r 0 0, ((r 16), .inl (cI, 5, .inl (fun _ => 0)))] H := hP
  have hD : va_D A [mo h r 0 0, ((r 16), .inl (cI, 5, .inl (fun _ => 0)))] := hD
  obtain ⟨rfl, hq295⟩ := hw
  refine lv_if_eq (tgt := 21) hx hb dX12_hole_10 (by decide) (fun _ => ?_) (fun hc => absurd hc (by decide))
  refine lv_bipush (v := (-2)) hx hb dX12_hole_21 (by decide) ?_
  have hP9 := hP.sub (ws' := []) [] rfl
  have hD9 := hD.sub (ws' := []) [] (by decide) rfl
  exact W.iret (v := (-2)) hx hb hr (fun t ht hW => ⟨⟨(-2), (), rfl, ⟨rfl, trivial⟩, by rw [ht]; exact hP9, hD9⟩, hS.F ht⟩) hS.2.2 dX12_hole_23
abbrev w_c_X12_next_ (cI cJ cB cZ cO : ClassId) (h : Nat) (r : Nat → Nat) : va_W := [mo h r 0 0, ((r 16), .inl (cI, 5, .inl (fun _ => 0)))]
set_option maxHeartbeats 4000000 in
set_option maxRecDepth 100000 in
/-- next, of the reference, on a new object -/
theorem c_X12_next_ (l : Launch) (D : va_G) (cI cJ cB cZ cO : ClassId) (h : Nat) (r : Nat → Nat) (x1 : Int32) (x2 : Int32) (sz : Nat) : Met l yX12_next_ wsX12_next_ ({ frames := 2, cells := 0, slots := 0, locals := 41 }) (va_Pc [.ref h, .int x1, .int x2] (ct_P D (ct_T cI cJ cB cZ cO) (w_c_X12_next_ cI cJ cB cZ cO h r) sz)) (va_Qi (fun (rz : Int32) (u : Unit) => (rz = (-2) ∧ True)) (fun (u : Unit) t => ct_Q D (va_A (w_c_X12_next_ cI cJ cB cZ cO h r) sz) [] t) (va_A (w_c_X12_next_ cI cJ cB cZ cO h r) sz)) 0 0 (va_A (w_c_X12_next_ cI cJ cB cZ cO h r) sz) := by
  refine Met.ofW (cc := cX12_next_) (maxL := 4) (ret := (some .int)) (by decide) rfl ?_
  intro p e s m args below meth c s₁ B hml hv
  obtain ⟨rfl, hsz, hP, hE, hD0⟩ := hv
  have hx := B.exec
  have hb := B.bytes
  have hr := B.returns
  have hts := atoms_spec (ws := wsX12_next_) B.pre
  have hown : s.vm.findClass RX12 = some m.cls := findClass_of_methodNamed B.named
  have hlocks := B.notSynchronized
  have hK := hE.1
  have hi12 : ∀ w ∈ u_ws RX12 TX12 45, w ∈ wsX12_next_ := fun w h => List.mem_cons_of_mem _ (List.mem_append_right _ h)
  subst hsz
  have hD := hD0.self (sz := s.heap.size)
  generalize hAe : va_A (w_c_X12_next_ cI cJ cB cZ cO h r) s.heap.size = A at hD ⊢
  have hA : ∀ q : Nat, s.heap.size ≤ q → A q := fun q h => by rw [← hAe]; exact Or.inr h
  have hS : va_S A s.heap s.heap [] := va_S.rf
  have hP : va_P D vwCl [mo h r 0 0, ((r 16), .inl (cI, 5, .inl (fun _ => 0)))] s.heap := hP
  have hD : va_D A [mo h r 0 0, ((r 16), .inl (cI, 5, .inl (fun _ => 0)))] := hD
  have hl := lv_entry ([.ref h, .int x1, .int x2]) (n := 4) (Nat.le_of_ble_eq_true rfl)
  rw [lg_entry_eq]
  generalize (lg_sl ([.ref h, .int x1, .int x2]) ++ List.replicate (4 - (lg_sl ([.ref h, .int x1, .int x2])).length) Slot.unset).toArray = ls at hl ⊢
  have hl : lv_has ls 4 [(0, .ref h), (1, .int x1), (2, .int x2)] := hl
  obtain ⟨H, hHe⟩ : ∃ H : Heap, H = s.heap := ⟨_, rfl⟩
  rw [← hHe] at hP
  have hS : va_S A s.heap H [] := by rw [hHe]; exact va_S.rf
  refine ct_start hHe ?_
  refine lv_aload_n hx hb dX12_next__0 rfl (lv_at hl 0 rfl) ?_
  refine lv_iconst (v := 0) hx hb dX12_next__1 (by decide) ?_
  refine va_put (D := D) (ci := 12) (v := .int 0) (ty := .int) (C := RX12) (T := TX12) (N := 45) hx hb hts hi12 tyX12 tyX12_ok nmX12 hown hK hP hD hS 0 rfl rfl 0 (by decide) (hts (.fieldLink RX12 80 "OverHillModel" "thrown" "I") (by decide +kernel)) (fun _ h9 => h9) rfl (by decide +kernel) rfl rfl (Nat.le_of_ble_eq_true rfl) dX12_next__2 (fun H locs hP hD hS => ?_)
  have hP : va_P D vwCl [mo h r 0 0, ((r 16), .inl (cI, 5, .inl (fun _ => 0)))] H := hP
  have hD : va_D A [mo h r 0 0, ((r 16), .inl (cI, 5, .inl (fun _ => 0)))] := hD
  refine lv_aload_n hx hb dX12_next__5 rfl (lv_at hl 0 rfl) ?_
  refine lv_iload_n hx hb dX12_next__6 rfl (lv_at hl 1 rfl) ?_
  refine ct_calli (D := D) (wc := (w_c_X12_isSide cI cJ cB cZ cO h r)) (wr := []) (va_runV (As := [.int x1]) (rest := []) ⟨hx, hb, hml, hown, hts⟩ (c_X12_isSide l D cI cJ cB cZ cO h r x1 H.size) (cwV 1 hts gX12_next__X12_isSide rfl rfl rfl (by decide +kernel) ⟨Nat.le_of_ble_eq_true rfl, Nat.le_of_ble_eq_true rfl⟩) (ct_preV (T := ct_T cI cJ cB cZ cO) (ci := 12) (q0 := 0) hE hP hD [0, 1] (by decide) rfl rfl rfl) rfl rfl hl.1 rfl (lv_room (Nat.le_of_ble_eq_true rfl)) dX12_next__7 ⟨Nat.le_of_ble_eq_true rfl, Nat.le_of_ble_eq_true rfl⟩) hP hD hS hA [0, 1] [] rfl rfl (by decide) (by decide) (fun rz u H locs hw hP hD hS => ?_)
  have hP : va_P D vwCl [mo h r 0 0, ((r 16), .inl (cI, 5, .inl (fun _ => 0)))] H := hP
  have hD : va_D A [mo h r 0 0, ((r 16), .inl (cI, 5, .inl (fun _ => 0)))] := hD
  obtain ⟨rfl, hq296⟩ := hw
  refine lv_if_eq (tgt := 21) hx hb dX12_next__10 (by decide) (fun _ => ?_) (fun hc => absurd hc (by decide))
  refine lv_bipush (v := (-2)) hx hb dX12_next__21 (by decide) ?_
  have hP9 := hP.sub (ws' := []) [] rfl
  have hD9 := hD.sub (ws' := []) [] (by decide) rfl
  exact W.iret (v := (-2)) hx hb hr (fun t ht hW => ⟨⟨(-2), (), rfl, ⟨rfl, trivial⟩, by rw [ht]; exact hP9, hD9⟩, hS.F ht⟩) hS.2.2 dX12_next__23
abbrev w_c_X12_holes (cI cJ cB cZ cO : ClassId) (h : Nat) (r : Nat → Nat) : va_W := [mo h r 0 0, ((r 16), .inl (cI, 5, .inl (fun _ => 0)))]
set_option maxHeartbeats 4000000 in
set_option maxRecDepth 100000 in
/-- holes, of the reference, on a new object -/
theorem c_X12_holes (l : Launch) (D : va_G) (cI cJ cB cZ cO : ClassId) (h : Nat) (r : Nat → Nat) (x1 : Int32) (x2 : Int32) (x3 : Int32) (sz : Nat) : Met l yX12_holes wsX12_holes ({ frames := 2, cells := 0, slots := 0, locals := 41 }) (va_Pc [.ref h, .int x1, .int x2, .int x3] (ct_P D (ct_T cI cJ cB cZ cO) (w_c_X12_holes cI cJ cB cZ cO h r) sz)) (va_Qi (fun (rz : Int32) (u : Unit) => (rz = (-2) ∧ True)) (fun (u : Unit) t => ct_Q D (va_A (w_c_X12_holes cI cJ cB cZ cO h r) sz) [] t) (va_A (w_c_X12_holes cI cJ cB cZ cO h r) sz)) 0 0 (va_A (w_c_X12_holes cI cJ cB cZ cO h r) sz) := by
  refine Met.ofW (cc := cX12_holes) (maxL := 4) (ret := (some .int)) (by decide) rfl ?_
  intro p e s m args below meth c s₁ B hml hv
  obtain ⟨rfl, hsz, hP, hE, hD0⟩ := hv
  have hx := B.exec
  have hb := B.bytes
  have hr := B.returns
  have hts := atoms_spec (ws := wsX12_holes) B.pre
  have hown : s.vm.findClass RX12 = some m.cls := findClass_of_methodNamed B.named
  have hlocks := B.notSynchronized
  have hK := hE.1
  have hi12 : ∀ w ∈ u_ws RX12 TX12 45, w ∈ wsX12_holes := fun w h => List.mem_cons_of_mem _ (List.mem_append_right _ h)
  subst hsz
  have hD := hD0.self (sz := s.heap.size)
  generalize hAe : va_A (w_c_X12_holes cI cJ cB cZ cO h r) s.heap.size = A at hD ⊢
  have hA : ∀ q : Nat, s.heap.size ≤ q → A q := fun q h => by rw [← hAe]; exact Or.inr h
  have hS : va_S A s.heap s.heap [] := va_S.rf
  have hP : va_P D vwCl [mo h r 0 0, ((r 16), .inl (cI, 5, .inl (fun _ => 0)))] s.heap := hP
  have hD : va_D A [mo h r 0 0, ((r 16), .inl (cI, 5, .inl (fun _ => 0)))] := hD
  have hl := lv_entry ([.ref h, .int x1, .int x2, .int x3]) (n := 4) (Nat.le_of_ble_eq_true rfl)
  rw [lg_entry_eq]
  generalize (lg_sl ([.ref h, .int x1, .int x2, .int x3]) ++ List.replicate (4 - (lg_sl ([.ref h, .int x1, .int x2, .int x3])).length) Slot.unset).toArray = ls at hl ⊢
  have hl : lv_has ls 4 [(0, .ref h), (1, .int x1), (2, .int x2), (3, .int x3)] := hl
  obtain ⟨H, hHe⟩ : ∃ H : Heap, H = s.heap := ⟨_, rfl⟩
  rw [← hHe] at hP
  have hS : va_S A s.heap H [] := by rw [hHe]; exact va_S.rf
  refine ct_start hHe ?_
  refine lv_aload_n hx hb dX12_holes_0 rfl (lv_at hl 0 rfl) ?_
  refine lv_iconst (v := 0) hx hb dX12_holes_1 (by decide) ?_
  refine va_put (D := D) (ci := 12) (v := .int 0) (ty := .int) (C := RX12) (T := TX12) (N := 45) hx hb hts hi12 tyX12 tyX12_ok nmX12 hown hK hP hD hS 0 rfl rfl 0 (by decide) (hts (.fieldLink RX12 80 "OverHillModel" "thrown" "I") (by decide +kernel)) (fun _ h9 => h9) rfl (by decide +kernel) rfl rfl (Nat.le_of_ble_eq_true rfl) dX12_holes_2 (fun H locs hP hD hS => ?_)
  have hP : va_P D vwCl [mo h r 0 0, ((r 16), .inl (cI, 5, .inl (fun _ => 0)))] H := hP
  have hD : va_D A [mo h r 0 0, ((r 16), .inl (cI, 5, .inl (fun _ => 0)))] := hD
  refine lv_aload_n hx hb dX12_holes_5 rfl (lv_at hl 0 rfl) ?_
  refine lv_iload_n hx hb dX12_holes_6 rfl (lv_at hl 1 rfl) ?_
  refine ct_calli (D := D) (wc := (w_c_X12_isSide cI cJ cB cZ cO h r)) (wr := []) (va_runV (As := [.int x1]) (rest := []) ⟨hx, hb, hml, hown, hts⟩ (c_X12_isSide l D cI cJ cB cZ cO h r x1 H.size) (cwV 1 hts gX12_holes_X12_isSide rfl rfl rfl (by decide +kernel) ⟨Nat.le_of_ble_eq_true rfl, Nat.le_of_ble_eq_true rfl⟩) (ct_preV (T := ct_T cI cJ cB cZ cO) (ci := 12) (q0 := 0) hE hP hD [0, 1] (by decide) rfl rfl rfl) rfl rfl hl.1 rfl (lv_room (Nat.le_of_ble_eq_true rfl)) dX12_holes_7 ⟨Nat.le_of_ble_eq_true rfl, Nat.le_of_ble_eq_true rfl⟩) hP hD hS hA [0, 1] [] rfl rfl (by decide) (by decide) (fun rz u H locs hw hP hD hS => ?_)
  have hP : va_P D vwCl [mo h r 0 0, ((r 16), .inl (cI, 5, .inl (fun _ => 0)))] H := hP
  have hD : va_D A [mo h r 0 0, ((r 16), .inl (cI, 5, .inl (fun _ => 0)))] := hD
  obtain ⟨rfl, hq297⟩ := hw
  refine lv_if_eq (tgt := 22) hx hb dX12_holes_10 (by decide) (fun _ => ?_) (fun hc => absurd hc (by decide))
  refine lv_bipush (v := (-2)) hx hb dX12_holes_22 (by decide) ?_
  have hP9 := hP.sub (ws' := []) [] rfl
  have hD9 := hD.sub (ws' := []) [] (by decide) rfl
  exact W.iret (v := (-2)) hx hb hr (fun t ht hW => ⟨⟨(-2), (), rfl, ⟨rfl, trivial⟩, by rw [ht]; exact hP9, hD9⟩, hS.F ht⟩) hS.2.2 dX12_holes_24
abbrev w_c_X12_run (cI cJ cB cZ cO : ClassId) (h : Nat) (r : Nat → Nat) : va_W := [mo h r 0 0, ((r 16), .inl (cI, 5, .inl (fun _ => 0)))]
set_option maxHeartbeats 4000000 in
set_option maxRecDepth 100000 in
/-- run, of the reference, on a new object -/
theorem c_X12_run (l : Launch) (D : va_G) (cI cJ cB cZ cO : ClassId) (h : Nat) (r : Nat → Nat) (x1 : Int32) (x2 : Int32) (sz : Nat) : Met l yX12_run wsX12_run ({ frames := 2, cells := 0, slots := 0, locals := 42 }) (va_Pc [.ref h, .int x1, .int x2] (ct_P D (ct_T cI cJ cB cZ cO) (w_c_X12_run cI cJ cB cZ cO h r) sz)) (va_Qi (fun (rz : Int32) (u : Unit) => (rz = (-2) ∧ True)) (fun (u : Unit) t => ct_Q D (va_A (w_c_X12_run cI cJ cB cZ cO h r) sz) [] t) (va_A (w_c_X12_run cI cJ cB cZ cO h r) sz)) 0 0 (va_A (w_c_X12_run cI cJ cB cZ cO h r) sz) := by
  refine Met.ofW (cc := cX12_run) (maxL := 3) (ret := (some .int)) (by decide) rfl ?_
  intro p e s m args below meth c s₁ B hml hv
  obtain ⟨rfl, hsz, hP, hE, hD0⟩ := hv
  have hx := B.exec
  have hb := B.bytes
  have hr := B.returns
  have hts := atoms_spec (ws := wsX12_run) B.pre
  have hown : s.vm.findClass RX12 = some m.cls := findClass_of_methodNamed B.named
  have hlocks := B.notSynchronized
  have hK := hE.1
  have hi12 : ∀ w ∈ u_ws RX12 TX12 45, w ∈ wsX12_run := fun w h => List.mem_cons_of_mem _ (List.mem_append_right _ h)
  subst hsz
  have hD := hD0.self (sz := s.heap.size)
  generalize hAe : va_A (w_c_X12_run cI cJ cB cZ cO h r) s.heap.size = A at hD ⊢
  have hA : ∀ q : Nat, s.heap.size ≤ q → A q := fun q h => by rw [← hAe]; exact Or.inr h
  have hS : va_S A s.heap s.heap [] := va_S.rf
  have hP : va_P D vwCl [mo h r 0 0, ((r 16), .inl (cI, 5, .inl (fun _ => 0)))] s.heap := hP
  have hD : va_D A [mo h r 0 0, ((r 16), .inl (cI, 5, .inl (fun _ => 0)))] := hD
  have hl := lv_entry ([.ref h, .int x1, .int x2]) (n := 3) (Nat.le_of_ble_eq_true rfl)
  rw [lg_entry_eq]
  generalize (lg_sl ([.ref h, .int x1, .int x2]) ++ List.replicate (3 - (lg_sl ([.ref h, .int x1, .int x2])).length) Slot.unset).toArray = ls at hl ⊢
  have hl : lv_has ls 3 [(0, .ref h), (1, .int x1), (2, .int x2)] := hl
  obtain ⟨H, hHe⟩ : ∃ H : Heap, H = s.heap := ⟨_, rfl⟩
  rw [← hHe] at hP
  have hS : va_S A s.heap H [] := by rw [hHe]; exact va_S.rf
  refine ct_start hHe ?_
  refine lv_aload_n hx hb dX12_run_0 rfl (lv_at hl 0 rfl) ?_
  refine lv_iconst (v := 0) hx hb dX12_run_1 (by decide) ?_
  refine va_put (D := D) (ci := 12) (v := .int 0) (ty := .int) (C := RX12) (T := TX12) (N := 45) hx hb hts hi12 tyX12 tyX12_ok nmX12 hown hK hP hD hS 0 rfl rfl 0 (by decide) (hts (.fieldLink RX12 80 "OverHillModel" "thrown" "I") (by decide +kernel)) (fun _ h9 => h9) rfl (by decide +kernel) rfl rfl (Nat.le_of_ble_eq_true rfl) dX12_run_2 (fun H locs hP hD hS => ?_)
  have hP : va_P D vwCl [mo h r 0 0, ((r 16), .inl (cI, 5, .inl (fun _ => 0)))] H := hP
  have hD : va_D A [mo h r 0 0, ((r 16), .inl (cI, 5, .inl (fun _ => 0)))] := hD
  refine lv_aload_n hx hb dX12_run_5 rfl (lv_at hl 0 rfl) ?_
  refine lv_iload_n hx hb dX12_run_6 rfl (lv_at hl 1 rfl) ?_
  refine lv_iload_n hx hb dX12_run_7 rfl (lv_at hl 2 rfl) ?_
  refine ct_calli (D := D) (wc := (w_c_X12_isSpan cI cJ cB cZ cO h r)) (wr := []) (va_runV (As := [.int x1, .int x2]) (rest := []) ⟨hx, hb, hml, hown, hts⟩ (c_X12_isSpan l D cI cJ cB cZ cO h r x1 x2 H.size) (cwV 2 hts gX12_run_X12_isSpan rfl rfl rfl (by decide +kernel) ⟨Nat.le_of_ble_eq_true rfl, Nat.le_of_ble_eq_true rfl⟩) (ct_preV (T := ct_T cI cJ cB cZ cO) (ci := 12) (q0 := 0) hE hP hD [0, 1] (by decide) rfl rfl rfl) rfl rfl hl.1 rfl (lv_room (Nat.le_of_ble_eq_true rfl)) dX12_run_8 ⟨Nat.le_of_ble_eq_true rfl, Nat.le_of_ble_eq_true rfl⟩) hP hD hS hA [0, 1] [] rfl rfl (by decide) (by decide) (fun rz u H locs hw hP hD hS => ?_)
  have hP : va_P D vwCl [mo h r 0 0, ((r 16), .inl (cI, 5, .inl (fun _ => 0)))] H := hP
  have hD : va_D A [mo h r 0 0, ((r 16), .inl (cI, 5, .inl (fun _ => 0)))] := hD
  obtain ⟨rfl, hq298⟩ := hw
  refine lv_if_ne (tgt := 17) hx hb dX12_run_11 (by decide) (fun hc => absurd hc (by decide)) (fun _ => ?_)
  refine lv_bipush (v := (-2)) hx hb dX12_run_14 (by decide) ?_
  have hP9 := hP.sub (ws' := []) [] rfl
  have hD9 := hD.sub (ws' := []) [] (by decide) rfl
  exact W.iret (v := (-2)) hx hb hr (fun t ht hW => ⟨⟨(-2), (), rfl, ⟨rfl, trivial⟩, by rw [ht]; exact hP9, hD9⟩, hS.F ht⟩) hS.2.2 dX12_run_16
abbrev w_c_X12_begins_ (cI cJ cB cZ cO : ClassId) (h : Nat) (r : Nat → Nat) : va_W := [mo h r 0 0, ((r 16), .inl (cI, 5, .inl (fun _ => 0)))]
set_option maxHeartbeats 4000000 in
set_option maxRecDepth 100000 in
/-- begins, of the reference, on a new object -/
theorem c_X12_begins_ (l : Launch) (D : va_G) (cI cJ cB cZ cO : ClassId) (h : Nat) (r : Nat → Nat) (x1 : Int32) (x2 : Int32) (sz : Nat) : Met l yX12_begins_ wsX12_begins_ ({ frames := 2, cells := 0, slots := 0, locals := 42 }) (va_Pc [.ref h, .int x1, .int x2] (ct_P D (ct_T cI cJ cB cZ cO) (w_c_X12_begins_ cI cJ cB cZ cO h r) sz)) (va_Qi (fun (rz : Int32) (u : Unit) => (rz = (-2) ∧ True)) (fun (u : Unit) t => ct_Q D (va_A (w_c_X12_begins_ cI cJ cB cZ cO h r) sz) [] t) (va_A (w_c_X12_begins_ cI cJ cB cZ cO h r) sz)) 0 0 (va_A (w_c_X12_begins_ cI cJ cB cZ cO h r) sz) := by
  refine Met.ofW (cc := cX12_begins_) (maxL := 3) (ret := (some .int)) (by decide) rfl ?_
  intro p e s m args below meth c s₁ B hml hv
  obtain ⟨rfl, hsz, hP, hE, hD0⟩ := hv
  have hx := B.exec
  have hb := B.bytes
  have hr := B.returns
  have hts := atoms_spec (ws := wsX12_begins_) B.pre
  have hown : s.vm.findClass RX12 = some m.cls := findClass_of_methodNamed B.named
  have hlocks := B.notSynchronized
  have hK := hE.1
  have hi12 : ∀ w ∈ u_ws RX12 TX12 45, w ∈ wsX12_begins_ := fun w h => List.mem_cons_of_mem _ (List.mem_append_right _ h)
  subst hsz
  have hD := hD0.self (sz := s.heap.size)
  generalize hAe : va_A (w_c_X12_begins_ cI cJ cB cZ cO h r) s.heap.size = A at hD ⊢
  have hA : ∀ q : Nat, s.heap.size ≤ q → A q := fun q h => by rw [← hAe]; exact Or.inr h
  have hS : va_S A s.heap s.heap [] := va_S.rf
  have hP : va_P D vwCl [mo h r 0 0, ((r 16), .inl (cI, 5, .inl (fun _ => 0)))] s.heap := hP
  have hD : va_D A [mo h r 0 0, ((r 16), .inl (cI, 5, .inl (fun _ => 0)))] := hD
  have hl := lv_entry ([.ref h, .int x1, .int x2]) (n := 3) (Nat.le_of_ble_eq_true rfl)
  rw [lg_entry_eq]
  generalize (lg_sl ([.ref h, .int x1, .int x2]) ++ List.replicate (3 - (lg_sl ([.ref h, .int x1, .int x2])).length) Slot.unset).toArray = ls at hl ⊢
  have hl : lv_has ls 3 [(0, .ref h), (1, .int x1), (2, .int x2)] := hl
  obtain ⟨H, hHe⟩ : ∃ H : Heap, H = s.heap := ⟨_, rfl⟩
  rw [← hHe] at hP
  have hS : va_S A s.heap H [] := by rw [hHe]; exact va_S.rf
  refine ct_start hHe ?_
  refine lv_aload_n hx hb dX12_begins__0 rfl (lv_at hl 0 rfl) ?_
  refine lv_iconst (v := 0) hx hb dX12_begins__1 (by decide) ?_
  refine va_put (D := D) (ci := 12) (v := .int 0) (ty := .int) (C := RX12) (T := TX12) (N := 45) hx hb hts hi12 tyX12 tyX12_ok nmX12 hown hK hP hD hS 0 rfl rfl 0 (by decide) (hts (.fieldLink RX12 80 "OverHillModel" "thrown" "I") (by decide +kernel)) (fun _ h9 => h9) rfl (by decide +kernel) rfl rfl (Nat.le_of_ble_eq_true rfl) dX12_begins__2 (fun H locs hP hD hS => ?_)
  have hP : va_P D vwCl [mo h r 0 0, ((r 16), .inl (cI, 5, .inl (fun _ => 0)))] H := hP
  have hD : va_D A [mo h r 0 0, ((r 16), .inl (cI, 5, .inl (fun _ => 0)))] := hD
  refine lv_aload_n hx hb dX12_begins__5 rfl (lv_at hl 0 rfl) ?_
  refine lv_iload_n hx hb dX12_begins__6 rfl (lv_at hl 1 rfl) ?_
  refine lv_iload_n hx hb dX12_begins__7 rfl (lv_at hl 2 rfl) ?_
  refine ct_calli (D := D) (wc := (w_c_X12_isSpan cI cJ cB cZ cO h r)) (wr := []) (va_runV (As := [.int x1, .int x2]) (rest := []) ⟨hx, hb, hml, hown, hts⟩ (c_X12_isSpan l D cI cJ cB cZ cO h r x1 x2 H.size) (cwV 2 hts gX12_begins__X12_isSpan rfl rfl rfl (by decide +kernel) ⟨Nat.le_of_ble_eq_true rfl, Nat.le_of_ble_eq_true rfl⟩) (ct_preV (T := ct_T cI cJ cB cZ cO) (ci := 12) (q0 := 0) hE hP hD [0, 1] (by decide) rfl rfl rfl) rfl rfl hl.1 rfl (lv_room (Nat.le_of_ble_eq_true rfl)) dX12_begins__8 ⟨Nat.le_of_ble_eq_true rfl, Nat.le_of_ble_eq_true rfl⟩) hP hD hS hA [0, 1] [] rfl rfl (by decide) (by decide) (fun rz u H locs hw hP hD hS => ?_)
  have hP : va_P D vwCl [mo h r 0 0, ((r 16), .inl (cI, 5, .inl (fun _ => 0)))] H := hP
  have hD : va_D A [mo h r 0 0, ((r 16), .inl (cI, 5, .inl (fun _ => 0)))] := hD
  obtain ⟨rfl, hq299⟩ := hw
  refine lv_if_ne (tgt := 17) hx hb dX12_begins__11 (by decide) (fun hc => absurd hc (by decide)) (fun _ => ?_)
  refine lv_bipush (v := (-2)) hx hb dX12_begins__14 (by decide) ?_
  have hP9 := hP.sub (ws' := []) [] rfl
  have hD9 := hD.sub (ws' := []) [] (by decide) rfl
  exact W.iret (v := (-2)) hx hb hr (fun t ht hW => ⟨⟨(-2), (), rfl, ⟨rfl, trivial⟩, by rw [ht]; exact hP9, hD9⟩, hS.F ht⟩) hS.2.2 dX12_begins__16
abbrev w_c_X12_causes (cI cJ cB cZ cO : ClassId) (h : Nat) (r : Nat → Nat) : va_W := [mo h r 0 0, ((r 16), .inl (cI, 5, .inl (fun _ => 0)))]
set_option maxHeartbeats 4000000 in
set_option maxRecDepth 100000 in
/-- causes, of the reference, on a new object -/
theorem c_X12_causes (l : Launch) (D : va_G) (cI cJ cB cZ cO : ClassId) (h : Nat) (r : Nat → Nat) (x1 : Int32) (x2 : Int32) (sz : Nat) : Met l yX12_causes wsX12_causes ({ frames := 2, cells := 0, slots := 0, locals := 41 }) (va_Pc [.ref h, .int x1, .int x2] (ct_P D (ct_T cI cJ cB cZ cO) (w_c_X12_causes cI cJ cB cZ cO h r) sz)) (va_Qi (fun (rz : Int32) (u : Unit) => (rz = (-2) ∧ True)) (fun (u : Unit) t => ct_Q D (va_A (w_c_X12_causes cI cJ cB cZ cO h r) sz) [] t) (va_A (w_c_X12_causes cI cJ cB cZ cO h r) sz)) 0 0 (va_A (w_c_X12_causes cI cJ cB cZ cO h r) sz) := by
  refine Met.ofW (cc := cX12_causes) (maxL := 5) (ret := (some .int)) (by decide) rfl ?_
  intro p e s m args below meth c s₁ B hml hv
  obtain ⟨rfl, hsz, hP, hE, hD0⟩ := hv
  have hx := B.exec
  have hb := B.bytes
  have hr := B.returns
  have hts := atoms_spec (ws := wsX12_causes) B.pre
  have hown : s.vm.findClass RX12 = some m.cls := findClass_of_methodNamed B.named
  have hlocks := B.notSynchronized
  have hK := hE.1
  have hi12 : ∀ w ∈ u_ws RX12 TX12 45, w ∈ wsX12_causes := fun w h => List.mem_cons_of_mem _ (List.mem_append_right _ h)
  subst hsz
  have hD := hD0.self (sz := s.heap.size)
  generalize hAe : va_A (w_c_X12_causes cI cJ cB cZ cO h r) s.heap.size = A at hD ⊢
  have hA : ∀ q : Nat, s.heap.size ≤ q → A q := fun q h => by rw [← hAe]; exact Or.inr h
  have hS : va_S A s.heap s.heap [] := va_S.rf
  have hP : va_P D vwCl [mo h r 0 0, ((r 16), .inl (cI, 5, .inl (fun _ => 0)))] s.heap := hP
  have hD : va_D A [mo h r 0 0, ((r 16), .inl (cI, 5, .inl (fun _ => 0)))] := hD
  have hl := lv_entry ([.ref h, .int x1, .int x2]) (n := 5) (Nat.le_of_ble_eq_true rfl)
  rw [lg_entry_eq]
  generalize (lg_sl ([.ref h, .int x1, .int x2]) ++ List.replicate (5 - (lg_sl ([.ref h, .int x1, .int x2])).length) Slot.unset).toArray = ls at hl ⊢
  have hl : lv_has ls 5 [(0, .ref h), (1, .int x1), (2, .int x2)] := hl
  obtain ⟨H, hHe⟩ : ∃ H : Heap, H = s.heap := ⟨_, rfl⟩
  rw [← hHe] at hP
  have hS : va_S A s.heap H [] := by rw [hHe]; exact va_S.rf
  refine ct_start hHe ?_
  refine lv_aload_n hx hb dX12_causes_0 rfl (lv_at hl 0 rfl) ?_
  refine lv_iconst (v := 0) hx hb dX12_causes_1 (by decide) ?_
  refine va_put (D := D) (ci := 12) (v := .int 0) (ty := .int) (C := RX12) (T := TX12) (N := 45) hx hb hts hi12 tyX12 tyX12_ok nmX12 hown hK hP hD hS 0 rfl rfl 0 (by decide) (hts (.fieldLink RX12 80 "OverHillModel" "thrown" "I") (by decide +kernel)) (fun _ h9 => h9) rfl (by decide +kernel) rfl rfl (Nat.le_of_ble_eq_true rfl) dX12_causes_2 (fun H locs hP hD hS => ?_)
  have hP : va_P D vwCl [mo h r 0 0, ((r 16), .inl (cI, 5, .inl (fun _ => 0)))] H := hP
  have hD : va_D A [mo h r 0 0, ((r 16), .inl (cI, 5, .inl (fun _ => 0)))] := hD
  refine lv_aload_n hx hb dX12_causes_5 rfl (lv_at hl 0 rfl) ?_
  refine lv_iload_n hx hb dX12_causes_6 rfl (lv_at hl 1 rfl) ?_
  refine ct_calli (D := D) (wc := (w_c_X12_isSide cI cJ cB cZ cO h r)) (wr := []) (va_runV (As := [.int x1]) (rest := []) ⟨hx, hb, hml, hown, hts⟩ (c_X12_isSide l D cI cJ cB cZ cO h r x1 H.size) (cwV 1 hts gX12_causes_X12_isSide rfl rfl rfl (by decide +kernel) ⟨Nat.le_of_ble_eq_true rfl, Nat.le_of_ble_eq_true rfl⟩) (ct_preV (T := ct_T cI cJ cB cZ cO) (ci := 12) (q0 := 0) hE hP hD [0, 1] (by decide) rfl rfl rfl) rfl rfl hl.1 rfl (lv_room (Nat.le_of_ble_eq_true rfl)) dX12_causes_7 ⟨Nat.le_of_ble_eq_true rfl, Nat.le_of_ble_eq_true rfl⟩) hP hD hS hA [0, 1] [] rfl rfl (by decide) (by decide) (fun rz u H locs hw hP hD hS => ?_)
  have hP : va_P D vwCl [mo h r 0 0, ((r 16), .inl (cI, 5, .inl (fun _ => 0)))] H := hP
  have hD : va_D A [mo h r 0 0, ((r 16), .inl (cI, 5, .inl (fun _ => 0)))] := hD
  obtain ⟨rfl, hq300⟩ := hw
  refine lv_if_eq (tgt := 21) hx hb dX12_causes_10 (by decide) (fun _ => ?_) (fun hc => absurd hc (by decide))
  refine lv_bipush (v := (-2)) hx hb dX12_causes_21 (by decide) ?_
  have hP9 := hP.sub (ws' := []) [] rfl
  have hD9 := hD.sub (ws' := []) [] (by decide) rfl
  exact W.iret (v := (-2)) hx hb hr (fun t ht hW => ⟨⟨(-2), (), rfl, ⟨rfl, trivial⟩, by rw [ht]; exact hP9, hD9⟩, hS.F ht⟩) hS.2.2 dX12_causes_23
abbrev w_c_X12_period (cI cJ cB cZ cO : ClassId) (h : Nat) (r : Nat → Nat) : va_W := [mo h r 0 0, ((r 16), .inl (cI, 5, .inl (fun _ => 0)))]
set_option maxHeartbeats 4000000 in
set_option maxRecDepth 100000 in
/-- period, of the reference, on a new object -/
theorem c_X12_period (l : Launch) (D : va_G) (cI cJ cB cZ cO : ClassId) (h : Nat) (r : Nat → Nat) (sz : Nat) : Met l yX12_period wsX12_period ({ frames := 1, cells := 0, slots := 0, locals := 20 }) (va_Pc [.ref h] (ct_P D (ct_T cI cJ cB cZ cO) (w_c_X12_period cI cJ cB cZ cO h r) sz)) (va_Qi (fun (rz : Int32) (u : Unit) => (rz = (-2) ∧ True)) (fun (u : Unit) t => ct_Q D (va_A (w_c_X12_period cI cJ cB cZ cO h r) sz) [] t) (va_A (w_c_X12_period cI cJ cB cZ cO h r) sz)) 0 0 (va_A (w_c_X12_period cI cJ cB cZ cO h r) sz) := by
  refine Met.ofW (cc := cX12_period) (maxL := 1) (ret := (some .int)) (by decide) rfl ?_
  intro p e s m args below meth c s₁ B hml hv
  obtain ⟨rfl, hsz, hP, hE, hD0⟩ := hv
  have hx := B.exec
  have hb := B.bytes
  have hr := B.returns
  have hts := atoms_spec (ws := wsX12_period) B.pre
  have hown : s.vm.findClass RX12 = some m.cls := findClass_of_methodNamed B.named
  have hlocks := B.notSynchronized
  have hK := hE.1
  have hi12 : ∀ w ∈ u_ws RX12 TX12 45, w ∈ wsX12_period := fun w h => List.mem_cons_of_mem _ (List.mem_append_right _ h)
  subst hsz
  have hD := hD0.self (sz := s.heap.size)
  generalize hAe : va_A (w_c_X12_period cI cJ cB cZ cO h r) s.heap.size = A at hD ⊢
  have hA : ∀ q : Nat, s.heap.size ≤ q → A q := fun q h => by rw [← hAe]; exact Or.inr h
  have hS : va_S A s.heap s.heap [] := va_S.rf
  have hP : va_P D vwCl [mo h r 0 0, ((r 16), .inl (cI, 5, .inl (fun _ => 0)))] s.heap := hP
  have hD : va_D A [mo h r 0 0, ((r 16), .inl (cI, 5, .inl (fun _ => 0)))] := hD
  have hl := lv_entry ([.ref h]) (n := 1) (Nat.le_of_ble_eq_true rfl)
  rw [lg_entry_eq]
  generalize (lg_sl ([.ref h]) ++ List.replicate (1 - (lg_sl ([.ref h])).length) Slot.unset).toArray = ls at hl ⊢
  have hl : lv_has ls 1 [(0, .ref h)] := hl
  obtain ⟨H, hHe⟩ : ∃ H : Heap, H = s.heap := ⟨_, rfl⟩
  rw [← hHe] at hP
  have hS : va_S A s.heap H [] := by rw [hHe]; exact va_S.rf
  refine ct_start hHe ?_
  refine lv_aload_n hx hb dX12_period_0 rfl (lv_at hl 0 rfl) ?_
  refine lv_iconst (v := 0) hx hb dX12_period_1 (by decide) ?_
  refine va_put (D := D) (ci := 12) (v := .int 0) (ty := .int) (C := RX12) (T := TX12) (N := 45) hx hb hts hi12 tyX12 tyX12_ok nmX12 hown hK hP hD hS 0 rfl rfl 0 (by decide) (hts (.fieldLink RX12 80 "OverHillModel" "thrown" "I") (by decide +kernel)) (fun _ h9 => h9) rfl (by decide +kernel) rfl rfl (Nat.le_of_ble_eq_true rfl) dX12_period_2 (fun H locs hP hD hS => ?_)
  have hP : va_P D vwCl [mo h r 0 0, ((r 16), .inl (cI, 5, .inl (fun _ => 0)))] H := hP
  have hD : va_D A [mo h r 0 0, ((r 16), .inl (cI, 5, .inl (fun _ => 0)))] := hD
  refine lv_aload_n hx hb dX12_period_5 rfl (lv_at hl 0 rfl) ?_
  refine ct_calli (D := D) (wc := (w_c_X12_isDance cI cJ cB cZ cO h r)) (wr := []) (va_runV (As := []) (rest := []) ⟨hx, hb, hml, hown, hts⟩ (c_X12_isDance l D cI cJ cB cZ cO h r H.size) (cwV 0 hts gX12_period_X12_isDance rfl rfl rfl (by decide +kernel) ⟨Nat.le_of_ble_eq_true rfl, Nat.le_of_ble_eq_true rfl⟩) (ct_preV (T := ct_T cI cJ cB cZ cO) (ci := 12) (q0 := 0) hE hP hD [0, 1] (by decide) rfl rfl rfl) rfl rfl hl.1 rfl (lv_room (Nat.le_of_ble_eq_true rfl)) dX12_period_6 ⟨Nat.le_of_ble_eq_true rfl, Nat.le_of_ble_eq_true rfl⟩) hP hD hS hA [0, 1] [] rfl rfl (by decide) (by decide) (fun rz u H locs hw hP hD hS => ?_)
  have hP : va_P D vwCl [mo h r 0 0, ((r 16), .inl (cI, 5, .inl (fun _ => 0)))] H := hP
  have hD : va_D A [mo h r 0 0, ((r 16), .inl (cI, 5, .inl (fun _ => 0)))] := hD
  obtain ⟨rfl, hq301⟩ := hw
  refine lv_if_ne (tgt := 17) hx hb dX12_period_9 (by decide) (fun hc => absurd hc (by decide)) (fun _ => ?_)
  refine lv_bipush (v := (-2)) hx hb dX12_period_12 (by decide) ?_
  refine lv_goto (tgt := 32) hx hb dX12_period_14 (by decide) ?_
  have hP9 := hP.sub (ws' := []) [] rfl
  have hD9 := hD.sub (ws' := []) [] (by decide) rfl
  exact W.iret (v := (-2)) hx hb hr (fun t ht hW => ⟨⟨(-2), (), rfl, ⟨rfl, trivial⟩, by rw [ht]; exact hP9, hD9⟩, hS.F ht⟩) hS.2.2 dX12_period_32
abbrev w_c_X12_meets (cI cJ cB cZ cO : ClassId) (h : Nat) (r : Nat → Nat) : va_W := [mo h r 0 0, ((r 16), .inl (cI, 5, .inl (fun _ => 0)))]
set_option maxHeartbeats 4000000 in
set_option maxRecDepth 100000 in
/-- meets, of the reference, on a new object -/
theorem c_X12_meets (l : Launch) (D : va_G) (cI cJ cB cZ cO : ClassId) (h : Nat) (r : Nat → Nat) (x1 : Int32) (x2 : Int32) (x3 : Int32) (sz : Nat) : Met l yX12_meets wsX12_meets ({ frames := 1, cells := 0, slots := 0, locals := 20 }) (va_Pc [.ref h, .int x1, .int x2, .int x3] (ct_P D (ct_T cI cJ cB cZ cO) (w_c_X12_meets cI cJ cB cZ cO h r) sz)) (va_Qi (fun (rz : Int32) (u : Unit) => (rz = (-2) ∧ True)) (fun (u : Unit) t => ct_Q D (va_A (w_c_X12_meets cI cJ cB cZ cO h r) sz) [] t) (va_A (w_c_X12_meets cI cJ cB cZ cO h r) sz)) 0 0 (va_A (w_c_X12_meets cI cJ cB cZ cO h r) sz) := by
  refine Met.ofW (cc := cX12_meets) (maxL := 5) (ret := (some .int)) (by decide) rfl ?_
  intro p e s m args below meth c s₁ B hml hv
  obtain ⟨rfl, hsz, hP, hE, hD0⟩ := hv
  have hx := B.exec
  have hb := B.bytes
  have hr := B.returns
  have hts := atoms_spec (ws := wsX12_meets) B.pre
  have hown : s.vm.findClass RX12 = some m.cls := findClass_of_methodNamed B.named
  have hlocks := B.notSynchronized
  have hK := hE.1
  have hi12 : ∀ w ∈ u_ws RX12 TX12 45, w ∈ wsX12_meets := fun w h => List.mem_cons_of_mem _ (List.mem_append_right _ h)
  subst hsz
  have hD := hD0.self (sz := s.heap.size)
  generalize hAe : va_A (w_c_X12_meets cI cJ cB cZ cO h r) s.heap.size = A at hD ⊢
  have hA : ∀ q : Nat, s.heap.size ≤ q → A q := fun q h => by rw [← hAe]; exact Or.inr h
  have hS : va_S A s.heap s.heap [] := va_S.rf
  have hP : va_P D vwCl [mo h r 0 0, ((r 16), .inl (cI, 5, .inl (fun _ => 0)))] s.heap := hP
  have hD : va_D A [mo h r 0 0, ((r 16), .inl (cI, 5, .inl (fun _ => 0)))] := hD
  have hl := lv_entry ([.ref h, .int x1, .int x2, .int x3]) (n := 5) (Nat.le_of_ble_eq_true rfl)
  rw [lg_entry_eq]
  generalize (lg_sl ([.ref h, .int x1, .int x2, .int x3]) ++ List.replicate (5 - (lg_sl ([.ref h, .int x1, .int x2, .int x3])).length) Slot.unset).toArray = ls at hl ⊢
  have hl : lv_has ls 5 [(0, .ref h), (1, .int x1), (2, .int x2), (3, .int x3)] := hl
  obtain ⟨H, hHe⟩ : ∃ H : Heap, H = s.heap := ⟨_, rfl⟩
  rw [← hHe] at hP
  have hS : va_S A s.heap H [] := by rw [hHe]; exact va_S.rf
  refine ct_start hHe ?_
  refine lv_aload_n hx hb dX12_meets_0 rfl (lv_at hl 0 rfl) ?_
  refine lv_iconst (v := 0) hx hb dX12_meets_1 (by decide) ?_
  refine va_put (D := D) (ci := 12) (v := .int 0) (ty := .int) (C := RX12) (T := TX12) (N := 45) hx hb hts hi12 tyX12 tyX12_ok nmX12 hown hK hP hD hS 0 rfl rfl 0 (by decide) (hts (.fieldLink RX12 80 "OverHillModel" "thrown" "I") (by decide +kernel)) (fun _ h9 => h9) rfl (by decide +kernel) rfl rfl (Nat.le_of_ble_eq_true rfl) dX12_meets_2 (fun H locs hP hD hS => ?_)
  have hP : va_P D vwCl [mo h r 0 0, ((r 16), .inl (cI, 5, .inl (fun _ => 0)))] H := hP
  have hD : va_D A [mo h r 0 0, ((r 16), .inl (cI, 5, .inl (fun _ => 0)))] := hD
  refine lv_aload_n hx hb dX12_meets_5 rfl (lv_at hl 0 rfl) ?_
  refine ct_calli (D := D) (wc := (w_c_X12_isDance cI cJ cB cZ cO h r)) (wr := []) (va_runV (As := []) (rest := []) ⟨hx, hb, hml, hown, hts⟩ (c_X12_isDance l D cI cJ cB cZ cO h r H.size) (cwV 0 hts gX12_meets_X12_isDance rfl rfl rfl (by decide +kernel) ⟨Nat.le_of_ble_eq_true rfl, Nat.le_of_ble_eq_true rfl⟩) (ct_preV (T := ct_T cI cJ cB cZ cO) (ci := 12) (q0 := 0) hE hP hD [0, 1] (by decide) rfl rfl rfl) rfl rfl hl.1 rfl (lv_room (Nat.le_of_ble_eq_true rfl)) dX12_meets_6 ⟨Nat.le_of_ble_eq_true rfl, Nat.le_of_ble_eq_true rfl⟩) hP hD hS hA [0, 1] [] rfl rfl (by decide) (by decide) (fun rz u H locs hw hP hD hS => ?_)
  have hP : va_P D vwCl [mo h r 0 0, ((r 16), .inl (cI, 5, .inl (fun _ => 0)))] H := hP
  have hD : va_D A [mo h r 0 0, ((r 16), .inl (cI, 5, .inl (fun _ => 0)))] := hD
  obtain ⟨rfl, hq302⟩ := hw
  refine lv_if_eq (tgt := 54) hx hb dX12_meets_9 (by decide) (fun _ => ?_) (fun hc => absurd hc (by decide))
  refine lv_bipush (v := (-2)) hx hb dX12_meets_54 (by decide) ?_
  have hP9 := hP.sub (ws' := []) [] rfl
  have hD9 := hD.sub (ws' := []) [] (by decide) rfl
  exact W.iret (v := (-2)) hx hb hr (fun t ht hW => ⟨⟨(-2), (), rfl, ⟨rfl, trivial⟩, by rw [ht]; exact hP9, hD9⟩, hS.F ht⟩) hS.2.2 dX12_meets_56
abbrev w_c_X12_shifted (cI cJ cB cZ cO : ClassId) (h : Nat) (r : Nat → Nat) : va_W := [mo h r 0 0, ((r 16), .inl (cI, 5, .inl (fun _ => 0)))]
set_option maxHeartbeats 4000000 in
set_option maxRecDepth 100000 in
/-- shifted, of the reference, on a new object -/
theorem c_X12_shifted (l : Launch) (D : va_G) (cI cJ cB cZ cO : ClassId) (h : Nat) (r : Nat → Nat) (x1 : Int32) (sz : Nat) : Met l yX12_shifted wsX12_shifted ({ frames := 1, cells := 0, slots := 0, locals := 20 }) (va_Pc [.ref h, .int x1] (ct_P D (ct_T cI cJ cB cZ cO) (w_c_X12_shifted cI cJ cB cZ cO h r) sz)) (va_Qi (fun (rz : Int32) (u : Unit) => (rz = (-2) ∧ True)) (fun (u : Unit) t => ct_Q D (va_A (w_c_X12_shifted cI cJ cB cZ cO h r) sz) [] t) (va_A (w_c_X12_shifted cI cJ cB cZ cO h r) sz)) 0 0 (va_A (w_c_X12_shifted cI cJ cB cZ cO h r) sz) := by
  refine Met.ofW (cc := cX12_shifted) (maxL := 2) (ret := (some .int)) (by decide) rfl ?_
  intro p e s m args below meth c s₁ B hml hv
  obtain ⟨rfl, hsz, hP, hE, hD0⟩ := hv
  have hx := B.exec
  have hb := B.bytes
  have hr := B.returns
  have hts := atoms_spec (ws := wsX12_shifted) B.pre
  have hown : s.vm.findClass RX12 = some m.cls := findClass_of_methodNamed B.named
  have hlocks := B.notSynchronized
  have hK := hE.1
  have hi12 : ∀ w ∈ u_ws RX12 TX12 45, w ∈ wsX12_shifted := fun w h => List.mem_cons_of_mem _ (List.mem_append_right _ h)
  subst hsz
  have hD := hD0.self (sz := s.heap.size)
  generalize hAe : va_A (w_c_X12_shifted cI cJ cB cZ cO h r) s.heap.size = A at hD ⊢
  have hA : ∀ q : Nat, s.heap.size ≤ q → A q := fun q h => by rw [← hAe]; exact Or.inr h
  have hS : va_S A s.heap s.heap [] := va_S.rf
  have hP : va_P D vwCl [mo h r 0 0, ((r 16), .inl (cI, 5, .inl (fun _ => 0)))] s.heap := hP
  have hD : va_D A [mo h r 0 0, ((r 16), .inl (cI, 5, .inl (fun _ => 0)))] := hD
  have hl := lv_entry ([.ref h, .int x1]) (n := 2) (Nat.le_of_ble_eq_true rfl)
  rw [lg_entry_eq]
  generalize (lg_sl ([.ref h, .int x1]) ++ List.replicate (2 - (lg_sl ([.ref h, .int x1])).length) Slot.unset).toArray = ls at hl ⊢
  have hl : lv_has ls 2 [(0, .ref h), (1, .int x1)] := hl
  obtain ⟨H, hHe⟩ : ∃ H : Heap, H = s.heap := ⟨_, rfl⟩
  rw [← hHe] at hP
  have hS : va_S A s.heap H [] := by rw [hHe]; exact va_S.rf
  refine ct_start hHe ?_
  refine lv_aload_n hx hb dX12_shifted_0 rfl (lv_at hl 0 rfl) ?_
  refine lv_iconst (v := 0) hx hb dX12_shifted_1 (by decide) ?_
  refine va_put (D := D) (ci := 12) (v := .int 0) (ty := .int) (C := RX12) (T := TX12) (N := 45) hx hb hts hi12 tyX12 tyX12_ok nmX12 hown hK hP hD hS 0 rfl rfl 0 (by decide) (hts (.fieldLink RX12 80 "OverHillModel" "thrown" "I") (by decide +kernel)) (fun _ h9 => h9) rfl (by decide +kernel) rfl rfl (Nat.le_of_ble_eq_true rfl) dX12_shifted_2 (fun H locs hP hD hS => ?_)
  have hP : va_P D vwCl [mo h r 0 0, ((r 16), .inl (cI, 5, .inl (fun _ => 0)))] H := hP
  have hD : va_D A [mo h r 0 0, ((r 16), .inl (cI, 5, .inl (fun _ => 0)))] := hD
  refine lv_aload_n hx hb dX12_shifted_5 rfl (lv_at hl 0 rfl) ?_
  refine ct_calli (D := D) (wc := (w_c_X12_isDance cI cJ cB cZ cO h r)) (wr := []) (va_runV (As := []) (rest := []) ⟨hx, hb, hml, hown, hts⟩ (c_X12_isDance l D cI cJ cB cZ cO h r H.size) (cwV 0 hts gX12_shifted_X12_isDance rfl rfl rfl (by decide +kernel) ⟨Nat.le_of_ble_eq_true rfl, Nat.le_of_ble_eq_true rfl⟩) (ct_preV (T := ct_T cI cJ cB cZ cO) (ci := 12) (q0 := 0) hE hP hD [0, 1] (by decide) rfl rfl rfl) rfl rfl hl.1 rfl (lv_room (Nat.le_of_ble_eq_true rfl)) dX12_shifted_6 ⟨Nat.le_of_ble_eq_true rfl, Nat.le_of_ble_eq_true rfl⟩) hP hD hS hA [0, 1] [] rfl rfl (by decide) (by decide) (fun rz u H locs hw hP hD hS => ?_)
  have hP : va_P D vwCl [mo h r 0 0, ((r 16), .inl (cI, 5, .inl (fun _ => 0)))] H := hP
  have hD : va_D A [mo h r 0 0, ((r 16), .inl (cI, 5, .inl (fun _ => 0)))] := hD
  obtain ⟨rfl, hq303⟩ := hw
  refine lv_if_eq (tgt := 44) hx hb dX12_shifted_9 (by decide) (fun _ => ?_) (fun hc => absurd hc (by decide))
  refine lv_bipush (v := (-2)) hx hb dX12_shifted_44 (by decide) ?_
  have hP9 := hP.sub (ws' := []) [] rfl
  have hD9 := hD.sub (ws' := []) [] (by decide) rfl
  exact W.iret (v := (-2)) hx hb hr (fun t ht hW => ⟨⟨(-2), (), rfl, ⟨rfl, trivial⟩, by rw [ht]; exact hP9, hD9⟩, hS.F ht⟩) hS.2.2 dX12_shifted_46
abbrev w_c_X12_shift (cI cJ cB cZ cO : ClassId) (h : Nat) (r : Nat → Nat) : va_W := [mo h r 0 0, ((r 16), .inl (cI, 5, .inl (fun _ => 0)))]
set_option maxHeartbeats 4000000 in
set_option maxRecDepth 100000 in
/-- shift, of the reference, on a new object -/
theorem c_X12_shift (l : Launch) (D : va_G) (cI cJ cB cZ cO : ClassId) (h : Nat) (r : Nat → Nat) (sz : Nat) : Met l yX12_shift wsX12_shift ({ frames := 1, cells := 0, slots := 0, locals := 20 }) (va_Pc [.ref h] (ct_P D (ct_T cI cJ cB cZ cO) (w_c_X12_shift cI cJ cB cZ cO h r) sz)) (va_Qi (fun (rz : Int32) (u : Unit) => (rz = (-2) ∧ True)) (fun (u : Unit) t => ct_Q D (va_A (w_c_X12_shift cI cJ cB cZ cO h r) sz) [] t) (va_A (w_c_X12_shift cI cJ cB cZ cO h r) sz)) 0 0 (va_A (w_c_X12_shift cI cJ cB cZ cO h r) sz) := by
  refine Met.ofW (cc := cX12_shift) (maxL := 2) (ret := (some .int)) (by decide) rfl ?_
  intro p e s m args below meth c s₁ B hml hv
  obtain ⟨rfl, hsz, hP, hE, hD0⟩ := hv
  have hx := B.exec
  have hb := B.bytes
  have hr := B.returns
  have hts := atoms_spec (ws := wsX12_shift) B.pre
  have hown : s.vm.findClass RX12 = some m.cls := findClass_of_methodNamed B.named
  have hlocks := B.notSynchronized
  have hK := hE.1
  have hi12 : ∀ w ∈ u_ws RX12 TX12 45, w ∈ wsX12_shift := fun w h => List.mem_cons_of_mem _ (List.mem_append_right _ h)
  subst hsz
  have hD := hD0.self (sz := s.heap.size)
  generalize hAe : va_A (w_c_X12_shift cI cJ cB cZ cO h r) s.heap.size = A at hD ⊢
  have hA : ∀ q : Nat, s.heap.size ≤ q → A q := fun q h => by rw [← hAe]; exact Or.inr h
  have hS : va_S A s.heap s.heap [] := va_S.rf
  have hP : va_P D vwCl [mo h r 0 0, ((r 16), .inl (cI, 5, .inl (fun _ => 0)))] s.heap := hP
  have hD : va_D A [mo h r 0 0, ((r 16), .inl (cI, 5, .inl (fun _ => 0)))] := hD
  have hl := lv_entry ([.ref h]) (n := 2) (Nat.le_of_ble_eq_true rfl)
  rw [lg_entry_eq]
  generalize (lg_sl ([.ref h]) ++ List.replicate (2 - (lg_sl ([.ref h])).length) Slot.unset).toArray = ls at hl ⊢
  have hl : lv_has ls 2 [(0, .ref h)] := hl
  obtain ⟨H, hHe⟩ : ∃ H : Heap, H = s.heap := ⟨_, rfl⟩
  rw [← hHe] at hP
  have hS : va_S A s.heap H [] := by rw [hHe]; exact va_S.rf
  refine ct_start hHe ?_
  refine lv_aload_n hx hb dX12_shift_0 rfl (lv_at hl 0 rfl) ?_
  refine lv_iconst (v := 0) hx hb dX12_shift_1 (by decide) ?_
  refine va_put (D := D) (ci := 12) (v := .int 0) (ty := .int) (C := RX12) (T := TX12) (N := 45) hx hb hts hi12 tyX12 tyX12_ok nmX12 hown hK hP hD hS 0 rfl rfl 0 (by decide) (hts (.fieldLink RX12 80 "OverHillModel" "thrown" "I") (by decide +kernel)) (fun _ h9 => h9) rfl (by decide +kernel) rfl rfl (Nat.le_of_ble_eq_true rfl) dX12_shift_2 (fun H locs hP hD hS => ?_)
  have hP : va_P D vwCl [mo h r 0 0, ((r 16), .inl (cI, 5, .inl (fun _ => 0)))] H := hP
  have hD : va_D A [mo h r 0 0, ((r 16), .inl (cI, 5, .inl (fun _ => 0)))] := hD
  refine lv_aload_n hx hb dX12_shift_5 rfl (lv_at hl 0 rfl) ?_
  refine ct_calli (D := D) (wc := (w_c_X12_isDance cI cJ cB cZ cO h r)) (wr := []) (va_runV (As := []) (rest := []) ⟨hx, hb, hml, hown, hts⟩ (c_X12_isDance l D cI cJ cB cZ cO h r H.size) (cwV 0 hts gX12_shift_X12_isDance rfl rfl rfl (by decide +kernel) ⟨Nat.le_of_ble_eq_true rfl, Nat.le_of_ble_eq_true rfl⟩) (ct_preV (T := ct_T cI cJ cB cZ cO) (ci := 12) (q0 := 0) hE hP hD [0, 1] (by decide) rfl rfl rfl) rfl rfl hl.1 rfl (lv_room (Nat.le_of_ble_eq_true rfl)) dX12_shift_6 ⟨Nat.le_of_ble_eq_true rfl, Nat.le_of_ble_eq_true rfl⟩) hP hD hS hA [0, 1] [] rfl rfl (by decide) (by decide) (fun rz u H locs hw hP hD hS => ?_)
  have hP : va_P D vwCl [mo h r 0 0, ((r 16), .inl (cI, 5, .inl (fun _ => 0)))] H := hP
  have hD : va_D A [mo h r 0 0, ((r 16), .inl (cI, 5, .inl (fun _ => 0)))] := hD
  obtain ⟨rfl, hq304⟩ := hw
  refine lv_if_eq (tgt := 19) hx hb dX12_shift_9 (by decide) (fun _ => ?_) (fun hc => absurd hc (by decide))
  refine lv_bipush (v := (-2)) hx hb dX12_shift_19 (by decide) ?_
  have hP9 := hP.sub (ws' := []) [] rfl
  have hD9 := hD.sub (ws' := []) [] (by decide) rfl
  exact W.iret (v := (-2)) hx hb hr (fun t ht hW => ⟨⟨(-2), (), rfl, ⟨rfl, trivial⟩, by rw [ht]; exact hP9, hD9⟩, hS.F ht⟩) hS.2.2 dX12_shift_21
abbrev w_c_X12_least (cI cJ cB cZ cO : ClassId) (h : Nat) (r : Nat → Nat) : va_W := [mo h r 0 0, ((r 16), .inl (cI, 5, .inl (fun _ => 0)))]
set_option maxHeartbeats 4000000 in
set_option maxRecDepth 100000 in
/-- least, of the reference, on a new object -/
theorem c_X12_least (l : Launch) (D : va_G) (cI cJ cB cZ cO : ClassId) (h : Nat) (r : Nat → Nat) (sz : Nat) : Met l yX12_least wsX12_least ({ frames := 1, cells := 0, slots := 0, locals := 20 }) (va_Pc [.ref h] (ct_P D (ct_T cI cJ cB cZ cO) (w_c_X12_least cI cJ cB cZ cO h r) sz)) (va_Qi (fun (rz : Int32) (u : Unit) => (rz = (-2) ∧ True)) (fun (u : Unit) t => ct_Q D (va_A (w_c_X12_least cI cJ cB cZ cO h r) sz) [] t) (va_A (w_c_X12_least cI cJ cB cZ cO h r) sz)) 0 0 (va_A (w_c_X12_least cI cJ cB cZ cO h r) sz) := by
  refine Met.ofW (cc := cX12_least) (maxL := 3) (ret := (some .int)) (by decide) rfl ?_
  intro p e s m args below meth c s₁ B hml hv
  obtain ⟨rfl, hsz, hP, hE, hD0⟩ := hv
  have hx := B.exec
  have hb := B.bytes
  have hr := B.returns
  have hts := atoms_spec (ws := wsX12_least) B.pre
  have hown : s.vm.findClass RX12 = some m.cls := findClass_of_methodNamed B.named
  have hlocks := B.notSynchronized
  have hK := hE.1
  have hi12 : ∀ w ∈ u_ws RX12 TX12 45, w ∈ wsX12_least := fun w h => List.mem_cons_of_mem _ (List.mem_append_right _ h)
  subst hsz
  have hD := hD0.self (sz := s.heap.size)
  generalize hAe : va_A (w_c_X12_least cI cJ cB cZ cO h r) s.heap.size = A at hD ⊢
  have hA : ∀ q : Nat, s.heap.size ≤ q → A q := fun q h => by rw [← hAe]; exact Or.inr h
  have hS : va_S A s.heap s.heap [] := va_S.rf
  have hP : va_P D vwCl [mo h r 0 0, ((r 16), .inl (cI, 5, .inl (fun _ => 0)))] s.heap := hP
  have hD : va_D A [mo h r 0 0, ((r 16), .inl (cI, 5, .inl (fun _ => 0)))] := hD
  have hl := lv_entry ([.ref h]) (n := 3) (Nat.le_of_ble_eq_true rfl)
  rw [lg_entry_eq]
  generalize (lg_sl ([.ref h]) ++ List.replicate (3 - (lg_sl ([.ref h])).length) Slot.unset).toArray = ls at hl ⊢
  have hl : lv_has ls 3 [(0, .ref h)] := hl
  obtain ⟨H, hHe⟩ : ∃ H : Heap, H = s.heap := ⟨_, rfl⟩
  rw [← hHe] at hP
  have hS : va_S A s.heap H [] := by rw [hHe]; exact va_S.rf
  refine ct_start hHe ?_
  refine lv_aload_n hx hb dX12_least_0 rfl (lv_at hl 0 rfl) ?_
  refine lv_iconst (v := 0) hx hb dX12_least_1 (by decide) ?_
  refine va_put (D := D) (ci := 12) (v := .int 0) (ty := .int) (C := RX12) (T := TX12) (N := 45) hx hb hts hi12 tyX12 tyX12_ok nmX12 hown hK hP hD hS 0 rfl rfl 0 (by decide) (hts (.fieldLink RX12 80 "OverHillModel" "thrown" "I") (by decide +kernel)) (fun _ h9 => h9) rfl (by decide +kernel) rfl rfl (Nat.le_of_ble_eq_true rfl) dX12_least_2 (fun H locs hP hD hS => ?_)
  have hP : va_P D vwCl [mo h r 0 0, ((r 16), .inl (cI, 5, .inl (fun _ => 0)))] H := hP
  have hD : va_D A [mo h r 0 0, ((r 16), .inl (cI, 5, .inl (fun _ => 0)))] := hD
  refine lv_aload_n hx hb dX12_least_5 rfl (lv_at hl 0 rfl) ?_
  refine ct_calli (D := D) (wc := (w_c_X12_isDance cI cJ cB cZ cO h r)) (wr := []) (va_runV (As := []) (rest := []) ⟨hx, hb, hml, hown, hts⟩ (c_X12_isDance l D cI cJ cB cZ cO h r H.size) (cwV 0 hts gX12_least_X12_isDance rfl rfl rfl (by decide +kernel) ⟨Nat.le_of_ble_eq_true rfl, Nat.le_of_ble_eq_true rfl⟩) (ct_preV (T := ct_T cI cJ cB cZ cO) (ci := 12) (q0 := 0) hE hP hD [0, 1] (by decide) rfl rfl rfl) rfl rfl hl.1 rfl (lv_room (Nat.le_of_ble_eq_true rfl)) dX12_least_6 ⟨Nat.le_of_ble_eq_true rfl, Nat.le_of_ble_eq_true rfl⟩) hP hD hS hA [0, 1] [] rfl rfl (by decide) (by decide) (fun rz u H locs hw hP hD hS => ?_)
  have hP : va_P D vwCl [mo h r 0 0, ((r 16), .inl (cI, 5, .inl (fun _ => 0)))] H := hP
  have hD : va_D A [mo h r 0 0, ((r 16), .inl (cI, 5, .inl (fun _ => 0)))] := hD
  obtain ⟨rfl, hq305⟩ := hw
  refine lv_if_eq (tgt := 19) hx hb dX12_least_9 (by decide) (fun _ => ?_) (fun hc => absurd hc (by decide))
  refine lv_bipush (v := (-2)) hx hb dX12_least_19 (by decide) ?_
  have hP9 := hP.sub (ws' := []) [] rfl
  have hD9 := hD.sub (ws' := []) [] (by decide) rfl
  exact W.iret (v := (-2)) hx hb hr (fun t ht hW => ⟨⟨(-2), (), rfl, ⟨rfl, trivial⟩, by rw [ht]; exact hP9, hD9⟩, hS.F ht⟩) hS.2.2 dX12_least_21
abbrev w_c_X12_mend (cI cJ cB cZ cO : ClassId) (h : Nat) (r : Nat → Nat) : va_W := [mo h r 0 0, ((r 16), .inl (cI, 5, .inl (fun _ => 0)))]
set_option maxHeartbeats 4000000 in
set_option maxRecDepth 100000 in
/-- mend, of the reference, on a new object -/
theorem c_X12_mend (l : Launch) (D : va_G) (cI cJ cB cZ cO : ClassId) (h : Nat) (r : Nat → Nat) (x1 : Int32) (sz : Nat) : Met l yX12_mend wsX12_mend ({ frames := 2, cells := 0, slots := 0, locals := 41 }) (va_Pc [.ref h, .int x1] (ct_P D (ct_T cI cJ cB cZ cO) (w_c_X12_mend cI cJ cB cZ cO h r) sz)) (va_Qi (fun (rz : Int32) (u : Unit) => (rz = (-2) ∧ True)) (fun (u : Unit) t => ct_Q D (va_A (w_c_X12_mend cI cJ cB cZ cO h r) sz) [] t) (va_A (w_c_X12_mend cI cJ cB cZ cO h r) sz)) 0 0 (va_A (w_c_X12_mend cI cJ cB cZ cO h r) sz) := by
  refine Met.ofW (cc := cX12_mend) (maxL := 4) (ret := (some .int)) (by decide) rfl ?_
  intro p e s m args below meth c s₁ B hml hv
  obtain ⟨rfl, hsz, hP, hE, hD0⟩ := hv
  have hx := B.exec
  have hb := B.bytes
  have hr := B.returns
  have hts := atoms_spec (ws := wsX12_mend) B.pre
  have hown : s.vm.findClass RX12 = some m.cls := findClass_of_methodNamed B.named
  have hlocks := B.notSynchronized
  have hK := hE.1
  have hi12 : ∀ w ∈ u_ws RX12 TX12 45, w ∈ wsX12_mend := fun w h => List.mem_cons_of_mem _ (List.mem_append_right _ h)
  subst hsz
  have hD := hD0.self (sz := s.heap.size)
  generalize hAe : va_A (w_c_X12_mend cI cJ cB cZ cO h r) s.heap.size = A at hD ⊢
  have hA : ∀ q : Nat, s.heap.size ≤ q → A q := fun q h => by rw [← hAe]; exact Or.inr h
  have hS : va_S A s.heap s.heap [] := va_S.rf
  have hP : va_P D vwCl [mo h r 0 0, ((r 16), .inl (cI, 5, .inl (fun _ => 0)))] s.heap := hP
  have hD : va_D A [mo h r 0 0, ((r 16), .inl (cI, 5, .inl (fun _ => 0)))] := hD
  have hl := lv_entry ([.ref h, .int x1]) (n := 4) (Nat.le_of_ble_eq_true rfl)
  rw [lg_entry_eq]
  generalize (lg_sl ([.ref h, .int x1]) ++ List.replicate (4 - (lg_sl ([.ref h, .int x1])).length) Slot.unset).toArray = ls at hl ⊢
  have hl : lv_has ls 4 [(0, .ref h), (1, .int x1)] := hl
  obtain ⟨H, hHe⟩ : ∃ H : Heap, H = s.heap := ⟨_, rfl⟩
  rw [← hHe] at hP
  have hS : va_S A s.heap H [] := by rw [hHe]; exact va_S.rf
  refine ct_start hHe ?_
  refine lv_aload_n hx hb dX12_mend_0 rfl (lv_at hl 0 rfl) ?_
  refine lv_iconst (v := 0) hx hb dX12_mend_1 (by decide) ?_
  refine va_put (D := D) (ci := 12) (v := .int 0) (ty := .int) (C := RX12) (T := TX12) (N := 45) hx hb hts hi12 tyX12 tyX12_ok nmX12 hown hK hP hD hS 0 rfl rfl 0 (by decide) (hts (.fieldLink RX12 80 "OverHillModel" "thrown" "I") (by decide +kernel)) (fun _ h9 => h9) rfl (by decide +kernel) rfl rfl (Nat.le_of_ble_eq_true rfl) dX12_mend_2 (fun H locs hP hD hS => ?_)
  have hP : va_P D vwCl [mo h r 0 0, ((r 16), .inl (cI, 5, .inl (fun _ => 0)))] H := hP
  have hD : va_D A [mo h r 0 0, ((r 16), .inl (cI, 5, .inl (fun _ => 0)))] := hD
  refine lv_aload_n hx hb dX12_mend_5 rfl (lv_at hl 0 rfl) ?_
  refine lv_iload_n hx hb dX12_mend_6 rfl (lv_at hl 1 rfl) ?_
  refine ct_calli (D := D) (wc := (w_c_X12_isSide cI cJ cB cZ cO h r)) (wr := []) (va_runV (As := [.int x1]) (rest := []) ⟨hx, hb, hml, hown, hts⟩ (c_X12_isSide l D cI cJ cB cZ cO h r x1 H.size) (cwV 1 hts gX12_mend_X12_isSide rfl rfl rfl (by decide +kernel) ⟨Nat.le_of_ble_eq_true rfl, Nat.le_of_ble_eq_true rfl⟩) (ct_preV (T := ct_T cI cJ cB cZ cO) (ci := 12) (q0 := 0) hE hP hD [0, 1] (by decide) rfl rfl rfl) rfl rfl hl.1 rfl (lv_room (Nat.le_of_ble_eq_true rfl)) dX12_mend_7 ⟨Nat.le_of_ble_eq_true rfl, Nat.le_of_ble_eq_true rfl⟩) hP hD hS hA [0, 1] [] rfl rfl (by decide) (by decide) (fun rz u H locs hw hP hD hS => ?_)
  have hP : va_P D vwCl [mo h r 0 0, ((r 16), .inl (cI, 5, .inl (fun _ => 0)))] H := hP
  have hD : va_D A [mo h r 0 0, ((r 16), .inl (cI, 5, .inl (fun _ => 0)))] := hD
  obtain ⟨rfl, hq306⟩ := hw
  refine lv_if_eq (tgt := 20) hx hb dX12_mend_10 (by decide) (fun _ => ?_) (fun hc => absurd hc (by decide))
  refine lv_bipush (v := (-2)) hx hb dX12_mend_20 (by decide) ?_
  have hP9 := hP.sub (ws' := []) [] rfl
  have hD9 := hD.sub (ws' := []) [] (by decide) rfl
  exact W.iret (v := (-2)) hx hb hr (fun t ht hW => ⟨⟨(-2), (), rfl, ⟨rfl, trivial⟩, by rw [ht]; exact hP9, hD9⟩, hS.F ht⟩) hS.2.2 dX12_mend_22
abbrev w_c_X12_mended (cI cJ cB cZ cO : ClassId) (h : Nat) (r : Nat → Nat) : va_W := [mo h r 0 0, ((r 16), .inl (cI, 5, .inl (fun _ => 0)))]
set_option maxHeartbeats 4000000 in
set_option maxRecDepth 100000 in
/-- mended, of the reference, on a new object -/
theorem c_X12_mended (l : Launch) (D : va_G) (cI cJ cB cZ cO : ClassId) (h : Nat) (r : Nat → Nat) (x1 : Int32) (x2 : Int32) (sz : Nat) : Met l yX12_mended wsX12_mended ({ frames := 2, cells := 0, slots := 0, locals := 41 }) (va_Pc [.ref h, .int x1, .int x2] (ct_P D (ct_T cI cJ cB cZ cO) (w_c_X12_mended cI cJ cB cZ cO h r) sz)) (va_Qi (fun (rz : Int32) (u : Unit) => (rz = (-2) ∧ True)) (fun (u : Unit) t => ct_Q D (va_A (w_c_X12_mended cI cJ cB cZ cO h r) sz) [] t) (va_A (w_c_X12_mended cI cJ cB cZ cO h r) sz)) 0 0 (va_A (w_c_X12_mended cI cJ cB cZ cO h r) sz) := by
  refine Met.ofW (cc := cX12_mended) (maxL := 3) (ret := (some .int)) (by decide) rfl ?_
  intro p e s m args below meth c s₁ B hml hv
  obtain ⟨rfl, hsz, hP, hE, hD0⟩ := hv
  have hx := B.exec
  have hb := B.bytes
  have hr := B.returns
  have hts := atoms_spec (ws := wsX12_mended) B.pre
  have hown : s.vm.findClass RX12 = some m.cls := findClass_of_methodNamed B.named
  have hlocks := B.notSynchronized
  have hK := hE.1
  have hi12 : ∀ w ∈ u_ws RX12 TX12 45, w ∈ wsX12_mended := fun w h => List.mem_cons_of_mem _ (List.mem_append_right _ h)
  subst hsz
  have hD := hD0.self (sz := s.heap.size)
  generalize hAe : va_A (w_c_X12_mended cI cJ cB cZ cO h r) s.heap.size = A at hD ⊢
  have hA : ∀ q : Nat, s.heap.size ≤ q → A q := fun q h => by rw [← hAe]; exact Or.inr h
  have hS : va_S A s.heap s.heap [] := va_S.rf
  have hP : va_P D vwCl [mo h r 0 0, ((r 16), .inl (cI, 5, .inl (fun _ => 0)))] s.heap := hP
  have hD : va_D A [mo h r 0 0, ((r 16), .inl (cI, 5, .inl (fun _ => 0)))] := hD
  have hl := lv_entry ([.ref h, .int x1, .int x2]) (n := 3) (Nat.le_of_ble_eq_true rfl)
  rw [lg_entry_eq]
  generalize (lg_sl ([.ref h, .int x1, .int x2]) ++ List.replicate (3 - (lg_sl ([.ref h, .int x1, .int x2])).length) Slot.unset).toArray = ls at hl ⊢
  have hl : lv_has ls 3 [(0, .ref h), (1, .int x1), (2, .int x2)] := hl
  obtain ⟨H, hHe⟩ : ∃ H : Heap, H = s.heap := ⟨_, rfl⟩
  rw [← hHe] at hP
  have hS : va_S A s.heap H [] := by rw [hHe]; exact va_S.rf
  refine ct_start hHe ?_
  refine lv_aload_n hx hb dX12_mended_0 rfl (lv_at hl 0 rfl) ?_
  refine lv_iconst (v := 0) hx hb dX12_mended_1 (by decide) ?_
  refine va_put (D := D) (ci := 12) (v := .int 0) (ty := .int) (C := RX12) (T := TX12) (N := 45) hx hb hts hi12 tyX12 tyX12_ok nmX12 hown hK hP hD hS 0 rfl rfl 0 (by decide) (hts (.fieldLink RX12 80 "OverHillModel" "thrown" "I") (by decide +kernel)) (fun _ h9 => h9) rfl (by decide +kernel) rfl rfl (Nat.le_of_ble_eq_true rfl) dX12_mended_2 (fun H locs hP hD hS => ?_)
  have hP : va_P D vwCl [mo h r 0 0, ((r 16), .inl (cI, 5, .inl (fun _ => 0)))] H := hP
  have hD : va_D A [mo h r 0 0, ((r 16), .inl (cI, 5, .inl (fun _ => 0)))] := hD
  refine lv_aload_n hx hb dX12_mended_5 rfl (lv_at hl 0 rfl) ?_
  refine lv_iload_n hx hb dX12_mended_6 rfl (lv_at hl 1 rfl) ?_
  refine ct_calli (D := D) (wc := (w_c_X12_isSide cI cJ cB cZ cO h r)) (wr := []) (va_runV (As := [.int x1]) (rest := []) ⟨hx, hb, hml, hown, hts⟩ (c_X12_isSide l D cI cJ cB cZ cO h r x1 H.size) (cwV 1 hts gX12_mended_X12_isSide rfl rfl rfl (by decide +kernel) ⟨Nat.le_of_ble_eq_true rfl, Nat.le_of_ble_eq_true rfl⟩) (ct_preV (T := ct_T cI cJ cB cZ cO) (ci := 12) (q0 := 0) hE hP hD [0, 1] (by decide) rfl rfl rfl) rfl rfl hl.1 rfl (lv_room (Nat.le_of_ble_eq_true rfl)) dX12_mended_7 ⟨Nat.le_of_ble_eq_true rfl, Nat.le_of_ble_eq_true rfl⟩) hP hD hS hA [0, 1] [] rfl rfl (by decide) (by decide) (fun rz u H locs hw hP hD hS => ?_)
  have hP : va_P D vwCl [mo h r 0 0, ((r 16), .inl (cI, 5, .inl (fun _ => 0)))] H := hP
  have hD : va_D A [mo h r 0 0, ((r 16), .inl (cI, 5, .inl (fun _ => 0)))] := hD
  obtain ⟨rfl, hq307⟩ := hw
  refine lv_if_eq (tgt := 37) hx hb dX12_mended_10 (by decide) (fun _ => ?_) (fun hc => absurd hc (by decide))
  refine lv_bipush (v := (-2)) hx hb dX12_mended_37 (by decide) ?_
  have hP9 := hP.sub (ws' := []) [] rfl
  have hD9 := hD.sub (ws' := []) [] (by decide) rfl
  exact W.iret (v := (-2)) hx hb hr (fun t ht hW => ⟨⟨(-2), (), rfl, ⟨rfl, trivial⟩, by rw [ht]; exact hP9, hD9⟩, hS.F ht⟩) hS.2.2 dX12_mended_39
abbrev w_c_X12_stuck (cI cJ cB cZ cO : ClassId) (h : Nat) (r : Nat → Nat) : va_W := [mo h r 0 0, ((r 16), .inl (cI, 5, .inl (fun _ => 0)))]
set_option maxHeartbeats 4000000 in
set_option maxRecDepth 100000 in
/-- stuck, of the reference, on a new object -/
theorem c_X12_stuck (l : Launch) (D : va_G) (cI cJ cB cZ cO : ClassId) (h : Nat) (r : Nat → Nat) (x1 : Int32) (sz : Nat) : Met l yX12_stuck wsX12_stuck ({ frames := 2, cells := 0, slots := 0, locals := 41 }) (va_Pc [.ref h, .int x1] (ct_P D (ct_T cI cJ cB cZ cO) (w_c_X12_stuck cI cJ cB cZ cO h r) sz)) (va_Qi (fun (rz : Int32) (u : Unit) => (rz = (-2) ∧ True)) (fun (u : Unit) t => ct_Q D (va_A (w_c_X12_stuck cI cJ cB cZ cO h r) sz) [] t) (va_A (w_c_X12_stuck cI cJ cB cZ cO h r) sz)) 0 0 (va_A (w_c_X12_stuck cI cJ cB cZ cO h r) sz) := by
  refine Met.ofW (cc := cX12_stuck) (maxL := 2) (ret := (some .int)) (by decide) rfl ?_
  intro p e s m args below meth c s₁ B hml hv
  obtain ⟨rfl, hsz, hP, hE, hD0⟩ := hv
  have hx := B.exec
  have hb := B.bytes
  have hr := B.returns
  have hts := atoms_spec (ws := wsX12_stuck) B.pre
  have hown : s.vm.findClass RX12 = some m.cls := findClass_of_methodNamed B.named
  have hlocks := B.notSynchronized
  have hK := hE.1
  have hi12 : ∀ w ∈ u_ws RX12 TX12 45, w ∈ wsX12_stuck := fun w h => List.mem_cons_of_mem _ (List.mem_append_right _ h)
  subst hsz
  have hD := hD0.self (sz := s.heap.size)
  generalize hAe : va_A (w_c_X12_stuck cI cJ cB cZ cO h r) s.heap.size = A at hD ⊢
  have hA : ∀ q : Nat, s.heap.size ≤ q → A q := fun q h => by rw [← hAe]; exact Or.inr h
  have hS : va_S A s.heap s.heap [] := va_S.rf
  have hP : va_P D vwCl [mo h r 0 0, ((r 16), .inl (cI, 5, .inl (fun _ => 0)))] s.heap := hP
  have hD : va_D A [mo h r 0 0, ((r 16), .inl (cI, 5, .inl (fun _ => 0)))] := hD
  have hl := lv_entry ([.ref h, .int x1]) (n := 2) (Nat.le_of_ble_eq_true rfl)
  rw [lg_entry_eq]
  generalize (lg_sl ([.ref h, .int x1]) ++ List.replicate (2 - (lg_sl ([.ref h, .int x1])).length) Slot.unset).toArray = ls at hl ⊢
  have hl : lv_has ls 2 [(0, .ref h), (1, .int x1)] := hl
  obtain ⟨H, hHe⟩ : ∃ H : Heap, H = s.heap := ⟨_, rfl⟩
  rw [← hHe] at hP
  have hS : va_S A s.heap H [] := by rw [hHe]; exact va_S.rf
  refine ct_start hHe ?_
  refine lv_aload_n hx hb dX12_stuck_0 rfl (lv_at hl 0 rfl) ?_
  refine lv_iconst (v := 0) hx hb dX12_stuck_1 (by decide) ?_
  refine va_put (D := D) (ci := 12) (v := .int 0) (ty := .int) (C := RX12) (T := TX12) (N := 45) hx hb hts hi12 tyX12 tyX12_ok nmX12 hown hK hP hD hS 0 rfl rfl 0 (by decide) (hts (.fieldLink RX12 80 "OverHillModel" "thrown" "I") (by decide +kernel)) (fun _ h9 => h9) rfl (by decide +kernel) rfl rfl (Nat.le_of_ble_eq_true rfl) dX12_stuck_2 (fun H locs hP hD hS => ?_)
  have hP : va_P D vwCl [mo h r 0 0, ((r 16), .inl (cI, 5, .inl (fun _ => 0)))] H := hP
  have hD : va_D A [mo h r 0 0, ((r 16), .inl (cI, 5, .inl (fun _ => 0)))] := hD
  refine lv_aload_n hx hb dX12_stuck_5 rfl (lv_at hl 0 rfl) ?_
  refine lv_iload_n hx hb dX12_stuck_6 rfl (lv_at hl 1 rfl) ?_
  refine ct_calli (D := D) (wc := (w_c_X12_isSide cI cJ cB cZ cO h r)) (wr := []) (va_runV (As := [.int x1]) (rest := []) ⟨hx, hb, hml, hown, hts⟩ (c_X12_isSide l D cI cJ cB cZ cO h r x1 H.size) (cwV 1 hts gX12_stuck_X12_isSide rfl rfl rfl (by decide +kernel) ⟨Nat.le_of_ble_eq_true rfl, Nat.le_of_ble_eq_true rfl⟩) (ct_preV (T := ct_T cI cJ cB cZ cO) (ci := 12) (q0 := 0) hE hP hD [0, 1] (by decide) rfl rfl rfl) rfl rfl hl.1 rfl (lv_room (Nat.le_of_ble_eq_true rfl)) dX12_stuck_7 ⟨Nat.le_of_ble_eq_true rfl, Nat.le_of_ble_eq_true rfl⟩) hP hD hS hA [0, 1] [] rfl rfl (by decide) (by decide) (fun rz u H locs hw hP hD hS => ?_)
  have hP : va_P D vwCl [mo h r 0 0, ((r 16), .inl (cI, 5, .inl (fun _ => 0)))] H := hP
  have hD : va_D A [mo h r 0 0, ((r 16), .inl (cI, 5, .inl (fun _ => 0)))] := hD
  obtain ⟨rfl, hq308⟩ := hw
  refine lv_if_eq (tgt := 28) hx hb dX12_stuck_10 (by decide) (fun _ => ?_) (fun hc => absurd hc (by decide))
  refine lv_bipush (v := (-2)) hx hb dX12_stuck_28 (by decide) ?_
  have hP9 := hP.sub (ws' := []) [] rfl
  have hD9 := hD.sub (ws' := []) [] (by decide) rfl
  exact W.iret (v := (-2)) hx hb hr (fun t ht hW => ⟨⟨(-2), (), rfl, ⟨rfl, trivial⟩, by rw [ht]; exact hP9, hD9⟩, hS.F ht⟩) hS.2.2 dX12_stuck_30
abbrev w_c_X12_heard (cI cJ cB cZ cO : ClassId) (h : Nat) (r : Nat → Nat) : va_W := [mo h r 0 0, ((r 16), .inl (cI, 5, .inl (fun _ => 0)))]
set_option maxHeartbeats 4000000 in
set_option maxRecDepth 100000 in
/-- heard, of the reference, on a new object -/
theorem c_X12_heard (l : Launch) (D : va_G) (cI cJ cB cZ cO : ClassId) (h : Nat) (r : Nat → Nat) (x1 : Int32) (x2 : Int32) (sz : Nat) : Met l yX12_heard wsX12_heard ({ frames := 3, cells := 0, slots := 0, locals := 68 }) (va_Pc [.ref h, .int x1, .int x2] (ct_P D (ct_T cI cJ cB cZ cO) (w_c_X12_heard cI cJ cB cZ cO h r) sz)) (va_Qi (fun (rz : Int32) (u : Unit) => (rz = (-2) ∧ True)) (fun (u : Unit) t => ct_Q D (va_A (w_c_X12_heard cI cJ cB cZ cO h r) sz) [] t) (va_A (w_c_X12_heard cI cJ cB cZ cO h r) sz)) 0 0 (va_A (w_c_X12_heard cI cJ cB cZ cO h r) sz) := by
  refine Met.ofW (cc := cX12_heard) (maxL := 4) (ret := (some .int)) (by decide) rfl ?_
  intro p e s m args below meth c s₁ B hml hv
  obtain ⟨rfl, hsz, hP, hE, hD0⟩ := hv
  have hx := B.exec
  have hb := B.bytes
  have hr := B.returns
  have hts := atoms_spec (ws := wsX12_heard) B.pre
  have hown : s.vm.findClass RX12 = some m.cls := findClass_of_methodNamed B.named
  have hlocks := B.notSynchronized
  have hK := hE.1
  have hi12 : ∀ w ∈ u_ws RX12 TX12 45, w ∈ wsX12_heard := fun w h => List.mem_cons_of_mem _ (List.mem_append_right _ h)
  subst hsz
  have hD := hD0.self (sz := s.heap.size)
  generalize hAe : va_A (w_c_X12_heard cI cJ cB cZ cO h r) s.heap.size = A at hD ⊢
  have hA : ∀ q : Nat, s.heap.size ≤ q → A q := fun q h => by rw [← hAe]; exact Or.inr h
  have hS : va_S A s.heap s.heap [] := va_S.rf
  have hP : va_P D vwCl [mo h r 0 0, ((r 16), .inl (cI, 5, .inl (fun _ => 0)))] s.heap := hP
  have hD : va_D A [mo h r 0 0, ((r 16), .inl (cI, 5, .inl (fun _ => 0)))] := hD
  have hl := lv_entry ([.ref h, .int x1, .int x2]) (n := 4) (Nat.le_of_ble_eq_true rfl)
  rw [lg_entry_eq]
  generalize (lg_sl ([.ref h, .int x1, .int x2]) ++ List.replicate (4 - (lg_sl ([.ref h, .int x1, .int x2])).length) Slot.unset).toArray = ls at hl ⊢
  have hl : lv_has ls 4 [(0, .ref h), (1, .int x1), (2, .int x2)] := hl
  obtain ⟨H, hHe⟩ : ∃ H : Heap, H = s.heap := ⟨_, rfl⟩
  rw [← hHe] at hP
  have hS : va_S A s.heap H [] := by rw [hHe]; exact va_S.rf
  refine ct_start hHe ?_
  refine lv_aload_n hx hb dX12_heard_0 rfl (lv_at hl 0 rfl) ?_
  refine lv_iconst (v := 0) hx hb dX12_heard_1 (by decide) ?_
  refine va_put (D := D) (ci := 12) (v := .int 0) (ty := .int) (C := RX12) (T := TX12) (N := 45) hx hb hts hi12 tyX12 tyX12_ok nmX12 hown hK hP hD hS 0 rfl rfl 0 (by decide) (hts (.fieldLink RX12 80 "OverHillModel" "thrown" "I") (by decide +kernel)) (fun _ h9 => h9) rfl (by decide +kernel) rfl rfl (Nat.le_of_ble_eq_true rfl) dX12_heard_2 (fun H locs hP hD hS => ?_)
  have hP : va_P D vwCl [mo h r 0 0, ((r 16), .inl (cI, 5, .inl (fun _ => 0)))] H := hP
  have hD : va_D A [mo h r 0 0, ((r 16), .inl (cI, 5, .inl (fun _ => 0)))] := hD
  refine lv_aload_n hx hb dX12_heard_5 rfl (lv_at hl 0 rfl) ?_
  refine lv_iload_n hx hb dX12_heard_6 rfl (lv_at hl 1 rfl) ?_
  refine lv_iload_n hx hb dX12_heard_7 rfl (lv_at hl 2 rfl) ?_
  refine ct_calli (D := D) (wc := (w_c_X12_whyNot cI cJ cB cZ cO h r)) (wr := []) (va_runV (As := [.int x1, .int x2]) (rest := []) ⟨hx, hb, hml, hown, hts⟩ (c_X12_whyNot l D cI cJ cB cZ cO h r x1 x2 H.size) (cwV 2 hts gX12_heard_X12_whyNot rfl rfl rfl (by decide +kernel) ⟨Nat.le_of_ble_eq_true rfl, Nat.le_of_ble_eq_true rfl⟩) (ct_preV (T := ct_T cI cJ cB cZ cO) (ci := 12) (q0 := 0) hE hP hD [0, 1] (by decide) rfl rfl rfl) rfl rfl hl.1 rfl (lv_room (Nat.le_of_ble_eq_true rfl)) dX12_heard_8 ⟨Nat.le_of_ble_eq_true rfl, Nat.le_of_ble_eq_true rfl⟩) hP hD hS hA [0, 1] [] rfl rfl (by decide) (by decide) (fun rz u H locs hw hP hD hS => ?_)
  have hP : va_P D vwCl [] H := hP
  have hD : va_D A [] := hD
  obtain ⟨rfl, hq309⟩ := hw
  refine lv_istore_n (lv' := [(3, .int (-2)), (0, .ref h), (1, .int x1), (2, .int x2)]) hx hb dX12_heard_11 rfl hl (by decide) rfl (fun ls hl => ?_)
  refine lv_iload_n hx hb dX12_heard_12 rfl (lv_at hl 0 rfl) ?_
  refine lv_if_eq (tgt := 18) hx hb dX12_heard_13 (by decide) (fun hc => absurd hc (by decide)) (fun _ => ?_)
  refine lv_iload_n hx hb dX12_heard_16 rfl (lv_at hl 0 rfl) ?_
  have hP9 := hP.sub (ws' := []) [] rfl
  have hD9 := hD.sub (ws' := []) [] (by decide) rfl
  exact W.iret (v := (-2)) hx hb hr (fun t ht hW => ⟨⟨(-2), (), rfl, ⟨rfl, trivial⟩, by rw [ht]; exact hP9, hD9⟩, hS.F ht⟩) hS.2.2 dX12_heard_17
abbrev w_c_X12_first (cI cJ cB cZ cO : ClassId) (h : Nat) (r : Nat → Nat) : va_W := [mo h r 0 0, ((r 16), .inl (cI, 5, .inl (fun _ => 0)))]
set_option maxHeartbeats 4000000 in
set_option maxRecDepth 100000 in
/-- first, of the reference, on a new object -/
theorem c_X12_first (l : Launch) (D : va_G) (cI cJ cB cZ cO : ClassId) (h : Nat) (r : Nat → Nat) (x1 : Int32) (x2 : Int32) (sz : Nat) : Met l yX12_first wsX12_first ({ frames := 3, cells := 0, slots := 0, locals := 68 }) (va_Pc [.ref h, .int x1, .int x2] (ct_P D (ct_T cI cJ cB cZ cO) (w_c_X12_first cI cJ cB cZ cO h r) sz)) (va_Qi (fun (rz : Int32) (u : Unit) => (rz = (-2) ∧ True)) (fun (u : Unit) t => ct_Q D (va_A (w_c_X12_first cI cJ cB cZ cO h r) sz) [] t) (va_A (w_c_X12_first cI cJ cB cZ cO h r) sz)) 0 0 (va_A (w_c_X12_first cI cJ cB cZ cO h r) sz) := by
  refine Met.ofW (cc := cX12_first) (maxL := 4) (ret := (some .int)) (by decide) rfl ?_
  intro p e s m args below meth c s₁ B hml hv
  obtain ⟨rfl, hsz, hP, hE, hD0⟩ := hv
  have hx := B.exec
  have hb := B.bytes
  have hr := B.returns
  have hts := atoms_spec (ws := wsX12_first) B.pre
  have hown : s.vm.findClass RX12 = some m.cls := findClass_of_methodNamed B.named
  have hlocks := B.notSynchronized
  have hK := hE.1
  have hi12 : ∀ w ∈ u_ws RX12 TX12 45, w ∈ wsX12_first := fun w h => List.mem_cons_of_mem _ (List.mem_append_right _ h)
  subst hsz
  have hD := hD0.self (sz := s.heap.size)
  generalize hAe : va_A (w_c_X12_first cI cJ cB cZ cO h r) s.heap.size = A at hD ⊢
  have hA : ∀ q : Nat, s.heap.size ≤ q → A q := fun q h => by rw [← hAe]; exact Or.inr h
  have hS : va_S A s.heap s.heap [] := va_S.rf
  have hP : va_P D vwCl [mo h r 0 0, ((r 16), .inl (cI, 5, .inl (fun _ => 0)))] s.heap := hP
  have hD : va_D A [mo h r 0 0, ((r 16), .inl (cI, 5, .inl (fun _ => 0)))] := hD
  have hl := lv_entry ([.ref h, .int x1, .int x2]) (n := 4) (Nat.le_of_ble_eq_true rfl)
  rw [lg_entry_eq]
  generalize (lg_sl ([.ref h, .int x1, .int x2]) ++ List.replicate (4 - (lg_sl ([.ref h, .int x1, .int x2])).length) Slot.unset).toArray = ls at hl ⊢
  have hl : lv_has ls 4 [(0, .ref h), (1, .int x1), (2, .int x2)] := hl
  obtain ⟨H, hHe⟩ : ∃ H : Heap, H = s.heap := ⟨_, rfl⟩
  rw [← hHe] at hP
  have hS : va_S A s.heap H [] := by rw [hHe]; exact va_S.rf
  refine ct_start hHe ?_
  refine lv_aload_n hx hb dX12_first_0 rfl (lv_at hl 0 rfl) ?_
  refine lv_iconst (v := 0) hx hb dX12_first_1 (by decide) ?_
  refine va_put (D := D) (ci := 12) (v := .int 0) (ty := .int) (C := RX12) (T := TX12) (N := 45) hx hb hts hi12 tyX12 tyX12_ok nmX12 hown hK hP hD hS 0 rfl rfl 0 (by decide) (hts (.fieldLink RX12 80 "OverHillModel" "thrown" "I") (by decide +kernel)) (fun _ h9 => h9) rfl (by decide +kernel) rfl rfl (Nat.le_of_ble_eq_true rfl) dX12_first_2 (fun H locs hP hD hS => ?_)
  have hP : va_P D vwCl [mo h r 0 0, ((r 16), .inl (cI, 5, .inl (fun _ => 0)))] H := hP
  have hD : va_D A [mo h r 0 0, ((r 16), .inl (cI, 5, .inl (fun _ => 0)))] := hD
  refine lv_aload_n hx hb dX12_first_5 rfl (lv_at hl 0 rfl) ?_
  refine lv_iload_n hx hb dX12_first_6 rfl (lv_at hl 1 rfl) ?_
  refine lv_iload_n hx hb dX12_first_7 rfl (lv_at hl 2 rfl) ?_
  refine ct_calli (D := D) (wc := (w_c_X12_whyNot cI cJ cB cZ cO h r)) (wr := []) (va_runV (As := [.int x1, .int x2]) (rest := []) ⟨hx, hb, hml, hown, hts⟩ (c_X12_whyNot l D cI cJ cB cZ cO h r x1 x2 H.size) (cwV 2 hts gX12_first_X12_whyNot rfl rfl rfl (by decide +kernel) ⟨Nat.le_of_ble_eq_true rfl, Nat.le_of_ble_eq_true rfl⟩) (ct_preV (T := ct_T cI cJ cB cZ cO) (ci := 12) (q0 := 0) hE hP hD [0, 1] (by decide) rfl rfl rfl) rfl rfl hl.1 rfl (lv_room (Nat.le_of_ble_eq_true rfl)) dX12_first_8 ⟨Nat.le_of_ble_eq_true rfl, Nat.le_of_ble_eq_true rfl⟩) hP hD hS hA [0, 1] [] rfl rfl (by decide) (by decide) (fun rz u H locs hw hP hD hS => ?_)
  have hP : va_P D vwCl [] H := hP
  have hD : va_D A [] := hD
  obtain ⟨rfl, hq310⟩ := hw
  refine lv_istore_n (lv' := [(3, .int (-2)), (0, .ref h), (1, .int x1), (2, .int x2)]) hx hb dX12_first_11 rfl hl (by decide) rfl (fun ls hl => ?_)
  refine lv_iload_n hx hb dX12_first_12 rfl (lv_at hl 0 rfl) ?_
  refine lv_if_eq (tgt := 18) hx hb dX12_first_13 (by decide) (fun hc => absurd hc (by decide)) (fun _ => ?_)
  refine lv_iload_n hx hb dX12_first_16 rfl (lv_at hl 0 rfl) ?_
  have hP9 := hP.sub (ws' := []) [] rfl
  have hD9 := hD.sub (ws' := []) [] (by decide) rfl
  exact W.iret (v := (-2)) hx hb hr (fun t ht hW => ⟨⟨(-2), (), rfl, ⟨rfl, trivial⟩, by rw [ht]; exact hP9, hD9⟩, hS.F ht⟩) hS.2.2 dX12_first_17
abbrev w_c_X12_when (cI cJ cB cZ cO : ClassId) (h : Nat) (r : Nat → Nat) : va_W := [mo h r 0 0, ((r 16), .inl (cI, 5, .inl (fun _ => 0)))]
set_option maxHeartbeats 4000000 in
set_option maxRecDepth 100000 in
/-- when, of the reference, on a new object -/
theorem c_X12_when (l : Launch) (D : va_G) (cI cJ cB cZ cO : ClassId) (h : Nat) (r : Nat → Nat) (x1 : Int32) (x2 : Int32) (sz : Nat) : Met l yX12_when wsX12_when ({ frames := 3, cells := 0, slots := 0, locals := 68 }) (va_Pc [.ref h, .int x1, .int x2] (ct_P D (ct_T cI cJ cB cZ cO) (w_c_X12_when cI cJ cB cZ cO h r) sz)) (va_Ql (fun (rz : Int64) (u : Unit) => (rz = (-2) ∧ True)) (fun (u : Unit) t => ct_Q D (va_A (w_c_X12_when cI cJ cB cZ cO h r) sz) [] t) (va_A (w_c_X12_when cI cJ cB cZ cO h r) sz)) 0 0 (va_A (w_c_X12_when cI cJ cB cZ cO h r) sz) := by
  refine Met.ofW (cc := cX12_when) (maxL := 4) (ret := (some .long)) (by decide) rfl ?_
  intro p e s m args below meth c s₁ B hml hv
  obtain ⟨rfl, hsz, hP, hE, hD0⟩ := hv
  have hx := B.exec
  have hb := B.bytes
  have hr := B.returns
  have hts := atoms_spec (ws := wsX12_when) B.pre
  have hown : s.vm.findClass RX12 = some m.cls := findClass_of_methodNamed B.named
  have hlocks := B.notSynchronized
  have hK := hE.1
  have hi12 : ∀ w ∈ u_ws RX12 TX12 45, w ∈ wsX12_when := fun w h => List.mem_cons_of_mem _ (List.mem_append_right _ h)
  subst hsz
  have hD := hD0.self (sz := s.heap.size)
  generalize hAe : va_A (w_c_X12_when cI cJ cB cZ cO h r) s.heap.size = A at hD ⊢
  have hA : ∀ q : Nat, s.heap.size ≤ q → A q := fun q h => by rw [← hAe]; exact Or.inr h
  have hS : va_S A s.heap s.heap [] := va_S.rf
  have hP : va_P D vwCl [mo h r 0 0, ((r 16), .inl (cI, 5, .inl (fun _ => 0)))] s.heap := hP
  have hD : va_D A [mo h r 0 0, ((r 16), .inl (cI, 5, .inl (fun _ => 0)))] := hD
  have hl := lv_entry ([.ref h, .int x1, .int x2]) (n := 4) (Nat.le_of_ble_eq_true rfl)
  rw [lg_entry_eq]
  generalize (lg_sl ([.ref h, .int x1, .int x2]) ++ List.replicate (4 - (lg_sl ([.ref h, .int x1, .int x2])).length) Slot.unset).toArray = ls at hl ⊢
  have hl : lv_has ls 4 [(0, .ref h), (1, .int x1), (2, .int x2)] := hl
  obtain ⟨H, hHe⟩ : ∃ H : Heap, H = s.heap := ⟨_, rfl⟩
  rw [← hHe] at hP
  have hS : va_S A s.heap H [] := by rw [hHe]; exact va_S.rf
  refine ct_start hHe ?_
  refine lv_aload_n hx hb dX12_when_0 rfl (lv_at hl 0 rfl) ?_
  refine lv_iconst (v := 0) hx hb dX12_when_1 (by decide) ?_
  refine va_put (D := D) (ci := 12) (v := .int 0) (ty := .int) (C := RX12) (T := TX12) (N := 45) hx hb hts hi12 tyX12 tyX12_ok nmX12 hown hK hP hD hS 0 rfl rfl 0 (by decide) (hts (.fieldLink RX12 80 "OverHillModel" "thrown" "I") (by decide +kernel)) (fun _ h9 => h9) rfl (by decide +kernel) rfl rfl (Nat.le_of_ble_eq_true rfl) dX12_when_2 (fun H locs hP hD hS => ?_)
  have hP : va_P D vwCl [mo h r 0 0, ((r 16), .inl (cI, 5, .inl (fun _ => 0)))] H := hP
  have hD : va_D A [mo h r 0 0, ((r 16), .inl (cI, 5, .inl (fun _ => 0)))] := hD
  refine lv_aload_n hx hb dX12_when_5 rfl (lv_at hl 0 rfl) ?_
  refine lv_iload_n hx hb dX12_when_6 rfl (lv_at hl 1 rfl) ?_
  refine lv_iload_n hx hb dX12_when_7 rfl (lv_at hl 2 rfl) ?_
  refine ct_calli (D := D) (wc := (w_c_X12_whyNot cI cJ cB cZ cO h r)) (wr := []) (va_runV (As := [.int x1, .int x2]) (rest := []) ⟨hx, hb, hml, hown, hts⟩ (c_X12_whyNot l D cI cJ cB cZ cO h r x1 x2 H.size) (cwV 2 hts gX12_when_X12_whyNot rfl rfl rfl (by decide +kernel) ⟨Nat.le_of_ble_eq_true rfl, Nat.le_of_ble_eq_true rfl⟩) (ct_preV (T := ct_T cI cJ cB cZ cO) (ci := 12) (q0 := 0) hE hP hD [0, 1] (by decide) rfl rfl rfl) rfl rfl hl.1 rfl (lv_room (Nat.le_of_ble_eq_true rfl)) dX12_when_8 ⟨Nat.le_of_ble_eq_true rfl, Nat.le_of_ble_eq_true rfl⟩) hP hD hS hA [0, 1] [] rfl rfl (by decide) (by decide) (fun rz u H locs hw hP hD hS => ?_)
  have hP : va_P D vwCl [] H := hP
  have hD : va_D A [] := hD
  obtain ⟨rfl, hq311⟩ := hw
  refine lv_istore_n (lv' := [(3, .int (-2)), (0, .ref h), (1, .int x1), (2, .int x2)]) hx hb dX12_when_11 rfl hl (by decide) rfl (fun ls hl => ?_)
  refine lv_iload_n hx hb dX12_when_12 rfl (lv_at hl 0 rfl) ?_
  refine lv_if_eq (tgt := 19) hx hb dX12_when_13 (by decide) (fun hc => absurd hc (by decide)) (fun _ => ?_)
  refine lv_iload_n hx hb dX12_when_16 rfl (lv_at hl 0 rfl) ?_
  refine lv_i2l (v := (-2)) hx hb dX12_when_17 (by decide) ?_
  have hP9 := hP.sub (ws' := []) [] rfl
  have hD9 := hD.sub (ws' := []) [] (by decide) rfl
  exact W.lret (v := (-2)) hx hb hr (fun t ht hW => ⟨⟨(-2), (), rfl, ⟨rfl, trivial⟩, by rw [ht]; exact hP9, hD9⟩, hS.F ht⟩) hS.2.2 dX12_when_18
abbrev w_c_X12_listen (cI cJ cB cZ cO : ClassId) (h : Nat) (r : Nat → Nat) : va_W := [mo h r 0 0, ((r 16), .inl (cI, 5, .inl (fun _ => 0)))]
set_option maxHeartbeats 4000000 in
set_option maxRecDepth 100000 in
/-- listen, of the reference, on a new object -/
theorem c_X12_listen (l : Launch) (D : va_G) (cI cJ cB cZ cO : ClassId) (h : Nat) (r : Nat → Nat) (x1 : Int32) (x2 : Int32) (sz : Nat) : Met l yX12_listen wsX12_listen ({ frames := 3, cells := 0, slots := 0, locals := 68 }) (va_Pc [.ref h, .int x1, .int x2] (ct_P D (ct_T cI cJ cB cZ cO) (w_c_X12_listen cI cJ cB cZ cO h r) sz)) (va_Qi (fun (rz : Int32) (u : Unit) => (rz = (-2) ∧ True)) (fun (u : Unit) t => ct_Q D (va_A (w_c_X12_listen cI cJ cB cZ cO h r) sz) [] t) (va_A (w_c_X12_listen cI cJ cB cZ cO h r) sz)) 0 0 (va_A (w_c_X12_listen cI cJ cB cZ cO h r) sz) := by
  refine Met.ofW (cc := cX12_listen) (maxL := 4) (ret := (some .int)) (by decide) rfl ?_
  intro p e s m args below meth c s₁ B hml hv
  obtain ⟨rfl, hsz, hP, hE, hD0⟩ := hv
  have hx := B.exec
  have hb := B.bytes
  have hr := B.returns
  have hts := atoms_spec (ws := wsX12_listen) B.pre
  have hown : s.vm.findClass RX12 = some m.cls := findClass_of_methodNamed B.named
  have hlocks := B.notSynchronized
  have hK := hE.1
  have hi12 : ∀ w ∈ u_ws RX12 TX12 45, w ∈ wsX12_listen := fun w h => List.mem_cons_of_mem _ (List.mem_append_right _ h)
  subst hsz
  have hD := hD0.self (sz := s.heap.size)
  generalize hAe : va_A (w_c_X12_listen cI cJ cB cZ cO h r) s.heap.size = A at hD ⊢
  have hA : ∀ q : Nat, s.heap.size ≤ q → A q := fun q h => by rw [← hAe]; exact Or.inr h
  have hS : va_S A s.heap s.heap [] := va_S.rf
  have hP : va_P D vwCl [mo h r 0 0, ((r 16), .inl (cI, 5, .inl (fun _ => 0)))] s.heap := hP
  have hD : va_D A [mo h r 0 0, ((r 16), .inl (cI, 5, .inl (fun _ => 0)))] := hD
  have hl := lv_entry ([.ref h, .int x1, .int x2]) (n := 4) (Nat.le_of_ble_eq_true rfl)
  rw [lg_entry_eq]
  generalize (lg_sl ([.ref h, .int x1, .int x2]) ++ List.replicate (4 - (lg_sl ([.ref h, .int x1, .int x2])).length) Slot.unset).toArray = ls at hl ⊢
  have hl : lv_has ls 4 [(0, .ref h), (1, .int x1), (2, .int x2)] := hl
  obtain ⟨H, hHe⟩ : ∃ H : Heap, H = s.heap := ⟨_, rfl⟩
  rw [← hHe] at hP
  have hS : va_S A s.heap H [] := by rw [hHe]; exact va_S.rf
  refine ct_start hHe ?_
  refine lv_aload_n hx hb dX12_listen_0 rfl (lv_at hl 0 rfl) ?_
  refine lv_iconst (v := 0) hx hb dX12_listen_1 (by decide) ?_
  refine va_put (D := D) (ci := 12) (v := .int 0) (ty := .int) (C := RX12) (T := TX12) (N := 45) hx hb hts hi12 tyX12 tyX12_ok nmX12 hown hK hP hD hS 0 rfl rfl 0 (by decide) (hts (.fieldLink RX12 80 "OverHillModel" "thrown" "I") (by decide +kernel)) (fun _ h9 => h9) rfl (by decide +kernel) rfl rfl (Nat.le_of_ble_eq_true rfl) dX12_listen_2 (fun H locs hP hD hS => ?_)
  have hP : va_P D vwCl [mo h r 0 0, ((r 16), .inl (cI, 5, .inl (fun _ => 0)))] H := hP
  have hD : va_D A [mo h r 0 0, ((r 16), .inl (cI, 5, .inl (fun _ => 0)))] := hD
  refine lv_aload_n hx hb dX12_listen_5 rfl (lv_at hl 0 rfl) ?_
  refine lv_iload_n hx hb dX12_listen_6 rfl (lv_at hl 1 rfl) ?_
  refine lv_iload_n hx hb dX12_listen_7 rfl (lv_at hl 2 rfl) ?_
  refine ct_calli (D := D) (wc := (w_c_X12_whyNot cI cJ cB cZ cO h r)) (wr := []) (va_runV (As := [.int x1, .int x2]) (rest := []) ⟨hx, hb, hml, hown, hts⟩ (c_X12_whyNot l D cI cJ cB cZ cO h r x1 x2 H.size) (cwV 2 hts gX12_listen_X12_whyNot rfl rfl rfl (by decide +kernel) ⟨Nat.le_of_ble_eq_true rfl, Nat.le_of_ble_eq_true rfl⟩) (ct_preV (T := ct_T cI cJ cB cZ cO) (ci := 12) (q0 := 0) hE hP hD [0, 1] (by decide) rfl rfl rfl) rfl rfl hl.1 rfl (lv_room (Nat.le_of_ble_eq_true rfl)) dX12_listen_8 ⟨Nat.le_of_ble_eq_true rfl, Nat.le_of_ble_eq_true rfl⟩) hP hD hS hA [0, 1] [] rfl rfl (by decide) (by decide) (fun rz u H locs hw hP hD hS => ?_)
  have hP : va_P D vwCl [] H := hP
  have hD : va_D A [] := hD
  obtain ⟨rfl, hq312⟩ := hw
  refine lv_istore_n (lv' := [(3, .int (-2)), (0, .ref h), (1, .int x1), (2, .int x2)]) hx hb dX12_listen_11 rfl hl (by decide) rfl (fun ls hl => ?_)
  refine lv_iload_n hx hb dX12_listen_12 rfl (lv_at hl 0 rfl) ?_
  refine lv_if_eq (tgt := 20) hx hb dX12_listen_13 (by decide) (fun hc => absurd hc (by decide)) (fun _ => ?_)
  refine lv_iload_n hx hb dX12_listen_16 rfl (lv_at hl 0 rfl) ?_
  refine lv_goto (tgt := 26) hx hb dX12_listen_17 (by decide) ?_
  have hP9 := hP.sub (ws' := []) [] rfl
  have hD9 := hD.sub (ws' := []) [] (by decide) rfl
  exact W.iret (v := (-2)) hx hb hr (fun t ht hW => ⟨⟨(-2), (), rfl, ⟨rfl, trivial⟩, by rw [ht]; exact hP9, hD9⟩, hS.F ht⟩) hS.2.2 dX12_listen_26
abbrev w_c_X12_leaves (cI cJ cB cZ cO : ClassId) (h : Nat) (r : Nat → Nat) : va_W := [mo h r 0 0, ((r 16), .inl (cI, 5, .inl (fun _ => 0)))]
set_option maxHeartbeats 4000000 in
set_option maxRecDepth 100000 in
/-- leaves, of the reference, on a new object -/
theorem c_X12_leaves (l : Launch) (D : va_G) (cI cJ cB cZ cO : ClassId) (h : Nat) (r : Nat → Nat) (x1 : Int32) (x2 : Int32) (sz : Nat) : Met l yX12_leaves wsX12_leaves ({ frames := 3, cells := 0, slots := 0, locals := 68 }) (va_Pc [.ref h, .int x1, .int x2] (ct_P D (ct_T cI cJ cB cZ cO) (w_c_X12_leaves cI cJ cB cZ cO h r) sz)) (va_Qi (fun (rz : Int32) (u : Unit) => (rz = (-2) ∧ True)) (fun (u : Unit) t => ct_Q D (va_A (w_c_X12_leaves cI cJ cB cZ cO h r) sz) [] t) (va_A (w_c_X12_leaves cI cJ cB cZ cO h r) sz)) 0 0 (va_A (w_c_X12_leaves cI cJ cB cZ cO h r) sz) := by
  refine Met.ofW (cc := cX12_leaves) (maxL := 4) (ret := (some .int)) (by decide) rfl ?_
  intro p e s m args below meth c s₁ B hml hv
  obtain ⟨rfl, hsz, hP, hE, hD0⟩ := hv
  have hx := B.exec
  have hb := B.bytes
  have hr := B.returns
  have hts := atoms_spec (ws := wsX12_leaves) B.pre
  have hown : s.vm.findClass RX12 = some m.cls := findClass_of_methodNamed B.named
  have hlocks := B.notSynchronized
  have hK := hE.1
  have hi12 : ∀ w ∈ u_ws RX12 TX12 45, w ∈ wsX12_leaves := fun w h => List.mem_cons_of_mem _ (List.mem_append_right _ h)
  subst hsz
  have hD := hD0.self (sz := s.heap.size)
  generalize hAe : va_A (w_c_X12_leaves cI cJ cB cZ cO h r) s.heap.size = A at hD ⊢
  have hA : ∀ q : Nat, s.heap.size ≤ q → A q := fun q h => by rw [← hAe]; exact Or.inr h
  have hS : va_S A s.heap s.heap [] := va_S.rf
  have hP : va_P D vwCl [mo h r 0 0, ((r 16), .inl (cI, 5, .inl (fun _ => 0)))] s.heap := hP
  have hD : va_D A [mo h r 0 0, ((r 16), .inl (cI, 5, .inl (fun _ => 0)))] := hD
  have hl := lv_entry ([.ref h, .int x1, .int x2]) (n := 4) (Nat.le_of_ble_eq_true rfl)
  rw [lg_entry_eq]
  generalize (lg_sl ([.ref h, .int x1, .int x2]) ++ List.replicate (4 - (lg_sl ([.ref h, .int x1, .int x2])).length) Slot.unset).toArray = ls at hl ⊢
  have hl : lv_has ls 4 [(0, .ref h), (1, .int x1), (2, .int x2)] := hl
  obtain ⟨H, hHe⟩ : ∃ H : Heap, H = s.heap := ⟨_, rfl⟩
  rw [← hHe] at hP
  have hS : va_S A s.heap H [] := by rw [hHe]; exact va_S.rf
  refine ct_start hHe ?_
  refine lv_aload_n hx hb dX12_leaves_0 rfl (lv_at hl 0 rfl) ?_
  refine lv_iconst (v := 0) hx hb dX12_leaves_1 (by decide) ?_
  refine va_put (D := D) (ci := 12) (v := .int 0) (ty := .int) (C := RX12) (T := TX12) (N := 45) hx hb hts hi12 tyX12 tyX12_ok nmX12 hown hK hP hD hS 0 rfl rfl 0 (by decide) (hts (.fieldLink RX12 80 "OverHillModel" "thrown" "I") (by decide +kernel)) (fun _ h9 => h9) rfl (by decide +kernel) rfl rfl (Nat.le_of_ble_eq_true rfl) dX12_leaves_2 (fun H locs hP hD hS => ?_)
  have hP : va_P D vwCl [mo h r 0 0, ((r 16), .inl (cI, 5, .inl (fun _ => 0)))] H := hP
  have hD : va_D A [mo h r 0 0, ((r 16), .inl (cI, 5, .inl (fun _ => 0)))] := hD
  refine lv_aload_n hx hb dX12_leaves_5 rfl (lv_at hl 0 rfl) ?_
  refine lv_iload_n hx hb dX12_leaves_6 rfl (lv_at hl 1 rfl) ?_
  refine lv_iload_n hx hb dX12_leaves_7 rfl (lv_at hl 2 rfl) ?_
  refine ct_calli (D := D) (wc := (w_c_X12_whyNot cI cJ cB cZ cO h r)) (wr := []) (va_runV (As := [.int x1, .int x2]) (rest := []) ⟨hx, hb, hml, hown, hts⟩ (c_X12_whyNot l D cI cJ cB cZ cO h r x1 x2 H.size) (cwV 2 hts gX12_leaves_X12_whyNot rfl rfl rfl (by decide +kernel) ⟨Nat.le_of_ble_eq_true rfl, Nat.le_of_ble_eq_true rfl⟩) (ct_preV (T := ct_T cI cJ cB cZ cO) (ci := 12) (q0 := 0) hE hP hD [0, 1] (by decide) rfl rfl rfl) rfl rfl hl.1 rfl (lv_room (Nat.le_of_ble_eq_true rfl)) dX12_leaves_8 ⟨Nat.le_of_ble_eq_true rfl, Nat.le_of_ble_eq_true rfl⟩) hP hD hS hA [0, 1] [] rfl rfl (by decide) (by decide) (fun rz u H locs hw hP hD hS => ?_)
  have hP : va_P D vwCl [] H := hP
  have hD : va_D A [] := hD
  obtain ⟨rfl, hq313⟩ := hw
  refine lv_istore_n (lv' := [(3, .int (-2)), (0, .ref h), (1, .int x1), (2, .int x2)]) hx hb dX12_leaves_11 rfl hl (by decide) rfl (fun ls hl => ?_)
  refine lv_iload_n hx hb dX12_leaves_12 rfl (lv_at hl 0 rfl) ?_
  refine lv_if_eq (tgt := 18) hx hb dX12_leaves_13 (by decide) (fun hc => absurd hc (by decide)) (fun _ => ?_)
  refine lv_iload_n hx hb dX12_leaves_16 rfl (lv_at hl 0 rfl) ?_
  have hP9 := hP.sub (ws' := []) [] rfl
  have hD9 := hD.sub (ws' := []) [] (by decide) rfl
  exact W.iret (v := (-2)) hx hb hr (fun t ht hW => ⟨⟨(-2), (), rfl, ⟨rfl, trivial⟩, by rw [ht]; exact hP9, hD9⟩, hS.F ht⟩) hS.2.2 dX12_leaves_17
abbrev w_c_X12_crosses (cI cJ cB cZ cO : ClassId) (h : Nat) (r : Nat → Nat) : va_W := [mo h r 0 0, ((r 16), .inl (cI, 5, .inl (fun _ => 0)))]
set_option maxHeartbeats 4000000 in
set_option maxRecDepth 100000 in
/-- crosses, of the reference, on a new object -/
theorem c_X12_crosses (l : Launch) (D : va_G) (cI cJ cB cZ cO : ClassId) (h : Nat) (r : Nat → Nat) (x1 : Int32) (sz : Nat) : Met l yX12_crosses wsX12_crosses ({ frames := 1, cells := 0, slots := 0, locals := 20 }) (va_Pc [.ref h, .int x1] (ct_P D (ct_T cI cJ cB cZ cO) (w_c_X12_crosses cI cJ cB cZ cO h r) sz)) (va_Qi (fun (rz : Int32) (u : Unit) => (rz = (-2) ∧ True)) (fun (u : Unit) t => ct_Q D (va_A (w_c_X12_crosses cI cJ cB cZ cO h r) sz) [] t) (va_A (w_c_X12_crosses cI cJ cB cZ cO h r) sz)) 0 0 (va_A (w_c_X12_crosses cI cJ cB cZ cO h r) sz) := by
  refine Met.ofW (cc := cX12_crosses) (maxL := 2) (ret := (some .int)) (by decide) rfl ?_
  intro p e s m args below meth c s₁ B hml hv
  obtain ⟨rfl, hsz, hP, hE, hD0⟩ := hv
  have hx := B.exec
  have hb := B.bytes
  have hr := B.returns
  have hts := atoms_spec (ws := wsX12_crosses) B.pre
  have hown : s.vm.findClass RX12 = some m.cls := findClass_of_methodNamed B.named
  have hlocks := B.notSynchronized
  have hK := hE.1
  have hi12 : ∀ w ∈ u_ws RX12 TX12 45, w ∈ wsX12_crosses := fun w h => List.mem_cons_of_mem _ (List.mem_append_right _ h)
  subst hsz
  have hD := hD0.self (sz := s.heap.size)
  generalize hAe : va_A (w_c_X12_crosses cI cJ cB cZ cO h r) s.heap.size = A at hD ⊢
  have hA : ∀ q : Nat, s.heap.size ≤ q → A q := fun q h => by rw [← hAe]; exact Or.inr h
  have hS : va_S A s.heap s.heap [] := va_S.rf
  have hP : va_P D vwCl [mo h r 0 0, ((r 16), .inl (cI, 5, .inl (fun _ => 0)))] s.heap := hP
  have hD : va_D A [mo h r 0 0, ((r 16), .inl (cI, 5, .inl (fun _ => 0)))] := hD
  have hl := lv_entry ([.ref h, .int x1]) (n := 2) (Nat.le_of_ble_eq_true rfl)
  rw [lg_entry_eq]
  generalize (lg_sl ([.ref h, .int x1]) ++ List.replicate (2 - (lg_sl ([.ref h, .int x1])).length) Slot.unset).toArray = ls at hl ⊢
  have hl : lv_has ls 2 [(0, .ref h), (1, .int x1)] := hl
  obtain ⟨H, hHe⟩ : ∃ H : Heap, H = s.heap := ⟨_, rfl⟩
  rw [← hHe] at hP
  have hS : va_S A s.heap H [] := by rw [hHe]; exact va_S.rf
  refine ct_start hHe ?_
  refine lv_aload_n hx hb dX12_crosses_0 rfl (lv_at hl 0 rfl) ?_
  refine lv_iconst (v := 0) hx hb dX12_crosses_1 (by decide) ?_
  refine va_put (D := D) (ci := 12) (v := .int 0) (ty := .int) (C := RX12) (T := TX12) (N := 45) hx hb hts hi12 tyX12 tyX12_ok nmX12 hown hK hP hD hS 0 rfl rfl 0 (by decide) (hts (.fieldLink RX12 80 "OverHillModel" "thrown" "I") (by decide +kernel)) (fun _ h9 => h9) rfl (by decide +kernel) rfl rfl (Nat.le_of_ble_eq_true rfl) dX12_crosses_2 (fun H locs hP hD hS => ?_)
  have hP : va_P D vwCl [mo h r 0 0, ((r 16), .inl (cI, 5, .inl (fun _ => 0)))] H := hP
  have hD : va_D A [mo h r 0 0, ((r 16), .inl (cI, 5, .inl (fun _ => 0)))] := hD
  refine lv_aload_n hx hb dX12_crosses_5 rfl (lv_at hl 0 rfl) ?_
  refine ct_calli (D := D) (wc := (w_c_X12_isDance cI cJ cB cZ cO h r)) (wr := []) (va_runV (As := []) (rest := []) ⟨hx, hb, hml, hown, hts⟩ (c_X12_isDance l D cI cJ cB cZ cO h r H.size) (cwV 0 hts gX12_crosses_X12_isDance rfl rfl rfl (by decide +kernel) ⟨Nat.le_of_ble_eq_true rfl, Nat.le_of_ble_eq_true rfl⟩) (ct_preV (T := ct_T cI cJ cB cZ cO) (ci := 12) (q0 := 0) hE hP hD [0, 1] (by decide) rfl rfl rfl) rfl rfl hl.1 rfl (lv_room (Nat.le_of_ble_eq_true rfl)) dX12_crosses_6 ⟨Nat.le_of_ble_eq_true rfl, Nat.le_of_ble_eq_true rfl⟩) hP hD hS hA [0, 1] [] rfl rfl (by decide) (by decide) (fun rz u H locs hw hP hD hS => ?_)
  have hP : va_P D vwCl [mo h r 0 0, ((r 16), .inl (cI, 5, .inl (fun _ => 0)))] H := hP
  have hD : va_D A [mo h r 0 0, ((r 16), .inl (cI, 5, .inl (fun _ => 0)))] := hD
  obtain ⟨rfl, hq314⟩ := hw
  refine lv_if_eq (tgt := 32) hx hb dX12_crosses_9 (by decide) (fun _ => ?_) (fun hc => absurd hc (by decide))
  refine lv_bipush (v := (-2)) hx hb dX12_crosses_32 (by decide) ?_
  have hP9 := hP.sub (ws' := []) [] rfl
  have hD9 := hD.sub (ws' := []) [] (by decide) rfl
  exact W.iret (v := (-2)) hx hb hr (fun t ht hW => ⟨⟨(-2), (), rfl, ⟨rfl, trivial⟩, by rw [ht]; exact hP9, hD9⟩, hS.F ht⟩) hS.2.2 dX12_crosses_34
abbrev w_c_X12_returns (cI cJ cB cZ cO : ClassId) (h : Nat) (r : Nat → Nat) : va_W := [mo h r 0 0, ((r 16), .inl (cI, 5, .inl (fun _ => 0)))]
set_option maxHeartbeats 4000000 in
set_option maxRecDepth 100000 in
/-- returns, of the reference, on a new object -/
theorem c_X12_returns (l : Launch) (D : va_G) (cI cJ cB cZ cO : ClassId) (h : Nat) (r : Nat → Nat) (x1 : Int32) (sz : Nat) : Met l yX12_returns wsX12_returns ({ frames := 1, cells := 0, slots := 0, locals := 20 }) (va_Pc [.ref h, .int x1] (ct_P D (ct_T cI cJ cB cZ cO) (w_c_X12_returns cI cJ cB cZ cO h r) sz)) (va_Qi (fun (rz : Int32) (u : Unit) => (rz = (-2) ∧ True)) (fun (u : Unit) t => ct_Q D (va_A (w_c_X12_returns cI cJ cB cZ cO h r) sz) [] t) (va_A (w_c_X12_returns cI cJ cB cZ cO h r) sz)) 0 0 (va_A (w_c_X12_returns cI cJ cB cZ cO h r) sz) := by
  refine Met.ofW (cc := cX12_returns) (maxL := 2) (ret := (some .int)) (by decide) rfl ?_
  intro p e s m args below meth c s₁ B hml hv
  obtain ⟨rfl, hsz, hP, hE, hD0⟩ := hv
  have hx := B.exec
  have hb := B.bytes
  have hr := B.returns
  have hts := atoms_spec (ws := wsX12_returns) B.pre
  have hown : s.vm.findClass RX12 = some m.cls := findClass_of_methodNamed B.named
  have hlocks := B.notSynchronized
  have hK := hE.1
  have hi12 : ∀ w ∈ u_ws RX12 TX12 45, w ∈ wsX12_returns := fun w h => List.mem_cons_of_mem _ (List.mem_append_right _ h)
  subst hsz
  have hD := hD0.self (sz := s.heap.size)
  generalize hAe : va_A (w_c_X12_returns cI cJ cB cZ cO h r) s.heap.size = A at hD ⊢
  have hA : ∀ q : Nat, s.heap.size ≤ q → A q := fun q h => by rw [← hAe]; exact Or.inr h
  have hS : va_S A s.heap s.heap [] := va_S.rf
  have hP : va_P D vwCl [mo h r 0 0, ((r 16), .inl (cI, 5, .inl (fun _ => 0)))] s.heap := hP
  have hD : va_D A [mo h r 0 0, ((r 16), .inl (cI, 5, .inl (fun _ => 0)))] := hD
  have hl := lv_entry ([.ref h, .int x1]) (n := 2) (Nat.le_of_ble_eq_true rfl)
  rw [lg_entry_eq]
  generalize (lg_sl ([.ref h, .int x1]) ++ List.replicate (2 - (lg_sl ([.ref h, .int x1])).length) Slot.unset).toArray = ls at hl ⊢
  have hl : lv_has ls 2 [(0, .ref h), (1, .int x1)] := hl
  obtain ⟨H, hHe⟩ : ∃ H : Heap, H = s.heap := ⟨_, rfl⟩
  rw [← hHe] at hP
  have hS : va_S A s.heap H [] := by rw [hHe]; exact va_S.rf
  refine ct_start hHe ?_
  refine lv_aload_n hx hb dX12_returns_0 rfl (lv_at hl 0 rfl) ?_
  refine lv_iconst (v := 0) hx hb dX12_returns_1 (by decide) ?_
  refine va_put (D := D) (ci := 12) (v := .int 0) (ty := .int) (C := RX12) (T := TX12) (N := 45) hx hb hts hi12 tyX12 tyX12_ok nmX12 hown hK hP hD hS 0 rfl rfl 0 (by decide) (hts (.fieldLink RX12 80 "OverHillModel" "thrown" "I") (by decide +kernel)) (fun _ h9 => h9) rfl (by decide +kernel) rfl rfl (Nat.le_of_ble_eq_true rfl) dX12_returns_2 (fun H locs hP hD hS => ?_)
  have hP : va_P D vwCl [mo h r 0 0, ((r 16), .inl (cI, 5, .inl (fun _ => 0)))] H := hP
  have hD : va_D A [mo h r 0 0, ((r 16), .inl (cI, 5, .inl (fun _ => 0)))] := hD
  refine lv_aload_n hx hb dX12_returns_5 rfl (lv_at hl 0 rfl) ?_
  refine ct_calli (D := D) (wc := (w_c_X12_isDance cI cJ cB cZ cO h r)) (wr := []) (va_runV (As := []) (rest := []) ⟨hx, hb, hml, hown, hts⟩ (c_X12_isDance l D cI cJ cB cZ cO h r H.size) (cwV 0 hts gX12_returns_X12_isDance rfl rfl rfl (by decide +kernel) ⟨Nat.le_of_ble_eq_true rfl, Nat.le_of_ble_eq_true rfl⟩) (ct_preV (T := ct_T cI cJ cB cZ cO) (ci := 12) (q0 := 0) hE hP hD [0, 1] (by decide) rfl rfl rfl) rfl rfl hl.1 rfl (lv_room (Nat.le_of_ble_eq_true rfl)) dX12_returns_6 ⟨Nat.le_of_ble_eq_true rfl, Nat.le_of_ble_eq_true rfl⟩) hP hD hS hA [0, 1] [] rfl rfl (by decide) (by decide) (fun rz u H locs hw hP hD hS => ?_)
  have hP : va_P D vwCl [mo h r 0 0, ((r 16), .inl (cI, 5, .inl (fun _ => 0)))] H := hP
  have hD : va_D A [mo h r 0 0, ((r 16), .inl (cI, 5, .inl (fun _ => 0)))] := hD
  obtain ⟨rfl, hq315⟩ := hw
  refine lv_if_eq (tgt := 32) hx hb dX12_returns_9 (by decide) (fun _ => ?_) (fun hc => absurd hc (by decide))
  refine lv_bipush (v := (-2)) hx hb dX12_returns_32 (by decide) ?_
  have hP9 := hP.sub (ws' := []) [] rfl
  have hD9 := hD.sub (ws' := []) [] (by decide) rfl
  exact W.iret (v := (-2)) hx hb hr (fun t ht hW => ⟨⟨(-2), (), rfl, ⟨rfl, trivial⟩, by rw [ht]; exact hP9, hD9⟩, hS.F ht⟩) hS.2.2 dX12_returns_34
abbrev w_c_X12_meet (cI cJ cB cZ cO : ClassId) (h : Nat) (r : Nat → Nat) : va_W := [mo h r 0 0, ((r 16), .inl (cI, 5, .inl (fun _ => 0)))]
set_option maxHeartbeats 4000000 in
set_option maxRecDepth 100000 in
/-- meet, of the reference, on a new object -/
theorem c_X12_meet (l : Launch) (D : va_G) (cI cJ cB cZ cO : ClassId) (h : Nat) (r : Nat → Nat) (x1 : Int32) (x2 : Int32) (sz : Nat) : Met l yX12_meet wsX12_meet ({ frames := 1, cells := 0, slots := 0, locals := 20 }) (va_Pc [.ref h, .int x1, .int x2] (ct_P D (ct_T cI cJ cB cZ cO) (w_c_X12_meet cI cJ cB cZ cO h r) sz)) (va_Qi (fun (rz : Int32) (u : Unit) => (rz = (-2) ∧ True)) (fun (u : Unit) t => ct_Q D (va_A (w_c_X12_meet cI cJ cB cZ cO h r) sz) [] t) (va_A (w_c_X12_meet cI cJ cB cZ cO h r) sz)) 0 0 (va_A (w_c_X12_meet cI cJ cB cZ cO h r) sz) := by
  refine Met.ofW (cc := cX12_meet) (maxL := 3) (ret := (some .int)) (by decide) rfl ?_
  intro p e s m args below meth c s₁ B hml hv
  obtain ⟨rfl, hsz, hP, hE, hD0⟩ := hv
  have hx := B.exec
  have hb := B.bytes
  have hr := B.returns
  have hts := atoms_spec (ws := wsX12_meet) B.pre
  have hown : s.vm.findClass RX12 = some m.cls := findClass_of_methodNamed B.named
  have hlocks := B.notSynchronized
  have hK := hE.1
  have hi12 : ∀ w ∈ u_ws RX12 TX12 45, w ∈ wsX12_meet := fun w h => List.mem_cons_of_mem _ (List.mem_append_right _ h)
  subst hsz
  have hD := hD0.self (sz := s.heap.size)
  generalize hAe : va_A (w_c_X12_meet cI cJ cB cZ cO h r) s.heap.size = A at hD ⊢
  have hA : ∀ q : Nat, s.heap.size ≤ q → A q := fun q h => by rw [← hAe]; exact Or.inr h
  have hS : va_S A s.heap s.heap [] := va_S.rf
  have hP : va_P D vwCl [mo h r 0 0, ((r 16), .inl (cI, 5, .inl (fun _ => 0)))] s.heap := hP
  have hD : va_D A [mo h r 0 0, ((r 16), .inl (cI, 5, .inl (fun _ => 0)))] := hD
  have hl := lv_entry ([.ref h, .int x1, .int x2]) (n := 3) (Nat.le_of_ble_eq_true rfl)
  rw [lg_entry_eq]
  generalize (lg_sl ([.ref h, .int x1, .int x2]) ++ List.replicate (3 - (lg_sl ([.ref h, .int x1, .int x2])).length) Slot.unset).toArray = ls at hl ⊢
  have hl : lv_has ls 3 [(0, .ref h), (1, .int x1), (2, .int x2)] := hl
  obtain ⟨H, hHe⟩ : ∃ H : Heap, H = s.heap := ⟨_, rfl⟩
  rw [← hHe] at hP
  have hS : va_S A s.heap H [] := by rw [hHe]; exact va_S.rf
  refine ct_start hHe ?_
  refine lv_aload_n hx hb dX12_meet_0 rfl (lv_at hl 0 rfl) ?_
  refine lv_iconst (v := 0) hx hb dX12_meet_1 (by decide) ?_
  refine va_put (D := D) (ci := 12) (v := .int 0) (ty := .int) (C := RX12) (T := TX12) (N := 45) hx hb hts hi12 tyX12 tyX12_ok nmX12 hown hK hP hD hS 0 rfl rfl 0 (by decide) (hts (.fieldLink RX12 80 "OverHillModel" "thrown" "I") (by decide +kernel)) (fun _ h9 => h9) rfl (by decide +kernel) rfl rfl (Nat.le_of_ble_eq_true rfl) dX12_meet_2 (fun H locs hP hD hS => ?_)
  have hP : va_P D vwCl [mo h r 0 0, ((r 16), .inl (cI, 5, .inl (fun _ => 0)))] H := hP
  have hD : va_D A [mo h r 0 0, ((r 16), .inl (cI, 5, .inl (fun _ => 0)))] := hD
  refine lv_aload_n hx hb dX12_meet_5 rfl (lv_at hl 0 rfl) ?_
  refine ct_calli (D := D) (wc := (w_c_X12_isDance cI cJ cB cZ cO h r)) (wr := []) (va_runV (As := []) (rest := []) ⟨hx, hb, hml, hown, hts⟩ (c_X12_isDance l D cI cJ cB cZ cO h r H.size) (cwV 0 hts gX12_meet_X12_isDance rfl rfl rfl (by decide +kernel) ⟨Nat.le_of_ble_eq_true rfl, Nat.le_of_ble_eq_true rfl⟩) (ct_preV (T := ct_T cI cJ cB cZ cO) (ci := 12) (q0 := 0) hE hP hD [0, 1] (by decide) rfl rfl rfl) rfl rfl hl.1 rfl (lv_room (Nat.le_of_ble_eq_true rfl)) dX12_meet_6 ⟨Nat.le_of_ble_eq_true rfl, Nat.le_of_ble_eq_true rfl⟩) hP hD hS hA [0, 1] [] rfl rfl (by decide) (by decide) (fun rz u H locs hw hP hD hS => ?_)
  have hP : va_P D vwCl [mo h r 0 0, ((r 16), .inl (cI, 5, .inl (fun _ => 0)))] H := hP
  have hD : va_D A [mo h r 0 0, ((r 16), .inl (cI, 5, .inl (fun _ => 0)))] := hD
  obtain ⟨rfl, hq316⟩ := hw
  refine lv_if_eq (tgt := 28) hx hb dX12_meet_9 (by decide) (fun _ => ?_) (fun hc => absurd hc (by decide))
  refine lv_bipush (v := (-2)) hx hb dX12_meet_28 (by decide) ?_
  have hP9 := hP.sub (ws' := []) [] rfl
  have hD9 := hD.sub (ws' := []) [] (by decide) rfl
  exact W.iret (v := (-2)) hx hb hr (fun t ht hW => ⟨⟨(-2), (), rfl, ⟨rfl, trivial⟩, by rw [ht]; exact hP9, hD9⟩, hS.F ht⟩) hS.2.2 dX12_meet_30
abbrev w_c_X12_cell (cI cJ cB cZ cO : ClassId) (h : Nat) (r : Nat → Nat) : va_W := [mo h r 0 0, ((r 16), .inl (cI, 5, .inl (fun _ => 0)))]
set_option maxHeartbeats 4000000 in
set_option maxRecDepth 100000 in
/-- cell, of the reference, on a new object -/
theorem c_X12_cell (l : Launch) (D : va_G) (cI cJ cB cZ cO : ClassId) (h : Nat) (r : Nat → Nat) (x1 : Int32) (x2 : Int32) (sz : Nat) : Met l yX12_cell wsX12_cell ({ frames := 1, cells := 0, slots := 0, locals := 20 }) (va_Pc [.ref h, .int x1, .int x2] (ct_P D (ct_T cI cJ cB cZ cO) (w_c_X12_cell cI cJ cB cZ cO h r) sz)) (va_Qi (fun (rz : Int32) (u : Unit) => (rz = (-2) ∧ True)) (fun (u : Unit) t => ct_Q D (va_A (w_c_X12_cell cI cJ cB cZ cO h r) sz) [] t) (va_A (w_c_X12_cell cI cJ cB cZ cO h r) sz)) 0 0 (va_A (w_c_X12_cell cI cJ cB cZ cO h r) sz) := by
  refine Met.ofW (cc := cX12_cell) (maxL := 3) (ret := (some .int)) (by decide) rfl ?_
  intro p e s m args below meth c s₁ B hml hv
  obtain ⟨rfl, hsz, hP, hE, hD0⟩ := hv
  have hx := B.exec
  have hb := B.bytes
  have hr := B.returns
  have hts := atoms_spec (ws := wsX12_cell) B.pre
  have hown : s.vm.findClass RX12 = some m.cls := findClass_of_methodNamed B.named
  have hlocks := B.notSynchronized
  have hK := hE.1
  have hi12 : ∀ w ∈ u_ws RX12 TX12 45, w ∈ wsX12_cell := fun w h => List.mem_cons_of_mem _ (List.mem_append_right _ h)
  subst hsz
  have hD := hD0.self (sz := s.heap.size)
  generalize hAe : va_A (w_c_X12_cell cI cJ cB cZ cO h r) s.heap.size = A at hD ⊢
  have hA : ∀ q : Nat, s.heap.size ≤ q → A q := fun q h => by rw [← hAe]; exact Or.inr h
  have hS : va_S A s.heap s.heap [] := va_S.rf
  have hP : va_P D vwCl [mo h r 0 0, ((r 16), .inl (cI, 5, .inl (fun _ => 0)))] s.heap := hP
  have hD : va_D A [mo h r 0 0, ((r 16), .inl (cI, 5, .inl (fun _ => 0)))] := hD
  have hl := lv_entry ([.ref h, .int x1, .int x2]) (n := 3) (Nat.le_of_ble_eq_true rfl)
  rw [lg_entry_eq]
  generalize (lg_sl ([.ref h, .int x1, .int x2]) ++ List.replicate (3 - (lg_sl ([.ref h, .int x1, .int x2])).length) Slot.unset).toArray = ls at hl ⊢
  have hl : lv_has ls 3 [(0, .ref h), (1, .int x1), (2, .int x2)] := hl
  obtain ⟨H, hHe⟩ : ∃ H : Heap, H = s.heap := ⟨_, rfl⟩
  rw [← hHe] at hP
  have hS : va_S A s.heap H [] := by rw [hHe]; exact va_S.rf
  refine ct_start hHe ?_
  refine lv_aload_n hx hb dX12_cell_0 rfl (lv_at hl 0 rfl) ?_
  refine lv_iconst (v := 0) hx hb dX12_cell_1 (by decide) ?_
  refine va_put (D := D) (ci := 12) (v := .int 0) (ty := .int) (C := RX12) (T := TX12) (N := 45) hx hb hts hi12 tyX12 tyX12_ok nmX12 hown hK hP hD hS 0 rfl rfl 0 (by decide) (hts (.fieldLink RX12 80 "OverHillModel" "thrown" "I") (by decide +kernel)) (fun _ h9 => h9) rfl (by decide +kernel) rfl rfl (Nat.le_of_ble_eq_true rfl) dX12_cell_2 (fun H locs hP hD hS => ?_)
  have hP : va_P D vwCl [mo h r 0 0, ((r 16), .inl (cI, 5, .inl (fun _ => 0)))] H := hP
  have hD : va_D A [mo h r 0 0, ((r 16), .inl (cI, 5, .inl (fun _ => 0)))] := hD
  refine lv_aload_n hx hb dX12_cell_5 rfl (lv_at hl 0 rfl) ?_
  refine ct_calli (D := D) (wc := (w_c_X12_isDance cI cJ cB cZ cO h r)) (wr := []) (va_runV (As := []) (rest := []) ⟨hx, hb, hml, hown, hts⟩ (c_X12_isDance l D cI cJ cB cZ cO h r H.size) (cwV 0 hts gX12_cell_X12_isDance rfl rfl rfl (by decide +kernel) ⟨Nat.le_of_ble_eq_true rfl, Nat.le_of_ble_eq_true rfl⟩) (ct_preV (T := ct_T cI cJ cB cZ cO) (ci := 12) (q0 := 0) hE hP hD [0, 1] (by decide) rfl rfl rfl) rfl rfl hl.1 rfl (lv_room (Nat.le_of_ble_eq_true rfl)) dX12_cell_6 ⟨Nat.le_of_ble_eq_true rfl, Nat.le_of_ble_eq_true rfl⟩) hP hD hS hA [0, 1] [] rfl rfl (by decide) (by decide) (fun rz u H locs hw hP hD hS => ?_)
  have hP : va_P D vwCl [mo h r 0 0, ((r 16), .inl (cI, 5, .inl (fun _ => 0)))] H := hP
  have hD : va_D A [mo h r 0 0, ((r 16), .inl (cI, 5, .inl (fun _ => 0)))] := hD
  obtain ⟨rfl, hq317⟩ := hw
  refine lv_if_eq (tgt := 28) hx hb dX12_cell_9 (by decide) (fun _ => ?_) (fun hc => absurd hc (by decide))
  refine lv_bipush (v := (-2)) hx hb dX12_cell_28 (by decide) ?_
  have hP9 := hP.sub (ws' := []) [] rfl
  have hD9 := hD.sub (ws' := []) [] (by decide) rfl
  exact W.iret (v := (-2)) hx hb hr (fun t ht hW => ⟨⟨(-2), (), rfl, ⟨rfl, trivial⟩, by rw [ht]; exact hP9, hD9⟩, hS.F ht⟩) hS.2.2 dX12_cell_30
abbrev w_c_X12_longest (cI cJ cB cZ cO : ClassId) (h : Nat) (r : Nat → Nat) : va_W := [mo h r 0 0, ((r 16), .inl (cI, 5, .inl (fun _ => 0)))]
set_option maxHeartbeats 4000000 in
set_option maxRecDepth 100000 in
/-- longest, of the reference, on a new object -/
theorem c_X12_longest (l : Launch) (D : va_G) (cI cJ cB cZ cO : ClassId) (h : Nat) (r : Nat → Nat) (sz : Nat) : Met l yX12_longest wsX12_longest ({ frames := 1, cells := 0, slots := 0, locals := 20 }) (va_Pc [.ref h] (ct_P D (ct_T cI cJ cB cZ cO) (w_c_X12_longest cI cJ cB cZ cO h r) sz)) (va_Qi (fun (rz : Int32) (u : Unit) => (rz = (-2) ∧ True)) (fun (u : Unit) t => ct_Q D (va_A (w_c_X12_longest cI cJ cB cZ cO h r) sz) [] t) (va_A (w_c_X12_longest cI cJ cB cZ cO h r) sz)) 0 0 (va_A (w_c_X12_longest cI cJ cB cZ cO h r) sz) := by
  refine Met.ofW (cc := cX12_longest) (maxL := 4) (ret := (some .int)) (by decide) rfl ?_
  intro p e s m args below meth c s₁ B hml hv
  obtain ⟨rfl, hsz, hP, hE, hD0⟩ := hv
  have hx := B.exec
  have hb := B.bytes
  have hr := B.returns
  have hts := atoms_spec (ws := wsX12_longest) B.pre
  have hown : s.vm.findClass RX12 = some m.cls := findClass_of_methodNamed B.named
  have hlocks := B.notSynchronized
  have hK := hE.1
  have hi12 : ∀ w ∈ u_ws RX12 TX12 45, w ∈ wsX12_longest := fun w h => List.mem_cons_of_mem _ (List.mem_append_right _ h)
  subst hsz
  have hD := hD0.self (sz := s.heap.size)
  generalize hAe : va_A (w_c_X12_longest cI cJ cB cZ cO h r) s.heap.size = A at hD ⊢
  have hA : ∀ q : Nat, s.heap.size ≤ q → A q := fun q h => by rw [← hAe]; exact Or.inr h
  have hS : va_S A s.heap s.heap [] := va_S.rf
  have hP : va_P D vwCl [mo h r 0 0, ((r 16), .inl (cI, 5, .inl (fun _ => 0)))] s.heap := hP
  have hD : va_D A [mo h r 0 0, ((r 16), .inl (cI, 5, .inl (fun _ => 0)))] := hD
  have hl := lv_entry ([.ref h]) (n := 4) (Nat.le_of_ble_eq_true rfl)
  rw [lg_entry_eq]
  generalize (lg_sl ([.ref h]) ++ List.replicate (4 - (lg_sl ([.ref h])).length) Slot.unset).toArray = ls at hl ⊢
  have hl : lv_has ls 4 [(0, .ref h)] := hl
  obtain ⟨H, hHe⟩ : ∃ H : Heap, H = s.heap := ⟨_, rfl⟩
  rw [← hHe] at hP
  have hS : va_S A s.heap H [] := by rw [hHe]; exact va_S.rf
  refine ct_start hHe ?_
  refine lv_aload_n hx hb dX12_longest_0 rfl (lv_at hl 0 rfl) ?_
  refine lv_iconst (v := 0) hx hb dX12_longest_1 (by decide) ?_
  refine va_put (D := D) (ci := 12) (v := .int 0) (ty := .int) (C := RX12) (T := TX12) (N := 45) hx hb hts hi12 tyX12 tyX12_ok nmX12 hown hK hP hD hS 0 rfl rfl 0 (by decide) (hts (.fieldLink RX12 80 "OverHillModel" "thrown" "I") (by decide +kernel)) (fun _ h9 => h9) rfl (by decide +kernel) rfl rfl (Nat.le_of_ble_eq_true rfl) dX12_longest_2 (fun H locs hP hD hS => ?_)
  have hP : va_P D vwCl [mo h r 0 0, ((r 16), .inl (cI, 5, .inl (fun _ => 0)))] H := hP
  have hD : va_D A [mo h r 0 0, ((r 16), .inl (cI, 5, .inl (fun _ => 0)))] := hD
  refine lv_aload_n hx hb dX12_longest_5 rfl (lv_at hl 0 rfl) ?_
  refine ct_calli (D := D) (wc := (w_c_X12_isDance cI cJ cB cZ cO h r)) (wr := []) (va_runV (As := []) (rest := []) ⟨hx, hb, hml, hown, hts⟩ (c_X12_isDance l D cI cJ cB cZ cO h r H.size) (cwV 0 hts gX12_longest_X12_isDance rfl rfl rfl (by decide +kernel) ⟨Nat.le_of_ble_eq_true rfl, Nat.le_of_ble_eq_true rfl⟩) (ct_preV (T := ct_T cI cJ cB cZ cO) (ci := 12) (q0 := 0) hE hP hD [0, 1] (by decide) rfl rfl rfl) rfl rfl hl.1 rfl (lv_room (Nat.le_of_ble_eq_true rfl)) dX12_longest_6 ⟨Nat.le_of_ble_eq_true rfl, Nat.le_of_ble_eq_true rfl⟩) hP hD hS hA [0, 1] [] rfl rfl (by decide) (by decide) (fun rz u H locs hw hP hD hS => ?_)
  have hP : va_P D vwCl [mo h r 0 0, ((r 16), .inl (cI, 5, .inl (fun _ => 0)))] H := hP
  have hD : va_D A [mo h r 0 0, ((r 16), .inl (cI, 5, .inl (fun _ => 0)))] := hD
  obtain ⟨rfl, hq318⟩ := hw
  refine lv_if_ne (tgt := 15) hx hb dX12_longest_9 (by decide) (fun hc => absurd hc (by decide)) (fun _ => ?_)
  refine lv_bipush (v := (-2)) hx hb dX12_longest_12 (by decide) ?_
  have hP9 := hP.sub (ws' := []) [] rfl
  have hD9 := hD.sub (ws' := []) [] (by decide) rfl
  exact W.iret (v := (-2)) hx hb hr (fun t ht hW => ⟨⟨(-2), (), rfl, ⟨rfl, trivial⟩, by rw [ht]; exact hP9, hD9⟩, hS.F ht⟩) hS.2.2 dX12_longest_14
abbrev w_c_X12_together (cI cJ cB cZ cO : ClassId) (h : Nat) (r : Nat → Nat) : va_W := [mo h r 0 0, ((r 16), .inl (cI, 5, .inl (fun _ => 0)))]
set_option maxHeartbeats 4000000 in
set_option maxRecDepth 100000 in
/-- together, of the reference, on a new object -/
theorem c_X12_together (l : Launch) (D : va_G) (cI cJ cB cZ cO : ClassId) (h : Nat) (r : Nat → Nat) (x1 : Int32) (x2 : Int32) (sz : Nat) : Met l yX12_together wsX12_together ({ frames := 2, cells := 0, slots := 0, locals := 41 }) (va_Pc [.ref h, .int x1, .int x2] (ct_P D (ct_T cI cJ cB cZ cO) (w_c_X12_together cI cJ cB cZ cO h r) sz)) (va_Ql (fun (rz : Int64) (u : Unit) => (rz = (-2) ∧ True)) (fun (u : Unit) t => ct_Q D (va_A (w_c_X12_together cI cJ cB cZ cO h r) sz) [] t) (va_A (w_c_X12_together cI cJ cB cZ cO h r) sz)) 0 0 (va_A (w_c_X12_together cI cJ cB cZ cO h r) sz) := by
  refine Met.ofW (cc := cX12_together) (maxL := 3) (ret := (some .long)) (by decide) rfl ?_
  intro p e s m args below meth c s₁ B hml hv
  obtain ⟨rfl, hsz, hP, hE, hD0⟩ := hv
  have hx := B.exec
  have hb := B.bytes
  have hr := B.returns
  have hts := atoms_spec (ws := wsX12_together) B.pre
  have hown : s.vm.findClass RX12 = some m.cls := findClass_of_methodNamed B.named
  have hlocks := B.notSynchronized
  have hK := hE.1
  have hi12 : ∀ w ∈ u_ws RX12 TX12 45, w ∈ wsX12_together := fun w h => List.mem_cons_of_mem _ (List.mem_append_right _ h)
  subst hsz
  have hD := hD0.self (sz := s.heap.size)
  generalize hAe : va_A (w_c_X12_together cI cJ cB cZ cO h r) s.heap.size = A at hD ⊢
  have hA : ∀ q : Nat, s.heap.size ≤ q → A q := fun q h => by rw [← hAe]; exact Or.inr h
  have hS : va_S A s.heap s.heap [] := va_S.rf
  have hP : va_P D vwCl [mo h r 0 0, ((r 16), .inl (cI, 5, .inl (fun _ => 0)))] s.heap := hP
  have hD : va_D A [mo h r 0 0, ((r 16), .inl (cI, 5, .inl (fun _ => 0)))] := hD
  have hl := lv_entry ([.ref h, .int x1, .int x2]) (n := 3) (Nat.le_of_ble_eq_true rfl)
  rw [lg_entry_eq]
  generalize (lg_sl ([.ref h, .int x1, .int x2]) ++ List.replicate (3 - (lg_sl ([.ref h, .int x1, .int x2])).length) Slot.unset).toArray = ls at hl ⊢
  have hl : lv_has ls 3 [(0, .ref h), (1, .int x1), (2, .int x2)] := hl
  obtain ⟨H, hHe⟩ : ∃ H : Heap, H = s.heap := ⟨_, rfl⟩
  rw [← hHe] at hP
  have hS : va_S A s.heap H [] := by rw [hHe]; exact va_S.rf
  refine ct_start hHe ?_
  refine lv_aload_n hx hb dX12_together_0 rfl (lv_at hl 0 rfl) ?_
  refine lv_iconst (v := 0) hx hb dX12_together_1 (by decide) ?_
  refine va_put (D := D) (ci := 12) (v := .int 0) (ty := .int) (C := RX12) (T := TX12) (N := 45) hx hb hts hi12 tyX12 tyX12_ok nmX12 hown hK hP hD hS 0 rfl rfl 0 (by decide) (hts (.fieldLink RX12 80 "OverHillModel" "thrown" "I") (by decide +kernel)) (fun _ h9 => h9) rfl (by decide +kernel) rfl rfl (Nat.le_of_ble_eq_true rfl) dX12_together_2 (fun H locs hP hD hS => ?_)
  have hP : va_P D vwCl [mo h r 0 0, ((r 16), .inl (cI, 5, .inl (fun _ => 0)))] H := hP
  have hD : va_D A [mo h r 0 0, ((r 16), .inl (cI, 5, .inl (fun _ => 0)))] := hD
  refine lv_aload_n hx hb dX12_together_5 rfl (lv_at hl 0 rfl) ?_
  refine lv_iload_n hx hb dX12_together_6 rfl (lv_at hl 1 rfl) ?_
  refine ct_calli (D := D) (wc := (w_c_X12_isSet cI cJ cB cZ cO h r)) (wr := []) (va_runV (As := [.int x1]) (rest := []) ⟨hx, hb, hml, hown, hts⟩ (c_X12_isSet l D cI cJ cB cZ cO h r x1 H.size) (cwV 1 hts gX12_together_X12_isSet rfl rfl rfl (by decide +kernel) ⟨Nat.le_of_ble_eq_true rfl, Nat.le_of_ble_eq_true rfl⟩) (ct_preV (T := ct_T cI cJ cB cZ cO) (ci := 12) (q0 := 0) hE hP hD [0, 1] (by decide) rfl rfl rfl) rfl rfl hl.1 rfl (lv_room (Nat.le_of_ble_eq_true rfl)) dX12_together_7 ⟨Nat.le_of_ble_eq_true rfl, Nat.le_of_ble_eq_true rfl⟩) hP hD hS hA [0, 1] [] rfl rfl (by decide) (by decide) (fun rz u H locs hw hP hD hS => ?_)
  have hP : va_P D vwCl [mo h r 0 0, ((r 16), .inl (cI, 5, .inl (fun _ => 0)))] H := hP
  have hD : va_D A [mo h r 0 0, ((r 16), .inl (cI, 5, .inl (fun _ => 0)))] := hD
  obtain ⟨rfl, hq319⟩ := hw
  refine lv_if_eq (tgt := 30) hx hb dX12_together_10 (by decide) (fun _ => ?_) (fun hc => absurd hc (by decide))
  refine lv_ldc2 (v := (-2)) hx hb hown (hts (.constantLong RX12 398 (-2)) (by decide +kernel)) dX12_together_30 ?_
  have hP9 := hP.sub (ws' := []) [] rfl
  have hD9 := hD.sub (ws' := []) [] (by decide) rfl
  exact W.lret (v := (-2)) hx hb hr (fun t ht hW => ⟨⟨(-2), (), rfl, ⟨rfl, trivial⟩, by rw [ht]; exact hP9, hD9⟩, hS.F ht⟩) hS.2.2 dX12_together_33
abbrev w_c_X12_again (cI cJ cB cZ cO : ClassId) (h : Nat) (r : Nat → Nat) : va_W := [mo h r 0 0, ((r 16), .inl (cI, 5, .inl (fun _ => 0)))]
set_option maxHeartbeats 4000000 in
set_option maxRecDepth 100000 in
/-- again, of the reference, on a new object -/
theorem c_X12_again (l : Launch) (D : va_G) (cI cJ cB cZ cO : ClassId) (h : Nat) (r : Nat → Nat) (x1 : Int32) (sz : Nat) : Met l yX12_again wsX12_again ({ frames := 2, cells := 0, slots := 0, locals := 41 }) (va_Pc [.ref h, .int x1] (ct_P D (ct_T cI cJ cB cZ cO) (w_c_X12_again cI cJ cB cZ cO h r) sz)) (va_Ql (fun (rz : Int64) (u : Unit) => (rz = (-2) ∧ True)) (fun (u : Unit) t => ct_Q D (va_A (w_c_X12_again cI cJ cB cZ cO h r) sz) [] t) (va_A (w_c_X12_again cI cJ cB cZ cO h r) sz)) 0 0 (va_A (w_c_X12_again cI cJ cB cZ cO h r) sz) := by
  refine Met.ofW (cc := cX12_again) (maxL := 2) (ret := (some .long)) (by decide) rfl ?_
  intro p e s m args below meth c s₁ B hml hv
  obtain ⟨rfl, hsz, hP, hE, hD0⟩ := hv
  have hx := B.exec
  have hb := B.bytes
  have hr := B.returns
  have hts := atoms_spec (ws := wsX12_again) B.pre
  have hown : s.vm.findClass RX12 = some m.cls := findClass_of_methodNamed B.named
  have hlocks := B.notSynchronized
  have hK := hE.1
  have hi12 : ∀ w ∈ u_ws RX12 TX12 45, w ∈ wsX12_again := fun w h => List.mem_cons_of_mem _ (List.mem_append_right _ h)
  subst hsz
  have hD := hD0.self (sz := s.heap.size)
  generalize hAe : va_A (w_c_X12_again cI cJ cB cZ cO h r) s.heap.size = A at hD ⊢
  have hA : ∀ q : Nat, s.heap.size ≤ q → A q := fun q h => by rw [← hAe]; exact Or.inr h
  have hS : va_S A s.heap s.heap [] := va_S.rf
  have hP : va_P D vwCl [mo h r 0 0, ((r 16), .inl (cI, 5, .inl (fun _ => 0)))] s.heap := hP
  have hD : va_D A [mo h r 0 0, ((r 16), .inl (cI, 5, .inl (fun _ => 0)))] := hD
  have hl := lv_entry ([.ref h, .int x1]) (n := 2) (Nat.le_of_ble_eq_true rfl)
  rw [lg_entry_eq]
  generalize (lg_sl ([.ref h, .int x1]) ++ List.replicate (2 - (lg_sl ([.ref h, .int x1])).length) Slot.unset).toArray = ls at hl ⊢
  have hl : lv_has ls 2 [(0, .ref h), (1, .int x1)] := hl
  obtain ⟨H, hHe⟩ : ∃ H : Heap, H = s.heap := ⟨_, rfl⟩
  rw [← hHe] at hP
  have hS : va_S A s.heap H [] := by rw [hHe]; exact va_S.rf
  refine ct_start hHe ?_
  refine lv_aload_n hx hb dX12_again_0 rfl (lv_at hl 0 rfl) ?_
  refine lv_iconst (v := 0) hx hb dX12_again_1 (by decide) ?_
  refine va_put (D := D) (ci := 12) (v := .int 0) (ty := .int) (C := RX12) (T := TX12) (N := 45) hx hb hts hi12 tyX12 tyX12_ok nmX12 hown hK hP hD hS 0 rfl rfl 0 (by decide) (hts (.fieldLink RX12 80 "OverHillModel" "thrown" "I") (by decide +kernel)) (fun _ h9 => h9) rfl (by decide +kernel) rfl rfl (Nat.le_of_ble_eq_true rfl) dX12_again_2 (fun H locs hP hD hS => ?_)
  have hP : va_P D vwCl [mo h r 0 0, ((r 16), .inl (cI, 5, .inl (fun _ => 0)))] H := hP
  have hD : va_D A [mo h r 0 0, ((r 16), .inl (cI, 5, .inl (fun _ => 0)))] := hD
  refine lv_aload_n hx hb dX12_again_5 rfl (lv_at hl 0 rfl) ?_
  refine lv_iload_n hx hb dX12_again_6 rfl (lv_at hl 1 rfl) ?_
  refine ct_calli (D := D) (wc := (w_c_X12_isSet cI cJ cB cZ cO h r)) (wr := []) (va_runV (As := [.int x1]) (rest := []) ⟨hx, hb, hml, hown, hts⟩ (c_X12_isSet l D cI cJ cB cZ cO h r x1 H.size) (cwV 1 hts gX12_again_X12_isSet rfl rfl rfl (by decide +kernel) ⟨Nat.le_of_ble_eq_true rfl, Nat.le_of_ble_eq_true rfl⟩) (ct_preV (T := ct_T cI cJ cB cZ cO) (ci := 12) (q0 := 0) hE hP hD [0, 1] (by decide) rfl rfl rfl) rfl rfl hl.1 rfl (lv_room (Nat.le_of_ble_eq_true rfl)) dX12_again_7 ⟨Nat.le_of_ble_eq_true rfl, Nat.le_of_ble_eq_true rfl⟩) hP hD hS hA [0, 1] [] rfl rfl (by decide) (by decide) (fun rz u H locs hw hP hD hS => ?_)
  have hP : va_P D vwCl [mo h r 0 0, ((r 16), .inl (cI, 5, .inl (fun _ => 0)))] H := hP
  have hD : va_D A [mo h r 0 0, ((r 16), .inl (cI, 5, .inl (fun _ => 0)))] := hD
  obtain ⟨rfl, hq320⟩ := hw
  refine lv_if_eq (tgt := 21) hx hb dX12_again_10 (by decide) (fun _ => ?_) (fun hc => absurd hc (by decide))
  refine lv_ldc2 (v := (-2)) hx hb hown (hts (.constantLong RX12 398 (-2)) (by decide +kernel)) dX12_again_21 ?_
  have hP9 := hP.sub (ws' := []) [] rfl
  have hD9 := hD.sub (ws' := []) [] (by decide) rfl
  exact W.lret (v := (-2)) hx hb hr (fun t ht hW => ⟨⟨(-2), (), rfl, ⟨rfl, trivial⟩, by rw [ht]; exact hP9, hD9⟩, hS.F ht⟩) hS.2.2 dX12_again_24
abbrev w_c_X12_most (cI cJ cB cZ cO : ClassId) (h : Nat) (r : Nat → Nat) : va_W := [mo h r 0 0, ((r 16), .inl (cI, 5, .inl (fun _ => 0)))]
set_option maxHeartbeats 4000000 in
set_option maxRecDepth 100000 in
/-- most, of the reference, on a new object -/
theorem c_X12_most (l : Launch) (D : va_G) (cI cJ cB cZ cO : ClassId) (h : Nat) (r : Nat → Nat) (sz : Nat) : Met l yX12_most wsX12_most ({ frames := 1, cells := 0, slots := 0, locals := 20 }) (va_Pc [.ref h] (ct_P D (ct_T cI cJ cB cZ cO) (w_c_X12_most cI cJ cB cZ cO h r) sz)) (va_Qi (fun (rz : Int32) (u : Unit) => (rz = (-2) ∧ True)) (fun (u : Unit) t => ct_Q D (va_A (w_c_X12_most cI cJ cB cZ cO h r) sz) [] t) (va_A (w_c_X12_most cI cJ cB cZ cO h r) sz)) 0 0 (va_A (w_c_X12_most cI cJ cB cZ cO h r) sz) := by
  refine Met.ofW (cc := cX12_most) (maxL := 1) (ret := (some .int)) (by decide) rfl ?_
  intro p e s m args below meth c s₁ B hml hv
  obtain ⟨rfl, hsz, hP, hE, hD0⟩ := hv
  have hx := B.exec
  have hb := B.bytes
  have hr := B.returns
  have hts := atoms_spec (ws := wsX12_most) B.pre
  have hown : s.vm.findClass RX12 = some m.cls := findClass_of_methodNamed B.named
  have hlocks := B.notSynchronized
  have hK := hE.1
  have hi12 : ∀ w ∈ u_ws RX12 TX12 45, w ∈ wsX12_most := fun w h => List.mem_cons_of_mem _ (List.mem_append_right _ h)
  subst hsz
  have hD := hD0.self (sz := s.heap.size)
  generalize hAe : va_A (w_c_X12_most cI cJ cB cZ cO h r) s.heap.size = A at hD ⊢
  have hA : ∀ q : Nat, s.heap.size ≤ q → A q := fun q h => by rw [← hAe]; exact Or.inr h
  have hS : va_S A s.heap s.heap [] := va_S.rf
  have hP : va_P D vwCl [mo h r 0 0, ((r 16), .inl (cI, 5, .inl (fun _ => 0)))] s.heap := hP
  have hD : va_D A [mo h r 0 0, ((r 16), .inl (cI, 5, .inl (fun _ => 0)))] := hD
  have hl := lv_entry ([.ref h]) (n := 1) (Nat.le_of_ble_eq_true rfl)
  rw [lg_entry_eq]
  generalize (lg_sl ([.ref h]) ++ List.replicate (1 - (lg_sl ([.ref h])).length) Slot.unset).toArray = ls at hl ⊢
  have hl : lv_has ls 1 [(0, .ref h)] := hl
  obtain ⟨H, hHe⟩ : ∃ H : Heap, H = s.heap := ⟨_, rfl⟩
  rw [← hHe] at hP
  have hS : va_S A s.heap H [] := by rw [hHe]; exact va_S.rf
  refine ct_start hHe ?_
  refine lv_aload_n hx hb dX12_most_0 rfl (lv_at hl 0 rfl) ?_
  refine lv_iconst (v := 0) hx hb dX12_most_1 (by decide) ?_
  refine va_put (D := D) (ci := 12) (v := .int 0) (ty := .int) (C := RX12) (T := TX12) (N := 45) hx hb hts hi12 tyX12 tyX12_ok nmX12 hown hK hP hD hS 0 rfl rfl 0 (by decide) (hts (.fieldLink RX12 80 "OverHillModel" "thrown" "I") (by decide +kernel)) (fun _ h9 => h9) rfl (by decide +kernel) rfl rfl (Nat.le_of_ble_eq_true rfl) dX12_most_2 (fun H locs hP hD hS => ?_)
  have hP : va_P D vwCl [mo h r 0 0, ((r 16), .inl (cI, 5, .inl (fun _ => 0)))] H := hP
  have hD : va_D A [mo h r 0 0, ((r 16), .inl (cI, 5, .inl (fun _ => 0)))] := hD
  refine lv_aload_n hx hb dX12_most_5 rfl (lv_at hl 0 rfl) ?_
  refine ct_calli (D := D) (wc := (w_c_X12_isDance cI cJ cB cZ cO h r)) (wr := []) (va_runV (As := []) (rest := []) ⟨hx, hb, hml, hown, hts⟩ (c_X12_isDance l D cI cJ cB cZ cO h r H.size) (cwV 0 hts gX12_most_X12_isDance rfl rfl rfl (by decide +kernel) ⟨Nat.le_of_ble_eq_true rfl, Nat.le_of_ble_eq_true rfl⟩) (ct_preV (T := ct_T cI cJ cB cZ cO) (ci := 12) (q0 := 0) hE hP hD [0, 1] (by decide) rfl rfl rfl) rfl rfl hl.1 rfl (lv_room (Nat.le_of_ble_eq_true rfl)) dX12_most_6 ⟨Nat.le_of_ble_eq_true rfl, Nat.le_of_ble_eq_true rfl⟩) hP hD hS hA [0, 1] [] rfl rfl (by decide) (by decide) (fun rz u H locs hw hP hD hS => ?_)
  have hP : va_P D vwCl [mo h r 0 0, ((r 16), .inl (cI, 5, .inl (fun _ => 0)))] H := hP
  have hD : va_D A [mo h r 0 0, ((r 16), .inl (cI, 5, .inl (fun _ => 0)))] := hD
  obtain ⟨rfl, hq321⟩ := hw
  refine lv_if_eq (tgt := 22) hx hb dX12_most_9 (by decide) (fun _ => ?_) (fun hc => absurd hc (by decide))
  refine lv_bipush (v := (-2)) hx hb dX12_most_22 (by decide) ?_
  have hP9 := hP.sub (ws' := []) [] rfl
  have hD9 := hD.sub (ws' := []) [] (by decide) rfl
  exact W.iret (v := (-2)) hx hb hr (fun t ht hW => ⟨⟨(-2), (), rfl, ⟨rfl, trivial⟩, by rw [ht]; exact hP9, hD9⟩, hS.F ht⟩) hS.2.2 dX12_most_24
abbrev w_c_X12_chorus (cI cJ cB cZ cO : ClassId) (h : Nat) (r : Nat → Nat) : va_W := [mo h r 0 0, ((r 16), .inl (cI, 5, .inl (fun _ => 0)))]
set_option maxHeartbeats 4000000 in
set_option maxRecDepth 100000 in
/-- chorus, of the reference, on a new object -/
theorem c_X12_chorus (l : Launch) (D : va_G) (cI cJ cB cZ cO : ClassId) (h : Nat) (r : Nat → Nat) (sz : Nat) : Met l yX12_chorus wsX12_chorus ({ frames := 1, cells := 0, slots := 0, locals := 20 }) (va_Pc [.ref h] (ct_P D (ct_T cI cJ cB cZ cO) (w_c_X12_chorus cI cJ cB cZ cO h r) sz)) (va_Qi (fun (rz : Int32) (u : Unit) => (rz = (-2) ∧ True)) (fun (u : Unit) t => ct_Q D (va_A (w_c_X12_chorus cI cJ cB cZ cO h r) sz) [] t) (va_A (w_c_X12_chorus cI cJ cB cZ cO h r) sz)) 0 0 (va_A (w_c_X12_chorus cI cJ cB cZ cO h r) sz) := by
  refine Met.ofW (cc := cX12_chorus) (maxL := 1) (ret := (some .int)) (by decide) rfl ?_
  intro p e s m args below meth c s₁ B hml hv
  obtain ⟨rfl, hsz, hP, hE, hD0⟩ := hv
  have hx := B.exec
  have hb := B.bytes
  have hr := B.returns
  have hts := atoms_spec (ws := wsX12_chorus) B.pre
  have hown : s.vm.findClass RX12 = some m.cls := findClass_of_methodNamed B.named
  have hlocks := B.notSynchronized
  have hK := hE.1
  have hi12 : ∀ w ∈ u_ws RX12 TX12 45, w ∈ wsX12_chorus := fun w h => List.mem_cons_of_mem _ (List.mem_append_right _ h)
  subst hsz
  have hD := hD0.self (sz := s.heap.size)
  generalize hAe : va_A (w_c_X12_chorus cI cJ cB cZ cO h r) s.heap.size = A at hD ⊢
  have hA : ∀ q : Nat, s.heap.size ≤ q → A q := fun q h => by rw [← hAe]; exact Or.inr h
  have hS : va_S A s.heap s.heap [] := va_S.rf
  have hP : va_P D vwCl [mo h r 0 0, ((r 16), .inl (cI, 5, .inl (fun _ => 0)))] s.heap := hP
  have hD : va_D A [mo h r 0 0, ((r 16), .inl (cI, 5, .inl (fun _ => 0)))] := hD
  have hl := lv_entry ([.ref h]) (n := 1) (Nat.le_of_ble_eq_true rfl)
  rw [lg_entry_eq]
  generalize (lg_sl ([.ref h]) ++ List.replicate (1 - (lg_sl ([.ref h])).length) Slot.unset).toArray = ls at hl ⊢
  have hl : lv_has ls 1 [(0, .ref h)] := hl
  obtain ⟨H, hHe⟩ : ∃ H : Heap, H = s.heap := ⟨_, rfl⟩
  rw [← hHe] at hP
  have hS : va_S A s.heap H [] := by rw [hHe]; exact va_S.rf
  refine ct_start hHe ?_
  refine lv_aload_n hx hb dX12_chorus_0 rfl (lv_at hl 0 rfl) ?_
  refine lv_iconst (v := 0) hx hb dX12_chorus_1 (by decide) ?_
  refine va_put (D := D) (ci := 12) (v := .int 0) (ty := .int) (C := RX12) (T := TX12) (N := 45) hx hb hts hi12 tyX12 tyX12_ok nmX12 hown hK hP hD hS 0 rfl rfl 0 (by decide) (hts (.fieldLink RX12 80 "OverHillModel" "thrown" "I") (by decide +kernel)) (fun _ h9 => h9) rfl (by decide +kernel) rfl rfl (Nat.le_of_ble_eq_true rfl) dX12_chorus_2 (fun H locs hP hD hS => ?_)
  have hP : va_P D vwCl [mo h r 0 0, ((r 16), .inl (cI, 5, .inl (fun _ => 0)))] H := hP
  have hD : va_D A [mo h r 0 0, ((r 16), .inl (cI, 5, .inl (fun _ => 0)))] := hD
  refine lv_aload_n hx hb dX12_chorus_5 rfl (lv_at hl 0 rfl) ?_
  refine ct_calli (D := D) (wc := (w_c_X12_isDance cI cJ cB cZ cO h r)) (wr := []) (va_runV (As := []) (rest := []) ⟨hx, hb, hml, hown, hts⟩ (c_X12_isDance l D cI cJ cB cZ cO h r H.size) (cwV 0 hts gX12_chorus_X12_isDance rfl rfl rfl (by decide +kernel) ⟨Nat.le_of_ble_eq_true rfl, Nat.le_of_ble_eq_true rfl⟩) (ct_preV (T := ct_T cI cJ cB cZ cO) (ci := 12) (q0 := 0) hE hP hD [0, 1] (by decide) rfl rfl rfl) rfl rfl hl.1 rfl (lv_room (Nat.le_of_ble_eq_true rfl)) dX12_chorus_6 ⟨Nat.le_of_ble_eq_true rfl, Nat.le_of_ble_eq_true rfl⟩) hP hD hS hA [0, 1] [] rfl rfl (by decide) (by decide) (fun rz u H locs hw hP hD hS => ?_)
  have hP : va_P D vwCl [mo h r 0 0, ((r 16), .inl (cI, 5, .inl (fun _ => 0)))] H := hP
  have hD : va_D A [mo h r 0 0, ((r 16), .inl (cI, 5, .inl (fun _ => 0)))] := hD
  obtain ⟨rfl, hq322⟩ := hw
  refine lv_if_eq (tgt := 19) hx hb dX12_chorus_9 (by decide) (fun _ => ?_) (fun hc => absurd hc (by decide))
  refine lv_bipush (v := (-2)) hx hb dX12_chorus_19 (by decide) ?_
  have hP9 := hP.sub (ws' := []) [] rfl
  have hD9 := hD.sub (ws' := []) [] (by decide) rfl
  exact W.iret (v := (-2)) hx hb hr (fun t ht hW => ⟨⟨(-2), (), rfl, ⟨rfl, trivial⟩, by rw [ht]; exact hP9, hD9⟩, hS.F ht⟩) hS.2.2 dX12_chorus_21
abbrev w_c_X12_treaties (cI cJ cB cZ cO : ClassId) (h : Nat) (r : Nat → Nat) : va_W := [mo h r 0 0, ((r 16), .inl (cI, 5, .inl (fun _ => 0)))]
set_option maxHeartbeats 4000000 in
set_option maxRecDepth 100000 in
/-- treaties, of the reference, on a new object -/
theorem c_X12_treaties (l : Launch) (D : va_G) (cI cJ cB cZ cO : ClassId) (h : Nat) (r : Nat → Nat) (sz : Nat) : Met l yX12_treaties wsX12_treaties ({ frames := 1, cells := 0, slots := 0, locals := 20 }) (va_Pc [.ref h] (ct_P D (ct_T cI cJ cB cZ cO) (w_c_X12_treaties cI cJ cB cZ cO h r) sz)) (va_Qi (fun (rz : Int32) (u : Unit) => (rz = (-2) ∧ True)) (fun (u : Unit) t => ct_Q D (va_A (w_c_X12_treaties cI cJ cB cZ cO h r) sz) [] t) (va_A (w_c_X12_treaties cI cJ cB cZ cO h r) sz)) 0 0 (va_A (w_c_X12_treaties cI cJ cB cZ cO h r) sz) := by
  refine Met.ofW (cc := cX12_treaties) (maxL := 4) (ret := (some .int)) (by decide) rfl ?_
  intro p e s m args below meth c s₁ B hml hv
  obtain ⟨rfl, hsz, hP, hE, hD0⟩ := hv
  have hx := B.exec
  have hb := B.bytes
  have hr := B.returns
  have hts := atoms_spec (ws := wsX12_treaties) B.pre
  have hown : s.vm.findClass RX12 = some m.cls := findClass_of_methodNamed B.named
  have hlocks := B.notSynchronized
  have hK := hE.1
  have hi12 : ∀ w ∈ u_ws RX12 TX12 45, w ∈ wsX12_treaties := fun w h => List.mem_cons_of_mem _ (List.mem_append_right _ h)
  subst hsz
  have hD := hD0.self (sz := s.heap.size)
  generalize hAe : va_A (w_c_X12_treaties cI cJ cB cZ cO h r) s.heap.size = A at hD ⊢
  have hA : ∀ q : Nat, s.heap.size ≤ q → A q := fun q h => by rw [← hAe]; exact Or.inr h
  have hS : va_S A s.heap s.heap [] := va_S.rf
  have hP : va_P D vwCl [mo h r 0 0, ((r 16), .inl (cI, 5, .inl (fun _ => 0)))] s.heap := hP
  have hD : va_D A [mo h r 0 0, ((r 16), .inl (cI, 5, .inl (fun _ => 0)))] := hD
  have hl := lv_entry ([.ref h]) (n := 4) (Nat.le_of_ble_eq_true rfl)
  rw [lg_entry_eq]
  generalize (lg_sl ([.ref h]) ++ List.replicate (4 - (lg_sl ([.ref h])).length) Slot.unset).toArray = ls at hl ⊢
  have hl : lv_has ls 4 [(0, .ref h)] := hl
  obtain ⟨H, hHe⟩ : ∃ H : Heap, H = s.heap := ⟨_, rfl⟩
  rw [← hHe] at hP
  have hS : va_S A s.heap H [] := by rw [hHe]; exact va_S.rf
  refine ct_start hHe ?_
  refine lv_aload_n hx hb dX12_treaties_0 rfl (lv_at hl 0 rfl) ?_
  refine lv_iconst (v := 0) hx hb dX12_treaties_1 (by decide) ?_
  refine va_put (D := D) (ci := 12) (v := .int 0) (ty := .int) (C := RX12) (T := TX12) (N := 45) hx hb hts hi12 tyX12 tyX12_ok nmX12 hown hK hP hD hS 0 rfl rfl 0 (by decide) (hts (.fieldLink RX12 80 "OverHillModel" "thrown" "I") (by decide +kernel)) (fun _ h9 => h9) rfl (by decide +kernel) rfl rfl (Nat.le_of_ble_eq_true rfl) dX12_treaties_2 (fun H locs hP hD hS => ?_)
  have hP : va_P D vwCl [mo h r 0 0, ((r 16), .inl (cI, 5, .inl (fun _ => 0)))] H := hP
  have hD : va_D A [mo h r 0 0, ((r 16), .inl (cI, 5, .inl (fun _ => 0)))] := hD
  refine lv_aload_n hx hb dX12_treaties_5 rfl (lv_at hl 0 rfl) ?_
  refine ct_calli (D := D) (wc := (w_c_X12_isDance cI cJ cB cZ cO h r)) (wr := []) (va_runV (As := []) (rest := []) ⟨hx, hb, hml, hown, hts⟩ (c_X12_isDance l D cI cJ cB cZ cO h r H.size) (cwV 0 hts gX12_treaties_X12_isDance rfl rfl rfl (by decide +kernel) ⟨Nat.le_of_ble_eq_true rfl, Nat.le_of_ble_eq_true rfl⟩) (ct_preV (T := ct_T cI cJ cB cZ cO) (ci := 12) (q0 := 0) hE hP hD [0, 1] (by decide) rfl rfl rfl) rfl rfl hl.1 rfl (lv_room (Nat.le_of_ble_eq_true rfl)) dX12_treaties_6 ⟨Nat.le_of_ble_eq_true rfl, Nat.le_of_ble_eq_true rfl⟩) hP hD hS hA [0, 1] [] rfl rfl (by decide) (by decide) (fun rz u H locs hw hP hD hS => ?_)
  have hP : va_P D vwCl [mo h r 0 0, ((r 16), .inl (cI, 5, .inl (fun _ => 0)))] H := hP
  have hD : va_D A [mo h r 0 0, ((r 16), .inl (cI, 5, .inl (fun _ => 0)))] := hD
  obtain ⟨rfl, hq323⟩ := hw
  refine lv_if_ne (tgt := 15) hx hb dX12_treaties_9 (by decide) (fun hc => absurd hc (by decide)) (fun _ => ?_)
  refine lv_bipush (v := (-2)) hx hb dX12_treaties_12 (by decide) ?_
  have hP9 := hP.sub (ws' := []) [] rfl
  have hD9 := hD.sub (ws' := []) [] (by decide) rfl
  exact W.iret (v := (-2)) hx hb hr (fun t ht hW => ⟨⟨(-2), (), rfl, ⟨rfl, trivial⟩, by rw [ht]; exact hP9, hD9⟩, hS.F ht⟩) hS.2.2 dX12_treaties_14
abbrev w_c_X12_leads (cI cJ cB cZ cO : ClassId) (h : Nat) (r : Nat → Nat) : va_W := [mo h r 0 0, ((r 16), .inl (cI, 5, .inl (fun _ => 0)))]
set_option maxHeartbeats 4000000 in
set_option maxRecDepth 100000 in
/-- leads, of the reference, on a new object -/
theorem c_X12_leads (l : Launch) (D : va_G) (cI cJ cB cZ cO : ClassId) (h : Nat) (r : Nat → Nat) (x1 : Int32) (sz : Nat) : Met l yX12_leads wsX12_leads ({ frames := 1, cells := 0, slots := 0, locals := 20 }) (va_Pc [.ref h, .int x1] (ct_P D (ct_T cI cJ cB cZ cO) (w_c_X12_leads cI cJ cB cZ cO h r) sz)) (va_Qi (fun (rz : Int32) (u : Unit) => (rz = (-2) ∧ True)) (fun (u : Unit) t => ct_Q D (va_A (w_c_X12_leads cI cJ cB cZ cO h r) sz) [] t) (va_A (w_c_X12_leads cI cJ cB cZ cO h r) sz)) 0 0 (va_A (w_c_X12_leads cI cJ cB cZ cO h r) sz) := by
  refine Met.ofW (cc := cX12_leads) (maxL := 4) (ret := (some .int)) (by decide) rfl ?_
  intro p e s m args below meth c s₁ B hml hv
  obtain ⟨rfl, hsz, hP, hE, hD0⟩ := hv
  have hx := B.exec
  have hb := B.bytes
  have hr := B.returns
  have hts := atoms_spec (ws := wsX12_leads) B.pre
  have hown : s.vm.findClass RX12 = some m.cls := findClass_of_methodNamed B.named
  have hlocks := B.notSynchronized
  have hK := hE.1
  have hi12 : ∀ w ∈ u_ws RX12 TX12 45, w ∈ wsX12_leads := fun w h => List.mem_cons_of_mem _ (List.mem_append_right _ h)
  subst hsz
  have hD := hD0.self (sz := s.heap.size)
  generalize hAe : va_A (w_c_X12_leads cI cJ cB cZ cO h r) s.heap.size = A at hD ⊢
  have hA : ∀ q : Nat, s.heap.size ≤ q → A q := fun q h => by rw [← hAe]; exact Or.inr h
  have hS : va_S A s.heap s.heap [] := va_S.rf
  have hP : va_P D vwCl [mo h r 0 0, ((r 16), .inl (cI, 5, .inl (fun _ => 0)))] s.heap := hP
  have hD : va_D A [mo h r 0 0, ((r 16), .inl (cI, 5, .inl (fun _ => 0)))] := hD
  have hl := lv_entry ([.ref h, .int x1]) (n := 4) (Nat.le_of_ble_eq_true rfl)
  rw [lg_entry_eq]
  generalize (lg_sl ([.ref h, .int x1]) ++ List.replicate (4 - (lg_sl ([.ref h, .int x1])).length) Slot.unset).toArray = ls at hl ⊢
  have hl : lv_has ls 4 [(0, .ref h), (1, .int x1)] := hl
  obtain ⟨H, hHe⟩ : ∃ H : Heap, H = s.heap := ⟨_, rfl⟩
  rw [← hHe] at hP
  have hS : va_S A s.heap H [] := by rw [hHe]; exact va_S.rf
  refine ct_start hHe ?_
  refine lv_aload_n hx hb dX12_leads_0 rfl (lv_at hl 0 rfl) ?_
  refine lv_iconst (v := 0) hx hb dX12_leads_1 (by decide) ?_
  refine va_put (D := D) (ci := 12) (v := .int 0) (ty := .int) (C := RX12) (T := TX12) (N := 45) hx hb hts hi12 tyX12 tyX12_ok nmX12 hown hK hP hD hS 0 rfl rfl 0 (by decide) (hts (.fieldLink RX12 80 "OverHillModel" "thrown" "I") (by decide +kernel)) (fun _ h9 => h9) rfl (by decide +kernel) rfl rfl (Nat.le_of_ble_eq_true rfl) dX12_leads_2 (fun H locs hP hD hS => ?_)
  have hP : va_P D vwCl [mo h r 0 0, ((r 16), .inl (cI, 5, .inl (fun _ => 0)))] H := hP
  have hD : va_D A [mo h r 0 0, ((r 16), .inl (cI, 5, .inl (fun _ => 0)))] := hD
  refine lv_aload_n hx hb dX12_leads_5 rfl (lv_at hl 0 rfl) ?_
  refine ct_calli (D := D) (wc := (w_c_X12_isDance cI cJ cB cZ cO h r)) (wr := []) (va_runV (As := []) (rest := []) ⟨hx, hb, hml, hown, hts⟩ (c_X12_isDance l D cI cJ cB cZ cO h r H.size) (cwV 0 hts gX12_leads_X12_isDance rfl rfl rfl (by decide +kernel) ⟨Nat.le_of_ble_eq_true rfl, Nat.le_of_ble_eq_true rfl⟩) (ct_preV (T := ct_T cI cJ cB cZ cO) (ci := 12) (q0 := 0) hE hP hD [0, 1] (by decide) rfl rfl rfl) rfl rfl hl.1 rfl (lv_room (Nat.le_of_ble_eq_true rfl)) dX12_leads_6 ⟨Nat.le_of_ble_eq_true rfl, Nat.le_of_ble_eq_true rfl⟩) hP hD hS hA [0, 1] [] rfl rfl (by decide) (by decide) (fun rz u H locs hw hP hD hS => ?_)
  have hP : va_P D vwCl [mo h r 0 0, ((r 16), .inl (cI, 5, .inl (fun _ => 0)))] H := hP
  have hD : va_D A [mo h r 0 0, ((r 16), .inl (cI, 5, .inl (fun _ => 0)))] := hD
  obtain ⟨rfl, hq324⟩ := hw
  refine lv_if_eq (tgt := 22) hx hb dX12_leads_9 (by decide) (fun _ => ?_) (fun hc => absurd hc (by decide))
  refine lv_bipush (v := (-2)) hx hb dX12_leads_22 (by decide) ?_
  have hP9 := hP.sub (ws' := []) [] rfl
  have hD9 := hD.sub (ws' := []) [] (by decide) rfl
  exact W.iret (v := (-2)) hx hb hr (fun t ht hW => ⟨⟨(-2), (), rfl, ⟨rfl, trivial⟩, by rw [ht]; exact hP9, hD9⟩, hS.F ht⟩) hS.2.2 dX12_leads_24
abbrev w_c_X12_game (cI cJ cB cZ cO : ClassId) (h : Nat) (r : Nat → Nat) : va_W := [mo h r 0 0, ((r 16), .inl (cI, 5, .inl (fun _ => 0)))]
set_option maxHeartbeats 4000000 in
set_option maxRecDepth 100000 in
/-- game, of the reference, on a new object -/
theorem c_X12_game (l : Launch) (D : va_G) (cI cJ cB cZ cO : ClassId) (h : Nat) (r : Nat → Nat) (x1 : Int32) (sz : Nat) : Met l yX12_game wsX12_game ({ frames := 1, cells := 0, slots := 0, locals := 20 }) (va_Pc [.ref h, .int x1] (ct_P D (ct_T cI cJ cB cZ cO) (w_c_X12_game cI cJ cB cZ cO h r) sz)) (va_Qi (fun (rz : Int32) (u : Unit) => (rz = (-2) ∧ True)) (fun (u : Unit) t => ct_Q D (va_A (w_c_X12_game cI cJ cB cZ cO h r) sz) [] t) (va_A (w_c_X12_game cI cJ cB cZ cO h r) sz)) 0 0 (va_A (w_c_X12_game cI cJ cB cZ cO h r) sz) := by
  refine Met.ofW (cc := cX12_game) (maxL := 2) (ret := (some .int)) (by decide) rfl ?_
  intro p e s m args below meth c s₁ B hml hv
  obtain ⟨rfl, hsz, hP, hE, hD0⟩ := hv
  have hx := B.exec
  have hb := B.bytes
  have hr := B.returns
  have hts := atoms_spec (ws := wsX12_game) B.pre
  have hown : s.vm.findClass RX12 = some m.cls := findClass_of_methodNamed B.named
  have hlocks := B.notSynchronized
  have hK := hE.1
  have hi12 : ∀ w ∈ u_ws RX12 TX12 45, w ∈ wsX12_game := fun w h => List.mem_cons_of_mem _ (List.mem_append_right _ h)
  subst hsz
  have hD := hD0.self (sz := s.heap.size)
  generalize hAe : va_A (w_c_X12_game cI cJ cB cZ cO h r) s.heap.size = A at hD ⊢
  have hA : ∀ q : Nat, s.heap.size ≤ q → A q := fun q h => by rw [← hAe]; exact Or.inr h
  have hS : va_S A s.heap s.heap [] := va_S.rf
  have hP : va_P D vwCl [mo h r 0 0, ((r 16), .inl (cI, 5, .inl (fun _ => 0)))] s.heap := hP
  have hD : va_D A [mo h r 0 0, ((r 16), .inl (cI, 5, .inl (fun _ => 0)))] := hD
  have hl := lv_entry ([.ref h, .int x1]) (n := 2) (Nat.le_of_ble_eq_true rfl)
  rw [lg_entry_eq]
  generalize (lg_sl ([.ref h, .int x1]) ++ List.replicate (2 - (lg_sl ([.ref h, .int x1])).length) Slot.unset).toArray = ls at hl ⊢
  have hl : lv_has ls 2 [(0, .ref h), (1, .int x1)] := hl
  obtain ⟨H, hHe⟩ : ∃ H : Heap, H = s.heap := ⟨_, rfl⟩
  rw [← hHe] at hP
  have hS : va_S A s.heap H [] := by rw [hHe]; exact va_S.rf
  refine ct_start hHe ?_
  refine lv_aload_n hx hb dX12_game_0 rfl (lv_at hl 0 rfl) ?_
  refine lv_iconst (v := 0) hx hb dX12_game_1 (by decide) ?_
  refine va_put (D := D) (ci := 12) (v := .int 0) (ty := .int) (C := RX12) (T := TX12) (N := 45) hx hb hts hi12 tyX12 tyX12_ok nmX12 hown hK hP hD hS 0 rfl rfl 0 (by decide) (hts (.fieldLink RX12 80 "OverHillModel" "thrown" "I") (by decide +kernel)) (fun _ h9 => h9) rfl (by decide +kernel) rfl rfl (Nat.le_of_ble_eq_true rfl) dX12_game_2 (fun H locs hP hD hS => ?_)
  have hP : va_P D vwCl [mo h r 0 0, ((r 16), .inl (cI, 5, .inl (fun _ => 0)))] H := hP
  have hD : va_D A [mo h r 0 0, ((r 16), .inl (cI, 5, .inl (fun _ => 0)))] := hD
  refine lv_aload_n hx hb dX12_game_5 rfl (lv_at hl 0 rfl) ?_
  refine ct_calli (D := D) (wc := (w_c_X12_isDance cI cJ cB cZ cO h r)) (wr := []) (va_runV (As := []) (rest := []) ⟨hx, hb, hml, hown, hts⟩ (c_X12_isDance l D cI cJ cB cZ cO h r H.size) (cwV 0 hts gX12_game_X12_isDance rfl rfl rfl (by decide +kernel) ⟨Nat.le_of_ble_eq_true rfl, Nat.le_of_ble_eq_true rfl⟩) (ct_preV (T := ct_T cI cJ cB cZ cO) (ci := 12) (q0 := 0) hE hP hD [0, 1] (by decide) rfl rfl rfl) rfl rfl hl.1 rfl (lv_room (Nat.le_of_ble_eq_true rfl)) dX12_game_6 ⟨Nat.le_of_ble_eq_true rfl, Nat.le_of_ble_eq_true rfl⟩) hP hD hS hA [0, 1] [] rfl rfl (by decide) (by decide) (fun rz u H locs hw hP hD hS => ?_)
  have hP : va_P D vwCl [mo h r 0 0, ((r 16), .inl (cI, 5, .inl (fun _ => 0)))] H := hP
  have hD : va_D A [mo h r 0 0, ((r 16), .inl (cI, 5, .inl (fun _ => 0)))] := hD
  obtain ⟨rfl, hq325⟩ := hw
  refine lv_if_eq (tgt := 20) hx hb dX12_game_9 (by decide) (fun _ => ?_) (fun hc => absurd hc (by decide))
  refine lv_bipush (v := (-2)) hx hb dX12_game_20 (by decide) ?_
  have hP9 := hP.sub (ws' := []) [] rfl
  have hD9 := hD.sub (ws' := []) [] (by decide) rfl
  exact W.iret (v := (-2)) hx hb hr (fun t ht hW => ⟨⟨(-2), (), rfl, ⟨rfl, trivial⟩, by rw [ht]; exact hP9, hD9⟩, hS.F ht⟩) hS.2.2 dX12_game_22
abbrev w_c_X12_plays (cI cJ cB cZ cO : ClassId) (h : Nat) (r : Nat → Nat) : va_W := [mo h r 0 0, ((r 16), .inl (cI, 5, .inl (fun _ => 0)))]
set_option maxHeartbeats 4000000 in
set_option maxRecDepth 100000 in
/-- plays, of the reference, on a new object -/
theorem c_X12_plays (l : Launch) (D : va_G) (cI cJ cB cZ cO : ClassId) (h : Nat) (r : Nat → Nat) (x1 : Int32) (sz : Nat) : Met l yX12_plays wsX12_plays ({ frames := 1, cells := 0, slots := 0, locals := 20 }) (va_Pc [.ref h, .int x1] (ct_P D (ct_T cI cJ cB cZ cO) (w_c_X12_plays cI cJ cB cZ cO h r) sz)) (va_Qi (fun (rz : Int32) (u : Unit) => (rz = (-2) ∧ True)) (fun (u : Unit) t => ct_Q D (va_A (w_c_X12_plays cI cJ cB cZ cO h r) sz) [] t) (va_A (w_c_X12_plays cI cJ cB cZ cO h r) sz)) 0 0 (va_A (w_c_X12_plays cI cJ cB cZ cO h r) sz) := by
  refine Met.ofW (cc := cX12_plays) (maxL := 4) (ret := (some .int)) (by decide) rfl ?_
  intro p e s m args below meth c s₁ B hml hv
  obtain ⟨rfl, hsz, hP, hE, hD0⟩ := hv
  have hx := B.exec
  have hb := B.bytes
  have hr := B.returns
  have hts := atoms_spec (ws := wsX12_plays) B.pre
  have hown : s.vm.findClass RX12 = some m.cls := findClass_of_methodNamed B.named
  have hlocks := B.notSynchronized
  have hK := hE.1
  have hi12 : ∀ w ∈ u_ws RX12 TX12 45, w ∈ wsX12_plays := fun w h => List.mem_cons_of_mem _ (List.mem_append_right _ h)
  subst hsz
  have hD := hD0.self (sz := s.heap.size)
  generalize hAe : va_A (w_c_X12_plays cI cJ cB cZ cO h r) s.heap.size = A at hD ⊢
  have hA : ∀ q : Nat, s.heap.size ≤ q → A q := fun q h => by rw [← hAe]; exact Or.inr h
  have hS : va_S A s.heap s.heap [] := va_S.rf
  have hP : va_P D vwCl [mo h r 0 0, ((r 16), .inl (cI, 5, .inl (fun _ => 0)))] s.heap := hP
  have hD : va_D A [mo h r 0 0, ((r 16), .inl (cI, 5, .inl (fun _ => 0)))] := hD
  have hl := lv_entry ([.ref h, .int x1]) (n := 4) (Nat.le_of_ble_eq_true rfl)
  rw [lg_entry_eq]
  generalize (lg_sl ([.ref h, .int x1]) ++ List.replicate (4 - (lg_sl ([.ref h, .int x1])).length) Slot.unset).toArray = ls at hl ⊢
  have hl : lv_has ls 4 [(0, .ref h), (1, .int x1)] := hl
  obtain ⟨H, hHe⟩ : ∃ H : Heap, H = s.heap := ⟨_, rfl⟩
  rw [← hHe] at hP
  have hS : va_S A s.heap H [] := by rw [hHe]; exact va_S.rf
  refine ct_start hHe ?_
  refine lv_aload_n hx hb dX12_plays_0 rfl (lv_at hl 0 rfl) ?_
  refine lv_iconst (v := 0) hx hb dX12_plays_1 (by decide) ?_
  refine va_put (D := D) (ci := 12) (v := .int 0) (ty := .int) (C := RX12) (T := TX12) (N := 45) hx hb hts hi12 tyX12 tyX12_ok nmX12 hown hK hP hD hS 0 rfl rfl 0 (by decide) (hts (.fieldLink RX12 80 "OverHillModel" "thrown" "I") (by decide +kernel)) (fun _ h9 => h9) rfl (by decide +kernel) rfl rfl (Nat.le_of_ble_eq_true rfl) dX12_plays_2 (fun H locs hP hD hS => ?_)
  have hP : va_P D vwCl [mo h r 0 0, ((r 16), .inl (cI, 5, .inl (fun _ => 0)))] H := hP
  have hD : va_D A [mo h r 0 0, ((r 16), .inl (cI, 5, .inl (fun _ => 0)))] := hD
  refine lv_aload_n hx hb dX12_plays_5 rfl (lv_at hl 0 rfl) ?_
  refine ct_calli (D := D) (wc := (w_c_X12_isDance cI cJ cB cZ cO h r)) (wr := []) (va_runV (As := []) (rest := []) ⟨hx, hb, hml, hown, hts⟩ (c_X12_isDance l D cI cJ cB cZ cO h r H.size) (cwV 0 hts gX12_plays_X12_isDance rfl rfl rfl (by decide +kernel) ⟨Nat.le_of_ble_eq_true rfl, Nat.le_of_ble_eq_true rfl⟩) (ct_preV (T := ct_T cI cJ cB cZ cO) (ci := 12) (q0 := 0) hE hP hD [0, 1] (by decide) rfl rfl rfl) rfl rfl hl.1 rfl (lv_room (Nat.le_of_ble_eq_true rfl)) dX12_plays_6 ⟨Nat.le_of_ble_eq_true rfl, Nat.le_of_ble_eq_true rfl⟩) hP hD hS hA [0, 1] [] rfl rfl (by decide) (by decide) (fun rz u H locs hw hP hD hS => ?_)
  have hP : va_P D vwCl [mo h r 0 0, ((r 16), .inl (cI, 5, .inl (fun _ => 0)))] H := hP
  have hD : va_D A [mo h r 0 0, ((r 16), .inl (cI, 5, .inl (fun _ => 0)))] := hD
  obtain ⟨rfl, hq326⟩ := hw
  refine lv_if_eq (tgt := 20) hx hb dX12_plays_9 (by decide) (fun _ => ?_) (fun hc => absurd hc (by decide))
  refine lv_bipush (v := (-2)) hx hb dX12_plays_20 (by decide) ?_
  have hP9 := hP.sub (ws' := []) [] rfl
  have hD9 := hD.sub (ws' := []) [] (by decide) rfl
  exact W.iret (v := (-2)) hx hb hr (fun t ht hW => ⟨⟨(-2), (), rfl, ⟨rfl, trivial⟩, by rw [ht]; exact hP9, hD9⟩, hS.F ht⟩) hS.2.2 dX12_plays_22
abbrev w_c_X12_dry (cI cJ cB cZ cO : ClassId) (h : Nat) (r : Nat → Nat) : va_W := [mo h r 0 0, ((r 16), .inl (cI, 5, .inl (fun _ => 0)))]
set_option maxHeartbeats 4000000 in
set_option maxRecDepth 100000 in
/-- dry, of the reference, on a new object -/
theorem c_X12_dry (l : Launch) (D : va_G) (cI cJ cB cZ cO : ClassId) (h : Nat) (r : Nat → Nat) (x1 : Int32) (x2 : Int32) (sz : Nat) : Met l yX12_dry wsX12_dry ({ frames := 2, cells := 0, slots := 0, locals := 42 }) (va_Pc [.ref h, .int x1, .int x2] (ct_P D (ct_T cI cJ cB cZ cO) (w_c_X12_dry cI cJ cB cZ cO h r) sz)) (va_Ql (fun (rz : Int64) (u : Unit) => (rz = (-2) ∧ True)) (fun (u : Unit) t => ct_Q D (va_A (w_c_X12_dry cI cJ cB cZ cO h r) sz) [] t) (va_A (w_c_X12_dry cI cJ cB cZ cO h r) sz)) 0 0 (va_A (w_c_X12_dry cI cJ cB cZ cO h r) sz) := by
  refine Met.ofW (cc := cX12_dry) (maxL := 3) (ret := (some .long)) (by decide) rfl ?_
  intro p e s m args below meth c s₁ B hml hv
  obtain ⟨rfl, hsz, hP, hE, hD0⟩ := hv
  have hx := B.exec
  have hb := B.bytes
  have hr := B.returns
  have hts := atoms_spec (ws := wsX12_dry) B.pre
  have hown : s.vm.findClass RX12 = some m.cls := findClass_of_methodNamed B.named
  have hlocks := B.notSynchronized
  have hK := hE.1
  have hi12 : ∀ w ∈ u_ws RX12 TX12 45, w ∈ wsX12_dry := fun w h => List.mem_cons_of_mem _ (List.mem_append_right _ h)
  subst hsz
  have hD := hD0.self (sz := s.heap.size)
  generalize hAe : va_A (w_c_X12_dry cI cJ cB cZ cO h r) s.heap.size = A at hD ⊢
  have hA : ∀ q : Nat, s.heap.size ≤ q → A q := fun q h => by rw [← hAe]; exact Or.inr h
  have hS : va_S A s.heap s.heap [] := va_S.rf
  have hP : va_P D vwCl [mo h r 0 0, ((r 16), .inl (cI, 5, .inl (fun _ => 0)))] s.heap := hP
  have hD : va_D A [mo h r 0 0, ((r 16), .inl (cI, 5, .inl (fun _ => 0)))] := hD
  have hl := lv_entry ([.ref h, .int x1, .int x2]) (n := 3) (Nat.le_of_ble_eq_true rfl)
  rw [lg_entry_eq]
  generalize (lg_sl ([.ref h, .int x1, .int x2]) ++ List.replicate (3 - (lg_sl ([.ref h, .int x1, .int x2])).length) Slot.unset).toArray = ls at hl ⊢
  have hl : lv_has ls 3 [(0, .ref h), (1, .int x1), (2, .int x2)] := hl
  obtain ⟨H, hHe⟩ : ∃ H : Heap, H = s.heap := ⟨_, rfl⟩
  rw [← hHe] at hP
  have hS : va_S A s.heap H [] := by rw [hHe]; exact va_S.rf
  refine ct_start hHe ?_
  refine lv_aload_n hx hb dX12_dry_0 rfl (lv_at hl 0 rfl) ?_
  refine lv_iconst (v := 0) hx hb dX12_dry_1 (by decide) ?_
  refine va_put (D := D) (ci := 12) (v := .int 0) (ty := .int) (C := RX12) (T := TX12) (N := 45) hx hb hts hi12 tyX12 tyX12_ok nmX12 hown hK hP hD hS 0 rfl rfl 0 (by decide) (hts (.fieldLink RX12 80 "OverHillModel" "thrown" "I") (by decide +kernel)) (fun _ h9 => h9) rfl (by decide +kernel) rfl rfl (Nat.le_of_ble_eq_true rfl) dX12_dry_2 (fun H locs hP hD hS => ?_)
  have hP : va_P D vwCl [mo h r 0 0, ((r 16), .inl (cI, 5, .inl (fun _ => 0)))] H := hP
  have hD : va_D A [mo h r 0 0, ((r 16), .inl (cI, 5, .inl (fun _ => 0)))] := hD
  refine lv_aload_n hx hb dX12_dry_5 rfl (lv_at hl 0 rfl) ?_
  refine lv_iload_n hx hb dX12_dry_6 rfl (lv_at hl 1 rfl) ?_
  refine lv_iload_n hx hb dX12_dry_7 rfl (lv_at hl 2 rfl) ?_
  refine ct_calli (D := D) (wc := (w_c_X12_isRain cI cJ cB cZ cO h r)) (wr := []) (va_runV (As := [.int x1, .int x2]) (rest := []) ⟨hx, hb, hml, hown, hts⟩ (c_X12_isRain l D cI cJ cB cZ cO h r x1 x2 H.size) (cwV 2 hts gX12_dry_X12_isRain rfl rfl rfl (by decide +kernel) ⟨Nat.le_of_ble_eq_true rfl, Nat.le_of_ble_eq_true rfl⟩) (ct_preV (T := ct_T cI cJ cB cZ cO) (ci := 12) (q0 := 0) hE hP hD [0, 1] (by decide) rfl rfl rfl) rfl rfl hl.1 rfl (lv_room (Nat.le_of_ble_eq_true rfl)) dX12_dry_8 ⟨Nat.le_of_ble_eq_true rfl, Nat.le_of_ble_eq_true rfl⟩) hP hD hS hA [0, 1] [] rfl rfl (by decide) (by decide) (fun rz u H locs hw hP hD hS => ?_)
  have hP : va_P D vwCl [mo h r 0 0, ((r 16), .inl (cI, 5, .inl (fun _ => 0)))] H := hP
  have hD : va_D A [mo h r 0 0, ((r 16), .inl (cI, 5, .inl (fun _ => 0)))] := hD
  obtain ⟨rfl, hq327⟩ := hw
  refine lv_if_eq (tgt := 43) hx hb dX12_dry_11 (by decide) (fun _ => ?_) (fun hc => absurd hc (by decide))
  refine lv_ldc2 (v := (-2)) hx hb hown (hts (.constantLong RX12 398 (-2)) (by decide +kernel)) dX12_dry_43 ?_
  have hP9 := hP.sub (ws' := []) [] rfl
  have hD9 := hD.sub (ws' := []) [] (by decide) rfl
  exact W.lret (v := (-2)) hx hb hr (fun t ht hW => ⟨⟨(-2), (), rfl, ⟨rfl, trivial⟩, by rw [ht]; exact hP9, hD9⟩, hS.F ht⟩) hS.2.2 dX12_dry_46
abbrev w_c_X12_wet (cI cJ cB cZ cO : ClassId) (h : Nat) (r : Nat → Nat) : va_W := [mo h r 0 0, ((r 16), .inl (cI, 5, .inl (fun _ => 0)))]
set_option maxHeartbeats 4000000 in
set_option maxRecDepth 100000 in
/-- wet, of the reference, on a new object -/
theorem c_X12_wet (l : Launch) (D : va_G) (cI cJ cB cZ cO : ClassId) (h : Nat) (r : Nat → Nat) (x1 : Int32) (x2 : Int32) (x3 : Int32) (sz : Nat) : Met l yX12_wet wsX12_wet ({ frames := 2, cells := 0, slots := 0, locals := 42 }) (va_Pc [.ref h, .int x1, .int x2, .int x3] (ct_P D (ct_T cI cJ cB cZ cO) (w_c_X12_wet cI cJ cB cZ cO h r) sz)) (va_Ql (fun (rz : Int64) (u : Unit) => (rz = (-2) ∧ True)) (fun (u : Unit) t => ct_Q D (va_A (w_c_X12_wet cI cJ cB cZ cO h r) sz) [] t) (va_A (w_c_X12_wet cI cJ cB cZ cO h r) sz)) 0 0 (va_A (w_c_X12_wet cI cJ cB cZ cO h r) sz) := by
  refine Met.ofW (cc := cX12_wet) (maxL := 7) (ret := (some .long)) (by decide) rfl ?_
  intro p e s m args below meth c s₁ B hml hv
  obtain ⟨rfl, hsz, hP, hE, hD0⟩ := hv
  have hx := B.exec
  have hb := B.bytes
  have hr := B.returns
  have hts := atoms_spec (ws := wsX12_wet) B.pre
  have hown : s.vm.findClass RX12 = some m.cls := findClass_of_methodNamed B.named
  have hlocks := B.notSynchronized
  have hK := hE.1
  have hi12 : ∀ w ∈ u_ws RX12 TX12 45, w ∈ wsX12_wet := fun w h => List.mem_cons_of_mem _ (List.mem_append_right _ h)
  subst hsz
  have hD := hD0.self (sz := s.heap.size)
  generalize hAe : va_A (w_c_X12_wet cI cJ cB cZ cO h r) s.heap.size = A at hD ⊢
  have hA : ∀ q : Nat, s.heap.size ≤ q → A q := fun q h => by rw [← hAe]; exact Or.inr h
  have hS : va_S A s.heap s.heap [] := va_S.rf
  have hP : va_P D vwCl [mo h r 0 0, ((r 16), .inl (cI, 5, .inl (fun _ => 0)))] s.heap := hP
  have hD : va_D A [mo h r 0 0, ((r 16), .inl (cI, 5, .inl (fun _ => 0)))] := hD
  have hl := lv_entry ([.ref h, .int x1, .int x2, .int x3]) (n := 7) (Nat.le_of_ble_eq_true rfl)
  rw [lg_entry_eq]
  generalize (lg_sl ([.ref h, .int x1, .int x2, .int x3]) ++ List.replicate (7 - (lg_sl ([.ref h, .int x1, .int x2, .int x3])).length) Slot.unset).toArray = ls at hl ⊢
  have hl : lv_has ls 7 [(0, .ref h), (1, .int x1), (2, .int x2), (3, .int x3)] := hl
  obtain ⟨H, hHe⟩ : ∃ H : Heap, H = s.heap := ⟨_, rfl⟩
  rw [← hHe] at hP
  have hS : va_S A s.heap H [] := by rw [hHe]; exact va_S.rf
  refine ct_start hHe ?_
  refine lv_aload_n hx hb dX12_wet_0 rfl (lv_at hl 0 rfl) ?_
  refine lv_iconst (v := 0) hx hb dX12_wet_1 (by decide) ?_
  refine va_put (D := D) (ci := 12) (v := .int 0) (ty := .int) (C := RX12) (T := TX12) (N := 45) hx hb hts hi12 tyX12 tyX12_ok nmX12 hown hK hP hD hS 0 rfl rfl 0 (by decide) (hts (.fieldLink RX12 80 "OverHillModel" "thrown" "I") (by decide +kernel)) (fun _ h9 => h9) rfl (by decide +kernel) rfl rfl (Nat.le_of_ble_eq_true rfl) dX12_wet_2 (fun H locs hP hD hS => ?_)
  have hP : va_P D vwCl [mo h r 0 0, ((r 16), .inl (cI, 5, .inl (fun _ => 0)))] H := hP
  have hD : va_D A [mo h r 0 0, ((r 16), .inl (cI, 5, .inl (fun _ => 0)))] := hD
  refine lv_aload_n hx hb dX12_wet_5 rfl (lv_at hl 0 rfl) ?_
  refine lv_iload_n hx hb dX12_wet_6 rfl (lv_at hl 1 rfl) ?_
  refine lv_iload_n hx hb dX12_wet_7 rfl (lv_at hl 3 rfl) ?_
  refine ct_calli (D := D) (wc := (w_c_X12_isRain cI cJ cB cZ cO h r)) (wr := []) (va_runV (As := [.int x1, .int x3]) (rest := []) ⟨hx, hb, hml, hown, hts⟩ (c_X12_isRain l D cI cJ cB cZ cO h r x1 x3 H.size) (cwV 2 hts gX12_wet_X12_isRain rfl rfl rfl (by decide +kernel) ⟨Nat.le_of_ble_eq_true rfl, Nat.le_of_ble_eq_true rfl⟩) (ct_preV (T := ct_T cI cJ cB cZ cO) (ci := 12) (q0 := 0) hE hP hD [0, 1] (by decide) rfl rfl rfl) rfl rfl hl.1 rfl (lv_room (Nat.le_of_ble_eq_true rfl)) dX12_wet_8 ⟨Nat.le_of_ble_eq_true rfl, Nat.le_of_ble_eq_true rfl⟩) hP hD hS hA [0, 1] [] rfl rfl (by decide) (by decide) (fun rz u H locs hw hP hD hS => ?_)
  have hP : va_P D vwCl [mo h r 0 0, ((r 16), .inl (cI, 5, .inl (fun _ => 0)))] H := hP
  have hD : va_D A [mo h r 0 0, ((r 16), .inl (cI, 5, .inl (fun _ => 0)))] := hD
  obtain ⟨rfl, hq328⟩ := hw
  refine lv_if_eq (tgt := 25) hx hb dX12_wet_11 (by decide) (fun _ => ?_) (fun hc => absurd hc (by decide))
  refine lv_ldc2 (v := (-2)) hx hb hown (hts (.constantLong RX12 398 (-2)) (by decide +kernel)) dX12_wet_25 ?_
  have hP9 := hP.sub (ws' := []) [] rfl
  have hD9 := hD.sub (ws' := []) [] (by decide) rfl
  exact W.lret (v := (-2)) hx hb hr (fun t ht hW => ⟨⟨(-2), (), rfl, ⟨rfl, trivial⟩, by rw [ht]; exact hP9, hD9⟩, hS.F ht⟩) hS.2.2 dX12_wet_28
abbrev w_c_X12_drawn (cI cJ cB cZ cO : ClassId) (h : Nat) (r : Nat → Nat) : va_W := [mo h r 0 0, ((r 16), .inl (cI, 5, .inl (fun _ => 0)))]
set_option maxHeartbeats 4000000 in
set_option maxRecDepth 100000 in
/-- drawn, of the reference, on a new object -/
theorem c_X12_drawn (l : Launch) (D : va_G) (cI cJ cB cZ cO : ClassId) (h : Nat) (r : Nat → Nat) (x1 : Int32) (x2 : Int32) (x3 : Int32) (sz : Nat) : Met l yX12_drawn wsX12_drawn ({ frames := 2, cells := 0, slots := 0, locals := 42 }) (va_Pc [.ref h, .int x1, .int x2, .int x3] (ct_P D (ct_T cI cJ cB cZ cO) (w_c_X12_drawn cI cJ cB cZ cO h r) sz)) (va_Qi (fun (rz : Int32) (u : Unit) => (rz = (-2) ∧ True)) (fun (u : Unit) t => ct_Q D (va_A (w_c_X12_drawn cI cJ cB cZ cO h r) sz) [] t) (va_A (w_c_X12_drawn cI cJ cB cZ cO h r) sz)) 0 0 (va_A (w_c_X12_drawn cI cJ cB cZ cO h r) sz) := by
  refine Met.ofW (cc := cX12_drawn) (maxL := 4) (ret := (some .int)) (by decide) rfl ?_
  intro p e s m args below meth c s₁ B hml hv
  obtain ⟨rfl, hsz, hP, hE, hD0⟩ := hv
  have hx := B.exec
  have hb := B.bytes
  have hr := B.returns
  have hts := atoms_spec (ws := wsX12_drawn) B.pre
  have hown : s.vm.findClass RX12 = some m.cls := findClass_of_methodNamed B.named
  have hlocks := B.notSynchronized
  have hK := hE.1
  have hi12 : ∀ w ∈ u_ws RX12 TX12 45, w ∈ wsX12_drawn := fun w h => List.mem_cons_of_mem _ (List.mem_append_right _ h)
  subst hsz
  have hD := hD0.self (sz := s.heap.size)
  generalize hAe : va_A (w_c_X12_drawn cI cJ cB cZ cO h r) s.heap.size = A at hD ⊢
  have hA : ∀ q : Nat, s.heap.size ≤ q → A q := fun q h => by rw [← hAe]; exact Or.inr h
  have hS : va_S A s.heap s.heap [] := va_S.rf
  have hP : va_P D vwCl [mo h r 0 0, ((r 16), .inl (cI, 5, .inl (fun _ => 0)))] s.heap := hP
  have hD : va_D A [mo h r 0 0, ((r 16), .inl (cI, 5, .inl (fun _ => 0)))] := hD
  have hl := lv_entry ([.ref h, .int x1, .int x2, .int x3]) (n := 4) (Nat.le_of_ble_eq_true rfl)
  rw [lg_entry_eq]
  generalize (lg_sl ([.ref h, .int x1, .int x2, .int x3]) ++ List.replicate (4 - (lg_sl ([.ref h, .int x1, .int x2, .int x3])).length) Slot.unset).toArray = ls at hl ⊢
  have hl : lv_has ls 4 [(0, .ref h), (1, .int x1), (2, .int x2), (3, .int x3)] := hl
  obtain ⟨H, hHe⟩ : ∃ H : Heap, H = s.heap := ⟨_, rfl⟩
  rw [← hHe] at hP
  have hS : va_S A s.heap H [] := by rw [hHe]; exact va_S.rf
  refine ct_start hHe ?_
  refine lv_aload_n hx hb dX12_drawn_0 rfl (lv_at hl 0 rfl) ?_
  refine lv_iconst (v := 0) hx hb dX12_drawn_1 (by decide) ?_
  refine va_put (D := D) (ci := 12) (v := .int 0) (ty := .int) (C := RX12) (T := TX12) (N := 45) hx hb hts hi12 tyX12 tyX12_ok nmX12 hown hK hP hD hS 0 rfl rfl 0 (by decide) (hts (.fieldLink RX12 80 "OverHillModel" "thrown" "I") (by decide +kernel)) (fun _ h9 => h9) rfl (by decide +kernel) rfl rfl (Nat.le_of_ble_eq_true rfl) dX12_drawn_2 (fun H locs hP hD hS => ?_)
  have hP : va_P D vwCl [mo h r 0 0, ((r 16), .inl (cI, 5, .inl (fun _ => 0)))] H := hP
  have hD : va_D A [mo h r 0 0, ((r 16), .inl (cI, 5, .inl (fun _ => 0)))] := hD
  refine lv_aload_n hx hb dX12_drawn_5 rfl (lv_at hl 0 rfl) ?_
  refine lv_iload_n hx hb dX12_drawn_6 rfl (lv_at hl 1 rfl) ?_
  refine lv_iload_n hx hb dX12_drawn_7 rfl (lv_at hl 2 rfl) ?_
  refine ct_calli (D := D) (wc := (w_c_X12_isDraw cI cJ cB cZ cO h r)) (wr := []) (va_runV (As := [.int x1, .int x2]) (rest := []) ⟨hx, hb, hml, hown, hts⟩ (c_X12_isDraw l D cI cJ cB cZ cO h r x1 x2 H.size) (cwV 2 hts gX12_drawn_X12_isDraw rfl rfl rfl (by decide +kernel) ⟨Nat.le_of_ble_eq_true rfl, Nat.le_of_ble_eq_true rfl⟩) (ct_preV (T := ct_T cI cJ cB cZ cO) (ci := 12) (q0 := 0) hE hP hD [0, 1] (by decide) rfl rfl rfl) rfl rfl hl.1 rfl (lv_room (Nat.le_of_ble_eq_true rfl)) dX12_drawn_8 ⟨Nat.le_of_ble_eq_true rfl, Nat.le_of_ble_eq_true rfl⟩) hP hD hS hA [0, 1] [] rfl rfl (by decide) (by decide) (fun rz u H locs hw hP hD hS => ?_)
  have hP : va_P D vwCl [mo h r 0 0, ((r 16), .inl (cI, 5, .inl (fun _ => 0)))] H := hP
  have hD : va_D A [mo h r 0 0, ((r 16), .inl (cI, 5, .inl (fun _ => 0)))] := hD
  obtain ⟨rfl, hq329⟩ := hw
  refine lv_if_eq (tgt := 26) hx hb dX12_drawn_11 (by decide) (fun _ => ?_) (fun hc => absurd hc (by decide))
  refine lv_bipush (v := (-2)) hx hb dX12_drawn_26 (by decide) ?_
  have hP9 := hP.sub (ws' := []) [] rfl
  have hD9 := hD.sub (ws' := []) [] (by decide) rfl
  exact W.iret (v := (-2)) hx hb hr (fun t ht hW => ⟨⟨(-2), (), rfl, ⟨rfl, trivial⟩, by rw [ht]; exact hP9, hD9⟩, hS.F ht⟩) hS.2.2 dX12_drawn_28
abbrev w_c_X12_nights (cI cJ cB cZ cO : ClassId) (h : Nat) (r : Nat → Nat) : va_W := [mo h r 0 0, ((r 16), .inl (cI, 5, .inl (fun _ => 0)))]
set_option maxHeartbeats 4000000 in
set_option maxRecDepth 100000 in
/-- nights, of the reference, on a new object -/
theorem c_X12_nights (l : Launch) (D : va_G) (cI cJ cB cZ cO : ClassId) (h : Nat) (r : Nat → Nat) (x1 : Int32) (x2 : Int32) (x3 : Int32) (sz : Nat) : Met l yX12_nights wsX12_nights ({ frames := 2, cells := 0, slots := 0, locals := 42 }) (va_Pc [.ref h, .int x1, .int x2, .int x3] (ct_P D (ct_T cI cJ cB cZ cO) (w_c_X12_nights cI cJ cB cZ cO h r) sz)) (va_Qi (fun (rz : Int32) (u : Unit) => (rz = (-2) ∧ True)) (fun (u : Unit) t => ct_Q D (va_A (w_c_X12_nights cI cJ cB cZ cO h r) sz) [] t) (va_A (w_c_X12_nights cI cJ cB cZ cO h r) sz)) 0 0 (va_A (w_c_X12_nights cI cJ cB cZ cO h r) sz) := by
  refine Met.ofW (cc := cX12_nights) (maxL := 6) (ret := (some .int)) (by decide) rfl ?_
  intro p e s m args below meth c s₁ B hml hv
  obtain ⟨rfl, hsz, hP, hE, hD0⟩ := hv
  have hx := B.exec
  have hb := B.bytes
  have hr := B.returns
  have hts := atoms_spec (ws := wsX12_nights) B.pre
  have hown : s.vm.findClass RX12 = some m.cls := findClass_of_methodNamed B.named
  have hlocks := B.notSynchronized
  have hK := hE.1
  have hi12 : ∀ w ∈ u_ws RX12 TX12 45, w ∈ wsX12_nights := fun w h => List.mem_cons_of_mem _ (List.mem_append_right _ h)
  subst hsz
  have hD := hD0.self (sz := s.heap.size)
  generalize hAe : va_A (w_c_X12_nights cI cJ cB cZ cO h r) s.heap.size = A at hD ⊢
  have hA : ∀ q : Nat, s.heap.size ≤ q → A q := fun q h => by rw [← hAe]; exact Or.inr h
  have hS : va_S A s.heap s.heap [] := va_S.rf
  have hP : va_P D vwCl [mo h r 0 0, ((r 16), .inl (cI, 5, .inl (fun _ => 0)))] s.heap := hP
  have hD : va_D A [mo h r 0 0, ((r 16), .inl (cI, 5, .inl (fun _ => 0)))] := hD
  have hl := lv_entry ([.ref h, .int x1, .int x2, .int x3]) (n := 6) (Nat.le_of_ble_eq_true rfl)
  rw [lg_entry_eq]
  generalize (lg_sl ([.ref h, .int x1, .int x2, .int x3]) ++ List.replicate (6 - (lg_sl ([.ref h, .int x1, .int x2, .int x3])).length) Slot.unset).toArray = ls at hl ⊢
  have hl : lv_has ls 6 [(0, .ref h), (1, .int x1), (2, .int x2), (3, .int x3)] := hl
  obtain ⟨H, hHe⟩ : ∃ H : Heap, H = s.heap := ⟨_, rfl⟩
  rw [← hHe] at hP
  have hS : va_S A s.heap H [] := by rw [hHe]; exact va_S.rf
  refine ct_start hHe ?_
  refine lv_aload_n hx hb dX12_nights_0 rfl (lv_at hl 0 rfl) ?_
  refine lv_iconst (v := 0) hx hb dX12_nights_1 (by decide) ?_
  refine va_put (D := D) (ci := 12) (v := .int 0) (ty := .int) (C := RX12) (T := TX12) (N := 45) hx hb hts hi12 tyX12 tyX12_ok nmX12 hown hK hP hD hS 0 rfl rfl 0 (by decide) (hts (.fieldLink RX12 80 "OverHillModel" "thrown" "I") (by decide +kernel)) (fun _ h9 => h9) rfl (by decide +kernel) rfl rfl (Nat.le_of_ble_eq_true rfl) dX12_nights_2 (fun H locs hP hD hS => ?_)
  have hP : va_P D vwCl [mo h r 0 0, ((r 16), .inl (cI, 5, .inl (fun _ => 0)))] H := hP
  have hD : va_D A [mo h r 0 0, ((r 16), .inl (cI, 5, .inl (fun _ => 0)))] := hD
  refine lv_aload_n hx hb dX12_nights_5 rfl (lv_at hl 0 rfl) ?_
  refine lv_iload_n hx hb dX12_nights_6 rfl (lv_at hl 1 rfl) ?_
  refine lv_iload_n hx hb dX12_nights_7 rfl (lv_at hl 3 rfl) ?_
  refine ct_calli (D := D) (wc := (w_c_X12_isDraw cI cJ cB cZ cO h r)) (wr := []) (va_runV (As := [.int x1, .int x3]) (rest := []) ⟨hx, hb, hml, hown, hts⟩ (c_X12_isDraw l D cI cJ cB cZ cO h r x1 x3 H.size) (cwV 2 hts gX12_nights_X12_isDraw rfl rfl rfl (by decide +kernel) ⟨Nat.le_of_ble_eq_true rfl, Nat.le_of_ble_eq_true rfl⟩) (ct_preV (T := ct_T cI cJ cB cZ cO) (ci := 12) (q0 := 0) hE hP hD [0, 1] (by decide) rfl rfl rfl) rfl rfl hl.1 rfl (lv_room (Nat.le_of_ble_eq_true rfl)) dX12_nights_8 ⟨Nat.le_of_ble_eq_true rfl, Nat.le_of_ble_eq_true rfl⟩) hP hD hS hA [0, 1] [] rfl rfl (by decide) (by decide) (fun rz u H locs hw hP hD hS => ?_)
  have hP : va_P D vwCl [mo h r 0 0, ((r 16), .inl (cI, 5, .inl (fun _ => 0)))] H := hP
  have hD : va_D A [mo h r 0 0, ((r 16), .inl (cI, 5, .inl (fun _ => 0)))] := hD
  obtain ⟨rfl, hq330⟩ := hw
  refine lv_if_eq (tgt := 26) hx hb dX12_nights_11 (by decide) (fun _ => ?_) (fun hc => absurd hc (by decide))
  refine lv_bipush (v := (-2)) hx hb dX12_nights_26 (by decide) ?_
  have hP9 := hP.sub (ws' := []) [] rfl
  have hD9 := hD.sub (ws' := []) [] (by decide) rfl
  exact W.iret (v := (-2)) hx hb hr (fun t ht hW => ⟨⟨(-2), (), rfl, ⟨rfl, trivial⟩, by rw [ht]; exact hP9, hD9⟩, hS.F ht⟩) hS.2.2 dX12_nights_28
abbrev w_c_X12_stumble (cI cJ cB cZ cO : ClassId) (h : Nat) (r : Nat → Nat) : va_W := [mo h r 0 0, ((r 16), .inl (cI, 5, .inl (fun _ => 0)))]
set_option maxHeartbeats 4000000 in
set_option maxRecDepth 100000 in
/-- stumble, of the reference, on a new object -/
theorem c_X12_stumble (l : Launch) (D : va_G) (cI cJ cB cZ cO : ClassId) (h : Nat) (r : Nat → Nat) (x1 : Int32) (x2 : Int32) (x3 : Int32) (x4 : Int32) (sz : Nat) : Met l yX12_stumble wsX12_stumble ({ frames := 2, cells := 0, slots := 0, locals := 41 }) (va_Pc [.ref h, .int x1, .int x2, .int x3, .int x4] (ct_P D (ct_T cI cJ cB cZ cO) (w_c_X12_stumble cI cJ cB cZ cO h r) sz)) (va_Qi (fun (rz : Int32) (u : Unit) => (rz = (-2) ∧ True)) (fun (u : Unit) t => ct_Q D (va_A (w_c_X12_stumble cI cJ cB cZ cO h r) sz) [] t) (va_A (w_c_X12_stumble cI cJ cB cZ cO h r) sz)) 0 0 (va_A (w_c_X12_stumble cI cJ cB cZ cO h r) sz) := by
  refine Met.ofW (cc := cX12_stumble) (maxL := 6) (ret := (some .int)) (by decide) rfl ?_
  intro p e s m args below meth c s₁ B hml hv
  obtain ⟨rfl, hsz, hP, hE, hD0⟩ := hv
  have hx := B.exec
  have hb := B.bytes
  have hr := B.returns
  have hts := atoms_spec (ws := wsX12_stumble) B.pre
  have hown : s.vm.findClass RX12 = some m.cls := findClass_of_methodNamed B.named
  have hlocks := B.notSynchronized
  have hK := hE.1
  have hi12 : ∀ w ∈ u_ws RX12 TX12 45, w ∈ wsX12_stumble := fun w h => List.mem_cons_of_mem _ (List.mem_append_right _ h)
  subst hsz
  have hD := hD0.self (sz := s.heap.size)
  generalize hAe : va_A (w_c_X12_stumble cI cJ cB cZ cO h r) s.heap.size = A at hD ⊢
  have hA : ∀ q : Nat, s.heap.size ≤ q → A q := fun q h => by rw [← hAe]; exact Or.inr h
  have hS : va_S A s.heap s.heap [] := va_S.rf
  have hP : va_P D vwCl [mo h r 0 0, ((r 16), .inl (cI, 5, .inl (fun _ => 0)))] s.heap := hP
  have hD : va_D A [mo h r 0 0, ((r 16), .inl (cI, 5, .inl (fun _ => 0)))] := hD
  have hl := lv_entry ([.ref h, .int x1, .int x2, .int x3, .int x4]) (n := 6) (Nat.le_of_ble_eq_true rfl)
  rw [lg_entry_eq]
  generalize (lg_sl ([.ref h, .int x1, .int x2, .int x3, .int x4]) ++ List.replicate (6 - (lg_sl ([.ref h, .int x1, .int x2, .int x3, .int x4])).length) Slot.unset).toArray = ls at hl ⊢
  have hl : lv_has ls 6 [(0, .ref h), (1, .int x1), (2, .int x2), (3, .int x3), (4, .int x4)] := hl
  obtain ⟨H, hHe⟩ : ∃ H : Heap, H = s.heap := ⟨_, rfl⟩
  rw [← hHe] at hP
  have hS : va_S A s.heap H [] := by rw [hHe]; exact va_S.rf
  refine ct_start hHe ?_
  refine lv_aload_n hx hb dX12_stumble_0 rfl (lv_at hl 0 rfl) ?_
  refine lv_iconst (v := 0) hx hb dX12_stumble_1 (by decide) ?_
  refine va_put (D := D) (ci := 12) (v := .int 0) (ty := .int) (C := RX12) (T := TX12) (N := 45) hx hb hts hi12 tyX12 tyX12_ok nmX12 hown hK hP hD hS 0 rfl rfl 0 (by decide) (hts (.fieldLink RX12 80 "OverHillModel" "thrown" "I") (by decide +kernel)) (fun _ h9 => h9) rfl (by decide +kernel) rfl rfl (Nat.le_of_ble_eq_true rfl) dX12_stumble_2 (fun H locs hP hD hS => ?_)
  have hP : va_P D vwCl [mo h r 0 0, ((r 16), .inl (cI, 5, .inl (fun _ => 0)))] H := hP
  have hD : va_D A [mo h r 0 0, ((r 16), .inl (cI, 5, .inl (fun _ => 0)))] := hD
  refine lv_aload_n hx hb dX12_stumble_5 rfl (lv_at hl 0 rfl) ?_
  refine lv_iload_n hx hb dX12_stumble_6 rfl (lv_at hl 1 rfl) ?_
  refine ct_calli (D := D) (wc := (w_c_X12_isSide cI cJ cB cZ cO h r)) (wr := []) (va_runV (As := [.int x1]) (rest := []) ⟨hx, hb, hml, hown, hts⟩ (c_X12_isSide l D cI cJ cB cZ cO h r x1 H.size) (cwV 1 hts gX12_stumble_X12_isSide rfl rfl rfl (by decide +kernel) ⟨Nat.le_of_ble_eq_true rfl, Nat.le_of_ble_eq_true rfl⟩) (ct_preV (T := ct_T cI cJ cB cZ cO) (ci := 12) (q0 := 0) hE hP hD [0, 1] (by decide) rfl rfl rfl) rfl rfl hl.1 rfl (lv_room (Nat.le_of_ble_eq_true rfl)) dX12_stumble_7 ⟨Nat.le_of_ble_eq_true rfl, Nat.le_of_ble_eq_true rfl⟩) hP hD hS hA [0, 1] [] rfl rfl (by decide) (by decide) (fun rz u H locs hw hP hD hS => ?_)
  have hP : va_P D vwCl [mo h r 0 0, ((r 16), .inl (cI, 5, .inl (fun _ => 0)))] H := hP
  have hD : va_D A [mo h r 0 0, ((r 16), .inl (cI, 5, .inl (fun _ => 0)))] := hD
  obtain ⟨rfl, hq331⟩ := hw
  refine lv_if_eq (tgt := 42) hx hb dX12_stumble_10 (by decide) (fun _ => ?_) (fun hc => absurd hc (by decide))
  refine lv_bipush (v := (-2)) hx hb dX12_stumble_42 (by decide) ?_
  have hP9 := hP.sub (ws' := []) [] rfl
  have hD9 := hD.sub (ws' := []) [] (by decide) rfl
  exact W.iret (v := (-2)) hx hb hr (fun t ht hW => ⟨⟨(-2), (), rfl, ⟨rfl, trivial⟩, by rw [ht]; exact hP9, hD9⟩, hS.F ht⟩) hS.2.2 dX12_stumble_44
abbrev w_c_X12_mud (cI cJ cB cZ cO : ClassId) (h : Nat) (r : Nat → Nat) : va_W := [mo h r 0 0, ((r 16), .inl (cI, 5, .inl (fun _ => 0)))]
set_option maxHeartbeats 4000000 in
set_option maxRecDepth 100000 in
/-- mud, of the reference, on a new object -/
theorem c_X12_mud (l : Launch) (D : va_G) (cI cJ cB cZ cO : ClassId) (h : Nat) (r : Nat → Nat) (x1 : Int32) (x2 : Int32) (sz : Nat) : Met l yX12_mud wsX12_mud ({ frames := 1, cells := 0, slots := 0, locals := 20 }) (va_Pc [.ref h, .int x1, .int x2] (ct_P D (ct_T cI cJ cB cZ cO) (w_c_X12_mud cI cJ cB cZ cO h r) sz)) (va_Qi (fun (rz : Int32) (u : Unit) => (rz = (-2) ∧ True)) (fun (u : Unit) t => ct_Q D (va_A (w_c_X12_mud cI cJ cB cZ cO h r) sz) [] t) (va_A (w_c_X12_mud cI cJ cB cZ cO h r) sz)) 0 0 (va_A (w_c_X12_mud cI cJ cB cZ cO h r) sz) := by
  refine Met.ofW (cc := cX12_mud) (maxL := 4) (ret := (some .int)) (by decide) rfl ?_
  intro p e s m args below meth c s₁ B hml hv
  obtain ⟨rfl, hsz, hP, hE, hD0⟩ := hv
  have hx := B.exec
  have hb := B.bytes
  have hr := B.returns
  have hts := atoms_spec (ws := wsX12_mud) B.pre
  have hown : s.vm.findClass RX12 = some m.cls := findClass_of_methodNamed B.named
  have hlocks := B.notSynchronized
  have hK := hE.1
  have hi12 : ∀ w ∈ u_ws RX12 TX12 45, w ∈ wsX12_mud := fun w h => List.mem_cons_of_mem _ (List.mem_append_right _ h)
  subst hsz
  have hD := hD0.self (sz := s.heap.size)
  generalize hAe : va_A (w_c_X12_mud cI cJ cB cZ cO h r) s.heap.size = A at hD ⊢
  have hA : ∀ q : Nat, s.heap.size ≤ q → A q := fun q h => by rw [← hAe]; exact Or.inr h
  have hS : va_S A s.heap s.heap [] := va_S.rf
  have hP : va_P D vwCl [mo h r 0 0, ((r 16), .inl (cI, 5, .inl (fun _ => 0)))] s.heap := hP
  have hD : va_D A [mo h r 0 0, ((r 16), .inl (cI, 5, .inl (fun _ => 0)))] := hD
  have hl := lv_entry ([.ref h, .int x1, .int x2]) (n := 4) (Nat.le_of_ble_eq_true rfl)
  rw [lg_entry_eq]
  generalize (lg_sl ([.ref h, .int x1, .int x2]) ++ List.replicate (4 - (lg_sl ([.ref h, .int x1, .int x2])).length) Slot.unset).toArray = ls at hl ⊢
  have hl : lv_has ls 4 [(0, .ref h), (1, .int x1), (2, .int x2)] := hl
  obtain ⟨H, hHe⟩ : ∃ H : Heap, H = s.heap := ⟨_, rfl⟩
  rw [← hHe] at hP
  have hS : va_S A s.heap H [] := by rw [hHe]; exact va_S.rf
  refine ct_start hHe ?_
  refine lv_aload_n hx hb dX12_mud_0 rfl (lv_at hl 0 rfl) ?_
  refine lv_iconst (v := 0) hx hb dX12_mud_1 (by decide) ?_
  refine va_put (D := D) (ci := 12) (v := .int 0) (ty := .int) (C := RX12) (T := TX12) (N := 45) hx hb hts hi12 tyX12 tyX12_ok nmX12 hown hK hP hD hS 0 rfl rfl 0 (by decide) (hts (.fieldLink RX12 80 "OverHillModel" "thrown" "I") (by decide +kernel)) (fun _ h9 => h9) rfl (by decide +kernel) rfl rfl (Nat.le_of_ble_eq_true rfl) dX12_mud_2 (fun H locs hP hD hS => ?_)
  have hP : va_P D vwCl [mo h r 0 0, ((r 16), .inl (cI, 5, .inl (fun _ => 0)))] H := hP
  have hD : va_D A [mo h r 0 0, ((r 16), .inl (cI, 5, .inl (fun _ => 0)))] := hD
  refine lv_aload_n hx hb dX12_mud_5 rfl (lv_at hl 0 rfl) ?_
  refine ct_calli (D := D) (wc := (w_c_X12_isDance cI cJ cB cZ cO h r)) (wr := []) (va_runV (As := []) (rest := []) ⟨hx, hb, hml, hown, hts⟩ (c_X12_isDance l D cI cJ cB cZ cO h r H.size) (cwV 0 hts gX12_mud_X12_isDance rfl rfl rfl (by decide +kernel) ⟨Nat.le_of_ble_eq_true rfl, Nat.le_of_ble_eq_true rfl⟩) (ct_preV (T := ct_T cI cJ cB cZ cO) (ci := 12) (q0 := 0) hE hP hD [0, 1] (by decide) rfl rfl rfl) rfl rfl hl.1 rfl (lv_room (Nat.le_of_ble_eq_true rfl)) dX12_mud_6 ⟨Nat.le_of_ble_eq_true rfl, Nat.le_of_ble_eq_true rfl⟩) hP hD hS hA [0, 1] [] rfl rfl (by decide) (by decide) (fun rz u H locs hw hP hD hS => ?_)
  have hP : va_P D vwCl [mo h r 0 0, ((r 16), .inl (cI, 5, .inl (fun _ => 0)))] H := hP
  have hD : va_D A [mo h r 0 0, ((r 16), .inl (cI, 5, .inl (fun _ => 0)))] := hD
  obtain ⟨rfl, hq332⟩ := hw
  refine lv_if_eq (tgt := 30) hx hb dX12_mud_9 (by decide) (fun _ => ?_) (fun hc => absurd hc (by decide))
  refine lv_bipush (v := (-2)) hx hb dX12_mud_30 (by decide) ?_
  have hP9 := hP.sub (ws' := []) [] rfl
  have hD9 := hD.sub (ws' := []) [] (by decide) rfl
  exact W.iret (v := (-2)) hx hb hr (fun t ht hW => ⟨⟨(-2), (), rfl, ⟨rfl, trivial⟩, by rw [ht]; exact hP9, hD9⟩, hS.F ht⟩) hS.2.2 dX12_mud_32
abbrev w_c_X12_teach (cI cJ cB cZ cO : ClassId) (h : Nat) (r : Nat → Nat) : va_W := [mo h r 0 0, ((r 16), .inl (cI, 5, .inl (fun _ => 0)))]
set_option maxHeartbeats 4000000 in
set_option maxRecDepth 100000 in
/-- teach, of the reference, on a new object -/
theorem c_X12_teach (l : Launch) (D : va_G) (cI cJ cB cZ cO : ClassId) (h : Nat) (r : Nat → Nat) (x1 : Int32) (x2 : Int32) (x3 : Int32) (sz : Nat) : Met l yX12_teach wsX12_teach ({ frames := 2, cells := 0, slots := 0, locals := 41 }) (va_Pc [.ref h, .int x1, .int x2, .int x3] (ct_P D (ct_T cI cJ cB cZ cO) (w_c_X12_teach cI cJ cB cZ cO h r) sz)) (va_Qi (fun (rz : Int32) (u : Unit) => (rz = (-2) ∧ True)) (fun (u : Unit) t => ct_Q D (va_A (w_c_X12_teach cI cJ cB cZ cO h r) sz) [] t) (va_A (w_c_X12_teach cI cJ cB cZ cO h r) sz)) 0 0 (va_A (w_c_X12_teach cI cJ cB cZ cO h r) sz) := by
  refine Met.ofW (cc := cX12_teach) (maxL := 5) (ret := (some .int)) (by decide) rfl ?_
  intro p e s m args below meth c s₁ B hml hv
  obtain ⟨rfl, hsz, hP, hE, hD0⟩ := hv
  have hx := B.exec
  have hb := B.bytes
  have hr := B.returns
  have hts := atoms_spec (ws := wsX12_teach) B.pre
  have hown : s.vm.findClass RX12 = some m.cls := findClass_of_methodNamed B.named
  have hlocks := B.notSynchronized
  have hK := hE.1
  have hi12 : ∀ w ∈ u_ws RX12 TX12 45, w ∈ wsX12_teach := fun w h => List.mem_cons_of_mem _ (List.mem_append_right _ h)
  subst hsz
  have hD := hD0.self (sz := s.heap.size)
  generalize hAe : va_A (w_c_X12_teach cI cJ cB cZ cO h r) s.heap.size = A at hD ⊢
  have hA : ∀ q : Nat, s.heap.size ≤ q → A q := fun q h => by rw [← hAe]; exact Or.inr h
  have hS : va_S A s.heap s.heap [] := va_S.rf
  have hP : va_P D vwCl [mo h r 0 0, ((r 16), .inl (cI, 5, .inl (fun _ => 0)))] s.heap := hP
  have hD : va_D A [mo h r 0 0, ((r 16), .inl (cI, 5, .inl (fun _ => 0)))] := hD
  have hl := lv_entry ([.ref h, .int x1, .int x2, .int x3]) (n := 5) (Nat.le_of_ble_eq_true rfl)
  rw [lg_entry_eq]
  generalize (lg_sl ([.ref h, .int x1, .int x2, .int x3]) ++ List.replicate (5 - (lg_sl ([.ref h, .int x1, .int x2, .int x3])).length) Slot.unset).toArray = ls at hl ⊢
  have hl : lv_has ls 5 [(0, .ref h), (1, .int x1), (2, .int x2), (3, .int x3)] := hl
  obtain ⟨H, hHe⟩ : ∃ H : Heap, H = s.heap := ⟨_, rfl⟩
  rw [← hHe] at hP
  have hS : va_S A s.heap H [] := by rw [hHe]; exact va_S.rf
  refine ct_start hHe ?_
  refine lv_aload_n hx hb dX12_teach_0 rfl (lv_at hl 0 rfl) ?_
  refine lv_iconst (v := 0) hx hb dX12_teach_1 (by decide) ?_
  refine va_put (D := D) (ci := 12) (v := .int 0) (ty := .int) (C := RX12) (T := TX12) (N := 45) hx hb hts hi12 tyX12 tyX12_ok nmX12 hown hK hP hD hS 0 rfl rfl 0 (by decide) (hts (.fieldLink RX12 80 "OverHillModel" "thrown" "I") (by decide +kernel)) (fun _ h9 => h9) rfl (by decide +kernel) rfl rfl (Nat.le_of_ble_eq_true rfl) dX12_teach_2 (fun H locs hP hD hS => ?_)
  have hP : va_P D vwCl [mo h r 0 0, ((r 16), .inl (cI, 5, .inl (fun _ => 0)))] H := hP
  have hD : va_D A [mo h r 0 0, ((r 16), .inl (cI, 5, .inl (fun _ => 0)))] := hD
  refine lv_aload_n hx hb dX12_teach_5 rfl (lv_at hl 0 rfl) ?_
  refine lv_iload_n hx hb dX12_teach_6 rfl (lv_at hl 1 rfl) ?_
  refine ct_calli (D := D) (wc := (w_c_X12_isSide cI cJ cB cZ cO h r)) (wr := []) (va_runV (As := [.int x1]) (rest := []) ⟨hx, hb, hml, hown, hts⟩ (c_X12_isSide l D cI cJ cB cZ cO h r x1 H.size) (cwV 1 hts gX12_teach_X12_isSide rfl rfl rfl (by decide +kernel) ⟨Nat.le_of_ble_eq_true rfl, Nat.le_of_ble_eq_true rfl⟩) (ct_preV (T := ct_T cI cJ cB cZ cO) (ci := 12) (q0 := 0) hE hP hD [0, 1] (by decide) rfl rfl rfl) rfl rfl hl.1 rfl (lv_room (Nat.le_of_ble_eq_true rfl)) dX12_teach_7 ⟨Nat.le_of_ble_eq_true rfl, Nat.le_of_ble_eq_true rfl⟩) hP hD hS hA [0, 1] [] rfl rfl (by decide) (by decide) (fun rz u H locs hw hP hD hS => ?_)
  have hP : va_P D vwCl [mo h r 0 0, ((r 16), .inl (cI, 5, .inl (fun _ => 0)))] H := hP
  have hD : va_D A [mo h r 0 0, ((r 16), .inl (cI, 5, .inl (fun _ => 0)))] := hD
  obtain ⟨rfl, hq333⟩ := hw
  refine lv_if_eq (tgt := 38) hx hb dX12_teach_10 (by decide) (fun _ => ?_) (fun hc => absurd hc (by decide))
  refine lv_bipush (v := (-2)) hx hb dX12_teach_38 (by decide) ?_
  have hP9 := hP.sub (ws' := []) [] rfl
  have hD9 := hD.sub (ws' := []) [] (by decide) rfl
  exact W.iret (v := (-2)) hx hb hr (fun t ht hW => ⟨⟨(-2), (), rfl, ⟨rfl, trivial⟩, by rw [ht]; exact hP9, hD9⟩, hS.F ht⟩) hS.2.2 dX12_teach_40
abbrev w_c_X12_undo (cI cJ cB cZ cO : ClassId) (h : Nat) (r : Nat → Nat) : va_W := [mo h r 0 0, ((r 16), .inl (cI, 5, .inl (fun _ => 0)))]
set_option maxHeartbeats 4000000 in
set_option maxRecDepth 100000 in
/-- undo, of the reference, on a new object -/
theorem c_X12_undo (l : Launch) (D : va_G) (cI cJ cB cZ cO : ClassId) (h : Nat) (r : Nat → Nat) (sz : Nat) : Met l yX12_undo wsX12_undo ({ frames := 1, cells := 0, slots := 0, locals := 20 }) (va_Pc [.ref h] (ct_P D (ct_T cI cJ cB cZ cO) (w_c_X12_undo cI cJ cB cZ cO h r) sz)) (va_Qi (fun (rz : Int32) (u : Unit) => (rz = (-2) ∧ True)) (fun (u : Unit) t => ct_Q D (va_A (w_c_X12_undo cI cJ cB cZ cO h r) sz) [] t) (va_A (w_c_X12_undo cI cJ cB cZ cO h r) sz)) 0 0 (va_A (w_c_X12_undo cI cJ cB cZ cO h r) sz) := by
  refine Met.ofW (cc := cX12_undo) (maxL := 2) (ret := (some .int)) (by decide) rfl ?_
  intro p e s m args below meth c s₁ B hml hv
  obtain ⟨rfl, hsz, hP, hE, hD0⟩ := hv
  have hx := B.exec
  have hb := B.bytes
  have hr := B.returns
  have hts := atoms_spec (ws := wsX12_undo) B.pre
  have hown : s.vm.findClass RX12 = some m.cls := findClass_of_methodNamed B.named
  have hlocks := B.notSynchronized
  have hK := hE.1
  have hi12 : ∀ w ∈ u_ws RX12 TX12 45, w ∈ wsX12_undo := fun w h => List.mem_cons_of_mem _ (List.mem_append_right _ h)
  subst hsz
  have hD := hD0.self (sz := s.heap.size)
  generalize hAe : va_A (w_c_X12_undo cI cJ cB cZ cO h r) s.heap.size = A at hD ⊢
  have hA : ∀ q : Nat, s.heap.size ≤ q → A q := fun q h => by rw [← hAe]; exact Or.inr h
  have hS : va_S A s.heap s.heap [] := va_S.rf
  have hP : va_P D vwCl [mo h r 0 0, ((r 16), .inl (cI, 5, .inl (fun _ => 0)))] s.heap := hP
  have hD : va_D A [mo h r 0 0, ((r 16), .inl (cI, 5, .inl (fun _ => 0)))] := hD
  have hl := lv_entry ([.ref h]) (n := 2) (Nat.le_of_ble_eq_true rfl)
  rw [lg_entry_eq]
  generalize (lg_sl ([.ref h]) ++ List.replicate (2 - (lg_sl ([.ref h])).length) Slot.unset).toArray = ls at hl ⊢
  have hl : lv_has ls 2 [(0, .ref h)] := hl
  obtain ⟨H, hHe⟩ : ∃ H : Heap, H = s.heap := ⟨_, rfl⟩
  rw [← hHe] at hP
  have hS : va_S A s.heap H [] := by rw [hHe]; exact va_S.rf
  refine ct_start hHe ?_
  refine lv_aload_n hx hb dX12_undo_0 rfl (lv_at hl 0 rfl) ?_
  refine lv_iconst (v := 0) hx hb dX12_undo_1 (by decide) ?_
  refine va_put (D := D) (ci := 12) (v := .int 0) (ty := .int) (C := RX12) (T := TX12) (N := 45) hx hb hts hi12 tyX12 tyX12_ok nmX12 hown hK hP hD hS 0 rfl rfl 0 (by decide) (hts (.fieldLink RX12 80 "OverHillModel" "thrown" "I") (by decide +kernel)) (fun _ h9 => h9) rfl (by decide +kernel) rfl rfl (Nat.le_of_ble_eq_true rfl) dX12_undo_2 (fun H locs hP hD hS => ?_)
  have hP : va_P D vwCl [mo h r 0 0, ((r 16), .inl (cI, 5, .inl (fun _ => 0)))] H := hP
  have hD : va_D A [mo h r 0 0, ((r 16), .inl (cI, 5, .inl (fun _ => 0)))] := hD
  refine lv_aload_n hx hb dX12_undo_5 rfl (lv_at hl 0 rfl) ?_
  refine ct_calli (D := D) (wc := (w_c_X12_isDance cI cJ cB cZ cO h r)) (wr := []) (va_runV (As := []) (rest := []) ⟨hx, hb, hml, hown, hts⟩ (c_X12_isDance l D cI cJ cB cZ cO h r H.size) (cwV 0 hts gX12_undo_X12_isDance rfl rfl rfl (by decide +kernel) ⟨Nat.le_of_ble_eq_true rfl, Nat.le_of_ble_eq_true rfl⟩) (ct_preV (T := ct_T cI cJ cB cZ cO) (ci := 12) (q0 := 0) hE hP hD [0, 1] (by decide) rfl rfl rfl) rfl rfl hl.1 rfl (lv_room (Nat.le_of_ble_eq_true rfl)) dX12_undo_6 ⟨Nat.le_of_ble_eq_true rfl, Nat.le_of_ble_eq_true rfl⟩) hP hD hS hA [0, 1] [] rfl rfl (by decide) (by decide) (fun rz u H locs hw hP hD hS => ?_)
  have hP : va_P D vwCl [mo h r 0 0, ((r 16), .inl (cI, 5, .inl (fun _ => 0)))] H := hP
  have hD : va_D A [mo h r 0 0, ((r 16), .inl (cI, 5, .inl (fun _ => 0)))] := hD
  obtain ⟨rfl, hq334⟩ := hw
  refine lv_if_ne (tgt := 15) hx hb dX12_undo_9 (by decide) (fun hc => absurd hc (by decide)) (fun _ => ?_)
  refine lv_bipush (v := (-2)) hx hb dX12_undo_12 (by decide) ?_
  have hP9 := hP.sub (ws' := []) [] rfl
  have hD9 := hD.sub (ws' := []) [] (by decide) rfl
  exact W.iret (v := (-2)) hx hb hr (fun t ht hW => ⟨⟨(-2), (), rfl, ⟨rfl, trivial⟩, by rw [ht]; exact hP9, hD9⟩, hS.F ht⟩) hS.2.2 dX12_undo_14
abbrev w_c_X12_stumbled (cI cJ cB cZ cO : ClassId) (h : Nat) (r : Nat → Nat) : va_W := [mo h r 0 0, ((r 17), .inl (cI, 55, .inl (fun _ => 0)))]
set_option maxHeartbeats 4000000 in
set_option maxRecDepth 100000 in
/-- stumbled, of the reference, on a new object -/
theorem c_X12_stumbled (l : Launch) (D : va_G) (cI cJ cB cZ cO : ClassId) (h : Nat) (r : Nat → Nat) (x1 : Int32) (x2 : Int32) (sz : Nat) : Met l yX12_stumbled wsX12_stumbled ({ frames := 1, cells := 0, slots := 0, locals := 25 }) (va_Pc [.ref h, .int x1, .int x2] (ct_P D (ct_T cI cJ cB cZ cO) (w_c_X12_stumbled cI cJ cB cZ cO h r) sz)) (va_Qi (fun (rz : Int32) (u : Unit) => (rz = (-2) ∧ True)) (fun (u : Unit) t => ct_Q D (va_A (w_c_X12_stumbled cI cJ cB cZ cO h r) sz) [] t) (va_A (w_c_X12_stumbled cI cJ cB cZ cO h r) sz)) 0 0 (va_A (w_c_X12_stumbled cI cJ cB cZ cO h r) sz) := by
  refine Met.ofW (cc := cX12_stumbled) (maxL := 3) (ret := (some .int)) (by decide) rfl ?_
  intro p e s m args below meth c s₁ B hml hv
  obtain ⟨rfl, hsz, hP, hE, hD0⟩ := hv
  have hx := B.exec
  have hb := B.bytes
  have hr := B.returns
  have hts := atoms_spec (ws := wsX12_stumbled) B.pre
  have hown : s.vm.findClass RX12 = some m.cls := findClass_of_methodNamed B.named
  have hlocks := B.notSynchronized
  have hK := hE.1
  have hi12 : ∀ w ∈ u_ws RX12 TX12 45, w ∈ wsX12_stumbled := fun w h => List.mem_cons_of_mem _ (List.mem_append_right _ h)
  subst hsz
  have hD := hD0.self (sz := s.heap.size)
  generalize hAe : va_A (w_c_X12_stumbled cI cJ cB cZ cO h r) s.heap.size = A at hD ⊢
  have hA : ∀ q : Nat, s.heap.size ≤ q → A q := fun q h => by rw [← hAe]; exact Or.inr h
  have hS : va_S A s.heap s.heap [] := va_S.rf
  have hP : va_P D vwCl [mo h r 0 0, ((r 17), .inl (cI, 55, .inl (fun _ => 0)))] s.heap := hP
  have hD : va_D A [mo h r 0 0, ((r 17), .inl (cI, 55, .inl (fun _ => 0)))] := hD
  have hl := lv_entry ([.ref h, .int x1, .int x2]) (n := 3) (Nat.le_of_ble_eq_true rfl)
  rw [lg_entry_eq]
  generalize (lg_sl ([.ref h, .int x1, .int x2]) ++ List.replicate (3 - (lg_sl ([.ref h, .int x1, .int x2])).length) Slot.unset).toArray = ls at hl ⊢
  have hl : lv_has ls 3 [(0, .ref h), (1, .int x1), (2, .int x2)] := hl
  obtain ⟨H, hHe⟩ : ∃ H : Heap, H = s.heap := ⟨_, rfl⟩
  rw [← hHe] at hP
  have hS : va_S A s.heap H [] := by rw [hHe]; exact va_S.rf
  refine ct_start hHe ?_
  refine lv_aload_n hx hb dX12_stumbled_0 rfl (lv_at hl 0 rfl) ?_
  refine lv_iconst (v := 0) hx hb dX12_stumbled_1 (by decide) ?_
  refine va_put (D := D) (ci := 12) (v := .int 0) (ty := .int) (C := RX12) (T := TX12) (N := 45) hx hb hts hi12 tyX12 tyX12_ok nmX12 hown hK hP hD hS 0 rfl rfl 0 (by decide) (hts (.fieldLink RX12 80 "OverHillModel" "thrown" "I") (by decide +kernel)) (fun _ h9 => h9) rfl (by decide +kernel) rfl rfl (Nat.le_of_ble_eq_true rfl) dX12_stumbled_2 (fun H locs hP hD hS => ?_)
  have hP : va_P D vwCl [mo h r 0 0, ((r 17), .inl (cI, 55, .inl (fun _ => 0)))] H := hP
  have hD : va_D A [mo h r 0 0, ((r 17), .inl (cI, 55, .inl (fun _ => 0)))] := hD
  refine lv_iload_n hx hb dX12_stumbled_5 rfl (lv_at hl 1 rfl) ?_
  refine lv_i2l (v := x1.toInt64) hx hb dX12_stumbled_6 rfl ?_
  refine lv_lconst (v := 0) hx hb dX12_stumbled_7 (by decide) ?_
  refine lv_aload_n hx hb dX12_stumbled_8 rfl (lv_at hl 0 rfl) ?_
  refine va_get (D := D) (ci := 12) (v := .ref (r 17)) (C := RX12) (T := TX12) (N := 45) hx hb hts hi12 hown hK hP 0 rfl rfl 17 (by decide) (hts (.fieldLink RX12 34 "OverHillModel" "has" "[I") (by decide +kernel)) (fun _ h9 => h9) rfl dX12_stumbled_9 ?_
  refine lv_bipush (v := 7) hx hb dX12_stumbled_12 (by decide) ?_
  refine va_iald (D := D) hx hb hK hP 1 0 rfl rfl (tq_in (a := 7) (by decide) (by omega)) dX12_stumbled_14 ?_
  refine lv_topi (fun z335 ez335 => ?_)
  obtain rfl : z335 = 0 := ez335
  refine lv_iconst (v := 1) hx hb dX12_stumbled_15 (by decide) ?_
  refine lv_isub hx hb dX12_stumbled_16 ?_
  refine lv_topi (fun z336 ez336 => ?_)
  obtain rfl : z336 = (-1) := ez336.trans (by decide)
  refine lv_i2l (v := (-1)) hx hb dX12_stumbled_17 (by decide) ?_
  refine ct_calli (D := D) (wc := (w_c_X12_in cI cJ cB cZ cO )) (wr := [mo h r 0 0, ((r 17), .inl (cI, 55, .inl (fun _ => 0)))]) (va_runS (As := [.long x1.toInt64, .long 0, .long (-1)]) (rest := []) ⟨hx, hb, hml, hown, hts⟩ (c_X12_in l D cI cJ cB cZ cO x1.toInt64 0 (((-1))) x1.toInt 0 (-1) (tl_i rfl) (by decide) (by decide) H.size) (va_cwS 3 hts gX12_stumbled_X12_in rfl rfl rfl (by decide +kernel) ⟨Nat.le_of_ble_eq_true rfl, Nat.le_of_ble_eq_true rfl⟩) (ct_preS (T := ct_T cI cJ cB cZ cO) hE hP hD [] (by decide) rfl) rfl rfl hl.1 rfl (lv_room (Nat.le_of_ble_eq_true rfl)) dX12_stumbled_18 ⟨Nat.le_of_ble_eq_true rfl, Nat.le_of_ble_eq_true rfl⟩) hP hD hS hA [] [0, 1] rfl rfl (by decide) (by decide) (fun rz u H locs hw hP hD hS => ?_)
  have hP : va_P D vwCl [mo h r 0 0, ((r 17), .inl (cI, 55, .inl (fun _ => 0)))] H := hP
  have hD : va_D A [mo h r 0 0, ((r 17), .inl (cI, 55, .inl (fun _ => 0)))] := hD
  rcases hw with ⟨rfl, hq337⟩ | ⟨rfl, hq337⟩
  · exact absurd hq337 (by omega)
  · refine lv_if_eq (tgt := 49) hx hb dX12_stumbled_21 (by decide) (fun _ => ?_) (fun hc => absurd hc (by decide))
    refine lv_bipush (v := (-2)) hx hb dX12_stumbled_49 (by decide) ?_
    have hP9 := hP.sub (ws' := []) [] rfl
    have hD9 := hD.sub (ws' := []) [] (by decide) rfl
    exact W.iret (v := (-2)) hx hb hr (fun t ht hW => ⟨⟨(-2), (), rfl, ⟨rfl, trivial⟩, by rw [ht]; exact hP9, hD9⟩, hS.F ht⟩) hS.2.2 dX12_stumbled_51
abbrev w_c_X12_undoes (cI cJ cB cZ cO : ClassId) (h : Nat) (r : Nat → Nat) : va_W := [mo h r 0 0, ((r 17), .inl (cI, 55, .inl (fun _ => 0)))]
set_option maxHeartbeats 4000000 in
set_option maxRecDepth 100000 in
/-- undoes, of the reference, on a new object -/
theorem c_X12_undoes (l : Launch) (D : va_G) (cI cJ cB cZ cO : ClassId) (h : Nat) (r : Nat → Nat) (x1 : Int32) (sz : Nat) : Met l yX12_undoes wsX12_undoes ({ frames := 1, cells := 0, slots := 0, locals := 25 }) (va_Pc [.ref h, .int x1] (ct_P D (ct_T cI cJ cB cZ cO) (w_c_X12_undoes cI cJ cB cZ cO h r) sz)) (va_Qi (fun (rz : Int32) (u : Unit) => (rz = (-1000) ∧ True)) (fun (u : Unit) t => ct_Q D (va_A (w_c_X12_undoes cI cJ cB cZ cO h r) sz) [] t) (va_A (w_c_X12_undoes cI cJ cB cZ cO h r) sz)) 0 0 (va_A (w_c_X12_undoes cI cJ cB cZ cO h r) sz) := by
  refine Met.ofW (cc := cX12_undoes) (maxL := 3) (ret := (some .int)) (by decide) rfl ?_
  intro p e s m args below meth c s₁ B hml hv
  obtain ⟨rfl, hsz, hP, hE, hD0⟩ := hv
  have hx := B.exec
  have hb := B.bytes
  have hr := B.returns
  have hts := atoms_spec (ws := wsX12_undoes) B.pre
  have hown : s.vm.findClass RX12 = some m.cls := findClass_of_methodNamed B.named
  have hlocks := B.notSynchronized
  have hK := hE.1
  have hi12 : ∀ w ∈ u_ws RX12 TX12 45, w ∈ wsX12_undoes := fun w h => List.mem_cons_of_mem _ (List.mem_append_right _ h)
  subst hsz
  have hD := hD0.self (sz := s.heap.size)
  generalize hAe : va_A (w_c_X12_undoes cI cJ cB cZ cO h r) s.heap.size = A at hD ⊢
  have hA : ∀ q : Nat, s.heap.size ≤ q → A q := fun q h => by rw [← hAe]; exact Or.inr h
  have hS : va_S A s.heap s.heap [] := va_S.rf
  have hP : va_P D vwCl [mo h r 0 0, ((r 17), .inl (cI, 55, .inl (fun _ => 0)))] s.heap := hP
  have hD : va_D A [mo h r 0 0, ((r 17), .inl (cI, 55, .inl (fun _ => 0)))] := hD
  have hl := lv_entry ([.ref h, .int x1]) (n := 3) (Nat.le_of_ble_eq_true rfl)
  rw [lg_entry_eq]
  generalize (lg_sl ([.ref h, .int x1]) ++ List.replicate (3 - (lg_sl ([.ref h, .int x1])).length) Slot.unset).toArray = ls at hl ⊢
  have hl : lv_has ls 3 [(0, .ref h), (1, .int x1)] := hl
  obtain ⟨H, hHe⟩ : ∃ H : Heap, H = s.heap := ⟨_, rfl⟩
  rw [← hHe] at hP
  have hS : va_S A s.heap H [] := by rw [hHe]; exact va_S.rf
  refine ct_start hHe ?_
  refine lv_aload_n hx hb dX12_undoes_0 rfl (lv_at hl 0 rfl) ?_
  refine lv_iconst (v := 0) hx hb dX12_undoes_1 (by decide) ?_
  refine va_put (D := D) (ci := 12) (v := .int 0) (ty := .int) (C := RX12) (T := TX12) (N := 45) hx hb hts hi12 tyX12 tyX12_ok nmX12 hown hK hP hD hS 0 rfl rfl 0 (by decide) (hts (.fieldLink RX12 80 "OverHillModel" "thrown" "I") (by decide +kernel)) (fun _ h9 => h9) rfl (by decide +kernel) rfl rfl (Nat.le_of_ble_eq_true rfl) dX12_undoes_2 (fun H locs hP hD hS => ?_)
  have hP : va_P D vwCl [mo h r 0 0, ((r 17), .inl (cI, 55, .inl (fun _ => 0)))] H := hP
  have hD : va_D A [mo h r 0 0, ((r 17), .inl (cI, 55, .inl (fun _ => 0)))] := hD
  refine lv_iload_n hx hb dX12_undoes_5 rfl (lv_at hl 1 rfl) ?_
  refine lv_i2l (v := x1.toInt64) hx hb dX12_undoes_6 rfl ?_
  refine lv_lconst (v := 0) hx hb dX12_undoes_7 (by decide) ?_
  refine lv_aload_n hx hb dX12_undoes_8 rfl (lv_at hl 0 rfl) ?_
  refine va_get (D := D) (ci := 12) (v := .ref (r 17)) (C := RX12) (T := TX12) (N := 45) hx hb hts hi12 hown hK hP 0 rfl rfl 17 (by decide) (hts (.fieldLink RX12 34 "OverHillModel" "has" "[I") (by decide +kernel)) (fun _ h9 => h9) rfl dX12_undoes_9 ?_
  refine lv_bipush (v := 7) hx hb dX12_undoes_12 (by decide) ?_
  refine va_iald (D := D) hx hb hK hP 1 0 rfl rfl (tq_in (a := 7) (by decide) (by omega)) dX12_undoes_14 ?_
  refine lv_topi (fun z338 ez338 => ?_)
  obtain rfl : z338 = 0 := ez338
  refine lv_iconst (v := 1) hx hb dX12_undoes_15 (by decide) ?_
  refine lv_isub hx hb dX12_undoes_16 ?_
  refine lv_topi (fun z339 ez339 => ?_)
  obtain rfl : z339 = (-1) := ez339.trans (by decide)
  refine lv_i2l (v := (-1)) hx hb dX12_undoes_17 (by decide) ?_
  refine ct_calli (D := D) (wc := (w_c_X12_in cI cJ cB cZ cO )) (wr := [mo h r 0 0, ((r 17), .inl (cI, 55, .inl (fun _ => 0)))]) (va_runS (As := [.long x1.toInt64, .long 0, .long (-1)]) (rest := []) ⟨hx, hb, hml, hown, hts⟩ (c_X12_in l D cI cJ cB cZ cO x1.toInt64 0 (((-1))) x1.toInt 0 (-1) (tl_i rfl) (by decide) (by decide) H.size) (va_cwS 3 hts gX12_undoes_X12_in rfl rfl rfl (by decide +kernel) ⟨Nat.le_of_ble_eq_true rfl, Nat.le_of_ble_eq_true rfl⟩) (ct_preS (T := ct_T cI cJ cB cZ cO) hE hP hD [] (by decide) rfl) rfl rfl hl.1 rfl (lv_room (Nat.le_of_ble_eq_true rfl)) dX12_undoes_18 ⟨Nat.le_of_ble_eq_true rfl, Nat.le_of_ble_eq_true rfl⟩) hP hD hS hA [] [0, 1] rfl rfl (by decide) (by decide) (fun rz u H locs hw hP hD hS => ?_)
  have hP : va_P D vwCl [mo h r 0 0, ((r 17), .inl (cI, 55, .inl (fun _ => 0)))] H := hP
  have hD : va_D A [mo h r 0 0, ((r 17), .inl (cI, 55, .inl (fun _ => 0)))] := hD
  rcases hw with ⟨rfl, hq340⟩ | ⟨rfl, hq340⟩
  · exact absurd hq340 (by omega)
  · refine lv_if_ne (tgt := 28) hx hb dX12_undoes_21 (by decide) (fun hc => absurd hc (by decide)) (fun _ => ?_)
    refine lv_sipush (v := (-1000)) hx hb dX12_undoes_24 (by decide) ?_
    have hP9 := hP.sub (ws' := []) [] rfl
    have hD9 := hD.sub (ws' := []) [] (by decide) rfl
    exact W.iret (v := (-1000)) hx hb hr (fun t ht hW => ⟨⟨(-1000), (), rfl, ⟨rfl, trivial⟩, by rw [ht]; exact hP9, hD9⟩, hS.F ht⟩) hS.2.2 dX12_undoes_27
