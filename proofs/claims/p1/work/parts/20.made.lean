abbrev w_c_X1_init (cI cJ cB cZ cO : ClassId) (a : Nat) : va_W := [(a, .inr (1, [.null, .null, .null, .int 0, .int 0, .int 0]))]
set_option maxHeartbeats 4000000 in
set_option maxRecDepth 100000 in
/-- made -/
theorem c_X1_init (l : Launch) (D : va_G) (cI cJ cB cZ cO : ClassId) (a : Nat) (sz : Nat) : Met l yX1_init wsX1_init ({ frames := 1, cells := 3, slots := 1000, locals := 20 }) (va_Pc [.ref a] (ct_P D (ct_T cI cJ cB cZ cO) (w_c_X1_init cI cJ cB cZ cO a) sz)) (va_Qv (fun (u : Unit) => True) (fun (u : Unit) t => ct_Q D (va_A (w_c_X1_init cI cJ cB cZ cO a) sz) [] t) (va_A (w_c_X1_init cI cJ cB cZ cO a) sz)) 3 1000 (va_A (w_c_X1_init cI cJ cB cZ cO a) sz) := by
  refine Met.ofW (cc := cX1_init) (maxL := 1) (ret := none) (by decide) rfl ?_
  intro p e s m args below meth c s₁ B hml hv
  obtain ⟨rfl, hsz, hP, hE, hD0⟩ := hv
  have hx := B.exec
  have hb := B.bytes
  have hr := B.returns
  have hts := atoms_spec (ws := wsX1_init) B.pre
  have hown : s.vm.findClass RX1 = some m.cls := findClass_of_methodNamed B.named
  have hlocks := B.notSynchronized
  have hin : meth.name = "<init>" := (name_of_methodNamed B.named B.method).1
  have hK := hE.1
  have hi1 : ∀ w ∈ u_ws RX1 TX1 6, w ∈ wsX1_init := fun w h => List.mem_cons_of_mem _ (List.mem_append_right _ h)
  subst hsz
  have hD := hD0.self (sz := s.heap.size)
  generalize hAe : va_A (w_c_X1_init cI cJ cB cZ cO a) s.heap.size = A at hD ⊢
  have hA : ∀ q : Nat, s.heap.size ≤ q → A q := fun q h => by rw [← hAe]; exact Or.inr h
  have hS : va_S A s.heap s.heap [] := va_S.rf
  have hP : va_P D vwCl [(a, .inr (1, [.null, .null, .null, .int 0, .int 0, .int 0]))] s.heap := hP
  have hD : va_D A [(a, .inr (1, [.null, .null, .null, .int 0, .int 0, .int 0]))] := hD
  have hl := lv_entry ([.ref a]) (n := 1) (Nat.le_of_ble_eq_true rfl)
  rw [lg_entry_eq]
  generalize (lg_sl ([.ref a]) ++ List.replicate (1 - (lg_sl ([.ref a])).length) Slot.unset).toArray = ls at hl ⊢
  have hl : lv_has ls 1 [(0, .ref a)] := hl
  obtain ⟨H, hHe⟩ : ∃ H : Heap, H = s.heap := ⟨_, rfl⟩
  rw [← hHe] at hP
  have hS : va_S A s.heap H [] := by rw [hHe]; exact va_S.rf
  refine ct_start hHe ?_
  refine lv_aload_n hx hb dX1_init_0 rfl (lv_at hl 0 rfl) ?_
  refine W.objInit hx hb hown (hts (.methodLink RX1 3 objectInit) (by decide +kernel)) (hts (.instanceMethod objectInit) (by decide +kernel)) (hts (.code objectInit ⟨#[0xb1]⟩ 1 none) (by decide +kernel)) rfl (by rw [hml]; exact hl.1) rfl dX1_init_1 (Nat.le_of_ble_eq_true rfl) (Nat.le_of_ble_eq_true rfl) ?_
  refine W.eq (g2 := F0 m 4 ls []) rfl ?_
  refine lv_aload_n hx hb dX1_init_4 rfl (lv_at hl 0 rfl) ?_
  refine lv_sipush (v := 400) hx hb dX1_init_5 (by decide) ?_
  refine ct_newi hx hb (hts (.arrayClass .int) (by decide +kernel)) rfl hK hP hD hS hA 400 (by decide) (by decide) (Nat.le_of_ble_eq_true rfl) (Nat.le_of_ble_eq_true rfl) (Nat.le_of_ble_eq_true rfl) dX1_init_8 (fun q220 H hP hD hS => ?_)
  have hP : va_P D vwCl [(a, .inr (1, [.null, .null, .null, .int 0, .int 0, .int 0])), (q220, .inl (cI, 400, .inl (fun _ => 0)))] H := hP
  have hD : va_D A [(a, .inr (1, [.null, .null, .null, .int 0, .int 0, .int 0])), (q220, .inl (cI, 400, .inl (fun _ => 0)))] := hD
  refine W.widen (k := 1) (n := 400) (Nat.le_of_ble_eq_true rfl) (Nat.le_of_ble_eq_true rfl) ?_
  refine va_putF (D := D) (ci := 1) (v := .ref q220) (ty := .array (.int)) (C := RX1) (T := TX1) (N := 6) hx hb hts hi1 tyX1 tyX1_ok nmX1 hown hK hP hD hS 0 rfl rfl 0 (by decide) (hts (.fieldLink RX1 9 "OverHill$Floor" "places" "[I") (by decide +kernel)) (fun _ h9 => h9) rfl hin rfl (by decide +kernel) rfl rfl (Nat.le_of_ble_eq_true rfl) dX1_init_10 (fun H locs hP hD hS => ?_)
  have hP : va_P D vwCl [(a, .inr (1, [.ref q220, .null, .null, .int 0, .int 0, .int 0])), (q220, .inl (cI, 400, .inl (fun _ => 0)))] H := hP
  have hD : va_D A [(a, .inr (1, [.ref q220, .null, .null, .int 0, .int 0, .int 0])), (q220, .inl (cI, 400, .inl (fun _ => 0)))] := hD
  refine lv_aload_n hx hb dX1_init_13 rfl (lv_at hl 0 rfl) ?_
  refine lv_sipush (v := 400) hx hb dX1_init_14 (by decide) ?_
  refine ct_newi hx hb (hts (.arrayClass .int) (by decide +kernel)) rfl hK hP hD hS hA 400 (by decide) (by decide) (Nat.le_of_ble_eq_true rfl) (Nat.le_of_ble_eq_true rfl) (Nat.le_of_ble_eq_true rfl) dX1_init_17 (fun q221 H hP hD hS => ?_)
  have hP : va_P D vwCl [(a, .inr (1, [.ref q220, .null, .null, .int 0, .int 0, .int 0])), (q220, .inl (cI, 400, .inl (fun _ => 0))), (q221, .inl (cI, 400, .inl (fun _ => 0)))] H := hP
  have hD : va_D A [(a, .inr (1, [.ref q220, .null, .null, .int 0, .int 0, .int 0])), (q220, .inl (cI, 400, .inl (fun _ => 0))), (q221, .inl (cI, 400, .inl (fun _ => 0)))] := hD
  refine W.widen (k := 2) (n := 800) (Nat.le_of_ble_eq_true rfl) (Nat.le_of_ble_eq_true rfl) ?_
  refine va_putF (D := D) (ci := 1) (v := .ref q221) (ty := .array (.int)) (C := RX1) (T := TX1) (N := 6) hx hb hts hi1 tyX1 tyX1_ok nmX1 hown hK hP hD hS 0 rfl rfl 1 (by decide) (hts (.fieldLink RX1 15 "OverHill$Floor" "steps" "[I") (by decide +kernel)) (fun _ h9 => h9) rfl hin rfl (by decide +kernel) rfl rfl (Nat.le_of_ble_eq_true rfl) dX1_init_19 (fun H locs hP hD hS => ?_)
  have hP : va_P D vwCl [(a, .inr (1, [.ref q220, .ref q221, .null, .int 0, .int 0, .int 0])), (q220, .inl (cI, 400, .inl (fun _ => 0))), (q221, .inl (cI, 400, .inl (fun _ => 0)))] H := hP
  have hD : va_D A [(a, .inr (1, [.ref q220, .ref q221, .null, .int 0, .int 0, .int 0])), (q220, .inl (cI, 400, .inl (fun _ => 0))), (q221, .inl (cI, 400, .inl (fun _ => 0)))] := hD
  refine lv_aload_n hx hb dX1_init_22 rfl (lv_at hl 0 rfl) ?_
  refine lv_sipush (v := 200) hx hb dX1_init_23 (by decide) ?_
  refine ct_newi hx hb (hts (.arrayClass .int) (by decide +kernel)) rfl hK hP hD hS hA 200 (by decide) (by decide) (Nat.le_of_ble_eq_true rfl) (Nat.le_of_ble_eq_true rfl) (Nat.le_of_ble_eq_true rfl) dX1_init_26 (fun q222 H hP hD hS => ?_)
  have hP : va_P D vwCl [(a, .inr (1, [.ref q220, .ref q221, .null, .int 0, .int 0, .int 0])), (q220, .inl (cI, 400, .inl (fun _ => 0))), (q221, .inl (cI, 400, .inl (fun _ => 0))), (q222, .inl (cI, 200, .inl (fun _ => 0)))] H := hP
  have hD : va_D A [(a, .inr (1, [.ref q220, .ref q221, .null, .int 0, .int 0, .int 0])), (q220, .inl (cI, 400, .inl (fun _ => 0))), (q221, .inl (cI, 400, .inl (fun _ => 0))), (q222, .inl (cI, 200, .inl (fun _ => 0)))] := hD
  refine W.widen (k := 3) (n := 1000) (Nat.le_of_ble_eq_true rfl) (Nat.le_of_ble_eq_true rfl) ?_
  refine va_putF (D := D) (ci := 1) (v := .ref q222) (ty := .array (.int)) (C := RX1) (T := TX1) (N := 6) hx hb hts hi1 tyX1 tyX1_ok nmX1 hown hK hP hD hS 0 rfl rfl 2 (by decide) (hts (.fieldLink RX1 18 "OverHill$Floor" "stumbleIn" "[I") (by decide +kernel)) (fun _ h9 => h9) rfl hin rfl (by decide +kernel) rfl rfl (Nat.le_of_ble_eq_true rfl) dX1_init_28 (fun H locs hP hD hS => ?_)
  have hP : va_P D vwCl [(a, .inr (1, [.ref q220, .ref q221, .ref q222, .int 0, .int 0, .int 0])), (q220, .inl (cI, 400, .inl (fun _ => 0))), (q221, .inl (cI, 400, .inl (fun _ => 0))), (q222, .inl (cI, 200, .inl (fun _ => 0)))] H := hP
  have hD : va_D A [(a, .inr (1, [.ref q220, .ref q221, .ref q222, .int 0, .int 0, .int 0])), (q220, .inl (cI, 400, .inl (fun _ => 0))), (q221, .inl (cI, 400, .inl (fun _ => 0))), (q222, .inl (cI, 200, .inl (fun _ => 0)))] := hD
  have hP9 := hP.sub (ws' := []) [] rfl
  have hD9 := hD.sub (ws' := []) [] (by decide) rfl
  exact W.vret hx hb hr (fun t ht hW => ⟨⟨(), rfl, trivial, by rw [ht]; exact hP9, hD9⟩, hS.F ht⟩) hS.2.2 dX1_init_31
abbrev w_c_X6_init (cI cJ cB cZ cO : ClassId) (a : Nat) : va_W := [(a, .inr (6, [.null]))]
set_option maxHeartbeats 4000000 in
set_option maxRecDepth 100000 in
/-- made -/
theorem c_X6_init (l : Launch) (D : va_G) (cI cJ cB cZ cO : ClassId) (a : Nat) (sz : Nat) : Met l yX6_init wsX6_init ({ frames := 1, cells := 1, slots := 12, locals := 20 }) (va_Pc [.ref a] (ct_P D (ct_T cI cJ cB cZ cO) (w_c_X6_init cI cJ cB cZ cO a) sz)) (va_Qv (fun (u : Unit) => True) (fun (u : Unit) t => ct_Q D (va_A (w_c_X6_init cI cJ cB cZ cO a) sz) [] t) (va_A (w_c_X6_init cI cJ cB cZ cO a) sz)) 1 12 (va_A (w_c_X6_init cI cJ cB cZ cO a) sz) := by
  refine Met.ofW (cc := cX6_init) (maxL := 1) (ret := none) (by decide) rfl ?_
  intro p e s m args below meth c s₁ B hml hv
  obtain ⟨rfl, hsz, hP, hE, hD0⟩ := hv
  have hx := B.exec
  have hb := B.bytes
  have hr := B.returns
  have hts := atoms_spec (ws := wsX6_init) B.pre
  have hown : s.vm.findClass RX6 = some m.cls := findClass_of_methodNamed B.named
  have hlocks := B.notSynchronized
  have hin : meth.name = "<init>" := (name_of_methodNamed B.named B.method).1
  have hK := hE.1
  have hi6 : ∀ w ∈ u_ws RX6 TX6 1, w ∈ wsX6_init := fun w h => List.mem_cons_of_mem _ (List.mem_append_right _ h)
  subst hsz
  have hD := hD0.self (sz := s.heap.size)
  generalize hAe : va_A (w_c_X6_init cI cJ cB cZ cO a) s.heap.size = A at hD ⊢
  have hA : ∀ q : Nat, s.heap.size ≤ q → A q := fun q h => by rw [← hAe]; exact Or.inr h
  have hS : va_S A s.heap s.heap [] := va_S.rf
  have hP : va_P D vwCl [(a, .inr (6, [.null]))] s.heap := hP
  have hD : va_D A [(a, .inr (6, [.null]))] := hD
  have hl := lv_entry ([.ref a]) (n := 1) (Nat.le_of_ble_eq_true rfl)
  rw [lg_entry_eq]
  generalize (lg_sl ([.ref a]) ++ List.replicate (1 - (lg_sl ([.ref a])).length) Slot.unset).toArray = ls at hl ⊢
  have hl : lv_has ls 1 [(0, .ref a)] := hl
  obtain ⟨H, hHe⟩ : ∃ H : Heap, H = s.heap := ⟨_, rfl⟩
  rw [← hHe] at hP
  have hS : va_S A s.heap H [] := by rw [hHe]; exact va_S.rf
  refine ct_start hHe ?_
  refine lv_aload_n hx hb dX6_init_0 rfl (lv_at hl 0 rfl) ?_
  refine W.objInit hx hb hown (hts (.methodLink RX6 3 objectInit) (by decide +kernel)) (hts (.instanceMethod objectInit) (by decide +kernel)) (hts (.code objectInit ⟨#[0xb1]⟩ 1 none) (by decide +kernel)) rfl (by rw [hml]; exact hl.1) rfl dX6_init_1 (Nat.le_of_ble_eq_true rfl) (Nat.le_of_ble_eq_true rfl) ?_
  refine W.eq (g2 := F0 m 4 ls []) rfl ?_
  refine lv_aload_n hx hb dX6_init_4 rfl (lv_at hl 0 rfl) ?_
  refine lv_bipush (v := 12) hx hb dX6_init_5 (by decide) ?_
  refine ct_newi hx hb (hts (.arrayClass .int) (by decide +kernel)) rfl hK hP hD hS hA 12 (by decide) (by decide) (Nat.le_of_ble_eq_true rfl) (Nat.le_of_ble_eq_true rfl) (Nat.le_of_ble_eq_true rfl) dX6_init_7 (fun q223 H hP hD hS => ?_)
  have hP : va_P D vwCl [(a, .inr (6, [.null])), (q223, .inl (cI, 12, .inl (fun _ => 0)))] H := hP
  have hD : va_D A [(a, .inr (6, [.null])), (q223, .inl (cI, 12, .inl (fun _ => 0)))] := hD
  refine W.widen (k := 1) (n := 12) (Nat.le_of_ble_eq_true rfl) (Nat.le_of_ble_eq_true rfl) ?_
  refine va_putF (D := D) (ci := 6) (v := .ref q223) (ty := .array (.int)) (C := RX6) (T := TX6) (N := 1) hx hb hts hi6 tyX6 tyX6_ok nmX6 hown hK hP hD hS 0 rfl rfl 0 (by decide) (hts (.fieldLink RX6 9 "OverHill$Rounds" "fits" "[I") (by decide +kernel)) (fun _ h9 => h9) rfl hin rfl (by decide +kernel) rfl rfl (Nat.le_of_ble_eq_true rfl) dX6_init_9 (fun H locs hP hD hS => ?_)
  have hP : va_P D vwCl [(a, .inr (6, [.ref q223])), (q223, .inl (cI, 12, .inl (fun _ => 0)))] H := hP
  have hD : va_D A [(a, .inr (6, [.ref q223])), (q223, .inl (cI, 12, .inl (fun _ => 0)))] := hD
  have hP9 := hP.sub (ws' := []) [] rfl
  have hD9 := hD.sub (ws' := []) [] (by decide) rfl
  exact W.vret hx hb hr (fun t ht hW => ⟨⟨(), rfl, trivial, by rw [ht]; exact hP9, hD9⟩, hS.F ht⟩) hS.2.2 dX6_init_12
abbrev w_c_X3_init (cI cJ cB cZ cO : ClassId) (a : Nat) : va_W := [(a, .inr (3, [.int 0, .int 0, .null, .int 0, .int 0, .null, .null, .null, .null, .null, .int 0, .int 0]))]
set_option maxHeartbeats 4000000 in
set_option maxRecDepth 100000 in
/-- made -/
theorem c_X3_init (l : Launch) (D : va_G) (cI cJ cB cZ cO : ClassId) (a : Nat) (sz : Nat) : Met l yX3_init wsX3_init ({ frames := 1, cells := 6, slots := 298, locals := 20 }) (va_Pc [.ref a] (ct_P D (ct_T cI cJ cB cZ cO) (w_c_X3_init cI cJ cB cZ cO a) sz)) (va_Qv (fun (u : Unit) => True) (fun (u : Unit) t => ct_Q D (va_A (w_c_X3_init cI cJ cB cZ cO a) sz) [] t) (va_A (w_c_X3_init cI cJ cB cZ cO a) sz)) 6 298 (va_A (w_c_X3_init cI cJ cB cZ cO a) sz) := by
  refine Met.ofW (cc := cX3_init) (maxL := 1) (ret := none) (by decide) rfl ?_
  intro p e s m args below meth c s₁ B hml hv
  obtain ⟨rfl, hsz, hP, hE, hD0⟩ := hv
  have hx := B.exec
  have hb := B.bytes
  have hr := B.returns
  have hts := atoms_spec (ws := wsX3_init) B.pre
  have hown : s.vm.findClass RX3 = some m.cls := findClass_of_methodNamed B.named
  have hlocks := B.notSynchronized
  have hin : meth.name = "<init>" := (name_of_methodNamed B.named B.method).1
  have hK := hE.1
  have hi3 : ∀ w ∈ u_ws RX3 TX3 12, w ∈ wsX3_init := fun w h => List.mem_cons_of_mem _ (List.mem_append_right _ h)
  subst hsz
  have hD := hD0.self (sz := s.heap.size)
  generalize hAe : va_A (w_c_X3_init cI cJ cB cZ cO a) s.heap.size = A at hD ⊢
  have hA : ∀ q : Nat, s.heap.size ≤ q → A q := fun q h => by rw [← hAe]; exact Or.inr h
  have hS : va_S A s.heap s.heap [] := va_S.rf
  have hP : va_P D vwCl [(a, .inr (3, [.int 0, .int 0, .null, .int 0, .int 0, .null, .null, .null, .null, .null, .int 0, .int 0]))] s.heap := hP
  have hD : va_D A [(a, .inr (3, [.int 0, .int 0, .null, .int 0, .int 0, .null, .null, .null, .null, .null, .int 0, .int 0]))] := hD
  have hl := lv_entry ([.ref a]) (n := 1) (Nat.le_of_ble_eq_true rfl)
  rw [lg_entry_eq]
  generalize (lg_sl ([.ref a]) ++ List.replicate (1 - (lg_sl ([.ref a])).length) Slot.unset).toArray = ls at hl ⊢
  have hl : lv_has ls 1 [(0, .ref a)] := hl
  obtain ⟨H, hHe⟩ : ∃ H : Heap, H = s.heap := ⟨_, rfl⟩
  rw [← hHe] at hP
  have hS : va_S A s.heap H [] := by rw [hHe]; exact va_S.rf
  refine ct_start hHe ?_
  refine lv_aload_n hx hb dX3_init_0 rfl (lv_at hl 0 rfl) ?_
  refine W.objInit hx hb hown (hts (.methodLink RX3 3 objectInit) (by decide +kernel)) (hts (.instanceMethod objectInit) (by decide +kernel)) (hts (.code objectInit ⟨#[0xb1]⟩ 1 none) (by decide +kernel)) rfl (by rw [hml]; exact hl.1) rfl dX3_init_1 (Nat.le_of_ble_eq_true rfl) (Nat.le_of_ble_eq_true rfl) ?_
  refine W.eq (g2 := F0 m 4 ls []) rfl ?_
  refine lv_aload_n hx hb dX3_init_4 rfl (lv_at hl 0 rfl) ?_
  refine lv_bipush (v := 12) hx hb dX3_init_5 (by decide) ?_
  refine ct_newi hx hb (hts (.arrayClass .int) (by decide +kernel)) rfl hK hP hD hS hA 12 (by decide) (by decide) (Nat.le_of_ble_eq_true rfl) (Nat.le_of_ble_eq_true rfl) (Nat.le_of_ble_eq_true rfl) dX3_init_7 (fun q224 H hP hD hS => ?_)
  have hP : va_P D vwCl [(a, .inr (3, [.int 0, .int 0, .null, .int 0, .int 0, .null, .null, .null, .null, .null, .int 0, .int 0])), (q224, .inl (cI, 12, .inl (fun _ => 0)))] H := hP
  have hD : va_D A [(a, .inr (3, [.int 0, .int 0, .null, .int 0, .int 0, .null, .null, .null, .null, .null, .int 0, .int 0])), (q224, .inl (cI, 12, .inl (fun _ => 0)))] := hD
  refine W.widen (k := 1) (n := 12) (Nat.le_of_ble_eq_true rfl) (Nat.le_of_ble_eq_true rfl) ?_
  refine va_putF (D := D) (ci := 3) (v := .ref q224) (ty := .array (.int)) (C := RX3) (T := TX3) (N := 12) hx hb hts hi3 tyX3 tyX3_ok nmX3 hown hK hP hD hS 0 rfl rfl 2 (by decide) (hts (.fieldLink RX3 9 "OverHill$Guess" "round" "[I") (by decide +kernel)) (fun _ h9 => h9) rfl hin rfl (by decide +kernel) rfl rfl (Nat.le_of_ble_eq_true rfl) dX3_init_9 (fun H locs hP hD hS => ?_)
  have hP : va_P D vwCl [(a, .inr (3, [.int 0, .int 0, .ref q224, .int 0, .int 0, .null, .null, .null, .null, .null, .int 0, .int 0])), (q224, .inl (cI, 12, .inl (fun _ => 0)))] H := hP
  have hD : va_D A [(a, .inr (3, [.int 0, .int 0, .ref q224, .int 0, .int 0, .null, .null, .null, .null, .null, .int 0, .int 0])), (q224, .inl (cI, 12, .inl (fun _ => 0)))] := hD
  refine lv_aload_n hx hb dX3_init_12 rfl (lv_at hl 0 rfl) ?_
  refine lv_bipush (v := 10) hx hb dX3_init_13 (by decide) ?_
  refine ct_newi hx hb (hts (.arrayClass .int) (by decide +kernel)) rfl hK hP hD hS hA 10 (by decide) (by decide) (Nat.le_of_ble_eq_true rfl) (Nat.le_of_ble_eq_true rfl) (Nat.le_of_ble_eq_true rfl) dX3_init_15 (fun q225 H hP hD hS => ?_)
  have hP : va_P D vwCl [(a, .inr (3, [.int 0, .int 0, .ref q224, .int 0, .int 0, .null, .null, .null, .null, .null, .int 0, .int 0])), (q224, .inl (cI, 12, .inl (fun _ => 0))), (q225, .inl (cI, 10, .inl (fun _ => 0)))] H := hP
  have hD : va_D A [(a, .inr (3, [.int 0, .int 0, .ref q224, .int 0, .int 0, .null, .null, .null, .null, .null, .int 0, .int 0])), (q224, .inl (cI, 12, .inl (fun _ => 0))), (q225, .inl (cI, 10, .inl (fun _ => 0)))] := hD
  refine W.widen (k := 2) (n := 22) (Nat.le_of_ble_eq_true rfl) (Nat.le_of_ble_eq_true rfl) ?_
  refine va_putF (D := D) (ci := 3) (v := .ref q225) (ty := .array (.int)) (C := RX3) (T := TX3) (N := 12) hx hb hts hi3 tyX3 tyX3_ok nmX3 hown hK hP hD hS 0 rfl rfl 5 (by decide) (hts (.fieldLink RX3 15 "OverHill$Guess" "lastUnlike" "[I") (by decide +kernel)) (fun _ h9 => h9) rfl hin rfl (by decide +kernel) rfl rfl (Nat.le_of_ble_eq_true rfl) dX3_init_17 (fun H locs hP hD hS => ?_)
  have hP : va_P D vwCl [(a, .inr (3, [.int 0, .int 0, .ref q224, .int 0, .int 0, .ref q225, .null, .null, .null, .null, .int 0, .int 0])), (q224, .inl (cI, 12, .inl (fun _ => 0))), (q225, .inl (cI, 10, .inl (fun _ => 0)))] H := hP
  have hD : va_D A [(a, .inr (3, [.int 0, .int 0, .ref q224, .int 0, .int 0, .ref q225, .null, .null, .null, .null, .int 0, .int 0])), (q224, .inl (cI, 12, .inl (fun _ => 0))), (q225, .inl (cI, 10, .inl (fun _ => 0)))] := hD
  refine lv_aload_n hx hb dX3_init_20 rfl (lv_at hl 0 rfl) ?_
  refine lv_sipush (v := 200) hx hb dX3_init_21 (by decide) ?_
  refine ct_newi hx hb (hts (.arrayClass .int) (by decide +kernel)) rfl hK hP hD hS hA 200 (by decide) (by decide) (Nat.le_of_ble_eq_true rfl) (Nat.le_of_ble_eq_true rfl) (Nat.le_of_ble_eq_true rfl) dX3_init_24 (fun q226 H hP hD hS => ?_)
  have hP : va_P D vwCl [(a, .inr (3, [.int 0, .int 0, .ref q224, .int 0, .int 0, .ref q225, .null, .null, .null, .null, .int 0, .int 0])), (q224, .inl (cI, 12, .inl (fun _ => 0))), (q225, .inl (cI, 10, .inl (fun _ => 0))), (q226, .inl (cI, 200, .inl (fun _ => 0)))] H := hP
  have hD : va_D A [(a, .inr (3, [.int 0, .int 0, .ref q224, .int 0, .int 0, .ref q225, .null, .null, .null, .null, .int 0, .int 0])), (q224, .inl (cI, 12, .inl (fun _ => 0))), (q225, .inl (cI, 10, .inl (fun _ => 0))), (q226, .inl (cI, 200, .inl (fun _ => 0)))] := hD
  refine W.widen (k := 3) (n := 222) (Nat.le_of_ble_eq_true rfl) (Nat.le_of_ble_eq_true rfl) ?_
  refine va_putF (D := D) (ci := 3) (v := .ref q226) (ty := .array (.int)) (C := RX3) (T := TX3) (N := 12) hx hb hts hi3 tyX3 tyX3_ok nmX3 hown hK hP hD hS 0 rfl rfl 6 (by decide) (hts (.fieldLink RX3 18 "OverHill$Guess" "places" "[I") (by decide +kernel)) (fun _ h9 => h9) rfl hin rfl (by decide +kernel) rfl rfl (Nat.le_of_ble_eq_true rfl) dX3_init_26 (fun H locs hP hD hS => ?_)
  have hP : va_P D vwCl [(a, .inr (3, [.int 0, .int 0, .ref q224, .int 0, .int 0, .ref q225, .ref q226, .null, .null, .null, .int 0, .int 0])), (q224, .inl (cI, 12, .inl (fun _ => 0))), (q225, .inl (cI, 10, .inl (fun _ => 0))), (q226, .inl (cI, 200, .inl (fun _ => 0)))] H := hP
  have hD : va_D A [(a, .inr (3, [.int 0, .int 0, .ref q224, .int 0, .int 0, .ref q225, .ref q226, .null, .null, .null, .int 0, .int 0])), (q224, .inl (cI, 12, .inl (fun _ => 0))), (q225, .inl (cI, 10, .inl (fun _ => 0))), (q226, .inl (cI, 200, .inl (fun _ => 0)))] := hD
  refine lv_aload_n hx hb dX3_init_29 rfl (lv_at hl 0 rfl) ?_
  refine lv_bipush (v := 60) hx hb dX3_init_30 (by decide) ?_
  refine ct_newi hx hb (hts (.arrayClass .int) (by decide +kernel)) rfl hK hP hD hS hA 60 (by decide) (by decide) (Nat.le_of_ble_eq_true rfl) (Nat.le_of_ble_eq_true rfl) (Nat.le_of_ble_eq_true rfl) dX3_init_32 (fun q227 H hP hD hS => ?_)
  have hP : va_P D vwCl [(a, .inr (3, [.int 0, .int 0, .ref q224, .int 0, .int 0, .ref q225, .ref q226, .null, .null, .null, .int 0, .int 0])), (q224, .inl (cI, 12, .inl (fun _ => 0))), (q225, .inl (cI, 10, .inl (fun _ => 0))), (q226, .inl (cI, 200, .inl (fun _ => 0))), (q227, .inl (cI, 60, .inl (fun _ => 0)))] H := hP
  have hD : va_D A [(a, .inr (3, [.int 0, .int 0, .ref q224, .int 0, .int 0, .ref q225, .ref q226, .null, .null, .null, .int 0, .int 0])), (q224, .inl (cI, 12, .inl (fun _ => 0))), (q225, .inl (cI, 10, .inl (fun _ => 0))), (q226, .inl (cI, 200, .inl (fun _ => 0))), (q227, .inl (cI, 60, .inl (fun _ => 0)))] := hD
  refine W.widen (k := 4) (n := 282) (Nat.le_of_ble_eq_true rfl) (Nat.le_of_ble_eq_true rfl) ?_
  refine va_putF (D := D) (ci := 3) (v := .ref q227) (ty := .array (.int)) (C := RX3) (T := TX3) (N := 12) hx hb hts hi3 tyX3 tyX3_ok nmX3 hown hK hP hD hS 0 rfl rfl 7 (by decide) (hts (.fieldLink RX3 21 "OverHill$Guess" "stepsIn" "[I") (by decide +kernel)) (fun _ h9 => h9) rfl hin rfl (by decide +kernel) rfl rfl (Nat.le_of_ble_eq_true rfl) dX3_init_34 (fun H locs hP hD hS => ?_)
  have hP : va_P D vwCl [(a, .inr (3, [.int 0, .int 0, .ref q224, .int 0, .int 0, .ref q225, .ref q226, .ref q227, .null, .null, .int 0, .int 0])), (q224, .inl (cI, 12, .inl (fun _ => 0))), (q225, .inl (cI, 10, .inl (fun _ => 0))), (q226, .inl (cI, 200, .inl (fun _ => 0))), (q227, .inl (cI, 60, .inl (fun _ => 0)))] H := hP
  have hD : va_D A [(a, .inr (3, [.int 0, .int 0, .ref q224, .int 0, .int 0, .ref q225, .ref q226, .ref q227, .null, .null, .int 0, .int 0])), (q224, .inl (cI, 12, .inl (fun _ => 0))), (q225, .inl (cI, 10, .inl (fun _ => 0))), (q226, .inl (cI, 200, .inl (fun _ => 0))), (q227, .inl (cI, 60, .inl (fun _ => 0)))] := hD
  refine lv_aload_n hx hb dX3_init_37 rfl (lv_at hl 0 rfl) ?_
  refine lv_bipush (v := 10) hx hb dX3_init_38 (by decide) ?_
  refine ct_newi hx hb (hts (.arrayClass .int) (by decide +kernel)) rfl hK hP hD hS hA 10 (by decide) (by decide) (Nat.le_of_ble_eq_true rfl) (Nat.le_of_ble_eq_true rfl) (Nat.le_of_ble_eq_true rfl) dX3_init_40 (fun q228 H hP hD hS => ?_)
  have hP : va_P D vwCl [(a, .inr (3, [.int 0, .int 0, .ref q224, .int 0, .int 0, .ref q225, .ref q226, .ref q227, .null, .null, .int 0, .int 0])), (q224, .inl (cI, 12, .inl (fun _ => 0))), (q225, .inl (cI, 10, .inl (fun _ => 0))), (q226, .inl (cI, 200, .inl (fun _ => 0))), (q227, .inl (cI, 60, .inl (fun _ => 0))), (q228, .inl (cI, 10, .inl (fun _ => 0)))] H := hP
  have hD : va_D A [(a, .inr (3, [.int 0, .int 0, .ref q224, .int 0, .int 0, .ref q225, .ref q226, .ref q227, .null, .null, .int 0, .int 0])), (q224, .inl (cI, 12, .inl (fun _ => 0))), (q225, .inl (cI, 10, .inl (fun _ => 0))), (q226, .inl (cI, 200, .inl (fun _ => 0))), (q227, .inl (cI, 60, .inl (fun _ => 0))), (q228, .inl (cI, 10, .inl (fun _ => 0)))] := hD
  refine W.widen (k := 5) (n := 292) (Nat.le_of_ble_eq_true rfl) (Nat.le_of_ble_eq_true rfl) ?_
  refine va_putF (D := D) (ci := 3) (v := .ref q228) (ty := .array (.int)) (C := RX3) (T := TX3) (N := 12) hx hb hts hi3 tyX3 tyX3_ok nmX3 hown hK hP hD hS 0 rfl rfl 8 (by decide) (hts (.fieldLink RX3 24 "OverHill$Guess" "passed" "[I") (by decide +kernel)) (fun _ h9 => h9) rfl hin rfl (by decide +kernel) rfl rfl (Nat.le_of_ble_eq_true rfl) dX3_init_42 (fun H locs hP hD hS => ?_)
  have hP : va_P D vwCl [(a, .inr (3, [.int 0, .int 0, .ref q224, .int 0, .int 0, .ref q225, .ref q226, .ref q227, .ref q228, .null, .int 0, .int 0])), (q224, .inl (cI, 12, .inl (fun _ => 0))), (q225, .inl (cI, 10, .inl (fun _ => 0))), (q226, .inl (cI, 200, .inl (fun _ => 0))), (q227, .inl (cI, 60, .inl (fun _ => 0))), (q228, .inl (cI, 10, .inl (fun _ => 0)))] H := hP
  have hD : va_D A [(a, .inr (3, [.int 0, .int 0, .ref q224, .int 0, .int 0, .ref q225, .ref q226, .ref q227, .ref q228, .null, .int 0, .int 0])), (q224, .inl (cI, 12, .inl (fun _ => 0))), (q225, .inl (cI, 10, .inl (fun _ => 0))), (q226, .inl (cI, 200, .inl (fun _ => 0))), (q227, .inl (cI, 60, .inl (fun _ => 0))), (q228, .inl (cI, 10, .inl (fun _ => 0)))] := hD
  refine lv_aload_n hx hb dX3_init_45 rfl (lv_at hl 0 rfl) ?_
  refine lv_bipush (v := 6) hx hb dX3_init_46 (by decide) ?_
  refine ct_newi hx hb (hts (.arrayClass .int) (by decide +kernel)) rfl hK hP hD hS hA 6 (by decide) (by decide) (Nat.le_of_ble_eq_true rfl) (Nat.le_of_ble_eq_true rfl) (Nat.le_of_ble_eq_true rfl) dX3_init_48 (fun q229 H hP hD hS => ?_)
  have hP : va_P D vwCl [(a, .inr (3, [.int 0, .int 0, .ref q224, .int 0, .int 0, .ref q225, .ref q226, .ref q227, .ref q228, .null, .int 0, .int 0])), (q224, .inl (cI, 12, .inl (fun _ => 0))), (q225, .inl (cI, 10, .inl (fun _ => 0))), (q226, .inl (cI, 200, .inl (fun _ => 0))), (q227, .inl (cI, 60, .inl (fun _ => 0))), (q228, .inl (cI, 10, .inl (fun _ => 0))), (q229, .inl (cI, 6, .inl (fun _ => 0)))] H := hP
  have hD : va_D A [(a, .inr (3, [.int 0, .int 0, .ref q224, .int 0, .int 0, .ref q225, .ref q226, .ref q227, .ref q228, .null, .int 0, .int 0])), (q224, .inl (cI, 12, .inl (fun _ => 0))), (q225, .inl (cI, 10, .inl (fun _ => 0))), (q226, .inl (cI, 200, .inl (fun _ => 0))), (q227, .inl (cI, 60, .inl (fun _ => 0))), (q228, .inl (cI, 10, .inl (fun _ => 0))), (q229, .inl (cI, 6, .inl (fun _ => 0)))] := hD
  refine W.widen (k := 6) (n := 298) (Nat.le_of_ble_eq_true rfl) (Nat.le_of_ble_eq_true rfl) ?_
  refine va_putF (D := D) (ci := 3) (v := .ref q229) (ty := .array (.int)) (C := RX3) (T := TX3) (N := 12) hx hb hts hi3 tyX3 tyX3_ok nmX3 hown hK hP hD hS 0 rfl rfl 9 (by decide) (hts (.fieldLink RX3 27 "OverHill$Guess" "classes" "[I") (by decide +kernel)) (fun _ h9 => h9) rfl hin rfl (by decide +kernel) rfl rfl (Nat.le_of_ble_eq_true rfl) dX3_init_50 (fun H locs hP hD hS => ?_)
  have hP : va_P D vwCl [(a, .inr (3, [.int 0, .int 0, .ref q224, .int 0, .int 0, .ref q225, .ref q226, .ref q227, .ref q228, .ref q229, .int 0, .int 0])), (q224, .inl (cI, 12, .inl (fun _ => 0))), (q225, .inl (cI, 10, .inl (fun _ => 0))), (q226, .inl (cI, 200, .inl (fun _ => 0))), (q227, .inl (cI, 60, .inl (fun _ => 0))), (q228, .inl (cI, 10, .inl (fun _ => 0))), (q229, .inl (cI, 6, .inl (fun _ => 0)))] H := hP
  have hD : va_D A [(a, .inr (3, [.int 0, .int 0, .ref q224, .int 0, .int 0, .ref q225, .ref q226, .ref q227, .ref q228, .ref q229, .int 0, .int 0])), (q224, .inl (cI, 12, .inl (fun _ => 0))), (q225, .inl (cI, 10, .inl (fun _ => 0))), (q226, .inl (cI, 200, .inl (fun _ => 0))), (q227, .inl (cI, 60, .inl (fun _ => 0))), (q228, .inl (cI, 10, .inl (fun _ => 0))), (q229, .inl (cI, 6, .inl (fun _ => 0)))] := hD
  have hP9 := hP.sub (ws' := []) [] rfl
  have hD9 := hD.sub (ws' := []) [] (by decide) rfl
  exact W.vret hx hb hr (fun t ht hW => ⟨⟨(), rfl, trivial, by rw [ht]; exact hP9, hD9⟩, hS.F ht⟩) hS.2.2 dX3_init_53
abbrev w_c_X10_init (cI cJ cB cZ cO : ClassId) (a : Nat) : va_W := [(a, .inr (10, [.null, .int 0, .int 0]))]
set_option maxHeartbeats 4000000 in
set_option maxRecDepth 100000 in
/-- made -/
theorem c_X10_init (l : Launch) (D : va_G) (cI cJ cB cZ cO : ClassId) (a : Nat) (sz : Nat) : Met l yX10_init wsX10_init ({ frames := 1, cells := 1, slots := 24, locals := 20 }) (va_Pc [.ref a] (ct_P D (ct_T cI cJ cB cZ cO) (w_c_X10_init cI cJ cB cZ cO a) sz)) (va_Qv (fun (u : Unit) => True) (fun (u : Unit) t => ct_Q D (va_A (w_c_X10_init cI cJ cB cZ cO a) sz) [] t) (va_A (w_c_X10_init cI cJ cB cZ cO a) sz)) 1 24 (va_A (w_c_X10_init cI cJ cB cZ cO a) sz) := by
  refine Met.ofW (cc := cX10_init) (maxL := 1) (ret := none) (by decide) rfl ?_
  intro p e s m args below meth c s₁ B hml hv
  obtain ⟨rfl, hsz, hP, hE, hD0⟩ := hv
  have hx := B.exec
  have hb := B.bytes
  have hr := B.returns
  have hts := atoms_spec (ws := wsX10_init) B.pre
  have hown : s.vm.findClass RX10 = some m.cls := findClass_of_methodNamed B.named
  have hlocks := B.notSynchronized
  have hin : meth.name = "<init>" := (name_of_methodNamed B.named B.method).1
  have hK := hE.1
  have hi10 : ∀ w ∈ u_ws RX10 TX10 3, w ∈ wsX10_init := fun w h => List.mem_cons_of_mem _ (List.mem_append_right _ h)
  subst hsz
  have hD := hD0.self (sz := s.heap.size)
  generalize hAe : va_A (w_c_X10_init cI cJ cB cZ cO a) s.heap.size = A at hD ⊢
  have hA : ∀ q : Nat, s.heap.size ≤ q → A q := fun q h => by rw [← hAe]; exact Or.inr h
  have hS : va_S A s.heap s.heap [] := va_S.rf
  have hP : va_P D vwCl [(a, .inr (10, [.null, .int 0, .int 0]))] s.heap := hP
  have hD : va_D A [(a, .inr (10, [.null, .int 0, .int 0]))] := hD
  have hl := lv_entry ([.ref a]) (n := 1) (Nat.le_of_ble_eq_true rfl)
  rw [lg_entry_eq]
  generalize (lg_sl ([.ref a]) ++ List.replicate (1 - (lg_sl ([.ref a])).length) Slot.unset).toArray = ls at hl ⊢
  have hl : lv_has ls 1 [(0, .ref a)] := hl
  obtain ⟨H, hHe⟩ : ∃ H : Heap, H = s.heap := ⟨_, rfl⟩
  rw [← hHe] at hP
  have hS : va_S A s.heap H [] := by rw [hHe]; exact va_S.rf
  refine ct_start hHe ?_
  refine lv_aload_n hx hb dX10_init_0 rfl (lv_at hl 0 rfl) ?_
  refine W.objInit hx hb hown (hts (.methodLink RX10 3 objectInit) (by decide +kernel)) (hts (.instanceMethod objectInit) (by decide +kernel)) (hts (.code objectInit ⟨#[0xb1]⟩ 1 none) (by decide +kernel)) rfl (by rw [hml]; exact hl.1) rfl dX10_init_1 (Nat.le_of_ble_eq_true rfl) (Nat.le_of_ble_eq_true rfl) ?_
  refine W.eq (g2 := F0 m 4 ls []) rfl ?_
  refine lv_aload_n hx hb dX10_init_4 rfl (lv_at hl 0 rfl) ?_
  refine lv_bipush (v := 24) hx hb dX10_init_5 (by decide) ?_
  refine ct_newi hx hb (hts (.arrayClass .int) (by decide +kernel)) rfl hK hP hD hS hA 24 (by decide) (by decide) (Nat.le_of_ble_eq_true rfl) (Nat.le_of_ble_eq_true rfl) (Nat.le_of_ble_eq_true rfl) dX10_init_7 (fun q230 H hP hD hS => ?_)
  have hP : va_P D vwCl [(a, .inr (10, [.null, .int 0, .int 0])), (q230, .inl (cI, 24, .inl (fun _ => 0)))] H := hP
  have hD : va_D A [(a, .inr (10, [.null, .int 0, .int 0])), (q230, .inl (cI, 24, .inl (fun _ => 0)))] := hD
  refine W.widen (k := 1) (n := 24) (Nat.le_of_ble_eq_true rfl) (Nat.le_of_ble_eq_true rfl) ?_
  refine va_putF (D := D) (ci := 10) (v := .ref q230) (ty := .array (.int)) (C := RX10) (T := TX10) (N := 3) hx hb hts hi10 tyX10 tyX10_ok nmX10 hown hK hP hD hS 0 rfl rfl 0 (by decide) (hts (.fieldLink RX10 9 "OverHill$Wood" "arrivals" "[I") (by decide +kernel)) (fun _ h9 => h9) rfl hin rfl (by decide +kernel) rfl rfl (Nat.le_of_ble_eq_true rfl) dX10_init_9 (fun H locs hP hD hS => ?_)
  have hP : va_P D vwCl [(a, .inr (10, [.ref q230, .int 0, .int 0])), (q230, .inl (cI, 24, .inl (fun _ => 0)))] H := hP
  have hD : va_D A [(a, .inr (10, [.ref q230, .int 0, .int 0])), (q230, .inl (cI, 24, .inl (fun _ => 0)))] := hD
  have hP9 := hP.sub (ws' := []) [] rfl
  have hD9 := hD.sub (ws' := []) [] (by decide) rfl
  exact W.vret hx hb hr (fun t ht hW => ⟨⟨(), rfl, trivial, by rw [ht]; exact hP9, hD9⟩, hS.F ht⟩) hS.2.2 dX10_init_12
abbrev w_c_X9_init (cI cJ cB cZ cO : ClassId) (a : Nat) : va_W := [(a, .inr (9, [.long 0, .long 0]))]
set_option maxHeartbeats 4000000 in
set_option maxRecDepth 100000 in
/-- made -/
theorem c_X9_init (l : Launch) (D : va_G) (cI cJ cB cZ cO : ClassId) (a : Nat) (sz : Nat) : Met l yX9_init wsX9_init ({ frames := 1, cells := 0, slots := 0, locals := 20 }) (va_Pc [.ref a] (ct_P D (ct_T cI cJ cB cZ cO) (w_c_X9_init cI cJ cB cZ cO a) sz)) (va_Qv (fun (u : Unit) => True) (fun (u : Unit) t => ct_Q D (va_A (w_c_X9_init cI cJ cB cZ cO a) sz) [] t) (va_A (w_c_X9_init cI cJ cB cZ cO a) sz)) 0 0 (va_A (w_c_X9_init cI cJ cB cZ cO a) sz) := by
  refine Met.ofW (cc := cX9_init) (maxL := 1) (ret := none) (by decide) rfl ?_
  intro p e s m args below meth c s₁ B hml hv
  obtain ⟨rfl, hsz, hP, hE, hD0⟩ := hv
  have hx := B.exec
  have hb := B.bytes
  have hr := B.returns
  have hts := atoms_spec (ws := wsX9_init) B.pre
  have hown : s.vm.findClass RX9 = some m.cls := findClass_of_methodNamed B.named
  have hlocks := B.notSynchronized
  have hin : meth.name = "<init>" := (name_of_methodNamed B.named B.method).1
  have hK := hE.1
  subst hsz
  have hD := hD0.self (sz := s.heap.size)
  generalize hAe : va_A (w_c_X9_init cI cJ cB cZ cO a) s.heap.size = A at hD ⊢
  have hA : ∀ q : Nat, s.heap.size ≤ q → A q := fun q h => by rw [← hAe]; exact Or.inr h
  have hS : va_S A s.heap s.heap [] := va_S.rf
  have hP : va_P D vwCl [(a, .inr (9, [.long 0, .long 0]))] s.heap := hP
  have hD : va_D A [(a, .inr (9, [.long 0, .long 0]))] := hD
  have hl := lv_entry ([.ref a]) (n := 1) (Nat.le_of_ble_eq_true rfl)
  rw [lg_entry_eq]
  generalize (lg_sl ([.ref a]) ++ List.replicate (1 - (lg_sl ([.ref a])).length) Slot.unset).toArray = ls at hl ⊢
  have hl : lv_has ls 1 [(0, .ref a)] := hl
  obtain ⟨H, hHe⟩ : ∃ H : Heap, H = s.heap := ⟨_, rfl⟩
  rw [← hHe] at hP
  have hS : va_S A s.heap H [] := by rw [hHe]; exact va_S.rf
  refine ct_start hHe ?_
  refine lv_aload_n hx hb dX9_init_0 rfl (lv_at hl 0 rfl) ?_
  refine W.objInit hx hb hown (hts (.methodLink RX9 3 objectInit) (by decide +kernel)) (hts (.instanceMethod objectInit) (by decide +kernel)) (hts (.code objectInit ⟨#[0xb1]⟩ 1 none) (by decide +kernel)) rfl (by rw [hml]; exact hl.1) rfl dX9_init_1 (Nat.le_of_ble_eq_true rfl) (Nat.le_of_ble_eq_true rfl) ?_
  refine W.eq (g2 := F0 m 4 ls []) rfl ?_
  have hP9 := hP.sub (ws' := []) [] rfl
  have hD9 := hD.sub (ws' := []) [] (by decide) rfl
  exact W.vret hx hb hr (fun t ht hW => ⟨⟨(), rfl, trivial, by rw [ht]; exact hP9, hD9⟩, hS.F ht⟩) hS.2.2 dX9_init_4
abbrev w_c_X2_init (cI cJ cB cZ cO : ClassId) (a : Nat) : va_W := [(a, .inr (2, [.null]))]
set_option maxHeartbeats 4000000 in
set_option maxRecDepth 100000 in
/-- made -/
theorem c_X2_init (l : Launch) (D : va_G) (cI cJ cB cZ cO : ClassId) (a : Nat) (sz : Nat) : Met l yX2_init wsX2_init ({ frames := 1, cells := 1, slots := 729, locals := 20 }) (va_Pc [.ref a] (ct_P D (ct_T cI cJ cB cZ cO) (w_c_X2_init cI cJ cB cZ cO a) sz)) (va_Qv (fun (u : Unit) => True) (fun (u : Unit) t => ct_Q D (va_A (w_c_X2_init cI cJ cB cZ cO a) sz) [] t) (va_A (w_c_X2_init cI cJ cB cZ cO a) sz)) 1 729 (va_A (w_c_X2_init cI cJ cB cZ cO a) sz) := by
  refine Met.ofW (cc := cX2_init) (maxL := 1) (ret := none) (by decide) rfl ?_
  intro p e s m args below meth c s₁ B hml hv
  obtain ⟨rfl, hsz, hP, hE, hD0⟩ := hv
  have hx := B.exec
  have hb := B.bytes
  have hr := B.returns
  have hts := atoms_spec (ws := wsX2_init) B.pre
  have hown : s.vm.findClass RX2 = some m.cls := findClass_of_methodNamed B.named
  have hlocks := B.notSynchronized
  have hin : meth.name = "<init>" := (name_of_methodNamed B.named B.method).1
  have hK := hE.1
  have hi2 : ∀ w ∈ u_ws RX2 TX2 1, w ∈ wsX2_init := fun w h => List.mem_cons_of_mem _ (List.mem_append_right _ h)
  subst hsz
  have hD := hD0.self (sz := s.heap.size)
  generalize hAe : va_A (w_c_X2_init cI cJ cB cZ cO a) s.heap.size = A at hD ⊢
  have hA : ∀ q : Nat, s.heap.size ≤ q → A q := fun q h => by rw [← hAe]; exact Or.inr h
  have hS : va_S A s.heap s.heap [] := va_S.rf
  have hP : va_P D vwCl [(a, .inr (2, [.null]))] s.heap := hP
  have hD : va_D A [(a, .inr (2, [.null]))] := hD
  have hl := lv_entry ([.ref a]) (n := 1) (Nat.le_of_ble_eq_true rfl)
  rw [lg_entry_eq]
  generalize (lg_sl ([.ref a]) ++ List.replicate (1 - (lg_sl ([.ref a])).length) Slot.unset).toArray = ls at hl ⊢
  have hl : lv_has ls 1 [(0, .ref a)] := hl
  obtain ⟨H, hHe⟩ : ∃ H : Heap, H = s.heap := ⟨_, rfl⟩
  rw [← hHe] at hP
  have hS : va_S A s.heap H [] := by rw [hHe]; exact va_S.rf
  refine ct_start hHe ?_
  refine lv_aload_n hx hb dX2_init_0 rfl (lv_at hl 0 rfl) ?_
  refine W.objInit hx hb hown (hts (.methodLink RX2 3 objectInit) (by decide +kernel)) (hts (.instanceMethod objectInit) (by decide +kernel)) (hts (.code objectInit ⟨#[0xb1]⟩ 1 none) (by decide +kernel)) rfl (by rw [hml]; exact hl.1) rfl dX2_init_1 (Nat.le_of_ble_eq_true rfl) (Nat.le_of_ble_eq_true rfl) ?_
  refine W.eq (g2 := F0 m 4 ls []) rfl ?_
  refine lv_aload_n hx hb dX2_init_4 rfl (lv_at hl 0 rfl) ?_
  refine lv_sipush (v := 729) hx hb dX2_init_5 (by decide) ?_
  refine ct_newi hx hb (hts (.arrayClass .int) (by decide +kernel)) rfl hK hP hD hS hA 729 (by decide) (by decide) (Nat.le_of_ble_eq_true rfl) (Nat.le_of_ble_eq_true rfl) (Nat.le_of_ble_eq_true rfl) dX2_init_8 (fun q231 H hP hD hS => ?_)
  have hP : va_P D vwCl [(a, .inr (2, [.null])), (q231, .inl (cI, 729, .inl (fun _ => 0)))] H := hP
  have hD : va_D A [(a, .inr (2, [.null])), (q231, .inl (cI, 729, .inl (fun _ => 0)))] := hD
  refine W.widen (k := 1) (n := 729) (Nat.le_of_ble_eq_true rfl) (Nat.le_of_ble_eq_true rfl) ?_
  refine va_putF (D := D) (ci := 2) (v := .ref q231) (ty := .array (.int)) (C := RX2) (T := TX2) (N := 1) hx hb hts hi2 tyX2 tyX2_ok nmX2 hown hK hP hD hS 0 rfl rfl 0 (by decide) (hts (.fieldLink RX2 11 "OverHill$Game" "winning" "[I") (by decide +kernel)) (fun _ h9 => h9) rfl hin rfl (by decide +kernel) rfl rfl (Nat.le_of_ble_eq_true rfl) dX2_init_10 (fun H locs hP hD hS => ?_)
  have hP : va_P D vwCl [(a, .inr (2, [.ref q231])), (q231, .inl (cI, 729, .inl (fun _ => 0)))] H := hP
  have hD : va_D A [(a, .inr (2, [.ref q231])), (q231, .inl (cI, 729, .inl (fun _ => 0)))] := hD
  have hP9 := hP.sub (ws' := []) [] rfl
  have hD9 := hD.sub (ws' := []) [] (by decide) rfl
  exact W.vret hx hb hr (fun t ht hW => ⟨⟨(), rfl, trivial, by rw [ht]; exact hP9, hD9⟩, hS.F ht⟩) hS.2.2 dX2_init_13
abbrev w_c_X4_init (cI cJ cB cZ cO : ClassId) (a : Nat) : va_W := [(a, .inr (4, [.null, .null, .long 0, .int 0, .int 0, .int 0, .int 0]))]
set_option maxHeartbeats 4000000 in
set_option maxRecDepth 100000 in
/-- made -/
theorem c_X4_init (l : Launch) (D : va_G) (cI cJ cB cZ cO : ClassId) (a : Nat) (sz : Nat) : Met l yX4_init wsX4_init ({ frames := 1, cells := 2, slots := 202, locals := 20 }) (va_Pc [.ref a] (ct_P D (ct_T cI cJ cB cZ cO) (w_c_X4_init cI cJ cB cZ cO a) sz)) (va_Qv (fun (u : Unit) => True) (fun (u : Unit) t => ct_Q D (va_A (w_c_X4_init cI cJ cB cZ cO a) sz) [] t) (va_A (w_c_X4_init cI cJ cB cZ cO a) sz)) 2 202 (va_A (w_c_X4_init cI cJ cB cZ cO a) sz) := by
  refine Met.ofW (cc := cX4_init) (maxL := 1) (ret := none) (by decide) rfl ?_
  intro p e s m args below meth c s₁ B hml hv
  obtain ⟨rfl, hsz, hP, hE, hD0⟩ := hv
  have hx := B.exec
  have hb := B.bytes
  have hr := B.returns
  have hts := atoms_spec (ws := wsX4_init) B.pre
  have hown : s.vm.findClass RX4 = some m.cls := findClass_of_methodNamed B.named
  have hlocks := B.notSynchronized
  have hin : meth.name = "<init>" := (name_of_methodNamed B.named B.method).1
  have hK := hE.1
  have hi4 : ∀ w ∈ u_ws RX4 TX4 7, w ∈ wsX4_init := fun w h => List.mem_cons_of_mem _ (List.mem_append_right _ h)
  subst hsz
  have hD := hD0.self (sz := s.heap.size)
  generalize hAe : va_A (w_c_X4_init cI cJ cB cZ cO a) s.heap.size = A at hD ⊢
  have hA : ∀ q : Nat, s.heap.size ≤ q → A q := fun q h => by rw [← hAe]; exact Or.inr h
  have hS : va_S A s.heap s.heap [] := va_S.rf
  have hP : va_P D vwCl [(a, .inr (4, [.null, .null, .long 0, .int 0, .int 0, .int 0, .int 0]))] s.heap := hP
  have hD : va_D A [(a, .inr (4, [.null, .null, .long 0, .int 0, .int 0, .int 0, .int 0]))] := hD
  have hl := lv_entry ([.ref a]) (n := 1) (Nat.le_of_ble_eq_true rfl)
  rw [lg_entry_eq]
  generalize (lg_sl ([.ref a]) ++ List.replicate (1 - (lg_sl ([.ref a])).length) Slot.unset).toArray = ls at hl ⊢
  have hl : lv_has ls 1 [(0, .ref a)] := hl
  obtain ⟨H, hHe⟩ : ∃ H : Heap, H = s.heap := ⟨_, rfl⟩
  rw [← hHe] at hP
  have hS : va_S A s.heap H [] := by rw [hHe]; exact va_S.rf
  refine ct_start hHe ?_
  refine lv_aload_n hx hb dX4_init_0 rfl (lv_at hl 0 rfl) ?_
  refine W.objInit hx hb hown (hts (.methodLink RX4 3 objectInit) (by decide +kernel)) (hts (.instanceMethod objectInit) (by decide +kernel)) (hts (.code objectInit ⟨#[0xb1]⟩ 1 none) (by decide +kernel)) rfl (by rw [hml]; exact hl.1) rfl dX4_init_1 (Nat.le_of_ble_eq_true rfl) (Nat.le_of_ble_eq_true rfl) ?_
  refine W.eq (g2 := F0 m 4 ls []) rfl ?_
  refine lv_aload_n hx hb dX4_init_4 rfl (lv_at hl 0 rfl) ?_
  refine lv_sipush (v := 200) hx hb dX4_init_5 (by decide) ?_
  refine ct_newi hx hb (hts (.arrayClass .int) (by decide +kernel)) rfl hK hP hD hS hA 200 (by decide) (by decide) (Nat.le_of_ble_eq_true rfl) (Nat.le_of_ble_eq_true rfl) (Nat.le_of_ble_eq_true rfl) dX4_init_8 (fun q232 H hP hD hS => ?_)
  have hP : va_P D vwCl [(a, .inr (4, [.null, .null, .long 0, .int 0, .int 0, .int 0, .int 0])), (q232, .inl (cI, 200, .inl (fun _ => 0)))] H := hP
  have hD : va_D A [(a, .inr (4, [.null, .null, .long 0, .int 0, .int 0, .int 0, .int 0])), (q232, .inl (cI, 200, .inl (fun _ => 0)))] := hD
  refine W.widen (k := 1) (n := 200) (Nat.le_of_ble_eq_true rfl) (Nat.le_of_ble_eq_true rfl) ?_
  refine va_putF (D := D) (ci := 4) (v := .ref q232) (ty := .array (.int)) (C := RX4) (T := TX4) (N := 7) hx hb hts hi4 tyX4 tyX4_ok nmX4 hown hK hP hD hS 0 rfl rfl 0 (by decide) (hts (.fieldLink RX4 9 "OverHill$Night" "danced" "[I") (by decide +kernel)) (fun _ h9 => h9) rfl hin rfl (by decide +kernel) rfl rfl (Nat.le_of_ble_eq_true rfl) dX4_init_10 (fun H locs hP hD hS => ?_)
  have hP : va_P D vwCl [(a, .inr (4, [.ref q232, .null, .long 0, .int 0, .int 0, .int 0, .int 0])), (q232, .inl (cI, 200, .inl (fun _ => 0)))] H := hP
  have hD : va_D A [(a, .inr (4, [.ref q232, .null, .long 0, .int 0, .int 0, .int 0, .int 0])), (q232, .inl (cI, 200, .inl (fun _ => 0)))] := hD
  refine lv_aload_n hx hb dX4_init_13 rfl (lv_at hl 0 rfl) ?_
  refine lv_iconst (v := 2) hx hb dX4_init_14 (by decide) ?_
  refine ct_newi hx hb (hts (.arrayClass .int) (by decide +kernel)) rfl hK hP hD hS hA 2 (by decide) (by decide) (Nat.le_of_ble_eq_true rfl) (Nat.le_of_ble_eq_true rfl) (Nat.le_of_ble_eq_true rfl) dX4_init_15 (fun q233 H hP hD hS => ?_)
  have hP : va_P D vwCl [(a, .inr (4, [.ref q232, .null, .long 0, .int 0, .int 0, .int 0, .int 0])), (q232, .inl (cI, 200, .inl (fun _ => 0))), (q233, .inl (cI, 2, .inl (fun _ => 0)))] H := hP
  have hD : va_D A [(a, .inr (4, [.ref q232, .null, .long 0, .int 0, .int 0, .int 0, .int 0])), (q232, .inl (cI, 200, .inl (fun _ => 0))), (q233, .inl (cI, 2, .inl (fun _ => 0)))] := hD
  refine W.widen (k := 2) (n := 202) (Nat.le_of_ble_eq_true rfl) (Nat.le_of_ble_eq_true rfl) ?_
  refine va_putF (D := D) (ci := 4) (v := .ref q233) (ty := .array (.int)) (C := RX4) (T := TX4) (N := 7) hx hb hts hi4 tyX4 tyX4_ok nmX4 hown hK hP hD hS 0 rfl rfl 1 (by decide) (hts (.fieldLink RX4 15 "OverHill$Night" "places" "[I") (by decide +kernel)) (fun _ h9 => h9) rfl hin rfl (by decide +kernel) rfl rfl (Nat.le_of_ble_eq_true rfl) dX4_init_17 (fun H locs hP hD hS => ?_)
  have hP : va_P D vwCl [(a, .inr (4, [.ref q232, .ref q233, .long 0, .int 0, .int 0, .int 0, .int 0])), (q232, .inl (cI, 200, .inl (fun _ => 0))), (q233, .inl (cI, 2, .inl (fun _ => 0)))] H := hP
  have hD : va_D A [(a, .inr (4, [.ref q232, .ref q233, .long 0, .int 0, .int 0, .int 0, .int 0])), (q232, .inl (cI, 200, .inl (fun _ => 0))), (q233, .inl (cI, 2, .inl (fun _ => 0)))] := hD
  have hP9 := hP.sub (ws' := []) [] rfl
  have hD9 := hD.sub (ws' := []) [] (by decide) rfl
  exact W.vret hx hb hr (fun t ht hW => ⟨⟨(), rfl, trivial, by rw [ht]; exact hP9, hD9⟩, hS.F ht⟩) hS.2.2 dX4_init_20
abbrev w_c_X8_init (cI cJ cB cZ cO : ClassId) (a : Nat) : va_W := [(a, .inr (8, [.null, .int 0, .int 0, .int 0, .int 0, .int 0]))]
set_option maxHeartbeats 4000000 in
set_option maxRecDepth 100000 in
/-- made -/
theorem c_X8_init (l : Launch) (D : va_G) (cI cJ cB cZ cO : ClassId) (a : Nat) (sz : Nat) : Met l yX8_init wsX8_init ({ frames := 1, cells := 1, slots := 1200, locals := 20 }) (va_Pc [.ref a] (ct_P D (ct_T cI cJ cB cZ cO) (w_c_X8_init cI cJ cB cZ cO a) sz)) (va_Qv (fun (u : Nat → Nat) => True) (fun (u : Nat → Nat) t => ct_Q D (va_A (w_c_X8_init cI cJ cB cZ cO a) sz) [(a, .inr (8, [.ref (u 0), .int 0, .int 0, .int 0, .int 0, .int 0])), ((u 0), .inl (cB, 1200, .inl (fun _ => 0)))] t) (va_A (w_c_X8_init cI cJ cB cZ cO a) sz)) 1 1200 (va_A (w_c_X8_init cI cJ cB cZ cO a) sz) := by
  refine Met.ofW (cc := cX8_init) (maxL := 1) (ret := none) (by decide) rfl ?_
  intro p e s m args below meth c s₁ B hml hv
  obtain ⟨rfl, hsz, hP, hE, hD0⟩ := hv
  have hx := B.exec
  have hb := B.bytes
  have hr := B.returns
  have hts := atoms_spec (ws := wsX8_init) B.pre
  have hown : s.vm.findClass RX8 = some m.cls := findClass_of_methodNamed B.named
  have hlocks := B.notSynchronized
  have hin : meth.name = "<init>" := (name_of_methodNamed B.named B.method).1
  have hK := hE.1
  have hi8 : ∀ w ∈ u_ws RX8 TX8 6, w ∈ wsX8_init := fun w h => List.mem_cons_of_mem _ (List.mem_append_right _ h)
  subst hsz
  have hD := hD0.self (sz := s.heap.size)
  generalize hAe : va_A (w_c_X8_init cI cJ cB cZ cO a) s.heap.size = A at hD ⊢
  have hA : ∀ q : Nat, s.heap.size ≤ q → A q := fun q h => by rw [← hAe]; exact Or.inr h
  have hS : va_S A s.heap s.heap [] := va_S.rf
  have hP : va_P D vwCl [(a, .inr (8, [.null, .int 0, .int 0, .int 0, .int 0, .int 0]))] s.heap := hP
  have hD : va_D A [(a, .inr (8, [.null, .int 0, .int 0, .int 0, .int 0, .int 0]))] := hD
  have hl := lv_entry ([.ref a]) (n := 1) (Nat.le_of_ble_eq_true rfl)
  rw [lg_entry_eq]
  generalize (lg_sl ([.ref a]) ++ List.replicate (1 - (lg_sl ([.ref a])).length) Slot.unset).toArray = ls at hl ⊢
  have hl : lv_has ls 1 [(0, .ref a)] := hl
  obtain ⟨H, hHe⟩ : ∃ H : Heap, H = s.heap := ⟨_, rfl⟩
  rw [← hHe] at hP
  have hS : va_S A s.heap H [] := by rw [hHe]; exact va_S.rf
  refine ct_start hHe ?_
  refine lv_aload_n hx hb dX8_init_0 rfl (lv_at hl 0 rfl) ?_
  refine W.objInit hx hb hown (hts (.methodLink RX8 3 objectInit) (by decide +kernel)) (hts (.instanceMethod objectInit) (by decide +kernel)) (hts (.code objectInit ⟨#[0xb1]⟩ 1 none) (by decide +kernel)) rfl (by rw [hml]; exact hl.1) rfl dX8_init_1 (Nat.le_of_ble_eq_true rfl) (Nat.le_of_ble_eq_true rfl) ?_
  refine W.eq (g2 := F0 m 4 ls []) rfl ?_
  refine lv_aload_n hx hb dX8_init_4 rfl (lv_at hl 0 rfl) ?_
  refine lv_sipush (v := 1200) hx hb dX8_init_5 (by decide) ?_
  refine ct_newb hx hb (hts (.arrayClass .byte) (by decide +kernel)) rfl hK hP hD hS hA 1200 (by decide) (by decide) (Nat.le_of_ble_eq_true rfl) (Nat.le_of_ble_eq_true rfl) (Nat.le_of_ble_eq_true rfl) dX8_init_8 (fun q234 H hP hD hS => ?_)
  have hP : va_P D vwCl [(a, .inr (8, [.null, .int 0, .int 0, .int 0, .int 0, .int 0])), (q234, .inl (cB, 1200, .inl (fun _ => 0)))] H := hP
  have hD : va_D A [(a, .inr (8, [.null, .int 0, .int 0, .int 0, .int 0, .int 0])), (q234, .inl (cB, 1200, .inl (fun _ => 0)))] := hD
  refine W.widen (k := 1) (n := 1200) (Nat.le_of_ble_eq_true rfl) (Nat.le_of_ble_eq_true rfl) ?_
  refine va_putF (D := D) (ci := 8) (v := .ref q234) (ty := .array (.byte)) (C := RX8) (T := TX8) (N := 6) hx hb hts hi8 tyX8 tyX8_ok nmX8 hown hK hP hD hS 0 rfl rfl 0 (by decide) (hts (.fieldLink RX8 9 "OverHill$Tape" "bytes" "[B") (by decide +kernel)) (fun _ h9 => h9) rfl hin rfl (by decide +kernel) rfl rfl (Nat.le_of_ble_eq_true rfl) dX8_init_10 (fun H locs hP hD hS => ?_)
  have hP : va_P D vwCl [(a, .inr (8, [.ref q234, .int 0, .int 0, .int 0, .int 0, .int 0])), (q234, .inl (cB, 1200, .inl (fun _ => 0)))] H := hP
  have hD : va_D A [(a, .inr (8, [.ref q234, .int 0, .int 0, .int 0, .int 0, .int 0])), (q234, .inl (cB, 1200, .inl (fun _ => 0)))] := hD
  have hP9 := hP.sub (ws' := [(a, .inr (8, [.ref q234, .int 0, .int 0, .int 0, .int 0, .int 0])), (q234, .inl (cB, 1200, .inl (fun _ => 0)))]) [0, 1] rfl
  have hD9 := hD.sub (ws' := [(a, .inr (8, [.ref q234, .int 0, .int 0, .int 0, .int 0, .int 0])), (q234, .inl (cB, 1200, .inl (fun _ => 0)))]) [0, 1] (by decide) rfl
  exact W.vret hx hb hr (fun t ht hW => ⟨⟨((fun k => ([q234] : List Nat).getD k 0)), rfl, trivial, by rw [ht]; exact hP9, hD9⟩, hS.F ht⟩) hS.2.2 dX8_init_13
abbrev w_c_X5_init (cI cJ cB cZ cO : ClassId) (a : Nat) : va_W := [(a, .inr (5, [.null, .int 0, .int 0, .int 0]))]
set_option maxHeartbeats 4000000 in
set_option maxRecDepth 100000 in
/-- made -/
theorem c_X5_init (l : Launch) (D : va_G) (cI cJ cB cZ cO : ClassId) (a : Nat) (sz : Nat) : Met l yX5_init wsX5_init ({ frames := 2, cells := 2, slots := 1206, locals := 40 }) (va_Pc [.ref a] (ct_P D (ct_T cI cJ cB cZ cO) (w_c_X5_init cI cJ cB cZ cO a) sz)) (va_Qv (fun (u : Nat → Nat) => True) (fun (u : Nat → Nat) t => ct_Q D (va_A (w_c_X5_init cI cJ cB cZ cO a) sz) [(a, .inr (5, [.ref (u 0), .int 0, .int 0, .int (-1)])), ((u 0), .inr (8, [.ref (u 1), .int 0, .int 0, .int 0, .int 0, .int 0])), ((u 1), .inl (cB, 1200, .inl (fun _ => 0)))] t) (va_A (w_c_X5_init cI cJ cB cZ cO a) sz)) 2 1206 (va_A (w_c_X5_init cI cJ cB cZ cO a) sz) := by
  refine Met.ofW (cc := cX5_init) (maxL := 1) (ret := none) (by decide) rfl ?_
  intro p e s m args below meth c s₁ B hml hv
  obtain ⟨rfl, hsz, hP, hE, hD0⟩ := hv
  have hx := B.exec
  have hb := B.bytes
  have hr := B.returns
  have hts := atoms_spec (ws := wsX5_init) B.pre
  have hown : s.vm.findClass RX5 = some m.cls := findClass_of_methodNamed B.named
  have hlocks := B.notSynchronized
  have hin : meth.name = "<init>" := (name_of_methodNamed B.named B.method).1
  have hK := hE.1
  have hi5 : ∀ w ∈ u_ws RX5 TX5 4, w ∈ wsX5_init := fun w h => List.mem_cons_of_mem _ (List.mem_append_right _ h)
  have hi8 : ∀ w ∈ u_ws RX8 TX8 6, w ∈ wsX5_init := fun w h => List.mem_cons_of_mem _ (List.mem_append_left _ (List.mem_append_right _ h))
  subst hsz
  have hD := hD0.self (sz := s.heap.size)
  generalize hAe : va_A (w_c_X5_init cI cJ cB cZ cO a) s.heap.size = A at hD ⊢
  have hA : ∀ q : Nat, s.heap.size ≤ q → A q := fun q h => by rw [← hAe]; exact Or.inr h
  have hS : va_S A s.heap s.heap [] := va_S.rf
  have hP : va_P D vwCl [(a, .inr (5, [.null, .int 0, .int 0, .int 0]))] s.heap := hP
  have hD : va_D A [(a, .inr (5, [.null, .int 0, .int 0, .int 0]))] := hD
  have hl := lv_entry ([.ref a]) (n := 1) (Nat.le_of_ble_eq_true rfl)
  rw [lg_entry_eq]
  generalize (lg_sl ([.ref a]) ++ List.replicate (1 - (lg_sl ([.ref a])).length) Slot.unset).toArray = ls at hl ⊢
  have hl : lv_has ls 1 [(0, .ref a)] := hl
  obtain ⟨H, hHe⟩ : ∃ H : Heap, H = s.heap := ⟨_, rfl⟩
  rw [← hHe] at hP
  have hS : va_S A s.heap H [] := by rw [hHe]; exact va_S.rf
  refine ct_start hHe ?_
  refine lv_aload_n hx hb dX5_init_0 rfl (lv_at hl 0 rfl) ?_
  refine W.objInit hx hb hown (hts (.methodLink RX5 3 objectInit) (by decide +kernel)) (hts (.instanceMethod objectInit) (by decide +kernel)) (hts (.code objectInit ⟨#[0xb1]⟩ 1 none) (by decide +kernel)) rfl (by rw [hml]; exact hl.1) rfl dX5_init_1 (Nat.le_of_ble_eq_true rfl) (Nat.le_of_ble_eq_true rfl) ?_
  refine W.eq (g2 := F0 m 4 ls []) rfl ?_
  refine lv_aload_n hx hb dX5_init_4 rfl (lv_at hl 0 rfl) ?_
  refine va_new (ci := 8) (fs := [.null, .int 0, .int 0, .int 0, .int 0, .int 0]) (C := RX8) (T := TX8) (N := 6) hx hb hts hi8 tyX8 tyX8_ok hown (hts (.classLink RX5 9 RX8) (by decide +kernel)) (hts (.instantiable RX8 6) (by decide +kernel)) (hts (.initialized RX8) (by decide +kernel)) hK hP hD hS hA rfl ct_df8 (Nat.le_of_ble_eq_true rfl) (Nat.le_of_ble_eq_true rfl) dX5_init_5 (fun q235 H hP hD hS => ?_)
  have hP : va_P D vwCl [(a, .inr (5, [.null, .int 0, .int 0, .int 0])), (q235, .inr (8, [.null, .int 0, .int 0, .int 0, .int 0, .int 0]))] H := hP
  have hD : va_D A [(a, .inr (5, [.null, .int 0, .int 0, .int 0])), (q235, .inr (8, [.null, .int 0, .int 0, .int 0, .int 0, .int 0]))] := hD
  refine W.widen (k := 1) (n := 6) (Nat.le_of_ble_eq_true rfl) (Nat.le_of_ble_eq_true rfl) ?_
  refine lv_dup hx hb dX5_init_8 rfl ?_
  refine ct_callv (D := D) (wc := (w_c_X8_init cI cJ cB cZ cO q235)) (wr := [(a, .inr (5, [.null, .int 0, .int 0, .int 0]))]) (va_runIN (As := []) (rest := [.ref q235, .ref a]) ⟨hx, hb, hml, hown, hts⟩ (c_X8_init l D cI cJ cB cZ cO q235 H.size) ⟨va_cnB 0 hts gX5_init_X8_init_n11 rfl rfl rfl (hE.2.1 (RX5, 11, yX8_init, "OverHill") (List.mem_of_getElem? (i := 1) rfl)) (hts (.initialized RX8) (by decide +kernel)) (by decide +kernel) ⟨Nat.le_of_ble_eq_true rfl, Nat.le_of_ble_eq_true rfl⟩, rfl, (hts (.instanceMethod yX8_init) (by decide +kernel))⟩ (ct_preS (T := ct_T cI cJ cB cZ cO) hE hP hD [1] (by decide) rfl) rfl rfl hl.1 rfl (lv_room (Nat.le_of_ble_eq_true rfl)) dX5_init_9 ⟨Nat.le_of_ble_eq_true rfl, Nat.le_of_ble_eq_true rfl⟩) hP hD hS hA [1] [0] rfl rfl (by decide) (by decide) (fun u H locs hw hP hD hS => ?_)
  obtain ⟨u236, rfl⟩ : ∃ z, z = u := ⟨_, rfl⟩
  have hP : va_P D vwCl [(a, .inr (5, [.null, .int 0, .int 0, .int 0])), (q235, .inr (8, [.ref (u236 0), .int 0, .int 0, .int 0, .int 0, .int 0])), ((u236 0), .inl (cB, 1200, .inl (fun _ => 0)))] H := hP
  have hD : va_D A [(a, .inr (5, [.null, .int 0, .int 0, .int 0])), (q235, .inr (8, [.ref (u236 0), .int 0, .int 0, .int 0, .int 0, .int 0])), ((u236 0), .inl (cB, 1200, .inl (fun _ => 0)))] := hD
  refine W.widen (k := 2) (n := 1206) (Nat.le_of_ble_eq_true rfl) (Nat.le_of_ble_eq_true rfl) ?_
  refine va_putF (D := D) (ci := 5) (v := .ref q235) (ty := .object "OverHill$Tape") (C := RX5) (T := TX5) (N := 4) hx hb hts hi5 tyX5 tyX5_ok nmX5 hown hK hP hD hS 0 rfl rfl 0 (by decide) (hts (.fieldLink RX5 12 "OverHill$Reader" "tape" "LOverHill$Tape;") (by decide +kernel)) (fun _ h9 => h9) rfl hin rfl (by decide +kernel) rfl rfl (Nat.le_of_ble_eq_true rfl) dX5_init_12 (fun H locs hP hD hS => ?_)
  have hP : va_P D vwCl [(a, .inr (5, [.ref q235, .int 0, .int 0, .int 0])), (q235, .inr (8, [.ref (u236 0), .int 0, .int 0, .int 0, .int 0, .int 0])), ((u236 0), .inl (cB, 1200, .inl (fun _ => 0)))] H := hP
  have hD : va_D A [(a, .inr (5, [.ref q235, .int 0, .int 0, .int 0])), (q235, .inr (8, [.ref (u236 0), .int 0, .int 0, .int 0, .int 0, .int 0])), ((u236 0), .inl (cB, 1200, .inl (fun _ => 0)))] := hD
  refine lv_aload_n hx hb dX5_init_15 rfl (lv_at hl 0 rfl) ?_
  refine lv_iconst (v := (-1)) hx hb dX5_init_16 (by decide) ?_
  refine va_put (D := D) (ci := 5) (v := .int (-1)) (ty := .int) (C := RX5) (T := TX5) (N := 4) hx hb hts hi5 tyX5 tyX5_ok nmX5 hown hK hP hD hS 0 rfl rfl 3 (by decide) (hts (.fieldLink RX5 18 "OverHill$Reader" "faultPlace" "I") (by decide +kernel)) (fun _ h9 => h9) rfl (by decide +kernel) rfl rfl (Nat.le_of_ble_eq_true rfl) dX5_init_17 (fun H locs hP hD hS => ?_)
  have hP : va_P D vwCl [(a, .inr (5, [.ref q235, .int 0, .int 0, .int (-1)])), (q235, .inr (8, [.ref (u236 0), .int 0, .int 0, .int 0, .int 0, .int 0])), ((u236 0), .inl (cB, 1200, .inl (fun _ => 0)))] H := hP
  have hD : va_D A [(a, .inr (5, [.ref q235, .int 0, .int 0, .int (-1)])), (q235, .inr (8, [.ref (u236 0), .int 0, .int 0, .int 0, .int 0, .int 0])), ((u236 0), .inl (cB, 1200, .inl (fun _ => 0)))] := hD
  have hP9 := hP.sub (ws' := [(a, .inr (5, [.ref q235, .int 0, .int 0, .int (-1)])), (q235, .inr (8, [.ref (u236 0), .int 0, .int 0, .int 0, .int 0, .int 0])), ((u236 0), .inl (cB, 1200, .inl (fun _ => 0)))]) [0, 1, 2] rfl
  have hD9 := hD.sub (ws' := [(a, .inr (5, [.ref q235, .int 0, .int 0, .int (-1)])), (q235, .inr (8, [.ref (u236 0), .int 0, .int 0, .int 0, .int 0, .int 0])), ((u236 0), .inl (cB, 1200, .inl (fun _ => 0)))]) [0, 1, 2] (by decide) rfl
  exact W.vret hx hb hr (fun t ht hW => ⟨⟨((fun k => ([q235, (u236 0)] : List Nat).getD k 0)), rfl, trivial, by rw [ht]; exact hP9, hD9⟩, hS.F ht⟩) hS.2.2 dX5_init_20
abbrev w_c_X0_init (cI cJ cB cZ cO : ClassId) (a : Nat) : va_W := [(a, .inr (0, [.int 0, .int 0, .int 0, .int 0, .null, .null, .null, .null, .null, .int 0, .null, .null, .int 0, .null, .int 0, .null, .int 0]))]
set_option maxHeartbeats 4000000 in
set_option maxRecDepth 100000 in
/-- made -/
theorem c_X0_init (l : Launch) (D : va_G) (cI cJ cB cZ cO : ClassId) (a : Nat) (sz : Nat) : Met l yX0_init wsX0_init ({ frames := 1, cells := 9, slots := 420, locals := 20 }) (va_Pc [.ref a] (ct_P D (ct_T cI cJ cB cZ cO) (w_c_X0_init cI cJ cB cZ cO a) sz)) (va_Qv (fun (u : Nat → Nat) => True) (fun (u : Nat → Nat) t => ct_Q D (va_A (w_c_X0_init cI cJ cB cZ cO a) sz) [dn a (u 4) (u 5) (u 6) (u 7) (u 8) (u 10) (u 11) (u 13) (u 15), ((u 4), .inl (cI, 24, .inl (fun _ => 0))), ((u 5), .inl (cI, 2, .inl (fun _ => 0))), ((u 6), .inl (cI, 2, .inl (fun _ => 0))), ((u 7), .inl (cI, 6, .inl (fun _ => 0))), ((u 8), .inl (cI, 32, .inl (fun _ => 0))), ((u 10), .inl (cI, 200, .inl (fun _ => 0))), ((u 11), .inl (cI, 24, .inl (fun _ => 0))), ((u 13), .inl (cI, 10, .inl (fun _ => 0))), ((u 15), .inl (cI, 120, .inl (fun _ => 0)))] t) (va_A (w_c_X0_init cI cJ cB cZ cO a) sz)) 9 420 (va_A (w_c_X0_init cI cJ cB cZ cO a) sz) := by
  refine Met.ofW (cc := cX0_init) (maxL := 1) (ret := none) (by decide) rfl ?_
  intro p e s m args below meth c s₁ B hml hv
  obtain ⟨rfl, hsz, hP, hE, hD0⟩ := hv
  have hx := B.exec
  have hb := B.bytes
  have hr := B.returns
  have hts := atoms_spec (ws := wsX0_init) B.pre
  have hown : s.vm.findClass RX0 = some m.cls := findClass_of_methodNamed B.named
  have hlocks := B.notSynchronized
  have hin : meth.name = "<init>" := (name_of_methodNamed B.named B.method).1
  have hK := hE.1
  have hi0 : ∀ w ∈ u_ws RX0 TX0 17, w ∈ wsX0_init := fun w h => List.mem_cons_of_mem _ (List.mem_append_right _ h)
  subst hsz
  have hD := hD0.self (sz := s.heap.size)
  generalize hAe : va_A (w_c_X0_init cI cJ cB cZ cO a) s.heap.size = A at hD ⊢
  have hA : ∀ q : Nat, s.heap.size ≤ q → A q := fun q h => by rw [← hAe]; exact Or.inr h
  have hS : va_S A s.heap s.heap [] := va_S.rf
  have hP : va_P D vwCl [(a, .inr (0, [.int 0, .int 0, .int 0, .int 0, .null, .null, .null, .null, .null, .int 0, .null, .null, .int 0, .null, .int 0, .null, .int 0]))] s.heap := hP
  have hD : va_D A [(a, .inr (0, [.int 0, .int 0, .int 0, .int 0, .null, .null, .null, .null, .null, .int 0, .null, .null, .int 0, .null, .int 0, .null, .int 0]))] := hD
  have hl := lv_entry ([.ref a]) (n := 1) (Nat.le_of_ble_eq_true rfl)
  rw [lg_entry_eq]
  generalize (lg_sl ([.ref a]) ++ List.replicate (1 - (lg_sl ([.ref a])).length) Slot.unset).toArray = ls at hl ⊢
  have hl : lv_has ls 1 [(0, .ref a)] := hl
  obtain ⟨H, hHe⟩ : ∃ H : Heap, H = s.heap := ⟨_, rfl⟩
  rw [← hHe] at hP
  have hS : va_S A s.heap H [] := by rw [hHe]; exact va_S.rf
  refine ct_start hHe ?_
  refine lv_aload_n hx hb dX0_init_0 rfl (lv_at hl 0 rfl) ?_
  refine W.objInit hx hb hown (hts (.methodLink RX0 3 objectInit) (by decide +kernel)) (hts (.instanceMethod objectInit) (by decide +kernel)) (hts (.code objectInit ⟨#[0xb1]⟩ 1 none) (by decide +kernel)) rfl (by rw [hml]; exact hl.1) rfl dX0_init_1 (Nat.le_of_ble_eq_true rfl) (Nat.le_of_ble_eq_true rfl) ?_
  refine W.eq (g2 := F0 m 4 ls []) rfl ?_
  refine lv_aload_n hx hb dX0_init_4 rfl (lv_at hl 0 rfl) ?_
  refine lv_bipush (v := 24) hx hb dX0_init_5 (by decide) ?_
  refine ct_newi hx hb (hts (.arrayClass .int) (by decide +kernel)) rfl hK hP hD hS hA 24 (by decide) (by decide) (Nat.le_of_ble_eq_true rfl) (Nat.le_of_ble_eq_true rfl) (Nat.le_of_ble_eq_true rfl) dX0_init_7 (fun q237 H hP hD hS => ?_)
  have hP : va_P D vwCl [(a, .inr (0, [.int 0, .int 0, .int 0, .int 0, .null, .null, .null, .null, .null, .int 0, .null, .null, .int 0, .null, .int 0, .null, .int 0])), (q237, .inl (cI, 24, .inl (fun _ => 0)))] H := hP
  have hD : va_D A [(a, .inr (0, [.int 0, .int 0, .int 0, .int 0, .null, .null, .null, .null, .null, .int 0, .null, .null, .int 0, .null, .int 0, .null, .int 0])), (q237, .inl (cI, 24, .inl (fun _ => 0)))] := hD
  refine W.widen (k := 1) (n := 24) (Nat.le_of_ble_eq_true rfl) (Nat.le_of_ble_eq_true rfl) ?_
  refine va_putF (D := D) (ci := 0) (v := .ref q237) (ty := .array (.int)) (C := RX0) (T := TX0) (N := 17) hx hb hts hi0 tyX0 tyX0_ok nmX0 hown hK hP hD hS 0 rfl rfl 4 (by decide) (hts (.fieldLink RX0 9 "OverHill$Dance" "steps" "[I") (by decide +kernel)) (fun _ h9 => h9) rfl hin rfl (by decide +kernel) rfl rfl (Nat.le_of_ble_eq_true rfl) dX0_init_9 (fun H locs hP hD hS => ?_)
  have hP : va_P D vwCl [(a, .inr (0, [.int 0, .int 0, .int 0, .int 0, .ref q237, .null, .null, .null, .null, .int 0, .null, .null, .int 0, .null, .int 0, .null, .int 0])), (q237, .inl (cI, 24, .inl (fun _ => 0)))] H := hP
  have hD : va_D A [(a, .inr (0, [.int 0, .int 0, .int 0, .int 0, .ref q237, .null, .null, .null, .null, .int 0, .null, .null, .int 0, .null, .int 0, .null, .int 0])), (q237, .inl (cI, 24, .inl (fun _ => 0)))] := hD
  refine lv_aload_n hx hb dX0_init_12 rfl (lv_at hl 0 rfl) ?_
  refine lv_iconst (v := 2) hx hb dX0_init_13 (by decide) ?_
  refine ct_newi hx hb (hts (.arrayClass .int) (by decide +kernel)) rfl hK hP hD hS hA 2 (by decide) (by decide) (Nat.le_of_ble_eq_true rfl) (Nat.le_of_ble_eq_true rfl) (Nat.le_of_ble_eq_true rfl) dX0_init_14 (fun q238 H hP hD hS => ?_)
  have hP : va_P D vwCl [(a, .inr (0, [.int 0, .int 0, .int 0, .int 0, .ref q237, .null, .null, .null, .null, .int 0, .null, .null, .int 0, .null, .int 0, .null, .int 0])), (q237, .inl (cI, 24, .inl (fun _ => 0))), (q238, .inl (cI, 2, .inl (fun _ => 0)))] H := hP
  have hD : va_D A [(a, .inr (0, [.int 0, .int 0, .int 0, .int 0, .ref q237, .null, .null, .null, .null, .int 0, .null, .null, .int 0, .null, .int 0, .null, .int 0])), (q237, .inl (cI, 24, .inl (fun _ => 0))), (q238, .inl (cI, 2, .inl (fun _ => 0)))] := hD
  refine W.widen (k := 2) (n := 26) (Nat.le_of_ble_eq_true rfl) (Nat.le_of_ble_eq_true rfl) ?_
  refine va_putF (D := D) (ci := 0) (v := .ref q238) (ty := .array (.int)) (C := RX0) (T := TX0) (N := 17) hx hb hts hi0 tyX0 tyX0_ok nmX0 hown hK hP hD hS 0 rfl rfl 5 (by decide) (hts (.fieldLink RX0 15 "OverHill$Dance" "lengths" "[I") (by decide +kernel)) (fun _ h9 => h9) rfl hin rfl (by decide +kernel) rfl rfl (Nat.le_of_ble_eq_true rfl) dX0_init_16 (fun H locs hP hD hS => ?_)
  have hP : va_P D vwCl [(a, .inr (0, [.int 0, .int 0, .int 0, .int 0, .ref q237, .ref q238, .null, .null, .null, .int 0, .null, .null, .int 0, .null, .int 0, .null, .int 0])), (q237, .inl (cI, 24, .inl (fun _ => 0))), (q238, .inl (cI, 2, .inl (fun _ => 0)))] H := hP
  have hD : va_D A [(a, .inr (0, [.int 0, .int 0, .int 0, .int 0, .ref q237, .ref q238, .null, .null, .null, .int 0, .null, .null, .int 0, .null, .int 0, .null, .int 0])), (q237, .inl (cI, 24, .inl (fun _ => 0))), (q238, .inl (cI, 2, .inl (fun _ => 0)))] := hD
  refine lv_aload_n hx hb dX0_init_19 rfl (lv_at hl 0 rfl) ?_
  refine lv_iconst (v := 2) hx hb dX0_init_20 (by decide) ?_
  refine ct_newi hx hb (hts (.arrayClass .int) (by decide +kernel)) rfl hK hP hD hS hA 2 (by decide) (by decide) (Nat.le_of_ble_eq_true rfl) (Nat.le_of_ble_eq_true rfl) (Nat.le_of_ble_eq_true rfl) dX0_init_21 (fun q239 H hP hD hS => ?_)
  have hP : va_P D vwCl [(a, .inr (0, [.int 0, .int 0, .int 0, .int 0, .ref q237, .ref q238, .null, .null, .null, .int 0, .null, .null, .int 0, .null, .int 0, .null, .int 0])), (q237, .inl (cI, 24, .inl (fun _ => 0))), (q238, .inl (cI, 2, .inl (fun _ => 0))), (q239, .inl (cI, 2, .inl (fun _ => 0)))] H := hP
  have hD : va_D A [(a, .inr (0, [.int 0, .int 0, .int 0, .int 0, .ref q237, .ref q238, .null, .null, .null, .int 0, .null, .null, .int 0, .null, .int 0, .null, .int 0])), (q237, .inl (cI, 24, .inl (fun _ => 0))), (q238, .inl (cI, 2, .inl (fun _ => 0))), (q239, .inl (cI, 2, .inl (fun _ => 0)))] := hD
  refine W.widen (k := 3) (n := 28) (Nat.le_of_ble_eq_true rfl) (Nat.le_of_ble_eq_true rfl) ?_
  refine va_putF (D := D) (ci := 0) (v := .ref q239) (ty := .array (.int)) (C := RX0) (T := TX0) (N := 17) hx hb hts hi0 tyX0 tyX0_ok nmX0 hown hK hP hD hS 0 rfl rfl 6 (by decide) (hts (.fieldLink RX0 18 "OverHill$Dance" "starts" "[I") (by decide +kernel)) (fun _ h9 => h9) rfl hin rfl (by decide +kernel) rfl rfl (Nat.le_of_ble_eq_true rfl) dX0_init_23 (fun H locs hP hD hS => ?_)
  have hP : va_P D vwCl [(a, .inr (0, [.int 0, .int 0, .int 0, .int 0, .ref q237, .ref q238, .ref q239, .null, .null, .int 0, .null, .null, .int 0, .null, .int 0, .null, .int 0])), (q237, .inl (cI, 24, .inl (fun _ => 0))), (q238, .inl (cI, 2, .inl (fun _ => 0))), (q239, .inl (cI, 2, .inl (fun _ => 0)))] H := hP
  have hD : va_D A [(a, .inr (0, [.int 0, .int 0, .int 0, .int 0, .ref q237, .ref q238, .ref q239, .null, .null, .int 0, .null, .null, .int 0, .null, .int 0, .null, .int 0])), (q237, .inl (cI, 24, .inl (fun _ => 0))), (q238, .inl (cI, 2, .inl (fun _ => 0))), (q239, .inl (cI, 2, .inl (fun _ => 0)))] := hD
  refine lv_aload_n hx hb dX0_init_26 rfl (lv_at hl 0 rfl) ?_
  refine lv_bipush (v := 6) hx hb dX0_init_27 (by decide) ?_
  refine ct_newi hx hb (hts (.arrayClass .int) (by decide +kernel)) rfl hK hP hD hS hA 6 (by decide) (by decide) (Nat.le_of_ble_eq_true rfl) (Nat.le_of_ble_eq_true rfl) (Nat.le_of_ble_eq_true rfl) dX0_init_29 (fun q240 H hP hD hS => ?_)
  have hP : va_P D vwCl [(a, .inr (0, [.int 0, .int 0, .int 0, .int 0, .ref q237, .ref q238, .ref q239, .null, .null, .int 0, .null, .null, .int 0, .null, .int 0, .null, .int 0])), (q237, .inl (cI, 24, .inl (fun _ => 0))), (q238, .inl (cI, 2, .inl (fun _ => 0))), (q239, .inl (cI, 2, .inl (fun _ => 0))), (q240, .inl (cI, 6, .inl (fun _ => 0)))] H := hP
  have hD : va_D A [(a, .inr (0, [.int 0, .int 0, .int 0, .int 0, .ref q237, .ref q238, .ref q239, .null, .null, .int 0, .null, .null, .int 0, .null, .int 0, .null, .int 0])), (q237, .inl (cI, 24, .inl (fun _ => 0))), (q238, .inl (cI, 2, .inl (fun _ => 0))), (q239, .inl (cI, 2, .inl (fun _ => 0))), (q240, .inl (cI, 6, .inl (fun _ => 0)))] := hD
  refine W.widen (k := 4) (n := 34) (Nat.le_of_ble_eq_true rfl) (Nat.le_of_ble_eq_true rfl) ?_
  refine va_putF (D := D) (ci := 0) (v := .ref q240) (ty := .array (.int)) (C := RX0) (T := TX0) (N := 17) hx hb hts hi0 tyX0 tyX0_ok nmX0 hown hK hP hD hS 0 rfl rfl 7 (by decide) (hts (.fieldLink RX0 21 "OverHill$Dance" "met" "[I") (by decide +kernel)) (fun _ h9 => h9) rfl hin rfl (by decide +kernel) rfl rfl (Nat.le_of_ble_eq_true rfl) dX0_init_31 (fun H locs hP hD hS => ?_)
  have hP : va_P D vwCl [(a, .inr (0, [.int 0, .int 0, .int 0, .int 0, .ref q237, .ref q238, .ref q239, .ref q240, .null, .int 0, .null, .null, .int 0, .null, .int 0, .null, .int 0])), (q237, .inl (cI, 24, .inl (fun _ => 0))), (q238, .inl (cI, 2, .inl (fun _ => 0))), (q239, .inl (cI, 2, .inl (fun _ => 0))), (q240, .inl (cI, 6, .inl (fun _ => 0)))] H := hP
  have hD : va_D A [(a, .inr (0, [.int 0, .int 0, .int 0, .int 0, .ref q237, .ref q238, .ref q239, .ref q240, .null, .int 0, .null, .null, .int 0, .null, .int 0, .null, .int 0])), (q237, .inl (cI, 24, .inl (fun _ => 0))), (q238, .inl (cI, 2, .inl (fun _ => 0))), (q239, .inl (cI, 2, .inl (fun _ => 0))), (q240, .inl (cI, 6, .inl (fun _ => 0)))] := hD
  refine lv_aload_n hx hb dX0_init_34 rfl (lv_at hl 0 rfl) ?_
  refine lv_bipush (v := 32) hx hb dX0_init_35 (by decide) ?_
  refine ct_newi hx hb (hts (.arrayClass .int) (by decide +kernel)) rfl hK hP hD hS hA 32 (by decide) (by decide) (Nat.le_of_ble_eq_true rfl) (Nat.le_of_ble_eq_true rfl) (Nat.le_of_ble_eq_true rfl) dX0_init_37 (fun q241 H hP hD hS => ?_)
  have hP : va_P D vwCl [(a, .inr (0, [.int 0, .int 0, .int 0, .int 0, .ref q237, .ref q238, .ref q239, .ref q240, .null, .int 0, .null, .null, .int 0, .null, .int 0, .null, .int 0])), (q237, .inl (cI, 24, .inl (fun _ => 0))), (q238, .inl (cI, 2, .inl (fun _ => 0))), (q239, .inl (cI, 2, .inl (fun _ => 0))), (q240, .inl (cI, 6, .inl (fun _ => 0))), (q241, .inl (cI, 32, .inl (fun _ => 0)))] H := hP
  have hD : va_D A [(a, .inr (0, [.int 0, .int 0, .int 0, .int 0, .ref q237, .ref q238, .ref q239, .ref q240, .null, .int 0, .null, .null, .int 0, .null, .int 0, .null, .int 0])), (q237, .inl (cI, 24, .inl (fun _ => 0))), (q238, .inl (cI, 2, .inl (fun _ => 0))), (q239, .inl (cI, 2, .inl (fun _ => 0))), (q240, .inl (cI, 6, .inl (fun _ => 0))), (q241, .inl (cI, 32, .inl (fun _ => 0)))] := hD
  refine W.widen (k := 5) (n := 66) (Nat.le_of_ble_eq_true rfl) (Nat.le_of_ble_eq_true rfl) ?_
  refine va_putF (D := D) (ci := 0) (v := .ref q241) (ty := .array (.int)) (C := RX0) (T := TX0) (N := 17) hx hb hts hi0 tyX0 tyX0_ok nmX0 hown hK hP hD hS 0 rfl rfl 8 (by decide) (hts (.fieldLink RX0 24 "OverHill$Dance" "stumbles" "[I") (by decide +kernel)) (fun _ h9 => h9) rfl hin rfl (by decide +kernel) rfl rfl (Nat.le_of_ble_eq_true rfl) dX0_init_39 (fun H locs hP hD hS => ?_)
  have hP : va_P D vwCl [(a, .inr (0, [.int 0, .int 0, .int 0, .int 0, .ref q237, .ref q238, .ref q239, .ref q240, .ref q241, .int 0, .null, .null, .int 0, .null, .int 0, .null, .int 0])), (q237, .inl (cI, 24, .inl (fun _ => 0))), (q238, .inl (cI, 2, .inl (fun _ => 0))), (q239, .inl (cI, 2, .inl (fun _ => 0))), (q240, .inl (cI, 6, .inl (fun _ => 0))), (q241, .inl (cI, 32, .inl (fun _ => 0)))] H := hP
  have hD : va_D A [(a, .inr (0, [.int 0, .int 0, .int 0, .int 0, .ref q237, .ref q238, .ref q239, .ref q240, .ref q241, .int 0, .null, .null, .int 0, .null, .int 0, .null, .int 0])), (q237, .inl (cI, 24, .inl (fun _ => 0))), (q238, .inl (cI, 2, .inl (fun _ => 0))), (q239, .inl (cI, 2, .inl (fun _ => 0))), (q240, .inl (cI, 6, .inl (fun _ => 0))), (q241, .inl (cI, 32, .inl (fun _ => 0)))] := hD
  refine lv_aload_n hx hb dX0_init_42 rfl (lv_at hl 0 rfl) ?_
  refine lv_sipush (v := 200) hx hb dX0_init_43 (by decide) ?_
  refine ct_newi hx hb (hts (.arrayClass .int) (by decide +kernel)) rfl hK hP hD hS hA 200 (by decide) (by decide) (Nat.le_of_ble_eq_true rfl) (Nat.le_of_ble_eq_true rfl) (Nat.le_of_ble_eq_true rfl) dX0_init_46 (fun q242 H hP hD hS => ?_)
  have hP : va_P D vwCl [(a, .inr (0, [.int 0, .int 0, .int 0, .int 0, .ref q237, .ref q238, .ref q239, .ref q240, .ref q241, .int 0, .null, .null, .int 0, .null, .int 0, .null, .int 0])), (q237, .inl (cI, 24, .inl (fun _ => 0))), (q238, .inl (cI, 2, .inl (fun _ => 0))), (q239, .inl (cI, 2, .inl (fun _ => 0))), (q240, .inl (cI, 6, .inl (fun _ => 0))), (q241, .inl (cI, 32, .inl (fun _ => 0))), (q242, .inl (cI, 200, .inl (fun _ => 0)))] H := hP
  have hD : va_D A [(a, .inr (0, [.int 0, .int 0, .int 0, .int 0, .ref q237, .ref q238, .ref q239, .ref q240, .ref q241, .int 0, .null, .null, .int 0, .null, .int 0, .null, .int 0])), (q237, .inl (cI, 24, .inl (fun _ => 0))), (q238, .inl (cI, 2, .inl (fun _ => 0))), (q239, .inl (cI, 2, .inl (fun _ => 0))), (q240, .inl (cI, 6, .inl (fun _ => 0))), (q241, .inl (cI, 32, .inl (fun _ => 0))), (q242, .inl (cI, 200, .inl (fun _ => 0)))] := hD
  refine W.widen (k := 6) (n := 266) (Nat.le_of_ble_eq_true rfl) (Nat.le_of_ble_eq_true rfl) ?_
  refine va_putF (D := D) (ci := 0) (v := .ref q242) (ty := .array (.int)) (C := RX0) (T := TX0) (N := 17) hx hb hts hi0 tyX0 tyX0_ok nmX0 hown hK hP hD hS 0 rfl rfl 10 (by decide) (hts (.fieldLink RX0 27 "OverHill$Dance" "muds" "[I") (by decide +kernel)) (fun _ h9 => h9) rfl hin rfl (by decide +kernel) rfl rfl (Nat.le_of_ble_eq_true rfl) dX0_init_48 (fun H locs hP hD hS => ?_)
  have hP : va_P D vwCl [(a, .inr (0, [.int 0, .int 0, .int 0, .int 0, .ref q237, .ref q238, .ref q239, .ref q240, .ref q241, .int 0, .ref q242, .null, .int 0, .null, .int 0, .null, .int 0])), (q237, .inl (cI, 24, .inl (fun _ => 0))), (q238, .inl (cI, 2, .inl (fun _ => 0))), (q239, .inl (cI, 2, .inl (fun _ => 0))), (q240, .inl (cI, 6, .inl (fun _ => 0))), (q241, .inl (cI, 32, .inl (fun _ => 0))), (q242, .inl (cI, 200, .inl (fun _ => 0)))] H := hP
  have hD : va_D A [(a, .inr (0, [.int 0, .int 0, .int 0, .int 0, .ref q237, .ref q238, .ref q239, .ref q240, .ref q241, .int 0, .ref q242, .null, .int 0, .null, .int 0, .null, .int 0])), (q237, .inl (cI, 24, .inl (fun _ => 0))), (q238, .inl (cI, 2, .inl (fun _ => 0))), (q239, .inl (cI, 2, .inl (fun _ => 0))), (q240, .inl (cI, 6, .inl (fun _ => 0))), (q241, .inl (cI, 32, .inl (fun _ => 0))), (q242, .inl (cI, 200, .inl (fun _ => 0)))] := hD
  refine lv_aload_n hx hb dX0_init_51 rfl (lv_at hl 0 rfl) ?_
  refine lv_bipush (v := 24) hx hb dX0_init_52 (by decide) ?_
  refine ct_newi hx hb (hts (.arrayClass .int) (by decide +kernel)) rfl hK hP hD hS hA 24 (by decide) (by decide) (Nat.le_of_ble_eq_true rfl) (Nat.le_of_ble_eq_true rfl) (Nat.le_of_ble_eq_true rfl) dX0_init_54 (fun q243 H hP hD hS => ?_)
  have hP : va_P D vwCl [(a, .inr (0, [.int 0, .int 0, .int 0, .int 0, .ref q237, .ref q238, .ref q239, .ref q240, .ref q241, .int 0, .ref q242, .null, .int 0, .null, .int 0, .null, .int 0])), (q237, .inl (cI, 24, .inl (fun _ => 0))), (q238, .inl (cI, 2, .inl (fun _ => 0))), (q239, .inl (cI, 2, .inl (fun _ => 0))), (q240, .inl (cI, 6, .inl (fun _ => 0))), (q241, .inl (cI, 32, .inl (fun _ => 0))), (q242, .inl (cI, 200, .inl (fun _ => 0))), (q243, .inl (cI, 24, .inl (fun _ => 0)))] H := hP
  have hD : va_D A [(a, .inr (0, [.int 0, .int 0, .int 0, .int 0, .ref q237, .ref q238, .ref q239, .ref q240, .ref q241, .int 0, .ref q242, .null, .int 0, .null, .int 0, .null, .int 0])), (q237, .inl (cI, 24, .inl (fun _ => 0))), (q238, .inl (cI, 2, .inl (fun _ => 0))), (q239, .inl (cI, 2, .inl (fun _ => 0))), (q240, .inl (cI, 6, .inl (fun _ => 0))), (q241, .inl (cI, 32, .inl (fun _ => 0))), (q242, .inl (cI, 200, .inl (fun _ => 0))), (q243, .inl (cI, 24, .inl (fun _ => 0)))] := hD
  refine W.widen (k := 7) (n := 290) (Nat.le_of_ble_eq_true rfl) (Nat.le_of_ble_eq_true rfl) ?_
  refine va_putF (D := D) (ci := 0) (v := .ref q243) (ty := .array (.int)) (C := RX0) (T := TX0) (N := 17) hx hb hts hi0 tyX0 tyX0_ok nmX0 hown hK hP hD hS 0 rfl rfl 11 (by decide) (hts (.fieldLink RX0 30 "OverHill$Dance" "cells" "[I") (by decide +kernel)) (fun _ h9 => h9) rfl hin rfl (by decide +kernel) rfl rfl (Nat.le_of_ble_eq_true rfl) dX0_init_56 (fun H locs hP hD hS => ?_)
  have hP : va_P D vwCl [(a, .inr (0, [.int 0, .int 0, .int 0, .int 0, .ref q237, .ref q238, .ref q239, .ref q240, .ref q241, .int 0, .ref q242, .ref q243, .int 0, .null, .int 0, .null, .int 0])), (q237, .inl (cI, 24, .inl (fun _ => 0))), (q238, .inl (cI, 2, .inl (fun _ => 0))), (q239, .inl (cI, 2, .inl (fun _ => 0))), (q240, .inl (cI, 6, .inl (fun _ => 0))), (q241, .inl (cI, 32, .inl (fun _ => 0))), (q242, .inl (cI, 200, .inl (fun _ => 0))), (q243, .inl (cI, 24, .inl (fun _ => 0)))] H := hP
  have hD : va_D A [(a, .inr (0, [.int 0, .int 0, .int 0, .int 0, .ref q237, .ref q238, .ref q239, .ref q240, .ref q241, .int 0, .ref q242, .ref q243, .int 0, .null, .int 0, .null, .int 0])), (q237, .inl (cI, 24, .inl (fun _ => 0))), (q238, .inl (cI, 2, .inl (fun _ => 0))), (q239, .inl (cI, 2, .inl (fun _ => 0))), (q240, .inl (cI, 6, .inl (fun _ => 0))), (q241, .inl (cI, 32, .inl (fun _ => 0))), (q242, .inl (cI, 200, .inl (fun _ => 0))), (q243, .inl (cI, 24, .inl (fun _ => 0)))] := hD
  refine lv_aload_n hx hb dX0_init_59 rfl (lv_at hl 0 rfl) ?_
  refine lv_bipush (v := 10) hx hb dX0_init_60 (by decide) ?_
  refine ct_newi hx hb (hts (.arrayClass .int) (by decide +kernel)) rfl hK hP hD hS hA 10 (by decide) (by decide) (Nat.le_of_ble_eq_true rfl) (Nat.le_of_ble_eq_true rfl) (Nat.le_of_ble_eq_true rfl) dX0_init_62 (fun q244 H hP hD hS => ?_)
  have hP : va_P D vwCl [(a, .inr (0, [.int 0, .int 0, .int 0, .int 0, .ref q237, .ref q238, .ref q239, .ref q240, .ref q241, .int 0, .ref q242, .ref q243, .int 0, .null, .int 0, .null, .int 0])), (q237, .inl (cI, 24, .inl (fun _ => 0))), (q238, .inl (cI, 2, .inl (fun _ => 0))), (q239, .inl (cI, 2, .inl (fun _ => 0))), (q240, .inl (cI, 6, .inl (fun _ => 0))), (q241, .inl (cI, 32, .inl (fun _ => 0))), (q242, .inl (cI, 200, .inl (fun _ => 0))), (q243, .inl (cI, 24, .inl (fun _ => 0))), (q244, .inl (cI, 10, .inl (fun _ => 0)))] H := hP
  have hD : va_D A [(a, .inr (0, [.int 0, .int 0, .int 0, .int 0, .ref q237, .ref q238, .ref q239, .ref q240, .ref q241, .int 0, .ref q242, .ref q243, .int 0, .null, .int 0, .null, .int 0])), (q237, .inl (cI, 24, .inl (fun _ => 0))), (q238, .inl (cI, 2, .inl (fun _ => 0))), (q239, .inl (cI, 2, .inl (fun _ => 0))), (q240, .inl (cI, 6, .inl (fun _ => 0))), (q241, .inl (cI, 32, .inl (fun _ => 0))), (q242, .inl (cI, 200, .inl (fun _ => 0))), (q243, .inl (cI, 24, .inl (fun _ => 0))), (q244, .inl (cI, 10, .inl (fun _ => 0)))] := hD
  refine W.widen (k := 8) (n := 300) (Nat.le_of_ble_eq_true rfl) (Nat.le_of_ble_eq_true rfl) ?_
  refine va_putF (D := D) (ci := 0) (v := .ref q244) (ty := .array (.int)) (C := RX0) (T := TX0) (N := 17) hx hb hts hi0 tyX0 tyX0_ok nmX0 hown hK hP hD hS 0 rfl rfl 13 (by decide) (hts (.fieldLink RX0 33 "OverHill$Dance" "tunes" "[I") (by decide +kernel)) (fun _ h9 => h9) rfl hin rfl (by decide +kernel) rfl rfl (Nat.le_of_ble_eq_true rfl) dX0_init_64 (fun H locs hP hD hS => ?_)
  have hP : va_P D vwCl [(a, .inr (0, [.int 0, .int 0, .int 0, .int 0, .ref q237, .ref q238, .ref q239, .ref q240, .ref q241, .int 0, .ref q242, .ref q243, .int 0, .ref q244, .int 0, .null, .int 0])), (q237, .inl (cI, 24, .inl (fun _ => 0))), (q238, .inl (cI, 2, .inl (fun _ => 0))), (q239, .inl (cI, 2, .inl (fun _ => 0))), (q240, .inl (cI, 6, .inl (fun _ => 0))), (q241, .inl (cI, 32, .inl (fun _ => 0))), (q242, .inl (cI, 200, .inl (fun _ => 0))), (q243, .inl (cI, 24, .inl (fun _ => 0))), (q244, .inl (cI, 10, .inl (fun _ => 0)))] H := hP
  have hD : va_D A [(a, .inr (0, [.int 0, .int 0, .int 0, .int 0, .ref q237, .ref q238, .ref q239, .ref q240, .ref q241, .int 0, .ref q242, .ref q243, .int 0, .ref q244, .int 0, .null, .int 0])), (q237, .inl (cI, 24, .inl (fun _ => 0))), (q238, .inl (cI, 2, .inl (fun _ => 0))), (q239, .inl (cI, 2, .inl (fun _ => 0))), (q240, .inl (cI, 6, .inl (fun _ => 0))), (q241, .inl (cI, 32, .inl (fun _ => 0))), (q242, .inl (cI, 200, .inl (fun _ => 0))), (q243, .inl (cI, 24, .inl (fun _ => 0))), (q244, .inl (cI, 10, .inl (fun _ => 0)))] := hD
  refine lv_aload_n hx hb dX0_init_67 rfl (lv_at hl 0 rfl) ?_
  refine lv_bipush (v := 120) hx hb dX0_init_68 (by decide) ?_
  refine ct_newi hx hb (hts (.arrayClass .int) (by decide +kernel)) rfl hK hP hD hS hA 120 (by decide) (by decide) (Nat.le_of_ble_eq_true rfl) (Nat.le_of_ble_eq_true rfl) (Nat.le_of_ble_eq_true rfl) dX0_init_70 (fun q245 H hP hD hS => ?_)
  have hP : va_P D vwCl [(a, .inr (0, [.int 0, .int 0, .int 0, .int 0, .ref q237, .ref q238, .ref q239, .ref q240, .ref q241, .int 0, .ref q242, .ref q243, .int 0, .ref q244, .int 0, .null, .int 0])), (q237, .inl (cI, 24, .inl (fun _ => 0))), (q238, .inl (cI, 2, .inl (fun _ => 0))), (q239, .inl (cI, 2, .inl (fun _ => 0))), (q240, .inl (cI, 6, .inl (fun _ => 0))), (q241, .inl (cI, 32, .inl (fun _ => 0))), (q242, .inl (cI, 200, .inl (fun _ => 0))), (q243, .inl (cI, 24, .inl (fun _ => 0))), (q244, .inl (cI, 10, .inl (fun _ => 0))), (q245, .inl (cI, 120, .inl (fun _ => 0)))] H := hP
  have hD : va_D A [(a, .inr (0, [.int 0, .int 0, .int 0, .int 0, .ref q237, .ref q238, .ref q239, .ref q240, .ref q241, .int 0, .ref q242, .ref q243, .int 0, .ref q244, .int 0, .null, .int 0])), (q237, .inl (cI, 24, .inl (fun _ => 0))), (q238, .inl (cI, 2, .inl (fun _ => 0))), (q239, .inl (cI, 2, .inl (fun _ => 0))), (q240, .inl (cI, 6, .inl (fun _ => 0))), (q241, .inl (cI, 32, .inl (fun _ => 0))), (q242, .inl (cI, 200, .inl (fun _ => 0))), (q243, .inl (cI, 24, .inl (fun _ => 0))), (q244, .inl (cI, 10, .inl (fun _ => 0))), (q245, .inl (cI, 120, .inl (fun _ => 0)))] := hD
  refine W.widen (k := 9) (n := 420) (Nat.le_of_ble_eq_true rfl) (Nat.le_of_ble_eq_true rfl) ?_
  refine va_putF (D := D) (ci := 0) (v := .ref q245) (ty := .array (.int)) (C := RX0) (T := TX0) (N := 17) hx hb hts hi0 tyX0 tyX0_ok nmX0 hown hK hP hD hS 0 rfl rfl 15 (by decide) (hts (.fieldLink RX0 36 "OverHill$Dance" "changes" "[I") (by decide +kernel)) (fun _ h9 => h9) rfl hin rfl (by decide +kernel) rfl rfl (Nat.le_of_ble_eq_true rfl) dX0_init_72 (fun H locs hP hD hS => ?_)
  have hP : va_P D vwCl [dn a q237 q238 q239 q240 q241 q242 q243 q244 q245, (q237, .inl (cI, 24, .inl (fun _ => 0))), (q238, .inl (cI, 2, .inl (fun _ => 0))), (q239, .inl (cI, 2, .inl (fun _ => 0))), (q240, .inl (cI, 6, .inl (fun _ => 0))), (q241, .inl (cI, 32, .inl (fun _ => 0))), (q242, .inl (cI, 200, .inl (fun _ => 0))), (q243, .inl (cI, 24, .inl (fun _ => 0))), (q244, .inl (cI, 10, .inl (fun _ => 0))), (q245, .inl (cI, 120, .inl (fun _ => 0)))] H := hP
  have hD : va_D A [dn a q237 q238 q239 q240 q241 q242 q243 q244 q245, (q237, .inl (cI, 24, .inl (fun _ => 0))), (q238, .inl (cI, 2, .inl (fun _ => 0))), (q239, .inl (cI, 2, .inl (fun _ => 0))), (q240, .inl (cI, 6, .inl (fun _ => 0))), (q241, .inl (cI, 32, .inl (fun _ => 0))), (q242, .inl (cI, 200, .inl (fun _ => 0))), (q243, .inl (cI, 24, .inl (fun _ => 0))), (q244, .inl (cI, 10, .inl (fun _ => 0))), (q245, .inl (cI, 120, .inl (fun _ => 0)))] := hD
  have hP9 := hP.sub (ws' := [dn a q237 q238 q239 q240 q241 q242 q243 q244 q245, (q237, .inl (cI, 24, .inl (fun _ => 0))), (q238, .inl (cI, 2, .inl (fun _ => 0))), (q239, .inl (cI, 2, .inl (fun _ => 0))), (q240, .inl (cI, 6, .inl (fun _ => 0))), (q241, .inl (cI, 32, .inl (fun _ => 0))), (q242, .inl (cI, 200, .inl (fun _ => 0))), (q243, .inl (cI, 24, .inl (fun _ => 0))), (q244, .inl (cI, 10, .inl (fun _ => 0))), (q245, .inl (cI, 120, .inl (fun _ => 0)))]) [0, 1, 2, 3, 4, 5, 6, 7, 8, 9] rfl
  have hD9 := hD.sub (ws' := [dn a q237 q238 q239 q240 q241 q242 q243 q244 q245, (q237, .inl (cI, 24, .inl (fun _ => 0))), (q238, .inl (cI, 2, .inl (fun _ => 0))), (q239, .inl (cI, 2, .inl (fun _ => 0))), (q240, .inl (cI, 6, .inl (fun _ => 0))), (q241, .inl (cI, 32, .inl (fun _ => 0))), (q242, .inl (cI, 200, .inl (fun _ => 0))), (q243, .inl (cI, 24, .inl (fun _ => 0))), (q244, .inl (cI, 10, .inl (fun _ => 0))), (q245, .inl (cI, 120, .inl (fun _ => 0)))]) [0, 1, 2, 3, 4, 5, 6, 7, 8, 9] (by decide) rfl
  exact W.vret hx hb hr (fun t ht hW => ⟨⟨((fun k => ([0, 0, 0, 0, q237, q238, q239, q240, q241, 0, q242, q243, 0, q244, 0, q245] : List Nat).getD k 0)), rfl, trivial, by rw [ht]; exact hP9, hD9⟩, hS.F ht⟩) hS.2.2 dX0_init_75
abbrev w_c_X7_init (cI cJ cB cZ cO : ClassId) (a : Nat) : va_W := [(a, .inr (7, [.null, .null, .null]))]
set_option maxHeartbeats 4000000 in
set_option maxRecDepth 100000 in
/-- made -/
theorem c_X7_init (l : Launch) (D : va_G) (cI cJ cB cZ cO : ClassId) (a : Nat) (sz : Nat) : Met l yX7_init wsX7_init ({ frames := 1, cells := 3, slots := 248, locals := 20 }) (va_Pc [.ref a] (ct_P D (ct_T cI cJ cB cZ cO) (w_c_X7_init cI cJ cB cZ cO a) sz)) (va_Qv (fun (u : Nat → Nat) => True) (fun (u : Nat → Nat) t => ct_Q D (va_A (w_c_X7_init cI cJ cB cZ cO a) sz) [(a, .inr (7, [.ref (u 0), .ref (u 1), .ref (u 2)])), ((u 0), .inl (cI, 4, .inl (fun _ => 0))), ((u 1), .inl (cI, 4, .inl (szf))), ((u 2), .inl (cJ, 240, .inr (.inl (fun _ => 0))))] t) (va_A (w_c_X7_init cI cJ cB cZ cO a) sz)) 3 248 (va_A (w_c_X7_init cI cJ cB cZ cO a) sz) := by
  refine Met.ofW (cc := cX7_init) (maxL := 1) (ret := none) (by decide) rfl ?_
  intro p e s m args below meth c s₁ B hml hv
  obtain ⟨rfl, hsz, hP, hE, hD0⟩ := hv
  have hx := B.exec
  have hb := B.bytes
  have hr := B.returns
  have hts := atoms_spec (ws := wsX7_init) B.pre
  have hown : s.vm.findClass RX7 = some m.cls := findClass_of_methodNamed B.named
  have hlocks := B.notSynchronized
  have hin : meth.name = "<init>" := (name_of_methodNamed B.named B.method).1
  have hK := hE.1
  have hi7 : ∀ w ∈ u_ws RX7 TX7 3, w ∈ wsX7_init := fun w h => List.mem_cons_of_mem _ (List.mem_append_right _ h)
  subst hsz
  have hD := hD0.self (sz := s.heap.size)
  generalize hAe : va_A (w_c_X7_init cI cJ cB cZ cO a) s.heap.size = A at hD ⊢
  have hA : ∀ q : Nat, s.heap.size ≤ q → A q := fun q h => by rw [← hAe]; exact Or.inr h
  have hS : va_S A s.heap s.heap [] := va_S.rf
  have hP : va_P D vwCl [(a, .inr (7, [.null, .null, .null]))] s.heap := hP
  have hD : va_D A [(a, .inr (7, [.null, .null, .null]))] := hD
  have hl := lv_entry ([.ref a]) (n := 1) (Nat.le_of_ble_eq_true rfl)
  rw [lg_entry_eq]
  generalize (lg_sl ([.ref a]) ++ List.replicate (1 - (lg_sl ([.ref a])).length) Slot.unset).toArray = ls at hl ⊢
  have hl : lv_has ls 1 [(0, .ref a)] := hl
  obtain ⟨H, hHe⟩ : ∃ H : Heap, H = s.heap := ⟨_, rfl⟩
  rw [← hHe] at hP
  have hS : va_S A s.heap H [] := by rw [hHe]; exact va_S.rf
  refine ct_start hHe ?_
  refine lv_aload_n hx hb dX7_init_0 rfl (lv_at hl 0 rfl) ?_
  refine W.objInit hx hb hown (hts (.methodLink RX7 3 objectInit) (by decide +kernel)) (hts (.instanceMethod objectInit) (by decide +kernel)) (hts (.code objectInit ⟨#[0xb1]⟩ 1 none) (by decide +kernel)) rfl (by rw [hml]; exact hl.1) rfl dX7_init_1 (Nat.le_of_ble_eq_true rfl) (Nat.le_of_ble_eq_true rfl) ?_
  refine W.eq (g2 := F0 m 4 ls []) rfl ?_
  refine lv_aload_n hx hb dX7_init_4 rfl (lv_at hl 0 rfl) ?_
  refine lv_iconst (v := 4) hx hb dX7_init_5 (by decide) ?_
  refine ct_newi hx hb (hts (.arrayClass .int) (by decide +kernel)) rfl hK hP hD hS hA 4 (by decide) (by decide) (Nat.le_of_ble_eq_true rfl) (Nat.le_of_ble_eq_true rfl) (Nat.le_of_ble_eq_true rfl) dX7_init_6 (fun q246 H hP hD hS => ?_)
  have hP : va_P D vwCl [(a, .inr (7, [.null, .null, .null])), (q246, .inl (cI, 4, .inl (fun _ => 0)))] H := hP
  have hD : va_D A [(a, .inr (7, [.null, .null, .null])), (q246, .inl (cI, 4, .inl (fun _ => 0)))] := hD
  refine W.widen (k := 1) (n := 4) (Nat.le_of_ble_eq_true rfl) (Nat.le_of_ble_eq_true rfl) ?_
  refine va_putF (D := D) (ci := 7) (v := .ref q246) (ty := .array (.int)) (C := RX7) (T := TX7) (N := 3) hx hb hts hi7 tyX7 tyX7_ok nmX7 hown hK hP hD hS 0 rfl rfl 0 (by decide) (hts (.fieldLink RX7 11 "OverHill$Slots" "widths" "[I") (by decide +kernel)) (fun _ h9 => h9) rfl hin rfl (by decide +kernel) rfl rfl (Nat.le_of_ble_eq_true rfl) dX7_init_8 (fun H locs hP hD hS => ?_)
  have hP : va_P D vwCl [(a, .inr (7, [.ref q246, .null, .null])), (q246, .inl (cI, 4, .inl (fun _ => 0)))] H := hP
  have hD : va_D A [(a, .inr (7, [.ref q246, .null, .null])), (q246, .inl (cI, 4, .inl (fun _ => 0)))] := hD
  refine lv_aload_n hx hb dX7_init_11 rfl (lv_at hl 0 rfl) ?_
  refine lv_iconst (v := 4) hx hb dX7_init_12 (by decide) ?_
  refine ct_newi hx hb (hts (.arrayClass .int) (by decide +kernel)) rfl hK hP hD hS hA 4 (by decide) (by decide) (Nat.le_of_ble_eq_true rfl) (Nat.le_of_ble_eq_true rfl) (Nat.le_of_ble_eq_true rfl) dX7_init_13 (fun q247 H hP hD hS => ?_)
  have hP : va_P D vwCl [(a, .inr (7, [.ref q246, .null, .null])), (q246, .inl (cI, 4, .inl (fun _ => 0))), (q247, .inl (cI, 4, .inl (fun _ => 0)))] H := hP
  have hD : va_D A [(a, .inr (7, [.ref q246, .null, .null])), (q246, .inl (cI, 4, .inl (fun _ => 0))), (q247, .inl (cI, 4, .inl (fun _ => 0)))] := hD
  refine W.widen (k := 2) (n := 8) (Nat.le_of_ble_eq_true rfl) (Nat.le_of_ble_eq_true rfl) ?_
  refine lv_dup hx hb dX7_init_15 rfl ?_
  refine lv_iconst (v := 0) hx hb dX7_init_16 (by decide) ?_
  refine lv_iconst (v := (-1)) hx hb dX7_init_17 (by decide) ?_
  refine va_iast (D := D) hx hb hK hP hD hS 2 0 rfl rfl (tq_in (a := 0) (by decide) (by omega)) dX7_init_18 (fun H locs hP hD hS => ?_)
  have hP : va_P D vwCl [(a, .inr (7, [.ref q246, .null, .null])), (q246, .inl (cI, 4, .inl (fun _ => 0))), (q247, .inl (cI, 4, .inl (upd (fun _ => 0) 0 (-1))))] H := hP
  have hD : va_D A [(a, .inr (7, [.ref q246, .null, .null])), (q246, .inl (cI, 4, .inl (fun _ => 0))), (q247, .inl (cI, 4, .inl (upd (fun _ => 0) 0 (-1))))] := hD
  refine lv_dup hx hb dX7_init_19 rfl ?_
  refine lv_iconst (v := 1) hx hb dX7_init_20 (by decide) ?_
  refine lv_iconst (v := (-1)) hx hb dX7_init_21 (by decide) ?_
  refine va_iast (D := D) hx hb hK hP hD hS 2 0 rfl rfl (tq_in (a := 1) (by decide) (by omega)) dX7_init_22 (fun H locs hP hD hS => ?_)
  have hP : va_P D vwCl [(a, .inr (7, [.ref q246, .null, .null])), (q246, .inl (cI, 4, .inl (fun _ => 0))), (q247, .inl (cI, 4, .inl (upd (upd (fun _ => 0) 0 (-1)) 1 (-1))))] H := hP
  have hD : va_D A [(a, .inr (7, [.ref q246, .null, .null])), (q246, .inl (cI, 4, .inl (fun _ => 0))), (q247, .inl (cI, 4, .inl (upd (upd (fun _ => 0) 0 (-1)) 1 (-1))))] := hD
  refine lv_dup hx hb dX7_init_23 rfl ?_
  refine lv_iconst (v := 2) hx hb dX7_init_24 (by decide) ?_
  refine lv_iconst (v := (-1)) hx hb dX7_init_25 (by decide) ?_
  refine va_iast (D := D) hx hb hK hP hD hS 2 0 rfl rfl (tq_in (a := 2) (by decide) (by omega)) dX7_init_26 (fun H locs hP hD hS => ?_)
  have hP : va_P D vwCl [(a, .inr (7, [.ref q246, .null, .null])), (q246, .inl (cI, 4, .inl (fun _ => 0))), (q247, .inl (cI, 4, .inl (upd (upd (upd (fun _ => 0) 0 (-1)) 1 (-1)) 2 (-1))))] H := hP
  have hD : va_D A [(a, .inr (7, [.ref q246, .null, .null])), (q246, .inl (cI, 4, .inl (fun _ => 0))), (q247, .inl (cI, 4, .inl (upd (upd (upd (fun _ => 0) 0 (-1)) 1 (-1)) 2 (-1))))] := hD
  refine lv_dup hx hb dX7_init_27 rfl ?_
  refine lv_iconst (v := 3) hx hb dX7_init_28 (by decide) ?_
  refine lv_iconst (v := (-1)) hx hb dX7_init_29 (by decide) ?_
  refine va_iast (D := D) hx hb hK hP hD hS 2 0 rfl rfl (tq_in (a := 3) (by decide) (by omega)) dX7_init_30 (fun H locs hP hD hS => ?_)
  have hP : va_P D vwCl [(a, .inr (7, [.ref q246, .null, .null])), (q246, .inl (cI, 4, .inl (fun _ => 0))), (q247, .inl (cI, 4, .inl (szf)))] H := hP
  have hD : va_D A [(a, .inr (7, [.ref q246, .null, .null])), (q246, .inl (cI, 4, .inl (fun _ => 0))), (q247, .inl (cI, 4, .inl (szf)))] := hD
  refine va_putF (D := D) (ci := 7) (v := .ref q247) (ty := .array (.int)) (C := RX7) (T := TX7) (N := 3) hx hb hts hi7 tyX7 tyX7_ok nmX7 hown hK hP hD hS 0 rfl rfl 1 (by decide) (hts (.fieldLink RX7 15 "OverHill$Slots" "sizes" "[I") (by decide +kernel)) (fun _ h9 => h9) rfl hin rfl (by decide +kernel) rfl rfl (Nat.le_of_ble_eq_true rfl) dX7_init_31 (fun H locs hP hD hS => ?_)
  have hP : va_P D vwCl [(a, .inr (7, [.ref q246, .ref q247, .null])), (q246, .inl (cI, 4, .inl (fun _ => 0))), (q247, .inl (cI, 4, .inl (szf)))] H := hP
  have hD : va_D A [(a, .inr (7, [.ref q246, .ref q247, .null])), (q246, .inl (cI, 4, .inl (fun _ => 0))), (q247, .inl (cI, 4, .inl (szf)))] := hD
  refine lv_aload_n hx hb dX7_init_34 rfl (lv_at hl 0 rfl) ?_
  refine lv_sipush (v := 240) hx hb dX7_init_35 (by decide) ?_
  refine ct_newl hx hb (hts (.arrayClass .long) (by decide +kernel)) rfl hK hP hD hS hA 240 (by decide) (by decide) (Nat.le_of_ble_eq_true rfl) (Nat.le_of_ble_eq_true rfl) (Nat.le_of_ble_eq_true rfl) dX7_init_38 (fun q248 H hP hD hS => ?_)
  have hP : va_P D vwCl [(a, .inr (7, [.ref q246, .ref q247, .null])), (q246, .inl (cI, 4, .inl (fun _ => 0))), (q247, .inl (cI, 4, .inl (szf))), (q248, .inl (cJ, 240, .inr (.inl (fun _ => 0))))] H := hP
  have hD : va_D A [(a, .inr (7, [.ref q246, .ref q247, .null])), (q246, .inl (cI, 4, .inl (fun _ => 0))), (q247, .inl (cI, 4, .inl (szf))), (q248, .inl (cJ, 240, .inr (.inl (fun _ => 0))))] := hD
  refine W.widen (k := 3) (n := 248) (Nat.le_of_ble_eq_true rfl) (Nat.le_of_ble_eq_true rfl) ?_
  refine va_putF (D := D) (ci := 7) (v := .ref q248) (ty := .array (.long)) (C := RX7) (T := TX7) (N := 3) hx hb hts hi7 tyX7 tyX7_ok nmX7 hown hK hP hD hS 0 rfl rfl 2 (by decide) (hts (.fieldLink RX7 18 "OverHill$Slots" "numbers" "[J") (by decide +kernel)) (fun _ h9 => h9) rfl hin rfl (by decide +kernel) rfl rfl (Nat.le_of_ble_eq_true rfl) dX7_init_40 (fun H locs hP hD hS => ?_)
  have hP : va_P D vwCl [(a, .inr (7, [.ref q246, .ref q247, .ref q248])), (q246, .inl (cI, 4, .inl (fun _ => 0))), (q247, .inl (cI, 4, .inl (szf))), (q248, .inl (cJ, 240, .inr (.inl (fun _ => 0))))] H := hP
  have hD : va_D A [(a, .inr (7, [.ref q246, .ref q247, .ref q248])), (q246, .inl (cI, 4, .inl (fun _ => 0))), (q247, .inl (cI, 4, .inl (szf))), (q248, .inl (cJ, 240, .inr (.inl (fun _ => 0))))] := hD
  have hP9 := hP.sub (ws' := [(a, .inr (7, [.ref q246, .ref q247, .ref q248])), (q246, .inl (cI, 4, .inl (fun _ => 0))), (q247, .inl (cI, 4, .inl (szf))), (q248, .inl (cJ, 240, .inr (.inl (fun _ => 0))))]) [0, 1, 2, 3] rfl
  have hD9 := hD.sub (ws' := [(a, .inr (7, [.ref q246, .ref q247, .ref q248])), (q246, .inl (cI, 4, .inl (fun _ => 0))), (q247, .inl (cI, 4, .inl (szf))), (q248, .inl (cJ, 240, .inr (.inl (fun _ => 0))))]) [0, 1, 2, 3] (by decide) rfl
  exact W.vret hx hb hr (fun t ht hW => ⟨⟨((fun k => ([q246, q247, q248] : List Nat).getD k 0)), rfl, trivial, by rw [ht]; exact hP9, hD9⟩, hS.F ht⟩) hS.2.2 dX7_init_43
