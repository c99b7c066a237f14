theorem ct_df0 : ∀ j, j < 17 → defaultValue (tyX0 j) = vp_V [.int 0, .int 0, .int 0, .int 0, .null, .null, .null, .null, .null, .int 0, .null, .null, .int 0, .null, .int 0, .null, .int 0] j := fun j hj => match j, hj with
  | 0, _ => rfl
  | 1, _ => rfl
  | 2, _ => rfl
  | 3, _ => rfl
  | 4, _ => rfl
  | 5, _ => rfl
  | 6, _ => rfl
  | 7, _ => rfl
  | 8, _ => rfl
  | 9, _ => rfl
  | 10, _ => rfl
  | 11, _ => rfl
  | 12, _ => rfl
  | 13, _ => rfl
  | 14, _ => rfl
  | 15, _ => rfl
  | 16, _ => rfl
  | q + 17, hq => absurd hq (by omega)
theorem ct_df1 : ∀ j, j < 6 → defaultValue (tyX1 j) = vp_V [.null, .null, .null, .int 0, .int 0, .int 0] j := fun j hj => match j, hj with
  | 0, _ => rfl
  | 1, _ => rfl
  | 2, _ => rfl
  | 3, _ => rfl
  | 4, _ => rfl
  | 5, _ => rfl
  | q + 6, hq => absurd hq (by omega)
theorem ct_df2 : ∀ j, j < 1 → defaultValue (tyX2 j) = vp_V [.null] j := fun j hj => match j, hj with
  | 0, _ => rfl
  | q + 1, hq => absurd hq (by omega)
theorem ct_df3 : ∀ j, j < 12 → defaultValue (tyX3 j) = vp_V [.int 0, .int 0, .null, .int 0, .int 0, .null, .null, .null, .null, .null, .int 0, .int 0] j := fun j hj => match j, hj with
  | 0, _ => rfl
  | 1, _ => rfl
  | 2, _ => rfl
  | 3, _ => rfl
  | 4, _ => rfl
  | 5, _ => rfl
  | 6, _ => rfl
  | 7, _ => rfl
  | 8, _ => rfl
  | 9, _ => rfl
  | 10, _ => rfl
  | 11, _ => rfl
  | q + 12, hq => absurd hq (by omega)
theorem ct_df4 : ∀ j, j < 7 → defaultValue (tyX4 j) = vp_V [.null, .null, .long 0, .int 0, .int 0, .int 0, .int 0] j := fun j hj => match j, hj with
  | 0, _ => rfl
  | 1, _ => rfl
  | 2, _ => rfl
  | 3, _ => rfl
  | 4, _ => rfl
  | 5, _ => rfl
  | 6, _ => rfl
  | q + 7, hq => absurd hq (by omega)
theorem ct_df5 : ∀ j, j < 4 → defaultValue (tyX5 j) = vp_V [.null, .int 0, .int 0, .int 0] j := fun j hj => match j, hj with
  | 0, _ => rfl
  | 1, _ => rfl
  | 2, _ => rfl
  | 3, _ => rfl
  | q + 4, hq => absurd hq (by omega)
theorem ct_df6 : ∀ j, j < 1 → defaultValue (tyX6 j) = vp_V [.null] j := fun j hj => match j, hj with
  | 0, _ => rfl
  | q + 1, hq => absurd hq (by omega)
theorem ct_df7 : ∀ j, j < 3 → defaultValue (tyX7 j) = vp_V [.null, .null, .null] j := fun j hj => match j, hj with
  | 0, _ => rfl
  | 1, _ => rfl
  | 2, _ => rfl
  | q + 3, hq => absurd hq (by omega)
theorem ct_df8 : ∀ j, j < 6 → defaultValue (tyX8 j) = vp_V [.null, .int 0, .int 0, .int 0, .int 0, .int 0] j := fun j hj => match j, hj with
  | 0, _ => rfl
  | 1, _ => rfl
  | 2, _ => rfl
  | 3, _ => rfl
  | 4, _ => rfl
  | 5, _ => rfl
  | q + 6, hq => absurd hq (by omega)
theorem ct_df9 : ∀ j, j < 2 → defaultValue (tyX9 j) = vp_V [.long 0, .long 0] j := fun j hj => match j, hj with
  | 0, _ => rfl
  | 1, _ => rfl
  | q + 2, hq => absurd hq (by omega)
theorem ct_df10 : ∀ j, j < 3 → defaultValue (tyX10 j) = vp_V [.null, .int 0, .int 0] j := fun j hj => match j, hj with
  | 0, _ => rfl
  | 1, _ => rfl
  | 2, _ => rfl
  | q + 3, hq => absurd hq (by omega)
theorem ct_df11 : ∀ j, j < 16 → defaultValue (tyX11 j) = vp_V [.null, .null, .null, .null, .null, .null, .null, .null, .int 0, .null, .null, .null, .null, .null, .null, .null] j := fun j hj => match j, hj with
  | 0, _ => rfl
  | 1, _ => rfl
  | 2, _ => rfl
  | 3, _ => rfl
  | 4, _ => rfl
  | 5, _ => rfl
  | 6, _ => rfl
  | 7, _ => rfl
  | 8, _ => rfl
  | 9, _ => rfl
  | 10, _ => rfl
  | 11, _ => rfl
  | 12, _ => rfl
  | 13, _ => rfl
  | 14, _ => rfl
  | 15, _ => rfl
  | q + 16, hq => absurd hq (by omega)
theorem ct_df12 : ∀ j, j < 45 → defaultValue (tyX12 j) = vp_V [.int 0, .null, .null, .null, .null, .null, .int 0, .int 0, .int 0, .int 0, .int 0, .long 0, .int 0, .int 0, .int 0, .int 0, .null, .null, .null, .null, .null, .null, .null, .null, .null, .null, .null, .null, .null, .int 0, .int 0, .null, .int 0, .int 0, .long 0, .int 0, .null, .int 0, .int 0, .null, .int 0, .int 0, .int 0, .int 0, .long 0] j := fun j hj => match j, hj with
  | 0, _ => rfl
  | 1, _ => rfl
  | 2, _ => rfl
  | 3, _ => rfl
  | 4, _ => rfl
  | 5, _ => rfl
  | 6, _ => rfl
  | 7, _ => rfl
  | 8, _ => rfl
  | 9, _ => rfl
  | 10, _ => rfl
  | 11, _ => rfl
  | 12, _ => rfl
  | 13, _ => rfl
  | 14, _ => rfl
  | 15, _ => rfl
  | 16, _ => rfl
  | 17, _ => rfl
  | 18, _ => rfl
  | 19, _ => rfl
  | 20, _ => rfl
  | 21, _ => rfl
  | 22, _ => rfl
  | 23, _ => rfl
  | 24, _ => rfl
  | 25, _ => rfl
  | 26, _ => rfl
  | 27, _ => rfl
  | 28, _ => rfl
  | 29, _ => rfl
  | 30, _ => rfl
  | 31, _ => rfl
  | 32, _ => rfl
  | 33, _ => rfl
  | 34, _ => rfl
  | 35, _ => rfl
  | 36, _ => rfl
  | 37, _ => rfl
  | 38, _ => rfl
  | 39, _ => rfl
  | 40, _ => rfl
  | 41, _ => rfl
  | 42, _ => rfl
  | 43, _ => rfl
  | 44, _ => rfl
  | q + 45, hq => absurd hq (by omega)
abbrev w_c_X1_init (cI cJ cB cZ cO : ClassId) (a : Nat) : va_W := [(a, .inr (1, [.null, .null, .null, .int 0, .int 0, .int 0]))]
set_option maxHeartbeats 8000000 in
set_option maxRecDepth 100000 in
/-- a new one -/
theorem c_X1_init (l : Launch) (D : va_G) (G : ct_G) (cI cJ cB cZ cO : ClassId) (a : Nat) (sz : Nat) : Met l yX1_init wsX1_init ({ frames := 1, cells := 3, slots := 1000, locals := 20 }) (va_Pc [.ref a] (ct_P D (ct_T cI cJ cB cZ cO) G (w_c_X1_init cI cJ cB cZ cO a) sz)) (va_Qv (fun (u : Nat → Nat) => True) (fun (u : Nat → Nat) t => ct_Q D (va_A (w_c_X1_init cI cJ cB cZ cO a) sz) [fo a (u 0) (u 1) (u 2) 0 0 0, ((u 0), .inl (cI, 400, .inl (fun _ => 0))), ((u 1), .inl (cI, 400, .inl (fun _ => 0))), ((u 2), .inl (cI, 200, .inl (fun _ => 0)))] t) (va_A (w_c_X1_init cI cJ cB cZ cO a) sz)) 3 1000 (va_A (w_c_X1_init cI cJ cB cZ cO a) sz) := by
  refine Met.ofW (cc := cX1_init) (maxL := 1) (ret := none) (by decide) rfl ?_
  intro p e s m args below meth c s₁ B hml hv
  obtain ⟨rfl, hsz, hP, hE, hD0, hH⟩ := hv
  have hx := B.exec
  have hb := B.bytes
  have hr := B.returns
  have hts := atoms_spec (ws := wsX1_init) B.pre
  have hown : s.vm.findClass RX1 = some m.cls := findClass_of_methodNamed B.named
  have hlocks := B.notSynchronized
  have hin : meth.name = "<init>" := (name_of_methodNamed B.named B.method).1
  have hK := hE.1
  have hi1 : ∀ w ∈ u_ws RX1 TX1 6, w ∈ wsX1_init := fun w h => List.mem_cons_of_mem _ (List.mem_append_right _ h)
  subst hsz
  have hD := hD0.self (sz := s.heap.size)
  generalize hAe : va_A (w_c_X1_init cI cJ cB cZ cO a) s.heap.size = A at hD hH ⊢
  have hA : ∀ q : Nat, s.heap.size ≤ q → A q := fun q h => by rw [← hAe]; exact Or.inr h
  obtain ⟨hP, hD⟩ : ct_B D A s.heap [(a, .inr (1, [.null, .null, .null, .int 0, .int 0, .int 0]))] := ⟨hP, hD⟩
  have hl := lv_entry ([.ref a]) (n := 1) (Nat.le_of_ble_eq_true rfl)
  rw [lg_entry_eq]
  generalize (lg_sl ([.ref a]) ++ List.replicate (1 - (lg_sl ([.ref a])).length) Slot.unset).toArray = ls at hl ⊢
  have hl : lv_has ls 1 [(0, .ref a)] := hl
  obtain ⟨H, hHe⟩ : ∃ H : Heap, H = s.heap := ⟨_, rfl⟩
  rw [← hHe] at hP
  have hS : va_S A s.heap H [] := by rw [hHe]; exact va_S.rf
  refine ct_start hHe ?_
  refine lv_aload_n hx hb dX1_init_0 rfl (lv_at hl 0 rfl) ?_
  refine W.objInit hx hb hown (hts (.methodLink RX1 3 objectInit) (by decide +kernel)) (hts (.instanceMethod objectInit) (by decide +kernel)) (hts (.code objectInit ⟨#[0xb1]⟩ 1 none) (by decide +kernel)) rfl (by rw [hml]; exact hl.1) rfl dX1_init_1 (Nat.le_of_ble_eq_true rfl) (Nat.le_of_ble_eq_true rfl) ?_
  refine W.eq (g2 := F0 m 4 ls []) rfl ?_
  refine lv_aload_n hx hb dX1_init_4 rfl (lv_at hl 0 rfl) ?_
  refine lv_sipush (v := 400) hx hb dX1_init_5 (by decide) ?_
  refine ct_newi hx hb (hts (.arrayClass .int) (by decide +kernel)) rfl hK hP hD hS hA 400 (by decide) (by decide) (Nat.le_of_ble_eq_true rfl) (Nat.le_of_ble_eq_true rfl) (Nat.le_of_ble_eq_true rfl) dX1_init_8 (fun q1 H hP hD hS => ?_)
  obtain ⟨hP, hD⟩ : ct_B D A H [(a, .inr (1, [.null, .null, .null, .int 0, .int 0, .int 0])), (q1, .inl (cI, 400, .inl (fun _ => 0)))] := ⟨hP, hD⟩
  refine W.widen (k := 1) (n := 400) (Nat.le_of_ble_eq_true rfl) (Nat.le_of_ble_eq_true rfl) ?_
  refine va_putF (D := D) (ci := 1) (v := .ref q1) (ty := .array (.int)) (C := RX1) (T := TX1) (N := 6) hx hb hts hi1 tyX1 tyX1_ok nmX1 hown hK hP hD hS 0 rfl rfl 0 (by decide) (hts (.fieldLink RX1 9 "OverHill$Floor" "places" "[I") (by decide +kernel)) (fun _ h9 => h9) rfl hin rfl (by decide +kernel) rfl rfl (Nat.le_of_ble_eq_true rfl) dX1_init_10 (fun H locs hP hD hS => ?_)
  obtain ⟨hP, hD⟩ : ct_B D A H [(a, .inr (1, [.ref q1, .null, .null, .int 0, .int 0, .int 0])), (q1, .inl (cI, 400, .inl (fun _ => 0)))] := ⟨hP, hD⟩
  refine lv_aload_n hx hb dX1_init_13 rfl (lv_at hl 0 rfl) ?_
  refine lv_sipush (v := 400) hx hb dX1_init_14 (by decide) ?_
  refine ct_newi hx hb (hts (.arrayClass .int) (by decide +kernel)) rfl hK hP hD hS hA 400 (by decide) (by decide) (Nat.le_of_ble_eq_true rfl) (Nat.le_of_ble_eq_true rfl) (Nat.le_of_ble_eq_true rfl) dX1_init_17 (fun q2 H hP hD hS => ?_)
  obtain ⟨hP, hD⟩ : ct_B D A H [(a, .inr (1, [.ref q1, .null, .null, .int 0, .int 0, .int 0])), (q1, .inl (cI, 400, .inl (fun _ => 0))), (q2, .inl (cI, 400, .inl (fun _ => 0)))] := ⟨hP, hD⟩
  refine W.widen (k := 2) (n := 800) (Nat.le_of_ble_eq_true rfl) (Nat.le_of_ble_eq_true rfl) ?_
  refine va_putF (D := D) (ci := 1) (v := .ref q2) (ty := .array (.int)) (C := RX1) (T := TX1) (N := 6) hx hb hts hi1 tyX1 tyX1_ok nmX1 hown hK hP hD hS 0 rfl rfl 1 (by decide) (hts (.fieldLink RX1 15 "OverHill$Floor" "steps" "[I") (by decide +kernel)) (fun _ h9 => h9) rfl hin rfl (by decide +kernel) rfl rfl (Nat.le_of_ble_eq_true rfl) dX1_init_19 (fun H locs hP hD hS => ?_)
  obtain ⟨hP, hD⟩ : ct_B D A H [(a, .inr (1, [.ref q1, .ref q2, .null, .int 0, .int 0, .int 0])), (q1, .inl (cI, 400, .inl (fun _ => 0))), (q2, .inl (cI, 400, .inl (fun _ => 0)))] := ⟨hP, hD⟩
  refine lv_aload_n hx hb dX1_init_22 rfl (lv_at hl 0 rfl) ?_
  refine lv_sipush (v := 200) hx hb dX1_init_23 (by decide) ?_
  refine ct_newi hx hb (hts (.arrayClass .int) (by decide +kernel)) rfl hK hP hD hS hA 200 (by decide) (by decide) (Nat.le_of_ble_eq_true rfl) (Nat.le_of_ble_eq_true rfl) (Nat.le_of_ble_eq_true rfl) dX1_init_26 (fun q3 H hP hD hS => ?_)
  obtain ⟨hP, hD⟩ : ct_B D A H [(a, .inr (1, [.ref q1, .ref q2, .null, .int 0, .int 0, .int 0])), (q1, .inl (cI, 400, .inl (fun _ => 0))), (q2, .inl (cI, 400, .inl (fun _ => 0))), (q3, .inl (cI, 200, .inl (fun _ => 0)))] := ⟨hP, hD⟩
  refine W.widen (k := 3) (n := 1000) (Nat.le_of_ble_eq_true rfl) (Nat.le_of_ble_eq_true rfl) ?_
  refine va_putF (D := D) (ci := 1) (v := .ref q3) (ty := .array (.int)) (C := RX1) (T := TX1) (N := 6) hx hb hts hi1 tyX1 tyX1_ok nmX1 hown hK hP hD hS 0 rfl rfl 2 (by decide) (hts (.fieldLink RX1 18 "OverHill$Floor" "stumbleIn" "[I") (by decide +kernel)) (fun _ h9 => h9) rfl hin rfl (by decide +kernel) rfl rfl (Nat.le_of_ble_eq_true rfl) dX1_init_28 (fun H locs hP hD hS => ?_)
  obtain ⟨hP, hD⟩ : ct_B D A H [fo a q1 q2 q3 0 0 0, (q1, .inl (cI, 400, .inl (fun _ => 0))), (q2, .inl (cI, 400, .inl (fun _ => 0))), (q3, .inl (cI, 200, .inl (fun _ => 0)))] := ⟨hP, hD⟩
  have hP9 := hP
  have hD9 := hD
  exact W.vret hx hb hr (fun t ht hW => ⟨⟨(fun k => ([q1, q2, q3] : List Nat).getD k 0), rfl, trivial, by rw [ht]; exact hP9, hD9⟩, hS.F ht⟩) hS.2.2 dX1_init_31
abbrev w_c_X6_init (cI cJ cB cZ cO : ClassId) (a : Nat) : va_W := [(a, .inr (6, [.null]))]
set_option maxHeartbeats 8000000 in
set_option maxRecDepth 100000 in
/-- a new one -/
theorem c_X6_init (l : Launch) (D : va_G) (G : ct_G) (cI cJ cB cZ cO : ClassId) (a : Nat) (sz : Nat) : Met l yX6_init wsX6_init ({ frames := 1, cells := 1, slots := 12, locals := 20 }) (va_Pc [.ref a] (ct_P D (ct_T cI cJ cB cZ cO) G (w_c_X6_init cI cJ cB cZ cO a) sz)) (va_Qv (fun (u : Nat → Nat) => True) (fun (u : Nat → Nat) t => ct_Q D (va_A (w_c_X6_init cI cJ cB cZ cO a) sz) [(a, .inr (6, [.ref (u 0)])), ((u 0), .inl (cI, 12, .inl (fun _ => 0)))] t) (va_A (w_c_X6_init cI cJ cB cZ cO a) sz)) 1 12 (va_A (w_c_X6_init cI cJ cB cZ cO a) sz) := by
  refine Met.ofW (cc := cX6_init) (maxL := 1) (ret := none) (by decide) rfl ?_
  intro p e s m args below meth c s₁ B hml hv
  obtain ⟨rfl, hsz, hP, hE, hD0, hH⟩ := hv
  have hx := B.exec
  have hb := B.bytes
  have hr := B.returns
  have hts := atoms_spec (ws := wsX6_init) B.pre
  have hown : s.vm.findClass RX6 = some m.cls := findClass_of_methodNamed B.named
  have hlocks := B.notSynchronized
  have hin : meth.name = "<init>" := (name_of_methodNamed B.named B.method).1
  have hK := hE.1
  have hi6 : ∀ w ∈ u_ws RX6 TX6 1, w ∈ wsX6_init := fun w h => List.mem_cons_of_mem _ (List.mem_append_right _ h)
  subst hsz
  have hD := hD0.self (sz := s.heap.size)
  generalize hAe : va_A (w_c_X6_init cI cJ cB cZ cO a) s.heap.size = A at hD hH ⊢
  have hA : ∀ q : Nat, s.heap.size ≤ q → A q := fun q h => by rw [← hAe]; exact Or.inr h
  obtain ⟨hP, hD⟩ : ct_B D A s.heap [(a, .inr (6, [.null]))] := ⟨hP, hD⟩
  have hl := lv_entry ([.ref a]) (n := 1) (Nat.le_of_ble_eq_true rfl)
  rw [lg_entry_eq]
  generalize (lg_sl ([.ref a]) ++ List.replicate (1 - (lg_sl ([.ref a])).length) Slot.unset).toArray = ls at hl ⊢
  have hl : lv_has ls 1 [(0, .ref a)] := hl
  obtain ⟨H, hHe⟩ : ∃ H : Heap, H = s.heap := ⟨_, rfl⟩
  rw [← hHe] at hP
  have hS : va_S A s.heap H [] := by rw [hHe]; exact va_S.rf
  refine ct_start hHe ?_
  refine lv_aload_n hx hb dX6_init_0 rfl (lv_at hl 0 rfl) ?_
  refine W.objInit hx hb hown (hts (.methodLink RX6 3 objectInit) (by decide +kernel)) (hts (.instanceMethod objectInit) (by decide +kernel)) (hts (.code objectInit ⟨#[0xb1]⟩ 1 none) (by decide +kernel)) rfl (by rw [hml]; exact hl.1) rfl dX6_init_1 (Nat.le_of_ble_eq_true rfl) (Nat.le_of_ble_eq_true rfl) ?_
  refine W.eq (g2 := F0 m 4 ls []) rfl ?_
  refine lv_aload_n hx hb dX6_init_4 rfl (lv_at hl 0 rfl) ?_
  refine lv_bipush (v := 12) hx hb dX6_init_5 (by decide) ?_
  refine ct_newi hx hb (hts (.arrayClass .int) (by decide +kernel)) rfl hK hP hD hS hA 12 (by decide) (by decide) (Nat.le_of_ble_eq_true rfl) (Nat.le_of_ble_eq_true rfl) (Nat.le_of_ble_eq_true rfl) dX6_init_7 (fun q1 H hP hD hS => ?_)
  obtain ⟨hP, hD⟩ : ct_B D A H [(a, .inr (6, [.null])), (q1, .inl (cI, 12, .inl (fun _ => 0)))] := ⟨hP, hD⟩
  refine W.widen (k := 1) (n := 12) (Nat.le_of_ble_eq_true rfl) (Nat.le_of_ble_eq_true rfl) ?_
  refine va_putF (D := D) (ci := 6) (v := .ref q1) (ty := .array (.int)) (C := RX6) (T := TX6) (N := 1) hx hb hts hi6 tyX6 tyX6_ok nmX6 hown hK hP hD hS 0 rfl rfl 0 (by decide) (hts (.fieldLink RX6 9 "OverHill$Rounds" "fits" "[I") (by decide +kernel)) (fun _ h9 => h9) rfl hin rfl (by decide +kernel) rfl rfl (Nat.le_of_ble_eq_true rfl) dX6_init_9 (fun H locs hP hD hS => ?_)
  obtain ⟨hP, hD⟩ : ct_B D A H [(a, .inr (6, [.ref q1])), (q1, .inl (cI, 12, .inl (fun _ => 0)))] := ⟨hP, hD⟩
  have hP9 := hP
  have hD9 := hD
  exact W.vret hx hb hr (fun t ht hW => ⟨⟨(fun k => ([q1] : List Nat).getD k 0), rfl, trivial, by rw [ht]; exact hP9, hD9⟩, hS.F ht⟩) hS.2.2 dX6_init_12
abbrev w_c_X3_init (cI cJ cB cZ cO : ClassId) (a : Nat) : va_W := [(a, .inr (3, [.int 0, .int 0, .null, .int 0, .int 0, .null, .null, .null, .null, .null, .int 0, .int 0]))]
set_option maxHeartbeats 8000000 in
set_option maxRecDepth 100000 in
/-- a new one -/
theorem c_X3_init (l : Launch) (D : va_G) (G : ct_G) (cI cJ cB cZ cO : ClassId) (a : Nat) (sz : Nat) : Met l yX3_init wsX3_init ({ frames := 1, cells := 6, slots := 298, locals := 20 }) (va_Pc [.ref a] (ct_P D (ct_T cI cJ cB cZ cO) G (w_c_X3_init cI cJ cB cZ cO a) sz)) (va_Qv (fun (u : Nat → Nat) => True) (fun (u : Nat → Nat) t => ct_Q D (va_A (w_c_X3_init cI cJ cB cZ cO a) sz) [gu a 0 0 (u 0) 0 0 (u 1) (u 2) (u 3) (u 4) (u 5) 0 0, ((u 0), .inl (cI, 12, .inl (fun _ => 0))), ((u 1), .inl (cI, 10, .inl (fun _ => 0))), ((u 2), .inl (cI, 200, .inl (fun _ => 0))), ((u 3), .inl (cI, 60, .inl (fun _ => 0))), ((u 4), .inl (cI, 10, .inl (fun _ => 0))), ((u 5), .inl (cI, 6, .inl (fun _ => 0)))] t) (va_A (w_c_X3_init cI cJ cB cZ cO a) sz)) 6 298 (va_A (w_c_X3_init cI cJ cB cZ cO a) sz) := by
  refine Met.ofW (cc := cX3_init) (maxL := 1) (ret := none) (by decide) rfl ?_
  intro p e s m args below meth c s₁ B hml hv
  obtain ⟨rfl, hsz, hP, hE, hD0, hH⟩ := hv
  have hx := B.exec
  have hb := B.bytes
  have hr := B.returns
  have hts := atoms_spec (ws := wsX3_init) B.pre
  have hown : s.vm.findClass RX3 = some m.cls := findClass_of_methodNamed B.named
  have hlocks := B.notSynchronized
  have hin : meth.name = "<init>" := (name_of_methodNamed B.named B.method).1
  have hK := hE.1
  have hi3 : ∀ w ∈ u_ws RX3 TX3 12, w ∈ wsX3_init := fun w h => List.mem_cons_of_mem _ (List.mem_append_right _ h)
  subst hsz
  have hD := hD0.self (sz := s.heap.size)
  generalize hAe : va_A (w_c_X3_init cI cJ cB cZ cO a) s.heap.size = A at hD hH ⊢
  have hA : ∀ q : Nat, s.heap.size ≤ q → A q := fun q h => by rw [← hAe]; exact Or.inr h
  obtain ⟨hP, hD⟩ : ct_B D A s.heap [(a, .inr (3, [.int 0, .int 0, .null, .int 0, .int 0, .null, .null, .null, .null, .null, .int 0, .int 0]))] := ⟨hP, hD⟩
  have hl := lv_entry ([.ref a]) (n := 1) (Nat.le_of_ble_eq_true rfl)
  rw [lg_entry_eq]
  generalize (lg_sl ([.ref a]) ++ List.replicate (1 - (lg_sl ([.ref a])).length) Slot.unset).toArray = ls at hl ⊢
  have hl : lv_has ls 1 [(0, .ref a)] := hl
  obtain ⟨H, hHe⟩ : ∃ H : Heap, H = s.heap := ⟨_, rfl⟩
  rw [← hHe] at hP
  have hS : va_S A s.heap H [] := by rw [hHe]; exact va_S.rf
  refine ct_start hHe ?_
  refine lv_aload_n hx hb dX3_init_0 rfl (lv_at hl 0 rfl) ?_
  refine W.objInit hx hb hown (hts (.methodLink RX3 3 objectInit) (by decide +kernel)) (hts (.instanceMethod objectInit) (by decide +kernel)) (hts (.code objectInit ⟨#[0xb1]⟩ 1 none) (by decide +kernel)) rfl (by rw [hml]; exact hl.1) rfl dX3_init_1 (Nat.le_of_ble_eq_true rfl) (Nat.le_of_ble_eq_true rfl) ?_
  refine W.eq (g2 := F0 m 4 ls []) rfl ?_
  refine lv_aload_n hx hb dX3_init_4 rfl (lv_at hl 0 rfl) ?_
  refine lv_bipush (v := 12) hx hb dX3_init_5 (by decide) ?_
  refine ct_newi hx hb (hts (.arrayClass .int) (by decide +kernel)) rfl hK hP hD hS hA 12 (by decide) (by decide) (Nat.le_of_ble_eq_true rfl) (Nat.le_of_ble_eq_true rfl) (Nat.le_of_ble_eq_true rfl) dX3_init_7 (fun q1 H hP hD hS => ?_)
  obtain ⟨hP, hD⟩ : ct_B D A H [(a, .inr (3, [.int 0, .int 0, .null, .int 0, .int 0, .null, .null, .null, .null, .null, .int 0, .int 0])), (q1, .inl (cI, 12, .inl (fun _ => 0)))] := ⟨hP, hD⟩
  refine W.widen (k := 1) (n := 12) (Nat.le_of_ble_eq_true rfl) (Nat.le_of_ble_eq_true rfl) ?_
  refine va_putF (D := D) (ci := 3) (v := .ref q1) (ty := .array (.int)) (C := RX3) (T := TX3) (N := 12) hx hb hts hi3 tyX3 tyX3_ok nmX3 hown hK hP hD hS 0 rfl rfl 2 (by decide) (hts (.fieldLink RX3 9 "OverHill$Guess" "round" "[I") (by decide +kernel)) (fun _ h9 => h9) rfl hin rfl (by decide +kernel) rfl rfl (Nat.le_of_ble_eq_true rfl) dX3_init_9 (fun H locs hP hD hS => ?_)
  obtain ⟨hP, hD⟩ : ct_B D A H [(a, .inr (3, [.int 0, .int 0, .ref q1, .int 0, .int 0, .null, .null, .null, .null, .null, .int 0, .int 0])), (q1, .inl (cI, 12, .inl (fun _ => 0)))] := ⟨hP, hD⟩
  refine lv_aload_n hx hb dX3_init_12 rfl (lv_at hl 0 rfl) ?_
  refine lv_bipush (v := 10) hx hb dX3_init_13 (by decide) ?_
  refine ct_newi hx hb (hts (.arrayClass .int) (by decide +kernel)) rfl hK hP hD hS hA 10 (by decide) (by decide) (Nat.le_of_ble_eq_true rfl) (Nat.le_of_ble_eq_true rfl) (Nat.le_of_ble_eq_true rfl) dX3_init_15 (fun q2 H hP hD hS => ?_)
  obtain ⟨hP, hD⟩ : ct_B D A H [(a, .inr (3, [.int 0, .int 0, .ref q1, .int 0, .int 0, .null, .null, .null, .null, .null, .int 0, .int 0])), (q1, .inl (cI, 12, .inl (fun _ => 0))), (q2, .inl (cI, 10, .inl (fun _ => 0)))] := ⟨hP, hD⟩
  refine W.widen (k := 2) (n := 22) (Nat.le_of_ble_eq_true rfl) (Nat.le_of_ble_eq_true rfl) ?_
  refine va_putF (D := D) (ci := 3) (v := .ref q2) (ty := .array (.int)) (C := RX3) (T := TX3) (N := 12) hx hb hts hi3 tyX3 tyX3_ok nmX3 hown hK hP hD hS 0 rfl rfl 5 (by decide) (hts (.fieldLink RX3 15 "OverHill$Guess" "lastUnlike" "[I") (by decide +kernel)) (fun _ h9 => h9) rfl hin rfl (by decide +kernel) rfl rfl (Nat.le_of_ble_eq_true rfl) dX3_init_17 (fun H locs hP hD hS => ?_)
  obtain ⟨hP, hD⟩ : ct_B D A H [(a, .inr (3, [.int 0, .int 0, .ref q1, .int 0, .int 0, .ref q2, .null, .null, .null, .null, .int 0, .int 0])), (q1, .inl (cI, 12, .inl (fun _ => 0))), (q2, .inl (cI, 10, .inl (fun _ => 0)))] := ⟨hP, hD⟩
  refine lv_aload_n hx hb dX3_init_20 rfl (lv_at hl 0 rfl) ?_
  refine lv_sipush (v := 200) hx hb dX3_init_21 (by decide) ?_
  refine ct_newi hx hb (hts (.arrayClass .int) (by decide +kernel)) rfl hK hP hD hS hA 200 (by decide) (by decide) (Nat.le_of_ble_eq_true rfl) (Nat.le_of_ble_eq_true rfl) (Nat.le_of_ble_eq_true rfl) dX3_init_24 (fun q3 H hP hD hS => ?_)
  obtain ⟨hP, hD⟩ : ct_B D A H [(a, .inr (3, [.int 0, .int 0, .ref q1, .int 0, .int 0, .ref q2, .null, .null, .null, .null, .int 0, .int 0])), (q1, .inl (cI, 12, .inl (fun _ => 0))), (q2, .inl (cI, 10, .inl (fun _ => 0))), (q3, .inl (cI, 200, .inl (fun _ => 0)))] := ⟨hP, hD⟩
  refine W.widen (k := 3) (n := 222) (Nat.le_of_ble_eq_true rfl) (Nat.le_of_ble_eq_true rfl) ?_
  refine va_putF (D := D) (ci := 3) (v := .ref q3) (ty := .array (.int)) (C := RX3) (T := TX3) (N := 12) hx hb hts hi3 tyX3 tyX3_ok nmX3 hown hK hP hD hS 0 rfl rfl 6 (by decide) (hts (.fieldLink RX3 18 "OverHill$Guess" "places" "[I") (by decide +kernel)) (fun _ h9 => h9) rfl hin rfl (by decide +kernel) rfl rfl (Nat.le_of_ble_eq_true rfl) dX3_init_26 (fun H locs hP hD hS => ?_)
  obtain ⟨hP, hD⟩ : ct_B D A H [(a, .inr (3, [.int 0, .int 0, .ref q1, .int 0, .int 0, .ref q2, .ref q3, .null, .null, .null, .int 0, .int 0])), (q1, .inl (cI, 12, .inl (fun _ => 0))), (q2, .inl (cI, 10, .inl (fun _ => 0))), (q3, .inl (cI, 200, .inl (fun _ => 0)))] := ⟨hP, hD⟩
  refine lv_aload_n hx hb dX3_init_29 rfl (lv_at hl 0 rfl) ?_
  refine lv_bipush (v := 60) hx hb dX3_init_30 (by decide) ?_
  refine ct_newi hx hb (hts (.arrayClass .int) (by decide +kernel)) rfl hK hP hD hS hA 60 (by decide) (by decide) (Nat.le_of_ble_eq_true rfl) (Nat.le_of_ble_eq_true rfl) (Nat.le_of_ble_eq_true rfl) dX3_init_32 (fun q4 H hP hD hS => ?_)
  obtain ⟨hP, hD⟩ : ct_B D A H [(a, .inr (3, [.int 0, .int 0, .ref q1, .int 0, .int 0, .ref q2, .ref q3, .null, .null, .null, .int 0, .int 0])), (q1, .inl (cI, 12, .inl (fun _ => 0))), (q2, .inl (cI, 10, .inl (fun _ => 0))), (q3, .inl (cI, 200, .inl (fun _ => 0))), (q4, .inl (cI, 60, .inl (fun _ => 0)))] := ⟨hP, hD⟩
  refine W.widen (k := 4) (n := 282) (Nat.le_of_ble_eq_true rfl) (Nat.le_of_ble_eq_true rfl) ?_
  refine va_putF (D := D) (ci := 3) (v := .ref q4) (ty := .array (.int)) (C := RX3) (T := TX3) (N := 12) hx hb hts hi3 tyX3 tyX3_ok nmX3 hown hK hP hD hS 0 rfl rfl 7 (by decide) (hts (.fieldLink RX3 21 "OverHill$Guess" "stepsIn" "[I") (by decide +kernel)) (fun _ h9 => h9) rfl hin rfl (by decide +kernel) rfl rfl (Nat.le_of_ble_eq_true rfl) dX3_init_34 (fun H locs hP hD hS => ?_)
  obtain ⟨hP, hD⟩ : ct_B D A H [(a, .inr (3, [.int 0, .int 0, .ref q1, .int 0, .int 0, .ref q2, .ref q3, .ref q4, .null, .null, .int 0, .int 0])), (q1, .inl (cI, 12, .inl (fun _ => 0))), (q2, .inl (cI, 10, .inl (fun _ => 0))), (q3, .inl (cI, 200, .inl (fun _ => 0))), (q4, .inl (cI, 60, .inl (fun _ => 0)))] := ⟨hP, hD⟩
  refine lv_aload_n hx hb dX3_init_37 rfl (lv_at hl 0 rfl) ?_
  refine lv_bipush (v := 10) hx hb dX3_init_38 (by decide) ?_
  refine ct_newi hx hb (hts (.arrayClass .int) (by decide +kernel)) rfl hK hP hD hS hA 10 (by decide) (by decide) (Nat.le_of_ble_eq_true rfl) (Nat.le_of_ble_eq_true rfl) (Nat.le_of_ble_eq_true rfl) dX3_init_40 (fun q5 H hP hD hS => ?_)
  obtain ⟨hP, hD⟩ : ct_B D A H [(a, .inr (3, [.int 0, .int 0, .ref q1, .int 0, .int 0, .ref q2, .ref q3, .ref q4, .null, .null, .int 0, .int 0])), (q1, .inl (cI, 12, .inl (fun _ => 0))), (q2, .inl (cI, 10, .inl (fun _ => 0))), (q3, .inl (cI, 200, .inl (fun _ => 0))), (q4, .inl (cI, 60, .inl (fun _ => 0))), (q5, .inl (cI, 10, .inl (fun _ => 0)))] := ⟨hP, hD⟩
  refine W.widen (k := 5) (n := 292) (Nat.le_of_ble_eq_true rfl) (Nat.le_of_ble_eq_true rfl) ?_
  refine va_putF (D := D) (ci := 3) (v := .ref q5) (ty := .array (.int)) (C := RX3) (T := TX3) (N := 12) hx hb hts hi3 tyX3 tyX3_ok nmX3 hown hK hP hD hS 0 rfl rfl 8 (by decide) (hts (.fieldLink RX3 24 "OverHill$Guess" "passed" "[I") (by decide +kernel)) (fun _ h9 => h9) rfl hin rfl (by decide +kernel) rfl rfl (Nat.le_of_ble_eq_true rfl) dX3_init_42 (fun H locs hP hD hS => ?_)
  obtain ⟨hP, hD⟩ : ct_B D A H [(a, .inr (3, [.int 0, .int 0, .ref q1, .int 0, .int 0, .ref q2, .ref q3, .ref q4, .ref q5, .null, .int 0, .int 0])), (q1, .inl (cI, 12, .inl (fun _ => 0))), (q2, .inl (cI, 10, .inl (fun _ => 0))), (q3, .inl (cI, 200, .inl (fun _ => 0))), (q4, .inl (cI, 60, .inl (fun _ => 0))), (q5, .inl (cI, 10, .inl (fun _ => 0)))] := ⟨hP, hD⟩
  refine lv_aload_n hx hb dX3_init_45 rfl (lv_at hl 0 rfl) ?_
  refine lv_bipush (v := 6) hx hb dX3_init_46 (by decide) ?_
  refine ct_newi hx hb (hts (.arrayClass .int) (by decide +kernel)) rfl hK hP hD hS hA 6 (by decide) (by decide) (Nat.le_of_ble_eq_true rfl) (Nat.le_of_ble_eq_true rfl) (Nat.le_of_ble_eq_true rfl) dX3_init_48 (fun q6 H hP hD hS => ?_)
  obtain ⟨hP, hD⟩ : ct_B D A H [(a, .inr (3, [.int 0, .int 0, .ref q1, .int 0, .int 0, .ref q2, .ref q3, .ref q4, .ref q5, .null, .int 0, .int 0])), (q1, .inl (cI, 12, .inl (fun _ => 0))), (q2, .inl (cI, 10, .inl (fun _ => 0))), (q3, .inl (cI, 200, .inl (fun _ => 0))), (q4, .inl (cI, 60, .inl (fun _ => 0))), (q5, .inl (cI, 10, .inl (fun _ => 0))), (q6, .inl (cI, 6, .inl (fun _ => 0)))] := ⟨hP, hD⟩
  refine W.widen (k := 6) (n := 298) (Nat.le_of_ble_eq_true rfl) (Nat.le_of_ble_eq_true rfl) ?_
  refine va_putF (D := D) (ci := 3) (v := .ref q6) (ty := .array (.int)) (C := RX3) (T := TX3) (N := 12) hx hb hts hi3 tyX3 tyX3_ok nmX3 hown hK hP hD hS 0 rfl rfl 9 (by decide) (hts (.fieldLink RX3 27 "OverHill$Guess" "classes" "[I") (by decide +kernel)) (fun _ h9 => h9) rfl hin rfl (by decide +kernel) rfl rfl (Nat.le_of_ble_eq_true rfl) dX3_init_50 (fun H locs hP hD hS => ?_)
  obtain ⟨hP, hD⟩ : ct_B D A H [gu a 0 0 q1 0 0 q2 q3 q4 q5 q6 0 0, (q1, .inl (cI, 12, .inl (fun _ => 0))), (q2, .inl (cI, 10, .inl (fun _ => 0))), (q3, .inl (cI, 200, .inl (fun _ => 0))), (q4, .inl (cI, 60, .inl (fun _ => 0))), (q5, .inl (cI, 10, .inl (fun _ => 0))), (q6, .inl (cI, 6, .inl (fun _ => 0)))] := ⟨hP, hD⟩
  have hP9 := hP
  have hD9 := hD
  exact W.vret hx hb hr (fun t ht hW => ⟨⟨(fun k => ([q1, q2, q3, q4, q5, q6] : List Nat).getD k 0), rfl, trivial, by rw [ht]; exact hP9, hD9⟩, hS.F ht⟩) hS.2.2 dX3_init_53
abbrev w_c_X10_init (cI cJ cB cZ cO : ClassId) (a : Nat) : va_W := [(a, .inr (10, [.null, .int 0, .int 0]))]
set_option maxHeartbeats 8000000 in
set_option maxRecDepth 100000 in
/-- a new one -/
theorem c_X10_init (l : Launch) (D : va_G) (G : ct_G) (cI cJ cB cZ cO : ClassId) (a : Nat) (sz : Nat) : Met l yX10_init wsX10_init ({ frames := 1, cells := 1, slots := 24, locals := 20 }) (va_Pc [.ref a] (ct_P D (ct_T cI cJ cB cZ cO) G (w_c_X10_init cI cJ cB cZ cO a) sz)) (va_Qv (fun (u : Nat → Nat) => True) (fun (u : Nat → Nat) t => ct_Q D (va_A (w_c_X10_init cI cJ cB cZ cO a) sz) [(a, .inr (10, [.ref (u 0), .int 0, .int 0])), ((u 0), .inl (cI, 24, .inl (fun _ => 0)))] t) (va_A (w_c_X10_init cI cJ cB cZ cO a) sz)) 1 24 (va_A (w_c_X10_init cI cJ cB cZ cO a) sz) := by
  refine Met.ofW (cc := cX10_init) (maxL := 1) (ret := none) (by decide) rfl ?_
  intro p e s m args below meth c s₁ B hml hv
  obtain ⟨rfl, hsz, hP, hE, hD0, hH⟩ := hv
  have hx := B.exec
  have hb := B.bytes
  have hr := B.returns
  have hts := atoms_spec (ws := wsX10_init) B.pre
  have hown : s.vm.findClass RX10 = some m.cls := findClass_of_methodNamed B.named
  have hlocks := B.notSynchronized
  have hin : meth.name = "<init>" := (name_of_methodNamed B.named B.method).1
  have hK := hE.1
  have hi10 : ∀ w ∈ u_ws RX10 TX10 3, w ∈ wsX10_init := fun w h => List.mem_cons_of_mem _ (List.mem_append_right _ h)
  subst hsz
  have hD := hD0.self (sz := s.heap.size)
  generalize hAe : va_A (w_c_X10_init cI cJ cB cZ cO a) s.heap.size = A at hD hH ⊢
  have hA : ∀ q : Nat, s.heap.size ≤ q → A q := fun q h => by rw [← hAe]; exact Or.inr h
  obtain ⟨hP, hD⟩ : ct_B D A s.heap [(a, .inr (10, [.null, .int 0, .int 0]))] := ⟨hP, hD⟩
  have hl := lv_entry ([.ref a]) (n := 1) (Nat.le_of_ble_eq_true rfl)
  rw [lg_entry_eq]
  generalize (lg_sl ([.ref a]) ++ List.replicate (1 - (lg_sl ([.ref a])).length) Slot.unset).toArray = ls at hl ⊢
  have hl : lv_has ls 1 [(0, .ref a)] := hl
  obtain ⟨H, hHe⟩ : ∃ H : Heap, H = s.heap := ⟨_, rfl⟩
  rw [← hHe] at hP
  have hS : va_S A s.heap H [] := by rw [hHe]; exact va_S.rf
  refine ct_start hHe ?_
  refine lv_aload_n hx hb dX10_init_0 rfl (lv_at hl 0 rfl) ?_
  refine W.objInit hx hb hown (hts (.methodLink RX10 3 objectInit) (by decide +kernel)) (hts (.instanceMethod objectInit) (by decide +kernel)) (hts (.code objectInit ⟨#[0xb1]⟩ 1 none) (by decide +kernel)) rfl (by rw [hml]; exact hl.1) rfl dX10_init_1 (Nat.le_of_ble_eq_true rfl) (Nat.le_of_ble_eq_true rfl) ?_
  refine W.eq (g2 := F0 m 4 ls []) rfl ?_
  refine lv_aload_n hx hb dX10_init_4 rfl (lv_at hl 0 rfl) ?_
  refine lv_bipush (v := 24) hx hb dX10_init_5 (by decide) ?_
  refine ct_newi hx hb (hts (.arrayClass .int) (by decide +kernel)) rfl hK hP hD hS hA 24 (by decide) (by decide) (Nat.le_of_ble_eq_true rfl) (Nat.le_of_ble_eq_true rfl) (Nat.le_of_ble_eq_true rfl) dX10_init_7 (fun q1 H hP hD hS => ?_)
  obtain ⟨hP, hD⟩ : ct_B D A H [(a, .inr (10, [.null, .int 0, .int 0])), (q1, .inl (cI, 24, .inl (fun _ => 0)))] := ⟨hP, hD⟩
  refine W.widen (k := 1) (n := 24) (Nat.le_of_ble_eq_true rfl) (Nat.le_of_ble_eq_true rfl) ?_
  refine va_putF (D := D) (ci := 10) (v := .ref q1) (ty := .array (.int)) (C := RX10) (T := TX10) (N := 3) hx hb hts hi10 tyX10 tyX10_ok nmX10 hown hK hP hD hS 0 rfl rfl 0 (by decide) (hts (.fieldLink RX10 9 "OverHill$Wood" "arrivals" "[I") (by decide +kernel)) (fun _ h9 => h9) rfl hin rfl (by decide +kernel) rfl rfl (Nat.le_of_ble_eq_true rfl) dX10_init_9 (fun H locs hP hD hS => ?_)
  obtain ⟨hP, hD⟩ : ct_B D A H [(a, .inr (10, [.ref q1, .int 0, .int 0])), (q1, .inl (cI, 24, .inl (fun _ => 0)))] := ⟨hP, hD⟩
  have hP9 := hP
  have hD9 := hD
  exact W.vret hx hb hr (fun t ht hW => ⟨⟨(fun k => ([q1] : List Nat).getD k 0), rfl, trivial, by rw [ht]; exact hP9, hD9⟩, hS.F ht⟩) hS.2.2 dX10_init_12
abbrev w_c_X9_init (cI cJ cB cZ cO : ClassId) (a : Nat) : va_W := [(a, .inr (9, [.long 0, .long 0]))]
set_option maxHeartbeats 8000000 in
set_option maxRecDepth 100000 in
/-- a new one -/
theorem c_X9_init (l : Launch) (D : va_G) (G : ct_G) (cI cJ cB cZ cO : ClassId) (a : Nat) (sz : Nat) : Met l yX9_init wsX9_init ({ frames := 1, cells := 0, slots := 0, locals := 20 }) (va_Pc [.ref a] (ct_P D (ct_T cI cJ cB cZ cO) G (w_c_X9_init cI cJ cB cZ cO a) sz)) (va_Qv (fun (u : Nat → Nat) => True) (fun (u : Nat → Nat) t => ct_Q D (va_A (w_c_X9_init cI cJ cB cZ cO a) sz) [(a, .inr (9, [.long 0, .long 0]))] t) (va_A (w_c_X9_init cI cJ cB cZ cO a) sz)) 0 0 (va_A (w_c_X9_init cI cJ cB cZ cO a) sz) := by
  refine Met.ofW (cc := cX9_init) (maxL := 1) (ret := none) (by decide) rfl ?_
  intro p e s m args below meth c s₁ B hml hv
  obtain ⟨rfl, hsz, hP, hE, hD0, hH⟩ := hv
  have hx := B.exec
  have hb := B.bytes
  have hr := B.returns
  have hts := atoms_spec (ws := wsX9_init) B.pre
  have hown : s.vm.findClass RX9 = some m.cls := findClass_of_methodNamed B.named
  have hlocks := B.notSynchronized
  have hin : meth.name = "<init>" := (name_of_methodNamed B.named B.method).1
  have hK := hE.1
  subst hsz
  have hD := hD0.self (sz := s.heap.size)
  generalize hAe : va_A (w_c_X9_init cI cJ cB cZ cO a) s.heap.size = A at hD hH ⊢
  have hA : ∀ q : Nat, s.heap.size ≤ q → A q := fun q h => by rw [← hAe]; exact Or.inr h
  obtain ⟨hP, hD⟩ : ct_B D A s.heap [(a, .inr (9, [.long 0, .long 0]))] := ⟨hP, hD⟩
  have hl := lv_entry ([.ref a]) (n := 1) (Nat.le_of_ble_eq_true rfl)
  rw [lg_entry_eq]
  generalize (lg_sl ([.ref a]) ++ List.replicate (1 - (lg_sl ([.ref a])).length) Slot.unset).toArray = ls at hl ⊢
  have hl : lv_has ls 1 [(0, .ref a)] := hl
  obtain ⟨H, hHe⟩ : ∃ H : Heap, H = s.heap := ⟨_, rfl⟩
  rw [← hHe] at hP
  have hS : va_S A s.heap H [] := by rw [hHe]; exact va_S.rf
  refine ct_start hHe ?_
  refine lv_aload_n hx hb dX9_init_0 rfl (lv_at hl 0 rfl) ?_
  refine W.objInit hx hb hown (hts (.methodLink RX9 3 objectInit) (by decide +kernel)) (hts (.instanceMethod objectInit) (by decide +kernel)) (hts (.code objectInit ⟨#[0xb1]⟩ 1 none) (by decide +kernel)) rfl (by rw [hml]; exact hl.1) rfl dX9_init_1 (Nat.le_of_ble_eq_true rfl) (Nat.le_of_ble_eq_true rfl) ?_
  refine W.eq (g2 := F0 m 4 ls []) rfl ?_
  have hP9 := hP
  have hD9 := hD
  exact W.vret hx hb hr (fun t ht hW => ⟨⟨(fun k => ([0] : List Nat).getD k 0), rfl, trivial, by rw [ht]; exact hP9, hD9⟩, hS.F ht⟩) hS.2.2 dX9_init_4
abbrev w_c_X2_init (cI cJ cB cZ cO : ClassId) (a : Nat) : va_W := [(a, .inr (2, [.null]))]
set_option maxHeartbeats 8000000 in
set_option maxRecDepth 100000 in
/-- a new one -/
theorem c_X2_init (l : Launch) (D : va_G) (G : ct_G) (cI cJ cB cZ cO : ClassId) (a : Nat) (sz : Nat) : Met l yX2_init wsX2_init ({ frames := 1, cells := 1, slots := 729, locals := 20 }) (va_Pc [.ref a] (ct_P D (ct_T cI cJ cB cZ cO) G (w_c_X2_init cI cJ cB cZ cO a) sz)) (va_Qv (fun (u : Nat → Nat) => True) (fun (u : Nat → Nat) t => ct_Q D (va_A (w_c_X2_init cI cJ cB cZ cO a) sz) [(a, .inr (2, [.ref (u 0)])), ((u 0), .inl (cI, 729, .inl (fun _ => 0)))] t) (va_A (w_c_X2_init cI cJ cB cZ cO a) sz)) 1 729 (va_A (w_c_X2_init cI cJ cB cZ cO a) sz) := by
  refine Met.ofW (cc := cX2_init) (maxL := 1) (ret := none) (by decide) rfl ?_
  intro p e s m args below meth c s₁ B hml hv
  obtain ⟨rfl, hsz, hP, hE, hD0, hH⟩ := hv
  have hx := B.exec
  have hb := B.bytes
  have hr := B.returns
  have hts := atoms_spec (ws := wsX2_init) B.pre
  have hown : s.vm.findClass RX2 = some m.cls := findClass_of_methodNamed B.named
  have hlocks := B.notSynchronized
  have hin : meth.name = "<init>" := (name_of_methodNamed B.named B.method).1
  have hK := hE.1
  have hi2 : ∀ w ∈ u_ws RX2 TX2 1, w ∈ wsX2_init := fun w h => List.mem_cons_of_mem _ (List.mem_append_right _ h)
  subst hsz
  have hD := hD0.self (sz := s.heap.size)
  generalize hAe : va_A (w_c_X2_init cI cJ cB cZ cO a) s.heap.size = A at hD hH ⊢
  have hA : ∀ q : Nat, s.heap.size ≤ q → A q := fun q h => by rw [← hAe]; exact Or.inr h
  obtain ⟨hP, hD⟩ : ct_B D A s.heap [(a, .inr (2, [.null]))] := ⟨hP, hD⟩
  have hl := lv_entry ([.ref a]) (n := 1) (Nat.le_of_ble_eq_true rfl)
  rw [lg_entry_eq]
  generalize (lg_sl ([.ref a]) ++ List.replicate (1 - (lg_sl ([.ref a])).length) Slot.unset).toArray = ls at hl ⊢
  have hl : lv_has ls 1 [(0, .ref a)] := hl
  obtain ⟨H, hHe⟩ : ∃ H : Heap, H = s.heap := ⟨_, rfl⟩
  rw [← hHe] at hP
  have hS : va_S A s.heap H [] := by rw [hHe]; exact va_S.rf
  refine ct_start hHe ?_
  refine lv_aload_n hx hb dX2_init_0 rfl (lv_at hl 0 rfl) ?_
  refine W.objInit hx hb hown (hts (.methodLink RX2 3 objectInit) (by decide +kernel)) (hts (.instanceMethod objectInit) (by decide +kernel)) (hts (.code objectInit ⟨#[0xb1]⟩ 1 none) (by decide +kernel)) rfl (by rw [hml]; exact hl.1) rfl dX2_init_1 (Nat.le_of_ble_eq_true rfl) (Nat.le_of_ble_eq_true rfl) ?_
  refine W.eq (g2 := F0 m 4 ls []) rfl ?_
  refine lv_aload_n hx hb dX2_init_4 rfl (lv_at hl 0 rfl) ?_
  refine lv_sipush (v := 729) hx hb dX2_init_5 (by decide) ?_
  refine ct_newi hx hb (hts (.arrayClass .int) (by decide +kernel)) rfl hK hP hD hS hA 729 (by decide) (by decide) (Nat.le_of_ble_eq_true rfl) (Nat.le_of_ble_eq_true rfl) (Nat.le_of_ble_eq_true rfl) dX2_init_8 (fun q1 H hP hD hS => ?_)
  obtain ⟨hP, hD⟩ : ct_B D A H [(a, .inr (2, [.null])), (q1, .inl (cI, 729, .inl (fun _ => 0)))] := ⟨hP, hD⟩
  refine W.widen (k := 1) (n := 729) (Nat.le_of_ble_eq_true rfl) (Nat.le_of_ble_eq_true rfl) ?_
  refine va_putF (D := D) (ci := 2) (v := .ref q1) (ty := .array (.int)) (C := RX2) (T := TX2) (N := 1) hx hb hts hi2 tyX2 tyX2_ok nmX2 hown hK hP hD hS 0 rfl rfl 0 (by decide) (hts (.fieldLink RX2 11 "OverHill$Game" "winning" "[I") (by decide +kernel)) (fun _ h9 => h9) rfl hin rfl (by decide +kernel) rfl rfl (Nat.le_of_ble_eq_true rfl) dX2_init_10 (fun H locs hP hD hS => ?_)
  obtain ⟨hP, hD⟩ : ct_B D A H [(a, .inr (2, [.ref q1])), (q1, .inl (cI, 729, .inl (fun _ => 0)))] := ⟨hP, hD⟩
  have hP9 := hP
  have hD9 := hD
  exact W.vret hx hb hr (fun t ht hW => ⟨⟨(fun k => ([q1] : List Nat).getD k 0), rfl, trivial, by rw [ht]; exact hP9, hD9⟩, hS.F ht⟩) hS.2.2 dX2_init_13
abbrev w_c_X4_init (cI cJ cB cZ cO : ClassId) (a : Nat) : va_W := [(a, .inr (4, [.null, .null, .long 0, .int 0, .int 0, .int 0, .int 0]))]
set_option maxHeartbeats 8000000 in
set_option maxRecDepth 100000 in
/-- a new one -/
theorem c_X4_init (l : Launch) (D : va_G) (G : ct_G) (cI cJ cB cZ cO : ClassId) (a : Nat) (sz : Nat) : Met l yX4_init wsX4_init ({ frames := 1, cells := 2, slots := 202, locals := 20 }) (va_Pc [.ref a] (ct_P D (ct_T cI cJ cB cZ cO) G (w_c_X4_init cI cJ cB cZ cO a) sz)) (va_Qv (fun (u : Nat → Nat) => True) (fun (u : Nat → Nat) t => ct_Q D (va_A (w_c_X4_init cI cJ cB cZ cO a) sz) [(a, .inr (4, [.ref (u 0), .ref (u 1), .long 0, .int 0, .int 0, .int 0, .int 0])), ((u 0), .inl (cI, 200, .inl (fun _ => 0))), ((u 1), .inl (cI, 2, .inl (fun _ => 0)))] t) (va_A (w_c_X4_init cI cJ cB cZ cO a) sz)) 2 202 (va_A (w_c_X4_init cI cJ cB cZ cO a) sz) := by
  refine Met.ofW (cc := cX4_init) (maxL := 1) (ret := none) (by decide) rfl ?_
  intro p e s m args below meth c s₁ B hml hv
  obtain ⟨rfl, hsz, hP, hE, hD0, hH⟩ := hv
  have hx := B.exec
  have hb := B.bytes
  have hr := B.returns
  have hts := atoms_spec (ws := wsX4_init) B.pre
  have hown : s.vm.findClass RX4 = some m.cls := findClass_of_methodNamed B.named
  have hlocks := B.notSynchronized
  have hin : meth.name = "<init>" := (name_of_methodNamed B.named B.method).1
  have hK := hE.1
  have hi4 : ∀ w ∈ u_ws RX4 TX4 7, w ∈ wsX4_init := fun w h => List.mem_cons_of_mem _ (List.mem_append_right _ h)
  subst hsz
  have hD := hD0.self (sz := s.heap.size)
  generalize hAe : va_A (w_c_X4_init cI cJ cB cZ cO a) s.heap.size = A at hD hH ⊢
  have hA : ∀ q : Nat, s.heap.size ≤ q → A q := fun q h => by rw [← hAe]; exact Or.inr h
  obtain ⟨hP, hD⟩ : ct_B D A s.heap [(a, .inr (4, [.null, .null, .long 0, .int 0, .int 0, .int 0, .int 0]))] := ⟨hP, hD⟩
  have hl := lv_entry ([.ref a]) (n := 1) (Nat.le_of_ble_eq_true rfl)
  rw [lg_entry_eq]
  generalize (lg_sl ([.ref a]) ++ List.replicate (1 - (lg_sl ([.ref a])).length) Slot.unset).toArray = ls at hl ⊢
  have hl : lv_has ls 1 [(0, .ref a)] := hl
  obtain ⟨H, hHe⟩ : ∃ H : Heap, H = s.heap := ⟨_, rfl⟩
  rw [← hHe] at hP
  have hS : va_S A s.heap H [] := by rw [hHe]; exact va_S.rf
  refine ct_start hHe ?_
  refine lv_aload_n hx hb dX4_init_0 rfl (lv_at hl 0 rfl) ?_
  refine W.objInit hx hb hown (hts (.methodLink RX4 3 objectInit) (by decide +kernel)) (hts (.instanceMethod objectInit) (by decide +kernel)) (hts (.code objectInit ⟨#[0xb1]⟩ 1 none) (by decide +kernel)) rfl (by rw [hml]; exact hl.1) rfl dX4_init_1 (Nat.le_of_ble_eq_true rfl) (Nat.le_of_ble_eq_true rfl) ?_
  refine W.eq (g2 := F0 m 4 ls []) rfl ?_
  refine lv_aload_n hx hb dX4_init_4 rfl (lv_at hl 0 rfl) ?_
  refine lv_sipush (v := 200) hx hb dX4_init_5 (by decide) ?_
  refine ct_newi hx hb (hts (.arrayClass .int) (by decide +kernel)) rfl hK hP hD hS hA 200 (by decide) (by decide) (Nat.le_of_ble_eq_true rfl) (Nat.le_of_ble_eq_true rfl) (Nat.le_of_ble_eq_true rfl) dX4_init_8 (fun q1 H hP hD hS => ?_)
  obtain ⟨hP, hD⟩ : ct_B D A H [(a, .inr (4, [.null, .null, .long 0, .int 0, .int 0, .int 0, .int 0])), (q1, .inl (cI, 200, .inl (fun _ => 0)))] := ⟨hP, hD⟩
  refine W.widen (k := 1) (n := 200) (Nat.le_of_ble_eq_true rfl) (Nat.le_of_ble_eq_true rfl) ?_
  refine va_putF (D := D) (ci := 4) (v := .ref q1) (ty := .array (.int)) (C := RX4) (T := TX4) (N := 7) hx hb hts hi4 tyX4 tyX4_ok nmX4 hown hK hP hD hS 0 rfl rfl 0 (by decide) (hts (.fieldLink RX4 9 "OverHill$Night" "danced" "[I") (by decide +kernel)) (fun _ h9 => h9) rfl hin rfl (by decide +kernel) rfl rfl (Nat.le_of_ble_eq_true rfl) dX4_init_10 (fun H locs hP hD hS => ?_)
  obtain ⟨hP, hD⟩ : ct_B D A H [(a, .inr (4, [.ref q1, .null, .long 0, .int 0, .int 0, .int 0, .int 0])), (q1, .inl (cI, 200, .inl (fun _ => 0)))] := ⟨hP, hD⟩
  refine lv_aload_n hx hb dX4_init_13 rfl (lv_at hl 0 rfl) ?_
  refine lv_iconst (v := 2) hx hb dX4_init_14 (by decide) ?_
  refine ct_newi hx hb (hts (.arrayClass .int) (by decide +kernel)) rfl hK hP hD hS hA 2 (by decide) (by decide) (Nat.le_of_ble_eq_true rfl) (Nat.le_of_ble_eq_true rfl) (Nat.le_of_ble_eq_true rfl) dX4_init_15 (fun q2 H hP hD hS => ?_)
  obtain ⟨hP, hD⟩ : ct_B D A H [(a, .inr (4, [.ref q1, .null, .long 0, .int 0, .int 0, .int 0, .int 0])), (q1, .inl (cI, 200, .inl (fun _ => 0))), (q2, .inl (cI, 2, .inl (fun _ => 0)))] := ⟨hP, hD⟩
  refine W.widen (k := 2) (n := 202) (Nat.le_of_ble_eq_true rfl) (Nat.le_of_ble_eq_true rfl) ?_
  refine va_putF (D := D) (ci := 4) (v := .ref q2) (ty := .array (.int)) (C := RX4) (T := TX4) (N := 7) hx hb hts hi4 tyX4 tyX4_ok nmX4 hown hK hP hD hS 0 rfl rfl 1 (by decide) (hts (.fieldLink RX4 15 "OverHill$Night" "places" "[I") (by decide +kernel)) (fun _ h9 => h9) rfl hin rfl (by decide +kernel) rfl rfl (Nat.le_of_ble_eq_true rfl) dX4_init_17 (fun H locs hP hD hS => ?_)
  obtain ⟨hP, hD⟩ : ct_B D A H [(a, .inr (4, [.ref q1, .ref q2, .long 0, .int 0, .int 0, .int 0, .int 0])), (q1, .inl (cI, 200, .inl (fun _ => 0))), (q2, .inl (cI, 2, .inl (fun _ => 0)))] := ⟨hP, hD⟩
  have hP9 := hP
  have hD9 := hD
  exact W.vret hx hb hr (fun t ht hW => ⟨⟨(fun k => ([q1, q2] : List Nat).getD k 0), rfl, trivial, by rw [ht]; exact hP9, hD9⟩, hS.F ht⟩) hS.2.2 dX4_init_20
abbrev w_c_X8_init (cI cJ cB cZ cO : ClassId) (a : Nat) : va_W := [(a, .inr (8, [.null, .int 0, .int 0, .int 0, .int 0, .int 0]))]
set_option maxHeartbeats 8000000 in
set_option maxRecDepth 100000 in
/-- a new one -/
theorem c_X8_init (l : Launch) (D : va_G) (G : ct_G) (cI cJ cB cZ cO : ClassId) (a : Nat) (sz : Nat) : Met l yX8_init wsX8_init ({ frames := 1, cells := 1, slots := 1200, locals := 20 }) (va_Pc [.ref a] (ct_P D (ct_T cI cJ cB cZ cO) G (w_c_X8_init cI cJ cB cZ cO a) sz)) (va_Qv (fun (u : Nat → Nat) => True) (fun (u : Nat → Nat) t => ct_Q D (va_A (w_c_X8_init cI cJ cB cZ cO a) sz) [(a, .inr (8, [.ref (u 0), .int 0, .int 0, .int 0, .int 0, .int 0])), ((u 0), .inl (cB, 1200, .inl (fun _ => 0)))] t) (va_A (w_c_X8_init cI cJ cB cZ cO a) sz)) 1 1200 (va_A (w_c_X8_init cI cJ cB cZ cO a) sz) := by
  refine Met.ofW (cc := cX8_init) (maxL := 1) (ret := none) (by decide) rfl ?_
  intro p e s m args below meth c s₁ B hml hv
  obtain ⟨rfl, hsz, hP, hE, hD0, hH⟩ := hv
  have hx := B.exec
  have hb := B.bytes
  have hr := B.returns
  have hts := atoms_spec (ws := wsX8_init) B.pre
  have hown : s.vm.findClass RX8 = some m.cls := findClass_of_methodNamed B.named
  have hlocks := B.notSynchronized
  have hin : meth.name = "<init>" := (name_of_methodNamed B.named B.method).1
  have hK := hE.1
  have hi8 : ∀ w ∈ u_ws RX8 TX8 6, w ∈ wsX8_init := fun w h => List.mem_cons_of_mem _ (List.mem_append_right _ h)
  subst hsz
  have hD := hD0.self (sz := s.heap.size)
  generalize hAe : va_A (w_c_X8_init cI cJ cB cZ cO a) s.heap.size = A at hD hH ⊢
  have hA : ∀ q : Nat, s.heap.size ≤ q → A q := fun q h => by rw [← hAe]; exact Or.inr h
  obtain ⟨hP, hD⟩ : ct_B D A s.heap [(a, .inr (8, [.null, .int 0, .int 0, .int 0, .int 0, .int 0]))] := ⟨hP, hD⟩
  have hl := lv_entry ([.ref a]) (n := 1) (Nat.le_of_ble_eq_true rfl)
  rw [lg_entry_eq]
  generalize (lg_sl ([.ref a]) ++ List.replicate (1 - (lg_sl ([.ref a])).length) Slot.unset).toArray = ls at hl ⊢
  have hl : lv_has ls 1 [(0, .ref a)] := hl
  obtain ⟨H, hHe⟩ : ∃ H : Heap, H = s.heap := ⟨_, rfl⟩
  rw [← hHe] at hP
  have hS : va_S A s.heap H [] := by rw [hHe]; exact va_S.rf
  refine ct_start hHe ?_
  refine lv_aload_n hx hb dX8_init_0 rfl (lv_at hl 0 rfl) ?_
  refine W.objInit hx hb hown (hts (.methodLink RX8 3 objectInit) (by decide +kernel)) (hts (.instanceMethod objectInit) (by decide +kernel)) (hts (.code objectInit ⟨#[0xb1]⟩ 1 none) (by decide +kernel)) rfl (by rw [hml]; exact hl.1) rfl dX8_init_1 (Nat.le_of_ble_eq_true rfl) (Nat.le_of_ble_eq_true rfl) ?_
  refine W.eq (g2 := F0 m 4 ls []) rfl ?_
  refine lv_aload_n hx hb dX8_init_4 rfl (lv_at hl 0 rfl) ?_
  refine lv_sipush (v := 1200) hx hb dX8_init_5 (by decide) ?_
  refine ct_newb hx hb (hts (.arrayClass .byte) (by decide +kernel)) rfl hK hP hD hS hA 1200 (by decide) (by decide) (Nat.le_of_ble_eq_true rfl) (Nat.le_of_ble_eq_true rfl) (Nat.le_of_ble_eq_true rfl) dX8_init_8 (fun q1 H hP hD hS => ?_)
  obtain ⟨hP, hD⟩ : ct_B D A H [(a, .inr (8, [.null, .int 0, .int 0, .int 0, .int 0, .int 0])), (q1, .inl (cB, 1200, .inl (fun _ => 0)))] := ⟨hP, hD⟩
  refine W.widen (k := 1) (n := 1200) (Nat.le_of_ble_eq_true rfl) (Nat.le_of_ble_eq_true rfl) ?_
  refine va_putF (D := D) (ci := 8) (v := .ref q1) (ty := .array (.byte)) (C := RX8) (T := TX8) (N := 6) hx hb hts hi8 tyX8 tyX8_ok nmX8 hown hK hP hD hS 0 rfl rfl 0 (by decide) (hts (.fieldLink RX8 9 "OverHill$Tape" "bytes" "[B") (by decide +kernel)) (fun _ h9 => h9) rfl hin rfl (by decide +kernel) rfl rfl (Nat.le_of_ble_eq_true rfl) dX8_init_10 (fun H locs hP hD hS => ?_)
  obtain ⟨hP, hD⟩ : ct_B D A H [(a, .inr (8, [.ref q1, .int 0, .int 0, .int 0, .int 0, .int 0])), (q1, .inl (cB, 1200, .inl (fun _ => 0)))] := ⟨hP, hD⟩
  have hP9 := hP
  have hD9 := hD
  exact W.vret hx hb hr (fun t ht hW => ⟨⟨(fun k => ([q1] : List Nat).getD k 0), rfl, trivial, by rw [ht]; exact hP9, hD9⟩, hS.F ht⟩) hS.2.2 dX8_init_13
abbrev w_c_X5_init (cI cJ cB cZ cO : ClassId) (a : Nat) : va_W := [(a, .inr (5, [.null, .int 0, .int 0, .int 0]))]
set_option maxHeartbeats 8000000 in
set_option maxRecDepth 100000 in
/-- a new one -/
theorem c_X5_init (l : Launch) (D : va_G) (G : ct_G) (cI cJ cB cZ cO : ClassId) (a : Nat) (sz : Nat) : Met l yX5_init wsX5_init ({ frames := 2, cells := 2, slots := 1206, locals := 40 }) (va_Pc [.ref a] (ct_P D (ct_T cI cJ cB cZ cO) G (w_c_X5_init cI cJ cB cZ cO a) sz)) (va_Qv (fun (u : Nat → Nat) => True) (fun (u : Nat → Nat) t => ct_Q D (va_A (w_c_X5_init cI cJ cB cZ cO a) sz) [(a, .inr (5, [.ref (u 0), .int 0, .int 0, .int (-1)])), ((u 0), .inr (8, [.ref (u 1), .int 0, .int 0, .int 0, .int 0, .int 0])), ((u 1), .inl (cB, 1200, .inl (fun _ => 0)))] t) (va_A (w_c_X5_init cI cJ cB cZ cO a) sz)) 2 1206 (va_A (w_c_X5_init cI cJ cB cZ cO a) sz) := by
  refine Met.ofW (cc := cX5_init) (maxL := 1) (ret := none) (by decide) rfl ?_
  intro p e s m args below meth c s₁ B hml hv
  obtain ⟨rfl, hsz, hP, hE, hD0, hH⟩ := hv
  have hx := B.exec
  have hb := B.bytes
  have hr := B.returns
  have hts := atoms_spec (ws := wsX5_init) B.pre
  have hown : s.vm.findClass RX5 = some m.cls := findClass_of_methodNamed B.named
  have hlocks := B.notSynchronized
  have hin : meth.name = "<init>" := (name_of_methodNamed B.named B.method).1
  have hK := hE.1
  have hi5 : ∀ w ∈ u_ws RX5 TX5 4, w ∈ wsX5_init := fun w h => List.mem_cons_of_mem _ (List.mem_append_right _ h)
  have hi8 : ∀ w ∈ u_ws RX8 TX8 6, w ∈ wsX5_init := fun w h => List.mem_cons_of_mem _ (List.mem_append_left _ (List.mem_append_right _ h))
  subst hsz
  have hD := hD0.self (sz := s.heap.size)
  generalize hAe : va_A (w_c_X5_init cI cJ cB cZ cO a) s.heap.size = A at hD hH ⊢
  have hA : ∀ q : Nat, s.heap.size ≤ q → A q := fun q h => by rw [← hAe]; exact Or.inr h
  obtain ⟨hP, hD⟩ : ct_B D A s.heap [(a, .inr (5, [.null, .int 0, .int 0, .int 0]))] := ⟨hP, hD⟩
  have hl := lv_entry ([.ref a]) (n := 1) (Nat.le_of_ble_eq_true rfl)
  rw [lg_entry_eq]
  generalize (lg_sl ([.ref a]) ++ List.replicate (1 - (lg_sl ([.ref a])).length) Slot.unset).toArray = ls at hl ⊢
  have hl : lv_has ls 1 [(0, .ref a)] := hl
  obtain ⟨H, hHe⟩ : ∃ H : Heap, H = s.heap := ⟨_, rfl⟩
  rw [← hHe] at hP
  have hS : va_S A s.heap H [] := by rw [hHe]; exact va_S.rf
  refine ct_start hHe ?_
  refine lv_aload_n hx hb dX5_init_0 rfl (lv_at hl 0 rfl) ?_
  refine W.objInit hx hb hown (hts (.methodLink RX5 3 objectInit) (by decide +kernel)) (hts (.instanceMethod objectInit) (by decide +kernel)) (hts (.code objectInit ⟨#[0xb1]⟩ 1 none) (by decide +kernel)) rfl (by rw [hml]; exact hl.1) rfl dX5_init_1 (Nat.le_of_ble_eq_true rfl) (Nat.le_of_ble_eq_true rfl) ?_
  refine W.eq (g2 := F0 m 4 ls []) rfl ?_
  refine lv_aload_n hx hb dX5_init_4 rfl (lv_at hl 0 rfl) ?_
  refine va_new (ci := 8) (fs := [.null, .int 0, .int 0, .int 0, .int 0, .int 0]) (C := RX8) (T := TX8) (N := 6) hx hb hts hi8 tyX8 tyX8_ok hown (hts (.classLink RX5 9 RX8) (by decide +kernel)) (hts (.instantiable RX8 6) (by decide +kernel)) (hts (.initialized RX8) (by decide +kernel)) hK hP hD hS hA rfl ct_df8 (Nat.le_of_ble_eq_true rfl) (Nat.le_of_ble_eq_true rfl) dX5_init_5 (fun q1 H hP hD hS => ?_)
  obtain ⟨hP, hD⟩ : ct_B D A H [(a, .inr (5, [.null, .int 0, .int 0, .int 0])), (q1, .inr (8, [.null, .int 0, .int 0, .int 0, .int 0, .int 0]))] := ⟨hP, hD⟩
  refine W.widen (k := 1) (n := 6) (Nat.le_of_ble_eq_true rfl) (Nat.le_of_ble_eq_true rfl) ?_
  refine lv_dup hx hb dX5_init_8 rfl ?_
  refine ct_callv (D := D) (wc := (w_c_X8_init cI cJ cB cZ cO q1)) (wr := [(a, .inr (5, [.null, .int 0, .int 0, .int 0]))]) (va_runIN (As := []) (rest := [.ref q1, .ref a]) ⟨hx, hb, hml, hown, hts⟩ (c_X8_init l D G cI cJ cB cZ cO q1 H.size) ⟨va_cnB 0 hts gX5_init_X8_init_n11 rfl rfl rfl (hE.2.1 (RX5, 11, yX8_init, "OverHill") (List.mem_of_getElem? (i := 1) rfl)) (hts (.initialized RX8) (by decide +kernel)) (by decide +kernel) ⟨Nat.le_of_ble_eq_true rfl, Nat.le_of_ble_eq_true rfl⟩, rfl, (hts (.instanceMethod yX8_init) (by decide +kernel))⟩ (ct_preS (T := ct_T cI cJ cB cZ cO) hE hH hP hD hS hA [1] (by decide) rfl) rfl rfl hl.1 rfl (lv_room (Nat.le_of_ble_eq_true rfl)) dX5_init_9 ⟨Nat.le_of_ble_eq_true rfl, Nat.le_of_ble_eq_true rfl⟩) hP hD hS hA [1] [0] rfl rfl (by decide) (by decide) (fun u H locs hw hP hD hS => ?_)
  obtain ⟨u2, rfl⟩ : ∃ z, z = u := ⟨_, rfl⟩
  obtain ⟨hP, hD⟩ : ct_B D A H [(a, .inr (5, [.null, .int 0, .int 0, .int 0])), (q1, .inr (8, [.ref (u2 0), .int 0, .int 0, .int 0, .int 0, .int 0])), ((u2 0), .inl (cB, 1200, .inl (fun _ => 0)))] := ⟨hP, hD⟩
  refine W.widen (k := 2) (n := 1206) (Nat.le_of_ble_eq_true rfl) (Nat.le_of_ble_eq_true rfl) ?_
  refine va_putF (D := D) (ci := 5) (v := .ref q1) (ty := .object "OverHill$Tape") (C := RX5) (T := TX5) (N := 4) hx hb hts hi5 tyX5 tyX5_ok nmX5 hown hK hP hD hS 0 rfl rfl 0 (by decide) (hts (.fieldLink RX5 12 "OverHill$Reader" "tape" "LOverHill$Tape;") (by decide +kernel)) (fun _ h9 => h9) rfl hin rfl (by decide +kernel) rfl rfl (Nat.le_of_ble_eq_true rfl) dX5_init_12 (fun H locs hP hD hS => ?_)
  obtain ⟨hP, hD⟩ : ct_B D A H [(a, .inr (5, [.ref q1, .int 0, .int 0, .int 0])), (q1, .inr (8, [.ref (u2 0), .int 0, .int 0, .int 0, .int 0, .int 0])), ((u2 0), .inl (cB, 1200, .inl (fun _ => 0)))] := ⟨hP, hD⟩
  refine lv_aload_n hx hb dX5_init_15 rfl (lv_at hl 0 rfl) ?_
  refine lv_iconst (v := (-1)) hx hb dX5_init_16 (by decide) ?_
  refine va_put (D := D) (ci := 5) (v := .int (-1)) (ty := .int) (C := RX5) (T := TX5) (N := 4) hx hb hts hi5 tyX5 tyX5_ok nmX5 hown hK hP hD hS 0 rfl rfl 3 (by decide) (hts (.fieldLink RX5 18 "OverHill$Reader" "faultPlace" "I") (by decide +kernel)) (fun _ h9 => h9) rfl (by decide +kernel) rfl rfl (Nat.le_of_ble_eq_true rfl) dX5_init_17 (fun H locs hP hD hS => ?_)
  obtain ⟨hP, hD⟩ : ct_B D A H [(a, .inr (5, [.ref q1, .int 0, .int 0, .int (-1)])), (q1, .inr (8, [.ref (u2 0), .int 0, .int 0, .int 0, .int 0, .int 0])), ((u2 0), .inl (cB, 1200, .inl (fun _ => 0)))] := ⟨hP, hD⟩
  have hP9 := hP
  have hD9 := hD
  exact W.vret hx hb hr (fun t ht hW => ⟨⟨(fun k => ([q1, (u2 0)] : List Nat).getD k 0), rfl, trivial, by rw [ht]; exact hP9, hD9⟩, hS.F ht⟩) hS.2.2 dX5_init_20
abbrev w_c_X0_init (cI cJ cB cZ cO : ClassId) (a : Nat) : va_W := [(a, .inr (0, [.int 0, .int 0, .int 0, .int 0, .null, .null, .null, .null, .null, .int 0, .null, .null, .int 0, .null, .int 0, .null, .int 0]))]
set_option maxHeartbeats 8000000 in
set_option maxRecDepth 100000 in
/-- a new one -/
theorem c_X0_init (l : Launch) (D : va_G) (G : ct_G) (cI cJ cB cZ cO : ClassId) (a : Nat) (sz : Nat) : Met l yX0_init wsX0_init ({ frames := 1, cells := 9, slots := 420, locals := 20 }) (va_Pc [.ref a] (ct_P D (ct_T cI cJ cB cZ cO) G (w_c_X0_init cI cJ cB cZ cO a) sz)) (va_Qv (fun (u : Nat → Nat) => True) (fun (u : Nat → Nat) t => ct_Q D (va_A (w_c_X0_init cI cJ cB cZ cO a) sz) [dn a 0 0 0 0 (u 0) (u 1) (u 2) (u 3) (u 4) 0 (u 5) (u 6) 0 (u 7) 0 (u 8) 0, ((u 0), .inl (cI, 24, .inl (fun _ => 0))), ((u 1), .inl (cI, 2, .inl (fun _ => 0))), ((u 2), .inl (cI, 2, .inl (fun _ => 0))), ((u 3), .inl (cI, 6, .inl (fun _ => 0))), ((u 4), .inl (cI, 32, .inl (fun _ => 0))), ((u 5), .inl (cI, 200, .inl (fun _ => 0))), ((u 6), .inl (cI, 24, .inl (fun _ => 0))), ((u 7), .inl (cI, 10, .inl (fun _ => 0))), ((u 8), .inl (cI, 120, .inl (fun _ => 0)))] t) (va_A (w_c_X0_init cI cJ cB cZ cO a) sz)) 9 420 (va_A (w_c_X0_init cI cJ cB cZ cO a) sz) := by
  refine Met.ofW (cc := cX0_init) (maxL := 1) (ret := none) (by decide) rfl ?_
  intro p e s m args below meth c s₁ B hml hv
  obtain ⟨rfl, hsz, hP, hE, hD0, hH⟩ := hv
  have hx := B.exec
  have hb := B.bytes
  have hr := B.returns
  have hts := atoms_spec (ws := wsX0_init) B.pre
  have hown : s.vm.findClass RX0 = some m.cls := findClass_of_methodNamed B.named
  have hlocks := B.notSynchronized
  have hin : meth.name = "<init>" := (name_of_methodNamed B.named B.method).1
  have hK := hE.1
  have hi0 : ∀ w ∈ u_ws RX0 TX0 17, w ∈ wsX0_init := fun w h => List.mem_cons_of_mem _ (List.mem_append_right _ h)
  subst hsz
  have hD := hD0.self (sz := s.heap.size)
  generalize hAe : va_A (w_c_X0_init cI cJ cB cZ cO a) s.heap.size = A at hD hH ⊢
  have hA : ∀ q : Nat, s.heap.size ≤ q → A q := fun q h => by rw [← hAe]; exact Or.inr h
  obtain ⟨hP, hD⟩ : ct_B D A s.heap [(a, .inr (0, [.int 0, .int 0, .int 0, .int 0, .null, .null, .null, .null, .null, .int 0, .null, .null, .int 0, .null, .int 0, .null, .int 0]))] := ⟨hP, hD⟩
  have hl := lv_entry ([.ref a]) (n := 1) (Nat.le_of_ble_eq_true rfl)
  rw [lg_entry_eq]
  generalize (lg_sl ([.ref a]) ++ List.replicate (1 - (lg_sl ([.ref a])).length) Slot.unset).toArray = ls at hl ⊢
  have hl : lv_has ls 1 [(0, .ref a)] := hl
  obtain ⟨H, hHe⟩ : ∃ H : Heap, H = s.heap := ⟨_, rfl⟩
  rw [← hHe] at hP
  have hS : va_S A s.heap H [] := by rw [hHe]; exact va_S.rf
  refine ct_start hHe ?_
  refine lv_aload_n hx hb dX0_init_0 rfl (lv_at hl 0 rfl) ?_
  refine W.objInit hx hb hown (hts (.methodLink RX0 3 objectInit) (by decide +kernel)) (hts (.instanceMethod objectInit) (by decide +kernel)) (hts (.code objectInit ⟨#[0xb1]⟩ 1 none) (by decide +kernel)) rfl (by rw [hml]; exact hl.1) rfl dX0_init_1 (Nat.le_of_ble_eq_true rfl) (Nat.le_of_ble_eq_true rfl) ?_
  refine W.eq (g2 := F0 m 4 ls []) rfl ?_
  refine lv_aload_n hx hb dX0_init_4 rfl (lv_at hl 0 rfl) ?_
  refine lv_bipush (v := 24) hx hb dX0_init_5 (by decide) ?_
  refine ct_newi hx hb (hts (.arrayClass .int) (by decide +kernel)) rfl hK hP hD hS hA 24 (by decide) (by decide) (Nat.le_of_ble_eq_true rfl) (Nat.le_of_ble_eq_true rfl) (Nat.le_of_ble_eq_true rfl) dX0_init_7 (fun q1 H hP hD hS => ?_)
  obtain ⟨hP, hD⟩ : ct_B D A H [(a, .inr (0, [.int 0, .int 0, .int 0, .int 0, .null, .null, .null, .null, .null, .int 0, .null, .null, .int 0, .null, .int 0, .null, .int 0])), (q1, .inl (cI, 24, .inl (fun _ => 0)))] := ⟨hP, hD⟩
  refine W.widen (k := 1) (n := 24) (Nat.le_of_ble_eq_true rfl) (Nat.le_of_ble_eq_true rfl) ?_
  refine va_putF (D := D) (ci := 0) (v := .ref q1) (ty := .array (.int)) (C := RX0) (T := TX0) (N := 17) hx hb hts hi0 tyX0 tyX0_ok nmX0 hown hK hP hD hS 0 rfl rfl 4 (by decide) (hts (.fieldLink RX0 9 "OverHill$Dance" "steps" "[I") (by decide +kernel)) (fun _ h9 => h9) rfl hin rfl (by decide +kernel) rfl rfl (Nat.le_of_ble_eq_true rfl) dX0_init_9 (fun H locs hP hD hS => ?_)
  obtain ⟨hP, hD⟩ : ct_B D A H [(a, .inr (0, [.int 0, .int 0, .int 0, .int 0, .ref q1, .null, .null, .null, .null, .int 0, .null, .null, .int 0, .null, .int 0, .null, .int 0])), (q1, .inl (cI, 24, .inl (fun _ => 0)))] := ⟨hP, hD⟩
  refine lv_aload_n hx hb dX0_init_12 rfl (lv_at hl 0 rfl) ?_
  refine lv_iconst (v := 2) hx hb dX0_init_13 (by decide) ?_
  refine ct_newi hx hb (hts (.arrayClass .int) (by decide +kernel)) rfl hK hP hD hS hA 2 (by decide) (by decide) (Nat.le_of_ble_eq_true rfl) (Nat.le_of_ble_eq_true rfl) (Nat.le_of_ble_eq_true rfl) dX0_init_14 (fun q2 H hP hD hS => ?_)
  obtain ⟨hP, hD⟩ : ct_B D A H [(a, .inr (0, [.int 0, .int 0, .int 0, .int 0, .ref q1, .null, .null, .null, .null, .int 0, .null, .null, .int 0, .null, .int 0, .null, .int 0])), (q1, .inl (cI, 24, .inl (fun _ => 0))), (q2, .inl (cI, 2, .inl (fun _ => 0)))] := ⟨hP, hD⟩
  refine W.widen (k := 2) (n := 26) (Nat.le_of_ble_eq_true rfl) (Nat.le_of_ble_eq_true rfl) ?_
  refine va_putF (D := D) (ci := 0) (v := .ref q2) (ty := .array (.int)) (C := RX0) (T := TX0) (N := 17) hx hb hts hi0 tyX0 tyX0_ok nmX0 hown hK hP hD hS 0 rfl rfl 5 (by decide) (hts (.fieldLink RX0 15 "OverHill$Dance" "lengths" "[I") (by decide +kernel)) (fun _ h9 => h9) rfl hin rfl (by decide +kernel) rfl rfl (Nat.le_of_ble_eq_true rfl) dX0_init_16 (fun H locs hP hD hS => ?_)
  obtain ⟨hP, hD⟩ : ct_B D A H [(a, .inr (0, [.int 0, .int 0, .int 0, .int 0, .ref q1, .ref q2, .null, .null, .null, .int 0, .null, .null, .int 0, .null, .int 0, .null, .int 0])), (q1, .inl (cI, 24, .inl (fun _ => 0))), (q2, .inl (cI, 2, .inl (fun _ => 0)))] := ⟨hP, hD⟩
  refine lv_aload_n hx hb dX0_init_19 rfl (lv_at hl 0 rfl) ?_
  refine lv_iconst (v := 2) hx hb dX0_init_20 (by decide) ?_
  refine ct_newi hx hb (hts (.arrayClass .int) (by decide +kernel)) rfl hK hP hD hS hA 2 (by decide) (by decide) (Nat.le_of_ble_eq_true rfl) (Nat.le_of_ble_eq_true rfl) (Nat.le_of_ble_eq_true rfl) dX0_init_21 (fun q3 H hP hD hS => ?_)
  obtain ⟨hP, hD⟩ : ct_B D A H [(a, .inr (0, [.int 0, .int 0, .int 0, .int 0, .ref q1, .ref q2, .null, .null, .null, .int 0, .null, .null, .int 0, .null, .int 0, .null, .int 0])), (q1, .inl (cI, 24, .inl (fun _ => 0))), (q2, .inl (cI, 2, .inl (fun _ => 0))), (q3, .inl (cI, 2, .inl (fun _ => 0)))] := ⟨hP, hD⟩
  refine W.widen (k := 3) (n := 28) (Nat.le_of_ble_eq_true rfl) (Nat.le_of_ble_eq_true rfl) ?_
  refine va_putF (D := D) (ci := 0) (v := .ref q3) (ty := .array (.int)) (C := RX0) (T := TX0) (N := 17) hx hb hts hi0 tyX0 tyX0_ok nmX0 hown hK hP hD hS 0 rfl rfl 6 (by decide) (hts (.fieldLink RX0 18 "OverHill$Dance" "starts" "[I") (by decide +kernel)) (fun _ h9 => h9) rfl hin rfl (by decide +kernel) rfl rfl (Nat.le_of_ble_eq_true rfl) dX0_init_23 (fun H locs hP hD hS => ?_)
  obtain ⟨hP, hD⟩ : ct_B D A H [(a, .inr (0, [.int 0, .int 0, .int 0, .int 0, .ref q1, .ref q2, .ref q3, .null, .null, .int 0, .null, .null, .int 0, .null, .int 0, .null, .int 0])), (q1, .inl (cI, 24, .inl (fun _ => 0))), (q2, .inl (cI, 2, .inl (fun _ => 0))), (q3, .inl (cI, 2, .inl (fun _ => 0)))] := ⟨hP, hD⟩
  refine lv_aload_n hx hb dX0_init_26 rfl (lv_at hl 0 rfl) ?_
  refine lv_bipush (v := 6) hx hb dX0_init_27 (by decide) ?_
  refine ct_newi hx hb (hts (.arrayClass .int) (by decide +kernel)) rfl hK hP hD hS hA 6 (by decide) (by decide) (Nat.le_of_ble_eq_true rfl) (Nat.le_of_ble_eq_true rfl) (Nat.le_of_ble_eq_true rfl) dX0_init_29 (fun q4 H hP hD hS => ?_)
  obtain ⟨hP, hD⟩ : ct_B D A H [(a, .inr (0, [.int 0, .int 0, .int 0, .int 0, .ref q1, .ref q2, .ref q3, .null, .null, .int 0, .null, .null, .int 0, .null, .int 0, .null, .int 0])), (q1, .inl (cI, 24, .inl (fun _ => 0))), (q2, .inl (cI, 2, .inl (fun _ => 0))), (q3, .inl (cI, 2, .inl (fun _ => 0))), (q4, .inl (cI, 6, .inl (fun _ => 0)))] := ⟨hP, hD⟩
  refine W.widen (k := 4) (n := 34) (Nat.le_of_ble_eq_true rfl) (Nat.le_of_ble_eq_true rfl) ?_
  refine va_putF (D := D) (ci := 0) (v := .ref q4) (ty := .array (.int)) (C := RX0) (T := TX0) (N := 17) hx hb hts hi0 tyX0 tyX0_ok nmX0 hown hK hP hD hS 0 rfl rfl 7 (by decide) (hts (.fieldLink RX0 21 "OverHill$Dance" "met" "[I") (by decide +kernel)) (fun _ h9 => h9) rfl hin rfl (by decide +kernel) rfl rfl (Nat.le_of_ble_eq_true rfl) dX0_init_31 (fun H locs hP hD hS => ?_)
  obtain ⟨hP, hD⟩ : ct_B D A H [(a, .inr (0, [.int 0, .int 0, .int 0, .int 0, .ref q1, .ref q2, .ref q3, .ref q4, .null, .int 0, .null, .null, .int 0, .null, .int 0, .null, .int 0])), (q1, .inl (cI, 24, .inl (fun _ => 0))), (q2, .inl (cI, 2, .inl (fun _ => 0))), (q3, .inl (cI, 2, .inl (fun _ => 0))), (q4, .inl (cI, 6, .inl (fun _ => 0)))] := ⟨hP, hD⟩
  refine lv_aload_n hx hb dX0_init_34 rfl (lv_at hl 0 rfl) ?_
  refine lv_bipush (v := 32) hx hb dX0_init_35 (by decide) ?_
  refine ct_newi hx hb (hts (.arrayClass .int) (by decide +kernel)) rfl hK hP hD hS hA 32 (by decide) (by decide) (Nat.le_of_ble_eq_true rfl) (Nat.le_of_ble_eq_true rfl) (Nat.le_of_ble_eq_true rfl) dX0_init_37 (fun q5 H hP hD hS => ?_)
  obtain ⟨hP, hD⟩ : ct_B D A H [(a, .inr (0, [.int 0, .int 0, .int 0, .int 0, .ref q1, .ref q2, .ref q3, .ref q4, .null, .int 0, .null, .null, .int 0, .null, .int 0, .null, .int 0])), (q1, .inl (cI, 24, .inl (fun _ => 0))), (q2, .inl (cI, 2, .inl (fun _ => 0))), (q3, .inl (cI, 2, .inl (fun _ => 0))), (q4, .inl (cI, 6, .inl (fun _ => 0))), (q5, .inl (cI, 32, .inl (fun _ => 0)))] := ⟨hP, hD⟩
  refine W.widen (k := 5) (n := 66) (Nat.le_of_ble_eq_true rfl) (Nat.le_of_ble_eq_true rfl) ?_
  refine va_putF (D := D) (ci := 0) (v := .ref q5) (ty := .array (.int)) (C := RX0) (T := TX0) (N := 17) hx hb hts hi0 tyX0 tyX0_ok nmX0 hown hK hP hD hS 0 rfl rfl 8 (by decide) (hts (.fieldLink RX0 24 "OverHill$Dance" "stumbles" "[I") (by decide +kernel)) (fun _ h9 => h9) rfl hin rfl (by decide +kernel) rfl rfl (Nat.le_of_ble_eq_true rfl) dX0_init_39 (fun H locs hP hD hS => ?_)
  obtain ⟨hP, hD⟩ : ct_B D A H [(a, .inr (0, [.int 0, .int 0, .int 0, .int 0, .ref q1, .ref q2, .ref q3, .ref q4, .ref q5, .int 0, .null, .null, .int 0, .null, .int 0, .null, .int 0])), (q1, .inl (cI, 24, .inl (fun _ => 0))), (q2, .inl (cI, 2, .inl (fun _ => 0))), (q3, .inl (cI, 2, .inl (fun _ => 0))), (q4, .inl (cI, 6, .inl (fun _ => 0))), (q5, .inl (cI, 32, .inl (fun _ => 0)))] := ⟨hP, hD⟩
  refine lv_aload_n hx hb dX0_init_42 rfl (lv_at hl 0 rfl) ?_
  refine lv_sipush (v := 200) hx hb dX0_init_43 (by decide) ?_
  refine ct_newi hx hb (hts (.arrayClass .int) (by decide +kernel)) rfl hK hP hD hS hA 200 (by decide) (by decide) (Nat.le_of_ble_eq_true rfl) (Nat.le_of_ble_eq_true rfl) (Nat.le_of_ble_eq_true rfl) dX0_init_46 (fun q6 H hP hD hS => ?_)
  obtain ⟨hP, hD⟩ : ct_B D A H [(a, .inr (0, [.int 0, .int 0, .int 0, .int 0, .ref q1, .ref q2, .ref q3, .ref q4, .ref q5, .int 0, .null, .null, .int 0, .null, .int 0, .null, .int 0])), (q1, .inl (cI, 24, .inl (fun _ => 0))), (q2, .inl (cI, 2, .inl (fun _ => 0))), (q3, .inl (cI, 2, .inl (fun _ => 0))), (q4, .inl (cI, 6, .inl (fun _ => 0))), (q5, .inl (cI, 32, .inl (fun _ => 0))), (q6, .inl (cI, 200, .inl (fun _ => 0)))] := ⟨hP, hD⟩
  refine W.widen (k := 6) (n := 266) (Nat.le_of_ble_eq_true rfl) (Nat.le_of_ble_eq_true rfl) ?_
  refine va_putF (D := D) (ci := 0) (v := .ref q6) (ty := .array (.int)) (C := RX0) (T := TX0) (N := 17) hx hb hts hi0 tyX0 tyX0_ok nmX0 hown hK hP hD hS 0 rfl rfl 10 (by decide) (hts (.fieldLink RX0 27 "OverHill$Dance" "muds" "[I") (by decide +kernel)) (fun _ h9 => h9) rfl hin rfl (by decide +kernel) rfl rfl (Nat.le_of_ble_eq_true rfl) dX0_init_48 (fun H locs hP hD hS => ?_)
  obtain ⟨hP, hD⟩ : ct_B D A H [(a, .inr (0, [.int 0, .int 0, .int 0, .int 0, .ref q1, .ref q2, .ref q3, .ref q4, .ref q5, .int 0, .ref q6, .null, .int 0, .null, .int 0, .null, .int 0])), (q1, .inl (cI, 24, .inl (fun _ => 0))), (q2, .inl (cI, 2, .inl (fun _ => 0))), (q3, .inl (cI, 2, .inl (fun _ => 0))), (q4, .inl (cI, 6, .inl (fun _ => 0))), (q5, .inl (cI, 32, .inl (fun _ => 0))), (q6, .inl (cI, 200, .inl (fun _ => 0)))] := ⟨hP, hD⟩
  refine lv_aload_n hx hb dX0_init_51 rfl (lv_at hl 0 rfl) ?_
  refine lv_bipush (v := 24) hx hb dX0_init_52 (by decide) ?_
  refine ct_newi hx hb (hts (.arrayClass .int) (by decide +kernel)) rfl hK hP hD hS hA 24 (by decide) (by decide) (Nat.le_of_ble_eq_true rfl) (Nat.le_of_ble_eq_true rfl) (Nat.le_of_ble_eq_true rfl) dX0_init_54 (fun q7 H hP hD hS => ?_)
  obtain ⟨hP, hD⟩ : ct_B D A H [(a, .inr (0, [.int 0, .int 0, .int 0, .int 0, .ref q1, .ref q2, .ref q3, .ref q4, .ref q5, .int 0, .ref q6, .null, .int 0, .null, .int 0, .null, .int 0])), (q1, .inl (cI, 24, .inl (fun _ => 0))), (q2, .inl (cI, 2, .inl (fun _ => 0))), (q3, .inl (cI, 2, .inl (fun _ => 0))), (q4, .inl (cI, 6, .inl (fun _ => 0))), (q5, .inl (cI, 32, .inl (fun _ => 0))), (q6, .inl (cI, 200, .inl (fun _ => 0))), (q7, .inl (cI, 24, .inl (fun _ => 0)))] := ⟨hP, hD⟩
  refine W.widen (k := 7) (n := 290) (Nat.le_of_ble_eq_true rfl) (Nat.le_of_ble_eq_true rfl) ?_
  refine va_putF (D := D) (ci := 0) (v := .ref q7) (ty := .array (.int)) (C := RX0) (T := TX0) (N := 17) hx hb hts hi0 tyX0 tyX0_ok nmX0 hown hK hP hD hS 0 rfl rfl 11 (by decide) (hts (.fieldLink RX0 30 "OverHill$Dance" "cells" "[I") (by decide +kernel)) (fun _ h9 => h9) rfl hin rfl (by decide +kernel) rfl rfl (Nat.le_of_ble_eq_true rfl) dX0_init_56 (fun H locs hP hD hS => ?_)
  obtain ⟨hP, hD⟩ : ct_B D A H [(a, .inr (0, [.int 0, .int 0, .int 0, .int 0, .ref q1, .ref q2, .ref q3, .ref q4, .ref q5, .int 0, .ref q6, .ref q7, .int 0, .null, .int 0, .null, .int 0])), (q1, .inl (cI, 24, .inl (fun _ => 0))), (q2, .inl (cI, 2, .inl (fun _ => 0))), (q3, .inl (cI, 2, .inl (fun _ => 0))), (q4, .inl (cI, 6, .inl (fun _ => 0))), (q5, .inl (cI, 32, .inl (fun _ => 0))), (q6, .inl (cI, 200, .inl (fun _ => 0))), (q7, .inl (cI, 24, .inl (fun _ => 0)))] := ⟨hP, hD⟩
  refine lv_aload_n hx hb dX0_init_59 rfl (lv_at hl 0 rfl) ?_
  refine lv_bipush (v := 10) hx hb dX0_init_60 (by decide) ?_
  refine ct_newi hx hb (hts (.arrayClass .int) (by decide +kernel)) rfl hK hP hD hS hA 10 (by decide) (by decide) (Nat.le_of_ble_eq_true rfl) (Nat.le_of_ble_eq_true rfl) (Nat.le_of_ble_eq_true rfl) dX0_init_62 (fun q8 H hP hD hS => ?_)
  obtain ⟨hP, hD⟩ : ct_B D A H [(a, .inr (0, [.int 0, .int 0, .int 0, .int 0, .ref q1, .ref q2, .ref q3, .ref q4, .ref q5, .int 0, .ref q6, .ref q7, .int 0, .null, .int 0, .null, .int 0])), (q1, .inl (cI, 24, .inl (fun _ => 0))), (q2, .inl (cI, 2, .inl (fun _ => 0))), (q3, .inl (cI, 2, .inl (fun _ => 0))), (q4, .inl (cI, 6, .inl (fun _ => 0))), (q5, .inl (cI, 32, .inl (fun _ => 0))), (q6, .inl (cI, 200, .inl (fun _ => 0))), (q7, .inl (cI, 24, .inl (fun _ => 0))), (q8, .inl (cI, 10, .inl (fun _ => 0)))] := ⟨hP, hD⟩
  refine W.widen (k := 8) (n := 300) (Nat.le_of_ble_eq_true rfl) (Nat.le_of_ble_eq_true rfl) ?_
  refine va_putF (D := D) (ci := 0) (v := .ref q8) (ty := .array (.int)) (C := RX0) (T := TX0) (N := 17) hx hb hts hi0 tyX0 tyX0_ok nmX0 hown hK hP hD hS 0 rfl rfl 13 (by decide) (hts (.fieldLink RX0 33 "OverHill$Dance" "tunes" "[I") (by decide +kernel)) (fun _ h9 => h9) rfl hin rfl (by decide +kernel) rfl rfl (Nat.le_of_ble_eq_true rfl) dX0_init_64 (fun H locs hP hD hS => ?_)
  obtain ⟨hP, hD⟩ : ct_B D A H [(a, .inr (0, [.int 0, .int 0, .int 0, .int 0, .ref q1, .ref q2, .ref q3, .ref q4, .ref q5, .int 0, .ref q6, .ref q7, .int 0, .ref q8, .int 0, .null, .int 0])), (q1, .inl (cI, 24, .inl (fun _ => 0))), (q2, .inl (cI, 2, .inl (fun _ => 0))), (q3, .inl (cI, 2, .inl (fun _ => 0))), (q4, .inl (cI, 6, .inl (fun _ => 0))), (q5, .inl (cI, 32, .inl (fun _ => 0))), (q6, .inl (cI, 200, .inl (fun _ => 0))), (q7, .inl (cI, 24, .inl (fun _ => 0))), (q8, .inl (cI, 10, .inl (fun _ => 0)))] := ⟨hP, hD⟩
  refine lv_aload_n hx hb dX0_init_67 rfl (lv_at hl 0 rfl) ?_
  refine lv_bipush (v := 120) hx hb dX0_init_68 (by decide) ?_
  refine ct_newi hx hb (hts (.arrayClass .int) (by decide +kernel)) rfl hK hP hD hS hA 120 (by decide) (by decide) (Nat.le_of_ble_eq_true rfl) (Nat.le_of_ble_eq_true rfl) (Nat.le_of_ble_eq_true rfl) dX0_init_70 (fun q9 H hP hD hS => ?_)
  obtain ⟨hP, hD⟩ : ct_B D A H [(a, .inr (0, [.int 0, .int 0, .int 0, .int 0, .ref q1, .ref q2, .ref q3, .ref q4, .ref q5, .int 0, .ref q6, .ref q7, .int 0, .ref q8, .int 0, .null, .int 0])), (q1, .inl (cI, 24, .inl (fun _ => 0))), (q2, .inl (cI, 2, .inl (fun _ => 0))), (q3, .inl (cI, 2, .inl (fun _ => 0))), (q4, .inl (cI, 6, .inl (fun _ => 0))), (q5, .inl (cI, 32, .inl (fun _ => 0))), (q6, .inl (cI, 200, .inl (fun _ => 0))), (q7, .inl (cI, 24, .inl (fun _ => 0))), (q8, .inl (cI, 10, .inl (fun _ => 0))), (q9, .inl (cI, 120, .inl (fun _ => 0)))] := ⟨hP, hD⟩
  refine W.widen (k := 9) (n := 420) (Nat.le_of_ble_eq_true rfl) (Nat.le_of_ble_eq_true rfl) ?_
  refine va_putF (D := D) (ci := 0) (v := .ref q9) (ty := .array (.int)) (C := RX0) (T := TX0) (N := 17) hx hb hts hi0 tyX0 tyX0_ok nmX0 hown hK hP hD hS 0 rfl rfl 15 (by decide) (hts (.fieldLink RX0 36 "OverHill$Dance" "changes" "[I") (by decide +kernel)) (fun _ h9 => h9) rfl hin rfl (by decide +kernel) rfl rfl (Nat.le_of_ble_eq_true rfl) dX0_init_72 (fun H locs hP hD hS => ?_)
  obtain ⟨hP, hD⟩ : ct_B D A H [dn a 0 0 0 0 q1 q2 q3 q4 q5 0 q6 q7 0 q8 0 q9 0, (q1, .inl (cI, 24, .inl (fun _ => 0))), (q2, .inl (cI, 2, .inl (fun _ => 0))), (q3, .inl (cI, 2, .inl (fun _ => 0))), (q4, .inl (cI, 6, .inl (fun _ => 0))), (q5, .inl (cI, 32, .inl (fun _ => 0))), (q6, .inl (cI, 200, .inl (fun _ => 0))), (q7, .inl (cI, 24, .inl (fun _ => 0))), (q8, .inl (cI, 10, .inl (fun _ => 0))), (q9, .inl (cI, 120, .inl (fun _ => 0)))] := ⟨hP, hD⟩
  have hP9 := hP
  have hD9 := hD
  exact W.vret hx hb hr (fun t ht hW => ⟨⟨(fun k => ([q1, q2, q3, q4, q5, q6, q7, q8, q9] : List Nat).getD k 0), rfl, trivial, by rw [ht]; exact hP9, hD9⟩, hS.F ht⟩) hS.2.2 dX0_init_75
abbrev w_c_X7_init (cI cJ cB cZ cO : ClassId) (a : Nat) : va_W := [(a, .inr (7, [.null, .null, .null]))]
set_option maxHeartbeats 8000000 in
set_option maxRecDepth 100000 in
/-- a new one -/
theorem c_X7_init (l : Launch) (D : va_G) (G : ct_G) (cI cJ cB cZ cO : ClassId) (a : Nat) (sz : Nat) : Met l yX7_init wsX7_init ({ frames := 1, cells := 3, slots := 248, locals := 20 }) (va_Pc [.ref a] (ct_P D (ct_T cI cJ cB cZ cO) G (w_c_X7_init cI cJ cB cZ cO a) sz)) (va_Qv (fun (u : Nat → Nat) => True) (fun (u : Nat → Nat) t => ct_Q D (va_A (w_c_X7_init cI cJ cB cZ cO a) sz) [(a, .inr (7, [.ref (u 0), .ref (u 1), .ref (u 2)])), ((u 0), .inl (cI, 4, .inl (fun _ => 0))), ((u 1), .inl (cI, 4, .inl (upd (upd (upd (upd (fun _ => 0) 0 (-1)) 1 (-1)) 2 (-1)) 3 (-1)))), ((u 2), .inl (cJ, 240, .inr (.inl (fun _ => 0))))] t) (va_A (w_c_X7_init cI cJ cB cZ cO a) sz)) 3 248 (va_A (w_c_X7_init cI cJ cB cZ cO a) sz) := by
  refine Met.ofW (cc := cX7_init) (maxL := 1) (ret := none) (by decide) rfl ?_
  intro p e s m args below meth c s₁ B hml hv
  obtain ⟨rfl, hsz, hP, hE, hD0, hH⟩ := hv
  have hx := B.exec
  have hb := B.bytes
  have hr := B.returns
  have hts := atoms_spec (ws := wsX7_init) B.pre
  have hown : s.vm.findClass RX7 = some m.cls := findClass_of_methodNamed B.named
  have hlocks := B.notSynchronized
  have hin : meth.name = "<init>" := (name_of_methodNamed B.named B.method).1
  have hK := hE.1
  have hi7 : ∀ w ∈ u_ws RX7 TX7 3, w ∈ wsX7_init := fun w h => List.mem_cons_of_mem _ (List.mem_append_right _ h)
  subst hsz
  have hD := hD0.self (sz := s.heap.size)
  generalize hAe : va_A (w_c_X7_init cI cJ cB cZ cO a) s.heap.size = A at hD hH ⊢
  have hA : ∀ q : Nat, s.heap.size ≤ q → A q := fun q h => by rw [← hAe]; exact Or.inr h
  obtain ⟨hP, hD⟩ : ct_B D A s.heap [(a, .inr (7, [.null, .null, .null]))] := ⟨hP, hD⟩
  have hl := lv_entry ([.ref a]) (n := 1) (Nat.le_of_ble_eq_true rfl)
  rw [lg_entry_eq]
  generalize (lg_sl ([.ref a]) ++ List.replicate (1 - (lg_sl ([.ref a])).length) Slot.unset).toArray = ls at hl ⊢
  have hl : lv_has ls 1 [(0, .ref a)] := hl
  obtain ⟨H, hHe⟩ : ∃ H : Heap, H = s.heap := ⟨_, rfl⟩
  rw [← hHe] at hP
  have hS : va_S A s.heap H [] := by rw [hHe]; exact va_S.rf
  refine ct_start hHe ?_
  refine lv_aload_n hx hb dX7_init_0 rfl (lv_at hl 0 rfl) ?_
  refine W.objInit hx hb hown (hts (.methodLink RX7 3 objectInit) (by decide +kernel)) (hts (.instanceMethod objectInit) (by decide +kernel)) (hts (.code objectInit ⟨#[0xb1]⟩ 1 none) (by decide +kernel)) rfl (by rw [hml]; exact hl.1) rfl dX7_init_1 (Nat.le_of_ble_eq_true rfl) (Nat.le_of_ble_eq_true rfl) ?_
  refine W.eq (g2 := F0 m 4 ls []) rfl ?_
  refine lv_aload_n hx hb dX7_init_4 rfl (lv_at hl 0 rfl) ?_
  refine lv_iconst (v := 4) hx hb dX7_init_5 (by decide) ?_
  refine ct_newi hx hb (hts (.arrayClass .int) (by decide +kernel)) rfl hK hP hD hS hA 4 (by decide) (by decide) (Nat.le_of_ble_eq_true rfl) (Nat.le_of_ble_eq_true rfl) (Nat.le_of_ble_eq_true rfl) dX7_init_6 (fun q1 H hP hD hS => ?_)
  obtain ⟨hP, hD⟩ : ct_B D A H [(a, .inr (7, [.null, .null, .null])), (q1, .inl (cI, 4, .inl (fun _ => 0)))] := ⟨hP, hD⟩
  refine W.widen (k := 1) (n := 4) (Nat.le_of_ble_eq_true rfl) (Nat.le_of_ble_eq_true rfl) ?_
  refine va_putF (D := D) (ci := 7) (v := .ref q1) (ty := .array (.int)) (C := RX7) (T := TX7) (N := 3) hx hb hts hi7 tyX7 tyX7_ok nmX7 hown hK hP hD hS 0 rfl rfl 0 (by decide) (hts (.fieldLink RX7 11 "OverHill$Slots" "widths" "[I") (by decide +kernel)) (fun _ h9 => h9) rfl hin rfl (by decide +kernel) rfl rfl (Nat.le_of_ble_eq_true rfl) dX7_init_8 (fun H locs hP hD hS => ?_)
  obtain ⟨hP, hD⟩ : ct_B D A H [(a, .inr (7, [.ref q1, .null, .null])), (q1, .inl (cI, 4, .inl (fun _ => 0)))] := ⟨hP, hD⟩
  refine lv_aload_n hx hb dX7_init_11 rfl (lv_at hl 0 rfl) ?_
  refine lv_iconst (v := 4) hx hb dX7_init_12 (by decide) ?_
  refine ct_newi hx hb (hts (.arrayClass .int) (by decide +kernel)) rfl hK hP hD hS hA 4 (by decide) (by decide) (Nat.le_of_ble_eq_true rfl) (Nat.le_of_ble_eq_true rfl) (Nat.le_of_ble_eq_true rfl) dX7_init_13 (fun q2 H hP hD hS => ?_)
  obtain ⟨hP, hD⟩ : ct_B D A H [(a, .inr (7, [.ref q1, .null, .null])), (q1, .inl (cI, 4, .inl (fun _ => 0))), (q2, .inl (cI, 4, .inl (fun _ => 0)))] := ⟨hP, hD⟩
  refine W.widen (k := 2) (n := 8) (Nat.le_of_ble_eq_true rfl) (Nat.le_of_ble_eq_true rfl) ?_
  refine lv_dup hx hb dX7_init_15 rfl ?_
  refine lv_iconst (v := 0) hx hb dX7_init_16 (by decide) ?_
  refine lv_iconst (v := (-1)) hx hb dX7_init_17 (by decide) ?_
  refine va_iast (D := D) hx hb hK hP hD hS 2 0 rfl rfl (tq_in (a := 0) (by decide) (by omega)) dX7_init_18 (fun H locs hP hD hS => ?_)
  obtain ⟨hP, hD⟩ : ct_B D A H [(a, .inr (7, [.ref q1, .null, .null])), (q1, .inl (cI, 4, .inl (fun _ => 0))), (q2, .inl (cI, 4, .inl (upd (fun _ => 0) 0 (-1))))] := ⟨hP, hD⟩
  refine lv_dup hx hb dX7_init_19 rfl ?_
  refine lv_iconst (v := 1) hx hb dX7_init_20 (by decide) ?_
  refine lv_iconst (v := (-1)) hx hb dX7_init_21 (by decide) ?_
  refine va_iast (D := D) hx hb hK hP hD hS 2 0 rfl rfl (tq_in (a := 1) (by decide) (by omega)) dX7_init_22 (fun H locs hP hD hS => ?_)
  obtain ⟨hP, hD⟩ : ct_B D A H [(a, .inr (7, [.ref q1, .null, .null])), (q1, .inl (cI, 4, .inl (fun _ => 0))), (q2, .inl (cI, 4, .inl (upd (upd (fun _ => 0) 0 (-1)) 1 (-1))))] := ⟨hP, hD⟩
  refine lv_dup hx hb dX7_init_23 rfl ?_
  refine lv_iconst (v := 2) hx hb dX7_init_24 (by decide) ?_
  refine lv_iconst (v := (-1)) hx hb dX7_init_25 (by decide) ?_
  refine va_iast (D := D) hx hb hK hP hD hS 2 0 rfl rfl (tq_in (a := 2) (by decide) (by omega)) dX7_init_26 (fun H locs hP hD hS => ?_)
  obtain ⟨hP, hD⟩ : ct_B D A H [(a, .inr (7, [.ref q1, .null, .null])), (q1, .inl (cI, 4, .inl (fun _ => 0))), (q2, .inl (cI, 4, .inl (upd (upd (upd (fun _ => 0) 0 (-1)) 1 (-1)) 2 (-1))))] := ⟨hP, hD⟩
  refine lv_dup hx hb dX7_init_27 rfl ?_
  refine lv_iconst (v := 3) hx hb dX7_init_28 (by decide) ?_
  refine lv_iconst (v := (-1)) hx hb dX7_init_29 (by decide) ?_
  refine va_iast (D := D) hx hb hK hP hD hS 2 0 rfl rfl (tq_in (a := 3) (by decide) (by omega)) dX7_init_30 (fun H locs hP hD hS => ?_)
  obtain ⟨hP, hD⟩ : ct_B D A H [(a, .inr (7, [.ref q1, .null, .null])), (q1, .inl (cI, 4, .inl (fun _ => 0))), (q2, .inl (cI, 4, .inl (upd (upd (upd (upd (fun _ => 0) 0 (-1)) 1 (-1)) 2 (-1)) 3 (-1))))] := ⟨hP, hD⟩
  refine va_putF (D := D) (ci := 7) (v := .ref q2) (ty := .array (.int)) (C := RX7) (T := TX7) (N := 3) hx hb hts hi7 tyX7 tyX7_ok nmX7 hown hK hP hD hS 0 rfl rfl 1 (by decide) (hts (.fieldLink RX7 15 "OverHill$Slots" "sizes" "[I") (by decide +kernel)) (fun _ h9 => h9) rfl hin rfl (by decide +kernel) rfl rfl (Nat.le_of_ble_eq_true rfl) dX7_init_31 (fun H locs hP hD hS => ?_)
  obtain ⟨hP, hD⟩ : ct_B D A H [(a, .inr (7, [.ref q1, .ref q2, .null])), (q1, .inl (cI, 4, .inl (fun _ => 0))), (q2, .inl (cI, 4, .inl (upd (upd (upd (upd (fun _ => 0) 0 (-1)) 1 (-1)) 2 (-1)) 3 (-1))))] := ⟨hP, hD⟩
  refine lv_aload_n hx hb dX7_init_34 rfl (lv_at hl 0 rfl) ?_
  refine lv_sipush (v := 240) hx hb dX7_init_35 (by decide) ?_
  refine ct_newl hx hb (hts (.arrayClass .long) (by decide +kernel)) rfl hK hP hD hS hA 240 (by decide) (by decide) (Nat.le_of_ble_eq_true rfl) (Nat.le_of_ble_eq_true rfl) (Nat.le_of_ble_eq_true rfl) dX7_init_38 (fun q3 H hP hD hS => ?_)
  obtain ⟨hP, hD⟩ : ct_B D A H [(a, .inr (7, [.ref q1, .ref q2, .null])), (q1, .inl (cI, 4, .inl (fun _ => 0))), (q2, .inl (cI, 4, .inl (upd (upd (upd (upd (fun _ => 0) 0 (-1)) 1 (-1)) 2 (-1)) 3 (-1)))), (q3, .inl (cJ, 240, .inr (.inl (fun _ => 0))))] := ⟨hP, hD⟩
  refine W.widen (k := 3) (n := 248) (Nat.le_of_ble_eq_true rfl) (Nat.le_of_ble_eq_true rfl) ?_
  refine va_putF (D := D) (ci := 7) (v := .ref q3) (ty := .array (.long)) (C := RX7) (T := TX7) (N := 3) hx hb hts hi7 tyX7 tyX7_ok nmX7 hown hK hP hD hS 0 rfl rfl 2 (by decide) (hts (.fieldLink RX7 18 "OverHill$Slots" "numbers" "[J") (by decide +kernel)) (fun _ h9 => h9) rfl hin rfl (by decide +kernel) rfl rfl (Nat.le_of_ble_eq_true rfl) dX7_init_40 (fun H locs hP hD hS => ?_)
  obtain ⟨hP, hD⟩ : ct_B D A H [(a, .inr (7, [.ref q1, .ref q2, .ref q3])), (q1, .inl (cI, 4, .inl (fun _ => 0))), (q2, .inl (cI, 4, .inl (upd (upd (upd (upd (fun _ => 0) 0 (-1)) 1 (-1)) 2 (-1)) 3 (-1)))), (q3, .inl (cJ, 240, .inr (.inl (fun _ => 0))))] := ⟨hP, hD⟩
  have hP9 := hP
  have hD9 := hD
  exact W.vret hx hb hr (fun t ht hW => ⟨⟨(fun k => ([q1, q2, q3] : List Nat).getD k 0), rfl, trivial, by rw [ht]; exact hP9, hD9⟩, hS.F ht⟩) hS.2.2 dX7_init_43
