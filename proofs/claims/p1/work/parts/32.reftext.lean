abbrev w_c_X12_four0 (cI cJ cB cZ cO : ClassId) (h : Nat) (r : Nat → Nat) (f : Nat → Int32) : va_W := [mo h r 0 0, ((r 5), .inl (cB, 1200, .inl (f)))]
set_option maxHeartbeats 4000000 in
set_option maxRecDepth 100000 in
/-- four bytes more -/
theorem c_X12_four0 (l : Launch) (D : va_G) (cI cJ cB cZ cO : ClassId) (h : Nat) (r : Nat → Nat) (f : Nat → Int32) (v : Int32) (sz : Nat) : Met l yX12_four wsX12_four ({ frames := 0, cells := 0, slots := 0, locals := 0 }) (va_Pc [.ref h, .int v] (ct_P D (ct_T cI cJ cB cZ cO) (w_c_X12_four0 cI cJ cB cZ cO h r f) sz)) (va_Qv (fun (u : Nat → Int32) => True) (fun (u : Nat → Int32) t => ct_Q D (va_A (w_c_X12_four0 cI cJ cB cZ cO h r f) sz) [mo h r 4 0, ((r 5), .inl (cB, 1200, .inl (u)))] t) (va_A (w_c_X12_four0 cI cJ cB cZ cO h r f) sz)) 0 0 (va_A (w_c_X12_four0 cI cJ cB cZ cO h r f) sz) := by
  refine Met.ofW (cc := cX12_four) (maxL := 3) (ret := none) (by decide) rfl ?_
  intro p e s m args below meth c s₁ B hml hv
  obtain ⟨rfl, hsz, hP, hE, hD0⟩ := hv
  have hx := B.exec
  have hb := B.bytes
  have hr := B.returns
  have hts := atoms_spec (ws := wsX12_four) B.pre
  have hown : s.vm.findClass RX12 = some m.cls := findClass_of_methodNamed B.named
  have hlocks := B.notSynchronized
  have hK := hE.1
  have hi12 : ∀ w ∈ u_ws RX12 TX12 45, w ∈ wsX12_four := fun w h => List.mem_cons_of_mem _ (List.mem_append_right _ h)
  subst hsz
  have hD := hD0.self (sz := s.heap.size)
  generalize hAe : va_A (w_c_X12_four0 cI cJ cB cZ cO h r f) s.heap.size = A at hD ⊢
  have hA : ∀ q : Nat, s.heap.size ≤ q → A q := fun q h => by rw [← hAe]; exact Or.inr h
  have hS : va_S A s.heap s.heap [] := va_S.rf
  have hP : va_P D vwCl [mo h r 0 0, ((r 5), .inl (cB, 1200, .inl (f)))] s.heap := hP
  have hD : va_D A [mo h r 0 0, ((r 5), .inl (cB, 1200, .inl (f)))] := hD
  have hl := lv_entry ([.ref h, .int v]) (n := 3) (Nat.le_of_ble_eq_true rfl)
  rw [lg_entry_eq]
  generalize (lg_sl ([.ref h, .int v]) ++ List.replicate (3 - (lg_sl ([.ref h, .int v])).length) Slot.unset).toArray = ls at hl ⊢
  have hl : lv_has ls 3 [(0, .ref h), (1, .int v)] := hl
  obtain ⟨H, hHe⟩ : ∃ H : Heap, H = s.heap := ⟨_, rfl⟩
  rw [← hHe] at hP
  have hS : va_S A s.heap H [] := by rw [hHe]; exact va_S.rf
  refine ct_start hHe ?_
  refine lv_bipush (v := 24) hx hb dX12_four_0 (by decide) ?_
  refine lv_istore_n (lv' := [(2, .int 24), (0, .ref h), (1, .int v)]) hx hb dX12_four_2 rfl hl (by decide) rfl (fun ls hl => ?_)
  refine lv_iload_n hx hb dX12_four_3 rfl (lv_at hl 0 rfl) ?_
  refine lv_if_lt (tgt := 36) hx hb dX12_four_4 (by decide) (fun hc => absurd hc (by decide)) (fun _ => ?_)
  refine lv_aload_n hx hb dX12_four_7 rfl (lv_at hl 1 rfl) ?_
  refine va_get (D := D) (ci := 12) (v := .ref (r 5)) (C := RX12) (T := TX12) (N := 45) hx hb hts hi12 hown hK hP 0 rfl rfl 5 (by decide) (hts (.fieldLink RX12 23 "OverHillModel" "tape" "[B") (by decide +kernel)) (fun _ h9 => h9) rfl dX12_four_8 ?_
  refine lv_aload_n hx hb dX12_four_11 rfl (lv_at hl 1 rfl) ?_
  refine va_get (D := D) (ci := 12) (v := .int 0) (C := RX12) (T := TX12) (N := 45) hx hb hts hi12 hown hK hP 0 rfl rfl 6 (by decide) (hts (.fieldLink RX12 97 "OverHillModel" "taped" "I") (by decide +kernel)) (fun _ h9 => h9) rfl dX12_four_12 ?_
  refine lv_iload_n hx hb dX12_four_15 rfl (lv_at hl 2 rfl) ?_
  refine lv_iload_n hx hb dX12_four_16 rfl (lv_at hl 0 rfl) ?_
  refine lv_ishr hx hb dX12_four_17 ?_
  refine lv_topi (fun z341 ez341 => ?_)
  refine lv_i2b (v := z341.toInt8.toInt32) hx hb dX12_four_18 rfl ?_
  refine lv_topi (fun z342 ez342 => ?_)
  refine va_bast (D := D) hx hb hK hP hD hS 1 2 rfl rfl (tq_in (a := 0) (by decide) (by omega)) dX12_four_19 (fun H locs hP hD hS => ?_)
  obtain ⟨g343, hP, hD⟩ : ∃ g343 : Nat → Int32, va_P D vwCl [mo h r 0 0, ((r 5), .inl (cB, 1200, .inl (g343)))] H ∧ va_D A [mo h r 0 0, ((r 5), .inl (cB, 1200, .inl (g343)))] := ⟨_, hP, hD⟩
  refine lv_aload_n hx hb dX12_four_20 rfl (lv_at hl 1 rfl) ?_
  refine lv_dup hx hb dX12_four_21 rfl ?_
  refine va_get (D := D) (ci := 12) (v := .int 0) (C := RX12) (T := TX12) (N := 45) hx hb hts hi12 hown hK hP 0 rfl rfl 6 (by decide) (hts (.fieldLink RX12 97 "OverHillModel" "taped" "I") (by decide +kernel)) (fun _ h9 => h9) rfl dX12_four_22 ?_
  refine lv_iconst (v := 1) hx hb dX12_four_25 (by decide) ?_
  refine lv_iadd hx hb dX12_four_26 ?_
  refine lv_topi (fun z344 ez344 => ?_)
  obtain rfl : z344 = 1 := ez344.trans (by decide)
  refine va_put (D := D) (ci := 12) (v := .int 1) (ty := .int) (C := RX12) (T := TX12) (N := 45) hx hb hts hi12 tyX12 tyX12_ok nmX12 hown hK hP hD hS 0 rfl rfl 6 (by decide) (hts (.fieldLink RX12 97 "OverHillModel" "taped" "I") (by decide +kernel)) (fun _ h9 => h9) rfl (by decide +kernel) rfl rfl (Nat.le_of_ble_eq_true rfl) dX12_four_27 (fun H locs hP hD hS => ?_)
  have hP : va_P D vwCl [mo h r 1 0, ((r 5), .inl (cB, 1200, .inl (g343)))] H := hP
  have hD : va_D A [mo h r 1 0, ((r 5), .inl (cB, 1200, .inl (g343)))] := hD
  refine lv_iinc (v := 16) (lv' := [(2, .int 16), (0, .ref h), (1, .int v)]) hx hb dX12_four_30 hl (k := 0) rfl (by decide) (by decide) rfl (fun ls hl => ?_)
  refine lv_goto (tgt := 3) hx hb dX12_four_33 (by decide) ?_
  refine lv_iload_n hx hb dX12_four_3 rfl (lv_at hl 0 rfl) ?_
  refine lv_if_lt (tgt := 36) hx hb dX12_four_4 (by decide) (fun hc => absurd hc (by decide)) (fun _ => ?_)
  refine lv_aload_n hx hb dX12_four_7 rfl (lv_at hl 1 rfl) ?_
  refine va_get (D := D) (ci := 12) (v := .ref (r 5)) (C := RX12) (T := TX12) (N := 45) hx hb hts hi12 hown hK hP 0 rfl rfl 5 (by decide) (hts (.fieldLink RX12 23 "OverHillModel" "tape" "[B") (by decide +kernel)) (fun _ h9 => h9) rfl dX12_four_8 ?_
  refine lv_aload_n hx hb dX12_four_11 rfl (lv_at hl 1 rfl) ?_
  refine va_get (D := D) (ci := 12) (v := .int 1) (C := RX12) (T := TX12) (N := 45) hx hb hts hi12 hown hK hP 0 rfl rfl 6 (by decide) (hts (.fieldLink RX12 97 "OverHillModel" "taped" "I") (by decide +kernel)) (fun _ h9 => h9) rfl dX12_four_12 ?_
  refine lv_iload_n hx hb dX12_four_15 rfl (lv_at hl 2 rfl) ?_
  refine lv_iload_n hx hb dX12_four_16 rfl (lv_at hl 0 rfl) ?_
  refine lv_ishr hx hb dX12_four_17 ?_
  refine lv_topi (fun z345 ez345 => ?_)
  refine lv_i2b (v := z345.toInt8.toInt32) hx hb dX12_four_18 rfl ?_
  refine lv_topi (fun z346 ez346 => ?_)
  refine va_bast (D := D) hx hb hK hP hD hS 1 2 rfl rfl (tq_in (a := 1) (by decide) (by omega)) dX12_four_19 (fun H locs hP hD hS => ?_)
  obtain ⟨g347, hP, hD⟩ : ∃ g347 : Nat → Int32, va_P D vwCl [mo h r 1 0, ((r 5), .inl (cB, 1200, .inl (g347)))] H ∧ va_D A [mo h r 1 0, ((r 5), .inl (cB, 1200, .inl (g347)))] := ⟨_, hP, hD⟩
  refine lv_aload_n hx hb dX12_four_20 rfl (lv_at hl 1 rfl) ?_
  refine lv_dup hx hb dX12_four_21 rfl ?_
  refine va_get (D := D) (ci := 12) (v := .int 1) (C := RX12) (T := TX12) (N := 45) hx hb hts hi12 hown hK hP 0 rfl rfl 6 (by decide) (hts (.fieldLink RX12 97 "OverHillModel" "taped" "I") (by decide +kernel)) (fun _ h9 => h9) rfl dX12_four_22 ?_
  refine lv_iconst (v := 1) hx hb dX12_four_25 (by decide) ?_
  refine lv_iadd hx hb dX12_four_26 ?_
  refine lv_topi (fun z348 ez348 => ?_)
  obtain rfl : z348 = 2 := ez348.trans (by decide)
  refine va_put (D := D) (ci := 12) (v := .int 2) (ty := .int) (C := RX12) (T := TX12) (N := 45) hx hb hts hi12 tyX12 tyX12_ok nmX12 hown hK hP hD hS 0 rfl rfl 6 (by decide) (hts (.fieldLink RX12 97 "OverHillModel" "taped" "I") (by decide +kernel)) (fun _ h9 => h9) rfl (by decide +kernel) rfl rfl (Nat.le_of_ble_eq_true rfl) dX12_four_27 (fun H locs hP hD hS => ?_)
  have hP : va_P D vwCl [mo h r 2 0, ((r 5), .inl (cB, 1200, .inl (g347)))] H := hP
  have hD : va_D A [mo h r 2 0, ((r 5), .inl (cB, 1200, .inl (g347)))] := hD
  refine lv_iinc (v := 8) (lv' := [(2, .int 8), (0, .ref h), (1, .int v)]) hx hb dX12_four_30 hl (k := 0) rfl (by decide) (by decide) rfl (fun ls hl => ?_)
  refine lv_goto (tgt := 3) hx hb dX12_four_33 (by decide) ?_
  refine lv_iload_n hx hb dX12_four_3 rfl (lv_at hl 0 rfl) ?_
  refine lv_if_lt (tgt := 36) hx hb dX12_four_4 (by decide) (fun hc => absurd hc (by decide)) (fun _ => ?_)
  refine lv_aload_n hx hb dX12_four_7 rfl (lv_at hl 1 rfl) ?_
  refine va_get (D := D) (ci := 12) (v := .ref (r 5)) (C := RX12) (T := TX12) (N := 45) hx hb hts hi12 hown hK hP 0 rfl rfl 5 (by decide) (hts (.fieldLink RX12 23 "OverHillModel" "tape" "[B") (by decide +kernel)) (fun _ h9 => h9) rfl dX12_four_8 ?_
  refine lv_aload_n hx hb dX12_four_11 rfl (lv_at hl 1 rfl) ?_
  refine va_get (D := D) (ci := 12) (v := .int 2) (C := RX12) (T := TX12) (N := 45) hx hb hts hi12 hown hK hP 0 rfl rfl 6 (by decide) (hts (.fieldLink RX12 97 "OverHillModel" "taped" "I") (by decide +kernel)) (fun _ h9 => h9) rfl dX12_four_12 ?_
  refine lv_iload_n hx hb dX12_four_15 rfl (lv_at hl 2 rfl) ?_
  refine lv_iload_n hx hb dX12_four_16 rfl (lv_at hl 0 rfl) ?_
  refine lv_ishr hx hb dX12_four_17 ?_
  refine lv_topi (fun z349 ez349 => ?_)
  refine lv_i2b (v := z349.toInt8.toInt32) hx hb dX12_four_18 rfl ?_
  refine lv_topi (fun z350 ez350 => ?_)
  refine va_bast (D := D) hx hb hK hP hD hS 1 2 rfl rfl (tq_in (a := 2) (by decide) (by omega)) dX12_four_19 (fun H locs hP hD hS => ?_)
  obtain ⟨g351, hP, hD⟩ : ∃ g351 : Nat → Int32, va_P D vwCl [mo h r 2 0, ((r 5), .inl (cB, 1200, .inl (g351)))] H ∧ va_D A [mo h r 2 0, ((r 5), .inl (cB, 1200, .inl (g351)))] := ⟨_, hP, hD⟩
  refine lv_aload_n hx hb dX12_four_20 rfl (lv_at hl 1 rfl) ?_
  refine lv_dup hx hb dX12_four_21 rfl ?_
  refine va_get (D := D) (ci := 12) (v := .int 2) (C := RX12) (T := TX12) (N := 45) hx hb hts hi12 hown hK hP 0 rfl rfl 6 (by decide) (hts (.fieldLink RX12 97 "OverHillModel" "taped" "I") (by decide +kernel)) (fun _ h9 => h9) rfl dX12_four_22 ?_
  refine lv_iconst (v := 1) hx hb dX12_four_25 (by decide) ?_
  refine lv_iadd hx hb dX12_four_26 ?_
  refine lv_topi (fun z352 ez352 => ?_)
  obtain rfl : z352 = 3 := ez352.trans (by decide)
  refine va_put (D := D) (ci := 12) (v := .int 3) (ty := .int) (C := RX12) (T := TX12) (N := 45) hx hb hts hi12 tyX12 tyX12_ok nmX12 hown hK hP hD hS 0 rfl rfl 6 (by decide) (hts (.fieldLink RX12 97 "OverHillModel" "taped" "I") (by decide +kernel)) (fun _ h9 => h9) rfl (by decide +kernel) rfl rfl (Nat.le_of_ble_eq_true rfl) dX12_four_27 (fun H locs hP hD hS => ?_)
  have hP : va_P D vwCl [mo h r 3 0, ((r 5), .inl (cB, 1200, .inl (g351)))] H := hP
  have hD : va_D A [mo h r 3 0, ((r 5), .inl (cB, 1200, .inl (g351)))] := hD
  refine lv_iinc (v := 0) (lv' := [(2, .int 0), (0, .ref h), (1, .int v)]) hx hb dX12_four_30 hl (k := 0) rfl (by decide) (by decide) rfl (fun ls hl => ?_)
  refine lv_goto (tgt := 3) hx hb dX12_four_33 (by decide) ?_
  refine lv_iload_n hx hb dX12_four_3 rfl (lv_at hl 0 rfl) ?_
  refine lv_if_lt (tgt := 36) hx hb dX12_four_4 (by decide) (fun hc => absurd hc (by decide)) (fun _ => ?_)
  refine lv_aload_n hx hb dX12_four_7 rfl (lv_at hl 1 rfl) ?_
  refine va_get (D := D) (ci := 12) (v := .ref (r 5)) (C := RX12) (T := TX12) (N := 45) hx hb hts hi12 hown hK hP 0 rfl rfl 5 (by decide) (hts (.fieldLink RX12 23 "OverHillModel" "tape" "[B") (by decide +kernel)) (fun _ h9 => h9) rfl dX12_four_8 ?_
  refine lv_aload_n hx hb dX12_four_11 rfl (lv_at hl 1 rfl) ?_
  refine va_get (D := D) (ci := 12) (v := .int 3) (C := RX12) (T := TX12) (N := 45) hx hb hts hi12 hown hK hP 0 rfl rfl 6 (by decide) (hts (.fieldLink RX12 97 "OverHillModel" "taped" "I") (by decide +kernel)) (fun _ h9 => h9) rfl dX12_four_12 ?_
  refine lv_iload_n hx hb dX12_four_15 rfl (lv_at hl 2 rfl) ?_
  refine lv_iload_n hx hb dX12_four_16 rfl (lv_at hl 0 rfl) ?_
  refine lv_ishr hx hb dX12_four_17 ?_
  refine lv_topi (fun z353 ez353 => ?_)
  refine lv_i2b (v := z353.toInt8.toInt32) hx hb dX12_four_18 rfl ?_
  refine lv_topi (fun z354 ez354 => ?_)
  refine va_bast (D := D) hx hb hK hP hD hS 1 2 rfl rfl (tq_in (a := 3) (by decide) (by omega)) dX12_four_19 (fun H locs hP hD hS => ?_)
  obtain ⟨g355, hP, hD⟩ : ∃ g355 : Nat → Int32, va_P D vwCl [mo h r 3 0, ((r 5), .inl (cB, 1200, .inl (g355)))] H ∧ va_D A [mo h r 3 0, ((r 5), .inl (cB, 1200, .inl (g355)))] := ⟨_, hP, hD⟩
  refine lv_aload_n hx hb dX12_four_20 rfl (lv_at hl 1 rfl) ?_
  refine lv_dup hx hb dX12_four_21 rfl ?_
  refine va_get (D := D) (ci := 12) (v := .int 3) (C := RX12) (T := TX12) (N := 45) hx hb hts hi12 hown hK hP 0 rfl rfl 6 (by decide) (hts (.fieldLink RX12 97 "OverHillModel" "taped" "I") (by decide +kernel)) (fun _ h9 => h9) rfl dX12_four_22 ?_
  refine lv_iconst (v := 1) hx hb dX12_four_25 (by decide) ?_
  refine lv_iadd hx hb dX12_four_26 ?_
  refine lv_topi (fun z356 ez356 => ?_)
  obtain rfl : z356 = 4 := ez356.trans (by decide)
  refine va_put (D := D) (ci := 12) (v := .int 4) (ty := .int) (C := RX12) (T := TX12) (N := 45) hx hb hts hi12 tyX12 tyX12_ok nmX12 hown hK hP hD hS 0 rfl rfl 6 (by decide) (hts (.fieldLink RX12 97 "OverHillModel" "taped" "I") (by decide +kernel)) (fun _ h9 => h9) rfl (by decide +kernel) rfl rfl (Nat.le_of_ble_eq_true rfl) dX12_four_27 (fun H locs hP hD hS => ?_)
  have hP : va_P D vwCl [mo h r 4 0, ((r 5), .inl (cB, 1200, .inl (g355)))] H := hP
  have hD : va_D A [mo h r 4 0, ((r 5), .inl (cB, 1200, .inl (g355)))] := hD
  refine lv_iinc (v := (-8)) (lv' := [(2, .int (-8)), (0, .ref h), (1, .int v)]) hx hb dX12_four_30 hl (k := 0) rfl (by decide) (by decide) rfl (fun ls hl => ?_)
  refine lv_goto (tgt := 3) hx hb dX12_four_33 (by decide) ?_
  refine lv_iload_n hx hb dX12_four_3 rfl (lv_at hl 0 rfl) ?_
  refine lv_if_lt (tgt := 36) hx hb dX12_four_4 (by decide) (fun _ => ?_) (fun hc => absurd hc (by decide))
  have hP9 := hP.sub (ws' := [mo h r 4 0, ((r 5), .inl (cB, 1200, .inl (g355)))]) [0, 1] rfl
  have hD9 := hD.sub (ws' := [mo h r 4 0, ((r 5), .inl (cB, 1200, .inl (g355)))]) [0, 1] (by decide) rfl
  exact W.vret hx hb hr (fun t ht hW => ⟨⟨g355, rfl, trivial, by rw [ht]; exact hP9, hD9⟩, hS.F ht⟩) hS.2.2 dX12_four_36
abbrev w_c_X12_four4 (cI cJ cB cZ cO : ClassId) (h : Nat) (r : Nat → Nat) (f : Nat → Int32) : va_W := [mo h r 4 0, ((r 5), .inl (cB, 1200, .inl (f)))]
set_option maxHeartbeats 4000000 in
set_option maxRecDepth 100000 in
/-- four bytes more -/
theorem c_X12_four4 (l : Launch) (D : va_G) (cI cJ cB cZ cO : ClassId) (h : Nat) (r : Nat → Nat) (f : Nat → Int32) (v : Int32) (sz : Nat) : Met l yX12_four wsX12_four ({ frames := 0, cells := 0, slots := 0, locals := 0 }) (va_Pc [.ref h, .int v] (ct_P D (ct_T cI cJ cB cZ cO) (w_c_X12_four4 cI cJ cB cZ cO h r f) sz)) (va_Qv (fun (u : Nat → Int32) => True) (fun (u : Nat → Int32) t => ct_Q D (va_A (w_c_X12_four4 cI cJ cB cZ cO h r f) sz) [mo h r 8 0, ((r 5), .inl (cB, 1200, .inl (u)))] t) (va_A (w_c_X12_four4 cI cJ cB cZ cO h r f) sz)) 0 0 (va_A (w_c_X12_four4 cI cJ cB cZ cO h r f) sz) := by
  refine Met.ofW (cc := cX12_four) (maxL := 3) (ret := none) (by decide) rfl ?_
  intro p e s m args below meth c s₁ B hml hv
  obtain ⟨rfl, hsz, hP, hE, hD0⟩ := hv
  have hx := B.exec
  have hb := B.bytes
  have hr := B.returns
  have hts := atoms_spec (ws := wsX12_four) B.pre
  have hown : s.vm.findClass RX12 = some m.cls := findClass_of_methodNamed B.named
  have hlocks := B.notSynchronized
  have hK := hE.1
  have hi12 : ∀ w ∈ u_ws RX12 TX12 45, w ∈ wsX12_four := fun w h => List.mem_cons_of_mem _ (List.mem_append_right _ h)
  subst hsz
  have hD := hD0.self (sz := s.heap.size)
  generalize hAe : va_A (w_c_X12_four4 cI cJ cB cZ cO h r f) s.heap.size = A at hD ⊢
  have hA : ∀ q : Nat, s.heap.size ≤ q → A q := fun q h => by rw [← hAe]; exact Or.inr h
  have hS : va_S A s.heap s.heap [] := va_S.rf
  have hP : va_P D vwCl [mo h r 4 0, ((r 5), .inl (cB, 1200, .inl (f)))] s.heap := hP
  have hD : va_D A [mo h r 4 0, ((r 5), .inl (cB, 1200, .inl (f)))] := hD
  have hl := lv_entry ([.ref h, .int v]) (n := 3) (Nat.le_of_ble_eq_true rfl)
  rw [lg_entry_eq]
  generalize (lg_sl ([.ref h, .int v]) ++ List.replicate (3 - (lg_sl ([.ref h, .int v])).length) Slot.unset).toArray = ls at hl ⊢
  have hl : lv_has ls 3 [(0, .ref h), (1, .int v)] := hl
  obtain ⟨H, hHe⟩ : ∃ H : Heap, H = s.heap := ⟨_, rfl⟩
  rw [← hHe] at hP
  have hS : va_S A s.heap H [] := by rw [hHe]; exact va_S.rf
  refine ct_start hHe ?_
  refine lv_bipush (v := 24) hx hb dX12_four_0 (by decide) ?_
  refine lv_istore_n (lv' := [(2, .int 24), (0, .ref h), (1, .int v)]) hx hb dX12_four_2 rfl hl (by decide) rfl (fun ls hl => ?_)
  refine lv_iload_n hx hb dX12_four_3 rfl (lv_at hl 0 rfl) ?_
  refine lv_if_lt (tgt := 36) hx hb dX12_four_4 (by decide) (fun hc => absurd hc (by decide)) (fun _ => ?_)
  refine lv_aload_n hx hb dX12_four_7 rfl (lv_at hl 1 rfl) ?_
  refine va_get (D := D) (ci := 12) (v := .ref (r 5)) (C := RX12) (T := TX12) (N := 45) hx hb hts hi12 hown hK hP 0 rfl rfl 5 (by decide) (hts (.fieldLink RX12 23 "OverHillModel" "tape" "[B") (by decide +kernel)) (fun _ h9 => h9) rfl dX12_four_8 ?_
  refine lv_aload_n hx hb dX12_four_11 rfl (lv_at hl 1 rfl) ?_
  refine va_get (D := D) (ci := 12) (v := .int 4) (C := RX12) (T := TX12) (N := 45) hx hb hts hi12 hown hK hP 0 rfl rfl 6 (by decide) (hts (.fieldLink RX12 97 "OverHillModel" "taped" "I") (by decide +kernel)) (fun _ h9 => h9) rfl dX12_four_12 ?_
  refine lv_iload_n hx hb dX12_four_15 rfl (lv_at hl 2 rfl) ?_
  refine lv_iload_n hx hb dX12_four_16 rfl (lv_at hl 0 rfl) ?_
  refine lv_ishr hx hb dX12_four_17 ?_
  refine lv_topi (fun z357 ez357 => ?_)
  refine lv_i2b (v := z357.toInt8.toInt32) hx hb dX12_four_18 rfl ?_
  refine lv_topi (fun z358 ez358 => ?_)
  refine va_bast (D := D) hx hb hK hP hD hS 1 2 rfl rfl (tq_in (a := 4) (by decide) (by omega)) dX12_four_19 (fun H locs hP hD hS => ?_)
  obtain ⟨g359, hP, hD⟩ : ∃ g359 : Nat → Int32, va_P D vwCl [mo h r 4 0, ((r 5), .inl (cB, 1200, .inl (g359)))] H ∧ va_D A [mo h r 4 0, ((r 5), .inl (cB, 1200, .inl (g359)))] := ⟨_, hP, hD⟩
  refine lv_aload_n hx hb dX12_four_20 rfl (lv_at hl 1 rfl) ?_
  refine lv_dup hx hb dX12_four_21 rfl ?_
  refine va_get (D := D) (ci := 12) (v := .int 4) (C := RX12) (T := TX12) (N := 45) hx hb hts hi12 hown hK hP 0 rfl rfl 6 (by decide) (hts (.fieldLink RX12 97 "OverHillModel" "taped" "I") (by decide +kernel)) (fun _ h9 => h9) rfl dX12_four_22 ?_
  refine lv_iconst (v := 1) hx hb dX12_four_25 (by decide) ?_
  refine lv_iadd hx hb dX12_four_26 ?_
  refine lv_topi (fun z360 ez360 => ?_)
  obtain rfl : z360 = 5 := ez360.trans (by decide)
  refine va_put (D := D) (ci := 12) (v := .int 5) (ty := .int) (C := RX12) (T := TX12) (N := 45) hx hb hts hi12 tyX12 tyX12_ok nmX12 hown hK hP hD hS 0 rfl rfl 6 (by decide) (hts (.fieldLink RX12 97 "OverHillModel" "taped" "I") (by decide +kernel)) (fun _ h9 => h9) rfl (by decide +kernel) rfl rfl (Nat.le_of_ble_eq_true rfl) dX12_four_27 (fun H locs hP hD hS => ?_)
  have hP : va_P D vwCl [mo h r 5 0, ((r 5), .inl (cB, 1200, .inl (g359)))] H := hP
  have hD : va_D A [mo h r 5 0, ((r 5), .inl (cB, 1200, .inl (g359)))] := hD
  refine lv_iinc (v := 16) (lv' := [(2, .int 16), (0, .ref h), (1, .int v)]) hx hb dX12_four_30 hl (k := 0) rfl (by decide) (by decide) rfl (fun ls hl => ?_)
  refine lv_goto (tgt := 3) hx hb dX12_four_33 (by decide) ?_
  refine lv_iload_n hx hb dX12_four_3 rfl (lv_at hl 0 rfl) ?_
  refine lv_if_lt (tgt := 36) hx hb dX12_four_4 (by decide) (fun hc => absurd hc (by decide)) (fun _ => ?_)
  refine lv_aload_n hx hb dX12_four_7 rfl (lv_at hl 1 rfl) ?_
  refine va_get (D := D) (ci := 12) (v := .ref (r 5)) (C := RX12) (T := TX12) (N := 45) hx hb hts hi12 hown hK hP 0 rfl rfl 5 (by decide) (hts (.fieldLink RX12 23 "OverHillModel" "tape" "[B") (by decide +kernel)) (fun _ h9 => h9) rfl dX12_four_8 ?_
  refine lv_aload_n hx hb dX12_four_11 rfl (lv_at hl 1 rfl) ?_
  refine va_get (D := D) (ci := 12) (v := .int 5) (C := RX12) (T := TX12) (N := 45) hx hb hts hi12 hown hK hP 0 rfl rfl 6 (by decide) (hts (.fieldLink RX12 97 "OverHillModel" "taped" "I") (by decide +kernel)) (fun _ h9 => h9) rfl dX12_four_12 ?_
  refine lv_iload_n hx hb dX12_four_15 rfl (lv_at hl 2 rfl) ?_
  refine lv_iload_n hx hb dX12_four_16 rfl (lv_at hl 0 rfl) ?_
  refine lv_ishr hx hb dX12_four_17 ?_
  refine lv_topi (fun z361 ez361 => ?_)
  refine lv_i2b (v := z361.toInt8.toInt32) hx hb dX12_four_18 rfl ?_
  refine lv_topi (fun z362 ez362 => ?_)
  refine va_bast (D := D) hx hb hK hP hD hS 1 2 rfl rfl (tq_in (a := 5) (by decide) (by omega)) dX12_four_19 (fun H locs hP hD hS => ?_)
  obtain ⟨g363, hP, hD⟩ : ∃ g363 : Nat → Int32, va_P D vwCl [mo h r 5 0, ((r 5), .inl (cB, 1200, .inl (g363)))] H ∧ va_D A [mo h r 5 0, ((r 5), .inl (cB, 1200, .inl (g363)))] := ⟨_, hP, hD⟩
  refine lv_aload_n hx hb dX12_four_20 rfl (lv_at hl 1 rfl) ?_
  refine lv_dup hx hb dX12_four_21 rfl ?_
  refine va_get (D := D) (ci := 12) (v := .int 5) (C := RX12) (T := TX12) (N := 45) hx hb hts hi12 hown hK hP 0 rfl rfl 6 (by decide) (hts (.fieldLink RX12 97 "OverHillModel" "taped" "I") (by decide +kernel)) (fun _ h9 => h9) rfl dX12_four_22 ?_
  refine lv_iconst (v := 1) hx hb dX12_four_25 (by decide) ?_
  refine lv_iadd hx hb dX12_four_26 ?_
  refine lv_topi (fun z364 ez364 => ?_)
  obtain rfl : z364 = 6 := ez364.trans (by decide)
  refine va_put (D := D) (ci := 12) (v := .int 6) (ty := .int) (C := RX12) (T := TX12) (N := 45) hx hb hts hi12 tyX12 tyX12_ok nmX12 hown hK hP hD hS 0 rfl rfl 6 (by decide) (hts (.fieldLink RX12 97 "OverHillModel" "taped" "I") (by decide +kernel)) (fun _ h9 => h9) rfl (by decide +kernel) rfl rfl (Nat.le_of_ble_eq_true rfl) dX12_four_27 (fun H locs hP hD hS => ?_)
  have hP : va_P D vwCl [mo h r 6 0, ((r 5), .inl (cB, 1200, .inl (g363)))] H := hP
  have hD : va_D A [mo h r 6 0, ((r 5), .inl (cB, 1200, .inl (g363)))] := hD
  refine lv_iinc (v := 8) (lv' := [(2, .int 8), (0, .ref h), (1, .int v)]) hx hb dX12_four_30 hl (k := 0) rfl (by decide) (by decide) rfl (fun ls hl => ?_)
  refine lv_goto (tgt := 3) hx hb dX12_four_33 (by decide) ?_
  refine lv_iload_n hx hb dX12_four_3 rfl (lv_at hl 0 rfl) ?_
  refine lv_if_lt (tgt := 36) hx hb dX12_four_4 (by decide) (fun hc => absurd hc (by decide)) (fun _ => ?_)
  refine lv_aload_n hx hb dX12_four_7 rfl (lv_at hl 1 rfl) ?_
  refine va_get (D := D) (ci := 12) (v := .ref (r 5)) (C := RX12) (T := TX12) (N := 45) hx hb hts hi12 hown hK hP 0 rfl rfl 5 (by decide) (hts (.fieldLink RX12 23 "OverHillModel" "tape" "[B") (by decide +kernel)) (fun _ h9 => h9) rfl dX12_four_8 ?_
  refine lv_aload_n hx hb dX12_four_11 rfl (lv_at hl 1 rfl) ?_
  refine va_get (D := D) (ci := 12) (v := .int 6) (C := RX12) (T := TX12) (N := 45) hx hb hts hi12 hown hK hP 0 rfl rfl 6 (by decide) (hts (.fieldLink RX12 97 "OverHillModel" "taped" "I") (by decide +kernel)) (fun _ h9 => h9) rfl dX12_four_12 ?_
  refine lv_iload_n hx hb dX12_four_15 rfl (lv_at hl 2 rfl) ?_
  refine lv_iload_n hx hb dX12_four_16 rfl (lv_at hl 0 rfl) ?_
  refine lv_ishr hx hb dX12_four_17 ?_
  refine lv_topi (fun z365 ez365 => ?_)
  refine lv_i2b (v := z365.toInt8.toInt32) hx hb dX12_four_18 rfl ?_
  refine lv_topi (fun z366 ez366 => ?_)
  refine va_bast (D := D) hx hb hK hP hD hS 1 2 rfl rfl (tq_in (a := 6) (by decide) (by omega)) dX12_four_19 (fun H locs hP hD hS => ?_)
  obtain ⟨g367, hP, hD⟩ : ∃ g367 : Nat → Int32, va_P D vwCl [mo h r 6 0, ((r 5), .inl (cB, 1200, .inl (g367)))] H ∧ va_D A [mo h r 6 0, ((r 5), .inl (cB, 1200, .inl (g367)))] := ⟨_, hP, hD⟩
  refine lv_aload_n hx hb dX12_four_20 rfl (lv_at hl 1 rfl) ?_
  refine lv_dup hx hb dX12_four_21 rfl ?_
  refine va_get (D := D) (ci := 12) (v := .int 6) (C := RX12) (T := TX12) (N := 45) hx hb hts hi12 hown hK hP 0 rfl rfl 6 (by decide) (hts (.fieldLink RX12 97 "OverHillModel" "taped" "I") (by decide +kernel)) (fun _ h9 => h9) rfl dX12_four_22 ?_
  refine lv_iconst (v := 1) hx hb dX12_four_25 (by decide) ?_
  refine lv_iadd hx hb dX12_four_26 ?_
  refine lv_topi (fun z368 ez368 => ?_)
  obtain rfl : z368 = 7 := ez368.trans (by decide)
  refine va_put (D := D) (ci := 12) (v := .int 7) (ty := .int) (C := RX12) (T := TX12) (N := 45) hx hb hts hi12 tyX12 tyX12_ok nmX12 hown hK hP hD hS 0 rfl rfl 6 (by decide) (hts (.fieldLink RX12 97 "OverHillModel" "taped" "I") (by decide +kernel)) (fun _ h9 => h9) rfl (by decide +kernel) rfl rfl (Nat.le_of_ble_eq_true rfl) dX12_four_27 (fun H locs hP hD hS => ?_)
  have hP : va_P D vwCl [mo h r 7 0, ((r 5), .inl (cB, 1200, .inl (g367)))] H := hP
  have hD : va_D A [mo h r 7 0, ((r 5), .inl (cB, 1200, .inl (g367)))] := hD
  refine lv_iinc (v := 0) (lv' := [(2, .int 0), (0, .ref h), (1, .int v)]) hx hb dX12_four_30 hl (k := 0) rfl (by decide) (by decide) rfl (fun ls hl => ?_)
  refine lv_goto (tgt := 3) hx hb dX12_four_33 (by decide) ?_
  refine lv_iload_n hx hb dX12_four_3 rfl (lv_at hl 0 rfl) ?_
  refine lv_if_lt (tgt := 36) hx hb dX12_four_4 (by decide) (fun hc => absurd hc (by decide)) (fun _ => ?_)
  refine lv_aload_n hx hb dX12_four_7 rfl (lv_at hl 1 rfl) ?_
  refine va_get (D := D) (ci := 12) (v := .ref (r 5)) (C := RX12) (T := TX12) (N := 45) hx hb hts hi12 hown hK hP 0 rfl rfl 5 (by decide) (hts (.fieldLink RX12 23 "OverHillModel" "tape" "[B") (by decide +kernel)) (fun _ h9 => h9) rfl dX12_four_8 ?_
  refine lv_aload_n hx hb dX12_four_11 rfl (lv_at hl 1 rfl) ?_
  refine va_get (D := D) (ci := 12) (v := .int 7) (C := RX12) (T := TX12) (N := 45) hx hb hts hi12 hown hK hP 0 rfl rfl 6 (by decide) (hts (.fieldLink RX12 97 "OverHillModel" "taped" "I") (by decide +kernel)) (fun _ h9 => h9) rfl dX12_four_12 ?_
  refine lv_iload_n hx hb dX12_four_15 rfl (lv_at hl 2 rfl) ?_
  refine lv_iload_n hx hb dX12_four_16 rfl (lv_at hl 0 rfl) ?_
  refine lv_ishr hx hb dX12_four_17 ?_
  refine lv_topi (fun z369 ez369 => ?_)
  refine lv_i2b (v := z369.toInt8.toInt32) hx hb dX12_four_18 rfl ?_
  refine lv_topi (fun z370 ez370 => ?_)
  refine va_bast (D := D) hx hb hK hP hD hS 1 2 rfl rfl (tq_in (a := 7) (by decide) (by omega)) dX12_four_19 (fun H locs hP hD hS => ?_)
  obtain ⟨g371, hP, hD⟩ : ∃ g371 : Nat → Int32, va_P D vwCl [mo h r 7 0, ((r 5), .inl (cB, 1200, .inl (g371)))] H ∧ va_D A [mo h r 7 0, ((r 5), .inl (cB, 1200, .inl (g371)))] := ⟨_, hP, hD⟩
  refine lv_aload_n hx hb dX12_four_20 rfl (lv_at hl 1 rfl) ?_
  refine lv_dup hx hb dX12_four_21 rfl ?_
  refine va_get (D := D) (ci := 12) (v := .int 7) (C := RX12) (T := TX12) (N := 45) hx hb hts hi12 hown hK hP 0 rfl rfl 6 (by decide) (hts (.fieldLink RX12 97 "OverHillModel" "taped" "I") (by decide +kernel)) (fun _ h9 => h9) rfl dX12_four_22 ?_
  refine lv_iconst (v := 1) hx hb dX12_four_25 (by decide) ?_
  refine lv_iadd hx hb dX12_four_26 ?_
  refine lv_topi (fun z372 ez372 => ?_)
  obtain rfl : z372 = 8 := ez372.trans (by decide)
  refine va_put (D := D) (ci := 12) (v := .int 8) (ty := .int) (C := RX12) (T := TX12) (N := 45) hx hb hts hi12 tyX12 tyX12_ok nmX12 hown hK hP hD hS 0 rfl rfl 6 (by decide) (hts (.fieldLink RX12 97 "OverHillModel" "taped" "I") (by decide +kernel)) (fun _ h9 => h9) rfl (by decide +kernel) rfl rfl (Nat.le_of_ble_eq_true rfl) dX12_four_27 (fun H locs hP hD hS => ?_)
  have hP : va_P D vwCl [mo h r 8 0, ((r 5), .inl (cB, 1200, .inl (g371)))] H := hP
  have hD : va_D A [mo h r 8 0, ((r 5), .inl (cB, 1200, .inl (g371)))] := hD
  refine lv_iinc (v := (-8)) (lv' := [(2, .int (-8)), (0, .ref h), (1, .int v)]) hx hb dX12_four_30 hl (k := 0) rfl (by decide) (by decide) rfl (fun ls hl => ?_)
  refine lv_goto (tgt := 3) hx hb dX12_four_33 (by decide) ?_
  refine lv_iload_n hx hb dX12_four_3 rfl (lv_at hl 0 rfl) ?_
  refine lv_if_lt (tgt := 36) hx hb dX12_four_4 (by decide) (fun _ => ?_) (fun hc => absurd hc (by decide))
  have hP9 := hP.sub (ws' := [mo h r 8 0, ((r 5), .inl (cB, 1200, .inl (g371)))]) [0, 1] rfl
  have hD9 := hD.sub (ws' := [mo h r 8 0, ((r 5), .inl (cB, 1200, .inl (g371)))]) [0, 1] (by decide) rfl
  exact W.vret hx hb hr (fun t ht hW => ⟨⟨g371, rfl, trivial, by rw [ht]; exact hP9, hD9⟩, hS.F ht⟩) hS.2.2 dX12_four_36
abbrev w_c_X12_four8 (cI cJ cB cZ cO : ClassId) (h : Nat) (r : Nat → Nat) (f : Nat → Int32) : va_W := [mo h r 8 0, ((r 5), .inl (cB, 1200, .inl (f)))]
set_option maxHeartbeats 4000000 in
set_option maxRecDepth 100000 in
/-- four bytes more -/
theorem c_X12_four8 (l : Launch) (D : va_G) (cI cJ cB cZ cO : ClassId) (h : Nat) (r : Nat → Nat) (f : Nat → Int32) (v : Int32) (sz : Nat) : Met l yX12_four wsX12_four ({ frames := 0, cells := 0, slots := 0, locals := 0 }) (va_Pc [.ref h, .int v] (ct_P D (ct_T cI cJ cB cZ cO) (w_c_X12_four8 cI cJ cB cZ cO h r f) sz)) (va_Qv (fun (u : Nat → Int32) => True) (fun (u : Nat → Int32) t => ct_Q D (va_A (w_c_X12_four8 cI cJ cB cZ cO h r f) sz) [mo h r 12 0, ((r 5), .inl (cB, 1200, .inl (u)))] t) (va_A (w_c_X12_four8 cI cJ cB cZ cO h r f) sz)) 0 0 (va_A (w_c_X12_four8 cI cJ cB cZ cO h r f) sz) := by
  refine Met.ofW (cc := cX12_four) (maxL := 3) (ret := none) (by decide) rfl ?_
  intro p e s m args below meth c s₁ B hml hv
  obtain ⟨rfl, hsz, hP, hE, hD0⟩ := hv
  have hx := B.exec
  have hb := B.bytes
  have hr := B.returns
  have hts := atoms_spec (ws := wsX12_four) B.pre
  have hown : s.vm.findClass RX12 = some m.cls := findClass_of_methodNamed B.named
  have hlocks := B.notSynchronized
  have hK := hE.1
  have hi12 : ∀ w ∈ u_ws RX12 TX12 45, w ∈ wsX12_four := fun w h => List.mem_cons_of_mem _ (List.mem_append_right _ h)
  subst hsz
  have hD := hD0.self (sz := s.heap.size)
  generalize hAe : va_A (w_c_X12_four8 cI cJ cB cZ cO h r f) s.heap.size = A at hD ⊢
  have hA : ∀ q : Nat, s.heap.size ≤ q → A q := fun q h => by rw [← hAe]; exact Or.inr h
  have hS : va_S A s.heap s.heap [] := va_S.rf
  have hP : va_P D vwCl [mo h r 8 0, ((r 5), .inl (cB, 1200, .inl (f)))] s.heap := hP
  have hD : va_D A [mo h r 8 0, ((r 5), .inl (cB, 1200, .inl (f)))] := hD
  have hl := lv_entry ([.ref h, .int v]) (n := 3) (Nat.le_of_ble_eq_true rfl)
  rw [lg_entry_eq]
  generalize (lg_sl ([.ref h, .int v]) ++ List.replicate (3 - (lg_sl ([.ref h, .int v])).length) Slot.unset).toArray = ls at hl ⊢
  have hl : lv_has ls 3 [(0, .ref h), (1, .int v)] := hl
  obtain ⟨H, hHe⟩ : ∃ H : Heap, H = s.heap := ⟨_, rfl⟩
  rw [← hHe] at hP
  have hS : va_S A s.heap H [] := by rw [hHe]; exact va_S.rf
  refine ct_start hHe ?_
  refine lv_bipush (v := 24) hx hb dX12_four_0 (by decide) ?_
  refine lv_istore_n (lv' := [(2, .int 24), (0, .ref h), (1, .int v)]) hx hb dX12_four_2 rfl hl (by decide) rfl (fun ls hl => ?_)
  refine lv_iload_n hx hb dX12_four_3 rfl (lv_at hl 0 rfl) ?_
  refine lv_if_lt (tgt := 36) hx hb dX12_four_4 (by decide) (fun hc => absurd hc (by decide)) (fun _ => ?_)
  refine lv_aload_n hx hb dX12_four_7 rfl (lv_at hl 1 rfl) ?_
  refine va_get (D := D) (ci := 12) (v := .ref (r 5)) (C := RX12) (T := TX12) (N := 45) hx hb hts hi12 hown hK hP 0 rfl rfl 5 (by decide) (hts (.fieldLink RX12 23 "OverHillModel" "tape" "[B") (by decide +kernel)) (fun _ h9 => h9) rfl dX12_four_8 ?_
  refine lv_aload_n hx hb dX12_four_11 rfl (lv_at hl 1 rfl) ?_
  refine va_get (D := D) (ci := 12) (v := .int 8) (C := RX12) (T := TX12) (N := 45) hx hb hts hi12 hown hK hP 0 rfl rfl 6 (by decide) (hts (.fieldLink RX12 97 "OverHillModel" "taped" "I") (by decide +kernel)) (fun _ h9 => h9) rfl dX12_four_12 ?_
  refine lv_iload_n hx hb dX12_four_15 rfl (lv_at hl 2 rfl) ?_
  refine lv_iload_n hx hb dX12_four_16 rfl (lv_at hl 0 rfl) ?_
  refine lv_ishr hx hb dX12_four_17 ?_
  refine lv_topi (fun z373 ez373 => ?_)
  refine lv_i2b (v := z373.toInt8.toInt32) hx hb dX12_four_18 rfl ?_
  refine lv_topi (fun z374 ez374 => ?_)
  refine va_bast (D := D) hx hb hK hP hD hS 1 2 rfl rfl (tq_in (a := 8) (by decide) (by omega)) dX12_four_19 (fun H locs hP hD hS => ?_)
  obtain ⟨g375, hP, hD⟩ : ∃ g375 : Nat → Int32, va_P D vwCl [mo h r 8 0, ((r 5), .inl (cB, 1200, .inl (g375)))] H ∧ va_D A [mo h r 8 0, ((r 5), .inl (cB, 1200, .inl (g375)))] := ⟨_, hP, hD⟩
  refine lv_aload_n hx hb dX12_four_20 rfl (lv_at hl 1 rfl) ?_
  refine lv_dup hx hb dX12_four_21 rfl ?_
  refine va_get (D := D) (ci := 12) (v := .int 8) (C := RX12) (T := TX12) (N := 45) hx hb hts hi12 hown hK hP 0 rfl rfl 6 (by decide) (hts (.fieldLink RX12 97 "OverHillModel" "taped" "I") (by decide +kernel)) (fun _ h9 => h9) rfl dX12_four_22 ?_
  refine lv_iconst (v := 1) hx hb dX12_four_25 (by decide) ?_
  refine lv_iadd hx hb dX12_four_26 ?_
  refine lv_topi (fun z376 ez376 => ?_)
  obtain rfl : z376 = 9 := ez376.trans (by decide)
  refine va_put (D := D) (ci := 12) (v := .int 9) (ty := .int) (C := RX12) (T := TX12) (N := 45) hx hb hts hi12 tyX12 tyX12_ok nmX12 hown hK hP hD hS 0 rfl rfl 6 (by decide) (hts (.fieldLink RX12 97 "OverHillModel" "taped" "I") (by decide +kernel)) (fun _ h9 => h9) rfl (by decide +kernel) rfl rfl (Nat.le_of_ble_eq_true rfl) dX12_four_27 (fun H locs hP hD hS => ?_)
  have hP : va_P D vwCl [mo h r 9 0, ((r 5), .inl (cB, 1200, .inl (g375)))] H := hP
  have hD : va_D A [mo h r 9 0, ((r 5), .inl (cB, 1200, .inl (g375)))] := hD
  refine lv_iinc (v := 16) (lv' := [(2, .int 16), (0, .ref h), (1, .int v)]) hx hb dX12_four_30 hl (k := 0) rfl (by decide) (by decide) rfl (fun ls hl => ?_)
  refine lv_goto (tgt := 3) hx hb dX12_four_33 (by decide) ?_
  refine lv_iload_n hx hb dX12_four_3 rfl (lv_at hl 0 rfl) ?_
  refine lv_if_lt (tgt := 36) hx hb dX12_four_4 (by decide) (fun hc => absurd hc (by decide)) (fun _ => ?_)
  refine lv_aload_n hx hb dX12_four_7 rfl (lv_at hl 1 rfl) ?_
  refine va_get (D := D) (ci := 12) (v := .ref (r 5)) (C := RX12) (T := TX12) (N := 45) hx hb hts hi12 hown hK hP 0 rfl rfl 5 (by decide) (hts (.fieldLink RX12 23 "OverHillModel" "tape" "[B") (by decide +kernel)) (fun _ h9 => h9) rfl dX12_four_8 ?_
  refine lv_aload_n hx hb dX12_four_11 rfl (lv_at hl 1 rfl) ?_
  refine va_get (D := D) (ci := 12) (v := .int 9) (C := RX12) (T := TX12) (N := 45) hx hb hts hi12 hown hK hP 0 rfl rfl 6 (by decide) (hts (.fieldLink RX12 97 "OverHillModel" "taped" "I") (by decide +kernel)) (fun _ h9 => h9) rfl dX12_four_12 ?_
  refine lv_iload_n hx hb dX12_four_15 rfl (lv_at hl 2 rfl) ?_
  refine lv_iload_n hx hb dX12_four_16 rfl (lv_at hl 0 rfl) ?_
  refine lv_ishr hx hb dX12_four_17 ?_
  refine lv_topi (fun z377 ez377 => ?_)
  refine lv_i2b (v := z377.toInt8.toInt32) hx hb dX12_four_18 rfl ?_
  refine lv_topi (fun z378 ez378 => ?_)
  refine va_bast (D := D) hx hb hK hP hD hS 1 2 rfl rfl (tq_in (a := 9) (by decide) (by omega)) dX12_four_19 (fun H locs hP hD hS => ?_)
  obtain ⟨g379, hP, hD⟩ : ∃ g379 : Nat → Int32, va_P D vwCl [mo h r 9 0, ((r 5), .inl (cB, 1200, .inl (g379)))] H ∧ va_D A [mo h r 9 0, ((r 5), .inl (cB, 1200, .inl (g379)))] := ⟨_, hP, hD⟩
  refine lv_aload_n hx hb dX12_four_20 rfl (lv_at hl 1 rfl) ?_
  refine lv_dup hx hb dX12_four_21 rfl ?_
  refine va_get (D := D) (ci := 12) (v := .int 9) (C := RX12) (T := TX12) (N := 45) hx hb hts hi12 hown hK hP 0 rfl rfl 6 (by decide) (hts (.fieldLink RX12 97 "OverHillModel" "taped" "I") (by decide +kernel)) (fun _ h9 => h9) rfl dX12_four_22 ?_
  refine lv_iconst (v := 1) hx hb dX12_four_25 (by decide) ?_
  refine lv_iadd hx hb dX12_four_26 ?_
  refine lv_topi (fun z380 ez380 => ?_)
  obtain rfl : z380 = 10 := ez380.trans (by decide)
  refine va_put (D := D) (ci := 12) (v := .int 10) (ty := .int) (C := RX12) (T := TX12) (N := 45) hx hb hts hi12 tyX12 tyX12_ok nmX12 hown hK hP hD hS 0 rfl rfl 6 (by decide) (hts (.fieldLink RX12 97 "OverHillModel" "taped" "I") (by decide +kernel)) (fun _ h9 => h9) rfl (by decide +kernel) rfl rfl (Nat.le_of_ble_eq_true rfl) dX12_four_27 (fun H locs hP hD hS => ?_)
  have hP : va_P D vwCl [mo h r 10 0, ((r 5), .inl (cB, 1200, .inl (g379)))] H := hP
  have hD : va_D A [mo h r 10 0, ((r 5), .inl (cB, 1200, .inl (g379)))] := hD
  refine lv_iinc (v := 8) (lv' := [(2, .int 8), (0, .ref h), (1, .int v)]) hx hb dX12_four_30 hl (k := 0) rfl (by decide) (by decide) rfl (fun ls hl => ?_)
  refine lv_goto (tgt := 3) hx hb dX12_four_33 (by decide) ?_
  refine lv_iload_n hx hb dX12_four_3 rfl (lv_at hl 0 rfl) ?_
  refine lv_if_lt (tgt := 36) hx hb dX12_four_4 (by decide) (fun hc => absurd hc (by decide)) (fun _ => ?_)
  refine lv_aload_n hx hb dX12_four_7 rfl (lv_at hl 1 rfl) ?_
  refine va_get (D := D) (ci := 12) (v := .ref (r 5)) (C := RX12) (T := TX12) (N := 45) hx hb hts hi12 hown hK hP 0 rfl rfl 5 (by decide) (hts (.fieldLink RX12 23 "OverHillModel" "tape" "[B") (by decide +kernel)) (fun _ h9 => h9) rfl dX12_four_8 ?_
  refine lv_aload_n hx hb dX12_four_11 rfl (lv_at hl 1 rfl) ?_
  refine va_get (D := D) (ci := 12) (v := .int 10) (C := RX12) (T := TX12) (N := 45) hx hb hts hi12 hown hK hP 0 rfl rfl 6 (by decide) (hts (.fieldLink RX12 97 "OverHillModel" "taped" "I") (by decide +kernel)) (fun _ h9 => h9) rfl dX12_four_12 ?_
  refine lv_iload_n hx hb dX12_four_15 rfl (lv_at hl 2 rfl) ?_
  refine lv_iload_n hx hb dX12_four_16 rfl (lv_at hl 0 rfl) ?_
  refine lv_ishr hx hb dX12_four_17 ?_
  refine lv_topi (fun z381 ez381 => ?_)
  refine lv_i2b (v := z381.toInt8.toInt32) hx hb dX12_four_18 rfl ?_
  refine lv_topi (fun z382 ez382 => ?_)
  refine va_bast (D := D) hx hb hK hP hD hS 1 2 rfl rfl (tq_in (a := 10) (by decide) (by omega)) dX12_four_19 (fun H locs hP hD hS => ?_)
  obtain ⟨g383, hP, hD⟩ : ∃ g383 : Nat → Int32, va_P D vwCl [mo h r 10 0, ((r 5), .inl (cB, 1200, .inl (g383)))] H ∧ va_D A [mo h r 10 0, ((r 5), .inl (cB, 1200, .inl (g383)))] := ⟨_, hP, hD⟩
  refine lv_aload_n hx hb dX12_four_20 rfl (lv_at hl 1 rfl) ?_
  refine lv_dup hx hb dX12_four_21 rfl ?_
  refine va_get (D := D) (ci := 12) (v := .int 10) (C := RX12) (T := TX12) (N := 45) hx hb hts hi12 hown hK hP 0 rfl rfl 6 (by decide) (hts (.fieldLink RX12 97 "OverHillModel" "taped" "I") (by decide +kernel)) (fun _ h9 => h9) rfl dX12_four_22 ?_
  refine lv_iconst (v := 1) hx hb dX12_four_25 (by decide) ?_
  refine lv_iadd hx hb dX12_four_26 ?_
  refine lv_topi (fun z384 ez384 => ?_)
  obtain rfl : z384 = 11 := ez384.trans (by decide)
  refine va_put (D := D) (ci := 12) (v := .int 11) (ty := .int) (C := RX12) (T := TX12) (N := 45) hx hb hts hi12 tyX12 tyX12_ok nmX12 hown hK hP hD hS 0 rfl rfl 6 (by decide) (hts (.fieldLink RX12 97 "OverHillModel" "taped" "I") (by decide +kernel)) (fun _ h9 => h9) rfl (by decide +kernel) rfl rfl (Nat.le_of_ble_eq_true rfl) dX12_four_27 (fun H locs hP hD hS => ?_)
  have hP : va_P D vwCl [mo h r 11 0, ((r 5), .inl (cB, 1200, .inl (g383)))] H := hP
  have hD : va_D A [mo h r 11 0, ((r 5), .inl (cB, 1200, .inl (g383)))] := hD
  refine lv_iinc (v := 0) (lv' := [(2, .int 0), (0, .ref h), (1, .int v)]) hx hb dX12_four_30 hl (k := 0) rfl (by decide) (by decide) rfl (fun ls hl => ?_)
  refine lv_goto (tgt := 3) hx hb dX12_four_33 (by decide) ?_
  refine lv_iload_n hx hb dX12_four_3 rfl (lv_at hl 0 rfl) ?_
  refine lv_if_lt (tgt := 36) hx hb dX12_four_4 (by decide) (fun hc => absurd hc (by decide)) (fun _ => ?_)
  refine lv_aload_n hx hb dX12_four_7 rfl (lv_at hl 1 rfl) ?_
  refine va_get (D := D) (ci := 12) (v := .ref (r 5)) (C := RX12) (T := TX12) (N := 45) hx hb hts hi12 hown hK hP 0 rfl rfl 5 (by decide) (hts (.fieldLink RX12 23 "OverHillModel" "tape" "[B") (by decide +kernel)) (fun _ h9 => h9) rfl dX12_four_8 ?_
  refine lv_aload_n hx hb dX12_four_11 rfl (lv_at hl 1 rfl) ?_
  refine va_get (D := D) (ci := 12) (v := .int 11) (C := RX12) (T := TX12) (N := 45) hx hb hts hi12 hown hK hP 0 rfl rfl 6 (by decide) (hts (.fieldLink RX12 97 "OverHillModel" "taped" "I") (by decide +kernel)) (fun _ h9 => h9) rfl dX12_four_12 ?_
  refine lv_iload_n hx hb dX12_four_15 rfl (lv_at hl 2 rfl) ?_
  refine lv_iload_n hx hb dX12_four_16 rfl (lv_at hl 0 rfl) ?_
  refine lv_ishr hx hb dX12_four_17 ?_
  refine lv_topi (fun z385 ez385 => ?_)
  refine lv_i2b (v := z385.toInt8.toInt32) hx hb dX12_four_18 rfl ?_
  refine lv_topi (fun z386 ez386 => ?_)
  refine va_bast (D := D) hx hb hK hP hD hS 1 2 rfl rfl (tq_in (a := 11) (by decide) (by omega)) dX12_four_19 (fun H locs hP hD hS => ?_)
  obtain ⟨g387, hP, hD⟩ : ∃ g387 : Nat → Int32, va_P D vwCl [mo h r 11 0, ((r 5), .inl (cB, 1200, .inl (g387)))] H ∧ va_D A [mo h r 11 0, ((r 5), .inl (cB, 1200, .inl (g387)))] := ⟨_, hP, hD⟩
  refine lv_aload_n hx hb dX12_four_20 rfl (lv_at hl 1 rfl) ?_
  refine lv_dup hx hb dX12_four_21 rfl ?_
  refine va_get (D := D) (ci := 12) (v := .int 11) (C := RX12) (T := TX12) (N := 45) hx hb hts hi12 hown hK hP 0 rfl rfl 6 (by decide) (hts (.fieldLink RX12 97 "OverHillModel" "taped" "I") (by decide +kernel)) (fun _ h9 => h9) rfl dX12_four_22 ?_
  refine lv_iconst (v := 1) hx hb dX12_four_25 (by decide) ?_
  refine lv_iadd hx hb dX12_four_26 ?_
  refine lv_topi (fun z388 ez388 => ?_)
  obtain rfl : z388 = 12 := ez388.trans (by decide)
  refine va_put (D := D) (ci := 12) (v := .int 12) (ty := .int) (C := RX12) (T := TX12) (N := 45) hx hb hts hi12 tyX12 tyX12_ok nmX12 hown hK hP hD hS 0 rfl rfl 6 (by decide) (hts (.fieldLink RX12 97 "OverHillModel" "taped" "I") (by decide +kernel)) (fun _ h9 => h9) rfl (by decide +kernel) rfl rfl (Nat.le_of_ble_eq_true rfl) dX12_four_27 (fun H locs hP hD hS => ?_)
  have hP : va_P D vwCl [mo h r 12 0, ((r 5), .inl (cB, 1200, .inl (g387)))] H := hP
  have hD : va_D A [mo h r 12 0, ((r 5), .inl (cB, 1200, .inl (g387)))] := hD
  refine lv_iinc (v := (-8)) (lv' := [(2, .int (-8)), (0, .ref h), (1, .int v)]) hx hb dX12_four_30 hl (k := 0) rfl (by decide) (by decide) rfl (fun ls hl => ?_)
  refine lv_goto (tgt := 3) hx hb dX12_four_33 (by decide) ?_
  refine lv_iload_n hx hb dX12_four_3 rfl (lv_at hl 0 rfl) ?_
  refine lv_if_lt (tgt := 36) hx hb dX12_four_4 (by decide) (fun _ => ?_) (fun hc => absurd hc (by decide))
  have hP9 := hP.sub (ws' := [mo h r 12 0, ((r 5), .inl (cB, 1200, .inl (g387)))]) [0, 1] rfl
  have hD9 := hD.sub (ws' := [mo h r 12 0, ((r 5), .inl (cB, 1200, .inl (g387)))]) [0, 1] (by decide) rfl
  exact W.vret hx hb hr (fun t ht hW => ⟨⟨g387, rfl, trivial, by rw [ht]; exact hP9, hD9⟩, hS.F ht⟩) hS.2.2 dX12_four_36
abbrev w_c_X12_four12 (cI cJ cB cZ cO : ClassId) (h : Nat) (r : Nat → Nat) (f : Nat → Int32) : va_W := [mo h r 12 0, ((r 5), .inl (cB, 1200, .inl (f)))]
set_option maxHeartbeats 4000000 in
set_option maxRecDepth 100000 in
/-- four bytes more -/
theorem c_X12_four12 (l : Launch) (D : va_G) (cI cJ cB cZ cO : ClassId) (h : Nat) (r : Nat → Nat) (f : Nat → Int32) (v : Int32) (sz : Nat) : Met l yX12_four wsX12_four ({ frames := 0, cells := 0, slots := 0, locals := 0 }) (va_Pc [.ref h, .int v] (ct_P D (ct_T cI cJ cB cZ cO) (w_c_X12_four12 cI cJ cB cZ cO h r f) sz)) (va_Qv (fun (u : Nat → Int32) => True) (fun (u : Nat → Int32) t => ct_Q D (va_A (w_c_X12_four12 cI cJ cB cZ cO h r f) sz) [mo h r 16 0, ((r 5), .inl (cB, 1200, .inl (u)))] t) (va_A (w_c_X12_four12 cI cJ cB cZ cO h r f) sz)) 0 0 (va_A (w_c_X12_four12 cI cJ cB cZ cO h r f) sz) := by
  refine Met.ofW (cc := cX12_four) (maxL := 3) (ret := none) (by decide) rfl ?_
  intro p e s m args below meth c s₁ B hml hv
  obtain ⟨rfl, hsz, hP, hE, hD0⟩ := hv
  have hx := B.exec
  have hb := B.bytes
  have hr := B.returns
  have hts := atoms_spec (ws := wsX12_four) B.pre
  have hown : s.vm.findClass RX12 = some m.cls := findClass_of_methodNamed B.named
  have hlocks := B.notSynchronized
  have hK := hE.1
  have hi12 : ∀ w ∈ u_ws RX12 TX12 45, w ∈ wsX12_four := fun w h => List.mem_cons_of_mem _ (List.mem_append_right _ h)
  subst hsz
  have hD := hD0.self (sz := s.heap.size)
  generalize hAe : va_A (w_c_X12_four12 cI cJ cB cZ cO h r f) s.heap.size = A at hD ⊢
  have hA : ∀ q : Nat, s.heap.size ≤ q → A q := fun q h => by rw [← hAe]; exact Or.inr h
  have hS : va_S A s.heap s.heap [] := va_S.rf
  have hP : va_P D vwCl [mo h r 12 0, ((r 5), .inl (cB, 1200, .inl (f)))] s.heap := hP
  have hD : va_D A [mo h r 12 0, ((r 5), .inl (cB, 1200, .inl (f)))] := hD
  have hl := lv_entry ([.ref h, .int v]) (n := 3) (Nat.le_of_ble_eq_true rfl)
  rw [lg_entry_eq]
  generalize (lg_sl ([.ref h, .int v]) ++ List.replicate (3 - (lg_sl ([.ref h, .int v])).length) Slot.unset).toArray = ls at hl ⊢
  have hl : lv_has ls 3 [(0, .ref h), (1, .int v)] := hl
  obtain ⟨H, hHe⟩ : ∃ H : Heap, H = s.heap := ⟨_, rfl⟩
  rw [← hHe] at hP
  have hS : va_S A s.heap H [] := by rw [hHe]; exact va_S.rf
  refine ct_start hHe ?_
  refine lv_bipush (v := 24) hx hb dX12_four_0 (by decide) ?_
  refine lv_istore_n (lv' := [(2, .int 24), (0, .ref h), (1, .int v)]) hx hb dX12_four_2 rfl hl (by decide) rfl (fun ls hl => ?_)
  refine lv_iload_n hx hb dX12_four_3 rfl (lv_at hl 0 rfl) ?_
  refine lv_if_lt (tgt := 36) hx hb dX12_four_4 (by decide) (fun hc => absurd hc (by decide)) (fun _ => ?_)
  refine lv_aload_n hx hb dX12_four_7 rfl (lv_at hl 1 rfl) ?_
  refine va_get (D := D) (ci := 12) (v := .ref (r 5)) (C := RX12) (T := TX12) (N := 45) hx hb hts hi12 hown hK hP 0 rfl rfl 5 (by decide) (hts (.fieldLink RX12 23 "OverHillModel" "tape" "[B") (by decide +kernel)) (fun _ h9 => h9) rfl dX12_four_8 ?_
  refine lv_aload_n hx hb dX12_four_11 rfl (lv_at hl 1 rfl) ?_
  refine va_get (D := D) (ci := 12) (v := .int 12) (C := RX12) (T := TX12) (N := 45) hx hb hts hi12 hown hK hP 0 rfl rfl 6 (by decide) (hts (.fieldLink RX12 97 "OverHillModel" "taped" "I") (by decide +kernel)) (fun _ h9 => h9) rfl dX12_four_12 ?_
  refine lv_iload_n hx hb dX12_four_15 rfl (lv_at hl 2 rfl) ?_
  refine lv_iload_n hx hb dX12_four_16 rfl (lv_at hl 0 rfl) ?_
  refine lv_ishr hx hb dX12_four_17 ?_
  refine lv_topi (fun z389 ez389 => ?_)
  refine lv_i2b (v := z389.toInt8.toInt32) hx hb dX12_four_18 rfl ?_
  refine lv_topi (fun z390 ez390 => ?_)
  refine va_bast (D := D) hx hb hK hP hD hS 1 2 rfl rfl (tq_in (a := 12) (by decide) (by omega)) dX12_four_19 (fun H locs hP hD hS => ?_)
  obtain ⟨g391, hP, hD⟩ : ∃ g391 : Nat → Int32, va_P D vwCl [mo h r 12 0, ((r 5), .inl (cB, 1200, .inl (g391)))] H ∧ va_D A [mo h r 12 0, ((r 5), .inl (cB, 1200, .inl (g391)))] := ⟨_, hP, hD⟩
  refine lv_aload_n hx hb dX12_four_20 rfl (lv_at hl 1 rfl) ?_
  refine lv_dup hx hb dX12_four_21 rfl ?_
  refine va_get (D := D) (ci := 12) (v := .int 12) (C := RX12) (T := TX12) (N := 45) hx hb hts hi12 hown hK hP 0 rfl rfl 6 (by decide) (hts (.fieldLink RX12 97 "OverHillModel" "taped" "I") (by decide +kernel)) (fun _ h9 => h9) rfl dX12_four_22 ?_
  refine lv_iconst (v := 1) hx hb dX12_four_25 (by decide) ?_
  refine lv_iadd hx hb dX12_four_26 ?_
  refine lv_topi (fun z392 ez392 => ?_)
  obtain rfl : z392 = 13 := ez392.trans (by decide)
  refine va_put (D := D) (ci := 12) (v := .int 13) (ty := .int) (C := RX12) (T := TX12) (N := 45) hx hb hts hi12 tyX12 tyX12_ok nmX12 hown hK hP hD hS 0 rfl rfl 6 (by decide) (hts (.fieldLink RX12 97 "OverHillModel" "taped" "I") (by decide +kernel)) (fun _ h9 => h9) rfl (by decide +kernel) rfl rfl (Nat.le_of_ble_eq_true rfl) dX12_four_27 (fun H locs hP hD hS => ?_)
  have hP : va_P D vwCl [mo h r 13 0, ((r 5), .inl (cB, 1200, .inl (g391)))] H := hP
  have hD : va_D A [mo h r 13 0, ((r 5), .inl (cB, 1200, .inl (g391)))] := hD
  refine lv_iinc (v := 16) (lv' := [(2, .int 16), (0, .ref h), (1, .int v)]) hx hb dX12_four_30 hl (k := 0) rfl (by decide) (by decide) rfl (fun ls hl => ?_)
  refine lv_goto (tgt := 3) hx hb dX12_four_33 (by decide) ?_
  refine lv_iload_n hx hb dX12_four_3 rfl (lv_at hl 0 rfl) ?_
  refine lv_if_lt (tgt := 36) hx hb dX12_four_4 (by decide) (fun hc => absurd hc (by decide)) (fun _ => ?_)
  refine lv_aload_n hx hb dX12_four_7 rfl (lv_at hl 1 rfl) ?_
  refine va_get (D := D) (ci := 12) (v := .ref (r 5)) (C := RX12) (T := TX12) (N := 45) hx hb hts hi12 hown hK hP 0 rfl rfl 5 (by decide) (hts (.fieldLink RX12 23 "OverHillModel" "tape" "[B") (by decide +kernel)) (fun _ h9 => h9) rfl dX12_four_8 ?_
  refine lv_aload_n hx hb dX12_four_11 rfl (lv_at hl 1 rfl) ?_
  refine va_get (D := D) (ci := 12) (v := .int 13) (C := RX12) (T := TX12) (N := 45) hx hb hts hi12 hown hK hP 0 rfl rfl 6 (by decide) (hts (.fieldLink RX12 97 "OverHillModel" "taped" "I") (by decide +kernel)) (fun _ h9 => h9) rfl dX12_four_12 ?_
  refine lv_iload_n hx hb dX12_four_15 rfl (lv_at hl 2 rfl) ?_
  refine lv_iload_n hx hb dX12_four_16 rfl (lv_at hl 0 rfl) ?_
  refine lv_ishr hx hb dX12_four_17 ?_
  refine lv_topi (fun z393 ez393 => ?_)
  refine lv_i2b (v := z393.toInt8.toInt32) hx hb dX12_four_18 rfl ?_
  refine lv_topi (fun z394 ez394 => ?_)
  refine va_bast (D := D) hx hb hK hP hD hS 1 2 rfl rfl (tq_in (a := 13) (by decide) (by omega)) dX12_four_19 (fun H locs hP hD hS => ?_)
  obtain ⟨g395, hP, hD⟩ : ∃ g395 : Nat → Int32, va_P D vwCl [mo h r 13 0, ((r 5), .inl (cB, 1200, .inl (g395)))] H ∧ va_D A [mo h r 13 0, ((r 5), .inl (cB, 1200, .inl (g395)))] := ⟨_, hP, hD⟩
  refine lv_aload_n hx hb dX12_four_20 rfl (lv_at hl 1 rfl) ?_
  refine lv_dup hx hb dX12_four_21 rfl ?_
  refine va_get (D := D) (ci := 12) (v := .int 13) (C := RX12) (T := TX12) (N := 45) hx hb hts hi12 hown hK hP 0 rfl rfl 6 (by decide) (hts (.fieldLink RX12 97 "OverHillModel" "taped" "I") (by decide +kernel)) (fun _ h9 => h9) rfl dX12_four_22 ?_
  refine lv_iconst (v := 1) hx hb dX12_four_25 (by decide) ?_
  refine lv_iadd hx hb dX12_four_26 ?_
  refine lv_topi (fun z396 ez396 => ?_)
  obtain rfl : z396 = 14 := ez396.trans (by decide)
  refine va_put (D := D) (ci := 12) (v := .int 14) (ty := .int) (C := RX12) (T := TX12) (N := 45) hx hb hts hi12 tyX12 tyX12_ok nmX12 hown hK hP hD hS 0 rfl rfl 6 (by decide) (hts (.fieldLink RX12 97 "OverHillModel" "taped" "I") (by decide +kernel)) (fun _ h9 => h9) rfl (by decide +kernel) rfl rfl (Nat.le_of_ble_eq_true rfl) dX12_four_27 (fun H locs hP hD hS => ?_)
  have hP : va_P D vwCl [mo h r 14 0, ((r 5), .inl (cB, 1200, .inl (g395)))] H := hP
  have hD : va_D A [mo h r 14 0, ((r 5), .inl (cB, 1200, .inl (g395)))] := hD
  refine lv_iinc (v := 8) (lv' := [(2, .int 8), (0, .ref h), (1, .int v)]) hx hb dX12_four_30 hl (k := 0) rfl (by decide) (by decide) rfl (fun ls hl => ?_)
  refine lv_goto (tgt := 3) hx hb dX12_four_33 (by decide) ?_
  refine lv_iload_n hx hb dX12_four_3 rfl (lv_at hl 0 rfl) ?_
  refine lv_if_lt (tgt := 36) hx hb dX12_four_4 (by decide) (fun hc => absurd hc (by decide)) (fun _ => ?_)
  refine lv_aload_n hx hb dX12_four_7 rfl (lv_at hl 1 rfl) ?_
  refine va_get (D := D) (ci := 12) (v := .ref (r 5)) (C := RX12) (T := TX12) (N := 45) hx hb hts hi12 hown hK hP 0 rfl rfl 5 (by decide) (hts (.fieldLink RX12 23 "OverHillModel" "tape" "[B") (by decide +kernel)) (fun _ h9 => h9) rfl dX12_four_8 ?_
  refine lv_aload_n hx hb dX12_four_11 rfl (lv_at hl 1 rfl) ?_
  refine va_get (D := D) (ci := 12) (v := .int 14) (C := RX12) (T := TX12) (N := 45) hx hb hts hi12 hown hK hP 0 rfl rfl 6 (by decide) (hts (.fieldLink RX12 97 "OverHillModel" "taped" "I") (by decide +kernel)) (fun _ h9 => h9) rfl dX12_four_12 ?_
  refine lv_iload_n hx hb dX12_four_15 rfl (lv_at hl 2 rfl) ?_
  refine lv_iload_n hx hb dX12_four_16 rfl (lv_at hl 0 rfl) ?_
  refine lv_ishr hx hb dX12_four_17 ?_
  refine lv_topi (fun z397 ez397 => ?_)
  refine lv_i2b (v := z397.toInt8.toInt32) hx hb dX12_four_18 rfl ?_
  refine lv_topi (fun z398 ez398 => ?_)
  refine va_bast (D := D) hx hb hK hP hD hS 1 2 rfl rfl (tq_in (a := 14) (by decide) (by omega)) dX12_four_19 (fun H locs hP hD hS => ?_)
  obtain ⟨g399, hP, hD⟩ : ∃ g399 : Nat → Int32, va_P D vwCl [mo h r 14 0, ((r 5), .inl (cB, 1200, .inl (g399)))] H ∧ va_D A [mo h r 14 0, ((r 5), .inl (cB, 1200, .inl (g399)))] := ⟨_, hP, hD⟩
  refine lv_aload_n hx hb dX12_four_20 rfl (lv_at hl 1 rfl) ?_
  refine lv_dup hx hb dX12_four_21 rfl ?_
  refine va_get (D := D) (ci := 12) (v := .int 14) (C := RX12) (T := TX12) (N := 45) hx hb hts hi12 hown hK hP 0 rfl rfl 6 (by decide) (hts (.fieldLink RX12 97 "OverHillModel" "taped" "I") (by decide +kernel)) (fun _ h9 => h9) rfl dX12_four_22 ?_
  refine lv_iconst (v := 1) hx hb dX12_four_25 (by decide) ?_
  refine lv_iadd hx hb dX12_four_26 ?_
  refine lv_topi (fun z400 ez400 => ?_)
  obtain rfl : z400 = 15 := ez400.trans (by decide)
  refine va_put (D := D) (ci := 12) (v := .int 15) (ty := .int) (C := RX12) (T := TX12) (N := 45) hx hb hts hi12 tyX12 tyX12_ok nmX12 hown hK hP hD hS 0 rfl rfl 6 (by decide) (hts (.fieldLink RX12 97 "OverHillModel" "taped" "I") (by decide +kernel)) (fun _ h9 => h9) rfl (by decide +kernel) rfl rfl (Nat.le_of_ble_eq_true rfl) dX12_four_27 (fun H locs hP hD hS => ?_)
  have hP : va_P D vwCl [mo h r 15 0, ((r 5), .inl (cB, 1200, .inl (g399)))] H := hP
  have hD : va_D A [mo h r 15 0, ((r 5), .inl (cB, 1200, .inl (g399)))] := hD
  refine lv_iinc (v := 0) (lv' := [(2, .int 0), (0, .ref h), (1, .int v)]) hx hb dX12_four_30 hl (k := 0) rfl (by decide) (by decide) rfl (fun ls hl => ?_)
  refine lv_goto (tgt := 3) hx hb dX12_four_33 (by decide) ?_
  refine lv_iload_n hx hb dX12_four_3 rfl (lv_at hl 0 rfl) ?_
  refine lv_if_lt (tgt := 36) hx hb dX12_four_4 (by decide) (fun hc => absurd hc (by decide)) (fun _ => ?_)
  refine lv_aload_n hx hb dX12_four_7 rfl (lv_at hl 1 rfl) ?_
  refine va_get (D := D) (ci := 12) (v := .ref (r 5)) (C := RX12) (T := TX12) (N := 45) hx hb hts hi12 hown hK hP 0 rfl rfl 5 (by decide) (hts (.fieldLink RX12 23 "OverHillModel" "tape" "[B") (by decide +kernel)) (fun _ h9 => h9) rfl dX12_four_8 ?_
  refine lv_aload_n hx hb dX12_four_11 rfl (lv_at hl 1 rfl) ?_
  refine va_get (D := D) (ci := 12) (v := .int 15) (C := RX12) (T := TX12) (N := 45) hx hb hts hi12 hown hK hP 0 rfl rfl 6 (by decide) (hts (.fieldLink RX12 97 "OverHillModel" "taped" "I") (by decide +kernel)) (fun _ h9 => h9) rfl dX12_four_12 ?_
  refine lv_iload_n hx hb dX12_four_15 rfl (lv_at hl 2 rfl) ?_
  refine lv_iload_n hx hb dX12_four_16 rfl (lv_at hl 0 rfl) ?_
  refine lv_ishr hx hb dX12_four_17 ?_
  refine lv_topi (fun z401 ez401 => ?_)
  refine lv_i2b (v := z401.toInt8.toInt32) hx hb dX12_four_18 rfl ?_
  refine lv_topi (fun z402 ez402 => ?_)
  refine va_bast (D := D) hx hb hK hP hD hS 1 2 rfl rfl (tq_in (a := 15) (by decide) (by omega)) dX12_four_19 (fun H locs hP hD hS => ?_)
  obtain ⟨g403, hP, hD⟩ : ∃ g403 : Nat → Int32, va_P D vwCl [mo h r 15 0, ((r 5), .inl (cB, 1200, .inl (g403)))] H ∧ va_D A [mo h r 15 0, ((r 5), .inl (cB, 1200, .inl (g403)))] := ⟨_, hP, hD⟩
  refine lv_aload_n hx hb dX12_four_20 rfl (lv_at hl 1 rfl) ?_
  refine lv_dup hx hb dX12_four_21 rfl ?_
  refine va_get (D := D) (ci := 12) (v := .int 15) (C := RX12) (T := TX12) (N := 45) hx hb hts hi12 hown hK hP 0 rfl rfl 6 (by decide) (hts (.fieldLink RX12 97 "OverHillModel" "taped" "I") (by decide +kernel)) (fun _ h9 => h9) rfl dX12_four_22 ?_
  refine lv_iconst (v := 1) hx hb dX12_four_25 (by decide) ?_
  refine lv_iadd hx hb dX12_four_26 ?_
  refine lv_topi (fun z404 ez404 => ?_)
  obtain rfl : z404 = 16 := ez404.trans (by decide)
  refine va_put (D := D) (ci := 12) (v := .int 16) (ty := .int) (C := RX12) (T := TX12) (N := 45) hx hb hts hi12 tyX12 tyX12_ok nmX12 hown hK hP hD hS 0 rfl rfl 6 (by decide) (hts (.fieldLink RX12 97 "OverHillModel" "taped" "I") (by decide +kernel)) (fun _ h9 => h9) rfl (by decide +kernel) rfl rfl (Nat.le_of_ble_eq_true rfl) dX12_four_27 (fun H locs hP hD hS => ?_)
  have hP : va_P D vwCl [mo h r 16 0, ((r 5), .inl (cB, 1200, .inl (g403)))] H := hP
  have hD : va_D A [mo h r 16 0, ((r 5), .inl (cB, 1200, .inl (g403)))] := hD
  refine lv_iinc (v := (-8)) (lv' := [(2, .int (-8)), (0, .ref h), (1, .int v)]) hx hb dX12_four_30 hl (k := 0) rfl (by decide) (by decide) rfl (fun ls hl => ?_)
  refine lv_goto (tgt := 3) hx hb dX12_four_33 (by decide) ?_
  refine lv_iload_n hx hb dX12_four_3 rfl (lv_at hl 0 rfl) ?_
  refine lv_if_lt (tgt := 36) hx hb dX12_four_4 (by decide) (fun _ => ?_) (fun hc => absurd hc (by decide))
  have hP9 := hP.sub (ws' := [mo h r 16 0, ((r 5), .inl (cB, 1200, .inl (g403)))]) [0, 1] rfl
  have hD9 := hD.sub (ws' := [mo h r 16 0, ((r 5), .inl (cB, 1200, .inl (g403)))]) [0, 1] (by decide) rfl
  exact W.vret hx hb hr (fun t ht hW => ⟨⟨g403, rfl, trivial, by rw [ht]; exact hP9, hD9⟩, hS.F ht⟩) hS.2.2 dX12_four_36
abbrev w_c_X12_four16 (cI cJ cB cZ cO : ClassId) (h : Nat) (r : Nat → Nat) (f : Nat → Int32) : va_W := [mo h r 16 0, ((r 5), .inl (cB, 1200, .inl (f)))]
set_option maxHeartbeats 4000000 in
set_option maxRecDepth 100000 in
/-- four bytes more -/
theorem c_X12_four16 (l : Launch) (D : va_G) (cI cJ cB cZ cO : ClassId) (h : Nat) (r : Nat → Nat) (f : Nat → Int32) (v : Int32) (sz : Nat) : Met l yX12_four wsX12_four ({ frames := 0, cells := 0, slots := 0, locals := 0 }) (va_Pc [.ref h, .int v] (ct_P D (ct_T cI cJ cB cZ cO) (w_c_X12_four16 cI cJ cB cZ cO h r f) sz)) (va_Qv (fun (u : Nat → Int32) => True) (fun (u : Nat → Int32) t => ct_Q D (va_A (w_c_X12_four16 cI cJ cB cZ cO h r f) sz) [mo h r 20 0, ((r 5), .inl (cB, 1200, .inl (u)))] t) (va_A (w_c_X12_four16 cI cJ cB cZ cO h r f) sz)) 0 0 (va_A (w_c_X12_four16 cI cJ cB cZ cO h r f) sz) := by
  refine Met.ofW (cc := cX12_four) (maxL := 3) (ret := none) (by decide) rfl ?_
  intro p e s m args below meth c s₁ B hml hv
  obtain ⟨rfl, hsz, hP, hE, hD0⟩ := hv
  have hx := B.exec
  have hb := B.bytes
  have hr := B.returns
  have hts := atoms_spec (ws := wsX12_four) B.pre
  have hown : s.vm.findClass RX12 = some m.cls := findClass_of_methodNamed B.named
  have hlocks := B.notSynchronized
  have hK := hE.1
  have hi12 : ∀ w ∈ u_ws RX12 TX12 45, w ∈ wsX12_four := fun w h => List.mem_cons_of_mem _ (List.mem_append_right _ h)
  subst hsz
  have hD := hD0.self (sz := s.heap.size)
  generalize hAe : va_A (w_c_X12_four16 cI cJ cB cZ cO h r f) s.heap.size = A at hD ⊢
  have hA : ∀ q : Nat, s.heap.size ≤ q → A q := fun q h => by rw [← hAe]; exact Or.inr h
  have hS : va_S A s.heap s.heap [] := va_S.rf
  have hP : va_P D vwCl [mo h r 16 0, ((r 5), .inl (cB, 1200, .inl (f)))] s.heap := hP
  have hD : va_D A [mo h r 16 0, ((r 5), .inl (cB, 1200, .inl (f)))] := hD
  have hl := lv_entry ([.ref h, .int v]) (n := 3) (Nat.le_of_ble_eq_true rfl)
  rw [lg_entry_eq]
  generalize (lg_sl ([.ref h, .int v]) ++ List.replicate (3 - (lg_sl ([.ref h, .int v])).length) Slot.unset).toArray = ls at hl ⊢
  have hl : lv_has ls 3 [(0, .ref h), (1, .int v)] := hl
  obtain ⟨H, hHe⟩ : ∃ H : Heap, H = s.heap := ⟨_, rfl⟩
  rw [← hHe] at hP
  have hS : va_S A s.heap H [] := by rw [hHe]; exact va_S.rf
  refine ct_start hHe ?_
  refine lv_bipush (v := 24) hx hb dX12_four_0 (by decide) ?_
  refine lv_istore_n (lv' := [(2, .int 24), (0, .ref h), (1, .int v)]) hx hb dX12_four_2 rfl hl (by decide) rfl (fun ls hl => ?_)
  refine lv_iload_n hx hb dX12_four_3 rfl (lv_at hl 0 rfl) ?_
  refine lv_if_lt (tgt := 36) hx hb dX12_four_4 (by decide) (fun hc => absurd hc (by decide)) (fun _ => ?_)
  refine lv_aload_n hx hb dX12_four_7 rfl (lv_at hl 1 rfl) ?_
  refine va_get (D := D) (ci := 12) (v := .ref (r 5)) (C := RX12) (T := TX12) (N := 45) hx hb hts hi12 hown hK hP 0 rfl rfl 5 (by decide) (hts (.fieldLink RX12 23 "OverHillModel" "tape" "[B") (by decide +kernel)) (fun _ h9 => h9) rfl dX12_four_8 ?_
  refine lv_aload_n hx hb dX12_four_11 rfl (lv_at hl 1 rfl) ?_
  refine va_get (D := D) (ci := 12) (v := .int 16) (C := RX12) (T := TX12) (N := 45) hx hb hts hi12 hown hK hP 0 rfl rfl 6 (by decide) (hts (.fieldLink RX12 97 "OverHillModel" "taped" "I") (by decide +kernel)) (fun _ h9 => h9) rfl dX12_four_12 ?_
  refine lv_iload_n hx hb dX12_four_15 rfl (lv_at hl 2 rfl) ?_
  refine lv_iload_n hx hb dX12_four_16 rfl (lv_at hl 0 rfl) ?_
  refine lv_ishr hx hb dX12_four_17 ?_
  refine lv_topi (fun z405 ez405 => ?_)
  refine lv_i2b (v := z405.toInt8.toInt32) hx hb dX12_four_18 rfl ?_
  refine lv_topi (fun z406 ez406 => ?_)
  refine va_bast (D := D) hx hb hK hP hD hS 1 2 rfl rfl (tq_in (a := 16) (by decide) (by omega)) dX12_four_19 (fun H locs hP hD hS => ?_)
  obtain ⟨g407, hP, hD⟩ : ∃ g407 : Nat → Int32, va_P D vwCl [mo h r 16 0, ((r 5), .inl (cB, 1200, .inl (g407)))] H ∧ va_D A [mo h r 16 0, ((r 5), .inl (cB, 1200, .inl (g407)))] := ⟨_, hP, hD⟩
  refine lv_aload_n hx hb dX12_four_20 rfl (lv_at hl 1 rfl) ?_
  refine lv_dup hx hb dX12_four_21 rfl ?_
  refine va_get (D := D) (ci := 12) (v := .int 16) (C := RX12) (T := TX12) (N := 45) hx hb hts hi12 hown hK hP 0 rfl rfl 6 (by decide) (hts (.fieldLink RX12 97 "OverHillModel" "taped" "I") (by decide +kernel)) (fun _ h9 => h9) rfl dX12_four_22 ?_
  refine lv_iconst (v := 1) hx hb dX12_four_25 (by decide) ?_
  refine lv_iadd hx hb dX12_four_26 ?_
  refine lv_topi (fun z408 ez408 => ?_)
  obtain rfl : z408 = 17 := ez408.trans (by decide)
  refine va_put (D := D) (ci := 12) (v := .int 17) (ty := .int) (C := RX12) (T := TX12) (N := 45) hx hb hts hi12 tyX12 tyX12_ok nmX12 hown hK hP hD hS 0 rfl rfl 6 (by decide) (hts (.fieldLink RX12 97 "OverHillModel" "taped" "I") (by decide +kernel)) (fun _ h9 => h9) rfl (by decide +kernel) rfl rfl (Nat.le_of_ble_eq_true rfl) dX12_four_27 (fun H locs hP hD hS => ?_)
  have hP : va_P D vwCl [mo h r 17 0, ((r 5), .inl (cB, 1200, .inl (g407)))] H := hP
  have hD : va_D A [mo h r 17 0, ((r 5), .inl (cB, 1200, .inl (g407)))] := hD
  refine lv_iinc (v := 16) (lv' := [(2, .int 16), (0, .ref h), (1, .int v)]) hx hb dX12_four_30 hl (k := 0) rfl (by decide) (by decide) rfl (fun ls hl => ?_)
  refine lv_goto (tgt := 3) hx hb dX12_four_33 (by decide) ?_
  refine lv_iload_n hx hb dX12_four_3 rfl (lv_at hl 0 rfl) ?_
  refine lv_if_lt (tgt := 36) hx hb dX12_four_4 (by decide) (fun hc => absurd hc (by decide)) (fun _ => ?_)
  refine lv_aload_n hx hb dX12_four_7 rfl (lv_at hl 1 rfl) ?_
  refine va_get (D := D) (ci := 12) (v := .ref (r 5)) (C := RX12) (T := TX12) (N := 45) hx hb hts hi12 hown hK hP 0 rfl rfl 5 (by decide) (hts (.fieldLink RX12 23 "OverHillModel" "tape" "[B") (by decide +kernel)) (fun _ h9 => h9) rfl dX12_four_8 ?_
  refine lv_aload_n hx hb dX12_four_11 rfl (lv_at hl 1 rfl) ?_
  refine va_get (D := D) (ci := 12) (v := .int 17) (C := RX12) (T := TX12) (N := 45) hx hb hts hi12 hown hK hP 0 rfl rfl 6 (by decide) (hts (.fieldLink RX12 97 "OverHillModel" "taped" "I") (by decide +kernel)) (fun _ h9 => h9) rfl dX12_four_12 ?_
  refine lv_iload_n hx hb dX12_four_15 rfl (lv_at hl 2 rfl) ?_
  refine lv_iload_n hx hb dX12_four_16 rfl (lv_at hl 0 rfl) ?_
  refine lv_ishr hx hb dX12_four_17 ?_
  refine lv_topi (fun z409 ez409 => ?_)
  refine lv_i2b (v := z409.toInt8.toInt32) hx hb dX12_four_18 rfl ?_
  refine lv_topi (fun z410 ez410 => ?_)
  refine va_bast (D := D) hx hb hK hP hD hS 1 2 rfl rfl (tq_in (a := 17) (by decide) (by omega)) dX12_four_19 (fun H locs hP hD hS => ?_)
  obtain ⟨g411, hP, hD⟩ : ∃ g411 : Nat → Int32, va_P D vwCl [mo h r 17 0, ((r 5), .inl (cB, 1200, .inl (g411)))] H ∧ va_D A [mo h r 17 0, ((r 5), .inl (cB, 1200, .inl (g411)))] := ⟨_, hP, hD⟩
  refine lv_aload_n hx hb dX12_four_20 rfl (lv_at hl 1 rfl) ?_
  refine lv_dup hx hb dX12_four_21 rfl ?_
  refine va_get (D := D) (ci := 12) (v := .int 17) (C := RX12) (T := TX12) (N := 45) hx hb hts hi12 hown hK hP 0 rfl rfl 6 (by decide) (hts (.fieldLink RX12 97 "OverHillModel" "taped" "I") (by decide +kernel)) (fun _ h9 => h9) rfl dX12_four_22 ?_
  refine lv_iconst (v := 1) hx hb dX12_four_25 (by decide) ?_
  refine lv_iadd hx hb dX12_four_26 ?_
  refine lv_topi (fun z412 ez412 => ?_)
  obtain rfl : z412 = 18 := ez412.trans (by decide)
  refine va_put (D := D) (ci := 12) (v := .int 18) (ty := .int) (C := RX12) (T := TX12) (N := 45) hx hb hts hi12 tyX12 tyX12_ok nmX12 hown hK hP hD hS 0 rfl rfl 6 (by decide) (hts (.fieldLink RX12 97 "OverHillModel" "taped" "I") (by decide +kernel)) (fun _ h9 => h9) rfl (by decide +kernel) rfl rfl (Nat.le_of_ble_eq_true rfl) dX12_four_27 (fun H locs hP hD hS => ?_)
  have hP : va_P D vwCl [mo h r 18 0, ((r 5), .inl (cB, 1200, .inl (g411)))] H := hP
  have hD : va_D A [mo h r 18 0, ((r 5), .inl (cB, 1200, .inl (g411)))] := hD
  refine lv_iinc (v := 8) (lv' := [(2, .int 8), (0, .ref h), (1, .int v)]) hx hb dX12_four_30 hl (k := 0) rfl (by decide) (by decide) rfl (fun ls hl => ?_)
  refine lv_goto (tgt := 3) hx hb dX12_four_33 (by decide) ?_
  refine lv_iload_n hx hb dX12_four_3 rfl (lv_at hl 0 rfl) ?_
  refine lv_if_lt (tgt := 36) hx hb dX12_four_4 (by decide) (fun hc => absurd hc (by decide)) (fun _ => ?_)
  refine lv_aload_n hx hb dX12_four_7 rfl (lv_at hl 1 rfl) ?_
  refine va_get (D := D) (ci := 12) (v := .ref (r 5)) (C := RX12) (T := TX12) (N := 45) hx hb hts hi12 hown hK hP 0 rfl rfl 5 (by decide) (hts (.fieldLink RX12 23 "OverHillModel" "tape" "[B") (by decide +kernel)) (fun _ h9 => h9) rfl dX12_four_8 ?_
  refine lv_aload_n hx hb dX12_four_11 rfl (lv_at hl 1 rfl) ?_
  refine va_get (D := D) (ci := 12) (v := .int 18) (C := RX12) (T := TX12) (N := 45) hx hb hts hi12 hown hK hP 0 rfl rfl 6 (by decide) (hts (.fieldLink RX12 97 "OverHillModel" "taped" "I") (by decide +kernel)) (fun _ h9 => h9) rfl dX12_four_12 ?_
  refine lv_iload_n hx hb dX12_four_15 rfl (lv_at hl 2 rfl) ?_
  refine lv_iload_n hx hb dX12_four_16 rfl (lv_at hl 0 rfl) ?_
  refine lv_ishr hx hb dX12_four_17 ?_
  refine lv_topi (fun z413 ez413 => ?_)
  refine lv_i2b (v := z413.toInt8.toInt32) hx hb dX12_four_18 rfl ?_
  refine lv_topi (fun z414 ez414 => ?_)
  refine va_bast (D := D) hx hb hK hP hD hS 1 2 rfl rfl (tq_in (a := 18) (by decide) (by omega)) dX12_four_19 (fun H locs hP hD hS => ?_)
  obtain ⟨g415, hP, hD⟩ : ∃ g415 : Nat → Int32, va_P D vwCl [mo h r 18 0, ((r 5), .inl (cB, 1200, .inl (g415)))] H ∧ va_D A [mo h r 18 0, ((r 5), .inl (cB, 1200, .inl (g415)))] := ⟨_, hP, hD⟩
  refine lv_aload_n hx hb dX12_four_20 rfl (lv_at hl 1 rfl) ?_
  refine lv_dup hx hb dX12_four_21 rfl ?_
  refine va_get (D := D) (ci := 12) (v := .int 18) (C := RX12) (T := TX12) (N := 45) hx hb hts hi12 hown hK hP 0 rfl rfl 6 (by decide) (hts (.fieldLink RX12 97 "OverHillModel" "taped" "I") (by decide +kernel)) (fun _ h9 => h9) rfl dX12_four_22 ?_
  refine lv_iconst (v := 1) hx hb dX12_four_25 (by decide) ?_
  refine lv_iadd hx hb dX12_four_26 ?_
  refine lv_topi (fun z416 ez416 => ?_)
  obtain rfl : z416 = 19 := ez416.trans (by decide)
  refine va_put (D := D) (ci := 12) (v := .int 19) (ty := .int) (C := RX12) (T := TX12) (N := 45) hx hb hts hi12 tyX12 tyX12_ok nmX12 hown hK hP hD hS 0 rfl rfl 6 (by decide) (hts (.fieldLink RX12 97 "OverHillModel" "taped" "I") (by decide +kernel)) (fun _ h9 => h9) rfl (by decide +kernel) rfl rfl (Nat.le_of_ble_eq_true rfl) dX12_four_27 (fun H locs hP hD hS => ?_)
  have hP : va_P D vwCl [mo h r 19 0, ((r 5), .inl (cB, 1200, .inl (g415)))] H := hP
  have hD : va_D A [mo h r 19 0, ((r 5), .inl (cB, 1200, .inl (g415)))] := hD
  refine lv_iinc (v := 0) (lv' := [(2, .int 0), (0, .ref h), (1, .int v)]) hx hb dX12_four_30 hl (k := 0) rfl (by decide) (by decide) rfl (fun ls hl => ?_)
  refine lv_goto (tgt := 3) hx hb dX12_four_33 (by decide) ?_
  refine lv_iload_n hx hb dX12_four_3 rfl (lv_at hl 0 rfl) ?_
  refine lv_if_lt (tgt := 36) hx hb dX12_four_4 (by decide) (fun hc => absurd hc (by decide)) (fun _ => ?_)
  refine lv_aload_n hx hb dX12_four_7 rfl (lv_at hl 1 rfl) ?_
  refine va_get (D := D) (ci := 12) (v := .ref (r 5)) (C := RX12) (T := TX12) (N := 45) hx hb hts hi12 hown hK hP 0 rfl rfl 5 (by decide) (hts (.fieldLink RX12 23 "OverHillModel" "tape" "[B") (by decide +kernel)) (fun _ h9 => h9) rfl dX12_four_8 ?_
  refine lv_aload_n hx hb dX12_four_11 rfl (lv_at hl 1 rfl) ?_
  refine va_get (D := D) (ci := 12) (v := .int 19) (C := RX12) (T := TX12) (N := 45) hx hb hts hi12 hown hK hP 0 rfl rfl 6 (by decide) (hts (.fieldLink RX12 97 "OverHillModel" "taped" "I") (by decide +kernel)) (fun _ h9 => h9) rfl dX12_four_12 ?_
  refine lv_iload_n hx hb dX12_four_15 rfl (lv_at hl 2 rfl) ?_
  refine lv_iload_n hx hb dX12_four_16 rfl (lv_at hl 0 rfl) ?_
  refine lv_ishr hx hb dX12_four_17 ?_
  refine lv_topi (fun z417 ez417 => ?_)
  refine lv_i2b (v := z417.toInt8.toInt32) hx hb dX12_four_18 rfl ?_
  refine lv_topi (fun z418 ez418 => ?_)
  refine va_bast (D := D) hx hb hK hP hD hS 1 2 rfl rfl (tq_in (a := 19) (by decide) (by omega)) dX12_four_19 (fun H locs hP hD hS => ?_)
  obtain ⟨g419, hP, hD⟩ : ∃ g419 : Nat → Int32, va_P D vwCl [mo h r 19 0, ((r 5), .inl (cB, 1200, .inl (g419)))] H ∧ va_D A [mo h r 19 0, ((r 5), .inl (cB, 1200, .inl (g419)))] := ⟨_, hP, hD⟩
  refine lv_aload_n hx hb dX12_four_20 rfl (lv_at hl 1 rfl) ?_
  refine lv_dup hx hb dX12_four_21 rfl ?_
  refine va_get (D := D) (ci := 12) (v := .int 19) (C := RX12) (T := TX12) (N := 45) hx hb hts hi12 hown hK hP 0 rfl rfl 6 (by decide) (hts (.fieldLink RX12 97 "OverHillModel" "taped" "I") (by decide +kernel)) (fun _ h9 => h9) rfl dX12_four_22 ?_
  refine lv_iconst (v := 1) hx hb dX12_four_25 (by decide) ?_
  refine lv_iadd hx hb dX12_four_26 ?_
  refine lv_topi (fun z420 ez420 => ?_)
  obtain rfl : z420 = 20 := ez420.trans (by decide)
  refine va_put (D := D) (ci := 12) (v := .int 20) (ty := .int) (C := RX12) (T := TX12) (N := 45) hx hb hts hi12 tyX12 tyX12_ok nmX12 hown hK hP hD hS 0 rfl rfl 6 (by decide) (hts (.fieldLink RX12 97 "OverHillModel" "taped" "I") (by decide +kernel)) (fun _ h9 => h9) rfl (by decide +kernel) rfl rfl (Nat.le_of_ble_eq_true rfl) dX12_four_27 (fun H locs hP hD hS => ?_)
  have hP : va_P D vwCl [mo h r 20 0, ((r 5), .inl (cB, 1200, .inl (g419)))] H := hP
  have hD : va_D A [mo h r 20 0, ((r 5), .inl (cB, 1200, .inl (g419)))] := hD
  refine lv_iinc (v := (-8)) (lv' := [(2, .int (-8)), (0, .ref h), (1, .int v)]) hx hb dX12_four_30 hl (k := 0) rfl (by decide) (by decide) rfl (fun ls hl => ?_)
  refine lv_goto (tgt := 3) hx hb dX12_four_33 (by decide) ?_
  refine lv_iload_n hx hb dX12_four_3 rfl (lv_at hl 0 rfl) ?_
  refine lv_if_lt (tgt := 36) hx hb dX12_four_4 (by decide) (fun _ => ?_) (fun hc => absurd hc (by decide))
  have hP9 := hP.sub (ws' := [mo h r 20 0, ((r 5), .inl (cB, 1200, .inl (g419)))]) [0, 1] rfl
  have hD9 := hD.sub (ws' := [mo h r 20 0, ((r 5), .inl (cB, 1200, .inl (g419)))]) [0, 1] (by decide) rfl
  exact W.vret hx hb hr (fun t ht hW => ⟨⟨g419, rfl, trivial, by rw [ht]; exact hP9, hD9⟩, hS.F ht⟩) hS.2.2 dX12_four_36
abbrev w_c_X12_feed (cI cJ cB cZ cO : ClassId) (h : Nat) (r : Nat → Nat) : va_W := [mo h r 0 0, ((r 5), .inl (cB, 1200, .inl (fun _ => 0)))]
set_option maxHeartbeats 4000000 in
set_option maxRecDepth 100000 in
/-- feed, of the reference, on a new object -/
theorem c_X12_feed (l : Launch) (D : va_G) (cI cJ cB cZ cO : ClassId) (h : Nat) (r : Nat → Nat) (x1 : Int32) (x2 : Int32) (x3 : Int32) (x4 : Int32) (x5 : Int32) (sz : Nat) : Met l yX12_feed wsX12_feed ({ frames := 1, cells := 0, slots := 0, locals := 22 }) (va_Pc [.ref h, .int x1, .int x2, .int x3, .int x4, .int x5] (ct_P D (ct_T cI cJ cB cZ cO) (w_c_X12_feed cI cJ cB cZ cO h r) sz)) (va_Qi (fun (rz : Int32) (u : Unit) => (rz = 20 ∧ True)) (fun (u : Unit) t => ct_Q D (va_A (w_c_X12_feed cI cJ cB cZ cO h r) sz) [] t) (va_A (w_c_X12_feed cI cJ cB cZ cO h r) sz)) 0 0 (va_A (w_c_X12_feed cI cJ cB cZ cO h r) sz) := by
  refine Met.ofW (cc := cX12_feed) (maxL := 6) (ret := (some .int)) (by decide) rfl ?_
  intro p e s m args below meth c s₁ B hml hv
  obtain ⟨rfl, hsz, hP, hE, hD0⟩ := hv
  have hx := B.exec
  have hb := B.bytes
  have hr := B.returns
  have hts := atoms_spec (ws := wsX12_feed) B.pre
  have hown : s.vm.findClass RX12 = some m.cls := findClass_of_methodNamed B.named
  have hlocks := B.notSynchronized
  have hK := hE.1
  have hi12 : ∀ w ∈ u_ws RX12 TX12 45, w ∈ wsX12_feed := fun w h => List.mem_cons_of_mem _ (List.mem_append_right _ h)
  subst hsz
  have hD := hD0.self (sz := s.heap.size)
  generalize hAe : va_A (w_c_X12_feed cI cJ cB cZ cO h r) s.heap.size = A at hD ⊢
  have hA : ∀ q : Nat, s.heap.size ≤ q → A q := fun q h => by rw [← hAe]; exact Or.inr h
  have hS : va_S A s.heap s.heap [] := va_S.rf
  have hP : va_P D vwCl [mo h r 0 0, ((r 5), .inl (cB, 1200, .inl (fun _ => 0)))] s.heap := hP
  have hD : va_D A [mo h r 0 0, ((r 5), .inl (cB, 1200, .inl (fun _ => 0)))] := hD
  have hl := lv_entry ([.ref h, .int x1, .int x2, .int x3, .int x4, .int x5]) (n := 6) (Nat.le_of_ble_eq_true rfl)
  rw [lg_entry_eq]
  generalize (lg_sl ([.ref h, .int x1, .int x2, .int x3, .int x4, .int x5]) ++ List.replicate (6 - (lg_sl ([.ref h, .int x1, .int x2, .int x3, .int x4, .int x5])).length) Slot.unset).toArray = ls at hl ⊢
  have hl : lv_has ls 6 [(0, .ref h), (1, .int x1), (2, .int x2), (3, .int x3), (4, .int x4), (5, .int x5)] := hl
  obtain ⟨H, hHe⟩ : ∃ H : Heap, H = s.heap := ⟨_, rfl⟩
  rw [← hHe] at hP
  have hS : va_S A s.heap H [] := by rw [hHe]; exact va_S.rf
  refine ct_start hHe ?_
  refine lv_aload_n hx hb dX12_feed_0 rfl (lv_at hl 0 rfl) ?_
  refine lv_iconst (v := 0) hx hb dX12_feed_1 (by decide) ?_
  refine va_put (D := D) (ci := 12) (v := .int 0) (ty := .int) (C := RX12) (T := TX12) (N := 45) hx hb hts hi12 tyX12 tyX12_ok nmX12 hown hK hP hD hS 0 rfl rfl 0 (by decide) (hts (.fieldLink RX12 80 "OverHillModel" "thrown" "I") (by decide +kernel)) (fun _ h9 => h9) rfl (by decide +kernel) rfl rfl (Nat.le_of_ble_eq_true rfl) dX12_feed_2 (fun H locs hP hD hS => ?_)
  have hP : va_P D vwCl [mo h r 0 0, ((r 5), .inl (cB, 1200, .inl (fun _ => 0)))] H := hP
  have hD : va_D A [mo h r 0 0, ((r 5), .inl (cB, 1200, .inl (fun _ => 0)))] := hD
  refine lv_aload_n hx hb dX12_feed_5 rfl (lv_at hl 0 rfl) ?_
  refine va_get (D := D) (ci := 12) (v := .int 0) (C := RX12) (T := TX12) (N := 45) hx hb hts hi12 hown hK hP 0 rfl rfl 6 (by decide) (hts (.fieldLink RX12 97 "OverHillModel" "taped" "I") (by decide +kernel)) (fun _ h9 => h9) rfl dX12_feed_6 ?_
  refine lv_bipush (v := 20) hx hb dX12_feed_9 (by decide) ?_
  refine lv_iadd hx hb dX12_feed_11 ?_
  refine lv_topi (fun z421 ez421 => ?_)
  obtain rfl : z421 = 20 := ez421.trans (by decide)
  refine lv_sipush (v := 1200) hx hb dX12_feed_12 (by decide) ?_
  refine lv_icmp_le (tgt := 20) hx hb dX12_feed_15 (by decide) (fun _ => ?_) (fun hc => absurd hc (by decide))
  refine lv_aload_n hx hb dX12_feed_20 rfl (lv_at hl 0 rfl) ?_
  refine lv_iload_n hx hb dX12_feed_21 rfl (lv_at hl 1 rfl) ?_
  refine ct_callv (D := D) (wc := (w_c_X12_four0 cI cJ cB cZ cO h r (fun _ => 0))) (wr := []) (va_runV (As := [.int x1]) (rest := []) ⟨hx, hb, hml, hown, hts⟩ (c_X12_four0 l D cI cJ cB cZ cO h r (fun _ => 0) x1 H.size) (cwV 1 hts gX12_feed_X12_four rfl rfl rfl (by decide +kernel) ⟨Nat.le_of_ble_eq_true rfl, Nat.le_of_ble_eq_true rfl⟩) (ct_preV (T := ct_T cI cJ cB cZ cO) (ci := 12) (q0 := 0) hE hP hD [0, 1] (by decide) rfl rfl rfl) rfl rfl hl.1 rfl (lv_room (Nat.le_of_ble_eq_true rfl)) dX12_feed_22 ⟨Nat.le_of_ble_eq_true rfl, Nat.le_of_ble_eq_true rfl⟩) hP hD hS hA [0, 1] [] rfl rfl (by decide) (by decide) (fun u H locs hw hP hD hS => ?_)
  obtain ⟨u422, rfl⟩ : ∃ z, z = u := ⟨_, rfl⟩
  have hP : va_P D vwCl [mo h r 4 0, ((r 5), .inl (cB, 1200, .inl (u422)))] H := hP
  have hD : va_D A [mo h r 4 0, ((r 5), .inl (cB, 1200, .inl (u422)))] := hD
  refine lv_aload_n hx hb dX12_feed_25 rfl (lv_at hl 0 rfl) ?_
  refine lv_iload_n hx hb dX12_feed_26 rfl (lv_at hl 2 rfl) ?_
  refine ct_callv (D := D) (wc := (w_c_X12_four4 cI cJ cB cZ cO h r u422)) (wr := []) (va_runV (As := [.int x2]) (rest := []) ⟨hx, hb, hml, hown, hts⟩ (c_X12_four4 l D cI cJ cB cZ cO h r u422 x2 H.size) (cwV 1 hts gX12_feed_X12_four rfl rfl rfl (by decide +kernel) ⟨Nat.le_of_ble_eq_true rfl, Nat.le_of_ble_eq_true rfl⟩) (ct_preV (T := ct_T cI cJ cB cZ cO) (ci := 12) (q0 := 0) hE hP hD [0, 1] (by decide) rfl rfl rfl) rfl rfl hl.1 rfl (lv_room (Nat.le_of_ble_eq_true rfl)) dX12_feed_27 ⟨Nat.le_of_ble_eq_true rfl, Nat.le_of_ble_eq_true rfl⟩) hP hD hS hA [0, 1] [] rfl rfl (by decide) (by decide) (fun u H locs hw hP hD hS => ?_)
  obtain ⟨u423, rfl⟩ : ∃ z, z = u := ⟨_, rfl⟩
  have hP : va_P D vwCl [mo h r 8 0, ((r 5), .inl (cB, 1200, .inl (u423)))] H := hP
  have hD : va_D A [mo h r 8 0, ((r 5), .inl (cB, 1200, .inl (u423)))] := hD
  refine lv_aload_n hx hb dX12_feed_30 rfl (lv_at hl 0 rfl) ?_
  refine lv_iload_n hx hb dX12_feed_31 rfl (lv_at hl 3 rfl) ?_
  refine ct_callv (D := D) (wc := (w_c_X12_four8 cI cJ cB cZ cO h r u423)) (wr := []) (va_runV (As := [.int x3]) (rest := []) ⟨hx, hb, hml, hown, hts⟩ (c_X12_four8 l D cI cJ cB cZ cO h r u423 x3 H.size) (cwV 1 hts gX12_feed_X12_four rfl rfl rfl (by decide +kernel) ⟨Nat.le_of_ble_eq_true rfl, Nat.le_of_ble_eq_true rfl⟩) (ct_preV (T := ct_T cI cJ cB cZ cO) (ci := 12) (q0 := 0) hE hP hD [0, 1] (by decide) rfl rfl rfl) rfl rfl hl.1 rfl (lv_room (Nat.le_of_ble_eq_true rfl)) dX12_feed_32 ⟨Nat.le_of_ble_eq_true rfl, Nat.le_of_ble_eq_true rfl⟩) hP hD hS hA [0, 1] [] rfl rfl (by decide) (by decide) (fun u H locs hw hP hD hS => ?_)
  obtain ⟨u424, rfl⟩ : ∃ z, z = u := ⟨_, rfl⟩
  have hP : va_P D vwCl [mo h r 12 0, ((r 5), .inl (cB, 1200, .inl (u424)))] H := hP
  have hD : va_D A [mo h r 12 0, ((r 5), .inl (cB, 1200, .inl (u424)))] := hD
  refine lv_aload_n hx hb dX12_feed_35 rfl (lv_at hl 0 rfl) ?_
  refine lv_iload hx hb dX12_feed_36 (lv_at hl 4 rfl) ?_
  refine ct_callv (D := D) (wc := (w_c_X12_four12 cI cJ cB cZ cO h r u424)) (wr := []) (va_runV (As := [.int x4]) (rest := []) ⟨hx, hb, hml, hown, hts⟩ (c_X12_four12 l D cI cJ cB cZ cO h r u424 x4 H.size) (cwV 1 hts gX12_feed_X12_four rfl rfl rfl (by decide +kernel) ⟨Nat.le_of_ble_eq_true rfl, Nat.le_of_ble_eq_true rfl⟩) (ct_preV (T := ct_T cI cJ cB cZ cO) (ci := 12) (q0 := 0) hE hP hD [0, 1] (by decide) rfl rfl rfl) rfl rfl hl.1 rfl (lv_room (Nat.le_of_ble_eq_true rfl)) dX12_feed_38 ⟨Nat.le_of_ble_eq_true rfl, Nat.le_of_ble_eq_true rfl⟩) hP hD hS hA [0, 1] [] rfl rfl (by decide) (by decide) (fun u H locs hw hP hD hS => ?_)
  obtain ⟨u425, rfl⟩ : ∃ z, z = u := ⟨_, rfl⟩
  have hP : va_P D vwCl [mo h r 16 0, ((r 5), .inl (cB, 1200, .inl (u425)))] H := hP
  have hD : va_D A [mo h r 16 0, ((r 5), .inl (cB, 1200, .inl (u425)))] := hD
  refine lv_aload_n hx hb dX12_feed_41 rfl (lv_at hl 0 rfl) ?_
  refine lv_iload hx hb dX12_feed_42 (lv_at hl 5 rfl) ?_
  refine ct_callv (D := D) (wc := (w_c_X12_four16 cI cJ cB cZ cO h r u425)) (wr := []) (va_runV (As := [.int x5]) (rest := []) ⟨hx, hb, hml, hown, hts⟩ (c_X12_four16 l D cI cJ cB cZ cO h r u425 x5 H.size) (cwV 1 hts gX12_feed_X12_four rfl rfl rfl (by decide +kernel) ⟨Nat.le_of_ble_eq_true rfl, Nat.le_of_ble_eq_true rfl⟩) (ct_preV (T := ct_T cI cJ cB cZ cO) (ci := 12) (q0 := 0) hE hP hD [0, 1] (by decide) rfl rfl rfl) rfl rfl hl.1 rfl (lv_room (Nat.le_of_ble_eq_true rfl)) dX12_feed_44 ⟨Nat.le_of_ble_eq_true rfl, Nat.le_of_ble_eq_true rfl⟩) hP hD hS hA [0, 1] [] rfl rfl (by decide) (by decide) (fun u H locs hw hP hD hS => ?_)
  obtain ⟨u426, rfl⟩ : ∃ z, z = u := ⟨_, rfl⟩
  have hP : va_P D vwCl [mo h r 20 0, ((r 5), .inl (cB, 1200, .inl (u426)))] H := hP
  have hD : va_D A [mo h r 20 0, ((r 5), .inl (cB, 1200, .inl (u426)))] := hD
  refine lv_aload_n hx hb dX12_feed_47 rfl (lv_at hl 0 rfl) ?_
  refine va_get (D := D) (ci := 12) (v := .int 20) (C := RX12) (T := TX12) (N := 45) hx hb hts hi12 hown hK hP 0 rfl rfl 6 (by decide) (hts (.fieldLink RX12 97 "OverHillModel" "taped" "I") (by decide +kernel)) (fun _ h9 => h9) rfl dX12_feed_48 ?_
  have hP9 := hP.sub (ws' := []) [] rfl
  have hD9 := hD.sub (ws' := []) [] (by decide) rfl
  exact W.iret (v := 20) hx hb hr (fun t ht hW => ⟨⟨20, (), rfl, ⟨rfl, trivial⟩, by rw [ht]; exact hP9, hD9⟩, hS.F ht⟩) hS.2.2 dX12_feed_51
abbrev w_c_X12_end (cI cJ cB cZ cO : ClassId) (h : Nat) (r : Nat → Nat) : va_W := [mo h r 0 0]
set_option maxHeartbeats 4000000 in
set_option maxRecDepth 100000 in
/-- end, of the reference, on a new object -/
theorem c_X12_end (l : Launch) (D : va_G) (cI cJ cB cZ cO : ClassId) (h : Nat) (r : Nat → Nat) (x1 : Int32) (sz : Nat) : Met l yX12_end wsX12_end ({ frames := 1, cells := 0, slots := 0, locals := 25 }) (va_Pc [.ref h, .int x1] (ct_P D (ct_T cI cJ cB cZ cO) (w_c_X12_end cI cJ cB cZ cO h r) sz)) (va_Qi (fun (rz : Int32) (u : Unit) => (rz = 0 ∧ x1.toInt = 0) ∨ (rz = (-1) ∧ x1.toInt ≠ 0)) (fun (u : Unit) t => ct_Q D (va_A (w_c_X12_end cI cJ cB cZ cO h r) sz) [] t) (va_A (w_c_X12_end cI cJ cB cZ cO h r) sz)) 0 0 (va_A (w_c_X12_end cI cJ cB cZ cO h r) sz) := by
  refine Met.ofW (cc := cX12_end) (maxL := 2) (ret := (some .int)) (by decide) rfl ?_
  intro p e s m args below meth c s₁ B hml hv
  obtain ⟨rfl, hsz, hP, hE, hD0⟩ := hv
  have hx := B.exec
  have hb := B.bytes
  have hr := B.returns
  have hts := atoms_spec (ws := wsX12_end) B.pre
  have hown : s.vm.findClass RX12 = some m.cls := findClass_of_methodNamed B.named
  have hlocks := B.notSynchronized
  have hK := hE.1
  have hi12 : ∀ w ∈ u_ws RX12 TX12 45, w ∈ wsX12_end := fun w h => List.mem_cons_of_mem _ (List.mem_append_right _ h)
  subst hsz
  have hD := hD0.self (sz := s.heap.size)
  generalize hAe : va_A (w_c_X12_end cI cJ cB cZ cO h r) s.heap.size = A at hD ⊢
  have hA : ∀ q : Nat, s.heap.size ≤ q → A q := fun q h => by rw [← hAe]; exact Or.inr h
  have hS : va_S A s.heap s.heap [] := va_S.rf
  have hP : va_P D vwCl [mo h r 0 0] s.heap := hP
  have hD : va_D A [mo h r 0 0] := hD
  have hl := lv_entry ([.ref h, .int x1]) (n := 2) (Nat.le_of_ble_eq_true rfl)
  rw [lg_entry_eq]
  generalize (lg_sl ([.ref h, .int x1]) ++ List.replicate (2 - (lg_sl ([.ref h, .int x1])).length) Slot.unset).toArray = ls at hl ⊢
  have hl : lv_has ls 2 [(0, .ref h), (1, .int x1)] := hl
  obtain ⟨H, hHe⟩ : ∃ H : Heap, H = s.heap := ⟨_, rfl⟩
  rw [← hHe] at hP
  have hS : va_S A s.heap H [] := by rw [hHe]; exact va_S.rf
  refine ct_start hHe ?_
  refine lv_aload_n hx hb dX12_end_0 rfl (lv_at hl 0 rfl) ?_
  refine lv_iconst (v := 0) hx hb dX12_end_1 (by decide) ?_
  refine va_put (D := D) (ci := 12) (v := .int 0) (ty := .int) (C := RX12) (T := TX12) (N := 45) hx hb hts hi12 tyX12 tyX12_ok nmX12 hown hK hP hD hS 0 rfl rfl 0 (by decide) (hts (.fieldLink RX12 80 "OverHillModel" "thrown" "I") (by decide +kernel)) (fun _ h9 => h9) rfl (by decide +kernel) rfl rfl (Nat.le_of_ble_eq_true rfl) dX12_end_2 (fun H locs hP hD hS => ?_)
  have hP : va_P D vwCl [mo h r 0 0] H := hP
  have hD : va_D A [mo h r 0 0] := hD
  refine lv_iload_n hx hb dX12_end_5 rfl (lv_at hl 1 rfl) ?_
  refine lv_i2l (v := x1.toInt64) hx hb dX12_end_6 rfl ?_
  refine lv_lconst (v := 0) hx hb dX12_end_7 (by decide) ?_
  refine lv_aload_n hx hb dX12_end_8 rfl (lv_at hl 0 rfl) ?_
  refine va_get (D := D) (ci := 12) (v := .int 0) (C := RX12) (T := TX12) (N := 45) hx hb hts hi12 hown hK hP 0 rfl rfl 6 (by decide) (hts (.fieldLink RX12 97 "OverHillModel" "taped" "I") (by decide +kernel)) (fun _ h9 => h9) rfl dX12_end_9 ?_
  refine lv_i2l (v := 0) hx hb dX12_end_12 (by decide) ?_
  refine ct_calli (D := D) (wc := (w_c_X12_in cI cJ cB cZ cO )) (wr := [mo h r 0 0]) (va_runS (As := [.long x1.toInt64, .long 0, .long 0]) (rest := []) ⟨hx, hb, hml, hown, hts⟩ (c_X12_in l D cI cJ cB cZ cO x1.toInt64 0 0 x1.toInt 0 0 (tl_i rfl) (by decide) (by decide) H.size) (va_cwS 3 hts gX12_end_X12_in rfl rfl rfl (by decide +kernel) ⟨Nat.le_of_ble_eq_true rfl, Nat.le_of_ble_eq_true rfl⟩) (ct_preS (T := ct_T cI cJ cB cZ cO) hE hP hD [] (by decide) rfl) rfl rfl hl.1 rfl (lv_room (Nat.le_of_ble_eq_true rfl)) dX12_end_13 ⟨Nat.le_of_ble_eq_true rfl, Nat.le_of_ble_eq_true rfl⟩) hP hD hS hA [] [0] rfl rfl (by decide) (by decide) (fun rz u H locs hw hP hD hS => ?_)
  have hP : va_P D vwCl [mo h r 0 0] H := hP
  have hD : va_D A [mo h r 0 0] := hD
  rcases hw with ⟨rfl, hq427⟩ | ⟨rfl, hq427⟩
  · refine lv_if_ne (tgt := 21) hx hb dX12_end_16 (by decide) (fun _ => ?_) (fun hc => absurd hc (by decide))
    refine lv_aload_n hx hb dX12_end_21 rfl (lv_at hl 0 rfl) ?_
    refine lv_iload_n hx hb dX12_end_22 rfl (lv_at hl 1 rfl) ?_
    refine va_put (D := D) (ci := 12) (v := .int x1) (ty := .int) (C := RX12) (T := TX12) (N := 45) hx hb hts hi12 tyX12 tyX12_ok nmX12 hown hK hP hD hS 0 rfl rfl 6 (by decide) (hts (.fieldLink RX12 97 "OverHillModel" "taped" "I") (by decide +kernel)) (fun _ h9 => h9) rfl (by decide +kernel) rfl rfl (Nat.le_of_ble_eq_true rfl) dX12_end_23 (fun H locs hP hD hS => ?_)
    have hP : va_P D vwCl [mo h r x1 0] H := hP
    have hD : va_D A [mo h r x1 0] := hD
    refine lv_iload_n hx hb dX12_end_26 rfl (lv_at hl 1 rfl) ?_
    have hP9 := hP.sub (ws' := []) [] rfl
    have hD9 := hD.sub (ws' := []) [] (by decide) rfl
    exact W.iret (v := x1) hx hb hr (fun t ht hW => ⟨⟨x1, (), rfl, (Or.inl ⟨tq_of (a := 0) (by omega) (by decide), by omega⟩), by rw [ht]; exact hP9, hD9⟩, hS.F ht⟩) hS.2.2 dX12_end_27
  · refine lv_if_ne (tgt := 21) hx hb dX12_end_16 (by decide) (fun hc => absurd hc (by decide)) (fun _ => ?_)
    refine lv_iconst (v := (-1)) hx hb dX12_end_19 (by decide) ?_
    have hP9 := hP.sub (ws' := []) [] rfl
    have hD9 := hD.sub (ws' := []) [] (by decide) rfl
    exact W.iret (v := (-1)) hx hb hr (fun t ht hW => ⟨⟨(-1), (), rfl, (Or.inr (⟨rfl, by omega⟩)), by rw [ht]; exact hP9, hD9⟩, hS.F ht⟩) hS.2.2 dX12_end_20
abbrev w_c_X12_fault (cI cJ cB cZ cO : ClassId) (h : Nat) (r : Nat → Nat) : va_W := [mo h r 0 0]
set_option maxHeartbeats 4000000 in
set_option maxRecDepth 100000 in
/-- fault, of the reference, on a new object -/
theorem c_X12_fault (l : Launch) (D : va_G) (cI cJ cB cZ cO : ClassId) (h : Nat) (r : Nat → Nat) (x1 : Int32) (sz : Nat) : Met l yX12_fault wsX12_fault ({ frames := 0, cells := 0, slots := 0, locals := 0 }) (va_Pc [.ref h, .int x1] (ct_P D (ct_T cI cJ cB cZ cO) (w_c_X12_fault cI cJ cB cZ cO h r) sz)) (va_Qi (fun (rz : Int32) (u : Unit) => (rz = 0 ∧ x1.toInt = 0) ∨ (rz = (-1) ∧ x1.toInt ≠ 0)) (fun (u : Unit) t => ct_Q D (va_A (w_c_X12_fault cI cJ cB cZ cO h r) sz) [] t) (va_A (w_c_X12_fault cI cJ cB cZ cO h r) sz)) 0 0 (va_A (w_c_X12_fault cI cJ cB cZ cO h r) sz) := by
  refine Met.ofW (cc := cX12_fault) (maxL := 2) (ret := (some .int)) (by decide) rfl ?_
  intro p e s m args below meth c s₁ B hml hv
  obtain ⟨rfl, hsz, hP, hE, hD0⟩ := hv
  have hx := B.exec
  have hb := B.bytes
  have hr := B.returns
  have hts := atoms_spec (ws := wsX12_fault) B.pre
  have hown : s.vm.findClass RX12 = some m.cls := findClass_of_methodNamed B.named
  have hlocks := B.notSynchronized
  have hK := hE.1
  have hi12 : ∀ w ∈ u_ws RX12 TX12 45, w ∈ wsX12_fault := fun w h => List.mem_cons_of_mem _ (List.mem_append_right _ h)
  subst hsz
  have hD := hD0.self (sz := s.heap.size)
  generalize hAe : va_A (w_c_X12_fault cI cJ cB cZ cO h r) s.heap.size = A at hD ⊢
  have hA : ∀ q : Nat, s.heap.size ≤ q → A q := fun q h => by rw [← hAe]; exact Or.inr h
  have hS : va_S A s.heap s.heap [] := va_S.rf
  have hP : va_P D vwCl [mo h r 0 0] s.heap := hP
  have hD : va_D A [mo h r 0 0] := hD
  have hl := lv_entry ([.ref h, .int x1]) (n := 2) (Nat.le_of_ble_eq_true rfl)
  rw [lg_entry_eq]
  generalize (lg_sl ([.ref h, .int x1]) ++ List.replicate (2 - (lg_sl ([.ref h, .int x1])).length) Slot.unset).toArray = ls at hl ⊢
  have hl : lv_has ls 2 [(0, .ref h), (1, .int x1)] := hl
  obtain ⟨H, hHe⟩ : ∃ H : Heap, H = s.heap := ⟨_, rfl⟩
  rw [← hHe] at hP
  have hS : va_S A s.heap H [] := by rw [hHe]; exact va_S.rf
  refine ct_start hHe ?_
  refine lv_aload_n hx hb dX12_fault_0 rfl (lv_at hl 0 rfl) ?_
  refine lv_iconst (v := 0) hx hb dX12_fault_1 (by decide) ?_
  refine va_put (D := D) (ci := 12) (v := .int 0) (ty := .int) (C := RX12) (T := TX12) (N := 45) hx hb hts hi12 tyX12 tyX12_ok nmX12 hown hK hP hD hS 0 rfl rfl 0 (by decide) (hts (.fieldLink RX12 80 "OverHillModel" "thrown" "I") (by decide +kernel)) (fun _ h9 => h9) rfl (by decide +kernel) rfl rfl (Nat.le_of_ble_eq_true rfl) dX12_fault_2 (fun H locs hP hD hS => ?_)
  have hP : va_P D vwCl [mo h r 0 0] H := hP
  have hD : va_D A [mo h r 0 0] := hD
  refine lv_iload_n hx hb dX12_fault_5 rfl (lv_at hl 1 rfl) ?_
  refine lv_if_ne (tgt := 16) hx hb dX12_fault_6 (by decide) (fun hc => ?_) (fun hc => ?_)
  · have hq428 : x1.toInt ≠ 0 := tq_ne rfl (by decide) hc
    refine lv_iload_n hx hb dX12_fault_16 rfl (lv_at hl 1 rfl) ?_
    refine lv_iconst (v := 1) hx hb dX12_fault_17 (by decide) ?_
    refine lv_icmp_ne (tgt := 28) hx hb dX12_fault_18 (by decide) (fun hc => ?_) (fun hc => ?_)
    · have hq429 : x1.toInt ≠ 1 := tq_ne rfl (by decide) hc
      refine lv_iconst (v := (-1)) hx hb dX12_fault_28 (by decide) ?_
      have hP9 := hP.sub (ws' := []) [] rfl
      have hD9 := hD.sub (ws' := []) [] (by decide) rfl
      exact W.iret (v := (-1)) hx hb hr (fun t ht hW => ⟨⟨(-1), (), rfl, (Or.inr (⟨rfl, by omega⟩)), by rw [ht]; exact hP9, hD9⟩, hS.F ht⟩) hS.2.2 dX12_fault_29
    · have hq429 : x1.toInt = 1 := tq_eq rfl (by decide) hc
      refine lv_aload_n hx hb dX12_fault_21 rfl (lv_at hl 0 rfl) ?_
      refine va_get (D := D) (ci := 12) (v := .int (-1)) (C := RX12) (T := TX12) (N := 45) hx hb hts hi12 hown hK hP 0 rfl rfl 15 (by decide) (hts (.fieldLink RX12 27 "OverHillModel" "faultPlace" "I") (by decide +kernel)) (fun _ h9 => h9) rfl dX12_fault_22 ?_
      refine lv_goto (tgt := 29) hx hb dX12_fault_25 (by decide) ?_
      have hP9 := hP.sub (ws' := []) [] rfl
      have hD9 := hD.sub (ws' := []) [] (by decide) rfl
      exact W.iret (v := (-1)) hx hb hr (fun t ht hW => ⟨⟨(-1), (), rfl, (Or.inr (⟨rfl, by omega⟩)), by rw [ht]; exact hP9, hD9⟩, hS.F ht⟩) hS.2.2 dX12_fault_29
  · have hq428 : x1.toInt = 0 := tq_eq rfl (by decide) hc
    refine lv_aload_n hx hb dX12_fault_9 rfl (lv_at hl 0 rfl) ?_
    refine va_get (D := D) (ci := 12) (v := .int 0) (C := RX12) (T := TX12) (N := 45) hx hb hts hi12 hown hK hP 0 rfl rfl 14 (by decide) (hts (.fieldLink RX12 159 "OverHillModel" "fault" "I") (by decide +kernel)) (fun _ h9 => h9) rfl dX12_fault_10 ?_
    refine lv_goto (tgt := 29) hx hb dX12_fault_13 (by decide) ?_
    have hP9 := hP.sub (ws' := []) [] rfl
    have hD9 := hD.sub (ws' := []) [] (by decide) rfl
    exact W.iret (v := 0) hx hb hr (fun t ht hW => ⟨⟨0, (), rfl, (Or.inl ⟨rfl, by omega⟩), by rw [ht]; exact hP9, hD9⟩, hS.F ht⟩) hS.2.2 dX12_fault_29
abbrev w_c_X12_half (cI cJ cB cZ cO : ClassId) (h : Nat) (r : Nat → Nat) : va_W := [mo h r 0 0, ((r 1), .inl (cI, 4, .inl (szf)))]
set_option maxHeartbeats 4000000 in
set_option maxRecDepth 100000 in
/-- half, of the reference, on a new object -/
theorem c_X12_half (l : Launch) (D : va_G) (cI cJ cB cZ cO : ClassId) (h : Nat) (r : Nat → Nat) (x1 : Int32) (sz : Nat) : Met l yX12_half wsX12_half ({ frames := 3, cells := 0, slots := 0, locals := 67 }) (va_Pc [.ref h, .int x1] (ct_P D (ct_T cI cJ cB cZ cO) (w_c_X12_half cI cJ cB cZ cO h r) sz)) (va_Qi (fun (rz : Int32) (u : Unit) => (rz = (-6) ∧ (0 ≤ x1.toInt ∧ x1.toInt < 4)) ∨ (rz = (-2) ∧ ¬ (0 ≤ x1.toInt ∧ x1.toInt < 4))) (fun (u : Unit) t => ct_Q D (va_A (w_c_X12_half cI cJ cB cZ cO h r) sz) [] t) (va_A (w_c_X12_half cI cJ cB cZ cO h r) sz)) 0 0 (va_A (w_c_X12_half cI cJ cB cZ cO h r) sz) := by
  refine Met.ofW (cc := cX12_half) (maxL := 3) (ret := (some .int)) (by decide) rfl ?_
  intro p e s m args below meth c s₁ B hml hv
  obtain ⟨rfl, hsz, hP, hE, hD0⟩ := hv
  have hx := B.exec
  have hb := B.bytes
  have hr := B.returns
  have hts := atoms_spec (ws := wsX12_half) B.pre
  have hown : s.vm.findClass RX12 = some m.cls := findClass_of_methodNamed B.named
  have hlocks := B.notSynchronized
  have hK := hE.1
  have hi12 : ∀ w ∈ u_ws RX12 TX12 45, w ∈ wsX12_half := fun w h => List.mem_cons_of_mem _ (List.mem_append_right _ h)
  subst hsz
  have hD := hD0.self (sz := s.heap.size)
  generalize hAe : va_A (w_c_X12_half cI cJ cB cZ cO h r) s.heap.size = A at hD ⊢
  have hA : ∀ q : Nat, s.heap.size ≤ q → A q := fun q h => by rw [← hAe]; exact Or.inr h
  have hS : va_S A s.heap s.heap [] := va_S.rf
  have hP : va_P D vwCl [mo h r 0 0, ((r 1), .inl (cI, 4, .inl (szf)))] s.heap := hP
  have hD : va_D A [mo h r 0 0, ((r 1), .inl (cI, 4, .inl (szf)))] := hD
  have hl := lv_entry ([.ref h, .int x1]) (n := 3) (Nat.le_of_ble_eq_true rfl)
  rw [lg_entry_eq]
  generalize (lg_sl ([.ref h, .int x1]) ++ List.replicate (3 - (lg_sl ([.ref h, .int x1])).length) Slot.unset).toArray = ls at hl ⊢
  have hl : lv_has ls 3 [(0, .ref h), (1, .int x1)] := hl
  obtain ⟨H, hHe⟩ : ∃ H : Heap, H = s.heap := ⟨_, rfl⟩
  rw [← hHe] at hP
  have hS : va_S A s.heap H [] := by rw [hHe]; exact va_S.rf
  refine ct_start hHe ?_
  refine lv_aload_n hx hb dX12_half_0 rfl (lv_at hl 0 rfl) ?_
  refine lv_iconst (v := 0) hx hb dX12_half_1 (by decide) ?_
  refine va_put (D := D) (ci := 12) (v := .int 0) (ty := .int) (C := RX12) (T := TX12) (N := 45) hx hb hts hi12 tyX12 tyX12_ok nmX12 hown hK hP hD hS 0 rfl rfl 0 (by decide) (hts (.fieldLink RX12 80 "OverHillModel" "thrown" "I") (by decide +kernel)) (fun _ h9 => h9) rfl (by decide +kernel) rfl rfl (Nat.le_of_ble_eq_true rfl) dX12_half_2 (fun H locs hP hD hS => ?_)
  have hP : va_P D vwCl [mo h r 0 0, ((r 1), .inl (cI, 4, .inl (szf)))] H := hP
  have hD : va_D A [mo h r 0 0, ((r 1), .inl (cI, 4, .inl (szf)))] := hD
  refine lv_aload_n hx hb dX12_half_5 rfl (lv_at hl 0 rfl) ?_
  refine lv_iload_n hx hb dX12_half_6 rfl (lv_at hl 1 rfl) ?_
  refine ct_calli (D := D) (wc := (w_c_X12_whyNotHalf cI cJ cB cZ cO h r)) (wr := []) (va_runV (As := [.int x1]) (rest := []) ⟨hx, hb, hml, hown, hts⟩ (c_X12_whyNotHalf l D cI cJ cB cZ cO h r x1 H.size) (cwV 1 hts gX12_half_X12_whyNotHalf rfl rfl rfl (by decide +kernel) ⟨Nat.le_of_ble_eq_true rfl, Nat.le_of_ble_eq_true rfl⟩) (ct_preV (T := ct_T cI cJ cB cZ cO) (ci := 12) (q0 := 0) hE hP hD [0, 1] (by decide) rfl rfl rfl) rfl rfl hl.1 rfl (lv_room (Nat.le_of_ble_eq_true rfl)) dX12_half_7 ⟨Nat.le_of_ble_eq_true rfl, Nat.le_of_ble_eq_true rfl⟩) hP hD hS hA [0, 1] [] rfl rfl (by decide) (by decide) (fun rz u H locs hw hP hD hS => ?_)
  have hP : va_P D vwCl [mo h r 0 0, ((r 1), .inl (cI, 4, .inl (szf)))] H := hP
  have hD : va_D A [mo h r 0 0, ((r 1), .inl (cI, 4, .inl (szf)))] := hD
  rcases hw with ⟨rfl, hq430⟩ | ⟨rfl, hq430⟩
  · refine lv_istore_n (lv' := [(2, .int (-6)), (0, .ref h), (1, .int x1)]) hx hb dX12_half_10 rfl hl (by decide) rfl (fun ls hl => ?_)
    refine lv_iload_n hx hb dX12_half_11 rfl (lv_at hl 0 rfl) ?_
    refine lv_if_eq (tgt := 19) hx hb dX12_half_12 (by decide) (fun hc => absurd hc (by decide)) (fun _ => ?_)
    refine lv_iload_n hx hb dX12_half_15 rfl (lv_at hl 0 rfl) ?_
    refine lv_goto (tgt := 24) hx hb dX12_half_16 (by decide) ?_
    have hP9 := hP.sub (ws' := []) [] rfl
    have hD9 := hD.sub (ws' := []) [] (by decide) rfl
    exact W.iret (v := (-6)) hx hb hr (fun t ht hW => ⟨⟨(-6), (), rfl, (Or.inl ⟨rfl, by omega⟩), by rw [ht]; exact hP9, hD9⟩, hS.F ht⟩) hS.2.2 dX12_half_24
  · refine lv_istore_n (lv' := [(2, .int (-2)), (0, .ref h), (1, .int x1)]) hx hb dX12_half_10 rfl hl (by decide) rfl (fun ls hl => ?_)
    refine lv_iload_n hx hb dX12_half_11 rfl (lv_at hl 0 rfl) ?_
    refine lv_if_eq (tgt := 19) hx hb dX12_half_12 (by decide) (fun hc => absurd hc (by decide)) (fun _ => ?_)
    refine lv_iload_n hx hb dX12_half_15 rfl (lv_at hl 0 rfl) ?_
    refine lv_goto (tgt := 24) hx hb dX12_half_16 (by decide) ?_
    have hP9 := hP.sub (ws' := []) [] rfl
    have hD9 := hD.sub (ws' := []) [] (by decide) rfl
    exact W.iret (v := (-2)) hx hb hr (fun t ht hW => ⟨⟨(-2), (), rfl, (Or.inr (⟨rfl, by omega⟩)), by rw [ht]; exact hP9, hD9⟩, hS.F ht⟩) hS.2.2 dX12_half_24
abbrev w_c_X12_fills (cI cJ cB cZ cO : ClassId) (h : Nat) (r : Nat → Nat) : va_W := [mo h r 0 0, ((r 1), .inl (cI, 4, .inl (szf)))]
set_option maxHeartbeats 4000000 in
set_option maxRecDepth 100000 in
/-- fills, of the reference, on a new object -/
theorem c_X12_fills (l : Launch) (D : va_G) (cI cJ cB cZ cO : ClassId) (h : Nat) (r : Nat → Nat) (x1 : Int32) (x2 : Int32) (sz : Nat) : Met l yX12_fills wsX12_fills ({ frames := 3, cells := 0, slots := 0, locals := 67 }) (va_Pc [.ref h, .int x1, .int x2] (ct_P D (ct_T cI cJ cB cZ cO) (w_c_X12_fills cI cJ cB cZ cO h r) sz)) (va_Qi (fun (rz : Int32) (u : Unit) => (rz = (-6) ∧ (0 ≤ x1.toInt ∧ x1.toInt < 4)) ∨ (rz = (-2) ∧ ¬ (0 ≤ x1.toInt ∧ x1.toInt < 4))) (fun (u : Unit) t => ct_Q D (va_A (w_c_X12_fills cI cJ cB cZ cO h r) sz) [] t) (va_A (w_c_X12_fills cI cJ cB cZ cO h r) sz)) 0 0 (va_A (w_c_X12_fills cI cJ cB cZ cO h r) sz) := by
  refine Met.ofW (cc := cX12_fills) (maxL := 4) (ret := (some .int)) (by decide) rfl ?_
  intro p e s m args below meth c s₁ B hml hv
  obtain ⟨rfl, hsz, hP, hE, hD0⟩ := hv
  have hx := B.exec
  have hb := B.bytes
  have hr := B.returns
  have hts := atoms_spec (ws := wsX12_fills) B.pre
  have hown : s.vm.findClass RX12 = some m.cls := findClass_of_methodNamed B.named
  have hlocks := B.notSynchronized
  have hK := hE.1
  have hi12 : ∀ w ∈ u_ws RX12 TX12 45, w ∈ wsX12_fills := fun w h => List.mem_cons_of_mem _ (List.mem_append_right _ h)
  subst hsz
  have hD := hD0.self (sz := s.heap.size)
  generalize hAe : va_A (w_c_X12_fills cI cJ cB cZ cO h r) s.heap.size = A at hD ⊢
  have hA : ∀ q : Nat, s.heap.size ≤ q → A q := fun q h => by rw [← hAe]; exact Or.inr h
  have hS : va_S A s.heap s.heap [] := va_S.rf
  have hP : va_P D vwCl [mo h r 0 0, ((r 1), .inl (cI, 4, .inl (szf)))] s.heap := hP
  have hD : va_D A [mo h r 0 0, ((r 1), .inl (cI, 4, .inl (szf)))] := hD
  have hl := lv_entry ([.ref h, .int x1, .int x2]) (n := 4) (Nat.le_of_ble_eq_true rfl)
  rw [lg_entry_eq]
  generalize (lg_sl ([.ref h, .int x1, .int x2]) ++ List.replicate (4 - (lg_sl ([.ref h, .int x1, .int x2])).length) Slot.unset).toArray = ls at hl ⊢
  have hl : lv_has ls 4 [(0, .ref h), (1, .int x1), (2, .int x2)] := hl
  obtain ⟨H, hHe⟩ : ∃ H : Heap, H = s.heap := ⟨_, rfl⟩
  rw [← hHe] at hP
  have hS : va_S A s.heap H [] := by rw [hHe]; exact va_S.rf
  refine ct_start hHe ?_
  refine lv_aload_n hx hb dX12_fills_0 rfl (lv_at hl 0 rfl) ?_
  refine lv_iconst (v := 0) hx hb dX12_fills_1 (by decide) ?_
  refine va_put (D := D) (ci := 12) (v := .int 0) (ty := .int) (C := RX12) (T := TX12) (N := 45) hx hb hts hi12 tyX12 tyX12_ok nmX12 hown hK hP hD hS 0 rfl rfl 0 (by decide) (hts (.fieldLink RX12 80 "OverHillModel" "thrown" "I") (by decide +kernel)) (fun _ h9 => h9) rfl (by decide +kernel) rfl rfl (Nat.le_of_ble_eq_true rfl) dX12_fills_2 (fun H locs hP hD hS => ?_)
  have hP : va_P D vwCl [mo h r 0 0, ((r 1), .inl (cI, 4, .inl (szf)))] H := hP
  have hD : va_D A [mo h r 0 0, ((r 1), .inl (cI, 4, .inl (szf)))] := hD
  refine lv_aload_n hx hb dX12_fills_5 rfl (lv_at hl 0 rfl) ?_
  refine lv_iload_n hx hb dX12_fills_6 rfl (lv_at hl 1 rfl) ?_
  refine ct_calli (D := D) (wc := (w_c_X12_whyNotHalf cI cJ cB cZ cO h r)) (wr := []) (va_runV (As := [.int x1]) (rest := []) ⟨hx, hb, hml, hown, hts⟩ (c_X12_whyNotHalf l D cI cJ cB cZ cO h r x1 H.size) (cwV 1 hts gX12_fills_X12_whyNotHalf rfl rfl rfl (by decide +kernel) ⟨Nat.le_of_ble_eq_true rfl, Nat.le_of_ble_eq_true rfl⟩) (ct_preV (T := ct_T cI cJ cB cZ cO) (ci := 12) (q0 := 0) hE hP hD [0, 1] (by decide) rfl rfl rfl) rfl rfl hl.1 rfl (lv_room (Nat.le_of_ble_eq_true rfl)) dX12_fills_7 ⟨Nat.le_of_ble_eq_true rfl, Nat.le_of_ble_eq_true rfl⟩) hP hD hS hA [0, 1] [] rfl rfl (by decide) (by decide) (fun rz u H locs hw hP hD hS => ?_)
  have hP : va_P D vwCl [mo h r 0 0, ((r 1), .inl (cI, 4, .inl (szf)))] H := hP
  have hD : va_D A [mo h r 0 0, ((r 1), .inl (cI, 4, .inl (szf)))] := hD
  rcases hw with ⟨rfl, hq431⟩ | ⟨rfl, hq431⟩
  · refine lv_istore_n (lv' := [(3, .int (-6)), (0, .ref h), (1, .int x1), (2, .int x2)]) hx hb dX12_fills_10 rfl hl (by decide) rfl (fun ls hl => ?_)
    refine lv_iload_n hx hb dX12_fills_11 rfl (lv_at hl 0 rfl) ?_
    refine lv_if_eq (tgt := 17) hx hb dX12_fills_12 (by decide) (fun hc => absurd hc (by decide)) (fun _ => ?_)
    refine lv_iload_n hx hb dX12_fills_15 rfl (lv_at hl 0 rfl) ?_
    have hP9 := hP.sub (ws' := []) [] rfl
    have hD9 := hD.sub (ws' := []) [] (by decide) rfl
    exact W.iret (v := (-6)) hx hb hr (fun t ht hW => ⟨⟨(-6), (), rfl, (Or.inl ⟨rfl, by omega⟩), by rw [ht]; exact hP9, hD9⟩, hS.F ht⟩) hS.2.2 dX12_fills_16
  · refine lv_istore_n (lv' := [(3, .int (-2)), (0, .ref h), (1, .int x1), (2, .int x2)]) hx hb dX12_fills_10 rfl hl (by decide) rfl (fun ls hl => ?_)
    refine lv_iload_n hx hb dX12_fills_11 rfl (lv_at hl 0 rfl) ?_
    refine lv_if_eq (tgt := 17) hx hb dX12_fills_12 (by decide) (fun hc => absurd hc (by decide)) (fun _ => ?_)
    refine lv_iload_n hx hb dX12_fills_15 rfl (lv_at hl 0 rfl) ?_
    have hP9 := hP.sub (ws' := []) [] rfl
    have hD9 := hD.sub (ws' := []) [] (by decide) rfl
    exact W.iret (v := (-2)) hx hb hr (fun t ht hW => ⟨⟨(-2), (), rfl, (Or.inr (⟨rfl, by omega⟩)), by rw [ht]; exact hP9, hD9⟩, hS.F ht⟩) hS.2.2 dX12_fills_16
abbrev w_c_X12_open (cI cJ cB cZ cO : ClassId) (h : Nat) (r : Nat → Nat) : va_W := [mo h r 0 0, ((r 1), .inl (cI, 4, .inl (szf)))]
set_option maxHeartbeats 4000000 in
set_option maxRecDepth 100000 in
/-- open, of the reference, on a new object -/
theorem c_X12_open (l : Launch) (D : va_G) (cI cJ cB cZ cO : ClassId) (h : Nat) (r : Nat → Nat) (x1 : Int32) (sz : Nat) : Met l yX12_open wsX12_open ({ frames := 3, cells := 0, slots := 0, locals := 67 }) (va_Pc [.ref h, .int x1] (ct_P D (ct_T cI cJ cB cZ cO) (w_c_X12_open cI cJ cB cZ cO h r) sz)) (va_Qi (fun (rz : Int32) (u : Unit) => (rz = (-6) ∧ (0 ≤ x1.toInt ∧ x1.toInt < 4)) ∨ (rz = (-2) ∧ ¬ (0 ≤ x1.toInt ∧ x1.toInt < 4))) (fun (u : Unit) t => ct_Q D (va_A (w_c_X12_open cI cJ cB cZ cO h r) sz) [] t) (va_A (w_c_X12_open cI cJ cB cZ cO h r) sz)) 0 0 (va_A (w_c_X12_open cI cJ cB cZ cO h r) sz) := by
  refine Met.ofW (cc := cX12_open) (maxL := 6) (ret := (some .int)) (by decide) rfl ?_
  intro p e s m args below meth c s₁ B hml hv
  obtain ⟨rfl, hsz, hP, hE, hD0⟩ := hv
  have hx := B.exec
  have hb := B.bytes
  have hr := B.returns
  have hts := atoms_spec (ws := wsX12_open) B.pre
  have hown : s.vm.findClass RX12 = some m.cls := findClass_of_methodNamed B.named
  have hlocks := B.notSynchronized
  have hK := hE.1
  have hi12 : ∀ w ∈ u_ws RX12 TX12 45, w ∈ wsX12_open := fun w h => List.mem_cons_of_mem _ (List.mem_append_right _ h)
  subst hsz
  have hD := hD0.self (sz := s.heap.size)
  generalize hAe : va_A (w_c_X12_open cI cJ cB cZ cO h r) s.heap.size = A at hD ⊢
  have hA : ∀ q : Nat, s.heap.size ≤ q → A q := fun q h => by rw [← hAe]; exact Or.inr h
  have hS : va_S A s.heap s.heap [] := va_S.rf
  have hP : va_P D vwCl [mo h r 0 0, ((r 1), .inl (cI, 4, .inl (szf)))] s.heap := hP
  have hD : va_D A [mo h r 0 0, ((r 1), .inl (cI, 4, .inl (szf)))] := hD
  have hl := lv_entry ([.ref h, .int x1]) (n := 6) (Nat.le_of_ble_eq_true rfl)
  rw [lg_entry_eq]
  generalize (lg_sl ([.ref h, .int x1]) ++ List.replicate (6 - (lg_sl ([.ref h, .int x1])).length) Slot.unset).toArray = ls at hl ⊢
  have hl : lv_has ls 6 [(0, .ref h), (1, .int x1)] := hl
  obtain ⟨H, hHe⟩ : ∃ H : Heap, H = s.heap := ⟨_, rfl⟩
  rw [← hHe] at hP
  have hS : va_S A s.heap H [] := by rw [hHe]; exact va_S.rf
  refine ct_start hHe ?_
  refine lv_aload_n hx hb dX12_open_0 rfl (lv_at hl 0 rfl) ?_
  refine lv_iconst (v := 0) hx hb dX12_open_1 (by decide) ?_
  refine va_put (D := D) (ci := 12) (v := .int 0) (ty := .int) (C := RX12) (T := TX12) (N := 45) hx hb hts hi12 tyX12 tyX12_ok nmX12 hown hK hP hD hS 0 rfl rfl 0 (by decide) (hts (.fieldLink RX12 80 "OverHillModel" "thrown" "I") (by decide +kernel)) (fun _ h9 => h9) rfl (by decide +kernel) rfl rfl (Nat.le_of_ble_eq_true rfl) dX12_open_2 (fun H locs hP hD hS => ?_)
  have hP : va_P D vwCl [mo h r 0 0, ((r 1), .inl (cI, 4, .inl (szf)))] H := hP
  have hD : va_D A [mo h r 0 0, ((r 1), .inl (cI, 4, .inl (szf)))] := hD
  refine lv_aload_n hx hb dX12_open_5 rfl (lv_at hl 0 rfl) ?_
  refine lv_iload_n hx hb dX12_open_6 rfl (lv_at hl 1 rfl) ?_
  refine ct_calli (D := D) (wc := (w_c_X12_whyNotHalf cI cJ cB cZ cO h r)) (wr := []) (va_runV (As := [.int x1]) (rest := []) ⟨hx, hb, hml, hown, hts⟩ (c_X12_whyNotHalf l D cI cJ cB cZ cO h r x1 H.size) (cwV 1 hts gX12_open_X12_whyNotHalf rfl rfl rfl (by decide +kernel) ⟨Nat.le_of_ble_eq_true rfl, Nat.le_of_ble_eq_true rfl⟩) (ct_preV (T := ct_T cI cJ cB cZ cO) (ci := 12) (q0 := 0) hE hP hD [0, 1] (by decide) rfl rfl rfl) rfl rfl hl.1 rfl (lv_room (Nat.le_of_ble_eq_true rfl)) dX12_open_7 ⟨Nat.le_of_ble_eq_true rfl, Nat.le_of_ble_eq_true rfl⟩) hP hD hS hA [0, 1] [] rfl rfl (by decide) (by decide) (fun rz u H locs hw hP hD hS => ?_)
  have hP : va_P D vwCl [mo h r 0 0, ((r 1), .inl (cI, 4, .inl (szf)))] H := hP
  have hD : va_D A [mo h r 0 0, ((r 1), .inl (cI, 4, .inl (szf)))] := hD
  rcases hw with ⟨rfl, hq432⟩ | ⟨rfl, hq432⟩
  · refine lv_istore_n (lv' := [(2, .int (-6)), (0, .ref h), (1, .int x1)]) hx hb dX12_open_10 rfl hl (by decide) rfl (fun ls hl => ?_)
    refine lv_iload_n hx hb dX12_open_11 rfl (lv_at hl 0 rfl) ?_
    refine lv_if_eq (tgt := 17) hx hb dX12_open_12 (by decide) (fun hc => absurd hc (by decide)) (fun _ => ?_)
    refine lv_iload_n hx hb dX12_open_15 rfl (lv_at hl 0 rfl) ?_
    have hP9 := hP.sub (ws' := []) [] rfl
    have hD9 := hD.sub (ws' := []) [] (by decide) rfl
    exact W.iret (v := (-6)) hx hb hr (fun t ht hW => ⟨⟨(-6), (), rfl, (Or.inl ⟨rfl, by omega⟩), by rw [ht]; exact hP9, hD9⟩, hS.F ht⟩) hS.2.2 dX12_open_16
  · refine lv_istore_n (lv' := [(2, .int (-2)), (0, .ref h), (1, .int x1)]) hx hb dX12_open_10 rfl hl (by decide) rfl (fun ls hl => ?_)
    refine lv_iload_n hx hb dX12_open_11 rfl (lv_at hl 0 rfl) ?_
    refine lv_if_eq (tgt := 17) hx hb dX12_open_12 (by decide) (fun hc => absurd hc (by decide)) (fun _ => ?_)
    refine lv_iload_n hx hb dX12_open_15 rfl (lv_at hl 0 rfl) ?_
    have hP9 := hP.sub (ws' := []) [] rfl
    have hD9 := hD.sub (ws' := []) [] (by decide) rfl
    exact W.iret (v := (-2)) hx hb hr (fun t ht hW => ⟨⟨(-2), (), rfl, (Or.inr (⟨rfl, by omega⟩)), by rw [ht]; exact hP9, hD9⟩, hS.F ht⟩) hS.2.2 dX12_open_16
abbrev w_c_X12_write (cI cJ cB cZ cO : ClassId) (h : Nat) (r : Nat → Nat) : va_W := [mo h r 0 0, ((r 1), .inl (cI, 4, .inl (szf)))]
set_option maxHeartbeats 4000000 in
set_option maxRecDepth 100000 in
/-- write, of the reference, on a new object -/
theorem c_X12_write (l : Launch) (D : va_G) (cI cJ cB cZ cO : ClassId) (h : Nat) (r : Nat → Nat) (x1 : Int32) (x2 : Int32) (x3 : Int64) (sz : Nat) : Met l yX12_write wsX12_write ({ frames := 2, cells := 0, slots := 0, locals := 45 }) (va_Pc [.ref h, .int x1, .int x2, .long x3] (ct_P D (ct_T cI cJ cB cZ cO) (w_c_X12_write cI cJ cB cZ cO h r) sz)) (va_Qi (fun (rz : Int32) (u : Unit) => (rz = (-6) ∧ (0 ≤ x1.toInt ∧ x1.toInt < 4)) ∨ (rz = (-2) ∧ ¬ (0 ≤ x1.toInt ∧ x1.toInt < 4))) (fun (u : Unit) t => ct_Q D (va_A (w_c_X12_write cI cJ cB cZ cO h r) sz) [] t) (va_A (w_c_X12_write cI cJ cB cZ cO h r) sz)) 0 0 (va_A (w_c_X12_write cI cJ cB cZ cO h r) sz) := by
  refine Met.ofW (cc := cX12_write) (maxL := 5) (ret := (some .int)) (by decide) rfl ?_
  intro p e s m args below meth c s₁ B hml hv
  obtain ⟨rfl, hsz, hP, hE, hD0⟩ := hv
  have hx := B.exec
  have hb := B.bytes
  have hr := B.returns
  have hts := atoms_spec (ws := wsX12_write) B.pre
  have hown : s.vm.findClass RX12 = some m.cls := findClass_of_methodNamed B.named
  have hlocks := B.notSynchronized
  have hK := hE.1
  have hi12 : ∀ w ∈ u_ws RX12 TX12 45, w ∈ wsX12_write := fun w h => List.mem_cons_of_mem _ (List.mem_append_right _ h)
  subst hsz
  have hD := hD0.self (sz := s.heap.size)
  generalize hAe : va_A (w_c_X12_write cI cJ cB cZ cO h r) s.heap.size = A at hD ⊢
  have hA : ∀ q : Nat, s.heap.size ≤ q → A q := fun q h => by rw [← hAe]; exact Or.inr h
  have hS : va_S A s.heap s.heap [] := va_S.rf
  have hP : va_P D vwCl [mo h r 0 0, ((r 1), .inl (cI, 4, .inl (szf)))] s.heap := hP
  have hD : va_D A [mo h r 0 0, ((r 1), .inl (cI, 4, .inl (szf)))] := hD
  have hl := lv_entry ([.ref h, .int x1, .int x2, .long x3]) (n := 5) (Nat.le_of_ble_eq_true rfl)
  rw [lg_entry_eq]
  generalize (lg_sl ([.ref h, .int x1, .int x2, .long x3]) ++ List.replicate (5 - (lg_sl ([.ref h, .int x1, .int x2, .long x3])).length) Slot.unset).toArray = ls at hl ⊢
  have hl : lv_has ls 5 [(0, .ref h), (1, .int x1), (2, .int x2), (3, .long x3)] := hl
  obtain ⟨H, hHe⟩ : ∃ H : Heap, H = s.heap := ⟨_, rfl⟩
  rw [← hHe] at hP
  have hS : va_S A s.heap H [] := by rw [hHe]; exact va_S.rf
  refine ct_start hHe ?_
  refine lv_aload_n hx hb dX12_write_0 rfl (lv_at hl 0 rfl) ?_
  refine lv_iconst (v := 0) hx hb dX12_write_1 (by decide) ?_
  refine va_put (D := D) (ci := 12) (v := .int 0) (ty := .int) (C := RX12) (T := TX12) (N := 45) hx hb hts hi12 tyX12 tyX12_ok nmX12 hown hK hP hD hS 0 rfl rfl 0 (by decide) (hts (.fieldLink RX12 80 "OverHillModel" "thrown" "I") (by decide +kernel)) (fun _ h9 => h9) rfl (by decide +kernel) rfl rfl (Nat.le_of_ble_eq_true rfl) dX12_write_2 (fun H locs hP hD hS => ?_)
  have hP : va_P D vwCl [mo h r 0 0, ((r 1), .inl (cI, 4, .inl (szf)))] H := hP
  have hD : va_D A [mo h r 0 0, ((r 1), .inl (cI, 4, .inl (szf)))] := hD
  refine lv_iload_n hx hb dX12_write_5 rfl (lv_at hl 1 rfl) ?_
  refine ct_calli (D := D) (wc := (w_c_X12_isSlot cI cJ cB cZ cO )) (wr := [mo h r 0 0, ((r 1), .inl (cI, 4, .inl (szf)))]) (va_runS (As := [.int x1]) (rest := []) ⟨hx, hb, hml, hown, hts⟩ (c_X12_isSlot l D cI cJ cB cZ cO x1 H.size) (va_cwS 1 hts gX12_write_X12_isSlot rfl rfl rfl (by decide +kernel) ⟨Nat.le_of_ble_eq_true rfl, Nat.le_of_ble_eq_true rfl⟩) (ct_preS (T := ct_T cI cJ cB cZ cO) hE hP hD [] (by decide) rfl) rfl rfl hl.1 rfl (lv_room (Nat.le_of_ble_eq_true rfl)) dX12_write_6 ⟨Nat.le_of_ble_eq_true rfl, Nat.le_of_ble_eq_true rfl⟩) hP hD hS hA [] [0, 1] rfl rfl (by decide) (by decide) (fun rz u H locs hw hP hD hS => ?_)
  have hP : va_P D vwCl [mo h r 0 0, ((r 1), .inl (cI, 4, .inl (szf)))] H := hP
  have hD : va_D A [mo h r 0 0, ((r 1), .inl (cI, 4, .inl (szf)))] := hD
  rcases hw with ⟨rfl, hq433⟩ | ⟨rfl, hq433⟩
  · refine lv_if_ne (tgt := 15) hx hb dX12_write_9 (by decide) (fun _ => ?_) (fun hc => absurd hc (by decide))
    refine lv_aload_n hx hb dX12_write_15 rfl (lv_at hl 0 rfl) ?_
    refine va_get (D := D) (ci := 12) (v := .ref (r 1)) (C := RX12) (T := TX12) (N := 45) hx hb hts hi12 hown hK hP 0 rfl rfl 1 (by decide) (hts (.fieldLink RX12 7 "OverHillModel" "width" "[I") (by decide +kernel)) (fun _ h9 => h9) rfl dX12_write_16 ?_
    refine lv_iload_n hx hb dX12_write_19 rfl (lv_at hl 1 rfl) ?_
    refine va_iald (D := D) hx hb hK hP 1 0 rfl rfl (tq_in rfl (by omega)) dX12_write_20 ?_
    refine lv_topi (fun z434 ez434 => ?_)
    obtain rfl : z434 = (-1) := ez434.trans (szf_m _ (tq_cl rfl (by omega) (by omega)))
    refine lv_iconst (v := (-1)) hx hb dX12_write_21 (by decide) ?_
    refine lv_icmp_ne (tgt := 28) hx hb dX12_write_22 (by decide) (fun hc => absurd hc (by decide)) (fun _ => ?_)
    refine lv_bipush (v := (-6)) hx hb dX12_write_25 (by decide) ?_
    have hP9 := hP.sub (ws' := []) [] rfl
    have hD9 := hD.sub (ws' := []) [] (by decide) rfl
    exact W.iret (v := (-6)) hx hb hr (fun t ht hW => ⟨⟨(-6), (), rfl, (Or.inl ⟨rfl, by omega⟩), by rw [ht]; exact hP9, hD9⟩, hS.F ht⟩) hS.2.2 dX12_write_27
  · refine lv_if_ne (tgt := 15) hx hb dX12_write_9 (by decide) (fun hc => absurd hc (by decide)) (fun _ => ?_)
    refine lv_bipush (v := (-2)) hx hb dX12_write_12 (by decide) ?_
    have hP9 := hP.sub (ws' := []) [] rfl
    have hD9 := hD.sub (ws' := []) [] (by decide) rfl
    exact W.iret (v := (-2)) hx hb hr (fun t ht hW => ⟨⟨(-2), (), rfl, (Or.inr (⟨rfl, by omega⟩)), by rw [ht]; exact hP9, hD9⟩, hS.F ht⟩) hS.2.2 dX12_write_14
abbrev w_c_X12_paste (cI cJ cB cZ cO : ClassId) (h : Nat) (r : Nat → Nat) : va_W := [mo h r 0 0, ((r 1), .inl (cI, 4, .inl (szf)))]
set_option maxHeartbeats 4000000 in
set_option maxRecDepth 100000 in
/-- paste, of the reference, on a new object -/
theorem c_X12_paste (l : Launch) (D : va_G) (cI cJ cB cZ cO : ClassId) (h : Nat) (r : Nat → Nat) (x1 : Int32) (x2 : Int32) (x3 : Int32) (x4 : Int32) (x5 : Int32) (sz : Nat) : Met l yX12_paste wsX12_paste ({ frames := 2, cells := 0, slots := 0, locals := 45 }) (va_Pc [.ref h, .int x1, .int x2, .int x3, .int x4, .int x5] (ct_P D (ct_T cI cJ cB cZ cO) (w_c_X12_paste cI cJ cB cZ cO h r) sz)) (va_Qi (fun (rz : Int32) (u : Unit) => (rz = (-6) ∧ ((0 ≤ x1.toInt ∧ x1.toInt < 4) ∧ (0 ≤ x3.toInt ∧ x3.toInt < 4))) ∨ (rz = (-2) ∧ ¬ ((0 ≤ x1.toInt ∧ x1.toInt < 4) ∧ (0 ≤ x3.toInt ∧ x3.toInt < 4)))) (fun (u : Unit) t => ct_Q D (va_A (w_c_X12_paste cI cJ cB cZ cO h r) sz) [] t) (va_A (w_c_X12_paste cI cJ cB cZ cO h r) sz)) 0 0 (va_A (w_c_X12_paste cI cJ cB cZ cO h r) sz) := by
  refine Met.ofW (cc := cX12_paste) (maxL := 7) (ret := (some .int)) (by decide) rfl ?_
  intro p e s m args below meth c s₁ B hml hv
  obtain ⟨rfl, hsz, hP, hE, hD0⟩ := hv
  have hx := B.exec
  have hb := B.bytes
  have hr := B.returns
  have hts := atoms_spec (ws := wsX12_paste) B.pre
  have hown : s.vm.findClass RX12 = some m.cls := findClass_of_methodNamed B.named
  have hlocks := B.notSynchronized
  have hK := hE.1
  have hi12 : ∀ w ∈ u_ws RX12 TX12 45, w ∈ wsX12_paste := fun w h => List.mem_cons_of_mem _ (List.mem_append_right _ h)
  subst hsz
  have hD := hD0.self (sz := s.heap.size)
  generalize hAe : va_A (w_c_X12_paste cI cJ cB cZ cO h r) s.heap.size = A at hD ⊢
  have hA : ∀ q : Nat, s.heap.size ≤ q → A q := fun q h => by rw [← hAe]; exact Or.inr h
  have hS : va_S A s.heap s.heap [] := va_S.rf
  have hP : va_P D vwCl [mo h r 0 0, ((r 1), .inl (cI, 4, .inl (szf)))] s.heap := hP
  have hD : va_D A [mo h r 0 0, ((r 1), .inl (cI, 4, .inl (szf)))] := hD
  have hl := lv_entry ([.ref h, .int x1, .int x2, .int x3, .int x4, .int x5]) (n := 7) (Nat.le_of_ble_eq_true rfl)
  rw [lg_entry_eq]
  generalize (lg_sl ([.ref h, .int x1, .int x2, .int x3, .int x4, .int x5]) ++ List.replicate (7 - (lg_sl ([.ref h, .int x1, .int x2, .int x3, .int x4, .int x5])).length) Slot.unset).toArray = ls at hl ⊢
  have hl : lv_has ls 7 [(0, .ref h), (1, .int x1), (2, .int x2), (3, .int x3), (4, .int x4), (5, .int x5)] := hl
  obtain ⟨H, hHe⟩ : ∃ H : Heap, H = s.heap := ⟨_, rfl⟩
  rw [← hHe] at hP
  have hS : va_S A s.heap H [] := by rw [hHe]; exact va_S.rf
  refine ct_start hHe ?_
  refine lv_aload_n hx hb dX12_paste_0 rfl (lv_at hl 0 rfl) ?_
  refine lv_iconst (v := 0) hx hb dX12_paste_1 (by decide) ?_
  refine va_put (D := D) (ci := 12) (v := .int 0) (ty := .int) (C := RX12) (T := TX12) (N := 45) hx hb hts hi12 tyX12 tyX12_ok nmX12 hown hK hP hD hS 0 rfl rfl 0 (by decide) (hts (.fieldLink RX12 80 "OverHillModel" "thrown" "I") (by decide +kernel)) (fun _ h9 => h9) rfl (by decide +kernel) rfl rfl (Nat.le_of_ble_eq_true rfl) dX12_paste_2 (fun H locs hP hD hS => ?_)
  have hP : va_P D vwCl [mo h r 0 0, ((r 1), .inl (cI, 4, .inl (szf)))] H := hP
  have hD : va_D A [mo h r 0 0, ((r 1), .inl (cI, 4, .inl (szf)))] := hD
  refine lv_iload_n hx hb dX12_paste_5 rfl (lv_at hl 1 rfl) ?_
  refine ct_calli (D := D) (wc := (w_c_X12_isSlot cI cJ cB cZ cO )) (wr := [mo h r 0 0, ((r 1), .inl (cI, 4, .inl (szf)))]) (va_runS (As := [.int x1]) (rest := []) ⟨hx, hb, hml, hown, hts⟩ (c_X12_isSlot l D cI cJ cB cZ cO x1 H.size) (va_cwS 1 hts gX12_paste_X12_isSlot rfl rfl rfl (by decide +kernel) ⟨Nat.le_of_ble_eq_true rfl, Nat.le_of_ble_eq_true rfl⟩) (ct_preS (T := ct_T cI cJ cB cZ cO) hE hP hD [] (by decide) rfl) rfl rfl hl.1 rfl (lv_room (Nat.le_of_ble_eq_true rfl)) dX12_paste_6 ⟨Nat.le_of_ble_eq_true rfl, Nat.le_of_ble_eq_true rfl⟩) hP hD hS hA [] [0, 1] rfl rfl (by decide) (by decide) (fun rz u H locs hw hP hD hS => ?_)
  have hP : va_P D vwCl [mo h r 0 0, ((r 1), .inl (cI, 4, .inl (szf)))] H := hP
  have hD : va_D A [mo h r 0 0, ((r 1), .inl (cI, 4, .inl (szf)))] := hD
  rcases hw with ⟨rfl, hq435⟩ | ⟨rfl, hq435⟩
  · refine lv_if_eq (tgt := 19) hx hb dX12_paste_9 (by decide) (fun hc => absurd hc (by decide)) (fun _ => ?_)
    refine lv_iload_n hx hb dX12_paste_12 rfl (lv_at hl 3 rfl) ?_
    refine ct_calli (D := D) (wc := (w_c_X12_isSlot cI cJ cB cZ cO )) (wr := [mo h r 0 0, ((r 1), .inl (cI, 4, .inl (szf)))]) (va_runS (As := [.int x3]) (rest := []) ⟨hx, hb, hml, hown, hts⟩ (c_X12_isSlot l D cI cJ cB cZ cO x3 H.size) (va_cwS 1 hts gX12_paste_X12_isSlot rfl rfl rfl (by decide +kernel) ⟨Nat.le_of_ble_eq_true rfl, Nat.le_of_ble_eq_true rfl⟩) (ct_preS (T := ct_T cI cJ cB cZ cO) hE hP hD [] (by decide) rfl) rfl rfl hl.1 rfl (lv_room (Nat.le_of_ble_eq_true rfl)) dX12_paste_13 ⟨Nat.le_of_ble_eq_true rfl, Nat.le_of_ble_eq_true rfl⟩) hP hD hS hA [] [0, 1] rfl rfl (by decide) (by decide) (fun rz u H locs hw hP hD hS => ?_)
    have hP : va_P D vwCl [mo h r 0 0, ((r 1), .inl (cI, 4, .inl (szf)))] H := hP
    have hD : va_D A [mo h r 0 0, ((r 1), .inl (cI, 4, .inl (szf)))] := hD
    rcases hw with ⟨rfl, hq436⟩ | ⟨rfl, hq436⟩
    · refine lv_if_ne (tgt := 22) hx hb dX12_paste_16 (by decide) (fun _ => ?_) (fun hc => absurd hc (by decide))
      refine lv_aload_n hx hb dX12_paste_22 rfl (lv_at hl 0 rfl) ?_
      refine va_get (D := D) (ci := 12) (v := .ref (r 1)) (C := RX12) (T := TX12) (N := 45) hx hb hts hi12 hown hK hP 0 rfl rfl 1 (by decide) (hts (.fieldLink RX12 7 "OverHillModel" "width" "[I") (by decide +kernel)) (fun _ h9 => h9) rfl dX12_paste_23 ?_
      refine lv_iload_n hx hb dX12_paste_26 rfl (lv_at hl 1 rfl) ?_
      refine va_iald (D := D) hx hb hK hP 1 0 rfl rfl (tq_in rfl (by omega)) dX12_paste_27 ?_
      refine lv_topi (fun z437 ez437 => ?_)
      obtain rfl : z437 = (-1) := ez437.trans (szf_m _ (tq_cl rfl (by omega) (by omega)))
      refine lv_iconst (v := (-1)) hx hb dX12_paste_28 (by decide) ?_
      refine lv_icmp_eq (tgt := 42) hx hb dX12_paste_29 (by decide) (fun _ => ?_) (fun hc => absurd hc (by decide))
      refine lv_bipush (v := (-6)) hx hb dX12_paste_42 (by decide) ?_
      have hP9 := hP.sub (ws' := []) [] rfl
      have hD9 := hD.sub (ws' := []) [] (by decide) rfl
      exact W.iret (v := (-6)) hx hb hr (fun t ht hW => ⟨⟨(-6), (), rfl, (Or.inl ⟨rfl, by omega⟩), by rw [ht]; exact hP9, hD9⟩, hS.F ht⟩) hS.2.2 dX12_paste_44
    · refine lv_if_ne (tgt := 22) hx hb dX12_paste_16 (by decide) (fun hc => absurd hc (by decide)) (fun _ => ?_)
      refine lv_bipush (v := (-2)) hx hb dX12_paste_19 (by decide) ?_
      have hP9 := hP.sub (ws' := []) [] rfl
      have hD9 := hD.sub (ws' := []) [] (by decide) rfl
      exact W.iret (v := (-2)) hx hb hr (fun t ht hW => ⟨⟨(-2), (), rfl, (Or.inr (⟨rfl, by omega⟩)), by rw [ht]; exact hP9, hD9⟩, hS.F ht⟩) hS.2.2 dX12_paste_21
  · refine lv_if_eq (tgt := 19) hx hb dX12_paste_9 (by decide) (fun _ => ?_) (fun hc => absurd hc (by decide))
    refine lv_bipush (v := (-2)) hx hb dX12_paste_19 (by decide) ?_
    have hP9 := hP.sub (ws' := []) [] rfl
    have hD9 := hD.sub (ws' := []) [] (by decide) rfl
    exact W.iret (v := (-2)) hx hb hr (fun t ht hW => ⟨⟨(-2), (), rfl, (Or.inr (⟨rfl, by omega⟩)), by rw [ht]; exact hP9, hD9⟩, hS.F ht⟩) hS.2.2 dX12_paste_21
abbrev w_c_X12_back (cI cJ cB cZ cO : ClassId) (h : Nat) (r : Nat → Nat) : va_W := [mo h r 0 0, ((r 25), .inl (cZ, 3, .inl (fun _ => 0)))]
set_option maxHeartbeats 4000000 in
set_option maxRecDepth 100000 in
/-- back, of the reference, on a new object -/
theorem c_X12_back (l : Launch) (D : va_G) (cI cJ cB cZ cO : ClassId) (h : Nat) (r : Nat → Nat) (x1 : Int32) (sz : Nat) : Met l yX12_back wsX12_back ({ frames := 1, cells := 0, slots := 0, locals := 25 }) (va_Pc [.ref h, .int x1] (ct_P D (ct_T cI cJ cB cZ cO) (w_c_X12_back cI cJ cB cZ cO h r) sz)) (va_Qi (fun (rz : Int32) (u : Unit) => (rz = (-6) ∧ (0 ≤ x1.toInt ∧ x1.toInt < 3)) ∨ (rz = (-2) ∧ ¬ (0 ≤ x1.toInt ∧ x1.toInt < 3))) (fun (u : Unit) t => ct_Q D (va_A (w_c_X12_back cI cJ cB cZ cO h r) sz) [] t) (va_A (w_c_X12_back cI cJ cB cZ cO h r) sz)) 0 0 (va_A (w_c_X12_back cI cJ cB cZ cO h r) sz) := by
  refine Met.ofW (cc := cX12_back) (maxL := 2) (ret := (some .int)) (by decide) rfl ?_
  intro p e s m args below meth c s₁ B hml hv
  obtain ⟨rfl, hsz, hP, hE, hD0⟩ := hv
  have hx := B.exec
  have hb := B.bytes
  have hr := B.returns
  have hts := atoms_spec (ws := wsX12_back) B.pre
  have hown : s.vm.findClass RX12 = some m.cls := findClass_of_methodNamed B.named
  have hlocks := B.notSynchronized
  have hK := hE.1
  have hi12 : ∀ w ∈ u_ws RX12 TX12 45, w ∈ wsX12_back := fun w h => List.mem_cons_of_mem _ (List.mem_append_right _ h)
  subst hsz
  have hD := hD0.self (sz := s.heap.size)
  generalize hAe : va_A (w_c_X12_back cI cJ cB cZ cO h r) s.heap.size = A at hD ⊢
  have hA : ∀ q : Nat, s.heap.size ≤ q → A q := fun q h => by rw [← hAe]; exact Or.inr h
  have hS : va_S A s.heap s.heap [] := va_S.rf
  have hP : va_P D vwCl [mo h r 0 0, ((r 25), .inl (cZ, 3, .inl (fun _ => 0)))] s.heap := hP
  have hD : va_D A [mo h r 0 0, ((r 25), .inl (cZ, 3, .inl (fun _ => 0)))] := hD
  have hl := lv_entry ([.ref h, .int x1]) (n := 2) (Nat.le_of_ble_eq_true rfl)
  rw [lg_entry_eq]
  generalize (lg_sl ([.ref h, .int x1]) ++ List.replicate (2 - (lg_sl ([.ref h, .int x1])).length) Slot.unset).toArray = ls at hl ⊢
  have hl : lv_has ls 2 [(0, .ref h), (1, .int x1)] := hl
  obtain ⟨H, hHe⟩ : ∃ H : Heap, H = s.heap := ⟨_, rfl⟩
  rw [← hHe] at hP
  have hS : va_S A s.heap H [] := by rw [hHe]; exact va_S.rf
  refine ct_start hHe ?_
  refine lv_aload_n hx hb dX12_back_0 rfl (lv_at hl 0 rfl) ?_
  refine lv_iconst (v := 0) hx hb dX12_back_1 (by decide) ?_
  refine va_put (D := D) (ci := 12) (v := .int 0) (ty := .int) (C := RX12) (T := TX12) (N := 45) hx hb hts hi12 tyX12 tyX12_ok nmX12 hown hK hP hD hS 0 rfl rfl 0 (by decide) (hts (.fieldLink RX12 80 "OverHillModel" "thrown" "I") (by decide +kernel)) (fun _ h9 => h9) rfl (by decide +kernel) rfl rfl (Nat.le_of_ble_eq_true rfl) dX12_back_2 (fun H locs hP hD hS => ?_)
  have hP : va_P D vwCl [mo h r 0 0, ((r 25), .inl (cZ, 3, .inl (fun _ => 0)))] H := hP
  have hD : va_D A [mo h r 0 0, ((r 25), .inl (cZ, 3, .inl (fun _ => 0)))] := hD
  refine lv_iload_n hx hb dX12_back_5 rfl (lv_at hl 1 rfl) ?_
  refine lv_i2l (v := x1.toInt64) hx hb dX12_back_6 rfl ?_
  refine lv_lconst (v := 0) hx hb dX12_back_7 (by decide) ?_
  refine lv_ldc2 (v := 2) hx hb hown (hts (.constantLong RX12 477 (2)) (by decide +kernel)) dX12_back_8 ?_
  refine ct_calli (D := D) (wc := (w_c_X12_in cI cJ cB cZ cO )) (wr := [mo h r 0 0, ((r 25), .inl (cZ, 3, .inl (fun _ => 0)))]) (va_runS (As := [.long x1.toInt64, .long 0, .long 2]) (rest := []) ⟨hx, hb, hml, hown, hts⟩ (c_X12_in l D cI cJ cB cZ cO x1.toInt64 0 2 x1.toInt 0 2 (tl_i rfl) (by decide) (by decide) H.size) (va_cwS 3 hts gX12_back_X12_in rfl rfl rfl (by decide +kernel) ⟨Nat.le_of_ble_eq_true rfl, Nat.le_of_ble_eq_true rfl⟩) (ct_preS (T := ct_T cI cJ cB cZ cO) hE hP hD [] (by decide) rfl) rfl rfl hl.1 rfl (lv_room (Nat.le_of_ble_eq_true rfl)) dX12_back_11 ⟨Nat.le_of_ble_eq_true rfl, Nat.le_of_ble_eq_true rfl⟩) hP hD hS hA [] [0, 1] rfl rfl (by decide) (by decide) (fun rz u H locs hw hP hD hS => ?_)
  have hP : va_P D vwCl [mo h r 0 0, ((r 25), .inl (cZ, 3, .inl (fun _ => 0)))] H := hP
  have hD : va_D A [mo h r 0 0, ((r 25), .inl (cZ, 3, .inl (fun _ => 0)))] := hD
  rcases hw with ⟨rfl, hq438⟩ | ⟨rfl, hq438⟩
  · refine lv_if_ne (tgt := 20) hx hb dX12_back_14 (by decide) (fun _ => ?_) (fun hc => absurd hc (by decide))
    refine lv_aload_n hx hb dX12_back_20 rfl (lv_at hl 0 rfl) ?_
    refine va_get (D := D) (ci := 12) (v := .ref (r 25)) (C := RX12) (T := TX12) (N := 45) hx hb hts hi12 hown hK hP 0 rfl rfl 25 (by decide) (hts (.fieldLink RX12 59 "OverHillModel" "isKept" "[Z") (by decide +kernel)) (fun _ h9 => h9) rfl dX12_back_21 ?_
    refine lv_iload_n hx hb dX12_back_24 rfl (lv_at hl 1 rfl) ?_
    refine va_zald (D := D) hx hb hK hP 1 3 rfl rfl (tq_in rfl (by omega)) dX12_back_25 ?_
    refine lv_topi (fun z439 ez439 => ?_)
    obtain rfl : z439 = 0 := ez439
    refine lv_if_ne (tgt := 32) hx hb dX12_back_26 (by decide) (fun hc => absurd hc (by decide)) (fun _ => ?_)
    refine lv_bipush (v := (-6)) hx hb dX12_back_29 (by decide) ?_
    have hP9 := hP.sub (ws' := []) [] rfl
    have hD9 := hD.sub (ws' := []) [] (by decide) rfl
    exact W.iret (v := (-6)) hx hb hr (fun t ht hW => ⟨⟨(-6), (), rfl, (Or.inl ⟨rfl, by omega⟩), by rw [ht]; exact hP9, hD9⟩, hS.F ht⟩) hS.2.2 dX12_back_31
  · refine lv_if_ne (tgt := 20) hx hb dX12_back_14 (by decide) (fun hc => absurd hc (by decide)) (fun _ => ?_)
    refine lv_bipush (v := (-2)) hx hb dX12_back_17 (by decide) ?_
    have hP9 := hP.sub (ws' := []) [] rfl
    have hD9 := hD.sub (ws' := []) [] (by decide) rfl
    exact W.iret (v := (-2)) hx hb hr (fun t ht hW => ⟨⟨(-2), (), rfl, (Or.inr (⟨rfl, by omega⟩)), by rw [ht]; exact hP9, hD9⟩, hS.F ht⟩) hS.2.2 dX12_back_19
