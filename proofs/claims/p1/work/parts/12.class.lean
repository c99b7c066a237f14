abbrev w_c_X8_push0 (cI cJ cB cZ cO : ClassId) (a : Nat) (b : Nat) (f : Nat → Int32) : va_W := [(a, .inr (8, [.ref b, .int 0, .int 0, .int 0, .int 0, .int 0])), (b, .inl (cB, 1200, .inl (f)))]
set_option maxHeartbeats 4000000 in
set_option maxRecDepth 100000 in
/-- four bytes more -/
theorem c_X8_push0 (l : Launch) (D : va_G) (cI cJ cB cZ cO : ClassId) (a : Nat) (b : Nat) (f : Nat → Int32) (v : Int32) (sz : Nat) : Met l yX8_push wsX8_push ({ frames := 0, cells := 0, slots := 0, locals := 0 }) (va_Pc [.ref a, .int v] (ct_P D (ct_T cI cJ cB cZ cO) (w_c_X8_push0 cI cJ cB cZ cO a b f) sz)) (va_Qv (fun (u : Nat → Int32) => True) (fun (u : Nat → Int32) t => ct_Q D (va_A (w_c_X8_push0 cI cJ cB cZ cO a b f) sz) [(a, .inr (8, [.ref b, .int 4, .int 0, .int 0, .int 0, .int 0])), (b, .inl (cB, 1200, .inl (u)))] t) (va_A (w_c_X8_push0 cI cJ cB cZ cO a b f) sz)) 0 0 (va_A (w_c_X8_push0 cI cJ cB cZ cO a b f) sz) := by
  refine Met.ofW (cc := cX8_push) (maxL := 3) (ret := none) (by decide) rfl ?_
  intro p e s m args below meth c s₁ B hml hv
  obtain ⟨rfl, hsz, hP, hE, hD0⟩ := hv
  have hx := B.exec
  have hb := B.bytes
  have hr := B.returns
  have hts := atoms_spec (ws := wsX8_push) B.pre
  have hown : s.vm.findClass RX8 = some m.cls := findClass_of_methodNamed B.named
  have hlocks := B.notSynchronized
  have hK := hE.1
  have hi8 : ∀ w ∈ u_ws RX8 TX8 6, w ∈ wsX8_push := fun w h => List.mem_cons_of_mem _ (List.mem_append_right _ h)
  subst hsz
  have hD := hD0.self (sz := s.heap.size)
  generalize hAe : va_A (w_c_X8_push0 cI cJ cB cZ cO a b f) s.heap.size = A at hD ⊢
  have hA : ∀ q : Nat, s.heap.size ≤ q → A q := fun q h => by rw [← hAe]; exact Or.inr h
  have hS : va_S A s.heap s.heap [] := va_S.rf
  have hP : va_P D vwCl [(a, .inr (8, [.ref b, .int 0, .int 0, .int 0, .int 0, .int 0])), (b, .inl (cB, 1200, .inl (f)))] s.heap := hP
  have hD : va_D A [(a, .inr (8, [.ref b, .int 0, .int 0, .int 0, .int 0, .int 0])), (b, .inl (cB, 1200, .inl (f)))] := hD
  have hl := lv_entry ([.ref a, .int v]) (n := 3) (Nat.le_of_ble_eq_true rfl)
  rw [lg_entry_eq]
  generalize (lg_sl ([.ref a, .int v]) ++ List.replicate (3 - (lg_sl ([.ref a, .int v])).length) Slot.unset).toArray = ls at hl ⊢
  have hl : lv_has ls 3 [(0, .ref a), (1, .int v)] := hl
  obtain ⟨H, hHe⟩ : ∃ H : Heap, H = s.heap := ⟨_, rfl⟩
  rw [← hHe] at hP
  have hS : va_S A s.heap H [] := by rw [hHe]; exact va_S.rf
  refine ct_start hHe ?_
  refine lv_bipush (v := 24) hx hb dX8_push_0 (by decide) ?_
  refine lv_istore_n (lv' := [(2, .int 24), (0, .ref a), (1, .int v)]) hx hb dX8_push_2 rfl hl (by decide) rfl (fun ls hl => ?_)
  refine lv_iload_n hx hb dX8_push_3 rfl (lv_at hl 0 rfl) ?_
  refine lv_if_lt (tgt := 46) hx hb dX8_push_4 (by decide) (fun hc => absurd hc (by decide)) (fun _ => ?_)
  refine lv_aload_n hx hb dX8_push_7 rfl (lv_at hl 1 rfl) ?_
  refine va_get (D := D) (ci := 8) (v := .int 0) (C := RX8) (T := TX8) (N := 6) hx hb hts hi8 hown hK hP 0 rfl rfl 1 (by decide) (hts (.fieldLink RX8 15 "OverHill$Tape" "length" "I") (by decide +kernel)) (fun _ h9 => h9) rfl dX8_push_8 ?_
  refine lv_sipush (v := 1200) hx hb dX8_push_11 (by decide) ?_
  refine lv_icmp_ge (tgt := 46) hx hb dX8_push_14 (by decide) (fun hc => absurd hc (by decide)) (fun _ => ?_)
  refine lv_aload_n hx hb dX8_push_17 rfl (lv_at hl 1 rfl) ?_
  refine va_get (D := D) (ci := 8) (v := .ref b) (C := RX8) (T := TX8) (N := 6) hx hb hts hi8 hown hK hP 0 rfl rfl 0 (by decide) (hts (.fieldLink RX8 9 "OverHill$Tape" "bytes" "[B") (by decide +kernel)) (fun _ h9 => h9) rfl dX8_push_18 ?_
  refine lv_aload_n hx hb dX8_push_21 rfl (lv_at hl 1 rfl) ?_
  refine va_get (D := D) (ci := 8) (v := .int 0) (C := RX8) (T := TX8) (N := 6) hx hb hts hi8 hown hK hP 0 rfl rfl 1 (by decide) (hts (.fieldLink RX8 15 "OverHill$Tape" "length" "I") (by decide +kernel)) (fun _ h9 => h9) rfl dX8_push_22 ?_
  refine lv_iload_n hx hb dX8_push_25 rfl (lv_at hl 2 rfl) ?_
  refine lv_iload_n hx hb dX8_push_26 rfl (lv_at hl 0 rfl) ?_
  refine lv_ishr hx hb dX8_push_27 ?_
  refine lv_topi (fun z63 ez63 => ?_)
  refine lv_i2b (v := z63.toInt8.toInt32) hx hb dX8_push_28 rfl ?_
  refine lv_topi (fun z64 ez64 => ?_)
  refine va_bast (D := D) hx hb hK hP hD hS 1 2 rfl rfl (tq_in (a := 0) (by decide) (by omega)) dX8_push_29 (fun H locs hP hD hS => ?_)
  obtain ⟨g65, hP, hD⟩ : ∃ g65 : Nat → Int32, va_P D vwCl [(a, .inr (8, [.ref b, .int 0, .int 0, .int 0, .int 0, .int 0])), (b, .inl (cB, 1200, .inl (g65)))] H ∧ va_D A [(a, .inr (8, [.ref b, .int 0, .int 0, .int 0, .int 0, .int 0])), (b, .inl (cB, 1200, .inl (g65)))] := ⟨_, hP, hD⟩
  refine lv_aload_n hx hb dX8_push_30 rfl (lv_at hl 1 rfl) ?_
  refine lv_dup hx hb dX8_push_31 rfl ?_
  refine va_get (D := D) (ci := 8) (v := .int 0) (C := RX8) (T := TX8) (N := 6) hx hb hts hi8 hown hK hP 0 rfl rfl 1 (by decide) (hts (.fieldLink RX8 15 "OverHill$Tape" "length" "I") (by decide +kernel)) (fun _ h9 => h9) rfl dX8_push_32 ?_
  refine lv_iconst (v := 1) hx hb dX8_push_35 (by decide) ?_
  refine lv_iadd hx hb dX8_push_36 ?_
  refine lv_topi (fun z66 ez66 => ?_)
  obtain rfl : z66 = 1 := ez66.trans (by decide)
  refine va_put (D := D) (ci := 8) (v := .int 1) (ty := .int) (C := RX8) (T := TX8) (N := 6) hx hb hts hi8 tyX8 tyX8_ok nmX8 hown hK hP hD hS 0 rfl rfl 1 (by decide) (hts (.fieldLink RX8 15 "OverHill$Tape" "length" "I") (by decide +kernel)) (fun _ h9 => h9) rfl (by decide +kernel) rfl rfl (Nat.le_of_ble_eq_true rfl) dX8_push_37 (fun H locs hP hD hS => ?_)
  have hP : va_P D vwCl [(a, .inr (8, [.ref b, .int 1, .int 0, .int 0, .int 0, .int 0])), (b, .inl (cB, 1200, .inl (g65)))] H := hP
  have hD : va_D A [(a, .inr (8, [.ref b, .int 1, .int 0, .int 0, .int 0, .int 0])), (b, .inl (cB, 1200, .inl (g65)))] := hD
  refine lv_iinc (v := 16) (lv' := [(2, .int 16), (0, .ref a), (1, .int v)]) hx hb dX8_push_40 hl (k := 0) rfl (by decide) (by decide) rfl (fun ls hl => ?_)
  refine lv_goto (tgt := 3) hx hb dX8_push_43 (by decide) ?_
  refine lv_iload_n hx hb dX8_push_3 rfl (lv_at hl 0 rfl) ?_
  refine lv_if_lt (tgt := 46) hx hb dX8_push_4 (by decide) (fun hc => absurd hc (by decide)) (fun _ => ?_)
  refine lv_aload_n hx hb dX8_push_7 rfl (lv_at hl 1 rfl) ?_
  refine va_get (D := D) (ci := 8) (v := .int 1) (C := RX8) (T := TX8) (N := 6) hx hb hts hi8 hown hK hP 0 rfl rfl 1 (by decide) (hts (.fieldLink RX8 15 "OverHill$Tape" "length" "I") (by decide +kernel)) (fun _ h9 => h9) rfl dX8_push_8 ?_
  refine lv_sipush (v := 1200) hx hb dX8_push_11 (by decide) ?_
  refine lv_icmp_ge (tgt := 46) hx hb dX8_push_14 (by decide) (fun hc => absurd hc (by decide)) (fun _ => ?_)
  refine lv_aload_n hx hb dX8_push_17 rfl (lv_at hl 1 rfl) ?_
  refine va_get (D := D) (ci := 8) (v := .ref b) (C := RX8) (T := TX8) (N := 6) hx hb hts hi8 hown hK hP 0 rfl rfl 0 (by decide) (hts (.fieldLink RX8 9 "OverHill$Tape" "bytes" "[B") (by decide +kernel)) (fun _ h9 => h9) rfl dX8_push_18 ?_
  refine lv_aload_n hx hb dX8_push_21 rfl (lv_at hl 1 rfl) ?_
  refine va_get (D := D) (ci := 8) (v := .int 1) (C := RX8) (T := TX8) (N := 6) hx hb hts hi8 hown hK hP 0 rfl rfl 1 (by decide) (hts (.fieldLink RX8 15 "OverHill$Tape" "length" "I") (by decide +kernel)) (fun _ h9 => h9) rfl dX8_push_22 ?_
  refine lv_iload_n hx hb dX8_push_25 rfl (lv_at hl 2 rfl) ?_
  refine lv_iload_n hx hb dX8_push_26 rfl (lv_at hl 0 rfl) ?_
  refine lv_ishr hx hb dX8_push_27 ?_
  refine lv_topi (fun z67 ez67 => ?_)
  refine lv_i2b (v := z67.toInt8.toInt32) hx hb dX8_push_28 rfl ?_
  refine lv_topi (fun z68 ez68 => ?_)
  refine va_bast (D := D) hx hb hK hP hD hS 1 2 rfl rfl (tq_in (a := 1) (by decide) (by omega)) dX8_push_29 (fun H locs hP hD hS => ?_)
  obtain ⟨g69, hP, hD⟩ : ∃ g69 : Nat → Int32, va_P D vwCl [(a, .inr (8, [.ref b, .int 1, .int 0, .int 0, .int 0, .int 0])), (b, .inl (cB, 1200, .inl (g69)))] H ∧ va_D A [(a, .inr (8, [.ref b, .int 1, .int 0, .int 0, .int 0, .int 0])), (b, .inl (cB, 1200, .inl (g69)))] := ⟨_, hP, hD⟩
  refine lv_aload_n hx hb dX8_push_30 rfl (lv_at hl 1 rfl) ?_
  refine lv_dup hx hb dX8_push_31 rfl ?_
  refine va_get (D := D) (ci := 8) (v := .int 1) (C := RX8) (T := TX8) (N := 6) hx hb hts hi8 hown hK hP 0 rfl rfl 1 (by decide) (hts (.fieldLink RX8 15 "OverHill$Tape" "length" "I") (by decide +kernel)) (fun _ h9 => h9) rfl dX8_push_32 ?_
  refine lv_iconst (v := 1) hx hb dX8_push_35 (by decide) ?_
  refine lv_iadd hx hb dX8_push_36 ?_
  refine lv_topi (fun z70 ez70 => ?_)
  obtain rfl : z70 = 2 := ez70.trans (by decide)
  refine va_put (D := D) (ci := 8) (v := .int 2) (ty := .int) (C := RX8) (T := TX8) (N := 6) hx hb hts hi8 tyX8 tyX8_ok nmX8 hown hK hP hD hS 0 rfl rfl 1 (by decide) (hts (.fieldLink RX8 15 "OverHill$Tape" "length" "I") (by decide +kernel)) (fun _ h9 => h9) rfl (by decide +kernel) rfl rfl (Nat.le_of_ble_eq_true rfl) dX8_push_37 (fun H locs hP hD hS => ?_)
  have hP : va_P D vwCl [(a, .inr (8, [.ref b, .int 2, .int 0, .int 0, .int 0, .int 0])), (b, .inl (cB, 1200, .inl (g69)))] H := hP
  have hD : va_D A [(a, .inr (8, [.ref b, .int 2, .int 0, .int 0, .int 0, .int 0])), (b, .inl (cB, 1200, .inl (g69)))] := hD
  refine lv_iinc (v := 8) (lv' := [(2, .int 8), (0, .ref a), (1, .int v)]) hx hb dX8_push_40 hl (k := 0) rfl (by decide) (by decide) rfl (fun ls hl => ?_)
  refine lv_goto (tgt := 3) hx hb dX8_push_43 (by decide) ?_
  refine lv_iload_n hx hb dX8_push_3 rfl (lv_at hl 0 rfl) ?_
  refine lv_if_lt (tgt := 46) hx hb dX8_push_4 (by decide) (fun hc => absurd hc (by decide)) (fun _ => ?_)
  refine lv_aload_n hx hb dX8_push_7 rfl (lv_at hl 1 rfl) ?_
  refine va_get (D := D) (ci := 8) (v := .int 2) (C := RX8) (T := TX8) (N := 6) hx hb hts hi8 hown hK hP 0 rfl rfl 1 (by decide) (hts (.fieldLink RX8 15 "OverHill$Tape" "length" "I") (by decide +kernel)) (fun _ h9 => h9) rfl dX8_push_8 ?_
  refine lv_sipush (v := 1200) hx hb dX8_push_11 (by decide) ?_
  refine lv_icmp_ge (tgt := 46) hx hb dX8_push_14 (by decide) (fun hc => absurd hc (by decide)) (fun _ => ?_)
  refine lv_aload_n hx hb dX8_push_17 rfl (lv_at hl 1 rfl) ?_
  refine va_get (D := D) (ci := 8) (v := .ref b) (C := RX8) (T := TX8) (N := 6) hx hb hts hi8 hown hK hP 0 rfl rfl 0 (by decide) (hts (.fieldLink RX8 9 "OverHill$Tape" "bytes" "[B") (by decide +kernel)) (fun _ h9 => h9) rfl dX8_push_18 ?_
  refine lv_aload_n hx hb dX8_push_21 rfl (lv_at hl 1 rfl) ?_
  refine va_get (D := D) (ci := 8) (v := .int 2) (C := RX8) (T := TX8) (N := 6) hx hb hts hi8 hown hK hP 0 rfl rfl 1 (by decide) (hts (.fieldLink RX8 15 "OverHill$Tape" "length" "I") (by decide +kernel)) (fun _ h9 => h9) rfl dX8_push_22 ?_
  refine lv_iload_n hx hb dX8_push_25 rfl (lv_at hl 2 rfl) ?_
  refine lv_iload_n hx hb dX8_push_26 rfl (lv_at hl 0 rfl) ?_
  refine lv_ishr hx hb dX8_push_27 ?_
  refine lv_topi (fun z71 ez71 => ?_)
  refine lv_i2b (v := z71.toInt8.toInt32) hx hb dX8_push_28 rfl ?_
  refine lv_topi (fun z72 ez72 => ?_)
  refine va_bast (D := D) hx hb hK hP hD hS 1 2 rfl rfl (tq_in (a := 2) (by decide) (by omega)) dX8_push_29 (fun H locs hP hD hS => ?_)
  obtain ⟨g73, hP, hD⟩ : ∃ g73 : Nat → Int32, va_P D vwCl [(a, .inr (8, [.ref b, .int 2, .int 0, .int 0, .int 0, .int 0])), (b, .inl (cB, 1200, .inl (g73)))] H ∧ va_D A [(a, .inr (8, [.ref b, .int 2, .int 0, .int 0, .int 0, .int 0])), (b, .inl (cB, 1200, .inl (g73)))] := ⟨_, hP, hD⟩
  refine lv_aload_n hx hb dX8_push_30 rfl (lv_at hl 1 rfl) ?_
  refine lv_dup hx hb dX8_push_31 rfl ?_
  refine va_get (D := D) (ci := 8) (v := .int 2) (C := RX8) (T := TX8) (N := 6) hx hb hts hi8 hown hK hP 0 rfl rfl 1 (by decide) (hts (.fieldLink RX8 15 "OverHill$Tape" "length" "I") (by decide +kernel)) (fun _ h9 => h9) rfl dX8_push_32 ?_
  refine lv_iconst (v := 1) hx hb dX8_push_35 (by decide) ?_
  refine lv_iadd hx hb dX8_push_36 ?_
  refine lv_topi (fun z74 ez74 => ?_)
  obtain rfl : z74 = 3 := ez74.trans (by decide)
  refine va_put (D := D) (ci := 8) (v := .int 3) (ty := .int) (C := RX8) (T := TX8) (N := 6) hx hb hts hi8 tyX8 tyX8_ok nmX8 hown hK hP hD hS 0 rfl rfl 1 (by decide) (hts (.fieldLink RX8 15 "OverHill$Tape" "length" "I") (by decide +kernel)) (fun _ h9 => h9) rfl (by decide +kernel) rfl rfl (Nat.le_of_ble_eq_true rfl) dX8_push_37 (fun H locs hP hD hS => ?_)
  have hP : va_P D vwCl [(a, .inr (8, [.ref b, .int 3, .int 0, .int 0, .int 0, .int 0])), (b, .inl (cB, 1200, .inl (g73)))] H := hP
  have hD : va_D A [(a, .inr (8, [.ref b, .int 3, .int 0, .int 0, .int 0, .int 0])), (b, .inl (cB, 1200, .inl (g73)))] := hD
  refine lv_iinc (v := 0) (lv' := [(2, .int 0), (0, .ref a), (1, .int v)]) hx hb dX8_push_40 hl (k := 0) rfl (by decide) (by decide) rfl (fun ls hl => ?_)
  refine lv_goto (tgt := 3) hx hb dX8_push_43 (by decide) ?_
  refine lv_iload_n hx hb dX8_push_3 rfl (lv_at hl 0 rfl) ?_
  refine lv_if_lt (tgt := 46) hx hb dX8_push_4 (by decide) (fun hc => absurd hc (by decide)) (fun _ => ?_)
  refine lv_aload_n hx hb dX8_push_7 rfl (lv_at hl 1 rfl) ?_
  refine va_get (D := D) (ci := 8) (v := .int 3) (C := RX8) (T := TX8) (N := 6) hx hb hts hi8 hown hK hP 0 rfl rfl 1 (by decide) (hts (.fieldLink RX8 15 "OverHill$Tape" "length" "I") (by decide +kernel)) (fun _ h9 => h9) rfl dX8_push_8 ?_
  refine lv_sipush (v := 1200) hx hb dX8_push_11 (by decide) ?_
  refine lv_icmp_ge (tgt := 46) hx hb dX8_push_14 (by decide) (fun hc => absurd hc (by decide)) (fun _ => ?_)
  refine lv_aload_n hx hb dX8_push_17 rfl (lv_at hl 1 rfl) ?_
  refine va_get (D := D) (ci := 8) (v := .ref b) (C := RX8) (T := TX8) (N := 6) hx hb hts hi8 hown hK hP 0 rfl rfl 0 (by decide) (hts (.fieldLink RX8 9 "OverHill$Tape" "bytes" "[B") (by decide +kernel)) (fun _ h9 => h9) rfl dX8_push_18 ?_
  refine lv_aload_n hx hb dX8_push_21 rfl (lv_at hl 1 rfl) ?_
  refine va_get (D := D) (ci := 8) (v := .int 3) (C := RX8) (T := TX8) (N := 6) hx hb hts hi8 hown hK hP 0 rfl rfl 1 (by decide) (hts (.fieldLink RX8 15 "OverHill$Tape" "length" "I") (by decide +kernel)) (fun _ h9 => h9) rfl dX8_push_22 ?_
  refine lv_iload_n hx hb dX8_push_25 rfl (lv_at hl 2 rfl) ?_
  refine lv_iload_n hx hb dX8_push_26 rfl (lv_at hl 0 rfl) ?_
  refine lv_ishr hx hb dX8_push_27 ?_
  refine lv_topi (fun z75 ez75 => ?_)
  refine lv_i2b (v := z75.toInt8.toInt32) hx hb dX8_push_28 rfl ?_
  refine lv_topi (fun z76 ez76 => ?_)
  refine va_bast (D := D) hx hb hK hP hD hS 1 2 rfl rfl (tq_in (a := 3) (by decide) (by omega)) dX8_push_29 (fun H locs hP hD hS => ?_)
  obtain ⟨g77, hP, hD⟩ : ∃ g77 : Nat → Int32, va_P D vwCl [(a, .inr (8, [.ref b, .int 3, .int 0, .int 0, .int 0, .int 0])), (b, .inl (cB, 1200, .inl (g77)))] H ∧ va_D A [(a, .inr (8, [.ref b, .int 3, .int 0, .int 0, .int 0, .int 0])), (b, .inl (cB, 1200, .inl (g77)))] := ⟨_, hP, hD⟩
  refine lv_aload_n hx hb dX8_push_30 rfl (lv_at hl 1 rfl) ?_
  refine lv_dup hx hb dX8_push_31 rfl ?_
  refine va_get (D := D) (ci := 8) (v := .int 3) (C := RX8) (T := TX8) (N := 6) hx hb hts hi8 hown hK hP 0 rfl rfl 1 (by decide) (hts (.fieldLink RX8 15 "OverHill$Tape" "length" "I") (by decide +kernel)) (fun _ h9 => h9) rfl dX8_push_32 ?_
  refine lv_iconst (v := 1) hx hb dX8_push_35 (by decide) ?_
  refine lv_iadd hx hb dX8_push_36 ?_
  refine lv_topi (fun z78 ez78 => ?_)
  obtain rfl : z78 = 4 := ez78.trans (by decide)
  refine va_put (D := D) (ci := 8) (v := .int 4) (ty := .int) (C := RX8) (T := TX8) (N := 6) hx hb hts hi8 tyX8 tyX8_ok nmX8 hown hK hP hD hS 0 rfl rfl 1 (by decide) (hts (.fieldLink RX8 15 "OverHill$Tape" "length" "I") (by decide +kernel)) (fun _ h9 => h9) rfl (by decide +kernel) rfl rfl (Nat.le_of_ble_eq_true rfl) dX8_push_37 (fun H locs hP hD hS => ?_)
  have hP : va_P D vwCl [(a, .inr (8, [.ref b, .int 4, .int 0, .int 0, .int 0, .int 0])), (b, .inl (cB, 1200, .inl (g77)))] H := hP
  have hD : va_D A [(a, .inr (8, [.ref b, .int 4, .int 0, .int 0, .int 0, .int 0])), (b, .inl (cB, 1200, .inl (g77)))] := hD
  refine lv_iinc (v := (-8)) (lv' := [(2, .int (-8)), (0, .ref a), (1, .int v)]) hx hb dX8_push_40 hl (k := 0) rfl (by decide) (by decide) rfl (fun ls hl => ?_)
  refine lv_goto (tgt := 3) hx hb dX8_push_43 (by decide) ?_
  refine lv_iload_n hx hb dX8_push_3 rfl (lv_at hl 0 rfl) ?_
  refine lv_if_lt (tgt := 46) hx hb dX8_push_4 (by decide) (fun _ => ?_) (fun hc => absurd hc (by decide))
  have hP9 := hP.sub (ws' := [(a, .inr (8, [.ref b, .int 4, .int 0, .int 0, .int 0, .int 0])), (b, .inl (cB, 1200, .inl (g77)))]) [0, 1] rfl
  have hD9 := hD.sub (ws' := [(a, .inr (8, [.ref b, .int 4, .int 0, .int 0, .int 0, .int 0])), (b, .inl (cB, 1200, .inl (g77)))]) [0, 1] (by decide) rfl
  exact W.vret hx hb hr (fun t ht hW => ⟨⟨g77, rfl, trivial, by rw [ht]; exact hP9, hD9⟩, hS.F ht⟩) hS.2.2 dX8_push_46
abbrev w_c_X8_push4 (cI cJ cB cZ cO : ClassId) (a : Nat) (b : Nat) (f : Nat → Int32) : va_W := [(a, .inr (8, [.ref b, .int 4, .int 0, .int 0, .int 0, .int 0])), (b, .inl (cB, 1200, .inl (f)))]
set_option maxHeartbeats 4000000 in
set_option maxRecDepth 100000 in
/-- four bytes more -/
theorem c_X8_push4 (l : Launch) (D : va_G) (cI cJ cB cZ cO : ClassId) (a : Nat) (b : Nat) (f : Nat → Int32) (v : Int32) (sz : Nat) : Met l yX8_push wsX8_push ({ frames := 0, cells := 0, slots := 0, locals := 0 }) (va_Pc [.ref a, .int v] (ct_P D (ct_T cI cJ cB cZ cO) (w_c_X8_push4 cI cJ cB cZ cO a b f) sz)) (va_Qv (fun (u : Nat → Int32) => True) (fun (u : Nat → Int32) t => ct_Q D (va_A (w_c_X8_push4 cI cJ cB cZ cO a b f) sz) [(a, .inr (8, [.ref b, .int 8, .int 0, .int 0, .int 0, .int 0])), (b, .inl (cB, 1200, .inl (u)))] t) (va_A (w_c_X8_push4 cI cJ cB cZ cO a b f) sz)) 0 0 (va_A (w_c_X8_push4 cI cJ cB cZ cO a b f) sz) := by
  refine Met.ofW (cc := cX8_push) (maxL := 3) (ret := none) (by decide) rfl ?_
  intro p e s m args below meth c s₁ B hml hv
  obtain ⟨rfl, hsz, hP, hE, hD0⟩ := hv
  have hx := B.exec
  have hb := B.bytes
  have hr := B.returns
  have hts := atoms_spec (ws := wsX8_push) B.pre
  have hown : s.vm.findClass RX8 = some m.cls := findClass_of_methodNamed B.named
  have hlocks := B.notSynchronized
  have hK := hE.1
  have hi8 : ∀ w ∈ u_ws RX8 TX8 6, w ∈ wsX8_push := fun w h => List.mem_cons_of_mem _ (List.mem_append_right _ h)
  subst hsz
  have hD := hD0.self (sz := s.heap.size)
  generalize hAe : va_A (w_c_X8_push4 cI cJ cB cZ cO a b f) s.heap.size = A at hD ⊢
  have hA : ∀ q : Nat, s.heap.size ≤ q → A q := fun q h => by rw [← hAe]; exact Or.inr h
  have hS : va_S A s.heap s.heap [] := va_S.rf
  have hP : va_P D vwCl [(a, .inr (8, [.ref b, .int 4, .int 0, .int 0, .int 0, .int 0])), (b, .inl (cB, 1200, .inl (f)))] s.heap := hP
  have hD : va_D A [(a, .inr (8, [.ref b, .int 4, .int 0, .int 0, .int 0, .int 0])), (b, .inl (cB, 1200, .inl (f)))] := hD
  have hl := lv_entry ([.ref a, .int v]) (n := 3) (Nat.le_of_ble_eq_true rfl)
  rw [lg_entry_eq]
  generalize (lg_sl ([.ref a, .int v]) ++ List.replicate (3 - (lg_sl ([.ref a, .int v])).length) Slot.unset).toArray = ls at hl ⊢
  have hl : lv_has ls 3 [(0, .ref a), (1, .int v)] := hl
  obtain ⟨H, hHe⟩ : ∃ H : Heap, H = s.heap := ⟨_, rfl⟩
  rw [← hHe] at hP
  have hS : va_S A s.heap H [] := by rw [hHe]; exact va_S.rf
  refine ct_start hHe ?_
  refine lv_bipush (v := 24) hx hb dX8_push_0 (by decide) ?_
  refine lv_istore_n (lv' := [(2, .int 24), (0, .ref a), (1, .int v)]) hx hb dX8_push_2 rfl hl (by decide) rfl (fun ls hl => ?_)
  refine lv_iload_n hx hb dX8_push_3 rfl (lv_at hl 0 rfl) ?_
  refine lv_if_lt (tgt := 46) hx hb dX8_push_4 (by decide) (fun hc => absurd hc (by decide)) (fun _ => ?_)
  refine lv_aload_n hx hb dX8_push_7 rfl (lv_at hl 1 rfl) ?_
  refine va_get (D := D) (ci := 8) (v := .int 4) (C := RX8) (T := TX8) (N := 6) hx hb hts hi8 hown hK hP 0 rfl rfl 1 (by decide) (hts (.fieldLink RX8 15 "OverHill$Tape" "length" "I") (by decide +kernel)) (fun _ h9 => h9) rfl dX8_push_8 ?_
  refine lv_sipush (v := 1200) hx hb dX8_push_11 (by decide) ?_
  refine lv_icmp_ge (tgt := 46) hx hb dX8_push_14 (by decide) (fun hc => absurd hc (by decide)) (fun _ => ?_)
  refine lv_aload_n hx hb dX8_push_17 rfl (lv_at hl 1 rfl) ?_
  refine va_get (D := D) (ci := 8) (v := .ref b) (C := RX8) (T := TX8) (N := 6) hx hb hts hi8 hown hK hP 0 rfl rfl 0 (by decide) (hts (.fieldLink RX8 9 "OverHill$Tape" "bytes" "[B") (by decide +kernel)) (fun _ h9 => h9) rfl dX8_push_18 ?_
  refine lv_aload_n hx hb dX8_push_21 rfl (lv_at hl 1 rfl) ?_
  refine va_get (D := D) (ci := 8) (v := .int 4) (C := RX8) (T := TX8) (N := 6) hx hb hts hi8 hown hK hP 0 rfl rfl 1 (by decide) (hts (.fieldLink RX8 15 "OverHill$Tape" "length" "I") (by decide +kernel)) (fun _ h9 => h9) rfl dX8_push_22 ?_
  refine lv_iload_n hx hb dX8_push_25 rfl (lv_at hl 2 rfl) ?_
  refine lv_iload_n hx hb dX8_push_26 rfl (lv_at hl 0 rfl) ?_
  refine lv_ishr hx hb dX8_push_27 ?_
  refine lv_topi (fun z79 ez79 => ?_)
  refine lv_i2b (v := z79.toInt8.toInt32) hx hb dX8_push_28 rfl ?_
  refine lv_topi (fun z80 ez80 => ?_)
  refine va_bast (D := D) hx hb hK hP hD hS 1 2 rfl rfl (tq_in (a := 4) (by decide) (by omega)) dX8_push_29 (fun H locs hP hD hS => ?_)
  obtain ⟨g81, hP, hD⟩ : ∃ g81 : Nat → Int32, va_P D vwCl [(a, .inr (8, [.ref b, .int 4, .int 0, .int 0, .int 0, .int 0])), (b, .inl (cB, 1200, .inl (g81)))] H ∧ va_D A [(a, .inr (8, [.ref b, .int 4, .int 0, .int 0, .int 0, .int 0])), (b, .inl (cB, 1200, .inl (g81)))] := ⟨_, hP, hD⟩
  refine lv_aload_n hx hb dX8_push_30 rfl (lv_at hl 1 rfl) ?_
  refine lv_dup hx hb dX8_push_31 rfl ?_
  refine va_get (D := D) (ci := 8) (v := .int 4) (C := RX8) (T := TX8) (N := 6) hx hb hts hi8 hown hK hP 0 rfl rfl 1 (by decide) (hts (.fieldLink RX8 15 "OverHill$Tape" "length" "I") (by decide +kernel)) (fun _ h9 => h9) rfl dX8_push_32 ?_
  refine lv_iconst (v := 1) hx hb dX8_push_35 (by decide) ?_
  refine lv_iadd hx hb dX8_push_36 ?_
  refine lv_topi (fun z82 ez82 => ?_)
  obtain rfl : z82 = 5 := ez82.trans (by decide)
  refine va_put (D := D) (ci := 8) (v := .int 5) (ty := .int) (C := RX8) (T := TX8) (N := 6) hx hb hts hi8 tyX8 tyX8_ok nmX8 hown hK hP hD hS 0 rfl rfl 1 (by decide) (hts (.fieldLink RX8 15 "OverHill$Tape" "length" "I") (by decide +kernel)) (fun _ h9 => h9) rfl (by decide +kernel) rfl rfl (Nat.le_of_ble_eq_true rfl) dX8_push_37 (fun H locs hP hD hS => ?_)
  have hP : va_P D vwCl [(a, .inr (8, [.ref b, .int 5, .int 0, .int 0, .int 0, .int 0])), (b, .inl (cB, 1200, .inl (g81)))] H := hP
  have hD : va_D A [(a, .inr (8, [.ref b, .int 5, .int 0, .int 0, .int 0, .int 0])), (b, .inl (cB, 1200, .inl (g81)))] := hD
  refine lv_iinc (v := 16) (lv' := [(2, .int 16), (0, .ref a), (1, .int v)]) hx hb dX8_push_40 hl (k := 0) rfl (by decide) (by decide) rfl (fun ls hl => ?_)
  refine lv_goto (tgt := 3) hx hb dX8_push_43 (by decide) ?_
  refine lv_iload_n hx hb dX8_push_3 rfl (lv_at hl 0 rfl) ?_
  refine lv_if_lt (tgt := 46) hx hb dX8_push_4 (by decide) (fun hc => absurd hc (by decide)) (fun _ => ?_)
  refine lv_aload_n hx hb dX8_push_7 rfl (lv_at hl 1 rfl) ?_
  refine va_get (D := D) (ci := 8) (v := .int 5) (C := RX8) (T := TX8) (N := 6) hx hb hts hi8 hown hK hP 0 rfl rfl 1 (by decide) (hts (.fieldLink RX8 15 "OverHill$Tape" "length" "I") (by decide +kernel)) (fun _ h9 => h9) rfl dX8_push_8 ?_
  refine lv_sipush (v := 1200) hx hb dX8_push_11 (by decide) ?_
  refine lv_icmp_ge (tgt := 46) hx hb dX8_push_14 (by decide) (fun hc => absurd hc (by decide)) (fun _ => ?_)
  refine lv_aload_n hx hb dX8_push_17 rfl (lv_at hl 1 rfl) ?_
  refine va_get (D := D) (ci := 8) (v := .ref b) (C := RX8) (T := TX8) (N := 6) hx hb hts hi8 hown hK hP 0 rfl rfl 0 (by decide) (hts (.fieldLink RX8 9 "OverHill$Tape" "bytes" "[B") (by decide +kernel)) (fun _ h9 => h9) rfl dX8_push_18 ?_
  refine lv_aload_n hx hb dX8_push_21 rfl (lv_at hl 1 rfl) ?_
  refine va_get (D := D) (ci := 8) (v := .int 5) (C := RX8) (T := TX8) (N := 6) hx hb hts hi8 hown hK hP 0 rfl rfl 1 (by decide) (hts (.fieldLink RX8 15 "OverHill$Tape" "length" "I") (by decide +kernel)) (fun _ h9 => h9) rfl dX8_push_22 ?_
  refine lv_iload_n hx hb dX8_push_25 rfl (lv_at hl 2 rfl) ?_
  refine lv_iload_n hx hb dX8_push_26 rfl (lv_at hl 0 rfl) ?_
  refine lv_ishr hx hb dX8_push_27 ?_
  refine lv_topi (fun z83 ez83 => ?_)
  refine lv_i2b (v := z83.toInt8.toInt32) hx hb dX8_push_28 rfl ?_
  refine lv_topi (fun z84 ez84 => ?_)
  refine va_bast (D := D) hx hb hK hP hD hS 1 2 rfl rfl (tq_in (a := 5) (by decide) (by omega)) dX8_push_29 (fun H locs hP hD hS => ?_)
  obtain ⟨g85, hP, hD⟩ : ∃ g85 : Nat → Int32, va_P D vwCl [(a, .inr (8, [.ref b, .int 5, .int 0, .int 0, .int 0, .int 0])), (b, .inl (cB, 1200, .inl (g85)))] H ∧ va_D A [(a, .inr (8, [.ref b, .int 5, .int 0, .int 0, .int 0, .int 0])), (b, .inl (cB, 1200, .inl (g85)))] := ⟨_, hP, hD⟩
  refine lv_aload_n hx hb dX8_push_30 rfl (lv_at hl 1 rfl) ?_
  refine lv_dup hx hb dX8_push_31 rfl ?_
  refine va_get (D := D) (ci := 8) (v := .int 5) (C := RX8) (T := TX8) (N := 6) hx hb hts hi8 hown hK hP 0 rfl rfl 1 (by decide) (hts (.fieldLink RX8 15 "OverHill$Tape" "length" "I") (by decide +kernel)) (fun _ h9 => h9) rfl dX8_push_32 ?_
  refine lv_iconst (v := 1) hx hb dX8_push_35 (by decide) ?_
  refine lv_iadd hx hb dX8_push_36 ?_
  refine lv_topi (fun z86 ez86 => ?_)
  obtain rfl : z86 = 6 := ez86.trans (by decide)
  refine va_put (D := D) (ci := 8) (v := .int 6) (ty := .int) (C := RX8) (T := TX8) (N := 6) hx hb hts hi8 tyX8 tyX8_ok nmX8 hown hK hP hD hS 0 rfl rfl 1 (by decide) (hts (.fieldLink RX8 15 "OverHill$Tape" "length" "I") (by decide +kernel)) (fun _ h9 => h9) rfl (by decide +kernel) rfl rfl (Nat.le_of_ble_eq_true rfl) dX8_push_37 (fun H locs hP hD hS => ?_)
  have hP : va_P D vwCl [(a, .inr (8, [.ref b, .int 6, .int 0, .int 0, .int 0, .int 0])), (b, .inl (cB, 1200, .inl (g85)))] H := hP
  have hD : va_D A [(a, .inr (8, [.ref b, .int 6, .int 0, .int 0, .int 0, .int 0])), (b, .inl (cB, 1200, .inl (g85)))] := hD
  refine lv_iinc (v := 8) (lv' := [(2, .int 8), (0, .ref a), (1, .int v)]) hx hb dX8_push_40 hl (k := 0) rfl (by decide) (by decide) rfl (fun ls hl => ?_)
  refine lv_goto (tgt := 3) hx hb dX8_push_43 (by decide) ?_
  refine lv_iload_n hx hb dX8_push_3 rfl (lv_at hl 0 rfl) ?_
  refine lv_if_lt (tgt := 46) hx hb dX8_push_4 (by decide) (fun hc => absurd hc (by decide)) (fun _ => ?_)
  refine lv_aload_n hx hb dX8_push_7 rfl (lv_at hl 1 rfl) ?_
  refine va_get (D := D) (ci := 8) (v := .int 6) (C := RX8) (T := TX8) (N := 6) hx hb hts hi8 hown hK hP 0 rfl rfl 1 (by decide) (hts (.fieldLink RX8 15 "OverHill$Tape" "length" "I") (by decide +kernel)) (fun _ h9 => h9) rfl dX8_push_8 ?_
  refine lv_sipush (v := 1200) hx hb dX8_push_11 (by decide) ?_
  refine lv_icmp_ge (tgt := 46) hx hb dX8_push_14 (by decide) (fun hc => absurd hc (by decide)) (fun _ => ?_)
  refine lv_aload_n hx hb dX8_push_17 rfl (lv_at hl 1 rfl) ?_
  refine va_get (D := D) (ci := 8) (v := .ref b) (C := RX8) (T := TX8) (N := 6) hx hb hts hi8 hown hK hP 0 rfl rfl 0 (by decide) (hts (.fieldLink RX8 9 "OverHill$Tape" "bytes" "[B") (by decide +kernel)) (fun _ h9 => h9) rfl dX8_push_18 ?_
  refine lv_aload_n hx hb dX8_push_21 rfl (lv_at hl 1 rfl) ?_
  refine va_get (D := D) (ci := 8) (v := .int 6) (C := RX8) (T := TX8) (N := 6) hx hb hts hi8 hown hK hP 0 rfl rfl 1 (by decide) (hts (.fieldLink RX8 15 "OverHill$Tape" "length" "I") (by decide +kernel)) (fun _ h9 => h9) rfl dX8_push_22 ?_
  refine lv_iload_n hx hb dX8_push_25 rfl (lv_at hl 2 rfl) ?_
  refine lv_iload_n hx hb dX8_push_26 rfl (lv_at hl 0 rfl) ?_
  refine lv_ishr hx hb dX8_push_27 ?_
  refine lv_topi (fun z87 ez87 => ?_)
  refine lv_i2b (v := z87.toInt8.toInt32) hx hb dX8_push_28 rfl ?_
  refine lv_topi (fun z88 ez88 => ?_)
  refine va_bast (D := D) hx hb hK hP hD hS 1 2 rfl rfl (tq_in (a := 6) (by decide) (by omega)) dX8_push_29 (fun H locs hP hD hS => ?_)
  obtain ⟨g89, hP, hD⟩ : ∃ g89 : Nat → Int32, va_P D vwCl [(a, .inr (8, [.ref b, .int 6, .int 0, .int 0, .int 0, .int 0])), (b, .inl (cB, 1200, .inl (g89)))] H ∧ va_D A [(a, .inr (8, [.ref b, .int 6, .int 0, .int 0, .int 0, .int 0])), (b, .inl (cB, 1200, .inl (g89)))] := ⟨_, hP, hD⟩
  refine lv_aload_n hx hb dX8_push_30 rfl (lv_at hl 1 rfl) ?_
  refine lv_dup hx hb dX8_push_31 rfl ?_
  refine va_get (D := D) (ci := 8) (v := .int 6) (C := RX8) (T := TX8) (N := 6) hx hb hts hi8 hown hK hP 0 rfl rfl 1 (by decide) (hts (.fieldLink RX8 15 "OverHill$Tape" "length" "I") (by decide +kernel)) (fun _ h9 => h9) rfl dX8_push_32 ?_
  refine lv_iconst (v := 1) hx hb dX8_push_35 (by decide) ?_
  refine lv_iadd hx hb dX8_push_36 ?_
  refine lv_topi (fun z90 ez90 => ?_)
  obtain rfl : z90 = 7 := ez90.trans (by decide)
  refine va_put (D := D) (ci := 8) (v := .int 7) (ty := .int) (C := RX8) (T := TX8) (N := 6) hx hb hts hi8 tyX8 tyX8_ok nmX8 hown hK hP hD hS 0 rfl rfl 1 (by decide) (hts (.fieldLink RX8 15 "OverHill$Tape" "length" "I") (by decide +kernel)) (fun _ h9 => h9) rfl (by decide +kernel) rfl rfl (Nat.le_of_ble_eq_true rfl) dX8_push_37 (fun H locs hP hD hS => ?_)
  have hP : va_P D vwCl [(a, .inr (8, [.ref b, .int 7, .int 0, .int 0, .int 0, .int 0])), (b, .inl (cB, 1200, .inl (g89)))] H := hP
  have hD : va_D A [(a, .inr (8, [.ref b, .int 7, .int 0, .int 0, .int 0, .int 0])), (b, .inl (cB, 1200, .inl (g89)))] := hD
  refine lv_iinc (v := 0) (lv' := [(2, .int 0), (0, .ref a), (1, .int v)]) hx hb dX8_push_40 hl (k := 0) rfl (by decide) (by decide) rfl (fun ls hl => ?_)
  refine lv_goto (tgt := 3) hx hb dX8_push_43 (by decide) ?_
  refine lv_iload_n hx hb dX8_push_3 rfl (lv_at hl 0 rfl) ?_
  refine lv_if_lt (tgt := 46) hx hb dX8_push_4 (by decide) (fun hc => absurd hc (by decide)) (fun _ => ?_)
  refine lv_aload_n hx hb dX8_push_7 rfl (lv_at hl 1 rfl) ?_
  refine va_get (D := D) (ci := 8) (v := .int 7) (C := RX8) (T := TX8) (N := 6) hx hb hts hi8 hown hK hP 0 rfl rfl 1 (by decide) (hts (.fieldLink RX8 15 "OverHill$Tape" "length" "I") (by decide +kernel)) (fun _ h9 => h9) rfl dX8_push_8 ?_
  refine lv_sipush (v := 1200) hx hb dX8_push_11 (by decide) ?_
  refine lv_icmp_ge (tgt := 46) hx hb dX8_push_14 (by decide) (fun hc => absurd hc (by decide)) (fun _ => ?_)
  refine lv_aload_n hx hb dX8_push_17 rfl (lv_at hl 1 rfl) ?_
  refine va_get (D := D) (ci := 8) (v := .ref b) (C := RX8) (T := TX8) (N := 6) hx hb hts hi8 hown hK hP 0 rfl rfl 0 (by decide) (hts (.fieldLink RX8 9 "OverHill$Tape" "bytes" "[B") (by decide +kernel)) (fun _ h9 => h9) rfl dX8_push_18 ?_
  refine lv_aload_n hx hb dX8_push_21 rfl (lv_at hl 1 rfl) ?_
  refine va_get (D := D) (ci := 8) (v := .int 7) (C := RX8) (T := TX8) (N := 6) hx hb hts hi8 hown hK hP 0 rfl rfl 1 (by decide) (hts (.fieldLink RX8 15 "OverHill$Tape" "length" "I") (by decide +kernel)) (fun _ h9 => h9) rfl dX8_push_22 ?_
  refine lv_iload_n hx hb dX8_push_25 rfl (lv_at hl 2 rfl) ?_
  refine lv_iload_n hx hb dX8_push_26 rfl (lv_at hl 0 rfl) ?_
  refine lv_ishr hx hb dX8_push_27 ?_
  refine lv_topi (fun z91 ez91 => ?_)
  refine lv_i2b (v := z91.toInt8.toInt32) hx hb dX8_push_28 rfl ?_
  refine lv_topi (fun z92 ez92 => ?_)
  refine va_bast (D := D) hx hb hK hP hD hS 1 2 rfl rfl (tq_in (a := 7) (by decide) (by omega)) dX8_push_29 (fun H locs hP hD hS => ?_)
  obtain ⟨g93, hP, hD⟩ : ∃ g93 : Nat → Int32, va_P D vwCl [(a, .inr (8, [.ref b, .int 7, .int 0, .int 0, .int 0, .int 0])), (b, .inl (cB, 1200, .inl (g93)))] H ∧ va_D A [(a, .inr (8, [.ref b, .int 7, .int 0, .int 0, .int 0, .int 0])), (b, .inl (cB, 1200, .inl (g93)))] := ⟨_, hP, hD⟩
  refine lv_aload_n hx hb dX8_push_30 rfl (lv_at hl 1 rfl) ?_
  refine lv_dup hx hb dX8_push_31 rfl ?_
  refine va_get (D := D) (ci := 8) (v := .int 7) (C := RX8) (T := TX8) (N := 6) hx hb hts hi8 hown hK hP 0 rfl rfl 1 (by decide) (hts (.fieldLink RX8 15 "OverHill$Tape" "length" "I") (by decide +kernel)) (fun _ h9 => h9) rfl dX8_push_32 ?_
  refine lv_iconst (v := 1) hx hb dX8_push_35 (by decide) ?_
  refine lv_iadd hx hb dX8_push_36 ?_
  refine lv_topi (fun z94 ez94 => ?_)
  obtain rfl : z94 = 8 := ez94.trans (by decide)
  refine va_put (D := D) (ci := 8) (v := .int 8) (ty := .int) (C := RX8) (T := TX8) (N := 6) hx hb hts hi8 tyX8 tyX8_ok nmX8 hown hK hP hD hS 0 rfl rfl 1 (by decide) (hts (.fieldLink RX8 15 "OverHill$Tape" "length" "I") (by decide +kernel)) (fun _ h9 => h9) rfl (by decide +kernel) rfl rfl (Nat.le_of_ble_eq_true rfl) dX8_push_37 (fun H locs hP hD hS => ?_)
  have hP : va_P D vwCl [(a, .inr (8, [.ref b, .int 8, .int 0, .int 0, .int 0, .int 0])), (b, .inl (cB, 1200, .inl (g93)))] H := hP
  have hD : va_D A [(a, .inr (8, [.ref b, .int 8, .int 0, .int 0, .int 0, .int 0])), (b, .inl (cB, 1200, .inl (g93)))] := hD
  refine lv_iinc (v := (-8)) (lv' := [(2, .int (-8)), (0, .ref a), (1, .int v)]) hx hb dX8_push_40 hl (k := 0) rfl (by decide) (by decide) rfl (fun ls hl => ?_)
  refine lv_goto (tgt := 3) hx hb dX8_push_43 (by decide) ?_
  refine lv_iload_n hx hb dX8_push_3 rfl (lv_at hl 0 rfl) ?_
  refine lv_if_lt (tgt := 46) hx hb dX8_push_4 (by decide) (fun _ => ?_) (fun hc => absurd hc (by decide))
  have hP9 := hP.sub (ws' := [(a, .inr (8, [.ref b, .int 8, .int 0, .int 0, .int 0, .int 0])), (b, .inl (cB, 1200, .inl (g93)))]) [0, 1] rfl
  have hD9 := hD.sub (ws' := [(a, .inr (8, [.ref b, .int 8, .int 0, .int 0, .int 0, .int 0])), (b, .inl (cB, 1200, .inl (g93)))]) [0, 1] (by decide) rfl
  exact W.vret hx hb hr (fun t ht hW => ⟨⟨g93, rfl, trivial, by rw [ht]; exact hP9, hD9⟩, hS.F ht⟩) hS.2.2 dX8_push_46
abbrev w_c_X8_push8 (cI cJ cB cZ cO : ClassId) (a : Nat) (b : Nat) (f : Nat → Int32) : va_W := [(a, .inr (8, [.ref b, .int 8, .int 0, .int 0, .int 0, .int 0])), (b, .inl (cB, 1200, .inl (f)))]
set_option maxHeartbeats 4000000 in
set_option maxRecDepth 100000 in
/-- four bytes more -/
theorem c_X8_push8 (l : Launch) (D : va_G) (cI cJ cB cZ cO : ClassId) (a : Nat) (b : Nat) (f : Nat → Int32) (v : Int32) (sz : Nat) : Met l yX8_push wsX8_push ({ frames := 0, cells := 0, slots := 0, locals := 0 }) (va_Pc [.ref a, .int v] (ct_P D (ct_T cI cJ cB cZ cO) (w_c_X8_push8 cI cJ cB cZ cO a b f) sz)) (va_Qv (fun (u : Nat → Int32) => True) (fun (u : Nat → Int32) t => ct_Q D (va_A (w_c_X8_push8 cI cJ cB cZ cO a b f) sz) [(a, .inr (8, [.ref b, .int 12, .int 0, .int 0, .int 0, .int 0])), (b, .inl (cB, 1200, .inl (u)))] t) (va_A (w_c_X8_push8 cI cJ cB cZ cO a b f) sz)) 0 0 (va_A (w_c_X8_push8 cI cJ cB cZ cO a b f) sz) := by
  refine Met.ofW (cc := cX8_push) (maxL := 3) (ret := none) (by decide) rfl ?_
  intro p e s m args below meth c s₁ B hml hv
  obtain ⟨rfl, hsz, hP, hE, hD0⟩ := hv
  have hx := B.exec
  have hb := B.bytes
  have hr := B.returns
  have hts := atoms_spec (ws := wsX8_push) B.pre
  have hown : s.vm.findClass RX8 = some m.cls := findClass_of_methodNamed B.named
  have hlocks := B.notSynchronized
  have hK := hE.1
  have hi8 : ∀ w ∈ u_ws RX8 TX8 6, w ∈ wsX8_push := fun w h => List.mem_cons_of_mem _ (List.mem_append_right _ h)
  subst hsz
  have hD := hD0.self (sz := s.heap.size)
  generalize hAe : va_A (w_c_X8_push8 cI cJ cB cZ cO a b f) s.heap.size = A at hD ⊢
  have hA : ∀ q : Nat, s.heap.size ≤ q → A q := fun q h => by rw [← hAe]; exact Or.inr h
  have hS : va_S A s.heap s.heap [] := va_S.rf
  have hP : va_P D vwCl [(a, .inr (8, [.ref b, .int 8, .int 0, .int 0, .int 0, .int 0])), (b, .inl (cB, 1200, .inl (f)))] s.heap := hP
  have hD : va_D A [(a, .inr (8, [.ref b, .int 8, .int 0, .int 0, .int 0, .int 0])), (b, .inl (cB, 1200, .inl (f)))] := hD
  have hl := lv_entry ([.ref a, .int v]) (n := 3) (Nat.le_of_ble_eq_true rfl)
  rw [lg_entry_eq]
  generalize (lg_sl ([.ref a, .int v]) ++ List.replicate (3 - (lg_sl ([.ref a, .int v])).length) Slot.unset).toArray = ls at hl ⊢
  have hl : lv_has ls 3 [(0, .ref a), (1, .int v)] := hl
  obtain ⟨H, hHe⟩ : ∃ H : Heap, H = s.heap := ⟨_, rfl⟩
  rw [← hHe] at hP
  have hS : va_S A s.heap H [] := by rw [hHe]; exact va_S.rf
  refine ct_start hHe ?_
  refine lv_bipush (v := 24) hx hb dX8_push_0 (by decide) ?_
  refine lv_istore_n (lv' := [(2, .int 24), (0, .ref a), (1, .int v)]) hx hb dX8_push_2 rfl hl (by decide) rfl (fun ls hl => ?_)
  refine lv_iload_n hx hb dX8_push_3 rfl (lv_at hl 0 rfl) ?_
  refine lv_if_lt (tgt := 46) hx hb dX8_push_4 (by decide) (fun hc => absurd hc (by decide)) (fun _ => ?_)
  refine lv_aload_n hx hb dX8_push_7 rfl (lv_at hl 1 rfl) ?_
  refine va_get (D := D) (ci := 8) (v := .int 8) (C := RX8) (T := TX8) (N := 6) hx hb hts hi8 hown hK hP 0 rfl rfl 1 (by decide) (hts (.fieldLink RX8 15 "OverHill$Tape" "length" "I") (by decide +kernel)) (fun _ h9 => h9) rfl dX8_push_8 ?_
  refine lv_sipush (v := 1200) hx hb dX8_push_11 (by decide) ?_
  refine lv_icmp_ge (tgt := 46) hx hb dX8_push_14 (by decide) (fun hc => absurd hc (by decide)) (fun _ => ?_)
  refine lv_aload_n hx hb dX8_push_17 rfl (lv_at hl 1 rfl) ?_
  refine va_get (D := D) (ci := 8) (v := .ref b) (C := RX8) (T := TX8) (N := 6) hx hb hts hi8 hown hK hP 0 rfl rfl 0 (by decide) (hts (.fieldLink RX8 9 "OverHill$Tape" "bytes" "[B") (by decide +kernel)) (fun _ h9 => h9) rfl dX8_push_18 ?_
  refine lv_aload_n hx hb dX8_push_21 rfl (lv_at hl 1 rfl) ?_
  refine va_get (D := D) (ci := 8) (v := .int 8) (C := RX8) (T := TX8) (N := 6) hx hb hts hi8 hown hK hP 0 rfl rfl 1 (by decide) (hts (.fieldLink RX8 15 "OverHill$Tape" "length" "I") (by decide +kernel)) (fun _ h9 => h9) rfl dX8_push_22 ?_
  refine lv_iload_n hx hb dX8_push_25 rfl (lv_at hl 2 rfl) ?_
  refine lv_iload_n hx hb dX8_push_26 rfl (lv_at hl 0 rfl) ?_
  refine lv_ishr hx hb dX8_push_27 ?_
  refine lv_topi (fun z95 ez95 => ?_)
  refine lv_i2b (v := z95.toInt8.toInt32) hx hb dX8_push_28 rfl ?_
  refine lv_topi (fun z96 ez96 => ?_)
  refine va_bast (D := D) hx hb hK hP hD hS 1 2 rfl rfl (tq_in (a := 8) (by decide) (by omega)) dX8_push_29 (fun H locs hP hD hS => ?_)
  obtain ⟨g97, hP, hD⟩ : ∃ g97 : Nat → Int32, va_P D vwCl [(a, .inr (8, [.ref b, .int 8, .int 0, .int 0, .int 0, .int 0])), (b, .inl (cB, 1200, .inl (g97)))] H ∧ va_D A [(a, .inr (8, [.ref b, .int 8, .int 0, .int 0, .int 0, .int 0])), (b, .inl (cB, 1200, .inl (g97)))] := ⟨_, hP, hD⟩
  refine lv_aload_n hx hb dX8_push_30 rfl (lv_at hl 1 rfl) ?_
  refine lv_dup hx hb dX8_push_31 rfl ?_
  refine va_get (D := D) (ci := 8) (v := .int 8) (C := RX8) (T := TX8) (N := 6) hx hb hts hi8 hown hK hP 0 rfl rfl 1 (by decide) (hts (.fieldLink RX8 15 "OverHill$Tape" "length" "I") (by decide +kernel)) (fun _ h9 => h9) rfl dX8_push_32 ?_
  refine lv_iconst (v := 1) hx hb dX8_push_35 (by decide) ?_
  refine lv_iadd hx hb dX8_push_36 ?_
  refine lv_topi (fun z98 ez98 => ?_)
  obtain rfl : z98 = 9 := ez98.trans (by decide)
  refine va_put (D := D) (ci := 8) (v := .int 9) (ty := .int) (C := RX8) (T := TX8) (N := 6) hx hb hts hi8 tyX8 tyX8_ok nmX8 hown hK hP hD hS 0 rfl rfl 1 (by decide) (hts (.fieldLink RX8 15 "OverHill$Tape" "length" "I") (by decide +kernel)) (fun _ h9 => h9) rfl (by decide +kernel) rfl rfl (Nat.le_of_ble_eq_true rfl) dX8_push_37 (fun H locs hP hD hS => ?_)
  have hP : va_P D vwCl [(a, .inr (8, [.ref b, .int 9, .int 0, .int 0, .int 0, .int 0])), (b, .inl (cB, 1200, .inl (g97)))] H := hP
  have hD : va_D A [(a, .inr (8, [.ref b, .int 9, .int 0, .int 0, .int 0, .int 0])), (b, .inl (cB, 1200, .inl (g97)))] := hD
  refine lv_iinc (v := 16) (lv' := [(2, .int 16), (0, .ref a), (1, .int v)]) hx hb dX8_push_40 hl (k := 0) rfl (by decide) (by decide) rfl (fun ls hl => ?_)
  refine lv_goto (tgt := 3) hx hb dX8_push_43 (by decide) ?_
  refine lv_iload_n hx hb dX8_push_3 rfl (lv_at hl 0 rfl) ?_
  refine lv_if_lt (tgt := 46) hx hb dX8_push_4 (by decide) (fun hc => absurd hc (by decide)) (fun _ => ?_)
  refine lv_aload_n hx hb dX8_push_7 rfl (lv_at hl 1 rfl) ?_
  refine va_get (D := D) (ci := 8) (v := .int 9) (C := RX8) (T := TX8) (N := 6) hx hb hts hi8 hown hK hP 0 rfl rfl 1 (by decide) (hts (.fieldLink RX8 15 "OverHill$Tape" "length" "I") (by decide +kernel)) (fun _ h9 => h9) rfl dX8_push_8 ?_
  refine lv_sipush (v := 1200) hx hb dX8_push_11 (by decide) ?_
  refine lv_icmp_ge (tgt := 46) hx hb dX8_push_14 (by decide) (fun hc => absurd hc (by decide)) (fun _ => ?_)
  refine lv_aload_n hx hb dX8_push_17 rfl (lv_at hl 1 rfl) ?_
  refine va_get (D := D) (ci := 8) (v := .ref b) (C := RX8) (T := TX8) (N := 6) hx hb hts hi8 hown hK hP 0 rfl rfl 0 (by decide) (hts (.fieldLink RX8 9 "OverHill$Tape" "bytes" "[B") (by decide +kernel)) (fun _ h9 => h9) rfl dX8_push_18 ?_
  refine lv_aload_n hx hb dX8_push_21 rfl (lv_at hl 1 rfl) ?_
  refine va_get (D := D) (ci := 8) (v := .int 9) (C := RX8) (T := TX8) (N := 6) hx hb hts hi8 hown hK hP 0 rfl rfl 1 (by decide) (hts (.fieldLink RX8 15 "OverHill$Tape" "length" "I") (by decide +kernel)) (fun _ h9 => h9) rfl dX8_push_22 ?_
  refine lv_iload_n hx hb dX8_push_25 rfl (lv_at hl 2 rfl) ?_
  refine lv_iload_n hx hb dX8_push_26 rfl (lv_at hl 0 rfl) ?_
  refine lv_ishr hx hb dX8_push_27 ?_
  refine lv_topi (fun z99 ez99 => ?_)
  refine lv_i2b (v := z99.toInt8.toInt32) hx hb dX8_push_28 rfl ?_
  refine lv_topi (fun z100 ez100 => ?_)
  refine va_bast (D := D) hx hb hK hP hD hS 1 2 rfl rfl (tq_in (a := 9) (by decide) (by omega)) dX8_push_29 (fun H locs hP hD hS => ?_)
  obtain ⟨g101, hP, hD⟩ : ∃ g101 : Nat → Int32, va_P D vwCl [(a, .inr (8, [.ref b, .int 9, .int 0, .int 0, .int 0, .int 0])), (b, .inl (cB, 1200, .inl (g101)))] H ∧ va_D A [(a, .inr (8, [.ref b, .int 9, .int 0, .int 0, .int 0, .int 0])), (b, .inl (cB, 1200, .inl (g101)))] := ⟨_, hP, hD⟩
  refine lv_aload_n hx hb dX8_push_30 rfl (lv_at hl 1 rfl) ?_
  refine lv_dup hx hb dX8_push_31 rfl ?_
  refine va_get (D := D) (ci := 8) (v := .int 9) (C := RX8) (T := TX8) (N := 6) hx hb hts hi8 hown hK hP 0 rfl rfl 1 (by decide) (hts (.fieldLink RX8 15 "OverHill$Tape" "length" "I") (by decide +kernel)) (fun _ h9 => h9) rfl dX8_push_32 ?_
  refine lv_iconst (v := 1) hx hb dX8_push_35 (by decide) ?_
  refine lv_iadd hx hb dX8_push_36 ?_
  refine lv_topi (fun z102 ez102 => ?_)
  obtain rfl : z102 = 10 := ez102.trans (by decide)
  refine va_put (D := D) (ci := 8) (v := .int 10) (ty := .int) (C := RX8) (T := TX8) (N := 6) hx hb hts hi8 tyX8 tyX8_ok nmX8 hown hK hP hD hS 0 rfl rfl 1 (by decide) (hts (.fieldLink RX8 15 "OverHill$Tape" "length" "I") (by decide +kernel)) (fun _ h9 => h9) rfl (by decide +kernel) rfl rfl (Nat.le_of_ble_eq_true rfl) dX8_push_37 (fun H locs hP hD hS => ?_)
  have hP : va_P D vwCl [(a, .inr (8, [.ref b, .int 10, .int 0, .int 0, .int 0, .int 0])), (b, .inl (cB, 1200, .inl (g101)))] H := hP
  have hD : va_D A [(a, .inr (8, [.ref b, .int 10, .int 0, .int 0, .int 0, .int 0])), (b, .inl (cB, 1200, .inl (g101)))] := hD
  refine lv_iinc (v := 8) (lv' := [(2, .int 8), (0, .ref a), (1, .int v)]) hx hb dX8_push_40 hl (k := 0) rfl (by decide) (by decide) rfl (fun ls hl => ?_)
  refine lv_goto (tgt := 3) hx hb dX8_push_43 (by decide) ?_
  refine lv_iload_n hx hb dX8_push_3 rfl (lv_at hl 0 rfl) ?_
  refine lv_if_lt (tgt := 46) hx hb dX8_push_4 (by decide) (fun hc => absurd hc (by decide)) (fun _ => ?_)
  refine lv_aload_n hx hb dX8_push_7 rfl (lv_at hl 1 rfl) ?_
  refine va_get (D := D) (ci := 8) (v := .int 10) (C := RX8) (T := TX8) (N := 6) hx hb hts hi8 hown hK hP 0 rfl rfl 1 (by decide) (hts (.fieldLink RX8 15 "OverHill$Tape" "length" "I") (by decide +kernel)) (fun _ h9 => h9) rfl dX8_push_8 ?_
  refine lv_sipush (v := 1200) hx hb dX8_push_11 (by decide) ?_
  refine lv_icmp_ge (tgt := 46) hx hb dX8_push_14 (by decide) (fun hc => absurd hc (by decide)) (fun _ => ?_)
  refine lv_aload_n hx hb dX8_push_17 rfl (lv_at hl 1 rfl) ?_
  refine va_get (D := D) (ci := 8) (v := .ref b) (C := RX8) (T := TX8) (N := 6) hx hb hts hi8 hown hK hP 0 rfl rfl 0 (by decide) (hts (.fieldLink RX8 9 "OverHill$Tape" "bytes" "[B") (by decide +kernel)) (fun _ h9 => h9) rfl dX8_push_18 ?_
  refine lv_aload_n hx hb dX8_push_21 rfl (lv_at hl 1 rfl) ?_
  refine va_get (D := D) (ci := 8) (v := .int 10) (C := RX8) (T := TX8) (N := 6) hx hb hts hi8 hown hK hP 0 rfl rfl 1 (by decide) (hts (.fieldLink RX8 15 "OverHill$Tape" "length" "I") (by decide +kernel)) (fun _ h9 => h9) rfl dX8_push_22 ?_
  refine lv_iload_n hx hb dX8_push_25 rfl (lv_at hl 2 rfl) ?_
  refine lv_iload_n hx hb dX8_push_26 rfl (lv_at hl 0 rfl) ?_
  refine lv_ishr hx hb dX8_push_27 ?_
  refine lv_topi (fun z103 ez103 => ?_)
  refine lv_i2b (v := z103.toInt8.toInt32) hx hb dX8_push_28 rfl ?_
  refine lv_topi (fun z104 ez104 => ?_)
  refine va_bast (D := D) hx hb hK hP hD hS 1 2 rfl rfl (tq_in (a := 10) (by decide) (by omega)) dX8_push_29 (fun H locs hP hD hS => ?_)
  obtain ⟨g105, hP, hD⟩ : ∃ g105 : Nat → Int32, va_P D vwCl [(a, .inr (8, [.ref b, .int 10, .int 0, .int 0, .int 0, .int 0])), (b, .inl (cB, 1200, .inl (g105)))] H ∧ va_D A [(a, .inr (8, [.ref b, .int 10, .int 0, .int 0, .int 0, .int 0])), (b, .inl (cB, 1200, .inl (g105)))] := ⟨_, hP, hD⟩
  refine lv_aload_n hx hb dX8_push_30 rfl (lv_at hl 1 rfl) ?_
  refine lv_dup hx hb dX8_push_31 rfl ?_
  refine va_get (D := D) (ci := 8) (v := .int 10) (C := RX8) (T := TX8) (N := 6) hx hb hts hi8 hown hK hP 0 rfl rfl 1 (by decide) (hts (.fieldLink RX8 15 "OverHill$Tape" "length" "I") (by decide +kernel)) (fun _ h9 => h9) rfl dX8_push_32 ?_
  refine lv_iconst (v := 1) hx hb dX8_push_35 (by decide) ?_
  refine lv_iadd hx hb dX8_push_36 ?_
  refine lv_topi (fun z106 ez106 => ?_)
  obtain rfl : z106 = 11 := ez106.trans (by decide)
  refine va_put (D := D) (ci := 8) (v := .int 11) (ty := .int) (C := RX8) (T := TX8) (N := 6) hx hb hts hi8 tyX8 tyX8_ok nmX8 hown hK hP hD hS 0 rfl rfl 1 (by decide) (hts (.fieldLink RX8 15 "OverHill$Tape" "length" "I") (by decide +kernel)) (fun _ h9 => h9) rfl (by decide +kernel) rfl rfl (Nat.le_of_ble_eq_true rfl) dX8_push_37 (fun H locs hP hD hS => ?_)
  have hP : va_P D vwCl [(a, .inr (8, [.ref b, .int 11, .int 0, .int 0, .int 0, .int 0])), (b, .inl (cB, 1200, .inl (g105)))] H := hP
  have hD : va_D A [(a, .inr (8, [.ref b, .int 11, .int 0, .int 0, .int 0, .int 0])), (b, .inl (cB, 1200, .inl (g105)))] := hD
  refine lv_iinc (v := 0) (lv' := [(2, .int 0), (0, .ref a), (1, .int v)]) hx hb dX8_push_40 hl (k := 0) rfl (by decide) (by decide) rfl (fun ls hl => ?_)
  refine lv_goto (tgt := 3) hx hb dX8_push_43 (by decide) ?_
  refine lv_iload_n hx hb dX8_push_3 rfl (lv_at hl 0 rfl) ?_
  refine lv_if_lt (tgt := 46) hx hb dX8_push_4 (by decide) (fun hc => absurd hc (by decide)) (fun _ => ?_)
  refine lv_aload_n hx hb dX8_push_7 rfl (lv_at hl 1 rfl) ?_
  refine va_get (D := D) (ci := 8) (v := .int 11) (C := RX8) (T := TX8) (N := 6) hx hb hts hi8 hown hK hP 0 rfl rfl 1 (by decide) (hts (.fieldLink RX8 15 "OverHill$Tape" "length" "I") (by decide +kernel)) (fun _ h9 => h9) rfl dX8_push_8 ?_
  refine lv_sipush (v := 1200) hx hb dX8_push_11 (by decide) ?_
  refine lv_icmp_ge (tgt := 46) hx hb dX8_push_14 (by decide) (fun hc => absurd hc (by decide)) (fun _ => ?_)
  refine lv_aload_n hx hb dX8_push_17 rfl (lv_at hl 1 rfl) ?_
  refine va_get (D := D) (ci := 8) (v := .ref b) (C := RX8) (T := TX8) (N := 6) hx hb hts hi8 hown hK hP 0 rfl rfl 0 (by decide) (hts (.fieldLink RX8 9 "OverHill$Tape" "bytes" "[B") (by decide +kernel)) (fun _ h9 => h9) rfl dX8_push_18 ?_
  refine lv_aload_n hx hb dX8_push_21 rfl (lv_at hl 1 rfl) ?_
  refine va_get (D := D) (ci := 8) (v := .int 11) (C := RX8) (T := TX8) (N := 6) hx hb hts hi8 hown hK hP 0 rfl rfl 1 (by decide) (hts (.fieldLink RX8 15 "OverHill$Tape" "length" "I") (by decide +kernel)) (fun _ h9 => h9) rfl dX8_push_22 ?_
  refine lv_iload_n hx hb dX8_push_25 rfl (lv_at hl 2 rfl) ?_
  refine lv_iload_n hx hb dX8_push_26 rfl (lv_at hl 0 rfl) ?_
  refine lv_ishr hx hb dX8_push_27 ?_
  refine lv_topi (fun z107 ez107 => ?_)
  refine lv_i2b (v := z107.toInt8.toInt32) hx hb dX8_push_28 rfl ?_
  refine lv_topi (fun z108 ez108 => ?_)
  refine va_bast (D := D) hx hb hK hP hD hS 1 2 rfl rfl (tq_in (a := 11) (by decide) (by omega)) dX8_push_29 (fun H locs hP hD hS => ?_)
  obtain ⟨g109, hP, hD⟩ : ∃ g109 : Nat → Int32, va_P D vwCl [(a, .inr (8, [.ref b, .int 11, .int 0, .int 0, .int 0, .int 0])), (b, .inl (cB, 1200, .inl (g109)))] H ∧ va_D A [(a, .inr (8, [.ref b, .int 11, .int 0, .int 0, .int 0, .int 0])), (b, .inl (cB, 1200, .inl (g109)))] := ⟨_, hP, hD⟩
  refine lv_aload_n hx hb dX8_push_30 rfl (lv_at hl 1 rfl) ?_
  refine lv_dup hx hb dX8_push_31 rfl ?_
  refine va_get (D := D) (ci := 8) (v := .int 11) (C := RX8) (T := TX8) (N := 6) hx hb hts hi8 hown hK hP 0 rfl rfl 1 (by decide) (hts (.fieldLink RX8 15 "OverHill$Tape" "length" "I") (by decide +kernel)) (fun _ h9 => h9) rfl dX8_push_32 ?_
  refine lv_iconst (v := 1) hx hb dX8_push_35 (by decide) ?_
  refine lv_iadd hx hb dX8_push_36 ?_
  refine lv_topi (fun z110 ez110 => ?_)
  obtain rfl : z110 = 12 := ez110.trans (by decide)
  refine va_put (D := D) (ci := 8) (v := .int 12) (ty := .int) (C := RX8) (T := TX8) (N := 6) hx hb hts hi8 tyX8 tyX8_ok nmX8 hown hK hP hD hS 0 rfl rfl 1 (by decide) (hts (.fieldLink RX8 15 "OverHill$Tape" "length" "I") (by decide +kernel)) (fun _ h9 => h9) rfl (by decide +kernel) rfl rfl (Nat.le_of_ble_eq_true rfl) dX8_push_37 (fun H locs hP hD hS => ?_)
  have hP : va_P D vwCl [(a, .inr (8, [.ref b, .int 12, .int 0, .int 0, .int 0, .int 0])), (b, .inl (cB, 1200, .inl (g109)))] H := hP
  have hD : va_D A [(a, .inr (8, [.ref b, .int 12, .int 0, .int 0, .int 0, .int 0])), (b, .inl (cB, 1200, .inl (g109)))] := hD
  refine lv_iinc (v := (-8)) (lv' := [(2, .int (-8)), (0, .ref a), (1, .int v)]) hx hb dX8_push_40 hl (k := 0) rfl (by decide) (by decide) rfl (fun ls hl => ?_)
  refine lv_goto (tgt := 3) hx hb dX8_push_43 (by decide) ?_
  refine lv_iload_n hx hb dX8_push_3 rfl (lv_at hl 0 rfl) ?_
  refine lv_if_lt (tgt := 46) hx hb dX8_push_4 (by decide) (fun _ => ?_) (fun hc => absurd hc (by decide))
  have hP9 := hP.sub (ws' := [(a, .inr (8, [.ref b, .int 12, .int 0, .int 0, .int 0, .int 0])), (b, .inl (cB, 1200, .inl (g109)))]) [0, 1] rfl
  have hD9 := hD.sub (ws' := [(a, .inr (8, [.ref b, .int 12, .int 0, .int 0, .int 0, .int 0])), (b, .inl (cB, 1200, .inl (g109)))]) [0, 1] (by decide) rfl
  exact W.vret hx hb hr (fun t ht hW => ⟨⟨g109, rfl, trivial, by rw [ht]; exact hP9, hD9⟩, hS.F ht⟩) hS.2.2 dX8_push_46
abbrev w_c_X8_push12 (cI cJ cB cZ cO : ClassId) (a : Nat) (b : Nat) (f : Nat → Int32) : va_W := [(a, .inr (8, [.ref b, .int 12, .int 0, .int 0, .int 0, .int 0])), (b, .inl (cB, 1200, .inl (f)))]
set_option maxHeartbeats 4000000 in
set_option maxRecDepth 100000 in
/-- four bytes more -/
theorem c_X8_push12 (l : Launch) (D : va_G) (cI cJ cB cZ cO : ClassId) (a : Nat) (b : Nat) (f : Nat → Int32) (v : Int32) (sz : Nat) : Met l yX8_push wsX8_push ({ frames := 0, cells := 0, slots := 0, locals := 0 }) (va_Pc [.ref a, .int v] (ct_P D (ct_T cI cJ cB cZ cO) (w_c_X8_push12 cI cJ cB cZ cO a b f) sz)) (va_Qv (fun (u : Nat → Int32) => True) (fun (u : Nat → Int32) t => ct_Q D (va_A (w_c_X8_push12 cI cJ cB cZ cO a b f) sz) [(a, .inr (8, [.ref b, .int 16, .int 0, .int 0, .int 0, .int 0])), (b, .inl (cB, 1200, .inl (u)))] t) (va_A (w_c_X8_push12 cI cJ cB cZ cO a b f) sz)) 0 0 (va_A (w_c_X8_push12 cI cJ cB cZ cO a b f) sz) := by
  refine Met.ofW (cc := cX8_push) (maxL := 3) (ret := none) (by decide) rfl ?_
  intro p e s m args below meth c s₁ B hml hv
  obtain ⟨rfl, hsz, hP, hE, hD0⟩ := hv
  have hx := B.exec
  have hb := B.bytes
  have hr := B.returns
  have hts := atoms_spec (ws := wsX8_push) B.pre
  have hown : s.vm.findClass RX8 = some m.cls := findClass_of_methodNamed B.named
  have hlocks := B.notSynchronized
  have hK := hE.1
  have hi8 : ∀ w ∈ u_ws RX8 TX8 6, w ∈ wsX8_push := fun w h => List.mem_cons_of_mem _ (List.mem_append_right _ h)
  subst hsz
  have hD := hD0.self (sz := s.heap.size)
  generalize hAe : va_A (w_c_X8_push12 cI cJ cB cZ cO a b f) s.heap.size = A at hD ⊢
  have hA : ∀ q : Nat, s.heap.size ≤ q → A q := fun q h => by rw [← hAe]; exact Or.inr h
  have hS : va_S A s.heap s.heap [] := va_S.rf
  have hP : va_P D vwCl [(a, .inr (8, [.ref b, .int 12, .int 0, .int 0, .int 0, .int 0])), (b, .inl (cB, 1200, .inl (f)))] s.heap := hP
  have hD : va_D A [(a, .inr (8, [.ref b, .int 12, .int 0, .int 0, .int 0, .int 0])), (b, .inl (cB, 1200, .inl (f)))] := hD
  have hl := lv_entry ([.ref a, .int v]) (n := 3) (Nat.le_of_ble_eq_true rfl)
  rw [lg_entry_eq]
  generalize (lg_sl ([.ref a, .int v]) ++ List.replicate (3 - (lg_sl ([.ref a, .int v])).length) Slot.unset).toArray = ls at hl ⊢
  have hl : lv_has ls 3 [(0, .ref a), (1, .int v)] := hl
  obtain ⟨H, hHe⟩ : ∃ H : Heap, H = s.heap := ⟨_, rfl⟩
  rw [← hHe] at hP
  have hS : va_S A s.heap H [] := by rw [hHe]; exact va_S.rf
  refine ct_start hHe ?_
  refine lv_bipush (v := 24) hx hb dX8_push_0 (by decide) ?_
  refine lv_istore_n (lv' := [(2, .int 24), (0, .ref a), (1, .int v)]) hx hb dX8_push_2 rfl hl (by decide) rfl (fun ls hl => ?_)
  refine lv_iload_n hx hb dX8_push_3 rfl (lv_at hl 0 rfl) ?_
  refine lv_if_lt (tgt := 46) hx hb dX8_push_4 (by decide) (fun hc => absurd hc (by decide)) (fun _ => ?_)
  refine lv_aload_n hx hb dX8_push_7 rfl (lv_at hl 1 rfl) ?_
  refine va_get (D := D) (ci := 8) (v := .int 12) (C := RX8) (T := TX8) (N := 6) hx hb hts hi8 hown hK hP 0 rfl rfl 1 (by decide) (hts (.fieldLink RX8 15 "OverHill$Tape" "length" "I") (by decide +kernel)) (fun _ h9 => h9) rfl dX8_push_8 ?_
  refine lv_sipush (v := 1200) hx hb dX8_push_11 (by decide) ?_
  refine lv_icmp_ge (tgt := 46) hx hb dX8_push_14 (by decide) (fun hc => absurd hc (by decide)) (fun _ => ?_)
  refine lv_aload_n hx hb dX8_push_17 rfl (lv_at hl 1 rfl) ?_
  refine va_get (D := D) (ci := 8) (v := .ref b) (C := RX8) (T := TX8) (N := 6) hx hb hts hi8 hown hK hP 0 rfl rfl 0 (by decide) (hts (.fieldLink RX8 9 "OverHill$Tape" "bytes" "[B") (by decide +kernel)) (fun _ h9 => h9) rfl dX8_push_18 ?_
  refine lv_aload_n hx hb dX8_push_21 rfl (lv_at hl 1 rfl) ?_
  refine va_get (D := D) (ci := 8) (v := .int 12) (C := RX8) (T := TX8) (N := 6) hx hb hts hi8 hown hK hP 0 rfl rfl 1 (by decide) (hts (.fieldLink RX8 15 "OverHill$Tape" "length" "I") (by decide +kernel)) (fun _ h9 => h9) rfl dX8_push_22 ?_
  refine lv_iload_n hx hb dX8_push_25 rfl (lv_at hl 2 rfl) ?_
  refine lv_iload_n hx hb dX8_push_26 rfl (lv_at hl 0 rfl) ?_
  refine lv_ishr hx hb dX8_push_27 ?_
  refine lv_topi (fun z111 ez111 => ?_)
  refine lv_i2b (v := z111.toInt8.toInt32) hx hb dX8_push_28 rfl ?_
  refine lv_topi (fun z112 ez112 => ?_)
  refine va_bast (D := D) hx hb hK hP hD hS 1 2 rfl rfl (tq_in (a := 12) (by decide) (by omega)) dX8_push_29 (fun H locs hP hD hS => ?_)
  obtain ⟨g113, hP, hD⟩ : ∃ g113 : Nat → Int32, va_P D vwCl [(a, .inr (8, [.ref b, .int 12, .int 0, .int 0, .int 0, .int 0])), (b, .inl (cB, 1200, .inl (g113)))] H ∧ va_D A [(a, .inr (8, [.ref b, .int 12, .int 0, .int 0, .int 0, .int 0])), (b, .inl (cB, 1200, .inl (g113)))] := ⟨_, hP, hD⟩
  refine lv_aload_n hx hb dX8_push_30 rfl (lv_at hl 1 rfl) ?_
  refine lv_dup hx hb dX8_push_31 rfl ?_
  refine va_get (D := D) (ci := 8) (v := .int 12) (C := RX8) (T := TX8) (N := 6) hx hb hts hi8 hown hK hP 0 rfl rfl 1 (by decide) (hts (.fieldLink RX8 15 "OverHill$Tape" "length" "I") (by decide +kernel)) (fun _ h9 => h9) rfl dX8_push_32 ?_
  refine lv_iconst (v := 1) hx hb dX8_push_35 (by decide) ?_
  refine lv_iadd hx hb dX8_push_36 ?_
  refine lv_topi (fun z114 ez114 => ?_)
  obtain rfl : z114 = 13 := ez114.trans (by decide)
  refine va_put (D := D) (ci := 8) (v := .int 13) (ty := .int) (C := RX8) (T := TX8) (N := 6) hx hb hts hi8 tyX8 tyX8_ok nmX8 hown hK hP hD hS 0 rfl rfl 1 (by decide) (hts (.fieldLink RX8 15 "OverHill$Tape" "length" "I") (by decide +kernel)) (fun _ h9 => h9) rfl (by decide +kernel) rfl rfl (Nat.le_of_ble_eq_true rfl) dX8_push_37 (fun H locs hP hD hS => ?_)
  have hP : va_P D vwCl [(a, .inr (8, [.ref b, .int 13, .int 0, .int 0, .int 0, .int 0])), (b, .inl (cB, 1200, .inl (g113)))] H := hP
  have hD : va_D A [(a, .inr (8, [.ref b, .int 13, .int 0, .int 0, .int 0, .int 0])), (b, .inl (cB, 1200, .inl (g113)))] := hD
  refine lv_iinc (v := 16) (lv' := [(2, .int 16), (0, .ref a), (1, .int v)]) hx hb dX8_push_40 hl (k := 0) rfl (by decide) (by decide) rfl (fun ls hl => ?_)
  refine lv_goto (tgt := 3) hx hb dX8_push_43 (by decide) ?_
  refine lv_iload_n hx hb dX8_push_3 rfl (lv_at hl 0 rfl) ?_
  refine lv_if_lt (tgt := 46) hx hb dX8_push_4 (by decide) (fun hc => absurd hc (by decide)) (fun _ => ?_)
  refine lv_aload_n hx hb dX8_push_7 rfl (lv_at hl 1 rfl) ?_
  refine va_get (D := D) (ci := 8) (v := .int 13) (C := RX8) (T := TX8) (N := 6) hx hb hts hi8 hown hK hP 0 rfl rfl 1 (by decide) (hts (.fieldLink RX8 15 "OverHill$Tape" "length" "I") (by decide +kernel)) (fun _ h9 => h9) rfl dX8_push_8 ?_
  refine lv_sipush (v := 1200) hx hb dX8_push_11 (by decide) ?_
  refine lv_icmp_ge (tgt := 46) hx hb dX8_push_14 (by decide) (fun hc => absurd hc (by decide)) (fun _ => ?_)
  refine lv_aload_n hx hb dX8_push_17 rfl (lv_at hl 1 rfl) ?_
  refine va_get (D := D) (ci := 8) (v := .ref b) (C := RX8) (T := TX8) (N := 6) hx hb hts hi8 hown hK hP 0 rfl rfl 0 (by decide) (hts (.fieldLink RX8 9 "OverHill$Tape" "bytes" "[B") (by decide +kernel)) (fun _ h9 => h9) rfl dX8_push_18 ?_
  refine lv_aload_n hx hb dX8_push_21 rfl (lv_at hl 1 rfl) ?_
  refine va_get (D := D) (ci := 8) (v := .int 13) (C := RX8) (T := TX8) (N := 6) hx hb hts hi8 hown hK hP 0 rfl rfl 1 (by decide) (hts (.fieldLink RX8 15 "OverHill$Tape" "length" "I") (by decide +kernel)) (fun _ h9 => h9) rfl dX8_push_22 ?_
  refine lv_iload_n hx hb dX8_push_25 rfl (lv_at hl 2 rfl) ?_
  refine lv_iload_n hx hb dX8_push_26 rfl (lv_at hl 0 rfl) ?_
  refine lv_ishr hx hb dX8_push_27 ?_
  refine lv_topi (fun z115 ez115 => ?_)
  refine lv_i2b (v := z115.toInt8.toInt32) hx hb dX8_push_28 rfl ?_
  refine lv_topi (fun z116 ez116 => ?_)
  refine va_bast (D := D) hx hb hK hP hD hS 1 2 rfl rfl (tq_in (a := 13) (by decide) (by omega)) dX8_push_29 (fun H locs hP hD hS => ?_)
  obtain ⟨g117, hP, hD⟩ : ∃ g117 : Nat → Int32, va_P D vwCl [(a, .inr (8, [.ref b, .int 13, .int 0, .int 0, .int 0, .int 0])), (b, .inl (cB, 1200, .inl (g117)))] H ∧ va_D A [(a, .inr (8, [.ref b, .int 13, .int 0, .int 0, .int 0, .int 0])), (b, .inl (cB, 1200, .inl (g117)))] := ⟨_, hP, hD⟩
  refine lv_aload_n hx hb dX8_push_30 rfl (lv_at hl 1 rfl) ?_
  refine lv_dup hx hb dX8_push_31 rfl ?_
  refine va_get (D := D) (ci := 8) (v := .int 13) (C := RX8) (T := TX8) (N := 6) hx hb hts hi8 hown hK hP 0 rfl rfl 1 (by decide) (hts (.fieldLink RX8 15 "OverHill$Tape" "length" "I") (by decide +kernel)) (fun _ h9 => h9) rfl dX8_push_32 ?_
  refine lv_iconst (v := 1) hx hb dX8_push_35 (by decide) ?_
  refine lv_iadd hx hb dX8_push_36 ?_
  refine lv_topi (fun z118 ez118 => ?_)
  obtain rfl : z118 = 14 := ez118.trans (by decide)
  refine va_put (D := D) (ci := 8) (v := .int 14) (ty := .int) (C := RX8) (T := TX8) (N := 6) hx hb hts hi8 tyX8 tyX8_ok nmX8 hown hK hP hD hS 0 rfl rfl 1 (by decide) (hts (.fieldLink RX8 15 "OverHill$Tape" "length" "I") (by decide +kernel)) (fun _ h9 => h9) rfl (by decide +kernel) rfl rfl (Nat.le_of_ble_eq_true rfl) dX8_push_37 (fun H locs hP hD hS => ?_)
  have hP : va_P D vwCl [(a, .inr (8, [.ref b, .int 14, .int 0, .int 0, .int 0, .int 0])), (b, .inl (cB, 1200, .inl (g117)))] H := hP
  have hD : va_D A [(a, .inr (8, [.ref b, .int 14, .int 0, .int 0, .int 0, .int 0])), (b, .inl (cB, 1200, .inl (g117)))] := hD
  refine lv_iinc (v := 8) (lv' := [(2, .int 8), (0, .ref a), (1, .int v)]) hx hb dX8_push_40 hl (k := 0) rfl (by decide) (by decide) rfl (fun ls hl => ?_)
  refine lv_goto (tgt := 3) hx hb dX8_push_43 (by decide) ?_
  refine lv_iload_n hx hb dX8_push_3 rfl (lv_at hl 0 rfl) ?_
  refine lv_if_lt (tgt := 46) hx hb dX8_push_4 (by decide) (fun hc => absurd hc (by decide)) (fun _ => ?_)
  refine lv_aload_n hx hb dX8_push_7 rfl (lv_at hl 1 rfl) ?_
  refine va_get (D := D) (ci := 8) (v := .int 14) (C := RX8) (T := TX8) (N := 6) hx hb hts hi8 hown hK hP 0 rfl rfl 1 (by decide) (hts (.fieldLink RX8 15 "OverHill$Tape" "length" "I") (by decide +kernel)) (fun _ h9 => h9) rfl dX8_push_8 ?_
  refine lv_sipush (v := 1200) hx hb dX8_push_11 (by decide) ?_
  refine lv_icmp_ge (tgt := 46) hx hb dX8_push_14 (by decide) (fun hc => absurd hc (by decide)) (fun _ => ?_)
  refine lv_aload_n hx hb dX8_push_17 rfl (lv_at hl 1 rfl) ?_
  refine va_get (D := D) (ci := 8) (v := .ref b) (C := RX8) (T := TX8) (N := 6) hx hb hts hi8 hown hK hP 0 rfl rfl 0 (by decide) (hts (.fieldLink RX8 9 "OverHill$Tape" "bytes" "[B") (by decide +kernel)) (fun _ h9 => h9) rfl dX8_push_18 ?_
  refine lv_aload_n hx hb dX8_push_21 rfl (lv_at hl 1 rfl) ?_
  refine va_get (D := D) (ci := 8) (v := .int 14) (C := RX8) (T := TX8) (N := 6) hx hb hts hi8 hown hK hP 0 rfl rfl 1 (by decide) (hts (.fieldLink RX8 15 "OverHill$Tape" "length" "I") (by decide +kernel)) (fun _ h9 => h9) rfl dX8_push_22 ?_
  refine lv_iload_n hx hb dX8_push_25 rfl (lv_at hl 2 rfl) ?_
  refine lv_iload_n hx hb dX8_push_26 rfl (lv_at hl 0 rfl) ?_
  refine lv_ishr hx hb dX8_push_27 ?_
  refine lv_topi (fun z119 ez119 => ?_)
  refine lv_i2b (v := z119.toInt8.toInt32) hx hb dX8_push_28 rfl ?_
  refine lv_topi (fun z120 ez120 => ?_)
  refine va_bast (D := D) hx hb hK hP hD hS 1 2 rfl rfl (tq_in (a := 14) (by decide) (by omega)) dX8_push_29 (fun H locs hP hD hS => ?_)
  obtain ⟨g121, hP, hD⟩ : ∃ g121 : Nat → Int32, va_P D vwCl [(a, .inr (8, [.ref b, .int 14, .int 0, .int 0, .int 0, .int 0])), (b, .inl (cB, 1200, .inl (g121)))] H ∧ va_D A [(a, .inr (8, [.ref b, .int 14, .int 0, .int 0, .int 0, .int 0])), (b, .inl (cB, 1200, .inl (g121)))] := ⟨_, hP, hD⟩
  refine lv_aload_n hx hb dX8_push_30 rfl (lv_at hl 1 rfl) ?_
  refine lv_dup hx hb dX8_push_31 rfl ?_
  refine va_get (D := D) (ci := 8) (v := .int 14) (C := RX8) (T := TX8) (N := 6) hx hb hts hi8 hown hK hP 0 rfl rfl 1 (by decide) (hts (.fieldLink RX8 15 "OverHill$Tape" "length" "I") (by decide +kernel)) (fun _ h9 => h9) rfl dX8_push_32 ?_
  refine lv_iconst (v := 1) hx hb dX8_push_35 (by decide) ?_
  refine lv_iadd hx hb dX8_push_36 ?_
  refine lv_topi (fun z122 ez122 => ?_)
  obtain rfl : z122 = 15 := ez122.trans (by decide)
  refine va_put (D := D) (ci := 8) (v := .int 15) (ty := .int) (C := RX8) (T := TX8) (N := 6) hx hb hts hi8 tyX8 tyX8_ok nmX8 hown hK hP hD hS 0 rfl rfl 1 (by decide) (hts (.fieldLink RX8 15 "OverHill$Tape" "length" "I") (by decide +kernel)) (fun _ h9 => h9) rfl (by decide +kernel) rfl rfl (Nat.le_of_ble_eq_true rfl) dX8_push_37 (fun H locs hP hD hS => ?_)
  have hP : va_P D vwCl [(a, .inr (8, [.ref b, .int 15, .int 0, .int 0, .int 0, .int 0])), (b, .inl (cB, 1200, .inl (g121)))] H := hP
  have hD : va_D A [(a, .inr (8, [.ref b, .int 15, .int 0, .int 0, .int 0, .int 0])), (b, .inl (cB, 1200, .inl (g121)))] := hD
  refine lv_iinc (v := 0) (lv' := [(2, .int 0), (0, .ref a), (1, .int v)]) hx hb dX8_push_40 hl (k := 0) rfl (by decide) (by decide) rfl (fun ls hl => ?_)
  refine lv_goto (tgt := 3) hx hb dX8_push_43 (by decide) ?_
  refine lv_iload_n hx hb dX8_push_3 rfl (lv_at hl 0 rfl) ?_
  refine lv_if_lt (tgt := 46) hx hb dX8_push_4 (by decide) (fun hc => absurd hc (by decide)) (fun _ => ?_)
  refine lv_aload_n hx hb dX8_push_7 rfl (lv_at hl 1 rfl) ?_
  refine va_get (D := D) (ci := 8) (v := .int 15) (C := RX8) (T := TX8) (N := 6) hx hb hts hi8 hown hK hP 0 rfl rfl 1 (by decide) (hts (.fieldLink RX8 15 "OverHill$Tape" "length" "I") (by decide +kernel)) (fun _ h9 => h9) rfl dX8_push_8 ?_
  refine lv_sipush (v := 1200) hx hb dX8_push_11 (by decide) ?_
  refine lv_icmp_ge (tgt := 46) hx hb dX8_push_14 (by decide) (fun hc => absurd hc (by decide)) (fun _ => ?_)
  refine lv_aload_n hx hb dX8_push_17 rfl (lv_at hl 1 rfl) ?_
  refine va_get (D := D) (ci := 8) (v := .ref b) (C := RX8) (T := TX8) (N := 6) hx hb hts hi8 hown hK hP 0 rfl rfl 0 (by decide) (hts (.fieldLink RX8 9 "OverHill$Tape" "bytes" "[B") (by decide +kernel)) (fun _ h9 => h9) rfl dX8_push_18 ?_
  refine lv_aload_n hx hb dX8_push_21 rfl (lv_at hl 1 rfl) ?_
  refine va_get (D := D) (ci := 8) (v := .int 15) (C := RX8) (T := TX8) (N := 6) hx hb hts hi8 hown hK hP 0 rfl rfl 1 (by decide) (hts (.fieldLink RX8 15 "OverHill$Tape" "length" "I") (by decide +kernel)) (fun _ h9 => h9) rfl dX8_push_22 ?_
  refine lv_iload_n hx hb dX8_push_25 rfl (lv_at hl 2 rfl) ?_
  refine lv_iload_n hx hb dX8_push_26 rfl (lv_at hl 0 rfl) ?_
  refine lv_ishr hx hb dX8_push_27 ?_
  refine lv_topi (fun z123 ez123 => ?_)
  refine lv_i2b (v := z123.toInt8.toInt32) hx hb dX8_push_28 rfl ?_
  refine lv_topi (fun z124 ez124 => ?_)
  refine va_bast (D := D) hx hb hK hP hD hS 1 2 rfl rfl (tq_in (a := 15) (by decide) (by omega)) dX8_push_29 (fun H locs hP hD hS => ?_)
  obtain ⟨g125, hP, hD⟩ : ∃ g125 : Nat → Int32, va_P D vwCl [(a, .inr (8, [.ref b, .int 15, .int 0, .int 0, .int 0, .int 0])), (b, .inl (cB, 1200, .inl (g125)))] H ∧ va_D A [(a, .inr (8, [.ref b, .int 15, .int 0, .int 0, .int 0, .int 0])), (b, .inl (cB, 1200, .inl (g125)))] := ⟨_, hP, hD⟩
  refine lv_aload_n hx hb dX8_push_30 rfl (lv_at hl 1 rfl) ?_
  refine lv_dup hx hb dX8_push_31 rfl ?_
  refine va_get (D := D) (ci := 8) (v := .int 15) (C := RX8) (T := TX8) (N := 6) hx hb hts hi8 hown hK hP 0 rfl rfl 1 (by decide) (hts (.fieldLink RX8 15 "OverHill$Tape" "length" "I") (by decide +kernel)) (fun _ h9 => h9) rfl dX8_push_32 ?_
  refine lv_iconst (v := 1) hx hb dX8_push_35 (by decide) ?_
  refine lv_iadd hx hb dX8_push_36 ?_
  refine lv_topi (fun z126 ez126 => ?_)
  obtain rfl : z126 = 16 := ez126.trans (by decide)
  refine va_put (D := D) (ci := 8) (v := .int 16) (ty := .int) (C := RX8) (T := TX8) (N := 6) hx hb hts hi8 tyX8 tyX8_ok nmX8 hown hK hP hD hS 0 rfl rfl 1 (by decide) (hts (.fieldLink RX8 15 "OverHill$Tape" "length" "I") (by decide +kernel)) (fun _ h9 => h9) rfl (by decide +kernel) rfl rfl (Nat.le_of_ble_eq_true rfl) dX8_push_37 (fun H locs hP hD hS => ?_)
  have hP : va_P D vwCl [(a, .inr (8, [.ref b, .int 16, .int 0, .int 0, .int 0, .int 0])), (b, .inl (cB, 1200, .inl (g125)))] H := hP
  have hD : va_D A [(a, .inr (8, [.ref b, .int 16, .int 0, .int 0, .int 0, .int 0])), (b, .inl (cB, 1200, .inl (g125)))] := hD
  refine lv_iinc (v := (-8)) (lv' := [(2, .int (-8)), (0, .ref a), (1, .int v)]) hx hb dX8_push_40 hl (k := 0) rfl (by decide) (by decide) rfl (fun ls hl => ?_)
  refine lv_goto (tgt := 3) hx hb dX8_push_43 (by decide) ?_
  refine lv_iload_n hx hb dX8_push_3 rfl (lv_at hl 0 rfl) ?_
  refine lv_if_lt (tgt := 46) hx hb dX8_push_4 (by decide) (fun _ => ?_) (fun hc => absurd hc (by decide))
  have hP9 := hP.sub (ws' := [(a, .inr (8, [.ref b, .int 16, .int 0, .int 0, .int 0, .int 0])), (b, .inl (cB, 1200, .inl (g125)))]) [0, 1] rfl
  have hD9 := hD.sub (ws' := [(a, .inr (8, [.ref b, .int 16, .int 0, .int 0, .int 0, .int 0])), (b, .inl (cB, 1200, .inl (g125)))]) [0, 1] (by decide) rfl
  exact W.vret hx hb hr (fun t ht hW => ⟨⟨g125, rfl, trivial, by rw [ht]; exact hP9, hD9⟩, hS.F ht⟩) hS.2.2 dX8_push_46
abbrev w_c_X8_push16 (cI cJ cB cZ cO : ClassId) (a : Nat) (b : Nat) (f : Nat → Int32) : va_W := [(a, .inr (8, [.ref b, .int 16, .int 0, .int 0, .int 0, .int 0])), (b, .inl (cB, 1200, .inl (f)))]
set_option maxHeartbeats 4000000 in
set_option maxRecDepth 100000 in
/-- four bytes more -/
theorem c_X8_push16 (l : Launch) (D : va_G) (cI cJ cB cZ cO : ClassId) (a : Nat) (b : Nat) (f : Nat → Int32) (v : Int32) (sz : Nat) : Met l yX8_push wsX8_push ({ frames := 0, cells := 0, slots := 0, locals := 0 }) (va_Pc [.ref a, .int v] (ct_P D (ct_T cI cJ cB cZ cO) (w_c_X8_push16 cI cJ cB cZ cO a b f) sz)) (va_Qv (fun (u : Nat → Int32) => True) (fun (u : Nat → Int32) t => ct_Q D (va_A (w_c_X8_push16 cI cJ cB cZ cO a b f) sz) [(a, .inr (8, [.ref b, .int 20, .int 0, .int 0, .int 0, .int 0])), (b, .inl (cB, 1200, .inl (u)))] t) (va_A (w_c_X8_push16 cI cJ cB cZ cO a b f) sz)) 0 0 (va_A (w_c_X8_push16 cI cJ cB cZ cO a b f) sz) := by
  refine Met.ofW (cc := cX8_push) (maxL := 3) (ret := none) (by decide) rfl ?_
  intro p e s m args below meth c s₁ B hml hv
  obtain ⟨rfl, hsz, hP, hE, hD0⟩ := hv
  have hx := B.exec
  have hb := B.bytes
  have hr := B.returns
  have hts := atoms_spec (ws := wsX8_push) B.pre
  have hown : s.vm.findClass RX8 = some m.cls := findClass_of_methodNamed B.named
  have hlocks := B.notSynchronized
  have hK := hE.1
  have hi8 : ∀ w ∈ u_ws RX8 TX8 6, w ∈ wsX8_push := fun w h => List.mem_cons_of_mem _ (List.mem_append_right _ h)
  subst hsz
  have hD := hD0.self (sz := s.heap.size)
  generalize hAe : va_A (w_c_X8_push16 cI cJ cB cZ cO a b f) s.heap.size = A at hD ⊢
  have hA : ∀ q : Nat, s.heap.size ≤ q → A q := fun q h => by rw [← hAe]; exact Or.inr h
  have hS : va_S A s.heap s.heap [] := va_S.rf
  have hP : va_P D vwCl [(a, .inr (8, [.ref b, .int 16, .int 0, .int 0, .int 0, .int 0])), (b, .inl (cB, 1200, .inl (f)))] s.heap := hP
  have hD : va_D A [(a, .inr (8, [.ref b, .int 16, .int 0, .int 0, .int 0, .int 0])), (b, .inl (cB, 1200, .inl (f)))] := hD
  have hl := lv_entry ([.ref a, .int v]) (n := 3) (Nat.le_of_ble_eq_true rfl)
  rw [lg_entry_eq]
  generalize (lg_sl ([.ref a, .int v]) ++ List.replicate (3 - (lg_sl ([.ref a, .int v])).length) Slot.unset).toArray = ls at hl ⊢
  have hl : lv_has ls 3 [(0, .ref a), (1, .int v)] := hl
  obtain ⟨H, hHe⟩ : ∃ H : Heap, H = s.heap := ⟨_, rfl⟩
  rw [← hHe] at hP
  have hS : va_S A s.heap H [] := by rw [hHe]; exact va_S.rf
  refine ct_start hHe ?_
  refine lv_bipush (v := 24) hx hb dX8_push_0 (by decide) ?_
  refine lv_istore_n (lv' := [(2, .int 24), (0, .ref a), (1, .int v)]) hx hb dX8_push_2 rfl hl (by decide) rfl (fun ls hl => ?_)
  refine lv_iload_n hx hb dX8_push_3 rfl (lv_at hl 0 rfl) ?_
  refine lv_if_lt (tgt := 46) hx hb dX8_push_4 (by decide) (fun hc => absurd hc (by decide)) (fun _ => ?_)
  refine lv_aload_n hx hb dX8_push_7 rfl (lv_at hl 1 rfl) ?_
  refine va_get (D := D) (ci := 8) (v := .int 16) (C := RX8) (T := TX8) (N := 6) hx hb hts hi8 hown hK hP 0 rfl rfl 1 (by decide) (hts (.fieldLink RX8 15 "OverHill$Tape" "length" "I") (by decide +kernel)) (fun _ h9 => h9) rfl dX8_push_8 ?_
  refine lv_sipush (v := 1200) hx hb dX8_push_11 (by decide) ?_
  refine lv_icmp_ge (tgt := 46) hx hb dX8_push_14 (by decide) (fun hc => absurd hc (by decide)) (fun _ => ?_)
  refine lv_aload_n hx hb dX8_push_17 rfl (lv_at hl 1 rfl) ?_
  refine va_get (D := D) (ci := 8) (v := .ref b) (C := RX8) (T := TX8) (N := 6) hx hb hts hi8 hown hK hP 0 rfl rfl 0 (by decide) (hts (.fieldLink RX8 9 "OverHill$Tape" "bytes" "[B") (by decide +kernel)) (fun _ h9 => h9) rfl dX8_push_18 ?_
  refine lv_aload_n hx hb dX8_push_21 rfl (lv_at hl 1 rfl) ?_
  refine va_get (D := D) (ci := 8) (v := .int 16) (C := RX8) (T := TX8) (N := 6) hx hb hts hi8 hown hK hP 0 rfl rfl 1 (by decide) (hts (.fieldLink RX8 15 "OverHill$Tape" "length" "I") (by decide +kernel)) (fun _ h9 => h9) rfl dX8_push_22 ?_
  refine lv_iload_n hx hb dX8_push_25 rfl (lv_at hl 2 rfl) ?_
  refine lv_iload_n hx hb dX8_push_26 rfl (lv_at hl 0 rfl) ?_
  refine lv_ishr hx hb dX8_push_27 ?_
  refine lv_topi (fun z127 ez127 => ?_)
  refine lv_i2b (v := z127.toInt8.toInt32) hx hb dX8_push_28 rfl ?_
  refine lv_topi (fun z128 ez128 => ?_)
  refine va_bast (D := D) hx hb hK hP hD hS 1 2 rfl rfl (tq_in (a := 16) (by decide) (by omega)) dX8_push_29 (fun H locs hP hD hS => ?_)
  obtain ⟨g129, hP, hD⟩ : ∃ g129 : Nat → Int32, va_P D vwCl [(a, .inr (8, [.ref b, .int 16, .int 0, .int 0, .int 0, .int 0])), (b, .inl (cB, 1200, .inl (g129)))] H ∧ va_D A [(a, .inr (8, [.ref b, .int 16, .int 0, .int 0, .int 0, .int 0])), (b, .inl (cB, 1200, .inl (g129)))] := ⟨_, hP, hD⟩
  refine lv_aload_n hx hb dX8_push_30 rfl (lv_at hl 1 rfl) ?_
  refine lv_dup hx hb dX8_push_31 rfl ?_
  refine va_get (D := D) (ci := 8) (v := .int 16) (C := RX8) (T := TX8) (N := 6) hx hb hts hi8 hown hK hP 0 rfl rfl 1 (by decide) (hts (.fieldLink RX8 15 "OverHill$Tape" "length" "I") (by decide +kernel)) (fun _ h9 => h9) rfl dX8_push_32 ?_
  refine lv_iconst (v := 1) hx hb dX8_push_35 (by decide) ?_
  refine lv_iadd hx hb dX8_push_36 ?_
  refine lv_topi (fun z130 ez130 => ?_)
  obtain rfl : z130 = 17 := ez130.trans (by decide)
  refine va_put (D := D) (ci := 8) (v := .int 17) (ty := .int) (C := RX8) (T := TX8) (N := 6) hx hb hts hi8 tyX8 tyX8_ok nmX8 hown hK hP hD hS 0 rfl rfl 1 (by decide) (hts (.fieldLink RX8 15 "OverHill$Tape" "length" "I") (by decide +kernel)) (fun _ h9 => h9) rfl (by decide +kernel) rfl rfl (Nat.le_of_ble_eq_true rfl) dX8_push_37 (fun H locs hP hD hS => ?_)
  have hP : va_P D vwCl [(a, .inr (8, [.ref b, .int 17, .int 0, .int 0, .int 0, .int 0])), (b, .inl (cB, 1200, .inl (g129)))] H := hP
  have hD : va_D A [(a, .inr (8, [.ref b, .int 17, .int 0, .int 0, .int 0, .int 0])), (b, .inl (cB, 1200, .inl (g129)))] := hD
  refine lv_iinc (v := 16) (lv' := [(2, .int 16), (0, .ref a), (1, .int v)]) hx hb dX8_push_40 hl (k := 0) rfl (by decide) (by decide) rfl (fun ls hl => ?_)
  refine lv_goto (tgt := 3) hx hb dX8_push_43 (by decide) ?_
  refine lv_iload_n hx hb dX8_push_3 rfl (lv_at hl 0 rfl) ?_
  refine lv_if_lt (tgt := 46) hx hb dX8_push_4 (by decide) (fun hc => absurd hc (by decide)) (fun _ => ?_)
  refine lv_aload_n hx hb dX8_push_7 rfl (lv_at hl 1 rfl) ?_
  refine va_get (D := D) (ci := 8) (v := .int 17) (C := RX8) (T := TX8) (N := 6) hx hb hts hi8 hown hK hP 0 rfl rfl 1 (by decide) (hts (.fieldLink RX8 15 "OverHill$Tape" "length" "I") (by decide +kernel)) (fun _ h9 => h9) rfl dX8_push_8 ?_
  refine lv_sipush (v := 1200) hx hb dX8_push_11 (by decide) ?_
  refine lv_icmp_ge (tgt := 46) hx hb dX8_push_14 (by decide) (fun hc => absurd hc (by decide)) (fun _ => ?_)
  refine lv_aload_n hx hb dX8_push_17 rfl (lv_at hl 1 rfl) ?_
  refine va_get (D := D) (ci := 8) (v := .ref b) (C := RX8) (T := TX8) (N := 6) hx hb hts hi8 hown hK hP 0 rfl rfl 0 (by decide) (hts (.fieldLink RX8 9 "OverHill$Tape" "bytes" "[B") (by decide +kernel)) (fun _ h9 => h9) rfl dX8_push_18 ?_
  refine lv_aload_n hx hb dX8_push_21 rfl (lv_at hl 1 rfl) ?_
  refine va_get (D := D) (ci := 8) (v := .int 17) (C := RX8) (T := TX8) (N := 6) hx hb hts hi8 hown hK hP 0 rfl rfl 1 (by decide) (hts (.fieldLink RX8 15 "OverHill$Tape" "length" "I") (by decide +kernel)) (fun _ h9 => h9) rfl dX8_push_22 ?_
  refine lv_iload_n hx hb dX8_push_25 rfl (lv_at hl 2 rfl) ?_
  refine lv_iload_n hx hb dX8_push_26 rfl (lv_at hl 0 rfl) ?_
  refine lv_ishr hx hb dX8_push_27 ?_
  refine lv_topi (fun z131 ez131 => ?_)
  refine lv_i2b (v := z131.toInt8.toInt32) hx hb dX8_push_28 rfl ?_
  refine lv_topi (fun z132 ez132 => ?_)
  refine va_bast (D := D) hx hb hK hP hD hS 1 2 rfl rfl (tq_in (a := 17) (by decide) (by omega)) dX8_push_29 (fun H locs hP hD hS => ?_)
  obtain ⟨g133, hP, hD⟩ : ∃ g133 : Nat → Int32, va_P D vwCl [(a, .inr (8, [.ref b, .int 17, .int 0, .int 0, .int 0, .int 0])), (b, .inl (cB, 1200, .inl (g133)))] H ∧ va_D A [(a, .inr (8, [.ref b, .int 17, .int 0, .int 0, .int 0, .int 0])), (b, .inl (cB, 1200, .inl (g133)))] := ⟨_, hP, hD⟩
  refine lv_aload_n hx hb dX8_push_30 rfl (lv_at hl 1 rfl) ?_
  refine lv_dup hx hb dX8_push_31 rfl ?_
  refine va_get (D := D) (ci := 8) (v := .int 17) (C := RX8) (T := TX8) (N := 6) hx hb hts hi8 hown hK hP 0 rfl rfl 1 (by decide) (hts (.fieldLink RX8 15 "OverHill$Tape" "length" "I") (by decide +kernel)) (fun _ h9 => h9) rfl dX8_push_32 ?_
  refine lv_iconst (v := 1) hx hb dX8_push_35 (by decide) ?_
  refine lv_iadd hx hb dX8_push_36 ?_
  refine lv_topi (fun z134 ez134 => ?_)
  obtain rfl : z134 = 18 := ez134.trans (by decide)
  refine va_put (D := D) (ci := 8) (v := .int 18) (ty := .int) (C := RX8) (T := TX8) (N := 6) hx hb hts hi8 tyX8 tyX8_ok nmX8 hown hK hP hD hS 0 rfl rfl 1 (by decide) (hts (.fieldLink RX8 15 "OverHill$Tape" "length" "I") (by decide +kernel)) (fun _ h9 => h9) rfl (by decide +kernel) rfl rfl (Nat.le_of_ble_eq_true rfl) dX8_push_37 (fun H locs hP hD hS => ?_)
  have hP : va_P D vwCl [(a, .inr (8, [.ref b, .int 18, .int 0, .int 0, .int 0, .int 0])), (b, .inl (cB, 1200, .inl (g133)))] H := hP
  have hD : va_D A [(a, .inr (8, [.ref b, .int 18, .int 0, .int 0, .int 0, .int 0])), (b, .inl (cB, 1200, .inl (g133)))] := hD
  refine lv_iinc (v := 8) (lv' := [(2, .int 8), (0, .ref a), (1, .int v)]) hx hb dX8_push_40 hl (k := 0) rfl (by decide) (by decide) rfl (fun ls hl => ?_)
  refine lv_goto (tgt := 3) hx hb dX8_push_43 (by decide) ?_
  refine lv_iload_n hx hb dX8_push_3 rfl (lv_at hl 0 rfl) ?_
  refine lv_if_lt (tgt := 46) hx hb dX8_push_4 (by decide) (fun hc => absurd hc (by decide)) (fun _ => ?_)
  refine lv_aload_n hx hb dX8_push_7 rfl (lv_at hl 1 rfl) ?_
  refine va_get (D := D) (ci := 8) (v := .int 18) (C := RX8) (T := TX8) (N := 6) hx hb hts hi8 hown hK hP 0 rfl rfl 1 (by decide) (hts (.fieldLink RX8 15 "OverHill$Tape" "length" "I") (by decide +kernel)) (fun _ h9 => h9) rfl dX8_push_8 ?_
  refine lv_sipush (v := 1200) hx hb dX8_push_11 (by decide) ?_
  refine lv_icmp_ge (tgt := 46) hx hb dX8_push_14 (by decide) (fun hc => absurd hc (by decide)) (fun _ => ?_)
  refine lv_aload_n hx hb dX8_push_17 rfl (lv_at hl 1 rfl) ?_
  refine va_get (D := D) (ci := 8) (v := .ref b) (C := RX8) (T := TX8) (N := 6) hx hb hts hi8 hown hK hP 0 rfl rfl 0 (by decide) (hts (.fieldLink RX8 9 "OverHill$Tape" "bytes" "[B") (by decide +kernel)) (fun _ h9 => h9) rfl dX8_push_18 ?_
  refine lv_aload_n hx hb dX8_push_21 rfl (lv_at hl 1 rfl) ?_
  refine va_get (D := D) (ci := 8) (v := .int 18) (C := RX8) (T := TX8) (N := 6) hx hb hts hi8 hown hK hP 0 rfl rfl 1 (by decide) (hts (.fieldLink RX8 15 "OverHill$Tape" "length" "I") (by decide +kernel)) (fun _ h9 => h9) rfl dX8_push_22 ?_
  refine lv_iload_n hx hb dX8_push_25 rfl (lv_at hl 2 rfl) ?_
  refine lv_iload_n hx hb dX8_push_26 rfl (lv_at hl 0 rfl) ?_
  refine lv_ishr hx hb dX8_push_27 ?_
  refine lv_topi (fun z135 ez135 => ?_)
  refine lv_i2b (v := z135.toInt8.toInt32) hx hb dX8_push_28 rfl ?_
  refine lv_topi (fun z136 ez136 => ?_)
  refine va_bast (D := D) hx hb hK hP hD hS 1 2 rfl rfl (tq_in (a := 18) (by decide) (by omega)) dX8_push_29 (fun H locs hP hD hS => ?_)
  obtain ⟨g137, hP, hD⟩ : ∃ g137 : Nat → Int32, va_P D vwCl [(a, .inr (8, [.ref b, .int 18, .int 0, .int 0, .int 0, .int 0])), (b, .inl (cB, 1200, .inl (g137)))] H ∧ va_D A [(a, .inr (8, [.ref b, .int 18, .int 0, .int 0, .int 0, .int 0])), (b, .inl (cB, 1200, .inl (g137)))] := ⟨_, hP, hD⟩
  refine lv_aload_n hx hb dX8_push_30 rfl (lv_at hl 1 rfl) ?_
  refine lv_dup hx hb dX8_push_31 rfl ?_
  refine va_get (D := D) (ci := 8) (v := .int 18) (C := RX8) (T := TX8) (N := 6) hx hb hts hi8 hown hK hP 0 rfl rfl 1 (by decide) (hts (.fieldLink RX8 15 "OverHill$Tape" "length" "I") (by decide +kernel)) (fun _ h9 => h9) rfl dX8_push_32 ?_
  refine lv_iconst (v := 1) hx hb dX8_push_35 (by decide) ?_
  refine lv_iadd hx hb dX8_push_36 ?_
  refine lv_topi (fun z138 ez138 => ?_)
  obtain rfl : z138 = 19 := ez138.trans (by decide)
  refine va_put (D := D) (ci := 8) (v := .int 19) (ty := .int) (C := RX8) (T := TX8) (N := 6) hx hb hts hi8 tyX8 tyX8_ok nmX8 hown hK hP hD hS 0 rfl rfl 1 (by decide) (hts (.fieldLink RX8 15 "OverHill$Tape" "length" "I") (by decide +kernel)) (fun _ h9 => h9) rfl (by decide +kernel) rfl rfl (Nat.le_of_ble_eq_true rfl) dX8_push_37 (fun H locs hP hD hS => ?_)
  have hP : va_P D vwCl [(a, .inr (8, [.ref b, .int 19, .int 0, .int 0, .int 0, .int 0])), (b, .inl (cB, 1200, .inl (g137)))] H := hP
  have hD : va_D A [(a, .inr (8, [.ref b, .int 19, .int 0, .int 0, .int 0, .int 0])), (b, .inl (cB, 1200, .inl (g137)))] := hD
  refine lv_iinc (v := 0) (lv' := [(2, .int 0), (0, .ref a), (1, .int v)]) hx hb dX8_push_40 hl (k := 0) rfl (by decide) (by decide) rfl (fun ls hl => ?_)
  refine lv_goto (tgt := 3) hx hb dX8_push_43 (by decide) ?_
  refine lv_iload_n hx hb dX8_push_3 rfl (lv_at hl 0 rfl) ?_
  refine lv_if_lt (tgt := 46) hx hb dX8_push_4 (by decide) (fun hc => absurd hc (by decide)) (fun _ => ?_)
  refine lv_aload_n hx hb dX8_push_7 rfl (lv_at hl 1 rfl) ?_
  refine va_get (D := D) (ci := 8) (v := .int 19) (C := RX8) (T := TX8) (N := 6) hx hb hts hi8 hown hK hP 0 rfl rfl 1 (by decide) (hts (.fieldLink RX8 15 "OverHill$Tape" "length" "I") (by decide +kernel)) (fun _ h9 => h9) rfl dX8_push_8 ?_
  refine lv_sipush (v := 1200) hx hb dX8_push_11 (by decide) ?_
  refine lv_icmp_ge (tgt := 46) hx hb dX8_push_14 (by decide) (fun hc => absurd hc (by decide)) (fun _ => ?_)
  refine lv_aload_n hx hb dX8_push_17 rfl (lv_at hl 1 rfl) ?_
  refine va_get (D := D) (ci := 8) (v := .ref b) (C := RX8) (T := TX8) (N := 6) hx hb hts hi8 hown hK hP 0 rfl rfl 0 (by decide) (hts (.fieldLink RX8 9 "OverHill$Tape" "bytes" "[B") (by decide +kernel)) (fun _ h9 => h9) rfl dX8_push_18 ?_
  refine lv_aload_n hx hb dX8_push_21 rfl (lv_at hl 1 rfl) ?_
  refine va_get (D := D) (ci := 8) (v := .int 19) (C := RX8) (T := TX8) (N := 6) hx hb hts hi8 hown hK hP 0 rfl rfl 1 (by decide) (hts (.fieldLink RX8 15 "OverHill$Tape" "length" "I") (by decide +kernel)) (fun _ h9 => h9) rfl dX8_push_22 ?_
  refine lv_iload_n hx hb dX8_push_25 rfl (lv_at hl 2 rfl) ?_
  refine lv_iload_n hx hb dX8_push_26 rfl (lv_at hl 0 rfl) ?_
  refine lv_ishr hx hb dX8_push_27 ?_
  refine lv_topi (fun z139 ez139 => ?_)
  refine lv_i2b (v := z139.toInt8.toInt32) hx hb dX8_push_28 rfl ?_
  refine lv_topi (fun z140 ez140 => ?_)
  refine va_bast (D := D) hx hb hK hP hD hS 1 2 rfl rfl (tq_in (a := 19) (by decide) (by omega)) dX8_push_29 (fun H locs hP hD hS => ?_)
  obtain ⟨g141, hP, hD⟩ : ∃ g141 : Nat → Int32, va_P D vwCl [(a, .inr (8, [.ref b, .int 19, .int 0, .int 0, .int 0, .int 0])), (b, .inl (cB, 1200, .inl (g141)))] H ∧ va_D A [(a, .inr (8, [.ref b, .int 19, .int 0, .int 0, .int 0, .int 0])), (b, .inl (cB, 1200, .inl (g141)))] := ⟨_, hP, hD⟩
  refine lv_aload_n hx hb dX8_push_30 rfl (lv_at hl 1 rfl) ?_
  refine lv_dup hx hb dX8_push_31 rfl ?_
  refine va_get (D := D) (ci := 8) (v := .int 19) (C := RX8) (T := TX8) (N := 6) hx hb hts hi8 hown hK hP 0 rfl rfl 1 (by decide) (hts (.fieldLink RX8 15 "OverHill$Tape" "length" "I") (by decide +kernel)) (fun _ h9 => h9) rfl dX8_push_32 ?_
  refine lv_iconst (v := 1) hx hb dX8_push_35 (by decide) ?_
  refine lv_iadd hx hb dX8_push_36 ?_
  refine lv_topi (fun z142 ez142 => ?_)
  obtain rfl : z142 = 20 := ez142.trans (by decide)
  refine va_put (D := D) (ci := 8) (v := .int 20) (ty := .int) (C := RX8) (T := TX8) (N := 6) hx hb hts hi8 tyX8 tyX8_ok nmX8 hown hK hP hD hS 0 rfl rfl 1 (by decide) (hts (.fieldLink RX8 15 "OverHill$Tape" "length" "I") (by decide +kernel)) (fun _ h9 => h9) rfl (by decide +kernel) rfl rfl (Nat.le_of_ble_eq_true rfl) dX8_push_37 (fun H locs hP hD hS => ?_)
  have hP : va_P D vwCl [(a, .inr (8, [.ref b, .int 20, .int 0, .int 0, .int 0, .int 0])), (b, .inl (cB, 1200, .inl (g141)))] H := hP
  have hD : va_D A [(a, .inr (8, [.ref b, .int 20, .int 0, .int 0, .int 0, .int 0])), (b, .inl (cB, 1200, .inl (g141)))] := hD
  refine lv_iinc (v := (-8)) (lv' := [(2, .int (-8)), (0, .ref a), (1, .int v)]) hx hb dX8_push_40 hl (k := 0) rfl (by decide) (by decide) rfl (fun ls hl => ?_)
  refine lv_goto (tgt := 3) hx hb dX8_push_43 (by decide) ?_
  refine lv_iload_n hx hb dX8_push_3 rfl (lv_at hl 0 rfl) ?_
  refine lv_if_lt (tgt := 46) hx hb dX8_push_4 (by decide) (fun _ => ?_) (fun hc => absurd hc (by decide))
  have hP9 := hP.sub (ws' := [(a, .inr (8, [.ref b, .int 20, .int 0, .int 0, .int 0, .int 0])), (b, .inl (cB, 1200, .inl (g141)))]) [0, 1] rfl
  have hD9 := hD.sub (ws' := [(a, .inr (8, [.ref b, .int 20, .int 0, .int 0, .int 0, .int 0])), (b, .inl (cB, 1200, .inl (g141)))]) [0, 1] (by decide) rfl
  exact W.vret hx hb hr (fun t ht hW => ⟨⟨g141, rfl, trivial, by rw [ht]; exact hP9, hD9⟩, hS.F ht⟩) hS.2.2 dX8_push_46
abbrev w_c_X11_feed (cI cJ cB cZ cO : ClassId) (h : Nat) (r : Nat → Nat) : va_W := [oo h r (r 2) (r 3), ((r 1), .inr (8, [.ref (r 16), .int 0, .int 0, .int 0, .int 0, .int 0])), ((r 16), .inl (cB, 1200, .inl (fun _ => 0)))]
set_option maxHeartbeats 4000000 in
set_option maxRecDepth 100000 in
/-- feed, on a new object -/
theorem c_X11_feed (l : Launch) (D : va_G) (cI cJ cB cZ cO : ClassId) (h : Nat) (r : Nat → Nat) (x1 : Int32) (x2 : Int32) (x3 : Int32) (x4 : Int32) (x5 : Int32) (sz : Nat) : Met l yX11_feed wsX11_feed ({ frames := 1, cells := 0, slots := 0, locals := 22 }) (va_Pc [.ref h, .int x1, .int x2, .int x3, .int x4, .int x5] (ct_P D (ct_T cI cJ cB cZ cO) (w_c_X11_feed cI cJ cB cZ cO h r) sz)) (va_Qi (fun (rz : Int32) (u : Unit) => (rz = 20 ∧ True)) (fun (u : Unit) t => ct_Q D (va_A (w_c_X11_feed cI cJ cB cZ cO h r) sz) [] t) (va_A (w_c_X11_feed cI cJ cB cZ cO h r) sz)) 0 0 (va_A (w_c_X11_feed cI cJ cB cZ cO h r) sz) := by
  refine Met.ofW (cc := cX11_feed) (maxL := 6) (ret := (some .int)) (by decide) rfl ?_
  intro p e s m args below meth c s₁ B hml hv
  obtain ⟨rfl, hsz, hP, hE, hD0⟩ := hv
  have hx := B.exec
  have hb := B.bytes
  have hr := B.returns
  have hts := atoms_spec (ws := wsX11_feed) B.pre
  have hown : s.vm.findClass RX11 = some m.cls := findClass_of_methodNamed B.named
  have hlocks := B.notSynchronized
  have hK := hE.1
  have hi8 : ∀ w ∈ u_ws RX8 TX8 6, w ∈ wsX11_feed := fun w h => List.mem_cons_of_mem _ (List.mem_append_right _ h)
  have hi11 : ∀ w ∈ u_ws RX11 TX11 16, w ∈ wsX11_feed := fun w h => List.mem_cons_of_mem _ (List.mem_append_left _ (List.mem_append_right _ h))
  subst hsz
  have hD := hD0.self (sz := s.heap.size)
  generalize hAe : va_A (w_c_X11_feed cI cJ cB cZ cO h r) s.heap.size = A at hD ⊢
  have hA : ∀ q : Nat, s.heap.size ≤ q → A q := fun q h => by rw [← hAe]; exact Or.inr h
  have hS : va_S A s.heap s.heap [] := va_S.rf
  have hP : va_P D vwCl [oo h r (r 2) (r 3), ((r 1), .inr (8, [.ref (r 16), .int 0, .int 0, .int 0, .int 0, .int 0])), ((r 16), .inl (cB, 1200, .inl (fun _ => 0)))] s.heap := hP
  have hD : va_D A [oo h r (r 2) (r 3), ((r 1), .inr (8, [.ref (r 16), .int 0, .int 0, .int 0, .int 0, .int 0])), ((r 16), .inl (cB, 1200, .inl (fun _ => 0)))] := hD
  have hl := lv_entry ([.ref h, .int x1, .int x2, .int x3, .int x4, .int x5]) (n := 6) (Nat.le_of_ble_eq_true rfl)
  rw [lg_entry_eq]
  generalize (lg_sl ([.ref h, .int x1, .int x2, .int x3, .int x4, .int x5]) ++ List.replicate (6 - (lg_sl ([.ref h, .int x1, .int x2, .int x3, .int x4, .int x5])).length) Slot.unset).toArray = ls at hl ⊢
  have hl : lv_has ls 6 [(0, .ref h), (1, .int x1), (2, .int x2), (3, .int x3), (4, .int x4), (5, .int x5)] := hl
  obtain ⟨H, hHe⟩ : ∃ H : Heap, H = s.heap := ⟨_, rfl⟩
  rw [← hHe] at hP
  have hS : va_S A s.heap H [] := by rw [hHe]; exact va_S.rf
  refine ct_start hHe ?_
  refine lv_aload_n hx hb dX11_feed_0 rfl (lv_at hl 0 rfl) ?_
  refine va_get (D := D) (ci := 11) (v := .ref (r 1)) (C := RX11) (T := TX11) (N := 16) hx hb hts hi11 hown hK hP 0 rfl rfl 1 (by decide) (hts (.fieldLink RX11 20 "OverHill" "tape" "LOverHill$Tape;") (by decide +kernel)) (fun _ h9 => h9) rfl dX11_feed_1 ?_
  refine va_get (D := D) (ci := 8) (v := .int 0) (C := RX8) (T := TX8) (N := 6) hx hb hts hi8 hown hK hP 1 rfl rfl 1 (by decide) (hts (.fieldLink RX11 102 "OverHill$Tape" "length" "I") (by decide +kernel)) (fun _ h9 => h9) rfl dX11_feed_4 ?_
  refine lv_bipush (v := 20) hx hb dX11_feed_7 (by decide) ?_
  refine lv_iadd hx hb dX11_feed_9 ?_
  refine lv_topi (fun z143 ez143 => ?_)
  obtain rfl : z143 = 20 := ez143.trans (by decide)
  refine lv_sipush (v := 1200) hx hb dX11_feed_10 (by decide) ?_
  refine lv_icmp_le (tgt := 18) hx hb dX11_feed_13 (by decide) (fun _ => ?_) (fun hc => absurd hc (by decide))
  refine lv_aload_n hx hb dX11_feed_18 rfl (lv_at hl 0 rfl) ?_
  refine va_get (D := D) (ci := 11) (v := .ref (r 1)) (C := RX11) (T := TX11) (N := 16) hx hb hts hi11 hown hK hP 0 rfl rfl 1 (by decide) (hts (.fieldLink RX11 20 "OverHill" "tape" "LOverHill$Tape;") (by decide +kernel)) (fun _ h9 => h9) rfl dX11_feed_19 ?_
  refine lv_iload_n hx hb dX11_feed_22 rfl (lv_at hl 1 rfl) ?_
  refine ct_callv (D := D) (wc := (w_c_X8_push0 cI cJ cB cZ cO (r 1) (r 16) (fun _ => 0))) (wr := [oo h r (r 2) (r 3)]) (va_runV (As := [.int x1]) (rest := []) ⟨hx, hb, hml, hown, hts⟩ (c_X8_push0 l D cI cJ cB cZ cO (r 1) (r 16) (fun _ => 0) x1 H.size) (cwV 1 hts gX11_feed_X8_push rfl rfl rfl (by decide +kernel) ⟨Nat.le_of_ble_eq_true rfl, Nat.le_of_ble_eq_true rfl⟩) (ct_preV (T := ct_T cI cJ cB cZ cO) (ci := 8) (q0 := 1) hE hP hD [1, 2] (by decide) rfl rfl rfl) rfl rfl hl.1 rfl (lv_room (Nat.le_of_ble_eq_true rfl)) dX11_feed_23 ⟨Nat.le_of_ble_eq_true rfl, Nat.le_of_ble_eq_true rfl⟩) hP hD hS hA [1, 2] [0] rfl rfl (by decide) (by decide) (fun u H locs hw hP hD hS => ?_)
  obtain ⟨u144, rfl⟩ : ∃ z, z = u := ⟨_, rfl⟩
  have hP : va_P D vwCl [oo h r (r 2) (r 3), ((r 1), .inr (8, [.ref (r 16), .int 4, .int 0, .int 0, .int 0, .int 0])), ((r 16), .inl (cB, 1200, .inl (u144)))] H := hP
  have hD : va_D A [oo h r (r 2) (r 3), ((r 1), .inr (8, [.ref (r 16), .int 4, .int 0, .int 0, .int 0, .int 0])), ((r 16), .inl (cB, 1200, .inl (u144)))] := hD
  refine lv_aload_n hx hb dX11_feed_26 rfl (lv_at hl 0 rfl) ?_
  refine va_get (D := D) (ci := 11) (v := .ref (r 1)) (C := RX11) (T := TX11) (N := 16) hx hb hts hi11 hown hK hP 0 rfl rfl 1 (by decide) (hts (.fieldLink RX11 20 "OverHill" "tape" "LOverHill$Tape;") (by decide +kernel)) (fun _ h9 => h9) rfl dX11_feed_27 ?_
  refine lv_iload_n hx hb dX11_feed_30 rfl (lv_at hl 2 rfl) ?_
  refine ct_callv (D := D) (wc := (w_c_X8_push4 cI cJ cB cZ cO (r 1) (r 16) u144)) (wr := [oo h r (r 2) (r 3)]) (va_runV (As := [.int x2]) (rest := []) ⟨hx, hb, hml, hown, hts⟩ (c_X8_push4 l D cI cJ cB cZ cO (r 1) (r 16) u144 x2 H.size) (cwV 1 hts gX11_feed_X8_push rfl rfl rfl (by decide +kernel) ⟨Nat.le_of_ble_eq_true rfl, Nat.le_of_ble_eq_true rfl⟩) (ct_preV (T := ct_T cI cJ cB cZ cO) (ci := 8) (q0 := 1) hE hP hD [1, 2] (by decide) rfl rfl rfl) rfl rfl hl.1 rfl (lv_room (Nat.le_of_ble_eq_true rfl)) dX11_feed_31 ⟨Nat.le_of_ble_eq_true rfl, Nat.le_of_ble_eq_true rfl⟩) hP hD hS hA [1, 2] [0] rfl rfl (by decide) (by decide) (fun u H locs hw hP hD hS => ?_)
  obtain ⟨u145, rfl⟩ : ∃ z, z = u := ⟨_, rfl⟩
  have hP : va_P D vwCl [oo h r (r 2) (r 3), ((r 1), .inr (8, [.ref (r 16), .int 8, .int 0, .int 0, .int 0, .int 0])), ((r 16), .inl (cB, 1200, .inl (u145)))] H := hP
  have hD : va_D A [oo h r (r 2) (r 3), ((r 1), .inr (8, [.ref (r 16), .int 8, .int 0, .int 0, .int 0, .int 0])), ((r 16), .inl (cB, 1200, .inl (u145)))] := hD
  refine lv_aload_n hx hb dX11_feed_34 rfl (lv_at hl 0 rfl) ?_
  refine va_get (D := D) (ci := 11) (v := .ref (r 1)) (C := RX11) (T := TX11) (N := 16) hx hb hts hi11 hown hK hP 0 rfl rfl 1 (by decide) (hts (.fieldLink RX11 20 "OverHill" "tape" "LOverHill$Tape;") (by decide +kernel)) (fun _ h9 => h9) rfl dX11_feed_35 ?_
  refine lv_iload_n hx hb dX11_feed_38 rfl (lv_at hl 3 rfl) ?_
  refine ct_callv (D := D) (wc := (w_c_X8_push8 cI cJ cB cZ cO (r 1) (r 16) u145)) (wr := [oo h r (r 2) (r 3)]) (va_runV (As := [.int x3]) (rest := []) ⟨hx, hb, hml, hown, hts⟩ (c_X8_push8 l D cI cJ cB cZ cO (r 1) (r 16) u145 x3 H.size) (cwV 1 hts gX11_feed_X8_push rfl rfl rfl (by decide +kernel) ⟨Nat.le_of_ble_eq_true rfl, Nat.le_of_ble_eq_true rfl⟩) (ct_preV (T := ct_T cI cJ cB cZ cO) (ci := 8) (q0 := 1) hE hP hD [1, 2] (by decide) rfl rfl rfl) rfl rfl hl.1 rfl (lv_room (Nat.le_of_ble_eq_true rfl)) dX11_feed_39 ⟨Nat.le_of_ble_eq_true rfl, Nat.le_of_ble_eq_true rfl⟩) hP hD hS hA [1, 2] [0] rfl rfl (by decide) (by decide) (fun u H locs hw hP hD hS => ?_)
  obtain ⟨u146, rfl⟩ : ∃ z, z = u := ⟨_, rfl⟩
  have hP : va_P D vwCl [oo h r (r 2) (r 3), ((r 1), .inr (8, [.ref (r 16), .int 12, .int 0, .int 0, .int 0, .int 0])), ((r 16), .inl (cB, 1200, .inl (u146)))] H := hP
  have hD : va_D A [oo h r (r 2) (r 3), ((r 1), .inr (8, [.ref (r 16), .int 12, .int 0, .int 0, .int 0, .int 0])), ((r 16), .inl (cB, 1200, .inl (u146)))] := hD
  refine lv_aload_n hx hb dX11_feed_42 rfl (lv_at hl 0 rfl) ?_
  refine va_get (D := D) (ci := 11) (v := .ref (r 1)) (C := RX11) (T := TX11) (N := 16) hx hb hts hi11 hown hK hP 0 rfl rfl 1 (by decide) (hts (.fieldLink RX11 20 "OverHill" "tape" "LOverHill$Tape;") (by decide +kernel)) (fun _ h9 => h9) rfl dX11_feed_43 ?_
  refine lv_iload hx hb dX11_feed_46 (lv_at hl 4 rfl) ?_
  refine ct_callv (D := D) (wc := (w_c_X8_push12 cI cJ cB cZ cO (r 1) (r 16) u146)) (wr := [oo h r (r 2) (r 3)]) (va_runV (As := [.int x4]) (rest := []) ⟨hx, hb, hml, hown, hts⟩ (c_X8_push12 l D cI cJ cB cZ cO (r 1) (r 16) u146 x4 H.size) (cwV 1 hts gX11_feed_X8_push rfl rfl rfl (by decide +kernel) ⟨Nat.le_of_ble_eq_true rfl, Nat.le_of_ble_eq_true rfl⟩) (ct_preV (T := ct_T cI cJ cB cZ cO) (ci := 8) (q0 := 1) hE hP hD [1, 2] (by decide) rfl rfl rfl) rfl rfl hl.1 rfl (lv_room (Nat.le_of_ble_eq_true rfl)) dX11_feed_48 ⟨Nat.le_of_ble_eq_true rfl, Nat.le_of_ble_eq_true rfl⟩) hP hD hS hA [1, 2] [0] rfl rfl (by decide) (by decide) (fun u H locs hw hP hD hS => ?_)
  obtain ⟨u147, rfl⟩ : ∃ z, z = u := ⟨_, rfl⟩
  have hP : va_P D vwCl [oo h r (r 2) (r 3), ((r 1), .inr (8, [.ref (r 16), .int 16, .int 0, .int 0, .int 0, .int 0])), ((r 16), .inl (cB, 1200, .inl (u147)))] H := hP
  have hD : va_D A [oo h r (r 2) (r 3), ((r 1), .inr (8, [.ref (r 16), .int 16, .int 0, .int 0, .int 0, .int 0])), ((r 16), .inl (cB, 1200, .inl (u147)))] := hD
  refine lv_aload_n hx hb dX11_feed_51 rfl (lv_at hl 0 rfl) ?_
  refine va_get (D := D) (ci := 11) (v := .ref (r 1)) (C := RX11) (T := TX11) (N := 16) hx hb hts hi11 hown hK hP 0 rfl rfl 1 (by decide) (hts (.fieldLink RX11 20 "OverHill" "tape" "LOverHill$Tape;") (by decide +kernel)) (fun _ h9 => h9) rfl dX11_feed_52 ?_
  refine lv_iload hx hb dX11_feed_55 (lv_at hl 5 rfl) ?_
  refine ct_callv (D := D) (wc := (w_c_X8_push16 cI cJ cB cZ cO (r 1) (r 16) u147)) (wr := [oo h r (r 2) (r 3)]) (va_runV (As := [.int x5]) (rest := []) ⟨hx, hb, hml, hown, hts⟩ (c_X8_push16 l D cI cJ cB cZ cO (r 1) (r 16) u147 x5 H.size) (cwV 1 hts gX11_feed_X8_push rfl rfl rfl (by decide +kernel) ⟨Nat.le_of_ble_eq_true rfl, Nat.le_of_ble_eq_true rfl⟩) (ct_preV (T := ct_T cI cJ cB cZ cO) (ci := 8) (q0 := 1) hE hP hD [1, 2] (by decide) rfl rfl rfl) rfl rfl hl.1 rfl (lv_room (Nat.le_of_ble_eq_true rfl)) dX11_feed_57 ⟨Nat.le_of_ble_eq_true rfl, Nat.le_of_ble_eq_true rfl⟩) hP hD hS hA [1, 2] [0] rfl rfl (by decide) (by decide) (fun u H locs hw hP hD hS => ?_)
  obtain ⟨u148, rfl⟩ : ∃ z, z = u := ⟨_, rfl⟩
  have hP : va_P D vwCl [oo h r (r 2) (r 3), ((r 1), .inr (8, [.ref (r 16), .int 20, .int 0, .int 0, .int 0, .int 0])), ((r 16), .inl (cB, 1200, .inl (u148)))] H := hP
  have hD : va_D A [oo h r (r 2) (r 3), ((r 1), .inr (8, [.ref (r 16), .int 20, .int 0, .int 0, .int 0, .int 0])), ((r 16), .inl (cB, 1200, .inl (u148)))] := hD
  refine lv_aload_n hx hb dX11_feed_60 rfl (lv_at hl 0 rfl) ?_
  refine va_get (D := D) (ci := 11) (v := .ref (r 1)) (C := RX11) (T := TX11) (N := 16) hx hb hts hi11 hown hK hP 0 rfl rfl 1 (by decide) (hts (.fieldLink RX11 20 "OverHill" "tape" "LOverHill$Tape;") (by decide +kernel)) (fun _ h9 => h9) rfl dX11_feed_61 ?_
  refine va_get (D := D) (ci := 8) (v := .int 20) (C := RX8) (T := TX8) (N := 6) hx hb hts hi8 hown hK hP 1 rfl rfl 1 (by decide) (hts (.fieldLink RX11 102 "OverHill$Tape" "length" "I") (by decide +kernel)) (fun _ h9 => h9) rfl dX11_feed_64 ?_
  have hP9 := hP.sub (ws' := []) [] rfl
  have hD9 := hD.sub (ws' := []) [] (by decide) rfl
  exact W.iret (v := 20) hx hb hr (fun t ht hW => ⟨⟨20, (), rfl, ⟨rfl, trivial⟩, by rw [ht]; exact hP9, hD9⟩, hS.F ht⟩) hS.2.2 dX11_feed_67
abbrev w_c_X11_end (cI cJ cB cZ cO : ClassId) (h : Nat) (r : Nat → Nat) : va_W := [oo h r (r 2) (r 3), ((r 1), .inr (8, [.ref (r 16), .int 0, .int 0, .int 0, .int 0, .int 0]))]
set_option maxHeartbeats 4000000 in
set_option maxRecDepth 100000 in
/-- end, on a new object -/
theorem c_X11_end (l : Launch) (D : va_G) (cI cJ cB cZ cO : ClassId) (h : Nat) (r : Nat → Nat) (x1 : Int32) (sz : Nat) : Met l yX11_end wsX11_end ({ frames := 0, cells := 0, slots := 0, locals := 0 }) (va_Pc [.ref h, .int x1] (ct_P D (ct_T cI cJ cB cZ cO) (w_c_X11_end cI cJ cB cZ cO h r) sz)) (va_Qi (fun (rz : Int32) (u : Unit) => (rz = 0 ∧ x1.toInt = 0) ∨ (rz = (-1) ∧ x1.toInt ≠ 0)) (fun (u : Unit) t => ct_Q D (va_A (w_c_X11_end cI cJ cB cZ cO h r) sz) [] t) (va_A (w_c_X11_end cI cJ cB cZ cO h r) sz)) 0 0 (va_A (w_c_X11_end cI cJ cB cZ cO h r) sz) := by
  refine Met.ofW (cc := cX11_end) (maxL := 2) (ret := (some .int)) (by decide) rfl ?_
  intro p e s m args below meth c s₁ B hml hv
  obtain ⟨rfl, hsz, hP, hE, hD0⟩ := hv
  have hx := B.exec
  have hb := B.bytes
  have hr := B.returns
  have hts := atoms_spec (ws := wsX11_end) B.pre
  have hown : s.vm.findClass RX11 = some m.cls := findClass_of_methodNamed B.named
  have hlocks := B.notSynchronized
  have hK := hE.1
  have hi8 : ∀ w ∈ u_ws RX8 TX8 6, w ∈ wsX11_end := fun w h => List.mem_cons_of_mem _ (List.mem_append_right _ h)
  have hi11 : ∀ w ∈ u_ws RX11 TX11 16, w ∈ wsX11_end := fun w h => List.mem_cons_of_mem _ (List.mem_append_left _ (List.mem_append_right _ h))
  subst hsz
  have hD := hD0.self (sz := s.heap.size)
  generalize hAe : va_A (w_c_X11_end cI cJ cB cZ cO h r) s.heap.size = A at hD ⊢
  have hA : ∀ q : Nat, s.heap.size ≤ q → A q := fun q h => by rw [← hAe]; exact Or.inr h
  have hS : va_S A s.heap s.heap [] := va_S.rf
  have hP : va_P D vwCl [oo h r (r 2) (r 3), ((r 1), .inr (8, [.ref (r 16), .int 0, .int 0, .int 0, .int 0, .int 0]))] s.heap := hP
  have hD : va_D A [oo h r (r 2) (r 3), ((r 1), .inr (8, [.ref (r 16), .int 0, .int 0, .int 0, .int 0, .int 0]))] := hD
  have hl := lv_entry ([.ref h, .int x1]) (n := 2) (Nat.le_of_ble_eq_true rfl)
  rw [lg_entry_eq]
  generalize (lg_sl ([.ref h, .int x1]) ++ List.replicate (2 - (lg_sl ([.ref h, .int x1])).length) Slot.unset).toArray = ls at hl ⊢
  have hl : lv_has ls 2 [(0, .ref h), (1, .int x1)] := hl
  obtain ⟨H, hHe⟩ : ∃ H : Heap, H = s.heap := ⟨_, rfl⟩
  rw [← hHe] at hP
  have hS : va_S A s.heap H [] := by rw [hHe]; exact va_S.rf
  refine ct_start hHe ?_
  refine lv_iload_n hx hb dX11_end_0 rfl (lv_at hl 1 rfl) ?_
  refine lv_if_lt (tgt := 15) hx hb dX11_end_1 (by decide) (fun hc => ?_) (fun hc => ?_)
  · have hq149 : x1.toInt < 0 := tq_lt rfl (by decide) hc
    refine lv_iconst (v := (-1)) hx hb dX11_end_15 (by decide) ?_
    have hP9 := hP.sub (ws' := []) [] rfl
    have hD9 := hD.sub (ws' := []) [] (by decide) rfl
    exact W.iret (v := (-1)) hx hb hr (fun t ht hW => ⟨⟨(-1), (), rfl, (Or.inr (⟨rfl, by omega⟩)), by rw [ht]; exact hP9, hD9⟩, hS.F ht⟩) hS.2.2 dX11_end_16
  · have hq149 : 0 ≤ x1.toInt := tq_nlt rfl (by decide) hc
    refine lv_iload_n hx hb dX11_end_4 rfl (lv_at hl 1 rfl) ?_
    refine lv_aload_n hx hb dX11_end_5 rfl (lv_at hl 0 rfl) ?_
    refine va_get (D := D) (ci := 11) (v := .ref (r 1)) (C := RX11) (T := TX11) (N := 16) hx hb hts hi11 hown hK hP 0 rfl rfl 1 (by decide) (hts (.fieldLink RX11 20 "OverHill" "tape" "LOverHill$Tape;") (by decide +kernel)) (fun _ h9 => h9) rfl dX11_end_6 ?_
    refine va_get (D := D) (ci := 8) (v := .int 0) (C := RX8) (T := TX8) (N := 6) hx hb hts hi8 hown hK hP 1 rfl rfl 1 (by decide) (hts (.fieldLink RX11 102 "OverHill$Tape" "length" "I") (by decide +kernel)) (fun _ h9 => h9) rfl dX11_end_9 ?_
    refine lv_icmp_le (tgt := 17) hx hb dX11_end_12 (by decide) (fun hc => ?_) (fun hc => ?_)
    · have hq150 : x1.toInt ≤ 0 := tq_le rfl (by decide) hc
      refine lv_aload_n hx hb dX11_end_17 rfl (lv_at hl 0 rfl) ?_
      refine va_get (D := D) (ci := 11) (v := .ref (r 1)) (C := RX11) (T := TX11) (N := 16) hx hb hts hi11 hown hK hP 0 rfl rfl 1 (by decide) (hts (.fieldLink RX11 20 "OverHill" "tape" "LOverHill$Tape;") (by decide +kernel)) (fun _ h9 => h9) rfl dX11_end_18 ?_
      refine lv_iload_n hx hb dX11_end_21 rfl (lv_at hl 1 rfl) ?_
      refine va_put (D := D) (ci := 8) (v := .int x1) (ty := .int) (C := RX8) (T := TX8) (N := 6) hx hb hts hi8 tyX8 tyX8_ok nmX8 hown hK hP hD hS 1 rfl rfl 1 (by decide) (hts (.fieldLink RX11 102 "OverHill$Tape" "length" "I") (by decide +kernel)) (fun _ h9 => h9) rfl (by decide +kernel) rfl rfl (Nat.le_of_ble_eq_true rfl) dX11_end_22 (fun H locs hP hD hS => ?_)
      have hP : va_P D vwCl [oo h r (r 2) (r 3), ((r 1), .inr (8, [.ref (r 16), .int x1, .int 0, .int 0, .int 0, .int 0]))] H := hP
      have hD : va_D A [oo h r (r 2) (r 3), ((r 1), .inr (8, [.ref (r 16), .int x1, .int 0, .int 0, .int 0, .int 0]))] := hD
      refine lv_iload_n hx hb dX11_end_25 rfl (lv_at hl 1 rfl) ?_
      have hP9 := hP.sub (ws' := []) [] rfl
      have hD9 := hD.sub (ws' := []) [] (by decide) rfl
      exact W.iret (v := x1) hx hb hr (fun t ht hW => ⟨⟨x1, (), rfl, (Or.inl ⟨tq_of (a := 0) (by omega) (by decide), by omega⟩), by rw [ht]; exact hP9, hD9⟩, hS.F ht⟩) hS.2.2 dX11_end_26
    · have hq150 : 0 < x1.toInt := tq_nle rfl (by decide) hc
      refine lv_iconst (v := (-1)) hx hb dX11_end_15 (by decide) ?_
      have hP9 := hP.sub (ws' := []) [] rfl
      have hD9 := hD.sub (ws' := []) [] (by decide) rfl
      exact W.iret (v := (-1)) hx hb hr (fun t ht hW => ⟨⟨(-1), (), rfl, (Or.inr (⟨rfl, by omega⟩)), by rw [ht]; exact hP9, hD9⟩, hS.F ht⟩) hS.2.2 dX11_end_16
abbrev w_c_X11_fault (cI cJ cB cZ cO : ClassId) (h : Nat) (r : Nat → Nat) : va_W := [oo h r (r 2) (r 3), ((r 0), .inr (5, [.ref (r 1), .int 0, .int 0, .int (-1)]))]
set_option maxHeartbeats 4000000 in
set_option maxRecDepth 100000 in
/-- fault, on a new object -/
theorem c_X11_fault (l : Launch) (D : va_G) (cI cJ cB cZ cO : ClassId) (h : Nat) (r : Nat → Nat) (x1 : Int32) (sz : Nat) : Met l yX11_fault wsX11_fault ({ frames := 0, cells := 0, slots := 0, locals := 0 }) (va_Pc [.ref h, .int x1] (ct_P D (ct_T cI cJ cB cZ cO) (w_c_X11_fault cI cJ cB cZ cO h r) sz)) (va_Qi (fun (rz : Int32) (u : Unit) => (rz = 0 ∧ x1.toInt = 0) ∨ (rz = (-1) ∧ x1.toInt ≠ 0)) (fun (u : Unit) t => ct_Q D (va_A (w_c_X11_fault cI cJ cB cZ cO h r) sz) [] t) (va_A (w_c_X11_fault cI cJ cB cZ cO h r) sz)) 0 0 (va_A (w_c_X11_fault cI cJ cB cZ cO h r) sz) := by
  refine Met.ofW (cc := cX11_fault) (maxL := 2) (ret := (some .int)) (by decide) rfl ?_
  intro p e s m args below meth c s₁ B hml hv
  obtain ⟨rfl, hsz, hP, hE, hD0⟩ := hv
  have hx := B.exec
  have hb := B.bytes
  have hr := B.returns
  have hts := atoms_spec (ws := wsX11_fault) B.pre
  have hown : s.vm.findClass RX11 = some m.cls := findClass_of_methodNamed B.named
  have hlocks := B.notSynchronized
  have hK := hE.1
  have hi5 : ∀ w ∈ u_ws RX5 TX5 4, w ∈ wsX11_fault := fun w h => List.mem_cons_of_mem _ (List.mem_append_right _ h)
  have hi11 : ∀ w ∈ u_ws RX11 TX11 16, w ∈ wsX11_fault := fun w h => List.mem_cons_of_mem _ (List.mem_append_left _ (List.mem_append_right _ h))
  subst hsz
  have hD := hD0.self (sz := s.heap.size)
  generalize hAe : va_A (w_c_X11_fault cI cJ cB cZ cO h r) s.heap.size = A at hD ⊢
  have hA : ∀ q : Nat, s.heap.size ≤ q → A q := fun q h => by rw [← hAe]; exact Or.inr h
  have hS : va_S A s.heap s.heap [] := va_S.rf
  have hP : va_P D vwCl [oo h r (r 2) (r 3), ((r 0), .inr (5, [.ref (r 1), .int 0, .int 0, .int (-1)]))] s.heap := hP
  have hD : va_D A [oo h r (r 2) (r 3), ((r 0), .inr (5, [.ref (r 1), .int 0, .int 0, .int (-1)]))] := hD
  have hl := lv_entry ([.ref h, .int x1]) (n := 2) (Nat.le_of_ble_eq_true rfl)
  rw [lg_entry_eq]
  generalize (lg_sl ([.ref h, .int x1]) ++ List.replicate (2 - (lg_sl ([.ref h, .int x1])).length) Slot.unset).toArray = ls at hl ⊢
  have hl : lv_has ls 2 [(0, .ref h), (1, .int x1)] := hl
  obtain ⟨H, hHe⟩ : ∃ H : Heap, H = s.heap := ⟨_, rfl⟩
  rw [← hHe] at hP
  have hS : va_S A s.heap H [] := by rw [hHe]; exact va_S.rf
  refine ct_start hHe ?_
  refine lv_iload_n hx hb dX11_fault_0 rfl (lv_at hl 1 rfl) ?_
  by_cases hc151 : x1 = 0
  · have hq152 : x1.toInt = 0 := tq_eq rfl (by decide) hc151
    refine lv_lookup (tgt := 28) (off := 27) hx hb dX11_fault_1 (by decide) (by rw [hq152]; decide) (by decide) ?_
    refine lv_aload_n hx hb dX11_fault_28 rfl (lv_at hl 0 rfl) ?_
    refine va_get (D := D) (ci := 11) (v := .ref (r 0)) (C := RX11) (T := TX11) (N := 16) hx hb hts hi11 hown hK hP 0 rfl rfl 0 (by decide) (hts (.fieldLink RX11 10 "OverHill" "reader" "LOverHill$Reader;") (by decide +kernel)) (fun _ h9 => h9) rfl dX11_fault_29 ?_
    refine va_get (D := D) (ci := 5) (v := .int 0) (C := RX5) (T := TX5) (N := 4) hx hb hts hi5 hown hK hP 1 rfl rfl 2 (by decide) (hts (.fieldLink RX11 119 "OverHill$Reader" "fault" "I") (by decide +kernel)) (fun _ h9 => h9) rfl dX11_fault_32 ?_
    have hP9 := hP.sub (ws' := []) [] rfl
    have hD9 := hD.sub (ws' := []) [] (by decide) rfl
    exact W.iret (v := 0) hx hb hr (fun t ht hW => ⟨⟨0, (), rfl, (Or.inl ⟨rfl, by omega⟩), by rw [ht]; exact hP9, hD9⟩, hS.F ht⟩) hS.2.2 dX11_fault_35
  have hq152 : x1.toInt ≠ 0 := tq_ne rfl (by decide) hc151
  by_cases hc153 : x1 = 1
  · have hq154 : x1.toInt = 1 := tq_eq rfl (by decide) hc153
    refine lv_lookup (tgt := 36) (off := 35) hx hb dX11_fault_1 (by decide) (by rw [hq154]; decide) (by decide) ?_
    refine lv_aload_n hx hb dX11_fault_36 rfl (lv_at hl 0 rfl) ?_
    refine va_get (D := D) (ci := 11) (v := .ref (r 0)) (C := RX11) (T := TX11) (N := 16) hx hb hts hi11 hown hK hP 0 rfl rfl 0 (by decide) (hts (.fieldLink RX11 10 "OverHill" "reader" "LOverHill$Reader;") (by decide +kernel)) (fun _ h9 => h9) rfl dX11_fault_37 ?_
    refine va_get (D := D) (ci := 5) (v := .int (-1)) (C := RX5) (T := TX5) (N := 4) hx hb hts hi5 hown hK hP 1 rfl rfl 3 (by decide) (hts (.fieldLink RX11 122 "OverHill$Reader" "faultPlace" "I") (by decide +kernel)) (fun _ h9 => h9) rfl dX11_fault_40 ?_
    have hP9 := hP.sub (ws' := []) [] rfl
    have hD9 := hD.sub (ws' := []) [] (by decide) rfl
    exact W.iret (v := (-1)) hx hb hr (fun t ht hW => ⟨⟨(-1), (), rfl, (Or.inr (⟨rfl, by omega⟩)), by rw [ht]; exact hP9, hD9⟩, hS.F ht⟩) hS.2.2 dX11_fault_43
  have hq154 : x1.toInt ≠ 1 := tq_ne rfl (by decide) hc153
  refine lv_lookup (tgt := 44) (off := 43) hx hb dX11_fault_1 (by decide) (by simp [Op.lookupswitch.offset_cons, Op.lookupswitch.offset, *] <;> omega) (by decide) ?_
  refine lv_iconst (v := (-1)) hx hb dX11_fault_44 (by decide) ?_
  have hP9 := hP.sub (ws' := []) [] rfl
  have hD9 := hD.sub (ws' := []) [] (by decide) rfl
  exact W.iret (v := (-1)) hx hb hr (fun t ht hW => ⟨⟨(-1), (), rfl, (Or.inr (⟨rfl, by omega⟩)), by rw [ht]; exact hP9, hD9⟩, hS.F ht⟩) hS.2.2 dX11_fault_45
abbrev w_c_X7_isSlot (cI cJ cB cZ cO : ClassId)  : va_W := []
set_option maxHeartbeats 4000000 in
set_option maxRecDepth 100000 in
/-- X7_isSlot: 0 to 3 -/
theorem c_X7_isSlot (l : Launch) (D : va_G) (cI cJ cB cZ cO : ClassId) (v : Int32) (sz : Nat) : Met l yX7_isSlot wsX7_isSlot ({ frames := 1, cells := 0, slots := 0, locals := 21 }) (va_Pc [.int v] (ct_P D (ct_T cI cJ cB cZ cO) (w_c_X7_isSlot cI cJ cB cZ cO ) sz)) (va_Qi (fun (rz : Int32) (u : Unit) => (rz = 1 ∧ (0 ≤ v.toInt ∧ v.toInt < 4)) ∨ (rz = 0 ∧ ¬ (0 ≤ v.toInt ∧ v.toInt < 4))) (fun (u : Unit) t => ct_Q D (va_A (w_c_X7_isSlot cI cJ cB cZ cO ) sz) [] t) (va_A (w_c_X7_isSlot cI cJ cB cZ cO ) sz)) 0 0 (va_A (w_c_X7_isSlot cI cJ cB cZ cO ) sz) := by
  refine Met.ofW (cc := cX7_isSlot) (maxL := 1) (ret := (some .boolean)) (by decide) rfl ?_
  intro p e s m args below meth c s₁ B hml hv
  obtain ⟨rfl, hsz, hP, hE, hD0⟩ := hv
  have hx := B.exec
  have hb := B.bytes
  have hr := B.returns
  have hts := atoms_spec (ws := wsX7_isSlot) B.pre
  have hown : s.vm.findClass RX7 = some m.cls := findClass_of_methodNamed B.named
  have hlocks := B.notSynchronized
  have hK := hE.1
  subst hsz
  have hD := hD0.self (sz := s.heap.size)
  generalize hAe : va_A (w_c_X7_isSlot cI cJ cB cZ cO ) s.heap.size = A at hD ⊢
  have hA : ∀ q : Nat, s.heap.size ≤ q → A q := fun q h => by rw [← hAe]; exact Or.inr h
  have hS : va_S A s.heap s.heap [] := va_S.rf
  have hP : va_P D vwCl [] s.heap := hP
  have hD : va_D A [] := hD
  have hl := lv_entry ([.int v]) (n := 1) (Nat.le_of_ble_eq_true rfl)
  rw [lg_entry_eq]
  generalize (lg_sl ([.int v]) ++ List.replicate (1 - (lg_sl ([.int v])).length) Slot.unset).toArray = ls at hl ⊢
  have hl : lv_has ls 1 [(0, .int v)] := hl
  obtain ⟨H, hHe⟩ : ∃ H : Heap, H = s.heap := ⟨_, rfl⟩
  rw [← hHe] at hP
  have hS : va_S A s.heap H [] := by rw [hHe]; exact va_S.rf
  refine ct_start hHe ?_
  refine lv_iload_n hx hb dX7_isSlot_0 rfl (lv_at hl 0 rfl) ?_
  refine lv_iconst (v := 4) hx hb dX7_isSlot_1 (by decide) ?_
  refine ct_calli (D := D) (wc := (w_c_X11_isWithin cI cJ cB cZ cO )) (wr := []) (va_runSN (As := [.int v, .int 4]) (rest := []) ⟨hx, hb, hml, hown, hts⟩ (c_X11_isWithin l D cI cJ cB cZ cO v 4 4 (by decide) H.size) ⟨va_cnB 2 hts gX7_isSlot_X11_isWithin_n22 rfl rfl rfl (hE.2.1 (RX7, 22, yX11_isWithin, "OverHill") (List.mem_of_getElem? (i := 15) rfl)) (hts (.initialized RX11) (by decide +kernel)) (by decide +kernel) ⟨Nat.le_of_ble_eq_true rfl, Nat.le_of_ble_eq_true rfl⟩, (hts (.static yX11_isWithin) (by decide +kernel)), trivial⟩ (ct_preS (T := ct_T cI cJ cB cZ cO) hE hP hD [] (by decide) rfl) rfl rfl hl.1 rfl (lv_room (Nat.le_of_ble_eq_true rfl)) dX7_isSlot_2 ⟨Nat.le_of_ble_eq_true rfl, Nat.le_of_ble_eq_true rfl⟩) hP hD hS hA [] [] rfl rfl (by decide) (by decide) (fun rz u H locs hw hP hD hS => ?_)
  have hP : va_P D vwCl [] H := hP
  have hD : va_D A [] := hD
  rcases hw with ⟨rfl, hq155⟩ | ⟨rfl, hq155⟩
  · have hP9 := hP.sub (ws' := []) [] rfl
    have hD9 := hD.sub (ws' := []) [] (by decide) rfl
    exact W.zret (v := 1) (ty := .boolean) hx hb hr rfl (fun t ht hW => ⟨⟨1, (), rfl, (Or.inl ⟨rfl, by omega⟩), by rw [ht]; exact hP9, hD9⟩, hS.F ht⟩) hS.2.2 dX7_isSlot_5
  · have hP9 := hP.sub (ws' := []) [] rfl
    have hD9 := hD.sub (ws' := []) [] (by decide) rfl
    exact W.zret (v := 0) (ty := .boolean) hx hb hr rfl (fun t ht hW => ⟨⟨0, (), rfl, (Or.inr (⟨rfl, by omega⟩)), by rw [ht]; exact hP9, hD9⟩, hS.F ht⟩) hS.2.2 dX7_isSlot_5
abbrev w_c_X7_has (cI cJ cB cZ cO : ClassId) (a : Nat) (b0 : Nat) (b1 : Nat) (b2 : Nat) : va_W := [(a, .inr (7, [.ref b0, .ref b1, .ref b2])), (b1, .inl (cI, 4, .inl (szf)))]
set_option maxHeartbeats 4000000 in
set_option maxRecDepth 100000 in
/-- no row is made -/
theorem c_X7_has (l : Launch) (D : va_G) (cI cJ cB cZ cO : ClassId) (a : Nat) (b0 : Nat) (b1 : Nat) (b2 : Nat) (v : Int32) (h_v : 0 ≤ v.toInt ∧ v.toInt < 4) (sz : Nat) : Met l yX7_has wsX7_has ({ frames := 0, cells := 0, slots := 0, locals := 0 }) (va_Pc [.ref a, .int v] (ct_P D (ct_T cI cJ cB cZ cO) (w_c_X7_has cI cJ cB cZ cO a b0 b1 b2) sz)) (va_Qi (fun (rz : Int32) (u : Unit) => (rz = 0 ∧ True)) (fun (u : Unit) t => ct_Q D (va_A (w_c_X7_has cI cJ cB cZ cO a b0 b1 b2) sz) [(a, .inr (7, [.ref b0, .ref b1, .ref b2])), (b1, .inl (cI, 4, .inl (szf)))] t) (va_A (w_c_X7_has cI cJ cB cZ cO a b0 b1 b2) sz)) 0 0 (va_A (w_c_X7_has cI cJ cB cZ cO a b0 b1 b2) sz) := by
  refine Met.ofW (cc := cX7_has) (maxL := 2) (ret := (some .boolean)) (by decide) rfl ?_
  intro p e s m args below meth c s₁ B hml hv
  obtain ⟨rfl, hsz, hP, hE, hD0⟩ := hv
  have hx := B.exec
  have hb := B.bytes
  have hr := B.returns
  have hts := atoms_spec (ws := wsX7_has) B.pre
  have hown : s.vm.findClass RX7 = some m.cls := findClass_of_methodNamed B.named
  have hlocks := B.notSynchronized
  have hK := hE.1
  have hi7 : ∀ w ∈ u_ws RX7 TX7 3, w ∈ wsX7_has := fun w h => List.mem_cons_of_mem _ (List.mem_append_right _ h)
  subst hsz
  have hD := hD0.self (sz := s.heap.size)
  generalize hAe : va_A (w_c_X7_has cI cJ cB cZ cO a b0 b1 b2) s.heap.size = A at hD ⊢
  have hA : ∀ q : Nat, s.heap.size ≤ q → A q := fun q h => by rw [← hAe]; exact Or.inr h
  have hS : va_S A s.heap s.heap [] := va_S.rf
  have hP : va_P D vwCl [(a, .inr (7, [.ref b0, .ref b1, .ref b2])), (b1, .inl (cI, 4, .inl (szf)))] s.heap := hP
  have hD : va_D A [(a, .inr (7, [.ref b0, .ref b1, .ref b2])), (b1, .inl (cI, 4, .inl (szf)))] := hD
  have hl := lv_entry ([.ref a, .int v]) (n := 2) (Nat.le_of_ble_eq_true rfl)
  rw [lg_entry_eq]
  generalize (lg_sl ([.ref a, .int v]) ++ List.replicate (2 - (lg_sl ([.ref a, .int v])).length) Slot.unset).toArray = ls at hl ⊢
  have hl : lv_has ls 2 [(0, .ref a), (1, .int v)] := hl
  obtain ⟨H, hHe⟩ : ∃ H : Heap, H = s.heap := ⟨_, rfl⟩
  rw [← hHe] at hP
  have hS : va_S A s.heap H [] := by rw [hHe]; exact va_S.rf
  refine ct_start hHe ?_
  refine lv_aload_n hx hb dX7_has_0 rfl (lv_at hl 0 rfl) ?_
  refine va_get (D := D) (ci := 7) (v := .ref b1) (C := RX7) (T := TX7) (N := 3) hx hb hts hi7 hown hK hP 0 rfl rfl 1 (by decide) (hts (.fieldLink RX7 15 "OverHill$Slots" "sizes" "[I") (by decide +kernel)) (fun _ h9 => h9) rfl dX7_has_1 ?_
  refine lv_iload_n hx hb dX7_has_4 rfl (lv_at hl 1 rfl) ?_
  refine va_iald (D := D) hx hb hK hP 1 0 rfl rfl (tq_in rfl (by omega)) dX7_has_5 ?_
  refine lv_topi (fun z156 ez156 => ?_)
  obtain rfl : z156 = (-1) := ez156.trans (szf_m _ (tq_cl rfl (by omega) (by omega)))
  refine lv_iconst (v := (-1)) hx hb dX7_has_6 (by decide) ?_
  refine lv_icmp_eq (tgt := 14) hx hb dX7_has_7 (by decide) (fun _ => ?_) (fun hc => absurd hc (by decide))
  refine lv_iconst (v := 0) hx hb dX7_has_14 (by decide) ?_
  have hP9 := hP.sub (ws' := [(a, .inr (7, [.ref b0, .ref b1, .ref b2])), (b1, .inl (cI, 4, .inl (szf)))]) [0, 1] rfl
  have hD9 := hD.sub (ws' := [(a, .inr (7, [.ref b0, .ref b1, .ref b2])), (b1, .inl (cI, 4, .inl (szf)))]) [0, 1] (by decide) rfl
  exact W.zret (v := 0) (ty := .boolean) hx hb hr rfl (fun t ht hW => ⟨⟨0, (), rfl, ⟨rfl, trivial⟩, by rw [ht]; exact hP9, hD9⟩, hS.F ht⟩) hS.2.2 dX7_has_15
abbrev w_c_X7_refusalOfSteps (cI cJ cB cZ cO : ClassId) (a : Nat) (b0 : Nat) (b1 : Nat) (b2 : Nat) : va_W := [(a, .inr (7, [.ref b0, .ref b1, .ref b2])), (b1, .inl (cI, 4, .inl (szf)))]
set_option maxHeartbeats 4000000 in
set_option maxRecDepth 100000 in
/-- which rows there are none of -/
theorem c_X7_refusalOfSteps (l : Launch) (D : va_G) (cI cJ cB cZ cO : ClassId) (a : Nat) (b0 : Nat) (b1 : Nat) (b2 : Nat) (x1 : Int32) (sz : Nat) : Met l yX7_refusalOfSteps wsX7_refusalOfSteps ({ frames := 2, cells := 0, slots := 0, locals := 41 }) (va_Pc [.ref a, .int x1] (ct_P D (ct_T cI cJ cB cZ cO) (w_c_X7_refusalOfSteps cI cJ cB cZ cO a b0 b1 b2) sz)) (va_Qi (fun (rz : Int32) (u : Unit) => (rz = (-6) ∧ (0 ≤ x1.toInt ∧ x1.toInt < 4)) ∨ (rz = (-2) ∧ ¬ (0 ≤ x1.toInt ∧ x1.toInt < 4))) (fun (u : Unit) t => ct_Q D (va_A (w_c_X7_refusalOfSteps cI cJ cB cZ cO a b0 b1 b2) sz) [(a, .inr (7, [.ref b0, .ref b1, .ref b2])), (b1, .inl (cI, 4, .inl (szf)))] t) (va_A (w_c_X7_refusalOfSteps cI cJ cB cZ cO a b0 b1 b2) sz)) 0 0 (va_A (w_c_X7_refusalOfSteps cI cJ cB cZ cO a b0 b1 b2) sz) := by
  refine Met.ofW (cc := cX7_refusalOfSteps) (maxL := 3) (ret := (some .int)) (by decide) rfl ?_
  intro p e s m args below meth c s₁ B hml hv
  obtain ⟨rfl, hsz, hP, hE, hD0⟩ := hv
  have hx := B.exec
  have hb := B.bytes
  have hr := B.returns
  have hts := atoms_spec (ws := wsX7_refusalOfSteps) B.pre
  have hown : s.vm.findClass RX7 = some m.cls := findClass_of_methodNamed B.named
  have hlocks := B.notSynchronized
  have hK := hE.1
  subst hsz
  have hD := hD0.self (sz := s.heap.size)
  generalize hAe : va_A (w_c_X7_refusalOfSteps cI cJ cB cZ cO a b0 b1 b2) s.heap.size = A at hD ⊢
  have hA : ∀ q : Nat, s.heap.size ≤ q → A q := fun q h => by rw [← hAe]; exact Or.inr h
  have hS : va_S A s.heap s.heap [] := va_S.rf
  have hP : va_P D vwCl [(a, .inr (7, [.ref b0, .ref b1, .ref b2])), (b1, .inl (cI, 4, .inl (szf)))] s.heap := hP
  have hD : va_D A [(a, .inr (7, [.ref b0, .ref b1, .ref b2])), (b1, .inl (cI, 4, .inl (szf)))] := hD
  have hl := lv_entry ([.ref a, .int x1]) (n := 3) (Nat.le_of_ble_eq_true rfl)
  rw [lg_entry_eq]
  generalize (lg_sl ([.ref a, .int x1]) ++ List.replicate (3 - (lg_sl ([.ref a, .int x1])).length) Slot.unset).toArray = ls at hl ⊢
  have hl : lv_has ls 3 [(0, .ref a), (1, .int x1)] := hl
  obtain ⟨H, hHe⟩ : ∃ H : Heap, H = s.heap := ⟨_, rfl⟩
  rw [← hHe] at hP
  have hS : va_S A s.heap H [] := by rw [hHe]; exact va_S.rf
  refine ct_start hHe ?_
  refine lv_iload_n hx hb dX7_refusalOfSteps_0 rfl (lv_at hl 1 rfl) ?_
  refine ct_calli (D := D) (wc := (w_c_X7_isSlot cI cJ cB cZ cO )) (wr := [(a, .inr (7, [.ref b0, .ref b1, .ref b2])), (b1, .inl (cI, 4, .inl (szf)))]) (va_runS (As := [.int x1]) (rest := []) ⟨hx, hb, hml, hown, hts⟩ (c_X7_isSlot l D cI cJ cB cZ cO x1 H.size) (va_cwS 1 hts gX7_refusalOfSteps_X7_isSlot rfl rfl rfl (by decide +kernel) ⟨Nat.le_of_ble_eq_true rfl, Nat.le_of_ble_eq_true rfl⟩) (ct_preS (T := ct_T cI cJ cB cZ cO) hE hP hD [] (by decide) rfl) rfl rfl hl.1 rfl (lv_room (Nat.le_of_ble_eq_true rfl)) dX7_refusalOfSteps_1 ⟨Nat.le_of_ble_eq_true rfl, Nat.le_of_ble_eq_true rfl⟩) hP hD hS hA [] [0, 1] rfl rfl (by decide) (by decide) (fun rz u H locs hw hP hD hS => ?_)
  have hP : va_P D vwCl [(a, .inr (7, [.ref b0, .ref b1, .ref b2])), (b1, .inl (cI, 4, .inl (szf)))] H := hP
  have hD : va_D A [(a, .inr (7, [.ref b0, .ref b1, .ref b2])), (b1, .inl (cI, 4, .inl (szf)))] := hD
  rcases hw with ⟨rfl, hq157⟩ | ⟨rfl, hq157⟩
  · refine lv_if_ne (tgt := 10) hx hb dX7_refusalOfSteps_4 (by decide) (fun _ => ?_) (fun hc => absurd hc (by decide))
    refine lv_aload_n hx hb dX7_refusalOfSteps_10 rfl (lv_at hl 0 rfl) ?_
    refine lv_iload_n hx hb dX7_refusalOfSteps_11 rfl (lv_at hl 1 rfl) ?_
    refine ct_calli (D := D) (wc := (w_c_X7_has cI cJ cB cZ cO a b0 b1 b2)) (wr := []) (va_runV (As := [.int x1]) (rest := []) ⟨hx, hb, hml, hown, hts⟩ (c_X7_has l D cI cJ cB cZ cO a b0 b1 b2 x1 (by omega) H.size) (cwV 1 hts gX7_refusalOfSteps_X7_has rfl rfl rfl (by decide +kernel) ⟨Nat.le_of_ble_eq_true rfl, Nat.le_of_ble_eq_true rfl⟩) (ct_preV (T := ct_T cI cJ cB cZ cO) (ci := 7) (q0 := 0) hE hP hD [0, 1] (by decide) rfl rfl rfl) rfl rfl hl.1 rfl (lv_room (Nat.le_of_ble_eq_true rfl)) dX7_refusalOfSteps_12 ⟨Nat.le_of_ble_eq_true rfl, Nat.le_of_ble_eq_true rfl⟩) hP hD hS hA [0, 1] [] rfl rfl (by decide) (by decide) (fun rz u H locs hw hP hD hS => ?_)
    have hP : va_P D vwCl [(a, .inr (7, [.ref b0, .ref b1, .ref b2])), (b1, .inl (cI, 4, .inl (szf)))] H := hP
    have hD : va_D A [(a, .inr (7, [.ref b0, .ref b1, .ref b2])), (b1, .inl (cI, 4, .inl (szf)))] := hD
    obtain ⟨rfl, hq158⟩ := hw
    refine lv_if_ne (tgt := 21) hx hb dX7_refusalOfSteps_15 (by decide) (fun hc => absurd hc (by decide)) (fun _ => ?_)
    refine lv_bipush (v := (-6)) hx hb dX7_refusalOfSteps_18 (by decide) ?_
    have hP9 := hP.sub (ws' := [(a, .inr (7, [.ref b0, .ref b1, .ref b2])), (b1, .inl (cI, 4, .inl (szf)))]) [0, 1] rfl
    have hD9 := hD.sub (ws' := [(a, .inr (7, [.ref b0, .ref b1, .ref b2])), (b1, .inl (cI, 4, .inl (szf)))]) [0, 1] (by decide) rfl
    exact W.iret (v := (-6)) hx hb hr (fun t ht hW => ⟨⟨(-6), (), rfl, (Or.inl ⟨rfl, by omega⟩), by rw [ht]; exact hP9, hD9⟩, hS.F ht⟩) hS.2.2 dX7_refusalOfSteps_20
  · refine lv_if_ne (tgt := 10) hx hb dX7_refusalOfSteps_4 (by decide) (fun hc => absurd hc (by decide)) (fun _ => ?_)
    refine lv_bipush (v := (-2)) hx hb dX7_refusalOfSteps_7 (by decide) ?_
    have hP9 := hP.sub (ws' := [(a, .inr (7, [.ref b0, .ref b1, .ref b2])), (b1, .inl (cI, 4, .inl (szf)))]) [0, 1] rfl
    have hD9 := hD.sub (ws' := [(a, .inr (7, [.ref b0, .ref b1, .ref b2])), (b1, .inl (cI, 4, .inl (szf)))]) [0, 1] (by decide) rfl
    exact W.iret (v := (-2)) hx hb hr (fun t ht hW => ⟨⟨(-2), (), rfl, (Or.inr (⟨rfl, by omega⟩)), by rw [ht]; exact hP9, hD9⟩, hS.F ht⟩) hS.2.2 dX7_refusalOfSteps_9
abbrev w_c_X11_half (cI cJ cB cZ cO : ClassId) (h : Nat) (r : Nat → Nat) : va_W := [oo h r (r 2) (r 3), ((r 15), .inr (7, [.ref (r 17), .ref (r 18), .ref (r 19)])), ((r 18), .inl (cI, 4, .inl (szf)))]
set_option maxHeartbeats 4000000 in
set_option maxRecDepth 100000 in
/-- half, on a new object -/
theorem c_X11_half (l : Launch) (D : va_G) (cI cJ cB cZ cO : ClassId) (h : Nat) (r : Nat → Nat) (x1 : Int32) (sz : Nat) : Met l yX11_half wsX11_half ({ frames := 3, cells := 0, slots := 0, locals := 63 }) (va_Pc [.ref h, .int x1] (ct_P D (ct_T cI cJ cB cZ cO) (w_c_X11_half cI cJ cB cZ cO h r) sz)) (va_Qi (fun (rz : Int32) (u : Unit) => (rz = (-6) ∧ (0 ≤ x1.toInt ∧ x1.toInt < 4)) ∨ (rz = (-2) ∧ ¬ (0 ≤ x1.toInt ∧ x1.toInt < 4))) (fun (u : Unit) t => ct_Q D (va_A (w_c_X11_half cI cJ cB cZ cO h r) sz) [] t) (va_A (w_c_X11_half cI cJ cB cZ cO h r) sz)) 0 0 (va_A (w_c_X11_half cI cJ cB cZ cO h r) sz) := by
  refine Met.ofW (cc := cX11_half) (maxL := 3) (ret := (some .int)) (by decide) rfl ?_
  intro p e s m args below meth c s₁ B hml hv
  obtain ⟨rfl, hsz, hP, hE, hD0⟩ := hv
  have hx := B.exec
  have hb := B.bytes
  have hr := B.returns
  have hts := atoms_spec (ws := wsX11_half) B.pre
  have hown : s.vm.findClass RX11 = some m.cls := findClass_of_methodNamed B.named
  have hlocks := B.notSynchronized
  have hK := hE.1
  have hi11 : ∀ w ∈ u_ws RX11 TX11 16, w ∈ wsX11_half := fun w h => List.mem_cons_of_mem _ (List.mem_append_left _ (List.mem_append_right _ h))
  subst hsz
  have hD := hD0.self (sz := s.heap.size)
  generalize hAe : va_A (w_c_X11_half cI cJ cB cZ cO h r) s.heap.size = A at hD ⊢
  have hA : ∀ q : Nat, s.heap.size ≤ q → A q := fun q h => by rw [← hAe]; exact Or.inr h
  have hS : va_S A s.heap s.heap [] := va_S.rf
  have hP : va_P D vwCl [oo h r (r 2) (r 3), ((r 15), .inr (7, [.ref (r 17), .ref (r 18), .ref (r 19)])), ((r 18), .inl (cI, 4, .inl (szf)))] s.heap := hP
  have hD : va_D A [oo h r (r 2) (r 3), ((r 15), .inr (7, [.ref (r 17), .ref (r 18), .ref (r 19)])), ((r 18), .inl (cI, 4, .inl (szf)))] := hD
  have hl := lv_entry ([.ref h, .int x1]) (n := 3) (Nat.le_of_ble_eq_true rfl)
  rw [lg_entry_eq]
  generalize (lg_sl ([.ref h, .int x1]) ++ List.replicate (3 - (lg_sl ([.ref h, .int x1])).length) Slot.unset).toArray = ls at hl ⊢
  have hl : lv_has ls 3 [(0, .ref h), (1, .int x1)] := hl
  obtain ⟨H, hHe⟩ : ∃ H : Heap, H = s.heap := ⟨_, rfl⟩
  rw [← hHe] at hP
  have hS : va_S A s.heap H [] := by rw [hHe]; exact va_S.rf
  refine ct_start hHe ?_
  refine lv_aload_n hx hb dX11_half_0 rfl (lv_at hl 0 rfl) ?_
  refine va_get (D := D) (ci := 11) (v := .ref (r 15)) (C := RX11) (T := TX11) (N := 16) hx hb hts hi11 hown hK hP 0 rfl rfl 15 (by decide) (hts (.fieldLink RX11 98 "OverHill" "slots" "LOverHill$Slots;") (by decide +kernel)) (fun _ h9 => h9) rfl dX11_half_1 ?_
  refine lv_iload_n hx hb dX11_half_4 rfl (lv_at hl 1 rfl) ?_
  refine ct_calli (D := D) (wc := (w_c_X7_refusalOfSteps cI cJ cB cZ cO (r 15) (r 17) (r 18) (r 19))) (wr := [oo h r (r 2) (r 3)]) (va_runV (As := [.int x1]) (rest := []) ⟨hx, hb, hml, hown, hts⟩ (c_X7_refusalOfSteps l D cI cJ cB cZ cO (r 15) (r 17) (r 18) (r 19) x1 H.size) (cwV 1 hts gX11_half_X7_refusalOfSteps rfl rfl rfl (by decide +kernel) ⟨Nat.le_of_ble_eq_true rfl, Nat.le_of_ble_eq_true rfl⟩) (ct_preV (T := ct_T cI cJ cB cZ cO) (ci := 7) (q0 := 1) hE hP hD [1, 2] (by decide) rfl rfl rfl) rfl rfl hl.1 rfl (lv_room (Nat.le_of_ble_eq_true rfl)) dX11_half_5 ⟨Nat.le_of_ble_eq_true rfl, Nat.le_of_ble_eq_true rfl⟩) hP hD hS hA [1, 2] [0] rfl rfl (by decide) (by decide) (fun rz u H locs hw hP hD hS => ?_)
  have hP : va_P D vwCl [oo h r (r 2) (r 3), ((r 15), .inr (7, [.ref (r 17), .ref (r 18), .ref (r 19)])), ((r 18), .inl (cI, 4, .inl (szf)))] H := hP
  have hD : va_D A [oo h r (r 2) (r 3), ((r 15), .inr (7, [.ref (r 17), .ref (r 18), .ref (r 19)])), ((r 18), .inl (cI, 4, .inl (szf)))] := hD
  rcases hw with ⟨rfl, hq159⟩ | ⟨rfl, hq159⟩
  · refine lv_istore_n (lv' := [(2, .int (-6)), (0, .ref h), (1, .int x1)]) hx hb dX11_half_8 rfl hl (by decide) rfl (fun ls hl => ?_)
    refine lv_iload_n hx hb dX11_half_9 rfl (lv_at hl 0 rfl) ?_
    refine lv_if_ge (tgt := 17) hx hb dX11_half_10 (by decide) (fun hc => absurd hc (by decide)) (fun _ => ?_)
    refine lv_iload_n hx hb dX11_half_13 rfl (lv_at hl 0 rfl) ?_
    refine lv_goto (tgt := 25) hx hb dX11_half_14 (by decide) ?_
    have hP9 := hP.sub (ws' := []) [] rfl
    have hD9 := hD.sub (ws' := []) [] (by decide) rfl
    exact W.iret (v := (-6)) hx hb hr (fun t ht hW => ⟨⟨(-6), (), rfl, (Or.inl ⟨rfl, by omega⟩), by rw [ht]; exact hP9, hD9⟩, hS.F ht⟩) hS.2.2 dX11_half_25
  · refine lv_istore_n (lv' := [(2, .int (-2)), (0, .ref h), (1, .int x1)]) hx hb dX11_half_8 rfl hl (by decide) rfl (fun ls hl => ?_)
    refine lv_iload_n hx hb dX11_half_9 rfl (lv_at hl 0 rfl) ?_
    refine lv_if_ge (tgt := 17) hx hb dX11_half_10 (by decide) (fun hc => absurd hc (by decide)) (fun _ => ?_)
    refine lv_iload_n hx hb dX11_half_13 rfl (lv_at hl 0 rfl) ?_
    refine lv_goto (tgt := 25) hx hb dX11_half_14 (by decide) ?_
    have hP9 := hP.sub (ws' := []) [] rfl
    have hD9 := hD.sub (ws' := []) [] (by decide) rfl
    exact W.iret (v := (-2)) hx hb hr (fun t ht hW => ⟨⟨(-2), (), rfl, (Or.inr (⟨rfl, by omega⟩)), by rw [ht]; exact hP9, hD9⟩, hS.F ht⟩) hS.2.2 dX11_half_25
abbrev w_c_X11_fills (cI cJ cB cZ cO : ClassId) (h : Nat) (r : Nat → Nat) : va_W := [oo h r (r 2) (r 3), ((r 15), .inr (7, [.ref (r 17), .ref (r 18), .ref (r 19)])), ((r 18), .inl (cI, 4, .inl (szf)))]
set_option maxHeartbeats 4000000 in
set_option maxRecDepth 100000 in
/-- fills, on a new object -/
theorem c_X11_fills (l : Launch) (D : va_G) (cI cJ cB cZ cO : ClassId) (h : Nat) (r : Nat → Nat) (x1 : Int32) (x2 : Int32) (sz : Nat) : Met l yX11_fills wsX11_fills ({ frames := 3, cells := 0, slots := 0, locals := 63 }) (va_Pc [.ref h, .int x1, .int x2] (ct_P D (ct_T cI cJ cB cZ cO) (w_c_X11_fills cI cJ cB cZ cO h r) sz)) (va_Qi (fun (rz : Int32) (u : Unit) => (rz = (-6) ∧ (0 ≤ x1.toInt ∧ x1.toInt < 4)) ∨ (rz = (-2) ∧ ¬ (0 ≤ x1.toInt ∧ x1.toInt < 4))) (fun (u : Unit) t => ct_Q D (va_A (w_c_X11_fills cI cJ cB cZ cO h r) sz) [] t) (va_A (w_c_X11_fills cI cJ cB cZ cO h r) sz)) 0 0 (va_A (w_c_X11_fills cI cJ cB cZ cO h r) sz) := by
  refine Met.ofW (cc := cX11_fills) (maxL := 5) (ret := (some .int)) (by decide) rfl ?_
  intro p e s m args below meth c s₁ B hml hv
  obtain ⟨rfl, hsz, hP, hE, hD0⟩ := hv
  have hx := B.exec
  have hb := B.bytes
  have hr := B.returns
  have hts := atoms_spec (ws := wsX11_fills) B.pre
  have hown : s.vm.findClass RX11 = some m.cls := findClass_of_methodNamed B.named
  have hlocks := B.notSynchronized
  have hK := hE.1
  have hi11 : ∀ w ∈ u_ws RX11 TX11 16, w ∈ wsX11_fills := fun w h => List.mem_cons_of_mem _ (List.mem_append_left _ (List.mem_append_right _ h))
  subst hsz
  have hD := hD0.self (sz := s.heap.size)
  generalize hAe : va_A (w_c_X11_fills cI cJ cB cZ cO h r) s.heap.size = A at hD ⊢
  have hA : ∀ q : Nat, s.heap.size ≤ q → A q := fun q h => by rw [← hAe]; exact Or.inr h
  have hS : va_S A s.heap s.heap [] := va_S.rf
  have hP : va_P D vwCl [oo h r (r 2) (r 3), ((r 15), .inr (7, [.ref (r 17), .ref (r 18), .ref (r 19)])), ((r 18), .inl (cI, 4, .inl (szf)))] s.heap := hP
  have hD : va_D A [oo h r (r 2) (r 3), ((r 15), .inr (7, [.ref (r 17), .ref (r 18), .ref (r 19)])), ((r 18), .inl (cI, 4, .inl (szf)))] := hD
  have hl := lv_entry ([.ref h, .int x1, .int x2]) (n := 5) (Nat.le_of_ble_eq_true rfl)
  rw [lg_entry_eq]
  generalize (lg_sl ([.ref h, .int x1, .int x2]) ++ List.replicate (5 - (lg_sl ([.ref h, .int x1, .int x2])).length) Slot.unset).toArray = ls at hl ⊢
  have hl : lv_has ls 5 [(0, .ref h), (1, .int x1), (2, .int x2)] := hl
  obtain ⟨H, hHe⟩ : ∃ H : Heap, H = s.heap := ⟨_, rfl⟩
  rw [← hHe] at hP
  have hS : va_S A s.heap H [] := by rw [hHe]; exact va_S.rf
  refine ct_start hHe ?_
  refine lv_aload_n hx hb dX11_fills_0 rfl (lv_at hl 0 rfl) ?_
  refine va_get (D := D) (ci := 11) (v := .ref (r 15)) (C := RX11) (T := TX11) (N := 16) hx hb hts hi11 hown hK hP 0 rfl rfl 15 (by decide) (hts (.fieldLink RX11 98 "OverHill" "slots" "LOverHill$Slots;") (by decide +kernel)) (fun _ h9 => h9) rfl dX11_fills_1 ?_
  refine lv_iload_n hx hb dX11_fills_4 rfl (lv_at hl 1 rfl) ?_
  refine ct_calli (D := D) (wc := (w_c_X7_refusalOfSteps cI cJ cB cZ cO (r 15) (r 17) (r 18) (r 19))) (wr := [oo h r (r 2) (r 3)]) (va_runV (As := [.int x1]) (rest := []) ⟨hx, hb, hml, hown, hts⟩ (c_X7_refusalOfSteps l D cI cJ cB cZ cO (r 15) (r 17) (r 18) (r 19) x1 H.size) (cwV 1 hts gX11_fills_X7_refusalOfSteps rfl rfl rfl (by decide +kernel) ⟨Nat.le_of_ble_eq_true rfl, Nat.le_of_ble_eq_true rfl⟩) (ct_preV (T := ct_T cI cJ cB cZ cO) (ci := 7) (q0 := 1) hE hP hD [1, 2] (by decide) rfl rfl rfl) rfl rfl hl.1 rfl (lv_room (Nat.le_of_ble_eq_true rfl)) dX11_fills_5 ⟨Nat.le_of_ble_eq_true rfl, Nat.le_of_ble_eq_true rfl⟩) hP hD hS hA [1, 2] [0] rfl rfl (by decide) (by decide) (fun rz u H locs hw hP hD hS => ?_)
  have hP : va_P D vwCl [oo h r (r 2) (r 3), ((r 15), .inr (7, [.ref (r 17), .ref (r 18), .ref (r 19)])), ((r 18), .inl (cI, 4, .inl (szf)))] H := hP
  have hD : va_D A [oo h r (r 2) (r 3), ((r 15), .inr (7, [.ref (r 17), .ref (r 18), .ref (r 19)])), ((r 18), .inl (cI, 4, .inl (szf)))] := hD
  rcases hw with ⟨rfl, hq160⟩ | ⟨rfl, hq160⟩
  · refine lv_istore_n (lv' := [(3, .int (-6)), (0, .ref h), (1, .int x1), (2, .int x2)]) hx hb dX11_fills_8 rfl hl (by decide) rfl (fun ls hl => ?_)
    refine lv_iload_n hx hb dX11_fills_9 rfl (lv_at hl 0 rfl) ?_
    refine lv_if_ge (tgt := 15) hx hb dX11_fills_10 (by decide) (fun hc => absurd hc (by decide)) (fun _ => ?_)
    refine lv_iload_n hx hb dX11_fills_13 rfl (lv_at hl 0 rfl) ?_
    have hP9 := hP.sub (ws' := []) [] rfl
    have hD9 := hD.sub (ws' := []) [] (by decide) rfl
    exact W.iret (v := (-6)) hx hb hr (fun t ht hW => ⟨⟨(-6), (), rfl, (Or.inl ⟨rfl, by omega⟩), by rw [ht]; exact hP9, hD9⟩, hS.F ht⟩) hS.2.2 dX11_fills_14
  · refine lv_istore_n (lv' := [(3, .int (-2)), (0, .ref h), (1, .int x1), (2, .int x2)]) hx hb dX11_fills_8 rfl hl (by decide) rfl (fun ls hl => ?_)
    refine lv_iload_n hx hb dX11_fills_9 rfl (lv_at hl 0 rfl) ?_
    refine lv_if_ge (tgt := 15) hx hb dX11_fills_10 (by decide) (fun hc => absurd hc (by decide)) (fun _ => ?_)
    refine lv_iload_n hx hb dX11_fills_13 rfl (lv_at hl 0 rfl) ?_
    have hP9 := hP.sub (ws' := []) [] rfl
    have hD9 := hD.sub (ws' := []) [] (by decide) rfl
    exact W.iret (v := (-2)) hx hb hr (fun t ht hW => ⟨⟨(-2), (), rfl, (Or.inr (⟨rfl, by omega⟩)), by rw [ht]; exact hP9, hD9⟩, hS.F ht⟩) hS.2.2 dX11_fills_14
abbrev w_c_X11_open (cI cJ cB cZ cO : ClassId) (h : Nat) (r : Nat → Nat) : va_W := [oo h r (r 2) (r 3), ((r 15), .inr (7, [.ref (r 17), .ref (r 18), .ref (r 19)])), ((r 18), .inl (cI, 4, .inl (szf)))]
set_option maxHeartbeats 4000000 in
set_option maxRecDepth 100000 in
/-- open, on a new object -/
theorem c_X11_open (l : Launch) (D : va_G) (cI cJ cB cZ cO : ClassId) (h : Nat) (r : Nat → Nat) (x1 : Int32) (sz : Nat) : Met l yX11_open wsX11_open ({ frames := 3, cells := 0, slots := 0, locals := 63 }) (va_Pc [.ref h, .int x1] (ct_P D (ct_T cI cJ cB cZ cO) (w_c_X11_open cI cJ cB cZ cO h r) sz)) (va_Qi (fun (rz : Int32) (u : Unit) => (rz = (-6) ∧ (0 ≤ x1.toInt ∧ x1.toInt < 4)) ∨ (rz = (-2) ∧ ¬ (0 ≤ x1.toInt ∧ x1.toInt < 4))) (fun (u : Unit) t => ct_Q D (va_A (w_c_X11_open cI cJ cB cZ cO h r) sz) [] t) (va_A (w_c_X11_open cI cJ cB cZ cO h r) sz)) 0 0 (va_A (w_c_X11_open cI cJ cB cZ cO h r) sz) := by
  refine Met.ofW (cc := cX11_open) (maxL := 4) (ret := (some .int)) (by decide) rfl ?_
  intro p e s m args below meth c s₁ B hml hv
  obtain ⟨rfl, hsz, hP, hE, hD0⟩ := hv
  have hx := B.exec
  have hb := B.bytes
  have hr := B.returns
  have hts := atoms_spec (ws := wsX11_open) B.pre
  have hown : s.vm.findClass RX11 = some m.cls := findClass_of_methodNamed B.named
  have hlocks := B.notSynchronized
  have hK := hE.1
  have hi11 : ∀ w ∈ u_ws RX11 TX11 16, w ∈ wsX11_open := fun w h => List.mem_cons_of_mem _ (List.mem_append_left _ (List.mem_append_right _ h))
  subst hsz
  have hD := hD0.self (sz := s.heap.size)
  generalize hAe : va_A (w_c_X11_open cI cJ cB cZ cO h r) s.heap.size = A at hD ⊢
  have hA : ∀ q : Nat, s.heap.size ≤ q → A q := fun q h => by rw [← hAe]; exact Or.inr h
  have hS : va_S A s.heap s.heap [] := va_S.rf
  have hP : va_P D vwCl [oo h r (r 2) (r 3), ((r 15), .inr (7, [.ref (r 17), .ref (r 18), .ref (r 19)])), ((r 18), .inl (cI, 4, .inl (szf)))] s.heap := hP
  have hD : va_D A [oo h r (r 2) (r 3), ((r 15), .inr (7, [.ref (r 17), .ref (r 18), .ref (r 19)])), ((r 18), .inl (cI, 4, .inl (szf)))] := hD
  have hl := lv_entry ([.ref h, .int x1]) (n := 4) (Nat.le_of_ble_eq_true rfl)
  rw [lg_entry_eq]
  generalize (lg_sl ([.ref h, .int x1]) ++ List.replicate (4 - (lg_sl ([.ref h, .int x1])).length) Slot.unset).toArray = ls at hl ⊢
  have hl : lv_has ls 4 [(0, .ref h), (1, .int x1)] := hl
  obtain ⟨H, hHe⟩ : ∃ H : Heap, H = s.heap := ⟨_, rfl⟩
  rw [← hHe] at hP
  have hS : va_S A s.heap H [] := by rw [hHe]; exact va_S.rf
  refine ct_start hHe ?_
  refine lv_aload_n hx hb dX11_open_0 rfl (lv_at hl 0 rfl) ?_
  refine va_get (D := D) (ci := 11) (v := .ref (r 15)) (C := RX11) (T := TX11) (N := 16) hx hb hts hi11 hown hK hP 0 rfl rfl 15 (by decide) (hts (.fieldLink RX11 98 "OverHill" "slots" "LOverHill$Slots;") (by decide +kernel)) (fun _ h9 => h9) rfl dX11_open_1 ?_
  refine lv_iload_n hx hb dX11_open_4 rfl (lv_at hl 1 rfl) ?_
  refine ct_calli (D := D) (wc := (w_c_X7_refusalOfSteps cI cJ cB cZ cO (r 15) (r 17) (r 18) (r 19))) (wr := [oo h r (r 2) (r 3)]) (va_runV (As := [.int x1]) (rest := []) ⟨hx, hb, hml, hown, hts⟩ (c_X7_refusalOfSteps l D cI cJ cB cZ cO (r 15) (r 17) (r 18) (r 19) x1 H.size) (cwV 1 hts gX11_open_X7_refusalOfSteps rfl rfl rfl (by decide +kernel) ⟨Nat.le_of_ble_eq_true rfl, Nat.le_of_ble_eq_true rfl⟩) (ct_preV (T := ct_T cI cJ cB cZ cO) (ci := 7) (q0 := 1) hE hP hD [1, 2] (by decide) rfl rfl rfl) rfl rfl hl.1 rfl (lv_room (Nat.le_of_ble_eq_true rfl)) dX11_open_5 ⟨Nat.le_of_ble_eq_true rfl, Nat.le_of_ble_eq_true rfl⟩) hP hD hS hA [1, 2] [0] rfl rfl (by decide) (by decide) (fun rz u H locs hw hP hD hS => ?_)
  have hP : va_P D vwCl [oo h r (r 2) (r 3), ((r 15), .inr (7, [.ref (r 17), .ref (r 18), .ref (r 19)])), ((r 18), .inl (cI, 4, .inl (szf)))] H := hP
  have hD : va_D A [oo h r (r 2) (r 3), ((r 15), .inr (7, [.ref (r 17), .ref (r 18), .ref (r 19)])), ((r 18), .inl (cI, 4, .inl (szf)))] := hD
  rcases hw with ⟨rfl, hq161⟩ | ⟨rfl, hq161⟩
  · refine lv_istore_n (lv' := [(2, .int (-6)), (0, .ref h), (1, .int x1)]) hx hb dX11_open_8 rfl hl (by decide) rfl (fun ls hl => ?_)
    refine lv_iload_n hx hb dX11_open_9 rfl (lv_at hl 0 rfl) ?_
    refine lv_if_ge (tgt := 15) hx hb dX11_open_10 (by decide) (fun hc => absurd hc (by decide)) (fun _ => ?_)
    refine lv_iload_n hx hb dX11_open_13 rfl (lv_at hl 0 rfl) ?_
    have hP9 := hP.sub (ws' := []) [] rfl
    have hD9 := hD.sub (ws' := []) [] (by decide) rfl
    exact W.iret (v := (-6)) hx hb hr (fun t ht hW => ⟨⟨(-6), (), rfl, (Or.inl ⟨rfl, by omega⟩), by rw [ht]; exact hP9, hD9⟩, hS.F ht⟩) hS.2.2 dX11_open_14
  · refine lv_istore_n (lv' := [(2, .int (-2)), (0, .ref h), (1, .int x1)]) hx hb dX11_open_8 rfl hl (by decide) rfl (fun ls hl => ?_)
    refine lv_iload_n hx hb dX11_open_9 rfl (lv_at hl 0 rfl) ?_
    refine lv_if_ge (tgt := 15) hx hb dX11_open_10 (by decide) (fun hc => absurd hc (by decide)) (fun _ => ?_)
    refine lv_iload_n hx hb dX11_open_13 rfl (lv_at hl 0 rfl) ?_
    have hP9 := hP.sub (ws' := []) [] rfl
    have hD9 := hD.sub (ws' := []) [] (by decide) rfl
    exact W.iret (v := (-2)) hx hb hr (fun t ht hW => ⟨⟨(-2), (), rfl, (Or.inr (⟨rfl, by omega⟩)), by rw [ht]; exact hP9, hD9⟩, hS.F ht⟩) hS.2.2 dX11_open_14
abbrev w_c_X11_write (cI cJ cB cZ cO : ClassId) (h : Nat) (r : Nat → Nat) : va_W := [oo h r (r 2) (r 3), ((r 15), .inr (7, [.ref (r 17), .ref (r 18), .ref (r 19)])), ((r 18), .inl (cI, 4, .inl (szf)))]
set_option maxHeartbeats 4000000 in
set_option maxRecDepth 100000 in
/-- write, on a new object -/
theorem c_X11_write (l : Launch) (D : va_G) (cI cJ cB cZ cO : ClassId) (h : Nat) (r : Nat → Nat) (x1 : Int32) (x2 : Int32) (x3 : Int64) (sz : Nat) : Met l yX11_write wsX11_write ({ frames := 2, cells := 0, slots := 0, locals := 41 }) (va_Pc [.ref h, .int x1, .int x2, .long x3] (ct_P D (ct_T cI cJ cB cZ cO) (w_c_X11_write cI cJ cB cZ cO h r) sz)) (va_Qi (fun (rz : Int32) (u : Unit) => (rz = (-6) ∧ (0 ≤ x1.toInt ∧ x1.toInt < 4)) ∨ (rz = (-2) ∧ ¬ (0 ≤ x1.toInt ∧ x1.toInt < 4))) (fun (u : Unit) t => ct_Q D (va_A (w_c_X11_write cI cJ cB cZ cO h r) sz) [] t) (va_A (w_c_X11_write cI cJ cB cZ cO h r) sz)) 0 0 (va_A (w_c_X11_write cI cJ cB cZ cO h r) sz) := by
  refine Met.ofW (cc := cX11_write) (maxL := 5) (ret := (some .int)) (by decide) rfl ?_
  intro p e s m args below meth c s₁ B hml hv
  obtain ⟨rfl, hsz, hP, hE, hD0⟩ := hv
  have hx := B.exec
  have hb := B.bytes
  have hr := B.returns
  have hts := atoms_spec (ws := wsX11_write) B.pre
  have hown : s.vm.findClass RX11 = some m.cls := findClass_of_methodNamed B.named
  have hlocks := B.notSynchronized
  have hK := hE.1
  have hi11 : ∀ w ∈ u_ws RX11 TX11 16, w ∈ wsX11_write := fun w h => List.mem_cons_of_mem _ (List.mem_append_left _ (List.mem_append_right _ h))
  subst hsz
  have hD := hD0.self (sz := s.heap.size)
  generalize hAe : va_A (w_c_X11_write cI cJ cB cZ cO h r) s.heap.size = A at hD ⊢
  have hA : ∀ q : Nat, s.heap.size ≤ q → A q := fun q h => by rw [← hAe]; exact Or.inr h
  have hS : va_S A s.heap s.heap [] := va_S.rf
  have hP : va_P D vwCl [oo h r (r 2) (r 3), ((r 15), .inr (7, [.ref (r 17), .ref (r 18), .ref (r 19)])), ((r 18), .inl (cI, 4, .inl (szf)))] s.heap := hP
  have hD : va_D A [oo h r (r 2) (r 3), ((r 15), .inr (7, [.ref (r 17), .ref (r 18), .ref (r 19)])), ((r 18), .inl (cI, 4, .inl (szf)))] := hD
  have hl := lv_entry ([.ref h, .int x1, .int x2, .long x3]) (n := 5) (Nat.le_of_ble_eq_true rfl)
  rw [lg_entry_eq]
  generalize (lg_sl ([.ref h, .int x1, .int x2, .long x3]) ++ List.replicate (5 - (lg_sl ([.ref h, .int x1, .int x2, .long x3])).length) Slot.unset).toArray = ls at hl ⊢
  have hl : lv_has ls 5 [(0, .ref h), (1, .int x1), (2, .int x2), (3, .long x3)] := hl
  obtain ⟨H, hHe⟩ : ∃ H : Heap, H = s.heap := ⟨_, rfl⟩
  rw [← hHe] at hP
  have hS : va_S A s.heap H [] := by rw [hHe]; exact va_S.rf
  refine ct_start hHe ?_
  refine lv_iload_n hx hb dX11_write_0 rfl (lv_at hl 1 rfl) ?_
  refine ct_calli (D := D) (wc := (w_c_X7_isSlot cI cJ cB cZ cO )) (wr := [oo h r (r 2) (r 3), ((r 15), .inr (7, [.ref (r 17), .ref (r 18), .ref (r 19)])), ((r 18), .inl (cI, 4, .inl (szf)))]) (va_runS (As := [.int x1]) (rest := []) ⟨hx, hb, hml, hown, hts⟩ (c_X7_isSlot l D cI cJ cB cZ cO x1 H.size) (va_cwS 1 hts gX11_write_X7_isSlot rfl rfl rfl (by decide +kernel) ⟨Nat.le_of_ble_eq_true rfl, Nat.le_of_ble_eq_true rfl⟩) (ct_preS (T := ct_T cI cJ cB cZ cO) hE hP hD [] (by decide) rfl) rfl rfl hl.1 rfl (lv_room (Nat.le_of_ble_eq_true rfl)) dX11_write_1 ⟨Nat.le_of_ble_eq_true rfl, Nat.le_of_ble_eq_true rfl⟩) hP hD hS hA [] [0, 1, 2] rfl rfl (by decide) (by decide) (fun rz u H locs hw hP hD hS => ?_)
  have hP : va_P D vwCl [oo h r (r 2) (r 3), ((r 15), .inr (7, [.ref (r 17), .ref (r 18), .ref (r 19)])), ((r 18), .inl (cI, 4, .inl (szf)))] H := hP
  have hD : va_D A [oo h r (r 2) (r 3), ((r 15), .inr (7, [.ref (r 17), .ref (r 18), .ref (r 19)])), ((r 18), .inl (cI, 4, .inl (szf)))] := hD
  rcases hw with ⟨rfl, hq162⟩ | ⟨rfl, hq162⟩
  · refine lv_if_ne (tgt := 10) hx hb dX11_write_4 (by decide) (fun _ => ?_) (fun hc => absurd hc (by decide))
    refine lv_aload_n hx hb dX11_write_10 rfl (lv_at hl 0 rfl) ?_
    refine va_get (D := D) (ci := 11) (v := .ref (r 15)) (C := RX11) (T := TX11) (N := 16) hx hb hts hi11 hown hK hP 0 rfl rfl 15 (by decide) (hts (.fieldLink RX11 98 "OverHill" "slots" "LOverHill$Slots;") (by decide +kernel)) (fun _ h9 => h9) rfl dX11_write_11 ?_
    refine lv_iload_n hx hb dX11_write_14 rfl (lv_at hl 1 rfl) ?_
    refine ct_calli (D := D) (wc := (w_c_X7_has cI cJ cB cZ cO (r 15) (r 17) (r 18) (r 19))) (wr := [oo h r (r 2) (r 3)]) (va_runV (As := [.int x1]) (rest := []) ⟨hx, hb, hml, hown, hts⟩ (c_X7_has l D cI cJ cB cZ cO (r 15) (r 17) (r 18) (r 19) x1 (by omega) H.size) (cwV 1 hts gX11_write_X7_has rfl rfl rfl (by decide +kernel) ⟨Nat.le_of_ble_eq_true rfl, Nat.le_of_ble_eq_true rfl⟩) (ct_preV (T := ct_T cI cJ cB cZ cO) (ci := 7) (q0 := 1) hE hP hD [1, 2] (by decide) rfl rfl rfl) rfl rfl hl.1 rfl (lv_room (Nat.le_of_ble_eq_true rfl)) dX11_write_15 ⟨Nat.le_of_ble_eq_true rfl, Nat.le_of_ble_eq_true rfl⟩) hP hD hS hA [1, 2] [0] rfl rfl (by decide) (by decide) (fun rz u H locs hw hP hD hS => ?_)
    have hP : va_P D vwCl [oo h r (r 2) (r 3), ((r 15), .inr (7, [.ref (r 17), .ref (r 18), .ref (r 19)])), ((r 18), .inl (cI, 4, .inl (szf)))] H := hP
    have hD : va_D A [oo h r (r 2) (r 3), ((r 15), .inr (7, [.ref (r 17), .ref (r 18), .ref (r 19)])), ((r 18), .inl (cI, 4, .inl (szf)))] := hD
    obtain ⟨rfl, hq163⟩ := hw
    refine lv_if_ne (tgt := 24) hx hb dX11_write_18 (by decide) (fun hc => absurd hc (by decide)) (fun _ => ?_)
    refine lv_bipush (v := (-6)) hx hb dX11_write_21 (by decide) ?_
    have hP9 := hP.sub (ws' := []) [] rfl
    have hD9 := hD.sub (ws' := []) [] (by decide) rfl
    exact W.iret (v := (-6)) hx hb hr (fun t ht hW => ⟨⟨(-6), (), rfl, (Or.inl ⟨rfl, by omega⟩), by rw [ht]; exact hP9, hD9⟩, hS.F ht⟩) hS.2.2 dX11_write_23
  · refine lv_if_ne (tgt := 10) hx hb dX11_write_4 (by decide) (fun hc => absurd hc (by decide)) (fun _ => ?_)
    refine lv_bipush (v := (-2)) hx hb dX11_write_7 (by decide) ?_
    have hP9 := hP.sub (ws' := []) [] rfl
    have hD9 := hD.sub (ws' := []) [] (by decide) rfl
    exact W.iret (v := (-2)) hx hb hr (fun t ht hW => ⟨⟨(-2), (), rfl, (Or.inr (⟨rfl, by omega⟩)), by rw [ht]; exact hP9, hD9⟩, hS.F ht⟩) hS.2.2 dX11_write_9
abbrev w_c_X11_paste (cI cJ cB cZ cO : ClassId) (h : Nat) (r : Nat → Nat) : va_W := [oo h r (r 2) (r 3), ((r 15), .inr (7, [.ref (r 17), .ref (r 18), .ref (r 19)])), ((r 18), .inl (cI, 4, .inl (szf)))]
set_option maxHeartbeats 4000000 in
set_option maxRecDepth 100000 in
/-- paste, on a new object -/
theorem c_X11_paste (l : Launch) (D : va_G) (cI cJ cB cZ cO : ClassId) (h : Nat) (r : Nat → Nat) (x1 : Int32) (x2 : Int32) (x3 : Int32) (x4 : Int32) (x5 : Int32) (sz : Nat) : Met l yX11_paste wsX11_paste ({ frames := 2, cells := 0, slots := 0, locals := 41 }) (va_Pc [.ref h, .int x1, .int x2, .int x3, .int x4, .int x5] (ct_P D (ct_T cI cJ cB cZ cO) (w_c_X11_paste cI cJ cB cZ cO h r) sz)) (va_Qi (fun (rz : Int32) (u : Unit) => (rz = (-6) ∧ ((0 ≤ x1.toInt ∧ x1.toInt < 4) ∧ (0 ≤ x3.toInt ∧ x3.toInt < 4))) ∨ (rz = (-2) ∧ ¬ ((0 ≤ x1.toInt ∧ x1.toInt < 4) ∧ (0 ≤ x3.toInt ∧ x3.toInt < 4)))) (fun (u : Unit) t => ct_Q D (va_A (w_c_X11_paste cI cJ cB cZ cO h r) sz) [] t) (va_A (w_c_X11_paste cI cJ cB cZ cO h r) sz)) 0 0 (va_A (w_c_X11_paste cI cJ cB cZ cO h r) sz) := by
  refine Met.ofW (cc := cX11_paste) (maxL := 6) (ret := (some .int)) (by decide) rfl ?_
  intro p e s m args below meth c s₁ B hml hv
  obtain ⟨rfl, hsz, hP, hE, hD0⟩ := hv
  have hx := B.exec
  have hb := B.bytes
  have hr := B.returns
  have hts := atoms_spec (ws := wsX11_paste) B.pre
  have hown : s.vm.findClass RX11 = some m.cls := findClass_of_methodNamed B.named
  have hlocks := B.notSynchronized
  have hK := hE.1
  have hi11 : ∀ w ∈ u_ws RX11 TX11 16, w ∈ wsX11_paste := fun w h => List.mem_cons_of_mem _ (List.mem_append_left _ (List.mem_append_right _ h))
  subst hsz
  have hD := hD0.self (sz := s.heap.size)
  generalize hAe : va_A (w_c_X11_paste cI cJ cB cZ cO h r) s.heap.size = A at hD ⊢
  have hA : ∀ q : Nat, s.heap.size ≤ q → A q := fun q h => by rw [← hAe]; exact Or.inr h
  have hS : va_S A s.heap s.heap [] := va_S.rf
  have hP : va_P D vwCl [oo h r (r 2) (r 3), ((r 15), .inr (7, [.ref (r 17), .ref (r 18), .ref (r 19)])), ((r 18), .inl (cI, 4, .inl (szf)))] s.heap := hP
  have hD : va_D A [oo h r (r 2) (r 3), ((r 15), .inr (7, [.ref (r 17), .ref (r 18), .ref (r 19)])), ((r 18), .inl (cI, 4, .inl (szf)))] := hD
  have hl := lv_entry ([.ref h, .int x1, .int x2, .int x3, .int x4, .int x5]) (n := 6) (Nat.le_of_ble_eq_true rfl)
  rw [lg_entry_eq]
  generalize (lg_sl ([.ref h, .int x1, .int x2, .int x3, .int x4, .int x5]) ++ List.replicate (6 - (lg_sl ([.ref h, .int x1, .int x2, .int x3, .int x4, .int x5])).length) Slot.unset).toArray = ls at hl ⊢
  have hl : lv_has ls 6 [(0, .ref h), (1, .int x1), (2, .int x2), (3, .int x3), (4, .int x4), (5, .int x5)] := hl
  obtain ⟨H, hHe⟩ : ∃ H : Heap, H = s.heap := ⟨_, rfl⟩
  rw [← hHe] at hP
  have hS : va_S A s.heap H [] := by rw [hHe]; exact va_S.rf
  refine ct_start hHe ?_
  refine lv_iload_n hx hb dX11_paste_0 rfl (lv_at hl 1 rfl) ?_
  refine ct_calli (D := D) (wc := (w_c_X7_isSlot cI cJ cB cZ cO )) (wr := [oo h r (r 2) (r 3), ((r 15), .inr (7, [.ref (r 17), .ref (r 18), .ref (r 19)])), ((r 18), .inl (cI, 4, .inl (szf)))]) (va_runS (As := [.int x1]) (rest := []) ⟨hx, hb, hml, hown, hts⟩ (c_X7_isSlot l D cI cJ cB cZ cO x1 H.size) (va_cwS 1 hts gX11_paste_X7_isSlot rfl rfl rfl (by decide +kernel) ⟨Nat.le_of_ble_eq_true rfl, Nat.le_of_ble_eq_true rfl⟩) (ct_preS (T := ct_T cI cJ cB cZ cO) hE hP hD [] (by decide) rfl) rfl rfl hl.1 rfl (lv_room (Nat.le_of_ble_eq_true rfl)) dX11_paste_1 ⟨Nat.le_of_ble_eq_true rfl, Nat.le_of_ble_eq_true rfl⟩) hP hD hS hA [] [0, 1, 2] rfl rfl (by decide) (by decide) (fun rz u H locs hw hP hD hS => ?_)
  have hP : va_P D vwCl [oo h r (r 2) (r 3), ((r 15), .inr (7, [.ref (r 17), .ref (r 18), .ref (r 19)])), ((r 18), .inl (cI, 4, .inl (szf)))] H := hP
  have hD : va_D A [oo h r (r 2) (r 3), ((r 15), .inr (7, [.ref (r 17), .ref (r 18), .ref (r 19)])), ((r 18), .inl (cI, 4, .inl (szf)))] := hD
  rcases hw with ⟨rfl, hq164⟩ | ⟨rfl, hq164⟩
  · refine lv_if_eq (tgt := 14) hx hb dX11_paste_4 (by decide) (fun hc => absurd hc (by decide)) (fun _ => ?_)
    refine lv_iload_n hx hb dX11_paste_7 rfl (lv_at hl 3 rfl) ?_
    refine ct_calli (D := D) (wc := (w_c_X7_isSlot cI cJ cB cZ cO )) (wr := [oo h r (r 2) (r 3), ((r 15), .inr (7, [.ref (r 17), .ref (r 18), .ref (r 19)])), ((r 18), .inl (cI, 4, .inl (szf)))]) (va_runS (As := [.int x3]) (rest := []) ⟨hx, hb, hml, hown, hts⟩ (c_X7_isSlot l D cI cJ cB cZ cO x3 H.size) (va_cwS 1 hts gX11_paste_X7_isSlot rfl rfl rfl (by decide +kernel) ⟨Nat.le_of_ble_eq_true rfl, Nat.le_of_ble_eq_true rfl⟩) (ct_preS (T := ct_T cI cJ cB cZ cO) hE hP hD [] (by decide) rfl) rfl rfl hl.1 rfl (lv_room (Nat.le_of_ble_eq_true rfl)) dX11_paste_8 ⟨Nat.le_of_ble_eq_true rfl, Nat.le_of_ble_eq_true rfl⟩) hP hD hS hA [] [0, 1, 2] rfl rfl (by decide) (by decide) (fun rz u H locs hw hP hD hS => ?_)
    have hP : va_P D vwCl [oo h r (r 2) (r 3), ((r 15), .inr (7, [.ref (r 17), .ref (r 18), .ref (r 19)])), ((r 18), .inl (cI, 4, .inl (szf)))] H := hP
    have hD : va_D A [oo h r (r 2) (r 3), ((r 15), .inr (7, [.ref (r 17), .ref (r 18), .ref (r 19)])), ((r 18), .inl (cI, 4, .inl (szf)))] := hD
    rcases hw with ⟨rfl, hq165⟩ | ⟨rfl, hq165⟩
    · refine lv_if_ne (tgt := 17) hx hb dX11_paste_11 (by decide) (fun _ => ?_) (fun hc => absurd hc (by decide))
      refine lv_aload_n hx hb dX11_paste_17 rfl (lv_at hl 0 rfl) ?_
      refine va_get (D := D) (ci := 11) (v := .ref (r 15)) (C := RX11) (T := TX11) (N := 16) hx hb hts hi11 hown hK hP 0 rfl rfl 15 (by decide) (hts (.fieldLink RX11 98 "OverHill" "slots" "LOverHill$Slots;") (by decide +kernel)) (fun _ h9 => h9) rfl dX11_paste_18 ?_
      refine lv_iload_n hx hb dX11_paste_21 rfl (lv_at hl 1 rfl) ?_
      refine ct_calli (D := D) (wc := (w_c_X7_has cI cJ cB cZ cO (r 15) (r 17) (r 18) (r 19))) (wr := [oo h r (r 2) (r 3)]) (va_runV (As := [.int x1]) (rest := []) ⟨hx, hb, hml, hown, hts⟩ (c_X7_has l D cI cJ cB cZ cO (r 15) (r 17) (r 18) (r 19) x1 (by omega) H.size) (cwV 1 hts gX11_paste_X7_has rfl rfl rfl (by decide +kernel) ⟨Nat.le_of_ble_eq_true rfl, Nat.le_of_ble_eq_true rfl⟩) (ct_preV (T := ct_T cI cJ cB cZ cO) (ci := 7) (q0 := 1) hE hP hD [1, 2] (by decide) rfl rfl rfl) rfl rfl hl.1 rfl (lv_room (Nat.le_of_ble_eq_true rfl)) dX11_paste_22 ⟨Nat.le_of_ble_eq_true rfl, Nat.le_of_ble_eq_true rfl⟩) hP hD hS hA [1, 2] [0] rfl rfl (by decide) (by decide) (fun rz u H locs hw hP hD hS => ?_)
      have hP : va_P D vwCl [oo h r (r 2) (r 3), ((r 15), .inr (7, [.ref (r 17), .ref (r 18), .ref (r 19)])), ((r 18), .inl (cI, 4, .inl (szf)))] H := hP
      have hD : va_D A [oo h r (r 2) (r 3), ((r 15), .inr (7, [.ref (r 17), .ref (r 18), .ref (r 19)])), ((r 18), .inl (cI, 4, .inl (szf)))] := hD
      obtain ⟨rfl, hq166⟩ := hw
      refine lv_if_eq (tgt := 39) hx hb dX11_paste_25 (by decide) (fun _ => ?_) (fun hc => absurd hc (by decide))
      refine lv_bipush (v := (-6)) hx hb dX11_paste_39 (by decide) ?_
      have hP9 := hP.sub (ws' := []) [] rfl
      have hD9 := hD.sub (ws' := []) [] (by decide) rfl
      exact W.iret (v := (-6)) hx hb hr (fun t ht hW => ⟨⟨(-6), (), rfl, (Or.inl ⟨rfl, by omega⟩), by rw [ht]; exact hP9, hD9⟩, hS.F ht⟩) hS.2.2 dX11_paste_41
    · refine lv_if_ne (tgt := 17) hx hb dX11_paste_11 (by decide) (fun hc => absurd hc (by decide)) (fun _ => ?_)
      refine lv_bipush (v := (-2)) hx hb dX11_paste_14 (by decide) ?_
      have hP9 := hP.sub (ws' := []) [] rfl
      have hD9 := hD.sub (ws' := []) [] (by decide) rfl
      exact W.iret (v := (-2)) hx hb hr (fun t ht hW => ⟨⟨(-2), (), rfl, (Or.inr (⟨rfl, by omega⟩)), by rw [ht]; exact hP9, hD9⟩, hS.F ht⟩) hS.2.2 dX11_paste_16
  · refine lv_if_eq (tgt := 14) hx hb dX11_paste_4 (by decide) (fun _ => ?_) (fun hc => absurd hc (by decide))
    refine lv_bipush (v := (-2)) hx hb dX11_paste_14 (by decide) ?_
    have hP9 := hP.sub (ws' := []) [] rfl
    have hD9 := hD.sub (ws' := []) [] (by decide) rfl
    exact W.iret (v := (-2)) hx hb hr (fun t ht hW => ⟨⟨(-2), (), rfl, (Or.inr (⟨rfl, by omega⟩)), by rw [ht]; exact hP9, hD9⟩, hS.F ht⟩) hS.2.2 dX11_paste_16
abbrev w_c_X7_countRows (cI cJ cB cZ cO : ClassId) (a : Nat) (b0 : Nat) (b1 : Nat) (b2 : Nat) : va_W := [(a, .inr (7, [.ref b0, .ref b1, .ref b2])), (b1, .inl (cI, 4, .inl (szf)))]
set_option maxHeartbeats 4000000 in
set_option maxRecDepth 100000 in
/-- no rows -/
theorem c_X7_countRows (l : Launch) (D : va_G) (cI cJ cB cZ cO : ClassId) (a : Nat) (b0 : Nat) (b1 : Nat) (b2 : Nat) (sz : Nat) : Met l yX7_countRows wsX7_countRows ({ frames := 1, cells := 0, slots := 0, locals := 21 }) (va_Pc [.ref a] (ct_P D (ct_T cI cJ cB cZ cO) (w_c_X7_countRows cI cJ cB cZ cO a b0 b1 b2) sz)) (va_Qi (fun (rz : Int32) (u : Unit) => (rz = 0 ∧ True)) (fun (u : Unit) t => ct_Q D (va_A (w_c_X7_countRows cI cJ cB cZ cO a b0 b1 b2) sz) [(a, .inr (7, [.ref b0, .ref b1, .ref b2])), (b1, .inl (cI, 4, .inl (szf)))] t) (va_A (w_c_X7_countRows cI cJ cB cZ cO a b0 b1 b2) sz)) 0 0 (va_A (w_c_X7_countRows cI cJ cB cZ cO a b0 b1 b2) sz) := by
  refine Met.ofW (cc := cX7_countRows) (maxL := 3) (ret := (some .int)) (by decide) rfl ?_
  intro p e s m args below meth c s₁ B hml hv
  obtain ⟨rfl, hsz, hP, hE, hD0⟩ := hv
  have hx := B.exec
  have hb := B.bytes
  have hr := B.returns
  have hts := atoms_spec (ws := wsX7_countRows) B.pre
  have hown : s.vm.findClass RX7 = some m.cls := findClass_of_methodNamed B.named
  have hlocks := B.notSynchronized
  have hK := hE.1
  subst hsz
  have hD := hD0.self (sz := s.heap.size)
  generalize hAe : va_A (w_c_X7_countRows cI cJ cB cZ cO a b0 b1 b2) s.heap.size = A at hD ⊢
  have hA : ∀ q : Nat, s.heap.size ≤ q → A q := fun q h => by rw [← hAe]; exact Or.inr h
  have hS : va_S A s.heap s.heap [] := va_S.rf
  have hP : va_P D vwCl [(a, .inr (7, [.ref b0, .ref b1, .ref b2])), (b1, .inl (cI, 4, .inl (szf)))] s.heap := hP
  have hD : va_D A [(a, .inr (7, [.ref b0, .ref b1, .ref b2])), (b1, .inl (cI, 4, .inl (szf)))] := hD
  have hl := lv_entry ([.ref a]) (n := 3) (Nat.le_of_ble_eq_true rfl)
  rw [lg_entry_eq]
  generalize (lg_sl ([.ref a]) ++ List.replicate (3 - (lg_sl ([.ref a])).length) Slot.unset).toArray = ls at hl ⊢
  have hl : lv_has ls 3 [(0, .ref a)] := hl
  obtain ⟨H, hHe⟩ : ∃ H : Heap, H = s.heap := ⟨_, rfl⟩
  rw [← hHe] at hP
  have hS : va_S A s.heap H [] := by rw [hHe]; exact va_S.rf
  refine ct_start hHe ?_
  refine lv_iconst (v := 0) hx hb dX7_countRows_0 (by decide) ?_
  refine lv_istore_n (lv' := [(1, .int 0), (0, .ref a)]) hx hb dX7_countRows_1 rfl hl (by decide) rfl (fun ls hl => ?_)
  refine lv_iconst (v := 0) hx hb dX7_countRows_2 (by decide) ?_
  refine lv_istore_n (lv' := [(2, .int 0), (1, .int 0), (0, .ref a)]) hx hb dX7_countRows_3 rfl hl (by decide) rfl (fun ls hl => ?_)
  refine lv_iload_n hx hb dX7_countRows_4 rfl (lv_at hl 0 rfl) ?_
  refine lv_iconst (v := 4) hx hb dX7_countRows_5 (by decide) ?_
  refine lv_icmp_ge (tgt := 31) hx hb dX7_countRows_6 (by decide) (fun hc => absurd hc (by decide)) (fun _ => ?_)
  refine lv_iload_n hx hb dX7_countRows_9 rfl (lv_at hl 1 rfl) ?_
  refine lv_aload_n hx hb dX7_countRows_10 rfl (lv_at hl 2 rfl) ?_
  refine lv_iload_n hx hb dX7_countRows_11 rfl (lv_at hl 0 rfl) ?_
  refine ct_calli (D := D) (wc := (w_c_X7_has cI cJ cB cZ cO a b0 b1 b2)) (wr := []) (va_runV (As := [.int 0]) (rest := [.int 0]) ⟨hx, hb, hml, hown, hts⟩ (c_X7_has l D cI cJ cB cZ cO a b0 b1 b2 0 (by decide) H.size) (cwV 1 hts gX7_countRows_X7_has rfl rfl rfl (by decide +kernel) ⟨Nat.le_of_ble_eq_true rfl, Nat.le_of_ble_eq_true rfl⟩) (ct_preV (T := ct_T cI cJ cB cZ cO) (ci := 7) (q0 := 0) hE hP hD [0, 1] (by decide) rfl rfl rfl) rfl rfl hl.1 rfl (lv_room (Nat.le_of_ble_eq_true rfl)) dX7_countRows_12 ⟨Nat.le_of_ble_eq_true rfl, Nat.le_of_ble_eq_true rfl⟩) hP hD hS hA [0, 1] [] rfl rfl (by decide) (by decide) (fun rz u H locs hw hP hD hS => ?_)
  have hP : va_P D vwCl [(a, .inr (7, [.ref b0, .ref b1, .ref b2])), (b1, .inl (cI, 4, .inl (szf)))] H := hP
  have hD : va_D A [(a, .inr (7, [.ref b0, .ref b1, .ref b2])), (b1, .inl (cI, 4, .inl (szf)))] := hD
  obtain ⟨rfl, hq167⟩ := hw
  refine lv_if_eq (tgt := 22) hx hb dX7_countRows_15 (by decide) (fun _ => ?_) (fun hc => absurd hc (by decide))
  refine lv_iconst (v := 0) hx hb dX7_countRows_22 (by decide) ?_
  refine lv_iadd hx hb dX7_countRows_23 ?_
  refine lv_topi (fun z168 ez168 => ?_)
  obtain rfl : z168 = 0 := ez168.trans (by decide)
  refine lv_istore_n (lv' := [(1, .int 0), (2, .int 0), (0, .ref a)]) hx hb dX7_countRows_24 rfl hl (by decide) rfl (fun ls hl => ?_)
  refine lv_iinc (v := 1) (lv' := [(2, .int 1), (1, .int 0), (0, .ref a)]) hx hb dX7_countRows_25 hl (k := 1) rfl (by decide) (by decide) rfl (fun ls hl => ?_)
  refine lv_goto (tgt := 4) hx hb dX7_countRows_28 (by decide) ?_
  refine lv_iload_n hx hb dX7_countRows_4 rfl (lv_at hl 0 rfl) ?_
  refine lv_iconst (v := 4) hx hb dX7_countRows_5 (by decide) ?_
  refine lv_icmp_ge (tgt := 31) hx hb dX7_countRows_6 (by decide) (fun hc => absurd hc (by decide)) (fun _ => ?_)
  refine lv_iload_n hx hb dX7_countRows_9 rfl (lv_at hl 1 rfl) ?_
  refine lv_aload_n hx hb dX7_countRows_10 rfl (lv_at hl 2 rfl) ?_
  refine lv_iload_n hx hb dX7_countRows_11 rfl (lv_at hl 0 rfl) ?_
  refine ct_calli (D := D) (wc := (w_c_X7_has cI cJ cB cZ cO a b0 b1 b2)) (wr := []) (va_runV (As := [.int 1]) (rest := [.int 0]) ⟨hx, hb, hml, hown, hts⟩ (c_X7_has l D cI cJ cB cZ cO a b0 b1 b2 1 (by decide) H.size) (cwV 1 hts gX7_countRows_X7_has rfl rfl rfl (by decide +kernel) ⟨Nat.le_of_ble_eq_true rfl, Nat.le_of_ble_eq_true rfl⟩) (ct_preV (T := ct_T cI cJ cB cZ cO) (ci := 7) (q0 := 0) hE hP hD [0, 1] (by decide) rfl rfl rfl) rfl rfl hl.1 rfl (lv_room (Nat.le_of_ble_eq_true rfl)) dX7_countRows_12 ⟨Nat.le_of_ble_eq_true rfl, Nat.le_of_ble_eq_true rfl⟩) hP hD hS hA [0, 1] [] rfl rfl (by decide) (by decide) (fun rz u H locs hw hP hD hS => ?_)
  have hP : va_P D vwCl [(a, .inr (7, [.ref b0, .ref b1, .ref b2])), (b1, .inl (cI, 4, .inl (szf)))] H := hP
  have hD : va_D A [(a, .inr (7, [.ref b0, .ref b1, .ref b2])), (b1, .inl (cI, 4, .inl (szf)))] := hD
  obtain ⟨rfl, hq169⟩ := hw
  refine lv_if_eq (tgt := 22) hx hb dX7_countRows_15 (by decide) (fun _ => ?_) (fun hc => absurd hc (by decide))
  refine lv_iconst (v := 0) hx hb dX7_countRows_22 (by decide) ?_
  refine lv_iadd hx hb dX7_countRows_23 ?_
  refine lv_topi (fun z170 ez170 => ?_)
  obtain rfl : z170 = 0 := ez170.trans (by decide)
  refine lv_istore_n (lv' := [(1, .int 0), (2, .int 1), (0, .ref a)]) hx hb dX7_countRows_24 rfl hl (by decide) rfl (fun ls hl => ?_)
  refine lv_iinc (v := 2) (lv' := [(2, .int 2), (1, .int 0), (0, .ref a)]) hx hb dX7_countRows_25 hl (k := 1) rfl (by decide) (by decide) rfl (fun ls hl => ?_)
  refine lv_goto (tgt := 4) hx hb dX7_countRows_28 (by decide) ?_
  refine lv_iload_n hx hb dX7_countRows_4 rfl (lv_at hl 0 rfl) ?_
  refine lv_iconst (v := 4) hx hb dX7_countRows_5 (by decide) ?_
  refine lv_icmp_ge (tgt := 31) hx hb dX7_countRows_6 (by decide) (fun hc => absurd hc (by decide)) (fun _ => ?_)
  refine lv_iload_n hx hb dX7_countRows_9 rfl (lv_at hl 1 rfl) ?_
  refine lv_aload_n hx hb dX7_countRows_10 rfl (lv_at hl 2 rfl) ?_
  refine lv_iload_n hx hb dX7_countRows_11 rfl (lv_at hl 0 rfl) ?_
  refine ct_calli (D := D) (wc := (w_c_X7_has cI cJ cB cZ cO a b0 b1 b2)) (wr := []) (va_runV (As := [.int 2]) (rest := [.int 0]) ⟨hx, hb, hml, hown, hts⟩ (c_X7_has l D cI cJ cB cZ cO a b0 b1 b2 2 (by decide) H.size) (cwV 1 hts gX7_countRows_X7_has rfl rfl rfl (by decide +kernel) ⟨Nat.le_of_ble_eq_true rfl, Nat.le_of_ble_eq_true rfl⟩) (ct_preV (T := ct_T cI cJ cB cZ cO) (ci := 7) (q0 := 0) hE hP hD [0, 1] (by decide) rfl rfl rfl) rfl rfl hl.1 rfl (lv_room (Nat.le_of_ble_eq_true rfl)) dX7_countRows_12 ⟨Nat.le_of_ble_eq_true rfl, Nat.le_of_ble_eq_true rfl⟩) hP hD hS hA [0, 1] [] rfl rfl (by decide) (by decide) (fun rz u H locs hw hP hD hS => ?_)
  have hP : va_P D vwCl [(a, .inr (7, [.ref b0, .ref b1, .ref b2])), (b1, .inl (cI, 4, .inl (szf)))] H := hP
  have hD : va_D A [(a, .inr (7, [.ref b0, .ref b1, .ref b2])), (b1, .inl (cI, 4, .inl (szf)))] := hD
  obtain ⟨rfl, hq171⟩ := hw
  refine lv_if_eq (tgt := 22) hx hb dX7_countRows_15 (by decide) (fun _ => ?_) (fun hc => absurd hc (by decide))
  refine lv_iconst (v := 0) hx hb dX7_countRows_22 (by decide) ?_
  refine lv_iadd hx hb dX7_countRows_23 ?_
  refine lv_topi (fun z172 ez172 => ?_)
  obtain rfl : z172 = 0 := ez172.trans (by decide)
  refine lv_istore_n (lv' := [(1, .int 0), (2, .int 2), (0, .ref a)]) hx hb dX7_countRows_24 rfl hl (by decide) rfl (fun ls hl => ?_)
  refine lv_iinc (v := 3) (lv' := [(2, .int 3), (1, .int 0), (0, .ref a)]) hx hb dX7_countRows_25 hl (k := 1) rfl (by decide) (by decide) rfl (fun ls hl => ?_)
  refine lv_goto (tgt := 4) hx hb dX7_countRows_28 (by decide) ?_
  refine lv_iload_n hx hb dX7_countRows_4 rfl (lv_at hl 0 rfl) ?_
  refine lv_iconst (v := 4) hx hb dX7_countRows_5 (by decide) ?_
  refine lv_icmp_ge (tgt := 31) hx hb dX7_countRows_6 (by decide) (fun hc => absurd hc (by decide)) (fun _ => ?_)
  refine lv_iload_n hx hb dX7_countRows_9 rfl (lv_at hl 1 rfl) ?_
  refine lv_aload_n hx hb dX7_countRows_10 rfl (lv_at hl 2 rfl) ?_
  refine lv_iload_n hx hb dX7_countRows_11 rfl (lv_at hl 0 rfl) ?_
  refine ct_calli (D := D) (wc := (w_c_X7_has cI cJ cB cZ cO a b0 b1 b2)) (wr := []) (va_runV (As := [.int 3]) (rest := [.int 0]) ⟨hx, hb, hml, hown, hts⟩ (c_X7_has l D cI cJ cB cZ cO a b0 b1 b2 3 (by decide) H.size) (cwV 1 hts gX7_countRows_X7_has rfl rfl rfl (by decide +kernel) ⟨Nat.le_of_ble_eq_true rfl, Nat.le_of_ble_eq_true rfl⟩) (ct_preV (T := ct_T cI cJ cB cZ cO) (ci := 7) (q0 := 0) hE hP hD [0, 1] (by decide) rfl rfl rfl) rfl rfl hl.1 rfl (lv_room (Nat.le_of_ble_eq_true rfl)) dX7_countRows_12 ⟨Nat.le_of_ble_eq_true rfl, Nat.le_of_ble_eq_true rfl⟩) hP hD hS hA [0, 1] [] rfl rfl (by decide) (by decide) (fun rz u H locs hw hP hD hS => ?_)
  have hP : va_P D vwCl [(a, .inr (7, [.ref b0, .ref b1, .ref b2])), (b1, .inl (cI, 4, .inl (szf)))] H := hP
  have hD : va_D A [(a, .inr (7, [.ref b0, .ref b1, .ref b2])), (b1, .inl (cI, 4, .inl (szf)))] := hD
  obtain ⟨rfl, hq173⟩ := hw
  refine lv_if_eq (tgt := 22) hx hb dX7_countRows_15 (by decide) (fun _ => ?_) (fun hc => absurd hc (by decide))
  refine lv_iconst (v := 0) hx hb dX7_countRows_22 (by decide) ?_
  refine lv_iadd hx hb dX7_countRows_23 ?_
  refine lv_topi (fun z174 ez174 => ?_)
  obtain rfl : z174 = 0 := ez174.trans (by decide)
  refine lv_istore_n (lv' := [(1, .int 0), (2, .int 3), (0, .ref a)]) hx hb dX7_countRows_24 rfl hl (by decide) rfl (fun ls hl => ?_)
  refine lv_iinc (v := 4) (lv' := [(2, .int 4), (1, .int 0), (0, .ref a)]) hx hb dX7_countRows_25 hl (k := 1) rfl (by decide) (by decide) rfl (fun ls hl => ?_)
  refine lv_goto (tgt := 4) hx hb dX7_countRows_28 (by decide) ?_
  refine lv_iload_n hx hb dX7_countRows_4 rfl (lv_at hl 0 rfl) ?_
  refine lv_iconst (v := 4) hx hb dX7_countRows_5 (by decide) ?_
  refine lv_icmp_ge (tgt := 31) hx hb dX7_countRows_6 (by decide) (fun _ => ?_) (fun hc => absurd hc (by decide))
  refine lv_iload_n hx hb dX7_countRows_31 rfl (lv_at hl 1 rfl) ?_
  have hP9 := hP.sub (ws' := [(a, .inr (7, [.ref b0, .ref b1, .ref b2])), (b1, .inl (cI, 4, .inl (szf)))]) [0, 1] rfl
  have hD9 := hD.sub (ws' := [(a, .inr (7, [.ref b0, .ref b1, .ref b2])), (b1, .inl (cI, 4, .inl (szf)))]) [0, 1] (by decide) rfl
  exact W.iret (v := 0) hx hb hr (fun t ht hW => ⟨⟨0, (), rfl, ⟨rfl, trivial⟩, by rw [ht]; exact hP9, hD9⟩, hS.F ht⟩) hS.2.2 dX7_countRows_32
abbrev w_c_X11_back (cI cJ cB cZ cO : ClassId) (h : Nat) (r : Nat → Nat) : va_W := [oo h r (r 2) (r 3), ((r 5), .inl (cI, 3, .inl (fun _ => 0)))]
set_option maxHeartbeats 4000000 in
set_option maxRecDepth 100000 in
/-- back, on a new object -/
theorem c_X11_back (l : Launch) (D : va_G) (cI cJ cB cZ cO : ClassId) (h : Nat) (r : Nat → Nat) (x1 : Int32) (sz : Nat) : Met l yX11_back wsX11_back ({ frames := 1, cells := 0, slots := 0, locals := 21 }) (va_Pc [.ref h, .int x1] (ct_P D (ct_T cI cJ cB cZ cO) (w_c_X11_back cI cJ cB cZ cO h r) sz)) (va_Qi (fun (rz : Int32) (u : Unit) => (rz = (-6) ∧ (0 ≤ x1.toInt ∧ x1.toInt < 3)) ∨ (rz = (-2) ∧ ¬ (0 ≤ x1.toInt ∧ x1.toInt < 3))) (fun (u : Unit) t => ct_Q D (va_A (w_c_X11_back cI cJ cB cZ cO h r) sz) [] t) (va_A (w_c_X11_back cI cJ cB cZ cO h r) sz)) 0 0 (va_A (w_c_X11_back cI cJ cB cZ cO h r) sz) := by
  refine Met.ofW (cc := cX11_back) (maxL := 2) (ret := (some .int)) (by decide) rfl ?_
  intro p e s m args below meth c s₁ B hml hv
  obtain ⟨rfl, hsz, hP, hE, hD0⟩ := hv
  have hx := B.exec
  have hb := B.bytes
  have hr := B.returns
  have hts := atoms_spec (ws := wsX11_back) B.pre
  have hown : s.vm.findClass RX11 = some m.cls := findClass_of_methodNamed B.named
  have hlocks := B.notSynchronized
  have hK := hE.1
  have hi11 : ∀ w ∈ u_ws RX11 TX11 16, w ∈ wsX11_back := fun w h => List.mem_cons_of_mem _ (List.mem_append_left _ (List.mem_append_right _ h))
  subst hsz
  have hD := hD0.self (sz := s.heap.size)
  generalize hAe : va_A (w_c_X11_back cI cJ cB cZ cO h r) s.heap.size = A at hD ⊢
  have hA : ∀ q : Nat, s.heap.size ≤ q → A q := fun q h => by rw [← hAe]; exact Or.inr h
  have hS : va_S A s.heap s.heap [] := va_S.rf
  have hP : va_P D vwCl [oo h r (r 2) (r 3), ((r 5), .inl (cI, 3, .inl (fun _ => 0)))] s.heap := hP
  have hD : va_D A [oo h r (r 2) (r 3), ((r 5), .inl (cI, 3, .inl (fun _ => 0)))] := hD
  have hl := lv_entry ([.ref h, .int x1]) (n := 2) (Nat.le_of_ble_eq_true rfl)
  rw [lg_entry_eq]
  generalize (lg_sl ([.ref h, .int x1]) ++ List.replicate (2 - (lg_sl ([.ref h, .int x1])).length) Slot.unset).toArray = ls at hl ⊢
  have hl : lv_has ls 2 [(0, .ref h), (1, .int x1)] := hl
  obtain ⟨H, hHe⟩ : ∃ H : Heap, H = s.heap := ⟨_, rfl⟩
  rw [← hHe] at hP
  have hS : va_S A s.heap H [] := by rw [hHe]; exact va_S.rf
  refine ct_start hHe ?_
  refine lv_iload_n hx hb dX11_back_0 rfl (lv_at hl 1 rfl) ?_
  refine lv_iconst (v := 3) hx hb dX11_back_1 (by decide) ?_
  refine ct_calli (D := D) (wc := (w_c_X11_isWithin cI cJ cB cZ cO )) (wr := [oo h r (r 2) (r 3), ((r 5), .inl (cI, 3, .inl (fun _ => 0)))]) (va_runS (As := [.int x1, .int 3]) (rest := []) ⟨hx, hb, hml, hown, hts⟩ (c_X11_isWithin l D cI cJ cB cZ cO x1 3 3 (by decide) H.size) (va_cwS 2 hts gX11_back_X11_isWithin rfl rfl rfl (by decide +kernel) ⟨Nat.le_of_ble_eq_true rfl, Nat.le_of_ble_eq_true rfl⟩) (ct_preS (T := ct_T cI cJ cB cZ cO) hE hP hD [] (by decide) rfl) rfl rfl hl.1 rfl (lv_room (Nat.le_of_ble_eq_true rfl)) dX11_back_2 ⟨Nat.le_of_ble_eq_true rfl, Nat.le_of_ble_eq_true rfl⟩) hP hD hS hA [] [0, 1] rfl rfl (by decide) (by decide) (fun rz u H locs hw hP hD hS => ?_)
  have hP : va_P D vwCl [oo h r (r 2) (r 3), ((r 5), .inl (cI, 3, .inl (fun _ => 0)))] H := hP
  have hD : va_D A [oo h r (r 2) (r 3), ((r 5), .inl (cI, 3, .inl (fun _ => 0)))] := hD
  rcases hw with ⟨rfl, hq175⟩ | ⟨rfl, hq175⟩
  · refine lv_if_ne (tgt := 11) hx hb dX11_back_5 (by decide) (fun _ => ?_) (fun hc => absurd hc (by decide))
    refine lv_aload_n hx hb dX11_back_11 rfl (lv_at hl 0 rfl) ?_
    refine va_get (D := D) (ci := 11) (v := .ref (r 5)) (C := RX11) (T := TX11) (N := 16) hx hb hts hi11 hown hK hP 0 rfl rfl 5 (by decide) (hts (.fieldLink RX11 35 "OverHill" "kept" "[I") (by decide +kernel)) (fun _ h9 => h9) rfl dX11_back_12 ?_
    refine lv_iload_n hx hb dX11_back_15 rfl (lv_at hl 1 rfl) ?_
    refine va_iald (D := D) hx hb hK hP 1 0 rfl rfl (tq_in rfl (by omega)) dX11_back_16 ?_
    refine lv_topi (fun z176 ez176 => ?_)
    obtain rfl : z176 = 0 := ez176
    refine lv_if_ne (tgt := 23) hx hb dX11_back_17 (by decide) (fun hc => absurd hc (by decide)) (fun _ => ?_)
    refine lv_bipush (v := (-6)) hx hb dX11_back_20 (by decide) ?_
    have hP9 := hP.sub (ws' := []) [] rfl
    have hD9 := hD.sub (ws' := []) [] (by decide) rfl
    exact W.iret (v := (-6)) hx hb hr (fun t ht hW => ⟨⟨(-6), (), rfl, (Or.inl ⟨rfl, by omega⟩), by rw [ht]; exact hP9, hD9⟩, hS.F ht⟩) hS.2.2 dX11_back_22
  · refine lv_if_ne (tgt := 11) hx hb dX11_back_5 (by decide) (fun hc => absurd hc (by decide)) (fun _ => ?_)
    refine lv_bipush (v := (-2)) hx hb dX11_back_8 (by decide) ?_
    have hP9 := hP.sub (ws' := []) [] rfl
    have hD9 := hD.sub (ws' := []) [] (by decide) rfl
    exact W.iret (v := (-2)) hx hb hr (fun t ht hW => ⟨⟨(-2), (), rfl, (Or.inr (⟨rfl, by omega⟩)), by rw [ht]; exact hP9, hD9⟩, hS.F ht⟩) hS.2.2 dX11_back_10
