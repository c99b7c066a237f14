abbrev w_c_X3_begin (cI cJ cB cZ cO : ClassId) (qe : Nat) (ve_gap : Int32) (ve_length : Int32) (qe_round : Nat) (fe_round : Nat → Int32) (ve_impossible : Int32) (ve_firstUnlike : Int32) (qe_lastUnlike : Nat) (fe_lastUnlike : Nat → Int32) (qe_places : Nat) (fe_places : Nat → Int32) (qe_stepsIn : Nat) (fe_stepsIn : Nat → Int32) (qe_passed : Nat) (qe_classes : Nat) (ve_bestBeat : Int32) (ve_bestLeft : Int32) (qd : Nat) (vd_gap : Int32) (vd_odds : Int32) (vd_rain : Int32) (vd_lines : Int32) (qd_steps : Nat) (fd_steps : Nat → Int32) (qd_lengths : Nat) (fd_lengths : Nat → Int32) (qd_starts : Nat) (fd_starts : Nat → Int32) (qd_met : Nat) (qd_stumbles : Nat) (vd_stumbleCount : Int32) (qd_muds : Nat) (fd_muds : Nat → Int32) (qd_cells : Nat) (vd_cellCount : Int32) (qd_tunes : Nat) (vd_tuneCount : Int32) (qd_changes : Nat) (vd_changeCount : Int32) : va_W := [gu qe ve_gap ve_length qe_round ve_impossible ve_firstUnlike qe_lastUnlike qe_places qe_stepsIn qe_passed qe_classes ve_bestBeat ve_bestLeft, (qe_round, .inl (cI, 12, .inl (fe_round))), (qe_lastUnlike, .inl (cI, 10, .inl (fe_lastUnlike))), (qe_places, .inl (cI, 200, .inl (fe_places))), (qe_stepsIn, .inl (cI, 60, .inl (fe_stepsIn))), dn qd vd_gap vd_odds vd_rain vd_lines qd_steps qd_lengths qd_starts qd_met qd_stumbles vd_stumbleCount qd_muds qd_cells vd_cellCount qd_tunes vd_tuneCount qd_changes vd_changeCount, (qd_steps, .inl (cI, 24, .inl (fd_steps))), (qd_lengths, .inl (cI, 2, .inl (fd_lengths))), (qd_starts, .inl (cI, 2, .inl (fd_starts))), (qd_muds, .inl (cI, 200, .inl (fd_muds)))]
set_option maxHeartbeats 4000000 in
set_option maxRecDepth 100000 in
/-- X3 begin -/
theorem c_X3_begin (l : Launch) (D : va_G) (G : ct_G) (cI cJ cB cZ cO : ClassId) (qe : Nat) (ve_gap : Int32) (ve_length : Int32) (qe_round : Nat) (fe_round : Nat → Int32) (ve_impossible : Int32) (ve_firstUnlike : Int32) (qe_lastUnlike : Nat) (fe_lastUnlike : Nat → Int32) (qe_places : Nat) (fe_places : Nat → Int32) (qe_stepsIn : Nat) (fe_stepsIn : Nat → Int32) (qe_passed : Nat) (qe_classes : Nat) (ve_bestBeat : Int32) (ve_bestLeft : Int32) (qd : Nat) (vd_gap : Int32) (vd_odds : Int32) (vd_rain : Int32) (vd_lines : Int32) (qd_steps : Nat) (fd_steps : Nat → Int32) (qd_lengths : Nat) (fd_lengths : Nat → Int32) (qd_starts : Nat) (fd_starts : Nat → Int32) (qd_met : Nat) (qd_stumbles : Nat) (vd_stumbleCount : Int32) (qd_muds : Nat) (fd_muds : Nat → Int32) (qd_cells : Nat) (vd_cellCount : Int32) (qd_tunes : Nat) (vd_tuneCount : Int32) (qd_changes : Nat) (vd_changeCount : Int32) (a2 : Int32) (h_ve_gap : 0 ≤ ve_gap.toInt ∧ ve_gap.toInt ≤ 20) (h_ve_length : 0 ≤ ve_length.toInt ∧ ve_length.toInt ≤ 12) (h_fe_round : ar_ok [0] [5] fe_round) (h_vd_gap : 0 ≤ vd_gap.toInt ∧ vd_gap.toInt ≤ 20) (h_fd_steps : ar_ok [0] [5] fd_steps) (h_fd_lengths : ar_ok [0] [12] fd_lengths) (h_fd_starts : ar_ok [0] [11] fd_starts) (h_vd_stumbleCount : 0 ≤ vd_stumbleCount.toInt ∧ vd_stumbleCount.toInt ≤ 8) (h_vd_cellCount : 0 ≤ vd_cellCount.toInt ∧ vd_cellCount.toInt ≤ 12) (h_vd_tuneCount : 0 ≤ vd_tuneCount.toInt ∧ vd_tuneCount.toInt ≤ 5) (h_vd_changeCount : 0 ≤ vd_changeCount.toInt ∧ vd_changeCount.toInt ≤ 40) (h_a2 : 0 ≤ a2.toInt ∧ a2.toInt ≤ 1) (sz : Nat) : Met l yX3_begin wsX3_begin ({ frames := 2, cells := 0, slots := 0, locals := 60 }) (va_Pc [.ref qe, .ref qd, .int a2] (ct_P D (ct_T cI cJ cB cZ cO) G (w_c_X3_begin cI cJ cB cZ cO qe ve_gap ve_length qe_round fe_round ve_impossible ve_firstUnlike qe_lastUnlike fe_lastUnlike qe_places fe_places qe_stepsIn fe_stepsIn qe_passed qe_classes ve_bestBeat ve_bestLeft qd vd_gap vd_odds vd_rain vd_lines qd_steps fd_steps qd_lengths fd_lengths qd_starts fd_starts qd_met qd_stumbles vd_stumbleCount qd_muds fd_muds qd_cells vd_cellCount qd_tunes vd_tuneCount qd_changes vd_changeCount) sz)) (va_Qv (fun (u : Int32 × Int32 × Int32 × Int32 × (Nat → Int32) × (Nat → Int32) × (Nat → Int32) × (Nat → Int32)) => (0 ≤ u.1.toInt ∧ u.1.toInt ≤ 20) ∧ (0 ≤ u.2.1.toInt ∧ u.2.1.toInt ≤ 12) ∧ (ar_ok [0] [5] u.2.2.2.2.1)) (fun (u : Int32 × Int32 × Int32 × Int32 × (Nat → Int32) × (Nat → Int32) × (Nat → Int32) × (Nat → Int32)) t => ct_Q D (va_A (w_c_X3_begin cI cJ cB cZ cO qe ve_gap ve_length qe_round fe_round ve_impossible ve_firstUnlike qe_lastUnlike fe_lastUnlike qe_places fe_places qe_stepsIn fe_stepsIn qe_passed qe_classes ve_bestBeat ve_bestLeft qd vd_gap vd_odds vd_rain vd_lines qd_steps fd_steps qd_lengths fd_lengths qd_starts fd_starts qd_met qd_stumbles vd_stumbleCount qd_muds fd_muds qd_cells vd_cellCount qd_tunes vd_tuneCount qd_changes vd_changeCount) sz) [gu qe u.1 u.2.1 qe_round u.2.2.1 u.2.2.2.1 qe_lastUnlike qe_places qe_stepsIn qe_passed qe_classes ve_bestBeat ve_bestLeft, (qe_round, .inl (cI, 12, .inl (u.2.2.2.2.1))), (qe_lastUnlike, .inl (cI, 10, .inl (u.2.2.2.2.2.1))), (qe_places, .inl (cI, 200, .inl (u.2.2.2.2.2.2.1))), (qe_stepsIn, .inl (cI, 60, .inl (u.2.2.2.2.2.2.2))), dn qd vd_gap vd_odds vd_rain vd_lines qd_steps qd_lengths qd_starts qd_met qd_stumbles vd_stumbleCount qd_muds qd_cells vd_cellCount qd_tunes vd_tuneCount qd_changes vd_changeCount, (qd_steps, .inl (cI, 24, .inl (fd_steps))), (qd_lengths, .inl (cI, 2, .inl (fd_lengths))), (qd_starts, .inl (cI, 2, .inl (fd_starts))), (qd_muds, .inl (cI, 200, .inl (fd_muds)))] t) (va_A (w_c_X3_begin cI cJ cB cZ cO qe ve_gap ve_length qe_round fe_round ve_impossible ve_firstUnlike qe_lastUnlike fe_lastUnlike qe_places fe_places qe_stepsIn fe_stepsIn qe_passed qe_classes ve_bestBeat ve_bestLeft qd vd_gap vd_odds vd_rain vd_lines qd_steps fd_steps qd_lengths fd_lengths qd_starts fd_starts qd_met qd_stumbles vd_stumbleCount qd_muds fd_muds qd_cells vd_cellCount qd_tunes vd_tuneCount qd_changes vd_changeCount) sz)) 0 0 (va_A (w_c_X3_begin cI cJ cB cZ cO qe ve_gap ve_length qe_round fe_round ve_impossible ve_firstUnlike qe_lastUnlike fe_lastUnlike qe_places fe_places qe_stepsIn fe_stepsIn qe_passed qe_classes ve_bestBeat ve_bestLeft qd vd_gap vd_odds vd_rain vd_lines qd_steps fd_steps qd_lengths fd_lengths qd_starts fd_starts qd_met qd_stumbles vd_stumbleCount qd_muds fd_muds qd_cells vd_cellCount qd_tunes vd_tuneCount qd_changes vd_changeCount) sz) := by
  refine Met.ofW (cc := cX3_begin) (maxL := 6) (ret := none) (by decide) rfl ?_
  intro p e s m args below meth c s₁ B hml hv
  obtain ⟨rfl, hsz, hP, hE, hD0, hH⟩ := hv
  have hx := B.exec
  have hb := B.bytes
  have hr := B.returns
  have hts := atoms_spec (ws := wsX3_begin) B.pre
  have hown : s.vm.findClass RX3 = some m.cls := findClass_of_methodNamed B.named
  have hlocks := B.notSynchronized
  have hK := hE.1
  have hi0 : ∀ w ∈ u_ws RX0 TX0 17, w ∈ wsX3_begin := fun w h => List.mem_cons_of_mem _ (List.mem_append_left _ (List.mem_append_right _ h))
  have hi3 : ∀ w ∈ u_ws RX3 TX3 12, w ∈ wsX3_begin := fun w h => List.mem_cons_of_mem _ (List.mem_append_right _ h)
  subst hsz
  have hD := hD0.self (sz := s.heap.size)
  generalize hAe : va_A (w_c_X3_begin cI cJ cB cZ cO qe ve_gap ve_length qe_round fe_round ve_impossible ve_firstUnlike qe_lastUnlike fe_lastUnlike qe_places fe_places qe_stepsIn fe_stepsIn qe_passed qe_classes ve_bestBeat ve_bestLeft qd vd_gap vd_odds vd_rain vd_lines qd_steps fd_steps qd_lengths fd_lengths qd_starts fd_starts qd_met qd_stumbles vd_stumbleCount qd_muds fd_muds qd_cells vd_cellCount qd_tunes vd_tuneCount qd_changes vd_changeCount) s.heap.size = A at hD hH ⊢
  have hA : ∀ q : Nat, s.heap.size ≤ q → A q := fun q h => by rw [← hAe]; exact Or.inr h
  have hS : va_S A s.heap s.heap [] := va_S.rf
  obtain ⟨hP, hD⟩ : ct_B D A s.heap [gu qe ve_gap ve_length qe_round ve_impossible ve_firstUnlike qe_lastUnlike qe_places qe_stepsIn qe_passed qe_classes ve_bestBeat ve_bestLeft, (qe_round, .inl (cI, 12, .inl (fe_round))), (qe_lastUnlike, .inl (cI, 10, .inl (fe_lastUnlike))), (qe_places, .inl (cI, 200, .inl (fe_places))), (qe_stepsIn, .inl (cI, 60, .inl (fe_stepsIn))), dn qd vd_gap vd_odds vd_rain vd_lines qd_steps qd_lengths qd_starts qd_met qd_stumbles vd_stumbleCount qd_muds qd_cells vd_cellCount qd_tunes vd_tuneCount qd_changes vd_changeCount, (qd_steps, .inl (cI, 24, .inl (fd_steps))), (qd_lengths, .inl (cI, 2, .inl (fd_lengths))), (qd_starts, .inl (cI, 2, .inl (fd_starts))), (qd_muds, .inl (cI, 200, .inl (fd_muds)))] := ⟨hP, hD⟩
  have hl := lv_entry ([.ref qe, .ref qd, .int a2]) (n := 6) (Nat.le_of_ble_eq_true rfl)
  rw [lg_entry_eq]
  generalize (lg_sl ([.ref qe, .ref qd, .int a2]) ++ List.replicate (6 - (lg_sl ([.ref qe, .ref qd, .int a2])).length) Slot.unset).toArray = ls at hl ⊢
  have hl : lv_has ls 6 [(0, .ref qe), (1, .ref qd), (2, .int a2)] := hl
  obtain ⟨H, hHe⟩ : ∃ H : Heap, H = s.heap := ⟨_, rfl⟩
  rw [← hHe] at hP
  have hS : va_S A s.heap H [] := by rw [hHe]; exact va_S.rf
  refine ct_start hHe ?_
  refine lv_aload_n hx hb dX3_begin_0 rfl (lv_at hl 0 rfl) ?_
  refine lv_aload_n hx hb dX3_begin_1 rfl (lv_at hl 1 rfl) ?_
  refine va_get (D := D) (ci := 0) (v := .int vd_gap) (C := RX0) (T := TX0) (N := 17) hx hb hts hi0 hown hK hP 5 rfl rfl 0 (by decide) (hts (.fieldLink RX3 30 "OverHill$Dance" "gap" "I") (by decide +kernel)) (fun _ h9 => h9) rfl dX3_begin_2 ?_
  refine va_put (D := D) (ci := 3) (v := .int vd_gap) (ty := .int) (C := RX3) (T := TX3) (N := 12) hx hb hts hi3 tyX3 tyX3_ok nmX3 hown hK hP hD hS 0 rfl rfl 0 (by decide) (hts (.fieldLink RX3 36 "OverHill$Guess" "gap" "I") (by decide +kernel)) (fun _ h9 => h9) rfl (by decide +kernel) rfl rfl (Nat.le_of_ble_eq_true rfl) dX3_begin_5 (fun H locs hP hD hS => ?_)
  obtain ⟨hP, hD⟩ : ct_B D A H [gu qe vd_gap ve_length qe_round ve_impossible ve_firstUnlike qe_lastUnlike qe_places qe_stepsIn qe_passed qe_classes ve_bestBeat ve_bestLeft, (qe_round, .inl (cI, 12, .inl (fe_round))), (qe_lastUnlike, .inl (cI, 10, .inl (fe_lastUnlike))), (qe_places, .inl (cI, 200, .inl (fe_places))), (qe_stepsIn, .inl (cI, 60, .inl (fe_stepsIn))), dn qd vd_gap vd_odds vd_rain vd_lines qd_steps qd_lengths qd_starts qd_met qd_stumbles vd_stumbleCount qd_muds qd_cells vd_cellCount qd_tunes vd_tuneCount qd_changes vd_changeCount, (qd_steps, .inl (cI, 24, .inl (fd_steps))), (qd_lengths, .inl (cI, 2, .inl (fd_lengths))), (qd_starts, .inl (cI, 2, .inl (fd_starts))), (qd_muds, .inl (cI, 200, .inl (fd_muds)))] := ⟨hP, hD⟩
  refine lv_aload_n hx hb dX3_begin_8 rfl (lv_at hl 0 rfl) ?_
  refine lv_aload_n hx hb dX3_begin_9 rfl (lv_at hl 1 rfl) ?_
  refine va_get (D := D) (ci := 0) (v := .ref qd_lengths) (C := RX0) (T := TX0) (N := 17) hx hb hts hi0 hown hK hP 5 rfl rfl 5 (by decide) (hts (.fieldLink RX3 37 "OverHill$Dance" "lengths" "[I") (by decide +kernel)) (fun _ h9 => h9) rfl dX3_begin_10 ?_
  refine lv_iload_n hx hb dX3_begin_13 rfl (lv_at hl 2 rfl) ?_
  refine va_iald (D := D) hx hb hK hP 7 0 rfl rfl (tq_in rfl (by omega)) dX3_begin_14 ?_
  refine lv_topi (fun z1 ez1 => ?_)
  have fz1 : 0 ≤ z1.toInt ∧ z1.toInt ≤ 12 := by rw [ez1]; exact ar_get h_fd_lengths a2 0 (by omega) (show a2.toInt % 1 = 0 by omega) rfl
  refine va_put (D := D) (ci := 3) (v := .int z1) (ty := .int) (C := RX3) (T := TX3) (N := 12) hx hb hts hi3 tyX3 tyX3_ok nmX3 hown hK hP hD hS 0 rfl rfl 1 (by decide) (hts (.fieldLink RX3 40 "OverHill$Guess" "length" "I") (by decide +kernel)) (fun _ h9 => h9) rfl (by decide +kernel) rfl rfl (Nat.le_of_ble_eq_true rfl) dX3_begin_15 (fun H locs hP hD hS => ?_)
  obtain ⟨hP, hD⟩ : ct_B D A H [gu qe vd_gap z1 qe_round ve_impossible ve_firstUnlike qe_lastUnlike qe_places qe_stepsIn qe_passed qe_classes ve_bestBeat ve_bestLeft, (qe_round, .inl (cI, 12, .inl (fe_round))), (qe_lastUnlike, .inl (cI, 10, .inl (fe_lastUnlike))), (qe_places, .inl (cI, 200, .inl (fe_places))), (qe_stepsIn, .inl (cI, 60, .inl (fe_stepsIn))), dn qd vd_gap vd_odds vd_rain vd_lines qd_steps qd_lengths qd_starts qd_met qd_stumbles vd_stumbleCount qd_muds qd_cells vd_cellCount qd_tunes vd_tuneCount qd_changes vd_changeCount, (qd_steps, .inl (cI, 24, .inl (fd_steps))), (qd_lengths, .inl (cI, 2, .inl (fd_lengths))), (qd_starts, .inl (cI, 2, .inl (fd_starts))), (qd_muds, .inl (cI, 200, .inl (fd_muds)))] := ⟨hP, hD⟩
  refine lv_aload_n hx hb dX3_begin_18 rfl (lv_at hl 1 rfl) ?_
  refine va_get (D := D) (ci := 0) (v := .ref qd_steps) (C := RX0) (T := TX0) (N := 17) hx hb hts hi0 hown hK hP 5 rfl rfl 4 (by decide) (hts (.fieldLink RX3 43 "OverHill$Dance" "steps" "[I") (by decide +kernel)) (fun _ h9 => h9) rfl dX3_begin_19 ?_
  refine lv_iload_n hx hb dX3_begin_22 rfl (lv_at hl 2 rfl) ?_
  refine lv_bipush (v := 12) hx hb dX3_begin_23 (by decide) ?_
  refine lv_imul hx hb dX3_begin_25 ?_
  refine lv_topi (fun z2 ez2 => ?_)
  have fz2 : z2.toInt = a2.toInt * 12 := by rw [ez2]; exact tq_mul rfl (by decide) (by omega)
  refine lv_aload_n hx hb dX3_begin_26 rfl (lv_at hl 0 rfl) ?_
  refine va_get (D := D) (ci := 3) (v := .ref qe_round) (C := RX3) (T := TX3) (N := 12) hx hb hts hi3 hown hK hP 0 rfl rfl 2 (by decide) (hts (.fieldLink RX3 9 "OverHill$Guess" "round" "[I") (by decide +kernel)) (fun _ h9 => h9) rfl dX3_begin_27 ?_
  refine lv_iconst (v := 0) hx hb dX3_begin_30 (by decide) ?_
  refine lv_bipush (v := 12) hx hb dX3_begin_31 (by decide) ?_
  refine va_copyi (D := D) (ty := .int) hx hb (hml.trans hl.1.symm) hown (hts (.methodLink RX3 46 arraycopyName) (by decide +kernel)) (hts (.native arraycopyName) (by decide +kernel)) (hts (.static arraycopyName) (by decide +kernel)) (hts (.initialized "java/lang/System") (by decide +kernel)) hK hP hD hS 6 1 0 0 rfl rfl rfl rfl rfl (tq_nn (by omega)) (by decide) (by decide) (tq_fit (a := z2.toInt) (b := 12) rfl (by decide) (by omega) (by omega) (by omega)) (Nat.le_of_ble_eq_true rfl) (fun _ _ => rfl) (Nat.le_of_ble_eq_true rfl) (Nat.le_of_ble_eq_true rfl) dX3_begin_33 (fun H locs hP hD hS => ?_)
  obtain ⟨g3, h_g3, hP, hD⟩ : ∃ g3 : Nat → Int32, ar_ok [0] [5] g3 ∧ ct_B D A H [gu qe vd_gap z1 qe_round ve_impossible ve_firstUnlike qe_lastUnlike qe_places qe_stepsIn qe_passed qe_classes ve_bestBeat ve_bestLeft, (qe_round, .inl (cI, 12, .inl (g3))), (qe_lastUnlike, .inl (cI, 10, .inl (fe_lastUnlike))), (qe_places, .inl (cI, 200, .inl (fe_places))), (qe_stepsIn, .inl (cI, 60, .inl (fe_stepsIn))), dn qd vd_gap vd_odds vd_rain vd_lines qd_steps qd_lengths qd_starts qd_met qd_stumbles vd_stumbleCount qd_muds qd_cells vd_cellCount qd_tunes vd_tuneCount qd_changes vd_changeCount, (qd_steps, .inl (cI, 24, .inl (fd_steps))), (qd_lengths, .inl (cI, 2, .inl (fd_lengths))), (qd_starts, .inl (cI, 2, .inl (fd_starts))), (qd_muds, .inl (cI, 200, .inl (fd_muds)))] := ⟨_, ar_cpy h_fd_steps h_fe_round ((Nat.mod_one _).trans (Nat.mod_one _).symm), hP, hD⟩
  refine lv_aload_n hx hb dX3_begin_36 rfl (lv_at hl 0 rfl) ?_
  refine lv_iconst (v := 0) hx hb dX3_begin_37 (by decide) ?_
  refine va_put (D := D) (ci := 3) (v := .int 0) (ty := .boolean) (C := RX3) (T := TX3) (N := 12) hx hb hts hi3 tyX3 tyX3_ok nmX3 hown hK hP hD hS 0 rfl rfl 3 (by decide) (hts (.fieldLink RX3 52 "OverHill$Guess" "impossible" "Z") (by decide +kernel)) (fun _ h9 => h9) rfl (by decide +kernel) rfl rfl (Nat.le_of_ble_eq_true rfl) dX3_begin_38 (fun H locs hP hD hS => ?_)
  obtain ⟨hP, hD⟩ : ct_B D A H [gu qe vd_gap z1 qe_round 0 ve_firstUnlike qe_lastUnlike qe_places qe_stepsIn qe_passed qe_classes ve_bestBeat ve_bestLeft, (qe_round, .inl (cI, 12, .inl (g3))), (qe_lastUnlike, .inl (cI, 10, .inl (fe_lastUnlike))), (qe_places, .inl (cI, 200, .inl (fe_places))), (qe_stepsIn, .inl (cI, 60, .inl (fe_stepsIn))), dn qd vd_gap vd_odds vd_rain vd_lines qd_steps qd_lengths qd_starts qd_met qd_stumbles vd_stumbleCount qd_muds qd_cells vd_cellCount qd_tunes vd_tuneCount qd_changes vd_changeCount, (qd_steps, .inl (cI, 24, .inl (fd_steps))), (qd_lengths, .inl (cI, 2, .inl (fd_lengths))), (qd_starts, .inl (cI, 2, .inl (fd_starts))), (qd_muds, .inl (cI, 200, .inl (fd_muds)))] := ⟨hP, hD⟩
  refine lv_aload_n hx hb dX3_begin_41 rfl (lv_at hl 0 rfl) ?_
  refine lv_sipush (v := 200) hx hb dX3_begin_42 (by decide) ?_
  refine va_put (D := D) (ci := 3) (v := .int 200) (ty := .int) (C := RX3) (T := TX3) (N := 12) hx hb hts hi3 tyX3 tyX3_ok nmX3 hown hK hP hD hS 0 rfl rfl 4 (by decide) (hts (.fieldLink RX3 56 "OverHill$Guess" "firstUnlike" "I") (by decide +kernel)) (fun _ h9 => h9) rfl (by decide +kernel) rfl rfl (Nat.le_of_ble_eq_true rfl) dX3_begin_45 (fun H locs hP hD hS => ?_)
  obtain ⟨hP, hD⟩ : ct_B D A H [gu qe vd_gap z1 qe_round 0 200 qe_lastUnlike qe_places qe_stepsIn qe_passed qe_classes ve_bestBeat ve_bestLeft, (qe_round, .inl (cI, 12, .inl (g3))), (qe_lastUnlike, .inl (cI, 10, .inl (fe_lastUnlike))), (qe_places, .inl (cI, 200, .inl (fe_places))), (qe_stepsIn, .inl (cI, 60, .inl (fe_stepsIn))), dn qd vd_gap vd_odds vd_rain vd_lines qd_steps qd_lengths qd_starts qd_met qd_stumbles vd_stumbleCount qd_muds qd_cells vd_cellCount qd_tunes vd_tuneCount qd_changes vd_changeCount, (qd_steps, .inl (cI, 24, .inl (fd_steps))), (qd_lengths, .inl (cI, 2, .inl (fd_lengths))), (qd_starts, .inl (cI, 2, .inl (fd_starts))), (qd_muds, .inl (cI, 200, .inl (fd_muds)))] := ⟨hP, hD⟩
  refine lv_aload_n hx hb dX3_begin_48 rfl (lv_at hl 0 rfl) ?_
  refine va_get (D := D) (ci := 3) (v := .ref qe_lastUnlike) (C := RX3) (T := TX3) (N := 12) hx hb hts hi3 hown hK hP 0 rfl rfl 5 (by decide) (hts (.fieldLink RX3 15 "OverHill$Guess" "lastUnlike" "[I") (by decide +kernel)) (fun _ h9 => h9) rfl dX3_begin_49 ?_
  refine lv_iconst (v := (-1)) hx hb dX3_begin_52 (by decide) ?_
  refine ct_callv (D := D) (wr := [gu qe vd_gap z1 qe_round 0 200 qe_lastUnlike qe_places qe_stepsIn qe_passed qe_classes ve_bestBeat ve_bestLeft, (qe_round, .inl (cI, 12, .inl (g3))), (qe_places, .inl (cI, 200, .inl (fe_places))), (qe_stepsIn, .inl (cI, 60, .inl (fe_stepsIn))), dn qd vd_gap vd_odds vd_rain vd_lines qd_steps qd_lengths qd_starts qd_met qd_stumbles vd_stumbleCount qd_muds qd_cells vd_cellCount qd_tunes vd_tuneCount qd_changes vd_changeCount, (qd_steps, .inl (cI, 24, .inl (fd_steps))), (qd_lengths, .inl (cI, 2, .inl (fd_lengths))), (qd_starts, .inl (cI, 2, .inl (fd_starts))), (qd_muds, .inl (cI, 200, .inl (fd_muds)))]) (va_runS (As := [.ref qe_lastUnlike, .int (-1)]) (rest := []) ⟨hx, hb, hml, hown, hts⟩ (c_fill l D G cI cJ cB cZ cO qe_lastUnlike 10 fe_lastUnlike (-1) (by decide) H.size) (va_cwS 2 hts gX3_begin_J7_fill_53178 rfl rfl rfl (by decide +kernel) ⟨Nat.le_of_ble_eq_true rfl, Nat.le_of_ble_eq_true rfl⟩) (ct_preS (T := ct_T cI cJ cB cZ cO) hE hH hP hD hS hA [2] (by decide) rfl) rfl rfl hl.1 rfl (lv_room (Nat.le_of_ble_eq_true rfl)) dX3_begin_53 ⟨Nat.le_of_ble_eq_true rfl, Nat.le_of_ble_eq_true rfl⟩) hP hD hS hA [2] [0, 1, 3, 4, 5, 6, 7, 8, 9] rfl rfl (by decide) (by decide) (fun u H locs hw hP hD hS => ?_)
  obtain ⟨g4, rfl⟩ : ∃ z, z = u := ⟨_, rfl⟩
  obtain ⟨hP, hD⟩ : ct_B D A H [gu qe vd_gap z1 qe_round 0 200 qe_lastUnlike qe_places qe_stepsIn qe_passed qe_classes ve_bestBeat ve_bestLeft, (qe_round, .inl (cI, 12, .inl (g3))), (qe_places, .inl (cI, 200, .inl (fe_places))), (qe_stepsIn, .inl (cI, 60, .inl (fe_stepsIn))), dn qd vd_gap vd_odds vd_rain vd_lines qd_steps qd_lengths qd_starts qd_met qd_stumbles vd_stumbleCount qd_muds qd_cells vd_cellCount qd_tunes vd_tuneCount qd_changes vd_changeCount, (qd_steps, .inl (cI, 24, .inl (fd_steps))), (qd_lengths, .inl (cI, 2, .inl (fd_lengths))), (qd_starts, .inl (cI, 2, .inl (fd_starts))), (qd_muds, .inl (cI, 200, .inl (fd_muds))), (qe_lastUnlike, .inl (cI, 10, .inl (g4)))] := ⟨hP, hD⟩
  have hp0 := hw
  have hp_5 : ∀ j : Nat, g4 j = (-1 : Int32) ∨ g4 j = fe_lastUnlike j := hp0
  refine lv_aload_n hx hb dX3_begin_56 rfl (lv_at hl 0 rfl) ?_
  refine va_get (D := D) (ci := 3) (v := .ref qe_stepsIn) (C := RX3) (T := TX3) (N := 12) hx hb hts hi3 hown hK hP 0 rfl rfl 7 (by decide) (hts (.fieldLink RX3 21 "OverHill$Guess" "stepsIn" "[I") (by decide +kernel)) (fun _ h9 => h9) rfl dX3_begin_57 ?_
  refine lv_bipush (v := 63) hx hb dX3_begin_60 (by decide) ?_
  refine ct_callv (D := D) (wr := [gu qe vd_gap z1 qe_round 0 200 qe_lastUnlike qe_places qe_stepsIn qe_passed qe_classes ve_bestBeat ve_bestLeft, (qe_round, .inl (cI, 12, .inl (g3))), (qe_places, .inl (cI, 200, .inl (fe_places))), dn qd vd_gap vd_odds vd_rain vd_lines qd_steps qd_lengths qd_starts qd_met qd_stumbles vd_stumbleCount qd_muds qd_cells vd_cellCount qd_tunes vd_tuneCount qd_changes vd_changeCount, (qd_steps, .inl (cI, 24, .inl (fd_steps))), (qd_lengths, .inl (cI, 2, .inl (fd_lengths))), (qd_starts, .inl (cI, 2, .inl (fd_starts))), (qd_muds, .inl (cI, 200, .inl (fd_muds))), (qe_lastUnlike, .inl (cI, 10, .inl (g4)))]) (va_runS (As := [.ref qe_stepsIn, .int 63]) (rest := []) ⟨hx, hb, hml, hown, hts⟩ (c_fill l D G cI cJ cB cZ cO qe_stepsIn 60 fe_stepsIn 63 (by decide) H.size) (va_cwS 2 hts gX3_begin_J7_fill_53178 rfl rfl rfl (by decide +kernel) ⟨Nat.le_of_ble_eq_true rfl, Nat.le_of_ble_eq_true rfl⟩) (ct_preS (T := ct_T cI cJ cB cZ cO) hE hH hP hD hS hA [3] (by decide) rfl) rfl rfl hl.1 rfl (lv_room (Nat.le_of_ble_eq_true rfl)) dX3_begin_62 ⟨Nat.le_of_ble_eq_true rfl, Nat.le_of_ble_eq_true rfl⟩) hP hD hS hA [3] [0, 1, 2, 4, 5, 6, 7, 8, 9] rfl rfl (by decide) (by decide) (fun u H locs hw hP hD hS => ?_)
  obtain ⟨g6, rfl⟩ : ∃ z, z = u := ⟨_, rfl⟩
  obtain ⟨hP, hD⟩ : ct_B D A H [gu qe vd_gap z1 qe_round 0 200 qe_lastUnlike qe_places qe_stepsIn qe_passed qe_classes ve_bestBeat ve_bestLeft, (qe_round, .inl (cI, 12, .inl (g3))), (qe_places, .inl (cI, 200, .inl (fe_places))), dn qd vd_gap vd_odds vd_rain vd_lines qd_steps qd_lengths qd_starts qd_met qd_stumbles vd_stumbleCount qd_muds qd_cells vd_cellCount qd_tunes vd_tuneCount qd_changes vd_changeCount, (qd_steps, .inl (cI, 24, .inl (fd_steps))), (qd_lengths, .inl (cI, 2, .inl (fd_lengths))), (qd_starts, .inl (cI, 2, .inl (fd_starts))), (qd_muds, .inl (cI, 200, .inl (fd_muds))), (qe_lastUnlike, .inl (cI, 10, .inl (g4))), (qe_stepsIn, .inl (cI, 60, .inl (g6)))] := ⟨hP, hD⟩
  have hp0 := hw
  have hp_7 : ∀ j : Nat, g6 j = (63 : Int32) ∨ g6 j = fe_stepsIn j := hp0
  refine lv_aload_n hx hb dX3_begin_65 rfl (lv_at hl 1 rfl) ?_
  refine va_get (D := D) (ci := 0) (v := .ref qd_starts) (C := RX0) (T := TX0) (N := 17) hx hb hts hi0 hown hK hP 3 rfl rfl 6 (by decide) (hts (.fieldLink RX3 65 "OverHill$Dance" "starts" "[I") (by decide +kernel)) (fun _ h9 => h9) rfl dX3_begin_66 ?_
  refine lv_iload_n hx hb dX3_begin_69 rfl (lv_at hl 2 rfl) ?_
  refine va_iald (D := D) hx hb hK hP 6 0 rfl rfl (tq_in rfl (by omega)) dX3_begin_70 ?_
  refine lv_topi (fun z8 ez8 => ?_)
  have fz8 : 0 ≤ z8.toInt ∧ z8.toInt ≤ 11 := by rw [ez8]; exact ar_get h_fd_starts a2 0 (by omega) (show a2.toInt % 1 = 0 by omega) rfl
  refine lv_istore_n (lv' := [(3, .int z8), (0, .ref qe), (1, .ref qd), (2, .int a2)]) hx hb dX3_begin_71 rfl hl (by decide) rfl (fun ls hl => ?_)
  refine lv_iconst (v := 0) hx hb dX3_begin_72 (by decide) ?_
  refine lv_istore (lv' := [(4, .int 0), (3, .int z8), (0, .ref qe), (1, .ref qd), (2, .int a2)]) hx hb dX3_begin_73 hl (by decide) rfl (fun ls hl => ?_)
  refine ct_loop (X := (Nat → Int32) × Int32 × Int32) (fun x => (200 - x.2.2.toInt).toNat) (fun x H locs ls => ((0 ≤ x.2.1.toInt ∧ x.2.1.toInt ≤ 11)) ∧ ((0 ≤ x.2.2.toInt ∧ x.2.2.toInt ≤ 200)) ∧ ct_B D A H [gu qe vd_gap z1 qe_round 0 200 qe_lastUnlike qe_places qe_stepsIn qe_passed qe_classes ve_bestBeat ve_bestLeft, (qe_round, .inl (cI, 12, .inl (g3))), (qe_places, .inl (cI, 200, .inl (x.1))), dn qd vd_gap vd_odds vd_rain vd_lines qd_steps qd_lengths qd_starts qd_met qd_stumbles vd_stumbleCount qd_muds qd_cells vd_cellCount qd_tunes vd_tuneCount qd_changes vd_changeCount, (qd_steps, .inl (cI, 24, .inl (fd_steps))), (qd_lengths, .inl (cI, 2, .inl (fd_lengths))), (qd_starts, .inl (cI, 2, .inl (fd_starts))), (qd_muds, .inl (cI, 200, .inl (fd_muds))), (qe_lastUnlike, .inl (cI, 10, .inl (g4))), (qe_stepsIn, .inl (cI, 60, .inl (g6)))] ∧ va_S A s.heap H locs ∧ lv_has ls 6 [(4, .int x.2.2), (3, .int x.2.1), (0, .ref qe), (1, .ref qd), (2, .int a2)]) 75 (fe_places, z8, (0 : Int32)) ⟨fz8, (show 0 ≤ (0 : Int32).toInt ∧ (0 : Int32).toInt ≤ 200 by decide), ⟨hP, hD⟩, hS, lv_sub hl [0, 1, 2, 3, 4] rfl⟩ (fun x ih383 H locs ls hI => ?_)
  obtain ⟨g380, x381, x382⟩ := x
  obtain ⟨h_x381, h_x382, ⟨hP, hD⟩, hS, hl⟩ := hI
  have h_x381 : (0 ≤ x381.toInt ∧ x381.toInt ≤ 11) := h_x381
  have h_x382 : (0 ≤ x382.toInt ∧ x382.toInt ≤ 200) := h_x382
  obtain ⟨hP, hD⟩ : ct_B D A H [gu qe vd_gap z1 qe_round 0 200 qe_lastUnlike qe_places qe_stepsIn qe_passed qe_classes ve_bestBeat ve_bestLeft, (qe_round, .inl (cI, 12, .inl (g3))), (qe_places, .inl (cI, 200, .inl (g380))), dn qd vd_gap vd_odds vd_rain vd_lines qd_steps qd_lengths qd_starts qd_met qd_stumbles vd_stumbleCount qd_muds qd_cells vd_cellCount qd_tunes vd_tuneCount qd_changes vd_changeCount, (qd_steps, .inl (cI, 24, .inl (fd_steps))), (qd_lengths, .inl (cI, 2, .inl (fd_lengths))), (qd_starts, .inl (cI, 2, .inl (fd_starts))), (qd_muds, .inl (cI, 200, .inl (fd_muds))), (qe_lastUnlike, .inl (cI, 10, .inl (g4))), (qe_stepsIn, .inl (cI, 60, .inl (g6)))] := ⟨hP, hD⟩
  have hl : lv_has ls 6 [(4, .int x382), (3, .int x381), (0, .ref qe), (1, .ref qd), (2, .int a2)] := hl
  refine lv_iload hx hb dX3_begin_75 (lv_at hl 0 rfl) ?_
  refine lv_sipush (v := 200) hx hb dX3_begin_77 (by decide) ?_
  refine lv_icmp_ge (tgt := 150) hx hb dX3_begin_80 (by decide) (fun hc => ?_) (fun hc => ?_)
  · have hq384 : 200 ≤ x382.toInt := tq_le (by decide) rfl hc
    obtain ⟨hP9, hD9⟩ : ct_B D A H [gu qe vd_gap z1 qe_round 0 200 qe_lastUnlike qe_places qe_stepsIn qe_passed qe_classes ve_bestBeat ve_bestLeft, (qe_round, .inl (cI, 12, .inl (g3))), (qe_lastUnlike, .inl (cI, 10, .inl (g4))), (qe_places, .inl (cI, 200, .inl (g380))), (qe_stepsIn, .inl (cI, 60, .inl (g6))), dn qd vd_gap vd_odds vd_rain vd_lines qd_steps qd_lengths qd_starts qd_met qd_stumbles vd_stumbleCount qd_muds qd_cells vd_cellCount qd_tunes vd_tuneCount qd_changes vd_changeCount, (qd_steps, .inl (cI, 24, .inl (fd_steps))), (qd_lengths, .inl (cI, 2, .inl (fd_lengths))), (qd_starts, .inl (cI, 2, .inl (fd_starts))), (qd_muds, .inl (cI, 200, .inl (fd_muds)))] := ⟨hP.sub [0, 1, 8, 2, 9, 3, 4, 5, 6, 7] rfl, hD.sub [0, 1, 8, 2, 9, 3, 4, 5, 6, 7] (by decide) rfl⟩
    exact W.vret hx hb hr (fun t ht hW => ⟨⟨(vd_gap, z1, (0 : Int32), (200 : Int32), g3, g4, g380, g6), rfl, ⟨h_vd_gap, fz1, h_g3⟩, by rw [ht]; exact hP9, hD9⟩, hS.F ht⟩) hS.2.2 dX3_begin_150
  · have hq384 : x382.toInt < 200 := tq_nle (by decide) rfl hc
    refine lv_aload_n hx hb dX3_begin_83 rfl (lv_at hl 2 rfl) ?_
    refine va_get (D := D) (ci := 3) (v := .int z1) (C := RX3) (T := TX3) (N := 12) hx hb hts hi3 hown hK hP 0 rfl rfl 1 (by decide) (hts (.fieldLink RX3 40 "OverHill$Guess" "length" "I") (by decide +kernel)) (fun _ h9 => h9) rfl dX3_begin_84 ?_
    refine lv_if_le (tgt := 104) hx hb dX3_begin_87 (by decide) (fun hc => ?_) (fun hc => ?_)
    · have hq385 : z1.toInt ≤ 0 := tq_le rfl (by decide) hc
      refine lv_iconst (v := 0) hx hb dX3_begin_104 (by decide) ?_
      refine lv_istore (lv' := [(5, .int 0), (4, .int x382), (3, .int x381), (0, .ref qe), (1, .ref qd), (2, .int a2)]) hx hb dX3_begin_105 hl (by decide) rfl (fun ls hl => ?_)
      refine lv_aload_n hx hb dX3_begin_107 rfl (lv_at hl 3 rfl) ?_
      refine va_get (D := D) (ci := 3) (v := .ref qe_places) (C := RX3) (T := TX3) (N := 12) hx hb hts hi3 hown hK hP 0 rfl rfl 6 (by decide) (hts (.fieldLink RX3 18 "OverHill$Guess" "places" "[I") (by decide +kernel)) (fun _ h9 => h9) rfl dX3_begin_108 ?_
      refine lv_iload hx hb dX3_begin_111 (lv_at hl 1 rfl) ?_
      refine lv_iload hx hb dX3_begin_113 (lv_at hl 0 rfl) ?_
      refine lv_if_eq (tgt := 122) hx hb dX3_begin_115 (by decide) (fun _ => ?_) (fun hc => absurd hc (by decide))
      refine lv_iconst (v := (-1)) hx hb dX3_begin_122 (by decide) ?_
      refine va_iast (D := D) hx hb hK hP hD hS 2 0 rfl rfl (tq_in rfl (by omega)) dX3_begin_123 (fun H locs hP hD hS => ?_)
      obtain ⟨g386, hP, hD⟩ : ∃ g386 : Nat → Int32, ct_B D A H [gu qe vd_gap z1 qe_round 0 200 qe_lastUnlike qe_places qe_stepsIn qe_passed qe_classes ve_bestBeat ve_bestLeft, (qe_round, .inl (cI, 12, .inl (g3))), (qe_places, .inl (cI, 200, .inl (g386))), dn qd vd_gap vd_odds vd_rain vd_lines qd_steps qd_lengths qd_starts qd_met qd_stumbles vd_stumbleCount qd_muds qd_cells vd_cellCount qd_tunes vd_tuneCount qd_changes vd_changeCount, (qd_steps, .inl (cI, 24, .inl (fd_steps))), (qd_lengths, .inl (cI, 2, .inl (fd_lengths))), (qd_starts, .inl (cI, 2, .inl (fd_starts))), (qd_muds, .inl (cI, 200, .inl (fd_muds))), (qe_lastUnlike, .inl (cI, 10, .inl (g4))), (qe_stepsIn, .inl (cI, 60, .inl (g6)))] := ⟨_, hP, hD⟩
      refine lv_iload hx hb dX3_begin_124 (lv_at hl 0 rfl) ?_
      refine lv_if_eq (tgt := 142) hx hb dX3_begin_126 (by decide) (fun _ => ?_) (fun hc => absurd hc (by decide))
      refine lv_iload_n hx hb dX3_begin_142 rfl (lv_at hl 2 rfl) ?_
      refine lv_istore_n (lv' := [(3, .int x381), (5, .int 0), (4, .int x382), (0, .ref qe), (1, .ref qd), (2, .int a2)]) hx hb dX3_begin_143 rfl hl (by decide) rfl (fun ls hl => ?_)
      obtain ⟨z387, ez387⟩ : ∃ z : Int32, z = x382 + 1 := ⟨_, rfl⟩
      have fz387 : z387.toInt = x382.toInt + 1 := by rw [ez387]; exact tq_add rfl (by decide) (by omega)
      refine lv_iinc (v := z387) (lv' := [(4, .int z387), (3, .int x381), (5, .int 0), (0, .ref qe), (1, .ref qd), (2, .int a2)]) hx hb dX3_begin_144 hl (k := 2) rfl ez387.symm (by decide) rfl (fun ls hl => ?_)
      refine lv_goto (tgt := 75) hx hb dX3_begin_147 (by decide) ?_
      exact ih383 (g386, x381, z387) _ _ _ (show (200 - z387.toInt).toNat < (200 - x382.toInt).toNat by omega) ⟨h_x381, (show 0 ≤ z387.toInt ∧ z387.toInt ≤ 200 by omega), ⟨hP, hD⟩, hS, lv_sub hl [0, 1, 3, 4, 5] rfl⟩
    · have hq385 : 0 < z1.toInt := tq_nle rfl (by decide) hc
      refine lv_aload_n hx hb dX3_begin_90 rfl (lv_at hl 3 rfl) ?_
      refine va_get (D := D) (ci := 0) (v := .ref qd_muds) (C := RX0) (T := TX0) (N := 17) hx hb hts hi0 hown hK hP 3 rfl rfl 10 (by decide) (hts (.fieldLink RX3 68 "OverHill$Dance" "muds" "[I") (by decide +kernel)) (fun _ h9 => h9) rfl dX3_begin_91 ?_
      refine lv_iload hx hb dX3_begin_94 (lv_at hl 0 rfl) ?_
      refine va_iald (D := D) hx hb hK hP 7 0 rfl rfl (tq_in rfl (by omega)) dX3_begin_96 ?_
      refine lv_topi (fun z388 ez388 => ?_)
      refine lv_if_ne (tgt := 104) hx hb dX3_begin_97 (by decide) (fun hc => ?_) (fun hc => ?_)
      · have hq389 : z388.toInt ≠ 0 := tq_ne rfl (by decide) hc
        have hb390 := tq_lo z388
        refine lv_iconst (v := 0) hx hb dX3_begin_104 (by decide) ?_
        refine lv_istore (lv' := [(5, .int 0), (4, .int x382), (3, .int x381), (0, .ref qe), (1, .ref qd), (2, .int a2)]) hx hb dX3_begin_105 hl (by decide) rfl (fun ls hl => ?_)
        refine lv_aload_n hx hb dX3_begin_107 rfl (lv_at hl 3 rfl) ?_
        refine va_get (D := D) (ci := 3) (v := .ref qe_places) (C := RX3) (T := TX3) (N := 12) hx hb hts hi3 hown hK hP 0 rfl rfl 6 (by decide) (hts (.fieldLink RX3 18 "OverHill$Guess" "places" "[I") (by decide +kernel)) (fun _ h9 => h9) rfl dX3_begin_108 ?_
        refine lv_iload hx hb dX3_begin_111 (lv_at hl 1 rfl) ?_
        refine lv_iload hx hb dX3_begin_113 (lv_at hl 0 rfl) ?_
        refine lv_if_eq (tgt := 122) hx hb dX3_begin_115 (by decide) (fun _ => ?_) (fun hc => absurd hc (by decide))
        refine lv_iconst (v := (-1)) hx hb dX3_begin_122 (by decide) ?_
        refine va_iast (D := D) hx hb hK hP hD hS 2 0 rfl rfl (tq_in rfl (by omega)) dX3_begin_123 (fun H locs hP hD hS => ?_)
        obtain ⟨g391, hP, hD⟩ : ∃ g391 : Nat → Int32, ct_B D A H [gu qe vd_gap z1 qe_round 0 200 qe_lastUnlike qe_places qe_stepsIn qe_passed qe_classes ve_bestBeat ve_bestLeft, (qe_round, .inl (cI, 12, .inl (g3))), (qe_places, .inl (cI, 200, .inl (g391))), dn qd vd_gap vd_odds vd_rain vd_lines qd_steps qd_lengths qd_starts qd_met qd_stumbles vd_stumbleCount qd_muds qd_cells vd_cellCount qd_tunes vd_tuneCount qd_changes vd_changeCount, (qd_steps, .inl (cI, 24, .inl (fd_steps))), (qd_lengths, .inl (cI, 2, .inl (fd_lengths))), (qd_starts, .inl (cI, 2, .inl (fd_starts))), (qd_muds, .inl (cI, 200, .inl (fd_muds))), (qe_lastUnlike, .inl (cI, 10, .inl (g4))), (qe_stepsIn, .inl (cI, 60, .inl (g6)))] := ⟨_, hP, hD⟩
        refine lv_iload hx hb dX3_begin_124 (lv_at hl 0 rfl) ?_
        refine lv_if_eq (tgt := 142) hx hb dX3_begin_126 (by decide) (fun _ => ?_) (fun hc => absurd hc (by decide))
        refine lv_iload_n hx hb dX3_begin_142 rfl (lv_at hl 2 rfl) ?_
        refine lv_istore_n (lv' := [(3, .int x381), (5, .int 0), (4, .int x382), (0, .ref qe), (1, .ref qd), (2, .int a2)]) hx hb dX3_begin_143 rfl hl (by decide) rfl (fun ls hl => ?_)
        obtain ⟨z392, ez392⟩ : ∃ z : Int32, z = x382 + 1 := ⟨_, rfl⟩
        have fz392 : z392.toInt = x382.toInt + 1 := by rw [ez392]; exact tq_add rfl (by decide) (by omega)
        refine lv_iinc (v := z392) (lv' := [(4, .int z392), (3, .int x381), (5, .int 0), (0, .ref qe), (1, .ref qd), (2, .int a2)]) hx hb dX3_begin_144 hl (k := 2) rfl ez392.symm (by decide) rfl (fun ls hl => ?_)
        refine lv_goto (tgt := 75) hx hb dX3_begin_147 (by decide) ?_
        exact ih383 (g391, x381, z392) _ _ _ (show (200 - z392.toInt).toNat < (200 - x382.toInt).toNat by omega) ⟨h_x381, (show 0 ≤ z392.toInt ∧ z392.toInt ≤ 200 by omega), ⟨hP, hD⟩, hS, lv_sub hl [0, 1, 3, 4, 5] rfl⟩
      · have hq389 : z388.toInt = 0 := tq_eq rfl (by decide) hc
        have hb393 := tq_lo z388
        refine lv_iconst (v := 1) hx hb dX3_begin_100 (by decide) ?_
        refine lv_goto (tgt := 105) hx hb dX3_begin_101 (by decide) ?_
        refine lv_istore (lv' := [(5, .int 1), (4, .int x382), (3, .int x381), (0, .ref qe), (1, .ref qd), (2, .int a2)]) hx hb dX3_begin_105 hl (by decide) rfl (fun ls hl => ?_)
        refine lv_aload_n hx hb dX3_begin_107 rfl (lv_at hl 3 rfl) ?_
        refine va_get (D := D) (ci := 3) (v := .ref qe_places) (C := RX3) (T := TX3) (N := 12) hx hb hts hi3 hown hK hP 0 rfl rfl 6 (by decide) (hts (.fieldLink RX3 18 "OverHill$Guess" "places" "[I") (by decide +kernel)) (fun _ h9 => h9) rfl dX3_begin_108 ?_
        refine lv_iload hx hb dX3_begin_111 (lv_at hl 1 rfl) ?_
        refine lv_iload hx hb dX3_begin_113 (lv_at hl 0 rfl) ?_
        refine lv_if_eq (tgt := 122) hx hb dX3_begin_115 (by decide) (fun hc => absurd hc (by decide)) (fun _ => ?_)
        refine lv_iload_n hx hb dX3_begin_118 rfl (lv_at hl 2 rfl) ?_
        refine lv_goto (tgt := 123) hx hb dX3_begin_119 (by decide) ?_
        refine va_iast (D := D) hx hb hK hP hD hS 2 0 rfl rfl (tq_in rfl (by omega)) dX3_begin_123 (fun H locs hP hD hS => ?_)
        obtain ⟨g394, hP, hD⟩ : ∃ g394 : Nat → Int32, ct_B D A H [gu qe vd_gap z1 qe_round 0 200 qe_lastUnlike qe_places qe_stepsIn qe_passed qe_classes ve_bestBeat ve_bestLeft, (qe_round, .inl (cI, 12, .inl (g3))), (qe_places, .inl (cI, 200, .inl (g394))), dn qd vd_gap vd_odds vd_rain vd_lines qd_steps qd_lengths qd_starts qd_met qd_stumbles vd_stumbleCount qd_muds qd_cells vd_cellCount qd_tunes vd_tuneCount qd_changes vd_changeCount, (qd_steps, .inl (cI, 24, .inl (fd_steps))), (qd_lengths, .inl (cI, 2, .inl (fd_lengths))), (qd_starts, .inl (cI, 2, .inl (fd_starts))), (qd_muds, .inl (cI, 200, .inl (fd_muds))), (qe_lastUnlike, .inl (cI, 10, .inl (g4))), (qe_stepsIn, .inl (cI, 60, .inl (g6)))] := ⟨_, hP, hD⟩
        refine lv_iload hx hb dX3_begin_124 (lv_at hl 0 rfl) ?_
        refine lv_if_eq (tgt := 142) hx hb dX3_begin_126 (by decide) (fun hc => absurd hc (by decide)) (fun _ => ?_)
        refine lv_iload_n hx hb dX3_begin_129 rfl (lv_at hl 2 rfl) ?_
        refine lv_iconst (v := 1) hx hb dX3_begin_130 (by decide) ?_
        refine lv_iadd hx hb dX3_begin_131 ?_
        refine lv_topi (fun z395 ez395 => ?_)
        have fz395 : z395.toInt = x381.toInt + 1 := by rw [ez395]; exact tq_add rfl (by decide) (by omega)
        refine lv_aload_n hx hb dX3_begin_132 rfl (lv_at hl 3 rfl) ?_
        refine va_get (D := D) (ci := 3) (v := .int z1) (C := RX3) (T := TX3) (N := 12) hx hb hts hi3 hown hK hP 0 rfl rfl 1 (by decide) (hts (.fieldLink RX3 40 "OverHill$Guess" "length" "I") (by decide +kernel)) (fun _ h9 => h9) rfl dX3_begin_133 ?_
        refine ct_calli (D := D) (wr := [gu qe vd_gap z1 qe_round 0 200 qe_lastUnlike qe_places qe_stepsIn qe_passed qe_classes ve_bestBeat ve_bestLeft, (qe_round, .inl (cI, 12, .inl (g3))), (qe_places, .inl (cI, 200, .inl (g394))), dn qd vd_gap vd_odds vd_rain vd_lines qd_steps qd_lengths qd_starts qd_met qd_stumbles vd_stumbleCount qd_muds qd_cells vd_cellCount qd_tunes vd_tuneCount qd_changes vd_changeCount, (qd_steps, .inl (cI, 24, .inl (fd_steps))), (qd_lengths, .inl (cI, 2, .inl (fd_lengths))), (qd_starts, .inl (cI, 2, .inl (fd_starts))), (qd_muds, .inl (cI, 200, .inl (fd_muds))), (qe_lastUnlike, .inl (cI, 10, .inl (g4))), (qe_stepsIn, .inl (cI, 60, .inl (g6)))]) (va_runSN (As := [.int z395, .int z1]) (rest := []) ⟨hx, hb, hml, hown, hts⟩ (c_X11_wrap l D G cI cJ cB cZ cO z395 z1  H.size) ⟨va_cnB 2 hts gX3_begin_X11_wrap_n71 rfl rfl rfl (hE.2.1 (RX3, 71, yX11_wrap, "OverHill") (List.mem_of_getElem? (i := 16) rfl)) (hts (.initialized RX11) (by decide +kernel)) (by decide +kernel) ⟨Nat.le_of_ble_eq_true rfl, Nat.le_of_ble_eq_true rfl⟩, (hts (.static yX11_wrap) (by decide +kernel)), trivial⟩ (ct_preS (T := ct_T cI cJ cB cZ cO) hE hH hP hD hS hA [] (by decide) rfl) rfl rfl hl.1 rfl (lv_room (Nat.le_of_ble_eq_true rfl)) dX3_begin_136 ⟨Nat.le_of_ble_eq_true rfl, Nat.le_of_ble_eq_true rfl⟩) hP hD hS hA [] [0, 1, 2, 3, 4, 5, 6, 7, 8, 9] rfl rfl (by decide) (by decide) (fun r396 u H locs hw hP hD hS => ?_)
        obtain ⟨hP, hD⟩ : ct_B D A H [gu qe vd_gap z1 qe_round 0 200 qe_lastUnlike qe_places qe_stepsIn qe_passed qe_classes ve_bestBeat ve_bestLeft, (qe_round, .inl (cI, 12, .inl (g3))), (qe_places, .inl (cI, 200, .inl (g394))), dn qd vd_gap vd_odds vd_rain vd_lines qd_steps qd_lengths qd_starts qd_met qd_stumbles vd_stumbleCount qd_muds qd_cells vd_cellCount qd_tunes vd_tuneCount qd_changes vd_changeCount, (qd_steps, .inl (cI, 24, .inl (fd_steps))), (qd_lengths, .inl (cI, 2, .inl (fd_lengths))), (qd_starts, .inl (cI, 2, .inl (fd_starts))), (qd_muds, .inl (cI, 200, .inl (fd_muds))), (qe_lastUnlike, .inl (cI, 10, .inl (g4))), (qe_stepsIn, .inl (cI, 60, .inl (g6)))] := ⟨hP, hD⟩
        obtain ⟨hz, hp0⟩ := hw
        have hp_397 : wr_ok z395.toInt z1.toInt r396.toInt := hp0
        have h_r396 : 0 ≤ r396.toInt ∧ (r396.toInt < z1.toInt ∨ r396.toInt = 0) := hz
        refine lv_goto (tgt := 143) hx hb dX3_begin_139 (by decide) ?_
        refine lv_istore_n (lv' := [(3, .int r396), (5, .int 1), (4, .int x382), (0, .ref qe), (1, .ref qd), (2, .int a2)]) hx hb dX3_begin_143 rfl hl (by decide) rfl (fun ls hl => ?_)
        obtain ⟨z398, ez398⟩ : ∃ z : Int32, z = x382 + 1 := ⟨_, rfl⟩
        have fz398 : z398.toInt = x382.toInt + 1 := by rw [ez398]; exact tq_add rfl (by decide) (by omega)
        refine lv_iinc (v := z398) (lv' := [(4, .int z398), (3, .int r396), (5, .int 1), (0, .ref qe), (1, .ref qd), (2, .int a2)]) hx hb dX3_begin_144 hl (k := 2) rfl ez398.symm (by decide) rfl (fun ls hl => ?_)
        refine lv_goto (tgt := 75) hx hb dX3_begin_147 (by decide) ?_
        exact ih383 (g394, r396, z398) _ _ _ (show (200 - z398.toInt).toNat < (200 - x382.toInt).toNat by omega) ⟨(show 0 ≤ r396.toInt ∧ r396.toInt ≤ 11 by omega), (show 0 ≤ z398.toInt ∧ z398.toInt ≤ 200 by omega), ⟨hP, hD⟩, hS, lv_sub hl [0, 1, 3, 4, 5] rfl⟩
abbrev w_c_X3_stepBack (cI cJ cB cZ cO : ClassId) (qe : Nat) (ve_gap : Int32) (ve_length : Int32) (qe_round : Nat) (fe_round : Nat → Int32) (ve_impossible : Int32) (ve_firstUnlike : Int32) (qe_lastUnlike : Nat) (qe_places : Nat) (fe_places : Nat → Int32) (qe_stepsIn : Nat) (qe_passed : Nat) (qe_classes : Nat) (ve_bestBeat : Int32) (ve_bestLeft : Int32) : va_W := [gu qe ve_gap ve_length qe_round ve_impossible ve_firstUnlike qe_lastUnlike qe_places qe_stepsIn qe_passed qe_classes ve_bestBeat ve_bestLeft, (qe_round, .inl (cI, 12, .inl (fe_round))), (qe_places, .inl (cI, 200, .inl (fe_places)))]
set_option maxHeartbeats 4000000 in
set_option maxRecDepth 100000 in
/-- X3 stepBack -/
theorem c_X3_stepBack (l : Launch) (D : va_G) (G : ct_G) (cI cJ cB cZ cO : ClassId) (qe : Nat) (ve_gap : Int32) (ve_length : Int32) (qe_round : Nat) (fe_round : Nat → Int32) (ve_impossible : Int32) (ve_firstUnlike : Int32) (qe_lastUnlike : Nat) (qe_places : Nat) (fe_places : Nat → Int32) (qe_stepsIn : Nat) (qe_passed : Nat) (qe_classes : Nat) (ve_bestBeat : Int32) (ve_bestLeft : Int32) (a1 : Int32) (a2 : Int32) (h_ve_gap : 0 ≤ ve_gap.toInt ∧ ve_gap.toInt ≤ 20) (h_ve_length : 0 ≤ ve_length.toInt ∧ ve_length.toInt ≤ 12) (h_fe_round : ar_ok [0] [5] fe_round) (h_a1 : 0 ≤ a1.toInt ∧ a1.toInt ≤ 199) (sz : Nat) : Met l yX3_stepBack wsX3_stepBack ({ frames := 2, cells := 0, slots := 0, locals := 43 }) (va_Pc [.ref qe, .int a1, .int a2] (ct_P D (ct_T cI cJ cB cZ cO) G (w_c_X3_stepBack cI cJ cB cZ cO qe ve_gap ve_length qe_round fe_round ve_impossible ve_firstUnlike qe_lastUnlike qe_places fe_places qe_stepsIn qe_passed qe_classes ve_bestBeat ve_bestLeft) sz)) (va_Qi (fun (rz : Int32) (u : Unit) => (0 ≤ rz.toInt ∧ rz.toInt ≤ 5)) (fun (u : Unit) t => ct_Q D (va_A (w_c_X3_stepBack cI cJ cB cZ cO qe ve_gap ve_length qe_round fe_round ve_impossible ve_firstUnlike qe_lastUnlike qe_places fe_places qe_stepsIn qe_passed qe_classes ve_bestBeat ve_bestLeft) sz) [gu qe ve_gap ve_length qe_round ve_impossible ve_firstUnlike qe_lastUnlike qe_places qe_stepsIn qe_passed qe_classes ve_bestBeat ve_bestLeft, (qe_round, .inl (cI, 12, .inl (fe_round))), (qe_places, .inl (cI, 200, .inl (fe_places)))] t) (va_A (w_c_X3_stepBack cI cJ cB cZ cO qe ve_gap ve_length qe_round fe_round ve_impossible ve_firstUnlike qe_lastUnlike qe_places fe_places qe_stepsIn qe_passed qe_classes ve_bestBeat ve_bestLeft) sz)) 0 0 (va_A (w_c_X3_stepBack cI cJ cB cZ cO qe ve_gap ve_length qe_round fe_round ve_impossible ve_firstUnlike qe_lastUnlike qe_places fe_places qe_stepsIn qe_passed qe_classes ve_bestBeat ve_bestLeft) sz) := by
  refine Met.ofW (cc := cX3_stepBack) (maxL := 3) (ret := (some .int)) (by decide) rfl ?_
  intro p e s m args below meth c s₁ B hml hv
  obtain ⟨rfl, hsz, hP, hE, hD0, hH⟩ := hv
  have hx := B.exec
  have hb := B.bytes
  have hr := B.returns
  have hts := atoms_spec (ws := wsX3_stepBack) B.pre
  have hown : s.vm.findClass RX3 = some m.cls := findClass_of_methodNamed B.named
  have hlocks := B.notSynchronized
  have hK := hE.1
  have hi3 : ∀ w ∈ u_ws RX3 TX3 12, w ∈ wsX3_stepBack := fun w h => List.mem_cons_of_mem _ (List.mem_append_right _ h)
  subst hsz
  have hD := hD0.self (sz := s.heap.size)
  generalize hAe : va_A (w_c_X3_stepBack cI cJ cB cZ cO qe ve_gap ve_length qe_round fe_round ve_impossible ve_firstUnlike qe_lastUnlike qe_places fe_places qe_stepsIn qe_passed qe_classes ve_bestBeat ve_bestLeft) s.heap.size = A at hD hH ⊢
  have hA : ∀ q : Nat, s.heap.size ≤ q → A q := fun q h => by rw [← hAe]; exact Or.inr h
  have hS : va_S A s.heap s.heap [] := va_S.rf
  obtain ⟨hP, hD⟩ : ct_B D A s.heap [gu qe ve_gap ve_length qe_round ve_impossible ve_firstUnlike qe_lastUnlike qe_places qe_stepsIn qe_passed qe_classes ve_bestBeat ve_bestLeft, (qe_round, .inl (cI, 12, .inl (fe_round))), (qe_places, .inl (cI, 200, .inl (fe_places)))] := ⟨hP, hD⟩
  have hl := lv_entry ([.ref qe, .int a1, .int a2]) (n := 3) (Nat.le_of_ble_eq_true rfl)
  rw [lg_entry_eq]
  generalize (lg_sl ([.ref qe, .int a1, .int a2]) ++ List.replicate (3 - (lg_sl ([.ref qe, .int a1, .int a2])).length) Slot.unset).toArray = ls at hl ⊢
  have hl : lv_has ls 3 [(0, .ref qe), (1, .int a1), (2, .int a2)] := hl
  obtain ⟨H, hHe⟩ : ∃ H : Heap, H = s.heap := ⟨_, rfl⟩
  rw [← hHe] at hP
  have hS : va_S A s.heap H [] := by rw [hHe]; exact va_S.rf
  refine ct_start hHe ?_
  refine lv_aload_n hx hb dX3_stepBack_0 rfl (lv_at hl 0 rfl) ?_
  refine va_get (D := D) (ci := 3) (v := .ref qe_round) (C := RX3) (T := TX3) (N := 12) hx hb hts hi3 hown hK hP 0 rfl rfl 2 (by decide) (hts (.fieldLink RX3 9 "OverHill$Guess" "round" "[I") (by decide +kernel)) (fun _ h9 => h9) rfl dX3_stepBack_1 ?_
  refine lv_aload_n hx hb dX3_stepBack_4 rfl (lv_at hl 0 rfl) ?_
  refine va_get (D := D) (ci := 3) (v := .ref qe_places) (C := RX3) (T := TX3) (N := 12) hx hb hts hi3 hown hK hP 0 rfl rfl 6 (by decide) (hts (.fieldLink RX3 18 "OverHill$Guess" "places" "[I") (by decide +kernel)) (fun _ h9 => h9) rfl dX3_stepBack_5 ?_
  refine lv_iload_n hx hb dX3_stepBack_8 rfl (lv_at hl 1 rfl) ?_
  refine va_iald (D := D) hx hb hK hP 2 0 rfl rfl (tq_in rfl (by omega)) dX3_stepBack_9 ?_
  refine lv_topi (fun z1 ez1 => ?_)
  refine lv_iload_n hx hb dX3_stepBack_10 rfl (lv_at hl 2 rfl) ?_
  refine lv_isub hx hb dX3_stepBack_11 ?_
  refine lv_topi (fun z2 ez2 => ?_)
  refine lv_aload_n hx hb dX3_stepBack_12 rfl (lv_at hl 0 rfl) ?_
  refine va_get (D := D) (ci := 3) (v := .int ve_length) (C := RX3) (T := TX3) (N := 12) hx hb hts hi3 hown hK hP 0 rfl rfl 1 (by decide) (hts (.fieldLink RX3 40 "OverHill$Guess" "length" "I") (by decide +kernel)) (fun _ h9 => h9) rfl dX3_stepBack_13 ?_
  refine ct_calli (D := D) (wr := [gu qe ve_gap ve_length qe_round ve_impossible ve_firstUnlike qe_lastUnlike qe_places qe_stepsIn qe_passed qe_classes ve_bestBeat ve_bestLeft, (qe_round, .inl (cI, 12, .inl (fe_round))), (qe_places, .inl (cI, 200, .inl (fe_places)))]) (va_runSN (As := [.int z2, .int ve_length]) (rest := [.ref qe_round]) ⟨hx, hb, hml, hown, hts⟩ (c_X11_wrap l D G cI cJ cB cZ cO z2 ve_length  H.size) ⟨va_cnB 2 hts gX3_stepBack_X11_wrap_n71 rfl rfl rfl (hE.2.1 (RX3, 71, yX11_wrap, "OverHill") (List.mem_of_getElem? (i := 16) rfl)) (hts (.initialized RX11) (by decide +kernel)) (by decide +kernel) ⟨Nat.le_of_ble_eq_true rfl, Nat.le_of_ble_eq_true rfl⟩, (hts (.static yX11_wrap) (by decide +kernel)), trivial⟩ (ct_preS (T := ct_T cI cJ cB cZ cO) hE hH hP hD hS hA [] (by decide) rfl) rfl rfl hl.1 rfl (lv_room (Nat.le_of_ble_eq_true rfl)) dX3_stepBack_16 ⟨Nat.le_of_ble_eq_true rfl, Nat.le_of_ble_eq_true rfl⟩) hP hD hS hA [] [0, 1, 2] rfl rfl (by decide) (by decide) (fun r3 u H locs hw hP hD hS => ?_)
  obtain ⟨hP, hD⟩ : ct_B D A H [gu qe ve_gap ve_length qe_round ve_impossible ve_firstUnlike qe_lastUnlike qe_places qe_stepsIn qe_passed qe_classes ve_bestBeat ve_bestLeft, (qe_round, .inl (cI, 12, .inl (fe_round))), (qe_places, .inl (cI, 200, .inl (fe_places)))] := ⟨hP, hD⟩
  obtain ⟨hz, hp0⟩ := hw
  have hp_4 : wr_ok z2.toInt ve_length.toInt r3.toInt := hp0
  have h_r3 : 0 ≤ r3.toInt ∧ (r3.toInt < ve_length.toInt ∨ r3.toInt = 0) := hz
  refine va_iald (D := D) hx hb hK hP 1 0 rfl rfl (tq_in rfl (by omega)) dX3_stepBack_19 ?_
  refine lv_topi (fun z5 ez5 => ?_)
  have fz5 : 0 ≤ z5.toInt ∧ z5.toInt ≤ 5 := by rw [ez5]; exact ar_get h_fe_round r3 0 (by omega) (show r3.toInt % 1 = 0 by omega) rfl
  obtain ⟨hP9, hD9⟩ : ct_B D A H [gu qe ve_gap ve_length qe_round ve_impossible ve_firstUnlike qe_lastUnlike qe_places qe_stepsIn qe_passed qe_classes ve_bestBeat ve_bestLeft, (qe_round, .inl (cI, 12, .inl (fe_round))), (qe_places, .inl (cI, 200, .inl (fe_places)))] := ⟨hP.sub [0, 1, 2] rfl, hD.sub [0, 1, 2] (by decide) rfl⟩
  exact W.iret (v := z5) hx hb hr (fun t ht hW => ⟨⟨z5, (), rfl, fz5, by rw [ht]; exact hP9, hD9⟩, hS.F ht⟩) hS.2.2 dX3_stepBack_20
abbrev w_c_X3_fitsWithout (cI cJ cB cZ cO : ClassId) (qe : Nat) (ve_gap : Int32) (ve_length : Int32) (qe_round : Nat) (ve_impossible : Int32) (ve_firstUnlike : Int32) (qe_lastUnlike : Nat) (qe_places : Nat) (qe_stepsIn : Nat) (qe_passed : Nat) (qe_classes : Nat) (ve_bestBeat : Int32) (ve_bestLeft : Int32) : va_W := [gu qe ve_gap ve_length qe_round ve_impossible ve_firstUnlike qe_lastUnlike qe_places qe_stepsIn qe_passed qe_classes ve_bestBeat ve_bestLeft]
set_option maxHeartbeats 4000000 in
set_option maxRecDepth 100000 in
/-- X3 fitsWithout -/
theorem c_X3_fitsWithout (l : Launch) (D : va_G) (G : ct_G) (cI cJ cB cZ cO : ClassId) (qe : Nat) (ve_gap : Int32) (ve_length : Int32) (qe_round : Nat) (ve_impossible : Int32) (ve_firstUnlike : Int32) (qe_lastUnlike : Nat) (qe_places : Nat) (qe_stepsIn : Nat) (qe_passed : Nat) (qe_classes : Nat) (ve_bestBeat : Int32) (ve_bestLeft : Int32) (h_ve_gap : 0 ≤ ve_gap.toInt ∧ ve_gap.toInt ≤ 20) (h_ve_length : 0 ≤ ve_length.toInt ∧ ve_length.toInt ≤ 12) (sz : Nat) : Met l yX3_fitsWithout wsX3_fitsWithout ({ frames := 0, cells := 0, slots := 0, locals := 0 }) (va_Pc [.ref qe] (ct_P D (ct_T cI cJ cB cZ cO) G (w_c_X3_fitsWithout cI cJ cB cZ cO qe ve_gap ve_length qe_round ve_impossible ve_firstUnlike qe_lastUnlike qe_places qe_stepsIn qe_passed qe_classes ve_bestBeat ve_bestLeft) sz)) (va_Qi (fun (rz : Int32) (u : Unit) => ((rz = 1 ∧ True) ∨ (rz = 0 ∧ True))) (fun (u : Unit) t => ct_Q D (va_A (w_c_X3_fitsWithout cI cJ cB cZ cO qe ve_gap ve_length qe_round ve_impossible ve_firstUnlike qe_lastUnlike qe_places qe_stepsIn qe_passed qe_classes ve_bestBeat ve_bestLeft) sz) [gu qe ve_gap ve_length qe_round ve_impossible ve_firstUnlike qe_lastUnlike qe_places qe_stepsIn qe_passed qe_classes ve_bestBeat ve_bestLeft] t) (va_A (w_c_X3_fitsWithout cI cJ cB cZ cO qe ve_gap ve_length qe_round ve_impossible ve_firstUnlike qe_lastUnlike qe_places qe_stepsIn qe_passed qe_classes ve_bestBeat ve_bestLeft) sz)) 0 0 (va_A (w_c_X3_fitsWithout cI cJ cB cZ cO qe ve_gap ve_length qe_round ve_impossible ve_firstUnlike qe_lastUnlike qe_places qe_stepsIn qe_passed qe_classes ve_bestBeat ve_bestLeft) sz) := by
  refine Met.ofW (cc := cX3_fitsWithout) (maxL := 1) (ret := (some .boolean)) (by decide) rfl ?_
  intro p e s m args below meth c s₁ B hml hv
  obtain ⟨rfl, hsz, hP, hE, hD0, hH⟩ := hv
  have hx := B.exec
  have hb := B.bytes
  have hr := B.returns
  have hts := atoms_spec (ws := wsX3_fitsWithout) B.pre
  have hown : s.vm.findClass RX3 = some m.cls := findClass_of_methodNamed B.named
  have hlocks := B.notSynchronized
  have hK := hE.1
  have hi3 : ∀ w ∈ u_ws RX3 TX3 12, w ∈ wsX3_fitsWithout := fun w h => List.mem_cons_of_mem _ (List.mem_append_right _ h)
  subst hsz
  have hD := hD0.self (sz := s.heap.size)
  generalize hAe : va_A (w_c_X3_fitsWithout cI cJ cB cZ cO qe ve_gap ve_length qe_round ve_impossible ve_firstUnlike qe_lastUnlike qe_places qe_stepsIn qe_passed qe_classes ve_bestBeat ve_bestLeft) s.heap.size = A at hD hH ⊢
  have hA : ∀ q : Nat, s.heap.size ≤ q → A q := fun q h => by rw [← hAe]; exact Or.inr h
  have hS : va_S A s.heap s.heap [] := va_S.rf
  obtain ⟨hP, hD⟩ : ct_B D A s.heap [gu qe ve_gap ve_length qe_round ve_impossible ve_firstUnlike qe_lastUnlike qe_places qe_stepsIn qe_passed qe_classes ve_bestBeat ve_bestLeft] := ⟨hP, hD⟩
  have hl := lv_entry ([.ref qe]) (n := 1) (Nat.le_of_ble_eq_true rfl)
  rw [lg_entry_eq]
  generalize (lg_sl ([.ref qe]) ++ List.replicate (1 - (lg_sl ([.ref qe])).length) Slot.unset).toArray = ls at hl ⊢
  have hl : lv_has ls 1 [(0, .ref qe)] := hl
  obtain ⟨H, hHe⟩ : ∃ H : Heap, H = s.heap := ⟨_, rfl⟩
  rw [← hHe] at hP
  have hS : va_S A s.heap H [] := by rw [hHe]; exact va_S.rf
  refine ct_start hHe ?_
  refine lv_aload_n hx hb dX3_fitsWithout_0 rfl (lv_at hl 0 rfl) ?_
  refine va_get (D := D) (ci := 3) (v := .int ve_impossible) (C := RX3) (T := TX3) (N := 12) hx hb hts hi3 hown hK hP 0 rfl rfl 3 (by decide) (hts (.fieldLink RX3 52 "OverHill$Guess" "impossible" "Z") (by decide +kernel)) (fun _ h9 => h9) rfl dX3_fitsWithout_1 ?_
  refine lv_if_ne (tgt := 21) hx hb dX3_fitsWithout_4 (by decide) (fun hc => ?_) (fun hc => ?_)
  · have hq1 : ve_impossible.toInt ≠ 0 := tq_ne rfl (by decide) hc
    have hb2 := tq_lo ve_impossible
    refine lv_iconst (v := 0) hx hb dX3_fitsWithout_21 (by decide) ?_
    obtain ⟨hP9, hD9⟩ : ct_B D A H [gu qe ve_gap ve_length qe_round ve_impossible ve_firstUnlike qe_lastUnlike qe_places qe_stepsIn qe_passed qe_classes ve_bestBeat ve_bestLeft] := ⟨hP.sub [0] rfl, hD.sub [0] (by decide) rfl⟩
    exact W.zret (v := 0) (ty := .boolean) hx hb hr rfl (fun t ht hW => ⟨⟨0, (), rfl, (Or.inr (⟨rfl, trivial⟩)), by rw [ht]; exact hP9, hD9⟩, hS.F ht⟩) hS.2.2 dX3_fitsWithout_22
  · have hq1 : ve_impossible.toInt = 0 := tq_eq rfl (by decide) hc
    have hb3 := tq_lo ve_impossible
    refine lv_aload_n hx hb dX3_fitsWithout_7 rfl (lv_at hl 0 rfl) ?_
    refine va_get (D := D) (ci := 3) (v := .int ve_firstUnlike) (C := RX3) (T := TX3) (N := 12) hx hb hts hi3 hown hK hP 0 rfl rfl 4 (by decide) (hts (.fieldLink RX3 56 "OverHill$Guess" "firstUnlike" "I") (by decide +kernel)) (fun _ h9 => h9) rfl dX3_fitsWithout_8 ?_
    refine lv_sipush (v := 200) hx hb dX3_fitsWithout_11 (by decide) ?_
    refine lv_icmp_ne (tgt := 21) hx hb dX3_fitsWithout_14 (by decide) (fun hc => ?_) (fun hc => ?_)
    · have hq4 : ve_firstUnlike.toInt ≠ 200 := tq_ne rfl (by decide) hc
      have hb5 := tq_lo ve_firstUnlike
      refine lv_iconst (v := 0) hx hb dX3_fitsWithout_21 (by decide) ?_
      obtain ⟨hP9, hD9⟩ : ct_B D A H [gu qe ve_gap ve_length qe_round ve_impossible ve_firstUnlike qe_lastUnlike qe_places qe_stepsIn qe_passed qe_classes ve_bestBeat ve_bestLeft] := ⟨hP.sub [0] rfl, hD.sub [0] (by decide) rfl⟩
      exact W.zret (v := 0) (ty := .boolean) hx hb hr rfl (fun t ht hW => ⟨⟨0, (), rfl, (Or.inr (⟨rfl, trivial⟩)), by rw [ht]; exact hP9, hD9⟩, hS.F ht⟩) hS.2.2 dX3_fitsWithout_22
    · have hq4 : ve_firstUnlike.toInt = 200 := tq_eq rfl (by decide) hc
      have hb6 := tq_lo ve_firstUnlike
      refine lv_iconst (v := 1) hx hb dX3_fitsWithout_17 (by decide) ?_
      refine lv_goto (tgt := 22) hx hb dX3_fitsWithout_18 (by decide) ?_
      obtain ⟨hP9, hD9⟩ : ct_B D A H [gu qe ve_gap ve_length qe_round ve_impossible ve_firstUnlike qe_lastUnlike qe_places qe_stepsIn qe_passed qe_classes ve_bestBeat ve_bestLeft] := ⟨hP.sub [0] rfl, hD.sub [0] (by decide) rfl⟩
      exact W.zret (v := 1) (ty := .boolean) hx hb hr rfl (fun t ht hW => ⟨⟨1, (), rfl, (Or.inl ⟨rfl, trivial⟩), by rw [ht]; exact hP9, hD9⟩, hS.F ht⟩) hS.2.2 dX3_fitsWithout_22
abbrev w_c_X3_stepsThatFit (cI cJ cB cZ cO : ClassId) (qe : Nat) (ve_gap : Int32) (ve_length : Int32) (qe_round : Nat) (ve_impossible : Int32) (ve_firstUnlike : Int32) (qe_lastUnlike : Nat) (fe_lastUnlike : Nat → Int32) (qe_places : Nat) (fe_places : Nat → Int32) (qe_stepsIn : Nat) (fe_stepsIn : Nat → Int32) (qe_passed : Nat) (qe_classes : Nat) (ve_bestBeat : Int32) (ve_bestLeft : Int32) : va_W := [gu qe ve_gap ve_length qe_round ve_impossible ve_firstUnlike qe_lastUnlike qe_places qe_stepsIn qe_passed qe_classes ve_bestBeat ve_bestLeft, (qe_lastUnlike, .inl (cI, 10, .inl (fe_lastUnlike))), (qe_places, .inl (cI, 200, .inl (fe_places))), (qe_stepsIn, .inl (cI, 60, .inl (fe_stepsIn)))]
set_option maxHeartbeats 4000000 in
set_option maxRecDepth 100000 in
/-- X3 stepsThatFit -/
theorem c_X3_stepsThatFit (l : Launch) (D : va_G) (G : ct_G) (cI cJ cB cZ cO : ClassId) (qe : Nat) (ve_gap : Int32) (ve_length : Int32) (qe_round : Nat) (ve_impossible : Int32) (ve_firstUnlike : Int32) (qe_lastUnlike : Nat) (fe_lastUnlike : Nat → Int32) (qe_places : Nat) (fe_places : Nat → Int32) (qe_stepsIn : Nat) (fe_stepsIn : Nat → Int32) (qe_passed : Nat) (qe_classes : Nat) (ve_bestBeat : Int32) (ve_bestLeft : Int32) (a1 : Int32) (a2 : Int32) (h_ve_gap : 0 ≤ ve_gap.toInt ∧ ve_gap.toInt ≤ 20) (h_ve_length : 0 ≤ ve_length.toInt ∧ ve_length.toInt ≤ 12) (h_a1 : 0 ≤ a1.toInt ∧ a1.toInt ≤ 59) (h_a2 : 0 ≤ a2.toInt ∧ a2.toInt ≤ 9) (sz : Nat) : Met l yX3_stepsThatFit wsX3_stepsThatFit ({ frames := 1, cells := 0, slots := 0, locals := 20 }) (va_Pc [.ref qe, .int a1, .int a2] (ct_P D (ct_T cI cJ cB cZ cO) G (w_c_X3_stepsThatFit cI cJ cB cZ cO qe ve_gap ve_length qe_round ve_impossible ve_firstUnlike qe_lastUnlike fe_lastUnlike qe_places fe_places qe_stepsIn fe_stepsIn qe_passed qe_classes ve_bestBeat ve_bestLeft) sz)) (va_Qi (fun (rz : Int32) (u : Unit) => True) (fun (u : Unit) t => ct_Q D (va_A (w_c_X3_stepsThatFit cI cJ cB cZ cO qe ve_gap ve_length qe_round ve_impossible ve_firstUnlike qe_lastUnlike fe_lastUnlike qe_places fe_places qe_stepsIn fe_stepsIn qe_passed qe_classes ve_bestBeat ve_bestLeft) sz) [gu qe ve_gap ve_length qe_round ve_impossible ve_firstUnlike qe_lastUnlike qe_places qe_stepsIn qe_passed qe_classes ve_bestBeat ve_bestLeft, (qe_lastUnlike, .inl (cI, 10, .inl (fe_lastUnlike))), (qe_places, .inl (cI, 200, .inl (fe_places))), (qe_stepsIn, .inl (cI, 60, .inl (fe_stepsIn)))] t) (va_A (w_c_X3_stepsThatFit cI cJ cB cZ cO qe ve_gap ve_length qe_round ve_impossible ve_firstUnlike qe_lastUnlike fe_lastUnlike qe_places fe_places qe_stepsIn fe_stepsIn qe_passed qe_classes ve_bestBeat ve_bestLeft) sz)) 0 0 (va_A (w_c_X3_stepsThatFit cI cJ cB cZ cO qe ve_gap ve_length qe_round ve_impossible ve_firstUnlike qe_lastUnlike fe_lastUnlike qe_places fe_places qe_stepsIn fe_stepsIn qe_passed qe_classes ve_bestBeat ve_bestLeft) sz) := by
  refine Met.ofW (cc := cX3_stepsThatFit) (maxL := 4) (ret := (some .int)) (by decide) rfl ?_
  intro p e s m args below meth c s₁ B hml hv
  obtain ⟨rfl, hsz, hP, hE, hD0, hH⟩ := hv
  have hx := B.exec
  have hb := B.bytes
  have hr := B.returns
  have hts := atoms_spec (ws := wsX3_stepsThatFit) B.pre
  have hown : s.vm.findClass RX3 = some m.cls := findClass_of_methodNamed B.named
  have hlocks := B.notSynchronized
  have hK := hE.1
  have hi3 : ∀ w ∈ u_ws RX3 TX3 12, w ∈ wsX3_stepsThatFit := fun w h => List.mem_cons_of_mem _ (List.mem_append_right _ h)
  subst hsz
  have hD := hD0.self (sz := s.heap.size)
  generalize hAe : va_A (w_c_X3_stepsThatFit cI cJ cB cZ cO qe ve_gap ve_length qe_round ve_impossible ve_firstUnlike qe_lastUnlike fe_lastUnlike qe_places fe_places qe_stepsIn fe_stepsIn qe_passed qe_classes ve_bestBeat ve_bestLeft) s.heap.size = A at hD hH ⊢
  have hA : ∀ q : Nat, s.heap.size ≤ q → A q := fun q h => by rw [← hAe]; exact Or.inr h
  have hS : va_S A s.heap s.heap [] := va_S.rf
  obtain ⟨hP, hD⟩ : ct_B D A s.heap [gu qe ve_gap ve_length qe_round ve_impossible ve_firstUnlike qe_lastUnlike qe_places qe_stepsIn qe_passed qe_classes ve_bestBeat ve_bestLeft, (qe_lastUnlike, .inl (cI, 10, .inl (fe_lastUnlike))), (qe_places, .inl (cI, 200, .inl (fe_places))), (qe_stepsIn, .inl (cI, 60, .inl (fe_stepsIn)))] := ⟨hP, hD⟩
  have hl := lv_entry ([.ref qe, .int a1, .int a2]) (n := 4) (Nat.le_of_ble_eq_true rfl)
  rw [lg_entry_eq]
  generalize (lg_sl ([.ref qe, .int a1, .int a2]) ++ List.replicate (4 - (lg_sl ([.ref qe, .int a1, .int a2])).length) Slot.unset).toArray = ls at hl ⊢
  have hl : lv_has ls 4 [(0, .ref qe), (1, .int a1), (2, .int a2)] := hl
  obtain ⟨H, hHe⟩ : ∃ H : Heap, H = s.heap := ⟨_, rfl⟩
  rw [← hHe] at hP
  have hS : va_S A s.heap H [] := by rw [hHe]; exact va_S.rf
  refine ct_start hHe ?_
  refine lv_aload_n hx hb dX3_stepsThatFit_0 rfl (lv_at hl 0 rfl) ?_
  refine va_get (D := D) (ci := 3) (v := .ref qe_places) (C := RX3) (T := TX3) (N := 12) hx hb hts hi3 hown hK hP 0 rfl rfl 6 (by decide) (hts (.fieldLink RX3 18 "OverHill$Guess" "places" "[I") (by decide +kernel)) (fun _ h9 => h9) rfl dX3_stepsThatFit_1 ?_
  refine lv_iload_n hx hb dX3_stepsThatFit_4 rfl (lv_at hl 1 rfl) ?_
  refine va_iald (D := D) hx hb hK hP 2 0 rfl rfl (tq_in rfl (by omega)) dX3_stepsThatFit_5 ?_
  refine lv_topi (fun z1 ez1 => ?_)
  refine lv_iconst (v := (-1)) hx hb dX3_stepsThatFit_6 (by decide) ?_
  refine lv_icmp_ne (tgt := 24) hx hb dX3_stepsThatFit_7 (by decide) (fun hc => ?_) (fun hc => ?_)
  · have hq2 : z1.toInt ≠ (-1) := tq_ne rfl (by decide) hc
    have hb3 := tq_lo z1
    refine lv_aload_n hx hb dX3_stepsThatFit_24 rfl (lv_at hl 0 rfl) ?_
    refine va_get (D := D) (ci := 3) (v := .int ve_impossible) (C := RX3) (T := TX3) (N := 12) hx hb hts hi3 hown hK hP 0 rfl rfl 3 (by decide) (hts (.fieldLink RX3 52 "OverHill$Guess" "impossible" "Z") (by decide +kernel)) (fun _ h9 => h9) rfl dX3_stepsThatFit_25 ?_
    refine lv_if_ne (tgt := 53) hx hb dX3_stepsThatFit_28 (by decide) (fun hc => ?_) (fun hc => ?_)
    · have hq4 : ve_impossible.toInt ≠ 0 := tq_ne rfl (by decide) hc
      have hb5 := tq_lo ve_impossible
      refine lv_iconst (v := 0) hx hb dX3_stepsThatFit_53 (by decide) ?_
      refine lv_istore_n (lv' := [(3, .int 0), (0, .ref qe), (1, .int a1), (2, .int a2)]) hx hb dX3_stepsThatFit_54 rfl hl (by decide) rfl (fun ls hl => ?_)
      refine lv_iload_n hx hb dX3_stepsThatFit_55 rfl (lv_at hl 0 rfl) ?_
      refine lv_if_eq (tgt := 68) hx hb dX3_stepsThatFit_56 (by decide) (fun _ => ?_) (fun hc => absurd hc (by decide))
      refine lv_iconst (v := 0) hx hb dX3_stepsThatFit_68 (by decide) ?_
      obtain ⟨hP9, hD9⟩ : ct_B D A H [gu qe ve_gap ve_length qe_round ve_impossible ve_firstUnlike qe_lastUnlike qe_places qe_stepsIn qe_passed qe_classes ve_bestBeat ve_bestLeft, (qe_lastUnlike, .inl (cI, 10, .inl (fe_lastUnlike))), (qe_places, .inl (cI, 200, .inl (fe_places))), (qe_stepsIn, .inl (cI, 60, .inl (fe_stepsIn)))] := ⟨hP.sub [0, 1, 2, 3] rfl, hD.sub [0, 1, 2, 3] (by decide) rfl⟩
      exact W.iret (v := 0) hx hb hr (fun t ht hW => ⟨⟨0, (), rfl, trivial, by rw [ht]; exact hP9, hD9⟩, hS.F ht⟩) hS.2.2 dX3_stepsThatFit_69
    · have hq4 : ve_impossible.toInt = 0 := tq_eq rfl (by decide) hc
      have hb6 := tq_lo ve_impossible
      refine lv_iload_n hx hb dX3_stepsThatFit_31 rfl (lv_at hl 1 rfl) ?_
      refine lv_aload_n hx hb dX3_stepsThatFit_32 rfl (lv_at hl 0 rfl) ?_
      refine va_get (D := D) (ci := 3) (v := .int ve_firstUnlike) (C := RX3) (T := TX3) (N := 12) hx hb hts hi3 hown hK hP 0 rfl rfl 4 (by decide) (hts (.fieldLink RX3 56 "OverHill$Guess" "firstUnlike" "I") (by decide +kernel)) (fun _ h9 => h9) rfl dX3_stepsThatFit_33 ?_
      refine lv_icmp_gt (tgt := 53) hx hb dX3_stepsThatFit_36 (by decide) (fun hc => ?_) (fun hc => ?_)
      · have hq7 : ve_firstUnlike.toInt < a1.toInt := tq_lt rfl rfl hc
        have hb8 := tq_lo ve_firstUnlike
        refine lv_iconst (v := 0) hx hb dX3_stepsThatFit_53 (by decide) ?_
        refine lv_istore_n (lv' := [(3, .int 0), (0, .ref qe), (1, .int a1), (2, .int a2)]) hx hb dX3_stepsThatFit_54 rfl hl (by decide) rfl (fun ls hl => ?_)
        refine lv_iload_n hx hb dX3_stepsThatFit_55 rfl (lv_at hl 0 rfl) ?_
        refine lv_if_eq (tgt := 68) hx hb dX3_stepsThatFit_56 (by decide) (fun _ => ?_) (fun hc => absurd hc (by decide))
        refine lv_iconst (v := 0) hx hb dX3_stepsThatFit_68 (by decide) ?_
        obtain ⟨hP9, hD9⟩ : ct_B D A H [gu qe ve_gap ve_length qe_round ve_impossible ve_firstUnlike qe_lastUnlike qe_places qe_stepsIn qe_passed qe_classes ve_bestBeat ve_bestLeft, (qe_lastUnlike, .inl (cI, 10, .inl (fe_lastUnlike))), (qe_places, .inl (cI, 200, .inl (fe_places))), (qe_stepsIn, .inl (cI, 60, .inl (fe_stepsIn)))] := ⟨hP.sub [0, 1, 2, 3] rfl, hD.sub [0, 1, 2, 3] (by decide) rfl⟩
        exact W.iret (v := 0) hx hb hr (fun t ht hW => ⟨⟨0, (), rfl, trivial, by rw [ht]; exact hP9, hD9⟩, hS.F ht⟩) hS.2.2 dX3_stepsThatFit_69
      · have hq7 : a1.toInt ≤ ve_firstUnlike.toInt := tq_nlt rfl rfl hc
        have hb9 := tq_lo ve_firstUnlike
        refine lv_iload_n hx hb dX3_stepsThatFit_39 rfl (lv_at hl 1 rfl) ?_
        refine lv_aload_n hx hb dX3_stepsThatFit_40 rfl (lv_at hl 0 rfl) ?_
        refine va_get (D := D) (ci := 3) (v := .ref qe_lastUnlike) (C := RX3) (T := TX3) (N := 12) hx hb hts hi3 hown hK hP 0 rfl rfl 5 (by decide) (hts (.fieldLink RX3 15 "OverHill$Guess" "lastUnlike" "[I") (by decide +kernel)) (fun _ h9 => h9) rfl dX3_stepsThatFit_41 ?_
        refine lv_iload_n hx hb dX3_stepsThatFit_44 rfl (lv_at hl 2 rfl) ?_
        refine va_iald (D := D) hx hb hK hP 1 0 rfl rfl (tq_in rfl (by omega)) dX3_stepsThatFit_45 ?_
        refine lv_topi (fun z10 ez10 => ?_)
        refine lv_icmp_lt (tgt := 53) hx hb dX3_stepsThatFit_46 (by decide) (fun hc => ?_) (fun hc => ?_)
        · have hq11 : a1.toInt < z10.toInt := tq_lt rfl rfl hc
          have hb12 := tq_lo z10
          refine lv_iconst (v := 0) hx hb dX3_stepsThatFit_53 (by decide) ?_
          refine lv_istore_n (lv' := [(3, .int 0), (0, .ref qe), (1, .int a1), (2, .int a2)]) hx hb dX3_stepsThatFit_54 rfl hl (by decide) rfl (fun ls hl => ?_)
          refine lv_iload_n hx hb dX3_stepsThatFit_55 rfl (lv_at hl 0 rfl) ?_
          refine lv_if_eq (tgt := 68) hx hb dX3_stepsThatFit_56 (by decide) (fun _ => ?_) (fun hc => absurd hc (by decide))
          refine lv_iconst (v := 0) hx hb dX3_stepsThatFit_68 (by decide) ?_
          obtain ⟨hP9, hD9⟩ : ct_B D A H [gu qe ve_gap ve_length qe_round ve_impossible ve_firstUnlike qe_lastUnlike qe_places qe_stepsIn qe_passed qe_classes ve_bestBeat ve_bestLeft, (qe_lastUnlike, .inl (cI, 10, .inl (fe_lastUnlike))), (qe_places, .inl (cI, 200, .inl (fe_places))), (qe_stepsIn, .inl (cI, 60, .inl (fe_stepsIn)))] := ⟨hP.sub [0, 1, 2, 3] rfl, hD.sub [0, 1, 2, 3] (by decide) rfl⟩
          exact W.iret (v := 0) hx hb hr (fun t ht hW => ⟨⟨0, (), rfl, trivial, by rw [ht]; exact hP9, hD9⟩, hS.F ht⟩) hS.2.2 dX3_stepsThatFit_69
        · have hq11 : z10.toInt ≤ a1.toInt := tq_nlt rfl rfl hc
          have hb13 := tq_lo z10
          refine lv_iconst (v := 1) hx hb dX3_stepsThatFit_49 (by decide) ?_
          refine lv_goto (tgt := 54) hx hb dX3_stepsThatFit_50 (by decide) ?_
          refine lv_istore_n (lv' := [(3, .int 1), (0, .ref qe), (1, .int a1), (2, .int a2)]) hx hb dX3_stepsThatFit_54 rfl hl (by decide) rfl (fun ls hl => ?_)
          refine lv_iload_n hx hb dX3_stepsThatFit_55 rfl (lv_at hl 0 rfl) ?_
          refine lv_if_eq (tgt := 68) hx hb dX3_stepsThatFit_56 (by decide) (fun hc => absurd hc (by decide)) (fun _ => ?_)
          refine lv_aload_n hx hb dX3_stepsThatFit_59 rfl (lv_at hl 1 rfl) ?_
          refine va_get (D := D) (ci := 3) (v := .ref qe_stepsIn) (C := RX3) (T := TX3) (N := 12) hx hb hts hi3 hown hK hP 0 rfl rfl 7 (by decide) (hts (.fieldLink RX3 21 "OverHill$Guess" "stepsIn" "[I") (by decide +kernel)) (fun _ h9 => h9) rfl dX3_stepsThatFit_60 ?_
          refine lv_iload_n hx hb dX3_stepsThatFit_63 rfl (lv_at hl 2 rfl) ?_
          refine va_iald (D := D) hx hb hK hP 3 0 rfl rfl (tq_in rfl (by omega)) dX3_stepsThatFit_64 ?_
          refine lv_topi (fun z14 ez14 => ?_)
          refine lv_goto (tgt := 69) hx hb dX3_stepsThatFit_65 (by decide) ?_
          obtain ⟨hP9, hD9⟩ : ct_B D A H [gu qe ve_gap ve_length qe_round ve_impossible ve_firstUnlike qe_lastUnlike qe_places qe_stepsIn qe_passed qe_classes ve_bestBeat ve_bestLeft, (qe_lastUnlike, .inl (cI, 10, .inl (fe_lastUnlike))), (qe_places, .inl (cI, 200, .inl (fe_places))), (qe_stepsIn, .inl (cI, 60, .inl (fe_stepsIn)))] := ⟨hP.sub [0, 1, 2, 3] rfl, hD.sub [0, 1, 2, 3] (by decide) rfl⟩
          exact W.iret (v := z14) hx hb hr (fun t ht hW => ⟨⟨z14, (), rfl, trivial, by rw [ht]; exact hP9, hD9⟩, hS.F ht⟩) hS.2.2 dX3_stepsThatFit_69
  · have hq2 : z1.toInt = (-1) := tq_eq rfl (by decide) hc
    have hb15 := tq_lo z1
    refine lv_aload_n hx hb dX3_stepsThatFit_10 rfl (lv_at hl 0 rfl) ?_
    refine ct_calli (D := D) (wr := [(qe_lastUnlike, .inl (cI, 10, .inl (fe_lastUnlike))), (qe_places, .inl (cI, 200, .inl (fe_places))), (qe_stepsIn, .inl (cI, 60, .inl (fe_stepsIn)))]) (va_runV (As := []) (rest := []) ⟨hx, hb, hml, hown, hts⟩ (c_X3_fitsWithout l D G cI cJ cB cZ cO qe ve_gap ve_length qe_round ve_impossible ve_firstUnlike qe_lastUnlike qe_places qe_stepsIn qe_passed qe_classes ve_bestBeat ve_bestLeft h_ve_gap h_ve_length H.size) (cwV 0 hts gX3_stepsThatFit_X3_fitsWithout rfl rfl rfl (by decide +kernel) ⟨Nat.le_of_ble_eq_true rfl, Nat.le_of_ble_eq_true rfl⟩) (ct_preV (T := ct_T cI cJ cB cZ cO) (ci := 3) (q0 := 0) hE hH hP hD hS hA [0] (by decide) rfl rfl rfl) rfl rfl hl.1 rfl (lv_room (Nat.le_of_ble_eq_true rfl)) dX3_stepsThatFit_11 ⟨Nat.le_of_ble_eq_true rfl, Nat.le_of_ble_eq_true rfl⟩) hP hD hS hA [0] [1, 2, 3] rfl rfl (by decide) (by decide) (fun r16 u H locs hw hP hD hS => ?_)
    obtain ⟨hP, hD⟩ : ct_B D A H [(qe_lastUnlike, .inl (cI, 10, .inl (fe_lastUnlike))), (qe_places, .inl (cI, 200, .inl (fe_places))), (qe_stepsIn, .inl (cI, 60, .inl (fe_stepsIn))), gu qe ve_gap ve_length qe_round ve_impossible ve_firstUnlike qe_lastUnlike qe_places qe_stepsIn qe_passed qe_classes ve_bestBeat ve_bestLeft] := ⟨hP, hD⟩
    have hz := hw
    rcases hz with ⟨hz, hz2⟩ | ⟨hz, hz2⟩
    · subst hz
      refine lv_if_eq (tgt := 22) hx hb dX3_stepsThatFit_14 (by decide) (fun hc => absurd hc (by decide)) (fun _ => ?_)
      refine lv_bipush (v := 63) hx hb dX3_stepsThatFit_17 (by decide) ?_
      refine lv_goto (tgt := 23) hx hb dX3_stepsThatFit_19 (by decide) ?_
      obtain ⟨hP9, hD9⟩ : ct_B D A H [gu qe ve_gap ve_length qe_round ve_impossible ve_firstUnlike qe_lastUnlike qe_places qe_stepsIn qe_passed qe_classes ve_bestBeat ve_bestLeft, (qe_lastUnlike, .inl (cI, 10, .inl (fe_lastUnlike))), (qe_places, .inl (cI, 200, .inl (fe_places))), (qe_stepsIn, .inl (cI, 60, .inl (fe_stepsIn)))] := ⟨hP.sub [3, 0, 1, 2] rfl, hD.sub [3, 0, 1, 2] (by decide) rfl⟩
      exact W.iret (v := 63) hx hb hr (fun t ht hW => ⟨⟨63, (), rfl, trivial, by rw [ht]; exact hP9, hD9⟩, hS.F ht⟩) hS.2.2 dX3_stepsThatFit_23
    · subst hz
      refine lv_if_eq (tgt := 22) hx hb dX3_stepsThatFit_14 (by decide) (fun _ => ?_) (fun hc => absurd hc (by decide))
      refine lv_iconst (v := 0) hx hb dX3_stepsThatFit_22 (by decide) ?_
      obtain ⟨hP9, hD9⟩ : ct_B D A H [gu qe ve_gap ve_length qe_round ve_impossible ve_firstUnlike qe_lastUnlike qe_places qe_stepsIn qe_passed qe_classes ve_bestBeat ve_bestLeft, (qe_lastUnlike, .inl (cI, 10, .inl (fe_lastUnlike))), (qe_places, .inl (cI, 200, .inl (fe_places))), (qe_stepsIn, .inl (cI, 60, .inl (fe_stepsIn)))] := ⟨hP.sub [3, 0, 1, 2] rfl, hD.sub [3, 0, 1, 2] (by decide) rfl⟩
      exact W.iret (v := 0) hx hb hr (fun t ht hW => ⟨⟨0, (), rfl, trivial, by rw [ht]; exact hP9, hD9⟩, hS.F ht⟩) hS.2.2 dX3_stepsThatFit_23
abbrev w_c_X3_hear (cI cJ cB cZ cO : ClassId) (qe : Nat) (ve_gap : Int32) (ve_length : Int32) (qe_round : Nat) (fe_round : Nat → Int32) (ve_impossible : Int32) (ve_firstUnlike : Int32) (qe_lastUnlike : Nat) (fe_lastUnlike : Nat → Int32) (qe_places : Nat) (fe_places : Nat → Int32) (qe_stepsIn : Nat) (fe_stepsIn : Nat → Int32) (qe_passed : Nat) (qe_classes : Nat) (ve_bestBeat : Int32) (ve_bestLeft : Int32) : va_W := [gu qe ve_gap ve_length qe_round ve_impossible ve_firstUnlike qe_lastUnlike qe_places qe_stepsIn qe_passed qe_classes ve_bestBeat ve_bestLeft, (qe_round, .inl (cI, 12, .inl (fe_round))), (qe_lastUnlike, .inl (cI, 10, .inl (fe_lastUnlike))), (qe_places, .inl (cI, 200, .inl (fe_places))), (qe_stepsIn, .inl (cI, 60, .inl (fe_stepsIn)))]
set_option maxHeartbeats 4000000 in
set_option maxRecDepth 100000 in
/-- X3 hear -/
theorem c_X3_hear (l : Launch) (D : va_G) (G : ct_G) (cI cJ cB cZ cO : ClassId) (qe : Nat) (ve_gap : Int32) (ve_length : Int32) (qe_round : Nat) (fe_round : Nat → Int32) (ve_impossible : Int32) (ve_firstUnlike : Int32) (qe_lastUnlike : Nat) (fe_lastUnlike : Nat → Int32) (qe_places : Nat) (fe_places : Nat → Int32) (qe_stepsIn : Nat) (fe_stepsIn : Nat → Int32) (qe_passed : Nat) (qe_classes : Nat) (ve_bestBeat : Int32) (ve_bestLeft : Int32) (a1 : Int32) (a2 : Int32) (h_ve_gap : 0 ≤ ve_gap.toInt ∧ ve_gap.toInt ≤ 20) (h_ve_length : 0 ≤ ve_length.toInt ∧ ve_length.toInt ≤ 12) (h_fe_round : ar_ok [0] [5] fe_round) (h_a1 : 0 ≤ a1.toInt ∧ a1.toInt ≤ 199) (sz : Nat) : Met l yX3_hear wsX3_hear ({ frames := 3, cells := 0, slots := 0, locals := 65 }) (va_Pc [.ref qe, .int a1, .int a2] (ct_P D (ct_T cI cJ cB cZ cO) G (w_c_X3_hear cI cJ cB cZ cO qe ve_gap ve_length qe_round fe_round ve_impossible ve_firstUnlike qe_lastUnlike fe_lastUnlike qe_places fe_places qe_stepsIn fe_stepsIn qe_passed qe_classes ve_bestBeat ve_bestLeft) sz)) (va_Qv (fun (u : Int32 × Int32 × (Nat → Int32) × (Nat → Int32)) => True) (fun (u : Int32 × Int32 × (Nat → Int32) × (Nat → Int32)) t => ct_Q D (va_A (w_c_X3_hear cI cJ cB cZ cO qe ve_gap ve_length qe_round fe_round ve_impossible ve_firstUnlike qe_lastUnlike fe_lastUnlike qe_places fe_places qe_stepsIn fe_stepsIn qe_passed qe_classes ve_bestBeat ve_bestLeft) sz) [gu qe ve_gap ve_length qe_round u.1 u.2.1 qe_lastUnlike qe_places qe_stepsIn qe_passed qe_classes ve_bestBeat ve_bestLeft, (qe_round, .inl (cI, 12, .inl (fe_round))), (qe_lastUnlike, .inl (cI, 10, .inl (u.2.2.1))), (qe_places, .inl (cI, 200, .inl (fe_places))), (qe_stepsIn, .inl (cI, 60, .inl (u.2.2.2)))] t) (va_A (w_c_X3_hear cI cJ cB cZ cO qe ve_gap ve_length qe_round fe_round ve_impossible ve_firstUnlike qe_lastUnlike fe_lastUnlike qe_places fe_places qe_stepsIn fe_stepsIn qe_passed qe_classes ve_bestBeat ve_bestLeft) sz)) 0 0 (va_A (w_c_X3_hear cI cJ cB cZ cO qe ve_gap ve_length qe_round fe_round ve_impossible ve_firstUnlike qe_lastUnlike fe_lastUnlike qe_places fe_places qe_stepsIn fe_stepsIn qe_passed qe_classes ve_bestBeat ve_bestLeft) sz) := by
  refine Met.ofW (cc := cX3_hear) (maxL := 5) (ret := none) (by decide) rfl ?_
  intro p e s m args below meth c s₁ B hml hv
  obtain ⟨rfl, hsz, hP, hE, hD0, hH⟩ := hv
  have hx := B.exec
  have hb := B.bytes
  have hr := B.returns
  have hts := atoms_spec (ws := wsX3_hear) B.pre
  have hown : s.vm.findClass RX3 = some m.cls := findClass_of_methodNamed B.named
  have hlocks := B.notSynchronized
  have hK := hE.1
  have hi3 : ∀ w ∈ u_ws RX3 TX3 12, w ∈ wsX3_hear := fun w h => List.mem_cons_of_mem _ (List.mem_append_right _ h)
  subst hsz
  have hD := hD0.self (sz := s.heap.size)
  generalize hAe : va_A (w_c_X3_hear cI cJ cB cZ cO qe ve_gap ve_length qe_round fe_round ve_impossible ve_firstUnlike qe_lastUnlike fe_lastUnlike qe_places fe_places qe_stepsIn fe_stepsIn qe_passed qe_classes ve_bestBeat ve_bestLeft) s.heap.size = A at hD hH ⊢
  have hA : ∀ q : Nat, s.heap.size ≤ q → A q := fun q h => by rw [← hAe]; exact Or.inr h
  have hS : va_S A s.heap s.heap [] := va_S.rf
  obtain ⟨hP, hD⟩ : ct_B D A s.heap [gu qe ve_gap ve_length qe_round ve_impossible ve_firstUnlike qe_lastUnlike qe_places qe_stepsIn qe_passed qe_classes ve_bestBeat ve_bestLeft, (qe_round, .inl (cI, 12, .inl (fe_round))), (qe_lastUnlike, .inl (cI, 10, .inl (fe_lastUnlike))), (qe_places, .inl (cI, 200, .inl (fe_places))), (qe_stepsIn, .inl (cI, 60, .inl (fe_stepsIn)))] := ⟨hP, hD⟩
  have hl := lv_entry ([.ref qe, .int a1, .int a2]) (n := 5) (Nat.le_of_ble_eq_true rfl)
  rw [lg_entry_eq]
  generalize (lg_sl ([.ref qe, .int a1, .int a2]) ++ List.replicate (5 - (lg_sl ([.ref qe, .int a1, .int a2])).length) Slot.unset).toArray = ls at hl ⊢
  have hl : lv_has ls 5 [(0, .ref qe), (1, .int a1), (2, .int a2)] := hl
  obtain ⟨H, hHe⟩ : ∃ H : Heap, H = s.heap := ⟨_, rfl⟩
  rw [← hHe] at hP
  have hS : va_S A s.heap H [] := by rw [hHe]; exact va_S.rf
  refine ct_start hHe ?_
  refine lv_iload_n hx hb dX3_hear_0 rfl (lv_at hl 1 rfl) ?_
  refine lv_aload_n hx hb dX3_hear_1 rfl (lv_at hl 0 rfl) ?_
  refine va_get (D := D) (ci := 3) (v := .int ve_gap) (C := RX3) (T := TX3) (N := 12) hx hb hts hi3 hown hK hP 0 rfl rfl 0 (by decide) (hts (.fieldLink RX3 36 "OverHill$Guess" "gap" "I") (by decide +kernel)) (fun _ h9 => h9) rfl dX3_hear_2 ?_
  refine lv_isub hx hb dX3_hear_5 ?_
  refine lv_topi (fun z1 ez1 => ?_)
  have fz1 : z1.toInt = a1.toInt - ve_gap.toInt := by rw [ez1]; exact tq_subt rfl rfl (by omega)
  refine lv_istore_n (lv' := [(3, .int z1), (0, .ref qe), (1, .int a1), (2, .int a2)]) hx hb dX3_hear_6 rfl hl (by decide) rfl (fun ls hl => ?_)
  refine lv_iload_n hx hb dX3_hear_7 rfl (lv_at hl 0 rfl) ?_
  refine lv_if_lt (tgt := 21) hx hb dX3_hear_8 (by decide) (fun hc => ?_) (fun hc => ?_)
  · have hq2 : z1.toInt < 0 := tq_lt rfl (by decide) hc
    refine lv_aload_n hx hb dX3_hear_21 rfl (lv_at hl 1 rfl) ?_
    refine lv_aload_n hx hb dX3_hear_22 rfl (lv_at hl 1 rfl) ?_
    refine va_get (D := D) (ci := 3) (v := .int ve_impossible) (C := RX3) (T := TX3) (N := 12) hx hb hts hi3 hown hK hP 0 rfl rfl 3 (by decide) (hts (.fieldLink RX3 52 "OverHill$Guess" "impossible" "Z") (by decide +kernel)) (fun _ h9 => h9) rfl dX3_hear_23 ?_
    refine lv_if_ne (tgt := 34) hx hb dX3_hear_26 (by decide) (fun hc => ?_) (fun hc => ?_)
    · have hq3 : ve_impossible.toInt ≠ 0 := tq_ne rfl (by decide) hc
      have hb4 := tq_lo ve_impossible
      refine lv_iconst (v := 1) hx hb dX3_hear_34 (by decide) ?_
      refine lv_goto (tgt := 39) hx hb dX3_hear_35 (by decide) ?_
      refine va_put (D := D) (ci := 3) (v := .int 1) (ty := .boolean) (C := RX3) (T := TX3) (N := 12) hx hb hts hi3 tyX3 tyX3_ok nmX3 hown hK hP hD hS 0 rfl rfl 3 (by decide) (hts (.fieldLink RX3 52 "OverHill$Guess" "impossible" "Z") (by decide +kernel)) (fun _ h9 => h9) rfl (by decide +kernel) rfl rfl (Nat.le_of_ble_eq_true rfl) dX3_hear_39 (fun H locs hP hD hS => ?_)
      obtain ⟨hP, hD⟩ : ct_B D A H [gu qe ve_gap ve_length qe_round 1 ve_firstUnlike qe_lastUnlike qe_places qe_stepsIn qe_passed qe_classes ve_bestBeat ve_bestLeft, (qe_round, .inl (cI, 12, .inl (fe_round))), (qe_lastUnlike, .inl (cI, 10, .inl (fe_lastUnlike))), (qe_places, .inl (cI, 200, .inl (fe_places))), (qe_stepsIn, .inl (cI, 60, .inl (fe_stepsIn)))] := ⟨hP, hD⟩
      obtain ⟨hP9, hD9⟩ : ct_B D A H [gu qe ve_gap ve_length qe_round 1 ve_firstUnlike qe_lastUnlike qe_places qe_stepsIn qe_passed qe_classes ve_bestBeat ve_bestLeft, (qe_round, .inl (cI, 12, .inl (fe_round))), (qe_lastUnlike, .inl (cI, 10, .inl (fe_lastUnlike))), (qe_places, .inl (cI, 200, .inl (fe_places))), (qe_stepsIn, .inl (cI, 60, .inl (fe_stepsIn)))] := ⟨hP.sub [0, 1, 2, 3, 4] rfl, hD.sub [0, 1, 2, 3, 4] (by decide) rfl⟩
      exact W.vret hx hb hr (fun t ht hW => ⟨⟨((1 : Int32), ve_firstUnlike, fe_lastUnlike, fe_stepsIn), rfl, trivial, by rw [ht]; exact hP9, hD9⟩, hS.F ht⟩) hS.2.2 dX3_hear_42
    · have hq3 : ve_impossible.toInt = 0 := tq_eq rfl (by decide) hc
      have hb5 := tq_lo ve_impossible
      refine lv_iload_n hx hb dX3_hear_29 rfl (lv_at hl 3 rfl) ?_
      refine lv_iconst (v := (-1)) hx hb dX3_hear_30 (by decide) ?_
      refine lv_icmp_eq (tgt := 38) hx hb dX3_hear_31 (by decide) (fun hc => ?_) (fun hc => ?_)
      · have hq6 : a2.toInt = (-1) := tq_eq rfl (by decide) hc
        have hb7 := tq_lo a2
        refine lv_iconst (v := 0) hx hb dX3_hear_38 (by decide) ?_
        refine va_put (D := D) (ci := 3) (v := .int 0) (ty := .boolean) (C := RX3) (T := TX3) (N := 12) hx hb hts hi3 tyX3 tyX3_ok nmX3 hown hK hP hD hS 0 rfl rfl 3 (by decide) (hts (.fieldLink RX3 52 "OverHill$Guess" "impossible" "Z") (by decide +kernel)) (fun _ h9 => h9) rfl (by decide +kernel) rfl rfl (Nat.le_of_ble_eq_true rfl) dX3_hear_39 (fun H locs hP hD hS => ?_)
        obtain ⟨hP, hD⟩ : ct_B D A H [gu qe ve_gap ve_length qe_round 0 ve_firstUnlike qe_lastUnlike qe_places qe_stepsIn qe_passed qe_classes ve_bestBeat ve_bestLeft, (qe_round, .inl (cI, 12, .inl (fe_round))), (qe_lastUnlike, .inl (cI, 10, .inl (fe_lastUnlike))), (qe_places, .inl (cI, 200, .inl (fe_places))), (qe_stepsIn, .inl (cI, 60, .inl (fe_stepsIn)))] := ⟨hP, hD⟩
        obtain ⟨hP9, hD9⟩ : ct_B D A H [gu qe ve_gap ve_length qe_round 0 ve_firstUnlike qe_lastUnlike qe_places qe_stepsIn qe_passed qe_classes ve_bestBeat ve_bestLeft, (qe_round, .inl (cI, 12, .inl (fe_round))), (qe_lastUnlike, .inl (cI, 10, .inl (fe_lastUnlike))), (qe_places, .inl (cI, 200, .inl (fe_places))), (qe_stepsIn, .inl (cI, 60, .inl (fe_stepsIn)))] := ⟨hP.sub [0, 1, 2, 3, 4] rfl, hD.sub [0, 1, 2, 3, 4] (by decide) rfl⟩
        exact W.vret hx hb hr (fun t ht hW => ⟨⟨((0 : Int32), ve_firstUnlike, fe_lastUnlike, fe_stepsIn), rfl, trivial, by rw [ht]; exact hP9, hD9⟩, hS.F ht⟩) hS.2.2 dX3_hear_42
      · have hq6 : a2.toInt ≠ (-1) := tq_ne rfl (by decide) hc
        have hb8 := tq_lo a2
        refine lv_iconst (v := 1) hx hb dX3_hear_34 (by decide) ?_
        refine lv_goto (tgt := 39) hx hb dX3_hear_35 (by decide) ?_
        refine va_put (D := D) (ci := 3) (v := .int 1) (ty := .boolean) (C := RX3) (T := TX3) (N := 12) hx hb hts hi3 tyX3 tyX3_ok nmX3 hown hK hP hD hS 0 rfl rfl 3 (by decide) (hts (.fieldLink RX3 52 "OverHill$Guess" "impossible" "Z") (by decide +kernel)) (fun _ h9 => h9) rfl (by decide +kernel) rfl rfl (Nat.le_of_ble_eq_true rfl) dX3_hear_39 (fun H locs hP hD hS => ?_)
        obtain ⟨hP, hD⟩ : ct_B D A H [gu qe ve_gap ve_length qe_round 1 ve_firstUnlike qe_lastUnlike qe_places qe_stepsIn qe_passed qe_classes ve_bestBeat ve_bestLeft, (qe_round, .inl (cI, 12, .inl (fe_round))), (qe_lastUnlike, .inl (cI, 10, .inl (fe_lastUnlike))), (qe_places, .inl (cI, 200, .inl (fe_places))), (qe_stepsIn, .inl (cI, 60, .inl (fe_stepsIn)))] := ⟨hP, hD⟩
        obtain ⟨hP9, hD9⟩ : ct_B D A H [gu qe ve_gap ve_length qe_round 1 ve_firstUnlike qe_lastUnlike qe_places qe_stepsIn qe_passed qe_classes ve_bestBeat ve_bestLeft, (qe_round, .inl (cI, 12, .inl (fe_round))), (qe_lastUnlike, .inl (cI, 10, .inl (fe_lastUnlike))), (qe_places, .inl (cI, 200, .inl (fe_places))), (qe_stepsIn, .inl (cI, 60, .inl (fe_stepsIn)))] := ⟨hP.sub [0, 1, 2, 3, 4] rfl, hD.sub [0, 1, 2, 3, 4] (by decide) rfl⟩
        exact W.vret hx hb hr (fun t ht hW => ⟨⟨((1 : Int32), ve_firstUnlike, fe_lastUnlike, fe_stepsIn), rfl, trivial, by rw [ht]; exact hP9, hD9⟩, hS.F ht⟩) hS.2.2 dX3_hear_42
  · have hq2 : 0 ≤ z1.toInt := tq_nlt rfl (by decide) hc
    refine lv_aload_n hx hb dX3_hear_11 rfl (lv_at hl 1 rfl) ?_
    refine va_get (D := D) (ci := 3) (v := .ref qe_places) (C := RX3) (T := TX3) (N := 12) hx hb hts hi3 hown hK hP 0 rfl rfl 6 (by decide) (hts (.fieldLink RX3 18 "OverHill$Guess" "places" "[I") (by decide +kernel)) (fun _ h9 => h9) rfl dX3_hear_12 ?_
    refine lv_iload_n hx hb dX3_hear_15 rfl (lv_at hl 0 rfl) ?_
    refine va_iald (D := D) hx hb hK hP 3 0 rfl rfl (tq_in rfl (by omega)) dX3_hear_16 ?_
    refine lv_topi (fun z9 ez9 => ?_)
    refine lv_iconst (v := (-1)) hx hb dX3_hear_17 (by decide) ?_
    refine lv_icmp_ne (tgt := 43) hx hb dX3_hear_18 (by decide) (fun hc => ?_) (fun hc => ?_)
    · have hq10 : z9.toInt ≠ (-1) := tq_ne rfl (by decide) hc
      have hb11 := tq_lo z9
      refine lv_aload_n hx hb dX3_hear_43 rfl (lv_at hl 1 rfl) ?_
      refine lv_iload_n hx hb dX3_hear_44 rfl (lv_at hl 0 rfl) ?_
      refine lv_iconst (v := 0) hx hb dX3_hear_45 (by decide) ?_
      refine ct_calli (D := D) (wr := [(qe_lastUnlike, .inl (cI, 10, .inl (fe_lastUnlike))), (qe_stepsIn, .inl (cI, 60, .inl (fe_stepsIn)))]) (va_runV (As := [.int z1, .int 0]) (rest := []) ⟨hx, hb, hml, hown, hts⟩ (c_X3_stepBack l D G cI cJ cB cZ cO qe ve_gap ve_length qe_round fe_round ve_impossible ve_firstUnlike qe_lastUnlike qe_places fe_places qe_stepsIn qe_passed qe_classes ve_bestBeat ve_bestLeft z1 0 h_ve_gap h_ve_length h_fe_round (by omega) H.size) (cwV 2 hts gX3_hear_X3_stepBack rfl rfl rfl (by decide +kernel) ⟨Nat.le_of_ble_eq_true rfl, Nat.le_of_ble_eq_true rfl⟩) (ct_preV (T := ct_T cI cJ cB cZ cO) (ci := 3) (q0 := 0) hE hH hP hD hS hA [0, 1, 3] (by decide) rfl rfl rfl) rfl rfl hl.1 rfl (lv_room (Nat.le_of_ble_eq_true rfl)) dX3_hear_46 ⟨Nat.le_of_ble_eq_true rfl, Nat.le_of_ble_eq_true rfl⟩) hP hD hS hA [0, 1, 3] [2, 4] rfl rfl (by decide) (by decide) (fun r12 u H locs hw hP hD hS => ?_)
      obtain ⟨hP, hD⟩ : ct_B D A H [(qe_lastUnlike, .inl (cI, 10, .inl (fe_lastUnlike))), (qe_stepsIn, .inl (cI, 60, .inl (fe_stepsIn))), gu qe ve_gap ve_length qe_round ve_impossible ve_firstUnlike qe_lastUnlike qe_places qe_stepsIn qe_passed qe_classes ve_bestBeat ve_bestLeft, (qe_round, .inl (cI, 12, .inl (fe_round))), (qe_places, .inl (cI, 200, .inl (fe_places)))] := ⟨hP, hD⟩
      have hz := hw
      have h_r12 : 0 ≤ r12.toInt ∧ r12.toInt ≤ 5 := hz
      refine lv_iload_n hx hb dX3_hear_49 rfl (lv_at hl 3 rfl) ?_
      refine lv_icmp_eq (tgt := 65) hx hb dX3_hear_50 (by decide) (fun hc => ?_) (fun hc => ?_)
      · have hq13 : r12.toInt = a2.toInt := tq_eq rfl rfl hc
        have hb14 := tq_lo a2
        refine lv_iconst (v := 0) hx hb dX3_hear_65 (by decide) ?_
        refine lv_istore (lv' := [(4, .int 0), (3, .int z1), (0, .ref qe), (1, .int a1), (2, .int a2)]) hx hb dX3_hear_66 hl (by decide) rfl (fun ls hl => ?_)
        refine ct_loop (X := (Nat → Int32) × Int32) (fun x => (10 - x.2.toInt).toNat) (fun x H locs ls => ((0 ≤ x.2.toInt ∧ x.2.toInt ≤ 10)) ∧ ct_B D A H [(qe_lastUnlike, .inl (cI, 10, .inl (x.1))), (qe_stepsIn, .inl (cI, 60, .inl (fe_stepsIn))), gu qe ve_gap ve_length qe_round ve_impossible ve_firstUnlike qe_lastUnlike qe_places qe_stepsIn qe_passed qe_classes ve_bestBeat ve_bestLeft, (qe_round, .inl (cI, 12, .inl (fe_round))), (qe_places, .inl (cI, 200, .inl (fe_places)))] ∧ va_S A s.heap H locs ∧ lv_has ls 5 [(4, .int x.2), (3, .int z1), (0, .ref qe), (1, .int a1), (2, .int a2)]) 68 (fe_lastUnlike, (0 : Int32)) ⟨(show 0 ≤ (0 : Int32).toInt ∧ (0 : Int32).toInt ≤ 10 by decide), ⟨hP, hD⟩, hS, lv_sub hl [0, 1, 2, 3, 4] rfl⟩ (fun x ih94 H locs ls hI => ?_)
        obtain ⟨g92, x93⟩ := x
        obtain ⟨h_x93, ⟨hP, hD⟩, hS, hl⟩ := hI
        have h_x93 : (0 ≤ x93.toInt ∧ x93.toInt ≤ 10) := h_x93
        obtain ⟨hP, hD⟩ : ct_B D A H [(qe_lastUnlike, .inl (cI, 10, .inl (g92))), (qe_stepsIn, .inl (cI, 60, .inl (fe_stepsIn))), gu qe ve_gap ve_length qe_round ve_impossible ve_firstUnlike qe_lastUnlike qe_places qe_stepsIn qe_passed qe_classes ve_bestBeat ve_bestLeft, (qe_round, .inl (cI, 12, .inl (fe_round))), (qe_places, .inl (cI, 200, .inl (fe_places)))] := ⟨hP, hD⟩
        have hl : lv_has ls 5 [(4, .int x93), (3, .int z1), (0, .ref qe), (1, .int a1), (2, .int a2)] := hl
        refine lv_iload hx hb dX3_hear_68 (lv_at hl 0 rfl) ?_
        refine lv_bipush (v := 10) hx hb dX3_hear_70 (by decide) ?_
        refine lv_icmp_ge (tgt := 110) hx hb dX3_hear_72 (by decide) (fun hc => ?_) (fun hc => ?_)
        · have hq95 : 10 ≤ x93.toInt := tq_le (by decide) rfl hc
          refine lv_iload_n hx hb dX3_hear_110 rfl (lv_at hl 1 rfl) ?_
          refine lv_bipush (v := 60) hx hb dX3_hear_111 (by decide) ?_
          refine lv_icmp_ge (tgt := 137) hx hb dX3_hear_113 (by decide) (fun hc => ?_) (fun hc => ?_)
          · have hq96 : 60 ≤ z1.toInt := tq_le (by decide) rfl hc
            obtain ⟨hP9, hD9⟩ : ct_B D A H [gu qe ve_gap ve_length qe_round ve_impossible ve_firstUnlike qe_lastUnlike qe_places qe_stepsIn qe_passed qe_classes ve_bestBeat ve_bestLeft, (qe_round, .inl (cI, 12, .inl (fe_round))), (qe_lastUnlike, .inl (cI, 10, .inl (g92))), (qe_places, .inl (cI, 200, .inl (fe_places))), (qe_stepsIn, .inl (cI, 60, .inl (fe_stepsIn)))] := ⟨hP.sub [2, 3, 0, 4, 1] rfl, hD.sub [2, 3, 0, 4, 1] (by decide) rfl⟩
            exact W.vret hx hb hr (fun t ht hW => ⟨⟨(ve_impossible, ve_firstUnlike, g92, fe_stepsIn), rfl, trivial, by rw [ht]; exact hP9, hD9⟩, hS.F ht⟩) hS.2.2 dX3_hear_137
          · have hq96 : z1.toInt < 60 := tq_nle (by decide) rfl hc
            refine lv_aload_n hx hb dX3_hear_116 rfl (lv_at hl 2 rfl) ?_
            refine va_get (D := D) (ci := 3) (v := .ref qe_stepsIn) (C := RX3) (T := TX3) (N := 12) hx hb hts hi3 hown hK hP 2 rfl rfl 7 (by decide) (hts (.fieldLink RX3 21 "OverHill$Guess" "stepsIn" "[I") (by decide +kernel)) (fun _ h9 => h9) rfl dX3_hear_117 ?_
            refine lv_iload_n hx hb dX3_hear_120 rfl (lv_at hl 1 rfl) ?_
            refine lv_dup2_11 hx hb dX3_hear_121 rfl rfl ?_
            refine va_iald (D := D) hx hb hK hP 1 0 rfl rfl (tq_in rfl (by omega)) dX3_hear_122 ?_
            refine lv_topi (fun z97 ez97 => ?_)
            refine lv_iload_n hx hb dX3_hear_123 rfl (lv_at hl 4 rfl) ?_
            refine lv_iconst (v := (-1)) hx hb dX3_hear_124 (by decide) ?_
            refine lv_icmp_ne (tgt := 132) hx hb dX3_hear_125 (by decide) (fun hc => ?_) (fun hc => ?_)
            · have hq98 : a2.toInt ≠ (-1) := tq_ne rfl (by decide) hc
              refine lv_iconst (v := 1) hx hb dX3_hear_132 (by decide) ?_
              refine lv_iload_n hx hb dX3_hear_133 rfl (lv_at hl 4 rfl) ?_
              refine lv_ishl hx hb dX3_hear_134 ?_
              refine lv_topi (fun z99 ez99 => ?_)
              have fz99 : 1 ≤ z99.toInt ∧ z99.toInt ≤ 32 := by rw [ez99]; exact tq_shl5 rfl (by omega)
              refine lv_iand hx hb dX3_hear_135 ?_
              refine lv_topi (fun z100 ez100 => ?_)
              refine va_iast (D := D) hx hb hK hP hD hS 1 0 rfl rfl (tq_in rfl (by omega)) dX3_hear_136 (fun H locs hP hD hS => ?_)
              obtain ⟨g101, hP, hD⟩ : ∃ g101 : Nat → Int32, ct_B D A H [(qe_lastUnlike, .inl (cI, 10, .inl (g92))), (qe_stepsIn, .inl (cI, 60, .inl (g101))), gu qe ve_gap ve_length qe_round ve_impossible ve_firstUnlike qe_lastUnlike qe_places qe_stepsIn qe_passed qe_classes ve_bestBeat ve_bestLeft, (qe_round, .inl (cI, 12, .inl (fe_round))), (qe_places, .inl (cI, 200, .inl (fe_places)))] := ⟨_, hP, hD⟩
              obtain ⟨hP9, hD9⟩ : ct_B D A H [gu qe ve_gap ve_length qe_round ve_impossible ve_firstUnlike qe_lastUnlike qe_places qe_stepsIn qe_passed qe_classes ve_bestBeat ve_bestLeft, (qe_round, .inl (cI, 12, .inl (fe_round))), (qe_lastUnlike, .inl (cI, 10, .inl (g92))), (qe_places, .inl (cI, 200, .inl (fe_places))), (qe_stepsIn, .inl (cI, 60, .inl (g101)))] := ⟨hP.sub [2, 3, 0, 4, 1] rfl, hD.sub [2, 3, 0, 4, 1] (by decide) rfl⟩
              exact W.vret hx hb hr (fun t ht hW => ⟨⟨(ve_impossible, ve_firstUnlike, g92, g101), rfl, trivial, by rw [ht]; exact hP9, hD9⟩, hS.F ht⟩) hS.2.2 dX3_hear_137
            · have hq98 : a2.toInt = (-1) := tq_eq rfl (by decide) hc
              omega
        · have hq95 : x93.toInt < 10 := tq_nle (by decide) rfl hc
          refine lv_aload_n hx hb dX3_hear_75 rfl (lv_at hl 2 rfl) ?_
          refine lv_iload_n hx hb dX3_hear_76 rfl (lv_at hl 1 rfl) ?_
          refine lv_iload hx hb dX3_hear_77 (lv_at hl 0 rfl) ?_
          refine ct_calli (D := D) (wr := [(qe_lastUnlike, .inl (cI, 10, .inl (g92))), (qe_stepsIn, .inl (cI, 60, .inl (fe_stepsIn)))]) (va_runV (As := [.int z1, .int x93]) (rest := []) ⟨hx, hb, hml, hown, hts⟩ (c_X3_stepBack l D G cI cJ cB cZ cO qe ve_gap ve_length qe_round fe_round ve_impossible ve_firstUnlike qe_lastUnlike qe_places fe_places qe_stepsIn qe_passed qe_classes ve_bestBeat ve_bestLeft z1 x93 h_ve_gap h_ve_length h_fe_round (by omega) H.size) (cwV 2 hts gX3_hear_X3_stepBack rfl rfl rfl (by decide +kernel) ⟨Nat.le_of_ble_eq_true rfl, Nat.le_of_ble_eq_true rfl⟩) (ct_preV (T := ct_T cI cJ cB cZ cO) (ci := 3) (q0 := 2) hE hH hP hD hS hA [2, 3, 4] (by decide) rfl rfl rfl) rfl rfl hl.1 rfl (lv_room (Nat.le_of_ble_eq_true rfl)) dX3_hear_79 ⟨Nat.le_of_ble_eq_true rfl, Nat.le_of_ble_eq_true rfl⟩) hP hD hS hA [2, 3, 4] [0, 1] rfl rfl (by decide) (by decide) (fun r102 u H locs hw hP hD hS => ?_)
          obtain ⟨hP, hD⟩ : ct_B D A H [(qe_lastUnlike, .inl (cI, 10, .inl (g92))), (qe_stepsIn, .inl (cI, 60, .inl (fe_stepsIn))), gu qe ve_gap ve_length qe_round ve_impossible ve_firstUnlike qe_lastUnlike qe_places qe_stepsIn qe_passed qe_classes ve_bestBeat ve_bestLeft, (qe_round, .inl (cI, 12, .inl (fe_round))), (qe_places, .inl (cI, 200, .inl (fe_places)))] := ⟨hP, hD⟩
          have hz := hw
          have h_r102 : 0 ≤ r102.toInt ∧ r102.toInt ≤ 5 := hz
          refine lv_iload_n hx hb dX3_hear_82 rfl (lv_at hl 4 rfl) ?_
          refine lv_icmp_eq (tgt := 104) hx hb dX3_hear_83 (by decide) (fun hc => ?_) (fun hc => ?_)
          · have hq103 : r102.toInt = a2.toInt := tq_eq rfl rfl hc
            obtain ⟨z104, ez104⟩ : ∃ z : Int32, z = x93 + 1 := ⟨_, rfl⟩
            have fz104 : z104.toInt = x93.toInt + 1 := by rw [ez104]; exact tq_add rfl (by decide) (by omega)
            refine lv_iinc (v := z104) (lv' := [(4, .int z104), (3, .int z1), (0, .ref qe), (1, .int a1), (2, .int a2)]) hx hb dX3_hear_104 hl (k := 0) rfl ez104.symm (by decide) rfl (fun ls hl => ?_)
            refine lv_goto (tgt := 68) hx hb dX3_hear_107 (by decide) ?_
            exact ih94 (g92, z104) _ _ _ (show (10 - z104.toInt).toNat < (10 - x93.toInt).toNat by omega) ⟨(show 0 ≤ z104.toInt ∧ z104.toInt ≤ 10 by omega), ⟨hP, hD⟩, hS, lv_sub hl [0, 1, 2, 3, 4] rfl⟩
          · have hq103 : r102.toInt ≠ a2.toInt := tq_ne rfl rfl hc
            refine lv_aload_n hx hb dX3_hear_86 rfl (lv_at hl 2 rfl) ?_
            refine va_get (D := D) (ci := 3) (v := .ref qe_lastUnlike) (C := RX3) (T := TX3) (N := 12) hx hb hts hi3 hown hK hP 2 rfl rfl 5 (by decide) (hts (.fieldLink RX3 15 "OverHill$Guess" "lastUnlike" "[I") (by decide +kernel)) (fun _ h9 => h9) rfl dX3_hear_87 ?_
            refine lv_iload hx hb dX3_hear_90 (lv_at hl 0 rfl) ?_
            refine lv_aload_n hx hb dX3_hear_92 rfl (lv_at hl 2 rfl) ?_
            refine va_get (D := D) (ci := 3) (v := .ref qe_lastUnlike) (C := RX3) (T := TX3) (N := 12) hx hb hts hi3 hown hK hP 2 rfl rfl 5 (by decide) (hts (.fieldLink RX3 15 "OverHill$Guess" "lastUnlike" "[I") (by decide +kernel)) (fun _ h9 => h9) rfl dX3_hear_93 ?_
            refine lv_iload hx hb dX3_hear_96 (lv_at hl 0 rfl) ?_
            refine va_iald (D := D) hx hb hK hP 0 0 rfl rfl (tq_in rfl (by omega)) dX3_hear_98 ?_
            refine lv_topi (fun z105 ez105 => ?_)
            refine lv_iload_n hx hb dX3_hear_99 rfl (lv_at hl 1 rfl) ?_
            refine va_mmax hx hb (hml.trans hl.1.symm) hown (hts (.methodLink RX3 83 Lib.Math.max.name) (by decide +kernel)) (hts (.static Lib.Math.max.name) (by decide +kernel)) (hts (.initialized "java/lang/Math") (by decide +kernel)) (hts (.code Lib.Math.max.name Lib.Math.max.code 2 (some .int)) (by decide +kernel)) (Nat.le_of_ble_eq_true rfl) (Nat.le_of_ble_eq_true rfl) (Nat.le_of_ble_eq_true rfl) (Nat.le_of_ble_eq_true rfl) dX3_hear_100 ?_
            refine lv_topi (fun z106 ez106 => ?_)
            have fz106 : (z106.toInt = z105.toInt ∨ z106.toInt = z1.toInt) ∧ z105.toInt ≤ z106.toInt ∧ z1.toInt ≤ z106.toInt := by rw [ez106]; exact tq_max rfl rfl
            refine va_iast (D := D) hx hb hK hP hD hS 0 0 rfl rfl (tq_in rfl (by omega)) dX3_hear_103 (fun H locs hP hD hS => ?_)
            obtain ⟨g107, hP, hD⟩ : ∃ g107 : Nat → Int32, ct_B D A H [(qe_lastUnlike, .inl (cI, 10, .inl (g107))), (qe_stepsIn, .inl (cI, 60, .inl (fe_stepsIn))), gu qe ve_gap ve_length qe_round ve_impossible ve_firstUnlike qe_lastUnlike qe_places qe_stepsIn qe_passed qe_classes ve_bestBeat ve_bestLeft, (qe_round, .inl (cI, 12, .inl (fe_round))), (qe_places, .inl (cI, 200, .inl (fe_places)))] := ⟨_, hP, hD⟩
            obtain ⟨z108, ez108⟩ : ∃ z : Int32, z = x93 + 1 := ⟨_, rfl⟩
            have fz108 : z108.toInt = x93.toInt + 1 := by rw [ez108]; exact tq_add rfl (by decide) (by omega)
            refine lv_iinc (v := z108) (lv' := [(4, .int z108), (3, .int z1), (0, .ref qe), (1, .int a1), (2, .int a2)]) hx hb dX3_hear_104 hl (k := 0) rfl ez108.symm (by decide) rfl (fun ls hl => ?_)
            refine lv_goto (tgt := 68) hx hb dX3_hear_107 (by decide) ?_
            exact ih94 (g107, z108) _ _ _ (show (10 - z108.toInt).toNat < (10 - x93.toInt).toNat by omega) ⟨(show 0 ≤ z108.toInt ∧ z108.toInt ≤ 10 by omega), ⟨hP, hD⟩, hS, lv_sub hl [0, 1, 2, 3, 4] rfl⟩
      · have hq13 : r12.toInt ≠ a2.toInt := tq_ne rfl rfl hc
        have hb109 := tq_lo a2
        refine lv_aload_n hx hb dX3_hear_53 rfl (lv_at hl 1 rfl) ?_
        refine lv_aload_n hx hb dX3_hear_54 rfl (lv_at hl 1 rfl) ?_
        refine va_get (D := D) (ci := 3) (v := .int ve_firstUnlike) (C := RX3) (T := TX3) (N := 12) hx hb hts hi3 hown hK hP 2 rfl rfl 4 (by decide) (hts (.fieldLink RX3 56 "OverHill$Guess" "firstUnlike" "I") (by decide +kernel)) (fun _ h9 => h9) rfl dX3_hear_55 ?_
        refine lv_iload_n hx hb dX3_hear_58 rfl (lv_at hl 0 rfl) ?_
        refine va_mmin hx hb (hml.trans hl.1.symm) hown (hts (.methodLink RX3 78 Lib.Math.min.name) (by decide +kernel)) (hts (.static Lib.Math.min.name) (by decide +kernel)) (hts (.initialized "java/lang/Math") (by decide +kernel)) (hts (.code Lib.Math.min.name Lib.Math.min.code 2 (some .int)) (by decide +kernel)) (Nat.le_of_ble_eq_true rfl) (Nat.le_of_ble_eq_true rfl) (Nat.le_of_ble_eq_true rfl) (Nat.le_of_ble_eq_true rfl) dX3_hear_59 ?_
        refine lv_topi (fun z110 ez110 => ?_)
        have fz110 : (z110.toInt = ve_firstUnlike.toInt ∨ z110.toInt = z1.toInt) ∧ z110.toInt ≤ ve_firstUnlike.toInt ∧ z110.toInt ≤ z1.toInt := by rw [ez110]; exact tq_min rfl rfl
        refine va_put (D := D) (ci := 3) (v := .int z110) (ty := .int) (C := RX3) (T := TX3) (N := 12) hx hb hts hi3 tyX3 tyX3_ok nmX3 hown hK hP hD hS 2 rfl rfl 4 (by decide) (hts (.fieldLink RX3 56 "OverHill$Guess" "firstUnlike" "I") (by decide +kernel)) (fun _ h9 => h9) rfl (by decide +kernel) rfl rfl (Nat.le_of_ble_eq_true rfl) dX3_hear_62 (fun H locs hP hD hS => ?_)
        obtain ⟨hP, hD⟩ : ct_B D A H [(qe_lastUnlike, .inl (cI, 10, .inl (fe_lastUnlike))), (qe_stepsIn, .inl (cI, 60, .inl (fe_stepsIn))), gu qe ve_gap ve_length qe_round ve_impossible z110 qe_lastUnlike qe_places qe_stepsIn qe_passed qe_classes ve_bestBeat ve_bestLeft, (qe_round, .inl (cI, 12, .inl (fe_round))), (qe_places, .inl (cI, 200, .inl (fe_places)))] := ⟨hP, hD⟩
        refine lv_iconst (v := 0) hx hb dX3_hear_65 (by decide) ?_
        refine lv_istore (lv' := [(4, .int 0), (3, .int z1), (0, .ref qe), (1, .int a1), (2, .int a2)]) hx hb dX3_hear_66 hl (by decide) rfl (fun ls hl => ?_)
        refine ct_loop (X := (Nat → Int32) × Int32) (fun x => (10 - x.2.toInt).toNat) (fun x H locs ls => ((0 ≤ x.2.toInt ∧ x.2.toInt ≤ 10)) ∧ ct_B D A H [(qe_lastUnlike, .inl (cI, 10, .inl (x.1))), (qe_stepsIn, .inl (cI, 60, .inl (fe_stepsIn))), gu qe ve_gap ve_length qe_round ve_impossible z110 qe_lastUnlike qe_places qe_stepsIn qe_passed qe_classes ve_bestBeat ve_bestLeft, (qe_round, .inl (cI, 12, .inl (fe_round))), (qe_places, .inl (cI, 200, .inl (fe_places)))] ∧ va_S A s.heap H locs ∧ lv_has ls 5 [(4, .int x.2), (3, .int z1), (0, .ref qe), (1, .int a1), (2, .int a2)]) 68 (fe_lastUnlike, (0 : Int32)) ⟨(show 0 ≤ (0 : Int32).toInt ∧ (0 : Int32).toInt ≤ 10 by decide), ⟨hP, hD⟩, hS, lv_sub hl [0, 1, 2, 3, 4] rfl⟩ (fun x ih212 H locs ls hI => ?_)
        obtain ⟨g210, x211⟩ := x
        obtain ⟨h_x211, ⟨hP, hD⟩, hS, hl⟩ := hI
        have h_x211 : (0 ≤ x211.toInt ∧ x211.toInt ≤ 10) := h_x211
        obtain ⟨hP, hD⟩ : ct_B D A H [(qe_lastUnlike, .inl (cI, 10, .inl (g210))), (qe_stepsIn, .inl (cI, 60, .inl (fe_stepsIn))), gu qe ve_gap ve_length qe_round ve_impossible z110 qe_lastUnlike qe_places qe_stepsIn qe_passed qe_classes ve_bestBeat ve_bestLeft, (qe_round, .inl (cI, 12, .inl (fe_round))), (qe_places, .inl (cI, 200, .inl (fe_places)))] := ⟨hP, hD⟩
        have hl : lv_has ls 5 [(4, .int x211), (3, .int z1), (0, .ref qe), (1, .int a1), (2, .int a2)] := hl
        refine lv_iload hx hb dX3_hear_68 (lv_at hl 0 rfl) ?_
        refine lv_bipush (v := 10) hx hb dX3_hear_70 (by decide) ?_
        refine lv_icmp_ge (tgt := 110) hx hb dX3_hear_72 (by decide) (fun hc => ?_) (fun hc => ?_)
        · have hq213 : 10 ≤ x211.toInt := tq_le (by decide) rfl hc
          refine lv_iload_n hx hb dX3_hear_110 rfl (lv_at hl 1 rfl) ?_
          refine lv_bipush (v := 60) hx hb dX3_hear_111 (by decide) ?_
          refine lv_icmp_ge (tgt := 137) hx hb dX3_hear_113 (by decide) (fun hc => ?_) (fun hc => ?_)
          · have hq214 : 60 ≤ z1.toInt := tq_le (by decide) rfl hc
            obtain ⟨hP9, hD9⟩ : ct_B D A H [gu qe ve_gap ve_length qe_round ve_impossible z110 qe_lastUnlike qe_places qe_stepsIn qe_passed qe_classes ve_bestBeat ve_bestLeft, (qe_round, .inl (cI, 12, .inl (fe_round))), (qe_lastUnlike, .inl (cI, 10, .inl (g210))), (qe_places, .inl (cI, 200, .inl (fe_places))), (qe_stepsIn, .inl (cI, 60, .inl (fe_stepsIn)))] := ⟨hP.sub [2, 3, 0, 4, 1] rfl, hD.sub [2, 3, 0, 4, 1] (by decide) rfl⟩
            exact W.vret hx hb hr (fun t ht hW => ⟨⟨(ve_impossible, z110, g210, fe_stepsIn), rfl, trivial, by rw [ht]; exact hP9, hD9⟩, hS.F ht⟩) hS.2.2 dX3_hear_137
          · have hq214 : z1.toInt < 60 := tq_nle (by decide) rfl hc
            refine lv_aload_n hx hb dX3_hear_116 rfl (lv_at hl 2 rfl) ?_
            refine va_get (D := D) (ci := 3) (v := .ref qe_stepsIn) (C := RX3) (T := TX3) (N := 12) hx hb hts hi3 hown hK hP 2 rfl rfl 7 (by decide) (hts (.fieldLink RX3 21 "OverHill$Guess" "stepsIn" "[I") (by decide +kernel)) (fun _ h9 => h9) rfl dX3_hear_117 ?_
            refine lv_iload_n hx hb dX3_hear_120 rfl (lv_at hl 1 rfl) ?_
            refine lv_dup2_11 hx hb dX3_hear_121 rfl rfl ?_
            refine va_iald (D := D) hx hb hK hP 1 0 rfl rfl (tq_in rfl (by omega)) dX3_hear_122 ?_
            refine lv_topi (fun z215 ez215 => ?_)
            refine lv_iload_n hx hb dX3_hear_123 rfl (lv_at hl 4 rfl) ?_
            refine lv_iconst (v := (-1)) hx hb dX3_hear_124 (by decide) ?_
            refine lv_icmp_ne (tgt := 132) hx hb dX3_hear_125 (by decide) (fun hc => ?_) (fun hc => ?_)
            · have hq216 : a2.toInt ≠ (-1) := tq_ne rfl (by decide) hc
              have hb217 := tq_lo a2
              refine lv_iconst (v := 1) hx hb dX3_hear_132 (by decide) ?_
              refine lv_iload_n hx hb dX3_hear_133 rfl (lv_at hl 4 rfl) ?_
              refine lv_ishl hx hb dX3_hear_134 ?_
              refine lv_topi (fun z218 ez218 => ?_)
              refine lv_iand hx hb dX3_hear_135 ?_
              refine lv_topi (fun z219 ez219 => ?_)
              refine va_iast (D := D) hx hb hK hP hD hS 1 0 rfl rfl (tq_in rfl (by omega)) dX3_hear_136 (fun H locs hP hD hS => ?_)
              obtain ⟨g220, hP, hD⟩ : ∃ g220 : Nat → Int32, ct_B D A H [(qe_lastUnlike, .inl (cI, 10, .inl (g210))), (qe_stepsIn, .inl (cI, 60, .inl (g220))), gu qe ve_gap ve_length qe_round ve_impossible z110 qe_lastUnlike qe_places qe_stepsIn qe_passed qe_classes ve_bestBeat ve_bestLeft, (qe_round, .inl (cI, 12, .inl (fe_round))), (qe_places, .inl (cI, 200, .inl (fe_places)))] := ⟨_, hP, hD⟩
              obtain ⟨hP9, hD9⟩ : ct_B D A H [gu qe ve_gap ve_length qe_round ve_impossible z110 qe_lastUnlike qe_places qe_stepsIn qe_passed qe_classes ve_bestBeat ve_bestLeft, (qe_round, .inl (cI, 12, .inl (fe_round))), (qe_lastUnlike, .inl (cI, 10, .inl (g210))), (qe_places, .inl (cI, 200, .inl (fe_places))), (qe_stepsIn, .inl (cI, 60, .inl (g220)))] := ⟨hP.sub [2, 3, 0, 4, 1] rfl, hD.sub [2, 3, 0, 4, 1] (by decide) rfl⟩
              exact W.vret hx hb hr (fun t ht hW => ⟨⟨(ve_impossible, z110, g210, g220), rfl, trivial, by rw [ht]; exact hP9, hD9⟩, hS.F ht⟩) hS.2.2 dX3_hear_137
            · have hq216 : a2.toInt = (-1) := tq_eq rfl (by decide) hc
              have hb221 := tq_lo a2
              refine lv_iconst (v := 0) hx hb dX3_hear_128 (by decide) ?_
              refine lv_goto (tgt := 135) hx hb dX3_hear_129 (by decide) ?_
              refine lv_iand hx hb dX3_hear_135 ?_
              refine lv_topi (fun z222 ez222 => ?_)
              have fz222 : 0 ≤ z222.toInt ∧ z222.toInt ≤ 0 := by rw [ez222]; exact tq_and (c := 0) (by decide) (by omega)
              refine va_iast (D := D) hx hb hK hP hD hS 1 0 rfl rfl (tq_in rfl (by omega)) dX3_hear_136 (fun H locs hP hD hS => ?_)
              obtain ⟨g223, hP, hD⟩ : ∃ g223 : Nat → Int32, ct_B D A H [(qe_lastUnlike, .inl (cI, 10, .inl (g210))), (qe_stepsIn, .inl (cI, 60, .inl (g223))), gu qe ve_gap ve_length qe_round ve_impossible z110 qe_lastUnlike qe_places qe_stepsIn qe_passed qe_classes ve_bestBeat ve_bestLeft, (qe_round, .inl (cI, 12, .inl (fe_round))), (qe_places, .inl (cI, 200, .inl (fe_places)))] := ⟨_, hP, hD⟩
              obtain ⟨hP9, hD9⟩ : ct_B D A H [gu qe ve_gap ve_length qe_round ve_impossible z110 qe_lastUnlike qe_places qe_stepsIn qe_passed qe_classes ve_bestBeat ve_bestLeft, (qe_round, .inl (cI, 12, .inl (fe_round))), (qe_lastUnlike, .inl (cI, 10, .inl (g210))), (qe_places, .inl (cI, 200, .inl (fe_places))), (qe_stepsIn, .inl (cI, 60, .inl (g223)))] := ⟨hP.sub [2, 3, 0, 4, 1] rfl, hD.sub [2, 3, 0, 4, 1] (by decide) rfl⟩
              exact W.vret hx hb hr (fun t ht hW => ⟨⟨(ve_impossible, z110, g210, g223), rfl, trivial, by rw [ht]; exact hP9, hD9⟩, hS.F ht⟩) hS.2.2 dX3_hear_137
        · have hq213 : x211.toInt < 10 := tq_nle (by decide) rfl hc
          refine lv_aload_n hx hb dX3_hear_75 rfl (lv_at hl 2 rfl) ?_
          refine lv_iload_n hx hb dX3_hear_76 rfl (lv_at hl 1 rfl) ?_
          refine lv_iload hx hb dX3_hear_77 (lv_at hl 0 rfl) ?_
          refine ct_calli (D := D) (wr := [(qe_lastUnlike, .inl (cI, 10, .inl (g210))), (qe_stepsIn, .inl (cI, 60, .inl (fe_stepsIn)))]) (va_runV (As := [.int z1, .int x211]) (rest := []) ⟨hx, hb, hml, hown, hts⟩ (c_X3_stepBack l D G cI cJ cB cZ cO qe ve_gap ve_length qe_round fe_round ve_impossible z110 qe_lastUnlike qe_places fe_places qe_stepsIn qe_passed qe_classes ve_bestBeat ve_bestLeft z1 x211 h_ve_gap h_ve_length h_fe_round (by omega) H.size) (cwV 2 hts gX3_hear_X3_stepBack rfl rfl rfl (by decide +kernel) ⟨Nat.le_of_ble_eq_true rfl, Nat.le_of_ble_eq_true rfl⟩) (ct_preV (T := ct_T cI cJ cB cZ cO) (ci := 3) (q0 := 2) hE hH hP hD hS hA [2, 3, 4] (by decide) rfl rfl rfl) rfl rfl hl.1 rfl (lv_room (Nat.le_of_ble_eq_true rfl)) dX3_hear_79 ⟨Nat.le_of_ble_eq_true rfl, Nat.le_of_ble_eq_true rfl⟩) hP hD hS hA [2, 3, 4] [0, 1] rfl rfl (by decide) (by decide) (fun r224 u H locs hw hP hD hS => ?_)
          obtain ⟨hP, hD⟩ : ct_B D A H [(qe_lastUnlike, .inl (cI, 10, .inl (g210))), (qe_stepsIn, .inl (cI, 60, .inl (fe_stepsIn))), gu qe ve_gap ve_length qe_round ve_impossible z110 qe_lastUnlike qe_places qe_stepsIn qe_passed qe_classes ve_bestBeat ve_bestLeft, (qe_round, .inl (cI, 12, .inl (fe_round))), (qe_places, .inl (cI, 200, .inl (fe_places)))] := ⟨hP, hD⟩
          have hz := hw
          have h_r224 : 0 ≤ r224.toInt ∧ r224.toInt ≤ 5 := hz
          refine lv_iload_n hx hb dX3_hear_82 rfl (lv_at hl 4 rfl) ?_
          refine lv_icmp_eq (tgt := 104) hx hb dX3_hear_83 (by decide) (fun hc => ?_) (fun hc => ?_)
          · have hq225 : r224.toInt = a2.toInt := tq_eq rfl rfl hc
            have hb226 := tq_lo a2
            obtain ⟨z227, ez227⟩ : ∃ z : Int32, z = x211 + 1 := ⟨_, rfl⟩
            have fz227 : z227.toInt = x211.toInt + 1 := by rw [ez227]; exact tq_add rfl (by decide) (by omega)
            refine lv_iinc (v := z227) (lv' := [(4, .int z227), (3, .int z1), (0, .ref qe), (1, .int a1), (2, .int a2)]) hx hb dX3_hear_104 hl (k := 0) rfl ez227.symm (by decide) rfl (fun ls hl => ?_)
            refine lv_goto (tgt := 68) hx hb dX3_hear_107 (by decide) ?_
            exact ih212 (g210, z227) _ _ _ (show (10 - z227.toInt).toNat < (10 - x211.toInt).toNat by omega) ⟨(show 0 ≤ z227.toInt ∧ z227.toInt ≤ 10 by omega), ⟨hP, hD⟩, hS, lv_sub hl [0, 1, 2, 3, 4] rfl⟩
          · have hq225 : r224.toInt ≠ a2.toInt := tq_ne rfl rfl hc
            have hb228 := tq_lo a2
            refine lv_aload_n hx hb dX3_hear_86 rfl (lv_at hl 2 rfl) ?_
            refine va_get (D := D) (ci := 3) (v := .ref qe_lastUnlike) (C := RX3) (T := TX3) (N := 12) hx hb hts hi3 hown hK hP 2 rfl rfl 5 (by decide) (hts (.fieldLink RX3 15 "OverHill$Guess" "lastUnlike" "[I") (by decide +kernel)) (fun _ h9 => h9) rfl dX3_hear_87 ?_
            refine lv_iload hx hb dX3_hear_90 (lv_at hl 0 rfl) ?_
            refine lv_aload_n hx hb dX3_hear_92 rfl (lv_at hl 2 rfl) ?_
            refine va_get (D := D) (ci := 3) (v := .ref qe_lastUnlike) (C := RX3) (T := TX3) (N := 12) hx hb hts hi3 hown hK hP 2 rfl rfl 5 (by decide) (hts (.fieldLink RX3 15 "OverHill$Guess" "lastUnlike" "[I") (by decide +kernel)) (fun _ h9 => h9) rfl dX3_hear_93 ?_
            refine lv_iload hx hb dX3_hear_96 (lv_at hl 0 rfl) ?_
            refine va_iald (D := D) hx hb hK hP 0 0 rfl rfl (tq_in rfl (by omega)) dX3_hear_98 ?_
            refine lv_topi (fun z229 ez229 => ?_)
            refine lv_iload_n hx hb dX3_hear_99 rfl (lv_at hl 1 rfl) ?_
            refine va_mmax hx hb (hml.trans hl.1.symm) hown (hts (.methodLink RX3 83 Lib.Math.max.name) (by decide +kernel)) (hts (.static Lib.Math.max.name) (by decide +kernel)) (hts (.initialized "java/lang/Math") (by decide +kernel)) (hts (.code Lib.Math.max.name Lib.Math.max.code 2 (some .int)) (by decide +kernel)) (Nat.le_of_ble_eq_true rfl) (Nat.le_of_ble_eq_true rfl) (Nat.le_of_ble_eq_true rfl) (Nat.le_of_ble_eq_true rfl) dX3_hear_100 ?_
            refine lv_topi (fun z230 ez230 => ?_)
            have fz230 : (z230.toInt = z229.toInt ∨ z230.toInt = z1.toInt) ∧ z229.toInt ≤ z230.toInt ∧ z1.toInt ≤ z230.toInt := by rw [ez230]; exact tq_max rfl rfl
            refine va_iast (D := D) hx hb hK hP hD hS 0 0 rfl rfl (tq_in rfl (by omega)) dX3_hear_103 (fun H locs hP hD hS => ?_)
            obtain ⟨g231, hP, hD⟩ : ∃ g231 : Nat → Int32, ct_B D A H [(qe_lastUnlike, .inl (cI, 10, .inl (g231))), (qe_stepsIn, .inl (cI, 60, .inl (fe_stepsIn))), gu qe ve_gap ve_length qe_round ve_impossible z110 qe_lastUnlike qe_places qe_stepsIn qe_passed qe_classes ve_bestBeat ve_bestLeft, (qe_round, .inl (cI, 12, .inl (fe_round))), (qe_places, .inl (cI, 200, .inl (fe_places)))] := ⟨_, hP, hD⟩
            obtain ⟨z232, ez232⟩ : ∃ z : Int32, z = x211 + 1 := ⟨_, rfl⟩
            have fz232 : z232.toInt = x211.toInt + 1 := by rw [ez232]; exact tq_add rfl (by decide) (by omega)
            refine lv_iinc (v := z232) (lv' := [(4, .int z232), (3, .int z1), (0, .ref qe), (1, .int a1), (2, .int a2)]) hx hb dX3_hear_104 hl (k := 0) rfl ez232.symm (by decide) rfl (fun ls hl => ?_)
            refine lv_goto (tgt := 68) hx hb dX3_hear_107 (by decide) ?_
            exact ih212 (g231, z232) _ _ _ (show (10 - z232.toInt).toNat < (10 - x211.toInt).toNat by omega) ⟨(show 0 ≤ z232.toInt ∧ z232.toInt ≤ 10 by omega), ⟨hP, hD⟩, hS, lv_sub hl [0, 1, 2, 3, 4] rfl⟩
    · have hq10 : z9.toInt = (-1) := tq_eq rfl (by decide) hc
      have hb233 := tq_lo z9
      refine lv_aload_n hx hb dX3_hear_21 rfl (lv_at hl 1 rfl) ?_
      refine lv_aload_n hx hb dX3_hear_22 rfl (lv_at hl 1 rfl) ?_
      refine va_get (D := D) (ci := 3) (v := .int ve_impossible) (C := RX3) (T := TX3) (N := 12) hx hb hts hi3 hown hK hP 0 rfl rfl 3 (by decide) (hts (.fieldLink RX3 52 "OverHill$Guess" "impossible" "Z") (by decide +kernel)) (fun _ h9 => h9) rfl dX3_hear_23 ?_
      refine lv_if_ne (tgt := 34) hx hb dX3_hear_26 (by decide) (fun hc => ?_) (fun hc => ?_)
      · have hq234 : ve_impossible.toInt ≠ 0 := tq_ne rfl (by decide) hc
        have hb235 := tq_lo ve_impossible
        refine lv_iconst (v := 1) hx hb dX3_hear_34 (by decide) ?_
        refine lv_goto (tgt := 39) hx hb dX3_hear_35 (by decide) ?_
        refine va_put (D := D) (ci := 3) (v := .int 1) (ty := .boolean) (C := RX3) (T := TX3) (N := 12) hx hb hts hi3 tyX3 tyX3_ok nmX3 hown hK hP hD hS 0 rfl rfl 3 (by decide) (hts (.fieldLink RX3 52 "OverHill$Guess" "impossible" "Z") (by decide +kernel)) (fun _ h9 => h9) rfl (by decide +kernel) rfl rfl (Nat.le_of_ble_eq_true rfl) dX3_hear_39 (fun H locs hP hD hS => ?_)
        obtain ⟨hP, hD⟩ : ct_B D A H [gu qe ve_gap ve_length qe_round 1 ve_firstUnlike qe_lastUnlike qe_places qe_stepsIn qe_passed qe_classes ve_bestBeat ve_bestLeft, (qe_round, .inl (cI, 12, .inl (fe_round))), (qe_lastUnlike, .inl (cI, 10, .inl (fe_lastUnlike))), (qe_places, .inl (cI, 200, .inl (fe_places))), (qe_stepsIn, .inl (cI, 60, .inl (fe_stepsIn)))] := ⟨hP, hD⟩
        obtain ⟨hP9, hD9⟩ : ct_B D A H [gu qe ve_gap ve_length qe_round 1 ve_firstUnlike qe_lastUnlike qe_places qe_stepsIn qe_passed qe_classes ve_bestBeat ve_bestLeft, (qe_round, .inl (cI, 12, .inl (fe_round))), (qe_lastUnlike, .inl (cI, 10, .inl (fe_lastUnlike))), (qe_places, .inl (cI, 200, .inl (fe_places))), (qe_stepsIn, .inl (cI, 60, .inl (fe_stepsIn)))] := ⟨hP.sub [0, 1, 2, 3, 4] rfl, hD.sub [0, 1, 2, 3, 4] (by decide) rfl⟩
        exact W.vret hx hb hr (fun t ht hW => ⟨⟨((1 : Int32), ve_firstUnlike, fe_lastUnlike, fe_stepsIn), rfl, trivial, by rw [ht]; exact hP9, hD9⟩, hS.F ht⟩) hS.2.2 dX3_hear_42
      · have hq234 : ve_impossible.toInt = 0 := tq_eq rfl (by decide) hc
        have hb236 := tq_lo ve_impossible
        refine lv_iload_n hx hb dX3_hear_29 rfl (lv_at hl 3 rfl) ?_
        refine lv_iconst (v := (-1)) hx hb dX3_hear_30 (by decide) ?_
        refine lv_icmp_eq (tgt := 38) hx hb dX3_hear_31 (by decide) (fun hc => ?_) (fun hc => ?_)
        · have hq237 : a2.toInt = (-1) := tq_eq rfl (by decide) hc
          have hb238 := tq_lo a2
          refine lv_iconst (v := 0) hx hb dX3_hear_38 (by decide) ?_
          refine va_put (D := D) (ci := 3) (v := .int 0) (ty := .boolean) (C := RX3) (T := TX3) (N := 12) hx hb hts hi3 tyX3 tyX3_ok nmX3 hown hK hP hD hS 0 rfl rfl 3 (by decide) (hts (.fieldLink RX3 52 "OverHill$Guess" "impossible" "Z") (by decide +kernel)) (fun _ h9 => h9) rfl (by decide +kernel) rfl rfl (Nat.le_of_ble_eq_true rfl) dX3_hear_39 (fun H locs hP hD hS => ?_)
          obtain ⟨hP, hD⟩ : ct_B D A H [gu qe ve_gap ve_length qe_round 0 ve_firstUnlike qe_lastUnlike qe_places qe_stepsIn qe_passed qe_classes ve_bestBeat ve_bestLeft, (qe_round, .inl (cI, 12, .inl (fe_round))), (qe_lastUnlike, .inl (cI, 10, .inl (fe_lastUnlike))), (qe_places, .inl (cI, 200, .inl (fe_places))), (qe_stepsIn, .inl (cI, 60, .inl (fe_stepsIn)))] := ⟨hP, hD⟩
          obtain ⟨hP9, hD9⟩ : ct_B D A H [gu qe ve_gap ve_length qe_round 0 ve_firstUnlike qe_lastUnlike qe_places qe_stepsIn qe_passed qe_classes ve_bestBeat ve_bestLeft, (qe_round, .inl (cI, 12, .inl (fe_round))), (qe_lastUnlike, .inl (cI, 10, .inl (fe_lastUnlike))), (qe_places, .inl (cI, 200, .inl (fe_places))), (qe_stepsIn, .inl (cI, 60, .inl (fe_stepsIn)))] := ⟨hP.sub [0, 1, 2, 3, 4] rfl, hD.sub [0, 1, 2, 3, 4] (by decide) rfl⟩
          exact W.vret hx hb hr (fun t ht hW => ⟨⟨((0 : Int32), ve_firstUnlike, fe_lastUnlike, fe_stepsIn), rfl, trivial, by rw [ht]; exact hP9, hD9⟩, hS.F ht⟩) hS.2.2 dX3_hear_42
        · have hq237 : a2.toInt ≠ (-1) := tq_ne rfl (by decide) hc
          have hb239 := tq_lo a2
          refine lv_iconst (v := 1) hx hb dX3_hear_34 (by decide) ?_
          refine lv_goto (tgt := 39) hx hb dX3_hear_35 (by decide) ?_
          refine va_put (D := D) (ci := 3) (v := .int 1) (ty := .boolean) (C := RX3) (T := TX3) (N := 12) hx hb hts hi3 tyX3 tyX3_ok nmX3 hown hK hP hD hS 0 rfl rfl 3 (by decide) (hts (.fieldLink RX3 52 "OverHill$Guess" "impossible" "Z") (by decide +kernel)) (fun _ h9 => h9) rfl (by decide +kernel) rfl rfl (Nat.le_of_ble_eq_true rfl) dX3_hear_39 (fun H locs hP hD hS => ?_)
          obtain ⟨hP, hD⟩ : ct_B D A H [gu qe ve_gap ve_length qe_round 1 ve_firstUnlike qe_lastUnlike qe_places qe_stepsIn qe_passed qe_classes ve_bestBeat ve_bestLeft, (qe_round, .inl (cI, 12, .inl (fe_round))), (qe_lastUnlike, .inl (cI, 10, .inl (fe_lastUnlike))), (qe_places, .inl (cI, 200, .inl (fe_places))), (qe_stepsIn, .inl (cI, 60, .inl (fe_stepsIn)))] := ⟨hP, hD⟩
          obtain ⟨hP9, hD9⟩ : ct_B D A H [gu qe ve_gap ve_length qe_round 1 ve_firstUnlike qe_lastUnlike qe_places qe_stepsIn qe_passed qe_classes ve_bestBeat ve_bestLeft, (qe_round, .inl (cI, 12, .inl (fe_round))), (qe_lastUnlike, .inl (cI, 10, .inl (fe_lastUnlike))), (qe_places, .inl (cI, 200, .inl (fe_places))), (qe_stepsIn, .inl (cI, 60, .inl (fe_stepsIn)))] := ⟨hP.sub [0, 1, 2, 3, 4] rfl, hD.sub [0, 1, 2, 3, 4] (by decide) rfl⟩
          exact W.vret hx hb hr (fun t ht hW => ⟨⟨((1 : Int32), ve_firstUnlike, fe_lastUnlike, fe_stepsIn), rfl, trivial, by rw [ht]; exact hP9, hD9⟩, hS.F ht⟩) hS.2.2 dX3_hear_42
abbrev w_c_X3_countFits (cI cJ cB cZ cO : ClassId) (qe : Nat) (ve_gap : Int32) (ve_length : Int32) (qe_round : Nat) (ve_impossible : Int32) (ve_firstUnlike : Int32) (qe_lastUnlike : Nat) (fe_lastUnlike : Nat → Int32) (qe_places : Nat) (fe_places : Nat → Int32) (qe_stepsIn : Nat) (fe_stepsIn : Nat → Int32) (qe_passed : Nat) (qe_classes : Nat) (ve_bestBeat : Int32) (ve_bestLeft : Int32) : va_W := [gu qe ve_gap ve_length qe_round ve_impossible ve_firstUnlike qe_lastUnlike qe_places qe_stepsIn qe_passed qe_classes ve_bestBeat ve_bestLeft, (qe_lastUnlike, .inl (cI, 10, .inl (fe_lastUnlike))), (qe_places, .inl (cI, 200, .inl (fe_places))), (qe_stepsIn, .inl (cI, 60, .inl (fe_stepsIn)))]
set_option maxHeartbeats 4000000 in
set_option maxRecDepth 100000 in
/-- X3 countFits -/
theorem c_X3_countFits (l : Launch) (D : va_G) (G : ct_G) (cI cJ cB cZ cO : ClassId) (qe : Nat) (ve_gap : Int32) (ve_length : Int32) (qe_round : Nat) (ve_impossible : Int32) (ve_firstUnlike : Int32) (qe_lastUnlike : Nat) (fe_lastUnlike : Nat → Int32) (qe_places : Nat) (fe_places : Nat → Int32) (qe_stepsIn : Nat) (fe_stepsIn : Nat → Int32) (qe_passed : Nat) (qe_classes : Nat) (ve_bestBeat : Int32) (ve_bestLeft : Int32) (h_ve_gap : 0 ≤ ve_gap.toInt ∧ ve_gap.toInt ≤ 20) (h_ve_length : 0 ≤ ve_length.toInt ∧ ve_length.toInt ≤ 12) (sz : Nat) : Met l yX3_countFits wsX3_countFits ({ frames := 2, cells := 0, slots := 0, locals := 43 }) (va_Pc [.ref qe] (ct_P D (ct_T cI cJ cB cZ cO) G (w_c_X3_countFits cI cJ cB cZ cO qe ve_gap ve_length qe_round ve_impossible ve_firstUnlike qe_lastUnlike fe_lastUnlike qe_places fe_places qe_stepsIn fe_stepsIn qe_passed qe_classes ve_bestBeat ve_bestLeft) sz)) (va_Qi (fun (rz : Int32) (u : Unit) => True) (fun (u : Unit) t => ct_Q D (va_A (w_c_X3_countFits cI cJ cB cZ cO qe ve_gap ve_length qe_round ve_impossible ve_firstUnlike qe_lastUnlike fe_lastUnlike qe_places fe_places qe_stepsIn fe_stepsIn qe_passed qe_classes ve_bestBeat ve_bestLeft) sz) [gu qe ve_gap ve_length qe_round ve_impossible ve_firstUnlike qe_lastUnlike qe_places qe_stepsIn qe_passed qe_classes ve_bestBeat ve_bestLeft, (qe_lastUnlike, .inl (cI, 10, .inl (fe_lastUnlike))), (qe_places, .inl (cI, 200, .inl (fe_places))), (qe_stepsIn, .inl (cI, 60, .inl (fe_stepsIn)))] t) (va_A (w_c_X3_countFits cI cJ cB cZ cO qe ve_gap ve_length qe_round ve_impossible ve_firstUnlike qe_lastUnlike fe_lastUnlike qe_places fe_places qe_stepsIn fe_stepsIn qe_passed qe_classes ve_bestBeat ve_bestLeft) sz)) 0 0 (va_A (w_c_X3_countFits cI cJ cB cZ cO qe ve_gap ve_length qe_round ve_impossible ve_firstUnlike qe_lastUnlike fe_lastUnlike qe_places fe_places qe_stepsIn fe_stepsIn qe_passed qe_classes ve_bestBeat ve_bestLeft) sz) := by
  refine Met.ofW (cc := cX3_countFits) (maxL := 4) (ret := (some .int)) (by decide) rfl ?_
  intro p e s m args below meth c s₁ B hml hv
  obtain ⟨rfl, hsz, hP, hE, hD0, hH⟩ := hv
  have hx := B.exec
  have hb := B.bytes
  have hr := B.returns
  have hts := atoms_spec (ws := wsX3_countFits) B.pre
  have hown : s.vm.findClass RX3 = some m.cls := findClass_of_methodNamed B.named
  have hlocks := B.notSynchronized
  have hK := hE.1
  subst hsz
  have hD := hD0.self (sz := s.heap.size)
  generalize hAe : va_A (w_c_X3_countFits cI cJ cB cZ cO qe ve_gap ve_length qe_round ve_impossible ve_firstUnlike qe_lastUnlike fe_lastUnlike qe_places fe_places qe_stepsIn fe_stepsIn qe_passed qe_classes ve_bestBeat ve_bestLeft) s.heap.size = A at hD hH ⊢
  have hA : ∀ q : Nat, s.heap.size ≤ q → A q := fun q h => by rw [← hAe]; exact Or.inr h
  have hS : va_S A s.heap s.heap [] := va_S.rf
  obtain ⟨hP, hD⟩ : ct_B D A s.heap [gu qe ve_gap ve_length qe_round ve_impossible ve_firstUnlike qe_lastUnlike qe_places qe_stepsIn qe_passed qe_classes ve_bestBeat ve_bestLeft, (qe_lastUnlike, .inl (cI, 10, .inl (fe_lastUnlike))), (qe_places, .inl (cI, 200, .inl (fe_places))), (qe_stepsIn, .inl (cI, 60, .inl (fe_stepsIn)))] := ⟨hP, hD⟩
  have hl := lv_entry ([.ref qe]) (n := 4) (Nat.le_of_ble_eq_true rfl)
  rw [lg_entry_eq]
  generalize (lg_sl ([.ref qe]) ++ List.replicate (4 - (lg_sl ([.ref qe])).length) Slot.unset).toArray = ls at hl ⊢
  have hl : lv_has ls 4 [(0, .ref qe)] := hl
  obtain ⟨H, hHe⟩ : ∃ H : Heap, H = s.heap := ⟨_, rfl⟩
  rw [← hHe] at hP
  have hS : va_S A s.heap H [] := by rw [hHe]; exact va_S.rf
  refine ct_start hHe ?_
  refine lv_aload_n hx hb dX3_countFits_0 rfl (lv_at hl 0 rfl) ?_
  refine ct_calli (D := D) (wr := [(qe_lastUnlike, .inl (cI, 10, .inl (fe_lastUnlike))), (qe_places, .inl (cI, 200, .inl (fe_places))), (qe_stepsIn, .inl (cI, 60, .inl (fe_stepsIn)))]) (va_runV (As := []) (rest := []) ⟨hx, hb, hml, hown, hts⟩ (c_X3_fitsWithout l D G cI cJ cB cZ cO qe ve_gap ve_length qe_round ve_impossible ve_firstUnlike qe_lastUnlike qe_places qe_stepsIn qe_passed qe_classes ve_bestBeat ve_bestLeft h_ve_gap h_ve_length H.size) (cwV 0 hts gX3_countFits_X3_fitsWithout rfl rfl rfl (by decide +kernel) ⟨Nat.le_of_ble_eq_true rfl, Nat.le_of_ble_eq_true rfl⟩) (ct_preV (T := ct_T cI cJ cB cZ cO) (ci := 3) (q0 := 0) hE hH hP hD hS hA [0] (by decide) rfl rfl rfl) rfl rfl hl.1 rfl (lv_room (Nat.le_of_ble_eq_true rfl)) dX3_countFits_1 ⟨Nat.le_of_ble_eq_true rfl, Nat.le_of_ble_eq_true rfl⟩) hP hD hS hA [0] [1, 2, 3] rfl rfl (by decide) (by decide) (fun r1 u H locs hw hP hD hS => ?_)
  obtain ⟨hP, hD⟩ : ct_B D A H [(qe_lastUnlike, .inl (cI, 10, .inl (fe_lastUnlike))), (qe_places, .inl (cI, 200, .inl (fe_places))), (qe_stepsIn, .inl (cI, 60, .inl (fe_stepsIn))), gu qe ve_gap ve_length qe_round ve_impossible ve_firstUnlike qe_lastUnlike qe_places qe_stepsIn qe_passed qe_classes ve_bestBeat ve_bestLeft] := ⟨hP, hD⟩
  have hz := hw
  rcases hz with ⟨hz, hz2⟩ | ⟨hz, hz2⟩
  · subst hz
    refine lv_if_eq (tgt := 11) hx hb dX3_countFits_4 (by decide) (fun hc => absurd hc (by decide)) (fun _ => ?_)
    refine lv_iconst (v := 1) hx hb dX3_countFits_7 (by decide) ?_
    refine lv_goto (tgt := 12) hx hb dX3_countFits_8 (by decide) ?_
    refine lv_istore_n (lv' := [(1, .int 1), (0, .ref qe)]) hx hb dX3_countFits_12 rfl hl (by decide) rfl (fun ls hl => ?_)
    refine lv_iconst (v := 0) hx hb dX3_countFits_13 (by decide) ?_
    refine lv_istore_n (lv' := [(2, .int 0), (1, .int 1), (0, .ref qe)]) hx hb dX3_countFits_14 rfl hl (by decide) rfl (fun ls hl => ?_)
    refine ct_loop (X := Int32 × Int32) (fun x => (60 - x.2.toInt).toNat) (fun x H locs ls => ((0 ≤ x.2.toInt ∧ x.2.toInt ≤ 60)) ∧ ct_B D A H [(qe_lastUnlike, .inl (cI, 10, .inl (fe_lastUnlike))), (qe_places, .inl (cI, 200, .inl (fe_places))), (qe_stepsIn, .inl (cI, 60, .inl (fe_stepsIn))), gu qe ve_gap ve_length qe_round ve_impossible ve_firstUnlike qe_lastUnlike qe_places qe_stepsIn qe_passed qe_classes ve_bestBeat ve_bestLeft] ∧ va_S A s.heap H locs ∧ lv_has ls 4 [(2, .int x.2), (1, .int x.1), (0, .ref qe)]) 15 ((1 : Int32), (0 : Int32)) ⟨(show 0 ≤ (0 : Int32).toInt ∧ (0 : Int32).toInt ≤ 60 by decide), ⟨hP, hD⟩, hS, lv_sub hl [0, 1, 2] rfl⟩ (fun x ih824 H locs ls hI => ?_)
    obtain ⟨x822, x823⟩ := x
    obtain ⟨h_x823, ⟨hP, hD⟩, hS, hl⟩ := hI
    have h_x823 : (0 ≤ x823.toInt ∧ x823.toInt ≤ 60) := h_x823
    obtain ⟨hP, hD⟩ : ct_B D A H [(qe_lastUnlike, .inl (cI, 10, .inl (fe_lastUnlike))), (qe_places, .inl (cI, 200, .inl (fe_places))), (qe_stepsIn, .inl (cI, 60, .inl (fe_stepsIn))), gu qe ve_gap ve_length qe_round ve_impossible ve_firstUnlike qe_lastUnlike qe_places qe_stepsIn qe_passed qe_classes ve_bestBeat ve_bestLeft] := ⟨hP, hD⟩
    have hl : lv_has ls 4 [(2, .int x823), (1, .int x822), (0, .ref qe)] := hl
    refine lv_iload_n hx hb dX3_countFits_15 rfl (lv_at hl 0 rfl) ?_
    refine lv_bipush (v := 60) hx hb dX3_countFits_16 (by decide) ?_
    refine lv_icmp_ge (tgt := 53) hx hb dX3_countFits_18 (by decide) (fun hc => ?_) (fun hc => ?_)
    · have hq825 : 60 ≤ x823.toInt := tq_le (by decide) rfl hc
      refine lv_iload_n hx hb dX3_countFits_53 rfl (lv_at hl 1 rfl) ?_
      obtain ⟨hP9, hD9⟩ : ct_B D A H [gu qe ve_gap ve_length qe_round ve_impossible ve_firstUnlike qe_lastUnlike qe_places qe_stepsIn qe_passed qe_classes ve_bestBeat ve_bestLeft, (qe_lastUnlike, .inl (cI, 10, .inl (fe_lastUnlike))), (qe_places, .inl (cI, 200, .inl (fe_places))), (qe_stepsIn, .inl (cI, 60, .inl (fe_stepsIn)))] := ⟨hP.sub [3, 0, 1, 2] rfl, hD.sub [3, 0, 1, 2] (by decide) rfl⟩
      exact W.iret (v := x822) hx hb hr (fun t ht hW => ⟨⟨x822, (), rfl, trivial, by rw [ht]; exact hP9, hD9⟩, hS.F ht⟩) hS.2.2 dX3_countFits_54
    · have hq825 : x823.toInt < 60 := tq_nle (by decide) rfl hc
      refine lv_iconst (v := 0) hx hb dX3_countFits_21 (by decide) ?_
      refine lv_istore_n (lv' := [(3, .int 0), (2, .int x823), (1, .int x822), (0, .ref qe)]) hx hb dX3_countFits_22 rfl hl (by decide) rfl (fun ls hl => ?_)
      refine ct_loop (X := Int32 × Int32) (fun x => (10 - x.2.toInt).toNat) (fun x H locs ls => ((0 ≤ x.2.toInt ∧ x.2.toInt ≤ 10)) ∧ ct_B D A H [(qe_lastUnlike, .inl (cI, 10, .inl (fe_lastUnlike))), (qe_places, .inl (cI, 200, .inl (fe_places))), (qe_stepsIn, .inl (cI, 60, .inl (fe_stepsIn))), gu qe ve_gap ve_length qe_round ve_impossible ve_firstUnlike qe_lastUnlike qe_places qe_stepsIn qe_passed qe_classes ve_bestBeat ve_bestLeft] ∧ va_S A s.heap H locs ∧ lv_has ls 4 [(3, .int x.2), (2, .int x823), (1, .int x.1), (0, .ref qe)]) 23 (x822, (0 : Int32)) ⟨(show 0 ≤ (0 : Int32).toInt ∧ (0 : Int32).toInt ≤ 10 by decide), ⟨hP, hD⟩, hS, lv_sub hl [0, 1, 2, 3] rfl⟩ (fun x ih875 H locs ls hI => ?_)
      obtain ⟨x873, x874⟩ := x
      obtain ⟨h_x874, ⟨hP, hD⟩, hS, hl⟩ := hI
      have h_x874 : (0 ≤ x874.toInt ∧ x874.toInt ≤ 10) := h_x874
      obtain ⟨hP, hD⟩ : ct_B D A H [(qe_lastUnlike, .inl (cI, 10, .inl (fe_lastUnlike))), (qe_places, .inl (cI, 200, .inl (fe_places))), (qe_stepsIn, .inl (cI, 60, .inl (fe_stepsIn))), gu qe ve_gap ve_length qe_round ve_impossible ve_firstUnlike qe_lastUnlike qe_places qe_stepsIn qe_passed qe_classes ve_bestBeat ve_bestLeft] := ⟨hP, hD⟩
      have hl : lv_has ls 4 [(3, .int x874), (2, .int x823), (1, .int x873), (0, .ref qe)] := hl
      refine lv_iload_n hx hb dX3_countFits_23 rfl (lv_at hl 0 rfl) ?_
      refine lv_bipush (v := 10) hx hb dX3_countFits_24 (by decide) ?_
      refine lv_icmp_ge (tgt := 47) hx hb dX3_countFits_26 (by decide) (fun hc => ?_) (fun hc => ?_)
      · have hq876 : 10 ≤ x874.toInt := tq_le (by decide) rfl hc
        obtain ⟨z877, ez877⟩ : ∃ z : Int32, z = x823 + 1 := ⟨_, rfl⟩
        have fz877 : z877.toInt = x823.toInt + 1 := by rw [ez877]; exact tq_add rfl (by decide) (by omega)
        refine lv_iinc (v := z877) (lv' := [(2, .int z877), (3, .int x874), (1, .int x873), (0, .ref qe)]) hx hb dX3_countFits_47 hl (k := 1) rfl ez877.symm (by decide) rfl (fun ls hl => ?_)
        refine lv_goto (tgt := 15) hx hb dX3_countFits_50 (by decide) ?_
        exact ih824 (x873, z877) _ _ _ (show (60 - z877.toInt).toNat < (60 - x823.toInt).toNat by omega) ⟨(show 0 ≤ z877.toInt ∧ z877.toInt ≤ 60 by omega), ⟨hP, hD⟩, hS, lv_sub hl [0, 2, 3] rfl⟩
      · have hq876 : x874.toInt < 10 := tq_nle (by decide) rfl hc
        refine lv_iload_n hx hb dX3_countFits_29 rfl (lv_at hl 2 rfl) ?_
        refine lv_aload_n hx hb dX3_countFits_30 rfl (lv_at hl 3 rfl) ?_
        refine lv_iload_n hx hb dX3_countFits_31 rfl (lv_at hl 1 rfl) ?_
        refine lv_iload_n hx hb dX3_countFits_32 rfl (lv_at hl 0 rfl) ?_
        refine ct_calli (D := D) (wr := []) (va_runV (As := [.int x823, .int x874]) (rest := [.int x873]) ⟨hx, hb, hml, hown, hts⟩ (c_X3_stepsThatFit l D G cI cJ cB cZ cO qe ve_gap ve_length qe_round ve_impossible ve_firstUnlike qe_lastUnlike fe_lastUnlike qe_places fe_places qe_stepsIn fe_stepsIn qe_passed qe_classes ve_bestBeat ve_bestLeft x823 x874 h_ve_gap h_ve_length (by omega) (by omega) H.size) (cwV 2 hts gX3_countFits_X3_stepsThatFit rfl rfl rfl (by decide +kernel) ⟨Nat.le_of_ble_eq_true rfl, Nat.le_of_ble_eq_true rfl⟩) (ct_preV (T := ct_T cI cJ cB cZ cO) (ci := 3) (q0 := 3) hE hH hP hD hS hA [3, 0, 1, 2] (by decide) rfl rfl rfl) rfl rfl hl.1 rfl (lv_room (Nat.le_of_ble_eq_true rfl)) dX3_countFits_33 ⟨Nat.le_of_ble_eq_true rfl, Nat.le_of_ble_eq_true rfl⟩) hP hD hS hA [3, 0, 1, 2] [] rfl rfl (by decide) (by decide) (fun r878 u H locs hw hP hD hS => ?_)
        obtain ⟨hP, hD⟩ : ct_B D A H [gu qe ve_gap ve_length qe_round ve_impossible ve_firstUnlike qe_lastUnlike qe_places qe_stepsIn qe_passed qe_classes ve_bestBeat ve_bestLeft, (qe_lastUnlike, .inl (cI, 10, .inl (fe_lastUnlike))), (qe_places, .inl (cI, 200, .inl (fe_places))), (qe_stepsIn, .inl (cI, 60, .inl (fe_stepsIn)))] := ⟨hP, hD⟩
        refine ct_calli (D := D) (wr := [gu qe ve_gap ve_length qe_round ve_impossible ve_firstUnlike qe_lastUnlike qe_places qe_stepsIn qe_passed qe_classes ve_bestBeat ve_bestLeft, (qe_lastUnlike, .inl (cI, 10, .inl (fe_lastUnlike))), (qe_places, .inl (cI, 200, .inl (fe_places))), (qe_stepsIn, .inl (cI, 60, .inl (fe_stepsIn)))]) (va_runS (As := [.int r878]) (rest := [.int x873]) ⟨hx, hb, hml, hown, hts⟩ (c_J6_bitCount_0f7a4 l D G cI cJ cB cZ cO r878  H.size) (va_cwS 1 hts gX3_countFits_J6_bitCount_0f7a4 rfl rfl rfl (by decide +kernel) ⟨Nat.le_of_ble_eq_true rfl, Nat.le_of_ble_eq_true rfl⟩) (ct_preS (T := ct_T cI cJ cB cZ cO) hE hH hP hD hS hA [] (by decide) rfl) rfl rfl hl.1 rfl (lv_room (Nat.le_of_ble_eq_true rfl)) dX3_countFits_36 ⟨Nat.le_of_ble_eq_true rfl, Nat.le_of_ble_eq_true rfl⟩) hP hD hS hA [] [0, 1, 2, 3] rfl rfl (by decide) (by decide) (fun r879 u H locs hw hP hD hS => ?_)
        obtain ⟨hP, hD⟩ : ct_B D A H [gu qe ve_gap ve_length qe_round ve_impossible ve_firstUnlike qe_lastUnlike qe_places qe_stepsIn qe_passed qe_classes ve_bestBeat ve_bestLeft, (qe_lastUnlike, .inl (cI, 10, .inl (fe_lastUnlike))), (qe_places, .inl (cI, 200, .inl (fe_places))), (qe_stepsIn, .inl (cI, 60, .inl (fe_stepsIn)))] := ⟨hP, hD⟩
        have hz := hw
        have h_r879 : 0 ≤ r879.toInt ∧ r879.toInt ≤ 63 := hz
        refine lv_iadd hx hb dX3_countFits_39 ?_
        refine lv_topi (fun z880 ez880 => ?_)
        refine lv_istore_n (lv' := [(1, .int z880), (3, .int x874), (2, .int x823), (0, .ref qe)]) hx hb dX3_countFits_40 rfl hl (by decide) rfl (fun ls hl => ?_)
        obtain ⟨z881, ez881⟩ : ∃ z : Int32, z = x874 + 1 := ⟨_, rfl⟩
        have fz881 : z881.toInt = x874.toInt + 1 := by rw [ez881]; exact tq_add rfl (by decide) (by omega)
        refine lv_iinc (v := z881) (lv' := [(3, .int z881), (1, .int z880), (2, .int x823), (0, .ref qe)]) hx hb dX3_countFits_41 hl (k := 1) rfl ez881.symm (by decide) rfl (fun ls hl => ?_)
        refine lv_goto (tgt := 23) hx hb dX3_countFits_44 (by decide) ?_
        obtain ⟨hP9, hD9⟩ : ct_B D A H [(qe_lastUnlike, .inl (cI, 10, .inl (fe_lastUnlike))), (qe_places, .inl (cI, 200, .inl (fe_places))), (qe_stepsIn, .inl (cI, 60, .inl (fe_stepsIn))), gu qe ve_gap ve_length qe_round ve_impossible ve_firstUnlike qe_lastUnlike qe_places qe_stepsIn qe_passed qe_classes ve_bestBeat ve_bestLeft] := ⟨hP.sub [1, 2, 3, 0] rfl, hD.sub [1, 2, 3, 0] (by decide) rfl⟩
        exact ih875 (z880, z881) _ _ _ (show (10 - z881.toInt).toNat < (10 - x874.toInt).toNat by omega) ⟨(show 0 ≤ z881.toInt ∧ z881.toInt ≤ 10 by omega), ⟨hP9, hD9⟩, hS, lv_sub hl [0, 2, 1, 3] rfl⟩
  · subst hz
    refine lv_if_eq (tgt := 11) hx hb dX3_countFits_4 (by decide) (fun _ => ?_) (fun hc => absurd hc (by decide))
    refine lv_iconst (v := 0) hx hb dX3_countFits_11 (by decide) ?_
    refine lv_istore_n (lv' := [(1, .int 0), (0, .ref qe)]) hx hb dX3_countFits_12 rfl hl (by decide) rfl (fun ls hl => ?_)
    refine lv_iconst (v := 0) hx hb dX3_countFits_13 (by decide) ?_
    refine lv_istore_n (lv' := [(2, .int 0), (1, .int 0), (0, .ref qe)]) hx hb dX3_countFits_14 rfl hl (by decide) rfl (fun ls hl => ?_)
    refine ct_loop (X := Int32 × Int32) (fun x => (60 - x.2.toInt).toNat) (fun x H locs ls => ((0 ≤ x.2.toInt ∧ x.2.toInt ≤ 60)) ∧ ct_B D A H [(qe_lastUnlike, .inl (cI, 10, .inl (fe_lastUnlike))), (qe_places, .inl (cI, 200, .inl (fe_places))), (qe_stepsIn, .inl (cI, 60, .inl (fe_stepsIn))), gu qe ve_gap ve_length qe_round ve_impossible ve_firstUnlike qe_lastUnlike qe_places qe_stepsIn qe_passed qe_classes ve_bestBeat ve_bestLeft] ∧ va_S A s.heap H locs ∧ lv_has ls 4 [(2, .int x.2), (1, .int x.1), (0, .ref qe)]) 15 ((0 : Int32), (0 : Int32)) ⟨(show 0 ≤ (0 : Int32).toInt ∧ (0 : Int32).toInt ≤ 60 by decide), ⟨hP, hD⟩, hS, lv_sub hl [0, 1, 2] rfl⟩ (fun x ih1704 H locs ls hI => ?_)
    obtain ⟨x1702, x1703⟩ := x
    obtain ⟨h_x1703, ⟨hP, hD⟩, hS, hl⟩ := hI
    have h_x1703 : (0 ≤ x1703.toInt ∧ x1703.toInt ≤ 60) := h_x1703
    obtain ⟨hP, hD⟩ : ct_B D A H [(qe_lastUnlike, .inl (cI, 10, .inl (fe_lastUnlike))), (qe_places, .inl (cI, 200, .inl (fe_places))), (qe_stepsIn, .inl (cI, 60, .inl (fe_stepsIn))), gu qe ve_gap ve_length qe_round ve_impossible ve_firstUnlike qe_lastUnlike qe_places qe_stepsIn qe_passed qe_classes ve_bestBeat ve_bestLeft] := ⟨hP, hD⟩
    have hl : lv_has ls 4 [(2, .int x1703), (1, .int x1702), (0, .ref qe)] := hl
    refine lv_iload_n hx hb dX3_countFits_15 rfl (lv_at hl 0 rfl) ?_
    refine lv_bipush (v := 60) hx hb dX3_countFits_16 (by decide) ?_
    refine lv_icmp_ge (tgt := 53) hx hb dX3_countFits_18 (by decide) (fun hc => ?_) (fun hc => ?_)
    · have hq1705 : 60 ≤ x1703.toInt := tq_le (by decide) rfl hc
      refine lv_iload_n hx hb dX3_countFits_53 rfl (lv_at hl 1 rfl) ?_
      obtain ⟨hP9, hD9⟩ : ct_B D A H [gu qe ve_gap ve_length qe_round ve_impossible ve_firstUnlike qe_lastUnlike qe_places qe_stepsIn qe_passed qe_classes ve_bestBeat ve_bestLeft, (qe_lastUnlike, .inl (cI, 10, .inl (fe_lastUnlike))), (qe_places, .inl (cI, 200, .inl (fe_places))), (qe_stepsIn, .inl (cI, 60, .inl (fe_stepsIn)))] := ⟨hP.sub [3, 0, 1, 2] rfl, hD.sub [3, 0, 1, 2] (by decide) rfl⟩
      exact W.iret (v := x1702) hx hb hr (fun t ht hW => ⟨⟨x1702, (), rfl, trivial, by rw [ht]; exact hP9, hD9⟩, hS.F ht⟩) hS.2.2 dX3_countFits_54
    · have hq1705 : x1703.toInt < 60 := tq_nle (by decide) rfl hc
      refine lv_iconst (v := 0) hx hb dX3_countFits_21 (by decide) ?_
      refine lv_istore_n (lv' := [(3, .int 0), (2, .int x1703), (1, .int x1702), (0, .ref qe)]) hx hb dX3_countFits_22 rfl hl (by decide) rfl (fun ls hl => ?_)
      refine ct_loop (X := Int32 × Int32) (fun x => (10 - x.2.toInt).toNat) (fun x H locs ls => ((0 ≤ x.2.toInt ∧ x.2.toInt ≤ 10)) ∧ ct_B D A H [(qe_lastUnlike, .inl (cI, 10, .inl (fe_lastUnlike))), (qe_places, .inl (cI, 200, .inl (fe_places))), (qe_stepsIn, .inl (cI, 60, .inl (fe_stepsIn))), gu qe ve_gap ve_length qe_round ve_impossible ve_firstUnlike qe_lastUnlike qe_places qe_stepsIn qe_passed qe_classes ve_bestBeat ve_bestLeft] ∧ va_S A s.heap H locs ∧ lv_has ls 4 [(3, .int x.2), (2, .int x1703), (1, .int x.1), (0, .ref qe)]) 23 (x1702, (0 : Int32)) ⟨(show 0 ≤ (0 : Int32).toInt ∧ (0 : Int32).toInt ≤ 10 by decide), ⟨hP, hD⟩, hS, lv_sub hl [0, 1, 2, 3] rfl⟩ (fun x ih1755 H locs ls hI => ?_)
      obtain ⟨x1753, x1754⟩ := x
      obtain ⟨h_x1754, ⟨hP, hD⟩, hS, hl⟩ := hI
      have h_x1754 : (0 ≤ x1754.toInt ∧ x1754.toInt ≤ 10) := h_x1754
      obtain ⟨hP, hD⟩ : ct_B D A H [(qe_lastUnlike, .inl (cI, 10, .inl (fe_lastUnlike))), (qe_places, .inl (cI, 200, .inl (fe_places))), (qe_stepsIn, .inl (cI, 60, .inl (fe_stepsIn))), gu qe ve_gap ve_length qe_round ve_impossible ve_firstUnlike qe_lastUnlike qe_places qe_stepsIn qe_passed qe_classes ve_bestBeat ve_bestLeft] := ⟨hP, hD⟩
      have hl : lv_has ls 4 [(3, .int x1754), (2, .int x1703), (1, .int x1753), (0, .ref qe)] := hl
      refine lv_iload_n hx hb dX3_countFits_23 rfl (lv_at hl 0 rfl) ?_
      refine lv_bipush (v := 10) hx hb dX3_countFits_24 (by decide) ?_
      refine lv_icmp_ge (tgt := 47) hx hb dX3_countFits_26 (by decide) (fun hc => ?_) (fun hc => ?_)
      · have hq1756 : 10 ≤ x1754.toInt := tq_le (by decide) rfl hc
        obtain ⟨z1757, ez1757⟩ : ∃ z : Int32, z = x1703 + 1 := ⟨_, rfl⟩
        have fz1757 : z1757.toInt = x1703.toInt + 1 := by rw [ez1757]; exact tq_add rfl (by decide) (by omega)
        refine lv_iinc (v := z1757) (lv' := [(2, .int z1757), (3, .int x1754), (1, .int x1753), (0, .ref qe)]) hx hb dX3_countFits_47 hl (k := 1) rfl ez1757.symm (by decide) rfl (fun ls hl => ?_)
        refine lv_goto (tgt := 15) hx hb dX3_countFits_50 (by decide) ?_
        exact ih1704 (x1753, z1757) _ _ _ (show (60 - z1757.toInt).toNat < (60 - x1703.toInt).toNat by omega) ⟨(show 0 ≤ z1757.toInt ∧ z1757.toInt ≤ 60 by omega), ⟨hP, hD⟩, hS, lv_sub hl [0, 2, 3] rfl⟩
      · have hq1756 : x1754.toInt < 10 := tq_nle (by decide) rfl hc
        refine lv_iload_n hx hb dX3_countFits_29 rfl (lv_at hl 2 rfl) ?_
        refine lv_aload_n hx hb dX3_countFits_30 rfl (lv_at hl 3 rfl) ?_
        refine lv_iload_n hx hb dX3_countFits_31 rfl (lv_at hl 1 rfl) ?_
        refine lv_iload_n hx hb dX3_countFits_32 rfl (lv_at hl 0 rfl) ?_
        refine ct_calli (D := D) (wr := []) (va_runV (As := [.int x1703, .int x1754]) (rest := [.int x1753]) ⟨hx, hb, hml, hown, hts⟩ (c_X3_stepsThatFit l D G cI cJ cB cZ cO qe ve_gap ve_length qe_round ve_impossible ve_firstUnlike qe_lastUnlike fe_lastUnlike qe_places fe_places qe_stepsIn fe_stepsIn qe_passed qe_classes ve_bestBeat ve_bestLeft x1703 x1754 h_ve_gap h_ve_length (by omega) (by omega) H.size) (cwV 2 hts gX3_countFits_X3_stepsThatFit rfl rfl rfl (by decide +kernel) ⟨Nat.le_of_ble_eq_true rfl, Nat.le_of_ble_eq_true rfl⟩) (ct_preV (T := ct_T cI cJ cB cZ cO) (ci := 3) (q0 := 3) hE hH hP hD hS hA [3, 0, 1, 2] (by decide) rfl rfl rfl) rfl rfl hl.1 rfl (lv_room (Nat.le_of_ble_eq_true rfl)) dX3_countFits_33 ⟨Nat.le_of_ble_eq_true rfl, Nat.le_of_ble_eq_true rfl⟩) hP hD hS hA [3, 0, 1, 2] [] rfl rfl (by decide) (by decide) (fun r1758 u H locs hw hP hD hS => ?_)
        obtain ⟨hP, hD⟩ : ct_B D A H [gu qe ve_gap ve_length qe_round ve_impossible ve_firstUnlike qe_lastUnlike qe_places qe_stepsIn qe_passed qe_classes ve_bestBeat ve_bestLeft, (qe_lastUnlike, .inl (cI, 10, .inl (fe_lastUnlike))), (qe_places, .inl (cI, 200, .inl (fe_places))), (qe_stepsIn, .inl (cI, 60, .inl (fe_stepsIn)))] := ⟨hP, hD⟩
        refine ct_calli (D := D) (wr := [gu qe ve_gap ve_length qe_round ve_impossible ve_firstUnlike qe_lastUnlike qe_places qe_stepsIn qe_passed qe_classes ve_bestBeat ve_bestLeft, (qe_lastUnlike, .inl (cI, 10, .inl (fe_lastUnlike))), (qe_places, .inl (cI, 200, .inl (fe_places))), (qe_stepsIn, .inl (cI, 60, .inl (fe_stepsIn)))]) (va_runS (As := [.int r1758]) (rest := [.int x1753]) ⟨hx, hb, hml, hown, hts⟩ (c_J6_bitCount_0f7a4 l D G cI cJ cB cZ cO r1758  H.size) (va_cwS 1 hts gX3_countFits_J6_bitCount_0f7a4 rfl rfl rfl (by decide +kernel) ⟨Nat.le_of_ble_eq_true rfl, Nat.le_of_ble_eq_true rfl⟩) (ct_preS (T := ct_T cI cJ cB cZ cO) hE hH hP hD hS hA [] (by decide) rfl) rfl rfl hl.1 rfl (lv_room (Nat.le_of_ble_eq_true rfl)) dX3_countFits_36 ⟨Nat.le_of_ble_eq_true rfl, Nat.le_of_ble_eq_true rfl⟩) hP hD hS hA [] [0, 1, 2, 3] rfl rfl (by decide) (by decide) (fun r1759 u H locs hw hP hD hS => ?_)
        obtain ⟨hP, hD⟩ : ct_B D A H [gu qe ve_gap ve_length qe_round ve_impossible ve_firstUnlike qe_lastUnlike qe_places qe_stepsIn qe_passed qe_classes ve_bestBeat ve_bestLeft, (qe_lastUnlike, .inl (cI, 10, .inl (fe_lastUnlike))), (qe_places, .inl (cI, 200, .inl (fe_places))), (qe_stepsIn, .inl (cI, 60, .inl (fe_stepsIn)))] := ⟨hP, hD⟩
        have hz := hw
        have h_r1759 : 0 ≤ r1759.toInt ∧ r1759.toInt ≤ 63 := hz
        refine lv_iadd hx hb dX3_countFits_39 ?_
        refine lv_topi (fun z1760 ez1760 => ?_)
        refine lv_istore_n (lv' := [(1, .int z1760), (3, .int x1754), (2, .int x1703), (0, .ref qe)]) hx hb dX3_countFits_40 rfl hl (by decide) rfl (fun ls hl => ?_)
        obtain ⟨z1761, ez1761⟩ : ∃ z : Int32, z = x1754 + 1 := ⟨_, rfl⟩
        have fz1761 : z1761.toInt = x1754.toInt + 1 := by rw [ez1761]; exact tq_add rfl (by decide) (by omega)
        refine lv_iinc (v := z1761) (lv' := [(3, .int z1761), (1, .int z1760), (2, .int x1703), (0, .ref qe)]) hx hb dX3_countFits_41 hl (k := 1) rfl ez1761.symm (by decide) rfl (fun ls hl => ?_)
        refine lv_goto (tgt := 23) hx hb dX3_countFits_44 (by decide) ?_
        obtain ⟨hP9, hD9⟩ : ct_B D A H [(qe_lastUnlike, .inl (cI, 10, .inl (fe_lastUnlike))), (qe_places, .inl (cI, 200, .inl (fe_places))), (qe_stepsIn, .inl (cI, 60, .inl (fe_stepsIn))), gu qe ve_gap ve_length qe_round ve_impossible ve_firstUnlike qe_lastUnlike qe_places qe_stepsIn qe_passed qe_classes ve_bestBeat ve_bestLeft] := ⟨hP.sub [1, 2, 3, 0] rfl, hD.sub [1, 2, 3, 0] (by decide) rfl⟩
        exact ih1755 (z1760, z1761) _ _ _ (show (10 - z1761.toInt).toNat < (10 - x1754.toInt).toNat by omega) ⟨(show 0 ≤ z1761.toInt ∧ z1761.toInt ≤ 10 by omega), ⟨hP9, hD9⟩, hS, lv_sub hl [0, 2, 1, 3] rfl⟩
abbrev w_c_X3_leastFit (cI cJ cB cZ cO : ClassId) (qe : Nat) (ve_gap : Int32) (ve_length : Int32) (qe_round : Nat) (ve_impossible : Int32) (ve_firstUnlike : Int32) (qe_lastUnlike : Nat) (fe_lastUnlike : Nat → Int32) (qe_places : Nat) (fe_places : Nat → Int32) (qe_stepsIn : Nat) (fe_stepsIn : Nat → Int32) (qe_passed : Nat) (qe_classes : Nat) (ve_bestBeat : Int32) (ve_bestLeft : Int32) : va_W := [gu qe ve_gap ve_length qe_round ve_impossible ve_firstUnlike qe_lastUnlike qe_places qe_stepsIn qe_passed qe_classes ve_bestBeat ve_bestLeft, (qe_lastUnlike, .inl (cI, 10, .inl (fe_lastUnlike))), (qe_places, .inl (cI, 200, .inl (fe_places))), (qe_stepsIn, .inl (cI, 60, .inl (fe_stepsIn)))]
set_option maxHeartbeats 4000000 in
set_option maxRecDepth 100000 in
/-- X3 leastFit -/
theorem c_X3_leastFit (l : Launch) (D : va_G) (G : ct_G) (cI cJ cB cZ cO : ClassId) (qe : Nat) (ve_gap : Int32) (ve_length : Int32) (qe_round : Nat) (ve_impossible : Int32) (ve_firstUnlike : Int32) (qe_lastUnlike : Nat) (fe_lastUnlike : Nat → Int32) (qe_places : Nat) (fe_places : Nat → Int32) (qe_stepsIn : Nat) (fe_stepsIn : Nat → Int32) (qe_passed : Nat) (qe_classes : Nat) (ve_bestBeat : Int32) (ve_bestLeft : Int32) (h_ve_gap : 0 ≤ ve_gap.toInt ∧ ve_gap.toInt ≤ 20) (h_ve_length : 0 ≤ ve_length.toInt ∧ ve_length.toInt ≤ 12) (sz : Nat) : Met l yX3_leastFit wsX3_leastFit ({ frames := 2, cells := 0, slots := 0, locals := 43 }) (va_Pc [.ref qe] (ct_P D (ct_T cI cJ cB cZ cO) G (w_c_X3_leastFit cI cJ cB cZ cO qe ve_gap ve_length qe_round ve_impossible ve_firstUnlike qe_lastUnlike fe_lastUnlike qe_places fe_places qe_stepsIn fe_stepsIn qe_passed qe_classes ve_bestBeat ve_bestLeft) sz)) (va_Qi (fun (rz : Int32) (u : Unit) => ((-1) ≤ rz.toInt ∧ rz.toInt ≤ 3600)) (fun (u : Unit) t => ct_Q D (va_A (w_c_X3_leastFit cI cJ cB cZ cO qe ve_gap ve_length qe_round ve_impossible ve_firstUnlike qe_lastUnlike fe_lastUnlike qe_places fe_places qe_stepsIn fe_stepsIn qe_passed qe_classes ve_bestBeat ve_bestLeft) sz) [gu qe ve_gap ve_length qe_round ve_impossible ve_firstUnlike qe_lastUnlike qe_places qe_stepsIn qe_passed qe_classes ve_bestBeat ve_bestLeft, (qe_lastUnlike, .inl (cI, 10, .inl (fe_lastUnlike))), (qe_places, .inl (cI, 200, .inl (fe_places))), (qe_stepsIn, .inl (cI, 60, .inl (fe_stepsIn)))] t) (va_A (w_c_X3_leastFit cI cJ cB cZ cO qe ve_gap ve_length qe_round ve_impossible ve_firstUnlike qe_lastUnlike fe_lastUnlike qe_places fe_places qe_stepsIn fe_stepsIn qe_passed qe_classes ve_bestBeat ve_bestLeft) sz)) 0 0 (va_A (w_c_X3_leastFit cI cJ cB cZ cO qe ve_gap ve_length qe_round ve_impossible ve_firstUnlike qe_lastUnlike fe_lastUnlike qe_places fe_places qe_stepsIn fe_stepsIn qe_passed qe_classes ve_bestBeat ve_bestLeft) sz) := by
  refine Met.ofW (cc := cX3_leastFit) (maxL := 4) (ret := (some .int)) (by decide) rfl ?_
  intro p e s m args below meth c s₁ B hml hv
  obtain ⟨rfl, hsz, hP, hE, hD0, hH⟩ := hv
  have hx := B.exec
  have hb := B.bytes
  have hr := B.returns
  have hts := atoms_spec (ws := wsX3_leastFit) B.pre
  have hown : s.vm.findClass RX3 = some m.cls := findClass_of_methodNamed B.named
  have hlocks := B.notSynchronized
  have hK := hE.1
  subst hsz
  have hD := hD0.self (sz := s.heap.size)
  generalize hAe : va_A (w_c_X3_leastFit cI cJ cB cZ cO qe ve_gap ve_length qe_round ve_impossible ve_firstUnlike qe_lastUnlike fe_lastUnlike qe_places fe_places qe_stepsIn fe_stepsIn qe_passed qe_classes ve_bestBeat ve_bestLeft) s.heap.size = A at hD hH ⊢
  have hA : ∀ q : Nat, s.heap.size ≤ q → A q := fun q h => by rw [← hAe]; exact Or.inr h
  have hS : va_S A s.heap s.heap [] := va_S.rf
  obtain ⟨hP, hD⟩ : ct_B D A s.heap [gu qe ve_gap ve_length qe_round ve_impossible ve_firstUnlike qe_lastUnlike qe_places qe_stepsIn qe_passed qe_classes ve_bestBeat ve_bestLeft, (qe_lastUnlike, .inl (cI, 10, .inl (fe_lastUnlike))), (qe_places, .inl (cI, 200, .inl (fe_places))), (qe_stepsIn, .inl (cI, 60, .inl (fe_stepsIn)))] := ⟨hP, hD⟩
  have hl := lv_entry ([.ref qe]) (n := 4) (Nat.le_of_ble_eq_true rfl)
  rw [lg_entry_eq]
  generalize (lg_sl ([.ref qe]) ++ List.replicate (4 - (lg_sl ([.ref qe])).length) Slot.unset).toArray = ls at hl ⊢
  have hl : lv_has ls 4 [(0, .ref qe)] := hl
  obtain ⟨H, hHe⟩ : ∃ H : Heap, H = s.heap := ⟨_, rfl⟩
  rw [← hHe] at hP
  have hS : va_S A s.heap H [] := by rw [hHe]; exact va_S.rf
  refine ct_start hHe ?_
  refine lv_aload_n hx hb dX3_leastFit_0 rfl (lv_at hl 0 rfl) ?_
  refine ct_calli (D := D) (wr := [(qe_lastUnlike, .inl (cI, 10, .inl (fe_lastUnlike))), (qe_places, .inl (cI, 200, .inl (fe_places))), (qe_stepsIn, .inl (cI, 60, .inl (fe_stepsIn)))]) (va_runV (As := []) (rest := []) ⟨hx, hb, hml, hown, hts⟩ (c_X3_fitsWithout l D G cI cJ cB cZ cO qe ve_gap ve_length qe_round ve_impossible ve_firstUnlike qe_lastUnlike qe_places qe_stepsIn qe_passed qe_classes ve_bestBeat ve_bestLeft h_ve_gap h_ve_length H.size) (cwV 0 hts gX3_leastFit_X3_fitsWithout rfl rfl rfl (by decide +kernel) ⟨Nat.le_of_ble_eq_true rfl, Nat.le_of_ble_eq_true rfl⟩) (ct_preV (T := ct_T cI cJ cB cZ cO) (ci := 3) (q0 := 0) hE hH hP hD hS hA [0] (by decide) rfl rfl rfl) rfl rfl hl.1 rfl (lv_room (Nat.le_of_ble_eq_true rfl)) dX3_leastFit_1 ⟨Nat.le_of_ble_eq_true rfl, Nat.le_of_ble_eq_true rfl⟩) hP hD hS hA [0] [1, 2, 3] rfl rfl (by decide) (by decide) (fun r1 u H locs hw hP hD hS => ?_)
  obtain ⟨hP, hD⟩ : ct_B D A H [(qe_lastUnlike, .inl (cI, 10, .inl (fe_lastUnlike))), (qe_places, .inl (cI, 200, .inl (fe_places))), (qe_stepsIn, .inl (cI, 60, .inl (fe_stepsIn))), gu qe ve_gap ve_length qe_round ve_impossible ve_firstUnlike qe_lastUnlike qe_places qe_stepsIn qe_passed qe_classes ve_bestBeat ve_bestLeft] := ⟨hP, hD⟩
  have hz := hw
  rcases hz with ⟨hz, hz2⟩ | ⟨hz, hz2⟩
  · subst hz
    refine lv_if_eq (tgt := 9) hx hb dX3_leastFit_4 (by decide) (fun hc => absurd hc (by decide)) (fun _ => ?_)
    refine lv_iconst (v := 0) hx hb dX3_leastFit_7 (by decide) ?_
    obtain ⟨hP9, hD9⟩ : ct_B D A H [gu qe ve_gap ve_length qe_round ve_impossible ve_firstUnlike qe_lastUnlike qe_places qe_stepsIn qe_passed qe_classes ve_bestBeat ve_bestLeft, (qe_lastUnlike, .inl (cI, 10, .inl (fe_lastUnlike))), (qe_places, .inl (cI, 200, .inl (fe_places))), (qe_stepsIn, .inl (cI, 60, .inl (fe_stepsIn)))] := ⟨hP.sub [3, 0, 1, 2] rfl, hD.sub [3, 0, 1, 2] (by decide) rfl⟩
    exact W.iret (v := 0) hx hb hr (fun t ht hW => ⟨⟨0, (), rfl, (show (-1) ≤ (0 : Int32).toInt ∧ (0 : Int32).toInt ≤ 3600 by decide), by rw [ht]; exact hP9, hD9⟩, hS.F ht⟩) hS.2.2 dX3_leastFit_8
  · subst hz
    refine lv_if_eq (tgt := 9) hx hb dX3_leastFit_4 (by decide) (fun _ => ?_) (fun hc => absurd hc (by decide))
    refine lv_iconst (v := 0) hx hb dX3_leastFit_9 (by decide) ?_
    refine lv_istore_n (lv' := [(1, .int 0), (0, .ref qe)]) hx hb dX3_leastFit_10 rfl hl (by decide) rfl (fun ls hl => ?_)
    refine ct_loop (X := Int32) (fun x => (60 - x.toInt).toNat) (fun x H locs ls => ((0 ≤ x.toInt ∧ x.toInt ≤ 60)) ∧ ct_B D A H [(qe_lastUnlike, .inl (cI, 10, .inl (fe_lastUnlike))), (qe_places, .inl (cI, 200, .inl (fe_places))), (qe_stepsIn, .inl (cI, 60, .inl (fe_stepsIn))), gu qe ve_gap ve_length qe_round ve_impossible ve_firstUnlike qe_lastUnlike qe_places qe_stepsIn qe_passed qe_classes ve_bestBeat ve_bestLeft] ∧ va_S A s.heap H locs ∧ lv_has ls 4 [(1, .int x), (0, .ref qe)]) 11 (0 : Int32) ⟨(show 0 ≤ (0 : Int32).toInt ∧ (0 : Int32).toInt ≤ 60 by decide), ⟨hP, hD⟩, hS, lv_sub hl [0, 1] rfl⟩ (fun x ih18375 H locs ls hI => ?_)
    obtain ⟨x18374, rfl⟩ : ∃ z, z = x := ⟨_, rfl⟩
    obtain ⟨h_x18374, ⟨hP, hD⟩, hS, hl⟩ := hI
    have h_x18374 : (0 ≤ x18374.toInt ∧ x18374.toInt ≤ 60) := h_x18374
    obtain ⟨hP, hD⟩ : ct_B D A H [(qe_lastUnlike, .inl (cI, 10, .inl (fe_lastUnlike))), (qe_places, .inl (cI, 200, .inl (fe_places))), (qe_stepsIn, .inl (cI, 60, .inl (fe_stepsIn))), gu qe ve_gap ve_length qe_round ve_impossible ve_firstUnlike qe_lastUnlike qe_places qe_stepsIn qe_passed qe_classes ve_bestBeat ve_bestLeft] := ⟨hP, hD⟩
    have hl : lv_has ls 4 [(1, .int x18374), (0, .ref qe)] := hl
    refine lv_iload_n hx hb dX3_leastFit_11 rfl (lv_at hl 0 rfl) ?_
    refine lv_bipush (v := 60) hx hb dX3_leastFit_12 (by decide) ?_
    refine lv_icmp_ge (tgt := 78) hx hb dX3_leastFit_14 (by decide) (fun hc => ?_) (fun hc => ?_)
    · have hq18376 : 60 ≤ x18374.toInt := tq_le (by decide) rfl hc
      refine lv_iconst (v := (-1)) hx hb dX3_leastFit_78 (by decide) ?_
      obtain ⟨hP9, hD9⟩ : ct_B D A H [gu qe ve_gap ve_length qe_round ve_impossible ve_firstUnlike qe_lastUnlike qe_places qe_stepsIn qe_passed qe_classes ve_bestBeat ve_bestLeft, (qe_lastUnlike, .inl (cI, 10, .inl (fe_lastUnlike))), (qe_places, .inl (cI, 200, .inl (fe_places))), (qe_stepsIn, .inl (cI, 60, .inl (fe_stepsIn)))] := ⟨hP.sub [3, 0, 1, 2] rfl, hD.sub [3, 0, 1, 2] (by decide) rfl⟩
      exact W.iret (v := (-1)) hx hb hr (fun t ht hW => ⟨⟨(-1), (), rfl, (show (-1) ≤ (-1 : Int32).toInt ∧ (-1 : Int32).toInt ≤ 3600 by decide), by rw [ht]; exact hP9, hD9⟩, hS.F ht⟩) hS.2.2 dX3_leastFit_79
    · have hq18376 : x18374.toInt < 60 := tq_nle (by decide) rfl hc
      refine lv_iconst (v := 0) hx hb dX3_leastFit_17 (by decide) ?_
      refine lv_istore_n (lv' := [(2, .int 0), (1, .int x18374), (0, .ref qe)]) hx hb dX3_leastFit_18 rfl hl (by decide) rfl (fun ls hl => ?_)
      refine ct_loop (X := Int32) (fun x => (6 - x.toInt).toNat) (fun x H locs ls => ((0 ≤ x.toInt ∧ x.toInt ≤ 6)) ∧ ct_B D A H [(qe_lastUnlike, .inl (cI, 10, .inl (fe_lastUnlike))), (qe_places, .inl (cI, 200, .inl (fe_places))), (qe_stepsIn, .inl (cI, 60, .inl (fe_stepsIn))), gu qe ve_gap ve_length qe_round ve_impossible ve_firstUnlike qe_lastUnlike qe_places qe_stepsIn qe_passed qe_classes ve_bestBeat ve_bestLeft] ∧ va_S A s.heap H locs ∧ lv_has ls 4 [(2, .int x), (1, .int x18374), (0, .ref qe)]) 19 (0 : Int32) ⟨(show 0 ≤ (0 : Int32).toInt ∧ (0 : Int32).toInt ≤ 6 by decide), ⟨hP, hD⟩, hS, lv_sub hl [0, 1, 2] rfl⟩ (fun x ih19320 H locs ls hI => ?_)
      obtain ⟨x19319, rfl⟩ : ∃ z, z = x := ⟨_, rfl⟩
      obtain ⟨h_x19319, ⟨hP, hD⟩, hS, hl⟩ := hI
      have h_x19319 : (0 ≤ x19319.toInt ∧ x19319.toInt ≤ 6) := h_x19319
      obtain ⟨hP, hD⟩ : ct_B D A H [(qe_lastUnlike, .inl (cI, 10, .inl (fe_lastUnlike))), (qe_places, .inl (cI, 200, .inl (fe_places))), (qe_stepsIn, .inl (cI, 60, .inl (fe_stepsIn))), gu qe ve_gap ve_length qe_round ve_impossible ve_firstUnlike qe_lastUnlike qe_places qe_stepsIn qe_passed qe_classes ve_bestBeat ve_bestLeft] := ⟨hP, hD⟩
      have hl : lv_has ls 4 [(2, .int x19319), (1, .int x18374), (0, .ref qe)] := hl
      refine lv_iload_n hx hb dX3_leastFit_19 rfl (lv_at hl 0 rfl) ?_
      refine lv_bipush (v := 6) hx hb dX3_leastFit_20 (by decide) ?_
      refine lv_icmp_ge (tgt := 72) hx hb dX3_leastFit_22 (by decide) (fun hc => ?_) (fun hc => ?_)
      · have hq19321 : 6 ≤ x19319.toInt := tq_le (by decide) rfl hc
        obtain ⟨z19322, ez19322⟩ : ∃ z : Int32, z = x18374 + 1 := ⟨_, rfl⟩
        have fz19322 : z19322.toInt = x18374.toInt + 1 := by rw [ez19322]; exact tq_add rfl (by decide) (by omega)
        refine lv_iinc (v := z19322) (lv' := [(1, .int z19322), (2, .int x19319), (0, .ref qe)]) hx hb dX3_leastFit_72 hl (k := 1) rfl ez19322.symm (by decide) rfl (fun ls hl => ?_)
        refine lv_goto (tgt := 11) hx hb dX3_leastFit_75 (by decide) ?_
        exact ih18375 z19322 _ _ _ (show (60 - z19322.toInt).toNat < (60 - x18374.toInt).toNat by omega) ⟨(show 0 ≤ z19322.toInt ∧ z19322.toInt ≤ 60 by omega), ⟨hP, hD⟩, hS, lv_sub hl [0, 2] rfl⟩
      · have hq19321 : x19319.toInt < 6 := tq_nle (by decide) rfl hc
        refine lv_iconst (v := 0) hx hb dX3_leastFit_25 (by decide) ?_
        refine lv_istore_n (lv' := [(3, .int 0), (2, .int x19319), (1, .int x18374), (0, .ref qe)]) hx hb dX3_leastFit_26 rfl hl (by decide) rfl (fun ls hl => ?_)
        refine ct_loop (X := Int32) (fun x => (10 - x.toInt).toNat) (fun x H locs ls => ((0 ≤ x.toInt ∧ x.toInt ≤ 10)) ∧ ct_B D A H [(qe_lastUnlike, .inl (cI, 10, .inl (fe_lastUnlike))), (qe_places, .inl (cI, 200, .inl (fe_places))), (qe_stepsIn, .inl (cI, 60, .inl (fe_stepsIn))), gu qe ve_gap ve_length qe_round ve_impossible ve_firstUnlike qe_lastUnlike qe_places qe_stepsIn qe_passed qe_classes ve_bestBeat ve_bestLeft] ∧ va_S A s.heap H locs ∧ lv_has ls 4 [(3, .int x), (2, .int x19319), (1, .int x18374), (0, .ref qe)]) 27 (0 : Int32) ⟨(show 0 ≤ (0 : Int32).toInt ∧ (0 : Int32).toInt ≤ 10 by decide), ⟨hP, hD⟩, hS, lv_sub hl [0, 1, 2, 3] rfl⟩ (fun x ih19443 H locs ls hI => ?_)
        obtain ⟨x19442, rfl⟩ : ∃ z, z = x := ⟨_, rfl⟩
        obtain ⟨h_x19442, ⟨hP, hD⟩, hS, hl⟩ := hI
        have h_x19442 : (0 ≤ x19442.toInt ∧ x19442.toInt ≤ 10) := h_x19442
        obtain ⟨hP, hD⟩ : ct_B D A H [(qe_lastUnlike, .inl (cI, 10, .inl (fe_lastUnlike))), (qe_places, .inl (cI, 200, .inl (fe_places))), (qe_stepsIn, .inl (cI, 60, .inl (fe_stepsIn))), gu qe ve_gap ve_length qe_round ve_impossible ve_firstUnlike qe_lastUnlike qe_places qe_stepsIn qe_passed qe_classes ve_bestBeat ve_bestLeft] := ⟨hP, hD⟩
        have hl : lv_has ls 4 [(3, .int x19442), (2, .int x19319), (1, .int x18374), (0, .ref qe)] := hl
        refine lv_iload_n hx hb dX3_leastFit_27 rfl (lv_at hl 0 rfl) ?_
        refine lv_bipush (v := 10) hx hb dX3_leastFit_28 (by decide) ?_
        refine lv_icmp_ge (tgt := 66) hx hb dX3_leastFit_30 (by decide) (fun hc => ?_) (fun hc => ?_)
        · have hq19444 : 10 ≤ x19442.toInt := tq_le (by decide) rfl hc
          obtain ⟨z19445, ez19445⟩ : ∃ z : Int32, z = x19319 + 1 := ⟨_, rfl⟩
          have fz19445 : z19445.toInt = x19319.toInt + 1 := by rw [ez19445]; exact tq_add rfl (by decide) (by omega)
          refine lv_iinc (v := z19445) (lv' := [(2, .int z19445), (3, .int x19442), (1, .int x18374), (0, .ref qe)]) hx hb dX3_leastFit_66 hl (k := 1) rfl ez19445.symm (by decide) rfl (fun ls hl => ?_)
          refine lv_goto (tgt := 19) hx hb dX3_leastFit_69 (by decide) ?_
          exact ih19320 z19445 _ _ _ (show (6 - z19445.toInt).toNat < (6 - x19319.toInt).toNat by omega) ⟨(show 0 ≤ z19445.toInt ∧ z19445.toInt ≤ 6 by omega), ⟨hP, hD⟩, hS, lv_sub hl [0, 2, 3] rfl⟩
        · have hq19444 : x19442.toInt < 10 := tq_nle (by decide) rfl hc
          refine lv_aload_n hx hb dX3_leastFit_33 rfl (lv_at hl 3 rfl) ?_
          refine lv_iload_n hx hb dX3_leastFit_34 rfl (lv_at hl 2 rfl) ?_
          refine lv_iload_n hx hb dX3_leastFit_35 rfl (lv_at hl 0 rfl) ?_
          refine ct_calli (D := D) (wr := []) (va_runV (As := [.int x18374, .int x19442]) (rest := []) ⟨hx, hb, hml, hown, hts⟩ (c_X3_stepsThatFit l D G cI cJ cB cZ cO qe ve_gap ve_length qe_round ve_impossible ve_firstUnlike qe_lastUnlike fe_lastUnlike qe_places fe_places qe_stepsIn fe_stepsIn qe_passed qe_classes ve_bestBeat ve_bestLeft x18374 x19442 h_ve_gap h_ve_length (by omega) (by omega) H.size) (cwV 2 hts gX3_leastFit_X3_stepsThatFit rfl rfl rfl (by decide +kernel) ⟨Nat.le_of_ble_eq_true rfl, Nat.le_of_ble_eq_true rfl⟩) (ct_preV (T := ct_T cI cJ cB cZ cO) (ci := 3) (q0 := 3) hE hH hP hD hS hA [3, 0, 1, 2] (by decide) rfl rfl rfl) rfl rfl hl.1 rfl (lv_room (Nat.le_of_ble_eq_true rfl)) dX3_leastFit_36 ⟨Nat.le_of_ble_eq_true rfl, Nat.le_of_ble_eq_true rfl⟩) hP hD hS hA [3, 0, 1, 2] [] rfl rfl (by decide) (by decide) (fun r19446 u H locs hw hP hD hS => ?_)
          obtain ⟨hP, hD⟩ : ct_B D A H [gu qe ve_gap ve_length qe_round ve_impossible ve_firstUnlike qe_lastUnlike qe_places qe_stepsIn qe_passed qe_classes ve_bestBeat ve_bestLeft, (qe_lastUnlike, .inl (cI, 10, .inl (fe_lastUnlike))), (qe_places, .inl (cI, 200, .inl (fe_places))), (qe_stepsIn, .inl (cI, 60, .inl (fe_stepsIn)))] := ⟨hP, hD⟩
          refine lv_iload_n hx hb dX3_leastFit_39 rfl (lv_at hl 1 rfl) ?_
          refine lv_ishr hx hb dX3_leastFit_40 ?_
          refine lv_topi (fun z19447 ez19447 => ?_)
          refine lv_iconst (v := 1) hx hb dX3_leastFit_41 (by decide) ?_
          refine lv_iand hx hb dX3_leastFit_42 ?_
          refine lv_topi (fun z19448 ez19448 => ?_)
          have fz19448 : 0 ≤ z19448.toInt ∧ z19448.toInt ≤ 1 := by rw [ez19448]; exact tq_and (c := 1) (by decide) (by omega)
          refine lv_if_eq (tgt := 60) hx hb dX3_leastFit_43 (by decide) (fun hc => ?_) (fun hc => ?_)
          · have hq19449 : z19448.toInt = 0 := tq_eq rfl (by decide) hc
            obtain ⟨z19450, ez19450⟩ : ∃ z : Int32, z = x19442 + 1 := ⟨_, rfl⟩
            have fz19450 : z19450.toInt = x19442.toInt + 1 := by rw [ez19450]; exact tq_add rfl (by decide) (by omega)
            refine lv_iinc (v := z19450) (lv' := [(3, .int z19450), (2, .int x19319), (1, .int x18374), (0, .ref qe)]) hx hb dX3_leastFit_60 hl (k := 0) rfl ez19450.symm (by decide) rfl (fun ls hl => ?_)
            refine lv_goto (tgt := 27) hx hb dX3_leastFit_63 (by decide) ?_
            obtain ⟨hP9, hD9⟩ : ct_B D A H [(qe_lastUnlike, .inl (cI, 10, .inl (fe_lastUnlike))), (qe_places, .inl (cI, 200, .inl (fe_places))), (qe_stepsIn, .inl (cI, 60, .inl (fe_stepsIn))), gu qe ve_gap ve_length qe_round ve_impossible ve_firstUnlike qe_lastUnlike qe_places qe_stepsIn qe_passed qe_classes ve_bestBeat ve_bestLeft] := ⟨hP.sub [1, 2, 3, 0] rfl, hD.sub [1, 2, 3, 0] (by decide) rfl⟩
            exact ih19443 z19450 _ _ _ (show (10 - z19450.toInt).toNat < (10 - x19442.toInt).toNat by omega) ⟨(show 0 ≤ z19450.toInt ∧ z19450.toInt ≤ 10 by omega), ⟨hP9, hD9⟩, hS, lv_sub hl [0, 1, 2, 3] rfl⟩
          · have hq19449 : z19448.toInt ≠ 0 := tq_ne rfl (by decide) hc
            refine lv_iconst (v := 1) hx hb dX3_leastFit_46 (by decide) ?_
            refine lv_bipush (v := 60) hx hb dX3_leastFit_47 (by decide) ?_
            refine lv_iload_n hx hb dX3_leastFit_49 rfl (lv_at hl 2 rfl) ?_
            refine lv_imul hx hb dX3_leastFit_50 ?_
            refine lv_topi (fun z19451 ez19451 => ?_)
            have fz19451 : z19451.toInt = 60 * x18374.toInt := by rw [ez19451]; exact tq_mul (by decide) rfl (by omega)
            refine lv_iadd hx hb dX3_leastFit_51 ?_
            refine lv_topi (fun z19452 ez19452 => ?_)
            have fz19452 : z19452.toInt = 1 + z19451.toInt := by rw [ez19452]; exact tq_add (by decide) rfl (by omega)
            refine lv_bipush (v := 10) hx hb dX3_leastFit_52 (by decide) ?_
            refine lv_iload_n hx hb dX3_leastFit_54 rfl (lv_at hl 1 rfl) ?_
            refine lv_imul hx hb dX3_leastFit_55 ?_
            refine lv_topi (fun z19453 ez19453 => ?_)
            have fz19453 : z19453.toInt = 10 * x19319.toInt := by rw [ez19453]; exact tq_mul (by decide) rfl (by omega)
            refine lv_iadd hx hb dX3_leastFit_56 ?_
            refine lv_topi (fun z19454 ez19454 => ?_)
            have fz19454 : z19454.toInt = z19452.toInt + z19453.toInt := by rw [ez19454]; exact tq_add rfl rfl (by omega)
            refine lv_iload_n hx hb dX3_leastFit_57 rfl (lv_at hl 0 rfl) ?_
            refine lv_iadd hx hb dX3_leastFit_58 ?_
            refine lv_topi (fun z19455 ez19455 => ?_)
            have fz19455 : z19455.toInt = z19454.toInt + x19442.toInt := by rw [ez19455]; exact tq_add rfl rfl (by omega)
            obtain ⟨hP9, hD9⟩ : ct_B D A H [gu qe ve_gap ve_length qe_round ve_impossible ve_firstUnlike qe_lastUnlike qe_places qe_stepsIn qe_passed qe_classes ve_bestBeat ve_bestLeft, (qe_lastUnlike, .inl (cI, 10, .inl (fe_lastUnlike))), (qe_places, .inl (cI, 200, .inl (fe_places))), (qe_stepsIn, .inl (cI, 60, .inl (fe_stepsIn)))] := ⟨hP.sub [0, 1, 2, 3] rfl, hD.sub [0, 1, 2, 3] (by decide) rfl⟩
            exact W.iret (v := z19455) hx hb hr (fun t ht hW => ⟨⟨z19455, (), rfl, (show (-1) ≤ z19455.toInt ∧ z19455.toInt ≤ 3600 by omega), by rw [ht]; exact hP9, hD9⟩, hS.F ht⟩) hS.2.2 dX3_leastFit_59
abbrev w_c_X3_beatsOfFits (cI cJ cB cZ cO : ClassId) (qe : Nat) (ve_gap : Int32) (ve_length : Int32) (qe_round : Nat) (ve_impossible : Int32) (ve_firstUnlike : Int32) (qe_lastUnlike : Nat) (fe_lastUnlike : Nat → Int32) (qe_places : Nat) (fe_places : Nat → Int32) (qe_stepsIn : Nat) (fe_stepsIn : Nat → Int32) (qe_passed : Nat) (qe_classes : Nat) (ve_bestBeat : Int32) (ve_bestLeft : Int32) : va_W := [gu qe ve_gap ve_length qe_round ve_impossible ve_firstUnlike qe_lastUnlike qe_places qe_stepsIn qe_passed qe_classes ve_bestBeat ve_bestLeft, (qe_lastUnlike, .inl (cI, 10, .inl (fe_lastUnlike))), (qe_places, .inl (cI, 200, .inl (fe_places))), (qe_stepsIn, .inl (cI, 60, .inl (fe_stepsIn)))]
set_option maxHeartbeats 4000000 in
set_option maxRecDepth 100000 in
/-- X3 beatsOfFits -/
theorem c_X3_beatsOfFits (l : Launch) (D : va_G) (G : ct_G) (cI cJ cB cZ cO : ClassId) (qe : Nat) (ve_gap : Int32) (ve_length : Int32) (qe_round : Nat) (ve_impossible : Int32) (ve_firstUnlike : Int32) (qe_lastUnlike : Nat) (fe_lastUnlike : Nat → Int32) (qe_places : Nat) (fe_places : Nat → Int32) (qe_stepsIn : Nat) (fe_stepsIn : Nat → Int32) (qe_passed : Nat) (qe_classes : Nat) (ve_bestBeat : Int32) (ve_bestLeft : Int32) (h_ve_gap : 0 ≤ ve_gap.toInt ∧ ve_gap.toInt ≤ 20) (h_ve_length : 0 ≤ ve_length.toInt ∧ ve_length.toInt ≤ 12) (sz : Nat) : Met l yX3_beatsOfFits wsX3_beatsOfFits ({ frames := 2, cells := 0, slots := 0, locals := 43 }) (va_Pc [.ref qe] (ct_P D (ct_T cI cJ cB cZ cO) G (w_c_X3_beatsOfFits cI cJ cB cZ cO qe ve_gap ve_length qe_round ve_impossible ve_firstUnlike qe_lastUnlike fe_lastUnlike qe_places fe_places qe_stepsIn fe_stepsIn qe_passed qe_classes ve_bestBeat ve_bestLeft) sz)) (va_Ql (fun (rz : Int64) (u : Unit) => True) (fun (u : Unit) t => ct_Q D (va_A (w_c_X3_beatsOfFits cI cJ cB cZ cO qe ve_gap ve_length qe_round ve_impossible ve_firstUnlike qe_lastUnlike fe_lastUnlike qe_places fe_places qe_stepsIn fe_stepsIn qe_passed qe_classes ve_bestBeat ve_bestLeft) sz) [gu qe ve_gap ve_length qe_round ve_impossible ve_firstUnlike qe_lastUnlike qe_places qe_stepsIn qe_passed qe_classes ve_bestBeat ve_bestLeft, (qe_lastUnlike, .inl (cI, 10, .inl (fe_lastUnlike))), (qe_places, .inl (cI, 200, .inl (fe_places))), (qe_stepsIn, .inl (cI, 60, .inl (fe_stepsIn)))] t) (va_A (w_c_X3_beatsOfFits cI cJ cB cZ cO qe ve_gap ve_length qe_round ve_impossible ve_firstUnlike qe_lastUnlike fe_lastUnlike qe_places fe_places qe_stepsIn fe_stepsIn qe_passed qe_classes ve_bestBeat ve_bestLeft) sz)) 0 0 (va_A (w_c_X3_beatsOfFits cI cJ cB cZ cO qe ve_gap ve_length qe_round ve_impossible ve_firstUnlike qe_lastUnlike fe_lastUnlike qe_places fe_places qe_stepsIn fe_stepsIn qe_passed qe_classes ve_bestBeat ve_bestLeft) sz) := by
  refine Met.ofW (cc := cX3_beatsOfFits) (maxL := 5) (ret := (some .long)) (by decide) rfl ?_
  intro p e s m args below meth c s₁ B hml hv
  obtain ⟨rfl, hsz, hP, hE, hD0, hH⟩ := hv
  have hx := B.exec
  have hb := B.bytes
  have hr := B.returns
  have hts := atoms_spec (ws := wsX3_beatsOfFits) B.pre
  have hown : s.vm.findClass RX3 = some m.cls := findClass_of_methodNamed B.named
  have hlocks := B.notSynchronized
  have hK := hE.1
  subst hsz
  have hD := hD0.self (sz := s.heap.size)
  generalize hAe : va_A (w_c_X3_beatsOfFits cI cJ cB cZ cO qe ve_gap ve_length qe_round ve_impossible ve_firstUnlike qe_lastUnlike fe_lastUnlike qe_places fe_places qe_stepsIn fe_stepsIn qe_passed qe_classes ve_bestBeat ve_bestLeft) s.heap.size = A at hD hH ⊢
  have hA : ∀ q : Nat, s.heap.size ≤ q → A q := fun q h => by rw [← hAe]; exact Or.inr h
  have hS : va_S A s.heap s.heap [] := va_S.rf
  obtain ⟨hP, hD⟩ : ct_B D A s.heap [gu qe ve_gap ve_length qe_round ve_impossible ve_firstUnlike qe_lastUnlike qe_places qe_stepsIn qe_passed qe_classes ve_bestBeat ve_bestLeft, (qe_lastUnlike, .inl (cI, 10, .inl (fe_lastUnlike))), (qe_places, .inl (cI, 200, .inl (fe_places))), (qe_stepsIn, .inl (cI, 60, .inl (fe_stepsIn)))] := ⟨hP, hD⟩
  have hl := lv_entry ([.ref qe]) (n := 5) (Nat.le_of_ble_eq_true rfl)
  rw [lg_entry_eq]
  generalize (lg_sl ([.ref qe]) ++ List.replicate (5 - (lg_sl ([.ref qe])).length) Slot.unset).toArray = ls at hl ⊢
  have hl : lv_has ls 5 [(0, .ref qe)] := hl
  obtain ⟨H, hHe⟩ : ∃ H : Heap, H = s.heap := ⟨_, rfl⟩
  rw [← hHe] at hP
  have hS : va_S A s.heap H [] := by rw [hHe]; exact va_S.rf
  refine ct_start hHe ?_
  refine lv_lconst (v := 0) hx hb dX3_beatsOfFits_0 (by decide) ?_
  refine lv_lstore_n (lv' := [(1, .long 0), (0, .ref qe)]) hx hb dX3_beatsOfFits_1 rfl hl (by decide) rfl (fun ls hl => ?_)
  refine lv_iconst (v := 0) hx hb dX3_beatsOfFits_2 (by decide) ?_
  refine lv_istore_n (lv' := [(3, .int 0), (1, .long 0), (0, .ref qe)]) hx hb dX3_beatsOfFits_3 rfl hl (by decide) rfl (fun ls hl => ?_)
  refine ct_loop (X := Int64 × Int32) (fun x => (60 - x.2.toInt).toNat) (fun x H locs ls => ((0 ≤ x.2.toInt ∧ x.2.toInt ≤ 60)) ∧ ct_B D A H [gu qe ve_gap ve_length qe_round ve_impossible ve_firstUnlike qe_lastUnlike qe_places qe_stepsIn qe_passed qe_classes ve_bestBeat ve_bestLeft, (qe_lastUnlike, .inl (cI, 10, .inl (fe_lastUnlike))), (qe_places, .inl (cI, 200, .inl (fe_places))), (qe_stepsIn, .inl (cI, 60, .inl (fe_stepsIn)))] ∧ va_S A s.heap H locs ∧ lv_has ls 5 [(3, .int x.2), (1, .long x.1), (0, .ref qe)]) 4 ((0 : Int64), (0 : Int32)) ⟨(show 0 ≤ (0 : Int32).toInt ∧ (0 : Int32).toInt ≤ 60 by decide), ⟨hP, hD⟩, hS, lv_sub hl [0, 1, 2] rfl⟩ (fun x ih1257 H locs ls hI => ?_)
  obtain ⟨x1255, x1256⟩ := x
  obtain ⟨h_x1256, ⟨hP, hD⟩, hS, hl⟩ := hI
  have h_x1256 : (0 ≤ x1256.toInt ∧ x1256.toInt ≤ 60) := h_x1256
  obtain ⟨hP, hD⟩ : ct_B D A H [gu qe ve_gap ve_length qe_round ve_impossible ve_firstUnlike qe_lastUnlike qe_places qe_stepsIn qe_passed qe_classes ve_bestBeat ve_bestLeft, (qe_lastUnlike, .inl (cI, 10, .inl (fe_lastUnlike))), (qe_places, .inl (cI, 200, .inl (fe_places))), (qe_stepsIn, .inl (cI, 60, .inl (fe_stepsIn)))] := ⟨hP, hD⟩
  have hl : lv_has ls 5 [(3, .int x1256), (1, .long x1255), (0, .ref qe)] := hl
  refine lv_iload_n hx hb dX3_beatsOfFits_4 rfl (lv_at hl 0 rfl) ?_
  refine lv_bipush (v := 60) hx hb dX3_beatsOfFits_5 (by decide) ?_
  refine lv_icmp_ge (tgt := 48) hx hb dX3_beatsOfFits_7 (by decide) (fun hc => ?_) (fun hc => ?_)
  · have hq1258 : 60 ≤ x1256.toInt := tq_le (by decide) rfl hc
    refine lv_lload_n hx hb dX3_beatsOfFits_48 rfl (lv_at hl 1 rfl) ?_
    obtain ⟨hP9, hD9⟩ : ct_B D A H [gu qe ve_gap ve_length qe_round ve_impossible ve_firstUnlike qe_lastUnlike qe_places qe_stepsIn qe_passed qe_classes ve_bestBeat ve_bestLeft, (qe_lastUnlike, .inl (cI, 10, .inl (fe_lastUnlike))), (qe_places, .inl (cI, 200, .inl (fe_places))), (qe_stepsIn, .inl (cI, 60, .inl (fe_stepsIn)))] := ⟨hP.sub [0, 1, 2, 3] rfl, hD.sub [0, 1, 2, 3] (by decide) rfl⟩
    exact W.lret (v := x1255) hx hb hr (fun t ht hW => ⟨⟨x1255, (), rfl, trivial, by rw [ht]; exact hP9, hD9⟩, hS.F ht⟩) hS.2.2 dX3_beatsOfFits_49
  · have hq1258 : x1256.toInt < 60 := tq_nle (by decide) rfl hc
    refine lv_iconst (v := 0) hx hb dX3_beatsOfFits_10 (by decide) ?_
    refine lv_istore (lv' := [(4, .int 0), (3, .int x1256), (1, .long x1255), (0, .ref qe)]) hx hb dX3_beatsOfFits_11 hl (by decide) rfl (fun ls hl => ?_)
    refine ct_loop (X := Int64 × Int32) (fun x => (10 - x.2.toInt).toNat) (fun x H locs ls => ((0 ≤ x.2.toInt ∧ x.2.toInt ≤ 10)) ∧ ct_B D A H [gu qe ve_gap ve_length qe_round ve_impossible ve_firstUnlike qe_lastUnlike qe_places qe_stepsIn qe_passed qe_classes ve_bestBeat ve_bestLeft, (qe_lastUnlike, .inl (cI, 10, .inl (fe_lastUnlike))), (qe_places, .inl (cI, 200, .inl (fe_places))), (qe_stepsIn, .inl (cI, 60, .inl (fe_stepsIn)))] ∧ va_S A s.heap H locs ∧ lv_has ls 5 [(4, .int x.2), (3, .int x1256), (1, .long x.1), (0, .ref qe)]) 13 (x1255, (0 : Int32)) ⟨(show 0 ≤ (0 : Int32).toInt ∧ (0 : Int32).toInt ≤ 10 by decide), ⟨hP, hD⟩, hS, lv_sub hl [0, 1, 2, 3] rfl⟩ (fun x ih1335 H locs ls hI => ?_)
    obtain ⟨x1333, x1334⟩ := x
    obtain ⟨h_x1334, ⟨hP, hD⟩, hS, hl⟩ := hI
    have h_x1334 : (0 ≤ x1334.toInt ∧ x1334.toInt ≤ 10) := h_x1334
    obtain ⟨hP, hD⟩ : ct_B D A H [gu qe ve_gap ve_length qe_round ve_impossible ve_firstUnlike qe_lastUnlike qe_places qe_stepsIn qe_passed qe_classes ve_bestBeat ve_bestLeft, (qe_lastUnlike, .inl (cI, 10, .inl (fe_lastUnlike))), (qe_places, .inl (cI, 200, .inl (fe_places))), (qe_stepsIn, .inl (cI, 60, .inl (fe_stepsIn)))] := ⟨hP, hD⟩
    have hl : lv_has ls 5 [(4, .int x1334), (3, .int x1256), (1, .long x1333), (0, .ref qe)] := hl
    refine lv_iload hx hb dX3_beatsOfFits_13 (lv_at hl 0 rfl) ?_
    refine lv_bipush (v := 10) hx hb dX3_beatsOfFits_15 (by decide) ?_
    refine lv_icmp_ge (tgt := 42) hx hb dX3_beatsOfFits_17 (by decide) (fun hc => ?_) (fun hc => ?_)
    · have hq1336 : 10 ≤ x1334.toInt := tq_le (by decide) rfl hc
      obtain ⟨z1337, ez1337⟩ : ∃ z : Int32, z = x1256 + 1 := ⟨_, rfl⟩
      have fz1337 : z1337.toInt = x1256.toInt + 1 := by rw [ez1337]; exact tq_add rfl (by decide) (by omega)
      refine lv_iinc (v := z1337) (lv' := [(3, .int z1337), (4, .int x1334), (1, .long x1333), (0, .ref qe)]) hx hb dX3_beatsOfFits_42 hl (k := 1) rfl ez1337.symm (by decide) rfl (fun ls hl => ?_)
      refine lv_goto (tgt := 4) hx hb dX3_beatsOfFits_45 (by decide) ?_
      exact ih1257 (x1333, z1337) _ _ _ (show (60 - z1337.toInt).toNat < (60 - x1256.toInt).toNat by omega) ⟨(show 0 ≤ z1337.toInt ∧ z1337.toInt ≤ 60 by omega), ⟨hP, hD⟩, hS, lv_sub hl [0, 2, 3] rfl⟩
    · have hq1336 : x1334.toInt < 10 := tq_nle (by decide) rfl hc
      refine lv_aload_n hx hb dX3_beatsOfFits_20 rfl (lv_at hl 3 rfl) ?_
      refine lv_iload_n hx hb dX3_beatsOfFits_21 rfl (lv_at hl 1 rfl) ?_
      refine lv_iload hx hb dX3_beatsOfFits_22 (lv_at hl 0 rfl) ?_
      refine ct_calli (D := D) (wr := []) (va_runV (As := [.int x1256, .int x1334]) (rest := []) ⟨hx, hb, hml, hown, hts⟩ (c_X3_stepsThatFit l D G cI cJ cB cZ cO qe ve_gap ve_length qe_round ve_impossible ve_firstUnlike qe_lastUnlike fe_lastUnlike qe_places fe_places qe_stepsIn fe_stepsIn qe_passed qe_classes ve_bestBeat ve_bestLeft x1256 x1334 h_ve_gap h_ve_length (by omega) (by omega) H.size) (cwV 2 hts gX3_beatsOfFits_X3_stepsThatFit rfl rfl rfl (by decide +kernel) ⟨Nat.le_of_ble_eq_true rfl, Nat.le_of_ble_eq_true rfl⟩) (ct_preV (T := ct_T cI cJ cB cZ cO) (ci := 3) (q0 := 0) hE hH hP hD hS hA [0, 1, 2, 3] (by decide) rfl rfl rfl) rfl rfl hl.1 rfl (lv_room (Nat.le_of_ble_eq_true rfl)) dX3_beatsOfFits_24 ⟨Nat.le_of_ble_eq_true rfl, Nat.le_of_ble_eq_true rfl⟩) hP hD hS hA [0, 1, 2, 3] [] rfl rfl (by decide) (by decide) (fun r1338 u H locs hw hP hD hS => ?_)
      obtain ⟨hP, hD⟩ : ct_B D A H [gu qe ve_gap ve_length qe_round ve_impossible ve_firstUnlike qe_lastUnlike qe_places qe_stepsIn qe_passed qe_classes ve_bestBeat ve_bestLeft, (qe_lastUnlike, .inl (cI, 10, .inl (fe_lastUnlike))), (qe_places, .inl (cI, 200, .inl (fe_places))), (qe_stepsIn, .inl (cI, 60, .inl (fe_stepsIn)))] := ⟨hP, hD⟩
      refine lv_if_eq (tgt := 36) hx hb dX3_beatsOfFits_27 (by decide) (fun hc => ?_) (fun hc => ?_)
      · have hq1339 : r1338.toInt = 0 := tq_eq rfl (by decide) hc
        have hb1340 := tq_lo r1338
        obtain ⟨z1341, ez1341⟩ : ∃ z : Int32, z = x1334 + 1 := ⟨_, rfl⟩
        have fz1341 : z1341.toInt = x1334.toInt + 1 := by rw [ez1341]; exact tq_add rfl (by decide) (by omega)
        refine lv_iinc (v := z1341) (lv' := [(4, .int z1341), (3, .int x1256), (1, .long x1333), (0, .ref qe)]) hx hb dX3_beatsOfFits_36 hl (k := 0) rfl ez1341.symm (by decide) rfl (fun ls hl => ?_)
        refine lv_goto (tgt := 13) hx hb dX3_beatsOfFits_39 (by decide) ?_
        exact ih1335 (x1333, z1341) _ _ _ (show (10 - z1341.toInt).toNat < (10 - x1334.toInt).toNat by omega) ⟨(show 0 ≤ z1341.toInt ∧ z1341.toInt ≤ 10 by omega), ⟨hP, hD⟩, hS, lv_sub hl [0, 1, 2, 3] rfl⟩
      · have hq1339 : r1338.toInt ≠ 0 := tq_ne rfl (by decide) hc
        have hb1342 := tq_lo r1338
        refine lv_lload_n hx hb dX3_beatsOfFits_30 rfl (lv_at hl 2 rfl) ?_
        refine lv_lconst (v := 1) hx hb dX3_beatsOfFits_31 (by decide) ?_
        refine lv_iload_n hx hb dX3_beatsOfFits_32 rfl (lv_at hl 1 rfl) ?_
        refine lv_lshl (v := _) hx hb dX3_beatsOfFits_33 rfl ?_
        refine lv_topl (fun z1343 ez1343 => ?_)
        refine lv_lor hx hb dX3_beatsOfFits_34 ?_
        refine lv_topl (fun z1344 ez1344 => ?_)
        refine lv_lstore_n (lv' := [(1, .long z1344), (4, .int x1334), (3, .int x1256), (0, .ref qe)]) hx hb dX3_beatsOfFits_35 rfl hl (by decide) rfl (fun ls hl => ?_)
        obtain ⟨z1345, ez1345⟩ : ∃ z : Int32, z = x1334 + 1 := ⟨_, rfl⟩
        have fz1345 : z1345.toInt = x1334.toInt + 1 := by rw [ez1345]; exact tq_add rfl (by decide) (by omega)
        refine lv_iinc (v := z1345) (lv' := [(4, .int z1345), (1, .long z1344), (3, .int x1256), (0, .ref qe)]) hx hb dX3_beatsOfFits_36 hl (k := 1) rfl ez1345.symm (by decide) rfl (fun ls hl => ?_)
        refine lv_goto (tgt := 13) hx hb dX3_beatsOfFits_39 (by decide) ?_
        exact ih1335 (z1344, z1345) _ _ _ (show (10 - z1345.toInt).toNat < (10 - x1334.toInt).toNat by omega) ⟨(show 0 ≤ z1345.toInt ∧ z1345.toInt ≤ 10 by omega), ⟨hP, hD⟩, hS, lv_sub hl [0, 2, 1, 3] rfl⟩
abbrev w_c_X3_pass (cI cJ cB cZ cO : ClassId) (qe : Nat) (ve_gap : Int32) (ve_length : Int32) (qe_round : Nat) (ve_impossible : Int32) (ve_firstUnlike : Int32) (qe_lastUnlike : Nat) (fe_lastUnlike : Nat → Int32) (qe_places : Nat) (fe_places : Nat → Int32) (qe_stepsIn : Nat) (fe_stepsIn : Nat → Int32) (qe_passed : Nat) (fe_passed : Nat → Int32) (qe_classes : Nat) (ve_bestBeat : Int32) (ve_bestLeft : Int32) : va_W := [gu qe ve_gap ve_length qe_round ve_impossible ve_firstUnlike qe_lastUnlike qe_places qe_stepsIn qe_passed qe_classes ve_bestBeat ve_bestLeft, (qe_lastUnlike, .inl (cI, 10, .inl (fe_lastUnlike))), (qe_places, .inl (cI, 200, .inl (fe_places))), (qe_stepsIn, .inl (cI, 60, .inl (fe_stepsIn))), (qe_passed, .inl (cI, 10, .inl (fe_passed)))]
set_option maxHeartbeats 4000000 in
set_option maxRecDepth 100000 in
/-- X3 pass -/
theorem c_X3_pass (l : Launch) (D : va_G) (G : ct_G) (cI cJ cB cZ cO : ClassId) (qe : Nat) (ve_gap : Int32) (ve_length : Int32) (qe_round : Nat) (ve_impossible : Int32) (ve_firstUnlike : Int32) (qe_lastUnlike : Nat) (fe_lastUnlike : Nat → Int32) (qe_places : Nat) (fe_places : Nat → Int32) (qe_stepsIn : Nat) (fe_stepsIn : Nat → Int32) (qe_passed : Nat) (fe_passed : Nat → Int32) (qe_classes : Nat) (ve_bestBeat : Int32) (ve_bestLeft : Int32) (a1 : Int32) (h_ve_gap : 0 ≤ ve_gap.toInt ∧ ve_gap.toInt ≤ 20) (h_ve_length : 0 ≤ ve_length.toInt ∧ ve_length.toInt ≤ 12) (h_a1 : 0 ≤ a1.toInt ∧ a1.toInt ≤ 79) (sz : Nat) : Met l yX3_pass wsX3_pass ({ frames := 2, cells := 0, slots := 0, locals := 43 }) (va_Pc [.ref qe, .int a1] (ct_P D (ct_T cI cJ cB cZ cO) G (w_c_X3_pass cI cJ cB cZ cO qe ve_gap ve_length qe_round ve_impossible ve_firstUnlike qe_lastUnlike fe_lastUnlike qe_places fe_places qe_stepsIn fe_stepsIn qe_passed fe_passed qe_classes ve_bestBeat ve_bestLeft) sz)) (va_Qv (fun (u : (Nat → Int32)) => True) (fun (u : (Nat → Int32)) t => ct_Q D (va_A (w_c_X3_pass cI cJ cB cZ cO qe ve_gap ve_length qe_round ve_impossible ve_firstUnlike qe_lastUnlike fe_lastUnlike qe_places fe_places qe_stepsIn fe_stepsIn qe_passed fe_passed qe_classes ve_bestBeat ve_bestLeft) sz) [gu qe ve_gap ve_length qe_round ve_impossible ve_firstUnlike qe_lastUnlike qe_places qe_stepsIn qe_passed qe_classes ve_bestBeat ve_bestLeft, (qe_lastUnlike, .inl (cI, 10, .inl (fe_lastUnlike))), (qe_places, .inl (cI, 200, .inl (fe_places))), (qe_stepsIn, .inl (cI, 60, .inl (fe_stepsIn))), (qe_passed, .inl (cI, 10, .inl (u)))] t) (va_A (w_c_X3_pass cI cJ cB cZ cO qe ve_gap ve_length qe_round ve_impossible ve_firstUnlike qe_lastUnlike fe_lastUnlike qe_places fe_places qe_stepsIn fe_stepsIn qe_passed fe_passed qe_classes ve_bestBeat ve_bestLeft) sz)) 0 0 (va_A (w_c_X3_pass cI cJ cB cZ cO qe ve_gap ve_length qe_round ve_impossible ve_firstUnlike qe_lastUnlike fe_lastUnlike qe_places fe_places qe_stepsIn fe_stepsIn qe_passed fe_passed qe_classes ve_bestBeat ve_bestLeft) sz) := by
  refine Met.ofW (cc := cX3_pass) (maxL := 3) (ret := none) (by decide) rfl ?_
  intro p e s m args below meth c s₁ B hml hv
  obtain ⟨rfl, hsz, hP, hE, hD0, hH⟩ := hv
  have hx := B.exec
  have hb := B.bytes
  have hr := B.returns
  have hts := atoms_spec (ws := wsX3_pass) B.pre
  have hown : s.vm.findClass RX3 = some m.cls := findClass_of_methodNamed B.named
  have hlocks := B.notSynchronized
  have hK := hE.1
  have hi3 : ∀ w ∈ u_ws RX3 TX3 12, w ∈ wsX3_pass := fun w h => List.mem_cons_of_mem _ (List.mem_append_right _ h)
  subst hsz
  have hD := hD0.self (sz := s.heap.size)
  generalize hAe : va_A (w_c_X3_pass cI cJ cB cZ cO qe ve_gap ve_length qe_round ve_impossible ve_firstUnlike qe_lastUnlike fe_lastUnlike qe_places fe_places qe_stepsIn fe_stepsIn qe_passed fe_passed qe_classes ve_bestBeat ve_bestLeft) s.heap.size = A at hD hH ⊢
  have hA : ∀ q : Nat, s.heap.size ≤ q → A q := fun q h => by rw [← hAe]; exact Or.inr h
  have hS : va_S A s.heap s.heap [] := va_S.rf
  obtain ⟨hP, hD⟩ : ct_B D A s.heap [gu qe ve_gap ve_length qe_round ve_impossible ve_firstUnlike qe_lastUnlike qe_places qe_stepsIn qe_passed qe_classes ve_bestBeat ve_bestLeft, (qe_lastUnlike, .inl (cI, 10, .inl (fe_lastUnlike))), (qe_places, .inl (cI, 200, .inl (fe_places))), (qe_stepsIn, .inl (cI, 60, .inl (fe_stepsIn))), (qe_passed, .inl (cI, 10, .inl (fe_passed)))] := ⟨hP, hD⟩
  have hl := lv_entry ([.ref qe, .int a1]) (n := 3) (Nat.le_of_ble_eq_true rfl)
  rw [lg_entry_eq]
  generalize (lg_sl ([.ref qe, .int a1]) ++ List.replicate (3 - (lg_sl ([.ref qe, .int a1])).length) Slot.unset).toArray = ls at hl ⊢
  have hl : lv_has ls 3 [(0, .ref qe), (1, .int a1)] := hl
  obtain ⟨H, hHe⟩ : ∃ H : Heap, H = s.heap := ⟨_, rfl⟩
  rw [← hHe] at hP
  have hS : va_S A s.heap H [] := by rw [hHe]; exact va_S.rf
  refine ct_start hHe ?_
  refine lv_iconst (v := 0) hx hb dX3_pass_0 (by decide) ?_
  refine lv_istore_n (lv' := [(2, .int 0), (0, .ref qe), (1, .int a1)]) hx hb dX3_pass_1 rfl hl (by decide) rfl (fun ls hl => ?_)
  refine ct_loop (X := (Nat → Int32) × Int32) (fun x => (10 - x.2.toInt).toNat) (fun x H locs ls => ((0 ≤ x.2.toInt ∧ x.2.toInt ≤ 10)) ∧ ct_B D A H [gu qe ve_gap ve_length qe_round ve_impossible ve_firstUnlike qe_lastUnlike qe_places qe_stepsIn qe_passed qe_classes ve_bestBeat ve_bestLeft, (qe_lastUnlike, .inl (cI, 10, .inl (fe_lastUnlike))), (qe_places, .inl (cI, 200, .inl (fe_places))), (qe_stepsIn, .inl (cI, 60, .inl (fe_stepsIn))), (qe_passed, .inl (cI, 10, .inl (x.1)))] ∧ va_S A s.heap H locs ∧ lv_has ls 3 [(2, .int x.2), (0, .ref qe), (1, .int a1)]) 2 (fe_passed, (0 : Int32)) ⟨(show 0 ≤ (0 : Int32).toInt ∧ (0 : Int32).toInt ≤ 10 by decide), ⟨hP, hD⟩, hS, lv_sub hl [0, 1, 2] rfl⟩ (fun x ih69 H locs ls hI => ?_)
  obtain ⟨g67, x68⟩ := x
  obtain ⟨h_x68, ⟨hP, hD⟩, hS, hl⟩ := hI
  have h_x68 : (0 ≤ x68.toInt ∧ x68.toInt ≤ 10) := h_x68
  obtain ⟨hP, hD⟩ : ct_B D A H [gu qe ve_gap ve_length qe_round ve_impossible ve_firstUnlike qe_lastUnlike qe_places qe_stepsIn qe_passed qe_classes ve_bestBeat ve_bestLeft, (qe_lastUnlike, .inl (cI, 10, .inl (fe_lastUnlike))), (qe_places, .inl (cI, 200, .inl (fe_places))), (qe_stepsIn, .inl (cI, 60, .inl (fe_stepsIn))), (qe_passed, .inl (cI, 10, .inl (g67)))] := ⟨hP, hD⟩
  have hl : lv_has ls 3 [(2, .int x68), (0, .ref qe), (1, .int a1)] := hl
  refine lv_iload_n hx hb dX3_pass_2 rfl (lv_at hl 0 rfl) ?_
  refine lv_bipush (v := 10) hx hb dX3_pass_3 (by decide) ?_
  refine lv_icmp_ge (tgt := 38) hx hb dX3_pass_5 (by decide) (fun hc => ?_) (fun hc => ?_)
  · have hq70 : 10 ≤ x68.toInt := tq_le (by decide) rfl hc
    obtain ⟨hP9, hD9⟩ : ct_B D A H [gu qe ve_gap ve_length qe_round ve_impossible ve_firstUnlike qe_lastUnlike qe_places qe_stepsIn qe_passed qe_classes ve_bestBeat ve_bestLeft, (qe_lastUnlike, .inl (cI, 10, .inl (fe_lastUnlike))), (qe_places, .inl (cI, 200, .inl (fe_places))), (qe_stepsIn, .inl (cI, 60, .inl (fe_stepsIn))), (qe_passed, .inl (cI, 10, .inl (g67)))] := ⟨hP.sub [0, 1, 2, 3, 4] rfl, hD.sub [0, 1, 2, 3, 4] (by decide) rfl⟩
    exact W.vret hx hb hr (fun t ht hW => ⟨⟨g67, rfl, trivial, by rw [ht]; exact hP9, hD9⟩, hS.F ht⟩) hS.2.2 dX3_pass_38
  · have hq70 : x68.toInt < 10 := tq_nle (by decide) rfl hc
    refine lv_iload_n hx hb dX3_pass_8 rfl (lv_at hl 2 rfl) ?_
    refine lv_bipush (v := 60) hx hb dX3_pass_9 (by decide) ?_
    refine lv_icmp_ge (tgt := 38) hx hb dX3_pass_11 (by decide) (fun hc => ?_) (fun hc => ?_)
    · have hq71 : 60 ≤ a1.toInt := tq_le (by decide) rfl hc
      obtain ⟨hP9, hD9⟩ : ct_B D A H [gu qe ve_gap ve_length qe_round ve_impossible ve_firstUnlike qe_lastUnlike qe_places qe_stepsIn qe_passed qe_classes ve_bestBeat ve_bestLeft, (qe_lastUnlike, .inl (cI, 10, .inl (fe_lastUnlike))), (qe_places, .inl (cI, 200, .inl (fe_places))), (qe_stepsIn, .inl (cI, 60, .inl (fe_stepsIn))), (qe_passed, .inl (cI, 10, .inl (g67)))] := ⟨hP.sub [0, 1, 2, 3, 4] rfl, hD.sub [0, 1, 2, 3, 4] (by decide) rfl⟩
      exact W.vret hx hb hr (fun t ht hW => ⟨⟨g67, rfl, trivial, by rw [ht]; exact hP9, hD9⟩, hS.F ht⟩) hS.2.2 dX3_pass_38
    · have hq71 : a1.toInt < 60 := tq_nle (by decide) rfl hc
      refine lv_aload_n hx hb dX3_pass_14 rfl (lv_at hl 1 rfl) ?_
      refine va_get (D := D) (ci := 3) (v := .ref qe_passed) (C := RX3) (T := TX3) (N := 12) hx hb hts hi3 hown hK hP 0 rfl rfl 8 (by decide) (hts (.fieldLink RX3 24 "OverHill$Guess" "passed" "[I") (by decide +kernel)) (fun _ h9 => h9) rfl dX3_pass_15 ?_
      refine lv_iload_n hx hb dX3_pass_18 rfl (lv_at hl 0 rfl) ?_
      refine lv_dup2_11 hx hb dX3_pass_19 rfl rfl ?_
      refine va_iald (D := D) hx hb hK hP 4 0 rfl rfl (tq_in rfl (by omega)) dX3_pass_20 ?_
      refine lv_topi (fun z72 ez72 => ?_)
      refine lv_aload_n hx hb dX3_pass_21 rfl (lv_at hl 1 rfl) ?_
      refine lv_iload_n hx hb dX3_pass_22 rfl (lv_at hl 2 rfl) ?_
      refine lv_iload_n hx hb dX3_pass_23 rfl (lv_at hl 0 rfl) ?_
      refine ct_calli (D := D) (wr := [(qe_passed, .inl (cI, 10, .inl (g67)))]) (va_runV (As := [.int a1, .int x68]) (rest := [.int z72, .int x68, .ref qe_passed]) ⟨hx, hb, hml, hown, hts⟩ (c_X3_stepsThatFit l D G cI cJ cB cZ cO qe ve_gap ve_length qe_round ve_impossible ve_firstUnlike qe_lastUnlike fe_lastUnlike qe_places fe_places qe_stepsIn fe_stepsIn qe_passed qe_classes ve_bestBeat ve_bestLeft a1 x68 h_ve_gap h_ve_length (by omega) (by omega) H.size) (cwV 2 hts gX3_pass_X3_stepsThatFit rfl rfl rfl (by decide +kernel) ⟨Nat.le_of_ble_eq_true rfl, Nat.le_of_ble_eq_true rfl⟩) (ct_preV (T := ct_T cI cJ cB cZ cO) (ci := 3) (q0 := 0) hE hH hP hD hS hA [0, 1, 2, 3] (by decide) rfl rfl rfl) rfl rfl hl.1 rfl (lv_room (Nat.le_of_ble_eq_true rfl)) dX3_pass_24 ⟨Nat.le_of_ble_eq_true rfl, Nat.le_of_ble_eq_true rfl⟩) hP hD hS hA [0, 1, 2, 3] [4] rfl rfl (by decide) (by decide) (fun r73 u H locs hw hP hD hS => ?_)
      obtain ⟨hP, hD⟩ : ct_B D A H [(qe_passed, .inl (cI, 10, .inl (g67))), gu qe ve_gap ve_length qe_round ve_impossible ve_firstUnlike qe_lastUnlike qe_places qe_stepsIn qe_passed qe_classes ve_bestBeat ve_bestLeft, (qe_lastUnlike, .inl (cI, 10, .inl (fe_lastUnlike))), (qe_places, .inl (cI, 200, .inl (fe_places))), (qe_stepsIn, .inl (cI, 60, .inl (fe_stepsIn)))] := ⟨hP, hD⟩
      refine ct_calli (D := D) (wr := [(qe_passed, .inl (cI, 10, .inl (g67))), gu qe ve_gap ve_length qe_round ve_impossible ve_firstUnlike qe_lastUnlike qe_places qe_stepsIn qe_passed qe_classes ve_bestBeat ve_bestLeft, (qe_lastUnlike, .inl (cI, 10, .inl (fe_lastUnlike))), (qe_places, .inl (cI, 200, .inl (fe_places))), (qe_stepsIn, .inl (cI, 60, .inl (fe_stepsIn)))]) (va_runS (As := [.int r73]) (rest := [.int z72, .int x68, .ref qe_passed]) ⟨hx, hb, hml, hown, hts⟩ (c_J6_bitCount_0f7a4 l D G cI cJ cB cZ cO r73  H.size) (va_cwS 1 hts gX3_pass_J6_bitCount_0f7a4 rfl rfl rfl (by decide +kernel) ⟨Nat.le_of_ble_eq_true rfl, Nat.le_of_ble_eq_true rfl⟩) (ct_preS (T := ct_T cI cJ cB cZ cO) hE hH hP hD hS hA [] (by decide) rfl) rfl rfl hl.1 rfl (lv_room (Nat.le_of_ble_eq_true rfl)) dX3_pass_27 ⟨Nat.le_of_ble_eq_true rfl, Nat.le_of_ble_eq_true rfl⟩) hP hD hS hA [] [0, 1, 2, 3, 4] rfl rfl (by decide) (by decide) (fun r74 u H locs hw hP hD hS => ?_)
      obtain ⟨hP, hD⟩ : ct_B D A H [(qe_passed, .inl (cI, 10, .inl (g67))), gu qe ve_gap ve_length qe_round ve_impossible ve_firstUnlike qe_lastUnlike qe_places qe_stepsIn qe_passed qe_classes ve_bestBeat ve_bestLeft, (qe_lastUnlike, .inl (cI, 10, .inl (fe_lastUnlike))), (qe_places, .inl (cI, 200, .inl (fe_places))), (qe_stepsIn, .inl (cI, 60, .inl (fe_stepsIn)))] := ⟨hP, hD⟩
      have hz := hw
      have h_r74 : 0 ≤ r74.toInt ∧ r74.toInt ≤ 63 := hz
      refine lv_iadd hx hb dX3_pass_30 ?_
      refine lv_topi (fun z75 ez75 => ?_)
      refine va_iast (D := D) hx hb hK hP hD hS 0 0 rfl rfl (tq_in rfl (by omega)) dX3_pass_31 (fun H locs hP hD hS => ?_)
      obtain ⟨g76, hP, hD⟩ : ∃ g76 : Nat → Int32, ct_B D A H [(qe_passed, .inl (cI, 10, .inl (g76))), gu qe ve_gap ve_length qe_round ve_impossible ve_firstUnlike qe_lastUnlike qe_places qe_stepsIn qe_passed qe_classes ve_bestBeat ve_bestLeft, (qe_lastUnlike, .inl (cI, 10, .inl (fe_lastUnlike))), (qe_places, .inl (cI, 200, .inl (fe_places))), (qe_stepsIn, .inl (cI, 60, .inl (fe_stepsIn)))] := ⟨_, hP, hD⟩
      obtain ⟨z77, ez77⟩ : ∃ z : Int32, z = x68 + 1 := ⟨_, rfl⟩
      have fz77 : z77.toInt = x68.toInt + 1 := by rw [ez77]; exact tq_add rfl (by decide) (by omega)
      refine lv_iinc (v := z77) (lv' := [(2, .int z77), (0, .ref qe), (1, .int a1)]) hx hb dX3_pass_32 hl (k := 0) rfl ez77.symm (by decide) rfl (fun ls hl => ?_)
      refine lv_goto (tgt := 2) hx hb dX3_pass_35 (by decide) ?_
      obtain ⟨hP9, hD9⟩ : ct_B D A H [gu qe ve_gap ve_length qe_round ve_impossible ve_firstUnlike qe_lastUnlike qe_places qe_stepsIn qe_passed qe_classes ve_bestBeat ve_bestLeft, (qe_lastUnlike, .inl (cI, 10, .inl (fe_lastUnlike))), (qe_places, .inl (cI, 200, .inl (fe_places))), (qe_stepsIn, .inl (cI, 60, .inl (fe_stepsIn))), (qe_passed, .inl (cI, 10, .inl (g76)))] := ⟨hP.sub [1, 2, 3, 4, 0] rfl, hD.sub [1, 2, 3, 4, 0] (by decide) rfl⟩
      exact ih69 (g76, z77) _ _ _ (show (10 - z77.toInt).toNat < (10 - x68.toInt).toNat by omega) ⟨(show 0 ≤ z77.toInt ∧ z77.toInt ≤ 10 by omega), ⟨hP9, hD9⟩, hS, lv_sub hl [0, 1, 2] rfl⟩
abbrev w_c_X3_mostAlike (cI cJ cB cZ cO : ClassId) (qe : Nat) (ve_gap : Int32) (ve_length : Int32) (qe_round : Nat) (fe_round : Nat → Int32) (ve_impossible : Int32) (ve_firstUnlike : Int32) (qe_lastUnlike : Nat) (fe_lastUnlike : Nat → Int32) (qe_places : Nat) (fe_places : Nat → Int32) (qe_stepsIn : Nat) (fe_stepsIn : Nat → Int32) (qe_passed : Nat) (fe_passed : Nat → Int32) (qe_classes : Nat) (fe_classes : Nat → Int32) (ve_bestBeat : Int32) (ve_bestLeft : Int32) : va_W := [gu qe ve_gap ve_length qe_round ve_impossible ve_firstUnlike qe_lastUnlike qe_places qe_stepsIn qe_passed qe_classes ve_bestBeat ve_bestLeft, (qe_round, .inl (cI, 12, .inl (fe_round))), (qe_lastUnlike, .inl (cI, 10, .inl (fe_lastUnlike))), (qe_places, .inl (cI, 200, .inl (fe_places))), (qe_stepsIn, .inl (cI, 60, .inl (fe_stepsIn))), (qe_passed, .inl (cI, 10, .inl (fe_passed))), (qe_classes, .inl (cI, 6, .inl (fe_classes)))]
set_option maxHeartbeats 4000000 in
set_option maxRecDepth 100000 in
/-- X3 mostAlike -/
theorem c_X3_mostAlike (l : Launch) (D : va_G) (G : ct_G) (cI cJ cB cZ cO : ClassId) (qe : Nat) (ve_gap : Int32) (ve_length : Int32) (qe_round : Nat) (fe_round : Nat → Int32) (ve_impossible : Int32) (ve_firstUnlike : Int32) (qe_lastUnlike : Nat) (fe_lastUnlike : Nat → Int32) (qe_places : Nat) (fe_places : Nat → Int32) (qe_stepsIn : Nat) (fe_stepsIn : Nat → Int32) (qe_passed : Nat) (fe_passed : Nat → Int32) (qe_classes : Nat) (fe_classes : Nat → Int32) (ve_bestBeat : Int32) (ve_bestLeft : Int32) (a1 : Int32) (a2 : Int32) (h_ve_gap : 0 ≤ ve_gap.toInt ∧ ve_gap.toInt ≤ 20) (h_ve_length : 0 ≤ ve_length.toInt ∧ ve_length.toInt ≤ 12) (h_fe_round : ar_ok [0] [5] fe_round) (h_a1 : 0 ≤ a1.toInt ∧ a1.toInt ≤ 79) (sz : Nat) : Met l yX3_mostAlike wsX3_mostAlike ({ frames := 3, cells := 0, slots := 0, locals := 65 }) (va_Pc [.ref qe, .int a1, .int a2] (ct_P D (ct_T cI cJ cB cZ cO) G (w_c_X3_mostAlike cI cJ cB cZ cO qe ve_gap ve_length qe_round fe_round ve_impossible ve_firstUnlike qe_lastUnlike fe_lastUnlike qe_places fe_places qe_stepsIn fe_stepsIn qe_passed fe_passed qe_classes fe_classes ve_bestBeat ve_bestLeft) sz)) (va_Qi (fun (rz : Int32) (u : (Nat → Int32)) => (0 ≤ rz.toInt)) (fun (u : (Nat → Int32)) t => ct_Q D (va_A (w_c_X3_mostAlike cI cJ cB cZ cO qe ve_gap ve_length qe_round fe_round ve_impossible ve_firstUnlike qe_lastUnlike fe_lastUnlike qe_places fe_places qe_stepsIn fe_stepsIn qe_passed fe_passed qe_classes fe_classes ve_bestBeat ve_bestLeft) sz) [gu qe ve_gap ve_length qe_round ve_impossible ve_firstUnlike qe_lastUnlike qe_places qe_stepsIn qe_passed qe_classes ve_bestBeat ve_bestLeft, (qe_round, .inl (cI, 12, .inl (fe_round))), (qe_lastUnlike, .inl (cI, 10, .inl (fe_lastUnlike))), (qe_places, .inl (cI, 200, .inl (fe_places))), (qe_stepsIn, .inl (cI, 60, .inl (fe_stepsIn))), (qe_passed, .inl (cI, 10, .inl (fe_passed))), (qe_classes, .inl (cI, 6, .inl (u)))] t) (va_A (w_c_X3_mostAlike cI cJ cB cZ cO qe ve_gap ve_length qe_round fe_round ve_impossible ve_firstUnlike qe_lastUnlike fe_lastUnlike qe_places fe_places qe_stepsIn fe_stepsIn qe_passed fe_passed qe_classes fe_classes ve_bestBeat ve_bestLeft) sz)) 0 0 (va_A (w_c_X3_mostAlike cI cJ cB cZ cO qe ve_gap ve_length qe_round fe_round ve_impossible ve_firstUnlike qe_lastUnlike fe_lastUnlike qe_places fe_places qe_stepsIn fe_stepsIn qe_passed fe_passed qe_classes fe_classes ve_bestBeat ve_bestLeft) sz) := by
  refine Met.ofW (cc := cX3_mostAlike) (maxL := 7) (ret := (some .int)) (by decide) rfl ?_
  intro p e s m args below meth c s₁ B hml hv
  obtain ⟨rfl, hsz, hP, hE, hD0, hH⟩ := hv
  have hx := B.exec
  have hb := B.bytes
  have hr := B.returns
  have hts := atoms_spec (ws := wsX3_mostAlike) B.pre
  have hown : s.vm.findClass RX3 = some m.cls := findClass_of_methodNamed B.named
  have hlocks := B.notSynchronized
  have hK := hE.1
  have hi3 : ∀ w ∈ u_ws RX3 TX3 12, w ∈ wsX3_mostAlike := fun w h => List.mem_cons_of_mem _ (List.mem_append_right _ h)
  subst hsz
  have hD := hD0.self (sz := s.heap.size)
  generalize hAe : va_A (w_c_X3_mostAlike cI cJ cB cZ cO qe ve_gap ve_length qe_round fe_round ve_impossible ve_firstUnlike qe_lastUnlike fe_lastUnlike qe_places fe_places qe_stepsIn fe_stepsIn qe_passed fe_passed qe_classes fe_classes ve_bestBeat ve_bestLeft) s.heap.size = A at hD hH ⊢
  have hA : ∀ q : Nat, s.heap.size ≤ q → A q := fun q h => by rw [← hAe]; exact Or.inr h
  have hS : va_S A s.heap s.heap [] := va_S.rf
  obtain ⟨hP, hD⟩ : ct_B D A s.heap [gu qe ve_gap ve_length qe_round ve_impossible ve_firstUnlike qe_lastUnlike qe_places qe_stepsIn qe_passed qe_classes ve_bestBeat ve_bestLeft, (qe_round, .inl (cI, 12, .inl (fe_round))), (qe_lastUnlike, .inl (cI, 10, .inl (fe_lastUnlike))), (qe_places, .inl (cI, 200, .inl (fe_places))), (qe_stepsIn, .inl (cI, 60, .inl (fe_stepsIn))), (qe_passed, .inl (cI, 10, .inl (fe_passed))), (qe_classes, .inl (cI, 6, .inl (fe_classes)))] := ⟨hP, hD⟩
  have hl := lv_entry ([.ref qe, .int a1, .int a2]) (n := 7) (Nat.le_of_ble_eq_true rfl)
  rw [lg_entry_eq]
  generalize (lg_sl ([.ref qe, .int a1, .int a2]) ++ List.replicate (7 - (lg_sl ([.ref qe, .int a1, .int a2])).length) Slot.unset).toArray = ls at hl ⊢
  have hl : lv_has ls 7 [(0, .ref qe), (1, .int a1), (2, .int a2)] := hl
  obtain ⟨H, hHe⟩ : ∃ H : Heap, H = s.heap := ⟨_, rfl⟩
  rw [← hHe] at hP
  have hS : va_S A s.heap H [] := by rw [hHe]; exact va_S.rf
  refine ct_start hHe ?_
  refine lv_aload_n hx hb dX3_mostAlike_0 rfl (lv_at hl 0 rfl) ?_
  refine va_get (D := D) (ci := 3) (v := .ref qe_classes) (C := RX3) (T := TX3) (N := 12) hx hb hts hi3 hown hK hP 0 rfl rfl 9 (by decide) (hts (.fieldLink RX3 27 "OverHill$Guess" "classes" "[I") (by decide +kernel)) (fun _ h9 => h9) rfl dX3_mostAlike_1 ?_
  refine lv_iconst (v := 0) hx hb dX3_mostAlike_4 (by decide) ?_
  refine ct_callv (D := D) (wr := [gu qe ve_gap ve_length qe_round ve_impossible ve_firstUnlike qe_lastUnlike qe_places qe_stepsIn qe_passed qe_classes ve_bestBeat ve_bestLeft, (qe_round, .inl (cI, 12, .inl (fe_round))), (qe_lastUnlike, .inl (cI, 10, .inl (fe_lastUnlike))), (qe_places, .inl (cI, 200, .inl (fe_places))), (qe_stepsIn, .inl (cI, 60, .inl (fe_stepsIn))), (qe_passed, .inl (cI, 10, .inl (fe_passed)))]) (va_runS (As := [.ref qe_classes, .int 0]) (rest := []) ⟨hx, hb, hml, hown, hts⟩ (c_fill l D G cI cJ cB cZ cO qe_classes 6 fe_classes 0 (by decide) H.size) (va_cwS 2 hts gX3_mostAlike_J7_fill_53178 rfl rfl rfl (by decide +kernel) ⟨Nat.le_of_ble_eq_true rfl, Nat.le_of_ble_eq_true rfl⟩) (ct_preS (T := ct_T cI cJ cB cZ cO) hE hH hP hD hS hA [6] (by decide) rfl) rfl rfl hl.1 rfl (lv_room (Nat.le_of_ble_eq_true rfl)) dX3_mostAlike_5 ⟨Nat.le_of_ble_eq_true rfl, Nat.le_of_ble_eq_true rfl⟩) hP hD hS hA [6] [0, 1, 2, 3, 4, 5] rfl rfl (by decide) (by decide) (fun u H locs hw hP hD hS => ?_)
  obtain ⟨g1, rfl⟩ : ∃ z, z = u := ⟨_, rfl⟩
  obtain ⟨hP, hD⟩ : ct_B D A H [gu qe ve_gap ve_length qe_round ve_impossible ve_firstUnlike qe_lastUnlike qe_places qe_stepsIn qe_passed qe_classes ve_bestBeat ve_bestLeft, (qe_round, .inl (cI, 12, .inl (fe_round))), (qe_lastUnlike, .inl (cI, 10, .inl (fe_lastUnlike))), (qe_places, .inl (cI, 200, .inl (fe_places))), (qe_stepsIn, .inl (cI, 60, .inl (fe_stepsIn))), (qe_passed, .inl (cI, 10, .inl (fe_passed))), (qe_classes, .inl (cI, 6, .inl (g1)))] := ⟨hP, hD⟩
  have hp0 := hw
  have hp_2 : ∀ j : Nat, g1 j = (0 : Int32) ∨ g1 j = fe_classes j := hp0
  refine lv_iload_n hx hb dX3_mostAlike_8 rfl (lv_at hl 2 rfl) ?_
  refine lv_istore_n (lv' := [(3, .int a2), (0, .ref qe), (1, .int a1), (2, .int a2)]) hx hb dX3_mostAlike_9 rfl hl (by decide) rfl (fun ls hl => ?_)
  refine lv_iconst (v := 0) hx hb dX3_mostAlike_10 (by decide) ?_
  refine lv_istore (lv' := [(4, .int 0), (3, .int a2), (0, .ref qe), (1, .int a1), (2, .int a2)]) hx hb dX3_mostAlike_11 hl (by decide) rfl (fun ls hl => ?_)
  refine ct_loop (X := (Nat → Int32) × Int32 × Int32) (fun x => (10 - x.2.2.toInt).toNat) (fun x H locs ls => ((0 ≤ x.2.2.toInt ∧ x.2.2.toInt ≤ 10)) ∧ ct_B D A H [gu qe ve_gap ve_length qe_round ve_impossible ve_firstUnlike qe_lastUnlike qe_places qe_stepsIn qe_passed qe_classes ve_bestBeat ve_bestLeft, (qe_round, .inl (cI, 12, .inl (fe_round))), (qe_lastUnlike, .inl (cI, 10, .inl (fe_lastUnlike))), (qe_places, .inl (cI, 200, .inl (fe_places))), (qe_stepsIn, .inl (cI, 60, .inl (fe_stepsIn))), (qe_passed, .inl (cI, 10, .inl (fe_passed))), (qe_classes, .inl (cI, 6, .inl (x.1)))] ∧ va_S A s.heap H locs ∧ lv_has ls 7 [(4, .int x.2.2), (3, .int x.2.1), (0, .ref qe), (1, .int a1), (2, .int a2)]) 13 (g1, a2, (0 : Int32)) ⟨(show 0 ≤ (0 : Int32).toInt ∧ (0 : Int32).toInt ≤ 10 by decide), ⟨hP, hD⟩, hS, lv_sub hl [0, 1, 2, 3, 4] rfl⟩ (fun x ih1784 H locs ls hI => ?_)
  obtain ⟨g1781, x1782, x1783⟩ := x
  obtain ⟨h_x1783, ⟨hP, hD⟩, hS, hl⟩ := hI
  have h_x1783 : (0 ≤ x1783.toInt ∧ x1783.toInt ≤ 10) := h_x1783
  obtain ⟨hP, hD⟩ : ct_B D A H [gu qe ve_gap ve_length qe_round ve_impossible ve_firstUnlike qe_lastUnlike qe_places qe_stepsIn qe_passed qe_classes ve_bestBeat ve_bestLeft, (qe_round, .inl (cI, 12, .inl (fe_round))), (qe_lastUnlike, .inl (cI, 10, .inl (fe_lastUnlike))), (qe_places, .inl (cI, 200, .inl (fe_places))), (qe_stepsIn, .inl (cI, 60, .inl (fe_stepsIn))), (qe_passed, .inl (cI, 10, .inl (fe_passed))), (qe_classes, .inl (cI, 6, .inl (g1781)))] := ⟨hP, hD⟩
  have hl : lv_has ls 7 [(4, .int x1783), (3, .int x1782), (0, .ref qe), (1, .int a1), (2, .int a2)] := hl
  refine lv_iload hx hb dX3_mostAlike_13 (lv_at hl 0 rfl) ?_
  refine lv_bipush (v := 10) hx hb dX3_mostAlike_15 (by decide) ?_
  refine lv_icmp_ge (tgt := 118) hx hb dX3_mostAlike_17 (by decide) (fun hc => ?_) (fun hc => ?_)
  · have hq1785 : 10 ≤ x1783.toInt := tq_le (by decide) rfl hc
    refine lv_aload_n hx hb dX3_mostAlike_118 rfl (lv_at hl 2 rfl) ?_
    refine va_get (D := D) (ci := 3) (v := .ref qe_classes) (C := RX3) (T := TX3) (N := 12) hx hb hts hi3 hown hK hP 0 rfl rfl 9 (by decide) (hts (.fieldLink RX3 27 "OverHill$Guess" "classes" "[I") (by decide +kernel)) (fun _ h9 => h9) rfl dX3_mostAlike_119 ?_
    refine lv_aload_n hx hb dX3_mostAlike_122 rfl (lv_at hl 2 rfl) ?_
    refine lv_iload_n hx hb dX3_mostAlike_123 rfl (lv_at hl 3 rfl) ?_
    refine lv_iconst (v := 0) hx hb dX3_mostAlike_124 (by decide) ?_
    refine ct_calli (D := D) (wr := [(qe_lastUnlike, .inl (cI, 10, .inl (fe_lastUnlike))), (qe_stepsIn, .inl (cI, 60, .inl (fe_stepsIn))), (qe_passed, .inl (cI, 10, .inl (fe_passed))), (qe_classes, .inl (cI, 6, .inl (g1781)))]) (va_runV (As := [.int a1, .int 0]) (rest := [.ref qe_classes]) ⟨hx, hb, hml, hown, hts⟩ (c_X3_stepBack l D G cI cJ cB cZ cO qe ve_gap ve_length qe_round fe_round ve_impossible ve_firstUnlike qe_lastUnlike qe_places fe_places qe_stepsIn qe_passed qe_classes ve_bestBeat ve_bestLeft a1 0 h_ve_gap h_ve_length h_fe_round (by omega) H.size) (cwV 2 hts gX3_mostAlike_X3_stepBack rfl rfl rfl (by decide +kernel) ⟨Nat.le_of_ble_eq_true rfl, Nat.le_of_ble_eq_true rfl⟩) (ct_preV (T := ct_T cI cJ cB cZ cO) (ci := 3) (q0 := 0) hE hH hP hD hS hA [0, 1, 3] (by decide) rfl rfl rfl) rfl rfl hl.1 rfl (lv_room (Nat.le_of_ble_eq_true rfl)) dX3_mostAlike_125 ⟨Nat.le_of_ble_eq_true rfl, Nat.le_of_ble_eq_true rfl⟩) hP hD hS hA [0, 1, 3] [2, 4, 5, 6] rfl rfl (by decide) (by decide) (fun r1786 u H locs hw hP hD hS => ?_)
    obtain ⟨hP, hD⟩ : ct_B D A H [(qe_lastUnlike, .inl (cI, 10, .inl (fe_lastUnlike))), (qe_stepsIn, .inl (cI, 60, .inl (fe_stepsIn))), (qe_passed, .inl (cI, 10, .inl (fe_passed))), (qe_classes, .inl (cI, 6, .inl (g1781))), gu qe ve_gap ve_length qe_round ve_impossible ve_firstUnlike qe_lastUnlike qe_places qe_stepsIn qe_passed qe_classes ve_bestBeat ve_bestLeft, (qe_round, .inl (cI, 12, .inl (fe_round))), (qe_places, .inl (cI, 200, .inl (fe_places)))] := ⟨hP, hD⟩
    have hz := hw
    have h_r1786 : 0 ≤ r1786.toInt ∧ r1786.toInt ≤ 5 := hz
    refine lv_dup2_11 hx hb dX3_mostAlike_128 rfl rfl ?_
    refine va_iald (D := D) hx hb hK hP 3 0 rfl rfl (tq_in rfl (by omega)) dX3_mostAlike_129 ?_
    refine lv_topi (fun z1787 ez1787 => ?_)
    refine lv_iload_n hx hb dX3_mostAlike_130 rfl (lv_at hl 1 rfl) ?_
    refine lv_iadd hx hb dX3_mostAlike_131 ?_
    refine lv_topi (fun z1788 ez1788 => ?_)
    refine va_iast (D := D) hx hb hK hP hD hS 3 0 rfl rfl (tq_in rfl (by omega)) dX3_mostAlike_132 (fun H locs hP hD hS => ?_)
    obtain ⟨g1789, hP, hD⟩ : ∃ g1789 : Nat → Int32, ct_B D A H [(qe_lastUnlike, .inl (cI, 10, .inl (fe_lastUnlike))), (qe_stepsIn, .inl (cI, 60, .inl (fe_stepsIn))), (qe_passed, .inl (cI, 10, .inl (fe_passed))), (qe_classes, .inl (cI, 6, .inl (g1789))), gu qe ve_gap ve_length qe_round ve_impossible ve_firstUnlike qe_lastUnlike qe_places qe_stepsIn qe_passed qe_classes ve_bestBeat ve_bestLeft, (qe_round, .inl (cI, 12, .inl (fe_round))), (qe_places, .inl (cI, 200, .inl (fe_places)))] := ⟨_, hP, hD⟩
    refine lv_iconst (v := 0) hx hb dX3_mostAlike_133 (by decide) ?_
    refine lv_istore (lv' := [(4, .int 0), (3, .int x1782), (0, .ref qe), (1, .int a1), (2, .int a2)]) hx hb dX3_mostAlike_134 hl (by decide) rfl (fun ls hl => ?_)
    refine lv_iconst (v := 0) hx hb dX3_mostAlike_136 (by decide) ?_
    refine lv_istore (lv' := [(5, .int 0), (4, .int 0), (3, .int x1782), (0, .ref qe), (1, .int a1), (2, .int a2)]) hx hb dX3_mostAlike_137 hl (by decide) rfl (fun ls hl => ?_)
    refine ct_loop (X := Int32 × Int32) (fun x => (6 - x.2.toInt).toNat) (fun x H locs ls => ((0 ≤ x.1.toInt)) ∧ ((0 ≤ x.2.toInt ∧ x.2.toInt ≤ 6)) ∧ ct_B D A H [(qe_lastUnlike, .inl (cI, 10, .inl (fe_lastUnlike))), (qe_stepsIn, .inl (cI, 60, .inl (fe_stepsIn))), (qe_passed, .inl (cI, 10, .inl (fe_passed))), (qe_classes, .inl (cI, 6, .inl (g1789))), gu qe ve_gap ve_length qe_round ve_impossible ve_firstUnlike qe_lastUnlike qe_places qe_stepsIn qe_passed qe_classes ve_bestBeat ve_bestLeft, (qe_round, .inl (cI, 12, .inl (fe_round))), (qe_places, .inl (cI, 200, .inl (fe_places)))] ∧ va_S A s.heap H locs ∧ lv_has ls 7 [(5, .int x.2), (4, .int x.1), (3, .int x1782), (0, .ref qe), (1, .int a1), (2, .int a2)]) 139 ((0 : Int32), (0 : Int32)) ⟨(show 0 ≤ (0 : Int32).toInt by decide), (show 0 ≤ (0 : Int32).toInt ∧ (0 : Int32).toInt ≤ 6 by decide), ⟨hP, hD⟩, hS, lv_sub hl [0, 1, 2, 3, 4, 5] rfl⟩ (fun x ih1830 H locs ls hI => ?_)
    obtain ⟨x1828, x1829⟩ := x
    obtain ⟨h_x1828, h_x1829, ⟨hP, hD⟩, hS, hl⟩ := hI
    have h_x1828 : (0 ≤ x1828.toInt) := h_x1828
    have h_x1829 : (0 ≤ x1829.toInt ∧ x1829.toInt ≤ 6) := h_x1829
    obtain ⟨hP, hD⟩ : ct_B D A H [(qe_lastUnlike, .inl (cI, 10, .inl (fe_lastUnlike))), (qe_stepsIn, .inl (cI, 60, .inl (fe_stepsIn))), (qe_passed, .inl (cI, 10, .inl (fe_passed))), (qe_classes, .inl (cI, 6, .inl (g1789))), gu qe ve_gap ve_length qe_round ve_impossible ve_firstUnlike qe_lastUnlike qe_places qe_stepsIn qe_passed qe_classes ve_bestBeat ve_bestLeft, (qe_round, .inl (cI, 12, .inl (fe_round))), (qe_places, .inl (cI, 200, .inl (fe_places)))] := ⟨hP, hD⟩
    have hl : lv_has ls 7 [(5, .int x1829), (4, .int x1828), (3, .int x1782), (0, .ref qe), (1, .int a1), (2, .int a2)] := hl
    refine lv_iload hx hb dX3_mostAlike_139 (lv_at hl 0 rfl) ?_
    refine lv_bipush (v := 6) hx hb dX3_mostAlike_141 (by decide) ?_
    refine lv_icmp_ge (tgt := 166) hx hb dX3_mostAlike_143 (by decide) (fun hc => ?_) (fun hc => ?_)
    · have hq1831 : 6 ≤ x1829.toInt := tq_le (by decide) rfl hc
      refine lv_iload hx hb dX3_mostAlike_166 (lv_at hl 1 rfl) ?_
      obtain ⟨hP9, hD9⟩ : ct_B D A H [gu qe ve_gap ve_length qe_round ve_impossible ve_firstUnlike qe_lastUnlike qe_places qe_stepsIn qe_passed qe_classes ve_bestBeat ve_bestLeft, (qe_round, .inl (cI, 12, .inl (fe_round))), (qe_lastUnlike, .inl (cI, 10, .inl (fe_lastUnlike))), (qe_places, .inl (cI, 200, .inl (fe_places))), (qe_stepsIn, .inl (cI, 60, .inl (fe_stepsIn))), (qe_passed, .inl (cI, 10, .inl (fe_passed))), (qe_classes, .inl (cI, 6, .inl (g1789)))] := ⟨hP.sub [4, 5, 0, 6, 1, 2, 3] rfl, hD.sub [4, 5, 0, 6, 1, 2, 3] (by decide) rfl⟩
      exact W.iret (v := x1828) hx hb hr (fun t ht hW => ⟨⟨x1828, g1789, rfl, h_x1828, by rw [ht]; exact hP9, hD9⟩, hS.F ht⟩) hS.2.2 dX3_mostAlike_168
    · have hq1831 : x1829.toInt < 6 := tq_nle (by decide) rfl hc
      refine lv_iload hx hb dX3_mostAlike_146 (lv_at hl 1 rfl) ?_
      refine lv_aload_n hx hb dX3_mostAlike_148 rfl (lv_at hl 3 rfl) ?_
      refine va_get (D := D) (ci := 3) (v := .ref qe_classes) (C := RX3) (T := TX3) (N := 12) hx hb hts hi3 hown hK hP 4 rfl rfl 9 (by decide) (hts (.fieldLink RX3 27 "OverHill$Guess" "classes" "[I") (by decide +kernel)) (fun _ h9 => h9) rfl dX3_mostAlike_149 ?_
      refine lv_iload hx hb dX3_mostAlike_152 (lv_at hl 0 rfl) ?_
      refine va_iald (D := D) hx hb hK hP 3 0 rfl rfl (tq_in rfl (by omega)) dX3_mostAlike_154 ?_
      refine lv_topi (fun z1832 ez1832 => ?_)
      refine va_mmax hx hb (hml.trans hl.1.symm) hown (hts (.methodLink RX3 83 Lib.Math.max.name) (by decide +kernel)) (hts (.static Lib.Math.max.name) (by decide +kernel)) (hts (.initialized "java/lang/Math") (by decide +kernel)) (hts (.code Lib.Math.max.name Lib.Math.max.code 2 (some .int)) (by decide +kernel)) (Nat.le_of_ble_eq_true rfl) (Nat.le_of_ble_eq_true rfl) (Nat.le_of_ble_eq_true rfl) (Nat.le_of_ble_eq_true rfl) dX3_mostAlike_155 ?_
      refine lv_topi (fun z1833 ez1833 => ?_)
      have fz1833 : (z1833.toInt = x1828.toInt ∨ z1833.toInt = z1832.toInt) ∧ x1828.toInt ≤ z1833.toInt ∧ z1832.toInt ≤ z1833.toInt := by rw [ez1833]; exact tq_max rfl rfl
      refine lv_istore (lv' := [(4, .int z1833), (5, .int x1829), (3, .int x1782), (0, .ref qe), (1, .int a1), (2, .int a2)]) hx hb dX3_mostAlike_158 hl (by decide) rfl (fun ls hl => ?_)
      obtain ⟨z1834, ez1834⟩ : ∃ z : Int32, z = x1829 + 1 := ⟨_, rfl⟩
      have fz1834 : z1834.toInt = x1829.toInt + 1 := by rw [ez1834]; exact tq_add rfl (by decide) (by omega)
      refine lv_iinc (v := z1834) (lv' := [(5, .int z1834), (4, .int z1833), (3, .int x1782), (0, .ref qe), (1, .int a1), (2, .int a2)]) hx hb dX3_mostAlike_160 hl (k := 1) rfl ez1834.symm (by decide) rfl (fun ls hl => ?_)
      refine lv_goto (tgt := 139) hx hb dX3_mostAlike_163 (by decide) ?_
      exact ih1830 (z1833, z1834) _ _ _ (show (6 - z1834.toInt).toNat < (6 - x1829.toInt).toNat by omega) ⟨(show 0 ≤ z1833.toInt by omega), (show 0 ≤ z1834.toInt ∧ z1834.toInt ≤ 6 by omega), ⟨hP, hD⟩, hS, lv_sub hl [0, 1, 2, 3, 4, 5] rfl⟩
  · have hq1785 : x1783.toInt < 10 := tq_nle (by decide) rfl hc
    refine lv_aload_n hx hb dX3_mostAlike_20 rfl (lv_at hl 2 rfl) ?_
    refine va_get (D := D) (ci := 3) (v := .ref qe_classes) (C := RX3) (T := TX3) (N := 12) hx hb hts hi3 hown hK hP 0 rfl rfl 9 (by decide) (hts (.fieldLink RX3 27 "OverHill$Guess" "classes" "[I") (by decide +kernel)) (fun _ h9 => h9) rfl dX3_mostAlike_21 ?_
    refine lv_aload_n hx hb dX3_mostAlike_24 rfl (lv_at hl 2 rfl) ?_
    refine lv_iload_n hx hb dX3_mostAlike_25 rfl (lv_at hl 3 rfl) ?_
    refine lv_iload hx hb dX3_mostAlike_26 (lv_at hl 0 rfl) ?_
    refine ct_calli (D := D) (wr := [(qe_lastUnlike, .inl (cI, 10, .inl (fe_lastUnlike))), (qe_stepsIn, .inl (cI, 60, .inl (fe_stepsIn))), (qe_passed, .inl (cI, 10, .inl (fe_passed))), (qe_classes, .inl (cI, 6, .inl (g1781)))]) (va_runV (As := [.int a1, .int x1783]) (rest := [.ref qe_classes]) ⟨hx, hb, hml, hown, hts⟩ (c_X3_stepBack l D G cI cJ cB cZ cO qe ve_gap ve_length qe_round fe_round ve_impossible ve_firstUnlike qe_lastUnlike qe_places fe_places qe_stepsIn qe_passed qe_classes ve_bestBeat ve_bestLeft a1 x1783 h_ve_gap h_ve_length h_fe_round (by omega) H.size) (cwV 2 hts gX3_mostAlike_X3_stepBack rfl rfl rfl (by decide +kernel) ⟨Nat.le_of_ble_eq_true rfl, Nat.le_of_ble_eq_true rfl⟩) (ct_preV (T := ct_T cI cJ cB cZ cO) (ci := 3) (q0 := 0) hE hH hP hD hS hA [0, 1, 3] (by decide) rfl rfl rfl) rfl rfl hl.1 rfl (lv_room (Nat.le_of_ble_eq_true rfl)) dX3_mostAlike_28 ⟨Nat.le_of_ble_eq_true rfl, Nat.le_of_ble_eq_true rfl⟩) hP hD hS hA [0, 1, 3] [2, 4, 5, 6] rfl rfl (by decide) (by decide) (fun r1835 u H locs hw hP hD hS => ?_)
    obtain ⟨hP, hD⟩ : ct_B D A H [(qe_lastUnlike, .inl (cI, 10, .inl (fe_lastUnlike))), (qe_stepsIn, .inl (cI, 60, .inl (fe_stepsIn))), (qe_passed, .inl (cI, 10, .inl (fe_passed))), (qe_classes, .inl (cI, 6, .inl (g1781))), gu qe ve_gap ve_length qe_round ve_impossible ve_firstUnlike qe_lastUnlike qe_places qe_stepsIn qe_passed qe_classes ve_bestBeat ve_bestLeft, (qe_round, .inl (cI, 12, .inl (fe_round))), (qe_places, .inl (cI, 200, .inl (fe_places)))] := ⟨hP, hD⟩
    have hz := hw
    have h_r1835 : 0 ≤ r1835.toInt ∧ r1835.toInt ≤ 5 := hz
    refine lv_dup2_11 hx hb dX3_mostAlike_31 rfl rfl ?_
    refine va_iald (D := D) hx hb hK hP 3 0 rfl rfl (tq_in rfl (by omega)) dX3_mostAlike_32 ?_
    refine lv_topi (fun z1836 ez1836 => ?_)
    refine lv_aload_n hx hb dX3_mostAlike_33 rfl (lv_at hl 2 rfl) ?_
    refine va_get (D := D) (ci := 3) (v := .ref qe_passed) (C := RX3) (T := TX3) (N := 12) hx hb hts hi3 hown hK hP 4 rfl rfl 8 (by decide) (hts (.fieldLink RX3 24 "OverHill$Guess" "passed" "[I") (by decide +kernel)) (fun _ h9 => h9) rfl dX3_mostAlike_34 ?_
    refine lv_iload hx hb dX3_mostAlike_37 (lv_at hl 0 rfl) ?_
    refine va_iald (D := D) hx hb hK hP 2 0 rfl rfl (tq_in rfl (by omega)) dX3_mostAlike_39 ?_
    refine lv_topi (fun z1837 ez1837 => ?_)
    refine lv_iadd hx hb dX3_mostAlike_40 ?_
    refine lv_topi (fun z1838 ez1838 => ?_)
    refine va_iast (D := D) hx hb hK hP hD hS 3 0 rfl rfl (tq_in rfl (by omega)) dX3_mostAlike_41 (fun H locs hP hD hS => ?_)
    obtain ⟨g1839, hP, hD⟩ : ∃ g1839 : Nat → Int32, ct_B D A H [(qe_lastUnlike, .inl (cI, 10, .inl (fe_lastUnlike))), (qe_stepsIn, .inl (cI, 60, .inl (fe_stepsIn))), (qe_passed, .inl (cI, 10, .inl (fe_passed))), (qe_classes, .inl (cI, 6, .inl (g1839))), gu qe ve_gap ve_length qe_round ve_impossible ve_firstUnlike qe_lastUnlike qe_places qe_stepsIn qe_passed qe_classes ve_bestBeat ve_bestLeft, (qe_round, .inl (cI, 12, .inl (fe_round))), (qe_places, .inl (cI, 200, .inl (fe_places)))] := ⟨_, hP, hD⟩
    refine lv_iload_n hx hb dX3_mostAlike_42 rfl (lv_at hl 1 rfl) ?_
    refine lv_aload_n hx hb dX3_mostAlike_43 rfl (lv_at hl 2 rfl) ?_
    refine va_get (D := D) (ci := 3) (v := .ref qe_passed) (C := RX3) (T := TX3) (N := 12) hx hb hts hi3 hown hK hP 4 rfl rfl 8 (by decide) (hts (.fieldLink RX3 24 "OverHill$Guess" "passed" "[I") (by decide +kernel)) (fun _ h9 => h9) rfl dX3_mostAlike_44 ?_
    refine lv_iload hx hb dX3_mostAlike_47 (lv_at hl 0 rfl) ?_
    refine va_iald (D := D) hx hb hK hP 2 0 rfl rfl (tq_in rfl (by omega)) dX3_mostAlike_49 ?_
    refine lv_topi (fun z1840 ez1840 => ?_)
    refine lv_isub hx hb dX3_mostAlike_50 ?_
    refine lv_topi (fun z1841 ez1841 => ?_)
    refine lv_istore_n (lv' := [(3, .int z1841), (4, .int x1783), (0, .ref qe), (1, .int a1), (2, .int a2)]) hx hb dX3_mostAlike_51 rfl hl (by decide) rfl (fun ls hl => ?_)
    refine lv_iload_n hx hb dX3_mostAlike_52 rfl (lv_at hl 3 rfl) ?_
    refine lv_bipush (v := 60) hx hb dX3_mostAlike_53 (by decide) ?_
    refine lv_icmp_ge (tgt := 68) hx hb dX3_mostAlike_55 (by decide) (fun hc => ?_) (fun hc => ?_)
    · have hq1842 : 60 ≤ a1.toInt := tq_le (by decide) rfl hc
      refine lv_iconst (v := 0) hx hb dX3_mostAlike_68 (by decide) ?_
      refine lv_istore (lv' := [(5, .int 0), (3, .int z1841), (4, .int x1783), (0, .ref qe), (1, .int a1), (2, .int a2)]) hx hb dX3_mostAlike_69 hl (by decide) rfl (fun ls hl => ?_)
      refine lv_iconst (v := 0) hx hb dX3_mostAlike_71 (by decide) ?_
      refine lv_istore (lv' := [(6, .int 0), (5, .int 0), (3, .int z1841), (4, .int x1783), (0, .ref qe), (1, .int a1), (2, .int a2)]) hx hb dX3_mostAlike_72 hl (by decide) rfl (fun ls hl => ?_)
      refine ct_loop (X := (Nat → Int32) × Int32) (fun x => (6 - x.2.toInt).toNat) (fun x H locs ls => ((0 ≤ x.2.toInt ∧ x.2.toInt ≤ 6)) ∧ ct_B D A H [(qe_lastUnlike, .inl (cI, 10, .inl (fe_lastUnlike))), (qe_stepsIn, .inl (cI, 60, .inl (fe_stepsIn))), (qe_passed, .inl (cI, 10, .inl (fe_passed))), (qe_classes, .inl (cI, 6, .inl (x.1))), gu qe ve_gap ve_length qe_round ve_impossible ve_firstUnlike qe_lastUnlike qe_places qe_stepsIn qe_passed qe_classes ve_bestBeat ve_bestLeft, (qe_round, .inl (cI, 12, .inl (fe_round))), (qe_places, .inl (cI, 200, .inl (fe_places)))] ∧ va_S A s.heap H locs ∧ lv_has ls 7 [(6, .int x.2), (5, .int 0), (3, .int z1841), (4, .int x1783), (0, .ref qe), (1, .int a1), (2, .int a2)]) 74 (g1839, (0 : Int32)) ⟨(show 0 ≤ (0 : Int32).toInt ∧ (0 : Int32).toInt ≤ 6 by decide), ⟨hP, hD⟩, hS, lv_sub hl [0, 1, 2, 3, 4, 5, 6] rfl⟩ (fun x ih1910 H locs ls hI => ?_)
      obtain ⟨g1908, x1909⟩ := x
      obtain ⟨h_x1909, ⟨hP, hD⟩, hS, hl⟩ := hI
      have h_x1909 : (0 ≤ x1909.toInt ∧ x1909.toInt ≤ 6) := h_x1909
      obtain ⟨hP, hD⟩ : ct_B D A H [(qe_lastUnlike, .inl (cI, 10, .inl (fe_lastUnlike))), (qe_stepsIn, .inl (cI, 60, .inl (fe_stepsIn))), (qe_passed, .inl (cI, 10, .inl (fe_passed))), (qe_classes, .inl (cI, 6, .inl (g1908))), gu qe ve_gap ve_length qe_round ve_impossible ve_firstUnlike qe_lastUnlike qe_places qe_stepsIn qe_passed qe_classes ve_bestBeat ve_bestLeft, (qe_round, .inl (cI, 12, .inl (fe_round))), (qe_places, .inl (cI, 200, .inl (fe_places)))] := ⟨hP, hD⟩
      have hl : lv_has ls 7 [(6, .int x1909), (5, .int 0), (3, .int z1841), (4, .int x1783), (0, .ref qe), (1, .int a1), (2, .int a2)] := hl
      refine lv_iload hx hb dX3_mostAlike_74 (lv_at hl 0 rfl) ?_
      refine lv_bipush (v := 6) hx hb dX3_mostAlike_76 (by decide) ?_
      refine lv_icmp_ge (tgt := 104) hx hb dX3_mostAlike_78 (by decide) (fun hc => ?_) (fun hc => ?_)
      · have hq1911 : 6 ≤ x1909.toInt := tq_le (by decide) rfl hc
        refine lv_iload_n hx hb dX3_mostAlike_104 rfl (lv_at hl 2 rfl) ?_
        refine lv_iload hx hb dX3_mostAlike_105 (lv_at hl 1 rfl) ?_
        refine ct_calli (D := D) (wr := [(qe_lastUnlike, .inl (cI, 10, .inl (fe_lastUnlike))), (qe_stepsIn, .inl (cI, 60, .inl (fe_stepsIn))), (qe_passed, .inl (cI, 10, .inl (fe_passed))), (qe_classes, .inl (cI, 6, .inl (g1908))), gu qe ve_gap ve_length qe_round ve_impossible ve_firstUnlike qe_lastUnlike qe_places qe_stepsIn qe_passed qe_classes ve_bestBeat ve_bestLeft, (qe_round, .inl (cI, 12, .inl (fe_round))), (qe_places, .inl (cI, 200, .inl (fe_places)))]) (va_runS (As := [.int 0]) (rest := [.int z1841]) ⟨hx, hb, hml, hown, hts⟩ (c_J6_bitCount_0f7a4 l D G cI cJ cB cZ cO 0  H.size) (va_cwS 1 hts gX3_mostAlike_J6_bitCount_0f7a4 rfl rfl rfl (by decide +kernel) ⟨Nat.le_of_ble_eq_true rfl, Nat.le_of_ble_eq_true rfl⟩) (ct_preS (T := ct_T cI cJ cB cZ cO) hE hH hP hD hS hA [] (by decide) rfl) rfl rfl hl.1 rfl (lv_room (Nat.le_of_ble_eq_true rfl)) dX3_mostAlike_107 ⟨Nat.le_of_ble_eq_true rfl, Nat.le_of_ble_eq_true rfl⟩) hP hD hS hA [] [0, 1, 2, 3, 4, 5, 6] rfl rfl (by decide) (by decide) (fun r1912 u H locs hw hP hD hS => ?_)
        obtain ⟨hP, hD⟩ : ct_B D A H [(qe_lastUnlike, .inl (cI, 10, .inl (fe_lastUnlike))), (qe_stepsIn, .inl (cI, 60, .inl (fe_stepsIn))), (qe_passed, .inl (cI, 10, .inl (fe_passed))), (qe_classes, .inl (cI, 6, .inl (g1908))), gu qe ve_gap ve_length qe_round ve_impossible ve_firstUnlike qe_lastUnlike qe_places qe_stepsIn qe_passed qe_classes ve_bestBeat ve_bestLeft, (qe_round, .inl (cI, 12, .inl (fe_round))), (qe_places, .inl (cI, 200, .inl (fe_places)))] := ⟨hP, hD⟩
        have hz := hw
        have h_r1912 : 0 ≤ r1912.toInt ∧ r1912.toInt ≤ 63 := hz
        refine lv_isub hx hb dX3_mostAlike_110 ?_
        refine lv_topi (fun z1913 ez1913 => ?_)
        refine lv_istore_n (lv' := [(3, .int z1913), (6, .int x1909), (5, .int 0), (4, .int x1783), (0, .ref qe), (1, .int a1), (2, .int a2)]) hx hb dX3_mostAlike_111 rfl hl (by decide) rfl (fun ls hl => ?_)
        obtain ⟨z1914, ez1914⟩ : ∃ z : Int32, z = x1783 + 1 := ⟨_, rfl⟩
        have fz1914 : z1914.toInt = x1783.toInt + 1 := by rw [ez1914]; exact tq_add rfl (by decide) (by omega)
        refine lv_iinc (v := z1914) (lv' := [(4, .int z1914), (3, .int z1913), (6, .int x1909), (5, .int 0), (0, .ref qe), (1, .int a1), (2, .int a2)]) hx hb dX3_mostAlike_112 hl (k := 3) rfl ez1914.symm (by decide) rfl (fun ls hl => ?_)
        refine lv_goto (tgt := 13) hx hb dX3_mostAlike_115 (by decide) ?_
        obtain ⟨hP9, hD9⟩ : ct_B D A H [gu qe ve_gap ve_length qe_round ve_impossible ve_firstUnlike qe_lastUnlike qe_places qe_stepsIn qe_passed qe_classes ve_bestBeat ve_bestLeft, (qe_round, .inl (cI, 12, .inl (fe_round))), (qe_lastUnlike, .inl (cI, 10, .inl (fe_lastUnlike))), (qe_places, .inl (cI, 200, .inl (fe_places))), (qe_stepsIn, .inl (cI, 60, .inl (fe_stepsIn))), (qe_passed, .inl (cI, 10, .inl (fe_passed))), (qe_classes, .inl (cI, 6, .inl (g1908)))] := ⟨hP.sub [4, 5, 0, 6, 1, 2, 3] rfl, hD.sub [4, 5, 0, 6, 1, 2, 3] (by decide) rfl⟩
        exact ih1784 (g1908, z1913, z1914) _ _ _ (show (10 - z1914.toInt).toNat < (10 - x1783.toInt).toNat by omega) ⟨(show 0 ≤ z1914.toInt ∧ z1914.toInt ≤ 10 by omega), ⟨hP9, hD9⟩, hS, lv_sub hl [0, 1, 4, 5, 6] rfl⟩
      · have hq1911 : x1909.toInt < 6 := tq_nle (by decide) rfl hc
        refine lv_aload_n hx hb dX3_mostAlike_81 rfl (lv_at hl 4 rfl) ?_
        refine va_get (D := D) (ci := 3) (v := .ref qe_classes) (C := RX3) (T := TX3) (N := 12) hx hb hts hi3 hown hK hP 4 rfl rfl 9 (by decide) (hts (.fieldLink RX3 27 "OverHill$Guess" "classes" "[I") (by decide +kernel)) (fun _ h9 => h9) rfl dX3_mostAlike_82 ?_
        refine lv_iload hx hb dX3_mostAlike_85 (lv_at hl 0 rfl) ?_
        refine lv_dup2_11 hx hb dX3_mostAlike_87 rfl rfl ?_
        refine va_iald (D := D) hx hb hK hP 3 0 rfl rfl (tq_in rfl (by omega)) dX3_mostAlike_88 ?_
        refine lv_topi (fun z1915 ez1915 => ?_)
        refine lv_iload hx hb dX3_mostAlike_89 (lv_at hl 1 rfl) ?_
        refine lv_iload hx hb dX3_mostAlike_91 (lv_at hl 0 rfl) ?_
        refine lv_ishr hx hb dX3_mostAlike_93 ?_
        refine lv_topi (fun z1916 ez1916 => ?_)
        refine lv_iconst (v := 1) hx hb dX3_mostAlike_94 (by decide) ?_
        refine lv_iand hx hb dX3_mostAlike_95 ?_
        refine lv_topi (fun z1917 ez1917 => ?_)
        have fz1917 : 0 ≤ z1917.toInt ∧ z1917.toInt ≤ 1 := by rw [ez1917]; exact tq_and (c := 1) (by decide) (by omega)
        refine lv_iadd hx hb dX3_mostAlike_96 ?_
        refine lv_topi (fun z1918 ez1918 => ?_)
        refine va_iast (D := D) hx hb hK hP hD hS 3 0 rfl rfl (tq_in rfl (by omega)) dX3_mostAlike_97 (fun H locs hP hD hS => ?_)
        obtain ⟨g1919, hP, hD⟩ : ∃ g1919 : Nat → Int32, ct_B D A H [(qe_lastUnlike, .inl (cI, 10, .inl (fe_lastUnlike))), (qe_stepsIn, .inl (cI, 60, .inl (fe_stepsIn))), (qe_passed, .inl (cI, 10, .inl (fe_passed))), (qe_classes, .inl (cI, 6, .inl (g1919))), gu qe ve_gap ve_length qe_round ve_impossible ve_firstUnlike qe_lastUnlike qe_places qe_stepsIn qe_passed qe_classes ve_bestBeat ve_bestLeft, (qe_round, .inl (cI, 12, .inl (fe_round))), (qe_places, .inl (cI, 200, .inl (fe_places)))] := ⟨_, hP, hD⟩
        obtain ⟨z1920, ez1920⟩ : ∃ z : Int32, z = x1909 + 1 := ⟨_, rfl⟩
        have fz1920 : z1920.toInt = x1909.toInt + 1 := by rw [ez1920]; exact tq_add rfl (by decide) (by omega)
        refine lv_iinc (v := z1920) (lv' := [(6, .int z1920), (5, .int 0), (3, .int z1841), (4, .int x1783), (0, .ref qe), (1, .int a1), (2, .int a2)]) hx hb dX3_mostAlike_98 hl (k := 0) rfl ez1920.symm (by decide) rfl (fun ls hl => ?_)
        refine lv_goto (tgt := 74) hx hb dX3_mostAlike_101 (by decide) ?_
        exact ih1910 (g1919, z1920) _ _ _ (show (6 - z1920.toInt).toNat < (6 - x1909.toInt).toNat by omega) ⟨(show 0 ≤ z1920.toInt ∧ z1920.toInt ≤ 6 by omega), ⟨hP, hD⟩, hS, lv_sub hl [0, 1, 2, 3, 4, 5, 6] rfl⟩
    · have hq1842 : a1.toInt < 60 := tq_nle (by decide) rfl hc
      refine lv_aload_n hx hb dX3_mostAlike_58 rfl (lv_at hl 2 rfl) ?_
      refine lv_iload_n hx hb dX3_mostAlike_59 rfl (lv_at hl 3 rfl) ?_
      refine lv_iload hx hb dX3_mostAlike_60 (lv_at hl 1 rfl) ?_
      refine ct_calli (D := D) (wr := [(qe_passed, .inl (cI, 10, .inl (fe_passed))), (qe_classes, .inl (cI, 6, .inl (g1839))), (qe_round, .inl (cI, 12, .inl (fe_round)))]) (va_runV (As := [.int a1, .int x1783]) (rest := []) ⟨hx, hb, hml, hown, hts⟩ (c_X3_stepsThatFit l D G cI cJ cB cZ cO qe ve_gap ve_length qe_round ve_impossible ve_firstUnlike qe_lastUnlike fe_lastUnlike qe_places fe_places qe_stepsIn fe_stepsIn qe_passed qe_classes ve_bestBeat ve_bestLeft a1 x1783 h_ve_gap h_ve_length (by omega) (by omega) H.size) (cwV 2 hts gX3_mostAlike_X3_stepsThatFit rfl rfl rfl (by decide +kernel) ⟨Nat.le_of_ble_eq_true rfl, Nat.le_of_ble_eq_true rfl⟩) (ct_preV (T := ct_T cI cJ cB cZ cO) (ci := 3) (q0 := 4) hE hH hP hD hS hA [4, 0, 6, 1] (by decide) rfl rfl rfl) rfl rfl hl.1 rfl (lv_room (Nat.le_of_ble_eq_true rfl)) dX3_mostAlike_62 ⟨Nat.le_of_ble_eq_true rfl, Nat.le_of_ble_eq_true rfl⟩) hP hD hS hA [4, 0, 6, 1] [2, 3, 5] rfl rfl (by decide) (by decide) (fun r1921 u H locs hw hP hD hS => ?_)
      obtain ⟨hP, hD⟩ : ct_B D A H [(qe_passed, .inl (cI, 10, .inl (fe_passed))), (qe_classes, .inl (cI, 6, .inl (g1839))), (qe_round, .inl (cI, 12, .inl (fe_round))), gu qe ve_gap ve_length qe_round ve_impossible ve_firstUnlike qe_lastUnlike qe_places qe_stepsIn qe_passed qe_classes ve_bestBeat ve_bestLeft, (qe_lastUnlike, .inl (cI, 10, .inl (fe_lastUnlike))), (qe_places, .inl (cI, 200, .inl (fe_places))), (qe_stepsIn, .inl (cI, 60, .inl (fe_stepsIn)))] := ⟨hP, hD⟩
      refine lv_goto (tgt := 69) hx hb dX3_mostAlike_65 (by decide) ?_
      refine lv_istore (lv' := [(5, .int r1921), (3, .int z1841), (4, .int x1783), (0, .ref qe), (1, .int a1), (2, .int a2)]) hx hb dX3_mostAlike_69 hl (by decide) rfl (fun ls hl => ?_)
      refine lv_iconst (v := 0) hx hb dX3_mostAlike_71 (by decide) ?_
      refine lv_istore (lv' := [(6, .int 0), (5, .int r1921), (3, .int z1841), (4, .int x1783), (0, .ref qe), (1, .int a1), (2, .int a2)]) hx hb dX3_mostAlike_72 hl (by decide) rfl (fun ls hl => ?_)
      refine ct_loop (X := (Nat → Int32) × Int32) (fun x => (6 - x.2.toInt).toNat) (fun x H locs ls => ((0 ≤ x.2.toInt ∧ x.2.toInt ≤ 6)) ∧ ct_B D A H [(qe_passed, .inl (cI, 10, .inl (fe_passed))), (qe_classes, .inl (cI, 6, .inl (x.1))), (qe_round, .inl (cI, 12, .inl (fe_round))), gu qe ve_gap ve_length qe_round ve_impossible ve_firstUnlike qe_lastUnlike qe_places qe_stepsIn qe_passed qe_classes ve_bestBeat ve_bestLeft, (qe_lastUnlike, .inl (cI, 10, .inl (fe_lastUnlike))), (qe_places, .inl (cI, 200, .inl (fe_places))), (qe_stepsIn, .inl (cI, 60, .inl (fe_stepsIn)))] ∧ va_S A s.heap H locs ∧ lv_has ls 7 [(6, .int x.2), (5, .int r1921), (3, .int z1841), (4, .int x1783), (0, .ref qe), (1, .int a1), (2, .int a2)]) 74 (g1839, (0 : Int32)) ⟨(show 0 ≤ (0 : Int32).toInt ∧ (0 : Int32).toInt ≤ 6 by decide), ⟨hP, hD⟩, hS, lv_sub hl [0, 1, 2, 3, 4, 5, 6] rfl⟩ (fun x ih1989 H locs ls hI => ?_)
      obtain ⟨g1987, x1988⟩ := x
      obtain ⟨h_x1988, ⟨hP, hD⟩, hS, hl⟩ := hI
      have h_x1988 : (0 ≤ x1988.toInt ∧ x1988.toInt ≤ 6) := h_x1988
      obtain ⟨hP, hD⟩ : ct_B D A H [(qe_passed, .inl (cI, 10, .inl (fe_passed))), (qe_classes, .inl (cI, 6, .inl (g1987))), (qe_round, .inl (cI, 12, .inl (fe_round))), gu qe ve_gap ve_length qe_round ve_impossible ve_firstUnlike qe_lastUnlike qe_places qe_stepsIn qe_passed qe_classes ve_bestBeat ve_bestLeft, (qe_lastUnlike, .inl (cI, 10, .inl (fe_lastUnlike))), (qe_places, .inl (cI, 200, .inl (fe_places))), (qe_stepsIn, .inl (cI, 60, .inl (fe_stepsIn)))] := ⟨hP, hD⟩
      have hl : lv_has ls 7 [(6, .int x1988), (5, .int r1921), (3, .int z1841), (4, .int x1783), (0, .ref qe), (1, .int a1), (2, .int a2)] := hl
      refine lv_iload hx hb dX3_mostAlike_74 (lv_at hl 0 rfl) ?_
      refine lv_bipush (v := 6) hx hb dX3_mostAlike_76 (by decide) ?_
      refine lv_icmp_ge (tgt := 104) hx hb dX3_mostAlike_78 (by decide) (fun hc => ?_) (fun hc => ?_)
      · have hq1990 : 6 ≤ x1988.toInt := tq_le (by decide) rfl hc
        refine lv_iload_n hx hb dX3_mostAlike_104 rfl (lv_at hl 2 rfl) ?_
        refine lv_iload hx hb dX3_mostAlike_105 (lv_at hl 1 rfl) ?_
        refine ct_calli (D := D) (wr := [(qe_passed, .inl (cI, 10, .inl (fe_passed))), (qe_classes, .inl (cI, 6, .inl (g1987))), (qe_round, .inl (cI, 12, .inl (fe_round))), gu qe ve_gap ve_length qe_round ve_impossible ve_firstUnlike qe_lastUnlike qe_places qe_stepsIn qe_passed qe_classes ve_bestBeat ve_bestLeft, (qe_lastUnlike, .inl (cI, 10, .inl (fe_lastUnlike))), (qe_places, .inl (cI, 200, .inl (fe_places))), (qe_stepsIn, .inl (cI, 60, .inl (fe_stepsIn)))]) (va_runS (As := [.int r1921]) (rest := [.int z1841]) ⟨hx, hb, hml, hown, hts⟩ (c_J6_bitCount_0f7a4 l D G cI cJ cB cZ cO r1921  H.size) (va_cwS 1 hts gX3_mostAlike_J6_bitCount_0f7a4 rfl rfl rfl (by decide +kernel) ⟨Nat.le_of_ble_eq_true rfl, Nat.le_of_ble_eq_true rfl⟩) (ct_preS (T := ct_T cI cJ cB cZ cO) hE hH hP hD hS hA [] (by decide) rfl) rfl rfl hl.1 rfl (lv_room (Nat.le_of_ble_eq_true rfl)) dX3_mostAlike_107 ⟨Nat.le_of_ble_eq_true rfl, Nat.le_of_ble_eq_true rfl⟩) hP hD hS hA [] [0, 1, 2, 3, 4, 5, 6] rfl rfl (by decide) (by decide) (fun r1991 u H locs hw hP hD hS => ?_)
        obtain ⟨hP, hD⟩ : ct_B D A H [(qe_passed, .inl (cI, 10, .inl (fe_passed))), (qe_classes, .inl (cI, 6, .inl (g1987))), (qe_round, .inl (cI, 12, .inl (fe_round))), gu qe ve_gap ve_length qe_round ve_impossible ve_firstUnlike qe_lastUnlike qe_places qe_stepsIn qe_passed qe_classes ve_bestBeat ve_bestLeft, (qe_lastUnlike, .inl (cI, 10, .inl (fe_lastUnlike))), (qe_places, .inl (cI, 200, .inl (fe_places))), (qe_stepsIn, .inl (cI, 60, .inl (fe_stepsIn)))] := ⟨hP, hD⟩
        have hz := hw
        have h_r1991 : 0 ≤ r1991.toInt ∧ r1991.toInt ≤ 63 := hz
        refine lv_isub hx hb dX3_mostAlike_110 ?_
        refine lv_topi (fun z1992 ez1992 => ?_)
        refine lv_istore_n (lv' := [(3, .int z1992), (6, .int x1988), (5, .int r1921), (4, .int x1783), (0, .ref qe), (1, .int a1), (2, .int a2)]) hx hb dX3_mostAlike_111 rfl hl (by decide) rfl (fun ls hl => ?_)
        obtain ⟨z1993, ez1993⟩ : ∃ z : Int32, z = x1783 + 1 := ⟨_, rfl⟩
        have fz1993 : z1993.toInt = x1783.toInt + 1 := by rw [ez1993]; exact tq_add rfl (by decide) (by omega)
        refine lv_iinc (v := z1993) (lv' := [(4, .int z1993), (3, .int z1992), (6, .int x1988), (5, .int r1921), (0, .ref qe), (1, .int a1), (2, .int a2)]) hx hb dX3_mostAlike_112 hl (k := 3) rfl ez1993.symm (by decide) rfl (fun ls hl => ?_)
        refine lv_goto (tgt := 13) hx hb dX3_mostAlike_115 (by decide) ?_
        obtain ⟨hP9, hD9⟩ : ct_B D A H [gu qe ve_gap ve_length qe_round ve_impossible ve_firstUnlike qe_lastUnlike qe_places qe_stepsIn qe_passed qe_classes ve_bestBeat ve_bestLeft, (qe_round, .inl (cI, 12, .inl (fe_round))), (qe_lastUnlike, .inl (cI, 10, .inl (fe_lastUnlike))), (qe_places, .inl (cI, 200, .inl (fe_places))), (qe_stepsIn, .inl (cI, 60, .inl (fe_stepsIn))), (qe_passed, .inl (cI, 10, .inl (fe_passed))), (qe_classes, .inl (cI, 6, .inl (g1987)))] := ⟨hP.sub [3, 2, 4, 5, 6, 0, 1] rfl, hD.sub [3, 2, 4, 5, 6, 0, 1] (by decide) rfl⟩
        exact ih1784 (g1987, z1992, z1993) _ _ _ (show (10 - z1993.toInt).toNat < (10 - x1783.toInt).toNat by omega) ⟨(show 0 ≤ z1993.toInt ∧ z1993.toInt ≤ 10 by omega), ⟨hP9, hD9⟩, hS, lv_sub hl [0, 1, 4, 5, 6] rfl⟩
      · have hq1990 : x1988.toInt < 6 := tq_nle (by decide) rfl hc
        refine lv_aload_n hx hb dX3_mostAlike_81 rfl (lv_at hl 4 rfl) ?_
        refine va_get (D := D) (ci := 3) (v := .ref qe_classes) (C := RX3) (T := TX3) (N := 12) hx hb hts hi3 hown hK hP 3 rfl rfl 9 (by decide) (hts (.fieldLink RX3 27 "OverHill$Guess" "classes" "[I") (by decide +kernel)) (fun _ h9 => h9) rfl dX3_mostAlike_82 ?_
        refine lv_iload hx hb dX3_mostAlike_85 (lv_at hl 0 rfl) ?_
        refine lv_dup2_11 hx hb dX3_mostAlike_87 rfl rfl ?_
        refine va_iald (D := D) hx hb hK hP 1 0 rfl rfl (tq_in rfl (by omega)) dX3_mostAlike_88 ?_
        refine lv_topi (fun z1994 ez1994 => ?_)
        refine lv_iload hx hb dX3_mostAlike_89 (lv_at hl 1 rfl) ?_
        refine lv_iload hx hb dX3_mostAlike_91 (lv_at hl 0 rfl) ?_
        refine lv_ishr hx hb dX3_mostAlike_93 ?_
        refine lv_topi (fun z1995 ez1995 => ?_)
        refine lv_iconst (v := 1) hx hb dX3_mostAlike_94 (by decide) ?_
        refine lv_iand hx hb dX3_mostAlike_95 ?_
        refine lv_topi (fun z1996 ez1996 => ?_)
        have fz1996 : 0 ≤ z1996.toInt ∧ z1996.toInt ≤ 1 := by rw [ez1996]; exact tq_and (c := 1) (by decide) (by omega)
        refine lv_iadd hx hb dX3_mostAlike_96 ?_
        refine lv_topi (fun z1997 ez1997 => ?_)
        refine va_iast (D := D) hx hb hK hP hD hS 1 0 rfl rfl (tq_in rfl (by omega)) dX3_mostAlike_97 (fun H locs hP hD hS => ?_)
        obtain ⟨g1998, hP, hD⟩ : ∃ g1998 : Nat → Int32, ct_B D A H [(qe_passed, .inl (cI, 10, .inl (fe_passed))), (qe_classes, .inl (cI, 6, .inl (g1998))), (qe_round, .inl (cI, 12, .inl (fe_round))), gu qe ve_gap ve_length qe_round ve_impossible ve_firstUnlike qe_lastUnlike qe_places qe_stepsIn qe_passed qe_classes ve_bestBeat ve_bestLeft, (qe_lastUnlike, .inl (cI, 10, .inl (fe_lastUnlike))), (qe_places, .inl (cI, 200, .inl (fe_places))), (qe_stepsIn, .inl (cI, 60, .inl (fe_stepsIn)))] := ⟨_, hP, hD⟩
        obtain ⟨z1999, ez1999⟩ : ∃ z : Int32, z = x1988 + 1 := ⟨_, rfl⟩
        have fz1999 : z1999.toInt = x1988.toInt + 1 := by rw [ez1999]; exact tq_add rfl (by decide) (by omega)
        refine lv_iinc (v := z1999) (lv' := [(6, .int z1999), (5, .int r1921), (3, .int z1841), (4, .int x1783), (0, .ref qe), (1, .int a1), (2, .int a2)]) hx hb dX3_mostAlike_98 hl (k := 0) rfl ez1999.symm (by decide) rfl (fun ls hl => ?_)
        refine lv_goto (tgt := 74) hx hb dX3_mostAlike_101 (by decide) ?_
        exact ih1989 (g1998, z1999) _ _ _ (show (6 - z1999.toInt).toNat < (6 - x1988.toInt).toNat by omega) ⟨(show 0 ≤ z1999.toInt ∧ z1999.toInt ≤ 6 by omega), ⟨hP, hD⟩, hS, lv_sub hl [0, 1, 2, 3, 4, 5, 6] rfl⟩
abbrev w_c_X3_findBeat (cI cJ cB cZ cO : ClassId) (qe : Nat) (ve_gap : Int32) (ve_length : Int32) (qe_round : Nat) (fe_round : Nat → Int32) (ve_impossible : Int32) (ve_firstUnlike : Int32) (qe_lastUnlike : Nat) (fe_lastUnlike : Nat → Int32) (qe_places : Nat) (fe_places : Nat → Int32) (qe_stepsIn : Nat) (fe_stepsIn : Nat → Int32) (qe_passed : Nat) (fe_passed : Nat → Int32) (qe_classes : Nat) (fe_classes : Nat → Int32) (ve_bestBeat : Int32) (ve_bestLeft : Int32) : va_W := [gu qe ve_gap ve_length qe_round ve_impossible ve_firstUnlike qe_lastUnlike qe_places qe_stepsIn qe_passed qe_classes ve_bestBeat ve_bestLeft, (qe_round, .inl (cI, 12, .inl (fe_round))), (qe_lastUnlike, .inl (cI, 10, .inl (fe_lastUnlike))), (qe_places, .inl (cI, 200, .inl (fe_places))), (qe_stepsIn, .inl (cI, 60, .inl (fe_stepsIn))), (qe_passed, .inl (cI, 10, .inl (fe_passed))), (qe_classes, .inl (cI, 6, .inl (fe_classes)))]
set_option maxHeartbeats 4000000 in
set_option maxRecDepth 100000 in
/-- X3 findBeat -/
theorem c_X3_findBeat (l : Launch) (D : va_G) (G : ct_G) (cI cJ cB cZ cO : ClassId) (qe : Nat) (ve_gap : Int32) (ve_length : Int32) (qe_round : Nat) (fe_round : Nat → Int32) (ve_impossible : Int32) (ve_firstUnlike : Int32) (qe_lastUnlike : Nat) (fe_lastUnlike : Nat → Int32) (qe_places : Nat) (fe_places : Nat → Int32) (qe_stepsIn : Nat) (fe_stepsIn : Nat → Int32) (qe_passed : Nat) (fe_passed : Nat → Int32) (qe_classes : Nat) (fe_classes : Nat → Int32) (ve_bestBeat : Int32) (ve_bestLeft : Int32) (h_ve_gap : 0 ≤ ve_gap.toInt ∧ ve_gap.toInt ≤ 20) (h_ve_length : 0 ≤ ve_length.toInt ∧ ve_length.toInt ≤ 12) (h_fe_round : ar_ok [0] [5] fe_round) (sz : Nat) : Met l yX3_findBeat wsX3_findBeat ({ frames := 4, cells := 0, slots := 0, locals := 91 }) (va_Pc [.ref qe] (ct_P D (ct_T cI cJ cB cZ cO) G (w_c_X3_findBeat cI cJ cB cZ cO qe ve_gap ve_length qe_round fe_round ve_impossible ve_firstUnlike qe_lastUnlike fe_lastUnlike qe_places fe_places qe_stepsIn fe_stepsIn qe_passed fe_passed qe_classes fe_classes ve_bestBeat ve_bestLeft) sz)) (va_Qv (fun (u : Int32 × Int32 × (Nat → Int32) × (Nat → Int32)) => True) (fun (u : Int32 × Int32 × (Nat → Int32) × (Nat → Int32)) t => ct_Q D (va_A (w_c_X3_findBeat cI cJ cB cZ cO qe ve_gap ve_length qe_round fe_round ve_impossible ve_firstUnlike qe_lastUnlike fe_lastUnlike qe_places fe_places qe_stepsIn fe_stepsIn qe_passed fe_passed qe_classes fe_classes ve_bestBeat ve_bestLeft) sz) [gu qe ve_gap ve_length qe_round ve_impossible ve_firstUnlike qe_lastUnlike qe_places qe_stepsIn qe_passed qe_classes u.1 u.2.1, (qe_round, .inl (cI, 12, .inl (fe_round))), (qe_lastUnlike, .inl (cI, 10, .inl (fe_lastUnlike))), (qe_places, .inl (cI, 200, .inl (fe_places))), (qe_stepsIn, .inl (cI, 60, .inl (fe_stepsIn))), (qe_passed, .inl (cI, 10, .inl (u.2.2.1))), (qe_classes, .inl (cI, 6, .inl (u.2.2.2)))] t) (va_A (w_c_X3_findBeat cI cJ cB cZ cO qe ve_gap ve_length qe_round fe_round ve_impossible ve_firstUnlike qe_lastUnlike fe_lastUnlike qe_places fe_places qe_stepsIn fe_stepsIn qe_passed fe_passed qe_classes fe_classes ve_bestBeat ve_bestLeft) sz)) 0 0 (va_A (w_c_X3_findBeat cI cJ cB cZ cO qe ve_gap ve_length qe_round fe_round ve_impossible ve_firstUnlike qe_lastUnlike fe_lastUnlike qe_places fe_places qe_stepsIn fe_stepsIn qe_passed fe_passed qe_classes fe_classes ve_bestBeat ve_bestLeft) sz) := by
  refine Met.ofW (cc := cX3_findBeat) (maxL := 5) (ret := none) (by decide) rfl ?_
  intro p e s m args below meth c s₁ B hml hv
  obtain ⟨rfl, hsz, hP, hE, hD0, hH⟩ := hv
  have hx := B.exec
  have hb := B.bytes
  have hr := B.returns
  have hts := atoms_spec (ws := wsX3_findBeat) B.pre
  have hown : s.vm.findClass RX3 = some m.cls := findClass_of_methodNamed B.named
  have hlocks := B.notSynchronized
  have hK := hE.1
  have hi3 : ∀ w ∈ u_ws RX3 TX3 12, w ∈ wsX3_findBeat := fun w h => List.mem_cons_of_mem _ (List.mem_append_right _ h)
  subst hsz
  have hD := hD0.self (sz := s.heap.size)
  generalize hAe : va_A (w_c_X3_findBeat cI cJ cB cZ cO qe ve_gap ve_length qe_round fe_round ve_impossible ve_firstUnlike qe_lastUnlike fe_lastUnlike qe_places fe_places qe_stepsIn fe_stepsIn qe_passed fe_passed qe_classes fe_classes ve_bestBeat ve_bestLeft) s.heap.size = A at hD hH ⊢
  have hA : ∀ q : Nat, s.heap.size ≤ q → A q := fun q h => by rw [← hAe]; exact Or.inr h
  have hS : va_S A s.heap s.heap [] := va_S.rf
  obtain ⟨hP, hD⟩ : ct_B D A s.heap [gu qe ve_gap ve_length qe_round ve_impossible ve_firstUnlike qe_lastUnlike qe_places qe_stepsIn qe_passed qe_classes ve_bestBeat ve_bestLeft, (qe_round, .inl (cI, 12, .inl (fe_round))), (qe_lastUnlike, .inl (cI, 10, .inl (fe_lastUnlike))), (qe_places, .inl (cI, 200, .inl (fe_places))), (qe_stepsIn, .inl (cI, 60, .inl (fe_stepsIn))), (qe_passed, .inl (cI, 10, .inl (fe_passed))), (qe_classes, .inl (cI, 6, .inl (fe_classes)))] := ⟨hP, hD⟩
  have hl := lv_entry ([.ref qe]) (n := 5) (Nat.le_of_ble_eq_true rfl)
  rw [lg_entry_eq]
  generalize (lg_sl ([.ref qe]) ++ List.replicate (5 - (lg_sl ([.ref qe])).length) Slot.unset).toArray = ls at hl ⊢
  have hl : lv_has ls 5 [(0, .ref qe)] := hl
  obtain ⟨H, hHe⟩ : ∃ H : Heap, H = s.heap := ⟨_, rfl⟩
  rw [← hHe] at hP
  have hS : va_S A s.heap H [] := by rw [hHe]; exact va_S.rf
  refine ct_start hHe ?_
  refine lv_aload_n hx hb dX3_findBeat_0 rfl (lv_at hl 0 rfl) ?_
  refine ct_calli (D := D) (wr := [(qe_round, .inl (cI, 12, .inl (fe_round))), (qe_passed, .inl (cI, 10, .inl (fe_passed))), (qe_classes, .inl (cI, 6, .inl (fe_classes)))]) (va_runV (As := []) (rest := []) ⟨hx, hb, hml, hown, hts⟩ (c_X3_countFits l D G cI cJ cB cZ cO qe ve_gap ve_length qe_round ve_impossible ve_firstUnlike qe_lastUnlike fe_lastUnlike qe_places fe_places qe_stepsIn fe_stepsIn qe_passed qe_classes ve_bestBeat ve_bestLeft h_ve_gap h_ve_length H.size) (cwV 0 hts gX3_findBeat_X3_countFits rfl rfl rfl (by decide +kernel) ⟨Nat.le_of_ble_eq_true rfl, Nat.le_of_ble_eq_true rfl⟩) (ct_preV (T := ct_T cI cJ cB cZ cO) (ci := 3) (q0 := 0) hE hH hP hD hS hA [0, 2, 3, 4] (by decide) rfl rfl rfl) rfl rfl hl.1 rfl (lv_room (Nat.le_of_ble_eq_true rfl)) dX3_findBeat_1 ⟨Nat.le_of_ble_eq_true rfl, Nat.le_of_ble_eq_true rfl⟩) hP hD hS hA [0, 2, 3, 4] [1, 5, 6] rfl rfl (by decide) (by decide) (fun r1 u H locs hw hP hD hS => ?_)
  obtain ⟨hP, hD⟩ : ct_B D A H [(qe_round, .inl (cI, 12, .inl (fe_round))), (qe_passed, .inl (cI, 10, .inl (fe_passed))), (qe_classes, .inl (cI, 6, .inl (fe_classes))), gu qe ve_gap ve_length qe_round ve_impossible ve_firstUnlike qe_lastUnlike qe_places qe_stepsIn qe_passed qe_classes ve_bestBeat ve_bestLeft, (qe_lastUnlike, .inl (cI, 10, .inl (fe_lastUnlike))), (qe_places, .inl (cI, 200, .inl (fe_places))), (qe_stepsIn, .inl (cI, 60, .inl (fe_stepsIn)))] := ⟨hP, hD⟩
  refine lv_istore_n (lv' := [(1, .int r1), (0, .ref qe)]) hx hb dX3_findBeat_4 rfl hl (by decide) rfl (fun ls hl => ?_)
  refine lv_aload_n hx hb dX3_findBeat_5 rfl (lv_at hl 1 rfl) ?_
  refine lv_iconst (v := (-1)) hx hb dX3_findBeat_6 (by decide) ?_
  refine va_put (D := D) (ci := 3) (v := .int (-1)) (ty := .int) (C := RX3) (T := TX3) (N := 12) hx hb hts hi3 tyX3 tyX3_ok nmX3 hown hK hP hD hS 3 rfl rfl 10 (by decide) (hts (.fieldLink RX3 103 "OverHill$Guess" "bestBeat" "I") (by decide +kernel)) (fun _ h9 => h9) rfl (by decide +kernel) rfl rfl (Nat.le_of_ble_eq_true rfl) dX3_findBeat_7 (fun H locs hP hD hS => ?_)
  obtain ⟨hP, hD⟩ : ct_B D A H [(qe_round, .inl (cI, 12, .inl (fe_round))), (qe_passed, .inl (cI, 10, .inl (fe_passed))), (qe_classes, .inl (cI, 6, .inl (fe_classes))), gu qe ve_gap ve_length qe_round ve_impossible ve_firstUnlike qe_lastUnlike qe_places qe_stepsIn qe_passed qe_classes (-1) ve_bestLeft, (qe_lastUnlike, .inl (cI, 10, .inl (fe_lastUnlike))), (qe_places, .inl (cI, 200, .inl (fe_places))), (qe_stepsIn, .inl (cI, 60, .inl (fe_stepsIn)))] := ⟨hP, hD⟩
  refine lv_aload_n hx hb dX3_findBeat_10 rfl (lv_at hl 1 rfl) ?_
  refine lv_iload_n hx hb dX3_findBeat_11 rfl (lv_at hl 0 rfl) ?_
  refine va_put (D := D) (ci := 3) (v := .int r1) (ty := .int) (C := RX3) (T := TX3) (N := 12) hx hb hts hi3 tyX3 tyX3_ok nmX3 hown hK hP hD hS 3 rfl rfl 11 (by decide) (hts (.fieldLink RX3 106 "OverHill$Guess" "bestLeft" "I") (by decide +kernel)) (fun _ h9 => h9) rfl (by decide +kernel) rfl rfl (Nat.le_of_ble_eq_true rfl) dX3_findBeat_12 (fun H locs hP hD hS => ?_)
  obtain ⟨hP, hD⟩ : ct_B D A H [(qe_round, .inl (cI, 12, .inl (fe_round))), (qe_passed, .inl (cI, 10, .inl (fe_passed))), (qe_classes, .inl (cI, 6, .inl (fe_classes))), gu qe ve_gap ve_length qe_round ve_impossible ve_firstUnlike qe_lastUnlike qe_places qe_stepsIn qe_passed qe_classes (-1) r1, (qe_lastUnlike, .inl (cI, 10, .inl (fe_lastUnlike))), (qe_places, .inl (cI, 200, .inl (fe_places))), (qe_stepsIn, .inl (cI, 60, .inl (fe_stepsIn)))] := ⟨hP, hD⟩
  refine lv_aload_n hx hb dX3_findBeat_15 rfl (lv_at hl 1 rfl) ?_
  refine va_get (D := D) (ci := 3) (v := .ref qe_passed) (C := RX3) (T := TX3) (N := 12) hx hb hts hi3 hown hK hP 3 rfl rfl 8 (by decide) (hts (.fieldLink RX3 24 "OverHill$Guess" "passed" "[I") (by decide +kernel)) (fun _ h9 => h9) rfl dX3_findBeat_16 ?_
  refine lv_iconst (v := 0) hx hb dX3_findBeat_19 (by decide) ?_
  refine ct_callv (D := D) (wr := [(qe_round, .inl (cI, 12, .inl (fe_round))), (qe_classes, .inl (cI, 6, .inl (fe_classes))), gu qe ve_gap ve_length qe_round ve_impossible ve_firstUnlike qe_lastUnlike qe_places qe_stepsIn qe_passed qe_classes (-1) r1, (qe_lastUnlike, .inl (cI, 10, .inl (fe_lastUnlike))), (qe_places, .inl (cI, 200, .inl (fe_places))), (qe_stepsIn, .inl (cI, 60, .inl (fe_stepsIn)))]) (va_runS (As := [.ref qe_passed, .int 0]) (rest := []) ⟨hx, hb, hml, hown, hts⟩ (c_fill l D G cI cJ cB cZ cO qe_passed 10 fe_passed 0 (by decide) H.size) (va_cwS 2 hts gX3_findBeat_J7_fill_53178 rfl rfl rfl (by decide +kernel) ⟨Nat.le_of_ble_eq_true rfl, Nat.le_of_ble_eq_true rfl⟩) (ct_preS (T := ct_T cI cJ cB cZ cO) hE hH hP hD hS hA [1] (by decide) rfl) rfl rfl hl.1 rfl (lv_room (Nat.le_of_ble_eq_true rfl)) dX3_findBeat_20 ⟨Nat.le_of_ble_eq_true rfl, Nat.le_of_ble_eq_true rfl⟩) hP hD hS hA [1] [0, 2, 3, 4, 5, 6] rfl rfl (by decide) (by decide) (fun u H locs hw hP hD hS => ?_)
  obtain ⟨g2, rfl⟩ : ∃ z, z = u := ⟨_, rfl⟩
  obtain ⟨hP, hD⟩ : ct_B D A H [(qe_round, .inl (cI, 12, .inl (fe_round))), (qe_classes, .inl (cI, 6, .inl (fe_classes))), gu qe ve_gap ve_length qe_round ve_impossible ve_firstUnlike qe_lastUnlike qe_places qe_stepsIn qe_passed qe_classes (-1) r1, (qe_lastUnlike, .inl (cI, 10, .inl (fe_lastUnlike))), (qe_places, .inl (cI, 200, .inl (fe_places))), (qe_stepsIn, .inl (cI, 60, .inl (fe_stepsIn))), (qe_passed, .inl (cI, 10, .inl (g2)))] := ⟨hP, hD⟩
  have hp0 := hw
  have hp_3 : ∀ j : Nat, g2 j = (0 : Int32) ∨ g2 j = fe_passed j := hp0
  refine lv_aload_n hx hb dX3_findBeat_23 rfl (lv_at hl 1 rfl) ?_
  refine va_get (D := D) (ci := 3) (v := .int ve_gap) (C := RX3) (T := TX3) (N := 12) hx hb hts hi3 hown hK hP 2 rfl rfl 0 (by decide) (hts (.fieldLink RX3 36 "OverHill$Guess" "gap" "I") (by decide +kernel)) (fun _ h9 => h9) rfl dX3_findBeat_24 ?_
  refine lv_istore_n (lv' := [(2, .int ve_gap), (1, .int r1), (0, .ref qe)]) hx hb dX3_findBeat_27 rfl hl (by decide) rfl (fun ls hl => ?_)
  refine ct_loop (X := (Nat → Int32) × (Nat → Int32) × Int32 × Int32 × Int32) (fun x => (80 - x.2.2.2.2.toInt).toNat) (fun x H locs ls => (((-1) ≤ x.2.2.1.toInt ∧ x.2.2.1.toInt ≤ 79)) ∧ ((0 ≤ x.2.2.2.2.toInt ∧ x.2.2.2.2.toInt ≤ 80)) ∧ (ve_gap.toInt ≤ x.2.2.2.2.toInt) ∧ ct_B D A H [(qe_round, .inl (cI, 12, .inl (fe_round))), (qe_classes, .inl (cI, 6, .inl (x.1))), gu qe ve_gap ve_length qe_round ve_impossible ve_firstUnlike qe_lastUnlike qe_places qe_stepsIn qe_passed qe_classes x.2.2.1 x.2.2.2.1, (qe_lastUnlike, .inl (cI, 10, .inl (fe_lastUnlike))), (qe_places, .inl (cI, 200, .inl (fe_places))), (qe_stepsIn, .inl (cI, 60, .inl (fe_stepsIn))), (qe_passed, .inl (cI, 10, .inl (x.2.1)))] ∧ va_S A s.heap H locs ∧ lv_has ls 5 [(2, .int x.2.2.2.2), (1, .int r1), (0, .ref qe)]) 28 (fe_classes, g2, (-1 : Int32), r1, ve_gap) ⟨(show (-1) ≤ (-1 : Int32).toInt ∧ (-1 : Int32).toInt ≤ 79 by decide), (show 0 ≤ ve_gap.toInt ∧ ve_gap.toInt ≤ 80 by omega), (show ve_gap.toInt ≤ ve_gap.toInt by omega), ⟨hP, hD⟩, hS, lv_sub hl [0, 1, 2] rfl⟩ (fun x ih165 H locs ls hI => ?_)
  obtain ⟨g160, g161, x162, x163, x164⟩ := x
  obtain ⟨h_x162, h_x164, he0, ⟨hP, hD⟩, hS, hl⟩ := hI
  have h_x162 : ((-1) ≤ x162.toInt ∧ x162.toInt ≤ 79) := h_x162
  have h_x164 : (0 ≤ x164.toInt ∧ x164.toInt ≤ 80) := h_x164
  have he0 : ve_gap.toInt ≤ x164.toInt := he0
  obtain ⟨hP, hD⟩ : ct_B D A H [(qe_round, .inl (cI, 12, .inl (fe_round))), (qe_classes, .inl (cI, 6, .inl (g160))), gu qe ve_gap ve_length qe_round ve_impossible ve_firstUnlike qe_lastUnlike qe_places qe_stepsIn qe_passed qe_classes x162 x163, (qe_lastUnlike, .inl (cI, 10, .inl (fe_lastUnlike))), (qe_places, .inl (cI, 200, .inl (fe_places))), (qe_stepsIn, .inl (cI, 60, .inl (fe_stepsIn))), (qe_passed, .inl (cI, 10, .inl (g161)))] := ⟨hP, hD⟩
  have hl : lv_has ls 5 [(2, .int x164), (1, .int r1), (0, .ref qe)] := hl
  refine lv_iload_n hx hb dX3_findBeat_28 rfl (lv_at hl 0 rfl) ?_
  refine lv_bipush (v := 80) hx hb dX3_findBeat_29 (by decide) ?_
  refine lv_icmp_ge (tgt := 90) hx hb dX3_findBeat_31 (by decide) (fun hc => ?_) (fun hc => ?_)
  · have hq166 : 80 ≤ x164.toInt := tq_le (by decide) rfl hc
    obtain ⟨hP9, hD9⟩ : ct_B D A H [gu qe ve_gap ve_length qe_round ve_impossible ve_firstUnlike qe_lastUnlike qe_places qe_stepsIn qe_passed qe_classes x162 x163, (qe_round, .inl (cI, 12, .inl (fe_round))), (qe_lastUnlike, .inl (cI, 10, .inl (fe_lastUnlike))), (qe_places, .inl (cI, 200, .inl (fe_places))), (qe_stepsIn, .inl (cI, 60, .inl (fe_stepsIn))), (qe_passed, .inl (cI, 10, .inl (g161))), (qe_classes, .inl (cI, 6, .inl (g160)))] := ⟨hP.sub [2, 0, 3, 4, 5, 6, 1] rfl, hD.sub [2, 0, 3, 4, 5, 6, 1] (by decide) rfl⟩
    exact W.vret hx hb hr (fun t ht hW => ⟨⟨(x162, x163, g161, g160), rfl, trivial, by rw [ht]; exact hP9, hD9⟩, hS.F ht⟩) hS.2.2 dX3_findBeat_90
  · have hq166 : x164.toInt < 80 := tq_nle (by decide) rfl hc
    refine lv_iload_n hx hb dX3_findBeat_34 rfl (lv_at hl 0 rfl) ?_
    refine lv_aload_n hx hb dX3_findBeat_35 rfl (lv_at hl 2 rfl) ?_
    refine va_get (D := D) (ci := 3) (v := .int ve_gap) (C := RX3) (T := TX3) (N := 12) hx hb hts hi3 hown hK hP 2 rfl rfl 0 (by decide) (hts (.fieldLink RX3 36 "OverHill$Guess" "gap" "I") (by decide +kernel)) (fun _ h9 => h9) rfl dX3_findBeat_36 ?_
    refine lv_isub hx hb dX3_findBeat_39 ?_
    refine lv_topi (fun z167 ez167 => ?_)
    have fz167 : z167.toInt = x164.toInt - ve_gap.toInt := by rw [ez167]; exact tq_subt rfl rfl (by omega)
    refine lv_istore_n (lv' := [(3, .int z167), (2, .int x164), (1, .int r1), (0, .ref qe)]) hx hb dX3_findBeat_40 rfl hl (by decide) rfl (fun ls hl => ?_)
    refine lv_aload_n hx hb dX3_findBeat_41 rfl (lv_at hl 3 rfl) ?_
    refine va_get (D := D) (ci := 3) (v := .ref qe_places) (C := RX3) (T := TX3) (N := 12) hx hb hts hi3 hown hK hP 2 rfl rfl 6 (by decide) (hts (.fieldLink RX3 18 "OverHill$Guess" "places" "[I") (by decide +kernel)) (fun _ h9 => h9) rfl dX3_findBeat_42 ?_
    refine lv_iload_n hx hb dX3_findBeat_45 rfl (lv_at hl 0 rfl) ?_
    refine va_iald (D := D) hx hb hK hP 4 0 rfl rfl (tq_in rfl (by omega)) dX3_findBeat_46 ?_
    refine lv_topi (fun z168 ez168 => ?_)
    refine lv_iconst (v := (-1)) hx hb dX3_findBeat_47 (by decide) ?_
    refine lv_icmp_eq (tgt := 84) hx hb dX3_findBeat_48 (by decide) (fun hc => ?_) (fun hc => ?_)
    · have hq169 : z168.toInt = (-1) := tq_eq rfl (by decide) hc
      have hb170 := tq_lo z168
      obtain ⟨z171, ez171⟩ : ∃ z : Int32, z = x164 + 1 := ⟨_, rfl⟩
      have fz171 : z171.toInt = x164.toInt + 1 := by rw [ez171]; exact tq_add rfl (by decide) (by omega)
      refine lv_iinc (v := z171) (lv' := [(2, .int z171), (3, .int z167), (1, .int r1), (0, .ref qe)]) hx hb dX3_findBeat_84 hl (k := 1) rfl ez171.symm (by decide) rfl (fun ls hl => ?_)
      refine lv_goto (tgt := 28) hx hb dX3_findBeat_87 (by decide) ?_
      exact ih165 (g160, g161, x162, x163, z171) _ _ _ (show (80 - z171.toInt).toNat < (80 - x164.toInt).toNat by omega) ⟨h_x162, (show 0 ≤ z171.toInt ∧ z171.toInt ≤ 80 by omega), (show ve_gap.toInt ≤ z171.toInt by omega), ⟨hP, hD⟩, hS, lv_sub hl [0, 2, 3] rfl⟩
    · have hq169 : z168.toInt ≠ (-1) := tq_ne rfl (by decide) hc
      have hb172 := tq_lo z168
      refine lv_aload_n hx hb dX3_findBeat_51 rfl (lv_at hl 3 rfl) ?_
      refine lv_iload_n hx hb dX3_findBeat_52 rfl (lv_at hl 0 rfl) ?_
      refine lv_iload_n hx hb dX3_findBeat_53 rfl (lv_at hl 2 rfl) ?_
      refine ct_calli (D := D) (wr := []) (va_runV (As := [.int z167, .int r1]) (rest := []) ⟨hx, hb, hml, hown, hts⟩ (c_X3_mostAlike l D G cI cJ cB cZ cO qe ve_gap ve_length qe_round fe_round ve_impossible ve_firstUnlike qe_lastUnlike fe_lastUnlike qe_places fe_places qe_stepsIn fe_stepsIn qe_passed g161 qe_classes g160 x162 x163 z167 r1 h_ve_gap h_ve_length h_fe_round (by omega) H.size) (cwV 2 hts gX3_findBeat_X3_mostAlike rfl rfl rfl (by decide +kernel) ⟨Nat.le_of_ble_eq_true rfl, Nat.le_of_ble_eq_true rfl⟩) (ct_preV (T := ct_T cI cJ cB cZ cO) (ci := 3) (q0 := 2) hE hH hP hD hS hA [2, 0, 3, 4, 5, 6, 1] (by decide) rfl rfl rfl) rfl rfl hl.1 rfl (lv_room (Nat.le_of_ble_eq_true rfl)) dX3_findBeat_54 ⟨Nat.le_of_ble_eq_true rfl, Nat.le_of_ble_eq_true rfl⟩) hP hD hS hA [2, 0, 3, 4, 5, 6, 1] [] rfl rfl (by decide) (by decide) (fun r173 u H locs hw hP hD hS => ?_)
      obtain ⟨g174, rfl⟩ : ∃ z, z = u := ⟨_, rfl⟩
      obtain ⟨hP, hD⟩ : ct_B D A H [gu qe ve_gap ve_length qe_round ve_impossible ve_firstUnlike qe_lastUnlike qe_places qe_stepsIn qe_passed qe_classes x162 x163, (qe_round, .inl (cI, 12, .inl (fe_round))), (qe_lastUnlike, .inl (cI, 10, .inl (fe_lastUnlike))), (qe_places, .inl (cI, 200, .inl (fe_places))), (qe_stepsIn, .inl (cI, 60, .inl (fe_stepsIn))), (qe_passed, .inl (cI, 10, .inl (g161))), (qe_classes, .inl (cI, 6, .inl (g174)))] := ⟨hP, hD⟩
      have hz := hw
      have h_r173 : 0 ≤ r173.toInt := hz
      refine lv_istore (lv' := [(4, .int r173), (3, .int z167), (2, .int x164), (1, .int r1), (0, .ref qe)]) hx hb dX3_findBeat_57 hl (by decide) rfl (fun ls hl => ?_)
      refine lv_iload hx hb dX3_findBeat_59 (lv_at hl 0 rfl) ?_
      refine lv_aload_n hx hb dX3_findBeat_61 rfl (lv_at hl 4 rfl) ?_
      refine va_get (D := D) (ci := 3) (v := .int x163) (C := RX3) (T := TX3) (N := 12) hx hb hts hi3 hown hK hP 0 rfl rfl 11 (by decide) (hts (.fieldLink RX3 106 "OverHill$Guess" "bestLeft" "I") (by decide +kernel)) (fun _ h9 => h9) rfl dX3_findBeat_62 ?_
      refine lv_icmp_ge (tgt := 79) hx hb dX3_findBeat_65 (by decide) (fun hc => ?_) (fun hc => ?_)
      · have hq175 : x163.toInt ≤ r173.toInt := tq_le rfl rfl hc
        have hb176 := tq_lo r173
        have hb177 := tq_lo x163
        refine lv_aload_n hx hb dX3_findBeat_79 rfl (lv_at hl 4 rfl) ?_
        refine lv_iload_n hx hb dX3_findBeat_80 rfl (lv_at hl 1 rfl) ?_
        refine ct_callv (D := D) (wr := [(qe_round, .inl (cI, 12, .inl (fe_round))), (qe_classes, .inl (cI, 6, .inl (g174)))]) (va_runV (As := [.int z167]) (rest := []) ⟨hx, hb, hml, hown, hts⟩ (c_X3_pass l D G cI cJ cB cZ cO qe ve_gap ve_length qe_round ve_impossible ve_firstUnlike qe_lastUnlike fe_lastUnlike qe_places fe_places qe_stepsIn fe_stepsIn qe_passed g161 qe_classes x162 x163 z167 h_ve_gap h_ve_length (by omega) H.size) (cwV 1 hts gX3_findBeat_X3_pass rfl rfl rfl (by decide +kernel) ⟨Nat.le_of_ble_eq_true rfl, Nat.le_of_ble_eq_true rfl⟩) (ct_preV (T := ct_T cI cJ cB cZ cO) (ci := 3) (q0 := 0) hE hH hP hD hS hA [0, 2, 3, 4, 5] (by decide) rfl rfl rfl) rfl rfl hl.1 rfl (lv_room (Nat.le_of_ble_eq_true rfl)) dX3_findBeat_81 ⟨Nat.le_of_ble_eq_true rfl, Nat.le_of_ble_eq_true rfl⟩) hP hD hS hA [0, 2, 3, 4, 5] [1, 6] rfl rfl (by decide) (by decide) (fun u H locs hw hP hD hS => ?_)
        obtain ⟨g178, rfl⟩ : ∃ z, z = u := ⟨_, rfl⟩
        obtain ⟨hP, hD⟩ : ct_B D A H [(qe_round, .inl (cI, 12, .inl (fe_round))), (qe_classes, .inl (cI, 6, .inl (g174))), gu qe ve_gap ve_length qe_round ve_impossible ve_firstUnlike qe_lastUnlike qe_places qe_stepsIn qe_passed qe_classes x162 x163, (qe_lastUnlike, .inl (cI, 10, .inl (fe_lastUnlike))), (qe_places, .inl (cI, 200, .inl (fe_places))), (qe_stepsIn, .inl (cI, 60, .inl (fe_stepsIn))), (qe_passed, .inl (cI, 10, .inl (g178)))] := ⟨hP, hD⟩
        obtain ⟨z179, ez179⟩ : ∃ z : Int32, z = x164 + 1 := ⟨_, rfl⟩
        have fz179 : z179.toInt = x164.toInt + 1 := by rw [ez179]; exact tq_add rfl (by decide) (by omega)
        refine lv_iinc (v := z179) (lv' := [(2, .int z179), (4, .int r173), (3, .int z167), (1, .int r1), (0, .ref qe)]) hx hb dX3_findBeat_84 hl (k := 2) rfl ez179.symm (by decide) rfl (fun ls hl => ?_)
        refine lv_goto (tgt := 28) hx hb dX3_findBeat_87 (by decide) ?_
        exact ih165 (g174, g178, x162, x163, z179) _ _ _ (show (80 - z179.toInt).toNat < (80 - x164.toInt).toNat by omega) ⟨h_x162, (show 0 ≤ z179.toInt ∧ z179.toInt ≤ 80 by omega), (show ve_gap.toInt ≤ z179.toInt by omega), ⟨hP, hD⟩, hS, lv_sub hl [0, 3, 4] rfl⟩
      · have hq175 : r173.toInt < x163.toInt := tq_nle rfl rfl hc
        have hb180 := tq_lo r173
        have hb181 := tq_lo x163
        refine lv_aload_n hx hb dX3_findBeat_68 rfl (lv_at hl 4 rfl) ?_
        refine lv_iload hx hb dX3_findBeat_69 (lv_at hl 0 rfl) ?_
        refine va_put (D := D) (ci := 3) (v := .int r173) (ty := .int) (C := RX3) (T := TX3) (N := 12) hx hb hts hi3 tyX3 tyX3_ok nmX3 hown hK hP hD hS 0 rfl rfl 11 (by decide) (hts (.fieldLink RX3 106 "OverHill$Guess" "bestLeft" "I") (by decide +kernel)) (fun _ h9 => h9) rfl (by decide +kernel) rfl rfl (Nat.le_of_ble_eq_true rfl) dX3_findBeat_71 (fun H locs hP hD hS => ?_)
        obtain ⟨hP, hD⟩ : ct_B D A H [gu qe ve_gap ve_length qe_round ve_impossible ve_firstUnlike qe_lastUnlike qe_places qe_stepsIn qe_passed qe_classes x162 r173, (qe_round, .inl (cI, 12, .inl (fe_round))), (qe_lastUnlike, .inl (cI, 10, .inl (fe_lastUnlike))), (qe_places, .inl (cI, 200, .inl (fe_places))), (qe_stepsIn, .inl (cI, 60, .inl (fe_stepsIn))), (qe_passed, .inl (cI, 10, .inl (g161))), (qe_classes, .inl (cI, 6, .inl (g174)))] := ⟨hP, hD⟩
        refine lv_aload_n hx hb dX3_findBeat_74 rfl (lv_at hl 4 rfl) ?_
        refine lv_iload_n hx hb dX3_findBeat_75 rfl (lv_at hl 2 rfl) ?_
        refine va_put (D := D) (ci := 3) (v := .int x164) (ty := .int) (C := RX3) (T := TX3) (N := 12) hx hb hts hi3 tyX3 tyX3_ok nmX3 hown hK hP hD hS 0 rfl rfl 10 (by decide) (hts (.fieldLink RX3 103 "OverHill$Guess" "bestBeat" "I") (by decide +kernel)) (fun _ h9 => h9) rfl (by decide +kernel) rfl rfl (Nat.le_of_ble_eq_true rfl) dX3_findBeat_76 (fun H locs hP hD hS => ?_)
        obtain ⟨hP, hD⟩ : ct_B D A H [gu qe ve_gap ve_length qe_round ve_impossible ve_firstUnlike qe_lastUnlike qe_places qe_stepsIn qe_passed qe_classes x164 r173, (qe_round, .inl (cI, 12, .inl (fe_round))), (qe_lastUnlike, .inl (cI, 10, .inl (fe_lastUnlike))), (qe_places, .inl (cI, 200, .inl (fe_places))), (qe_stepsIn, .inl (cI, 60, .inl (fe_stepsIn))), (qe_passed, .inl (cI, 10, .inl (g161))), (qe_classes, .inl (cI, 6, .inl (g174)))] := ⟨hP, hD⟩
        refine lv_aload_n hx hb dX3_findBeat_79 rfl (lv_at hl 4 rfl) ?_
        refine lv_iload_n hx hb dX3_findBeat_80 rfl (lv_at hl 1 rfl) ?_
        refine ct_callv (D := D) (wr := [(qe_round, .inl (cI, 12, .inl (fe_round))), (qe_classes, .inl (cI, 6, .inl (g174)))]) (va_runV (As := [.int z167]) (rest := []) ⟨hx, hb, hml, hown, hts⟩ (c_X3_pass l D G cI cJ cB cZ cO qe ve_gap ve_length qe_round ve_impossible ve_firstUnlike qe_lastUnlike fe_lastUnlike qe_places fe_places qe_stepsIn fe_stepsIn qe_passed g161 qe_classes x164 r173 z167 h_ve_gap h_ve_length (by omega) H.size) (cwV 1 hts gX3_findBeat_X3_pass rfl rfl rfl (by decide +kernel) ⟨Nat.le_of_ble_eq_true rfl, Nat.le_of_ble_eq_true rfl⟩) (ct_preV (T := ct_T cI cJ cB cZ cO) (ci := 3) (q0 := 0) hE hH hP hD hS hA [0, 2, 3, 4, 5] (by decide) rfl rfl rfl) rfl rfl hl.1 rfl (lv_room (Nat.le_of_ble_eq_true rfl)) dX3_findBeat_81 ⟨Nat.le_of_ble_eq_true rfl, Nat.le_of_ble_eq_true rfl⟩) hP hD hS hA [0, 2, 3, 4, 5] [1, 6] rfl rfl (by decide) (by decide) (fun u H locs hw hP hD hS => ?_)
        obtain ⟨g182, rfl⟩ : ∃ z, z = u := ⟨_, rfl⟩
        obtain ⟨hP, hD⟩ : ct_B D A H [(qe_round, .inl (cI, 12, .inl (fe_round))), (qe_classes, .inl (cI, 6, .inl (g174))), gu qe ve_gap ve_length qe_round ve_impossible ve_firstUnlike qe_lastUnlike qe_places qe_stepsIn qe_passed qe_classes x164 r173, (qe_lastUnlike, .inl (cI, 10, .inl (fe_lastUnlike))), (qe_places, .inl (cI, 200, .inl (fe_places))), (qe_stepsIn, .inl (cI, 60, .inl (fe_stepsIn))), (qe_passed, .inl (cI, 10, .inl (g182)))] := ⟨hP, hD⟩
        obtain ⟨z183, ez183⟩ : ∃ z : Int32, z = x164 + 1 := ⟨_, rfl⟩
        have fz183 : z183.toInt = x164.toInt + 1 := by rw [ez183]; exact tq_add rfl (by decide) (by omega)
        refine lv_iinc (v := z183) (lv' := [(2, .int z183), (4, .int r173), (3, .int z167), (1, .int r1), (0, .ref qe)]) hx hb dX3_findBeat_84 hl (k := 2) rfl ez183.symm (by decide) rfl (fun ls hl => ?_)
        refine lv_goto (tgt := 28) hx hb dX3_findBeat_87 (by decide) ?_
        exact ih165 (g174, g182, x164, r173, z183) _ _ _ (show (80 - z183.toInt).toNat < (80 - x164.toInt).toNat by omega) ⟨(show (-1) ≤ x164.toInt ∧ x164.toInt ≤ 79 by omega), (show 0 ≤ z183.toInt ∧ z183.toInt ≤ 80 by omega), (show ve_gap.toInt ≤ z183.toInt by omega), ⟨hP, hD⟩, hS, lv_sub hl [0, 3, 4] rfl⟩
