abbrev w_c_X6_periodOf (cI cJ cB cZ cO : ClassId) (qd : Nat) (vd_gap : Int32) (vd_odds : Int32) (vd_rain : Int32) (vd_lines : Int32) (qd_steps : Nat) (qd_lengths : Nat) (fd_lengths : Nat → Int32) (qd_starts : Nat) (qd_met : Nat) (qd_stumbles : Nat) (vd_stumbleCount : Int32) (qd_muds : Nat) (qd_cells : Nat) (vd_cellCount : Int32) (qd_tunes : Nat) (vd_tuneCount : Int32) (qd_changes : Nat) (vd_changeCount : Int32) : va_W := [dn qd vd_gap vd_odds vd_rain vd_lines qd_steps qd_lengths qd_starts qd_met qd_stumbles vd_stumbleCount qd_muds qd_cells vd_cellCount qd_tunes vd_tuneCount qd_changes vd_changeCount, (qd_lengths, .inl (cI, 2, .inl (fd_lengths)))]
set_option maxHeartbeats 4000000 in
set_option maxRecDepth 100000 in
/-- X6 periodOf -/
theorem c_X6_periodOf (l : Launch) (D : va_G) (G : ct_G) (cI cJ cB cZ cO : ClassId) (qd : Nat) (vd_gap : Int32) (vd_odds : Int32) (vd_rain : Int32) (vd_lines : Int32) (qd_steps : Nat) (qd_lengths : Nat) (fd_lengths : Nat → Int32) (qd_starts : Nat) (qd_met : Nat) (qd_stumbles : Nat) (vd_stumbleCount : Int32) (qd_muds : Nat) (qd_cells : Nat) (vd_cellCount : Int32) (qd_tunes : Nat) (vd_tuneCount : Int32) (qd_changes : Nat) (vd_changeCount : Int32) (h_vd_gap : 0 ≤ vd_gap.toInt ∧ vd_gap.toInt ≤ 20) (h_fd_lengths : ar_ok [0] [12] fd_lengths) (h_vd_stumbleCount : 0 ≤ vd_stumbleCount.toInt ∧ vd_stumbleCount.toInt ≤ 8) (h_vd_cellCount : 0 ≤ vd_cellCount.toInt ∧ vd_cellCount.toInt ≤ 12) (h_vd_tuneCount : 0 ≤ vd_tuneCount.toInt ∧ vd_tuneCount.toInt ≤ 5) (h_vd_changeCount : 0 ≤ vd_changeCount.toInt ∧ vd_changeCount.toInt ≤ 40) (sz : Nat) : Met l yX6_periodOf wsX6_periodOf ({ frames := 2, cells := 0, slots := 0, locals := 55 }) (va_Pc [.ref qd] (ct_P D (ct_T cI cJ cB cZ cO) G (w_c_X6_periodOf cI cJ cB cZ cO qd vd_gap vd_odds vd_rain vd_lines qd_steps qd_lengths fd_lengths qd_starts qd_met qd_stumbles vd_stumbleCount qd_muds qd_cells vd_cellCount qd_tunes vd_tuneCount qd_changes vd_changeCount) sz)) (va_Qi (fun (rz : Int32) (u : Unit) => True) (fun (u : Unit) t => ct_Q D (va_A (w_c_X6_periodOf cI cJ cB cZ cO qd vd_gap vd_odds vd_rain vd_lines qd_steps qd_lengths fd_lengths qd_starts qd_met qd_stumbles vd_stumbleCount qd_muds qd_cells vd_cellCount qd_tunes vd_tuneCount qd_changes vd_changeCount) sz) [dn qd vd_gap vd_odds vd_rain vd_lines qd_steps qd_lengths qd_starts qd_met qd_stumbles vd_stumbleCount qd_muds qd_cells vd_cellCount qd_tunes vd_tuneCount qd_changes vd_changeCount, (qd_lengths, .inl (cI, 2, .inl (fd_lengths)))] t) (va_A (w_c_X6_periodOf cI cJ cB cZ cO qd vd_gap vd_odds vd_rain vd_lines qd_steps qd_lengths fd_lengths qd_starts qd_met qd_stumbles vd_stumbleCount qd_muds qd_cells vd_cellCount qd_tunes vd_tuneCount qd_changes vd_changeCount) sz)) 0 0 (va_A (w_c_X6_periodOf cI cJ cB cZ cO qd vd_gap vd_odds vd_rain vd_lines qd_steps qd_lengths fd_lengths qd_starts qd_met qd_stumbles vd_stumbleCount qd_muds qd_cells vd_cellCount qd_tunes vd_tuneCount qd_changes vd_changeCount) sz) := by
  refine Met.ofW (cc := cX6_periodOf) (maxL := 1) (ret := (some .int)) (by decide) rfl ?_
  intro p e s m args below meth c s₁ B hml hv
  obtain ⟨rfl, hsz, hP, hE, hD0, hH⟩ := hv
  have hx := B.exec
  have hb := B.bytes
  have hr := B.returns
  have hts := atoms_spec (ws := wsX6_periodOf) B.pre
  have hown : s.vm.findClass RX6 = some m.cls := findClass_of_methodNamed B.named
  have hlocks := B.notSynchronized
  have hK := hE.1
  have hi0 : ∀ w ∈ u_ws RX0 TX0 17, w ∈ wsX6_periodOf := fun w h => List.mem_cons_of_mem _ (List.mem_append_right _ h)
  subst hsz
  have hD := hD0.self (sz := s.heap.size)
  generalize hAe : va_A (w_c_X6_periodOf cI cJ cB cZ cO qd vd_gap vd_odds vd_rain vd_lines qd_steps qd_lengths fd_lengths qd_starts qd_met qd_stumbles vd_stumbleCount qd_muds qd_cells vd_cellCount qd_tunes vd_tuneCount qd_changes vd_changeCount) s.heap.size = A at hD hH ⊢
  have hA : ∀ q : Nat, s.heap.size ≤ q → A q := fun q h => by rw [← hAe]; exact Or.inr h
  have hS : va_S A s.heap s.heap [] := va_S.rf
  obtain ⟨hP, hD⟩ : ct_B D A s.heap [dn qd vd_gap vd_odds vd_rain vd_lines qd_steps qd_lengths qd_starts qd_met qd_stumbles vd_stumbleCount qd_muds qd_cells vd_cellCount qd_tunes vd_tuneCount qd_changes vd_changeCount, (qd_lengths, .inl (cI, 2, .inl (fd_lengths)))] := ⟨hP, hD⟩
  have hl := lv_entry ([.ref qd]) (n := 1) (Nat.le_of_ble_eq_true rfl)
  rw [lg_entry_eq]
  generalize (lg_sl ([.ref qd]) ++ List.replicate (1 - (lg_sl ([.ref qd])).length) Slot.unset).toArray = ls at hl ⊢
  have hl : lv_has ls 1 [(0, .ref qd)] := hl
  obtain ⟨H, hHe⟩ : ∃ H : Heap, H = s.heap := ⟨_, rfl⟩
  rw [← hHe] at hP
  have hS : va_S A s.heap H [] := by rw [hHe]; exact va_S.rf
  refine ct_start hHe ?_
  refine lv_aload_n hx hb dX6_periodOf_0 rfl (lv_at hl 0 rfl) ?_
  refine va_get (D := D) (ci := 0) (v := .ref qd_lengths) (C := RX0) (T := TX0) (N := 17) hx hb hts hi0 hown hK hP 0 rfl rfl 5 (by decide) (hts (.fieldLink RX6 15 "OverHill$Dance" "lengths" "[I") (by decide +kernel)) (fun _ h9 => h9) rfl dX6_periodOf_1 ?_
  refine lv_iconst (v := 0) hx hb dX6_periodOf_4 (by decide) ?_
  refine va_iald (D := D) hx hb hK hP 1 0 rfl rfl (tq_in (a := 0) (by decide) (by omega)) dX6_periodOf_5 ?_
  refine lv_topi (fun z1 ez1 => ?_)
  have fz1 : 0 ≤ z1.toInt ∧ z1.toInt ≤ 12 := by rw [ez1]; exact ar_get h_fd_lengths (0 : Int32) 0 (by decide) (by decide) rfl
  refine lv_i2l (v := _) hx hb dX6_periodOf_6 rfl ?_
  refine lv_topl (fun z2 ez2 => ?_)
  have fz2 : z2.toInt = z1.toInt := by rw [ez2]; exact tl_i rfl
  refine lv_aload_n hx hb dX6_periodOf_7 rfl (lv_at hl 0 rfl) ?_
  refine va_get (D := D) (ci := 0) (v := .ref qd_lengths) (C := RX0) (T := TX0) (N := 17) hx hb hts hi0 hown hK hP 0 rfl rfl 5 (by decide) (hts (.fieldLink RX6 15 "OverHill$Dance" "lengths" "[I") (by decide +kernel)) (fun _ h9 => h9) rfl dX6_periodOf_8 ?_
  refine lv_iconst (v := 1) hx hb dX6_periodOf_11 (by decide) ?_
  refine va_iald (D := D) hx hb hK hP 1 0 rfl rfl (tq_in (a := 1) (by decide) (by omega)) dX6_periodOf_12 ?_
  refine lv_topi (fun z3 ez3 => ?_)
  have fz3 : 0 ≤ z3.toInt ∧ z3.toInt ≤ 12 := by rw [ez3]; exact ar_get h_fd_lengths (1 : Int32) 0 (by decide) (by decide) rfl
  refine lv_i2l (v := _) hx hb dX6_periodOf_13 rfl ?_
  refine lv_topl (fun z4 ez4 => ?_)
  have fz4 : z4.toInt = z3.toInt := by rw [ez4]; exact tl_i rfl
  refine ct_calll (D := D) (wr := [dn qd vd_gap vd_odds vd_rain vd_lines qd_steps qd_lengths qd_starts qd_met qd_stumbles vd_stumbleCount qd_muds qd_cells vd_cellCount qd_tunes vd_tuneCount qd_changes vd_changeCount, (qd_lengths, .inl (cI, 2, .inl (fd_lengths)))]) (va_runSN (As := [.long z2, .long z4]) (rest := []) ⟨hx, hb, hml, hown, hts⟩ (c_X11_commonMultiple l D G cI cJ cB cZ cO z2 z4  H.size) ⟨va_cnB 2 hts gX6_periodOf_X11_commonMultiple_n20 rfl rfl rfl (hE.2.1 (RX6, 20, yX11_commonMultiple, "OverHill") (List.mem_of_getElem? (i := 13) rfl)) (hts (.initialized RX11) (by decide +kernel)) (by decide +kernel) ⟨Nat.le_of_ble_eq_true rfl, Nat.le_of_ble_eq_true rfl⟩, (hts (.static yX11_commonMultiple) (by decide +kernel)), trivial⟩ (ct_preS (T := ct_T cI cJ cB cZ cO) hE hH hP hD hS hA [] (by decide) rfl) rfl rfl hl.1 rfl (lv_room (Nat.le_of_ble_eq_true rfl)) dX6_periodOf_14 ⟨Nat.le_of_ble_eq_true rfl, Nat.le_of_ble_eq_true rfl⟩) hP hD hS hA [] [0, 1] rfl rfl (by decide) (by decide) (fun r5 u H locs hw hP hD hS => ?_)
  obtain ⟨hP, hD⟩ : ct_B D A H [dn qd vd_gap vd_odds vd_rain vd_lines qd_steps qd_lengths qd_starts qd_met qd_stumbles vd_stumbleCount qd_muds qd_cells vd_cellCount qd_tunes vd_tuneCount qd_changes vd_changeCount, (qd_lengths, .inl (cI, 2, .inl (fd_lengths)))] := ⟨hP, hD⟩
  refine lv_l2i (v := _) hx hb dX6_periodOf_17 rfl ?_
  refine lv_topi (fun z6 ez6 => ?_)
  obtain ⟨hP9, hD9⟩ : ct_B D A H [dn qd vd_gap vd_odds vd_rain vd_lines qd_steps qd_lengths qd_starts qd_met qd_stumbles vd_stumbleCount qd_muds qd_cells vd_cellCount qd_tunes vd_tuneCount qd_changes vd_changeCount, (qd_lengths, .inl (cI, 2, .inl (fd_lengths)))] := ⟨hP.sub [0, 1] rfl, hD.sub [0, 1] (by decide) rfl⟩
  exact W.iret (v := z6) hx hb hr (fun t ht hW => ⟨⟨z6, (), rfl, trivial, by rw [ht]; exact hP9, hD9⟩, hS.F ht⟩) hS.2.2 dX6_periodOf_18
abbrev w_c_X6_placeIn (cI cJ cB cZ cO : ClassId) (qd : Nat) (vd_gap : Int32) (vd_odds : Int32) (vd_rain : Int32) (vd_lines : Int32) (qd_steps : Nat) (qd_lengths : Nat) (fd_lengths : Nat → Int32) (qd_starts : Nat) (fd_starts : Nat → Int32) (qd_met : Nat) (qd_stumbles : Nat) (vd_stumbleCount : Int32) (qd_muds : Nat) (qd_cells : Nat) (vd_cellCount : Int32) (qd_tunes : Nat) (vd_tuneCount : Int32) (qd_changes : Nat) (vd_changeCount : Int32) : va_W := [dn qd vd_gap vd_odds vd_rain vd_lines qd_steps qd_lengths qd_starts qd_met qd_stumbles vd_stumbleCount qd_muds qd_cells vd_cellCount qd_tunes vd_tuneCount qd_changes vd_changeCount, (qd_lengths, .inl (cI, 2, .inl (fd_lengths))), (qd_starts, .inl (cI, 2, .inl (fd_starts)))]
set_option maxHeartbeats 4000000 in
set_option maxRecDepth 100000 in
/-- X6 placeIn -/
theorem c_X6_placeIn (l : Launch) (D : va_G) (G : ct_G) (cI cJ cB cZ cO : ClassId) (qd : Nat) (vd_gap : Int32) (vd_odds : Int32) (vd_rain : Int32) (vd_lines : Int32) (qd_steps : Nat) (qd_lengths : Nat) (fd_lengths : Nat → Int32) (qd_starts : Nat) (fd_starts : Nat → Int32) (qd_met : Nat) (qd_stumbles : Nat) (vd_stumbleCount : Int32) (qd_muds : Nat) (qd_cells : Nat) (vd_cellCount : Int32) (qd_tunes : Nat) (vd_tuneCount : Int32) (qd_changes : Nat) (vd_changeCount : Int32) (a2 : Int32) (a3 : Int32) (h_vd_gap : 0 ≤ vd_gap.toInt ∧ vd_gap.toInt ≤ 20) (h_fd_lengths : ar_ok [0] [12] fd_lengths) (h_fd_starts : ar_ok [0] [11] fd_starts) (h_vd_stumbleCount : 0 ≤ vd_stumbleCount.toInt ∧ vd_stumbleCount.toInt ≤ 8) (h_vd_cellCount : 0 ≤ vd_cellCount.toInt ∧ vd_cellCount.toInt ≤ 12) (h_vd_tuneCount : 0 ≤ vd_tuneCount.toInt ∧ vd_tuneCount.toInt ≤ 5) (h_vd_changeCount : 0 ≤ vd_changeCount.toInt ∧ vd_changeCount.toInt ≤ 40) (h_a2 : 0 ≤ a2.toInt ∧ a2.toInt ≤ 1) (sz : Nat) : Met l yX6_placeIn wsX6_placeIn ({ frames := 2, cells := 0, slots := 0, locals := 43 }) (va_Pc [.ref qd, .int a2, .int a3] (ct_P D (ct_T cI cJ cB cZ cO) G (w_c_X6_placeIn cI cJ cB cZ cO qd vd_gap vd_odds vd_rain vd_lines qd_steps qd_lengths fd_lengths qd_starts fd_starts qd_met qd_stumbles vd_stumbleCount qd_muds qd_cells vd_cellCount qd_tunes vd_tuneCount qd_changes vd_changeCount) sz)) (va_Qi (fun (rz : Int32) (u : Unit) => (0 ≤ rz.toInt ∧ rz.toInt ≤ 11)) (fun (u : Unit) t => ct_Q D (va_A (w_c_X6_placeIn cI cJ cB cZ cO qd vd_gap vd_odds vd_rain vd_lines qd_steps qd_lengths fd_lengths qd_starts fd_starts qd_met qd_stumbles vd_stumbleCount qd_muds qd_cells vd_cellCount qd_tunes vd_tuneCount qd_changes vd_changeCount) sz) [dn qd vd_gap vd_odds vd_rain vd_lines qd_steps qd_lengths qd_starts qd_met qd_stumbles vd_stumbleCount qd_muds qd_cells vd_cellCount qd_tunes vd_tuneCount qd_changes vd_changeCount, (qd_lengths, .inl (cI, 2, .inl (fd_lengths))), (qd_starts, .inl (cI, 2, .inl (fd_starts)))] t) (va_A (w_c_X6_placeIn cI cJ cB cZ cO qd vd_gap vd_odds vd_rain vd_lines qd_steps qd_lengths fd_lengths qd_starts fd_starts qd_met qd_stumbles vd_stumbleCount qd_muds qd_cells vd_cellCount qd_tunes vd_tuneCount qd_changes vd_changeCount) sz)) 0 0 (va_A (w_c_X6_placeIn cI cJ cB cZ cO qd vd_gap vd_odds vd_rain vd_lines qd_steps qd_lengths fd_lengths qd_starts fd_starts qd_met qd_stumbles vd_stumbleCount qd_muds qd_cells vd_cellCount qd_tunes vd_tuneCount qd_changes vd_changeCount) sz) := by
  refine Met.ofW (cc := cX6_placeIn) (maxL := 3) (ret := (some .int)) (by decide) rfl ?_
  intro p e s m args below meth c s₁ B hml hv
  obtain ⟨rfl, hsz, hP, hE, hD0, hH⟩ := hv
  have hx := B.exec
  have hb := B.bytes
  have hr := B.returns
  have hts := atoms_spec (ws := wsX6_placeIn) B.pre
  have hown : s.vm.findClass RX6 = some m.cls := findClass_of_methodNamed B.named
  have hlocks := B.notSynchronized
  have hK := hE.1
  have hi0 : ∀ w ∈ u_ws RX0 TX0 17, w ∈ wsX6_placeIn := fun w h => List.mem_cons_of_mem _ (List.mem_append_right _ h)
  subst hsz
  have hD := hD0.self (sz := s.heap.size)
  generalize hAe : va_A (w_c_X6_placeIn cI cJ cB cZ cO qd vd_gap vd_odds vd_rain vd_lines qd_steps qd_lengths fd_lengths qd_starts fd_starts qd_met qd_stumbles vd_stumbleCount qd_muds qd_cells vd_cellCount qd_tunes vd_tuneCount qd_changes vd_changeCount) s.heap.size = A at hD hH ⊢
  have hA : ∀ q : Nat, s.heap.size ≤ q → A q := fun q h => by rw [← hAe]; exact Or.inr h
  have hS : va_S A s.heap s.heap [] := va_S.rf
  obtain ⟨hP, hD⟩ : ct_B D A s.heap [dn qd vd_gap vd_odds vd_rain vd_lines qd_steps qd_lengths qd_starts qd_met qd_stumbles vd_stumbleCount qd_muds qd_cells vd_cellCount qd_tunes vd_tuneCount qd_changes vd_changeCount, (qd_lengths, .inl (cI, 2, .inl (fd_lengths))), (qd_starts, .inl (cI, 2, .inl (fd_starts)))] := ⟨hP, hD⟩
  have hl := lv_entry ([.ref qd, .int a2, .int a3]) (n := 3) (Nat.le_of_ble_eq_true rfl)
  rw [lg_entry_eq]
  generalize (lg_sl ([.ref qd, .int a2, .int a3]) ++ List.replicate (3 - (lg_sl ([.ref qd, .int a2, .int a3])).length) Slot.unset).toArray = ls at hl ⊢
  have hl : lv_has ls 3 [(0, .ref qd), (1, .int a2), (2, .int a3)] := hl
  obtain ⟨H, hHe⟩ : ∃ H : Heap, H = s.heap := ⟨_, rfl⟩
  rw [← hHe] at hP
  have hS : va_S A s.heap H [] := by rw [hHe]; exact va_S.rf
  refine ct_start hHe ?_
  refine lv_aload_n hx hb dX6_placeIn_0 rfl (lv_at hl 0 rfl) ?_
  refine va_get (D := D) (ci := 0) (v := .ref qd_starts) (C := RX0) (T := TX0) (N := 17) hx hb hts hi0 hown hK hP 0 rfl rfl 6 (by decide) (hts (.fieldLink RX6 75 "OverHill$Dance" "starts" "[I") (by decide +kernel)) (fun _ h9 => h9) rfl dX6_placeIn_1 ?_
  refine lv_iload_n hx hb dX6_placeIn_4 rfl (lv_at hl 1 rfl) ?_
  refine va_iald (D := D) hx hb hK hP 2 0 rfl rfl (tq_in rfl (by omega)) dX6_placeIn_5 ?_
  refine lv_topi (fun z1 ez1 => ?_)
  have fz1 : 0 ≤ z1.toInt ∧ z1.toInt ≤ 11 := by rw [ez1]; exact ar_get h_fd_starts a2 0 (by omega) (show a2.toInt % 1 = 0 by omega) rfl
  refine lv_iload_n hx hb dX6_placeIn_6 rfl (lv_at hl 2 rfl) ?_
  refine lv_iadd hx hb dX6_placeIn_7 ?_
  refine lv_topi (fun z2 ez2 => ?_)
  refine lv_aload_n hx hb dX6_placeIn_8 rfl (lv_at hl 0 rfl) ?_
  refine va_get (D := D) (ci := 0) (v := .ref qd_lengths) (C := RX0) (T := TX0) (N := 17) hx hb hts hi0 hown hK hP 0 rfl rfl 5 (by decide) (hts (.fieldLink RX6 15 "OverHill$Dance" "lengths" "[I") (by decide +kernel)) (fun _ h9 => h9) rfl dX6_placeIn_9 ?_
  refine lv_iload_n hx hb dX6_placeIn_12 rfl (lv_at hl 1 rfl) ?_
  refine va_iald (D := D) hx hb hK hP 1 0 rfl rfl (tq_in rfl (by omega)) dX6_placeIn_13 ?_
  refine lv_topi (fun z3 ez3 => ?_)
  have fz3 : 0 ≤ z3.toInt ∧ z3.toInt ≤ 12 := by rw [ez3]; exact ar_get h_fd_lengths a2 0 (by omega) (show a2.toInt % 1 = 0 by omega) rfl
  refine ct_calli (D := D) (wr := [dn qd vd_gap vd_odds vd_rain vd_lines qd_steps qd_lengths qd_starts qd_met qd_stumbles vd_stumbleCount qd_muds qd_cells vd_cellCount qd_tunes vd_tuneCount qd_changes vd_changeCount, (qd_lengths, .inl (cI, 2, .inl (fd_lengths))), (qd_starts, .inl (cI, 2, .inl (fd_starts)))]) (va_runSN (As := [.int z2, .int z3]) (rest := []) ⟨hx, hb, hml, hown, hts⟩ (c_X11_wrap l D G cI cJ cB cZ cO z2 z3  H.size) ⟨va_cnB 2 hts gX6_placeIn_X11_wrap_n78 rfl rfl rfl (hE.2.1 (RX6, 78, yX11_wrap, "OverHill") (List.mem_of_getElem? (i := 14) rfl)) (hts (.initialized RX11) (by decide +kernel)) (by decide +kernel) ⟨Nat.le_of_ble_eq_true rfl, Nat.le_of_ble_eq_true rfl⟩, (hts (.static yX11_wrap) (by decide +kernel)), trivial⟩ (ct_preS (T := ct_T cI cJ cB cZ cO) hE hH hP hD hS hA [] (by decide) rfl) rfl rfl hl.1 rfl (lv_room (Nat.le_of_ble_eq_true rfl)) dX6_placeIn_14 ⟨Nat.le_of_ble_eq_true rfl, Nat.le_of_ble_eq_true rfl⟩) hP hD hS hA [] [0, 1, 2] rfl rfl (by decide) (by decide) (fun r4 u H locs hw hP hD hS => ?_)
  obtain ⟨hP, hD⟩ : ct_B D A H [dn qd vd_gap vd_odds vd_rain vd_lines qd_steps qd_lengths qd_starts qd_met qd_stumbles vd_stumbleCount qd_muds qd_cells vd_cellCount qd_tunes vd_tuneCount qd_changes vd_changeCount, (qd_lengths, .inl (cI, 2, .inl (fd_lengths))), (qd_starts, .inl (cI, 2, .inl (fd_starts)))] := ⟨hP, hD⟩
  obtain ⟨hz, hp0⟩ := hw
  have hp_5 : wr_ok z2.toInt z3.toInt r4.toInt := hp0
  have h_r4 : 0 ≤ r4.toInt ∧ (r4.toInt < z3.toInt ∨ r4.toInt = 0) := hz
  obtain ⟨hP9, hD9⟩ : ct_B D A H [dn qd vd_gap vd_odds vd_rain vd_lines qd_steps qd_lengths qd_starts qd_met qd_stumbles vd_stumbleCount qd_muds qd_cells vd_cellCount qd_tunes vd_tuneCount qd_changes vd_changeCount, (qd_lengths, .inl (cI, 2, .inl (fd_lengths))), (qd_starts, .inl (cI, 2, .inl (fd_starts)))] := ⟨hP.sub [0, 1, 2] rfl, hD.sub [0, 1, 2] (by decide) rfl⟩
  exact W.iret (v := r4) hx hb hr (fun t ht hW => ⟨⟨r4, (), rfl, (show 0 ≤ r4.toInt ∧ r4.toInt ≤ 11 by omega), by rw [ht]; exact hP9, hD9⟩, hS.F ht⟩) hS.2.2 dX6_placeIn_17
abbrev w_c_X6_stepIn (cI cJ cB cZ cO : ClassId) (qd : Nat) (vd_gap : Int32) (vd_odds : Int32) (vd_rain : Int32) (vd_lines : Int32) (qd_steps : Nat) (fd_steps : Nat → Int32) (qd_lengths : Nat) (fd_lengths : Nat → Int32) (qd_starts : Nat) (fd_starts : Nat → Int32) (qd_met : Nat) (qd_stumbles : Nat) (vd_stumbleCount : Int32) (qd_muds : Nat) (qd_cells : Nat) (vd_cellCount : Int32) (qd_tunes : Nat) (vd_tuneCount : Int32) (qd_changes : Nat) (vd_changeCount : Int32) : va_W := [dn qd vd_gap vd_odds vd_rain vd_lines qd_steps qd_lengths qd_starts qd_met qd_stumbles vd_stumbleCount qd_muds qd_cells vd_cellCount qd_tunes vd_tuneCount qd_changes vd_changeCount, (qd_steps, .inl (cI, 24, .inl (fd_steps))), (qd_lengths, .inl (cI, 2, .inl (fd_lengths))), (qd_starts, .inl (cI, 2, .inl (fd_starts)))]
set_option maxHeartbeats 4000000 in
set_option maxRecDepth 100000 in
/-- X6 stepIn -/
theorem c_X6_stepIn (l : Launch) (D : va_G) (G : ct_G) (cI cJ cB cZ cO : ClassId) (qd : Nat) (vd_gap : Int32) (vd_odds : Int32) (vd_rain : Int32) (vd_lines : Int32) (qd_steps : Nat) (fd_steps : Nat → Int32) (qd_lengths : Nat) (fd_lengths : Nat → Int32) (qd_starts : Nat) (fd_starts : Nat → Int32) (qd_met : Nat) (qd_stumbles : Nat) (vd_stumbleCount : Int32) (qd_muds : Nat) (qd_cells : Nat) (vd_cellCount : Int32) (qd_tunes : Nat) (vd_tuneCount : Int32) (qd_changes : Nat) (vd_changeCount : Int32) (a2 : Int32) (a3 : Int32) (h_vd_gap : 0 ≤ vd_gap.toInt ∧ vd_gap.toInt ≤ 20) (h_fd_steps : ar_ok [0] [5] fd_steps) (h_fd_lengths : ar_ok [0] [12] fd_lengths) (h_fd_starts : ar_ok [0] [11] fd_starts) (h_vd_stumbleCount : 0 ≤ vd_stumbleCount.toInt ∧ vd_stumbleCount.toInt ≤ 8) (h_vd_cellCount : 0 ≤ vd_cellCount.toInt ∧ vd_cellCount.toInt ≤ 12) (h_vd_tuneCount : 0 ≤ vd_tuneCount.toInt ∧ vd_tuneCount.toInt ≤ 5) (h_vd_changeCount : 0 ≤ vd_changeCount.toInt ∧ vd_changeCount.toInt ≤ 40) (h_a2 : 0 ≤ a2.toInt ∧ a2.toInt ≤ 1) (sz : Nat) : Met l yX6_stepIn wsX6_stepIn ({ frames := 3, cells := 0, slots := 0, locals := 65 }) (va_Pc [.ref qd, .int a2, .int a3] (ct_P D (ct_T cI cJ cB cZ cO) G (w_c_X6_stepIn cI cJ cB cZ cO qd vd_gap vd_odds vd_rain vd_lines qd_steps fd_steps qd_lengths fd_lengths qd_starts fd_starts qd_met qd_stumbles vd_stumbleCount qd_muds qd_cells vd_cellCount qd_tunes vd_tuneCount qd_changes vd_changeCount) sz)) (va_Qi (fun (rz : Int32) (u : Unit) => (0 ≤ rz.toInt ∧ rz.toInt ≤ 5)) (fun (u : Unit) t => ct_Q D (va_A (w_c_X6_stepIn cI cJ cB cZ cO qd vd_gap vd_odds vd_rain vd_lines qd_steps fd_steps qd_lengths fd_lengths qd_starts fd_starts qd_met qd_stumbles vd_stumbleCount qd_muds qd_cells vd_cellCount qd_tunes vd_tuneCount qd_changes vd_changeCount) sz) [dn qd vd_gap vd_odds vd_rain vd_lines qd_steps qd_lengths qd_starts qd_met qd_stumbles vd_stumbleCount qd_muds qd_cells vd_cellCount qd_tunes vd_tuneCount qd_changes vd_changeCount, (qd_steps, .inl (cI, 24, .inl (fd_steps))), (qd_lengths, .inl (cI, 2, .inl (fd_lengths))), (qd_starts, .inl (cI, 2, .inl (fd_starts)))] t) (va_A (w_c_X6_stepIn cI cJ cB cZ cO qd vd_gap vd_odds vd_rain vd_lines qd_steps fd_steps qd_lengths fd_lengths qd_starts fd_starts qd_met qd_stumbles vd_stumbleCount qd_muds qd_cells vd_cellCount qd_tunes vd_tuneCount qd_changes vd_changeCount) sz)) 0 0 (va_A (w_c_X6_stepIn cI cJ cB cZ cO qd vd_gap vd_odds vd_rain vd_lines qd_steps fd_steps qd_lengths fd_lengths qd_starts fd_starts qd_met qd_stumbles vd_stumbleCount qd_muds qd_cells vd_cellCount qd_tunes vd_tuneCount qd_changes vd_changeCount) sz) := by
  refine Met.ofW (cc := cX6_stepIn) (maxL := 3) (ret := (some .int)) (by decide) rfl ?_
  intro p e s m args below meth c s₁ B hml hv
  obtain ⟨rfl, hsz, hP, hE, hD0, hH⟩ := hv
  have hx := B.exec
  have hb := B.bytes
  have hr := B.returns
  have hts := atoms_spec (ws := wsX6_stepIn) B.pre
  have hown : s.vm.findClass RX6 = some m.cls := findClass_of_methodNamed B.named
  have hlocks := B.notSynchronized
  have hK := hE.1
  subst hsz
  have hD := hD0.self (sz := s.heap.size)
  generalize hAe : va_A (w_c_X6_stepIn cI cJ cB cZ cO qd vd_gap vd_odds vd_rain vd_lines qd_steps fd_steps qd_lengths fd_lengths qd_starts fd_starts qd_met qd_stumbles vd_stumbleCount qd_muds qd_cells vd_cellCount qd_tunes vd_tuneCount qd_changes vd_changeCount) s.heap.size = A at hD hH ⊢
  have hA : ∀ q : Nat, s.heap.size ≤ q → A q := fun q h => by rw [← hAe]; exact Or.inr h
  have hS : va_S A s.heap s.heap [] := va_S.rf
  obtain ⟨hP, hD⟩ : ct_B D A s.heap [dn qd vd_gap vd_odds vd_rain vd_lines qd_steps qd_lengths qd_starts qd_met qd_stumbles vd_stumbleCount qd_muds qd_cells vd_cellCount qd_tunes vd_tuneCount qd_changes vd_changeCount, (qd_steps, .inl (cI, 24, .inl (fd_steps))), (qd_lengths, .inl (cI, 2, .inl (fd_lengths))), (qd_starts, .inl (cI, 2, .inl (fd_starts)))] := ⟨hP, hD⟩
  have hl := lv_entry ([.ref qd, .int a2, .int a3]) (n := 3) (Nat.le_of_ble_eq_true rfl)
  rw [lg_entry_eq]
  generalize (lg_sl ([.ref qd, .int a2, .int a3]) ++ List.replicate (3 - (lg_sl ([.ref qd, .int a2, .int a3])).length) Slot.unset).toArray = ls at hl ⊢
  have hl : lv_has ls 3 [(0, .ref qd), (1, .int a2), (2, .int a3)] := hl
  obtain ⟨H, hHe⟩ : ∃ H : Heap, H = s.heap := ⟨_, rfl⟩
  rw [← hHe] at hP
  have hS : va_S A s.heap H [] := by rw [hHe]; exact va_S.rf
  refine ct_start hHe ?_
  refine lv_aload_n hx hb dX6_stepIn_0 rfl (lv_at hl 0 rfl) ?_
  refine lv_iload_n hx hb dX6_stepIn_1 rfl (lv_at hl 1 rfl) ?_
  refine lv_aload_n hx hb dX6_stepIn_2 rfl (lv_at hl 0 rfl) ?_
  refine lv_iload_n hx hb dX6_stepIn_3 rfl (lv_at hl 1 rfl) ?_
  refine lv_iload_n hx hb dX6_stepIn_4 rfl (lv_at hl 2 rfl) ?_
  refine ct_calli (D := D) (wr := [(qd_steps, .inl (cI, 24, .inl (fd_steps)))]) (va_runS (As := [.ref qd, .int a2, .int a3]) (rest := [.int a2, .ref qd]) ⟨hx, hb, hml, hown, hts⟩ (c_X6_placeIn l D G cI cJ cB cZ cO qd vd_gap vd_odds vd_rain vd_lines qd_steps qd_lengths fd_lengths qd_starts fd_starts qd_met qd_stumbles vd_stumbleCount qd_muds qd_cells vd_cellCount qd_tunes vd_tuneCount qd_changes vd_changeCount a2 a3 h_vd_gap h_fd_lengths h_fd_starts h_vd_stumbleCount h_vd_cellCount h_vd_tuneCount h_vd_changeCount h_a2 H.size) (va_cwS 3 hts gX6_stepIn_X6_placeIn rfl rfl rfl (by decide +kernel) ⟨Nat.le_of_ble_eq_true rfl, Nat.le_of_ble_eq_true rfl⟩) (ct_preS (T := ct_T cI cJ cB cZ cO) hE hH hP hD hS hA [0, 2, 3] (by decide) rfl) rfl rfl hl.1 rfl (lv_room (Nat.le_of_ble_eq_true rfl)) dX6_stepIn_5 ⟨Nat.le_of_ble_eq_true rfl, Nat.le_of_ble_eq_true rfl⟩) hP hD hS hA [0, 2, 3] [1] rfl rfl (by decide) (by decide) (fun r1 u H locs hw hP hD hS => ?_)
  obtain ⟨hP, hD⟩ : ct_B D A H [(qd_steps, .inl (cI, 24, .inl (fd_steps))), dn qd vd_gap vd_odds vd_rain vd_lines qd_steps qd_lengths qd_starts qd_met qd_stumbles vd_stumbleCount qd_muds qd_cells vd_cellCount qd_tunes vd_tuneCount qd_changes vd_changeCount, (qd_lengths, .inl (cI, 2, .inl (fd_lengths))), (qd_starts, .inl (cI, 2, .inl (fd_starts)))] := ⟨hP, hD⟩
  have hz := hw
  have h_r1 : 0 ≤ r1.toInt ∧ r1.toInt ≤ 11 := hz
  refine ct_calli (D := D) (wr := [(qd_lengths, .inl (cI, 2, .inl (fd_lengths))), (qd_starts, .inl (cI, 2, .inl (fd_starts)))]) (va_runV (As := [.int a2, .int r1]) (rest := []) ⟨hx, hb, hml, hown, hts⟩ (c_X0_stepAt l D G cI cJ cB cZ cO qd vd_gap vd_odds vd_rain vd_lines qd_steps fd_steps qd_lengths qd_starts qd_met qd_stumbles vd_stumbleCount qd_muds qd_cells vd_cellCount qd_tunes vd_tuneCount qd_changes vd_changeCount a2 r1 h_vd_gap h_fd_steps h_vd_stumbleCount h_vd_cellCount h_vd_tuneCount h_vd_changeCount h_a2 h_r1 H.size) (cwV 2 hts gX6_stepIn_X0_stepAt rfl rfl rfl (by decide +kernel) ⟨Nat.le_of_ble_eq_true rfl, Nat.le_of_ble_eq_true rfl⟩) (ct_preV (T := ct_T cI cJ cB cZ cO) (ci := 0) (q0 := 1) hE hH hP hD hS hA [1, 0] (by decide) rfl rfl rfl) rfl rfl hl.1 rfl (lv_room (Nat.le_of_ble_eq_true rfl)) dX6_stepIn_8 ⟨Nat.le_of_ble_eq_true rfl, Nat.le_of_ble_eq_true rfl⟩) hP hD hS hA [1, 0] [2, 3] rfl rfl (by decide) (by decide) (fun r2 u H locs hw hP hD hS => ?_)
  obtain ⟨hP, hD⟩ : ct_B D A H [(qd_lengths, .inl (cI, 2, .inl (fd_lengths))), (qd_starts, .inl (cI, 2, .inl (fd_starts))), dn qd vd_gap vd_odds vd_rain vd_lines qd_steps qd_lengths qd_starts qd_met qd_stumbles vd_stumbleCount qd_muds qd_cells vd_cellCount qd_tunes vd_tuneCount qd_changes vd_changeCount, (qd_steps, .inl (cI, 24, .inl (fd_steps)))] := ⟨hP, hD⟩
  have hz := hw
  have h_r2 : 0 ≤ r2.toInt ∧ r2.toInt ≤ 5 := hz
  obtain ⟨hP9, hD9⟩ : ct_B D A H [dn qd vd_gap vd_odds vd_rain vd_lines qd_steps qd_lengths qd_starts qd_met qd_stumbles vd_stumbleCount qd_muds qd_cells vd_cellCount qd_tunes vd_tuneCount qd_changes vd_changeCount, (qd_steps, .inl (cI, 24, .inl (fd_steps))), (qd_lengths, .inl (cI, 2, .inl (fd_lengths))), (qd_starts, .inl (cI, 2, .inl (fd_starts)))] := ⟨hP.sub [2, 3, 0, 1] rfl, hD.sub [2, 3, 0, 1] (by decide) rfl⟩
  exact W.iret (v := r2) hx hb hr (fun t ht hW => ⟨⟨r2, (), rfl, h_r2, by rw [ht]; exact hP9, hD9⟩, hS.F ht⟩) hS.2.2 dX6_stepIn_11
abbrev w_c_X6_firstIn (cI cJ cB cZ cO : ClassId) (qd : Nat) (vd_gap : Int32) (vd_odds : Int32) (vd_rain : Int32) (vd_lines : Int32) (qd_steps : Nat) (qd_lengths : Nat) (fd_lengths : Nat → Int32) (qd_starts : Nat) (fd_starts : Nat → Int32) (qd_met : Nat) (qd_stumbles : Nat) (vd_stumbleCount : Int32) (qd_muds : Nat) (qd_cells : Nat) (vd_cellCount : Int32) (qd_tunes : Nat) (vd_tuneCount : Int32) (qd_changes : Nat) (vd_changeCount : Int32) : va_W := [dn qd vd_gap vd_odds vd_rain vd_lines qd_steps qd_lengths qd_starts qd_met qd_stumbles vd_stumbleCount qd_muds qd_cells vd_cellCount qd_tunes vd_tuneCount qd_changes vd_changeCount, (qd_lengths, .inl (cI, 2, .inl (fd_lengths))), (qd_starts, .inl (cI, 2, .inl (fd_starts)))]
set_option maxHeartbeats 4000000 in
set_option maxRecDepth 100000 in
/-- X6 firstIn -/
theorem c_X6_firstIn (l : Launch) (D : va_G) (G : ct_G) (cI cJ cB cZ cO : ClassId) (qd : Nat) (vd_gap : Int32) (vd_odds : Int32) (vd_rain : Int32) (vd_lines : Int32) (qd_steps : Nat) (qd_lengths : Nat) (fd_lengths : Nat → Int32) (qd_starts : Nat) (fd_starts : Nat → Int32) (qd_met : Nat) (qd_stumbles : Nat) (vd_stumbleCount : Int32) (qd_muds : Nat) (qd_cells : Nat) (vd_cellCount : Int32) (qd_tunes : Nat) (vd_tuneCount : Int32) (qd_changes : Nat) (vd_changeCount : Int32) (a2 : Int32) (a3 : Int32) (a4 : Int32) (h_vd_gap : 0 ≤ vd_gap.toInt ∧ vd_gap.toInt ≤ 20) (h_fd_lengths : ar_ok [0] [12] fd_lengths) (h_fd_starts : ar_ok [0] [11] fd_starts) (h_vd_stumbleCount : 0 ≤ vd_stumbleCount.toInt ∧ vd_stumbleCount.toInt ≤ 8) (h_vd_cellCount : 0 ≤ vd_cellCount.toInt ∧ vd_cellCount.toInt ≤ 12) (h_vd_tuneCount : 0 ≤ vd_tuneCount.toInt ∧ vd_tuneCount.toInt ≤ 5) (h_vd_changeCount : 0 ≤ vd_changeCount.toInt ∧ vd_changeCount.toInt ≤ 40) (sz : Nat) : Met l yX6_firstIn wsX6_firstIn ({ frames := 3, cells := 0, slots := 0, locals := 75 }) (va_Pc [.ref qd, .int a2, .int a3, .int a4] (ct_P D (ct_T cI cJ cB cZ cO) G (w_c_X6_firstIn cI cJ cB cZ cO qd vd_gap vd_odds vd_rain vd_lines qd_steps qd_lengths fd_lengths qd_starts fd_starts qd_met qd_stumbles vd_stumbleCount qd_muds qd_cells vd_cellCount qd_tunes vd_tuneCount qd_changes vd_changeCount) sz)) (va_Qi (fun (rz : Int32) (u : Unit) => (rz.toInt ≤ 2147483646)) (fun (u : Unit) t => ct_Q D (va_A (w_c_X6_firstIn cI cJ cB cZ cO qd vd_gap vd_odds vd_rain vd_lines qd_steps qd_lengths fd_lengths qd_starts fd_starts qd_met qd_stumbles vd_stumbleCount qd_muds qd_cells vd_cellCount qd_tunes vd_tuneCount qd_changes vd_changeCount) sz) [dn qd vd_gap vd_odds vd_rain vd_lines qd_steps qd_lengths qd_starts qd_met qd_stumbles vd_stumbleCount qd_muds qd_cells vd_cellCount qd_tunes vd_tuneCount qd_changes vd_changeCount, (qd_lengths, .inl (cI, 2, .inl (fd_lengths))), (qd_starts, .inl (cI, 2, .inl (fd_starts)))] t) (va_A (w_c_X6_firstIn cI cJ cB cZ cO qd vd_gap vd_odds vd_rain vd_lines qd_steps qd_lengths fd_lengths qd_starts fd_starts qd_met qd_stumbles vd_stumbleCount qd_muds qd_cells vd_cellCount qd_tunes vd_tuneCount qd_changes vd_changeCount) sz)) 0 0 (va_A (w_c_X6_firstIn cI cJ cB cZ cO qd vd_gap vd_odds vd_rain vd_lines qd_steps qd_lengths fd_lengths qd_starts fd_starts qd_met qd_stumbles vd_stumbleCount qd_muds qd_cells vd_cellCount qd_tunes vd_tuneCount qd_changes vd_changeCount) sz) := by
  refine Met.ofW (cc := cX6_firstIn) (maxL := 6) (ret := (some .int)) (by decide) rfl ?_
  intro p e s m args below meth c s₁ B hml hv
  obtain ⟨rfl, hsz, hP, hE, hD0, hH⟩ := hv
  have hx := B.exec
  have hb := B.bytes
  have hr := B.returns
  have hts := atoms_spec (ws := wsX6_firstIn) B.pre
  have hown : s.vm.findClass RX6 = some m.cls := findClass_of_methodNamed B.named
  have hlocks := B.notSynchronized
  have hK := hE.1
  subst hsz
  have hD := hD0.self (sz := s.heap.size)
  generalize hAe : va_A (w_c_X6_firstIn cI cJ cB cZ cO qd vd_gap vd_odds vd_rain vd_lines qd_steps qd_lengths fd_lengths qd_starts fd_starts qd_met qd_stumbles vd_stumbleCount qd_muds qd_cells vd_cellCount qd_tunes vd_tuneCount qd_changes vd_changeCount) s.heap.size = A at hD hH ⊢
  have hA : ∀ q : Nat, s.heap.size ≤ q → A q := fun q h => by rw [← hAe]; exact Or.inr h
  have hS : va_S A s.heap s.heap [] := va_S.rf
  obtain ⟨hP, hD⟩ : ct_B D A s.heap [dn qd vd_gap vd_odds vd_rain vd_lines qd_steps qd_lengths qd_starts qd_met qd_stumbles vd_stumbleCount qd_muds qd_cells vd_cellCount qd_tunes vd_tuneCount qd_changes vd_changeCount, (qd_lengths, .inl (cI, 2, .inl (fd_lengths))), (qd_starts, .inl (cI, 2, .inl (fd_starts)))] := ⟨hP, hD⟩
  have hl := lv_entry ([.ref qd, .int a2, .int a3, .int a4]) (n := 6) (Nat.le_of_ble_eq_true rfl)
  rw [lg_entry_eq]
  generalize (lg_sl ([.ref qd, .int a2, .int a3, .int a4]) ++ List.replicate (6 - (lg_sl ([.ref qd, .int a2, .int a3, .int a4])).length) Slot.unset).toArray = ls at hl ⊢
  have hl : lv_has ls 6 [(0, .ref qd), (1, .int a2), (2, .int a3), (3, .int a4)] := hl
  obtain ⟨H, hHe⟩ : ∃ H : Heap, H = s.heap := ⟨_, rfl⟩
  rw [← hHe] at hP
  have hS : va_S A s.heap H [] := by rw [hHe]; exact va_S.rf
  refine ct_start hHe ?_
  refine lv_iload_n hx hb dX6_firstIn_0 rfl (lv_at hl 3 rfl) ?_
  refine lv_aload_n hx hb dX6_firstIn_1 rfl (lv_at hl 0 rfl) ?_
  refine ct_calli (D := D) (wr := [(qd_starts, .inl (cI, 2, .inl (fd_starts)))]) (va_runS (As := [.ref qd]) (rest := [.int a4]) ⟨hx, hb, hml, hown, hts⟩ (c_X6_periodOf l D G cI cJ cB cZ cO qd vd_gap vd_odds vd_rain vd_lines qd_steps qd_lengths fd_lengths qd_starts qd_met qd_stumbles vd_stumbleCount qd_muds qd_cells vd_cellCount qd_tunes vd_tuneCount qd_changes vd_changeCount h_vd_gap h_fd_lengths h_vd_stumbleCount h_vd_cellCount h_vd_tuneCount h_vd_changeCount H.size) (va_cwS 1 hts gX6_firstIn_X6_periodOf rfl rfl rfl (by decide +kernel) ⟨Nat.le_of_ble_eq_true rfl, Nat.le_of_ble_eq_true rfl⟩) (ct_preS (T := ct_T cI cJ cB cZ cO) hE hH hP hD hS hA [0, 1] (by decide) rfl) rfl rfl hl.1 rfl (lv_room (Nat.le_of_ble_eq_true rfl)) dX6_firstIn_2 ⟨Nat.le_of_ble_eq_true rfl, Nat.le_of_ble_eq_true rfl⟩) hP hD hS hA [0, 1] [2] rfl rfl (by decide) (by decide) (fun r1 u H locs hw hP hD hS => ?_)
  obtain ⟨hP, hD⟩ : ct_B D A H [(qd_starts, .inl (cI, 2, .inl (fd_starts))), dn qd vd_gap vd_odds vd_rain vd_lines qd_steps qd_lengths qd_starts qd_met qd_stumbles vd_stumbleCount qd_muds qd_cells vd_cellCount qd_tunes vd_tuneCount qd_changes vd_changeCount, (qd_lengths, .inl (cI, 2, .inl (fd_lengths)))] := ⟨hP, hD⟩
  refine lv_iadd hx hb dX6_firstIn_5 ?_
  refine lv_topi (fun z2 ez2 => ?_)
  refine lv_istore (lv' := [(4, .int z2), (0, .ref qd), (1, .int a2), (2, .int a3), (3, .int a4)]) hx hb dX6_firstIn_6 hl (by decide) rfl (fun ls hl => ?_)
  refine lv_iload_n hx hb dX6_firstIn_8 rfl (lv_at hl 4 rfl) ?_
  refine lv_istore (lv' := [(5, .int a4), (4, .int z2), (0, .ref qd), (1, .int a2), (2, .int a3), (3, .int a4)]) hx hb dX6_firstIn_9 hl (by decide) rfl (fun ls hl => ?_)
  refine ct_loop (X := Int32) (fun x => (2147483647 - x.toInt).toNat) (fun x H locs ls => ct_B D A H [(qd_starts, .inl (cI, 2, .inl (fd_starts))), dn qd vd_gap vd_odds vd_rain vd_lines qd_steps qd_lengths qd_starts qd_met qd_stumbles vd_stumbleCount qd_muds qd_cells vd_cellCount qd_tunes vd_tuneCount qd_changes vd_changeCount, (qd_lengths, .inl (cI, 2, .inl (fd_lengths)))] ∧ va_S A s.heap H locs ∧ lv_has ls 6 [(5, .int x), (4, .int z2), (0, .ref qd), (1, .int a2), (2, .int a3), (3, .int a4)]) 11 a4 ⟨⟨hP, hD⟩, hS, lv_sub hl [0, 1, 2, 3, 4, 5] rfl⟩ (fun x ih51 H locs ls hI => ?_)
  obtain ⟨x50, rfl⟩ : ∃ z, z = x := ⟨_, rfl⟩
  obtain ⟨⟨hP, hD⟩, hS, hl⟩ := hI
  obtain ⟨hP, hD⟩ : ct_B D A H [(qd_starts, .inl (cI, 2, .inl (fd_starts))), dn qd vd_gap vd_odds vd_rain vd_lines qd_steps qd_lengths qd_starts qd_met qd_stumbles vd_stumbleCount qd_muds qd_cells vd_cellCount qd_tunes vd_tuneCount qd_changes vd_changeCount, (qd_lengths, .inl (cI, 2, .inl (fd_lengths)))] := ⟨hP, hD⟩
  have hl : lv_has ls 6 [(5, .int x50), (4, .int z2), (0, .ref qd), (1, .int a2), (2, .int a3), (3, .int a4)] := hl
  refine lv_iload hx hb dX6_firstIn_11 (lv_at hl 0 rfl) ?_
  refine lv_iload hx hb dX6_firstIn_13 (lv_at hl 1 rfl) ?_
  refine lv_icmp_ge (tgt := 49) hx hb dX6_firstIn_15 (by decide) (fun hc => ?_) (fun hc => ?_)
  · have hq52 : z2.toInt ≤ x50.toInt := tq_le rfl rfl hc
    have hb53 := tq_lo x50
    have hb54 := tq_lo z2
    refine lv_iconst (v := (-1)) hx hb dX6_firstIn_49 (by decide) ?_
    obtain ⟨hP9, hD9⟩ : ct_B D A H [dn qd vd_gap vd_odds vd_rain vd_lines qd_steps qd_lengths qd_starts qd_met qd_stumbles vd_stumbleCount qd_muds qd_cells vd_cellCount qd_tunes vd_tuneCount qd_changes vd_changeCount, (qd_lengths, .inl (cI, 2, .inl (fd_lengths))), (qd_starts, .inl (cI, 2, .inl (fd_starts)))] := ⟨hP.sub [1, 2, 0] rfl, hD.sub [1, 2, 0] (by decide) rfl⟩
    exact W.iret (v := (-1)) hx hb hr (fun t ht hW => ⟨⟨(-1), (), rfl, (show (-1 : Int32).toInt ≤ 2147483646 by decide), by rw [ht]; exact hP9, hD9⟩, hS.F ht⟩) hS.2.2 dX6_firstIn_50
  · have hq52 : x50.toInt < z2.toInt := tq_nle rfl rfl hc
    have hb55 := tq_lo x50
    have hb56 := tq_lo z2
    refine lv_aload_n hx hb dX6_firstIn_18 rfl (lv_at hl 2 rfl) ?_
    refine lv_iconst (v := 0) hx hb dX6_firstIn_19 (by decide) ?_
    refine lv_iload hx hb dX6_firstIn_20 (lv_at hl 0 rfl) ?_
    refine ct_calli (D := D) (wr := []) (va_runS (As := [.ref qd, .int 0, .int x50]) (rest := []) ⟨hx, hb, hml, hown, hts⟩ (c_X6_placeIn l D G cI cJ cB cZ cO qd vd_gap vd_odds vd_rain vd_lines qd_steps qd_lengths fd_lengths qd_starts fd_starts qd_met qd_stumbles vd_stumbleCount qd_muds qd_cells vd_cellCount qd_tunes vd_tuneCount qd_changes vd_changeCount 0 x50 h_vd_gap h_fd_lengths h_fd_starts h_vd_stumbleCount h_vd_cellCount h_vd_tuneCount h_vd_changeCount (by decide) H.size) (va_cwS 3 hts gX6_firstIn_X6_placeIn rfl rfl rfl (by decide +kernel) ⟨Nat.le_of_ble_eq_true rfl, Nat.le_of_ble_eq_true rfl⟩) (ct_preS (T := ct_T cI cJ cB cZ cO) hE hH hP hD hS hA [1, 2, 0] (by decide) rfl) rfl rfl hl.1 rfl (lv_room (Nat.le_of_ble_eq_true rfl)) dX6_firstIn_22 ⟨Nat.le_of_ble_eq_true rfl, Nat.le_of_ble_eq_true rfl⟩) hP hD hS hA [1, 2, 0] [] rfl rfl (by decide) (by decide) (fun r57 u H locs hw hP hD hS => ?_)
    obtain ⟨hP, hD⟩ : ct_B D A H [dn qd vd_gap vd_odds vd_rain vd_lines qd_steps qd_lengths qd_starts qd_met qd_stumbles vd_stumbleCount qd_muds qd_cells vd_cellCount qd_tunes vd_tuneCount qd_changes vd_changeCount, (qd_lengths, .inl (cI, 2, .inl (fd_lengths))), (qd_starts, .inl (cI, 2, .inl (fd_starts)))] := ⟨hP, hD⟩
    have hz := hw
    have h_r57 : 0 ≤ r57.toInt ∧ r57.toInt ≤ 11 := hz
    refine lv_iload_n hx hb dX6_firstIn_25 rfl (lv_at hl 3 rfl) ?_
    refine lv_icmp_ne (tgt := 43) hx hb dX6_firstIn_26 (by decide) (fun hc => ?_) (fun hc => ?_)
    · have hq58 : r57.toInt ≠ a2.toInt := tq_ne rfl rfl hc
      have hb59 := tq_lo a2
      obtain ⟨z60, ez60⟩ : ∃ z : Int32, z = x50 + 1 := ⟨_, rfl⟩
      have fz60 : z60.toInt = x50.toInt + 1 := by rw [ez60]; exact tq_add rfl (by decide) (by omega)
      refine lv_iinc (v := z60) (lv' := [(5, .int z60), (4, .int z2), (0, .ref qd), (1, .int a2), (2, .int a3), (3, .int a4)]) hx hb dX6_firstIn_43 hl (k := 0) rfl ez60.symm (by decide) rfl (fun ls hl => ?_)
      refine lv_goto (tgt := 11) hx hb dX6_firstIn_46 (by decide) ?_
      obtain ⟨hP9, hD9⟩ : ct_B D A H [(qd_starts, .inl (cI, 2, .inl (fd_starts))), dn qd vd_gap vd_odds vd_rain vd_lines qd_steps qd_lengths qd_starts qd_met qd_stumbles vd_stumbleCount qd_muds qd_cells vd_cellCount qd_tunes vd_tuneCount qd_changes vd_changeCount, (qd_lengths, .inl (cI, 2, .inl (fd_lengths)))] := ⟨hP.sub [2, 0, 1] rfl, hD.sub [2, 0, 1] (by decide) rfl⟩
      exact ih51 z60 _ _ _ (show (2147483647 - z60.toInt).toNat < (2147483647 - x50.toInt).toNat by omega) ⟨⟨hP9, hD9⟩, hS, lv_sub hl [0, 1, 2, 3, 4, 5] rfl⟩
    · have hq58 : r57.toInt = a2.toInt := tq_eq rfl rfl hc
      have hb61 := tq_lo a2
      refine lv_aload_n hx hb dX6_firstIn_29 rfl (lv_at hl 2 rfl) ?_
      refine lv_iconst (v := 1) hx hb dX6_firstIn_30 (by decide) ?_
      refine lv_iload hx hb dX6_firstIn_31 (lv_at hl 0 rfl) ?_
      refine ct_calli (D := D) (wr := []) (va_runS (As := [.ref qd, .int 1, .int x50]) (rest := []) ⟨hx, hb, hml, hown, hts⟩ (c_X6_placeIn l D G cI cJ cB cZ cO qd vd_gap vd_odds vd_rain vd_lines qd_steps qd_lengths fd_lengths qd_starts fd_starts qd_met qd_stumbles vd_stumbleCount qd_muds qd_cells vd_cellCount qd_tunes vd_tuneCount qd_changes vd_changeCount 1 x50 h_vd_gap h_fd_lengths h_fd_starts h_vd_stumbleCount h_vd_cellCount h_vd_tuneCount h_vd_changeCount (by decide) H.size) (va_cwS 3 hts gX6_firstIn_X6_placeIn rfl rfl rfl (by decide +kernel) ⟨Nat.le_of_ble_eq_true rfl, Nat.le_of_ble_eq_true rfl⟩) (ct_preS (T := ct_T cI cJ cB cZ cO) hE hH hP hD hS hA [0, 1, 2] (by decide) rfl) rfl rfl hl.1 rfl (lv_room (Nat.le_of_ble_eq_true rfl)) dX6_firstIn_33 ⟨Nat.le_of_ble_eq_true rfl, Nat.le_of_ble_eq_true rfl⟩) hP hD hS hA [0, 1, 2] [] rfl rfl (by decide) (by decide) (fun r62 u H locs hw hP hD hS => ?_)
      obtain ⟨hP, hD⟩ : ct_B D A H [dn qd vd_gap vd_odds vd_rain vd_lines qd_steps qd_lengths qd_starts qd_met qd_stumbles vd_stumbleCount qd_muds qd_cells vd_cellCount qd_tunes vd_tuneCount qd_changes vd_changeCount, (qd_lengths, .inl (cI, 2, .inl (fd_lengths))), (qd_starts, .inl (cI, 2, .inl (fd_starts)))] := ⟨hP, hD⟩
      have hz := hw
      have h_r62 : 0 ≤ r62.toInt ∧ r62.toInt ≤ 11 := hz
      refine lv_iload_n hx hb dX6_firstIn_36 rfl (lv_at hl 4 rfl) ?_
      refine lv_icmp_ne (tgt := 43) hx hb dX6_firstIn_37 (by decide) (fun hc => ?_) (fun hc => ?_)
      · have hq63 : r62.toInt ≠ a3.toInt := tq_ne rfl rfl hc
        have hb64 := tq_lo a3
        obtain ⟨z65, ez65⟩ : ∃ z : Int32, z = x50 + 1 := ⟨_, rfl⟩
        have fz65 : z65.toInt = x50.toInt + 1 := by rw [ez65]; exact tq_add rfl (by decide) (by omega)
        refine lv_iinc (v := z65) (lv' := [(5, .int z65), (4, .int z2), (0, .ref qd), (1, .int a2), (2, .int a3), (3, .int a4)]) hx hb dX6_firstIn_43 hl (k := 0) rfl ez65.symm (by decide) rfl (fun ls hl => ?_)
        refine lv_goto (tgt := 11) hx hb dX6_firstIn_46 (by decide) ?_
        obtain ⟨hP9, hD9⟩ : ct_B D A H [(qd_starts, .inl (cI, 2, .inl (fd_starts))), dn qd vd_gap vd_odds vd_rain vd_lines qd_steps qd_lengths qd_starts qd_met qd_stumbles vd_stumbleCount qd_muds qd_cells vd_cellCount qd_tunes vd_tuneCount qd_changes vd_changeCount, (qd_lengths, .inl (cI, 2, .inl (fd_lengths)))] := ⟨hP.sub [2, 0, 1] rfl, hD.sub [2, 0, 1] (by decide) rfl⟩
        exact ih51 z65 _ _ _ (show (2147483647 - z65.toInt).toNat < (2147483647 - x50.toInt).toNat by omega) ⟨⟨hP9, hD9⟩, hS, lv_sub hl [0, 1, 2, 3, 4, 5] rfl⟩
      · have hq63 : r62.toInt = a3.toInt := tq_eq rfl rfl hc
        have hb66 := tq_lo a3
        refine lv_iload hx hb dX6_firstIn_40 (lv_at hl 0 rfl) ?_
        obtain ⟨hP9, hD9⟩ : ct_B D A H [dn qd vd_gap vd_odds vd_rain vd_lines qd_steps qd_lengths qd_starts qd_met qd_stumbles vd_stumbleCount qd_muds qd_cells vd_cellCount qd_tunes vd_tuneCount qd_changes vd_changeCount, (qd_lengths, .inl (cI, 2, .inl (fd_lengths))), (qd_starts, .inl (cI, 2, .inl (fd_starts)))] := ⟨hP.sub [0, 1, 2] rfl, hD.sub [0, 1, 2] (by decide) rfl⟩
        exact W.iret (v := x50) hx hb hr (fun t ht hW => ⟨⟨x50, (), rfl, (show x50.toInt ≤ 2147483646 by omega), by rw [ht]; exact hP9, hD9⟩, hS.F ht⟩) hS.2.2 dX6_firstIn_42
abbrev w_c_X6_holesShifted (cI cJ cB cZ cO : ClassId) (qd : Nat) (vd_gap : Int32) (vd_odds : Int32) (vd_rain : Int32) (vd_lines : Int32) (qd_steps : Nat) (fd_steps : Nat → Int32) (qd_lengths : Nat) (fd_lengths : Nat → Int32) (qd_starts : Nat) (fd_starts : Nat → Int32) (qd_met : Nat) (fd_met : Nat → Int32) (qd_stumbles : Nat) (vd_stumbleCount : Int32) (qd_muds : Nat) (qd_cells : Nat) (vd_cellCount : Int32) (qd_tunes : Nat) (vd_tuneCount : Int32) (qd_changes : Nat) (vd_changeCount : Int32) : va_W := [dn qd vd_gap vd_odds vd_rain vd_lines qd_steps qd_lengths qd_starts qd_met qd_stumbles vd_stumbleCount qd_muds qd_cells vd_cellCount qd_tunes vd_tuneCount qd_changes vd_changeCount, (qd_steps, .inl (cI, 24, .inl (fd_steps))), (qd_lengths, .inl (cI, 2, .inl (fd_lengths))), (qd_starts, .inl (cI, 2, .inl (fd_starts))), (qd_met, .inl (cI, 6, .inl (fd_met)))]
set_option maxHeartbeats 4000000 in
set_option maxRecDepth 100000 in
/-- X6 holesShifted -/
theorem c_X6_holesShifted (l : Launch) (D : va_G) (G : ct_G) (cI cJ cB cZ cO : ClassId) (qd : Nat) (vd_gap : Int32) (vd_odds : Int32) (vd_rain : Int32) (vd_lines : Int32) (qd_steps : Nat) (fd_steps : Nat → Int32) (qd_lengths : Nat) (fd_lengths : Nat → Int32) (qd_starts : Nat) (fd_starts : Nat → Int32) (qd_met : Nat) (fd_met : Nat → Int32) (qd_stumbles : Nat) (vd_stumbleCount : Int32) (qd_muds : Nat) (qd_cells : Nat) (vd_cellCount : Int32) (qd_tunes : Nat) (vd_tuneCount : Int32) (qd_changes : Nat) (vd_changeCount : Int32) (a2 : Int32) (h_vd_gap : 0 ≤ vd_gap.toInt ∧ vd_gap.toInt ≤ 20) (h_fd_steps : ar_ok [0] [5] fd_steps) (h_fd_lengths : ar_ok [0] [12] fd_lengths) (h_fd_starts : ar_ok [0] [11] fd_starts) (h_vd_stumbleCount : 0 ≤ vd_stumbleCount.toInt ∧ vd_stumbleCount.toInt ≤ 8) (h_vd_cellCount : 0 ≤ vd_cellCount.toInt ∧ vd_cellCount.toInt ≤ 12) (h_vd_tuneCount : 0 ≤ vd_tuneCount.toInt ∧ vd_tuneCount.toInt ≤ 5) (h_vd_changeCount : 0 ≤ vd_changeCount.toInt ∧ vd_changeCount.toInt ≤ 40) (sz : Nat) : Met l yX6_holesShifted wsX6_holesShifted ({ frames := 4, cells := 0, slots := 0, locals := 87 }) (va_Pc [.ref qd, .int a2] (ct_P D (ct_T cI cJ cB cZ cO) G (w_c_X6_holesShifted cI cJ cB cZ cO qd vd_gap vd_odds vd_rain vd_lines qd_steps fd_steps qd_lengths fd_lengths qd_starts fd_starts qd_met fd_met qd_stumbles vd_stumbleCount qd_muds qd_cells vd_cellCount qd_tunes vd_tuneCount qd_changes vd_changeCount) sz)) (va_Qi (fun (rz : Int32) (u : Unit) => True) (fun (u : Unit) t => ct_Q D (va_A (w_c_X6_holesShifted cI cJ cB cZ cO qd vd_gap vd_odds vd_rain vd_lines qd_steps fd_steps qd_lengths fd_lengths qd_starts fd_starts qd_met fd_met qd_stumbles vd_stumbleCount qd_muds qd_cells vd_cellCount qd_tunes vd_tuneCount qd_changes vd_changeCount) sz) [dn qd vd_gap vd_odds vd_rain vd_lines qd_steps qd_lengths qd_starts qd_met qd_stumbles vd_stumbleCount qd_muds qd_cells vd_cellCount qd_tunes vd_tuneCount qd_changes vd_changeCount, (qd_steps, .inl (cI, 24, .inl (fd_steps))), (qd_lengths, .inl (cI, 2, .inl (fd_lengths))), (qd_starts, .inl (cI, 2, .inl (fd_starts))), (qd_met, .inl (cI, 6, .inl (fd_met)))] t) (va_A (w_c_X6_holesShifted cI cJ cB cZ cO qd vd_gap vd_odds vd_rain vd_lines qd_steps fd_steps qd_lengths fd_lengths qd_starts fd_starts qd_met fd_met qd_stumbles vd_stumbleCount qd_muds qd_cells vd_cellCount qd_tunes vd_tuneCount qd_changes vd_changeCount) sz)) 0 0 (va_A (w_c_X6_holesShifted cI cJ cB cZ cO qd vd_gap vd_odds vd_rain vd_lines qd_steps fd_steps qd_lengths fd_lengths qd_starts fd_starts qd_met fd_met qd_stumbles vd_stumbleCount qd_muds qd_cells vd_cellCount qd_tunes vd_tuneCount qd_changes vd_changeCount) sz) := by
  refine Met.ofW (cc := cX6_holesShifted) (maxL := 6) (ret := (some .int)) (by decide) rfl ?_
  intro p e s m args below meth c s₁ B hml hv
  obtain ⟨rfl, hsz, hP, hE, hD0, hH⟩ := hv
  have hx := B.exec
  have hb := B.bytes
  have hr := B.returns
  have hts := atoms_spec (ws := wsX6_holesShifted) B.pre
  have hown : s.vm.findClass RX6 = some m.cls := findClass_of_methodNamed B.named
  have hlocks := B.notSynchronized
  have hK := hE.1
  have hi0 : ∀ w ∈ u_ws RX0 TX0 17, w ∈ wsX6_holesShifted := fun w h => List.mem_cons_of_mem _ (List.mem_append_right _ h)
  subst hsz
  have hD := hD0.self (sz := s.heap.size)
  generalize hAe : va_A (w_c_X6_holesShifted cI cJ cB cZ cO qd vd_gap vd_odds vd_rain vd_lines qd_steps fd_steps qd_lengths fd_lengths qd_starts fd_starts qd_met fd_met qd_stumbles vd_stumbleCount qd_muds qd_cells vd_cellCount qd_tunes vd_tuneCount qd_changes vd_changeCount) s.heap.size = A at hD hH ⊢
  have hA : ∀ q : Nat, s.heap.size ≤ q → A q := fun q h => by rw [← hAe]; exact Or.inr h
  have hS : va_S A s.heap s.heap [] := va_S.rf
  obtain ⟨hP, hD⟩ : ct_B D A s.heap [dn qd vd_gap vd_odds vd_rain vd_lines qd_steps qd_lengths qd_starts qd_met qd_stumbles vd_stumbleCount qd_muds qd_cells vd_cellCount qd_tunes vd_tuneCount qd_changes vd_changeCount, (qd_steps, .inl (cI, 24, .inl (fd_steps))), (qd_lengths, .inl (cI, 2, .inl (fd_lengths))), (qd_starts, .inl (cI, 2, .inl (fd_starts))), (qd_met, .inl (cI, 6, .inl (fd_met)))] := ⟨hP, hD⟩
  have hl := lv_entry ([.ref qd, .int a2]) (n := 6) (Nat.le_of_ble_eq_true rfl)
  rw [lg_entry_eq]
  generalize (lg_sl ([.ref qd, .int a2]) ++ List.replicate (6 - (lg_sl ([.ref qd, .int a2])).length) Slot.unset).toArray = ls at hl ⊢
  have hl : lv_has ls 6 [(0, .ref qd), (1, .int a2)] := hl
  obtain ⟨H, hHe⟩ : ∃ H : Heap, H = s.heap := ⟨_, rfl⟩
  rw [← hHe] at hP
  have hS : va_S A s.heap H [] := by rw [hHe]; exact va_S.rf
  refine ct_start hHe ?_
  refine lv_aload_n hx hb dX6_holesShifted_0 rfl (lv_at hl 0 rfl) ?_
  refine va_get (D := D) (ci := 0) (v := .int vd_gap) (C := RX0) (T := TX0) (N := 17) hx hb hts hi0 hown hK hP 0 rfl rfl 0 (by decide) (hts (.fieldLink RX6 32 "OverHill$Dance" "gap" "I") (by decide +kernel)) (fun _ h9 => h9) rfl dX6_holesShifted_1 ?_
  refine lv_aload_n hx hb dX6_holesShifted_4 rfl (lv_at hl 0 rfl) ?_
  refine ct_calli (D := D) (wr := [(qd_steps, .inl (cI, 24, .inl (fd_steps))), (qd_starts, .inl (cI, 2, .inl (fd_starts))), (qd_met, .inl (cI, 6, .inl (fd_met)))]) (va_runS (As := [.ref qd]) (rest := [.int vd_gap]) ⟨hx, hb, hml, hown, hts⟩ (c_X6_periodOf l D G cI cJ cB cZ cO qd vd_gap vd_odds vd_rain vd_lines qd_steps qd_lengths fd_lengths qd_starts qd_met qd_stumbles vd_stumbleCount qd_muds qd_cells vd_cellCount qd_tunes vd_tuneCount qd_changes vd_changeCount h_vd_gap h_fd_lengths h_vd_stumbleCount h_vd_cellCount h_vd_tuneCount h_vd_changeCount H.size) (va_cwS 1 hts gX6_holesShifted_X6_periodOf rfl rfl rfl (by decide +kernel) ⟨Nat.le_of_ble_eq_true rfl, Nat.le_of_ble_eq_true rfl⟩) (ct_preS (T := ct_T cI cJ cB cZ cO) hE hH hP hD hS hA [0, 2] (by decide) rfl) rfl rfl hl.1 rfl (lv_room (Nat.le_of_ble_eq_true rfl)) dX6_holesShifted_5 ⟨Nat.le_of_ble_eq_true rfl, Nat.le_of_ble_eq_true rfl⟩) hP hD hS hA [0, 2] [1, 3, 4] rfl rfl (by decide) (by decide) (fun r1 u H locs hw hP hD hS => ?_)
  obtain ⟨hP, hD⟩ : ct_B D A H [(qd_steps, .inl (cI, 24, .inl (fd_steps))), (qd_starts, .inl (cI, 2, .inl (fd_starts))), (qd_met, .inl (cI, 6, .inl (fd_met))), dn qd vd_gap vd_odds vd_rain vd_lines qd_steps qd_lengths qd_starts qd_met qd_stumbles vd_stumbleCount qd_muds qd_cells vd_cellCount qd_tunes vd_tuneCount qd_changes vd_changeCount, (qd_lengths, .inl (cI, 2, .inl (fd_lengths)))] := ⟨hP, hD⟩
  refine lv_iadd hx hb dX6_holesShifted_8 ?_
  refine lv_topi (fun z2 ez2 => ?_)
  refine lv_istore_n (lv' := [(2, .int z2), (0, .ref qd), (1, .int a2)]) hx hb dX6_holesShifted_9 rfl hl (by decide) rfl (fun ls hl => ?_)
  refine lv_iconst (v := 0) hx hb dX6_holesShifted_10 (by decide) ?_
  refine lv_istore_n (lv' := [(3, .int 0), (2, .int z2), (0, .ref qd), (1, .int a2)]) hx hb dX6_holesShifted_11 rfl hl (by decide) rfl (fun ls hl => ?_)
  refine lv_aload_n hx hb dX6_holesShifted_12 rfl (lv_at hl 2 rfl) ?_
  refine va_get (D := D) (ci := 0) (v := .int vd_gap) (C := RX0) (T := TX0) (N := 17) hx hb hts hi0 hown hK hP 3 rfl rfl 0 (by decide) (hts (.fieldLink RX6 32 "OverHill$Dance" "gap" "I") (by decide +kernel)) (fun _ h9 => h9) rfl dX6_holesShifted_13 ?_
  refine lv_istore (lv' := [(4, .int vd_gap), (3, .int 0), (2, .int z2), (0, .ref qd), (1, .int a2)]) hx hb dX6_holesShifted_16 hl (by decide) rfl (fun ls hl => ?_)
  refine ct_loop (X := Int32 × Int32) (fun x => (2147483647 - x.2.toInt).toNat) (fun x H locs ls => ((0 ≤ x.2.toInt)) ∧ ct_B D A H [(qd_steps, .inl (cI, 24, .inl (fd_steps))), (qd_starts, .inl (cI, 2, .inl (fd_starts))), (qd_met, .inl (cI, 6, .inl (fd_met))), dn qd vd_gap vd_odds vd_rain vd_lines qd_steps qd_lengths qd_starts qd_met qd_stumbles vd_stumbleCount qd_muds qd_cells vd_cellCount qd_tunes vd_tuneCount qd_changes vd_changeCount, (qd_lengths, .inl (cI, 2, .inl (fd_lengths)))] ∧ va_S A s.heap H locs ∧ lv_has ls 6 [(4, .int x.2), (3, .int x.1), (2, .int z2), (0, .ref qd), (1, .int a2)]) 18 ((0 : Int32), vd_gap) ⟨(show 0 ≤ vd_gap.toInt by omega), ⟨hP, hD⟩, hS, lv_sub hl [0, 1, 2, 3, 4] rfl⟩ (fun x ih285 H locs ls hI => ?_)
  obtain ⟨x283, x284⟩ := x
  obtain ⟨h_x284, ⟨hP, hD⟩, hS, hl⟩ := hI
  have h_x284 : (0 ≤ x284.toInt) := h_x284
  obtain ⟨hP, hD⟩ : ct_B D A H [(qd_steps, .inl (cI, 24, .inl (fd_steps))), (qd_starts, .inl (cI, 2, .inl (fd_starts))), (qd_met, .inl (cI, 6, .inl (fd_met))), dn qd vd_gap vd_odds vd_rain vd_lines qd_steps qd_lengths qd_starts qd_met qd_stumbles vd_stumbleCount qd_muds qd_cells vd_cellCount qd_tunes vd_tuneCount qd_changes vd_changeCount, (qd_lengths, .inl (cI, 2, .inl (fd_lengths)))] := ⟨hP, hD⟩
  have hl : lv_has ls 6 [(4, .int x284), (3, .int x283), (2, .int z2), (0, .ref qd), (1, .int a2)] := hl
  refine lv_iload hx hb dX6_holesShifted_18 (lv_at hl 0 rfl) ?_
  refine lv_iload_n hx hb dX6_holesShifted_20 rfl (lv_at hl 2 rfl) ?_
  refine lv_icmp_ge (tgt := 91) hx hb dX6_holesShifted_21 (by decide) (fun hc => ?_) (fun hc => ?_)
  · have hq286 : z2.toInt ≤ x284.toInt := tq_le rfl rfl hc
    have hb287 := tq_lo x284
    have hb288 := tq_lo z2
    refine lv_iload_n hx hb dX6_holesShifted_91 rfl (lv_at hl 1 rfl) ?_
    obtain ⟨hP9, hD9⟩ : ct_B D A H [dn qd vd_gap vd_odds vd_rain vd_lines qd_steps qd_lengths qd_starts qd_met qd_stumbles vd_stumbleCount qd_muds qd_cells vd_cellCount qd_tunes vd_tuneCount qd_changes vd_changeCount, (qd_steps, .inl (cI, 24, .inl (fd_steps))), (qd_lengths, .inl (cI, 2, .inl (fd_lengths))), (qd_starts, .inl (cI, 2, .inl (fd_starts))), (qd_met, .inl (cI, 6, .inl (fd_met)))] := ⟨hP.sub [3, 0, 4, 1, 2] rfl, hD.sub [3, 0, 4, 1, 2] (by decide) rfl⟩
    exact W.iret (v := x283) hx hb hr (fun t ht hW => ⟨⟨x283, (), rfl, trivial, by rw [ht]; exact hP9, hD9⟩, hS.F ht⟩) hS.2.2 dX6_holesShifted_92
  · have hq286 : x284.toInt < z2.toInt := tq_nle rfl rfl hc
    have hb289 := tq_lo x284
    have hb290 := tq_lo z2
    refine lv_iload hx hb dX6_holesShifted_24 (lv_at hl 0 rfl) ?_
    refine lv_aload_n hx hb dX6_holesShifted_26 rfl (lv_at hl 3 rfl) ?_
    refine va_get (D := D) (ci := 0) (v := .int vd_gap) (C := RX0) (T := TX0) (N := 17) hx hb hts hi0 hown hK hP 3 rfl rfl 0 (by decide) (hts (.fieldLink RX6 32 "OverHill$Dance" "gap" "I") (by decide +kernel)) (fun _ h9 => h9) rfl dX6_holesShifted_27 ?_
    refine lv_isub hx hb dX6_holesShifted_30 ?_
    refine lv_topi (fun z291 ez291 => ?_)
    refine lv_istore (lv' := [(5, .int z291), (4, .int x284), (3, .int x283), (2, .int z2), (0, .ref qd), (1, .int a2)]) hx hb dX6_holesShifted_31 hl (by decide) rfl (fun ls hl => ?_)
    refine lv_aload_n hx hb dX6_holesShifted_33 rfl (lv_at hl 4 rfl) ?_
    refine lv_aload_n hx hb dX6_holesShifted_34 rfl (lv_at hl 4 rfl) ?_
    refine lv_iconst (v := 0) hx hb dX6_holesShifted_35 (by decide) ?_
    refine lv_iload hx hb dX6_holesShifted_36 (lv_at hl 1 rfl) ?_
    refine ct_calli (D := D) (wr := [(qd_met, .inl (cI, 6, .inl (fd_met)))]) (va_runS (As := [.ref qd, .int 0, .int x284]) (rest := [.ref qd]) ⟨hx, hb, hml, hown, hts⟩ (c_X6_stepIn l D G cI cJ cB cZ cO qd vd_gap vd_odds vd_rain vd_lines qd_steps fd_steps qd_lengths fd_lengths qd_starts fd_starts qd_met qd_stumbles vd_stumbleCount qd_muds qd_cells vd_cellCount qd_tunes vd_tuneCount qd_changes vd_changeCount 0 x284 h_vd_gap h_fd_steps h_fd_lengths h_fd_starts h_vd_stumbleCount h_vd_cellCount h_vd_tuneCount h_vd_changeCount (by decide) H.size) (va_cwS 3 hts gX6_holesShifted_X6_stepIn rfl rfl rfl (by decide +kernel) ⟨Nat.le_of_ble_eq_true rfl, Nat.le_of_ble_eq_true rfl⟩) (ct_preS (T := ct_T cI cJ cB cZ cO) hE hH hP hD hS hA [3, 0, 4, 1] (by decide) rfl) rfl rfl hl.1 rfl (lv_room (Nat.le_of_ble_eq_true rfl)) dX6_holesShifted_38 ⟨Nat.le_of_ble_eq_true rfl, Nat.le_of_ble_eq_true rfl⟩) hP hD hS hA [3, 0, 4, 1] [2] rfl rfl (by decide) (by decide) (fun r292 u H locs hw hP hD hS => ?_)
    obtain ⟨hP, hD⟩ : ct_B D A H [(qd_met, .inl (cI, 6, .inl (fd_met))), dn qd vd_gap vd_odds vd_rain vd_lines qd_steps qd_lengths qd_starts qd_met qd_stumbles vd_stumbleCount qd_muds qd_cells vd_cellCount qd_tunes vd_tuneCount qd_changes vd_changeCount, (qd_steps, .inl (cI, 24, .inl (fd_steps))), (qd_lengths, .inl (cI, 2, .inl (fd_lengths))), (qd_starts, .inl (cI, 2, .inl (fd_starts)))] := ⟨hP, hD⟩
    have hz := hw
    have h_r292 : 0 ≤ r292.toInt ∧ r292.toInt ≤ 5 := hz
    refine lv_aload_n hx hb dX6_holesShifted_41 rfl (lv_at hl 4 rfl) ?_
    refine lv_iconst (v := 1) hx hb dX6_holesShifted_42 (by decide) ?_
    refine lv_iload hx hb dX6_holesShifted_43 (lv_at hl 0 rfl) ?_
    refine lv_iload_n hx hb dX6_holesShifted_45 rfl (lv_at hl 5 rfl) ?_
    refine lv_iadd hx hb dX6_holesShifted_46 ?_
    refine lv_topi (fun z293 ez293 => ?_)
    refine ct_calli (D := D) (wr := [(qd_met, .inl (cI, 6, .inl (fd_met)))]) (va_runS (As := [.ref qd, .int 1, .int z293]) (rest := [.int r292, .ref qd]) ⟨hx, hb, hml, hown, hts⟩ (c_X6_stepIn l D G cI cJ cB cZ cO qd vd_gap vd_odds vd_rain vd_lines qd_steps fd_steps qd_lengths fd_lengths qd_starts fd_starts qd_met qd_stumbles vd_stumbleCount qd_muds qd_cells vd_cellCount qd_tunes vd_tuneCount qd_changes vd_changeCount 1 z293 h_vd_gap h_fd_steps h_fd_lengths h_fd_starts h_vd_stumbleCount h_vd_cellCount h_vd_tuneCount h_vd_changeCount (by decide) H.size) (va_cwS 3 hts gX6_holesShifted_X6_stepIn rfl rfl rfl (by decide +kernel) ⟨Nat.le_of_ble_eq_true rfl, Nat.le_of_ble_eq_true rfl⟩) (ct_preS (T := ct_T cI cJ cB cZ cO) hE hH hP hD hS hA [1, 2, 3, 4] (by decide) rfl) rfl rfl hl.1 rfl (lv_room (Nat.le_of_ble_eq_true rfl)) dX6_holesShifted_47 ⟨Nat.le_of_ble_eq_true rfl, Nat.le_of_ble_eq_true rfl⟩) hP hD hS hA [1, 2, 3, 4] [0] rfl rfl (by decide) (by decide) (fun r294 u H locs hw hP hD hS => ?_)
    obtain ⟨hP, hD⟩ : ct_B D A H [(qd_met, .inl (cI, 6, .inl (fd_met))), dn qd vd_gap vd_odds vd_rain vd_lines qd_steps qd_lengths qd_starts qd_met qd_stumbles vd_stumbleCount qd_muds qd_cells vd_cellCount qd_tunes vd_tuneCount qd_changes vd_changeCount, (qd_steps, .inl (cI, 24, .inl (fd_steps))), (qd_lengths, .inl (cI, 2, .inl (fd_lengths))), (qd_starts, .inl (cI, 2, .inl (fd_starts)))] := ⟨hP, hD⟩
    have hz := hw
    have h_r294 : 0 ≤ r294.toInt ∧ r294.toInt ≤ 5 := hz
    refine ct_calli (D := D) (wr := [(qd_steps, .inl (cI, 24, .inl (fd_steps))), (qd_lengths, .inl (cI, 2, .inl (fd_lengths))), (qd_starts, .inl (cI, 2, .inl (fd_starts)))]) (va_runV (As := [.int r292, .int r294]) (rest := []) ⟨hx, hb, hml, hown, hts⟩ (c_X0_isHole l D G cI cJ cB cZ cO qd vd_gap vd_odds vd_rain vd_lines qd_steps qd_lengths qd_starts qd_met fd_met qd_stumbles vd_stumbleCount qd_muds qd_cells vd_cellCount qd_tunes vd_tuneCount qd_changes vd_changeCount r292 r294 h_vd_gap h_vd_stumbleCount h_vd_cellCount h_vd_tuneCount h_vd_changeCount (by omega) H.size) (cwV 2 hts gX6_holesShifted_X0_isHole rfl rfl rfl (by decide +kernel) ⟨Nat.le_of_ble_eq_true rfl, Nat.le_of_ble_eq_true rfl⟩) (ct_preV (T := ct_T cI cJ cB cZ cO) (ci := 0) (q0 := 1) hE hH hP hD hS hA [1, 0] (by decide) rfl rfl rfl) rfl rfl hl.1 rfl (lv_room (Nat.le_of_ble_eq_true rfl)) dX6_holesShifted_50 ⟨Nat.le_of_ble_eq_true rfl, Nat.le_of_ble_eq_true rfl⟩) hP hD hS hA [1, 0] [2, 3, 4] rfl rfl (by decide) (by decide) (fun r295 u H locs hw hP hD hS => ?_)
    obtain ⟨hP, hD⟩ : ct_B D A H [(qd_steps, .inl (cI, 24, .inl (fd_steps))), (qd_lengths, .inl (cI, 2, .inl (fd_lengths))), (qd_starts, .inl (cI, 2, .inl (fd_starts))), dn qd vd_gap vd_odds vd_rain vd_lines qd_steps qd_lengths qd_starts qd_met qd_stumbles vd_stumbleCount qd_muds qd_cells vd_cellCount qd_tunes vd_tuneCount qd_changes vd_changeCount, (qd_met, .inl (cI, 6, .inl (fd_met)))] := ⟨hP, hD⟩
    have hz := hw
    rcases hz with ⟨hz, hz2⟩ | ⟨hz, hz2⟩
    · subst hz
      refine lv_if_eq (tgt := 59) hx hb dX6_holesShifted_53 (by decide) (fun hc => absurd hc (by decide)) (fun _ => ?_)
      obtain ⟨z296, ez296⟩ : ∃ z : Int32, z = x283 + 1 := ⟨_, rfl⟩
      refine lv_iinc (v := z296) (lv' := [(3, .int z296), (5, .int z291), (4, .int x284), (2, .int z2), (0, .ref qd), (1, .int a2)]) hx hb dX6_holesShifted_56 hl (k := 2) rfl ez296.symm (by decide) rfl (fun ls hl => ?_)
      refine lv_aload_n hx hb dX6_holesShifted_59 rfl (lv_at hl 4 rfl) ?_
      refine lv_aload_n hx hb dX6_holesShifted_60 rfl (lv_at hl 4 rfl) ?_
      refine lv_iconst (v := 1) hx hb dX6_holesShifted_61 (by decide) ?_
      refine lv_iload hx hb dX6_holesShifted_62 (lv_at hl 2 rfl) ?_
      refine lv_iload_n hx hb dX6_holesShifted_64 rfl (lv_at hl 5 rfl) ?_
      refine lv_iadd hx hb dX6_holesShifted_65 ?_
      refine lv_topi (fun z297 ez297 => ?_)
      refine ct_calli (D := D) (wr := [(qd_met, .inl (cI, 6, .inl (fd_met)))]) (va_runS (As := [.ref qd, .int 1, .int z297]) (rest := [.ref qd]) ⟨hx, hb, hml, hown, hts⟩ (c_X6_stepIn l D G cI cJ cB cZ cO qd vd_gap vd_odds vd_rain vd_lines qd_steps fd_steps qd_lengths fd_lengths qd_starts fd_starts qd_met qd_stumbles vd_stumbleCount qd_muds qd_cells vd_cellCount qd_tunes vd_tuneCount qd_changes vd_changeCount 1 z297 h_vd_gap h_fd_steps h_fd_lengths h_fd_starts h_vd_stumbleCount h_vd_cellCount h_vd_tuneCount h_vd_changeCount (by decide) H.size) (va_cwS 3 hts gX6_holesShifted_X6_stepIn rfl rfl rfl (by decide +kernel) ⟨Nat.le_of_ble_eq_true rfl, Nat.le_of_ble_eq_true rfl⟩) (ct_preS (T := ct_T cI cJ cB cZ cO) hE hH hP hD hS hA [3, 0, 1, 2] (by decide) rfl) rfl rfl hl.1 rfl (lv_room (Nat.le_of_ble_eq_true rfl)) dX6_holesShifted_66 ⟨Nat.le_of_ble_eq_true rfl, Nat.le_of_ble_eq_true rfl⟩) hP hD hS hA [3, 0, 1, 2] [4] rfl rfl (by decide) (by decide) (fun r298 u H locs hw hP hD hS => ?_)
      obtain ⟨hP, hD⟩ : ct_B D A H [(qd_met, .inl (cI, 6, .inl (fd_met))), dn qd vd_gap vd_odds vd_rain vd_lines qd_steps qd_lengths qd_starts qd_met qd_stumbles vd_stumbleCount qd_muds qd_cells vd_cellCount qd_tunes vd_tuneCount qd_changes vd_changeCount, (qd_steps, .inl (cI, 24, .inl (fd_steps))), (qd_lengths, .inl (cI, 2, .inl (fd_lengths))), (qd_starts, .inl (cI, 2, .inl (fd_starts)))] := ⟨hP, hD⟩
      have hz := hw
      have h_r298 : 0 ≤ r298.toInt ∧ r298.toInt ≤ 5 := hz
      refine lv_aload_n hx hb dX6_holesShifted_69 rfl (lv_at hl 4 rfl) ?_
      refine lv_iconst (v := 0) hx hb dX6_holesShifted_70 (by decide) ?_
      refine lv_iload hx hb dX6_holesShifted_71 (lv_at hl 1 rfl) ?_
      refine ct_calli (D := D) (wr := [(qd_met, .inl (cI, 6, .inl (fd_met)))]) (va_runS (As := [.ref qd, .int 0, .int z291]) (rest := [.int r298, .ref qd]) ⟨hx, hb, hml, hown, hts⟩ (c_X6_stepIn l D G cI cJ cB cZ cO qd vd_gap vd_odds vd_rain vd_lines qd_steps fd_steps qd_lengths fd_lengths qd_starts fd_starts qd_met qd_stumbles vd_stumbleCount qd_muds qd_cells vd_cellCount qd_tunes vd_tuneCount qd_changes vd_changeCount 0 z291 h_vd_gap h_fd_steps h_fd_lengths h_fd_starts h_vd_stumbleCount h_vd_cellCount h_vd_tuneCount h_vd_changeCount (by decide) H.size) (va_cwS 3 hts gX6_holesShifted_X6_stepIn rfl rfl rfl (by decide +kernel) ⟨Nat.le_of_ble_eq_true rfl, Nat.le_of_ble_eq_true rfl⟩) (ct_preS (T := ct_T cI cJ cB cZ cO) hE hH hP hD hS hA [1, 2, 3, 4] (by decide) rfl) rfl rfl hl.1 rfl (lv_room (Nat.le_of_ble_eq_true rfl)) dX6_holesShifted_73 ⟨Nat.le_of_ble_eq_true rfl, Nat.le_of_ble_eq_true rfl⟩) hP hD hS hA [1, 2, 3, 4] [0] rfl rfl (by decide) (by decide) (fun r299 u H locs hw hP hD hS => ?_)
      obtain ⟨hP, hD⟩ : ct_B D A H [(qd_met, .inl (cI, 6, .inl (fd_met))), dn qd vd_gap vd_odds vd_rain vd_lines qd_steps qd_lengths qd_starts qd_met qd_stumbles vd_stumbleCount qd_muds qd_cells vd_cellCount qd_tunes vd_tuneCount qd_changes vd_changeCount, (qd_steps, .inl (cI, 24, .inl (fd_steps))), (qd_lengths, .inl (cI, 2, .inl (fd_lengths))), (qd_starts, .inl (cI, 2, .inl (fd_starts)))] := ⟨hP, hD⟩
      have hz := hw
      have h_r299 : 0 ≤ r299.toInt ∧ r299.toInt ≤ 5 := hz
      refine ct_calli (D := D) (wr := [(qd_steps, .inl (cI, 24, .inl (fd_steps))), (qd_lengths, .inl (cI, 2, .inl (fd_lengths))), (qd_starts, .inl (cI, 2, .inl (fd_starts)))]) (va_runV (As := [.int r298, .int r299]) (rest := []) ⟨hx, hb, hml, hown, hts⟩ (c_X0_isHole l D G cI cJ cB cZ cO qd vd_gap vd_odds vd_rain vd_lines qd_steps qd_lengths qd_starts qd_met fd_met qd_stumbles vd_stumbleCount qd_muds qd_cells vd_cellCount qd_tunes vd_tuneCount qd_changes vd_changeCount r298 r299 h_vd_gap h_vd_stumbleCount h_vd_cellCount h_vd_tuneCount h_vd_changeCount (by omega) H.size) (cwV 2 hts gX6_holesShifted_X0_isHole rfl rfl rfl (by decide +kernel) ⟨Nat.le_of_ble_eq_true rfl, Nat.le_of_ble_eq_true rfl⟩) (ct_preV (T := ct_T cI cJ cB cZ cO) (ci := 0) (q0 := 1) hE hH hP hD hS hA [1, 0] (by decide) rfl rfl rfl) rfl rfl hl.1 rfl (lv_room (Nat.le_of_ble_eq_true rfl)) dX6_holesShifted_76 ⟨Nat.le_of_ble_eq_true rfl, Nat.le_of_ble_eq_true rfl⟩) hP hD hS hA [1, 0] [2, 3, 4] rfl rfl (by decide) (by decide) (fun r300 u H locs hw hP hD hS => ?_)
      obtain ⟨hP, hD⟩ : ct_B D A H [(qd_steps, .inl (cI, 24, .inl (fd_steps))), (qd_lengths, .inl (cI, 2, .inl (fd_lengths))), (qd_starts, .inl (cI, 2, .inl (fd_starts))), dn qd vd_gap vd_odds vd_rain vd_lines qd_steps qd_lengths qd_starts qd_met qd_stumbles vd_stumbleCount qd_muds qd_cells vd_cellCount qd_tunes vd_tuneCount qd_changes vd_changeCount, (qd_met, .inl (cI, 6, .inl (fd_met)))] := ⟨hP, hD⟩
      have hz := hw
      rcases hz with ⟨hz, hz2⟩ | ⟨hz, hz2⟩
      · subst hz
        refine lv_if_eq (tgt := 85) hx hb dX6_holesShifted_79 (by decide) (fun hc => absurd hc (by decide)) (fun _ => ?_)
        obtain ⟨z301, ez301⟩ : ∃ z : Int32, z = z296 + 1 := ⟨_, rfl⟩
        refine lv_iinc (v := z301) (lv' := [(3, .int z301), (5, .int z291), (4, .int x284), (2, .int z2), (0, .ref qd), (1, .int a2)]) hx hb dX6_holesShifted_82 hl (k := 0) rfl ez301.symm (by decide) rfl (fun ls hl => ?_)
        obtain ⟨z302, ez302⟩ : ∃ z : Int32, z = x284 + 1 := ⟨_, rfl⟩
        have fz302 : z302.toInt = x284.toInt + 1 := by rw [ez302]; exact tq_add rfl (by decide) (by omega)
        refine lv_iinc (v := z302) (lv' := [(4, .int z302), (3, .int z301), (5, .int z291), (2, .int z2), (0, .ref qd), (1, .int a2)]) hx hb dX6_holesShifted_85 hl (k := 2) rfl ez302.symm (by decide) rfl (fun ls hl => ?_)
        refine lv_goto (tgt := 18) hx hb dX6_holesShifted_88 (by decide) ?_
        obtain ⟨hP9, hD9⟩ : ct_B D A H [(qd_steps, .inl (cI, 24, .inl (fd_steps))), (qd_starts, .inl (cI, 2, .inl (fd_starts))), (qd_met, .inl (cI, 6, .inl (fd_met))), dn qd vd_gap vd_odds vd_rain vd_lines qd_steps qd_lengths qd_starts qd_met qd_stumbles vd_stumbleCount qd_muds qd_cells vd_cellCount qd_tunes vd_tuneCount qd_changes vd_changeCount, (qd_lengths, .inl (cI, 2, .inl (fd_lengths)))] := ⟨hP.sub [0, 2, 4, 3, 1] rfl, hD.sub [0, 2, 4, 3, 1] (by decide) rfl⟩
        exact ih285 (z301, z302) _ _ _ (show (2147483647 - z302.toInt).toNat < (2147483647 - x284.toInt).toNat by omega) ⟨(show 0 ≤ z302.toInt by omega), ⟨hP9, hD9⟩, hS, lv_sub hl [0, 1, 3, 4, 5] rfl⟩
      · subst hz
        refine lv_if_eq (tgt := 85) hx hb dX6_holesShifted_79 (by decide) (fun _ => ?_) (fun hc => absurd hc (by decide))
        obtain ⟨z303, ez303⟩ : ∃ z : Int32, z = x284 + 1 := ⟨_, rfl⟩
        have fz303 : z303.toInt = x284.toInt + 1 := by rw [ez303]; exact tq_add rfl (by decide) (by omega)
        refine lv_iinc (v := z303) (lv' := [(4, .int z303), (3, .int z296), (5, .int z291), (2, .int z2), (0, .ref qd), (1, .int a2)]) hx hb dX6_holesShifted_85 hl (k := 2) rfl ez303.symm (by decide) rfl (fun ls hl => ?_)
        refine lv_goto (tgt := 18) hx hb dX6_holesShifted_88 (by decide) ?_
        obtain ⟨hP9, hD9⟩ : ct_B D A H [(qd_steps, .inl (cI, 24, .inl (fd_steps))), (qd_starts, .inl (cI, 2, .inl (fd_starts))), (qd_met, .inl (cI, 6, .inl (fd_met))), dn qd vd_gap vd_odds vd_rain vd_lines qd_steps qd_lengths qd_starts qd_met qd_stumbles vd_stumbleCount qd_muds qd_cells vd_cellCount qd_tunes vd_tuneCount qd_changes vd_changeCount, (qd_lengths, .inl (cI, 2, .inl (fd_lengths)))] := ⟨hP.sub [0, 2, 4, 3, 1] rfl, hD.sub [0, 2, 4, 3, 1] (by decide) rfl⟩
        exact ih285 (z296, z303) _ _ _ (show (2147483647 - z303.toInt).toNat < (2147483647 - x284.toInt).toNat by omega) ⟨(show 0 ≤ z303.toInt by omega), ⟨hP9, hD9⟩, hS, lv_sub hl [0, 1, 3, 4, 5] rfl⟩
    · subst hz
      refine lv_if_eq (tgt := 59) hx hb dX6_holesShifted_53 (by decide) (fun _ => ?_) (fun hc => absurd hc (by decide))
      refine lv_aload_n hx hb dX6_holesShifted_59 rfl (lv_at hl 4 rfl) ?_
      refine lv_aload_n hx hb dX6_holesShifted_60 rfl (lv_at hl 4 rfl) ?_
      refine lv_iconst (v := 1) hx hb dX6_holesShifted_61 (by decide) ?_
      refine lv_iload hx hb dX6_holesShifted_62 (lv_at hl 1 rfl) ?_
      refine lv_iload_n hx hb dX6_holesShifted_64 rfl (lv_at hl 5 rfl) ?_
      refine lv_iadd hx hb dX6_holesShifted_65 ?_
      refine lv_topi (fun z304 ez304 => ?_)
      refine ct_calli (D := D) (wr := [(qd_met, .inl (cI, 6, .inl (fd_met)))]) (va_runS (As := [.ref qd, .int 1, .int z304]) (rest := [.ref qd]) ⟨hx, hb, hml, hown, hts⟩ (c_X6_stepIn l D G cI cJ cB cZ cO qd vd_gap vd_odds vd_rain vd_lines qd_steps fd_steps qd_lengths fd_lengths qd_starts fd_starts qd_met qd_stumbles vd_stumbleCount qd_muds qd_cells vd_cellCount qd_tunes vd_tuneCount qd_changes vd_changeCount 1 z304 h_vd_gap h_fd_steps h_fd_lengths h_fd_starts h_vd_stumbleCount h_vd_cellCount h_vd_tuneCount h_vd_changeCount (by decide) H.size) (va_cwS 3 hts gX6_holesShifted_X6_stepIn rfl rfl rfl (by decide +kernel) ⟨Nat.le_of_ble_eq_true rfl, Nat.le_of_ble_eq_true rfl⟩) (ct_preS (T := ct_T cI cJ cB cZ cO) hE hH hP hD hS hA [3, 0, 1, 2] (by decide) rfl) rfl rfl hl.1 rfl (lv_room (Nat.le_of_ble_eq_true rfl)) dX6_holesShifted_66 ⟨Nat.le_of_ble_eq_true rfl, Nat.le_of_ble_eq_true rfl⟩) hP hD hS hA [3, 0, 1, 2] [4] rfl rfl (by decide) (by decide) (fun r305 u H locs hw hP hD hS => ?_)
      obtain ⟨hP, hD⟩ : ct_B D A H [(qd_met, .inl (cI, 6, .inl (fd_met))), dn qd vd_gap vd_odds vd_rain vd_lines qd_steps qd_lengths qd_starts qd_met qd_stumbles vd_stumbleCount qd_muds qd_cells vd_cellCount qd_tunes vd_tuneCount qd_changes vd_changeCount, (qd_steps, .inl (cI, 24, .inl (fd_steps))), (qd_lengths, .inl (cI, 2, .inl (fd_lengths))), (qd_starts, .inl (cI, 2, .inl (fd_starts)))] := ⟨hP, hD⟩
      have hz := hw
      have h_r305 : 0 ≤ r305.toInt ∧ r305.toInt ≤ 5 := hz
      refine lv_aload_n hx hb dX6_holesShifted_69 rfl (lv_at hl 4 rfl) ?_
      refine lv_iconst (v := 0) hx hb dX6_holesShifted_70 (by decide) ?_
      refine lv_iload hx hb dX6_holesShifted_71 (lv_at hl 0 rfl) ?_
      refine ct_calli (D := D) (wr := [(qd_met, .inl (cI, 6, .inl (fd_met)))]) (va_runS (As := [.ref qd, .int 0, .int z291]) (rest := [.int r305, .ref qd]) ⟨hx, hb, hml, hown, hts⟩ (c_X6_stepIn l D G cI cJ cB cZ cO qd vd_gap vd_odds vd_rain vd_lines qd_steps fd_steps qd_lengths fd_lengths qd_starts fd_starts qd_met qd_stumbles vd_stumbleCount qd_muds qd_cells vd_cellCount qd_tunes vd_tuneCount qd_changes vd_changeCount 0 z291 h_vd_gap h_fd_steps h_fd_lengths h_fd_starts h_vd_stumbleCount h_vd_cellCount h_vd_tuneCount h_vd_changeCount (by decide) H.size) (va_cwS 3 hts gX6_holesShifted_X6_stepIn rfl rfl rfl (by decide +kernel) ⟨Nat.le_of_ble_eq_true rfl, Nat.le_of_ble_eq_true rfl⟩) (ct_preS (T := ct_T cI cJ cB cZ cO) hE hH hP hD hS hA [1, 2, 3, 4] (by decide) rfl) rfl rfl hl.1 rfl (lv_room (Nat.le_of_ble_eq_true rfl)) dX6_holesShifted_73 ⟨Nat.le_of_ble_eq_true rfl, Nat.le_of_ble_eq_true rfl⟩) hP hD hS hA [1, 2, 3, 4] [0] rfl rfl (by decide) (by decide) (fun r306 u H locs hw hP hD hS => ?_)
      obtain ⟨hP, hD⟩ : ct_B D A H [(qd_met, .inl (cI, 6, .inl (fd_met))), dn qd vd_gap vd_odds vd_rain vd_lines qd_steps qd_lengths qd_starts qd_met qd_stumbles vd_stumbleCount qd_muds qd_cells vd_cellCount qd_tunes vd_tuneCount qd_changes vd_changeCount, (qd_steps, .inl (cI, 24, .inl (fd_steps))), (qd_lengths, .inl (cI, 2, .inl (fd_lengths))), (qd_starts, .inl (cI, 2, .inl (fd_starts)))] := ⟨hP, hD⟩
      have hz := hw
      have h_r306 : 0 ≤ r306.toInt ∧ r306.toInt ≤ 5 := hz
      refine ct_calli (D := D) (wr := [(qd_steps, .inl (cI, 24, .inl (fd_steps))), (qd_lengths, .inl (cI, 2, .inl (fd_lengths))), (qd_starts, .inl (cI, 2, .inl (fd_starts)))]) (va_runV (As := [.int r305, .int r306]) (rest := []) ⟨hx, hb, hml, hown, hts⟩ (c_X0_isHole l D G cI cJ cB cZ cO qd vd_gap vd_odds vd_rain vd_lines qd_steps qd_lengths qd_starts qd_met fd_met qd_stumbles vd_stumbleCount qd_muds qd_cells vd_cellCount qd_tunes vd_tuneCount qd_changes vd_changeCount r305 r306 h_vd_gap h_vd_stumbleCount h_vd_cellCount h_vd_tuneCount h_vd_changeCount (by omega) H.size) (cwV 2 hts gX6_holesShifted_X0_isHole rfl rfl rfl (by decide +kernel) ⟨Nat.le_of_ble_eq_true rfl, Nat.le_of_ble_eq_true rfl⟩) (ct_preV (T := ct_T cI cJ cB cZ cO) (ci := 0) (q0 := 1) hE hH hP hD hS hA [1, 0] (by decide) rfl rfl rfl) rfl rfl hl.1 rfl (lv_room (Nat.le_of_ble_eq_true rfl)) dX6_holesShifted_76 ⟨Nat.le_of_ble_eq_true rfl, Nat.le_of_ble_eq_true rfl⟩) hP hD hS hA [1, 0] [2, 3, 4] rfl rfl (by decide) (by decide) (fun r307 u H locs hw hP hD hS => ?_)
      obtain ⟨hP, hD⟩ : ct_B D A H [(qd_steps, .inl (cI, 24, .inl (fd_steps))), (qd_lengths, .inl (cI, 2, .inl (fd_lengths))), (qd_starts, .inl (cI, 2, .inl (fd_starts))), dn qd vd_gap vd_odds vd_rain vd_lines qd_steps qd_lengths qd_starts qd_met qd_stumbles vd_stumbleCount qd_muds qd_cells vd_cellCount qd_tunes vd_tuneCount qd_changes vd_changeCount, (qd_met, .inl (cI, 6, .inl (fd_met)))] := ⟨hP, hD⟩
      have hz := hw
      rcases hz with ⟨hz, hz2⟩ | ⟨hz, hz2⟩
      · subst hz
        refine lv_if_eq (tgt := 85) hx hb dX6_holesShifted_79 (by decide) (fun hc => absurd hc (by decide)) (fun _ => ?_)
        obtain ⟨z308, ez308⟩ : ∃ z : Int32, z = x283 + 1 := ⟨_, rfl⟩
        refine lv_iinc (v := z308) (lv' := [(3, .int z308), (5, .int z291), (4, .int x284), (2, .int z2), (0, .ref qd), (1, .int a2)]) hx hb dX6_holesShifted_82 hl (k := 2) rfl ez308.symm (by decide) rfl (fun ls hl => ?_)
        obtain ⟨z309, ez309⟩ : ∃ z : Int32, z = x284 + 1 := ⟨_, rfl⟩
        have fz309 : z309.toInt = x284.toInt + 1 := by rw [ez309]; exact tq_add rfl (by decide) (by omega)
        refine lv_iinc (v := z309) (lv' := [(4, .int z309), (3, .int z308), (5, .int z291), (2, .int z2), (0, .ref qd), (1, .int a2)]) hx hb dX6_holesShifted_85 hl (k := 2) rfl ez309.symm (by decide) rfl (fun ls hl => ?_)
        refine lv_goto (tgt := 18) hx hb dX6_holesShifted_88 (by decide) ?_
        obtain ⟨hP9, hD9⟩ : ct_B D A H [(qd_steps, .inl (cI, 24, .inl (fd_steps))), (qd_starts, .inl (cI, 2, .inl (fd_starts))), (qd_met, .inl (cI, 6, .inl (fd_met))), dn qd vd_gap vd_odds vd_rain vd_lines qd_steps qd_lengths qd_starts qd_met qd_stumbles vd_stumbleCount qd_muds qd_cells vd_cellCount qd_tunes vd_tuneCount qd_changes vd_changeCount, (qd_lengths, .inl (cI, 2, .inl (fd_lengths)))] := ⟨hP.sub [0, 2, 4, 3, 1] rfl, hD.sub [0, 2, 4, 3, 1] (by decide) rfl⟩
        exact ih285 (z308, z309) _ _ _ (show (2147483647 - z309.toInt).toNat < (2147483647 - x284.toInt).toNat by omega) ⟨(show 0 ≤ z309.toInt by omega), ⟨hP9, hD9⟩, hS, lv_sub hl [0, 1, 3, 4, 5] rfl⟩
      · subst hz
        refine lv_if_eq (tgt := 85) hx hb dX6_holesShifted_79 (by decide) (fun _ => ?_) (fun hc => absurd hc (by decide))
        obtain ⟨z310, ez310⟩ : ∃ z : Int32, z = x284 + 1 := ⟨_, rfl⟩
        have fz310 : z310.toInt = x284.toInt + 1 := by rw [ez310]; exact tq_add rfl (by decide) (by omega)
        refine lv_iinc (v := z310) (lv' := [(4, .int z310), (5, .int z291), (3, .int x283), (2, .int z2), (0, .ref qd), (1, .int a2)]) hx hb dX6_holesShifted_85 hl (k := 1) rfl ez310.symm (by decide) rfl (fun ls hl => ?_)
        refine lv_goto (tgt := 18) hx hb dX6_holesShifted_88 (by decide) ?_
        obtain ⟨hP9, hD9⟩ : ct_B D A H [(qd_steps, .inl (cI, 24, .inl (fd_steps))), (qd_starts, .inl (cI, 2, .inl (fd_starts))), (qd_met, .inl (cI, 6, .inl (fd_met))), dn qd vd_gap vd_odds vd_rain vd_lines qd_steps qd_lengths qd_starts qd_met qd_stumbles vd_stumbleCount qd_muds qd_cells vd_cellCount qd_tunes vd_tuneCount qd_changes vd_changeCount, (qd_lengths, .inl (cI, 2, .inl (fd_lengths)))] := ⟨hP.sub [0, 2, 4, 3, 1] rfl, hD.sub [0, 2, 4, 3, 1] (by decide) rfl⟩
        exact ih285 (x283, z310) _ _ _ (show (2147483647 - z310.toInt).toNat < (2147483647 - x284.toInt).toNat by omega) ⟨(show 0 ≤ z310.toInt by omega), ⟨hP9, hD9⟩, hS, lv_sub hl [0, 2, 3, 4, 5] rfl⟩
abbrev w_c_X6_leastShift (cI cJ cB cZ cO : ClassId) (qd : Nat) (vd_gap : Int32) (vd_odds : Int32) (vd_rain : Int32) (vd_lines : Int32) (qd_steps : Nat) (fd_steps : Nat → Int32) (qd_lengths : Nat) (fd_lengths : Nat → Int32) (qd_starts : Nat) (fd_starts : Nat → Int32) (qd_met : Nat) (fd_met : Nat → Int32) (qd_stumbles : Nat) (vd_stumbleCount : Int32) (qd_muds : Nat) (qd_cells : Nat) (vd_cellCount : Int32) (qd_tunes : Nat) (vd_tuneCount : Int32) (qd_changes : Nat) (vd_changeCount : Int32) : va_W := [dn qd vd_gap vd_odds vd_rain vd_lines qd_steps qd_lengths qd_starts qd_met qd_stumbles vd_stumbleCount qd_muds qd_cells vd_cellCount qd_tunes vd_tuneCount qd_changes vd_changeCount, (qd_steps, .inl (cI, 24, .inl (fd_steps))), (qd_lengths, .inl (cI, 2, .inl (fd_lengths))), (qd_starts, .inl (cI, 2, .inl (fd_starts))), (qd_met, .inl (cI, 6, .inl (fd_met)))]
set_option maxHeartbeats 4000000 in
set_option maxRecDepth 100000 in
/-- X6 leastShift -/
theorem c_X6_leastShift (l : Launch) (D : va_G) (G : ct_G) (cI cJ cB cZ cO : ClassId) (qd : Nat) (vd_gap : Int32) (vd_odds : Int32) (vd_rain : Int32) (vd_lines : Int32) (qd_steps : Nat) (fd_steps : Nat → Int32) (qd_lengths : Nat) (fd_lengths : Nat → Int32) (qd_starts : Nat) (fd_starts : Nat → Int32) (qd_met : Nat) (fd_met : Nat → Int32) (qd_stumbles : Nat) (vd_stumbleCount : Int32) (qd_muds : Nat) (qd_cells : Nat) (vd_cellCount : Int32) (qd_tunes : Nat) (vd_tuneCount : Int32) (qd_changes : Nat) (vd_changeCount : Int32) (h_vd_gap : 0 ≤ vd_gap.toInt ∧ vd_gap.toInt ≤ 20) (h_fd_steps : ar_ok [0] [5] fd_steps) (h_fd_lengths : ar_ok [0] [12] fd_lengths) (h_fd_starts : ar_ok [0] [11] fd_starts) (h_vd_stumbleCount : 0 ≤ vd_stumbleCount.toInt ∧ vd_stumbleCount.toInt ≤ 8) (h_vd_cellCount : 0 ≤ vd_cellCount.toInt ∧ vd_cellCount.toInt ≤ 12) (h_vd_tuneCount : 0 ≤ vd_tuneCount.toInt ∧ vd_tuneCount.toInt ≤ 5) (h_vd_changeCount : 0 ≤ vd_changeCount.toInt ∧ vd_changeCount.toInt ≤ 40) (sz : Nat) : Met l yX6_leastShift wsX6_leastShift ({ frames := 5, cells := 0, slots := 0, locals := 112 }) (va_Pc [.ref qd] (ct_P D (ct_T cI cJ cB cZ cO) G (w_c_X6_leastShift cI cJ cB cZ cO qd vd_gap vd_odds vd_rain vd_lines qd_steps fd_steps qd_lengths fd_lengths qd_starts fd_starts qd_met fd_met qd_stumbles vd_stumbleCount qd_muds qd_cells vd_cellCount qd_tunes vd_tuneCount qd_changes vd_changeCount) sz)) (va_Qi (fun (rz : Int32) (u : Unit) => (0 ≤ rz.toInt ∧ rz.toInt ≤ 11)) (fun (u : Unit) t => ct_Q D (va_A (w_c_X6_leastShift cI cJ cB cZ cO qd vd_gap vd_odds vd_rain vd_lines qd_steps fd_steps qd_lengths fd_lengths qd_starts fd_starts qd_met fd_met qd_stumbles vd_stumbleCount qd_muds qd_cells vd_cellCount qd_tunes vd_tuneCount qd_changes vd_changeCount) sz) [dn qd vd_gap vd_odds vd_rain vd_lines qd_steps qd_lengths qd_starts qd_met qd_stumbles vd_stumbleCount qd_muds qd_cells vd_cellCount qd_tunes vd_tuneCount qd_changes vd_changeCount, (qd_steps, .inl (cI, 24, .inl (fd_steps))), (qd_lengths, .inl (cI, 2, .inl (fd_lengths))), (qd_starts, .inl (cI, 2, .inl (fd_starts))), (qd_met, .inl (cI, 6, .inl (fd_met)))] t) (va_A (w_c_X6_leastShift cI cJ cB cZ cO qd vd_gap vd_odds vd_rain vd_lines qd_steps fd_steps qd_lengths fd_lengths qd_starts fd_starts qd_met fd_met qd_stumbles vd_stumbleCount qd_muds qd_cells vd_cellCount qd_tunes vd_tuneCount qd_changes vd_changeCount) sz)) 0 0 (va_A (w_c_X6_leastShift cI cJ cB cZ cO qd vd_gap vd_odds vd_rain vd_lines qd_steps fd_steps qd_lengths fd_lengths qd_starts fd_starts qd_met fd_met qd_stumbles vd_stumbleCount qd_muds qd_cells vd_cellCount qd_tunes vd_tuneCount qd_changes vd_changeCount) sz) := by
  refine Met.ofW (cc := cX6_leastShift) (maxL := 5) (ret := (some .int)) (by decide) rfl ?_
  intro p e s m args below meth c s₁ B hml hv
  obtain ⟨rfl, hsz, hP, hE, hD0, hH⟩ := hv
  have hx := B.exec
  have hb := B.bytes
  have hr := B.returns
  have hts := atoms_spec (ws := wsX6_leastShift) B.pre
  have hown : s.vm.findClass RX6 = some m.cls := findClass_of_methodNamed B.named
  have hlocks := B.notSynchronized
  have hK := hE.1
  have hi0 : ∀ w ∈ u_ws RX0 TX0 17, w ∈ wsX6_leastShift := fun w h => List.mem_cons_of_mem _ (List.mem_append_right _ h)
  subst hsz
  have hD := hD0.self (sz := s.heap.size)
  generalize hAe : va_A (w_c_X6_leastShift cI cJ cB cZ cO qd vd_gap vd_odds vd_rain vd_lines qd_steps fd_steps qd_lengths fd_lengths qd_starts fd_starts qd_met fd_met qd_stumbles vd_stumbleCount qd_muds qd_cells vd_cellCount qd_tunes vd_tuneCount qd_changes vd_changeCount) s.heap.size = A at hD hH ⊢
  have hA : ∀ q : Nat, s.heap.size ≤ q → A q := fun q h => by rw [← hAe]; exact Or.inr h
  have hS : va_S A s.heap s.heap [] := va_S.rf
  obtain ⟨hP, hD⟩ : ct_B D A s.heap [dn qd vd_gap vd_odds vd_rain vd_lines qd_steps qd_lengths qd_starts qd_met qd_stumbles vd_stumbleCount qd_muds qd_cells vd_cellCount qd_tunes vd_tuneCount qd_changes vd_changeCount, (qd_steps, .inl (cI, 24, .inl (fd_steps))), (qd_lengths, .inl (cI, 2, .inl (fd_lengths))), (qd_starts, .inl (cI, 2, .inl (fd_starts))), (qd_met, .inl (cI, 6, .inl (fd_met)))] := ⟨hP, hD⟩
  have hl := lv_entry ([.ref qd]) (n := 5) (Nat.le_of_ble_eq_true rfl)
  rw [lg_entry_eq]
  generalize (lg_sl ([.ref qd]) ++ List.replicate (5 - (lg_sl ([.ref qd])).length) Slot.unset).toArray = ls at hl ⊢
  have hl : lv_has ls 5 [(0, .ref qd)] := hl
  obtain ⟨H, hHe⟩ : ∃ H : Heap, H = s.heap := ⟨_, rfl⟩
  rw [← hHe] at hP
  have hS : va_S A s.heap H [] := by rw [hHe]; exact va_S.rf
  refine ct_start hHe ?_
  refine lv_iconst (v := 0) hx hb dX6_leastShift_0 (by decide) ?_
  refine lv_istore_n (lv' := [(1, .int 0), (0, .ref qd)]) hx hb dX6_leastShift_1 rfl hl (by decide) rfl (fun ls hl => ?_)
  refine lv_aload_n hx hb dX6_leastShift_2 rfl (lv_at hl 1 rfl) ?_
  refine lv_iconst (v := 0) hx hb dX6_leastShift_3 (by decide) ?_
  refine ct_calli (D := D) (wr := []) (va_runS (As := [.ref qd, .int 0]) (rest := []) ⟨hx, hb, hml, hown, hts⟩ (c_X6_holesShifted l D G cI cJ cB cZ cO qd vd_gap vd_odds vd_rain vd_lines qd_steps fd_steps qd_lengths fd_lengths qd_starts fd_starts qd_met fd_met qd_stumbles vd_stumbleCount qd_muds qd_cells vd_cellCount qd_tunes vd_tuneCount qd_changes vd_changeCount 0 h_vd_gap h_fd_steps h_fd_lengths h_fd_starts h_vd_stumbleCount h_vd_cellCount h_vd_tuneCount h_vd_changeCount H.size) (va_cwS 2 hts gX6_leastShift_X6_holesShifted rfl rfl rfl (by decide +kernel) ⟨Nat.le_of_ble_eq_true rfl, Nat.le_of_ble_eq_true rfl⟩) (ct_preS (T := ct_T cI cJ cB cZ cO) hE hH hP hD hS hA [0, 1, 2, 3, 4] (by decide) rfl) rfl rfl hl.1 rfl (lv_room (Nat.le_of_ble_eq_true rfl)) dX6_leastShift_4 ⟨Nat.le_of_ble_eq_true rfl, Nat.le_of_ble_eq_true rfl⟩) hP hD hS hA [0, 1, 2, 3, 4] [] rfl rfl (by decide) (by decide) (fun r1 u H locs hw hP hD hS => ?_)
  obtain ⟨hP, hD⟩ : ct_B D A H [dn qd vd_gap vd_odds vd_rain vd_lines qd_steps qd_lengths qd_starts qd_met qd_stumbles vd_stumbleCount qd_muds qd_cells vd_cellCount qd_tunes vd_tuneCount qd_changes vd_changeCount, (qd_steps, .inl (cI, 24, .inl (fd_steps))), (qd_lengths, .inl (cI, 2, .inl (fd_lengths))), (qd_starts, .inl (cI, 2, .inl (fd_starts))), (qd_met, .inl (cI, 6, .inl (fd_met)))] := ⟨hP, hD⟩
  refine lv_istore_n (lv' := [(2, .int r1), (1, .int 0), (0, .ref qd)]) hx hb dX6_leastShift_7 rfl hl (by decide) rfl (fun ls hl => ?_)
  refine lv_iconst (v := 1) hx hb dX6_leastShift_8 (by decide) ?_
  refine lv_istore_n (lv' := [(3, .int 1), (2, .int r1), (1, .int 0), (0, .ref qd)]) hx hb dX6_leastShift_9 rfl hl (by decide) rfl (fun ls hl => ?_)
  refine ct_loop (X := Int32 × Int32 × Int32) (fun x => (12 - x.2.2.toInt).toNat) (fun x H locs ls => ((0 ≤ x.1.toInt ∧ x.1.toInt ≤ 11)) ∧ ((1 ≤ x.2.2.toInt ∧ x.2.2.toInt ≤ 12)) ∧ ct_B D A H [dn qd vd_gap vd_odds vd_rain vd_lines qd_steps qd_lengths qd_starts qd_met qd_stumbles vd_stumbleCount qd_muds qd_cells vd_cellCount qd_tunes vd_tuneCount qd_changes vd_changeCount, (qd_steps, .inl (cI, 24, .inl (fd_steps))), (qd_lengths, .inl (cI, 2, .inl (fd_lengths))), (qd_starts, .inl (cI, 2, .inl (fd_starts))), (qd_met, .inl (cI, 6, .inl (fd_met)))] ∧ va_S A s.heap H locs ∧ lv_has ls 5 [(3, .int x.2.2), (2, .int x.2.1), (1, .int x.1), (0, .ref qd)]) 10 ((0 : Int32), r1, (1 : Int32)) ⟨(show 0 ≤ (0 : Int32).toInt ∧ (0 : Int32).toInt ≤ 11 by decide), (show 1 ≤ (1 : Int32).toInt ∧ (1 : Int32).toInt ≤ 12 by decide), ⟨hP, hD⟩, hS, lv_sub hl [0, 1, 2, 3] rfl⟩ (fun x ih169 H locs ls hI => ?_)
  obtain ⟨x166, x167, x168⟩ := x
  obtain ⟨h_x166, h_x168, ⟨hP, hD⟩, hS, hl⟩ := hI
  have h_x166 : (0 ≤ x166.toInt ∧ x166.toInt ≤ 11) := h_x166
  have h_x168 : (1 ≤ x168.toInt ∧ x168.toInt ≤ 12) := h_x168
  obtain ⟨hP, hD⟩ : ct_B D A H [dn qd vd_gap vd_odds vd_rain vd_lines qd_steps qd_lengths qd_starts qd_met qd_stumbles vd_stumbleCount qd_muds qd_cells vd_cellCount qd_tunes vd_tuneCount qd_changes vd_changeCount, (qd_steps, .inl (cI, 24, .inl (fd_steps))), (qd_lengths, .inl (cI, 2, .inl (fd_lengths))), (qd_starts, .inl (cI, 2, .inl (fd_starts))), (qd_met, .inl (cI, 6, .inl (fd_met)))] := ⟨hP, hD⟩
  have hl : lv_has ls 5 [(3, .int x168), (2, .int x167), (1, .int x166), (0, .ref qd)] := hl
  refine lv_iload_n hx hb dX6_leastShift_10 rfl (lv_at hl 0 rfl) ?_
  refine lv_aload_n hx hb dX6_leastShift_11 rfl (lv_at hl 3 rfl) ?_
  refine va_get (D := D) (ci := 0) (v := .ref qd_lengths) (C := RX0) (T := TX0) (N := 17) hx hb hts hi0 hown hK hP 0 rfl rfl 5 (by decide) (hts (.fieldLink RX6 15 "OverHill$Dance" "lengths" "[I") (by decide +kernel)) (fun _ h9 => h9) rfl dX6_leastShift_12 ?_
  refine lv_iconst (v := 1) hx hb dX6_leastShift_15 (by decide) ?_
  refine va_iald (D := D) hx hb hK hP 2 0 rfl rfl (tq_in (a := 1) (by decide) (by omega)) dX6_leastShift_16 ?_
  refine lv_topi (fun z170 ez170 => ?_)
  have fz170 : 0 ≤ z170.toInt ∧ z170.toInt ≤ 12 := by rw [ez170]; exact ar_get h_fd_lengths (1 : Int32) 0 (by decide) (by decide) rfl
  refine lv_icmp_ge (tgt := 44) hx hb dX6_leastShift_17 (by decide) (fun hc => ?_) (fun hc => ?_)
  · have hq171 : z170.toInt ≤ x168.toInt := tq_le rfl rfl hc
    refine lv_iload_n hx hb dX6_leastShift_44 rfl (lv_at hl 2 rfl) ?_
    obtain ⟨hP9, hD9⟩ : ct_B D A H [dn qd vd_gap vd_odds vd_rain vd_lines qd_steps qd_lengths qd_starts qd_met qd_stumbles vd_stumbleCount qd_muds qd_cells vd_cellCount qd_tunes vd_tuneCount qd_changes vd_changeCount, (qd_steps, .inl (cI, 24, .inl (fd_steps))), (qd_lengths, .inl (cI, 2, .inl (fd_lengths))), (qd_starts, .inl (cI, 2, .inl (fd_starts))), (qd_met, .inl (cI, 6, .inl (fd_met)))] := ⟨hP.sub [0, 1, 2, 3, 4] rfl, hD.sub [0, 1, 2, 3, 4] (by decide) rfl⟩
    exact W.iret (v := x166) hx hb hr (fun t ht hW => ⟨⟨x166, (), rfl, h_x166, by rw [ht]; exact hP9, hD9⟩, hS.F ht⟩) hS.2.2 dX6_leastShift_45
  · have hq171 : x168.toInt < z170.toInt := tq_nle rfl rfl hc
    refine lv_aload_n hx hb dX6_leastShift_20 rfl (lv_at hl 3 rfl) ?_
    refine lv_iload_n hx hb dX6_leastShift_21 rfl (lv_at hl 0 rfl) ?_
    refine ct_calli (D := D) (wr := []) (va_runS (As := [.ref qd, .int x168]) (rest := []) ⟨hx, hb, hml, hown, hts⟩ (c_X6_holesShifted l D G cI cJ cB cZ cO qd vd_gap vd_odds vd_rain vd_lines qd_steps fd_steps qd_lengths fd_lengths qd_starts fd_starts qd_met fd_met qd_stumbles vd_stumbleCount qd_muds qd_cells vd_cellCount qd_tunes vd_tuneCount qd_changes vd_changeCount x168 h_vd_gap h_fd_steps h_fd_lengths h_fd_starts h_vd_stumbleCount h_vd_cellCount h_vd_tuneCount h_vd_changeCount H.size) (va_cwS 2 hts gX6_leastShift_X6_holesShifted rfl rfl rfl (by decide +kernel) ⟨Nat.le_of_ble_eq_true rfl, Nat.le_of_ble_eq_true rfl⟩) (ct_preS (T := ct_T cI cJ cB cZ cO) hE hH hP hD hS hA [0, 1, 2, 3, 4] (by decide) rfl) rfl rfl hl.1 rfl (lv_room (Nat.le_of_ble_eq_true rfl)) dX6_leastShift_22 ⟨Nat.le_of_ble_eq_true rfl, Nat.le_of_ble_eq_true rfl⟩) hP hD hS hA [0, 1, 2, 3, 4] [] rfl rfl (by decide) (by decide) (fun r172 u H locs hw hP hD hS => ?_)
    obtain ⟨hP, hD⟩ : ct_B D A H [dn qd vd_gap vd_odds vd_rain vd_lines qd_steps qd_lengths qd_starts qd_met qd_stumbles vd_stumbleCount qd_muds qd_cells vd_cellCount qd_tunes vd_tuneCount qd_changes vd_changeCount, (qd_steps, .inl (cI, 24, .inl (fd_steps))), (qd_lengths, .inl (cI, 2, .inl (fd_lengths))), (qd_starts, .inl (cI, 2, .inl (fd_starts))), (qd_met, .inl (cI, 6, .inl (fd_met)))] := ⟨hP, hD⟩
    refine lv_istore (lv' := [(4, .int r172), (3, .int x168), (2, .int x167), (1, .int x166), (0, .ref qd)]) hx hb dX6_leastShift_25 hl (by decide) rfl (fun ls hl => ?_)
    refine lv_iload hx hb dX6_leastShift_27 (lv_at hl 0 rfl) ?_
    refine lv_iload_n hx hb dX6_leastShift_29 rfl (lv_at hl 2 rfl) ?_
    refine lv_icmp_ge (tgt := 38) hx hb dX6_leastShift_30 (by decide) (fun hc => ?_) (fun hc => ?_)
    · have hq173 : x167.toInt ≤ r172.toInt := tq_le rfl rfl hc
      have hb174 := tq_lo r172
      have hb175 := tq_lo x167
      obtain ⟨z176, ez176⟩ : ∃ z : Int32, z = x168 + 1 := ⟨_, rfl⟩
      have fz176 : z176.toInt = x168.toInt + 1 := by rw [ez176]; exact tq_add rfl (by decide) (by omega)
      refine lv_iinc (v := z176) (lv' := [(3, .int z176), (4, .int r172), (2, .int x167), (1, .int x166), (0, .ref qd)]) hx hb dX6_leastShift_38 hl (k := 1) rfl ez176.symm (by decide) rfl (fun ls hl => ?_)
      refine lv_goto (tgt := 10) hx hb dX6_leastShift_41 (by decide) ?_
      exact ih169 (x166, x167, z176) _ _ _ (show (12 - z176.toInt).toNat < (12 - x168.toInt).toNat by omega) ⟨h_x166, (show 1 ≤ z176.toInt ∧ z176.toInt ≤ 12 by omega), ⟨hP, hD⟩, hS, lv_sub hl [0, 2, 3, 4] rfl⟩
    · have hq173 : r172.toInt < x167.toInt := tq_nle rfl rfl hc
      have hb177 := tq_lo r172
      have hb178 := tq_lo x167
      refine lv_iload hx hb dX6_leastShift_33 (lv_at hl 0 rfl) ?_
      refine lv_istore_n (lv' := [(2, .int r172), (4, .int r172), (3, .int x168), (1, .int x166), (0, .ref qd)]) hx hb dX6_leastShift_35 rfl hl (by decide) rfl (fun ls hl => ?_)
      refine lv_iload_n hx hb dX6_leastShift_36 rfl (lv_at hl 2 rfl) ?_
      refine lv_istore_n (lv' := [(1, .int x168), (2, .int r172), (4, .int r172), (3, .int x168), (0, .ref qd)]) hx hb dX6_leastShift_37 rfl hl (by decide) rfl (fun ls hl => ?_)
      obtain ⟨z179, ez179⟩ : ∃ z : Int32, z = x168 + 1 := ⟨_, rfl⟩
      have fz179 : z179.toInt = x168.toInt + 1 := by rw [ez179]; exact tq_add rfl (by decide) (by omega)
      refine lv_iinc (v := z179) (lv' := [(3, .int z179), (1, .int x168), (2, .int r172), (4, .int r172), (0, .ref qd)]) hx hb dX6_leastShift_38 hl (k := 3) rfl ez179.symm (by decide) rfl (fun ls hl => ?_)
      refine lv_goto (tgt := 10) hx hb dX6_leastShift_41 (by decide) ?_
      exact ih169 (x168, r172, z179) _ _ _ (show (12 - z179.toInt).toNat < (12 - x168.toInt).toNat by omega) ⟨(show 0 ≤ x168.toInt ∧ x168.toInt ≤ 11 by omega), (show 1 ≤ z179.toInt ∧ z179.toInt ≤ 12 by omega), ⟨hP, hD⟩, hS, lv_sub hl [0, 2, 1, 4] rfl⟩
abbrev w_c_X6_metBy (cI cJ cB cZ cO : ClassId) (qd : Nat) (vd_gap : Int32) (vd_odds : Int32) (vd_rain : Int32) (vd_lines : Int32) (qd_steps : Nat) (qd_lengths : Nat) (qd_starts : Nat) (qd_met : Nat) (fd_met : Nat → Int32) (qd_stumbles : Nat) (vd_stumbleCount : Int32) (qd_muds : Nat) (qd_cells : Nat) (vd_cellCount : Int32) (qd_tunes : Nat) (vd_tuneCount : Int32) (qd_changes : Nat) (vd_changeCount : Int32) : va_W := [dn qd vd_gap vd_odds vd_rain vd_lines qd_steps qd_lengths qd_starts qd_met qd_stumbles vd_stumbleCount qd_muds qd_cells vd_cellCount qd_tunes vd_tuneCount qd_changes vd_changeCount, (qd_met, .inl (cI, 6, .inl (fd_met)))]
set_option maxHeartbeats 4000000 in
set_option maxRecDepth 100000 in
/-- X6 metBy -/
theorem c_X6_metBy (l : Launch) (D : va_G) (G : ct_G) (cI cJ cB cZ cO : ClassId) (qd : Nat) (vd_gap : Int32) (vd_odds : Int32) (vd_rain : Int32) (vd_lines : Int32) (qd_steps : Nat) (qd_lengths : Nat) (qd_starts : Nat) (qd_met : Nat) (fd_met : Nat → Int32) (qd_stumbles : Nat) (vd_stumbleCount : Int32) (qd_muds : Nat) (qd_cells : Nat) (vd_cellCount : Int32) (qd_tunes : Nat) (vd_tuneCount : Int32) (qd_changes : Nat) (vd_changeCount : Int32) (a2 : Int32) (h_vd_gap : 0 ≤ vd_gap.toInt ∧ vd_gap.toInt ≤ 20) (h_vd_stumbleCount : 0 ≤ vd_stumbleCount.toInt ∧ vd_stumbleCount.toInt ≤ 8) (h_vd_cellCount : 0 ≤ vd_cellCount.toInt ∧ vd_cellCount.toInt ≤ 12) (h_vd_tuneCount : 0 ≤ vd_tuneCount.toInt ∧ vd_tuneCount.toInt ≤ 5) (h_vd_changeCount : 0 ≤ vd_changeCount.toInt ∧ vd_changeCount.toInt ≤ 40) (sz : Nat) : Met l yX6_metBy wsX6_metBy ({ frames := 1, cells := 0, slots := 0, locals := 22 }) (va_Pc [.ref qd, .int a2] (ct_P D (ct_T cI cJ cB cZ cO) G (w_c_X6_metBy cI cJ cB cZ cO qd vd_gap vd_odds vd_rain vd_lines qd_steps qd_lengths qd_starts qd_met fd_met qd_stumbles vd_stumbleCount qd_muds qd_cells vd_cellCount qd_tunes vd_tuneCount qd_changes vd_changeCount) sz)) (va_Qi (fun (rz : Int32) (u : Unit) => True) (fun (u : Unit) t => ct_Q D (va_A (w_c_X6_metBy cI cJ cB cZ cO qd vd_gap vd_odds vd_rain vd_lines qd_steps qd_lengths qd_starts qd_met fd_met qd_stumbles vd_stumbleCount qd_muds qd_cells vd_cellCount qd_tunes vd_tuneCount qd_changes vd_changeCount) sz) [dn qd vd_gap vd_odds vd_rain vd_lines qd_steps qd_lengths qd_starts qd_met qd_stumbles vd_stumbleCount qd_muds qd_cells vd_cellCount qd_tunes vd_tuneCount qd_changes vd_changeCount, (qd_met, .inl (cI, 6, .inl (fd_met)))] t) (va_A (w_c_X6_metBy cI cJ cB cZ cO qd vd_gap vd_odds vd_rain vd_lines qd_steps qd_lengths qd_starts qd_met fd_met qd_stumbles vd_stumbleCount qd_muds qd_cells vd_cellCount qd_tunes vd_tuneCount qd_changes vd_changeCount) sz)) 0 0 (va_A (w_c_X6_metBy cI cJ cB cZ cO qd vd_gap vd_odds vd_rain vd_lines qd_steps qd_lengths qd_starts qd_met fd_met qd_stumbles vd_stumbleCount qd_muds qd_cells vd_cellCount qd_tunes vd_tuneCount qd_changes vd_changeCount) sz) := by
  refine Met.ofW (cc := cX6_metBy) (maxL := 4) (ret := (some .int)) (by decide) rfl ?_
  intro p e s m args below meth c s₁ B hml hv
  obtain ⟨rfl, hsz, hP, hE, hD0, hH⟩ := hv
  have hx := B.exec
  have hb := B.bytes
  have hr := B.returns
  have hts := atoms_spec (ws := wsX6_metBy) B.pre
  have hown : s.vm.findClass RX6 = some m.cls := findClass_of_methodNamed B.named
  have hlocks := B.notSynchronized
  have hK := hE.1
  subst hsz
  have hD := hD0.self (sz := s.heap.size)
  generalize hAe : va_A (w_c_X6_metBy cI cJ cB cZ cO qd vd_gap vd_odds vd_rain vd_lines qd_steps qd_lengths qd_starts qd_met fd_met qd_stumbles vd_stumbleCount qd_muds qd_cells vd_cellCount qd_tunes vd_tuneCount qd_changes vd_changeCount) s.heap.size = A at hD hH ⊢
  have hA : ∀ q : Nat, s.heap.size ≤ q → A q := fun q h => by rw [← hAe]; exact Or.inr h
  have hS : va_S A s.heap s.heap [] := va_S.rf
  obtain ⟨hP, hD⟩ : ct_B D A s.heap [dn qd vd_gap vd_odds vd_rain vd_lines qd_steps qd_lengths qd_starts qd_met qd_stumbles vd_stumbleCount qd_muds qd_cells vd_cellCount qd_tunes vd_tuneCount qd_changes vd_changeCount, (qd_met, .inl (cI, 6, .inl (fd_met)))] := ⟨hP, hD⟩
  have hl := lv_entry ([.ref qd, .int a2]) (n := 4) (Nat.le_of_ble_eq_true rfl)
  rw [lg_entry_eq]
  generalize (lg_sl ([.ref qd, .int a2]) ++ List.replicate (4 - (lg_sl ([.ref qd, .int a2])).length) Slot.unset).toArray = ls at hl ⊢
  have hl : lv_has ls 4 [(0, .ref qd), (1, .int a2)] := hl
  obtain ⟨H, hHe⟩ : ∃ H : Heap, H = s.heap := ⟨_, rfl⟩
  rw [← hHe] at hP
  have hS : va_S A s.heap H [] := by rw [hHe]; exact va_S.rf
  refine ct_start hHe ?_
  refine lv_iconst (v := 0) hx hb dX6_metBy_0 (by decide) ?_
  refine lv_istore_n (lv' := [(2, .int 0), (0, .ref qd), (1, .int a2)]) hx hb dX6_metBy_1 rfl hl (by decide) rfl (fun ls hl => ?_)
  refine lv_iconst (v := 0) hx hb dX6_metBy_2 (by decide) ?_
  refine lv_istore_n (lv' := [(3, .int 0), (2, .int 0), (0, .ref qd), (1, .int a2)]) hx hb dX6_metBy_3 rfl hl (by decide) rfl (fun ls hl => ?_)
  refine ct_loop (X := Int32 × Int32) (fun x => (6 - x.2.toInt).toNat) (fun x H locs ls => ((0 ≤ x.2.toInt ∧ x.2.toInt ≤ 6)) ∧ ct_B D A H [dn qd vd_gap vd_odds vd_rain vd_lines qd_steps qd_lengths qd_starts qd_met qd_stumbles vd_stumbleCount qd_muds qd_cells vd_cellCount qd_tunes vd_tuneCount qd_changes vd_changeCount, (qd_met, .inl (cI, 6, .inl (fd_met)))] ∧ va_S A s.heap H locs ∧ lv_has ls 4 [(3, .int x.2), (2, .int x.1), (0, .ref qd), (1, .int a2)]) 4 ((0 : Int32), (0 : Int32)) ⟨(show 0 ≤ (0 : Int32).toInt ∧ (0 : Int32).toInt ≤ 6 by decide), ⟨hP, hD⟩, hS, lv_sub hl [0, 1, 2, 3] rfl⟩ (fun x ih54 H locs ls hI => ?_)
  obtain ⟨x52, x53⟩ := x
  obtain ⟨h_x53, ⟨hP, hD⟩, hS, hl⟩ := hI
  have h_x53 : (0 ≤ x53.toInt ∧ x53.toInt ≤ 6) := h_x53
  obtain ⟨hP, hD⟩ : ct_B D A H [dn qd vd_gap vd_odds vd_rain vd_lines qd_steps qd_lengths qd_starts qd_met qd_stumbles vd_stumbleCount qd_muds qd_cells vd_cellCount qd_tunes vd_tuneCount qd_changes vd_changeCount, (qd_met, .inl (cI, 6, .inl (fd_met)))] := ⟨hP, hD⟩
  have hl : lv_has ls 4 [(3, .int x53), (2, .int x52), (0, .ref qd), (1, .int a2)] := hl
  refine lv_iload_n hx hb dX6_metBy_4 rfl (lv_at hl 0 rfl) ?_
  refine lv_bipush (v := 6) hx hb dX6_metBy_5 (by decide) ?_
  refine lv_icmp_ge (tgt := 31) hx hb dX6_metBy_7 (by decide) (fun hc => ?_) (fun hc => ?_)
  · have hq55 : 6 ≤ x53.toInt := tq_le (by decide) rfl hc
    refine lv_iload_n hx hb dX6_metBy_31 rfl (lv_at hl 1 rfl) ?_
    obtain ⟨hP9, hD9⟩ : ct_B D A H [dn qd vd_gap vd_odds vd_rain vd_lines qd_steps qd_lengths qd_starts qd_met qd_stumbles vd_stumbleCount qd_muds qd_cells vd_cellCount qd_tunes vd_tuneCount qd_changes vd_changeCount, (qd_met, .inl (cI, 6, .inl (fd_met)))] := ⟨hP.sub [0, 1] rfl, hD.sub [0, 1] (by decide) rfl⟩
    exact W.iret (v := x52) hx hb hr (fun t ht hW => ⟨⟨x52, (), rfl, trivial, by rw [ht]; exact hP9, hD9⟩, hS.F ht⟩) hS.2.2 dX6_metBy_32
  · have hq55 : x53.toInt < 6 := tq_nle (by decide) rfl hc
    refine lv_aload_n hx hb dX6_metBy_10 rfl (lv_at hl 2 rfl) ?_
    refine lv_iload_n hx hb dX6_metBy_11 rfl (lv_at hl 3 rfl) ?_
    refine lv_iload_n hx hb dX6_metBy_12 rfl (lv_at hl 0 rfl) ?_
    refine ct_calli (D := D) (wr := []) (va_runV (As := [.int a2, .int x53]) (rest := []) ⟨hx, hb, hml, hown, hts⟩ (c_X0_mayMeet l D G cI cJ cB cZ cO qd vd_gap vd_odds vd_rain vd_lines qd_steps qd_lengths qd_starts qd_met fd_met qd_stumbles vd_stumbleCount qd_muds qd_cells vd_cellCount qd_tunes vd_tuneCount qd_changes vd_changeCount a2 x53 h_vd_gap h_vd_stumbleCount h_vd_cellCount h_vd_tuneCount h_vd_changeCount (by omega) H.size) (cwV 2 hts gX6_metBy_X0_mayMeet rfl rfl rfl (by decide +kernel) ⟨Nat.le_of_ble_eq_true rfl, Nat.le_of_ble_eq_true rfl⟩) (ct_preV (T := ct_T cI cJ cB cZ cO) (ci := 0) (q0 := 0) hE hH hP hD hS hA [0, 1] (by decide) rfl rfl rfl) rfl rfl hl.1 rfl (lv_room (Nat.le_of_ble_eq_true rfl)) dX6_metBy_13 ⟨Nat.le_of_ble_eq_true rfl, Nat.le_of_ble_eq_true rfl⟩) hP hD hS hA [0, 1] [] rfl rfl (by decide) (by decide) (fun r56 u H locs hw hP hD hS => ?_)
    obtain ⟨hP, hD⟩ : ct_B D A H [dn qd vd_gap vd_odds vd_rain vd_lines qd_steps qd_lengths qd_starts qd_met qd_stumbles vd_stumbleCount qd_muds qd_cells vd_cellCount qd_tunes vd_tuneCount qd_changes vd_changeCount, (qd_met, .inl (cI, 6, .inl (fd_met)))] := ⟨hP, hD⟩
    have hz := hw
    rcases hz with ⟨hz, hz2⟩ | ⟨hz, hz2⟩
    · subst hz
      refine lv_if_eq (tgt := 25) hx hb dX6_metBy_16 (by decide) (fun hc => absurd hc (by decide)) (fun _ => ?_)
      refine lv_iload_n hx hb dX6_metBy_19 rfl (lv_at hl 1 rfl) ?_
      refine lv_iconst (v := 1) hx hb dX6_metBy_20 (by decide) ?_
      refine lv_iload_n hx hb dX6_metBy_21 rfl (lv_at hl 0 rfl) ?_
      refine lv_ishl hx hb dX6_metBy_22 ?_
      refine lv_topi (fun z57 ez57 => ?_)
      have fz57 : 1 ≤ z57.toInt ∧ z57.toInt ≤ 32 := by rw [ez57]; exact tq_shl5 rfl (by omega)
      refine lv_ior hx hb dX6_metBy_23 ?_
      refine lv_topi (fun z58 ez58 => ?_)
      refine lv_istore_n (lv' := [(2, .int z58), (3, .int x53), (0, .ref qd), (1, .int a2)]) hx hb dX6_metBy_24 rfl hl (by decide) rfl (fun ls hl => ?_)
      obtain ⟨z59, ez59⟩ : ∃ z : Int32, z = x53 + 1 := ⟨_, rfl⟩
      have fz59 : z59.toInt = x53.toInt + 1 := by rw [ez59]; exact tq_add rfl (by decide) (by omega)
      refine lv_iinc (v := z59) (lv' := [(3, .int z59), (2, .int z58), (0, .ref qd), (1, .int a2)]) hx hb dX6_metBy_25 hl (k := 1) rfl ez59.symm (by decide) rfl (fun ls hl => ?_)
      refine lv_goto (tgt := 4) hx hb dX6_metBy_28 (by decide) ?_
      exact ih54 (z58, z59) _ _ _ (show (6 - z59.toInt).toNat < (6 - x53.toInt).toNat by omega) ⟨(show 0 ≤ z59.toInt ∧ z59.toInt ≤ 6 by omega), ⟨hP, hD⟩, hS, lv_sub hl [0, 1, 2, 3] rfl⟩
    · subst hz
      refine lv_if_eq (tgt := 25) hx hb dX6_metBy_16 (by decide) (fun _ => ?_) (fun hc => absurd hc (by decide))
      obtain ⟨z60, ez60⟩ : ∃ z : Int32, z = x53 + 1 := ⟨_, rfl⟩
      have fz60 : z60.toInt = x53.toInt + 1 := by rw [ez60]; exact tq_add rfl (by decide) (by omega)
      refine lv_iinc (v := z60) (lv' := [(3, .int z60), (2, .int x52), (0, .ref qd), (1, .int a2)]) hx hb dX6_metBy_25 hl (k := 0) rfl ez60.symm (by decide) rfl (fun ls hl => ?_)
      refine lv_goto (tgt := 4) hx hb dX6_metBy_28 (by decide) ?_
      exact ih54 (x52, z60) _ _ _ (show (6 - z60.toInt).toNat < (6 - x53.toInt).toNat by omega) ⟨(show 0 ≤ z60.toInt ∧ z60.toInt ≤ 6 by omega), ⟨hP, hD⟩, hS, lv_sub hl [0, 1, 2, 3] rfl⟩
abbrev w_c_X6_findFits (cI cJ cB cZ cO : ClassId) (qo : Nat) (qo_fits : Nat) (fo_fits : Nat → Int32) (qd : Nat) (vd_gap : Int32) (vd_odds : Int32) (vd_rain : Int32) (vd_lines : Int32) (qd_steps : Nat) (fd_steps : Nat → Int32) (qd_lengths : Nat) (fd_lengths : Nat → Int32) (qd_starts : Nat) (fd_starts : Nat → Int32) (qd_met : Nat) (fd_met : Nat → Int32) (qd_stumbles : Nat) (vd_stumbleCount : Int32) (qd_muds : Nat) (qd_cells : Nat) (vd_cellCount : Int32) (qd_tunes : Nat) (vd_tuneCount : Int32) (qd_changes : Nat) (vd_changeCount : Int32) : va_W := [(qo, .inr (6, [.ref qo_fits])), (qo_fits, .inl (cI, 12, .inl (fo_fits))), dn qd vd_gap vd_odds vd_rain vd_lines qd_steps qd_lengths qd_starts qd_met qd_stumbles vd_stumbleCount qd_muds qd_cells vd_cellCount qd_tunes vd_tuneCount qd_changes vd_changeCount, (qd_steps, .inl (cI, 24, .inl (fd_steps))), (qd_lengths, .inl (cI, 2, .inl (fd_lengths))), (qd_starts, .inl (cI, 2, .inl (fd_starts))), (qd_met, .inl (cI, 6, .inl (fd_met)))]
set_option maxHeartbeats 4000000 in
set_option maxRecDepth 100000 in
/-- X6 findFits -/
theorem c_X6_findFits (l : Launch) (D : va_G) (G : ct_G) (cI cJ cB cZ cO : ClassId) (qo : Nat) (qo_fits : Nat) (fo_fits : Nat → Int32) (qd : Nat) (vd_gap : Int32) (vd_odds : Int32) (vd_rain : Int32) (vd_lines : Int32) (qd_steps : Nat) (fd_steps : Nat → Int32) (qd_lengths : Nat) (fd_lengths : Nat → Int32) (qd_starts : Nat) (fd_starts : Nat → Int32) (qd_met : Nat) (fd_met : Nat → Int32) (qd_stumbles : Nat) (vd_stumbleCount : Int32) (qd_muds : Nat) (qd_cells : Nat) (vd_cellCount : Int32) (qd_tunes : Nat) (vd_tuneCount : Int32) (qd_changes : Nat) (vd_changeCount : Int32) (a2 : Int32) (h_vd_gap : 0 ≤ vd_gap.toInt ∧ vd_gap.toInt ≤ 20) (h_fd_steps : ar_ok [0] [5] fd_steps) (h_fd_lengths : ar_ok [0] [12] fd_lengths) (h_fd_starts : ar_ok [0] [11] fd_starts) (h_vd_stumbleCount : 0 ≤ vd_stumbleCount.toInt ∧ vd_stumbleCount.toInt ≤ 8) (h_vd_cellCount : 0 ≤ vd_cellCount.toInt ∧ vd_cellCount.toInt ≤ 12) (h_vd_tuneCount : 0 ≤ vd_tuneCount.toInt ∧ vd_tuneCount.toInt ≤ 5) (h_vd_changeCount : 0 ≤ vd_changeCount.toInt ∧ vd_changeCount.toInt ≤ 40) (h_a2 : 0 ≤ a2.toInt ∧ a2.toInt ≤ 1) (sz : Nat) : Met l yX6_findFits wsX6_findFits ({ frames := 4, cells := 0, slots := 0, locals := 87 }) (va_Pc [.ref qo, .ref qd, .int a2] (ct_P D (ct_T cI cJ cB cZ cO) G (w_c_X6_findFits cI cJ cB cZ cO qo qo_fits fo_fits qd vd_gap vd_odds vd_rain vd_lines qd_steps fd_steps qd_lengths fd_lengths qd_starts fd_starts qd_met fd_met qd_stumbles vd_stumbleCount qd_muds qd_cells vd_cellCount qd_tunes vd_tuneCount qd_changes vd_changeCount) sz)) (va_Qv (fun (u : (Nat → Int32)) => True) (fun (u : (Nat → Int32)) t => ct_Q D (va_A (w_c_X6_findFits cI cJ cB cZ cO qo qo_fits fo_fits qd vd_gap vd_odds vd_rain vd_lines qd_steps fd_steps qd_lengths fd_lengths qd_starts fd_starts qd_met fd_met qd_stumbles vd_stumbleCount qd_muds qd_cells vd_cellCount qd_tunes vd_tuneCount qd_changes vd_changeCount) sz) [(qo, .inr (6, [.ref qo_fits])), (qo_fits, .inl (cI, 12, .inl (u))), dn qd vd_gap vd_odds vd_rain vd_lines qd_steps qd_lengths qd_starts qd_met qd_stumbles vd_stumbleCount qd_muds qd_cells vd_cellCount qd_tunes vd_tuneCount qd_changes vd_changeCount, (qd_steps, .inl (cI, 24, .inl (fd_steps))), (qd_lengths, .inl (cI, 2, .inl (fd_lengths))), (qd_starts, .inl (cI, 2, .inl (fd_starts))), (qd_met, .inl (cI, 6, .inl (fd_met)))] t) (va_A (w_c_X6_findFits cI cJ cB cZ cO qo qo_fits fo_fits qd vd_gap vd_odds vd_rain vd_lines qd_steps fd_steps qd_lengths fd_lengths qd_starts fd_starts qd_met fd_met qd_stumbles vd_stumbleCount qd_muds qd_cells vd_cellCount qd_tunes vd_tuneCount qd_changes vd_changeCount) sz)) 0 0 (va_A (w_c_X6_findFits cI cJ cB cZ cO qo qo_fits fo_fits qd vd_gap vd_odds vd_rain vd_lines qd_steps fd_steps qd_lengths fd_lengths qd_starts fd_starts qd_met fd_met qd_stumbles vd_stumbleCount qd_muds qd_cells vd_cellCount qd_tunes vd_tuneCount qd_changes vd_changeCount) sz) := by
  refine Met.ofW (cc := cX6_findFits) (maxL := 7) (ret := none) (by decide) rfl ?_
  intro p e s m args below meth c s₁ B hml hv
  obtain ⟨rfl, hsz, hP, hE, hD0, hH⟩ := hv
  have hx := B.exec
  have hb := B.bytes
  have hr := B.returns
  have hts := atoms_spec (ws := wsX6_findFits) B.pre
  have hown : s.vm.findClass RX6 = some m.cls := findClass_of_methodNamed B.named
  have hlocks := B.notSynchronized
  have hK := hE.1
  have hi0 : ∀ w ∈ u_ws RX0 TX0 17, w ∈ wsX6_findFits := fun w h => List.mem_cons_of_mem _ (List.mem_append_right _ h)
  have hi6 : ∀ w ∈ u_ws RX6 TX6 1, w ∈ wsX6_findFits := fun w h => List.mem_cons_of_mem _ (List.mem_append_left _ (List.mem_append_right _ h))
  subst hsz
  have hD := hD0.self (sz := s.heap.size)
  generalize hAe : va_A (w_c_X6_findFits cI cJ cB cZ cO qo qo_fits fo_fits qd vd_gap vd_odds vd_rain vd_lines qd_steps fd_steps qd_lengths fd_lengths qd_starts fd_starts qd_met fd_met qd_stumbles vd_stumbleCount qd_muds qd_cells vd_cellCount qd_tunes vd_tuneCount qd_changes vd_changeCount) s.heap.size = A at hD hH ⊢
  have hA : ∀ q : Nat, s.heap.size ≤ q → A q := fun q h => by rw [← hAe]; exact Or.inr h
  have hS : va_S A s.heap s.heap [] := va_S.rf
  obtain ⟨hP, hD⟩ : ct_B D A s.heap [(qo, .inr (6, [.ref qo_fits])), (qo_fits, .inl (cI, 12, .inl (fo_fits))), dn qd vd_gap vd_odds vd_rain vd_lines qd_steps qd_lengths qd_starts qd_met qd_stumbles vd_stumbleCount qd_muds qd_cells vd_cellCount qd_tunes vd_tuneCount qd_changes vd_changeCount, (qd_steps, .inl (cI, 24, .inl (fd_steps))), (qd_lengths, .inl (cI, 2, .inl (fd_lengths))), (qd_starts, .inl (cI, 2, .inl (fd_starts))), (qd_met, .inl (cI, 6, .inl (fd_met)))] := ⟨hP, hD⟩
  have hl := lv_entry ([.ref qo, .ref qd, .int a2]) (n := 7) (Nat.le_of_ble_eq_true rfl)
  rw [lg_entry_eq]
  generalize (lg_sl ([.ref qo, .ref qd, .int a2]) ++ List.replicate (7 - (lg_sl ([.ref qo, .ref qd, .int a2])).length) Slot.unset).toArray = ls at hl ⊢
  have hl : lv_has ls 7 [(0, .ref qo), (1, .ref qd), (2, .int a2)] := hl
  obtain ⟨H, hHe⟩ : ∃ H : Heap, H = s.heap := ⟨_, rfl⟩
  rw [← hHe] at hP
  have hS : va_S A s.heap H [] := by rw [hHe]; exact va_S.rf
  refine ct_start hHe ?_
  refine lv_aload_n hx hb dX6_findFits_0 rfl (lv_at hl 0 rfl) ?_
  refine va_get (D := D) (ci := 6) (v := .ref qo_fits) (C := RX6) (T := TX6) (N := 1) hx hb hts hi6 hown hK hP 0 rfl rfl 0 (by decide) (hts (.fieldLink RX6 9 "OverHill$Rounds" "fits" "[I") (by decide +kernel)) (fun _ h9 => h9) rfl dX6_findFits_1 ?_
  refine lv_bipush (v := 63) hx hb dX6_findFits_4 (by decide) ?_
  refine ct_callv (D := D) (wr := [(qo, .inr (6, [.ref qo_fits])), dn qd vd_gap vd_odds vd_rain vd_lines qd_steps qd_lengths qd_starts qd_met qd_stumbles vd_stumbleCount qd_muds qd_cells vd_cellCount qd_tunes vd_tuneCount qd_changes vd_changeCount, (qd_steps, .inl (cI, 24, .inl (fd_steps))), (qd_lengths, .inl (cI, 2, .inl (fd_lengths))), (qd_starts, .inl (cI, 2, .inl (fd_starts))), (qd_met, .inl (cI, 6, .inl (fd_met)))]) (va_runS (As := [.ref qo_fits, .int 63]) (rest := []) ⟨hx, hb, hml, hown, hts⟩ (c_fill l D G cI cJ cB cZ cO qo_fits 12 fo_fits 63 (by decide) H.size) (va_cwS 2 hts gX6_findFits_J7_fill_53178 rfl rfl rfl (by decide +kernel) ⟨Nat.le_of_ble_eq_true rfl, Nat.le_of_ble_eq_true rfl⟩) (ct_preS (T := ct_T cI cJ cB cZ cO) hE hH hP hD hS hA [1] (by decide) rfl) rfl rfl hl.1 rfl (lv_room (Nat.le_of_ble_eq_true rfl)) dX6_findFits_6 ⟨Nat.le_of_ble_eq_true rfl, Nat.le_of_ble_eq_true rfl⟩) hP hD hS hA [1] [0, 2, 3, 4, 5, 6] rfl rfl (by decide) (by decide) (fun u H locs hw hP hD hS => ?_)
  obtain ⟨g1, rfl⟩ : ∃ z, z = u := ⟨_, rfl⟩
  obtain ⟨hP, hD⟩ : ct_B D A H [(qo, .inr (6, [.ref qo_fits])), dn qd vd_gap vd_odds vd_rain vd_lines qd_steps qd_lengths qd_starts qd_met qd_stumbles vd_stumbleCount qd_muds qd_cells vd_cellCount qd_tunes vd_tuneCount qd_changes vd_changeCount, (qd_steps, .inl (cI, 24, .inl (fd_steps))), (qd_lengths, .inl (cI, 2, .inl (fd_lengths))), (qd_starts, .inl (cI, 2, .inl (fd_starts))), (qd_met, .inl (cI, 6, .inl (fd_met))), (qo_fits, .inl (cI, 12, .inl (g1)))] := ⟨hP, hD⟩
  have hp0 := hw
  have hp_2 : ∀ j : Nat, g1 j = (63 : Int32) ∨ g1 j = fo_fits j := hp0
  refine lv_aload_n hx hb dX6_findFits_9 rfl (lv_at hl 1 rfl) ?_
  refine va_get (D := D) (ci := 0) (v := .int vd_gap) (C := RX0) (T := TX0) (N := 17) hx hb hts hi0 hown hK hP 1 rfl rfl 0 (by decide) (hts (.fieldLink RX6 32 "OverHill$Dance" "gap" "I") (by decide +kernel)) (fun _ h9 => h9) rfl dX6_findFits_10 ?_
  refine lv_aload_n hx hb dX6_findFits_13 rfl (lv_at hl 1 rfl) ?_
  refine ct_calli (D := D) (wr := [(qo, .inr (6, [.ref qo_fits])), (qd_steps, .inl (cI, 24, .inl (fd_steps))), (qd_starts, .inl (cI, 2, .inl (fd_starts))), (qd_met, .inl (cI, 6, .inl (fd_met))), (qo_fits, .inl (cI, 12, .inl (g1)))]) (va_runS (As := [.ref qd]) (rest := [.int vd_gap]) ⟨hx, hb, hml, hown, hts⟩ (c_X6_periodOf l D G cI cJ cB cZ cO qd vd_gap vd_odds vd_rain vd_lines qd_steps qd_lengths fd_lengths qd_starts qd_met qd_stumbles vd_stumbleCount qd_muds qd_cells vd_cellCount qd_tunes vd_tuneCount qd_changes vd_changeCount h_vd_gap h_fd_lengths h_vd_stumbleCount h_vd_cellCount h_vd_tuneCount h_vd_changeCount H.size) (va_cwS 1 hts gX6_findFits_X6_periodOf rfl rfl rfl (by decide +kernel) ⟨Nat.le_of_ble_eq_true rfl, Nat.le_of_ble_eq_true rfl⟩) (ct_preS (T := ct_T cI cJ cB cZ cO) hE hH hP hD hS hA [1, 3] (by decide) rfl) rfl rfl hl.1 rfl (lv_room (Nat.le_of_ble_eq_true rfl)) dX6_findFits_14 ⟨Nat.le_of_ble_eq_true rfl, Nat.le_of_ble_eq_true rfl⟩) hP hD hS hA [1, 3] [0, 2, 4, 5, 6] rfl rfl (by decide) (by decide) (fun r3 u H locs hw hP hD hS => ?_)
  obtain ⟨hP, hD⟩ : ct_B D A H [(qo, .inr (6, [.ref qo_fits])), (qd_steps, .inl (cI, 24, .inl (fd_steps))), (qd_starts, .inl (cI, 2, .inl (fd_starts))), (qd_met, .inl (cI, 6, .inl (fd_met))), (qo_fits, .inl (cI, 12, .inl (g1))), dn qd vd_gap vd_odds vd_rain vd_lines qd_steps qd_lengths qd_starts qd_met qd_stumbles vd_stumbleCount qd_muds qd_cells vd_cellCount qd_tunes vd_tuneCount qd_changes vd_changeCount, (qd_lengths, .inl (cI, 2, .inl (fd_lengths)))] := ⟨hP, hD⟩
  refine lv_iadd hx hb dX6_findFits_17 ?_
  refine lv_topi (fun z4 ez4 => ?_)
  refine lv_istore_n (lv' := [(3, .int z4), (0, .ref qo), (1, .ref qd), (2, .int a2)]) hx hb dX6_findFits_18 rfl hl (by decide) rfl (fun ls hl => ?_)
  refine lv_aload_n hx hb dX6_findFits_19 rfl (lv_at hl 2 rfl) ?_
  refine va_get (D := D) (ci := 0) (v := .int vd_gap) (C := RX0) (T := TX0) (N := 17) hx hb hts hi0 hown hK hP 5 rfl rfl 0 (by decide) (hts (.fieldLink RX6 32 "OverHill$Dance" "gap" "I") (by decide +kernel)) (fun _ h9 => h9) rfl dX6_findFits_20 ?_
  refine lv_istore (lv' := [(4, .int vd_gap), (3, .int z4), (0, .ref qo), (1, .ref qd), (2, .int a2)]) hx hb dX6_findFits_23 hl (by decide) rfl (fun ls hl => ?_)
  refine ct_loop (X := (Nat → Int32) × Int32) (fun x => (2147483647 - x.2.toInt).toNat) (fun x H locs ls => ((0 ≤ x.2.toInt)) ∧ ct_B D A H [(qo, .inr (6, [.ref qo_fits])), (qd_steps, .inl (cI, 24, .inl (fd_steps))), (qd_starts, .inl (cI, 2, .inl (fd_starts))), (qd_met, .inl (cI, 6, .inl (fd_met))), (qo_fits, .inl (cI, 12, .inl (x.1))), dn qd vd_gap vd_odds vd_rain vd_lines qd_steps qd_lengths qd_starts qd_met qd_stumbles vd_stumbleCount qd_muds qd_cells vd_cellCount qd_tunes vd_tuneCount qd_changes vd_changeCount, (qd_lengths, .inl (cI, 2, .inl (fd_lengths)))] ∧ va_S A s.heap H locs ∧ lv_has ls 7 [(4, .int x.2), (3, .int z4), (0, .ref qo), (1, .ref qd), (2, .int a2)]) 25 (g1, vd_gap) ⟨(show 0 ≤ vd_gap.toInt by omega), ⟨hP, hD⟩, hS, lv_sub hl [0, 1, 2, 3, 4] rfl⟩ (fun x ih218 H locs ls hI => ?_)
  obtain ⟨g216, x217⟩ := x
  obtain ⟨h_x217, ⟨hP, hD⟩, hS, hl⟩ := hI
  have h_x217 : (0 ≤ x217.toInt) := h_x217
  obtain ⟨hP, hD⟩ : ct_B D A H [(qo, .inr (6, [.ref qo_fits])), (qd_steps, .inl (cI, 24, .inl (fd_steps))), (qd_starts, .inl (cI, 2, .inl (fd_starts))), (qd_met, .inl (cI, 6, .inl (fd_met))), (qo_fits, .inl (cI, 12, .inl (g216))), dn qd vd_gap vd_odds vd_rain vd_lines qd_steps qd_lengths qd_starts qd_met qd_stumbles vd_stumbleCount qd_muds qd_cells vd_cellCount qd_tunes vd_tuneCount qd_changes vd_changeCount, (qd_lengths, .inl (cI, 2, .inl (fd_lengths)))] := ⟨hP, hD⟩
  have hl : lv_has ls 7 [(4, .int x217), (3, .int z4), (0, .ref qo), (1, .ref qd), (2, .int a2)] := hl
  refine lv_iload hx hb dX6_findFits_25 (lv_at hl 0 rfl) ?_
  refine lv_iload_n hx hb dX6_findFits_27 rfl (lv_at hl 1 rfl) ?_
  refine lv_icmp_ge (tgt := 98) hx hb dX6_findFits_28 (by decide) (fun hc => ?_) (fun hc => ?_)
  · have hq219 : z4.toInt ≤ x217.toInt := tq_le rfl rfl hc
    have hb220 := tq_lo x217
    have hb221 := tq_lo z4
    obtain ⟨hP9, hD9⟩ : ct_B D A H [(qo, .inr (6, [.ref qo_fits])), (qo_fits, .inl (cI, 12, .inl (g216))), dn qd vd_gap vd_odds vd_rain vd_lines qd_steps qd_lengths qd_starts qd_met qd_stumbles vd_stumbleCount qd_muds qd_cells vd_cellCount qd_tunes vd_tuneCount qd_changes vd_changeCount, (qd_steps, .inl (cI, 24, .inl (fd_steps))), (qd_lengths, .inl (cI, 2, .inl (fd_lengths))), (qd_starts, .inl (cI, 2, .inl (fd_starts))), (qd_met, .inl (cI, 6, .inl (fd_met)))] := ⟨hP.sub [0, 4, 5, 1, 6, 2, 3] rfl, hD.sub [0, 4, 5, 1, 6, 2, 3] (by decide) rfl⟩
    exact W.vret hx hb hr (fun t ht hW => ⟨⟨g216, rfl, trivial, by rw [ht]; exact hP9, hD9⟩, hS.F ht⟩) hS.2.2 dX6_findFits_98
  · have hq219 : x217.toInt < z4.toInt := tq_nle rfl rfl hc
    have hb222 := tq_lo x217
    have hb223 := tq_lo z4
    refine lv_aload_n hx hb dX6_findFits_31 rfl (lv_at hl 3 rfl) ?_
    refine lv_iconst (v := 1) hx hb dX6_findFits_32 (by decide) ?_
    refine lv_iload_n hx hb dX6_findFits_33 rfl (lv_at hl 4 rfl) ?_
    refine lv_isub hx hb dX6_findFits_34 ?_
    refine lv_topi (fun z224 ez224 => ?_)
    have fz224 : z224.toInt = 1 - a2.toInt := by rw [ez224]; exact tq_subt (by decide) rfl (by omega)
    refine lv_iload hx hb dX6_findFits_35 (lv_at hl 0 rfl) ?_
    refine lv_aload_n hx hb dX6_findFits_37 rfl (lv_at hl 3 rfl) ?_
    refine va_get (D := D) (ci := 0) (v := .int vd_gap) (C := RX0) (T := TX0) (N := 17) hx hb hts hi0 hown hK hP 5 rfl rfl 0 (by decide) (hts (.fieldLink RX6 32 "OverHill$Dance" "gap" "I") (by decide +kernel)) (fun _ h9 => h9) rfl dX6_findFits_38 ?_
    refine lv_isub hx hb dX6_findFits_41 ?_
    refine lv_topi (fun z225 ez225 => ?_)
    refine ct_calli (D := D) (wr := [(qo, .inr (6, [.ref qo_fits])), (qd_met, .inl (cI, 6, .inl (fd_met))), (qo_fits, .inl (cI, 12, .inl (g216)))]) (va_runS (As := [.ref qd, .int z224, .int z225]) (rest := []) ⟨hx, hb, hml, hown, hts⟩ (c_X6_stepIn l D G cI cJ cB cZ cO qd vd_gap vd_odds vd_rain vd_lines qd_steps fd_steps qd_lengths fd_lengths qd_starts fd_starts qd_met qd_stumbles vd_stumbleCount qd_muds qd_cells vd_cellCount qd_tunes vd_tuneCount qd_changes vd_changeCount z224 z225 h_vd_gap h_fd_steps h_fd_lengths h_fd_starts h_vd_stumbleCount h_vd_cellCount h_vd_tuneCount h_vd_changeCount (by omega) H.size) (va_cwS 3 hts gX6_findFits_X6_stepIn rfl rfl rfl (by decide +kernel) ⟨Nat.le_of_ble_eq_true rfl, Nat.le_of_ble_eq_true rfl⟩) (ct_preS (T := ct_T cI cJ cB cZ cO) hE hH hP hD hS hA [5, 1, 6, 2] (by decide) rfl) rfl rfl hl.1 rfl (lv_room (Nat.le_of_ble_eq_true rfl)) dX6_findFits_42 ⟨Nat.le_of_ble_eq_true rfl, Nat.le_of_ble_eq_true rfl⟩) hP hD hS hA [5, 1, 6, 2] [0, 3, 4] rfl rfl (by decide) (by decide) (fun r226 u H locs hw hP hD hS => ?_)
    obtain ⟨hP, hD⟩ : ct_B D A H [(qo, .inr (6, [.ref qo_fits])), (qd_met, .inl (cI, 6, .inl (fd_met))), (qo_fits, .inl (cI, 12, .inl (g216))), dn qd vd_gap vd_odds vd_rain vd_lines qd_steps qd_lengths qd_starts qd_met qd_stumbles vd_stumbleCount qd_muds qd_cells vd_cellCount qd_tunes vd_tuneCount qd_changes vd_changeCount, (qd_steps, .inl (cI, 24, .inl (fd_steps))), (qd_lengths, .inl (cI, 2, .inl (fd_lengths))), (qd_starts, .inl (cI, 2, .inl (fd_starts)))] := ⟨hP, hD⟩
    have hz := hw
    have h_r226 : 0 ≤ r226.toInt ∧ r226.toInt ≤ 5 := hz
    refine lv_istore (lv' := [(5, .int r226), (4, .int x217), (3, .int z4), (0, .ref qo), (1, .ref qd), (2, .int a2)]) hx hb dX6_findFits_45 hl (by decide) rfl (fun ls hl => ?_)
    refine lv_aload_n hx hb dX6_findFits_47 rfl (lv_at hl 4 rfl) ?_
    refine lv_iconst (v := 1) hx hb dX6_findFits_48 (by decide) ?_
    refine lv_iload_n hx hb dX6_findFits_49 rfl (lv_at hl 5 rfl) ?_
    refine lv_isub hx hb dX6_findFits_50 ?_
    refine lv_topi (fun z227 ez227 => ?_)
    have fz227 : z227.toInt = 1 - a2.toInt := by rw [ez227]; exact tq_subt (by decide) rfl (by omega)
    refine lv_iload hx hb dX6_findFits_51 (lv_at hl 1 rfl) ?_
    refine lv_aload_n hx hb dX6_findFits_53 rfl (lv_at hl 4 rfl) ?_
    refine va_get (D := D) (ci := 0) (v := .int vd_gap) (C := RX0) (T := TX0) (N := 17) hx hb hts hi0 hown hK hP 3 rfl rfl 0 (by decide) (hts (.fieldLink RX6 32 "OverHill$Dance" "gap" "I") (by decide +kernel)) (fun _ h9 => h9) rfl dX6_findFits_54 ?_
    refine lv_iadd hx hb dX6_findFits_57 ?_
    refine lv_topi (fun z228 ez228 => ?_)
    refine ct_calli (D := D) (wr := [(qo, .inr (6, [.ref qo_fits])), (qd_met, .inl (cI, 6, .inl (fd_met))), (qo_fits, .inl (cI, 12, .inl (g216)))]) (va_runS (As := [.ref qd, .int z227, .int z228]) (rest := []) ⟨hx, hb, hml, hown, hts⟩ (c_X6_stepIn l D G cI cJ cB cZ cO qd vd_gap vd_odds vd_rain vd_lines qd_steps fd_steps qd_lengths fd_lengths qd_starts fd_starts qd_met qd_stumbles vd_stumbleCount qd_muds qd_cells vd_cellCount qd_tunes vd_tuneCount qd_changes vd_changeCount z227 z228 h_vd_gap h_fd_steps h_fd_lengths h_fd_starts h_vd_stumbleCount h_vd_cellCount h_vd_tuneCount h_vd_changeCount (by omega) H.size) (va_cwS 3 hts gX6_findFits_X6_stepIn rfl rfl rfl (by decide +kernel) ⟨Nat.le_of_ble_eq_true rfl, Nat.le_of_ble_eq_true rfl⟩) (ct_preS (T := ct_T cI cJ cB cZ cO) hE hH hP hD hS hA [3, 4, 5, 6] (by decide) rfl) rfl rfl hl.1 rfl (lv_room (Nat.le_of_ble_eq_true rfl)) dX6_findFits_58 ⟨Nat.le_of_ble_eq_true rfl, Nat.le_of_ble_eq_true rfl⟩) hP hD hS hA [3, 4, 5, 6] [0, 1, 2] rfl rfl (by decide) (by decide) (fun r229 u H locs hw hP hD hS => ?_)
    obtain ⟨hP, hD⟩ : ct_B D A H [(qo, .inr (6, [.ref qo_fits])), (qd_met, .inl (cI, 6, .inl (fd_met))), (qo_fits, .inl (cI, 12, .inl (g216))), dn qd vd_gap vd_odds vd_rain vd_lines qd_steps qd_lengths qd_starts qd_met qd_stumbles vd_stumbleCount qd_muds qd_cells vd_cellCount qd_tunes vd_tuneCount qd_changes vd_changeCount, (qd_steps, .inl (cI, 24, .inl (fd_steps))), (qd_lengths, .inl (cI, 2, .inl (fd_lengths))), (qd_starts, .inl (cI, 2, .inl (fd_starts)))] := ⟨hP, hD⟩
    have hz := hw
    have h_r229 : 0 ≤ r229.toInt ∧ r229.toInt ≤ 5 := hz
    refine lv_istore (lv' := [(6, .int r229), (5, .int r226), (4, .int x217), (3, .int z4), (0, .ref qo), (1, .ref qd), (2, .int a2)]) hx hb dX6_findFits_61 hl (by decide) rfl (fun ls hl => ?_)
    refine lv_aload_n hx hb dX6_findFits_63 rfl (lv_at hl 4 rfl) ?_
    refine va_get (D := D) (ci := 6) (v := .ref qo_fits) (C := RX6) (T := TX6) (N := 1) hx hb hts hi6 hown hK hP 0 rfl rfl 0 (by decide) (hts (.fieldLink RX6 9 "OverHill$Rounds" "fits" "[I") (by decide +kernel)) (fun _ h9 => h9) rfl dX6_findFits_64 ?_
    refine lv_aload_n hx hb dX6_findFits_67 rfl (lv_at hl 5 rfl) ?_
    refine lv_iload_n hx hb dX6_findFits_68 rfl (lv_at hl 6 rfl) ?_
    refine lv_iload hx hb dX6_findFits_69 (lv_at hl 2 rfl) ?_
    refine ct_calli (D := D) (wr := [(qo, .inr (6, [.ref qo_fits])), (qd_met, .inl (cI, 6, .inl (fd_met))), (qo_fits, .inl (cI, 12, .inl (g216))), (qd_steps, .inl (cI, 24, .inl (fd_steps)))]) (va_runS (As := [.ref qd, .int a2, .int x217]) (rest := [.ref qo_fits]) ⟨hx, hb, hml, hown, hts⟩ (c_X6_placeIn l D G cI cJ cB cZ cO qd vd_gap vd_odds vd_rain vd_lines qd_steps qd_lengths fd_lengths qd_starts fd_starts qd_met qd_stumbles vd_stumbleCount qd_muds qd_cells vd_cellCount qd_tunes vd_tuneCount qd_changes vd_changeCount a2 x217 h_vd_gap h_fd_lengths h_fd_starts h_vd_stumbleCount h_vd_cellCount h_vd_tuneCount h_vd_changeCount h_a2 H.size) (va_cwS 3 hts gX6_findFits_X6_placeIn rfl rfl rfl (by decide +kernel) ⟨Nat.le_of_ble_eq_true rfl, Nat.le_of_ble_eq_true rfl⟩) (ct_preS (T := ct_T cI cJ cB cZ cO) hE hH hP hD hS hA [3, 5, 6] (by decide) rfl) rfl rfl hl.1 rfl (lv_room (Nat.le_of_ble_eq_true rfl)) dX6_findFits_71 ⟨Nat.le_of_ble_eq_true rfl, Nat.le_of_ble_eq_true rfl⟩) hP hD hS hA [3, 5, 6] [0, 1, 2, 4] rfl rfl (by decide) (by decide) (fun r230 u H locs hw hP hD hS => ?_)
    obtain ⟨hP, hD⟩ : ct_B D A H [(qo, .inr (6, [.ref qo_fits])), (qd_met, .inl (cI, 6, .inl (fd_met))), (qo_fits, .inl (cI, 12, .inl (g216))), (qd_steps, .inl (cI, 24, .inl (fd_steps))), dn qd vd_gap vd_odds vd_rain vd_lines qd_steps qd_lengths qd_starts qd_met qd_stumbles vd_stumbleCount qd_muds qd_cells vd_cellCount qd_tunes vd_tuneCount qd_changes vd_changeCount, (qd_lengths, .inl (cI, 2, .inl (fd_lengths))), (qd_starts, .inl (cI, 2, .inl (fd_starts)))] := ⟨hP, hD⟩
    have hz := hw
    have h_r230 : 0 ≤ r230.toInt ∧ r230.toInt ≤ 11 := hz
    refine lv_dup2_11 hx hb dX6_findFits_74 rfl rfl ?_
    refine va_iald (D := D) hx hb hK hP 2 0 rfl rfl (tq_in rfl (by omega)) dX6_findFits_75 ?_
    refine lv_topi (fun z231 ez231 => ?_)
    refine lv_aload_n hx hb dX6_findFits_76 rfl (lv_at hl 5 rfl) ?_
    refine lv_iload hx hb dX6_findFits_77 (lv_at hl 1 rfl) ?_
    refine ct_calli (D := D) (wr := [(qo, .inr (6, [.ref qo_fits])), (qo_fits, .inl (cI, 12, .inl (g216))), (qd_steps, .inl (cI, 24, .inl (fd_steps))), (qd_lengths, .inl (cI, 2, .inl (fd_lengths))), (qd_starts, .inl (cI, 2, .inl (fd_starts)))]) (va_runS (As := [.ref qd, .int r226]) (rest := [.int z231, .int r230, .ref qo_fits]) ⟨hx, hb, hml, hown, hts⟩ (c_X6_metBy l D G cI cJ cB cZ cO qd vd_gap vd_odds vd_rain vd_lines qd_steps qd_lengths qd_starts qd_met fd_met qd_stumbles vd_stumbleCount qd_muds qd_cells vd_cellCount qd_tunes vd_tuneCount qd_changes vd_changeCount r226 h_vd_gap h_vd_stumbleCount h_vd_cellCount h_vd_tuneCount h_vd_changeCount H.size) (va_cwS 2 hts gX6_findFits_X6_metBy rfl rfl rfl (by decide +kernel) ⟨Nat.le_of_ble_eq_true rfl, Nat.le_of_ble_eq_true rfl⟩) (ct_preS (T := ct_T cI cJ cB cZ cO) hE hH hP hD hS hA [4, 1] (by decide) rfl) rfl rfl hl.1 rfl (lv_room (Nat.le_of_ble_eq_true rfl)) dX6_findFits_79 ⟨Nat.le_of_ble_eq_true rfl, Nat.le_of_ble_eq_true rfl⟩) hP hD hS hA [4, 1] [0, 2, 3, 5, 6] rfl rfl (by decide) (by decide) (fun r232 u H locs hw hP hD hS => ?_)
    obtain ⟨hP, hD⟩ : ct_B D A H [(qo, .inr (6, [.ref qo_fits])), (qo_fits, .inl (cI, 12, .inl (g216))), (qd_steps, .inl (cI, 24, .inl (fd_steps))), (qd_lengths, .inl (cI, 2, .inl (fd_lengths))), (qd_starts, .inl (cI, 2, .inl (fd_starts))), dn qd vd_gap vd_odds vd_rain vd_lines qd_steps qd_lengths qd_starts qd_met qd_stumbles vd_stumbleCount qd_muds qd_cells vd_cellCount qd_tunes vd_tuneCount qd_changes vd_changeCount, (qd_met, .inl (cI, 6, .inl (fd_met)))] := ⟨hP, hD⟩
    refine lv_aload_n hx hb dX6_findFits_82 rfl (lv_at hl 5 rfl) ?_
    refine va_get (D := D) (ci := 0) (v := .ref qd_met) (C := RX0) (T := TX0) (N := 17) hx hb hts hi0 hown hK hP 5 rfl rfl 7 (by decide) (hts (.fieldLink RX6 56 "OverHill$Dance" "met" "[I") (by decide +kernel)) (fun _ h9 => h9) rfl dX6_findFits_83 ?_
    refine lv_iload hx hb dX6_findFits_86 (lv_at hl 0 rfl) ?_
    refine va_iald (D := D) hx hb hK hP 6 0 rfl rfl (tq_in rfl (by omega)) dX6_findFits_88 ?_
    refine lv_topi (fun z233 ez233 => ?_)
    refine lv_iand hx hb dX6_findFits_89 ?_
    refine lv_topi (fun z234 ez234 => ?_)
    refine lv_iand hx hb dX6_findFits_90 ?_
    refine lv_topi (fun z235 ez235 => ?_)
    refine va_iast (D := D) hx hb hK hP hD hS 1 0 rfl rfl (tq_in rfl (by omega)) dX6_findFits_91 (fun H locs hP hD hS => ?_)
    obtain ⟨g236, hP, hD⟩ : ∃ g236 : Nat → Int32, ct_B D A H [(qo, .inr (6, [.ref qo_fits])), (qo_fits, .inl (cI, 12, .inl (g236))), (qd_steps, .inl (cI, 24, .inl (fd_steps))), (qd_lengths, .inl (cI, 2, .inl (fd_lengths))), (qd_starts, .inl (cI, 2, .inl (fd_starts))), dn qd vd_gap vd_odds vd_rain vd_lines qd_steps qd_lengths qd_starts qd_met qd_stumbles vd_stumbleCount qd_muds qd_cells vd_cellCount qd_tunes vd_tuneCount qd_changes vd_changeCount, (qd_met, .inl (cI, 6, .inl (fd_met)))] := ⟨_, hP, hD⟩
    obtain ⟨z237, ez237⟩ : ∃ z : Int32, z = x217 + 1 := ⟨_, rfl⟩
    have fz237 : z237.toInt = x217.toInt + 1 := by rw [ez237]; exact tq_add rfl (by decide) (by omega)
    refine lv_iinc (v := z237) (lv' := [(4, .int z237), (6, .int r229), (5, .int r226), (3, .int z4), (0, .ref qo), (1, .ref qd), (2, .int a2)]) hx hb dX6_findFits_92 hl (k := 2) rfl ez237.symm (by decide) rfl (fun ls hl => ?_)
    refine lv_goto (tgt := 25) hx hb dX6_findFits_95 (by decide) ?_
    obtain ⟨hP9, hD9⟩ : ct_B D A H [(qo, .inr (6, [.ref qo_fits])), (qd_steps, .inl (cI, 24, .inl (fd_steps))), (qd_starts, .inl (cI, 2, .inl (fd_starts))), (qd_met, .inl (cI, 6, .inl (fd_met))), (qo_fits, .inl (cI, 12, .inl (g236))), dn qd vd_gap vd_odds vd_rain vd_lines qd_steps qd_lengths qd_starts qd_met qd_stumbles vd_stumbleCount qd_muds qd_cells vd_cellCount qd_tunes vd_tuneCount qd_changes vd_changeCount, (qd_lengths, .inl (cI, 2, .inl (fd_lengths)))] := ⟨hP.sub [0, 2, 4, 6, 1, 5, 3] rfl, hD.sub [0, 2, 4, 6, 1, 5, 3] (by decide) rfl⟩
    exact ih218 (g236, z237) _ _ _ (show (2147483647 - z237.toInt).toNat < (2147483647 - x217.toInt).toNat by omega) ⟨(show 0 ≤ z237.toInt by omega), ⟨hP9, hD9⟩, hS, lv_sub hl [0, 3, 4, 5, 6] rfl⟩
abbrev w_c_X6_firstStuck (cI cJ cB cZ cO : ClassId) (qo : Nat) (qo_fits : Nat) (fo_fits : Nat → Int32) (qd : Nat) (vd_gap : Int32) (vd_odds : Int32) (vd_rain : Int32) (vd_lines : Int32) (qd_steps : Nat) (qd_lengths : Nat) (fd_lengths : Nat → Int32) (qd_starts : Nat) (qd_met : Nat) (qd_stumbles : Nat) (vd_stumbleCount : Int32) (qd_muds : Nat) (qd_cells : Nat) (vd_cellCount : Int32) (qd_tunes : Nat) (vd_tuneCount : Int32) (qd_changes : Nat) (vd_changeCount : Int32) : va_W := [(qo, .inr (6, [.ref qo_fits])), (qo_fits, .inl (cI, 12, .inl (fo_fits))), dn qd vd_gap vd_odds vd_rain vd_lines qd_steps qd_lengths qd_starts qd_met qd_stumbles vd_stumbleCount qd_muds qd_cells vd_cellCount qd_tunes vd_tuneCount qd_changes vd_changeCount, (qd_lengths, .inl (cI, 2, .inl (fd_lengths)))]
set_option maxHeartbeats 4000000 in
set_option maxRecDepth 100000 in
/-- X6 firstStuck -/
theorem c_X6_firstStuck (l : Launch) (D : va_G) (G : ct_G) (cI cJ cB cZ cO : ClassId) (qo : Nat) (qo_fits : Nat) (fo_fits : Nat → Int32) (qd : Nat) (vd_gap : Int32) (vd_odds : Int32) (vd_rain : Int32) (vd_lines : Int32) (qd_steps : Nat) (qd_lengths : Nat) (fd_lengths : Nat → Int32) (qd_starts : Nat) (qd_met : Nat) (qd_stumbles : Nat) (vd_stumbleCount : Int32) (qd_muds : Nat) (qd_cells : Nat) (vd_cellCount : Int32) (qd_tunes : Nat) (vd_tuneCount : Int32) (qd_changes : Nat) (vd_changeCount : Int32) (a2 : Int32) (h_vd_gap : 0 ≤ vd_gap.toInt ∧ vd_gap.toInt ≤ 20) (h_fd_lengths : ar_ok [0] [12] fd_lengths) (h_vd_stumbleCount : 0 ≤ vd_stumbleCount.toInt ∧ vd_stumbleCount.toInt ≤ 8) (h_vd_cellCount : 0 ≤ vd_cellCount.toInt ∧ vd_cellCount.toInt ≤ 12) (h_vd_tuneCount : 0 ≤ vd_tuneCount.toInt ∧ vd_tuneCount.toInt ≤ 5) (h_vd_changeCount : 0 ≤ vd_changeCount.toInt ∧ vd_changeCount.toInt ≤ 40) (h_a2 : 0 ≤ a2.toInt ∧ a2.toInt ≤ 1) (sz : Nat) : Met l yX6_firstStuck wsX6_firstStuck ({ frames := 0, cells := 0, slots := 0, locals := 0 }) (va_Pc [.ref qo, .ref qd, .int a2] (ct_P D (ct_T cI cJ cB cZ cO) G (w_c_X6_firstStuck cI cJ cB cZ cO qo qo_fits fo_fits qd vd_gap vd_odds vd_rain vd_lines qd_steps qd_lengths fd_lengths qd_starts qd_met qd_stumbles vd_stumbleCount qd_muds qd_cells vd_cellCount qd_tunes vd_tuneCount qd_changes vd_changeCount) sz)) (va_Qi (fun (rz : Int32) (u : Unit) => ((-1) ≤ rz.toInt ∧ rz.toInt ≤ 11)) (fun (u : Unit) t => ct_Q D (va_A (w_c_X6_firstStuck cI cJ cB cZ cO qo qo_fits fo_fits qd vd_gap vd_odds vd_rain vd_lines qd_steps qd_lengths fd_lengths qd_starts qd_met qd_stumbles vd_stumbleCount qd_muds qd_cells vd_cellCount qd_tunes vd_tuneCount qd_changes vd_changeCount) sz) [(qo, .inr (6, [.ref qo_fits])), (qo_fits, .inl (cI, 12, .inl (fo_fits))), dn qd vd_gap vd_odds vd_rain vd_lines qd_steps qd_lengths qd_starts qd_met qd_stumbles vd_stumbleCount qd_muds qd_cells vd_cellCount qd_tunes vd_tuneCount qd_changes vd_changeCount, (qd_lengths, .inl (cI, 2, .inl (fd_lengths)))] t) (va_A (w_c_X6_firstStuck cI cJ cB cZ cO qo qo_fits fo_fits qd vd_gap vd_odds vd_rain vd_lines qd_steps qd_lengths fd_lengths qd_starts qd_met qd_stumbles vd_stumbleCount qd_muds qd_cells vd_cellCount qd_tunes vd_tuneCount qd_changes vd_changeCount) sz)) 0 0 (va_A (w_c_X6_firstStuck cI cJ cB cZ cO qo qo_fits fo_fits qd vd_gap vd_odds vd_rain vd_lines qd_steps qd_lengths fd_lengths qd_starts qd_met qd_stumbles vd_stumbleCount qd_muds qd_cells vd_cellCount qd_tunes vd_tuneCount qd_changes vd_changeCount) sz) := by
  refine Met.ofW (cc := cX6_firstStuck) (maxL := 4) (ret := (some .int)) (by decide) rfl ?_
  intro p e s m args below meth c s₁ B hml hv
  obtain ⟨rfl, hsz, hP, hE, hD0, hH⟩ := hv
  have hx := B.exec
  have hb := B.bytes
  have hr := B.returns
  have hts := atoms_spec (ws := wsX6_firstStuck) B.pre
  have hown : s.vm.findClass RX6 = some m.cls := findClass_of_methodNamed B.named
  have hlocks := B.notSynchronized
  have hK := hE.1
  have hi0 : ∀ w ∈ u_ws RX0 TX0 17, w ∈ wsX6_firstStuck := fun w h => List.mem_cons_of_mem _ (List.mem_append_left _ (List.mem_append_right _ h))
  have hi6 : ∀ w ∈ u_ws RX6 TX6 1, w ∈ wsX6_firstStuck := fun w h => List.mem_cons_of_mem _ (List.mem_append_right _ h)
  subst hsz
  have hD := hD0.self (sz := s.heap.size)
  generalize hAe : va_A (w_c_X6_firstStuck cI cJ cB cZ cO qo qo_fits fo_fits qd vd_gap vd_odds vd_rain vd_lines qd_steps qd_lengths fd_lengths qd_starts qd_met qd_stumbles vd_stumbleCount qd_muds qd_cells vd_cellCount qd_tunes vd_tuneCount qd_changes vd_changeCount) s.heap.size = A at hD hH ⊢
  have hA : ∀ q : Nat, s.heap.size ≤ q → A q := fun q h => by rw [← hAe]; exact Or.inr h
  have hS : va_S A s.heap s.heap [] := va_S.rf
  obtain ⟨hP, hD⟩ : ct_B D A s.heap [(qo, .inr (6, [.ref qo_fits])), (qo_fits, .inl (cI, 12, .inl (fo_fits))), dn qd vd_gap vd_odds vd_rain vd_lines qd_steps qd_lengths qd_starts qd_met qd_stumbles vd_stumbleCount qd_muds qd_cells vd_cellCount qd_tunes vd_tuneCount qd_changes vd_changeCount, (qd_lengths, .inl (cI, 2, .inl (fd_lengths)))] := ⟨hP, hD⟩
  have hl := lv_entry ([.ref qo, .ref qd, .int a2]) (n := 4) (Nat.le_of_ble_eq_true rfl)
  rw [lg_entry_eq]
  generalize (lg_sl ([.ref qo, .ref qd, .int a2]) ++ List.replicate (4 - (lg_sl ([.ref qo, .ref qd, .int a2])).length) Slot.unset).toArray = ls at hl ⊢
  have hl : lv_has ls 4 [(0, .ref qo), (1, .ref qd), (2, .int a2)] := hl
  obtain ⟨H, hHe⟩ : ∃ H : Heap, H = s.heap := ⟨_, rfl⟩
  rw [← hHe] at hP
  have hS : va_S A s.heap H [] := by rw [hHe]; exact va_S.rf
  refine ct_start hHe ?_
  refine lv_iconst (v := 0) hx hb dX6_firstStuck_0 (by decide) ?_
  refine lv_istore_n (lv' := [(3, .int 0), (0, .ref qo), (1, .ref qd), (2, .int a2)]) hx hb dX6_firstStuck_1 rfl hl (by decide) rfl (fun ls hl => ?_)
  refine ct_loop (X := Int32) (fun x => (12 - x.toInt).toNat) (fun x H locs ls => ((0 ≤ x.toInt ∧ x.toInt ≤ 12)) ∧ ct_B D A H [(qo, .inr (6, [.ref qo_fits])), (qo_fits, .inl (cI, 12, .inl (fo_fits))), dn qd vd_gap vd_odds vd_rain vd_lines qd_steps qd_lengths qd_starts qd_met qd_stumbles vd_stumbleCount qd_muds qd_cells vd_cellCount qd_tunes vd_tuneCount qd_changes vd_changeCount, (qd_lengths, .inl (cI, 2, .inl (fd_lengths)))] ∧ va_S A s.heap H locs ∧ lv_has ls 4 [(3, .int x), (0, .ref qo), (1, .ref qd), (2, .int a2)]) 2 (0 : Int32) ⟨(show 0 ≤ (0 : Int32).toInt ∧ (0 : Int32).toInt ≤ 12 by decide), ⟨hP, hD⟩, hS, lv_sub hl [0, 1, 2, 3] rfl⟩ (fun x ih80 H locs ls hI => ?_)
  obtain ⟨x79, rfl⟩ : ∃ z, z = x := ⟨_, rfl⟩
  obtain ⟨h_x79, ⟨hP, hD⟩, hS, hl⟩ := hI
  have h_x79 : (0 ≤ x79.toInt ∧ x79.toInt ≤ 12) := h_x79
  obtain ⟨hP, hD⟩ : ct_B D A H [(qo, .inr (6, [.ref qo_fits])), (qo_fits, .inl (cI, 12, .inl (fo_fits))), dn qd vd_gap vd_odds vd_rain vd_lines qd_steps qd_lengths qd_starts qd_met qd_stumbles vd_stumbleCount qd_muds qd_cells vd_cellCount qd_tunes vd_tuneCount qd_changes vd_changeCount, (qd_lengths, .inl (cI, 2, .inl (fd_lengths)))] := ⟨hP, hD⟩
  have hl : lv_has ls 4 [(3, .int x79), (0, .ref qo), (1, .ref qd), (2, .int a2)] := hl
  refine lv_iload_n hx hb dX6_firstStuck_2 rfl (lv_at hl 0 rfl) ?_
  refine lv_aload_n hx hb dX6_firstStuck_3 rfl (lv_at hl 2 rfl) ?_
  refine va_get (D := D) (ci := 0) (v := .ref qd_lengths) (C := RX0) (T := TX0) (N := 17) hx hb hts hi0 hown hK hP 2 rfl rfl 5 (by decide) (hts (.fieldLink RX6 15 "OverHill$Dance" "lengths" "[I") (by decide +kernel)) (fun _ h9 => h9) rfl dX6_firstStuck_4 ?_
  refine lv_iload_n hx hb dX6_firstStuck_7 rfl (lv_at hl 3 rfl) ?_
  refine va_iald (D := D) hx hb hK hP 3 0 rfl rfl (tq_in rfl (by omega)) dX6_firstStuck_8 ?_
  refine lv_topi (fun z81 ez81 => ?_)
  have fz81 : 0 ≤ z81.toInt ∧ z81.toInt ≤ 12 := by rw [ez81]; exact ar_get h_fd_lengths a2 0 (by omega) (show a2.toInt % 1 = 0 by omega) rfl
  refine lv_icmp_ge (tgt := 29) hx hb dX6_firstStuck_9 (by decide) (fun hc => ?_) (fun hc => ?_)
  · have hq82 : z81.toInt ≤ x79.toInt := tq_le rfl rfl hc
    refine lv_iconst (v := (-1)) hx hb dX6_firstStuck_29 (by decide) ?_
    obtain ⟨hP9, hD9⟩ : ct_B D A H [(qo, .inr (6, [.ref qo_fits])), (qo_fits, .inl (cI, 12, .inl (fo_fits))), dn qd vd_gap vd_odds vd_rain vd_lines qd_steps qd_lengths qd_starts qd_met qd_stumbles vd_stumbleCount qd_muds qd_cells vd_cellCount qd_tunes vd_tuneCount qd_changes vd_changeCount, (qd_lengths, .inl (cI, 2, .inl (fd_lengths)))] := ⟨hP.sub [0, 1, 2, 3] rfl, hD.sub [0, 1, 2, 3] (by decide) rfl⟩
    exact W.iret (v := (-1)) hx hb hr (fun t ht hW => ⟨⟨(-1), (), rfl, (show (-1) ≤ (-1 : Int32).toInt ∧ (-1 : Int32).toInt ≤ 11 by decide), by rw [ht]; exact hP9, hD9⟩, hS.F ht⟩) hS.2.2 dX6_firstStuck_30
  · have hq82 : x79.toInt < z81.toInt := tq_nle rfl rfl hc
    refine lv_aload_n hx hb dX6_firstStuck_12 rfl (lv_at hl 1 rfl) ?_
    refine va_get (D := D) (ci := 6) (v := .ref qo_fits) (C := RX6) (T := TX6) (N := 1) hx hb hts hi6 hown hK hP 0 rfl rfl 0 (by decide) (hts (.fieldLink RX6 9 "OverHill$Rounds" "fits" "[I") (by decide +kernel)) (fun _ h9 => h9) rfl dX6_firstStuck_13 ?_
    refine lv_iload_n hx hb dX6_firstStuck_16 rfl (lv_at hl 0 rfl) ?_
    refine va_iald (D := D) hx hb hK hP 1 0 rfl rfl (tq_in rfl (by omega)) dX6_firstStuck_17 ?_
    refine lv_topi (fun z83 ez83 => ?_)
    refine lv_if_ne (tgt := 23) hx hb dX6_firstStuck_18 (by decide) (fun hc => ?_) (fun hc => ?_)
    · have hq84 : z83.toInt ≠ 0 := tq_ne rfl (by decide) hc
      have hb85 := tq_lo z83
      obtain ⟨z86, ez86⟩ : ∃ z : Int32, z = x79 + 1 := ⟨_, rfl⟩
      have fz86 : z86.toInt = x79.toInt + 1 := by rw [ez86]; exact tq_add rfl (by decide) (by omega)
      refine lv_iinc (v := z86) (lv' := [(3, .int z86), (0, .ref qo), (1, .ref qd), (2, .int a2)]) hx hb dX6_firstStuck_23 hl (k := 0) rfl ez86.symm (by decide) rfl (fun ls hl => ?_)
      refine lv_goto (tgt := 2) hx hb dX6_firstStuck_26 (by decide) ?_
      exact ih80 z86 _ _ _ (show (12 - z86.toInt).toNat < (12 - x79.toInt).toNat by omega) ⟨(show 0 ≤ z86.toInt ∧ z86.toInt ≤ 12 by omega), ⟨hP, hD⟩, hS, lv_sub hl [0, 1, 2, 3] rfl⟩
    · have hq84 : z83.toInt = 0 := tq_eq rfl (by decide) hc
      have hb87 := tq_lo z83
      refine lv_iload_n hx hb dX6_firstStuck_21 rfl (lv_at hl 0 rfl) ?_
      obtain ⟨hP9, hD9⟩ : ct_B D A H [(qo, .inr (6, [.ref qo_fits])), (qo_fits, .inl (cI, 12, .inl (fo_fits))), dn qd vd_gap vd_odds vd_rain vd_lines qd_steps qd_lengths qd_starts qd_met qd_stumbles vd_stumbleCount qd_muds qd_cells vd_cellCount qd_tunes vd_tuneCount qd_changes vd_changeCount, (qd_lengths, .inl (cI, 2, .inl (fd_lengths)))] := ⟨hP.sub [0, 1, 2, 3] rfl, hD.sub [0, 1, 2, 3] (by decide) rfl⟩
      exact W.iret (v := x79) hx hb hr (fun t ht hW => ⟨⟨x79, (), rfl, (show (-1) ≤ x79.toInt ∧ x79.toInt ≤ 11 by omega), by rw [ht]; exact hP9, hD9⟩, hS.F ht⟩) hS.2.2 dX6_firstStuck_22
abbrev w_c_X6_fitting (cI cJ cB cZ cO : ClassId) (qo : Nat) (qo_fits : Nat) (fo_fits : Nat → Int32) (qd : Nat) (vd_gap : Int32) (vd_odds : Int32) (vd_rain : Int32) (vd_lines : Int32) (qd_steps : Nat) (fd_steps : Nat → Int32) (qd_lengths : Nat) (qd_starts : Nat) (qd_met : Nat) (qd_stumbles : Nat) (vd_stumbleCount : Int32) (qd_muds : Nat) (qd_cells : Nat) (vd_cellCount : Int32) (qd_tunes : Nat) (vd_tuneCount : Int32) (qd_changes : Nat) (vd_changeCount : Int32) : va_W := [(qo, .inr (6, [.ref qo_fits])), (qo_fits, .inl (cI, 12, .inl (fo_fits))), dn qd vd_gap vd_odds vd_rain vd_lines qd_steps qd_lengths qd_starts qd_met qd_stumbles vd_stumbleCount qd_muds qd_cells vd_cellCount qd_tunes vd_tuneCount qd_changes vd_changeCount, (qd_steps, .inl (cI, 24, .inl (fd_steps)))]
set_option maxHeartbeats 4000000 in
set_option maxRecDepth 100000 in
/-- X6 fitting -/
theorem c_X6_fitting (l : Launch) (D : va_G) (G : ct_G) (cI cJ cB cZ cO : ClassId) (qo : Nat) (qo_fits : Nat) (fo_fits : Nat → Int32) (qd : Nat) (vd_gap : Int32) (vd_odds : Int32) (vd_rain : Int32) (vd_lines : Int32) (qd_steps : Nat) (fd_steps : Nat → Int32) (qd_lengths : Nat) (qd_starts : Nat) (qd_met : Nat) (qd_stumbles : Nat) (vd_stumbleCount : Int32) (qd_muds : Nat) (qd_cells : Nat) (vd_cellCount : Int32) (qd_tunes : Nat) (vd_tuneCount : Int32) (qd_changes : Nat) (vd_changeCount : Int32) (a2 : Int32) (a3 : Int32) (h_vd_gap : 0 ≤ vd_gap.toInt ∧ vd_gap.toInt ≤ 20) (h_fd_steps : ar_ok [0] [5] fd_steps) (h_vd_stumbleCount : 0 ≤ vd_stumbleCount.toInt ∧ vd_stumbleCount.toInt ≤ 8) (h_vd_cellCount : 0 ≤ vd_cellCount.toInt ∧ vd_cellCount.toInt ≤ 12) (h_vd_tuneCount : 0 ≤ vd_tuneCount.toInt ∧ vd_tuneCount.toInt ≤ 5) (h_vd_changeCount : 0 ≤ vd_changeCount.toInt ∧ vd_changeCount.toInt ≤ 40) (h_a2 : 0 ≤ a2.toInt ∧ a2.toInt ≤ 1) (h_a3 : 0 ≤ a3.toInt ∧ a3.toInt ≤ 11) (sz : Nat) : Met l yX6_fitting wsX6_fitting ({ frames := 1, cells := 0, slots := 0, locals := 22 }) (va_Pc [.ref qo, .ref qd, .int a2, .int a3] (ct_P D (ct_T cI cJ cB cZ cO) G (w_c_X6_fitting cI cJ cB cZ cO qo qo_fits fo_fits qd vd_gap vd_odds vd_rain vd_lines qd_steps fd_steps qd_lengths qd_starts qd_met qd_stumbles vd_stumbleCount qd_muds qd_cells vd_cellCount qd_tunes vd_tuneCount qd_changes vd_changeCount) sz)) (va_Qi (fun (rz : Int32) (u : Unit) => True) (fun (u : Unit) t => ct_Q D (va_A (w_c_X6_fitting cI cJ cB cZ cO qo qo_fits fo_fits qd vd_gap vd_odds vd_rain vd_lines qd_steps fd_steps qd_lengths qd_starts qd_met qd_stumbles vd_stumbleCount qd_muds qd_cells vd_cellCount qd_tunes vd_tuneCount qd_changes vd_changeCount) sz) [(qo, .inr (6, [.ref qo_fits])), (qo_fits, .inl (cI, 12, .inl (fo_fits))), dn qd vd_gap vd_odds vd_rain vd_lines qd_steps qd_lengths qd_starts qd_met qd_stumbles vd_stumbleCount qd_muds qd_cells vd_cellCount qd_tunes vd_tuneCount qd_changes vd_changeCount, (qd_steps, .inl (cI, 24, .inl (fd_steps)))] t) (va_A (w_c_X6_fitting cI cJ cB cZ cO qo qo_fits fo_fits qd vd_gap vd_odds vd_rain vd_lines qd_steps fd_steps qd_lengths qd_starts qd_met qd_stumbles vd_stumbleCount qd_muds qd_cells vd_cellCount qd_tunes vd_tuneCount qd_changes vd_changeCount) sz)) 0 0 (va_A (w_c_X6_fitting cI cJ cB cZ cO qo qo_fits fo_fits qd vd_gap vd_odds vd_rain vd_lines qd_steps fd_steps qd_lengths qd_starts qd_met qd_stumbles vd_stumbleCount qd_muds qd_cells vd_cellCount qd_tunes vd_tuneCount qd_changes vd_changeCount) sz) := by
  refine Met.ofW (cc := cX6_fitting) (maxL := 6) (ret := (some .int)) (by decide) rfl ?_
  intro p e s m args below meth c s₁ B hml hv
  obtain ⟨rfl, hsz, hP, hE, hD0, hH⟩ := hv
  have hx := B.exec
  have hb := B.bytes
  have hr := B.returns
  have hts := atoms_spec (ws := wsX6_fitting) B.pre
  have hown : s.vm.findClass RX6 = some m.cls := findClass_of_methodNamed B.named
  have hlocks := B.notSynchronized
  have hK := hE.1
  have hi6 : ∀ w ∈ u_ws RX6 TX6 1, w ∈ wsX6_fitting := fun w h => List.mem_cons_of_mem _ (List.mem_append_left _ (List.mem_append_right _ h))
  subst hsz
  have hD := hD0.self (sz := s.heap.size)
  generalize hAe : va_A (w_c_X6_fitting cI cJ cB cZ cO qo qo_fits fo_fits qd vd_gap vd_odds vd_rain vd_lines qd_steps fd_steps qd_lengths qd_starts qd_met qd_stumbles vd_stumbleCount qd_muds qd_cells vd_cellCount qd_tunes vd_tuneCount qd_changes vd_changeCount) s.heap.size = A at hD hH ⊢
  have hA : ∀ q : Nat, s.heap.size ≤ q → A q := fun q h => by rw [← hAe]; exact Or.inr h
  have hS : va_S A s.heap s.heap [] := va_S.rf
  obtain ⟨hP, hD⟩ : ct_B D A s.heap [(qo, .inr (6, [.ref qo_fits])), (qo_fits, .inl (cI, 12, .inl (fo_fits))), dn qd vd_gap vd_odds vd_rain vd_lines qd_steps qd_lengths qd_starts qd_met qd_stumbles vd_stumbleCount qd_muds qd_cells vd_cellCount qd_tunes vd_tuneCount qd_changes vd_changeCount, (qd_steps, .inl (cI, 24, .inl (fd_steps)))] := ⟨hP, hD⟩
  have hl := lv_entry ([.ref qo, .ref qd, .int a2, .int a3]) (n := 6) (Nat.le_of_ble_eq_true rfl)
  rw [lg_entry_eq]
  generalize (lg_sl ([.ref qo, .ref qd, .int a2, .int a3]) ++ List.replicate (6 - (lg_sl ([.ref qo, .ref qd, .int a2, .int a3])).length) Slot.unset).toArray = ls at hl ⊢
  have hl : lv_has ls 6 [(0, .ref qo), (1, .ref qd), (2, .int a2), (3, .int a3)] := hl
  obtain ⟨H, hHe⟩ : ∃ H : Heap, H = s.heap := ⟨_, rfl⟩
  rw [← hHe] at hP
  have hS : va_S A s.heap H [] := by rw [hHe]; exact va_S.rf
  refine ct_start hHe ?_
  refine lv_aload_n hx hb dX6_fitting_0 rfl (lv_at hl 1 rfl) ?_
  refine lv_iload_n hx hb dX6_fitting_1 rfl (lv_at hl 2 rfl) ?_
  refine lv_iload_n hx hb dX6_fitting_2 rfl (lv_at hl 3 rfl) ?_
  refine ct_calli (D := D) (wr := [(qo, .inr (6, [.ref qo_fits])), (qo_fits, .inl (cI, 12, .inl (fo_fits)))]) (va_runV (As := [.int a2, .int a3]) (rest := []) ⟨hx, hb, hml, hown, hts⟩ (c_X0_stepAt l D G cI cJ cB cZ cO qd vd_gap vd_odds vd_rain vd_lines qd_steps fd_steps qd_lengths qd_starts qd_met qd_stumbles vd_stumbleCount qd_muds qd_cells vd_cellCount qd_tunes vd_tuneCount qd_changes vd_changeCount a2 a3 h_vd_gap h_fd_steps h_vd_stumbleCount h_vd_cellCount h_vd_tuneCount h_vd_changeCount h_a2 h_a3 H.size) (cwV 2 hts gX6_fitting_X0_stepAt rfl rfl rfl (by decide +kernel) ⟨Nat.le_of_ble_eq_true rfl, Nat.le_of_ble_eq_true rfl⟩) (ct_preV (T := ct_T cI cJ cB cZ cO) (ci := 0) (q0 := 2) hE hH hP hD hS hA [2, 3] (by decide) rfl rfl rfl) rfl rfl hl.1 rfl (lv_room (Nat.le_of_ble_eq_true rfl)) dX6_fitting_3 ⟨Nat.le_of_ble_eq_true rfl, Nat.le_of_ble_eq_true rfl⟩) hP hD hS hA [2, 3] [0, 1] rfl rfl (by decide) (by decide) (fun r1 u H locs hw hP hD hS => ?_)
  obtain ⟨hP, hD⟩ : ct_B D A H [(qo, .inr (6, [.ref qo_fits])), (qo_fits, .inl (cI, 12, .inl (fo_fits))), dn qd vd_gap vd_odds vd_rain vd_lines qd_steps qd_lengths qd_starts qd_met qd_stumbles vd_stumbleCount qd_muds qd_cells vd_cellCount qd_tunes vd_tuneCount qd_changes vd_changeCount, (qd_steps, .inl (cI, 24, .inl (fd_steps)))] := ⟨hP, hD⟩
  have hz := hw
  have h_r1 : 0 ≤ r1.toInt ∧ r1.toInt ≤ 5 := hz
  refine lv_istore (lv' := [(4, .int r1), (0, .ref qo), (1, .ref qd), (2, .int a2), (3, .int a3)]) hx hb dX6_fitting_6 hl (by decide) rfl (fun ls hl => ?_)
  refine lv_aload_n hx hb dX6_fitting_8 rfl (lv_at hl 1 rfl) ?_
  refine va_get (D := D) (ci := 6) (v := .ref qo_fits) (C := RX6) (T := TX6) (N := 1) hx hb hts hi6 hown hK hP 0 rfl rfl 0 (by decide) (hts (.fieldLink RX6 9 "OverHill$Rounds" "fits" "[I") (by decide +kernel)) (fun _ h9 => h9) rfl dX6_fitting_9 ?_
  refine lv_iload_n hx hb dX6_fitting_12 rfl (lv_at hl 4 rfl) ?_
  refine va_iald (D := D) hx hb hK hP 1 0 rfl rfl (tq_in rfl (by omega)) dX6_fitting_13 ?_
  refine lv_topi (fun z2 ez2 => ?_)
  refine lv_iload hx hb dX6_fitting_14 (lv_at hl 0 rfl) ?_
  refine lv_ishr hx hb dX6_fitting_16 ?_
  refine lv_topi (fun z3 ez3 => ?_)
  refine lv_iconst (v := 1) hx hb dX6_fitting_17 (by decide) ?_
  refine lv_iand hx hb dX6_fitting_18 ?_
  refine lv_topi (fun z4 ez4 => ?_)
  have fz4 : 0 ≤ z4.toInt ∧ z4.toInt ≤ 1 := by rw [ez4]; exact tq_and (c := 1) (by decide) (by omega)
  refine lv_if_eq (tgt := 26) hx hb dX6_fitting_19 (by decide) (fun hc => ?_) (fun hc => ?_)
  · have hq5 : z4.toInt = 0 := tq_eq rfl (by decide) hc
    refine lv_iconst (v := 0) hx hb dX6_fitting_26 (by decide) ?_
    refine lv_istore (lv' := [(5, .int 0), (4, .int r1), (0, .ref qo), (1, .ref qd), (2, .int a2), (3, .int a3)]) hx hb dX6_fitting_27 hl (by decide) rfl (fun ls hl => ?_)
    refine lv_iload hx hb dX6_fitting_29 (lv_at hl 0 rfl) ?_
    refine lv_if_eq (tgt := 39) hx hb dX6_fitting_31 (by decide) (fun _ => ?_) (fun hc => absurd hc (by decide))
    refine lv_aload_n hx hb dX6_fitting_39 rfl (lv_at hl 2 rfl) ?_
    refine va_get (D := D) (ci := 6) (v := .ref qo_fits) (C := RX6) (T := TX6) (N := 1) hx hb hts hi6 hown hK hP 0 rfl rfl 0 (by decide) (hts (.fieldLink RX6 9 "OverHill$Rounds" "fits" "[I") (by decide +kernel)) (fun _ h9 => h9) rfl dX6_fitting_40 ?_
    refine lv_iload_n hx hb dX6_fitting_43 rfl (lv_at hl 5 rfl) ?_
    refine va_iald (D := D) hx hb hK hP 1 0 rfl rfl (tq_in rfl (by omega)) dX6_fitting_44 ?_
    refine lv_topi (fun z6 ez6 => ?_)
    refine ct_calli (D := D) (wr := [(qo, .inr (6, [.ref qo_fits])), (qo_fits, .inl (cI, 12, .inl (fo_fits))), dn qd vd_gap vd_odds vd_rain vd_lines qd_steps qd_lengths qd_starts qd_met qd_stumbles vd_stumbleCount qd_muds qd_cells vd_cellCount qd_tunes vd_tuneCount qd_changes vd_changeCount, (qd_steps, .inl (cI, 24, .inl (fd_steps)))]) (va_runS (As := [.int z6]) (rest := []) ⟨hx, hb, hml, hown, hts⟩ (c_J6_numberOfTrailingZeros_0f7a4 l D G cI cJ cB cZ cO z6  H.size) (va_cwS 1 hts gX6_fitting_J6_numberOfTrailingZeros_0f7a4 rfl rfl rfl (by decide +kernel) ⟨Nat.le_of_ble_eq_true rfl, Nat.le_of_ble_eq_true rfl⟩) (ct_preS (T := ct_T cI cJ cB cZ cO) hE hH hP hD hS hA [] (by decide) rfl) rfl rfl hl.1 rfl (lv_room (Nat.le_of_ble_eq_true rfl)) dX6_fitting_45 ⟨Nat.le_of_ble_eq_true rfl, Nat.le_of_ble_eq_true rfl⟩) hP hD hS hA [] [0, 1, 2, 3] rfl rfl (by decide) (by decide) (fun r7 u H locs hw hP hD hS => ?_)
    obtain ⟨hP, hD⟩ : ct_B D A H [(qo, .inr (6, [.ref qo_fits])), (qo_fits, .inl (cI, 12, .inl (fo_fits))), dn qd vd_gap vd_odds vd_rain vd_lines qd_steps qd_lengths qd_starts qd_met qd_stumbles vd_stumbleCount qd_muds qd_cells vd_cellCount qd_tunes vd_tuneCount qd_changes vd_changeCount, (qd_steps, .inl (cI, 24, .inl (fd_steps)))] := ⟨hP, hD⟩
    obtain ⟨hP9, hD9⟩ : ct_B D A H [(qo, .inr (6, [.ref qo_fits])), (qo_fits, .inl (cI, 12, .inl (fo_fits))), dn qd vd_gap vd_odds vd_rain vd_lines qd_steps qd_lengths qd_starts qd_met qd_stumbles vd_stumbleCount qd_muds qd_cells vd_cellCount qd_tunes vd_tuneCount qd_changes vd_changeCount, (qd_steps, .inl (cI, 24, .inl (fd_steps)))] := ⟨hP.sub [0, 1, 2, 3] rfl, hD.sub [0, 1, 2, 3] (by decide) rfl⟩
    exact W.iret (v := r7) hx hb hr (fun t ht hW => ⟨⟨r7, (), rfl, trivial, by rw [ht]; exact hP9, hD9⟩, hS.F ht⟩) hS.2.2 dX6_fitting_48
  · have hq5 : z4.toInt ≠ 0 := tq_ne rfl (by decide) hc
    refine lv_iconst (v := 1) hx hb dX6_fitting_22 (by decide) ?_
    refine lv_goto (tgt := 27) hx hb dX6_fitting_23 (by decide) ?_
    refine lv_istore (lv' := [(5, .int 1), (4, .int r1), (0, .ref qo), (1, .ref qd), (2, .int a2), (3, .int a3)]) hx hb dX6_fitting_27 hl (by decide) rfl (fun ls hl => ?_)
    refine lv_iload hx hb dX6_fitting_29 (lv_at hl 0 rfl) ?_
    refine lv_if_eq (tgt := 39) hx hb dX6_fitting_31 (by decide) (fun hc => absurd hc (by decide)) (fun _ => ?_)
    refine lv_iload hx hb dX6_fitting_34 (lv_at hl 1 rfl) ?_
    refine lv_goto (tgt := 48) hx hb dX6_fitting_36 (by decide) ?_
    obtain ⟨hP9, hD9⟩ : ct_B D A H [(qo, .inr (6, [.ref qo_fits])), (qo_fits, .inl (cI, 12, .inl (fo_fits))), dn qd vd_gap vd_odds vd_rain vd_lines qd_steps qd_lengths qd_starts qd_met qd_stumbles vd_stumbleCount qd_muds qd_cells vd_cellCount qd_tunes vd_tuneCount qd_changes vd_changeCount, (qd_steps, .inl (cI, 24, .inl (fd_steps)))] := ⟨hP.sub [0, 1, 2, 3] rfl, hD.sub [0, 1, 2, 3] (by decide) rfl⟩
    exact W.iret (v := r1) hx hb hr (fun t ht hW => ⟨⟨r1, (), rfl, trivial, by rw [ht]; exact hP9, hD9⟩, hS.F ht⟩) hS.2.2 dX6_fitting_48
abbrev w_c_X6_countChanged (cI cJ cB cZ cO : ClassId) (qo : Nat) (qo_fits : Nat) (fo_fits : Nat → Int32) (qd : Nat) (vd_gap : Int32) (vd_odds : Int32) (vd_rain : Int32) (vd_lines : Int32) (qd_steps : Nat) (fd_steps : Nat → Int32) (qd_lengths : Nat) (fd_lengths : Nat → Int32) (qd_starts : Nat) (qd_met : Nat) (qd_stumbles : Nat) (vd_stumbleCount : Int32) (qd_muds : Nat) (qd_cells : Nat) (vd_cellCount : Int32) (qd_tunes : Nat) (vd_tuneCount : Int32) (qd_changes : Nat) (vd_changeCount : Int32) : va_W := [(qo, .inr (6, [.ref qo_fits])), (qo_fits, .inl (cI, 12, .inl (fo_fits))), dn qd vd_gap vd_odds vd_rain vd_lines qd_steps qd_lengths qd_starts qd_met qd_stumbles vd_stumbleCount qd_muds qd_cells vd_cellCount qd_tunes vd_tuneCount qd_changes vd_changeCount, (qd_steps, .inl (cI, 24, .inl (fd_steps))), (qd_lengths, .inl (cI, 2, .inl (fd_lengths)))]
set_option maxHeartbeats 4000000 in
set_option maxRecDepth 100000 in
/-- X6 countChanged -/
theorem c_X6_countChanged (l : Launch) (D : va_G) (G : ct_G) (cI cJ cB cZ cO : ClassId) (qo : Nat) (qo_fits : Nat) (fo_fits : Nat → Int32) (qd : Nat) (vd_gap : Int32) (vd_odds : Int32) (vd_rain : Int32) (vd_lines : Int32) (qd_steps : Nat) (fd_steps : Nat → Int32) (qd_lengths : Nat) (fd_lengths : Nat → Int32) (qd_starts : Nat) (qd_met : Nat) (qd_stumbles : Nat) (vd_stumbleCount : Int32) (qd_muds : Nat) (qd_cells : Nat) (vd_cellCount : Int32) (qd_tunes : Nat) (vd_tuneCount : Int32) (qd_changes : Nat) (vd_changeCount : Int32) (a2 : Int32) (h_vd_gap : 0 ≤ vd_gap.toInt ∧ vd_gap.toInt ≤ 20) (h_fd_steps : ar_ok [0] [5] fd_steps) (h_fd_lengths : ar_ok [0] [12] fd_lengths) (h_vd_stumbleCount : 0 ≤ vd_stumbleCount.toInt ∧ vd_stumbleCount.toInt ≤ 8) (h_vd_cellCount : 0 ≤ vd_cellCount.toInt ∧ vd_cellCount.toInt ≤ 12) (h_vd_tuneCount : 0 ≤ vd_tuneCount.toInt ∧ vd_tuneCount.toInt ≤ 5) (h_vd_changeCount : 0 ≤ vd_changeCount.toInt ∧ vd_changeCount.toInt ≤ 40) (h_a2 : 0 ≤ a2.toInt ∧ a2.toInt ≤ 1) (sz : Nat) : Met l yX6_countChanged wsX6_countChanged ({ frames := 2, cells := 0, slots := 0, locals := 47 }) (va_Pc [.ref qo, .ref qd, .int a2] (ct_P D (ct_T cI cJ cB cZ cO) G (w_c_X6_countChanged cI cJ cB cZ cO qo qo_fits fo_fits qd vd_gap vd_odds vd_rain vd_lines qd_steps fd_steps qd_lengths fd_lengths qd_starts qd_met qd_stumbles vd_stumbleCount qd_muds qd_cells vd_cellCount qd_tunes vd_tuneCount qd_changes vd_changeCount) sz)) (va_Qi (fun (rz : Int32) (u : Unit) => True) (fun (u : Unit) t => ct_Q D (va_A (w_c_X6_countChanged cI cJ cB cZ cO qo qo_fits fo_fits qd vd_gap vd_odds vd_rain vd_lines qd_steps fd_steps qd_lengths fd_lengths qd_starts qd_met qd_stumbles vd_stumbleCount qd_muds qd_cells vd_cellCount qd_tunes vd_tuneCount qd_changes vd_changeCount) sz) [(qo, .inr (6, [.ref qo_fits])), (qo_fits, .inl (cI, 12, .inl (fo_fits))), dn qd vd_gap vd_odds vd_rain vd_lines qd_steps qd_lengths qd_starts qd_met qd_stumbles vd_stumbleCount qd_muds qd_cells vd_cellCount qd_tunes vd_tuneCount qd_changes vd_changeCount, (qd_steps, .inl (cI, 24, .inl (fd_steps))), (qd_lengths, .inl (cI, 2, .inl (fd_lengths)))] t) (va_A (w_c_X6_countChanged cI cJ cB cZ cO qo qo_fits fo_fits qd vd_gap vd_odds vd_rain vd_lines qd_steps fd_steps qd_lengths fd_lengths qd_starts qd_met qd_stumbles vd_stumbleCount qd_muds qd_cells vd_cellCount qd_tunes vd_tuneCount qd_changes vd_changeCount) sz)) 0 0 (va_A (w_c_X6_countChanged cI cJ cB cZ cO qo qo_fits fo_fits qd vd_gap vd_odds vd_rain vd_lines qd_steps fd_steps qd_lengths fd_lengths qd_starts qd_met qd_stumbles vd_stumbleCount qd_muds qd_cells vd_cellCount qd_tunes vd_tuneCount qd_changes vd_changeCount) sz) := by
  refine Met.ofW (cc := cX6_countChanged) (maxL := 5) (ret := (some .int)) (by decide) rfl ?_
  intro p e s m args below meth c s₁ B hml hv
  obtain ⟨rfl, hsz, hP, hE, hD0, hH⟩ := hv
  have hx := B.exec
  have hb := B.bytes
  have hr := B.returns
  have hts := atoms_spec (ws := wsX6_countChanged) B.pre
  have hown : s.vm.findClass RX6 = some m.cls := findClass_of_methodNamed B.named
  have hlocks := B.notSynchronized
  have hK := hE.1
  have hi0 : ∀ w ∈ u_ws RX0 TX0 17, w ∈ wsX6_countChanged := fun w h => List.mem_cons_of_mem _ (List.mem_append_left _ (List.mem_append_right _ h))
  subst hsz
  have hD := hD0.self (sz := s.heap.size)
  generalize hAe : va_A (w_c_X6_countChanged cI cJ cB cZ cO qo qo_fits fo_fits qd vd_gap vd_odds vd_rain vd_lines qd_steps fd_steps qd_lengths fd_lengths qd_starts qd_met qd_stumbles vd_stumbleCount qd_muds qd_cells vd_cellCount qd_tunes vd_tuneCount qd_changes vd_changeCount) s.heap.size = A at hD hH ⊢
  have hA : ∀ q : Nat, s.heap.size ≤ q → A q := fun q h => by rw [← hAe]; exact Or.inr h
  have hS : va_S A s.heap s.heap [] := va_S.rf
  obtain ⟨hP, hD⟩ : ct_B D A s.heap [(qo, .inr (6, [.ref qo_fits])), (qo_fits, .inl (cI, 12, .inl (fo_fits))), dn qd vd_gap vd_odds vd_rain vd_lines qd_steps qd_lengths qd_starts qd_met qd_stumbles vd_stumbleCount qd_muds qd_cells vd_cellCount qd_tunes vd_tuneCount qd_changes vd_changeCount, (qd_steps, .inl (cI, 24, .inl (fd_steps))), (qd_lengths, .inl (cI, 2, .inl (fd_lengths)))] := ⟨hP, hD⟩
  have hl := lv_entry ([.ref qo, .ref qd, .int a2]) (n := 5) (Nat.le_of_ble_eq_true rfl)
  rw [lg_entry_eq]
  generalize (lg_sl ([.ref qo, .ref qd, .int a2]) ++ List.replicate (5 - (lg_sl ([.ref qo, .ref qd, .int a2])).length) Slot.unset).toArray = ls at hl ⊢
  have hl : lv_has ls 5 [(0, .ref qo), (1, .ref qd), (2, .int a2)] := hl
  obtain ⟨H, hHe⟩ : ∃ H : Heap, H = s.heap := ⟨_, rfl⟩
  rw [← hHe] at hP
  have hS : va_S A s.heap H [] := by rw [hHe]; exact va_S.rf
  refine ct_start hHe ?_
  refine lv_iconst (v := 0) hx hb dX6_countChanged_0 (by decide) ?_
  refine lv_istore_n (lv' := [(3, .int 0), (0, .ref qo), (1, .ref qd), (2, .int a2)]) hx hb dX6_countChanged_1 rfl hl (by decide) rfl (fun ls hl => ?_)
  refine lv_iconst (v := 0) hx hb dX6_countChanged_2 (by decide) ?_
  refine lv_istore (lv' := [(4, .int 0), (3, .int 0), (0, .ref qo), (1, .ref qd), (2, .int a2)]) hx hb dX6_countChanged_3 hl (by decide) rfl (fun ls hl => ?_)
  refine ct_loop (X := Int32 × Int32) (fun x => (12 - x.2.toInt).toNat) (fun x H locs ls => ((0 ≤ x.2.toInt ∧ x.2.toInt ≤ 12)) ∧ ct_B D A H [(qo, .inr (6, [.ref qo_fits])), (qo_fits, .inl (cI, 12, .inl (fo_fits))), dn qd vd_gap vd_odds vd_rain vd_lines qd_steps qd_lengths qd_starts qd_met qd_stumbles vd_stumbleCount qd_muds qd_cells vd_cellCount qd_tunes vd_tuneCount qd_changes vd_changeCount, (qd_steps, .inl (cI, 24, .inl (fd_steps))), (qd_lengths, .inl (cI, 2, .inl (fd_lengths)))] ∧ va_S A s.heap H locs ∧ lv_has ls 5 [(4, .int x.2), (3, .int x.1), (0, .ref qo), (1, .ref qd), (2, .int a2)]) 5 ((0 : Int32), (0 : Int32)) ⟨(show 0 ≤ (0 : Int32).toInt ∧ (0 : Int32).toInt ≤ 12 by decide), ⟨hP, hD⟩, hS, lv_sub hl [0, 1, 2, 3, 4] rfl⟩ (fun x ih202 H locs ls hI => ?_)
  obtain ⟨x200, x201⟩ := x
  obtain ⟨h_x201, ⟨hP, hD⟩, hS, hl⟩ := hI
  have h_x201 : (0 ≤ x201.toInt ∧ x201.toInt ≤ 12) := h_x201
  obtain ⟨hP, hD⟩ : ct_B D A H [(qo, .inr (6, [.ref qo_fits])), (qo_fits, .inl (cI, 12, .inl (fo_fits))), dn qd vd_gap vd_odds vd_rain vd_lines qd_steps qd_lengths qd_starts qd_met qd_stumbles vd_stumbleCount qd_muds qd_cells vd_cellCount qd_tunes vd_tuneCount qd_changes vd_changeCount, (qd_steps, .inl (cI, 24, .inl (fd_steps))), (qd_lengths, .inl (cI, 2, .inl (fd_lengths)))] := ⟨hP, hD⟩
  have hl : lv_has ls 5 [(4, .int x201), (3, .int x200), (0, .ref qo), (1, .ref qd), (2, .int a2)] := hl
  refine lv_iload hx hb dX6_countChanged_5 (lv_at hl 0 rfl) ?_
  refine lv_aload_n hx hb dX6_countChanged_7 rfl (lv_at hl 3 rfl) ?_
  refine va_get (D := D) (ci := 0) (v := .ref qd_lengths) (C := RX0) (T := TX0) (N := 17) hx hb hts hi0 hown hK hP 2 rfl rfl 5 (by decide) (hts (.fieldLink RX6 15 "OverHill$Dance" "lengths" "[I") (by decide +kernel)) (fun _ h9 => h9) rfl dX6_countChanged_8 ?_
  refine lv_iload_n hx hb dX6_countChanged_11 rfl (lv_at hl 4 rfl) ?_
  refine va_iald (D := D) hx hb hK hP 4 0 rfl rfl (tq_in rfl (by omega)) dX6_countChanged_12 ?_
  refine lv_topi (fun z203 ez203 => ?_)
  have fz203 : 0 ≤ z203.toInt ∧ z203.toInt ≤ 12 := by rw [ez203]; exact ar_get h_fd_lengths a2 0 (by omega) (show a2.toInt % 1 = 0 by omega) rfl
  refine lv_icmp_ge (tgt := 43) hx hb dX6_countChanged_13 (by decide) (fun hc => ?_) (fun hc => ?_)
  · have hq204 : z203.toInt ≤ x201.toInt := tq_le rfl rfl hc
    refine lv_iload_n hx hb dX6_countChanged_43 rfl (lv_at hl 1 rfl) ?_
    obtain ⟨hP9, hD9⟩ : ct_B D A H [(qo, .inr (6, [.ref qo_fits])), (qo_fits, .inl (cI, 12, .inl (fo_fits))), dn qd vd_gap vd_odds vd_rain vd_lines qd_steps qd_lengths qd_starts qd_met qd_stumbles vd_stumbleCount qd_muds qd_cells vd_cellCount qd_tunes vd_tuneCount qd_changes vd_changeCount, (qd_steps, .inl (cI, 24, .inl (fd_steps))), (qd_lengths, .inl (cI, 2, .inl (fd_lengths)))] := ⟨hP.sub [0, 1, 2, 3, 4] rfl, hD.sub [0, 1, 2, 3, 4] (by decide) rfl⟩
    exact W.iret (v := x200) hx hb hr (fun t ht hW => ⟨⟨x200, (), rfl, trivial, by rw [ht]; exact hP9, hD9⟩, hS.F ht⟩) hS.2.2 dX6_countChanged_44
  · have hq204 : x201.toInt < z203.toInt := tq_nle rfl rfl hc
    refine lv_aload_n hx hb dX6_countChanged_16 rfl (lv_at hl 2 rfl) ?_
    refine lv_aload_n hx hb dX6_countChanged_17 rfl (lv_at hl 3 rfl) ?_
    refine lv_iload_n hx hb dX6_countChanged_18 rfl (lv_at hl 4 rfl) ?_
    refine lv_iload hx hb dX6_countChanged_19 (lv_at hl 0 rfl) ?_
    refine ct_calli (D := D) (wr := [(qd_lengths, .inl (cI, 2, .inl (fd_lengths)))]) (va_runV (As := [.ref qd, .int a2, .int x201]) (rest := []) ⟨hx, hb, hml, hown, hts⟩ (c_X6_fitting l D G cI cJ cB cZ cO qo qo_fits fo_fits qd vd_gap vd_odds vd_rain vd_lines qd_steps fd_steps qd_lengths qd_starts qd_met qd_stumbles vd_stumbleCount qd_muds qd_cells vd_cellCount qd_tunes vd_tuneCount qd_changes vd_changeCount a2 x201 h_vd_gap h_fd_steps h_vd_stumbleCount h_vd_cellCount h_vd_tuneCount h_vd_changeCount h_a2 (by omega) H.size) (cwV 3 hts gX6_countChanged_X6_fitting rfl rfl rfl (by decide +kernel) ⟨Nat.le_of_ble_eq_true rfl, Nat.le_of_ble_eq_true rfl⟩) (ct_preV (T := ct_T cI cJ cB cZ cO) (ci := 6) (q0 := 0) hE hH hP hD hS hA [0, 1, 2, 3] (by decide) rfl rfl rfl) rfl rfl hl.1 rfl (lv_room (Nat.le_of_ble_eq_true rfl)) dX6_countChanged_21 ⟨Nat.le_of_ble_eq_true rfl, Nat.le_of_ble_eq_true rfl⟩) hP hD hS hA [0, 1, 2, 3] [4] rfl rfl (by decide) (by decide) (fun r205 u H locs hw hP hD hS => ?_)
    obtain ⟨hP, hD⟩ : ct_B D A H [(qd_lengths, .inl (cI, 2, .inl (fd_lengths))), (qo, .inr (6, [.ref qo_fits])), (qo_fits, .inl (cI, 12, .inl (fo_fits))), dn qd vd_gap vd_odds vd_rain vd_lines qd_steps qd_lengths qd_starts qd_met qd_stumbles vd_stumbleCount qd_muds qd_cells vd_cellCount qd_tunes vd_tuneCount qd_changes vd_changeCount, (qd_steps, .inl (cI, 24, .inl (fd_steps)))] := ⟨hP, hD⟩
    refine lv_aload_n hx hb dX6_countChanged_24 rfl (lv_at hl 3 rfl) ?_
    refine lv_iload_n hx hb dX6_countChanged_25 rfl (lv_at hl 4 rfl) ?_
    refine lv_iload hx hb dX6_countChanged_26 (lv_at hl 0 rfl) ?_
    refine ct_calli (D := D) (wr := [(qd_lengths, .inl (cI, 2, .inl (fd_lengths))), (qo, .inr (6, [.ref qo_fits])), (qo_fits, .inl (cI, 12, .inl (fo_fits)))]) (va_runV (As := [.int a2, .int x201]) (rest := [.int r205]) ⟨hx, hb, hml, hown, hts⟩ (c_X0_stepAt l D G cI cJ cB cZ cO qd vd_gap vd_odds vd_rain vd_lines qd_steps fd_steps qd_lengths qd_starts qd_met qd_stumbles vd_stumbleCount qd_muds qd_cells vd_cellCount qd_tunes vd_tuneCount qd_changes vd_changeCount a2 x201 h_vd_gap h_fd_steps h_vd_stumbleCount h_vd_cellCount h_vd_tuneCount h_vd_changeCount h_a2 (by omega) H.size) (cwV 2 hts gX6_countChanged_X0_stepAt rfl rfl rfl (by decide +kernel) ⟨Nat.le_of_ble_eq_true rfl, Nat.le_of_ble_eq_true rfl⟩) (ct_preV (T := ct_T cI cJ cB cZ cO) (ci := 0) (q0 := 3) hE hH hP hD hS hA [3, 4] (by decide) rfl rfl rfl) rfl rfl hl.1 rfl (lv_room (Nat.le_of_ble_eq_true rfl)) dX6_countChanged_28 ⟨Nat.le_of_ble_eq_true rfl, Nat.le_of_ble_eq_true rfl⟩) hP hD hS hA [3, 4] [0, 1, 2] rfl rfl (by decide) (by decide) (fun r206 u H locs hw hP hD hS => ?_)
    obtain ⟨hP, hD⟩ : ct_B D A H [(qd_lengths, .inl (cI, 2, .inl (fd_lengths))), (qo, .inr (6, [.ref qo_fits])), (qo_fits, .inl (cI, 12, .inl (fo_fits))), dn qd vd_gap vd_odds vd_rain vd_lines qd_steps qd_lengths qd_starts qd_met qd_stumbles vd_stumbleCount qd_muds qd_cells vd_cellCount qd_tunes vd_tuneCount qd_changes vd_changeCount, (qd_steps, .inl (cI, 24, .inl (fd_steps)))] := ⟨hP, hD⟩
    have hz := hw
    have h_r206 : 0 ≤ r206.toInt ∧ r206.toInt ≤ 5 := hz
    refine lv_icmp_eq (tgt := 37) hx hb dX6_countChanged_31 (by decide) (fun hc => ?_) (fun hc => ?_)
    · have hq207 : r205.toInt = r206.toInt := tq_eq rfl rfl hc
      have hb208 := tq_lo r205
      obtain ⟨z209, ez209⟩ : ∃ z : Int32, z = x201 + 1 := ⟨_, rfl⟩
      have fz209 : z209.toInt = x201.toInt + 1 := by rw [ez209]; exact tq_add rfl (by decide) (by omega)
      refine lv_iinc (v := z209) (lv' := [(4, .int z209), (3, .int x200), (0, .ref qo), (1, .ref qd), (2, .int a2)]) hx hb dX6_countChanged_37 hl (k := 0) rfl ez209.symm (by decide) rfl (fun ls hl => ?_)
      refine lv_goto (tgt := 5) hx hb dX6_countChanged_40 (by decide) ?_
      obtain ⟨hP9, hD9⟩ : ct_B D A H [(qo, .inr (6, [.ref qo_fits])), (qo_fits, .inl (cI, 12, .inl (fo_fits))), dn qd vd_gap vd_odds vd_rain vd_lines qd_steps qd_lengths qd_starts qd_met qd_stumbles vd_stumbleCount qd_muds qd_cells vd_cellCount qd_tunes vd_tuneCount qd_changes vd_changeCount, (qd_steps, .inl (cI, 24, .inl (fd_steps))), (qd_lengths, .inl (cI, 2, .inl (fd_lengths)))] := ⟨hP.sub [1, 2, 3, 4, 0] rfl, hD.sub [1, 2, 3, 4, 0] (by decide) rfl⟩
      exact ih202 (x200, z209) _ _ _ (show (12 - z209.toInt).toNat < (12 - x201.toInt).toNat by omega) ⟨(show 0 ≤ z209.toInt ∧ z209.toInt ≤ 12 by omega), ⟨hP9, hD9⟩, hS, lv_sub hl [0, 1, 2, 3, 4] rfl⟩
    · have hq207 : r205.toInt ≠ r206.toInt := tq_ne rfl rfl hc
      have hb210 := tq_lo r205
      obtain ⟨z211, ez211⟩ : ∃ z : Int32, z = x200 + 1 := ⟨_, rfl⟩
      refine lv_iinc (v := z211) (lv' := [(3, .int z211), (4, .int x201), (0, .ref qo), (1, .ref qd), (2, .int a2)]) hx hb dX6_countChanged_34 hl (k := 1) rfl ez211.symm (by decide) rfl (fun ls hl => ?_)
      obtain ⟨z212, ez212⟩ : ∃ z : Int32, z = x201 + 1 := ⟨_, rfl⟩
      have fz212 : z212.toInt = x201.toInt + 1 := by rw [ez212]; exact tq_add rfl (by decide) (by omega)
      refine lv_iinc (v := z212) (lv' := [(4, .int z212), (3, .int z211), (0, .ref qo), (1, .ref qd), (2, .int a2)]) hx hb dX6_countChanged_37 hl (k := 1) rfl ez212.symm (by decide) rfl (fun ls hl => ?_)
      refine lv_goto (tgt := 5) hx hb dX6_countChanged_40 (by decide) ?_
      obtain ⟨hP9, hD9⟩ : ct_B D A H [(qo, .inr (6, [.ref qo_fits])), (qo_fits, .inl (cI, 12, .inl (fo_fits))), dn qd vd_gap vd_odds vd_rain vd_lines qd_steps qd_lengths qd_starts qd_met qd_stumbles vd_stumbleCount qd_muds qd_cells vd_cellCount qd_tunes vd_tuneCount qd_changes vd_changeCount, (qd_steps, .inl (cI, 24, .inl (fd_steps))), (qd_lengths, .inl (cI, 2, .inl (fd_lengths)))] := ⟨hP.sub [1, 2, 3, 4, 0] rfl, hD.sub [1, 2, 3, 4, 0] (by decide) rfl⟩
      exact ih202 (z211, z212) _ _ _ (show (12 - z212.toInt).toNat < (12 - x201.toInt).toNat by omega) ⟨(show 0 ≤ z212.toInt ∧ z212.toInt ≤ 12 by omega), ⟨hP9, hD9⟩, hS, lv_sub hl [0, 1, 2, 3, 4] rfl⟩
