abbrev w_c_X4_draw (cI cJ cB cZ cO : ClassId) (qn : Nat) (qn_danced : Nat) (qn_places : Nat) (vn_state : Int64) (vn_holeCount : Int32) (vn_firstHole : Int32) (vn_mudCount : Int32) (vn_slipCount : Int32) : va_W := [(qn, .inr (4, [.ref qn_danced, .ref qn_places, .long vn_state, .int vn_holeCount, .int vn_firstHole, .int vn_mudCount, .int vn_slipCount]))]
set_option maxHeartbeats 4000000 in
set_option maxRecDepth 100000 in
/-- X4 draw -/
theorem c_X4_draw (l : Launch) (D : va_G) (G : ct_G) (cI cJ cB cZ cO : ClassId) (qn : Nat) (qn_danced : Nat) (qn_places : Nat) (vn_state : Int64) (vn_holeCount : Int32) (vn_firstHole : Int32) (vn_mudCount : Int32) (vn_slipCount : Int32)  (sz : Nat) : Met l yX4_draw wsX4_draw ({ frames := 0, cells := 0, slots := 0, locals := 0 }) (va_Pc [.ref qn] (ct_P D (ct_T cI cJ cB cZ cO) G (w_c_X4_draw cI cJ cB cZ cO qn qn_danced qn_places vn_state vn_holeCount vn_firstHole vn_mudCount vn_slipCount) sz)) (va_Qi (fun (rz : Int32) (u : Int64) => True) (fun (u : Int64) t => ct_Q D (va_A (w_c_X4_draw cI cJ cB cZ cO qn qn_danced qn_places vn_state vn_holeCount vn_firstHole vn_mudCount vn_slipCount) sz) [(qn, .inr (4, [.ref qn_danced, .ref qn_places, .long u, .int vn_holeCount, .int vn_firstHole, .int vn_mudCount, .int vn_slipCount]))] t) (va_A (w_c_X4_draw cI cJ cB cZ cO qn qn_danced qn_places vn_state vn_holeCount vn_firstHole vn_mudCount vn_slipCount) sz)) 0 0 (va_A (w_c_X4_draw cI cJ cB cZ cO qn qn_danced qn_places vn_state vn_holeCount vn_firstHole vn_mudCount vn_slipCount) sz) := by
  refine Met.ofW (cc := cX4_draw) (maxL := 1) (ret := (some .int)) (by decide) rfl ?_
  intro p e s m args below meth c s₁ B hml hv
  obtain ⟨rfl, hsz, hP, hE, hD0, hH⟩ := hv
  have hx := B.exec
  have hb := B.bytes
  have hr := B.returns
  have hts := atoms_spec (ws := wsX4_draw) B.pre
  have hown : s.vm.findClass RX4 = some m.cls := findClass_of_methodNamed B.named
  have hlocks := B.notSynchronized
  have hK := hE.1
  have hi4 : ∀ w ∈ u_ws RX4 TX4 7, w ∈ wsX4_draw := fun w h => List.mem_cons_of_mem _ (List.mem_append_right _ h)
  subst hsz
  have hD := hD0.self (sz := s.heap.size)
  generalize hAe : va_A (w_c_X4_draw cI cJ cB cZ cO qn qn_danced qn_places vn_state vn_holeCount vn_firstHole vn_mudCount vn_slipCount) s.heap.size = A at hD hH ⊢
  have hA : ∀ q : Nat, s.heap.size ≤ q → A q := fun q h => by rw [← hAe]; exact Or.inr h
  have hS : va_S A s.heap s.heap [] := va_S.rf
  obtain ⟨hP, hD⟩ : ct_B D A s.heap [(qn, .inr (4, [.ref qn_danced, .ref qn_places, .long vn_state, .int vn_holeCount, .int vn_firstHole, .int vn_mudCount, .int vn_slipCount]))] := ⟨hP, hD⟩
  have hl := lv_entry ([.ref qn]) (n := 1) (Nat.le_of_ble_eq_true rfl)
  rw [lg_entry_eq]
  generalize (lg_sl ([.ref qn]) ++ List.replicate (1 - (lg_sl ([.ref qn])).length) Slot.unset).toArray = ls at hl ⊢
  have hl : lv_has ls 1 [(0, .ref qn)] := hl
  obtain ⟨H, hHe⟩ : ∃ H : Heap, H = s.heap := ⟨_, rfl⟩
  rw [← hHe] at hP
  have hS : va_S A s.heap H [] := by rw [hHe]; exact va_S.rf
  refine ct_start hHe ?_
  refine lv_aload_n hx hb dX4_draw_0 rfl (lv_at hl 0 rfl) ?_
  refine lv_ldc2 (v := 1103515245) hx hb hown (hts (.constantLong RX4 79 (1103515245)) (by decide +kernel)) dX4_draw_1 ?_
  refine lv_aload_n hx hb dX4_draw_4 rfl (lv_at hl 0 rfl) ?_
  refine va_get (D := D) (ci := 4) (v := .long vn_state) (C := RX4) (T := TX4) (N := 7) hx hb hts hi4 hown hK hP 0 rfl rfl 2 (by decide) (hts (.fieldLink RX4 18 "OverHill$Night" "state" "J") (by decide +kernel)) (fun _ h9 => h9) rfl dX4_draw_5 ?_
  refine lv_lmul hx hb dX4_draw_8 ?_
  refine lv_topl (fun z1 ez1 => ?_)
  refine lv_ldc2 (v := 12345) hx hb hown (hts (.constantLong RX4 81 (12345)) (by decide +kernel)) dX4_draw_9 ?_
  refine lv_ladd hx hb dX4_draw_12 ?_
  refine lv_topl (fun z2 ez2 => ?_)
  refine lv_ldc2 (v := 2147483648) hx hb hown (hts (.constantLong RX4 83 (2147483648)) (by decide +kernel)) dX4_draw_13 ?_
  refine lv_lrem hx hb dX4_draw_16 (by decide) ?_
  refine lv_topl (fun z3 ez3 => ?_)
  refine va_put (D := D) (ci := 4) (v := .long z3) (ty := .long) (C := RX4) (T := TX4) (N := 7) hx hb hts hi4 tyX4 tyX4_ok nmX4 hown hK hP hD hS 0 rfl rfl 2 (by decide) (hts (.fieldLink RX4 18 "OverHill$Night" "state" "J") (by decide +kernel)) (fun _ h9 => h9) rfl (by decide +kernel) rfl rfl (Nat.le_of_ble_eq_true rfl) dX4_draw_17 (fun H locs hP hD hS => ?_)
  obtain ⟨hP, hD⟩ : ct_B D A H [(qn, .inr (4, [.ref qn_danced, .ref qn_places, .long z3, .int vn_holeCount, .int vn_firstHole, .int vn_mudCount, .int vn_slipCount]))] := ⟨hP, hD⟩
  refine lv_aload_n hx hb dX4_draw_20 rfl (lv_at hl 0 rfl) ?_
  refine va_get (D := D) (ci := 4) (v := .long z3) (C := RX4) (T := TX4) (N := 7) hx hb hts hi4 hown hK hP 0 rfl rfl 2 (by decide) (hts (.fieldLink RX4 18 "OverHill$Night" "state" "J") (by decide +kernel)) (fun _ h9 => h9) rfl dX4_draw_21 ?_
  refine lv_ldc2 (v := 65536) hx hb hown (hts (.constantLong RX4 85 (65536)) (by decide +kernel)) dX4_draw_24 ?_
  refine lv_ldiv hx hb dX4_draw_27 (by decide) ?_
  refine lv_topl (fun z4 ez4 => ?_)
  refine lv_ldc2 (v := 100) hx hb hown (hts (.constantLong RX4 87 (100)) (by decide +kernel)) dX4_draw_28 ?_
  refine lv_lrem hx hb dX4_draw_31 (by decide) ?_
  refine lv_topl (fun z5 ez5 => ?_)
  refine lv_l2i (v := _) hx hb dX4_draw_32 rfl ?_
  refine lv_topi (fun z6 ez6 => ?_)
  obtain ⟨hP9, hD9⟩ : ct_B D A H [(qn, .inr (4, [.ref qn_danced, .ref qn_places, .long z3, .int vn_holeCount, .int vn_firstHole, .int vn_mudCount, .int vn_slipCount]))] := ⟨hP.sub [0] rfl, hD.sub [0] (by decide) rfl⟩
  exact W.iret (v := z6) hx hb hr (fun t ht hW => ⟨⟨z6, z3, rfl, trivial, by rw [ht]; exact hP9, hD9⟩, hS.F ht⟩) hS.2.2 dX4_draw_33
abbrev w_c_X4_danceStep (cI cJ cB cZ cO : ClassId) (qn : Nat) (qn_danced : Nat) (qn_places : Nat) (fn_places : Nat → Int32) (vn_state : Int64) (vn_holeCount : Int32) (vn_firstHole : Int32) (vn_mudCount : Int32) (vn_slipCount : Int32) (qd : Nat) (vd_gap : Int32) (vd_odds : Int32) (vd_rain : Int32) (vd_lines : Int32) (qd_steps : Nat) (fd_steps : Nat → Int32) (qd_lengths : Nat) (fd_lengths : Nat → Int32) (qd_starts : Nat) (qd_met : Nat) (qd_stumbles : Nat) (vd_stumbleCount : Int32) (qd_muds : Nat) (qd_cells : Nat) (vd_cellCount : Int32) (qd_tunes : Nat) (vd_tuneCount : Int32) (qd_changes : Nat) (vd_changeCount : Int32) : va_W := [(qn, .inr (4, [.ref qn_danced, .ref qn_places, .long vn_state, .int vn_holeCount, .int vn_firstHole, .int vn_mudCount, .int vn_slipCount])), (qn_places, .inl (cI, 2, .inl (fn_places))), dn qd vd_gap vd_odds vd_rain vd_lines qd_steps qd_lengths qd_starts qd_met qd_stumbles vd_stumbleCount qd_muds qd_cells vd_cellCount qd_tunes vd_tuneCount qd_changes vd_changeCount, (qd_steps, .inl (cI, 24, .inl (fd_steps))), (qd_lengths, .inl (cI, 2, .inl (fd_lengths)))]
set_option maxHeartbeats 4000000 in
set_option maxRecDepth 100000 in
/-- X4 danceStep -/
theorem c_X4_danceStep (l : Launch) (D : va_G) (G : ct_G) (cI cJ cB cZ cO : ClassId) (qn : Nat) (qn_danced : Nat) (qn_places : Nat) (fn_places : Nat → Int32) (vn_state : Int64) (vn_holeCount : Int32) (vn_firstHole : Int32) (vn_mudCount : Int32) (vn_slipCount : Int32) (qd : Nat) (vd_gap : Int32) (vd_odds : Int32) (vd_rain : Int32) (vd_lines : Int32) (qd_steps : Nat) (fd_steps : Nat → Int32) (qd_lengths : Nat) (fd_lengths : Nat → Int32) (qd_starts : Nat) (qd_met : Nat) (qd_stumbles : Nat) (vd_stumbleCount : Int32) (qd_muds : Nat) (qd_cells : Nat) (vd_cellCount : Int32) (qd_tunes : Nat) (vd_tuneCount : Int32) (qd_changes : Nat) (vd_changeCount : Int32) (a2 : Int32) (h_fn_places : ar_ok [0] [11] fn_places) (h_vd_gap : 0 ≤ vd_gap.toInt ∧ vd_gap.toInt ≤ 20) (h_fd_steps : ar_ok [0] [5] fd_steps) (h_fd_lengths : ar_ok [0] [12] fd_lengths) (h_vd_stumbleCount : 0 ≤ vd_stumbleCount.toInt ∧ vd_stumbleCount.toInt ≤ 8) (h_vd_cellCount : 0 ≤ vd_cellCount.toInt ∧ vd_cellCount.toInt ≤ 12) (h_vd_tuneCount : 0 ≤ vd_tuneCount.toInt ∧ vd_tuneCount.toInt ≤ 5) (h_vd_changeCount : 0 ≤ vd_changeCount.toInt ∧ vd_changeCount.toInt ≤ 40) (h_a2 : 0 ≤ a2.toInt ∧ a2.toInt ≤ 1) (sz : Nat) : Met l yX4_danceStep wsX4_danceStep ({ frames := 2, cells := 0, slots := 0, locals := 43 }) (va_Pc [.ref qn, .ref qd, .int a2] (ct_P D (ct_T cI cJ cB cZ cO) G (w_c_X4_danceStep cI cJ cB cZ cO qn qn_danced qn_places fn_places vn_state vn_holeCount vn_firstHole vn_mudCount vn_slipCount qd vd_gap vd_odds vd_rain vd_lines qd_steps fd_steps qd_lengths fd_lengths qd_starts qd_met qd_stumbles vd_stumbleCount qd_muds qd_cells vd_cellCount qd_tunes vd_tuneCount qd_changes vd_changeCount) sz)) (va_Qi (fun (rz : Int32) (u : Int64 × Int32 × (Nat → Int32)) => (0 ≤ rz.toInt ∧ rz.toInt ≤ 5) ∧ (ar_ok [0] [11] u.2.2)) (fun (u : Int64 × Int32 × (Nat → Int32)) t => ct_Q D (va_A (w_c_X4_danceStep cI cJ cB cZ cO qn qn_danced qn_places fn_places vn_state vn_holeCount vn_firstHole vn_mudCount vn_slipCount qd vd_gap vd_odds vd_rain vd_lines qd_steps fd_steps qd_lengths fd_lengths qd_starts qd_met qd_stumbles vd_stumbleCount qd_muds qd_cells vd_cellCount qd_tunes vd_tuneCount qd_changes vd_changeCount) sz) [(qn, .inr (4, [.ref qn_danced, .ref qn_places, .long u.1, .int vn_holeCount, .int vn_firstHole, .int vn_mudCount, .int u.2.1])), (qn_places, .inl (cI, 2, .inl (u.2.2))), dn qd vd_gap vd_odds vd_rain vd_lines qd_steps qd_lengths qd_starts qd_met qd_stumbles vd_stumbleCount qd_muds qd_cells vd_cellCount qd_tunes vd_tuneCount qd_changes vd_changeCount, (qd_steps, .inl (cI, 24, .inl (fd_steps))), (qd_lengths, .inl (cI, 2, .inl (fd_lengths)))] t) (va_A (w_c_X4_danceStep cI cJ cB cZ cO qn qn_danced qn_places fn_places vn_state vn_holeCount vn_firstHole vn_mudCount vn_slipCount qd vd_gap vd_odds vd_rain vd_lines qd_steps fd_steps qd_lengths fd_lengths qd_starts qd_met qd_stumbles vd_stumbleCount qd_muds qd_cells vd_cellCount qd_tunes vd_tuneCount qd_changes vd_changeCount) sz)) 0 0 (va_A (w_c_X4_danceStep cI cJ cB cZ cO qn qn_danced qn_places fn_places vn_state vn_holeCount vn_firstHole vn_mudCount vn_slipCount qd vd_gap vd_odds vd_rain vd_lines qd_steps fd_steps qd_lengths fd_lengths qd_starts qd_met qd_stumbles vd_stumbleCount qd_muds qd_cells vd_cellCount qd_tunes vd_tuneCount qd_changes vd_changeCount) sz) := by
  refine Met.ofW (cc := cX4_danceStep) (maxL := 4) (ret := (some .int)) (by decide) rfl ?_
  intro p e s m args below meth c s₁ B hml hv
  obtain ⟨rfl, hsz, hP, hE, hD0, hH⟩ := hv
  have hx := B.exec
  have hb := B.bytes
  have hr := B.returns
  have hts := atoms_spec (ws := wsX4_danceStep) B.pre
  have hown : s.vm.findClass RX4 = some m.cls := findClass_of_methodNamed B.named
  have hlocks := B.notSynchronized
  have hK := hE.1
  have hi0 : ∀ w ∈ u_ws RX0 TX0 17, w ∈ wsX4_danceStep := fun w h => List.mem_cons_of_mem _ (List.mem_append_right _ h)
  have hi4 : ∀ w ∈ u_ws RX4 TX4 7, w ∈ wsX4_danceStep := fun w h => List.mem_cons_of_mem _ (List.mem_append_left _ (List.mem_append_right _ h))
  subst hsz
  have hD := hD0.self (sz := s.heap.size)
  generalize hAe : va_A (w_c_X4_danceStep cI cJ cB cZ cO qn qn_danced qn_places fn_places vn_state vn_holeCount vn_firstHole vn_mudCount vn_slipCount qd vd_gap vd_odds vd_rain vd_lines qd_steps fd_steps qd_lengths fd_lengths qd_starts qd_met qd_stumbles vd_stumbleCount qd_muds qd_cells vd_cellCount qd_tunes vd_tuneCount qd_changes vd_changeCount) s.heap.size = A at hD hH ⊢
  have hA : ∀ q : Nat, s.heap.size ≤ q → A q := fun q h => by rw [← hAe]; exact Or.inr h
  have hS : va_S A s.heap s.heap [] := va_S.rf
  obtain ⟨hP, hD⟩ : ct_B D A s.heap [(qn, .inr (4, [.ref qn_danced, .ref qn_places, .long vn_state, .int vn_holeCount, .int vn_firstHole, .int vn_mudCount, .int vn_slipCount])), (qn_places, .inl (cI, 2, .inl (fn_places))), dn qd vd_gap vd_odds vd_rain vd_lines qd_steps qd_lengths qd_starts qd_met qd_stumbles vd_stumbleCount qd_muds qd_cells vd_cellCount qd_tunes vd_tuneCount qd_changes vd_changeCount, (qd_steps, .inl (cI, 24, .inl (fd_steps))), (qd_lengths, .inl (cI, 2, .inl (fd_lengths)))] := ⟨hP, hD⟩
  have hl := lv_entry ([.ref qn, .ref qd, .int a2]) (n := 4) (Nat.le_of_ble_eq_true rfl)
  rw [lg_entry_eq]
  generalize (lg_sl ([.ref qn, .ref qd, .int a2]) ++ List.replicate (4 - (lg_sl ([.ref qn, .ref qd, .int a2])).length) Slot.unset).toArray = ls at hl ⊢
  have hl : lv_has ls 4 [(0, .ref qn), (1, .ref qd), (2, .int a2)] := hl
  obtain ⟨H, hHe⟩ : ∃ H : Heap, H = s.heap := ⟨_, rfl⟩
  rw [← hHe] at hP
  have hS : va_S A s.heap H [] := by rw [hHe]; exact va_S.rf
  refine ct_start hHe ?_
  refine lv_aload_n hx hb dX4_danceStep_0 rfl (lv_at hl 1 rfl) ?_
  refine lv_iload_n hx hb dX4_danceStep_1 rfl (lv_at hl 2 rfl) ?_
  refine lv_aload_n hx hb dX4_danceStep_2 rfl (lv_at hl 0 rfl) ?_
  refine va_get (D := D) (ci := 4) (v := .ref qn_places) (C := RX4) (T := TX4) (N := 7) hx hb hts hi4 hown hK hP 0 rfl rfl 1 (by decide) (hts (.fieldLink RX4 15 "OverHill$Night" "places" "[I") (by decide +kernel)) (fun _ h9 => h9) rfl dX4_danceStep_3 ?_
  refine lv_iload_n hx hb dX4_danceStep_6 rfl (lv_at hl 2 rfl) ?_
  refine va_iald (D := D) hx hb hK hP 1 0 rfl rfl (tq_in rfl (by omega)) dX4_danceStep_7 ?_
  refine lv_topi (fun z1 ez1 => ?_)
  have fz1 : 0 ≤ z1.toInt ∧ z1.toInt ≤ 11 := by rw [ez1]; exact ar_get h_fn_places a2 0 (by omega) (show a2.toInt % 1 = 0 by omega) rfl
  refine ct_calli (D := D) (wr := [(qn, .inr (4, [.ref qn_danced, .ref qn_places, .long vn_state, .int vn_holeCount, .int vn_firstHole, .int vn_mudCount, .int vn_slipCount])), (qn_places, .inl (cI, 2, .inl (fn_places))), (qd_lengths, .inl (cI, 2, .inl (fd_lengths)))]) (va_runV (As := [.int a2, .int z1]) (rest := []) ⟨hx, hb, hml, hown, hts⟩ (c_X0_stepAt l D G cI cJ cB cZ cO qd vd_gap vd_odds vd_rain vd_lines qd_steps fd_steps qd_lengths qd_starts qd_met qd_stumbles vd_stumbleCount qd_muds qd_cells vd_cellCount qd_tunes vd_tuneCount qd_changes vd_changeCount a2 z1 h_vd_gap h_fd_steps h_vd_stumbleCount h_vd_cellCount h_vd_tuneCount h_vd_changeCount h_a2 fz1 H.size) (cwV 2 hts gX4_danceStep_X0_stepAt rfl rfl rfl (by decide +kernel) ⟨Nat.le_of_ble_eq_true rfl, Nat.le_of_ble_eq_true rfl⟩) (ct_preV (T := ct_T cI cJ cB cZ cO) (ci := 0) (q0 := 2) hE hH hP hD hS hA [2, 3] (by decide) rfl rfl rfl) rfl rfl hl.1 rfl (lv_room (Nat.le_of_ble_eq_true rfl)) dX4_danceStep_8 ⟨Nat.le_of_ble_eq_true rfl, Nat.le_of_ble_eq_true rfl⟩) hP hD hS hA [2, 3] [0, 1, 4] rfl rfl (by decide) (by decide) (fun r2 u H locs hw hP hD hS => ?_)
  obtain ⟨hP, hD⟩ : ct_B D A H [(qn, .inr (4, [.ref qn_danced, .ref qn_places, .long vn_state, .int vn_holeCount, .int vn_firstHole, .int vn_mudCount, .int vn_slipCount])), (qn_places, .inl (cI, 2, .inl (fn_places))), (qd_lengths, .inl (cI, 2, .inl (fd_lengths))), dn qd vd_gap vd_odds vd_rain vd_lines qd_steps qd_lengths qd_starts qd_met qd_stumbles vd_stumbleCount qd_muds qd_cells vd_cellCount qd_tunes vd_tuneCount qd_changes vd_changeCount, (qd_steps, .inl (cI, 24, .inl (fd_steps)))] := ⟨hP, hD⟩
  have hz := hw
  have h_r2 : 0 ≤ r2.toInt ∧ r2.toInt ≤ 5 := hz
  refine lv_istore_n (lv' := [(3, .int r2), (0, .ref qn), (1, .ref qd), (2, .int a2)]) hx hb dX4_danceStep_11 rfl hl (by decide) rfl (fun ls hl => ?_)
  refine lv_aload_n hx hb dX4_danceStep_12 rfl (lv_at hl 1 rfl) ?_
  refine va_get (D := D) (ci := 4) (v := .ref qn_places) (C := RX4) (T := TX4) (N := 7) hx hb hts hi4 hown hK hP 0 rfl rfl 1 (by decide) (hts (.fieldLink RX4 15 "OverHill$Night" "places" "[I") (by decide +kernel)) (fun _ h9 => h9) rfl dX4_danceStep_13 ?_
  refine lv_iload_n hx hb dX4_danceStep_16 rfl (lv_at hl 3 rfl) ?_
  refine lv_aload_n hx hb dX4_danceStep_17 rfl (lv_at hl 1 rfl) ?_
  refine va_get (D := D) (ci := 4) (v := .ref qn_places) (C := RX4) (T := TX4) (N := 7) hx hb hts hi4 hown hK hP 0 rfl rfl 1 (by decide) (hts (.fieldLink RX4 15 "OverHill$Night" "places" "[I") (by decide +kernel)) (fun _ h9 => h9) rfl dX4_danceStep_18 ?_
  refine lv_iload_n hx hb dX4_danceStep_21 rfl (lv_at hl 3 rfl) ?_
  refine va_iald (D := D) hx hb hK hP 1 0 rfl rfl (tq_in rfl (by omega)) dX4_danceStep_22 ?_
  refine lv_topi (fun z3 ez3 => ?_)
  have qz3 : z3.toInt = z1.toInt := by rw [ez3, ez1]
  have fz3 : 0 ≤ z3.toInt ∧ z3.toInt ≤ 11 := by rw [ez3]; exact ar_get h_fn_places a2 0 (by omega) (show a2.toInt % 1 = 0 by omega) rfl
  refine lv_iconst (v := 1) hx hb dX4_danceStep_23 (by decide) ?_
  refine lv_iadd hx hb dX4_danceStep_24 ?_
  refine lv_topi (fun z4 ez4 => ?_)
  have fz4 : z4.toInt = z3.toInt + 1 := by rw [ez4]; exact tq_add rfl (by decide) (by omega)
  refine lv_aload_n hx hb dX4_danceStep_25 rfl (lv_at hl 2 rfl) ?_
  refine va_get (D := D) (ci := 0) (v := .ref qd_lengths) (C := RX0) (T := TX0) (N := 17) hx hb hts hi0 hown hK hP 3 rfl rfl 5 (by decide) (hts (.fieldLink RX4 55 "OverHill$Dance" "lengths" "[I") (by decide +kernel)) (fun _ h9 => h9) rfl dX4_danceStep_26 ?_
  refine lv_iload_n hx hb dX4_danceStep_29 rfl (lv_at hl 3 rfl) ?_
  refine va_iald (D := D) hx hb hK hP 2 0 rfl rfl (tq_in rfl (by omega)) dX4_danceStep_30 ?_
  refine lv_topi (fun z5 ez5 => ?_)
  have fz5 : 0 ≤ z5.toInt ∧ z5.toInt ≤ 12 := by rw [ez5]; exact ar_get h_fd_lengths a2 0 (by omega) (show a2.toInt % 1 = 0 by omega) rfl
  refine ct_calli (D := D) (wr := [(qn, .inr (4, [.ref qn_danced, .ref qn_places, .long vn_state, .int vn_holeCount, .int vn_firstHole, .int vn_mudCount, .int vn_slipCount])), (qn_places, .inl (cI, 2, .inl (fn_places))), (qd_lengths, .inl (cI, 2, .inl (fd_lengths))), dn qd vd_gap vd_odds vd_rain vd_lines qd_steps qd_lengths qd_starts qd_met qd_stumbles vd_stumbleCount qd_muds qd_cells vd_cellCount qd_tunes vd_tuneCount qd_changes vd_changeCount, (qd_steps, .inl (cI, 24, .inl (fd_steps)))]) (va_runSN (As := [.int z4, .int z5]) (rest := [.int a2, .ref qn_places]) ⟨hx, hb, hml, hown, hts⟩ (c_X11_wrap l D G cI cJ cB cZ cO z4 z5  H.size) ⟨va_cnB 2 hts gX4_danceStep_X11_wrap_n66 rfl rfl rfl (hE.2.1 (RX4, 66, yX11_wrap, "OverHill") (List.mem_of_getElem? (i := 20) rfl)) (hts (.initialized RX11) (by decide +kernel)) (by decide +kernel) ⟨Nat.le_of_ble_eq_true rfl, Nat.le_of_ble_eq_true rfl⟩, (hts (.static yX11_wrap) (by decide +kernel)), trivial⟩ (ct_preS (T := ct_T cI cJ cB cZ cO) hE hH hP hD hS hA [] (by decide) rfl) rfl rfl hl.1 rfl (lv_room (Nat.le_of_ble_eq_true rfl)) dX4_danceStep_31 ⟨Nat.le_of_ble_eq_true rfl, Nat.le_of_ble_eq_true rfl⟩) hP hD hS hA [] [0, 1, 2, 3, 4] rfl rfl (by decide) (by decide) (fun r6 u H locs hw hP hD hS => ?_)
  obtain ⟨hP, hD⟩ : ct_B D A H [(qn, .inr (4, [.ref qn_danced, .ref qn_places, .long vn_state, .int vn_holeCount, .int vn_firstHole, .int vn_mudCount, .int vn_slipCount])), (qn_places, .inl (cI, 2, .inl (fn_places))), (qd_lengths, .inl (cI, 2, .inl (fd_lengths))), dn qd vd_gap vd_odds vd_rain vd_lines qd_steps qd_lengths qd_starts qd_met qd_stumbles vd_stumbleCount qd_muds qd_cells vd_cellCount qd_tunes vd_tuneCount qd_changes vd_changeCount, (qd_steps, .inl (cI, 24, .inl (fd_steps)))] := ⟨hP, hD⟩
  obtain ⟨hz, hp0⟩ := hw
  have hp_7 : wr_ok z4.toInt z5.toInt r6.toInt := hp0
  have h_r6 : 0 ≤ r6.toInt ∧ (r6.toInt < z5.toInt ∨ r6.toInt = 0) := hz
  refine va_iast (D := D) hx hb hK hP hD hS 1 0 rfl rfl (tq_in rfl (by omega)) dX4_danceStep_34 (fun H locs hP hD hS => ?_)
  obtain ⟨g8, h_g8, hP, hD⟩ : ∃ g8 : Nat → Int32, ar_ok [0] [11] g8 ∧ ct_B D A H [(qn, .inr (4, [.ref qn_danced, .ref qn_places, .long vn_state, .int vn_holeCount, .int vn_firstHole, .int vn_mudCount, .int vn_slipCount])), (qn_places, .inl (cI, 2, .inl (g8))), (qd_lengths, .inl (cI, 2, .inl (fd_lengths))), dn qd vd_gap vd_odds vd_rain vd_lines qd_steps qd_lengths qd_starts qd_met qd_stumbles vd_stumbleCount qd_muds qd_cells vd_cellCount qd_tunes vd_tuneCount qd_changes vd_changeCount, (qd_steps, .inl (cI, 24, .inl (fd_steps)))] := ⟨_, ar_set h_fn_places a2 r6 0 (by omega) (show a2.toInt % 1 = 0 by omega) rfl (show 0 ≤ r6.toInt ∧ r6.toInt ≤ 11 by omega), hP, hD⟩
  refine lv_aload_n hx hb dX4_danceStep_35 rfl (lv_at hl 1 rfl) ?_
  refine ct_calli (D := D) (wr := [(qn_places, .inl (cI, 2, .inl (g8))), (qd_lengths, .inl (cI, 2, .inl (fd_lengths))), dn qd vd_gap vd_odds vd_rain vd_lines qd_steps qd_lengths qd_starts qd_met qd_stumbles vd_stumbleCount qd_muds qd_cells vd_cellCount qd_tunes vd_tuneCount qd_changes vd_changeCount, (qd_steps, .inl (cI, 24, .inl (fd_steps)))]) (va_runV (As := []) (rest := []) ⟨hx, hb, hml, hown, hts⟩ (c_X4_draw l D G cI cJ cB cZ cO qn qn_danced qn_places vn_state vn_holeCount vn_firstHole vn_mudCount vn_slipCount  H.size) (cwV 0 hts gX4_danceStep_X4_draw rfl rfl rfl (by decide +kernel) ⟨Nat.le_of_ble_eq_true rfl, Nat.le_of_ble_eq_true rfl⟩) (ct_preV (T := ct_T cI cJ cB cZ cO) (ci := 4) (q0 := 0) hE hH hP hD hS hA [0] (by decide) rfl rfl rfl) rfl rfl hl.1 rfl (lv_room (Nat.le_of_ble_eq_true rfl)) dX4_danceStep_36 ⟨Nat.le_of_ble_eq_true rfl, Nat.le_of_ble_eq_true rfl⟩) hP hD hS hA [0] [1, 2, 3, 4] rfl rfl (by decide) (by decide) (fun r9 u H locs hw hP hD hS => ?_)
  obtain ⟨y10, rfl⟩ : ∃ z, z = u := ⟨_, rfl⟩
  obtain ⟨hP, hD⟩ : ct_B D A H [(qn_places, .inl (cI, 2, .inl (g8))), (qd_lengths, .inl (cI, 2, .inl (fd_lengths))), dn qd vd_gap vd_odds vd_rain vd_lines qd_steps qd_lengths qd_starts qd_met qd_stumbles vd_stumbleCount qd_muds qd_cells vd_cellCount qd_tunes vd_tuneCount qd_changes vd_changeCount, (qd_steps, .inl (cI, 24, .inl (fd_steps))), (qn, .inr (4, [.ref qn_danced, .ref qn_places, .long y10, .int vn_holeCount, .int vn_firstHole, .int vn_mudCount, .int vn_slipCount]))] := ⟨hP, hD⟩
  refine lv_aload_n hx hb dX4_danceStep_39 rfl (lv_at hl 2 rfl) ?_
  refine va_get (D := D) (ci := 0) (v := .int vd_odds) (C := RX0) (T := TX0) (N := 17) hx hb hts hi0 hown hK hP 2 rfl rfl 1 (by decide) (hts (.fieldLink RX4 69 "OverHill$Dance" "odds" "I") (by decide +kernel)) (fun _ h9 => h9) rfl dX4_danceStep_40 ?_
  refine lv_icmp_ge (tgt := 63) hx hb dX4_danceStep_43 (by decide) (fun hc => ?_) (fun hc => ?_)
  · have hq11 : vd_odds.toInt ≤ r9.toInt := tq_le rfl rfl hc
    have hb12 := tq_lo r9
    have hb13 := tq_lo vd_odds
    refine lv_iload_n hx hb dX4_danceStep_63 rfl (lv_at hl 0 rfl) ?_
    obtain ⟨hP9, hD9⟩ : ct_B D A H [(qn, .inr (4, [.ref qn_danced, .ref qn_places, .long y10, .int vn_holeCount, .int vn_firstHole, .int vn_mudCount, .int vn_slipCount])), (qn_places, .inl (cI, 2, .inl (g8))), dn qd vd_gap vd_odds vd_rain vd_lines qd_steps qd_lengths qd_starts qd_met qd_stumbles vd_stumbleCount qd_muds qd_cells vd_cellCount qd_tunes vd_tuneCount qd_changes vd_changeCount, (qd_steps, .inl (cI, 24, .inl (fd_steps))), (qd_lengths, .inl (cI, 2, .inl (fd_lengths)))] := ⟨hP.sub [4, 0, 2, 3, 1] rfl, hD.sub [4, 0, 2, 3, 1] (by decide) rfl⟩
    exact W.iret (v := r2) hx hb hr (fun t ht hW => ⟨⟨r2, (y10, vn_slipCount, g8), rfl, ⟨h_r2, h_g8⟩, by rw [ht]; exact hP9, hD9⟩, hS.F ht⟩) hS.2.2 dX4_danceStep_64
  · have hq11 : r9.toInt < vd_odds.toInt := tq_nle rfl rfl hc
    have hb14 := tq_lo r9
    have hb15 := tq_lo vd_odds
    refine lv_aload_n hx hb dX4_danceStep_46 rfl (lv_at hl 1 rfl) ?_
    refine lv_dup hx hb dX4_danceStep_47 rfl ?_
    refine va_get (D := D) (ci := 4) (v := .int vn_slipCount) (C := RX4) (T := TX4) (N := 7) hx hb hts hi4 hown hK hP 4 rfl rfl 6 (by decide) (hts (.fieldLink RX4 32 "OverHill$Night" "slipCount" "I") (by decide +kernel)) (fun _ h9 => h9) rfl dX4_danceStep_48 ?_
    refine lv_iconst (v := 1) hx hb dX4_danceStep_51 (by decide) ?_
    refine lv_iadd hx hb dX4_danceStep_52 ?_
    refine lv_topi (fun z16 ez16 => ?_)
    refine va_put (D := D) (ci := 4) (v := .int z16) (ty := .int) (C := RX4) (T := TX4) (N := 7) hx hb hts hi4 tyX4 tyX4_ok nmX4 hown hK hP hD hS 4 rfl rfl 6 (by decide) (hts (.fieldLink RX4 32 "OverHill$Night" "slipCount" "I") (by decide +kernel)) (fun _ h9 => h9) rfl (by decide +kernel) rfl rfl (Nat.le_of_ble_eq_true rfl) dX4_danceStep_53 (fun H locs hP hD hS => ?_)
    obtain ⟨hP, hD⟩ : ct_B D A H [(qn_places, .inl (cI, 2, .inl (g8))), (qd_lengths, .inl (cI, 2, .inl (fd_lengths))), dn qd vd_gap vd_odds vd_rain vd_lines qd_steps qd_lengths qd_starts qd_met qd_stumbles vd_stumbleCount qd_muds qd_cells vd_cellCount qd_tunes vd_tuneCount qd_changes vd_changeCount, (qd_steps, .inl (cI, 24, .inl (fd_steps))), (qn, .inr (4, [.ref qn_danced, .ref qn_places, .long y10, .int vn_holeCount, .int vn_firstHole, .int vn_mudCount, .int z16]))] := ⟨hP, hD⟩
    refine lv_iload_n hx hb dX4_danceStep_56 rfl (lv_at hl 0 rfl) ?_
    refine lv_iconst (v := 1) hx hb dX4_danceStep_57 (by decide) ?_
    refine lv_iadd hx hb dX4_danceStep_58 ?_
    refine lv_topi (fun z17 ez17 => ?_)
    have fz17 : z17.toInt = r2.toInt + 1 := by rw [ez17]; exact tq_add rfl (by decide) (by omega)
    refine lv_bipush (v := 6) hx hb dX4_danceStep_59 (by decide) ?_
    refine lv_irem hx hb dX4_danceStep_61 (by decide) ?_
    refine lv_topi (fun z18 ez18 => ?_)
    have fz18 : z18.toInt = z17.toInt % 6 := by rw [ez18]; exact tq_remc (c := 6) rfl (by decide) (by omega) (by omega)
    refine lv_istore_n (lv' := [(3, .int z18), (0, .ref qn), (1, .ref qd), (2, .int a2)]) hx hb dX4_danceStep_62 rfl hl (by decide) rfl (fun ls hl => ?_)
    refine lv_iload_n hx hb dX4_danceStep_63 rfl (lv_at hl 0 rfl) ?_
    obtain ⟨hP9, hD9⟩ : ct_B D A H [(qn, .inr (4, [.ref qn_danced, .ref qn_places, .long y10, .int vn_holeCount, .int vn_firstHole, .int vn_mudCount, .int z16])), (qn_places, .inl (cI, 2, .inl (g8))), dn qd vd_gap vd_odds vd_rain vd_lines qd_steps qd_lengths qd_starts qd_met qd_stumbles vd_stumbleCount qd_muds qd_cells vd_cellCount qd_tunes vd_tuneCount qd_changes vd_changeCount, (qd_steps, .inl (cI, 24, .inl (fd_steps))), (qd_lengths, .inl (cI, 2, .inl (fd_lengths)))] := ⟨hP.sub [4, 0, 2, 3, 1] rfl, hD.sub [4, 0, 2, 3, 1] (by decide) rfl⟩
    exact W.iret (v := z18) hx hb hr (fun t ht hW => ⟨⟨z18, (y10, z16, g8), rfl, ⟨(show 0 ≤ z18.toInt ∧ z18.toInt ≤ 5 by omega), h_g8⟩, by rw [ht]; exact hP9, hD9⟩, hS.F ht⟩) hS.2.2 dX4_danceStep_64
abbrev w_c_X4_danceBeat (cI cJ cB cZ cO : ClassId) (qn : Nat) (qn_danced : Nat) (fn_danced : Nat → Int32) (qn_places : Nat) (fn_places : Nat → Int32) (vn_state : Int64) (vn_holeCount : Int32) (vn_firstHole : Int32) (vn_mudCount : Int32) (vn_slipCount : Int32) (qd : Nat) (vd_gap : Int32) (vd_odds : Int32) (vd_rain : Int32) (vd_lines : Int32) (qd_steps : Nat) (fd_steps : Nat → Int32) (qd_lengths : Nat) (fd_lengths : Nat → Int32) (qd_starts : Nat) (qd_met : Nat) (qd_stumbles : Nat) (vd_stumbleCount : Int32) (qd_muds : Nat) (qd_cells : Nat) (vd_cellCount : Int32) (qd_tunes : Nat) (vd_tuneCount : Int32) (qd_changes : Nat) (vd_changeCount : Int32) : va_W := [(qn, .inr (4, [.ref qn_danced, .ref qn_places, .long vn_state, .int vn_holeCount, .int vn_firstHole, .int vn_mudCount, .int vn_slipCount])), (qn_danced, .inl (cI, 200, .inl (fn_danced))), (qn_places, .inl (cI, 2, .inl (fn_places))), dn qd vd_gap vd_odds vd_rain vd_lines qd_steps qd_lengths qd_starts qd_met qd_stumbles vd_stumbleCount qd_muds qd_cells vd_cellCount qd_tunes vd_tuneCount qd_changes vd_changeCount, (qd_steps, .inl (cI, 24, .inl (fd_steps))), (qd_lengths, .inl (cI, 2, .inl (fd_lengths)))]
set_option maxHeartbeats 4000000 in
set_option maxRecDepth 100000 in
/-- X4 danceBeat -/
theorem c_X4_danceBeat (l : Launch) (D : va_G) (G : ct_G) (cI cJ cB cZ cO : ClassId) (qn : Nat) (qn_danced : Nat) (fn_danced : Nat → Int32) (qn_places : Nat) (fn_places : Nat → Int32) (vn_state : Int64) (vn_holeCount : Int32) (vn_firstHole : Int32) (vn_mudCount : Int32) (vn_slipCount : Int32) (qd : Nat) (vd_gap : Int32) (vd_odds : Int32) (vd_rain : Int32) (vd_lines : Int32) (qd_steps : Nat) (fd_steps : Nat → Int32) (qd_lengths : Nat) (fd_lengths : Nat → Int32) (qd_starts : Nat) (qd_met : Nat) (qd_stumbles : Nat) (vd_stumbleCount : Int32) (qd_muds : Nat) (qd_cells : Nat) (vd_cellCount : Int32) (qd_tunes : Nat) (vd_tuneCount : Int32) (qd_changes : Nat) (vd_changeCount : Int32) (a2 : Int32) (h_fn_danced : ar_ok [(-1)] [5] fn_danced) (h_fn_places : ar_ok [0] [11] fn_places) (h_vd_gap : 0 ≤ vd_gap.toInt ∧ vd_gap.toInt ≤ 20) (h_fd_steps : ar_ok [0] [5] fd_steps) (h_fd_lengths : ar_ok [0] [12] fd_lengths) (h_vd_stumbleCount : 0 ≤ vd_stumbleCount.toInt ∧ vd_stumbleCount.toInt ≤ 8) (h_vd_cellCount : 0 ≤ vd_cellCount.toInt ∧ vd_cellCount.toInt ≤ 12) (h_vd_tuneCount : 0 ≤ vd_tuneCount.toInt ∧ vd_tuneCount.toInt ≤ 5) (h_vd_changeCount : 0 ≤ vd_changeCount.toInt ∧ vd_changeCount.toInt ≤ 40) (h_a2 : 0 ≤ a2.toInt ∧ a2.toInt ≤ 99) (sz : Nat) : Met l yX4_danceBeat wsX4_danceBeat ({ frames := 3, cells := 0, slots := 0, locals := 66 }) (va_Pc [.ref qn, .ref qd, .int a2] (ct_P D (ct_T cI cJ cB cZ cO) G (w_c_X4_danceBeat cI cJ cB cZ cO qn qn_danced fn_danced qn_places fn_places vn_state vn_holeCount vn_firstHole vn_mudCount vn_slipCount qd vd_gap vd_odds vd_rain vd_lines qd_steps fd_steps qd_lengths fd_lengths qd_starts qd_met qd_stumbles vd_stumbleCount qd_muds qd_cells vd_cellCount qd_tunes vd_tuneCount qd_changes vd_changeCount) sz)) (va_Qv (fun (u : Int64 × Int32 × Int32 × (Nat → Int32) × (Nat → Int32)) => (ar_ok [(-1)] [5] u.2.2.2.1) ∧ (ar_ok [0] [11] u.2.2.2.2)) (fun (u : Int64 × Int32 × Int32 × (Nat → Int32) × (Nat → Int32)) t => ct_Q D (va_A (w_c_X4_danceBeat cI cJ cB cZ cO qn qn_danced fn_danced qn_places fn_places vn_state vn_holeCount vn_firstHole vn_mudCount vn_slipCount qd vd_gap vd_odds vd_rain vd_lines qd_steps fd_steps qd_lengths fd_lengths qd_starts qd_met qd_stumbles vd_stumbleCount qd_muds qd_cells vd_cellCount qd_tunes vd_tuneCount qd_changes vd_changeCount) sz) [(qn, .inr (4, [.ref qn_danced, .ref qn_places, .long u.1, .int vn_holeCount, .int vn_firstHole, .int u.2.1, .int u.2.2.1])), (qn_danced, .inl (cI, 200, .inl (u.2.2.2.1))), (qn_places, .inl (cI, 2, .inl (u.2.2.2.2))), dn qd vd_gap vd_odds vd_rain vd_lines qd_steps qd_lengths qd_starts qd_met qd_stumbles vd_stumbleCount qd_muds qd_cells vd_cellCount qd_tunes vd_tuneCount qd_changes vd_changeCount, (qd_steps, .inl (cI, 24, .inl (fd_steps))), (qd_lengths, .inl (cI, 2, .inl (fd_lengths)))] t) (va_A (w_c_X4_danceBeat cI cJ cB cZ cO qn qn_danced fn_danced qn_places fn_places vn_state vn_holeCount vn_firstHole vn_mudCount vn_slipCount qd vd_gap vd_odds vd_rain vd_lines qd_steps fd_steps qd_lengths fd_lengths qd_starts qd_met qd_stumbles vd_stumbleCount qd_muds qd_cells vd_cellCount qd_tunes vd_tuneCount qd_changes vd_changeCount) sz)) 0 0 (va_A (w_c_X4_danceBeat cI cJ cB cZ cO qn qn_danced fn_danced qn_places fn_places vn_state vn_holeCount vn_firstHole vn_mudCount vn_slipCount qd vd_gap vd_odds vd_rain vd_lines qd_steps fd_steps qd_lengths fd_lengths qd_starts qd_met qd_stumbles vd_stumbleCount qd_muds qd_cells vd_cellCount qd_tunes vd_tuneCount qd_changes vd_changeCount) sz) := by
  refine Met.ofW (cc := cX4_danceBeat) (maxL := 6) (ret := none) (by decide) rfl ?_
  intro p e s m args below meth c s₁ B hml hv
  obtain ⟨rfl, hsz, hP, hE, hD0, hH⟩ := hv
  have hx := B.exec
  have hb := B.bytes
  have hr := B.returns
  have hts := atoms_spec (ws := wsX4_danceBeat) B.pre
  have hown : s.vm.findClass RX4 = some m.cls := findClass_of_methodNamed B.named
  have hlocks := B.notSynchronized
  have hK := hE.1
  have hi0 : ∀ w ∈ u_ws RX0 TX0 17, w ∈ wsX4_danceBeat := fun w h => List.mem_cons_of_mem _ (List.mem_append_left _ (List.mem_append_right _ h))
  have hi4 : ∀ w ∈ u_ws RX4 TX4 7, w ∈ wsX4_danceBeat := fun w h => List.mem_cons_of_mem _ (List.mem_append_right _ h)
  subst hsz
  have hD := hD0.self (sz := s.heap.size)
  generalize hAe : va_A (w_c_X4_danceBeat cI cJ cB cZ cO qn qn_danced fn_danced qn_places fn_places vn_state vn_holeCount vn_firstHole vn_mudCount vn_slipCount qd vd_gap vd_odds vd_rain vd_lines qd_steps fd_steps qd_lengths fd_lengths qd_starts qd_met qd_stumbles vd_stumbleCount qd_muds qd_cells vd_cellCount qd_tunes vd_tuneCount qd_changes vd_changeCount) s.heap.size = A at hD hH ⊢
  have hA : ∀ q : Nat, s.heap.size ≤ q → A q := fun q h => by rw [← hAe]; exact Or.inr h
  have hS : va_S A s.heap s.heap [] := va_S.rf
  obtain ⟨hP, hD⟩ : ct_B D A s.heap [(qn, .inr (4, [.ref qn_danced, .ref qn_places, .long vn_state, .int vn_holeCount, .int vn_firstHole, .int vn_mudCount, .int vn_slipCount])), (qn_danced, .inl (cI, 200, .inl (fn_danced))), (qn_places, .inl (cI, 2, .inl (fn_places))), dn qd vd_gap vd_odds vd_rain vd_lines qd_steps qd_lengths qd_starts qd_met qd_stumbles vd_stumbleCount qd_muds qd_cells vd_cellCount qd_tunes vd_tuneCount qd_changes vd_changeCount, (qd_steps, .inl (cI, 24, .inl (fd_steps))), (qd_lengths, .inl (cI, 2, .inl (fd_lengths)))] := ⟨hP, hD⟩
  have hl := lv_entry ([.ref qn, .ref qd, .int a2]) (n := 6) (Nat.le_of_ble_eq_true rfl)
  rw [lg_entry_eq]
  generalize (lg_sl ([.ref qn, .ref qd, .int a2]) ++ List.replicate (6 - (lg_sl ([.ref qn, .ref qd, .int a2])).length) Slot.unset).toArray = ls at hl ⊢
  have hl : lv_has ls 6 [(0, .ref qn), (1, .ref qd), (2, .int a2)] := hl
  obtain ⟨H, hHe⟩ : ∃ H : Heap, H = s.heap := ⟨_, rfl⟩
  rw [← hHe] at hP
  have hS : va_S A s.heap H [] := by rw [hHe]; exact va_S.rf
  refine ct_start hHe ?_
  refine lv_aload_n hx hb dX4_danceBeat_0 rfl (lv_at hl 0 rfl) ?_
  refine ct_calli (D := D) (wr := [(qn_danced, .inl (cI, 200, .inl (fn_danced))), (qn_places, .inl (cI, 2, .inl (fn_places))), dn qd vd_gap vd_odds vd_rain vd_lines qd_steps qd_lengths qd_starts qd_met qd_stumbles vd_stumbleCount qd_muds qd_cells vd_cellCount qd_tunes vd_tuneCount qd_changes vd_changeCount, (qd_steps, .inl (cI, 24, .inl (fd_steps))), (qd_lengths, .inl (cI, 2, .inl (fd_lengths)))]) (va_runV (As := []) (rest := []) ⟨hx, hb, hml, hown, hts⟩ (c_X4_draw l D G cI cJ cB cZ cO qn qn_danced qn_places vn_state vn_holeCount vn_firstHole vn_mudCount vn_slipCount  H.size) (cwV 0 hts gX4_danceBeat_X4_draw rfl rfl rfl (by decide +kernel) ⟨Nat.le_of_ble_eq_true rfl, Nat.le_of_ble_eq_true rfl⟩) (ct_preV (T := ct_T cI cJ cB cZ cO) (ci := 4) (q0 := 0) hE hH hP hD hS hA [0] (by decide) rfl rfl rfl) rfl rfl hl.1 rfl (lv_room (Nat.le_of_ble_eq_true rfl)) dX4_danceBeat_1 ⟨Nat.le_of_ble_eq_true rfl, Nat.le_of_ble_eq_true rfl⟩) hP hD hS hA [0] [1, 2, 3, 4, 5] rfl rfl (by decide) (by decide) (fun r1 u H locs hw hP hD hS => ?_)
  obtain ⟨y2, rfl⟩ : ∃ z, z = u := ⟨_, rfl⟩
  obtain ⟨hP, hD⟩ : ct_B D A H [(qn_danced, .inl (cI, 200, .inl (fn_danced))), (qn_places, .inl (cI, 2, .inl (fn_places))), dn qd vd_gap vd_odds vd_rain vd_lines qd_steps qd_lengths qd_starts qd_met qd_stumbles vd_stumbleCount qd_muds qd_cells vd_cellCount qd_tunes vd_tuneCount qd_changes vd_changeCount, (qd_steps, .inl (cI, 24, .inl (fd_steps))), (qd_lengths, .inl (cI, 2, .inl (fd_lengths))), (qn, .inr (4, [.ref qn_danced, .ref qn_places, .long y2, .int vn_holeCount, .int vn_firstHole, .int vn_mudCount, .int vn_slipCount]))] := ⟨hP, hD⟩
  refine lv_aload_n hx hb dX4_danceBeat_4 rfl (lv_at hl 1 rfl) ?_
  refine va_get (D := D) (ci := 0) (v := .int vd_rain) (C := RX0) (T := TX0) (N := 17) hx hb hts hi0 hown hK hP 2 rfl rfl 2 (by decide) (hts (.fieldLink RX4 52 "OverHill$Dance" "rain" "I") (by decide +kernel)) (fun _ h9 => h9) rfl dX4_danceBeat_5 ?_
  refine lv_icmp_ge (tgt := 15) hx hb dX4_danceBeat_8 (by decide) (fun hc => ?_) (fun hc => ?_)
  · have hq3 : vd_rain.toInt ≤ r1.toInt := tq_le rfl rfl hc
    have hb4 := tq_lo r1
    have hb5 := tq_lo vd_rain
    refine lv_iconst (v := 0) hx hb dX4_danceBeat_15 (by decide) ?_
    refine lv_istore_n (lv' := [(3, .int 0), (0, .ref qn), (1, .ref qd), (2, .int a2)]) hx hb dX4_danceBeat_16 rfl hl (by decide) rfl (fun ls hl => ?_)
    refine lv_aload_n hx hb dX4_danceBeat_17 rfl (lv_at hl 1 rfl) ?_
    refine lv_dup hx hb dX4_danceBeat_18 rfl ?_
    refine va_get (D := D) (ci := 4) (v := .int vn_mudCount) (C := RX4) (T := TX4) (N := 7) hx hb hts hi4 hown hK hP 5 rfl rfl 5 (by decide) (hts (.fieldLink RX4 29 "OverHill$Night" "mudCount" "I") (by decide +kernel)) (fun _ h9 => h9) rfl dX4_danceBeat_19 ?_
    refine lv_iload_n hx hb dX4_danceBeat_22 rfl (lv_at hl 0 rfl) ?_
    refine lv_if_eq (tgt := 30) hx hb dX4_danceBeat_23 (by decide) (fun _ => ?_) (fun hc => absurd hc (by decide))
    refine lv_iconst (v := 0) hx hb dX4_danceBeat_30 (by decide) ?_
    refine lv_iadd hx hb dX4_danceBeat_31 ?_
    refine lv_topi (fun z6 ez6 => ?_)
    refine va_put (D := D) (ci := 4) (v := .int z6) (ty := .int) (C := RX4) (T := TX4) (N := 7) hx hb hts hi4 tyX4 tyX4_ok nmX4 hown hK hP hD hS 5 rfl rfl 5 (by decide) (hts (.fieldLink RX4 29 "OverHill$Night" "mudCount" "I") (by decide +kernel)) (fun _ h9 => h9) rfl (by decide +kernel) rfl rfl (Nat.le_of_ble_eq_true rfl) dX4_danceBeat_32 (fun H locs hP hD hS => ?_)
    obtain ⟨hP, hD⟩ : ct_B D A H [(qn_danced, .inl (cI, 200, .inl (fn_danced))), (qn_places, .inl (cI, 2, .inl (fn_places))), dn qd vd_gap vd_odds vd_rain vd_lines qd_steps qd_lengths qd_starts qd_met qd_stumbles vd_stumbleCount qd_muds qd_cells vd_cellCount qd_tunes vd_tuneCount qd_changes vd_changeCount, (qd_steps, .inl (cI, 24, .inl (fd_steps))), (qd_lengths, .inl (cI, 2, .inl (fd_lengths))), (qn, .inr (4, [.ref qn_danced, .ref qn_places, .long y2, .int vn_holeCount, .int vn_firstHole, .int z6, .int vn_slipCount]))] := ⟨hP, hD⟩
    refine lv_iconst (v := 0) hx hb dX4_danceBeat_35 (by decide) ?_
    refine lv_istore (lv' := [(4, .int 0), (3, .int 0), (0, .ref qn), (1, .ref qd), (2, .int a2)]) hx hb dX4_danceBeat_36 hl (by decide) rfl (fun ls hl => ?_)
    refine ct_loop (X := (Nat → Int32) × (Nat → Int32) × Int64 × Int32 × Int32) (fun x => (2 - x.2.2.2.2.toInt).toNat) (fun x H locs ls => (ar_ok [(-1)] [5] x.1) ∧ (ar_ok [0] [11] x.2.1) ∧ ((0 ≤ x.2.2.2.2.toInt ∧ x.2.2.2.2.toInt ≤ 2)) ∧ ct_B D A H [(qn_danced, .inl (cI, 200, .inl (x.1))), (qn_places, .inl (cI, 2, .inl (x.2.1))), dn qd vd_gap vd_odds vd_rain vd_lines qd_steps qd_lengths qd_starts qd_met qd_stumbles vd_stumbleCount qd_muds qd_cells vd_cellCount qd_tunes vd_tuneCount qd_changes vd_changeCount, (qd_steps, .inl (cI, 24, .inl (fd_steps))), (qd_lengths, .inl (cI, 2, .inl (fd_lengths))), (qn, .inr (4, [.ref qn_danced, .ref qn_places, .long x.2.2.1, .int vn_holeCount, .int vn_firstHole, .int z6, .int x.2.2.2.1]))] ∧ va_S A s.heap H locs ∧ lv_has ls 6 [(4, .int x.2.2.2.2), (3, .int 0), (0, .ref qn), (1, .ref qd), (2, .int a2)]) 38 (fn_danced, fn_places, y2, vn_slipCount, (0 : Int32)) ⟨h_fn_danced, h_fn_places, (show 0 ≤ (0 : Int32).toInt ∧ (0 : Int32).toInt ≤ 2 by decide), ⟨hP, hD⟩, hS, lv_sub hl [0, 1, 2, 3, 4] rfl⟩ (fun x ih84 H locs ls hI => ?_)
    obtain ⟨g79, g80, x81, x82, x83⟩ := x
    obtain ⟨h_g79, h_g80, h_x83, ⟨hP, hD⟩, hS, hl⟩ := hI
    have h_g79 : ar_ok [(-1)] [5] g79 := h_g79
    have h_g80 : ar_ok [0] [11] g80 := h_g80
    have h_x83 : (0 ≤ x83.toInt ∧ x83.toInt ≤ 2) := h_x83
    obtain ⟨hP, hD⟩ : ct_B D A H [(qn_danced, .inl (cI, 200, .inl (g79))), (qn_places, .inl (cI, 2, .inl (g80))), dn qd vd_gap vd_odds vd_rain vd_lines qd_steps qd_lengths qd_starts qd_met qd_stumbles vd_stumbleCount qd_muds qd_cells vd_cellCount qd_tunes vd_tuneCount qd_changes vd_changeCount, (qd_steps, .inl (cI, 24, .inl (fd_steps))), (qd_lengths, .inl (cI, 2, .inl (fd_lengths))), (qn, .inr (4, [.ref qn_danced, .ref qn_places, .long x81, .int vn_holeCount, .int vn_firstHole, .int z6, .int x82]))] := ⟨hP, hD⟩
    have hl : lv_has ls 6 [(4, .int x83), (3, .int 0), (0, .ref qn), (1, .ref qd), (2, .int a2)] := hl
    refine lv_iload hx hb dX4_danceBeat_38 (lv_at hl 0 rfl) ?_
    refine lv_iconst (v := 2) hx hb dX4_danceBeat_40 (by decide) ?_
    refine lv_icmp_ge (tgt := 99) hx hb dX4_danceBeat_41 (by decide) (fun hc => ?_) (fun hc => ?_)
    · have hq85 : 2 ≤ x83.toInt := tq_le (by decide) rfl hc
      obtain ⟨hP9, hD9⟩ : ct_B D A H [(qn, .inr (4, [.ref qn_danced, .ref qn_places, .long x81, .int vn_holeCount, .int vn_firstHole, .int z6, .int x82])), (qn_danced, .inl (cI, 200, .inl (g79))), (qn_places, .inl (cI, 2, .inl (g80))), dn qd vd_gap vd_odds vd_rain vd_lines qd_steps qd_lengths qd_starts qd_met qd_stumbles vd_stumbleCount qd_muds qd_cells vd_cellCount qd_tunes vd_tuneCount qd_changes vd_changeCount, (qd_steps, .inl (cI, 24, .inl (fd_steps))), (qd_lengths, .inl (cI, 2, .inl (fd_lengths)))] := ⟨hP.sub [5, 0, 1, 2, 3, 4] rfl, hD.sub [5, 0, 1, 2, 3, 4] (by decide) rfl⟩
      exact W.vret hx hb hr (fun t ht hW => ⟨⟨(x81, z6, x82, g79, g80), rfl, ⟨h_g79, h_g80⟩, by rw [ht]; exact hP9, hD9⟩, hS.F ht⟩) hS.2.2 dX4_danceBeat_99
    · have hq85 : x83.toInt < 2 := tq_nle (by decide) rfl hc
      refine lv_iload_n hx hb dX4_danceBeat_44 rfl (lv_at hl 1 rfl) ?_
      refine lv_if_ne (tgt := 62) hx hb dX4_danceBeat_45 (by decide) (fun hc => absurd hc (by decide)) (fun _ => ?_)
      refine lv_aload_n hx hb dX4_danceBeat_48 rfl (lv_at hl 3 rfl) ?_
      refine va_get (D := D) (ci := 0) (v := .ref qd_lengths) (C := RX0) (T := TX0) (N := 17) hx hb hts hi0 hown hK hP 2 rfl rfl 5 (by decide) (hts (.fieldLink RX4 55 "OverHill$Dance" "lengths" "[I") (by decide +kernel)) (fun _ h9 => h9) rfl dX4_danceBeat_49 ?_
      refine lv_iload hx hb dX4_danceBeat_52 (lv_at hl 0 rfl) ?_
      refine va_iald (D := D) hx hb hK hP 4 0 rfl rfl (tq_in rfl (by omega)) dX4_danceBeat_54 ?_
      refine lv_topi (fun z86 ez86 => ?_)
      have fz86 : 0 ≤ z86.toInt ∧ z86.toInt ≤ 12 := by rw [ez86]; exact ar_get h_fd_lengths x83 0 (by omega) (show x83.toInt % 1 = 0 by omega) rfl
      refine lv_if_le (tgt := 62) hx hb dX4_danceBeat_55 (by decide) (fun hc => ?_) (fun hc => ?_)
      · have hq87 : z86.toInt ≤ 0 := tq_le rfl (by decide) hc
        refine lv_iconst (v := 0) hx hb dX4_danceBeat_62 (by decide) ?_
        refine lv_istore (lv' := [(5, .int 0), (4, .int x83), (3, .int 0), (0, .ref qn), (1, .ref qd), (2, .int a2)]) hx hb dX4_danceBeat_63 hl (by decide) rfl (fun ls hl => ?_)
        refine lv_aload_n hx hb dX4_danceBeat_65 rfl (lv_at hl 3 rfl) ?_
        refine va_get (D := D) (ci := 4) (v := .ref qn_danced) (C := RX4) (T := TX4) (N := 7) hx hb hts hi4 hown hK hP 5 rfl rfl 0 (by decide) (hts (.fieldLink RX4 9 "OverHill$Night" "danced" "[I") (by decide +kernel)) (fun _ h9 => h9) rfl dX4_danceBeat_66 ?_
        refine lv_iload hx hb dX4_danceBeat_69 (lv_at hl 1 rfl) ?_
        refine lv_bipush (v := 100) hx hb dX4_danceBeat_71 (by decide) ?_
        refine lv_imul hx hb dX4_danceBeat_73 ?_
        refine lv_topi (fun z88 ez88 => ?_)
        have fz88 : z88.toInt = x83.toInt * 100 := by rw [ez88]; exact tq_mul rfl (by decide) (by omega)
        refine lv_iload_n hx hb dX4_danceBeat_74 rfl (lv_at hl 5 rfl) ?_
        refine lv_iadd hx hb dX4_danceBeat_75 ?_
        refine lv_topi (fun z89 ez89 => ?_)
        have fz89 : z89.toInt = z88.toInt + a2.toInt := by rw [ez89]; exact tq_add rfl rfl (by omega)
        refine lv_iload hx hb dX4_danceBeat_76 (lv_at hl 0 rfl) ?_
        refine lv_if_eq (tgt := 91) hx hb dX4_danceBeat_78 (by decide) (fun _ => ?_) (fun hc => absurd hc (by decide))
        refine lv_iconst (v := (-1)) hx hb dX4_danceBeat_91 (by decide) ?_
        refine va_iast (D := D) hx hb hK hP hD hS 0 0 rfl rfl (tq_in rfl (by omega)) dX4_danceBeat_92 (fun H locs hP hD hS => ?_)
        obtain ⟨g90, h_g90, hP, hD⟩ : ∃ g90 : Nat → Int32, ar_ok [(-1)] [5] g90 ∧ ct_B D A H [(qn_danced, .inl (cI, 200, .inl (g90))), (qn_places, .inl (cI, 2, .inl (g80))), dn qd vd_gap vd_odds vd_rain vd_lines qd_steps qd_lengths qd_starts qd_met qd_stumbles vd_stumbleCount qd_muds qd_cells vd_cellCount qd_tunes vd_tuneCount qd_changes vd_changeCount, (qd_steps, .inl (cI, 24, .inl (fd_steps))), (qd_lengths, .inl (cI, 2, .inl (fd_lengths))), (qn, .inr (4, [.ref qn_danced, .ref qn_places, .long x81, .int vn_holeCount, .int vn_firstHole, .int z6, .int x82]))] := ⟨_, ar_set h_g79 z89 (-1 : Int32) 0 (by omega) (show z89.toInt % 1 = 0 by omega) rfl (show (-1) ≤ (-1 : Int32).toInt ∧ (-1 : Int32).toInt ≤ 5 by decide), hP, hD⟩
        obtain ⟨z91, ez91⟩ : ∃ z : Int32, z = x83 + 1 := ⟨_, rfl⟩
        have fz91 : z91.toInt = x83.toInt + 1 := by rw [ez91]; exact tq_add rfl (by decide) (by omega)
        refine lv_iinc (v := z91) (lv' := [(4, .int z91), (5, .int 0), (3, .int 0), (0, .ref qn), (1, .ref qd), (2, .int a2)]) hx hb dX4_danceBeat_93 hl (k := 1) rfl ez91.symm (by decide) rfl (fun ls hl => ?_)
        refine lv_goto (tgt := 38) hx hb dX4_danceBeat_96 (by decide) ?_
        exact ih84 (g90, g80, x81, x82, z91) _ _ _ (show (2 - z91.toInt).toNat < (2 - x83.toInt).toNat by omega) ⟨h_g90, h_g80, (show 0 ≤ z91.toInt ∧ z91.toInt ≤ 2 by omega), ⟨hP, hD⟩, hS, lv_sub hl [0, 2, 3, 4, 5] rfl⟩
      · have hq87 : 0 < z86.toInt := tq_nle rfl (by decide) hc
        refine lv_iconst (v := 1) hx hb dX4_danceBeat_58 (by decide) ?_
        refine lv_goto (tgt := 63) hx hb dX4_danceBeat_59 (by decide) ?_
        refine lv_istore (lv' := [(5, .int 1), (4, .int x83), (3, .int 0), (0, .ref qn), (1, .ref qd), (2, .int a2)]) hx hb dX4_danceBeat_63 hl (by decide) rfl (fun ls hl => ?_)
        refine lv_aload_n hx hb dX4_danceBeat_65 rfl (lv_at hl 3 rfl) ?_
        refine va_get (D := D) (ci := 4) (v := .ref qn_danced) (C := RX4) (T := TX4) (N := 7) hx hb hts hi4 hown hK hP 5 rfl rfl 0 (by decide) (hts (.fieldLink RX4 9 "OverHill$Night" "danced" "[I") (by decide +kernel)) (fun _ h9 => h9) rfl dX4_danceBeat_66 ?_
        refine lv_iload hx hb dX4_danceBeat_69 (lv_at hl 1 rfl) ?_
        refine lv_bipush (v := 100) hx hb dX4_danceBeat_71 (by decide) ?_
        refine lv_imul hx hb dX4_danceBeat_73 ?_
        refine lv_topi (fun z92 ez92 => ?_)
        have fz92 : z92.toInt = x83.toInt * 100 := by rw [ez92]; exact tq_mul rfl (by decide) (by omega)
        refine lv_iload_n hx hb dX4_danceBeat_74 rfl (lv_at hl 5 rfl) ?_
        refine lv_iadd hx hb dX4_danceBeat_75 ?_
        refine lv_topi (fun z93 ez93 => ?_)
        have fz93 : z93.toInt = z92.toInt + a2.toInt := by rw [ez93]; exact tq_add rfl rfl (by omega)
        refine lv_iload hx hb dX4_danceBeat_76 (lv_at hl 0 rfl) ?_
        refine lv_if_eq (tgt := 91) hx hb dX4_danceBeat_78 (by decide) (fun hc => absurd hc (by decide)) (fun _ => ?_)
        refine lv_aload_n hx hb dX4_danceBeat_81 rfl (lv_at hl 3 rfl) ?_
        refine lv_aload_n hx hb dX4_danceBeat_82 rfl (lv_at hl 4 rfl) ?_
        refine lv_iload hx hb dX4_danceBeat_83 (lv_at hl 1 rfl) ?_
        refine ct_calli (D := D) (wr := [(qn_danced, .inl (cI, 200, .inl (g79)))]) (va_runV (As := [.ref qd, .int x83]) (rest := [.int z93, .ref qn_danced]) ⟨hx, hb, hml, hown, hts⟩ (c_X4_danceStep l D G cI cJ cB cZ cO qn qn_danced qn_places g80 x81 vn_holeCount vn_firstHole z6 x82 qd vd_gap vd_odds vd_rain vd_lines qd_steps fd_steps qd_lengths fd_lengths qd_starts qd_met qd_stumbles vd_stumbleCount qd_muds qd_cells vd_cellCount qd_tunes vd_tuneCount qd_changes vd_changeCount x83 h_g80 h_vd_gap h_fd_steps h_fd_lengths h_vd_stumbleCount h_vd_cellCount h_vd_tuneCount h_vd_changeCount (by omega) H.size) (cwV 2 hts gX4_danceBeat_X4_danceStep rfl rfl rfl (by decide +kernel) ⟨Nat.le_of_ble_eq_true rfl, Nat.le_of_ble_eq_true rfl⟩) (ct_preV (T := ct_T cI cJ cB cZ cO) (ci := 4) (q0 := 5) hE hH hP hD hS hA [5, 1, 2, 3, 4] (by decide) rfl rfl rfl) rfl rfl hl.1 rfl (lv_room (Nat.le_of_ble_eq_true rfl)) dX4_danceBeat_85 ⟨Nat.le_of_ble_eq_true rfl, Nat.le_of_ble_eq_true rfl⟩) hP hD hS hA [5, 1, 2, 3, 4] [0] rfl rfl (by decide) (by decide) (fun r94 u H locs hw hP hD hS => ?_)
        obtain ⟨y95, y96, g97⟩ := u
        obtain ⟨hP, hD⟩ : ct_B D A H [(qn_danced, .inl (cI, 200, .inl (g79))), (qn, .inr (4, [.ref qn_danced, .ref qn_places, .long y95, .int vn_holeCount, .int vn_firstHole, .int z6, .int y96])), (qn_places, .inl (cI, 2, .inl (g97))), dn qd vd_gap vd_odds vd_rain vd_lines qd_steps qd_lengths qd_starts qd_met qd_stumbles vd_stumbleCount qd_muds qd_cells vd_cellCount qd_tunes vd_tuneCount qd_changes vd_changeCount, (qd_steps, .inl (cI, 24, .inl (fd_steps))), (qd_lengths, .inl (cI, 2, .inl (fd_lengths)))] := ⟨hP, hD⟩
        obtain ⟨hz, hp0⟩ := hw
        have h_g97 : ar_ok [0] [11] g97 := hp0
        have h_r94 : 0 ≤ r94.toInt ∧ r94.toInt ≤ 5 := hz
        refine lv_goto (tgt := 92) hx hb dX4_danceBeat_88 (by decide) ?_
        refine va_iast (D := D) hx hb hK hP hD hS 0 0 rfl rfl (tq_in rfl (by omega)) dX4_danceBeat_92 (fun H locs hP hD hS => ?_)
        obtain ⟨g98, h_g98, hP, hD⟩ : ∃ g98 : Nat → Int32, ar_ok [(-1)] [5] g98 ∧ ct_B D A H [(qn_danced, .inl (cI, 200, .inl (g98))), (qn, .inr (4, [.ref qn_danced, .ref qn_places, .long y95, .int vn_holeCount, .int vn_firstHole, .int z6, .int y96])), (qn_places, .inl (cI, 2, .inl (g97))), dn qd vd_gap vd_odds vd_rain vd_lines qd_steps qd_lengths qd_starts qd_met qd_stumbles vd_stumbleCount qd_muds qd_cells vd_cellCount qd_tunes vd_tuneCount qd_changes vd_changeCount, (qd_steps, .inl (cI, 24, .inl (fd_steps))), (qd_lengths, .inl (cI, 2, .inl (fd_lengths)))] := ⟨_, ar_set h_g79 z93 r94 0 (by omega) (show z93.toInt % 1 = 0 by omega) rfl (show (-1) ≤ r94.toInt ∧ r94.toInt ≤ 5 by omega), hP, hD⟩
        obtain ⟨z99, ez99⟩ : ∃ z : Int32, z = x83 + 1 := ⟨_, rfl⟩
        have fz99 : z99.toInt = x83.toInt + 1 := by rw [ez99]; exact tq_add rfl (by decide) (by omega)
        refine lv_iinc (v := z99) (lv' := [(4, .int z99), (5, .int 1), (3, .int 0), (0, .ref qn), (1, .ref qd), (2, .int a2)]) hx hb dX4_danceBeat_93 hl (k := 1) rfl ez99.symm (by decide) rfl (fun ls hl => ?_)
        refine lv_goto (tgt := 38) hx hb dX4_danceBeat_96 (by decide) ?_
        obtain ⟨hP9, hD9⟩ : ct_B D A H [(qn_danced, .inl (cI, 200, .inl (g98))), (qn_places, .inl (cI, 2, .inl (g97))), dn qd vd_gap vd_odds vd_rain vd_lines qd_steps qd_lengths qd_starts qd_met qd_stumbles vd_stumbleCount qd_muds qd_cells vd_cellCount qd_tunes vd_tuneCount qd_changes vd_changeCount, (qd_steps, .inl (cI, 24, .inl (fd_steps))), (qd_lengths, .inl (cI, 2, .inl (fd_lengths))), (qn, .inr (4, [.ref qn_danced, .ref qn_places, .long y95, .int vn_holeCount, .int vn_firstHole, .int z6, .int y96]))] := ⟨hP.sub [0, 2, 3, 4, 5, 1] rfl, hD.sub [0, 2, 3, 4, 5, 1] (by decide) rfl⟩
        exact ih84 (g98, g97, y95, y96, z99) _ _ _ (show (2 - z99.toInt).toNat < (2 - x83.toInt).toNat by omega) ⟨h_g98, h_g97, (show 0 ≤ z99.toInt ∧ z99.toInt ≤ 2 by omega), ⟨hP9, hD9⟩, hS, lv_sub hl [0, 2, 3, 4, 5] rfl⟩
  · have hq3 : r1.toInt < vd_rain.toInt := tq_nle rfl rfl hc
    have hb100 := tq_lo r1
    have hb101 := tq_lo vd_rain
    refine lv_iconst (v := 1) hx hb dX4_danceBeat_11 (by decide) ?_
    refine lv_goto (tgt := 16) hx hb dX4_danceBeat_12 (by decide) ?_
    refine lv_istore_n (lv' := [(3, .int 1), (0, .ref qn), (1, .ref qd), (2, .int a2)]) hx hb dX4_danceBeat_16 rfl hl (by decide) rfl (fun ls hl => ?_)
    refine lv_aload_n hx hb dX4_danceBeat_17 rfl (lv_at hl 1 rfl) ?_
    refine lv_dup hx hb dX4_danceBeat_18 rfl ?_
    refine va_get (D := D) (ci := 4) (v := .int vn_mudCount) (C := RX4) (T := TX4) (N := 7) hx hb hts hi4 hown hK hP 5 rfl rfl 5 (by decide) (hts (.fieldLink RX4 29 "OverHill$Night" "mudCount" "I") (by decide +kernel)) (fun _ h9 => h9) rfl dX4_danceBeat_19 ?_
    refine lv_iload_n hx hb dX4_danceBeat_22 rfl (lv_at hl 0 rfl) ?_
    refine lv_if_eq (tgt := 30) hx hb dX4_danceBeat_23 (by decide) (fun hc => absurd hc (by decide)) (fun _ => ?_)
    refine lv_iconst (v := 1) hx hb dX4_danceBeat_26 (by decide) ?_
    refine lv_goto (tgt := 31) hx hb dX4_danceBeat_27 (by decide) ?_
    refine lv_iadd hx hb dX4_danceBeat_31 ?_
    refine lv_topi (fun z102 ez102 => ?_)
    refine va_put (D := D) (ci := 4) (v := .int z102) (ty := .int) (C := RX4) (T := TX4) (N := 7) hx hb hts hi4 tyX4 tyX4_ok nmX4 hown hK hP hD hS 5 rfl rfl 5 (by decide) (hts (.fieldLink RX4 29 "OverHill$Night" "mudCount" "I") (by decide +kernel)) (fun _ h9 => h9) rfl (by decide +kernel) rfl rfl (Nat.le_of_ble_eq_true rfl) dX4_danceBeat_32 (fun H locs hP hD hS => ?_)
    obtain ⟨hP, hD⟩ : ct_B D A H [(qn_danced, .inl (cI, 200, .inl (fn_danced))), (qn_places, .inl (cI, 2, .inl (fn_places))), dn qd vd_gap vd_odds vd_rain vd_lines qd_steps qd_lengths qd_starts qd_met qd_stumbles vd_stumbleCount qd_muds qd_cells vd_cellCount qd_tunes vd_tuneCount qd_changes vd_changeCount, (qd_steps, .inl (cI, 24, .inl (fd_steps))), (qd_lengths, .inl (cI, 2, .inl (fd_lengths))), (qn, .inr (4, [.ref qn_danced, .ref qn_places, .long y2, .int vn_holeCount, .int vn_firstHole, .int z102, .int vn_slipCount]))] := ⟨hP, hD⟩
    refine lv_iconst (v := 0) hx hb dX4_danceBeat_35 (by decide) ?_
    refine lv_istore (lv' := [(4, .int 0), (3, .int 1), (0, .ref qn), (1, .ref qd), (2, .int a2)]) hx hb dX4_danceBeat_36 hl (by decide) rfl (fun ls hl => ?_)
    refine ct_loop (X := (Nat → Int32) × Int32) (fun x => (2 - x.2.toInt).toNat) (fun x H locs ls => (ar_ok [(-1)] [5] x.1) ∧ ((0 ≤ x.2.toInt ∧ x.2.toInt ≤ 2)) ∧ ct_B D A H [(qn_danced, .inl (cI, 200, .inl (x.1))), (qn_places, .inl (cI, 2, .inl (fn_places))), dn qd vd_gap vd_odds vd_rain vd_lines qd_steps qd_lengths qd_starts qd_met qd_stumbles vd_stumbleCount qd_muds qd_cells vd_cellCount qd_tunes vd_tuneCount qd_changes vd_changeCount, (qd_steps, .inl (cI, 24, .inl (fd_steps))), (qd_lengths, .inl (cI, 2, .inl (fd_lengths))), (qn, .inr (4, [.ref qn_danced, .ref qn_places, .long y2, .int vn_holeCount, .int vn_firstHole, .int z102, .int vn_slipCount]))] ∧ va_S A s.heap H locs ∧ lv_has ls 6 [(4, .int x.2), (3, .int 1), (0, .ref qn), (1, .ref qd), (2, .int a2)]) 38 (fn_danced, (0 : Int32)) ⟨h_fn_danced, (show 0 ≤ (0 : Int32).toInt ∧ (0 : Int32).toInt ≤ 2 by decide), ⟨hP, hD⟩, hS, lv_sub hl [0, 1, 2, 3, 4] rfl⟩ (fun x ih129 H locs ls hI => ?_)
    obtain ⟨g127, x128⟩ := x
    obtain ⟨h_g127, h_x128, ⟨hP, hD⟩, hS, hl⟩ := hI
    have h_g127 : ar_ok [(-1)] [5] g127 := h_g127
    have h_x128 : (0 ≤ x128.toInt ∧ x128.toInt ≤ 2) := h_x128
    obtain ⟨hP, hD⟩ : ct_B D A H [(qn_danced, .inl (cI, 200, .inl (g127))), (qn_places, .inl (cI, 2, .inl (fn_places))), dn qd vd_gap vd_odds vd_rain vd_lines qd_steps qd_lengths qd_starts qd_met qd_stumbles vd_stumbleCount qd_muds qd_cells vd_cellCount qd_tunes vd_tuneCount qd_changes vd_changeCount, (qd_steps, .inl (cI, 24, .inl (fd_steps))), (qd_lengths, .inl (cI, 2, .inl (fd_lengths))), (qn, .inr (4, [.ref qn_danced, .ref qn_places, .long y2, .int vn_holeCount, .int vn_firstHole, .int z102, .int vn_slipCount]))] := ⟨hP, hD⟩
    have hl : lv_has ls 6 [(4, .int x128), (3, .int 1), (0, .ref qn), (1, .ref qd), (2, .int a2)] := hl
    refine lv_iload hx hb dX4_danceBeat_38 (lv_at hl 0 rfl) ?_
    refine lv_iconst (v := 2) hx hb dX4_danceBeat_40 (by decide) ?_
    refine lv_icmp_ge (tgt := 99) hx hb dX4_danceBeat_41 (by decide) (fun hc => ?_) (fun hc => ?_)
    · have hq130 : 2 ≤ x128.toInt := tq_le (by decide) rfl hc
      obtain ⟨hP9, hD9⟩ : ct_B D A H [(qn, .inr (4, [.ref qn_danced, .ref qn_places, .long y2, .int vn_holeCount, .int vn_firstHole, .int z102, .int vn_slipCount])), (qn_danced, .inl (cI, 200, .inl (g127))), (qn_places, .inl (cI, 2, .inl (fn_places))), dn qd vd_gap vd_odds vd_rain vd_lines qd_steps qd_lengths qd_starts qd_met qd_stumbles vd_stumbleCount qd_muds qd_cells vd_cellCount qd_tunes vd_tuneCount qd_changes vd_changeCount, (qd_steps, .inl (cI, 24, .inl (fd_steps))), (qd_lengths, .inl (cI, 2, .inl (fd_lengths)))] := ⟨hP.sub [5, 0, 1, 2, 3, 4] rfl, hD.sub [5, 0, 1, 2, 3, 4] (by decide) rfl⟩
      exact W.vret hx hb hr (fun t ht hW => ⟨⟨(y2, z102, vn_slipCount, g127, fn_places), rfl, ⟨h_g127, h_fn_places⟩, by rw [ht]; exact hP9, hD9⟩, hS.F ht⟩) hS.2.2 dX4_danceBeat_99
    · have hq130 : x128.toInt < 2 := tq_nle (by decide) rfl hc
      refine lv_iload_n hx hb dX4_danceBeat_44 rfl (lv_at hl 1 rfl) ?_
      refine lv_if_ne (tgt := 62) hx hb dX4_danceBeat_45 (by decide) (fun _ => ?_) (fun hc => absurd hc (by decide))
      refine lv_iconst (v := 0) hx hb dX4_danceBeat_62 (by decide) ?_
      refine lv_istore (lv' := [(5, .int 0), (4, .int x128), (3, .int 1), (0, .ref qn), (1, .ref qd), (2, .int a2)]) hx hb dX4_danceBeat_63 hl (by decide) rfl (fun ls hl => ?_)
      refine lv_aload_n hx hb dX4_danceBeat_65 rfl (lv_at hl 3 rfl) ?_
      refine va_get (D := D) (ci := 4) (v := .ref qn_danced) (C := RX4) (T := TX4) (N := 7) hx hb hts hi4 hown hK hP 5 rfl rfl 0 (by decide) (hts (.fieldLink RX4 9 "OverHill$Night" "danced" "[I") (by decide +kernel)) (fun _ h9 => h9) rfl dX4_danceBeat_66 ?_
      refine lv_iload hx hb dX4_danceBeat_69 (lv_at hl 1 rfl) ?_
      refine lv_bipush (v := 100) hx hb dX4_danceBeat_71 (by decide) ?_
      refine lv_imul hx hb dX4_danceBeat_73 ?_
      refine lv_topi (fun z131 ez131 => ?_)
      have fz131 : z131.toInt = x128.toInt * 100 := by rw [ez131]; exact tq_mul rfl (by decide) (by omega)
      refine lv_iload_n hx hb dX4_danceBeat_74 rfl (lv_at hl 5 rfl) ?_
      refine lv_iadd hx hb dX4_danceBeat_75 ?_
      refine lv_topi (fun z132 ez132 => ?_)
      have fz132 : z132.toInt = z131.toInt + a2.toInt := by rw [ez132]; exact tq_add rfl rfl (by omega)
      refine lv_iload hx hb dX4_danceBeat_76 (lv_at hl 0 rfl) ?_
      refine lv_if_eq (tgt := 91) hx hb dX4_danceBeat_78 (by decide) (fun _ => ?_) (fun hc => absurd hc (by decide))
      refine lv_iconst (v := (-1)) hx hb dX4_danceBeat_91 (by decide) ?_
      refine va_iast (D := D) hx hb hK hP hD hS 0 0 rfl rfl (tq_in rfl (by omega)) dX4_danceBeat_92 (fun H locs hP hD hS => ?_)
      obtain ⟨g133, h_g133, hP, hD⟩ : ∃ g133 : Nat → Int32, ar_ok [(-1)] [5] g133 ∧ ct_B D A H [(qn_danced, .inl (cI, 200, .inl (g133))), (qn_places, .inl (cI, 2, .inl (fn_places))), dn qd vd_gap vd_odds vd_rain vd_lines qd_steps qd_lengths qd_starts qd_met qd_stumbles vd_stumbleCount qd_muds qd_cells vd_cellCount qd_tunes vd_tuneCount qd_changes vd_changeCount, (qd_steps, .inl (cI, 24, .inl (fd_steps))), (qd_lengths, .inl (cI, 2, .inl (fd_lengths))), (qn, .inr (4, [.ref qn_danced, .ref qn_places, .long y2, .int vn_holeCount, .int vn_firstHole, .int z102, .int vn_slipCount]))] := ⟨_, ar_set h_g127 z132 (-1 : Int32) 0 (by omega) (show z132.toInt % 1 = 0 by omega) rfl (show (-1) ≤ (-1 : Int32).toInt ∧ (-1 : Int32).toInt ≤ 5 by decide), hP, hD⟩
      obtain ⟨z134, ez134⟩ : ∃ z : Int32, z = x128 + 1 := ⟨_, rfl⟩
      have fz134 : z134.toInt = x128.toInt + 1 := by rw [ez134]; exact tq_add rfl (by decide) (by omega)
      refine lv_iinc (v := z134) (lv' := [(4, .int z134), (5, .int 0), (3, .int 1), (0, .ref qn), (1, .ref qd), (2, .int a2)]) hx hb dX4_danceBeat_93 hl (k := 1) rfl ez134.symm (by decide) rfl (fun ls hl => ?_)
      refine lv_goto (tgt := 38) hx hb dX4_danceBeat_96 (by decide) ?_
      exact ih129 (g133, z134) _ _ _ (show (2 - z134.toInt).toNat < (2 - x128.toInt).toNat by omega) ⟨h_g133, (show 0 ≤ z134.toInt ∧ z134.toInt ≤ 2 by omega), ⟨hP, hD⟩, hS, lv_sub hl [0, 2, 3, 4, 5] rfl⟩
abbrev w_c_X4_lookForHole (cI cJ cB cZ cO : ClassId) (qn : Nat) (qn_danced : Nat) (fn_danced : Nat → Int32) (qn_places : Nat) (vn_state : Int64) (vn_holeCount : Int32) (vn_firstHole : Int32) (vn_mudCount : Int32) (vn_slipCount : Int32) (qd : Nat) (vd_gap : Int32) (vd_odds : Int32) (vd_rain : Int32) (vd_lines : Int32) (qd_steps : Nat) (qd_lengths : Nat) (qd_starts : Nat) (qd_met : Nat) (fd_met : Nat → Int32) (qd_stumbles : Nat) (vd_stumbleCount : Int32) (qd_muds : Nat) (qd_cells : Nat) (vd_cellCount : Int32) (qd_tunes : Nat) (vd_tuneCount : Int32) (qd_changes : Nat) (vd_changeCount : Int32) : va_W := [(qn, .inr (4, [.ref qn_danced, .ref qn_places, .long vn_state, .int vn_holeCount, .int vn_firstHole, .int vn_mudCount, .int vn_slipCount])), (qn_danced, .inl (cI, 200, .inl (fn_danced))), dn qd vd_gap vd_odds vd_rain vd_lines qd_steps qd_lengths qd_starts qd_met qd_stumbles vd_stumbleCount qd_muds qd_cells vd_cellCount qd_tunes vd_tuneCount qd_changes vd_changeCount, (qd_met, .inl (cI, 6, .inl (fd_met)))]
set_option maxHeartbeats 4000000 in
set_option maxRecDepth 100000 in
/-- X4 lookForHole -/
theorem c_X4_lookForHole (l : Launch) (D : va_G) (G : ct_G) (cI cJ cB cZ cO : ClassId) (qn : Nat) (qn_danced : Nat) (fn_danced : Nat → Int32) (qn_places : Nat) (vn_state : Int64) (vn_holeCount : Int32) (vn_firstHole : Int32) (vn_mudCount : Int32) (vn_slipCount : Int32) (qd : Nat) (vd_gap : Int32) (vd_odds : Int32) (vd_rain : Int32) (vd_lines : Int32) (qd_steps : Nat) (qd_lengths : Nat) (qd_starts : Nat) (qd_met : Nat) (fd_met : Nat → Int32) (qd_stumbles : Nat) (vd_stumbleCount : Int32) (qd_muds : Nat) (qd_cells : Nat) (vd_cellCount : Int32) (qd_tunes : Nat) (vd_tuneCount : Int32) (qd_changes : Nat) (vd_changeCount : Int32) (a2 : Int32) (a3 : Int32) (h_fn_danced : ar_ok [(-1)] [5] fn_danced) (h_vd_gap : 0 ≤ vd_gap.toInt ∧ vd_gap.toInt ≤ 20) (h_vd_stumbleCount : 0 ≤ vd_stumbleCount.toInt ∧ vd_stumbleCount.toInt ≤ 8) (h_vd_cellCount : 0 ≤ vd_cellCount.toInt ∧ vd_cellCount.toInt ≤ 12) (h_vd_tuneCount : 0 ≤ vd_tuneCount.toInt ∧ vd_tuneCount.toInt ≤ 5) (h_vd_changeCount : 0 ≤ vd_changeCount.toInt ∧ vd_changeCount.toInt ≤ 40) (h_a2 : 0 ≤ a2.toInt ∧ a2.toInt ≤ 1) (h_a3 : 0 ≤ a3.toInt ∧ a3.toInt ≤ 99) (sz : Nat) : Met l yX4_lookForHole wsX4_lookForHole ({ frames := 2, cells := 0, slots := 0, locals := 44 }) (va_Pc [.ref qn, .ref qd, .int a2, .int a3] (ct_P D (ct_T cI cJ cB cZ cO) G (w_c_X4_lookForHole cI cJ cB cZ cO qn qn_danced fn_danced qn_places vn_state vn_holeCount vn_firstHole vn_mudCount vn_slipCount qd vd_gap vd_odds vd_rain vd_lines qd_steps qd_lengths qd_starts qd_met fd_met qd_stumbles vd_stumbleCount qd_muds qd_cells vd_cellCount qd_tunes vd_tuneCount qd_changes vd_changeCount) sz)) (va_Qv (fun (u : Int32 × Int32) => True) (fun (u : Int32 × Int32) t => ct_Q D (va_A (w_c_X4_lookForHole cI cJ cB cZ cO qn qn_danced fn_danced qn_places vn_state vn_holeCount vn_firstHole vn_mudCount vn_slipCount qd vd_gap vd_odds vd_rain vd_lines qd_steps qd_lengths qd_starts qd_met fd_met qd_stumbles vd_stumbleCount qd_muds qd_cells vd_cellCount qd_tunes vd_tuneCount qd_changes vd_changeCount) sz) [(qn, .inr (4, [.ref qn_danced, .ref qn_places, .long vn_state, .int u.1, .int u.2, .int vn_mudCount, .int vn_slipCount])), (qn_danced, .inl (cI, 200, .inl (fn_danced))), dn qd vd_gap vd_odds vd_rain vd_lines qd_steps qd_lengths qd_starts qd_met qd_stumbles vd_stumbleCount qd_muds qd_cells vd_cellCount qd_tunes vd_tuneCount qd_changes vd_changeCount, (qd_met, .inl (cI, 6, .inl (fd_met)))] t) (va_A (w_c_X4_lookForHole cI cJ cB cZ cO qn qn_danced fn_danced qn_places vn_state vn_holeCount vn_firstHole vn_mudCount vn_slipCount qd vd_gap vd_odds vd_rain vd_lines qd_steps qd_lengths qd_starts qd_met fd_met qd_stumbles vd_stumbleCount qd_muds qd_cells vd_cellCount qd_tunes vd_tuneCount qd_changes vd_changeCount) sz)) 0 0 (va_A (w_c_X4_lookForHole cI cJ cB cZ cO qn qn_danced fn_danced qn_places vn_state vn_holeCount vn_firstHole vn_mudCount vn_slipCount qd vd_gap vd_odds vd_rain vd_lines qd_steps qd_lengths qd_starts qd_met fd_met qd_stumbles vd_stumbleCount qd_muds qd_cells vd_cellCount qd_tunes vd_tuneCount qd_changes vd_changeCount) sz) := by
  refine Met.ofW (cc := cX4_lookForHole) (maxL := 6) (ret := none) (by decide) rfl ?_
  intro p e s m args below meth c s₁ B hml hv
  obtain ⟨rfl, hsz, hP, hE, hD0, hH⟩ := hv
  have hx := B.exec
  have hb := B.bytes
  have hr := B.returns
  have hts := atoms_spec (ws := wsX4_lookForHole) B.pre
  have hown : s.vm.findClass RX4 = some m.cls := findClass_of_methodNamed B.named
  have hlocks := B.notSynchronized
  have hK := hE.1
  have hi0 : ∀ w ∈ u_ws RX0 TX0 17, w ∈ wsX4_lookForHole := fun w h => List.mem_cons_of_mem _ (List.mem_append_left _ (List.mem_append_right _ h))
  have hi4 : ∀ w ∈ u_ws RX4 TX4 7, w ∈ wsX4_lookForHole := fun w h => List.mem_cons_of_mem _ (List.mem_append_right _ h)
  subst hsz
  have hD := hD0.self (sz := s.heap.size)
  generalize hAe : va_A (w_c_X4_lookForHole cI cJ cB cZ cO qn qn_danced fn_danced qn_places vn_state vn_holeCount vn_firstHole vn_mudCount vn_slipCount qd vd_gap vd_odds vd_rain vd_lines qd_steps qd_lengths qd_starts qd_met fd_met qd_stumbles vd_stumbleCount qd_muds qd_cells vd_cellCount qd_tunes vd_tuneCount qd_changes vd_changeCount) s.heap.size = A at hD hH ⊢
  have hA : ∀ q : Nat, s.heap.size ≤ q → A q := fun q h => by rw [← hAe]; exact Or.inr h
  have hS : va_S A s.heap s.heap [] := va_S.rf
  obtain ⟨hP, hD⟩ : ct_B D A s.heap [(qn, .inr (4, [.ref qn_danced, .ref qn_places, .long vn_state, .int vn_holeCount, .int vn_firstHole, .int vn_mudCount, .int vn_slipCount])), (qn_danced, .inl (cI, 200, .inl (fn_danced))), dn qd vd_gap vd_odds vd_rain vd_lines qd_steps qd_lengths qd_starts qd_met qd_stumbles vd_stumbleCount qd_muds qd_cells vd_cellCount qd_tunes vd_tuneCount qd_changes vd_changeCount, (qd_met, .inl (cI, 6, .inl (fd_met)))] := ⟨hP, hD⟩
  have hl := lv_entry ([.ref qn, .ref qd, .int a2, .int a3]) (n := 6) (Nat.le_of_ble_eq_true rfl)
  rw [lg_entry_eq]
  generalize (lg_sl ([.ref qn, .ref qd, .int a2, .int a3]) ++ List.replicate (6 - (lg_sl ([.ref qn, .ref qd, .int a2, .int a3])).length) Slot.unset).toArray = ls at hl ⊢
  have hl : lv_has ls 6 [(0, .ref qn), (1, .ref qd), (2, .int a2), (3, .int a3)] := hl
  obtain ⟨H, hHe⟩ : ∃ H : Heap, H = s.heap := ⟨_, rfl⟩
  rw [← hHe] at hP
  have hS : va_S A s.heap H [] := by rw [hHe]; exact va_S.rf
  refine ct_start hHe ?_
  refine lv_iload_n hx hb dX4_lookForHole_0 rfl (lv_at hl 3 rfl) ?_
  refine lv_aload_n hx hb dX4_lookForHole_1 rfl (lv_at hl 1 rfl) ?_
  refine va_get (D := D) (ci := 0) (v := .int vd_gap) (C := RX0) (T := TX0) (N := 17) hx hb hts hi0 hown hK hP 2 rfl rfl 0 (by decide) (hts (.fieldLink RX4 72 "OverHill$Dance" "gap" "I") (by decide +kernel)) (fun _ h9 => h9) rfl dX4_lookForHole_2 ?_
  refine lv_isub hx hb dX4_lookForHole_5 ?_
  refine lv_topi (fun z1 ez1 => ?_)
  have fz1 : z1.toInt = a3.toInt - vd_gap.toInt := by rw [ez1]; exact tq_subt rfl rfl (by omega)
  refine lv_istore (lv' := [(4, .int z1), (0, .ref qn), (1, .ref qd), (2, .int a2), (3, .int a3)]) hx hb dX4_lookForHole_6 hl (by decide) rfl (fun ls hl => ?_)
  refine lv_iload hx hb dX4_lookForHole_8 (lv_at hl 0 rfl) ?_
  refine lv_if_ge (tgt := 14) hx hb dX4_lookForHole_10 (by decide) (fun hc => ?_) (fun hc => ?_)
  · have hq2 : 0 ≤ z1.toInt := tq_le (by decide) rfl hc
    refine lv_aload_n hx hb dX4_lookForHole_14 rfl (lv_at hl 1 rfl) ?_
    refine va_get (D := D) (ci := 4) (v := .ref qn_danced) (C := RX4) (T := TX4) (N := 7) hx hb hts hi4 hown hK hP 0 rfl rfl 0 (by decide) (hts (.fieldLink RX4 9 "OverHill$Night" "danced" "[I") (by decide +kernel)) (fun _ h9 => h9) rfl dX4_lookForHole_15 ?_
    refine lv_iconst (v := 1) hx hb dX4_lookForHole_18 (by decide) ?_
    refine lv_iload_n hx hb dX4_lookForHole_19 rfl (lv_at hl 3 rfl) ?_
    refine lv_isub hx hb dX4_lookForHole_20 ?_
    refine lv_topi (fun z3 ez3 => ?_)
    have fz3 : z3.toInt = 1 - a2.toInt := by rw [ez3]; exact tq_subt (by decide) rfl (by omega)
    refine lv_bipush (v := 100) hx hb dX4_lookForHole_21 (by decide) ?_
    refine lv_imul hx hb dX4_lookForHole_23 ?_
    refine lv_topi (fun z4 ez4 => ?_)
    have fz4 : z4.toInt = z3.toInt * 100 := by rw [ez4]; exact tq_mul rfl (by decide) (by omega)
    refine lv_iload hx hb dX4_lookForHole_24 (lv_at hl 0 rfl) ?_
    refine lv_iadd hx hb dX4_lookForHole_26 ?_
    refine lv_topi (fun z5 ez5 => ?_)
    have fz5 : z5.toInt = z4.toInt + z1.toInt := by rw [ez5]; exact tq_add rfl rfl (by omega)
    refine va_iald (D := D) hx hb hK hP 1 0 rfl rfl (tq_in rfl (by omega)) dX4_lookForHole_27 ?_
    refine lv_topi (fun z6 ez6 => ?_)
    have fz6 : (-1) ≤ z6.toInt ∧ z6.toInt ≤ 5 := by rw [ez6]; exact ar_get h_fn_danced z5 0 (by omega) (show z5.toInt % 1 = 0 by omega) rfl
    refine lv_istore (lv' := [(5, .int z6), (4, .int z1), (0, .ref qn), (1, .ref qd), (2, .int a2), (3, .int a3)]) hx hb dX4_lookForHole_28 hl (by decide) rfl (fun ls hl => ?_)
    refine lv_aload_n hx hb dX4_lookForHole_30 rfl (lv_at hl 3 rfl) ?_
    refine lv_aload_n hx hb dX4_lookForHole_31 rfl (lv_at hl 2 rfl) ?_
    refine va_get (D := D) (ci := 4) (v := .ref qn_danced) (C := RX4) (T := TX4) (N := 7) hx hb hts hi4 hown hK hP 0 rfl rfl 0 (by decide) (hts (.fieldLink RX4 9 "OverHill$Night" "danced" "[I") (by decide +kernel)) (fun _ h9 => h9) rfl dX4_lookForHole_32 ?_
    refine lv_iload_n hx hb dX4_lookForHole_35 rfl (lv_at hl 4 rfl) ?_
    refine lv_bipush (v := 100) hx hb dX4_lookForHole_36 (by decide) ?_
    refine lv_imul hx hb dX4_lookForHole_38 ?_
    refine lv_topi (fun z7 ez7 => ?_)
    have fz7 : z7.toInt = a2.toInt * 100 := by rw [ez7]; exact tq_mul rfl (by decide) (by omega)
    refine lv_iload_n hx hb dX4_lookForHole_39 rfl (lv_at hl 5 rfl) ?_
    refine lv_iadd hx hb dX4_lookForHole_40 ?_
    refine lv_topi (fun z8 ez8 => ?_)
    have fz8 : z8.toInt = z7.toInt + a3.toInt := by rw [ez8]; exact tq_add rfl rfl (by omega)
    refine va_iald (D := D) hx hb hK hP 1 0 rfl rfl (tq_in rfl (by omega)) dX4_lookForHole_41 ?_
    refine lv_topi (fun z9 ez9 => ?_)
    have fz9 : (-1) ≤ z9.toInt ∧ z9.toInt ≤ 5 := by rw [ez9]; exact ar_get h_fn_danced z8 0 (by omega) (show z8.toInt % 1 = 0 by omega) rfl
    refine lv_iload hx hb dX4_lookForHole_42 (lv_at hl 0 rfl) ?_
    refine ct_calli (D := D) (wr := [(qn, .inr (4, [.ref qn_danced, .ref qn_places, .long vn_state, .int vn_holeCount, .int vn_firstHole, .int vn_mudCount, .int vn_slipCount])), (qn_danced, .inl (cI, 200, .inl (fn_danced)))]) (va_runV (As := [.int z9, .int z6]) (rest := []) ⟨hx, hb, hml, hown, hts⟩ (c_X0_isHole l D G cI cJ cB cZ cO qd vd_gap vd_odds vd_rain vd_lines qd_steps qd_lengths qd_starts qd_met fd_met qd_stumbles vd_stumbleCount qd_muds qd_cells vd_cellCount qd_tunes vd_tuneCount qd_changes vd_changeCount z9 z6 h_vd_gap h_vd_stumbleCount h_vd_cellCount h_vd_tuneCount h_vd_changeCount fz9 H.size) (cwV 2 hts gX4_lookForHole_X0_isHole rfl rfl rfl (by decide +kernel) ⟨Nat.le_of_ble_eq_true rfl, Nat.le_of_ble_eq_true rfl⟩) (ct_preV (T := ct_T cI cJ cB cZ cO) (ci := 0) (q0 := 2) hE hH hP hD hS hA [2, 3] (by decide) rfl rfl rfl) rfl rfl hl.1 rfl (lv_room (Nat.le_of_ble_eq_true rfl)) dX4_lookForHole_44 ⟨Nat.le_of_ble_eq_true rfl, Nat.le_of_ble_eq_true rfl⟩) hP hD hS hA [2, 3] [0, 1] rfl rfl (by decide) (by decide) (fun r10 u H locs hw hP hD hS => ?_)
    obtain ⟨hP, hD⟩ : ct_B D A H [(qn, .inr (4, [.ref qn_danced, .ref qn_places, .long vn_state, .int vn_holeCount, .int vn_firstHole, .int vn_mudCount, .int vn_slipCount])), (qn_danced, .inl (cI, 200, .inl (fn_danced))), dn qd vd_gap vd_odds vd_rain vd_lines qd_steps qd_lengths qd_starts qd_met qd_stumbles vd_stumbleCount qd_muds qd_cells vd_cellCount qd_tunes vd_tuneCount qd_changes vd_changeCount, (qd_met, .inl (cI, 6, .inl (fd_met)))] := ⟨hP, hD⟩
    have hz := hw
    rcases hz with ⟨hz, hz2⟩ | ⟨hz, hz2⟩
    · subst hz
      refine lv_if_eq (tgt := 80) hx hb dX4_lookForHole_47 (by decide) (fun hc => absurd hc (by decide)) (fun _ => ?_)
      refine lv_aload_n hx hb dX4_lookForHole_50 rfl (lv_at hl 2 rfl) ?_
      refine lv_dup hx hb dX4_lookForHole_51 rfl ?_
      refine va_get (D := D) (ci := 4) (v := .int vn_holeCount) (C := RX4) (T := TX4) (N := 7) hx hb hts hi4 hown hK hP 0 rfl rfl 3 (by decide) (hts (.fieldLink RX4 22 "OverHill$Night" "holeCount" "I") (by decide +kernel)) (fun _ h9 => h9) rfl dX4_lookForHole_52 ?_
      refine lv_iconst (v := 1) hx hb dX4_lookForHole_55 (by decide) ?_
      refine lv_iadd hx hb dX4_lookForHole_56 ?_
      refine lv_topi (fun z11 ez11 => ?_)
      refine va_put (D := D) (ci := 4) (v := .int z11) (ty := .int) (C := RX4) (T := TX4) (N := 7) hx hb hts hi4 tyX4 tyX4_ok nmX4 hown hK hP hD hS 0 rfl rfl 3 (by decide) (hts (.fieldLink RX4 22 "OverHill$Night" "holeCount" "I") (by decide +kernel)) (fun _ h9 => h9) rfl (by decide +kernel) rfl rfl (Nat.le_of_ble_eq_true rfl) dX4_lookForHole_57 (fun H locs hP hD hS => ?_)
      obtain ⟨hP, hD⟩ : ct_B D A H [(qn, .inr (4, [.ref qn_danced, .ref qn_places, .long vn_state, .int z11, .int vn_firstHole, .int vn_mudCount, .int vn_slipCount])), (qn_danced, .inl (cI, 200, .inl (fn_danced))), dn qd vd_gap vd_odds vd_rain vd_lines qd_steps qd_lengths qd_starts qd_met qd_stumbles vd_stumbleCount qd_muds qd_cells vd_cellCount qd_tunes vd_tuneCount qd_changes vd_changeCount, (qd_met, .inl (cI, 6, .inl (fd_met)))] := ⟨hP, hD⟩
      refine lv_aload_n hx hb dX4_lookForHole_60 rfl (lv_at hl 2 rfl) ?_
      refine lv_aload_n hx hb dX4_lookForHole_61 rfl (lv_at hl 2 rfl) ?_
      refine va_get (D := D) (ci := 4) (v := .int vn_firstHole) (C := RX4) (T := TX4) (N := 7) hx hb hts hi4 hown hK hP 0 rfl rfl 4 (by decide) (hts (.fieldLink RX4 26 "OverHill$Night" "firstHole" "I") (by decide +kernel)) (fun _ h9 => h9) rfl dX4_lookForHole_62 ?_
      refine lv_iconst (v := (-1)) hx hb dX4_lookForHole_65 (by decide) ?_
      refine lv_icmp_ne (tgt := 73) hx hb dX4_lookForHole_66 (by decide) (fun hc => ?_) (fun hc => ?_)
      · have hq12 : vn_firstHole.toInt ≠ (-1) := tq_ne rfl (by decide) hc
        have hb13 := tq_lo vn_firstHole
        refine lv_aload_n hx hb dX4_lookForHole_73 rfl (lv_at hl 2 rfl) ?_
        refine va_get (D := D) (ci := 4) (v := .int vn_firstHole) (C := RX4) (T := TX4) (N := 7) hx hb hts hi4 hown hK hP 0 rfl rfl 4 (by decide) (hts (.fieldLink RX4 26 "OverHill$Night" "firstHole" "I") (by decide +kernel)) (fun _ h9 => h9) rfl dX4_lookForHole_74 ?_
        refine va_put (D := D) (ci := 4) (v := .int vn_firstHole) (ty := .int) (C := RX4) (T := TX4) (N := 7) hx hb hts hi4 tyX4 tyX4_ok nmX4 hown hK hP hD hS 0 rfl rfl 4 (by decide) (hts (.fieldLink RX4 26 "OverHill$Night" "firstHole" "I") (by decide +kernel)) (fun _ h9 => h9) rfl (by decide +kernel) rfl rfl (Nat.le_of_ble_eq_true rfl) dX4_lookForHole_77 (fun H locs hP hD hS => ?_)
        obtain ⟨hP, hD⟩ : ct_B D A H [(qn, .inr (4, [.ref qn_danced, .ref qn_places, .long vn_state, .int z11, .int vn_firstHole, .int vn_mudCount, .int vn_slipCount])), (qn_danced, .inl (cI, 200, .inl (fn_danced))), dn qd vd_gap vd_odds vd_rain vd_lines qd_steps qd_lengths qd_starts qd_met qd_stumbles vd_stumbleCount qd_muds qd_cells vd_cellCount qd_tunes vd_tuneCount qd_changes vd_changeCount, (qd_met, .inl (cI, 6, .inl (fd_met)))] := ⟨hP, hD⟩
        obtain ⟨hP9, hD9⟩ : ct_B D A H [(qn, .inr (4, [.ref qn_danced, .ref qn_places, .long vn_state, .int z11, .int vn_firstHole, .int vn_mudCount, .int vn_slipCount])), (qn_danced, .inl (cI, 200, .inl (fn_danced))), dn qd vd_gap vd_odds vd_rain vd_lines qd_steps qd_lengths qd_starts qd_met qd_stumbles vd_stumbleCount qd_muds qd_cells vd_cellCount qd_tunes vd_tuneCount qd_changes vd_changeCount, (qd_met, .inl (cI, 6, .inl (fd_met)))] := ⟨hP.sub [0, 1, 2, 3] rfl, hD.sub [0, 1, 2, 3] (by decide) rfl⟩
        exact W.vret hx hb hr (fun t ht hW => ⟨⟨(z11, vn_firstHole), rfl, trivial, by rw [ht]; exact hP9, hD9⟩, hS.F ht⟩) hS.2.2 dX4_lookForHole_80
      · have hq12 : vn_firstHole.toInt = (-1) := tq_eq rfl (by decide) hc
        have hb14 := tq_lo vn_firstHole
        refine lv_iload_n hx hb dX4_lookForHole_69 rfl (lv_at hl 5 rfl) ?_
        refine lv_goto (tgt := 77) hx hb dX4_lookForHole_70 (by decide) ?_
        refine va_put (D := D) (ci := 4) (v := .int a3) (ty := .int) (C := RX4) (T := TX4) (N := 7) hx hb hts hi4 tyX4 tyX4_ok nmX4 hown hK hP hD hS 0 rfl rfl 4 (by decide) (hts (.fieldLink RX4 26 "OverHill$Night" "firstHole" "I") (by decide +kernel)) (fun _ h9 => h9) rfl (by decide +kernel) rfl rfl (Nat.le_of_ble_eq_true rfl) dX4_lookForHole_77 (fun H locs hP hD hS => ?_)
        obtain ⟨hP, hD⟩ : ct_B D A H [(qn, .inr (4, [.ref qn_danced, .ref qn_places, .long vn_state, .int z11, .int a3, .int vn_mudCount, .int vn_slipCount])), (qn_danced, .inl (cI, 200, .inl (fn_danced))), dn qd vd_gap vd_odds vd_rain vd_lines qd_steps qd_lengths qd_starts qd_met qd_stumbles vd_stumbleCount qd_muds qd_cells vd_cellCount qd_tunes vd_tuneCount qd_changes vd_changeCount, (qd_met, .inl (cI, 6, .inl (fd_met)))] := ⟨hP, hD⟩
        obtain ⟨hP9, hD9⟩ : ct_B D A H [(qn, .inr (4, [.ref qn_danced, .ref qn_places, .long vn_state, .int z11, .int a3, .int vn_mudCount, .int vn_slipCount])), (qn_danced, .inl (cI, 200, .inl (fn_danced))), dn qd vd_gap vd_odds vd_rain vd_lines qd_steps qd_lengths qd_starts qd_met qd_stumbles vd_stumbleCount qd_muds qd_cells vd_cellCount qd_tunes vd_tuneCount qd_changes vd_changeCount, (qd_met, .inl (cI, 6, .inl (fd_met)))] := ⟨hP.sub [0, 1, 2, 3] rfl, hD.sub [0, 1, 2, 3] (by decide) rfl⟩
        exact W.vret hx hb hr (fun t ht hW => ⟨⟨(z11, a3), rfl, trivial, by rw [ht]; exact hP9, hD9⟩, hS.F ht⟩) hS.2.2 dX4_lookForHole_80
    · subst hz
      refine lv_if_eq (tgt := 80) hx hb dX4_lookForHole_47 (by decide) (fun _ => ?_) (fun hc => absurd hc (by decide))
      obtain ⟨hP9, hD9⟩ : ct_B D A H [(qn, .inr (4, [.ref qn_danced, .ref qn_places, .long vn_state, .int vn_holeCount, .int vn_firstHole, .int vn_mudCount, .int vn_slipCount])), (qn_danced, .inl (cI, 200, .inl (fn_danced))), dn qd vd_gap vd_odds vd_rain vd_lines qd_steps qd_lengths qd_starts qd_met qd_stumbles vd_stumbleCount qd_muds qd_cells vd_cellCount qd_tunes vd_tuneCount qd_changes vd_changeCount, (qd_met, .inl (cI, 6, .inl (fd_met)))] := ⟨hP.sub [0, 1, 2, 3] rfl, hD.sub [0, 1, 2, 3] (by decide) rfl⟩
      exact W.vret hx hb hr (fun t ht hW => ⟨⟨(vn_holeCount, vn_firstHole), rfl, trivial, by rw [ht]; exact hP9, hD9⟩, hS.F ht⟩) hS.2.2 dX4_lookForHole_80
  · have hq2 : z1.toInt < 0 := tq_nle (by decide) rfl hc
    obtain ⟨hP9, hD9⟩ : ct_B D A H [(qn, .inr (4, [.ref qn_danced, .ref qn_places, .long vn_state, .int vn_holeCount, .int vn_firstHole, .int vn_mudCount, .int vn_slipCount])), (qn_danced, .inl (cI, 200, .inl (fn_danced))), dn qd vd_gap vd_odds vd_rain vd_lines qd_steps qd_lengths qd_starts qd_met qd_stumbles vd_stumbleCount qd_muds qd_cells vd_cellCount qd_tunes vd_tuneCount qd_changes vd_changeCount, (qd_met, .inl (cI, 6, .inl (fd_met)))] := ⟨hP.sub [0, 1, 2, 3] rfl, hD.sub [0, 1, 2, 3] (by decide) rfl⟩
    exact W.vret hx hb hr (fun t ht hW => ⟨⟨(vn_holeCount, vn_firstHole), rfl, trivial, by rw [ht]; exact hP9, hD9⟩, hS.F ht⟩) hS.2.2 dX4_lookForHole_13
abbrev w_c_X4_play (cI cJ cB cZ cO : ClassId) (qn : Nat) (qn_danced : Nat) (fn_danced : Nat → Int32) (qn_places : Nat) (fn_places : Nat → Int32) (vn_state : Int64) (vn_holeCount : Int32) (vn_firstHole : Int32) (vn_mudCount : Int32) (vn_slipCount : Int32) (qd : Nat) (vd_gap : Int32) (vd_odds : Int32) (vd_rain : Int32) (vd_lines : Int32) (qd_steps : Nat) (fd_steps : Nat → Int32) (qd_lengths : Nat) (fd_lengths : Nat → Int32) (qd_starts : Nat) (fd_starts : Nat → Int32) (qd_met : Nat) (fd_met : Nat → Int32) (qd_stumbles : Nat) (vd_stumbleCount : Int32) (qd_muds : Nat) (qd_cells : Nat) (vd_cellCount : Int32) (qd_tunes : Nat) (vd_tuneCount : Int32) (qd_changes : Nat) (vd_changeCount : Int32) : va_W := [(qn, .inr (4, [.ref qn_danced, .ref qn_places, .long vn_state, .int vn_holeCount, .int vn_firstHole, .int vn_mudCount, .int vn_slipCount])), (qn_danced, .inl (cI, 200, .inl (fn_danced))), (qn_places, .inl (cI, 2, .inl (fn_places))), dn qd vd_gap vd_odds vd_rain vd_lines qd_steps qd_lengths qd_starts qd_met qd_stumbles vd_stumbleCount qd_muds qd_cells vd_cellCount qd_tunes vd_tuneCount qd_changes vd_changeCount, (qd_steps, .inl (cI, 24, .inl (fd_steps))), (qd_lengths, .inl (cI, 2, .inl (fd_lengths))), (qd_starts, .inl (cI, 2, .inl (fd_starts))), (qd_met, .inl (cI, 6, .inl (fd_met)))]
set_option maxHeartbeats 4000000 in
set_option maxRecDepth 100000 in
/-- X4 play -/
theorem c_X4_play (l : Launch) (D : va_G) (G : ct_G) (cI cJ cB cZ cO : ClassId) (qn : Nat) (qn_danced : Nat) (fn_danced : Nat → Int32) (qn_places : Nat) (fn_places : Nat → Int32) (vn_state : Int64) (vn_holeCount : Int32) (vn_firstHole : Int32) (vn_mudCount : Int32) (vn_slipCount : Int32) (qd : Nat) (vd_gap : Int32) (vd_odds : Int32) (vd_rain : Int32) (vd_lines : Int32) (qd_steps : Nat) (fd_steps : Nat → Int32) (qd_lengths : Nat) (fd_lengths : Nat → Int32) (qd_starts : Nat) (fd_starts : Nat → Int32) (qd_met : Nat) (fd_met : Nat → Int32) (qd_stumbles : Nat) (vd_stumbleCount : Int32) (qd_muds : Nat) (qd_cells : Nat) (vd_cellCount : Int32) (qd_tunes : Nat) (vd_tuneCount : Int32) (qd_changes : Nat) (vd_changeCount : Int32) (a2 : Int32) (a3 : Int32) (h_fn_danced : ar_ok [(-1)] [5] fn_danced) (h_fn_places : ar_ok [0] [11] fn_places) (h_vd_gap : 0 ≤ vd_gap.toInt ∧ vd_gap.toInt ≤ 20) (h_fd_steps : ar_ok [0] [5] fd_steps) (h_fd_lengths : ar_ok [0] [12] fd_lengths) (h_fd_starts : ar_ok [0] [11] fd_starts) (h_vd_stumbleCount : 0 ≤ vd_stumbleCount.toInt ∧ vd_stumbleCount.toInt ≤ 8) (h_vd_cellCount : 0 ≤ vd_cellCount.toInt ∧ vd_cellCount.toInt ≤ 12) (h_vd_tuneCount : 0 ≤ vd_tuneCount.toInt ∧ vd_tuneCount.toInt ≤ 5) (h_vd_changeCount : 0 ≤ vd_changeCount.toInt ∧ vd_changeCount.toInt ≤ 40) (sz : Nat) : Met l yX4_play wsX4_play ({ frames := 4, cells := 0, slots := 0, locals := 91 }) (va_Pc [.ref qn, .ref qd, .int a2, .int a3] (ct_P D (ct_T cI cJ cB cZ cO) G (w_c_X4_play cI cJ cB cZ cO qn qn_danced fn_danced qn_places fn_places vn_state vn_holeCount vn_firstHole vn_mudCount vn_slipCount qd vd_gap vd_odds vd_rain vd_lines qd_steps fd_steps qd_lengths fd_lengths qd_starts fd_starts qd_met fd_met qd_stumbles vd_stumbleCount qd_muds qd_cells vd_cellCount qd_tunes vd_tuneCount qd_changes vd_changeCount) sz)) (va_Qv (fun (u : Int64 × Int32 × Int32 × Int32 × Int32 × (Nat → Int32) × (Nat → Int32)) => (ar_ok [(-1)] [5] u.2.2.2.2.2.1) ∧ (ar_ok [0] [11] u.2.2.2.2.2.2)) (fun (u : Int64 × Int32 × Int32 × Int32 × Int32 × (Nat → Int32) × (Nat → Int32)) t => ct_Q D (va_A (w_c_X4_play cI cJ cB cZ cO qn qn_danced fn_danced qn_places fn_places vn_state vn_holeCount vn_firstHole vn_mudCount vn_slipCount qd vd_gap vd_odds vd_rain vd_lines qd_steps fd_steps qd_lengths fd_lengths qd_starts fd_starts qd_met fd_met qd_stumbles vd_stumbleCount qd_muds qd_cells vd_cellCount qd_tunes vd_tuneCount qd_changes vd_changeCount) sz) [(qn, .inr (4, [.ref qn_danced, .ref qn_places, .long u.1, .int u.2.1, .int u.2.2.1, .int u.2.2.2.1, .int u.2.2.2.2.1])), (qn_danced, .inl (cI, 200, .inl (u.2.2.2.2.2.1))), (qn_places, .inl (cI, 2, .inl (u.2.2.2.2.2.2))), dn qd vd_gap vd_odds vd_rain vd_lines qd_steps qd_lengths qd_starts qd_met qd_stumbles vd_stumbleCount qd_muds qd_cells vd_cellCount qd_tunes vd_tuneCount qd_changes vd_changeCount, (qd_steps, .inl (cI, 24, .inl (fd_steps))), (qd_lengths, .inl (cI, 2, .inl (fd_lengths))), (qd_starts, .inl (cI, 2, .inl (fd_starts))), (qd_met, .inl (cI, 6, .inl (fd_met)))] t) (va_A (w_c_X4_play cI cJ cB cZ cO qn qn_danced fn_danced qn_places fn_places vn_state vn_holeCount vn_firstHole vn_mudCount vn_slipCount qd vd_gap vd_odds vd_rain vd_lines qd_steps fd_steps qd_lengths fd_lengths qd_starts fd_starts qd_met fd_met qd_stumbles vd_stumbleCount qd_muds qd_cells vd_cellCount qd_tunes vd_tuneCount qd_changes vd_changeCount) sz)) 0 0 (va_A (w_c_X4_play cI cJ cB cZ cO qn qn_danced fn_danced qn_places fn_places vn_state vn_holeCount vn_firstHole vn_mudCount vn_slipCount qd vd_gap vd_odds vd_rain vd_lines qd_steps fd_steps qd_lengths fd_lengths qd_starts fd_starts qd_met fd_met qd_stumbles vd_stumbleCount qd_muds qd_cells vd_cellCount qd_tunes vd_tuneCount qd_changes vd_changeCount) sz) := by
  refine Met.ofW (cc := cX4_play) (maxL := 5) (ret := none) (by decide) rfl ?_
  intro p e s m args below meth c s₁ B hml hv
  obtain ⟨rfl, hsz, hP, hE, hD0, hH⟩ := hv
  have hx := B.exec
  have hb := B.bytes
  have hr := B.returns
  have hts := atoms_spec (ws := wsX4_play) B.pre
  have hown : s.vm.findClass RX4 = some m.cls := findClass_of_methodNamed B.named
  have hlocks := B.notSynchronized
  have hK := hE.1
  have hi0 : ∀ w ∈ u_ws RX0 TX0 17, w ∈ wsX4_play := fun w h => List.mem_cons_of_mem _ (List.mem_append_right _ h)
  have hi4 : ∀ w ∈ u_ws RX4 TX4 7, w ∈ wsX4_play := fun w h => List.mem_cons_of_mem _ (List.mem_append_left _ (List.mem_append_right _ h))
  subst hsz
  have hD := hD0.self (sz := s.heap.size)
  generalize hAe : va_A (w_c_X4_play cI cJ cB cZ cO qn qn_danced fn_danced qn_places fn_places vn_state vn_holeCount vn_firstHole vn_mudCount vn_slipCount qd vd_gap vd_odds vd_rain vd_lines qd_steps fd_steps qd_lengths fd_lengths qd_starts fd_starts qd_met fd_met qd_stumbles vd_stumbleCount qd_muds qd_cells vd_cellCount qd_tunes vd_tuneCount qd_changes vd_changeCount) s.heap.size = A at hD hH ⊢
  have hA : ∀ q : Nat, s.heap.size ≤ q → A q := fun q h => by rw [← hAe]; exact Or.inr h
  have hS : va_S A s.heap s.heap [] := va_S.rf
  obtain ⟨hP, hD⟩ : ct_B D A s.heap [(qn, .inr (4, [.ref qn_danced, .ref qn_places, .long vn_state, .int vn_holeCount, .int vn_firstHole, .int vn_mudCount, .int vn_slipCount])), (qn_danced, .inl (cI, 200, .inl (fn_danced))), (qn_places, .inl (cI, 2, .inl (fn_places))), dn qd vd_gap vd_odds vd_rain vd_lines qd_steps qd_lengths qd_starts qd_met qd_stumbles vd_stumbleCount qd_muds qd_cells vd_cellCount qd_tunes vd_tuneCount qd_changes vd_changeCount, (qd_steps, .inl (cI, 24, .inl (fd_steps))), (qd_lengths, .inl (cI, 2, .inl (fd_lengths))), (qd_starts, .inl (cI, 2, .inl (fd_starts))), (qd_met, .inl (cI, 6, .inl (fd_met)))] := ⟨hP, hD⟩
  have hl := lv_entry ([.ref qn, .ref qd, .int a2, .int a3]) (n := 5) (Nat.le_of_ble_eq_true rfl)
  rw [lg_entry_eq]
  generalize (lg_sl ([.ref qn, .ref qd, .int a2, .int a3]) ++ List.replicate (5 - (lg_sl ([.ref qn, .ref qd, .int a2, .int a3])).length) Slot.unset).toArray = ls at hl ⊢
  have hl : lv_has ls 5 [(0, .ref qn), (1, .ref qd), (2, .int a2), (3, .int a3)] := hl
  obtain ⟨H, hHe⟩ : ∃ H : Heap, H = s.heap := ⟨_, rfl⟩
  rw [← hHe] at hP
  have hS : va_S A s.heap H [] := by rw [hHe]; exact va_S.rf
  refine ct_start hHe ?_
  refine lv_aload_n hx hb dX4_play_0 rfl (lv_at hl 0 rfl) ?_
  refine lv_iload_n hx hb dX4_play_1 rfl (lv_at hl 2 rfl) ?_
  refine lv_i2l (v := _) hx hb dX4_play_2 rfl ?_
  refine lv_topl (fun z1 ez1 => ?_)
  have fz1 : z1.toInt = a2.toInt := by rw [ez1]; exact tl_i rfl
  have hb2 := tq_lo a2
  refine va_put (D := D) (ci := 4) (v := .long z1) (ty := .long) (C := RX4) (T := TX4) (N := 7) hx hb hts hi4 tyX4 tyX4_ok nmX4 hown hK hP hD hS 0 rfl rfl 2 (by decide) (hts (.fieldLink RX4 18 "OverHill$Night" "state" "J") (by decide +kernel)) (fun _ h9 => h9) rfl (by decide +kernel) rfl rfl (Nat.le_of_ble_eq_true rfl) dX4_play_3 (fun H locs hP hD hS => ?_)
  obtain ⟨hP, hD⟩ : ct_B D A H [(qn, .inr (4, [.ref qn_danced, .ref qn_places, .long z1, .int vn_holeCount, .int vn_firstHole, .int vn_mudCount, .int vn_slipCount])), (qn_danced, .inl (cI, 200, .inl (fn_danced))), (qn_places, .inl (cI, 2, .inl (fn_places))), dn qd vd_gap vd_odds vd_rain vd_lines qd_steps qd_lengths qd_starts qd_met qd_stumbles vd_stumbleCount qd_muds qd_cells vd_cellCount qd_tunes vd_tuneCount qd_changes vd_changeCount, (qd_steps, .inl (cI, 24, .inl (fd_steps))), (qd_lengths, .inl (cI, 2, .inl (fd_lengths))), (qd_starts, .inl (cI, 2, .inl (fd_starts))), (qd_met, .inl (cI, 6, .inl (fd_met)))] := ⟨hP, hD⟩
  refine lv_aload_n hx hb dX4_play_6 rfl (lv_at hl 0 rfl) ?_
  refine lv_iconst (v := 0) hx hb dX4_play_7 (by decide) ?_
  refine va_put (D := D) (ci := 4) (v := .int 0) (ty := .int) (C := RX4) (T := TX4) (N := 7) hx hb hts hi4 tyX4 tyX4_ok nmX4 hown hK hP hD hS 0 rfl rfl 3 (by decide) (hts (.fieldLink RX4 22 "OverHill$Night" "holeCount" "I") (by decide +kernel)) (fun _ h9 => h9) rfl (by decide +kernel) rfl rfl (Nat.le_of_ble_eq_true rfl) dX4_play_8 (fun H locs hP hD hS => ?_)
  obtain ⟨hP, hD⟩ : ct_B D A H [(qn, .inr (4, [.ref qn_danced, .ref qn_places, .long z1, .int 0, .int vn_firstHole, .int vn_mudCount, .int vn_slipCount])), (qn_danced, .inl (cI, 200, .inl (fn_danced))), (qn_places, .inl (cI, 2, .inl (fn_places))), dn qd vd_gap vd_odds vd_rain vd_lines qd_steps qd_lengths qd_starts qd_met qd_stumbles vd_stumbleCount qd_muds qd_cells vd_cellCount qd_tunes vd_tuneCount qd_changes vd_changeCount, (qd_steps, .inl (cI, 24, .inl (fd_steps))), (qd_lengths, .inl (cI, 2, .inl (fd_lengths))), (qd_starts, .inl (cI, 2, .inl (fd_starts))), (qd_met, .inl (cI, 6, .inl (fd_met)))] := ⟨hP, hD⟩
  refine lv_aload_n hx hb dX4_play_11 rfl (lv_at hl 0 rfl) ?_
  refine lv_iconst (v := (-1)) hx hb dX4_play_12 (by decide) ?_
  refine va_put (D := D) (ci := 4) (v := .int (-1)) (ty := .int) (C := RX4) (T := TX4) (N := 7) hx hb hts hi4 tyX4 tyX4_ok nmX4 hown hK hP hD hS 0 rfl rfl 4 (by decide) (hts (.fieldLink RX4 26 "OverHill$Night" "firstHole" "I") (by decide +kernel)) (fun _ h9 => h9) rfl (by decide +kernel) rfl rfl (Nat.le_of_ble_eq_true rfl) dX4_play_13 (fun H locs hP hD hS => ?_)
  obtain ⟨hP, hD⟩ : ct_B D A H [(qn, .inr (4, [.ref qn_danced, .ref qn_places, .long z1, .int 0, .int (-1), .int vn_mudCount, .int vn_slipCount])), (qn_danced, .inl (cI, 200, .inl (fn_danced))), (qn_places, .inl (cI, 2, .inl (fn_places))), dn qd vd_gap vd_odds vd_rain vd_lines qd_steps qd_lengths qd_starts qd_met qd_stumbles vd_stumbleCount qd_muds qd_cells vd_cellCount qd_tunes vd_tuneCount qd_changes vd_changeCount, (qd_steps, .inl (cI, 24, .inl (fd_steps))), (qd_lengths, .inl (cI, 2, .inl (fd_lengths))), (qd_starts, .inl (cI, 2, .inl (fd_starts))), (qd_met, .inl (cI, 6, .inl (fd_met)))] := ⟨hP, hD⟩
  refine lv_aload_n hx hb dX4_play_16 rfl (lv_at hl 0 rfl) ?_
  refine lv_iconst (v := 0) hx hb dX4_play_17 (by decide) ?_
  refine va_put (D := D) (ci := 4) (v := .int 0) (ty := .int) (C := RX4) (T := TX4) (N := 7) hx hb hts hi4 tyX4 tyX4_ok nmX4 hown hK hP hD hS 0 rfl rfl 5 (by decide) (hts (.fieldLink RX4 29 "OverHill$Night" "mudCount" "I") (by decide +kernel)) (fun _ h9 => h9) rfl (by decide +kernel) rfl rfl (Nat.le_of_ble_eq_true rfl) dX4_play_18 (fun H locs hP hD hS => ?_)
  obtain ⟨hP, hD⟩ : ct_B D A H [(qn, .inr (4, [.ref qn_danced, .ref qn_places, .long z1, .int 0, .int (-1), .int 0, .int vn_slipCount])), (qn_danced, .inl (cI, 200, .inl (fn_danced))), (qn_places, .inl (cI, 2, .inl (fn_places))), dn qd vd_gap vd_odds vd_rain vd_lines qd_steps qd_lengths qd_starts qd_met qd_stumbles vd_stumbleCount qd_muds qd_cells vd_cellCount qd_tunes vd_tuneCount qd_changes vd_changeCount, (qd_steps, .inl (cI, 24, .inl (fd_steps))), (qd_lengths, .inl (cI, 2, .inl (fd_lengths))), (qd_starts, .inl (cI, 2, .inl (fd_starts))), (qd_met, .inl (cI, 6, .inl (fd_met)))] := ⟨hP, hD⟩
  refine lv_aload_n hx hb dX4_play_21 rfl (lv_at hl 0 rfl) ?_
  refine lv_iconst (v := 0) hx hb dX4_play_22 (by decide) ?_
  refine va_put (D := D) (ci := 4) (v := .int 0) (ty := .int) (C := RX4) (T := TX4) (N := 7) hx hb hts hi4 tyX4 tyX4_ok nmX4 hown hK hP hD hS 0 rfl rfl 6 (by decide) (hts (.fieldLink RX4 32 "OverHill$Night" "slipCount" "I") (by decide +kernel)) (fun _ h9 => h9) rfl (by decide +kernel) rfl rfl (Nat.le_of_ble_eq_true rfl) dX4_play_23 (fun H locs hP hD hS => ?_)
  obtain ⟨hP, hD⟩ : ct_B D A H [(qn, .inr (4, [.ref qn_danced, .ref qn_places, .long z1, .int 0, .int (-1), .int 0, .int 0])), (qn_danced, .inl (cI, 200, .inl (fn_danced))), (qn_places, .inl (cI, 2, .inl (fn_places))), dn qd vd_gap vd_odds vd_rain vd_lines qd_steps qd_lengths qd_starts qd_met qd_stumbles vd_stumbleCount qd_muds qd_cells vd_cellCount qd_tunes vd_tuneCount qd_changes vd_changeCount, (qd_steps, .inl (cI, 24, .inl (fd_steps))), (qd_lengths, .inl (cI, 2, .inl (fd_lengths))), (qd_starts, .inl (cI, 2, .inl (fd_starts))), (qd_met, .inl (cI, 6, .inl (fd_met)))] := ⟨hP, hD⟩
  refine lv_aload_n hx hb dX4_play_26 rfl (lv_at hl 0 rfl) ?_
  refine va_get (D := D) (ci := 4) (v := .ref qn_places) (C := RX4) (T := TX4) (N := 7) hx hb hts hi4 hown hK hP 0 rfl rfl 1 (by decide) (hts (.fieldLink RX4 15 "OverHill$Night" "places" "[I") (by decide +kernel)) (fun _ h9 => h9) rfl dX4_play_27 ?_
  refine lv_iconst (v := 0) hx hb dX4_play_30 (by decide) ?_
  refine lv_aload_n hx hb dX4_play_31 rfl (lv_at hl 1 rfl) ?_
  refine va_get (D := D) (ci := 0) (v := .ref qd_starts) (C := RX0) (T := TX0) (N := 17) hx hb hts hi0 hown hK hP 3 rfl rfl 6 (by decide) (hts (.fieldLink RX4 35 "OverHill$Dance" "starts" "[I") (by decide +kernel)) (fun _ h9 => h9) rfl dX4_play_32 ?_
  refine lv_iconst (v := 0) hx hb dX4_play_35 (by decide) ?_
  refine va_iald (D := D) hx hb hK hP 6 0 rfl rfl (tq_in (a := 0) (by decide) (by omega)) dX4_play_36 ?_
  refine lv_topi (fun z3 ez3 => ?_)
  have fz3 : 0 ≤ z3.toInt ∧ z3.toInt ≤ 11 := by rw [ez3]; exact ar_get h_fd_starts (0 : Int32) 0 (by decide) (by decide) rfl
  refine va_iast (D := D) hx hb hK hP hD hS 2 0 rfl rfl (tq_in (a := 0) (by decide) (by omega)) dX4_play_37 (fun H locs hP hD hS => ?_)
  obtain ⟨g4, h_g4, hP, hD⟩ : ∃ g4 : Nat → Int32, ar_ok [0] [11] g4 ∧ ct_B D A H [(qn, .inr (4, [.ref qn_danced, .ref qn_places, .long z1, .int 0, .int (-1), .int 0, .int 0])), (qn_danced, .inl (cI, 200, .inl (fn_danced))), (qn_places, .inl (cI, 2, .inl (g4))), dn qd vd_gap vd_odds vd_rain vd_lines qd_steps qd_lengths qd_starts qd_met qd_stumbles vd_stumbleCount qd_muds qd_cells vd_cellCount qd_tunes vd_tuneCount qd_changes vd_changeCount, (qd_steps, .inl (cI, 24, .inl (fd_steps))), (qd_lengths, .inl (cI, 2, .inl (fd_lengths))), (qd_starts, .inl (cI, 2, .inl (fd_starts))), (qd_met, .inl (cI, 6, .inl (fd_met)))] := ⟨_, ar_set h_fn_places (0 : Int32) z3 0 (by decide) (by decide) rfl (show 0 ≤ z3.toInt ∧ z3.toInt ≤ 11 by omega), hP, hD⟩
  refine lv_aload_n hx hb dX4_play_38 rfl (lv_at hl 0 rfl) ?_
  refine va_get (D := D) (ci := 4) (v := .ref qn_places) (C := RX4) (T := TX4) (N := 7) hx hb hts hi4 hown hK hP 0 rfl rfl 1 (by decide) (hts (.fieldLink RX4 15 "OverHill$Night" "places" "[I") (by decide +kernel)) (fun _ h9 => h9) rfl dX4_play_39 ?_
  refine lv_iconst (v := 1) hx hb dX4_play_42 (by decide) ?_
  refine lv_aload_n hx hb dX4_play_43 rfl (lv_at hl 1 rfl) ?_
  refine va_get (D := D) (ci := 0) (v := .ref qd_starts) (C := RX0) (T := TX0) (N := 17) hx hb hts hi0 hown hK hP 3 rfl rfl 6 (by decide) (hts (.fieldLink RX4 35 "OverHill$Dance" "starts" "[I") (by decide +kernel)) (fun _ h9 => h9) rfl dX4_play_44 ?_
  refine lv_iconst (v := 1) hx hb dX4_play_47 (by decide) ?_
  refine va_iald (D := D) hx hb hK hP 6 0 rfl rfl (tq_in (a := 1) (by decide) (by omega)) dX4_play_48 ?_
  refine lv_topi (fun z5 ez5 => ?_)
  have fz5 : 0 ≤ z5.toInt ∧ z5.toInt ≤ 11 := by rw [ez5]; exact ar_get h_fd_starts (1 : Int32) 0 (by decide) (by decide) rfl
  refine va_iast (D := D) hx hb hK hP hD hS 2 0 rfl rfl (tq_in (a := 1) (by decide) (by omega)) dX4_play_49 (fun H locs hP hD hS => ?_)
  obtain ⟨g6, h_g6, hP, hD⟩ : ∃ g6 : Nat → Int32, ar_ok [0] [11] g6 ∧ ct_B D A H [(qn, .inr (4, [.ref qn_danced, .ref qn_places, .long z1, .int 0, .int (-1), .int 0, .int 0])), (qn_danced, .inl (cI, 200, .inl (fn_danced))), (qn_places, .inl (cI, 2, .inl (g6))), dn qd vd_gap vd_odds vd_rain vd_lines qd_steps qd_lengths qd_starts qd_met qd_stumbles vd_stumbleCount qd_muds qd_cells vd_cellCount qd_tunes vd_tuneCount qd_changes vd_changeCount, (qd_steps, .inl (cI, 24, .inl (fd_steps))), (qd_lengths, .inl (cI, 2, .inl (fd_lengths))), (qd_starts, .inl (cI, 2, .inl (fd_starts))), (qd_met, .inl (cI, 6, .inl (fd_met)))] := ⟨_, ar_set h_g4 (1 : Int32) z5 0 (by decide) (by decide) rfl (show 0 ≤ z5.toInt ∧ z5.toInt ≤ 11 by omega), hP, hD⟩
  refine lv_iconst (v := 0) hx hb dX4_play_50 (by decide) ?_
  refine lv_istore (lv' := [(4, .int 0), (0, .ref qn), (1, .ref qd), (2, .int a2), (3, .int a3)]) hx hb dX4_play_51 hl (by decide) rfl (fun ls hl => ?_)
  refine ct_loop (X := (Nat → Int32) × (Nat → Int32) × Int64 × Int32 × Int32 × Int32 × Int32 × Int32) (fun x => (100 - x.2.2.2.2.2.2.2.toInt).toNat) (fun x H locs ls => (ar_ok [(-1)] [5] x.1) ∧ (ar_ok [0] [11] x.2.1) ∧ ((0 ≤ x.2.2.2.2.2.2.2.toInt ∧ x.2.2.2.2.2.2.2.toInt ≤ 100)) ∧ ct_B D A H [(qn, .inr (4, [.ref qn_danced, .ref qn_places, .long x.2.2.1, .int x.2.2.2.1, .int x.2.2.2.2.1, .int x.2.2.2.2.2.1, .int x.2.2.2.2.2.2.1])), (qn_danced, .inl (cI, 200, .inl (x.1))), (qn_places, .inl (cI, 2, .inl (x.2.1))), dn qd vd_gap vd_odds vd_rain vd_lines qd_steps qd_lengths qd_starts qd_met qd_stumbles vd_stumbleCount qd_muds qd_cells vd_cellCount qd_tunes vd_tuneCount qd_changes vd_changeCount, (qd_steps, .inl (cI, 24, .inl (fd_steps))), (qd_lengths, .inl (cI, 2, .inl (fd_lengths))), (qd_starts, .inl (cI, 2, .inl (fd_starts))), (qd_met, .inl (cI, 6, .inl (fd_met)))] ∧ va_S A s.heap H locs ∧ lv_has ls 5 [(4, .int x.2.2.2.2.2.2.2), (0, .ref qn), (1, .ref qd), (2, .int a2), (3, .int a3)]) 53 (fn_danced, g6, z1, (0 : Int32), (-1 : Int32), (0 : Int32), (0 : Int32), (0 : Int32)) ⟨h_fn_danced, h_g6, (show 0 ≤ (0 : Int32).toInt ∧ (0 : Int32).toInt ≤ 100 by decide), ⟨hP, hD⟩, hS, lv_sub hl [0, 1, 2, 3, 4] rfl⟩ (fun x ih379 H locs ls hI => ?_)
  obtain ⟨g371, g372, x373, x374, x375, x376, x377, x378⟩ := x
  obtain ⟨h_g371, h_g372, h_x378, ⟨hP, hD⟩, hS, hl⟩ := hI
  have h_g371 : ar_ok [(-1)] [5] g371 := h_g371
  have h_g372 : ar_ok [0] [11] g372 := h_g372
  have h_x378 : (0 ≤ x378.toInt ∧ x378.toInt ≤ 100) := h_x378
  obtain ⟨hP, hD⟩ : ct_B D A H [(qn, .inr (4, [.ref qn_danced, .ref qn_places, .long x373, .int x374, .int x375, .int x376, .int x377])), (qn_danced, .inl (cI, 200, .inl (g371))), (qn_places, .inl (cI, 2, .inl (g372))), dn qd vd_gap vd_odds vd_rain vd_lines qd_steps qd_lengths qd_starts qd_met qd_stumbles vd_stumbleCount qd_muds qd_cells vd_cellCount qd_tunes vd_tuneCount qd_changes vd_changeCount, (qd_steps, .inl (cI, 24, .inl (fd_steps))), (qd_lengths, .inl (cI, 2, .inl (fd_lengths))), (qd_starts, .inl (cI, 2, .inl (fd_starts))), (qd_met, .inl (cI, 6, .inl (fd_met)))] := ⟨hP, hD⟩
  have hl : lv_has ls 5 [(4, .int x378), (0, .ref qn), (1, .ref qd), (2, .int a2), (3, .int a3)] := hl
  refine lv_iload hx hb dX4_play_53 (lv_at hl 0 rfl) ?_
  refine lv_iload_n hx hb dX4_play_55 rfl (lv_at hl 4 rfl) ?_
  refine lv_icmp_ge (tgt := 95) hx hb dX4_play_56 (by decide) (fun hc => ?_) (fun hc => ?_)
  · have hq380 : a3.toInt ≤ x378.toInt := tq_le rfl rfl hc
    have hb381 := tq_lo a3
    obtain ⟨hP9, hD9⟩ : ct_B D A H [(qn, .inr (4, [.ref qn_danced, .ref qn_places, .long x373, .int x374, .int x375, .int x376, .int x377])), (qn_danced, .inl (cI, 200, .inl (g371))), (qn_places, .inl (cI, 2, .inl (g372))), dn qd vd_gap vd_odds vd_rain vd_lines qd_steps qd_lengths qd_starts qd_met qd_stumbles vd_stumbleCount qd_muds qd_cells vd_cellCount qd_tunes vd_tuneCount qd_changes vd_changeCount, (qd_steps, .inl (cI, 24, .inl (fd_steps))), (qd_lengths, .inl (cI, 2, .inl (fd_lengths))), (qd_starts, .inl (cI, 2, .inl (fd_starts))), (qd_met, .inl (cI, 6, .inl (fd_met)))] := ⟨hP.sub [0, 1, 2, 3, 4, 5, 6, 7] rfl, hD.sub [0, 1, 2, 3, 4, 5, 6, 7] (by decide) rfl⟩
    exact W.vret hx hb hr (fun t ht hW => ⟨⟨(x373, x374, x375, x376, x377, g371, g372), rfl, ⟨h_g371, h_g372⟩, by rw [ht]; exact hP9, hD9⟩, hS.F ht⟩) hS.2.2 dX4_play_95
  · have hq380 : x378.toInt < a3.toInt := tq_nle rfl rfl hc
    have hb382 := tq_lo a3
    refine lv_iload hx hb dX4_play_59 (lv_at hl 0 rfl) ?_
    refine lv_bipush (v := 100) hx hb dX4_play_61 (by decide) ?_
    refine lv_icmp_ge (tgt := 95) hx hb dX4_play_63 (by decide) (fun hc => ?_) (fun hc => ?_)
    · have hq383 : 100 ≤ x378.toInt := tq_le (by decide) rfl hc
      obtain ⟨hP9, hD9⟩ : ct_B D A H [(qn, .inr (4, [.ref qn_danced, .ref qn_places, .long x373, .int x374, .int x375, .int x376, .int x377])), (qn_danced, .inl (cI, 200, .inl (g371))), (qn_places, .inl (cI, 2, .inl (g372))), dn qd vd_gap vd_odds vd_rain vd_lines qd_steps qd_lengths qd_starts qd_met qd_stumbles vd_stumbleCount qd_muds qd_cells vd_cellCount qd_tunes vd_tuneCount qd_changes vd_changeCount, (qd_steps, .inl (cI, 24, .inl (fd_steps))), (qd_lengths, .inl (cI, 2, .inl (fd_lengths))), (qd_starts, .inl (cI, 2, .inl (fd_starts))), (qd_met, .inl (cI, 6, .inl (fd_met)))] := ⟨hP.sub [0, 1, 2, 3, 4, 5, 6, 7] rfl, hD.sub [0, 1, 2, 3, 4, 5, 6, 7] (by decide) rfl⟩
      exact W.vret hx hb hr (fun t ht hW => ⟨⟨(x373, x374, x375, x376, x377, g371, g372), rfl, ⟨h_g371, h_g372⟩, by rw [ht]; exact hP9, hD9⟩, hS.F ht⟩) hS.2.2 dX4_play_95
    · have hq383 : x378.toInt < 100 := tq_nle (by decide) rfl hc
      refine lv_aload_n hx hb dX4_play_66 rfl (lv_at hl 1 rfl) ?_
      refine lv_aload_n hx hb dX4_play_67 rfl (lv_at hl 2 rfl) ?_
      refine lv_iload hx hb dX4_play_68 (lv_at hl 0 rfl) ?_
      refine ct_callv (D := D) (wr := [(qd_starts, .inl (cI, 2, .inl (fd_starts))), (qd_met, .inl (cI, 6, .inl (fd_met)))]) (va_runV (As := [.ref qd, .int x378]) (rest := []) ⟨hx, hb, hml, hown, hts⟩ (c_X4_danceBeat l D G cI cJ cB cZ cO qn qn_danced g371 qn_places g372 x373 x374 x375 x376 x377 qd vd_gap vd_odds vd_rain vd_lines qd_steps fd_steps qd_lengths fd_lengths qd_starts qd_met qd_stumbles vd_stumbleCount qd_muds qd_cells vd_cellCount qd_tunes vd_tuneCount qd_changes vd_changeCount x378 h_g371 h_g372 h_vd_gap h_fd_steps h_fd_lengths h_vd_stumbleCount h_vd_cellCount h_vd_tuneCount h_vd_changeCount (by omega) H.size) (cwV 2 hts gX4_play_X4_danceBeat rfl rfl rfl (by decide +kernel) ⟨Nat.le_of_ble_eq_true rfl, Nat.le_of_ble_eq_true rfl⟩) (ct_preV (T := ct_T cI cJ cB cZ cO) (ci := 4) (q0 := 0) hE hH hP hD hS hA [0, 1, 2, 3, 4, 5] (by decide) rfl rfl rfl) rfl rfl hl.1 rfl (lv_room (Nat.le_of_ble_eq_true rfl)) dX4_play_70 ⟨Nat.le_of_ble_eq_true rfl, Nat.le_of_ble_eq_true rfl⟩) hP hD hS hA [0, 1, 2, 3, 4, 5] [6, 7] rfl rfl (by decide) (by decide) (fun u H locs hw hP hD hS => ?_)
      obtain ⟨y384, y385, y386, g387, g388⟩ := u
      obtain ⟨hP, hD⟩ : ct_B D A H [(qd_starts, .inl (cI, 2, .inl (fd_starts))), (qd_met, .inl (cI, 6, .inl (fd_met))), (qn, .inr (4, [.ref qn_danced, .ref qn_places, .long y384, .int x374, .int x375, .int y385, .int y386])), (qn_danced, .inl (cI, 200, .inl (g387))), (qn_places, .inl (cI, 2, .inl (g388))), dn qd vd_gap vd_odds vd_rain vd_lines qd_steps qd_lengths qd_starts qd_met qd_stumbles vd_stumbleCount qd_muds qd_cells vd_cellCount qd_tunes vd_tuneCount qd_changes vd_changeCount, (qd_steps, .inl (cI, 24, .inl (fd_steps))), (qd_lengths, .inl (cI, 2, .inl (fd_lengths)))] := ⟨hP, hD⟩
      obtain ⟨hp0, hp1⟩ := hw
      have h_g387 : ar_ok [(-1)] [5] g387 := hp0
      have h_g388 : ar_ok [0] [11] g388 := hp1
      refine lv_aload_n hx hb dX4_play_73 rfl (lv_at hl 1 rfl) ?_
      refine lv_aload_n hx hb dX4_play_74 rfl (lv_at hl 2 rfl) ?_
      refine lv_iconst (v := 0) hx hb dX4_play_75 (by decide) ?_
      refine lv_iload hx hb dX4_play_76 (lv_at hl 0 rfl) ?_
      refine ct_callv (D := D) (wr := [(qd_starts, .inl (cI, 2, .inl (fd_starts))), (qn_places, .inl (cI, 2, .inl (g388))), (qd_steps, .inl (cI, 24, .inl (fd_steps))), (qd_lengths, .inl (cI, 2, .inl (fd_lengths)))]) (va_runV (As := [.ref qd, .int 0, .int x378]) (rest := []) ⟨hx, hb, hml, hown, hts⟩ (c_X4_lookForHole l D G cI cJ cB cZ cO qn qn_danced g387 qn_places y384 x374 x375 y385 y386 qd vd_gap vd_odds vd_rain vd_lines qd_steps qd_lengths qd_starts qd_met fd_met qd_stumbles vd_stumbleCount qd_muds qd_cells vd_cellCount qd_tunes vd_tuneCount qd_changes vd_changeCount 0 x378 h_g387 h_vd_gap h_vd_stumbleCount h_vd_cellCount h_vd_tuneCount h_vd_changeCount (by decide) (by omega) H.size) (cwV 3 hts gX4_play_X4_lookForHole rfl rfl rfl (by decide +kernel) ⟨Nat.le_of_ble_eq_true rfl, Nat.le_of_ble_eq_true rfl⟩) (ct_preV (T := ct_T cI cJ cB cZ cO) (ci := 4) (q0 := 2) hE hH hP hD hS hA [2, 3, 5, 1] (by decide) rfl rfl rfl) rfl rfl hl.1 rfl (lv_room (Nat.le_of_ble_eq_true rfl)) dX4_play_78 ⟨Nat.le_of_ble_eq_true rfl, Nat.le_of_ble_eq_true rfl⟩) hP hD hS hA [2, 3, 5, 1] [0, 4, 6, 7] rfl rfl (by decide) (by decide) (fun u H locs hw hP hD hS => ?_)
      obtain ⟨y389, y390⟩ := u
      obtain ⟨hP, hD⟩ : ct_B D A H [(qd_starts, .inl (cI, 2, .inl (fd_starts))), (qn_places, .inl (cI, 2, .inl (g388))), (qd_steps, .inl (cI, 24, .inl (fd_steps))), (qd_lengths, .inl (cI, 2, .inl (fd_lengths))), (qn, .inr (4, [.ref qn_danced, .ref qn_places, .long y384, .int y389, .int y390, .int y385, .int y386])), (qn_danced, .inl (cI, 200, .inl (g387))), dn qd vd_gap vd_odds vd_rain vd_lines qd_steps qd_lengths qd_starts qd_met qd_stumbles vd_stumbleCount qd_muds qd_cells vd_cellCount qd_tunes vd_tuneCount qd_changes vd_changeCount, (qd_met, .inl (cI, 6, .inl (fd_met)))] := ⟨hP, hD⟩
      refine lv_aload_n hx hb dX4_play_81 rfl (lv_at hl 1 rfl) ?_
      refine lv_aload_n hx hb dX4_play_82 rfl (lv_at hl 2 rfl) ?_
      refine lv_iconst (v := 1) hx hb dX4_play_83 (by decide) ?_
      refine lv_iload hx hb dX4_play_84 (lv_at hl 0 rfl) ?_
      refine ct_callv (D := D) (wr := [(qd_starts, .inl (cI, 2, .inl (fd_starts))), (qn_places, .inl (cI, 2, .inl (g388))), (qd_steps, .inl (cI, 24, .inl (fd_steps))), (qd_lengths, .inl (cI, 2, .inl (fd_lengths)))]) (va_runV (As := [.ref qd, .int 1, .int x378]) (rest := []) ⟨hx, hb, hml, hown, hts⟩ (c_X4_lookForHole l D G cI cJ cB cZ cO qn qn_danced g387 qn_places y384 y389 y390 y385 y386 qd vd_gap vd_odds vd_rain vd_lines qd_steps qd_lengths qd_starts qd_met fd_met qd_stumbles vd_stumbleCount qd_muds qd_cells vd_cellCount qd_tunes vd_tuneCount qd_changes vd_changeCount 1 x378 h_g387 h_vd_gap h_vd_stumbleCount h_vd_cellCount h_vd_tuneCount h_vd_changeCount (by decide) (by omega) H.size) (cwV 3 hts gX4_play_X4_lookForHole rfl rfl rfl (by decide +kernel) ⟨Nat.le_of_ble_eq_true rfl, Nat.le_of_ble_eq_true rfl⟩) (ct_preV (T := ct_T cI cJ cB cZ cO) (ci := 4) (q0 := 4) hE hH hP hD hS hA [4, 5, 6, 7] (by decide) rfl rfl rfl) rfl rfl hl.1 rfl (lv_room (Nat.le_of_ble_eq_true rfl)) dX4_play_86 ⟨Nat.le_of_ble_eq_true rfl, Nat.le_of_ble_eq_true rfl⟩) hP hD hS hA [4, 5, 6, 7] [0, 1, 2, 3] rfl rfl (by decide) (by decide) (fun u H locs hw hP hD hS => ?_)
      obtain ⟨y391, y392⟩ := u
      obtain ⟨hP, hD⟩ : ct_B D A H [(qd_starts, .inl (cI, 2, .inl (fd_starts))), (qn_places, .inl (cI, 2, .inl (g388))), (qd_steps, .inl (cI, 24, .inl (fd_steps))), (qd_lengths, .inl (cI, 2, .inl (fd_lengths))), (qn, .inr (4, [.ref qn_danced, .ref qn_places, .long y384, .int y391, .int y392, .int y385, .int y386])), (qn_danced, .inl (cI, 200, .inl (g387))), dn qd vd_gap vd_odds vd_rain vd_lines qd_steps qd_lengths qd_starts qd_met qd_stumbles vd_stumbleCount qd_muds qd_cells vd_cellCount qd_tunes vd_tuneCount qd_changes vd_changeCount, (qd_met, .inl (cI, 6, .inl (fd_met)))] := ⟨hP, hD⟩
      obtain ⟨z393, ez393⟩ : ∃ z : Int32, z = x378 + 1 := ⟨_, rfl⟩
      have fz393 : z393.toInt = x378.toInt + 1 := by rw [ez393]; exact tq_add rfl (by decide) (by omega)
      refine lv_iinc (v := z393) (lv' := [(4, .int z393), (0, .ref qn), (1, .ref qd), (2, .int a2), (3, .int a3)]) hx hb dX4_play_89 hl (k := 0) rfl ez393.symm (by decide) rfl (fun ls hl => ?_)
      refine lv_goto (tgt := 53) hx hb dX4_play_92 (by decide) ?_
      obtain ⟨hP9, hD9⟩ : ct_B D A H [(qn, .inr (4, [.ref qn_danced, .ref qn_places, .long y384, .int y391, .int y392, .int y385, .int y386])), (qn_danced, .inl (cI, 200, .inl (g387))), (qn_places, .inl (cI, 2, .inl (g388))), dn qd vd_gap vd_odds vd_rain vd_lines qd_steps qd_lengths qd_starts qd_met qd_stumbles vd_stumbleCount qd_muds qd_cells vd_cellCount qd_tunes vd_tuneCount qd_changes vd_changeCount, (qd_steps, .inl (cI, 24, .inl (fd_steps))), (qd_lengths, .inl (cI, 2, .inl (fd_lengths))), (qd_starts, .inl (cI, 2, .inl (fd_starts))), (qd_met, .inl (cI, 6, .inl (fd_met)))] := ⟨hP.sub [4, 5, 1, 6, 2, 3, 0, 7] rfl, hD.sub [4, 5, 1, 6, 2, 3, 0, 7] (by decide) rfl⟩
      exact ih379 (g387, g388, y384, y391, y392, y385, y386, z393) _ _ _ (show (100 - z393.toInt).toNat < (100 - x378.toInt).toNat by omega) ⟨h_g387, h_g388, (show 0 ≤ z393.toInt ∧ z393.toInt ≤ 100 by omega), ⟨hP9, hD9⟩, hS, lv_sub hl [0, 1, 2, 3, 4] rfl⟩
