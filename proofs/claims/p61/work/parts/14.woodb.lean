abbrev w_c_X10_through (cI cJ cB cZ cO : ClassId) (qw : Nat) (qw_arrivals : Nat) (fw_arrivals : Nat → Int32) (vw_meetingBeat : Int32) (vw_meetingCell : Int32) (qd : Nat) (vd_gap : Int32) (vd_odds : Int32) (vd_rain : Int32) (vd_lines : Int32) (qd_steps : Nat) (qd_lengths : Nat) (qd_starts : Nat) (qd_met : Nat) (qd_stumbles : Nat) (vd_stumbleCount : Int32) (qd_muds : Nat) (qd_cells : Nat) (fd_cells : Nat → Int32) (vd_cellCount : Int32) (qd_tunes : Nat) (vd_tuneCount : Int32) (qd_changes : Nat) (vd_changeCount : Int32) : va_W := [(qw, .inr (10, [.ref qw_arrivals, .int vw_meetingBeat, .int vw_meetingCell])), (qw_arrivals, .inl (cI, 24, .inl (fw_arrivals))), (qd, .inr (0, [.int vd_gap, .int vd_odds, .int vd_rain, .int vd_lines, .ref qd_steps, .ref qd_lengths, .ref qd_starts, .ref qd_met, .ref qd_stumbles, .int vd_stumbleCount, .ref qd_muds, .ref qd_cells, .int vd_cellCount, .ref qd_tunes, .int vd_tuneCount, .ref qd_changes, .int vd_changeCount])), (qd_cells, .inl (cI, 24, .inl (fd_cells)))]
set_option maxHeartbeats 4000000 in
set_option maxRecDepth 100000 in
/-- X10 through -/
theorem c_X10_through (l : Launch) (D : va_G) (G : ct_G) (cI cJ cB cZ cO : ClassId) (qw : Nat) (qw_arrivals : Nat) (fw_arrivals : Nat → Int32) (vw_meetingBeat : Int32) (vw_meetingCell : Int32) (qd : Nat) (vd_gap : Int32) (vd_odds : Int32) (vd_rain : Int32) (vd_lines : Int32) (qd_steps : Nat) (qd_lengths : Nat) (qd_starts : Nat) (qd_met : Nat) (qd_stumbles : Nat) (vd_stumbleCount : Int32) (qd_muds : Nat) (qd_cells : Nat) (fd_cells : Nat → Int32) (vd_cellCount : Int32) (qd_tunes : Nat) (vd_tuneCount : Int32) (qd_changes : Nat) (vd_changeCount : Int32) (a2 : Int32) (a3 : Int32) (h_vd_gap : 0 ≤ vd_gap.toInt ∧ vd_gap.toInt ≤ 20) (h_vd_stumbleCount : 0 ≤ vd_stumbleCount.toInt ∧ vd_stumbleCount.toInt ≤ 8) (h_vd_cellCount : 0 ≤ vd_cellCount.toInt ∧ vd_cellCount.toInt ≤ 12) (h_vd_tuneCount : 0 ≤ vd_tuneCount.toInt ∧ vd_tuneCount.toInt ≤ 5) (h_vd_changeCount : 0 ≤ vd_changeCount.toInt ∧ vd_changeCount.toInt ≤ 40) (h_a2 : 0 ≤ a2.toInt ∧ a2.toInt ≤ 1) (sz : Nat) : Met l yX10_through wsX10_through ({ frames := 2, cells := 0, slots := 0, locals := 43 }) (va_Pc [.ref qw, .ref qd, .int a2, .int a3] (ct_P D (ct_T cI cJ cB cZ cO) G (w_c_X10_through cI cJ cB cZ cO qw qw_arrivals fw_arrivals vw_meetingBeat vw_meetingCell qd vd_gap vd_odds vd_rain vd_lines qd_steps qd_lengths qd_starts qd_met qd_stumbles vd_stumbleCount qd_muds qd_cells fd_cells vd_cellCount qd_tunes vd_tuneCount qd_changes vd_changeCount) sz)) (va_Qi (fun (rz : Int32) (u : (Nat → Int32)) => True) (fun (u : (Nat → Int32)) t => ct_Q D (va_A (w_c_X10_through cI cJ cB cZ cO qw qw_arrivals fw_arrivals vw_meetingBeat vw_meetingCell qd vd_gap vd_odds vd_rain vd_lines qd_steps qd_lengths qd_starts qd_met qd_stumbles vd_stumbleCount qd_muds qd_cells fd_cells vd_cellCount qd_tunes vd_tuneCount qd_changes vd_changeCount) sz) [(qw, .inr (10, [.ref qw_arrivals, .int vw_meetingBeat, .int vw_meetingCell])), (qw_arrivals, .inl (cI, 24, .inl (u))), (qd, .inr (0, [.int vd_gap, .int vd_odds, .int vd_rain, .int vd_lines, .ref qd_steps, .ref qd_lengths, .ref qd_starts, .ref qd_met, .ref qd_stumbles, .int vd_stumbleCount, .ref qd_muds, .ref qd_cells, .int vd_cellCount, .ref qd_tunes, .int vd_tuneCount, .ref qd_changes, .int vd_changeCount])), (qd_cells, .inl (cI, 24, .inl (fd_cells)))] t) (va_A (w_c_X10_through cI cJ cB cZ cO qw qw_arrivals fw_arrivals vw_meetingBeat vw_meetingCell qd vd_gap vd_odds vd_rain vd_lines qd_steps qd_lengths qd_starts qd_met qd_stumbles vd_stumbleCount qd_muds qd_cells fd_cells vd_cellCount qd_tunes vd_tuneCount qd_changes vd_changeCount) sz)) 0 0 (va_A (w_c_X10_through cI cJ cB cZ cO qw qw_arrivals fw_arrivals vw_meetingBeat vw_meetingCell qd vd_gap vd_odds vd_rain vd_lines qd_steps qd_lengths qd_starts qd_met qd_stumbles vd_stumbleCount qd_muds qd_cells fd_cells vd_cellCount qd_tunes vd_tuneCount qd_changes vd_changeCount) sz) := by
  refine Met.ofW (cc := cX10_through) (maxL := 9) (ret := (some .int)) (by decide) rfl ?_
  intro p e s m args below meth c s₁ B hml hv
  obtain ⟨rfl, hsz, hP, hE, hD0, hH⟩ := hv
  have hx := B.exec
  have hb := B.bytes
  have hr := B.returns
  have hts := atoms_spec (ws := wsX10_through) B.pre
  have hown : s.vm.findClass RX10 = some m.cls := findClass_of_methodNamed B.named
  have hlocks := B.notSynchronized
  have hK := hE.1
  have hi0 : ∀ w ∈ u_ws RX0 TX0 17, w ∈ wsX10_through := fun w h => List.mem_cons_of_mem _ (List.mem_append_left _ (List.mem_append_right _ h))
  have hi10 : ∀ w ∈ u_ws RX10 TX10 3, w ∈ wsX10_through := fun w h => List.mem_cons_of_mem _ (List.mem_append_right _ h)
  subst hsz
  have hD := hD0.self (sz := s.heap.size)
  generalize hAe : va_A (w_c_X10_through cI cJ cB cZ cO qw qw_arrivals fw_arrivals vw_meetingBeat vw_meetingCell qd vd_gap vd_odds vd_rain vd_lines qd_steps qd_lengths qd_starts qd_met qd_stumbles vd_stumbleCount qd_muds qd_cells fd_cells vd_cellCount qd_tunes vd_tuneCount qd_changes vd_changeCount) s.heap.size = A at hD hH ⊢
  have hA : ∀ q : Nat, s.heap.size ≤ q → A q := fun q h => by rw [← hAe]; exact Or.inr h
  have hS : va_S A s.heap s.heap [] := va_S.rf
  have hP : va_P D vwCl [(qw, .inr (10, [.ref qw_arrivals, .int vw_meetingBeat, .int vw_meetingCell])), (qw_arrivals, .inl (cI, 24, .inl (fw_arrivals))), (qd, .inr (0, [.int vd_gap, .int vd_odds, .int vd_rain, .int vd_lines, .ref qd_steps, .ref qd_lengths, .ref qd_starts, .ref qd_met, .ref qd_stumbles, .int vd_stumbleCount, .ref qd_muds, .ref qd_cells, .int vd_cellCount, .ref qd_tunes, .int vd_tuneCount, .ref qd_changes, .int vd_changeCount])), (qd_cells, .inl (cI, 24, .inl (fd_cells)))] s.heap := hP
  have hD : va_D A [(qw, .inr (10, [.ref qw_arrivals, .int vw_meetingBeat, .int vw_meetingCell])), (qw_arrivals, .inl (cI, 24, .inl (fw_arrivals))), (qd, .inr (0, [.int vd_gap, .int vd_odds, .int vd_rain, .int vd_lines, .ref qd_steps, .ref qd_lengths, .ref qd_starts, .ref qd_met, .ref qd_stumbles, .int vd_stumbleCount, .ref qd_muds, .ref qd_cells, .int vd_cellCount, .ref qd_tunes, .int vd_tuneCount, .ref qd_changes, .int vd_changeCount])), (qd_cells, .inl (cI, 24, .inl (fd_cells)))] := hD
  have hl := lv_entry ([.ref qw, .ref qd, .int a2, .int a3]) (n := 9) (Nat.le_of_ble_eq_true rfl)
  rw [lg_entry_eq]
  generalize (lg_sl ([.ref qw, .ref qd, .int a2, .int a3]) ++ List.replicate (9 - (lg_sl ([.ref qw, .ref qd, .int a2, .int a3])).length) Slot.unset).toArray = ls at hl ⊢
  have hl : lv_has ls 9 [(0, .ref qw), (1, .ref qd), (2, .int a2), (3, .int a3)] := hl
  obtain ⟨H, hHe⟩ : ∃ H : Heap, H = s.heap := ⟨_, rfl⟩
  rw [← hHe] at hP
  have hS : va_S A s.heap H [] := by rw [hHe]; exact va_S.rf
  refine ct_start hHe ?_
  refine lv_iload_n hx hb dX10_through_0 rfl (lv_at hl 3 rfl) ?_
  refine lv_istore (lv' := [(4, .int a3), (0, .ref qw), (1, .ref qd), (2, .int a2), (3, .int a3)]) hx hb dX10_through_1 hl (by decide) rfl (fun ls hl => ?_)
  refine lv_iconst (v := 0) hx hb dX10_through_3 (by decide) ?_
  refine lv_istore (lv' := [(5, .int 0), (4, .int a3), (0, .ref qw), (1, .ref qd), (2, .int a2), (3, .int a3)]) hx hb dX10_through_4 hl (by decide) rfl (fun ls hl => ?_)
  refine ct_loop (X := (Nat → Int32) × Int32 × Int32) (fun x => (12 - x.2.2.toInt).toNat) (fun x H locs ls => ((0 ≤ x.2.2.toInt ∧ x.2.2.toInt ≤ 12)) ∧ va_P D vwCl [(qw, .inr (10, [.ref qw_arrivals, .int vw_meetingBeat, .int vw_meetingCell])), (qw_arrivals, .inl (cI, 24, .inl (x.1))), (qd, .inr (0, [.int vd_gap, .int vd_odds, .int vd_rain, .int vd_lines, .ref qd_steps, .ref qd_lengths, .ref qd_starts, .ref qd_met, .ref qd_stumbles, .int vd_stumbleCount, .ref qd_muds, .ref qd_cells, .int vd_cellCount, .ref qd_tunes, .int vd_tuneCount, .ref qd_changes, .int vd_changeCount])), (qd_cells, .inl (cI, 24, .inl (fd_cells)))] H ∧ va_D A [(qw, .inr (10, [.ref qw_arrivals, .int vw_meetingBeat, .int vw_meetingCell])), (qw_arrivals, .inl (cI, 24, .inl (x.1))), (qd, .inr (0, [.int vd_gap, .int vd_odds, .int vd_rain, .int vd_lines, .ref qd_steps, .ref qd_lengths, .ref qd_starts, .ref qd_met, .ref qd_stumbles, .int vd_stumbleCount, .ref qd_muds, .ref qd_cells, .int vd_cellCount, .ref qd_tunes, .int vd_tuneCount, .ref qd_changes, .int vd_changeCount])), (qd_cells, .inl (cI, 24, .inl (fd_cells)))] ∧ va_S A s.heap H locs ∧ lv_has ls 9 [(5, .int x.2.2), (4, .int x.2.1), (0, .ref qw), (1, .ref qd), (2, .int a2), (3, .int a3)]) 6 (fw_arrivals, a3, (0 : Int32)) ⟨(show 0 ≤ (0 : Int32).toInt ∧ (0 : Int32).toInt ≤ 12 by decide), hP, hD, hS, lv_sub hl [0, 1, 2, 3, 4, 5] rfl⟩ (fun x ih339 H locs ls hI => ?_)
  obtain ⟨g336, x337, x338⟩ := x
  obtain ⟨h_x338, hP, hD, hS, hl⟩ := hI
  have h_x338 : (0 ≤ x338.toInt ∧ x338.toInt ≤ 12) := h_x338
  have hP : va_P D vwCl [(qw, .inr (10, [.ref qw_arrivals, .int vw_meetingBeat, .int vw_meetingCell])), (qw_arrivals, .inl (cI, 24, .inl (g336))), (qd, .inr (0, [.int vd_gap, .int vd_odds, .int vd_rain, .int vd_lines, .ref qd_steps, .ref qd_lengths, .ref qd_starts, .ref qd_met, .ref qd_stumbles, .int vd_stumbleCount, .ref qd_muds, .ref qd_cells, .int vd_cellCount, .ref qd_tunes, .int vd_tuneCount, .ref qd_changes, .int vd_changeCount])), (qd_cells, .inl (cI, 24, .inl (fd_cells)))] H := hP
  have hD : va_D A [(qw, .inr (10, [.ref qw_arrivals, .int vw_meetingBeat, .int vw_meetingCell])), (qw_arrivals, .inl (cI, 24, .inl (g336))), (qd, .inr (0, [.int vd_gap, .int vd_odds, .int vd_rain, .int vd_lines, .ref qd_steps, .ref qd_lengths, .ref qd_starts, .ref qd_met, .ref qd_stumbles, .int vd_stumbleCount, .ref qd_muds, .ref qd_cells, .int vd_cellCount, .ref qd_tunes, .int vd_tuneCount, .ref qd_changes, .int vd_changeCount])), (qd_cells, .inl (cI, 24, .inl (fd_cells)))] := hD
  have hl : lv_has ls 9 [(5, .int x338), (4, .int x337), (0, .ref qw), (1, .ref qd), (2, .int a2), (3, .int a3)] := hl
  refine lv_iload hx hb dX10_through_6 (lv_at hl 0 rfl) ?_
  refine lv_aload_n hx hb dX10_through_8 rfl (lv_at hl 3 rfl) ?_
  refine va_get (D := D) (ci := 0) (v := .int vd_cellCount) (C := RX0) (T := TX0) (N := 17) hx hb hts hi0 hown hK hP 2 rfl rfl 12 (by decide) (hts (.fieldLink RX10 15 "OverHill$Dance" "cellCount" "I") (by decide +kernel)) (fun _ h9 => h9) rfl dX10_through_9 ?_
  refine lv_icmp_ge (tgt := 96) hx hb dX10_through_12 (by decide) (fun hc => ?_) (fun hc => ?_)
  · have hq340 : vd_cellCount.toInt ≤ x338.toInt := tq_le rfl rfl hc
    refine lv_iload hx hb dX10_through_96 (lv_at hl 1 rfl) ?_
    refine lv_iconst (v := 1) hx hb dX10_through_98 (by decide) ?_
    refine lv_iadd hx hb dX10_through_99 ?_
    refine lv_topi (fun z341 ez341 => ?_)
    have hP9 := hP.sub (ws' := [(qw, .inr (10, [.ref qw_arrivals, .int vw_meetingBeat, .int vw_meetingCell])), (qw_arrivals, .inl (cI, 24, .inl (g336))), (qd, .inr (0, [.int vd_gap, .int vd_odds, .int vd_rain, .int vd_lines, .ref qd_steps, .ref qd_lengths, .ref qd_starts, .ref qd_met, .ref qd_stumbles, .int vd_stumbleCount, .ref qd_muds, .ref qd_cells, .int vd_cellCount, .ref qd_tunes, .int vd_tuneCount, .ref qd_changes, .int vd_changeCount])), (qd_cells, .inl (cI, 24, .inl (fd_cells)))]) [0, 1, 2, 3] rfl
    have hD9 := hD.sub (ws' := [(qw, .inr (10, [.ref qw_arrivals, .int vw_meetingBeat, .int vw_meetingCell])), (qw_arrivals, .inl (cI, 24, .inl (g336))), (qd, .inr (0, [.int vd_gap, .int vd_odds, .int vd_rain, .int vd_lines, .ref qd_steps, .ref qd_lengths, .ref qd_starts, .ref qd_met, .ref qd_stumbles, .int vd_stumbleCount, .ref qd_muds, .ref qd_cells, .int vd_cellCount, .ref qd_tunes, .int vd_tuneCount, .ref qd_changes, .int vd_changeCount])), (qd_cells, .inl (cI, 24, .inl (fd_cells)))]) [0, 1, 2, 3] (by decide) rfl
    exact W.iret (v := z341) hx hb hr (fun t ht hW => ⟨⟨z341, g336, rfl, trivial, by rw [ht]; exact hP9, hD9⟩, hS.F ht⟩) hS.2.2 dX10_through_100
  · have hq340 : x338.toInt < vd_cellCount.toInt := tq_nle rfl rfl hc
    refine lv_iload_n hx hb dX10_through_15 rfl (lv_at hl 4 rfl) ?_
    refine lv_if_ne (tgt := 24) hx hb dX10_through_16 (by decide) (fun hc => ?_) (fun hc => ?_)
    · have hq342 : a2.toInt ≠ 0 := tq_ne rfl (by decide) hc
      refine lv_aload_n hx hb dX10_through_24 rfl (lv_at hl 3 rfl) ?_
      refine va_get (D := D) (ci := 0) (v := .int vd_cellCount) (C := RX0) (T := TX0) (N := 17) hx hb hts hi0 hown hK hP 2 rfl rfl 12 (by decide) (hts (.fieldLink RX10 15 "OverHill$Dance" "cellCount" "I") (by decide +kernel)) (fun _ h9 => h9) rfl dX10_through_25 ?_
      refine lv_iconst (v := 1) hx hb dX10_through_28 (by decide) ?_
      refine lv_isub hx hb dX10_through_29 ?_
      refine lv_topi (fun z343 ez343 => ?_)
      have fz343 : z343.toInt = vd_cellCount.toInt - 1 := by rw [ez343]; exact tq_subt rfl (by decide) (by omega)
      refine lv_iload hx hb dX10_through_30 (lv_at hl 0 rfl) ?_
      refine lv_isub hx hb dX10_through_32 ?_
      refine lv_topi (fun z344 ez344 => ?_)
      have fz344 : z344.toInt = z343.toInt - x338.toInt := by rw [ez344]; exact tq_subt rfl rfl (by omega)
      refine lv_istore (lv' := [(6, .int z344), (5, .int x338), (4, .int x337), (0, .ref qw), (1, .ref qd), (2, .int a2), (3, .int a3)]) hx hb dX10_through_33 hl (by decide) rfl (fun ls hl => ?_)
      refine lv_aload_n hx hb dX10_through_35 rfl (lv_at hl 4 rfl) ?_
      refine va_get (D := D) (ci := 0) (v := .ref qd_cells) (C := RX0) (T := TX0) (N := 17) hx hb hts hi0 hown hK hP 2 rfl rfl 11 (by decide) (hts (.fieldLink RX10 21 "OverHill$Dance" "cells" "[I") (by decide +kernel)) (fun _ h9 => h9) rfl dX10_through_36 ?_
      refine lv_iload hx hb dX10_through_39 (lv_at hl 0 rfl) ?_
      refine lv_iconst (v := 2) hx hb dX10_through_41 (by decide) ?_
      refine lv_imul hx hb dX10_through_42 ?_
      refine lv_topi (fun z345 ez345 => ?_)
      have fz345 : z345.toInt = z344.toInt * 2 := by rw [ez345]; exact tq_mul rfl (by decide) (by omega)
      refine va_iald (D := D) hx hb hK hP 3 0 rfl rfl (tq_in rfl (by omega)) dX10_through_43 ?_
      refine lv_topi (fun z346 ez346 => ?_)
      refine lv_istore (lv' := [(7, .int z346), (6, .int z344), (5, .int x338), (4, .int x337), (0, .ref qw), (1, .ref qd), (2, .int a2), (3, .int a3)]) hx hb dX10_through_44 hl (by decide) rfl (fun ls hl => ?_)
      refine lv_aload_n hx hb dX10_through_46 rfl (lv_at hl 5 rfl) ?_
      refine va_get (D := D) (ci := 0) (v := .ref qd_cells) (C := RX0) (T := TX0) (N := 17) hx hb hts hi0 hown hK hP 2 rfl rfl 11 (by decide) (hts (.fieldLink RX10 21 "OverHill$Dance" "cells" "[I") (by decide +kernel)) (fun _ h9 => h9) rfl dX10_through_47 ?_
      refine lv_iload hx hb dX10_through_50 (lv_at hl 1 rfl) ?_
      refine lv_iconst (v := 2) hx hb dX10_through_52 (by decide) ?_
      refine lv_imul hx hb dX10_through_53 ?_
      refine lv_topi (fun z347 ez347 => ?_)
      have fz347 : z347.toInt = z344.toInt * 2 := by rw [ez347]; exact tq_mul rfl (by decide) (by omega)
      refine lv_iconst (v := 1) hx hb dX10_through_54 (by decide) ?_
      refine lv_iadd hx hb dX10_through_55 ?_
      refine lv_topi (fun z348 ez348 => ?_)
      have fz348 : z348.toInt = z347.toInt + 1 := by rw [ez348]; exact tq_add rfl (by decide) (by omega)
      refine va_iald (D := D) hx hb hK hP 3 0 rfl rfl (tq_in rfl (by omega)) dX10_through_56 ?_
      refine lv_topi (fun z349 ez349 => ?_)
      refine lv_istore (lv' := [(8, .int z349), (7, .int z346), (6, .int z344), (5, .int x338), (4, .int x337), (0, .ref qw), (1, .ref qd), (2, .int a2), (3, .int a3)]) hx hb dX10_through_57 hl (by decide) rfl (fun ls hl => ?_)
      refine lv_iload hx hb dX10_through_59 (lv_at hl 4 rfl) ?_
      refine lv_iload hx hb dX10_through_61 (lv_at hl 0 rfl) ?_
      refine lv_iload hx hb dX10_through_63 (lv_at hl 4 rfl) ?_
      refine lv_isub hx hb dX10_through_65 ?_
      refine lv_topi (fun z350 ez350 => ?_)
      refine lv_iload hx hb dX10_through_66 (lv_at hl 1 rfl) ?_
      refine ct_calli (D := D) (wc := (w_c_X11_wrap cI cJ cB cZ cO )) (wr := [(qw, .inr (10, [.ref qw_arrivals, .int vw_meetingBeat, .int vw_meetingCell])), (qw_arrivals, .inl (cI, 24, .inl (g336))), (qd, .inr (0, [.int vd_gap, .int vd_odds, .int vd_rain, .int vd_lines, .ref qd_steps, .ref qd_lengths, .ref qd_starts, .ref qd_met, .ref qd_stumbles, .int vd_stumbleCount, .ref qd_muds, .ref qd_cells, .int vd_cellCount, .ref qd_tunes, .int vd_tuneCount, .ref qd_changes, .int vd_changeCount])), (qd_cells, .inl (cI, 24, .inl (fd_cells)))]) (va_runSN (As := [.int z350, .int z346]) (rest := [.int x337]) ⟨hx, hb, hml, hown, hts⟩ (c_X11_wrap l D G cI cJ cB cZ cO z350 z346  H.size) ⟨va_cnB 2 hts gX10_through_X11_wrap_n24 rfl rfl rfl (hE.2.1 (RX10, 24, yX11_wrap, "OverHill") (List.mem_of_getElem? (i := 17) rfl)) (hts (.initialized RX11) (by decide +kernel)) (by decide +kernel) ⟨Nat.le_of_ble_eq_true rfl, Nat.le_of_ble_eq_true rfl⟩, (hts (.static yX11_wrap) (by decide +kernel)), trivial⟩ (ct_preS (T := ct_T cI cJ cB cZ cO) hE hH hP hD hS hA [] (by decide) rfl) rfl rfl hl.1 rfl (lv_room (Nat.le_of_ble_eq_true rfl)) dX10_through_68 ⟨Nat.le_of_ble_eq_true rfl, Nat.le_of_ble_eq_true rfl⟩) hP hD hS hA [] [0, 1, 2, 3] rfl rfl (by decide) (by decide) (fun r351 u H locs hw hP hD hS => ?_)
      have hP : va_P D vwCl [(qw, .inr (10, [.ref qw_arrivals, .int vw_meetingBeat, .int vw_meetingCell])), (qw_arrivals, .inl (cI, 24, .inl (g336))), (qd, .inr (0, [.int vd_gap, .int vd_odds, .int vd_rain, .int vd_lines, .ref qd_steps, .ref qd_lengths, .ref qd_starts, .ref qd_met, .ref qd_stumbles, .int vd_stumbleCount, .ref qd_muds, .ref qd_cells, .int vd_cellCount, .ref qd_tunes, .int vd_tuneCount, .ref qd_changes, .int vd_changeCount])), (qd_cells, .inl (cI, 24, .inl (fd_cells)))] H := hP
      have hD : va_D A [(qw, .inr (10, [.ref qw_arrivals, .int vw_meetingBeat, .int vw_meetingCell])), (qw_arrivals, .inl (cI, 24, .inl (g336))), (qd, .inr (0, [.int vd_gap, .int vd_odds, .int vd_rain, .int vd_lines, .ref qd_steps, .ref qd_lengths, .ref qd_starts, .ref qd_met, .ref qd_stumbles, .int vd_stumbleCount, .ref qd_muds, .ref qd_cells, .int vd_cellCount, .ref qd_tunes, .int vd_tuneCount, .ref qd_changes, .int vd_changeCount])), (qd_cells, .inl (cI, 24, .inl (fd_cells)))] := hD
      have hz := hw
      have h_r351 : 0 ≤ r351.toInt ∧ (r351.toInt < z346.toInt ∨ r351.toInt = 0) := hz
      refine lv_iconst (v := 1) hx hb dX10_through_71 (by decide) ?_
      refine lv_iadd hx hb dX10_through_72 ?_
      refine lv_topi (fun z352 ez352 => ?_)
      have fz352 : z352.toInt = r351.toInt + 1 := by rw [ez352]; exact tq_add rfl (by decide) (by omega)
      refine lv_iadd hx hb dX10_through_73 ?_
      refine lv_topi (fun z353 ez353 => ?_)
      refine lv_istore (lv' := [(4, .int z353), (8, .int z349), (7, .int z346), (6, .int z344), (5, .int x338), (0, .ref qw), (1, .ref qd), (2, .int a2), (3, .int a3)]) hx hb dX10_through_74 hl (by decide) rfl (fun ls hl => ?_)
      refine lv_aload_n hx hb dX10_through_76 rfl (lv_at hl 5 rfl) ?_
      refine va_get (D := D) (ci := 10) (v := .ref qw_arrivals) (C := RX10) (T := TX10) (N := 3) hx hb hts hi10 hown hK hP 0 rfl rfl 0 (by decide) (hts (.fieldLink RX10 9 "OverHill$Wood" "arrivals" "[I") (by decide +kernel)) (fun _ h9 => h9) rfl dX10_through_77 ?_
      refine lv_iload_n hx hb dX10_through_80 rfl (lv_at hl 7 rfl) ?_
      refine lv_bipush (v := 12) hx hb dX10_through_81 (by decide) ?_
      refine lv_imul hx hb dX10_through_83 ?_
      refine lv_topi (fun z354 ez354 => ?_)
      have fz354 : z354.toInt = a2.toInt * 12 := by rw [ez354]; exact tq_mul rfl (by decide) (by omega)
      refine lv_iload hx hb dX10_through_84 (lv_at hl 3 rfl) ?_
      refine lv_iadd hx hb dX10_through_86 ?_
      refine lv_topi (fun z355 ez355 => ?_)
      have fz355 : z355.toInt = z354.toInt + z344.toInt := by rw [ez355]; exact tq_add rfl rfl (by omega)
      refine lv_iload hx hb dX10_through_87 (lv_at hl 0 rfl) ?_
      refine va_iast (D := D) hx hb hK hP hD hS 1 0 rfl rfl (tq_in rfl (by omega)) dX10_through_89 (fun H locs hP hD hS => ?_)
      obtain ⟨g356, hP, hD⟩ : ∃ g356 : Nat → Int32, va_P D vwCl [(qw, .inr (10, [.ref qw_arrivals, .int vw_meetingBeat, .int vw_meetingCell])), (qw_arrivals, .inl (cI, 24, .inl (g356))), (qd, .inr (0, [.int vd_gap, .int vd_odds, .int vd_rain, .int vd_lines, .ref qd_steps, .ref qd_lengths, .ref qd_starts, .ref qd_met, .ref qd_stumbles, .int vd_stumbleCount, .ref qd_muds, .ref qd_cells, .int vd_cellCount, .ref qd_tunes, .int vd_tuneCount, .ref qd_changes, .int vd_changeCount])), (qd_cells, .inl (cI, 24, .inl (fd_cells)))] H ∧ va_D A [(qw, .inr (10, [.ref qw_arrivals, .int vw_meetingBeat, .int vw_meetingCell])), (qw_arrivals, .inl (cI, 24, .inl (g356))), (qd, .inr (0, [.int vd_gap, .int vd_odds, .int vd_rain, .int vd_lines, .ref qd_steps, .ref qd_lengths, .ref qd_starts, .ref qd_met, .ref qd_stumbles, .int vd_stumbleCount, .ref qd_muds, .ref qd_cells, .int vd_cellCount, .ref qd_tunes, .int vd_tuneCount, .ref qd_changes, .int vd_changeCount])), (qd_cells, .inl (cI, 24, .inl (fd_cells)))] := ⟨_, hP, hD⟩
      obtain ⟨z357, ez357⟩ : ∃ z : Int32, z = x338 + 1 := ⟨_, rfl⟩
      have fz357 : z357.toInt = x338.toInt + 1 := by rw [ez357]; exact tq_add rfl (by decide) (by omega)
      refine lv_iinc (v := z357) (lv' := [(5, .int z357), (4, .int z353), (8, .int z349), (7, .int z346), (6, .int z344), (0, .ref qw), (1, .ref qd), (2, .int a2), (3, .int a3)]) hx hb dX10_through_90 hl (k := 4) rfl ez357.symm (by decide) rfl (fun ls hl => ?_)
      refine lv_goto (tgt := 6) hx hb dX10_through_93 (by decide) ?_
      exact ih339 (g356, z353, z357) _ _ _ (show (12 - z357.toInt).toNat < (12 - x338.toInt).toNat by omega) ⟨(show 0 ≤ z357.toInt ∧ z357.toInt ≤ 12 by omega), hP, hD, hS, lv_sub hl [0, 1, 5, 6, 7, 8] rfl⟩
    · have hq342 : a2.toInt = 0 := tq_eq rfl (by decide) hc
      refine lv_iload hx hb dX10_through_19 (lv_at hl 0 rfl) ?_
      refine lv_goto (tgt := 33) hx hb dX10_through_21 (by decide) ?_
      refine lv_istore (lv' := [(6, .int x338), (5, .int x338), (4, .int x337), (0, .ref qw), (1, .ref qd), (2, .int a2), (3, .int a3)]) hx hb dX10_through_33 hl (by decide) rfl (fun ls hl => ?_)
      refine lv_aload_n hx hb dX10_through_35 rfl (lv_at hl 4 rfl) ?_
      refine va_get (D := D) (ci := 0) (v := .ref qd_cells) (C := RX0) (T := TX0) (N := 17) hx hb hts hi0 hown hK hP 2 rfl rfl 11 (by decide) (hts (.fieldLink RX10 21 "OverHill$Dance" "cells" "[I") (by decide +kernel)) (fun _ h9 => h9) rfl dX10_through_36 ?_
      refine lv_iload hx hb dX10_through_39 (lv_at hl 0 rfl) ?_
      refine lv_iconst (v := 2) hx hb dX10_through_41 (by decide) ?_
      refine lv_imul hx hb dX10_through_42 ?_
      refine lv_topi (fun z358 ez358 => ?_)
      have fz358 : z358.toInt = x338.toInt * 2 := by rw [ez358]; exact tq_mul rfl (by decide) (by omega)
      refine va_iald (D := D) hx hb hK hP 3 0 rfl rfl (tq_in rfl (by omega)) dX10_through_43 ?_
      refine lv_topi (fun z359 ez359 => ?_)
      refine lv_istore (lv' := [(7, .int z359), (6, .int x338), (5, .int x338), (4, .int x337), (0, .ref qw), (1, .ref qd), (2, .int a2), (3, .int a3)]) hx hb dX10_through_44 hl (by decide) rfl (fun ls hl => ?_)
      refine lv_aload_n hx hb dX10_through_46 rfl (lv_at hl 5 rfl) ?_
      refine va_get (D := D) (ci := 0) (v := .ref qd_cells) (C := RX0) (T := TX0) (N := 17) hx hb hts hi0 hown hK hP 2 rfl rfl 11 (by decide) (hts (.fieldLink RX10 21 "OverHill$Dance" "cells" "[I") (by decide +kernel)) (fun _ h9 => h9) rfl dX10_through_47 ?_
      refine lv_iload hx hb dX10_through_50 (lv_at hl 1 rfl) ?_
      refine lv_iconst (v := 2) hx hb dX10_through_52 (by decide) ?_
      refine lv_imul hx hb dX10_through_53 ?_
      refine lv_topi (fun z360 ez360 => ?_)
      have fz360 : z360.toInt = x338.toInt * 2 := by rw [ez360]; exact tq_mul rfl (by decide) (by omega)
      refine lv_iconst (v := 1) hx hb dX10_through_54 (by decide) ?_
      refine lv_iadd hx hb dX10_through_55 ?_
      refine lv_topi (fun z361 ez361 => ?_)
      have fz361 : z361.toInt = z360.toInt + 1 := by rw [ez361]; exact tq_add rfl (by decide) (by omega)
      refine va_iald (D := D) hx hb hK hP 3 0 rfl rfl (tq_in rfl (by omega)) dX10_through_56 ?_
      refine lv_topi (fun z362 ez362 => ?_)
      refine lv_istore (lv' := [(8, .int z362), (7, .int z359), (6, .int x338), (5, .int x338), (4, .int x337), (0, .ref qw), (1, .ref qd), (2, .int a2), (3, .int a3)]) hx hb dX10_through_57 hl (by decide) rfl (fun ls hl => ?_)
      refine lv_iload hx hb dX10_through_59 (lv_at hl 4 rfl) ?_
      refine lv_iload hx hb dX10_through_61 (lv_at hl 0 rfl) ?_
      refine lv_iload hx hb dX10_through_63 (lv_at hl 4 rfl) ?_
      refine lv_isub hx hb dX10_through_65 ?_
      refine lv_topi (fun z363 ez363 => ?_)
      refine lv_iload hx hb dX10_through_66 (lv_at hl 1 rfl) ?_
      refine ct_calli (D := D) (wc := (w_c_X11_wrap cI cJ cB cZ cO )) (wr := [(qw, .inr (10, [.ref qw_arrivals, .int vw_meetingBeat, .int vw_meetingCell])), (qw_arrivals, .inl (cI, 24, .inl (g336))), (qd, .inr (0, [.int vd_gap, .int vd_odds, .int vd_rain, .int vd_lines, .ref qd_steps, .ref qd_lengths, .ref qd_starts, .ref qd_met, .ref qd_stumbles, .int vd_stumbleCount, .ref qd_muds, .ref qd_cells, .int vd_cellCount, .ref qd_tunes, .int vd_tuneCount, .ref qd_changes, .int vd_changeCount])), (qd_cells, .inl (cI, 24, .inl (fd_cells)))]) (va_runSN (As := [.int z363, .int z359]) (rest := [.int x337]) ⟨hx, hb, hml, hown, hts⟩ (c_X11_wrap l D G cI cJ cB cZ cO z363 z359  H.size) ⟨va_cnB 2 hts gX10_through_X11_wrap_n24 rfl rfl rfl (hE.2.1 (RX10, 24, yX11_wrap, "OverHill") (List.mem_of_getElem? (i := 17) rfl)) (hts (.initialized RX11) (by decide +kernel)) (by decide +kernel) ⟨Nat.le_of_ble_eq_true rfl, Nat.le_of_ble_eq_true rfl⟩, (hts (.static yX11_wrap) (by decide +kernel)), trivial⟩ (ct_preS (T := ct_T cI cJ cB cZ cO) hE hH hP hD hS hA [] (by decide) rfl) rfl rfl hl.1 rfl (lv_room (Nat.le_of_ble_eq_true rfl)) dX10_through_68 ⟨Nat.le_of_ble_eq_true rfl, Nat.le_of_ble_eq_true rfl⟩) hP hD hS hA [] [0, 1, 2, 3] rfl rfl (by decide) (by decide) (fun r364 u H locs hw hP hD hS => ?_)
      have hP : va_P D vwCl [(qw, .inr (10, [.ref qw_arrivals, .int vw_meetingBeat, .int vw_meetingCell])), (qw_arrivals, .inl (cI, 24, .inl (g336))), (qd, .inr (0, [.int vd_gap, .int vd_odds, .int vd_rain, .int vd_lines, .ref qd_steps, .ref qd_lengths, .ref qd_starts, .ref qd_met, .ref qd_stumbles, .int vd_stumbleCount, .ref qd_muds, .ref qd_cells, .int vd_cellCount, .ref qd_tunes, .int vd_tuneCount, .ref qd_changes, .int vd_changeCount])), (qd_cells, .inl (cI, 24, .inl (fd_cells)))] H := hP
      have hD : va_D A [(qw, .inr (10, [.ref qw_arrivals, .int vw_meetingBeat, .int vw_meetingCell])), (qw_arrivals, .inl (cI, 24, .inl (g336))), (qd, .inr (0, [.int vd_gap, .int vd_odds, .int vd_rain, .int vd_lines, .ref qd_steps, .ref qd_lengths, .ref qd_starts, .ref qd_met, .ref qd_stumbles, .int vd_stumbleCount, .ref qd_muds, .ref qd_cells, .int vd_cellCount, .ref qd_tunes, .int vd_tuneCount, .ref qd_changes, .int vd_changeCount])), (qd_cells, .inl (cI, 24, .inl (fd_cells)))] := hD
      have hz := hw
      have h_r364 : 0 ≤ r364.toInt ∧ (r364.toInt < z359.toInt ∨ r364.toInt = 0) := hz
      refine lv_iconst (v := 1) hx hb dX10_through_71 (by decide) ?_
      refine lv_iadd hx hb dX10_through_72 ?_
      refine lv_topi (fun z365 ez365 => ?_)
      have fz365 : z365.toInt = r364.toInt + 1 := by rw [ez365]; exact tq_add rfl (by decide) (by omega)
      refine lv_iadd hx hb dX10_through_73 ?_
      refine lv_topi (fun z366 ez366 => ?_)
      refine lv_istore (lv' := [(4, .int z366), (8, .int z362), (7, .int z359), (6, .int x338), (5, .int x338), (0, .ref qw), (1, .ref qd), (2, .int a2), (3, .int a3)]) hx hb dX10_through_74 hl (by decide) rfl (fun ls hl => ?_)
      refine lv_aload_n hx hb dX10_through_76 rfl (lv_at hl 5 rfl) ?_
      refine va_get (D := D) (ci := 10) (v := .ref qw_arrivals) (C := RX10) (T := TX10) (N := 3) hx hb hts hi10 hown hK hP 0 rfl rfl 0 (by decide) (hts (.fieldLink RX10 9 "OverHill$Wood" "arrivals" "[I") (by decide +kernel)) (fun _ h9 => h9) rfl dX10_through_77 ?_
      refine lv_iload_n hx hb dX10_through_80 rfl (lv_at hl 7 rfl) ?_
      refine lv_bipush (v := 12) hx hb dX10_through_81 (by decide) ?_
      refine lv_imul hx hb dX10_through_83 ?_
      refine lv_topi (fun z367 ez367 => ?_)
      have fz367 : z367.toInt = a2.toInt * 12 := by rw [ez367]; exact tq_mul rfl (by decide) (by omega)
      refine lv_iload hx hb dX10_through_84 (lv_at hl 3 rfl) ?_
      refine lv_iadd hx hb dX10_through_86 ?_
      refine lv_topi (fun z368 ez368 => ?_)
      have fz368 : z368.toInt = z367.toInt + x338.toInt := by rw [ez368]; exact tq_add rfl rfl (by omega)
      refine lv_iload hx hb dX10_through_87 (lv_at hl 0 rfl) ?_
      refine va_iast (D := D) hx hb hK hP hD hS 1 0 rfl rfl (tq_in rfl (by omega)) dX10_through_89 (fun H locs hP hD hS => ?_)
      obtain ⟨g369, hP, hD⟩ : ∃ g369 : Nat → Int32, va_P D vwCl [(qw, .inr (10, [.ref qw_arrivals, .int vw_meetingBeat, .int vw_meetingCell])), (qw_arrivals, .inl (cI, 24, .inl (g369))), (qd, .inr (0, [.int vd_gap, .int vd_odds, .int vd_rain, .int vd_lines, .ref qd_steps, .ref qd_lengths, .ref qd_starts, .ref qd_met, .ref qd_stumbles, .int vd_stumbleCount, .ref qd_muds, .ref qd_cells, .int vd_cellCount, .ref qd_tunes, .int vd_tuneCount, .ref qd_changes, .int vd_changeCount])), (qd_cells, .inl (cI, 24, .inl (fd_cells)))] H ∧ va_D A [(qw, .inr (10, [.ref qw_arrivals, .int vw_meetingBeat, .int vw_meetingCell])), (qw_arrivals, .inl (cI, 24, .inl (g369))), (qd, .inr (0, [.int vd_gap, .int vd_odds, .int vd_rain, .int vd_lines, .ref qd_steps, .ref qd_lengths, .ref qd_starts, .ref qd_met, .ref qd_stumbles, .int vd_stumbleCount, .ref qd_muds, .ref qd_cells, .int vd_cellCount, .ref qd_tunes, .int vd_tuneCount, .ref qd_changes, .int vd_changeCount])), (qd_cells, .inl (cI, 24, .inl (fd_cells)))] := ⟨_, hP, hD⟩
      obtain ⟨z370, ez370⟩ : ∃ z : Int32, z = x338 + 1 := ⟨_, rfl⟩
      have fz370 : z370.toInt = x338.toInt + 1 := by rw [ez370]; exact tq_add rfl (by decide) (by omega)
      refine lv_iinc (v := z370) (lv' := [(5, .int z370), (4, .int z366), (8, .int z362), (7, .int z359), (6, .int x338), (0, .ref qw), (1, .ref qd), (2, .int a2), (3, .int a3)]) hx hb dX10_through_90 hl (k := 4) rfl ez370.symm (by decide) rfl (fun ls hl => ?_)
      refine lv_goto (tgt := 6) hx hb dX10_through_93 (by decide) ?_
      exact ih339 (g369, z366, z370) _ _ _ (show (12 - z370.toInt).toNat < (12 - x338.toInt).toNat by omega) ⟨(show 0 ≤ z370.toInt ∧ z370.toInt ≤ 12 by omega), hP, hD, hS, lv_sub hl [0, 1, 5, 6, 7, 8] rfl⟩
abbrev w_c_X10_findMeeting (cI cJ cB cZ cO : ClassId) (qw : Nat) (qw_arrivals : Nat) (fw_arrivals : Nat → Int32) (vw_meetingBeat : Int32) (vw_meetingCell : Int32) (qd : Nat) (vd_gap : Int32) (vd_odds : Int32) (vd_rain : Int32) (vd_lines : Int32) (qd_steps : Nat) (qd_lengths : Nat) (qd_starts : Nat) (qd_met : Nat) (qd_stumbles : Nat) (vd_stumbleCount : Int32) (qd_muds : Nat) (qd_cells : Nat) (fd_cells : Nat → Int32) (vd_cellCount : Int32) (qd_tunes : Nat) (vd_tuneCount : Int32) (qd_changes : Nat) (vd_changeCount : Int32) : va_W := [(qw, .inr (10, [.ref qw_arrivals, .int vw_meetingBeat, .int vw_meetingCell])), (qw_arrivals, .inl (cI, 24, .inl (fw_arrivals))), (qd, .inr (0, [.int vd_gap, .int vd_odds, .int vd_rain, .int vd_lines, .ref qd_steps, .ref qd_lengths, .ref qd_starts, .ref qd_met, .ref qd_stumbles, .int vd_stumbleCount, .ref qd_muds, .ref qd_cells, .int vd_cellCount, .ref qd_tunes, .int vd_tuneCount, .ref qd_changes, .int vd_changeCount])), (qd_cells, .inl (cI, 24, .inl (fd_cells)))]
set_option maxHeartbeats 4000000 in
set_option maxRecDepth 100000 in
/-- X10 findMeeting -/
theorem c_X10_findMeeting (l : Launch) (D : va_G) (G : ct_G) (cI cJ cB cZ cO : ClassId) (qw : Nat) (qw_arrivals : Nat) (fw_arrivals : Nat → Int32) (vw_meetingBeat : Int32) (vw_meetingCell : Int32) (qd : Nat) (vd_gap : Int32) (vd_odds : Int32) (vd_rain : Int32) (vd_lines : Int32) (qd_steps : Nat) (qd_lengths : Nat) (qd_starts : Nat) (qd_met : Nat) (qd_stumbles : Nat) (vd_stumbleCount : Int32) (qd_muds : Nat) (qd_cells : Nat) (fd_cells : Nat → Int32) (vd_cellCount : Int32) (qd_tunes : Nat) (vd_tuneCount : Int32) (qd_changes : Nat) (vd_changeCount : Int32) (a2 : Int32) (a3 : Int32) (h_vd_gap : 0 ≤ vd_gap.toInt ∧ vd_gap.toInt ≤ 20) (h_vd_stumbleCount : 0 ≤ vd_stumbleCount.toInt ∧ vd_stumbleCount.toInt ≤ 8) (h_vd_cellCount : 0 ≤ vd_cellCount.toInt ∧ vd_cellCount.toInt ≤ 12) (h_vd_tuneCount : 0 ≤ vd_tuneCount.toInt ∧ vd_tuneCount.toInt ≤ 5) (h_vd_changeCount : 0 ≤ vd_changeCount.toInt ∧ vd_changeCount.toInt ≤ 40) (sz : Nat) : Met l yX10_findMeeting wsX10_findMeeting ({ frames := 3, cells := 0, slots := 0, locals := 71 }) (va_Pc [.ref qw, .ref qd, .int a2, .int a3] (ct_P D (ct_T cI cJ cB cZ cO) G (w_c_X10_findMeeting cI cJ cB cZ cO qw qw_arrivals fw_arrivals vw_meetingBeat vw_meetingCell qd vd_gap vd_odds vd_rain vd_lines qd_steps qd_lengths qd_starts qd_met qd_stumbles vd_stumbleCount qd_muds qd_cells fd_cells vd_cellCount qd_tunes vd_tuneCount qd_changes vd_changeCount) sz)) (va_Qv (fun (u : Int32 × Int32 × (Nat → Int32)) => True) (fun (u : Int32 × Int32 × (Nat → Int32)) t => ct_Q D (va_A (w_c_X10_findMeeting cI cJ cB cZ cO qw qw_arrivals fw_arrivals vw_meetingBeat vw_meetingCell qd vd_gap vd_odds vd_rain vd_lines qd_steps qd_lengths qd_starts qd_met qd_stumbles vd_stumbleCount qd_muds qd_cells fd_cells vd_cellCount qd_tunes vd_tuneCount qd_changes vd_changeCount) sz) [(qw, .inr (10, [.ref qw_arrivals, .int u.1, .int u.2.1])), (qw_arrivals, .inl (cI, 24, .inl (u.2.2))), (qd, .inr (0, [.int vd_gap, .int vd_odds, .int vd_rain, .int vd_lines, .ref qd_steps, .ref qd_lengths, .ref qd_starts, .ref qd_met, .ref qd_stumbles, .int vd_stumbleCount, .ref qd_muds, .ref qd_cells, .int vd_cellCount, .ref qd_tunes, .int vd_tuneCount, .ref qd_changes, .int vd_changeCount])), (qd_cells, .inl (cI, 24, .inl (fd_cells)))] t) (va_A (w_c_X10_findMeeting cI cJ cB cZ cO qw qw_arrivals fw_arrivals vw_meetingBeat vw_meetingCell qd vd_gap vd_odds vd_rain vd_lines qd_steps qd_lengths qd_starts qd_met qd_stumbles vd_stumbleCount qd_muds qd_cells fd_cells vd_cellCount qd_tunes vd_tuneCount qd_changes vd_changeCount) sz)) 0 0 (va_A (w_c_X10_findMeeting cI cJ cB cZ cO qw qw_arrivals fw_arrivals vw_meetingBeat vw_meetingCell qd vd_gap vd_odds vd_rain vd_lines qd_steps qd_lengths qd_starts qd_met qd_stumbles vd_stumbleCount qd_muds qd_cells fd_cells vd_cellCount qd_tunes vd_tuneCount qd_changes vd_changeCount) sz) := by
  refine Met.ofW (cc := cX10_findMeeting) (maxL := 6) (ret := none) (by decide) rfl ?_
  intro p e s m args below meth c s₁ B hml hv
  obtain ⟨rfl, hsz, hP, hE, hD0, hH⟩ := hv
  have hx := B.exec
  have hb := B.bytes
  have hr := B.returns
  have hts := atoms_spec (ws := wsX10_findMeeting) B.pre
  have hown : s.vm.findClass RX10 = some m.cls := findClass_of_methodNamed B.named
  have hlocks := B.notSynchronized
  have hK := hE.1
  have hi0 : ∀ w ∈ u_ws RX0 TX0 17, w ∈ wsX10_findMeeting := fun w h => List.mem_cons_of_mem _ (List.mem_append_right _ h)
  have hi10 : ∀ w ∈ u_ws RX10 TX10 3, w ∈ wsX10_findMeeting := fun w h => List.mem_cons_of_mem _ (List.mem_append_left _ (List.mem_append_right _ h))
  subst hsz
  have hD := hD0.self (sz := s.heap.size)
  generalize hAe : va_A (w_c_X10_findMeeting cI cJ cB cZ cO qw qw_arrivals fw_arrivals vw_meetingBeat vw_meetingCell qd vd_gap vd_odds vd_rain vd_lines qd_steps qd_lengths qd_starts qd_met qd_stumbles vd_stumbleCount qd_muds qd_cells fd_cells vd_cellCount qd_tunes vd_tuneCount qd_changes vd_changeCount) s.heap.size = A at hD hH ⊢
  have hA : ∀ q : Nat, s.heap.size ≤ q → A q := fun q h => by rw [← hAe]; exact Or.inr h
  have hS : va_S A s.heap s.heap [] := va_S.rf
  have hP : va_P D vwCl [(qw, .inr (10, [.ref qw_arrivals, .int vw_meetingBeat, .int vw_meetingCell])), (qw_arrivals, .inl (cI, 24, .inl (fw_arrivals))), (qd, .inr (0, [.int vd_gap, .int vd_odds, .int vd_rain, .int vd_lines, .ref qd_steps, .ref qd_lengths, .ref qd_starts, .ref qd_met, .ref qd_stumbles, .int vd_stumbleCount, .ref qd_muds, .ref qd_cells, .int vd_cellCount, .ref qd_tunes, .int vd_tuneCount, .ref qd_changes, .int vd_changeCount])), (qd_cells, .inl (cI, 24, .inl (fd_cells)))] s.heap := hP
  have hD : va_D A [(qw, .inr (10, [.ref qw_arrivals, .int vw_meetingBeat, .int vw_meetingCell])), (qw_arrivals, .inl (cI, 24, .inl (fw_arrivals))), (qd, .inr (0, [.int vd_gap, .int vd_odds, .int vd_rain, .int vd_lines, .ref qd_steps, .ref qd_lengths, .ref qd_starts, .ref qd_met, .ref qd_stumbles, .int vd_stumbleCount, .ref qd_muds, .ref qd_cells, .int vd_cellCount, .ref qd_tunes, .int vd_tuneCount, .ref qd_changes, .int vd_changeCount])), (qd_cells, .inl (cI, 24, .inl (fd_cells)))] := hD
  have hl := lv_entry ([.ref qw, .ref qd, .int a2, .int a3]) (n := 6) (Nat.le_of_ble_eq_true rfl)
  rw [lg_entry_eq]
  generalize (lg_sl ([.ref qw, .ref qd, .int a2, .int a3]) ++ List.replicate (6 - (lg_sl ([.ref qw, .ref qd, .int a2, .int a3])).length) Slot.unset).toArray = ls at hl ⊢
  have hl : lv_has ls 6 [(0, .ref qw), (1, .ref qd), (2, .int a2), (3, .int a3)] := hl
  obtain ⟨H, hHe⟩ : ∃ H : Heap, H = s.heap := ⟨_, rfl⟩
  rw [← hHe] at hP
  have hS : va_S A s.heap H [] := by rw [hHe]; exact va_S.rf
  refine ct_start hHe ?_
  refine lv_aload_n hx hb dX10_findMeeting_0 rfl (lv_at hl 0 rfl) ?_
  refine lv_aload_n hx hb dX10_findMeeting_1 rfl (lv_at hl 1 rfl) ?_
  refine lv_iconst (v := 0) hx hb dX10_findMeeting_2 (by decide) ?_
  refine lv_iload_n hx hb dX10_findMeeting_3 rfl (lv_at hl 2 rfl) ?_
  refine ct_calli (D := D) (wc := (w_c_X10_through cI cJ cB cZ cO qw qw_arrivals fw_arrivals vw_meetingBeat vw_meetingCell qd vd_gap vd_odds vd_rain vd_lines qd_steps qd_lengths qd_starts qd_met qd_stumbles vd_stumbleCount qd_muds qd_cells fd_cells vd_cellCount qd_tunes vd_tuneCount qd_changes vd_changeCount)) (wr := []) (va_runV (As := [.ref qd, .int 0, .int a2]) (rest := []) ⟨hx, hb, hml, hown, hts⟩ (c_X10_through l D G cI cJ cB cZ cO qw qw_arrivals fw_arrivals vw_meetingBeat vw_meetingCell qd vd_gap vd_odds vd_rain vd_lines qd_steps qd_lengths qd_starts qd_met qd_stumbles vd_stumbleCount qd_muds qd_cells fd_cells vd_cellCount qd_tunes vd_tuneCount qd_changes vd_changeCount 0 a2 (by omega) (by omega) (by omega) (by omega) (by omega) (by decide) H.size) (cwV 3 hts gX10_findMeeting_X10_through rfl rfl rfl (by decide +kernel) ⟨Nat.le_of_ble_eq_true rfl, Nat.le_of_ble_eq_true rfl⟩) (ct_preV (T := ct_T cI cJ cB cZ cO) (ci := 10) (q0 := 0) hE hH hP hD hS hA [0, 1, 2, 3] (by decide) rfl rfl rfl) rfl rfl hl.1 rfl (lv_room (Nat.le_of_ble_eq_true rfl)) dX10_findMeeting_4 ⟨Nat.le_of_ble_eq_true rfl, Nat.le_of_ble_eq_true rfl⟩) hP hD hS hA [0, 1, 2, 3] [] rfl rfl (by decide) (by decide) (fun r1 u H locs hw hP hD hS => ?_)
  obtain ⟨g2, rfl⟩ : ∃ z, z = u := ⟨_, rfl⟩
  have hP : va_P D vwCl [(qw, .inr (10, [.ref qw_arrivals, .int vw_meetingBeat, .int vw_meetingCell])), (qw_arrivals, .inl (cI, 24, .inl (g2))), (qd, .inr (0, [.int vd_gap, .int vd_odds, .int vd_rain, .int vd_lines, .ref qd_steps, .ref qd_lengths, .ref qd_starts, .ref qd_met, .ref qd_stumbles, .int vd_stumbleCount, .ref qd_muds, .ref qd_cells, .int vd_cellCount, .ref qd_tunes, .int vd_tuneCount, .ref qd_changes, .int vd_changeCount])), (qd_cells, .inl (cI, 24, .inl (fd_cells)))] H := hP
  have hD : va_D A [(qw, .inr (10, [.ref qw_arrivals, .int vw_meetingBeat, .int vw_meetingCell])), (qw_arrivals, .inl (cI, 24, .inl (g2))), (qd, .inr (0, [.int vd_gap, .int vd_odds, .int vd_rain, .int vd_lines, .ref qd_steps, .ref qd_lengths, .ref qd_starts, .ref qd_met, .ref qd_stumbles, .int vd_stumbleCount, .ref qd_muds, .ref qd_cells, .int vd_cellCount, .ref qd_tunes, .int vd_tuneCount, .ref qd_changes, .int vd_changeCount])), (qd_cells, .inl (cI, 24, .inl (fd_cells)))] := hD
  refine lv_pop hx hb dX10_findMeeting_7 rfl ?_
  refine lv_aload_n hx hb dX10_findMeeting_8 rfl (lv_at hl 0 rfl) ?_
  refine lv_aload_n hx hb dX10_findMeeting_9 rfl (lv_at hl 1 rfl) ?_
  refine lv_iconst (v := 1) hx hb dX10_findMeeting_10 (by decide) ?_
  refine lv_iload_n hx hb dX10_findMeeting_11 rfl (lv_at hl 3 rfl) ?_
  refine ct_calli (D := D) (wc := (w_c_X10_through cI cJ cB cZ cO qw qw_arrivals g2 vw_meetingBeat vw_meetingCell qd vd_gap vd_odds vd_rain vd_lines qd_steps qd_lengths qd_starts qd_met qd_stumbles vd_stumbleCount qd_muds qd_cells fd_cells vd_cellCount qd_tunes vd_tuneCount qd_changes vd_changeCount)) (wr := []) (va_runV (As := [.ref qd, .int 1, .int a3]) (rest := []) ⟨hx, hb, hml, hown, hts⟩ (c_X10_through l D G cI cJ cB cZ cO qw qw_arrivals g2 vw_meetingBeat vw_meetingCell qd vd_gap vd_odds vd_rain vd_lines qd_steps qd_lengths qd_starts qd_met qd_stumbles vd_stumbleCount qd_muds qd_cells fd_cells vd_cellCount qd_tunes vd_tuneCount qd_changes vd_changeCount 1 a3 (by omega) (by omega) (by omega) (by omega) (by omega) (by decide) H.size) (cwV 3 hts gX10_findMeeting_X10_through rfl rfl rfl (by decide +kernel) ⟨Nat.le_of_ble_eq_true rfl, Nat.le_of_ble_eq_true rfl⟩) (ct_preV (T := ct_T cI cJ cB cZ cO) (ci := 10) (q0 := 0) hE hH hP hD hS hA [0, 1, 2, 3] (by decide) rfl rfl rfl) rfl rfl hl.1 rfl (lv_room (Nat.le_of_ble_eq_true rfl)) dX10_findMeeting_12 ⟨Nat.le_of_ble_eq_true rfl, Nat.le_of_ble_eq_true rfl⟩) hP hD hS hA [0, 1, 2, 3] [] rfl rfl (by decide) (by decide) (fun r3 u H locs hw hP hD hS => ?_)
  obtain ⟨g4, rfl⟩ : ∃ z, z = u := ⟨_, rfl⟩
  have hP : va_P D vwCl [(qw, .inr (10, [.ref qw_arrivals, .int vw_meetingBeat, .int vw_meetingCell])), (qw_arrivals, .inl (cI, 24, .inl (g4))), (qd, .inr (0, [.int vd_gap, .int vd_odds, .int vd_rain, .int vd_lines, .ref qd_steps, .ref qd_lengths, .ref qd_starts, .ref qd_met, .ref qd_stumbles, .int vd_stumbleCount, .ref qd_muds, .ref qd_cells, .int vd_cellCount, .ref qd_tunes, .int vd_tuneCount, .ref qd_changes, .int vd_changeCount])), (qd_cells, .inl (cI, 24, .inl (fd_cells)))] H := hP
  have hD : va_D A [(qw, .inr (10, [.ref qw_arrivals, .int vw_meetingBeat, .int vw_meetingCell])), (qw_arrivals, .inl (cI, 24, .inl (g4))), (qd, .inr (0, [.int vd_gap, .int vd_odds, .int vd_rain, .int vd_lines, .ref qd_steps, .ref qd_lengths, .ref qd_starts, .ref qd_met, .ref qd_stumbles, .int vd_stumbleCount, .ref qd_muds, .ref qd_cells, .int vd_cellCount, .ref qd_tunes, .int vd_tuneCount, .ref qd_changes, .int vd_changeCount])), (qd_cells, .inl (cI, 24, .inl (fd_cells)))] := hD
  refine lv_pop hx hb dX10_findMeeting_15 rfl ?_
  refine lv_aload_n hx hb dX10_findMeeting_16 rfl (lv_at hl 0 rfl) ?_
  refine lv_iconst (v := (-1)) hx hb dX10_findMeeting_17 (by decide) ?_
  refine va_put (D := D) (ci := 10) (v := .int (-1)) (ty := .int) (C := RX10) (T := TX10) (N := 3) hx hb hts hi10 tyX10 tyX10_ok nmX10 hown hK hP hD hS 0 rfl rfl 1 (by decide) (hts (.fieldLink RX10 32 "OverHill$Wood" "meetingBeat" "I") (by decide +kernel)) (fun _ h9 => h9) rfl (by decide +kernel) rfl rfl (Nat.le_of_ble_eq_true rfl) dX10_findMeeting_18 (fun H locs hP hD hS => ?_)
  have hP : va_P D vwCl [(qw, .inr (10, [.ref qw_arrivals, .int (-1), .int vw_meetingCell])), (qw_arrivals, .inl (cI, 24, .inl (g4))), (qd, .inr (0, [.int vd_gap, .int vd_odds, .int vd_rain, .int vd_lines, .ref qd_steps, .ref qd_lengths, .ref qd_starts, .ref qd_met, .ref qd_stumbles, .int vd_stumbleCount, .ref qd_muds, .ref qd_cells, .int vd_cellCount, .ref qd_tunes, .int vd_tuneCount, .ref qd_changes, .int vd_changeCount])), (qd_cells, .inl (cI, 24, .inl (fd_cells)))] H := hP
  have hD : va_D A [(qw, .inr (10, [.ref qw_arrivals, .int (-1), .int vw_meetingCell])), (qw_arrivals, .inl (cI, 24, .inl (g4))), (qd, .inr (0, [.int vd_gap, .int vd_odds, .int vd_rain, .int vd_lines, .ref qd_steps, .ref qd_lengths, .ref qd_starts, .ref qd_met, .ref qd_stumbles, .int vd_stumbleCount, .ref qd_muds, .ref qd_cells, .int vd_cellCount, .ref qd_tunes, .int vd_tuneCount, .ref qd_changes, .int vd_changeCount])), (qd_cells, .inl (cI, 24, .inl (fd_cells)))] := hD
  refine lv_aload_n hx hb dX10_findMeeting_21 rfl (lv_at hl 0 rfl) ?_
  refine lv_iconst (v := (-1)) hx hb dX10_findMeeting_22 (by decide) ?_
  refine va_put (D := D) (ci := 10) (v := .int (-1)) (ty := .int) (C := RX10) (T := TX10) (N := 3) hx hb hts hi10 tyX10 tyX10_ok nmX10 hown hK hP hD hS 0 rfl rfl 2 (by decide) (hts (.fieldLink RX10 35 "OverHill$Wood" "meetingCell" "I") (by decide +kernel)) (fun _ h9 => h9) rfl (by decide +kernel) rfl rfl (Nat.le_of_ble_eq_true rfl) dX10_findMeeting_23 (fun H locs hP hD hS => ?_)
  have hP : va_P D vwCl [(qw, .inr (10, [.ref qw_arrivals, .int (-1), .int (-1)])), (qw_arrivals, .inl (cI, 24, .inl (g4))), (qd, .inr (0, [.int vd_gap, .int vd_odds, .int vd_rain, .int vd_lines, .ref qd_steps, .ref qd_lengths, .ref qd_starts, .ref qd_met, .ref qd_stumbles, .int vd_stumbleCount, .ref qd_muds, .ref qd_cells, .int vd_cellCount, .ref qd_tunes, .int vd_tuneCount, .ref qd_changes, .int vd_changeCount])), (qd_cells, .inl (cI, 24, .inl (fd_cells)))] H := hP
  have hD : va_D A [(qw, .inr (10, [.ref qw_arrivals, .int (-1), .int (-1)])), (qw_arrivals, .inl (cI, 24, .inl (g4))), (qd, .inr (0, [.int vd_gap, .int vd_odds, .int vd_rain, .int vd_lines, .ref qd_steps, .ref qd_lengths, .ref qd_starts, .ref qd_met, .ref qd_stumbles, .int vd_stumbleCount, .ref qd_muds, .ref qd_cells, .int vd_cellCount, .ref qd_tunes, .int vd_tuneCount, .ref qd_changes, .int vd_changeCount])), (qd_cells, .inl (cI, 24, .inl (fd_cells)))] := hD
  refine lv_iconst (v := 0) hx hb dX10_findMeeting_26 (by decide) ?_
  refine lv_istore (lv' := [(4, .int 0), (0, .ref qw), (1, .ref qd), (2, .int a2), (3, .int a3)]) hx hb dX10_findMeeting_27 hl (by decide) rfl (fun ls hl => ?_)
  refine ct_loop (X := Int32 × Int32 × Int32) (fun x => (12 - x.2.2.toInt).toNat) (fun x H locs ls => (((-1) ≤ x.2.1.toInt ∧ x.2.1.toInt ≤ 11)) ∧ ((0 ≤ x.2.2.toInt ∧ x.2.2.toInt ≤ 12)) ∧ va_P D vwCl [(qw, .inr (10, [.ref qw_arrivals, .int x.1, .int x.2.1])), (qw_arrivals, .inl (cI, 24, .inl (g4))), (qd, .inr (0, [.int vd_gap, .int vd_odds, .int vd_rain, .int vd_lines, .ref qd_steps, .ref qd_lengths, .ref qd_starts, .ref qd_met, .ref qd_stumbles, .int vd_stumbleCount, .ref qd_muds, .ref qd_cells, .int vd_cellCount, .ref qd_tunes, .int vd_tuneCount, .ref qd_changes, .int vd_changeCount])), (qd_cells, .inl (cI, 24, .inl (fd_cells)))] H ∧ va_D A [(qw, .inr (10, [.ref qw_arrivals, .int x.1, .int x.2.1])), (qw_arrivals, .inl (cI, 24, .inl (g4))), (qd, .inr (0, [.int vd_gap, .int vd_odds, .int vd_rain, .int vd_lines, .ref qd_steps, .ref qd_lengths, .ref qd_starts, .ref qd_met, .ref qd_stumbles, .int vd_stumbleCount, .ref qd_muds, .ref qd_cells, .int vd_cellCount, .ref qd_tunes, .int vd_tuneCount, .ref qd_changes, .int vd_changeCount])), (qd_cells, .inl (cI, 24, .inl (fd_cells)))] ∧ va_S A s.heap H locs ∧ lv_has ls 6 [(4, .int x.2.2), (0, .ref qw), (1, .ref qd), (2, .int a2), (3, .int a3)]) 29 ((-1 : Int32), (-1 : Int32), (0 : Int32)) ⟨(show (-1) ≤ (-1 : Int32).toInt ∧ (-1 : Int32).toInt ≤ 11 by decide), (show 0 ≤ (0 : Int32).toInt ∧ (0 : Int32).toInt ≤ 12 by decide), hP, hD, hS, lv_sub hl [0, 1, 2, 3, 4] rfl⟩ (fun x ih166 H locs ls hI => ?_)
  obtain ⟨x163, x164, x165⟩ := x
  obtain ⟨h_x164, h_x165, hP, hD, hS, hl⟩ := hI
  have h_x164 : ((-1) ≤ x164.toInt ∧ x164.toInt ≤ 11) := h_x164
  have h_x165 : (0 ≤ x165.toInt ∧ x165.toInt ≤ 12) := h_x165
  have hP : va_P D vwCl [(qw, .inr (10, [.ref qw_arrivals, .int x163, .int x164])), (qw_arrivals, .inl (cI, 24, .inl (g4))), (qd, .inr (0, [.int vd_gap, .int vd_odds, .int vd_rain, .int vd_lines, .ref qd_steps, .ref qd_lengths, .ref qd_starts, .ref qd_met, .ref qd_stumbles, .int vd_stumbleCount, .ref qd_muds, .ref qd_cells, .int vd_cellCount, .ref qd_tunes, .int vd_tuneCount, .ref qd_changes, .int vd_changeCount])), (qd_cells, .inl (cI, 24, .inl (fd_cells)))] H := hP
  have hD : va_D A [(qw, .inr (10, [.ref qw_arrivals, .int x163, .int x164])), (qw_arrivals, .inl (cI, 24, .inl (g4))), (qd, .inr (0, [.int vd_gap, .int vd_odds, .int vd_rain, .int vd_lines, .ref qd_steps, .ref qd_lengths, .ref qd_starts, .ref qd_met, .ref qd_stumbles, .int vd_stumbleCount, .ref qd_muds, .ref qd_cells, .int vd_cellCount, .ref qd_tunes, .int vd_tuneCount, .ref qd_changes, .int vd_changeCount])), (qd_cells, .inl (cI, 24, .inl (fd_cells)))] := hD
  have hl : lv_has ls 6 [(4, .int x165), (0, .ref qw), (1, .ref qd), (2, .int a2), (3, .int a3)] := hl
  refine lv_iload hx hb dX10_findMeeting_29 (lv_at hl 0 rfl) ?_
  refine lv_aload_n hx hb dX10_findMeeting_31 rfl (lv_at hl 2 rfl) ?_
  refine va_get (D := D) (ci := 0) (v := .int vd_cellCount) (C := RX0) (T := TX0) (N := 17) hx hb hts hi0 hown hK hP 2 rfl rfl 12 (by decide) (hts (.fieldLink RX10 15 "OverHill$Dance" "cellCount" "I") (by decide +kernel)) (fun _ h9 => h9) rfl dX10_findMeeting_32 ?_
  refine lv_icmp_ge (tgt := 95) hx hb dX10_findMeeting_35 (by decide) (fun hc => ?_) (fun hc => ?_)
  · have hq167 : vd_cellCount.toInt ≤ x165.toInt := tq_le rfl rfl hc
    have hP9 := hP.sub (ws' := [(qw, .inr (10, [.ref qw_arrivals, .int x163, .int x164])), (qw_arrivals, .inl (cI, 24, .inl (g4))), (qd, .inr (0, [.int vd_gap, .int vd_odds, .int vd_rain, .int vd_lines, .ref qd_steps, .ref qd_lengths, .ref qd_starts, .ref qd_met, .ref qd_stumbles, .int vd_stumbleCount, .ref qd_muds, .ref qd_cells, .int vd_cellCount, .ref qd_tunes, .int vd_tuneCount, .ref qd_changes, .int vd_changeCount])), (qd_cells, .inl (cI, 24, .inl (fd_cells)))]) [0, 1, 2, 3] rfl
    have hD9 := hD.sub (ws' := [(qw, .inr (10, [.ref qw_arrivals, .int x163, .int x164])), (qw_arrivals, .inl (cI, 24, .inl (g4))), (qd, .inr (0, [.int vd_gap, .int vd_odds, .int vd_rain, .int vd_lines, .ref qd_steps, .ref qd_lengths, .ref qd_starts, .ref qd_met, .ref qd_stumbles, .int vd_stumbleCount, .ref qd_muds, .ref qd_cells, .int vd_cellCount, .ref qd_tunes, .int vd_tuneCount, .ref qd_changes, .int vd_changeCount])), (qd_cells, .inl (cI, 24, .inl (fd_cells)))]) [0, 1, 2, 3] (by decide) rfl
    exact W.vret hx hb hr (fun t ht hW => ⟨⟨(x163, x164, g4), rfl, trivial, by rw [ht]; exact hP9, hD9⟩, hS.F ht⟩) hS.2.2 dX10_findMeeting_95
  · have hq167 : x165.toInt < vd_cellCount.toInt := tq_nle rfl rfl hc
    refine lv_aload_n hx hb dX10_findMeeting_38 rfl (lv_at hl 1 rfl) ?_
    refine va_get (D := D) (ci := 10) (v := .ref qw_arrivals) (C := RX10) (T := TX10) (N := 3) hx hb hts hi10 hown hK hP 0 rfl rfl 0 (by decide) (hts (.fieldLink RX10 9 "OverHill$Wood" "arrivals" "[I") (by decide +kernel)) (fun _ h9 => h9) rfl dX10_findMeeting_39 ?_
    refine lv_iload hx hb dX10_findMeeting_42 (lv_at hl 0 rfl) ?_
    refine va_iald (D := D) hx hb hK hP 1 0 rfl rfl (tq_in rfl (by omega)) dX10_findMeeting_44 ?_
    refine lv_topi (fun z168 ez168 => ?_)
    refine lv_aload_n hx hb dX10_findMeeting_45 rfl (lv_at hl 1 rfl) ?_
    refine va_get (D := D) (ci := 10) (v := .ref qw_arrivals) (C := RX10) (T := TX10) (N := 3) hx hb hts hi10 hown hK hP 0 rfl rfl 0 (by decide) (hts (.fieldLink RX10 9 "OverHill$Wood" "arrivals" "[I") (by decide +kernel)) (fun _ h9 => h9) rfl dX10_findMeeting_46 ?_
    refine lv_bipush (v := 12) hx hb dX10_findMeeting_49 (by decide) ?_
    refine lv_iload hx hb dX10_findMeeting_51 (lv_at hl 0 rfl) ?_
    refine lv_iadd hx hb dX10_findMeeting_53 ?_
    refine lv_topi (fun z169 ez169 => ?_)
    have fz169 : z169.toInt = 12 + x165.toInt := by rw [ez169]; exact tq_add (by decide) rfl (by omega)
    refine va_iald (D := D) hx hb hK hP 1 0 rfl rfl (tq_in rfl (by omega)) dX10_findMeeting_54 ?_
    refine lv_topi (fun z170 ez170 => ?_)
    refine va_mmax hx hb (hml.trans hl.1.symm) hown (hts (.methodLink RX10 38 Lib.Math.max.name) (by decide +kernel)) (hts (.static Lib.Math.max.name) (by decide +kernel)) (hts (.initialized "java/lang/Math") (by decide +kernel)) (hts (.code Lib.Math.max.name Lib.Math.max.code 2 (some .int)) (by decide +kernel)) (Nat.le_of_ble_eq_true rfl) (Nat.le_of_ble_eq_true rfl) (Nat.le_of_ble_eq_true rfl) (Nat.le_of_ble_eq_true rfl) dX10_findMeeting_55 ?_
    refine lv_topi (fun z171 ez171 => ?_)
    have fz171 : (z171.toInt = z168.toInt ∨ z171.toInt = z170.toInt) ∧ z168.toInt ≤ z171.toInt ∧ z170.toInt ≤ z171.toInt := by rw [ez171]; exact tq_max rfl rfl
    refine lv_istore (lv' := [(5, .int z171), (4, .int x165), (0, .ref qw), (1, .ref qd), (2, .int a2), (3, .int a3)]) hx hb dX10_findMeeting_58 hl (by decide) rfl (fun ls hl => ?_)
    refine lv_aload_n hx hb dX10_findMeeting_60 rfl (lv_at hl 2 rfl) ?_
    refine va_get (D := D) (ci := 10) (v := .int x164) (C := RX10) (T := TX10) (N := 3) hx hb hts hi10 hown hK hP 0 rfl rfl 2 (by decide) (hts (.fieldLink RX10 35 "OverHill$Wood" "meetingCell" "I") (by decide +kernel)) (fun _ h9 => h9) rfl dX10_findMeeting_61 ?_
    refine lv_iconst (v := (-1)) hx hb dX10_findMeeting_64 (by decide) ?_
    refine lv_icmp_eq (tgt := 77) hx hb dX10_findMeeting_65 (by decide) (fun hc => ?_) (fun hc => ?_)
    · have hq172 : x164.toInt = (-1) := tq_eq rfl (by decide) hc
      refine lv_aload_n hx hb dX10_findMeeting_77 rfl (lv_at hl 2 rfl) ?_
      refine lv_iload hx hb dX10_findMeeting_78 (lv_at hl 0 rfl) ?_
      refine va_put (D := D) (ci := 10) (v := .int z171) (ty := .int) (C := RX10) (T := TX10) (N := 3) hx hb hts hi10 tyX10 tyX10_ok nmX10 hown hK hP hD hS 0 rfl rfl 1 (by decide) (hts (.fieldLink RX10 32 "OverHill$Wood" "meetingBeat" "I") (by decide +kernel)) (fun _ h9 => h9) rfl (by decide +kernel) rfl rfl (Nat.le_of_ble_eq_true rfl) dX10_findMeeting_80 (fun H locs hP hD hS => ?_)
      have hP : va_P D vwCl [(qw, .inr (10, [.ref qw_arrivals, .int z171, .int x164])), (qw_arrivals, .inl (cI, 24, .inl (g4))), (qd, .inr (0, [.int vd_gap, .int vd_odds, .int vd_rain, .int vd_lines, .ref qd_steps, .ref qd_lengths, .ref qd_starts, .ref qd_met, .ref qd_stumbles, .int vd_stumbleCount, .ref qd_muds, .ref qd_cells, .int vd_cellCount, .ref qd_tunes, .int vd_tuneCount, .ref qd_changes, .int vd_changeCount])), (qd_cells, .inl (cI, 24, .inl (fd_cells)))] H := hP
      have hD : va_D A [(qw, .inr (10, [.ref qw_arrivals, .int z171, .int x164])), (qw_arrivals, .inl (cI, 24, .inl (g4))), (qd, .inr (0, [.int vd_gap, .int vd_odds, .int vd_rain, .int vd_lines, .ref qd_steps, .ref qd_lengths, .ref qd_starts, .ref qd_met, .ref qd_stumbles, .int vd_stumbleCount, .ref qd_muds, .ref qd_cells, .int vd_cellCount, .ref qd_tunes, .int vd_tuneCount, .ref qd_changes, .int vd_changeCount])), (qd_cells, .inl (cI, 24, .inl (fd_cells)))] := hD
      refine lv_aload_n hx hb dX10_findMeeting_83 rfl (lv_at hl 2 rfl) ?_
      refine lv_iload hx hb dX10_findMeeting_84 (lv_at hl 1 rfl) ?_
      refine va_put (D := D) (ci := 10) (v := .int x165) (ty := .int) (C := RX10) (T := TX10) (N := 3) hx hb hts hi10 tyX10 tyX10_ok nmX10 hown hK hP hD hS 0 rfl rfl 2 (by decide) (hts (.fieldLink RX10 35 "OverHill$Wood" "meetingCell" "I") (by decide +kernel)) (fun _ h9 => h9) rfl (by decide +kernel) rfl rfl (Nat.le_of_ble_eq_true rfl) dX10_findMeeting_86 (fun H locs hP hD hS => ?_)
      have hP : va_P D vwCl [(qw, .inr (10, [.ref qw_arrivals, .int z171, .int x165])), (qw_arrivals, .inl (cI, 24, .inl (g4))), (qd, .inr (0, [.int vd_gap, .int vd_odds, .int vd_rain, .int vd_lines, .ref qd_steps, .ref qd_lengths, .ref qd_starts, .ref qd_met, .ref qd_stumbles, .int vd_stumbleCount, .ref qd_muds, .ref qd_cells, .int vd_cellCount, .ref qd_tunes, .int vd_tuneCount, .ref qd_changes, .int vd_changeCount])), (qd_cells, .inl (cI, 24, .inl (fd_cells)))] H := hP
      have hD : va_D A [(qw, .inr (10, [.ref qw_arrivals, .int z171, .int x165])), (qw_arrivals, .inl (cI, 24, .inl (g4))), (qd, .inr (0, [.int vd_gap, .int vd_odds, .int vd_rain, .int vd_lines, .ref qd_steps, .ref qd_lengths, .ref qd_starts, .ref qd_met, .ref qd_stumbles, .int vd_stumbleCount, .ref qd_muds, .ref qd_cells, .int vd_cellCount, .ref qd_tunes, .int vd_tuneCount, .ref qd_changes, .int vd_changeCount])), (qd_cells, .inl (cI, 24, .inl (fd_cells)))] := hD
      obtain ⟨z173, ez173⟩ : ∃ z : Int32, z = x165 + 1 := ⟨_, rfl⟩
      have fz173 : z173.toInt = x165.toInt + 1 := by rw [ez173]; exact tq_add rfl (by decide) (by omega)
      refine lv_iinc (v := z173) (lv' := [(4, .int z173), (5, .int z171), (0, .ref qw), (1, .ref qd), (2, .int a2), (3, .int a3)]) hx hb dX10_findMeeting_89 hl (k := 1) rfl ez173.symm (by decide) rfl (fun ls hl => ?_)
      refine lv_goto (tgt := 29) hx hb dX10_findMeeting_92 (by decide) ?_
      exact ih166 (z171, x165, z173) _ _ _ (show (12 - z173.toInt).toNat < (12 - x165.toInt).toNat by omega) ⟨(show (-1) ≤ x165.toInt ∧ x165.toInt ≤ 11 by omega), (show 0 ≤ z173.toInt ∧ z173.toInt ≤ 12 by omega), hP, hD, hS, lv_sub hl [0, 2, 3, 4, 5] rfl⟩
    · have hq172 : x164.toInt ≠ (-1) := tq_ne rfl (by decide) hc
      refine lv_iload hx hb dX10_findMeeting_68 (lv_at hl 0 rfl) ?_
      refine lv_aload_n hx hb dX10_findMeeting_70 rfl (lv_at hl 2 rfl) ?_
      refine va_get (D := D) (ci := 10) (v := .int x163) (C := RX10) (T := TX10) (N := 3) hx hb hts hi10 hown hK hP 0 rfl rfl 1 (by decide) (hts (.fieldLink RX10 32 "OverHill$Wood" "meetingBeat" "I") (by decide +kernel)) (fun _ h9 => h9) rfl dX10_findMeeting_71 ?_
      refine lv_icmp_ge (tgt := 89) hx hb dX10_findMeeting_74 (by decide) (fun hc => ?_) (fun hc => ?_)
      · have hq174 : x163.toInt ≤ z171.toInt := tq_le rfl rfl hc
        have hb175 := tq_lo z171
        have hb176 := tq_lo x163
        obtain ⟨z177, ez177⟩ : ∃ z : Int32, z = x165 + 1 := ⟨_, rfl⟩
        have fz177 : z177.toInt = x165.toInt + 1 := by rw [ez177]; exact tq_add rfl (by decide) (by omega)
        refine lv_iinc (v := z177) (lv' := [(4, .int z177), (5, .int z171), (0, .ref qw), (1, .ref qd), (2, .int a2), (3, .int a3)]) hx hb dX10_findMeeting_89 hl (k := 1) rfl ez177.symm (by decide) rfl (fun ls hl => ?_)
        refine lv_goto (tgt := 29) hx hb dX10_findMeeting_92 (by decide) ?_
        exact ih166 (x163, x164, z177) _ _ _ (show (12 - z177.toInt).toNat < (12 - x165.toInt).toNat by omega) ⟨(show (-1) ≤ x164.toInt ∧ x164.toInt ≤ 11 by omega), (show 0 ≤ z177.toInt ∧ z177.toInt ≤ 12 by omega), hP, hD, hS, lv_sub hl [0, 2, 3, 4, 5] rfl⟩
      · have hq174 : z171.toInt < x163.toInt := tq_nle rfl rfl hc
        have hb178 := tq_lo z171
        have hb179 := tq_lo x163
        refine lv_aload_n hx hb dX10_findMeeting_77 rfl (lv_at hl 2 rfl) ?_
        refine lv_iload hx hb dX10_findMeeting_78 (lv_at hl 0 rfl) ?_
        refine va_put (D := D) (ci := 10) (v := .int z171) (ty := .int) (C := RX10) (T := TX10) (N := 3) hx hb hts hi10 tyX10 tyX10_ok nmX10 hown hK hP hD hS 0 rfl rfl 1 (by decide) (hts (.fieldLink RX10 32 "OverHill$Wood" "meetingBeat" "I") (by decide +kernel)) (fun _ h9 => h9) rfl (by decide +kernel) rfl rfl (Nat.le_of_ble_eq_true rfl) dX10_findMeeting_80 (fun H locs hP hD hS => ?_)
        have hP : va_P D vwCl [(qw, .inr (10, [.ref qw_arrivals, .int z171, .int x164])), (qw_arrivals, .inl (cI, 24, .inl (g4))), (qd, .inr (0, [.int vd_gap, .int vd_odds, .int vd_rain, .int vd_lines, .ref qd_steps, .ref qd_lengths, .ref qd_starts, .ref qd_met, .ref qd_stumbles, .int vd_stumbleCount, .ref qd_muds, .ref qd_cells, .int vd_cellCount, .ref qd_tunes, .int vd_tuneCount, .ref qd_changes, .int vd_changeCount])), (qd_cells, .inl (cI, 24, .inl (fd_cells)))] H := hP
        have hD : va_D A [(qw, .inr (10, [.ref qw_arrivals, .int z171, .int x164])), (qw_arrivals, .inl (cI, 24, .inl (g4))), (qd, .inr (0, [.int vd_gap, .int vd_odds, .int vd_rain, .int vd_lines, .ref qd_steps, .ref qd_lengths, .ref qd_starts, .ref qd_met, .ref qd_stumbles, .int vd_stumbleCount, .ref qd_muds, .ref qd_cells, .int vd_cellCount, .ref qd_tunes, .int vd_tuneCount, .ref qd_changes, .int vd_changeCount])), (qd_cells, .inl (cI, 24, .inl (fd_cells)))] := hD
        refine lv_aload_n hx hb dX10_findMeeting_83 rfl (lv_at hl 2 rfl) ?_
        refine lv_iload hx hb dX10_findMeeting_84 (lv_at hl 1 rfl) ?_
        refine va_put (D := D) (ci := 10) (v := .int x165) (ty := .int) (C := RX10) (T := TX10) (N := 3) hx hb hts hi10 tyX10 tyX10_ok nmX10 hown hK hP hD hS 0 rfl rfl 2 (by decide) (hts (.fieldLink RX10 35 "OverHill$Wood" "meetingCell" "I") (by decide +kernel)) (fun _ h9 => h9) rfl (by decide +kernel) rfl rfl (Nat.le_of_ble_eq_true rfl) dX10_findMeeting_86 (fun H locs hP hD hS => ?_)
        have hP : va_P D vwCl [(qw, .inr (10, [.ref qw_arrivals, .int z171, .int x165])), (qw_arrivals, .inl (cI, 24, .inl (g4))), (qd, .inr (0, [.int vd_gap, .int vd_odds, .int vd_rain, .int vd_lines, .ref qd_steps, .ref qd_lengths, .ref qd_starts, .ref qd_met, .ref qd_stumbles, .int vd_stumbleCount, .ref qd_muds, .ref qd_cells, .int vd_cellCount, .ref qd_tunes, .int vd_tuneCount, .ref qd_changes, .int vd_changeCount])), (qd_cells, .inl (cI, 24, .inl (fd_cells)))] H := hP
        have hD : va_D A [(qw, .inr (10, [.ref qw_arrivals, .int z171, .int x165])), (qw_arrivals, .inl (cI, 24, .inl (g4))), (qd, .inr (0, [.int vd_gap, .int vd_odds, .int vd_rain, .int vd_lines, .ref qd_steps, .ref qd_lengths, .ref qd_starts, .ref qd_met, .ref qd_stumbles, .int vd_stumbleCount, .ref qd_muds, .ref qd_cells, .int vd_cellCount, .ref qd_tunes, .int vd_tuneCount, .ref qd_changes, .int vd_changeCount])), (qd_cells, .inl (cI, 24, .inl (fd_cells)))] := hD
        obtain ⟨z180, ez180⟩ : ∃ z : Int32, z = x165 + 1 := ⟨_, rfl⟩
        have fz180 : z180.toInt = x165.toInt + 1 := by rw [ez180]; exact tq_add rfl (by decide) (by omega)
        refine lv_iinc (v := z180) (lv' := [(4, .int z180), (5, .int z171), (0, .ref qw), (1, .ref qd), (2, .int a2), (3, .int a3)]) hx hb dX10_findMeeting_89 hl (k := 1) rfl ez180.symm (by decide) rfl (fun ls hl => ?_)
        refine lv_goto (tgt := 29) hx hb dX10_findMeeting_92 (by decide) ?_
        exact ih166 (z171, x165, z180) _ _ _ (show (12 - z180.toInt).toNat < (12 - x165.toInt).toNat by omega) ⟨(show (-1) ≤ x165.toInt ∧ x165.toInt ≤ 11 by omega), (show 0 ≤ z180.toInt ∧ z180.toInt ≤ 12 by omega), hP, hD, hS, lv_sub hl [0, 2, 3, 4, 5] rfl⟩
abbrev w_c_X10_slowest (cI cJ cB cZ cO : ClassId) (qw : Nat) (qw_arrivals : Nat) (fw_arrivals : Nat → Int32) (vw_meetingBeat : Int32) (vw_meetingCell : Int32) (qd : Nat) (vd_gap : Int32) (vd_odds : Int32) (vd_rain : Int32) (vd_lines : Int32) (qd_steps : Nat) (qd_lengths : Nat) (qd_starts : Nat) (qd_met : Nat) (qd_stumbles : Nat) (vd_stumbleCount : Int32) (qd_muds : Nat) (qd_cells : Nat) (fd_cells : Nat → Int32) (vd_cellCount : Int32) (qd_tunes : Nat) (vd_tuneCount : Int32) (qd_changes : Nat) (vd_changeCount : Int32) : va_W := [(qw, .inr (10, [.ref qw_arrivals, .int vw_meetingBeat, .int vw_meetingCell])), (qw_arrivals, .inl (cI, 24, .inl (fw_arrivals))), (qd, .inr (0, [.int vd_gap, .int vd_odds, .int vd_rain, .int vd_lines, .ref qd_steps, .ref qd_lengths, .ref qd_starts, .ref qd_met, .ref qd_stumbles, .int vd_stumbleCount, .ref qd_muds, .ref qd_cells, .int vd_cellCount, .ref qd_tunes, .int vd_tuneCount, .ref qd_changes, .int vd_changeCount])), (qd_cells, .inl (cI, 24, .inl (fd_cells)))]
set_option maxHeartbeats 4000000 in
set_option maxRecDepth 100000 in
/-- X10 slowest -/
theorem c_X10_slowest (l : Launch) (D : va_G) (G : ct_G) (cI cJ cB cZ cO : ClassId) (qw : Nat) (qw_arrivals : Nat) (fw_arrivals : Nat → Int32) (vw_meetingBeat : Int32) (vw_meetingCell : Int32) (qd : Nat) (vd_gap : Int32) (vd_odds : Int32) (vd_rain : Int32) (vd_lines : Int32) (qd_steps : Nat) (qd_lengths : Nat) (qd_starts : Nat) (qd_met : Nat) (qd_stumbles : Nat) (vd_stumbleCount : Int32) (qd_muds : Nat) (qd_cells : Nat) (fd_cells : Nat → Int32) (vd_cellCount : Int32) (qd_tunes : Nat) (vd_tuneCount : Int32) (qd_changes : Nat) (vd_changeCount : Int32) (h_vd_gap : 0 ≤ vd_gap.toInt ∧ vd_gap.toInt ≤ 20) (h_vd_stumbleCount : 0 ≤ vd_stumbleCount.toInt ∧ vd_stumbleCount.toInt ≤ 8) (h_vd_cellCount : 0 ≤ vd_cellCount.toInt ∧ vd_cellCount.toInt ≤ 12) (h_vd_tuneCount : 0 ≤ vd_tuneCount.toInt ∧ vd_tuneCount.toInt ≤ 5) (h_vd_changeCount : 0 ≤ vd_changeCount.toInt ∧ vd_changeCount.toInt ≤ 40) (sz : Nat) : Met l yX10_slowest wsX10_slowest ({ frames := 3, cells := 0, slots := 0, locals := 71 }) (va_Pc [.ref qw, .ref qd] (ct_P D (ct_T cI cJ cB cZ cO) G (w_c_X10_slowest cI cJ cB cZ cO qw qw_arrivals fw_arrivals vw_meetingBeat vw_meetingCell qd vd_gap vd_odds vd_rain vd_lines qd_steps qd_lengths qd_starts qd_met qd_stumbles vd_stumbleCount qd_muds qd_cells fd_cells vd_cellCount qd_tunes vd_tuneCount qd_changes vd_changeCount) sz)) (va_Qi (fun (rz : Int32) (u : (Nat → Int32)) => (0 ≤ rz.toInt)) (fun (u : (Nat → Int32)) t => ct_Q D (va_A (w_c_X10_slowest cI cJ cB cZ cO qw qw_arrivals fw_arrivals vw_meetingBeat vw_meetingCell qd vd_gap vd_odds vd_rain vd_lines qd_steps qd_lengths qd_starts qd_met qd_stumbles vd_stumbleCount qd_muds qd_cells fd_cells vd_cellCount qd_tunes vd_tuneCount qd_changes vd_changeCount) sz) [(qw, .inr (10, [.ref qw_arrivals, .int vw_meetingBeat, .int vw_meetingCell])), (qw_arrivals, .inl (cI, 24, .inl (u))), (qd, .inr (0, [.int vd_gap, .int vd_odds, .int vd_rain, .int vd_lines, .ref qd_steps, .ref qd_lengths, .ref qd_starts, .ref qd_met, .ref qd_stumbles, .int vd_stumbleCount, .ref qd_muds, .ref qd_cells, .int vd_cellCount, .ref qd_tunes, .int vd_tuneCount, .ref qd_changes, .int vd_changeCount])), (qd_cells, .inl (cI, 24, .inl (fd_cells)))] t) (va_A (w_c_X10_slowest cI cJ cB cZ cO qw qw_arrivals fw_arrivals vw_meetingBeat vw_meetingCell qd vd_gap vd_odds vd_rain vd_lines qd_steps qd_lengths qd_starts qd_met qd_stumbles vd_stumbleCount qd_muds qd_cells fd_cells vd_cellCount qd_tunes vd_tuneCount qd_changes vd_changeCount) sz)) 0 0 (va_A (w_c_X10_slowest cI cJ cB cZ cO qw qw_arrivals fw_arrivals vw_meetingBeat vw_meetingCell qd vd_gap vd_odds vd_rain vd_lines qd_steps qd_lengths qd_starts qd_met qd_stumbles vd_stumbleCount qd_muds qd_cells fd_cells vd_cellCount qd_tunes vd_tuneCount qd_changes vd_changeCount) sz) := by
  refine Met.ofW (cc := cX10_slowest) (maxL := 4) (ret := (some .int)) (by decide) rfl ?_
  intro p e s m args below meth c s₁ B hml hv
  obtain ⟨rfl, hsz, hP, hE, hD0, hH⟩ := hv
  have hx := B.exec
  have hb := B.bytes
  have hr := B.returns
  have hts := atoms_spec (ws := wsX10_slowest) B.pre
  have hown : s.vm.findClass RX10 = some m.cls := findClass_of_methodNamed B.named
  have hlocks := B.notSynchronized
  have hK := hE.1
  subst hsz
  have hD := hD0.self (sz := s.heap.size)
  generalize hAe : va_A (w_c_X10_slowest cI cJ cB cZ cO qw qw_arrivals fw_arrivals vw_meetingBeat vw_meetingCell qd vd_gap vd_odds vd_rain vd_lines qd_steps qd_lengths qd_starts qd_met qd_stumbles vd_stumbleCount qd_muds qd_cells fd_cells vd_cellCount qd_tunes vd_tuneCount qd_changes vd_changeCount) s.heap.size = A at hD hH ⊢
  have hA : ∀ q : Nat, s.heap.size ≤ q → A q := fun q h => by rw [← hAe]; exact Or.inr h
  have hS : va_S A s.heap s.heap [] := va_S.rf
  have hP : va_P D vwCl [(qw, .inr (10, [.ref qw_arrivals, .int vw_meetingBeat, .int vw_meetingCell])), (qw_arrivals, .inl (cI, 24, .inl (fw_arrivals))), (qd, .inr (0, [.int vd_gap, .int vd_odds, .int vd_rain, .int vd_lines, .ref qd_steps, .ref qd_lengths, .ref qd_starts, .ref qd_met, .ref qd_stumbles, .int vd_stumbleCount, .ref qd_muds, .ref qd_cells, .int vd_cellCount, .ref qd_tunes, .int vd_tuneCount, .ref qd_changes, .int vd_changeCount])), (qd_cells, .inl (cI, 24, .inl (fd_cells)))] s.heap := hP
  have hD : va_D A [(qw, .inr (10, [.ref qw_arrivals, .int vw_meetingBeat, .int vw_meetingCell])), (qw_arrivals, .inl (cI, 24, .inl (fw_arrivals))), (qd, .inr (0, [.int vd_gap, .int vd_odds, .int vd_rain, .int vd_lines, .ref qd_steps, .ref qd_lengths, .ref qd_starts, .ref qd_met, .ref qd_stumbles, .int vd_stumbleCount, .ref qd_muds, .ref qd_cells, .int vd_cellCount, .ref qd_tunes, .int vd_tuneCount, .ref qd_changes, .int vd_changeCount])), (qd_cells, .inl (cI, 24, .inl (fd_cells)))] := hD
  have hl := lv_entry ([.ref qw, .ref qd]) (n := 4) (Nat.le_of_ble_eq_true rfl)
  rw [lg_entry_eq]
  generalize (lg_sl ([.ref qw, .ref qd]) ++ List.replicate (4 - (lg_sl ([.ref qw, .ref qd])).length) Slot.unset).toArray = ls at hl ⊢
  have hl : lv_has ls 4 [(0, .ref qw), (1, .ref qd)] := hl
  obtain ⟨H, hHe⟩ : ∃ H : Heap, H = s.heap := ⟨_, rfl⟩
  rw [← hHe] at hP
  have hS : va_S A s.heap H [] := by rw [hHe]; exact va_S.rf
  refine ct_start hHe ?_
  refine lv_iconst (v := 0) hx hb dX10_slowest_0 (by decide) ?_
  refine lv_istore_n (lv' := [(2, .int 0), (0, .ref qw), (1, .ref qd)]) hx hb dX10_slowest_1 rfl hl (by decide) rfl (fun ls hl => ?_)
  refine lv_iconst (v := 0) hx hb dX10_slowest_2 (by decide) ?_
  refine lv_istore_n (lv' := [(3, .int 0), (2, .int 0), (0, .ref qw), (1, .ref qd)]) hx hb dX10_slowest_3 rfl hl (by decide) rfl (fun ls hl => ?_)
  refine ct_loop (X := (Nat → Int32) × Int32 × Int32) (fun x => (200 - x.2.2.toInt).toNat) (fun x H locs ls => ((0 ≤ x.2.1.toInt)) ∧ ((0 ≤ x.2.2.toInt ∧ x.2.2.toInt ≤ 200)) ∧ va_P D vwCl [(qw, .inr (10, [.ref qw_arrivals, .int vw_meetingBeat, .int vw_meetingCell])), (qw_arrivals, .inl (cI, 24, .inl (x.1))), (qd, .inr (0, [.int vd_gap, .int vd_odds, .int vd_rain, .int vd_lines, .ref qd_steps, .ref qd_lengths, .ref qd_starts, .ref qd_met, .ref qd_stumbles, .int vd_stumbleCount, .ref qd_muds, .ref qd_cells, .int vd_cellCount, .ref qd_tunes, .int vd_tuneCount, .ref qd_changes, .int vd_changeCount])), (qd_cells, .inl (cI, 24, .inl (fd_cells)))] H ∧ va_D A [(qw, .inr (10, [.ref qw_arrivals, .int vw_meetingBeat, .int vw_meetingCell])), (qw_arrivals, .inl (cI, 24, .inl (x.1))), (qd, .inr (0, [.int vd_gap, .int vd_odds, .int vd_rain, .int vd_lines, .ref qd_steps, .ref qd_lengths, .ref qd_starts, .ref qd_met, .ref qd_stumbles, .int vd_stumbleCount, .ref qd_muds, .ref qd_cells, .int vd_cellCount, .ref qd_tunes, .int vd_tuneCount, .ref qd_changes, .int vd_changeCount])), (qd_cells, .inl (cI, 24, .inl (fd_cells)))] ∧ va_S A s.heap H locs ∧ lv_has ls 4 [(3, .int x.2.2), (2, .int x.2.1), (0, .ref qw), (1, .ref qd)]) 4 (fw_arrivals, (0 : Int32), (0 : Int32)) ⟨(show 0 ≤ (0 : Int32).toInt by decide), (show 0 ≤ (0 : Int32).toInt ∧ (0 : Int32).toInt ≤ 200 by decide), hP, hD, hS, lv_sub hl [0, 1, 2, 3] rfl⟩ (fun x ih143 H locs ls hI => ?_)
  obtain ⟨g140, x141, x142⟩ := x
  obtain ⟨h_x141, h_x142, hP, hD, hS, hl⟩ := hI
  have h_x141 : (0 ≤ x141.toInt) := h_x141
  have h_x142 : (0 ≤ x142.toInt ∧ x142.toInt ≤ 200) := h_x142
  have hP : va_P D vwCl [(qw, .inr (10, [.ref qw_arrivals, .int vw_meetingBeat, .int vw_meetingCell])), (qw_arrivals, .inl (cI, 24, .inl (g140))), (qd, .inr (0, [.int vd_gap, .int vd_odds, .int vd_rain, .int vd_lines, .ref qd_steps, .ref qd_lengths, .ref qd_starts, .ref qd_met, .ref qd_stumbles, .int vd_stumbleCount, .ref qd_muds, .ref qd_cells, .int vd_cellCount, .ref qd_tunes, .int vd_tuneCount, .ref qd_changes, .int vd_changeCount])), (qd_cells, .inl (cI, 24, .inl (fd_cells)))] H := hP
  have hD : va_D A [(qw, .inr (10, [.ref qw_arrivals, .int vw_meetingBeat, .int vw_meetingCell])), (qw_arrivals, .inl (cI, 24, .inl (g140))), (qd, .inr (0, [.int vd_gap, .int vd_odds, .int vd_rain, .int vd_lines, .ref qd_steps, .ref qd_lengths, .ref qd_starts, .ref qd_met, .ref qd_stumbles, .int vd_stumbleCount, .ref qd_muds, .ref qd_cells, .int vd_cellCount, .ref qd_tunes, .int vd_tuneCount, .ref qd_changes, .int vd_changeCount])), (qd_cells, .inl (cI, 24, .inl (fd_cells)))] := hD
  have hl : lv_has ls 4 [(3, .int x142), (2, .int x141), (0, .ref qw), (1, .ref qd)] := hl
  refine lv_iload_n hx hb dX10_slowest_4 rfl (lv_at hl 0 rfl) ?_
  refine lv_sipush (v := 200) hx hb dX10_slowest_5 (by decide) ?_
  refine lv_icmp_ge (tgt := 31) hx hb dX10_slowest_8 (by decide) (fun hc => ?_) (fun hc => ?_)
  · have hq144 : 200 ≤ x142.toInt := tq_le (by decide) rfl hc
    refine lv_iload_n hx hb dX10_slowest_31 rfl (lv_at hl 1 rfl) ?_
    have hP9 := hP.sub (ws' := [(qw, .inr (10, [.ref qw_arrivals, .int vw_meetingBeat, .int vw_meetingCell])), (qw_arrivals, .inl (cI, 24, .inl (g140))), (qd, .inr (0, [.int vd_gap, .int vd_odds, .int vd_rain, .int vd_lines, .ref qd_steps, .ref qd_lengths, .ref qd_starts, .ref qd_met, .ref qd_stumbles, .int vd_stumbleCount, .ref qd_muds, .ref qd_cells, .int vd_cellCount, .ref qd_tunes, .int vd_tuneCount, .ref qd_changes, .int vd_changeCount])), (qd_cells, .inl (cI, 24, .inl (fd_cells)))]) [0, 1, 2, 3] rfl
    have hD9 := hD.sub (ws' := [(qw, .inr (10, [.ref qw_arrivals, .int vw_meetingBeat, .int vw_meetingCell])), (qw_arrivals, .inl (cI, 24, .inl (g140))), (qd, .inr (0, [.int vd_gap, .int vd_odds, .int vd_rain, .int vd_lines, .ref qd_steps, .ref qd_lengths, .ref qd_starts, .ref qd_met, .ref qd_stumbles, .int vd_stumbleCount, .ref qd_muds, .ref qd_cells, .int vd_cellCount, .ref qd_tunes, .int vd_tuneCount, .ref qd_changes, .int vd_changeCount])), (qd_cells, .inl (cI, 24, .inl (fd_cells)))]) [0, 1, 2, 3] (by decide) rfl
    exact W.iret (v := x141) hx hb hr (fun t ht hW => ⟨⟨x141, g140, rfl, (show 0 ≤ x141.toInt by omega), by rw [ht]; exact hP9, hD9⟩, hS.F ht⟩) hS.2.2 dX10_slowest_32
  · have hq144 : x142.toInt < 200 := tq_nle (by decide) rfl hc
    refine lv_iload_n hx hb dX10_slowest_11 rfl (lv_at hl 1 rfl) ?_
    refine lv_aload_n hx hb dX10_slowest_12 rfl (lv_at hl 2 rfl) ?_
    refine lv_aload_n hx hb dX10_slowest_13 rfl (lv_at hl 3 rfl) ?_
    refine lv_iconst (v := 0) hx hb dX10_slowest_14 (by decide) ?_
    refine lv_iload_n hx hb dX10_slowest_15 rfl (lv_at hl 0 rfl) ?_
    refine ct_calli (D := D) (wc := (w_c_X10_through cI cJ cB cZ cO qw qw_arrivals g140 vw_meetingBeat vw_meetingCell qd vd_gap vd_odds vd_rain vd_lines qd_steps qd_lengths qd_starts qd_met qd_stumbles vd_stumbleCount qd_muds qd_cells fd_cells vd_cellCount qd_tunes vd_tuneCount qd_changes vd_changeCount)) (wr := []) (va_runV (As := [.ref qd, .int 0, .int x142]) (rest := [.int x141]) ⟨hx, hb, hml, hown, hts⟩ (c_X10_through l D G cI cJ cB cZ cO qw qw_arrivals g140 vw_meetingBeat vw_meetingCell qd vd_gap vd_odds vd_rain vd_lines qd_steps qd_lengths qd_starts qd_met qd_stumbles vd_stumbleCount qd_muds qd_cells fd_cells vd_cellCount qd_tunes vd_tuneCount qd_changes vd_changeCount 0 x142 (by omega) (by omega) (by omega) (by omega) (by omega) (by decide) H.size) (cwV 3 hts gX10_slowest_X10_through rfl rfl rfl (by decide +kernel) ⟨Nat.le_of_ble_eq_true rfl, Nat.le_of_ble_eq_true rfl⟩) (ct_preV (T := ct_T cI cJ cB cZ cO) (ci := 10) (q0 := 0) hE hH hP hD hS hA [0, 1, 2, 3] (by decide) rfl rfl rfl) rfl rfl hl.1 rfl (lv_room (Nat.le_of_ble_eq_true rfl)) dX10_slowest_16 ⟨Nat.le_of_ble_eq_true rfl, Nat.le_of_ble_eq_true rfl⟩) hP hD hS hA [0, 1, 2, 3] [] rfl rfl (by decide) (by decide) (fun r145 u H locs hw hP hD hS => ?_)
    obtain ⟨g146, rfl⟩ : ∃ z, z = u := ⟨_, rfl⟩
    have hP : va_P D vwCl [(qw, .inr (10, [.ref qw_arrivals, .int vw_meetingBeat, .int vw_meetingCell])), (qw_arrivals, .inl (cI, 24, .inl (g146))), (qd, .inr (0, [.int vd_gap, .int vd_odds, .int vd_rain, .int vd_lines, .ref qd_steps, .ref qd_lengths, .ref qd_starts, .ref qd_met, .ref qd_stumbles, .int vd_stumbleCount, .ref qd_muds, .ref qd_cells, .int vd_cellCount, .ref qd_tunes, .int vd_tuneCount, .ref qd_changes, .int vd_changeCount])), (qd_cells, .inl (cI, 24, .inl (fd_cells)))] H := hP
    have hD : va_D A [(qw, .inr (10, [.ref qw_arrivals, .int vw_meetingBeat, .int vw_meetingCell])), (qw_arrivals, .inl (cI, 24, .inl (g146))), (qd, .inr (0, [.int vd_gap, .int vd_odds, .int vd_rain, .int vd_lines, .ref qd_steps, .ref qd_lengths, .ref qd_starts, .ref qd_met, .ref qd_stumbles, .int vd_stumbleCount, .ref qd_muds, .ref qd_cells, .int vd_cellCount, .ref qd_tunes, .int vd_tuneCount, .ref qd_changes, .int vd_changeCount])), (qd_cells, .inl (cI, 24, .inl (fd_cells)))] := hD
    refine lv_iload_n hx hb dX10_slowest_19 rfl (lv_at hl 0 rfl) ?_
    refine lv_isub hx hb dX10_slowest_20 ?_
    refine lv_topi (fun z147 ez147 => ?_)
    refine va_mmax hx hb (hml.trans hl.1.symm) hown (hts (.methodLink RX10 38 Lib.Math.max.name) (by decide +kernel)) (hts (.static Lib.Math.max.name) (by decide +kernel)) (hts (.initialized "java/lang/Math") (by decide +kernel)) (hts (.code Lib.Math.max.name Lib.Math.max.code 2 (some .int)) (by decide +kernel)) (Nat.le_of_ble_eq_true rfl) (Nat.le_of_ble_eq_true rfl) (Nat.le_of_ble_eq_true rfl) (Nat.le_of_ble_eq_true rfl) dX10_slowest_21 ?_
    refine lv_topi (fun z148 ez148 => ?_)
    have fz148 : (z148.toInt = x141.toInt ∨ z148.toInt = z147.toInt) ∧ x141.toInt ≤ z148.toInt ∧ z147.toInt ≤ z148.toInt := by rw [ez148]; exact tq_max rfl rfl
    refine lv_istore_n (lv' := [(2, .int z148), (3, .int x142), (0, .ref qw), (1, .ref qd)]) hx hb dX10_slowest_24 rfl hl (by decide) rfl (fun ls hl => ?_)
    obtain ⟨z149, ez149⟩ : ∃ z : Int32, z = x142 + 1 := ⟨_, rfl⟩
    have fz149 : z149.toInt = x142.toInt + 1 := by rw [ez149]; exact tq_add rfl (by decide) (by omega)
    refine lv_iinc (v := z149) (lv' := [(3, .int z149), (2, .int z148), (0, .ref qw), (1, .ref qd)]) hx hb dX10_slowest_25 hl (k := 1) rfl ez149.symm (by decide) rfl (fun ls hl => ?_)
    refine lv_goto (tgt := 4) hx hb dX10_slowest_28 (by decide) ?_
    exact ih143 (g146, z148, z149) _ _ _ (show (200 - z149.toInt).toNat < (200 - x142.toInt).toNat by omega) ⟨(show 0 ≤ z148.toInt by omega), (show 0 ≤ z149.toInt ∧ z149.toInt ≤ 200 by omega), hP, hD, hS, lv_sub hl [0, 1, 2, 3] rfl⟩
abbrev w_c_X9_joinOne (cI cJ cB cZ cO : ClassId) (qu : Nat) (vu_every : Int64) (vu_at : Int64) : va_W := [(qu, .inr (9, [.long vu_every, .long vu_at]))]
set_option maxHeartbeats 4000000 in
set_option maxRecDepth 100000 in
/-- X9 joinOne -/
theorem c_X9_joinOne (l : Launch) (D : va_G) (G : ct_G) (cI cJ cB cZ cO : ClassId) (qu : Nat) (vu_every : Int64) (vu_at : Int64) (a1 : Int32) (a2 : Int32)  (sz : Nat) : Met l yX9_joinOne wsX9_joinOne ({ frames := 2, cells := 0, slots := 0, locals := 55 }) (va_Pc [.ref qu, .int a1, .int a2] (ct_P D (ct_T cI cJ cB cZ cO) G (w_c_X9_joinOne cI cJ cB cZ cO qu vu_every vu_at) sz)) (va_Qv (fun (u : Int64 × Int64) => True) (fun (u : Int64 × Int64) t => ct_Q D (va_A (w_c_X9_joinOne cI cJ cB cZ cO qu vu_every vu_at) sz) [(qu, .inr (9, [.long u.1, .long u.2]))] t) (va_A (w_c_X9_joinOne cI cJ cB cZ cO qu vu_every vu_at) sz)) 0 0 (va_A (w_c_X9_joinOne cI cJ cB cZ cO qu vu_every vu_at) sz) := by
  refine Met.ofW (cc := cX9_joinOne) (maxL := 8) (ret := none) (by decide) rfl ?_
  intro p e s m args below meth c s₁ B hml hv
  obtain ⟨rfl, hsz, hP, hE, hD0, hH⟩ := hv
  have hx := B.exec
  have hb := B.bytes
  have hr := B.returns
  have hts := atoms_spec (ws := wsX9_joinOne) B.pre
  have hown : s.vm.findClass RX9 = some m.cls := findClass_of_methodNamed B.named
  have hlocks := B.notSynchronized
  have hK := hE.1
  have hi9 : ∀ w ∈ u_ws RX9 TX9 2, w ∈ wsX9_joinOne := fun w h => List.mem_cons_of_mem _ (List.mem_append_right _ h)
  subst hsz
  have hD := hD0.self (sz := s.heap.size)
  generalize hAe : va_A (w_c_X9_joinOne cI cJ cB cZ cO qu vu_every vu_at) s.heap.size = A at hD hH ⊢
  have hA : ∀ q : Nat, s.heap.size ≤ q → A q := fun q h => by rw [← hAe]; exact Or.inr h
  have hS : va_S A s.heap s.heap [] := va_S.rf
  have hP : va_P D vwCl [(qu, .inr (9, [.long vu_every, .long vu_at]))] s.heap := hP
  have hD : va_D A [(qu, .inr (9, [.long vu_every, .long vu_at]))] := hD
  have hl := lv_entry ([.ref qu, .int a1, .int a2]) (n := 8) (Nat.le_of_ble_eq_true rfl)
  rw [lg_entry_eq]
  generalize (lg_sl ([.ref qu, .int a1, .int a2]) ++ List.replicate (8 - (lg_sl ([.ref qu, .int a1, .int a2])).length) Slot.unset).toArray = ls at hl ⊢
  have hl : lv_has ls 8 [(0, .ref qu), (1, .int a1), (2, .int a2)] := hl
  obtain ⟨H, hHe⟩ : ∃ H : Heap, H = s.heap := ⟨_, rfl⟩
  rw [← hHe] at hP
  have hS : va_S A s.heap H [] := by rw [hHe]; exact va_S.rf
  refine ct_start hHe ?_
  refine lv_ldc2 (v := (-1)) hx hb hown (hts (.constantLong RX9 32 (-1)) (by decide +kernel)) dX9_joinOne_0 ?_
  refine lv_lstore_n (lv' := [(3, .long (-1)), (0, .ref qu), (1, .int a1), (2, .int a2)]) hx hb dX9_joinOne_3 rfl hl (by decide) rfl (fun ls hl => ?_)
  refine lv_iconst (v := 0) hx hb dX9_joinOne_4 (by decide) ?_
  refine lv_istore (lv' := [(5, .int 0), (3, .long (-1)), (0, .ref qu), (1, .int a1), (2, .int a2)]) hx hb dX9_joinOne_5 hl (by decide) rfl (fun ls hl => ?_)
  refine ct_loop (X := Int64 × Int32) (fun x => (2147483647 - x.2.toInt).toNat) (fun x H locs ls => ((0 ≤ x.2.toInt)) ∧ va_P D vwCl [(qu, .inr (9, [.long vu_every, .long vu_at]))] H ∧ va_D A [(qu, .inr (9, [.long vu_every, .long vu_at]))] ∧ va_S A s.heap H locs ∧ lv_has ls 8 [(5, .int x.2), (3, .long x.1), (0, .ref qu), (1, .int a1), (2, .int a2)]) 7 ((-1 : Int64), (0 : Int32)) ⟨(show 0 ≤ (0 : Int32).toInt by decide), hP, hD, hS, lv_sub hl [0, 1, 2, 3, 4] rfl⟩ (fun x ih108 H locs ls hI => ?_)
  obtain ⟨x106, x107⟩ := x
  obtain ⟨h_x107, hP, hD, hS, hl⟩ := hI
  have h_x107 : (0 ≤ x107.toInt) := h_x107
  have hP : va_P D vwCl [(qu, .inr (9, [.long vu_every, .long vu_at]))] H := hP
  have hD : va_D A [(qu, .inr (9, [.long vu_every, .long vu_at]))] := hD
  have hl : lv_has ls 8 [(5, .int x107), (3, .long x106), (0, .ref qu), (1, .int a1), (2, .int a2)] := hl
  refine lv_iload hx hb dX9_joinOne_7 (lv_at hl 0 rfl) ?_
  refine lv_iload_n hx hb dX9_joinOne_9 rfl (lv_at hl 3 rfl) ?_
  refine lv_icmp_ge (tgt := 67) hx hb dX9_joinOne_10 (by decide) (fun hc => ?_) (fun hc => ?_)
  · have hq109 : a1.toInt ≤ x107.toInt := tq_le rfl rfl hc
    have hb110 := tq_lo x107
    have hb111 := tq_lo a1
    refine lv_aload_n hx hb dX9_joinOne_67 rfl (lv_at hl 2 rfl) ?_
    refine lv_lload_n hx hb dX9_joinOne_68 rfl (lv_at hl 1 rfl) ?_
    refine va_put (D := D) (ci := 9) (v := .long x106) (ty := .long) (C := RX9) (T := TX9) (N := 2) hx hb hts hi9 tyX9 tyX9_ok nmX9 hown hK hP hD hS 0 rfl rfl 1 (by decide) (hts (.fieldLink RX9 15 "OverHill$Tunes" "at" "J") (by decide +kernel)) (fun _ h9 => h9) rfl (by decide +kernel) rfl rfl (Nat.le_of_ble_eq_true rfl) dX9_joinOne_69 (fun H locs hP hD hS => ?_)
    have hP : va_P D vwCl [(qu, .inr (9, [.long vu_every, .long x106]))] H := hP
    have hD : va_D A [(qu, .inr (9, [.long vu_every, .long x106]))] := hD
    refine lv_aload_n hx hb dX9_joinOne_72 rfl (lv_at hl 2 rfl) ?_
    refine lv_aload_n hx hb dX9_joinOne_73 rfl (lv_at hl 2 rfl) ?_
    refine va_get (D := D) (ci := 9) (v := .long vu_every) (C := RX9) (T := TX9) (N := 2) hx hb hts hi9 hown hK hP 0 rfl rfl 0 (by decide) (hts (.fieldLink RX9 9 "OverHill$Tunes" "every" "J") (by decide +kernel)) (fun _ h9 => h9) rfl dX9_joinOne_74 ?_
    refine lv_iload_n hx hb dX9_joinOne_77 rfl (lv_at hl 3 rfl) ?_
    refine lv_i2l (v := _) hx hb dX9_joinOne_78 rfl ?_
    refine lv_topl (fun z112 ez112 => ?_)
    have fz112 : z112.toInt = a1.toInt := by rw [ez112]; exact tl_i rfl
    refine ct_calll (D := D) (wc := (w_c_X11_commonMultiple cI cJ cB cZ cO )) (wr := [(qu, .inr (9, [.long vu_every, .long x106]))]) (va_runSN (As := [.long vu_every, .long z112]) (rest := [.ref qu]) ⟨hx, hb, hml, hown, hts⟩ (c_X11_commonMultiple l D G cI cJ cB cZ cO vu_every z112  H.size) ⟨va_cnB 2 hts gX9_joinOne_X11_commonMultiple_n34 rfl rfl rfl (hE.2.1 (RX9, 34, yX11_commonMultiple, "OverHill") (List.mem_of_getElem? (i := 19) rfl)) (hts (.initialized RX11) (by decide +kernel)) (by decide +kernel) ⟨Nat.le_of_ble_eq_true rfl, Nat.le_of_ble_eq_true rfl⟩, (hts (.static yX11_commonMultiple) (by decide +kernel)), trivial⟩ (ct_preS (T := ct_T cI cJ cB cZ cO) hE hH hP hD hS hA [] (by decide) rfl) rfl rfl hl.1 rfl (lv_room (Nat.le_of_ble_eq_true rfl)) dX9_joinOne_79 ⟨Nat.le_of_ble_eq_true rfl, Nat.le_of_ble_eq_true rfl⟩) hP hD hS hA [] [0] rfl rfl (by decide) (by decide) (fun r113 u H locs hw hP hD hS => ?_)
    have hP : va_P D vwCl [(qu, .inr (9, [.long vu_every, .long x106]))] H := hP
    have hD : va_D A [(qu, .inr (9, [.long vu_every, .long x106]))] := hD
    refine va_put (D := D) (ci := 9) (v := .long r113) (ty := .long) (C := RX9) (T := TX9) (N := 2) hx hb hts hi9 tyX9 tyX9_ok nmX9 hown hK hP hD hS 0 rfl rfl 0 (by decide) (hts (.fieldLink RX9 9 "OverHill$Tunes" "every" "J") (by decide +kernel)) (fun _ h9 => h9) rfl (by decide +kernel) rfl rfl (Nat.le_of_ble_eq_true rfl) dX9_joinOne_82 (fun H locs hP hD hS => ?_)
    have hP : va_P D vwCl [(qu, .inr (9, [.long r113, .long x106]))] H := hP
    have hD : va_D A [(qu, .inr (9, [.long r113, .long x106]))] := hD
    have hP9 := hP.sub (ws' := [(qu, .inr (9, [.long r113, .long x106]))]) [0] rfl
    have hD9 := hD.sub (ws' := [(qu, .inr (9, [.long r113, .long x106]))]) [0] (by decide) rfl
    exact W.vret hx hb hr (fun t ht hW => ⟨⟨(r113, x106), rfl, trivial, by rw [ht]; exact hP9, hD9⟩, hS.F ht⟩) hS.2.2 dX9_joinOne_85
  · have hq109 : x107.toInt < a1.toInt := tq_nle rfl rfl hc
    have hb114 := tq_lo x107
    have hb115 := tq_lo a1
    refine lv_aload_n hx hb dX9_joinOne_13 rfl (lv_at hl 2 rfl) ?_
    refine va_get (D := D) (ci := 9) (v := .long vu_at) (C := RX9) (T := TX9) (N := 2) hx hb hts hi9 hown hK hP 0 rfl rfl 1 (by decide) (hts (.fieldLink RX9 15 "OverHill$Tunes" "at" "J") (by decide +kernel)) (fun _ h9 => h9) rfl dX9_joinOne_14 ?_
    refine lv_ldc2 (v := (-1)) hx hb hown (hts (.constantLong RX9 32 (-1)) (by decide +kernel)) dX9_joinOne_17 ?_
    refine W.lcmp hx hb dX9_joinOne_20 ?_
    refine lv_if_eq (tgt := 67) hx hb dX9_joinOne_21 (by decide) (fun hc => ?_) (fun hc => ?_)
    · have hq116 : vu_at.toInt = (-1) := tl_eq rfl (by decide) ((lg_cmp_eq _ _).mp hc)
      refine lv_aload_n hx hb dX9_joinOne_67 rfl (lv_at hl 2 rfl) ?_
      refine lv_lload_n hx hb dX9_joinOne_68 rfl (lv_at hl 1 rfl) ?_
      refine va_put (D := D) (ci := 9) (v := .long x106) (ty := .long) (C := RX9) (T := TX9) (N := 2) hx hb hts hi9 tyX9 tyX9_ok nmX9 hown hK hP hD hS 0 rfl rfl 1 (by decide) (hts (.fieldLink RX9 15 "OverHill$Tunes" "at" "J") (by decide +kernel)) (fun _ h9 => h9) rfl (by decide +kernel) rfl rfl (Nat.le_of_ble_eq_true rfl) dX9_joinOne_69 (fun H locs hP hD hS => ?_)
      have hP : va_P D vwCl [(qu, .inr (9, [.long vu_every, .long x106]))] H := hP
      have hD : va_D A [(qu, .inr (9, [.long vu_every, .long x106]))] := hD
      refine lv_aload_n hx hb dX9_joinOne_72 rfl (lv_at hl 2 rfl) ?_
      refine lv_aload_n hx hb dX9_joinOne_73 rfl (lv_at hl 2 rfl) ?_
      refine va_get (D := D) (ci := 9) (v := .long vu_every) (C := RX9) (T := TX9) (N := 2) hx hb hts hi9 hown hK hP 0 rfl rfl 0 (by decide) (hts (.fieldLink RX9 9 "OverHill$Tunes" "every" "J") (by decide +kernel)) (fun _ h9 => h9) rfl dX9_joinOne_74 ?_
      refine lv_iload_n hx hb dX9_joinOne_77 rfl (lv_at hl 3 rfl) ?_
      refine lv_i2l (v := _) hx hb dX9_joinOne_78 rfl ?_
      refine lv_topl (fun z117 ez117 => ?_)
      have fz117 : z117.toInt = a1.toInt := by rw [ez117]; exact tl_i rfl
      refine ct_calll (D := D) (wc := (w_c_X11_commonMultiple cI cJ cB cZ cO )) (wr := [(qu, .inr (9, [.long vu_every, .long x106]))]) (va_runSN (As := [.long vu_every, .long z117]) (rest := [.ref qu]) ⟨hx, hb, hml, hown, hts⟩ (c_X11_commonMultiple l D G cI cJ cB cZ cO vu_every z117  H.size) ⟨va_cnB 2 hts gX9_joinOne_X11_commonMultiple_n34 rfl rfl rfl (hE.2.1 (RX9, 34, yX11_commonMultiple, "OverHill") (List.mem_of_getElem? (i := 19) rfl)) (hts (.initialized RX11) (by decide +kernel)) (by decide +kernel) ⟨Nat.le_of_ble_eq_true rfl, Nat.le_of_ble_eq_true rfl⟩, (hts (.static yX11_commonMultiple) (by decide +kernel)), trivial⟩ (ct_preS (T := ct_T cI cJ cB cZ cO) hE hH hP hD hS hA [] (by decide) rfl) rfl rfl hl.1 rfl (lv_room (Nat.le_of_ble_eq_true rfl)) dX9_joinOne_79 ⟨Nat.le_of_ble_eq_true rfl, Nat.le_of_ble_eq_true rfl⟩) hP hD hS hA [] [0] rfl rfl (by decide) (by decide) (fun r118 u H locs hw hP hD hS => ?_)
      have hP : va_P D vwCl [(qu, .inr (9, [.long vu_every, .long x106]))] H := hP
      have hD : va_D A [(qu, .inr (9, [.long vu_every, .long x106]))] := hD
      refine va_put (D := D) (ci := 9) (v := .long r118) (ty := .long) (C := RX9) (T := TX9) (N := 2) hx hb hts hi9 tyX9 tyX9_ok nmX9 hown hK hP hD hS 0 rfl rfl 0 (by decide) (hts (.fieldLink RX9 9 "OverHill$Tunes" "every" "J") (by decide +kernel)) (fun _ h9 => h9) rfl (by decide +kernel) rfl rfl (Nat.le_of_ble_eq_true rfl) dX9_joinOne_82 (fun H locs hP hD hS => ?_)
      have hP : va_P D vwCl [(qu, .inr (9, [.long r118, .long x106]))] H := hP
      have hD : va_D A [(qu, .inr (9, [.long r118, .long x106]))] := hD
      have hP9 := hP.sub (ws' := [(qu, .inr (9, [.long r118, .long x106]))]) [0] rfl
      have hD9 := hD.sub (ws' := [(qu, .inr (9, [.long r118, .long x106]))]) [0] (by decide) rfl
      exact W.vret hx hb hr (fun t ht hW => ⟨⟨(r118, x106), rfl, trivial, by rw [ht]; exact hP9, hD9⟩, hS.F ht⟩) hS.2.2 dX9_joinOne_85
    · have hq116 : vu_at.toInt ≠ (-1) := tl_ne rfl (by decide) (fun z => hc ((lg_cmp_eq _ _).mpr z))
      refine lv_lload_n hx hb dX9_joinOne_24 rfl (lv_at hl 1 rfl) ?_
      refine lv_ldc2 (v := (-1)) hx hb hown (hts (.constantLong RX9 32 (-1)) (by decide +kernel)) dX9_joinOne_25 ?_
      refine W.lcmp hx hb dX9_joinOne_28 ?_
      refine lv_if_ne (tgt := 67) hx hb dX9_joinOne_29 (by decide) (fun hc => ?_) (fun hc => ?_)
      · have hq119 : x106.toInt ≠ (-1) := tl_ne rfl (by decide) (fun z => hc ((lg_cmp_eq _ _).mpr z))
        refine lv_aload_n hx hb dX9_joinOne_67 rfl (lv_at hl 2 rfl) ?_
        refine lv_lload_n hx hb dX9_joinOne_68 rfl (lv_at hl 1 rfl) ?_
        refine va_put (D := D) (ci := 9) (v := .long x106) (ty := .long) (C := RX9) (T := TX9) (N := 2) hx hb hts hi9 tyX9 tyX9_ok nmX9 hown hK hP hD hS 0 rfl rfl 1 (by decide) (hts (.fieldLink RX9 15 "OverHill$Tunes" "at" "J") (by decide +kernel)) (fun _ h9 => h9) rfl (by decide +kernel) rfl rfl (Nat.le_of_ble_eq_true rfl) dX9_joinOne_69 (fun H locs hP hD hS => ?_)
        have hP : va_P D vwCl [(qu, .inr (9, [.long vu_every, .long x106]))] H := hP
        have hD : va_D A [(qu, .inr (9, [.long vu_every, .long x106]))] := hD
        refine lv_aload_n hx hb dX9_joinOne_72 rfl (lv_at hl 2 rfl) ?_
        refine lv_aload_n hx hb dX9_joinOne_73 rfl (lv_at hl 2 rfl) ?_
        refine va_get (D := D) (ci := 9) (v := .long vu_every) (C := RX9) (T := TX9) (N := 2) hx hb hts hi9 hown hK hP 0 rfl rfl 0 (by decide) (hts (.fieldLink RX9 9 "OverHill$Tunes" "every" "J") (by decide +kernel)) (fun _ h9 => h9) rfl dX9_joinOne_74 ?_
        refine lv_iload_n hx hb dX9_joinOne_77 rfl (lv_at hl 3 rfl) ?_
        refine lv_i2l (v := _) hx hb dX9_joinOne_78 rfl ?_
        refine lv_topl (fun z120 ez120 => ?_)
        have fz120 : z120.toInt = a1.toInt := by rw [ez120]; exact tl_i rfl
        refine ct_calll (D := D) (wc := (w_c_X11_commonMultiple cI cJ cB cZ cO )) (wr := [(qu, .inr (9, [.long vu_every, .long x106]))]) (va_runSN (As := [.long vu_every, .long z120]) (rest := [.ref qu]) ⟨hx, hb, hml, hown, hts⟩ (c_X11_commonMultiple l D G cI cJ cB cZ cO vu_every z120  H.size) ⟨va_cnB 2 hts gX9_joinOne_X11_commonMultiple_n34 rfl rfl rfl (hE.2.1 (RX9, 34, yX11_commonMultiple, "OverHill") (List.mem_of_getElem? (i := 19) rfl)) (hts (.initialized RX11) (by decide +kernel)) (by decide +kernel) ⟨Nat.le_of_ble_eq_true rfl, Nat.le_of_ble_eq_true rfl⟩, (hts (.static yX11_commonMultiple) (by decide +kernel)), trivial⟩ (ct_preS (T := ct_T cI cJ cB cZ cO) hE hH hP hD hS hA [] (by decide) rfl) rfl rfl hl.1 rfl (lv_room (Nat.le_of_ble_eq_true rfl)) dX9_joinOne_79 ⟨Nat.le_of_ble_eq_true rfl, Nat.le_of_ble_eq_true rfl⟩) hP hD hS hA [] [0] rfl rfl (by decide) (by decide) (fun r121 u H locs hw hP hD hS => ?_)
        have hP : va_P D vwCl [(qu, .inr (9, [.long vu_every, .long x106]))] H := hP
        have hD : va_D A [(qu, .inr (9, [.long vu_every, .long x106]))] := hD
        refine va_put (D := D) (ci := 9) (v := .long r121) (ty := .long) (C := RX9) (T := TX9) (N := 2) hx hb hts hi9 tyX9 tyX9_ok nmX9 hown hK hP hD hS 0 rfl rfl 0 (by decide) (hts (.fieldLink RX9 9 "OverHill$Tunes" "every" "J") (by decide +kernel)) (fun _ h9 => h9) rfl (by decide +kernel) rfl rfl (Nat.le_of_ble_eq_true rfl) dX9_joinOne_82 (fun H locs hP hD hS => ?_)
        have hP : va_P D vwCl [(qu, .inr (9, [.long r121, .long x106]))] H := hP
        have hD : va_D A [(qu, .inr (9, [.long r121, .long x106]))] := hD
        have hP9 := hP.sub (ws' := [(qu, .inr (9, [.long r121, .long x106]))]) [0] rfl
        have hD9 := hD.sub (ws' := [(qu, .inr (9, [.long r121, .long x106]))]) [0] (by decide) rfl
        exact W.vret hx hb hr (fun t ht hW => ⟨⟨(r121, x106), rfl, trivial, by rw [ht]; exact hP9, hD9⟩, hS.F ht⟩) hS.2.2 dX9_joinOne_85
      · have hq119 : x106.toInt = (-1) := tl_eq rfl (by decide) ((lg_cmp_eq _ _).mp hc)
        refine lv_aload_n hx hb dX9_joinOne_32 rfl (lv_at hl 2 rfl) ?_
        refine va_get (D := D) (ci := 9) (v := .long vu_at) (C := RX9) (T := TX9) (N := 2) hx hb hts hi9 hown hK hP 0 rfl rfl 1 (by decide) (hts (.fieldLink RX9 15 "OverHill$Tunes" "at" "J") (by decide +kernel)) (fun _ h9 => h9) rfl dX9_joinOne_33 ?_
        refine lv_iload hx hb dX9_joinOne_36 (lv_at hl 0 rfl) ?_
        refine lv_i2l (v := _) hx hb dX9_joinOne_38 rfl ?_
        refine lv_topl (fun z122 ez122 => ?_)
        have fz122 : z122.toInt = x107.toInt := by rw [ez122]; exact tl_i rfl
        refine lv_aload_n hx hb dX9_joinOne_39 rfl (lv_at hl 2 rfl) ?_
        refine va_get (D := D) (ci := 9) (v := .long vu_every) (C := RX9) (T := TX9) (N := 2) hx hb hts hi9 hown hK hP 0 rfl rfl 0 (by decide) (hts (.fieldLink RX9 9 "OverHill$Tunes" "every" "J") (by decide +kernel)) (fun _ h9 => h9) rfl dX9_joinOne_40 ?_
        refine lv_lmul hx hb dX9_joinOne_43 ?_
        refine lv_topl (fun z123 ez123 => ?_)
        refine lv_ladd hx hb dX9_joinOne_44 ?_
        refine lv_topl (fun z124 ez124 => ?_)
        refine lv_lstore (lv' := [(6, .long z124), (5, .int x107), (3, .long x106), (0, .ref qu), (1, .int a1), (2, .int a2)]) hx hb dX9_joinOne_45 hl (by decide) rfl (fun ls hl => ?_)
        refine lv_lload hx hb dX9_joinOne_47 (lv_at hl 0 rfl) ?_
        refine lv_iload_n hx hb dX9_joinOne_49 rfl (lv_at hl 4 rfl) ?_
        refine lv_i2l (v := _) hx hb dX9_joinOne_50 rfl ?_
        refine lv_topl (fun z125 ez125 => ?_)
        have fz125 : z125.toInt = a1.toInt := by rw [ez125]; exact tl_i rfl
        refine lv_lrem hx hb dX9_joinOne_51 (tl_nz (by omega)) ?_
        refine lv_topl (fun z126 ez126 => ?_)
        refine lv_iload_n hx hb dX9_joinOne_52 rfl (lv_at hl 5 rfl) ?_
        refine lv_i2l (v := _) hx hb dX9_joinOne_53 rfl ?_
        refine lv_topl (fun z127 ez127 => ?_)
        have fz127 : z127.toInt = a2.toInt := by rw [ez127]; exact tl_i rfl
        refine W.lcmp hx hb dX9_joinOne_54 ?_
        refine lv_if_ne (tgt := 61) hx hb dX9_joinOne_55 (by decide) (fun hc => ?_) (fun hc => ?_)
        · have hq128 : z126.toInt ≠ z127.toInt := tl_ne rfl rfl (fun z => hc ((lg_cmp_eq _ _).mpr z))
          obtain ⟨z129, ez129⟩ : ∃ z : Int32, z = x107 + 1 := ⟨_, rfl⟩
          have fz129 : z129.toInt = x107.toInt + 1 := by rw [ez129]; exact tq_add rfl (by decide) (by omega)
          refine lv_iinc (v := z129) (lv' := [(5, .int z129), (6, .long z124), (3, .long x106), (0, .ref qu), (1, .int a1), (2, .int a2)]) hx hb dX9_joinOne_61 hl (k := 1) rfl ez129.symm (by decide) rfl (fun ls hl => ?_)
          refine lv_goto (tgt := 7) hx hb dX9_joinOne_64 (by decide) ?_
          exact ih108 (x106, z129) _ _ _ (show (2147483647 - z129.toInt).toNat < (2147483647 - x107.toInt).toNat by omega) ⟨(show 0 ≤ z129.toInt by omega), hP, hD, hS, lv_sub hl [0, 2, 3, 4, 5] rfl⟩
        · have hq128 : z126.toInt = z127.toInt := tl_eq rfl rfl ((lg_cmp_eq _ _).mp hc)
          refine lv_lload hx hb dX9_joinOne_58 (lv_at hl 0 rfl) ?_
          refine lv_lstore_n (lv' := [(3, .long z124), (6, .long z124), (5, .int x107), (0, .ref qu), (1, .int a1), (2, .int a2)]) hx hb dX9_joinOne_60 rfl hl (by decide) rfl (fun ls hl => ?_)
          obtain ⟨z130, ez130⟩ : ∃ z : Int32, z = x107 + 1 := ⟨_, rfl⟩
          have fz130 : z130.toInt = x107.toInt + 1 := by rw [ez130]; exact tq_add rfl (by decide) (by omega)
          refine lv_iinc (v := z130) (lv' := [(5, .int z130), (3, .long z124), (6, .long z124), (0, .ref qu), (1, .int a1), (2, .int a2)]) hx hb dX9_joinOne_61 hl (k := 2) rfl ez130.symm (by decide) rfl (fun ls hl => ?_)
          refine lv_goto (tgt := 7) hx hb dX9_joinOne_64 (by decide) ?_
          exact ih108 (z124, z130) _ _ _ (show (2147483647 - z130.toInt).toNat < (2147483647 - x107.toInt).toNat by omega) ⟨(show 0 ≤ z130.toInt by omega), hP, hD, hS, lv_sub hl [0, 1, 3, 4, 5] rfl⟩
abbrev w_c_X9_join (cI cJ cB cZ cO : ClassId) (qu : Nat) (vu_every : Int64) (vu_at : Int64) (qd : Nat) (vd_gap : Int32) (vd_odds : Int32) (vd_rain : Int32) (vd_lines : Int32) (qd_steps : Nat) (qd_lengths : Nat) (qd_starts : Nat) (qd_met : Nat) (qd_stumbles : Nat) (vd_stumbleCount : Int32) (qd_muds : Nat) (qd_cells : Nat) (vd_cellCount : Int32) (qd_tunes : Nat) (fd_tunes : Nat → Int32) (vd_tuneCount : Int32) (qd_changes : Nat) (vd_changeCount : Int32) : va_W := [(qu, .inr (9, [.long vu_every, .long vu_at])), (qd, .inr (0, [.int vd_gap, .int vd_odds, .int vd_rain, .int vd_lines, .ref qd_steps, .ref qd_lengths, .ref qd_starts, .ref qd_met, .ref qd_stumbles, .int vd_stumbleCount, .ref qd_muds, .ref qd_cells, .int vd_cellCount, .ref qd_tunes, .int vd_tuneCount, .ref qd_changes, .int vd_changeCount])), (qd_tunes, .inl (cI, 10, .inl (fd_tunes)))]
set_option maxHeartbeats 4000000 in
set_option maxRecDepth 100000 in
/-- X9 join -/
theorem c_X9_join (l : Launch) (D : va_G) (G : ct_G) (cI cJ cB cZ cO : ClassId) (qu : Nat) (vu_every : Int64) (vu_at : Int64) (qd : Nat) (vd_gap : Int32) (vd_odds : Int32) (vd_rain : Int32) (vd_lines : Int32) (qd_steps : Nat) (qd_lengths : Nat) (qd_starts : Nat) (qd_met : Nat) (qd_stumbles : Nat) (vd_stumbleCount : Int32) (qd_muds : Nat) (qd_cells : Nat) (vd_cellCount : Int32) (qd_tunes : Nat) (fd_tunes : Nat → Int32) (vd_tuneCount : Int32) (qd_changes : Nat) (vd_changeCount : Int32) (a2 : Int32) (h_vd_gap : 0 ≤ vd_gap.toInt ∧ vd_gap.toInt ≤ 20) (h_vd_stumbleCount : 0 ≤ vd_stumbleCount.toInt ∧ vd_stumbleCount.toInt ≤ 8) (h_vd_cellCount : 0 ≤ vd_cellCount.toInt ∧ vd_cellCount.toInt ≤ 12) (h_vd_tuneCount : 0 ≤ vd_tuneCount.toInt ∧ vd_tuneCount.toInt ≤ 5) (h_vd_changeCount : 0 ≤ vd_changeCount.toInt ∧ vd_changeCount.toInt ≤ 40) (sz : Nat) : Met l yX9_join wsX9_join ({ frames := 3, cells := 0, slots := 0, locals := 82 }) (va_Pc [.ref qu, .ref qd, .int a2] (ct_P D (ct_T cI cJ cB cZ cO) G (w_c_X9_join cI cJ cB cZ cO qu vu_every vu_at qd vd_gap vd_odds vd_rain vd_lines qd_steps qd_lengths qd_starts qd_met qd_stumbles vd_stumbleCount qd_muds qd_cells vd_cellCount qd_tunes fd_tunes vd_tuneCount qd_changes vd_changeCount) sz)) (va_Qv (fun (u : Int64 × Int64) => True) (fun (u : Int64 × Int64) t => ct_Q D (va_A (w_c_X9_join cI cJ cB cZ cO qu vu_every vu_at qd vd_gap vd_odds vd_rain vd_lines qd_steps qd_lengths qd_starts qd_met qd_stumbles vd_stumbleCount qd_muds qd_cells vd_cellCount qd_tunes fd_tunes vd_tuneCount qd_changes vd_changeCount) sz) [(qu, .inr (9, [.long u.1, .long u.2])), (qd, .inr (0, [.int vd_gap, .int vd_odds, .int vd_rain, .int vd_lines, .ref qd_steps, .ref qd_lengths, .ref qd_starts, .ref qd_met, .ref qd_stumbles, .int vd_stumbleCount, .ref qd_muds, .ref qd_cells, .int vd_cellCount, .ref qd_tunes, .int vd_tuneCount, .ref qd_changes, .int vd_changeCount])), (qd_tunes, .inl (cI, 10, .inl (fd_tunes)))] t) (va_A (w_c_X9_join cI cJ cB cZ cO qu vu_every vu_at qd vd_gap vd_odds vd_rain vd_lines qd_steps qd_lengths qd_starts qd_met qd_stumbles vd_stumbleCount qd_muds qd_cells vd_cellCount qd_tunes fd_tunes vd_tuneCount qd_changes vd_changeCount) sz)) 0 0 (va_A (w_c_X9_join cI cJ cB cZ cO qu vu_every vu_at qd vd_gap vd_odds vd_rain vd_lines qd_steps qd_lengths qd_starts qd_met qd_stumbles vd_stumbleCount qd_muds qd_cells vd_cellCount qd_tunes fd_tunes vd_tuneCount qd_changes vd_changeCount) sz) := by
  refine Met.ofW (cc := cX9_join) (maxL := 4) (ret := none) (by decide) rfl ?_
  intro p e s m args below meth c s₁ B hml hv
  obtain ⟨rfl, hsz, hP, hE, hD0, hH⟩ := hv
  have hx := B.exec
  have hb := B.bytes
  have hr := B.returns
  have hts := atoms_spec (ws := wsX9_join) B.pre
  have hown : s.vm.findClass RX9 = some m.cls := findClass_of_methodNamed B.named
  have hlocks := B.notSynchronized
  have hK := hE.1
  have hi0 : ∀ w ∈ u_ws RX0 TX0 17, w ∈ wsX9_join := fun w h => List.mem_cons_of_mem _ (List.mem_append_right _ h)
  have hi9 : ∀ w ∈ u_ws RX9 TX9 2, w ∈ wsX9_join := fun w h => List.mem_cons_of_mem _ (List.mem_append_left _ (List.mem_append_right _ h))
  subst hsz
  have hD := hD0.self (sz := s.heap.size)
  generalize hAe : va_A (w_c_X9_join cI cJ cB cZ cO qu vu_every vu_at qd vd_gap vd_odds vd_rain vd_lines qd_steps qd_lengths qd_starts qd_met qd_stumbles vd_stumbleCount qd_muds qd_cells vd_cellCount qd_tunes fd_tunes vd_tuneCount qd_changes vd_changeCount) s.heap.size = A at hD hH ⊢
  have hA : ∀ q : Nat, s.heap.size ≤ q → A q := fun q h => by rw [← hAe]; exact Or.inr h
  have hS : va_S A s.heap s.heap [] := va_S.rf
  have hP : va_P D vwCl [(qu, .inr (9, [.long vu_every, .long vu_at])), (qd, .inr (0, [.int vd_gap, .int vd_odds, .int vd_rain, .int vd_lines, .ref qd_steps, .ref qd_lengths, .ref qd_starts, .ref qd_met, .ref qd_stumbles, .int vd_stumbleCount, .ref qd_muds, .ref qd_cells, .int vd_cellCount, .ref qd_tunes, .int vd_tuneCount, .ref qd_changes, .int vd_changeCount])), (qd_tunes, .inl (cI, 10, .inl (fd_tunes)))] s.heap := hP
  have hD : va_D A [(qu, .inr (9, [.long vu_every, .long vu_at])), (qd, .inr (0, [.int vd_gap, .int vd_odds, .int vd_rain, .int vd_lines, .ref qd_steps, .ref qd_lengths, .ref qd_starts, .ref qd_met, .ref qd_stumbles, .int vd_stumbleCount, .ref qd_muds, .ref qd_cells, .int vd_cellCount, .ref qd_tunes, .int vd_tuneCount, .ref qd_changes, .int vd_changeCount])), (qd_tunes, .inl (cI, 10, .inl (fd_tunes)))] := hD
  have hl := lv_entry ([.ref qu, .ref qd, .int a2]) (n := 4) (Nat.le_of_ble_eq_true rfl)
  rw [lg_entry_eq]
  generalize (lg_sl ([.ref qu, .ref qd, .int a2]) ++ List.replicate (4 - (lg_sl ([.ref qu, .ref qd, .int a2])).length) Slot.unset).toArray = ls at hl ⊢
  have hl : lv_has ls 4 [(0, .ref qu), (1, .ref qd), (2, .int a2)] := hl
  obtain ⟨H, hHe⟩ : ∃ H : Heap, H = s.heap := ⟨_, rfl⟩
  rw [← hHe] at hP
  have hS : va_S A s.heap H [] := by rw [hHe]; exact va_S.rf
  refine ct_start hHe ?_
  refine lv_aload_n hx hb dX9_join_0 rfl (lv_at hl 0 rfl) ?_
  refine lv_lconst (v := 1) hx hb dX9_join_1 (by decide) ?_
  refine va_put (D := D) (ci := 9) (v := .long 1) (ty := .long) (C := RX9) (T := TX9) (N := 2) hx hb hts hi9 tyX9 tyX9_ok nmX9 hown hK hP hD hS 0 rfl rfl 0 (by decide) (hts (.fieldLink RX9 9 "OverHill$Tunes" "every" "J") (by decide +kernel)) (fun _ h9 => h9) rfl (by decide +kernel) rfl rfl (Nat.le_of_ble_eq_true rfl) dX9_join_2 (fun H locs hP hD hS => ?_)
  have hP : va_P D vwCl [(qu, .inr (9, [.long 1, .long vu_at])), (qd, .inr (0, [.int vd_gap, .int vd_odds, .int vd_rain, .int vd_lines, .ref qd_steps, .ref qd_lengths, .ref qd_starts, .ref qd_met, .ref qd_stumbles, .int vd_stumbleCount, .ref qd_muds, .ref qd_cells, .int vd_cellCount, .ref qd_tunes, .int vd_tuneCount, .ref qd_changes, .int vd_changeCount])), (qd_tunes, .inl (cI, 10, .inl (fd_tunes)))] H := hP
  have hD : va_D A [(qu, .inr (9, [.long 1, .long vu_at])), (qd, .inr (0, [.int vd_gap, .int vd_odds, .int vd_rain, .int vd_lines, .ref qd_steps, .ref qd_lengths, .ref qd_starts, .ref qd_met, .ref qd_stumbles, .int vd_stumbleCount, .ref qd_muds, .ref qd_cells, .int vd_cellCount, .ref qd_tunes, .int vd_tuneCount, .ref qd_changes, .int vd_changeCount])), (qd_tunes, .inl (cI, 10, .inl (fd_tunes)))] := hD
  refine lv_aload_n hx hb dX9_join_5 rfl (lv_at hl 0 rfl) ?_
  refine lv_lconst (v := 0) hx hb dX9_join_6 (by decide) ?_
  refine va_put (D := D) (ci := 9) (v := .long 0) (ty := .long) (C := RX9) (T := TX9) (N := 2) hx hb hts hi9 tyX9 tyX9_ok nmX9 hown hK hP hD hS 0 rfl rfl 1 (by decide) (hts (.fieldLink RX9 15 "OverHill$Tunes" "at" "J") (by decide +kernel)) (fun _ h9 => h9) rfl (by decide +kernel) rfl rfl (Nat.le_of_ble_eq_true rfl) dX9_join_7 (fun H locs hP hD hS => ?_)
  have hP : va_P D vwCl [(qu, .inr (9, [.long 1, .long 0])), (qd, .inr (0, [.int vd_gap, .int vd_odds, .int vd_rain, .int vd_lines, .ref qd_steps, .ref qd_lengths, .ref qd_starts, .ref qd_met, .ref qd_stumbles, .int vd_stumbleCount, .ref qd_muds, .ref qd_cells, .int vd_cellCount, .ref qd_tunes, .int vd_tuneCount, .ref qd_changes, .int vd_changeCount])), (qd_tunes, .inl (cI, 10, .inl (fd_tunes)))] H := hP
  have hD : va_D A [(qu, .inr (9, [.long 1, .long 0])), (qd, .inr (0, [.int vd_gap, .int vd_odds, .int vd_rain, .int vd_lines, .ref qd_steps, .ref qd_lengths, .ref qd_starts, .ref qd_met, .ref qd_stumbles, .int vd_stumbleCount, .ref qd_muds, .ref qd_cells, .int vd_cellCount, .ref qd_tunes, .int vd_tuneCount, .ref qd_changes, .int vd_changeCount])), (qd_tunes, .inl (cI, 10, .inl (fd_tunes)))] := hD
  refine lv_iconst (v := 0) hx hb dX9_join_10 (by decide) ?_
  refine lv_istore_n (lv' := [(3, .int 0), (0, .ref qu), (1, .ref qd), (2, .int a2)]) hx hb dX9_join_11 rfl hl (by decide) rfl (fun ls hl => ?_)
  refine ct_loop (X := Int64 × Int64 × Int32) (fun x => (5 - x.2.2.toInt).toNat) (fun x H locs ls => ((0 ≤ x.2.2.toInt ∧ x.2.2.toInt ≤ 5)) ∧ va_P D vwCl [(qu, .inr (9, [.long x.1, .long x.2.1])), (qd, .inr (0, [.int vd_gap, .int vd_odds, .int vd_rain, .int vd_lines, .ref qd_steps, .ref qd_lengths, .ref qd_starts, .ref qd_met, .ref qd_stumbles, .int vd_stumbleCount, .ref qd_muds, .ref qd_cells, .int vd_cellCount, .ref qd_tunes, .int vd_tuneCount, .ref qd_changes, .int vd_changeCount])), (qd_tunes, .inl (cI, 10, .inl (fd_tunes)))] H ∧ va_D A [(qu, .inr (9, [.long x.1, .long x.2.1])), (qd, .inr (0, [.int vd_gap, .int vd_odds, .int vd_rain, .int vd_lines, .ref qd_steps, .ref qd_lengths, .ref qd_starts, .ref qd_met, .ref qd_stumbles, .int vd_stumbleCount, .ref qd_muds, .ref qd_cells, .int vd_cellCount, .ref qd_tunes, .int vd_tuneCount, .ref qd_changes, .int vd_changeCount])), (qd_tunes, .inl (cI, 10, .inl (fd_tunes)))] ∧ va_S A s.heap H locs ∧ lv_has ls 4 [(3, .int x.2.2), (0, .ref qu), (1, .ref qd), (2, .int a2)]) 12 ((1 : Int64), (0 : Int64), (0 : Int32)) ⟨(show 0 ≤ (0 : Int32).toInt ∧ (0 : Int32).toInt ≤ 5 by decide), hP, hD, hS, lv_sub hl [0, 1, 2, 3] rfl⟩ (fun x ih79 H locs ls hI => ?_)
  obtain ⟨x76, x77, x78⟩ := x
  obtain ⟨h_x78, hP, hD, hS, hl⟩ := hI
  have h_x78 : (0 ≤ x78.toInt ∧ x78.toInt ≤ 5) := h_x78
  have hP : va_P D vwCl [(qu, .inr (9, [.long x76, .long x77])), (qd, .inr (0, [.int vd_gap, .int vd_odds, .int vd_rain, .int vd_lines, .ref qd_steps, .ref qd_lengths, .ref qd_starts, .ref qd_met, .ref qd_stumbles, .int vd_stumbleCount, .ref qd_muds, .ref qd_cells, .int vd_cellCount, .ref qd_tunes, .int vd_tuneCount, .ref qd_changes, .int vd_changeCount])), (qd_tunes, .inl (cI, 10, .inl (fd_tunes)))] H := hP
  have hD : va_D A [(qu, .inr (9, [.long x76, .long x77])), (qd, .inr (0, [.int vd_gap, .int vd_odds, .int vd_rain, .int vd_lines, .ref qd_steps, .ref qd_lengths, .ref qd_starts, .ref qd_met, .ref qd_stumbles, .int vd_stumbleCount, .ref qd_muds, .ref qd_cells, .int vd_cellCount, .ref qd_tunes, .int vd_tuneCount, .ref qd_changes, .int vd_changeCount])), (qd_tunes, .inl (cI, 10, .inl (fd_tunes)))] := hD
  have hl : lv_has ls 4 [(3, .int x78), (0, .ref qu), (1, .ref qd), (2, .int a2)] := hl
  refine lv_iload_n hx hb dX9_join_12 rfl (lv_at hl 0 rfl) ?_
  refine lv_aload_n hx hb dX9_join_13 rfl (lv_at hl 2 rfl) ?_
  refine va_get (D := D) (ci := 0) (v := .int vd_tuneCount) (C := RX0) (T := TX0) (N := 17) hx hb hts hi0 hown hK hP 1 rfl rfl 14 (by decide) (hts (.fieldLink RX9 18 "OverHill$Dance" "tuneCount" "I") (by decide +kernel)) (fun _ h9 => h9) rfl dX9_join_14 ?_
  refine lv_icmp_ge (tgt := 56) hx hb dX9_join_17 (by decide) (fun hc => ?_) (fun hc => ?_)
  · have hq80 : vd_tuneCount.toInt ≤ x78.toInt := tq_le rfl rfl hc
    have hP9 := hP.sub (ws' := [(qu, .inr (9, [.long x76, .long x77])), (qd, .inr (0, [.int vd_gap, .int vd_odds, .int vd_rain, .int vd_lines, .ref qd_steps, .ref qd_lengths, .ref qd_starts, .ref qd_met, .ref qd_stumbles, .int vd_stumbleCount, .ref qd_muds, .ref qd_cells, .int vd_cellCount, .ref qd_tunes, .int vd_tuneCount, .ref qd_changes, .int vd_changeCount])), (qd_tunes, .inl (cI, 10, .inl (fd_tunes)))]) [0, 1, 2] rfl
    have hD9 := hD.sub (ws' := [(qu, .inr (9, [.long x76, .long x77])), (qd, .inr (0, [.int vd_gap, .int vd_odds, .int vd_rain, .int vd_lines, .ref qd_steps, .ref qd_lengths, .ref qd_starts, .ref qd_met, .ref qd_stumbles, .int vd_stumbleCount, .ref qd_muds, .ref qd_cells, .int vd_cellCount, .ref qd_tunes, .int vd_tuneCount, .ref qd_changes, .int vd_changeCount])), (qd_tunes, .inl (cI, 10, .inl (fd_tunes)))]) [0, 1, 2] (by decide) rfl
    exact W.vret hx hb hr (fun t ht hW => ⟨⟨(x76, x77), rfl, trivial, by rw [ht]; exact hP9, hD9⟩, hS.F ht⟩) hS.2.2 dX9_join_56
  · have hq80 : x78.toInt < vd_tuneCount.toInt := tq_nle rfl rfl hc
    refine lv_iload_n hx hb dX9_join_20 rfl (lv_at hl 3 rfl) ?_
    refine lv_iload_n hx hb dX9_join_21 rfl (lv_at hl 0 rfl) ?_
    refine lv_ishr hx hb dX9_join_22 ?_
    refine lv_topi (fun z81 ez81 => ?_)
    refine lv_iconst (v := 1) hx hb dX9_join_23 (by decide) ?_
    refine lv_iand hx hb dX9_join_24 ?_
    refine lv_topi (fun z82 ez82 => ?_)
    have fz82 : 0 ≤ z82.toInt ∧ z82.toInt ≤ 1 := by rw [ez82]; exact tq_and (c := 1) (by decide) (by omega)
    refine lv_if_eq (tgt := 50) hx hb dX9_join_25 (by decide) (fun hc => ?_) (fun hc => ?_)
    · have hq83 : z82.toInt = 0 := tq_eq rfl (by decide) hc
      obtain ⟨z84, ez84⟩ : ∃ z : Int32, z = x78 + 1 := ⟨_, rfl⟩
      have fz84 : z84.toInt = x78.toInt + 1 := by rw [ez84]; exact tq_add rfl (by decide) (by omega)
      refine lv_iinc (v := z84) (lv' := [(3, .int z84), (0, .ref qu), (1, .ref qd), (2, .int a2)]) hx hb dX9_join_50 hl (k := 0) rfl ez84.symm (by decide) rfl (fun ls hl => ?_)
      refine lv_goto (tgt := 12) hx hb dX9_join_53 (by decide) ?_
      exact ih79 (x76, x77, z84) _ _ _ (show (5 - z84.toInt).toNat < (5 - x78.toInt).toNat by omega) ⟨(show 0 ≤ z84.toInt ∧ z84.toInt ≤ 5 by omega), hP, hD, hS, lv_sub hl [0, 1, 2, 3] rfl⟩
    · have hq83 : z82.toInt ≠ 0 := tq_ne rfl (by decide) hc
      refine lv_aload_n hx hb dX9_join_28 rfl (lv_at hl 1 rfl) ?_
      refine lv_aload_n hx hb dX9_join_29 rfl (lv_at hl 2 rfl) ?_
      refine va_get (D := D) (ci := 0) (v := .ref qd_tunes) (C := RX0) (T := TX0) (N := 17) hx hb hts hi0 hown hK hP 1 rfl rfl 13 (by decide) (hts (.fieldLink RX9 24 "OverHill$Dance" "tunes" "[I") (by decide +kernel)) (fun _ h9 => h9) rfl dX9_join_30 ?_
      refine lv_iload_n hx hb dX9_join_33 rfl (lv_at hl 0 rfl) ?_
      refine lv_iconst (v := 2) hx hb dX9_join_34 (by decide) ?_
      refine lv_imul hx hb dX9_join_35 ?_
      refine lv_topi (fun z85 ez85 => ?_)
      have fz85 : z85.toInt = x78.toInt * 2 := by rw [ez85]; exact tq_mul rfl (by decide) (by omega)
      refine va_iald (D := D) hx hb hK hP 2 0 rfl rfl (tq_in rfl (by omega)) dX9_join_36 ?_
      refine lv_topi (fun z86 ez86 => ?_)
      refine lv_aload_n hx hb dX9_join_37 rfl (lv_at hl 2 rfl) ?_
      refine va_get (D := D) (ci := 0) (v := .ref qd_tunes) (C := RX0) (T := TX0) (N := 17) hx hb hts hi0 hown hK hP 1 rfl rfl 13 (by decide) (hts (.fieldLink RX9 24 "OverHill$Dance" "tunes" "[I") (by decide +kernel)) (fun _ h9 => h9) rfl dX9_join_38 ?_
      refine lv_iload_n hx hb dX9_join_41 rfl (lv_at hl 0 rfl) ?_
      refine lv_iconst (v := 2) hx hb dX9_join_42 (by decide) ?_
      refine lv_imul hx hb dX9_join_43 ?_
      refine lv_topi (fun z87 ez87 => ?_)
      have fz87 : z87.toInt = x78.toInt * 2 := by rw [ez87]; exact tq_mul rfl (by decide) (by omega)
      refine lv_iconst (v := 1) hx hb dX9_join_44 (by decide) ?_
      refine lv_iadd hx hb dX9_join_45 ?_
      refine lv_topi (fun z88 ez88 => ?_)
      have fz88 : z88.toInt = z87.toInt + 1 := by rw [ez88]; exact tq_add rfl (by decide) (by omega)
      refine va_iald (D := D) hx hb hK hP 2 0 rfl rfl (tq_in rfl (by omega)) dX9_join_46 ?_
      refine lv_topi (fun z89 ez89 => ?_)
      refine ct_callv (D := D) (wc := (w_c_X9_joinOne cI cJ cB cZ cO qu x76 x77)) (wr := [(qd, .inr (0, [.int vd_gap, .int vd_odds, .int vd_rain, .int vd_lines, .ref qd_steps, .ref qd_lengths, .ref qd_starts, .ref qd_met, .ref qd_stumbles, .int vd_stumbleCount, .ref qd_muds, .ref qd_cells, .int vd_cellCount, .ref qd_tunes, .int vd_tuneCount, .ref qd_changes, .int vd_changeCount])), (qd_tunes, .inl (cI, 10, .inl (fd_tunes)))]) (va_runV (As := [.int z86, .int z89]) (rest := []) ⟨hx, hb, hml, hown, hts⟩ (c_X9_joinOne l D G cI cJ cB cZ cO qu x76 x77 z86 z89  H.size) (cwV 2 hts gX9_join_X9_joinOne rfl rfl rfl (by decide +kernel) ⟨Nat.le_of_ble_eq_true rfl, Nat.le_of_ble_eq_true rfl⟩) (ct_preV (T := ct_T cI cJ cB cZ cO) (ci := 9) (q0 := 0) hE hH hP hD hS hA [0] (by decide) rfl rfl rfl) rfl rfl hl.1 rfl (lv_room (Nat.le_of_ble_eq_true rfl)) dX9_join_47 ⟨Nat.le_of_ble_eq_true rfl, Nat.le_of_ble_eq_true rfl⟩) hP hD hS hA [0] [1, 2] rfl rfl (by decide) (by decide) (fun u H locs hw hP hD hS => ?_)
      obtain ⟨y90, y91⟩ := u
      have hP : va_P D vwCl [(qd, .inr (0, [.int vd_gap, .int vd_odds, .int vd_rain, .int vd_lines, .ref qd_steps, .ref qd_lengths, .ref qd_starts, .ref qd_met, .ref qd_stumbles, .int vd_stumbleCount, .ref qd_muds, .ref qd_cells, .int vd_cellCount, .ref qd_tunes, .int vd_tuneCount, .ref qd_changes, .int vd_changeCount])), (qd_tunes, .inl (cI, 10, .inl (fd_tunes))), (qu, .inr (9, [.long y90, .long y91]))] H := hP
      have hD : va_D A [(qd, .inr (0, [.int vd_gap, .int vd_odds, .int vd_rain, .int vd_lines, .ref qd_steps, .ref qd_lengths, .ref qd_starts, .ref qd_met, .ref qd_stumbles, .int vd_stumbleCount, .ref qd_muds, .ref qd_cells, .int vd_cellCount, .ref qd_tunes, .int vd_tuneCount, .ref qd_changes, .int vd_changeCount])), (qd_tunes, .inl (cI, 10, .inl (fd_tunes))), (qu, .inr (9, [.long y90, .long y91]))] := hD
      obtain ⟨z92, ez92⟩ : ∃ z : Int32, z = x78 + 1 := ⟨_, rfl⟩
      have fz92 : z92.toInt = x78.toInt + 1 := by rw [ez92]; exact tq_add rfl (by decide) (by omega)
      refine lv_iinc (v := z92) (lv' := [(3, .int z92), (0, .ref qu), (1, .ref qd), (2, .int a2)]) hx hb dX9_join_50 hl (k := 0) rfl ez92.symm (by decide) rfl (fun ls hl => ?_)
      refine lv_goto (tgt := 12) hx hb dX9_join_53 (by decide) ?_
      have hP9 := hP.sub (ws' := [(qu, .inr (9, [.long y90, .long y91])), (qd, .inr (0, [.int vd_gap, .int vd_odds, .int vd_rain, .int vd_lines, .ref qd_steps, .ref qd_lengths, .ref qd_starts, .ref qd_met, .ref qd_stumbles, .int vd_stumbleCount, .ref qd_muds, .ref qd_cells, .int vd_cellCount, .ref qd_tunes, .int vd_tuneCount, .ref qd_changes, .int vd_changeCount])), (qd_tunes, .inl (cI, 10, .inl (fd_tunes)))]) [2, 0, 1] rfl
      have hD9 := hD.sub (ws' := [(qu, .inr (9, [.long y90, .long y91])), (qd, .inr (0, [.int vd_gap, .int vd_odds, .int vd_rain, .int vd_lines, .ref qd_steps, .ref qd_lengths, .ref qd_starts, .ref qd_met, .ref qd_stumbles, .int vd_stumbleCount, .ref qd_muds, .ref qd_cells, .int vd_cellCount, .ref qd_tunes, .int vd_tuneCount, .ref qd_changes, .int vd_changeCount])), (qd_tunes, .inl (cI, 10, .inl (fd_tunes)))]) [2, 0, 1] (by decide) rfl
      exact ih79 (y90, y91, z92) _ _ _ (show (5 - z92.toInt).toNat < (5 - x78.toInt).toNat by omega) ⟨(show 0 ≤ z92.toInt ∧ z92.toInt ≤ 5 by omega), hP9, hD9, hS, lv_sub hl [0, 1, 2, 3] rfl⟩
abbrev w_c_X9_firstFrom (cI cJ cB cZ cO : ClassId) (qu : Nat) (vu_every : Int64) (vu_at : Int64) : va_W := [(qu, .inr (9, [.long vu_every, .long vu_at]))]
set_option maxHeartbeats 4000000 in
set_option maxRecDepth 100000 in
/-- X9 firstFrom -/
theorem c_X9_firstFrom (l : Launch) (D : va_G) (G : ct_G) (cI cJ cB cZ cO : ClassId) (qu : Nat) (vu_every : Int64) (vu_at : Int64) (a1 : Int32)  (sz : Nat) : Met l yX9_firstFrom wsX9_firstFrom ({ frames := 1, cells := 0, slots := 0, locals := 25 }) (va_Pc [.ref qu, .int a1] (ct_P D (ct_T cI cJ cB cZ cO) G (w_c_X9_firstFrom cI cJ cB cZ cO qu vu_every vu_at) sz)) (va_Ql (fun (rz : Int64) (u : Unit) => True) (fun (u : Unit) t => ct_Q D (va_A (w_c_X9_firstFrom cI cJ cB cZ cO qu vu_every vu_at) sz) [(qu, .inr (9, [.long vu_every, .long vu_at]))] t) (va_A (w_c_X9_firstFrom cI cJ cB cZ cO qu vu_every vu_at) sz)) 0 0 (va_A (w_c_X9_firstFrom cI cJ cB cZ cO qu vu_every vu_at) sz) := by
  refine Met.ofW (cc := cX9_firstFrom) (maxL := 2) (ret := (some .long)) (by decide) rfl ?_
  intro p e s m args below meth c s₁ B hml hv
  obtain ⟨rfl, hsz, hP, hE, hD0, hH⟩ := hv
  have hx := B.exec
  have hb := B.bytes
  have hr := B.returns
  have hts := atoms_spec (ws := wsX9_firstFrom) B.pre
  have hown : s.vm.findClass RX9 = some m.cls := findClass_of_methodNamed B.named
  have hlocks := B.notSynchronized
  have hK := hE.1
  have hi9 : ∀ w ∈ u_ws RX9 TX9 2, w ∈ wsX9_firstFrom := fun w h => List.mem_cons_of_mem _ (List.mem_append_right _ h)
  subst hsz
  have hD := hD0.self (sz := s.heap.size)
  generalize hAe : va_A (w_c_X9_firstFrom cI cJ cB cZ cO qu vu_every vu_at) s.heap.size = A at hD hH ⊢
  have hA : ∀ q : Nat, s.heap.size ≤ q → A q := fun q h => by rw [← hAe]; exact Or.inr h
  have hS : va_S A s.heap s.heap [] := va_S.rf
  have hP : va_P D vwCl [(qu, .inr (9, [.long vu_every, .long vu_at]))] s.heap := hP
  have hD : va_D A [(qu, .inr (9, [.long vu_every, .long vu_at]))] := hD
  have hl := lv_entry ([.ref qu, .int a1]) (n := 2) (Nat.le_of_ble_eq_true rfl)
  rw [lg_entry_eq]
  generalize (lg_sl ([.ref qu, .int a1]) ++ List.replicate (2 - (lg_sl ([.ref qu, .int a1])).length) Slot.unset).toArray = ls at hl ⊢
  have hl : lv_has ls 2 [(0, .ref qu), (1, .int a1)] := hl
  obtain ⟨H, hHe⟩ : ∃ H : Heap, H = s.heap := ⟨_, rfl⟩
  rw [← hHe] at hP
  have hS : va_S A s.heap H [] := by rw [hHe]; exact va_S.rf
  refine ct_start hHe ?_
  refine lv_aload_n hx hb dX9_firstFrom_0 rfl (lv_at hl 0 rfl) ?_
  refine va_get (D := D) (ci := 9) (v := .long vu_at) (C := RX9) (T := TX9) (N := 2) hx hb hts hi9 hown hK hP 0 rfl rfl 1 (by decide) (hts (.fieldLink RX9 15 "OverHill$Tunes" "at" "J") (by decide +kernel)) (fun _ h9 => h9) rfl dX9_firstFrom_1 ?_
  refine lv_ldc2 (v := (-1)) hx hb hown (hts (.constantLong RX9 32 (-1)) (by decide +kernel)) dX9_firstFrom_4 ?_
  refine W.lcmp hx hb dX9_firstFrom_7 ?_
  refine lv_if_eq (tgt := 20) hx hb dX9_firstFrom_8 (by decide) (fun hc => ?_) (fun hc => ?_)
  · have hq1 : vu_at.toInt = (-1) := tl_eq rfl (by decide) ((lg_cmp_eq _ _).mp hc)
    refine lv_ldc2 (v := (-1)) hx hb hown (hts (.constantLong RX9 32 (-1)) (by decide +kernel)) dX9_firstFrom_20 ?_
    have hP9 := hP.sub (ws' := [(qu, .inr (9, [.long vu_every, .long vu_at]))]) [0] rfl
    have hD9 := hD.sub (ws' := [(qu, .inr (9, [.long vu_every, .long vu_at]))]) [0] (by decide) rfl
    exact W.lret (v := (-1)) hx hb hr (fun t ht hW => ⟨⟨(-1), (), rfl, trivial, by rw [ht]; exact hP9, hD9⟩, hS.F ht⟩) hS.2.2 dX9_firstFrom_23
  · have hq1 : vu_at.toInt ≠ (-1) := tl_ne rfl (by decide) (fun z => hc ((lg_cmp_eq _ _).mpr z))
    refine lv_aload_n hx hb dX9_firstFrom_11 rfl (lv_at hl 0 rfl) ?_
    refine va_get (D := D) (ci := 9) (v := .long vu_every) (C := RX9) (T := TX9) (N := 2) hx hb hts hi9 hown hK hP 0 rfl rfl 0 (by decide) (hts (.fieldLink RX9 9 "OverHill$Tunes" "every" "J") (by decide +kernel)) (fun _ h9 => h9) rfl dX9_firstFrom_12 ?_
    refine lv_lconst (v := 0) hx hb dX9_firstFrom_15 (by decide) ?_
    refine W.lcmp hx hb dX9_firstFrom_16 ?_
    refine lv_if_gt (tgt := 24) hx hb dX9_firstFrom_17 (by decide) (fun hc => ?_) (fun hc => ?_)
    · have hq2 : 0 < vu_every.toInt := tl_lt (by decide) rfl ((lg_cmp_gt _ _).mp hc)
      refine lv_iload_n hx hb dX9_firstFrom_24 rfl (lv_at hl 1 rfl) ?_
      refine lv_i2l (v := _) hx hb dX9_firstFrom_25 rfl ?_
      refine lv_topl (fun z3 ez3 => ?_)
      have fz3 : z3.toInt = a1.toInt := by rw [ez3]; exact tl_i rfl
      refine lv_aload_n hx hb dX9_firstFrom_26 rfl (lv_at hl 0 rfl) ?_
      refine va_get (D := D) (ci := 9) (v := .long vu_at) (C := RX9) (T := TX9) (N := 2) hx hb hts hi9 hown hK hP 0 rfl rfl 1 (by decide) (hts (.fieldLink RX9 15 "OverHill$Tunes" "at" "J") (by decide +kernel)) (fun _ h9 => h9) rfl dX9_firstFrom_27 ?_
      refine lv_iload_n hx hb dX9_firstFrom_30 rfl (lv_at hl 1 rfl) ?_
      refine lv_i2l (v := _) hx hb dX9_firstFrom_31 rfl ?_
      refine lv_topl (fun z4 ez4 => ?_)
      have fz4 : z4.toInt = a1.toInt := by rw [ez4]; exact tl_i rfl
      refine lv_lsub hx hb dX9_firstFrom_32 ?_
      refine lv_topl (fun z5 ez5 => ?_)
      refine lv_aload_n hx hb dX9_firstFrom_33 rfl (lv_at hl 0 rfl) ?_
      refine va_get (D := D) (ci := 9) (v := .long vu_every) (C := RX9) (T := TX9) (N := 2) hx hb hts hi9 hown hK hP 0 rfl rfl 0 (by decide) (hts (.fieldLink RX9 9 "OverHill$Tunes" "every" "J") (by decide +kernel)) (fun _ h9 => h9) rfl dX9_firstFrom_34 ?_
      refine ct_calll (D := D) (wc := (w_c_J9_floorMod_f86c9 cI cJ cB cZ cO )) (wr := [(qu, .inr (9, [.long vu_every, .long vu_at]))]) (va_runS (As := [.long z5, .long vu_every]) (rest := [.long z3]) ⟨hx, hb, hml, hown, hts⟩ (c_J9_floorMod_f86c9 l D G cI cJ cB cZ cO z5 vu_every (by omega) H.size) (va_cwS 2 hts gX9_firstFrom_J9_floorMod_f86c9 rfl rfl rfl (by decide +kernel) ⟨Nat.le_of_ble_eq_true rfl, Nat.le_of_ble_eq_true rfl⟩) (ct_preS (T := ct_T cI cJ cB cZ cO) hE hH hP hD hS hA [] (by decide) rfl) rfl rfl hl.1 rfl (lv_room (Nat.le_of_ble_eq_true rfl)) dX9_firstFrom_37 ⟨Nat.le_of_ble_eq_true rfl, Nat.le_of_ble_eq_true rfl⟩) hP hD hS hA [] [0] rfl rfl (by decide) (by decide) (fun r6 u H locs hw hP hD hS => ?_)
      have hP : va_P D vwCl [(qu, .inr (9, [.long vu_every, .long vu_at]))] H := hP
      have hD : va_D A [(qu, .inr (9, [.long vu_every, .long vu_at]))] := hD
      refine lv_ladd hx hb dX9_firstFrom_40 ?_
      refine lv_topl (fun z7 ez7 => ?_)
      have hP9 := hP.sub (ws' := [(qu, .inr (9, [.long vu_every, .long vu_at]))]) [0] rfl
      have hD9 := hD.sub (ws' := [(qu, .inr (9, [.long vu_every, .long vu_at]))]) [0] (by decide) rfl
      exact W.lret (v := z7) hx hb hr (fun t ht hW => ⟨⟨z7, (), rfl, trivial, by rw [ht]; exact hP9, hD9⟩, hS.F ht⟩) hS.2.2 dX9_firstFrom_41
    · have hq2 : vu_every.toInt ≤ 0 := tl_nlt (by decide) rfl (fun z => hc ((lg_cmp_gt _ _).mpr z))
      refine lv_ldc2 (v := (-1)) hx hb hown (hts (.constantLong RX9 32 (-1)) (by decide +kernel)) dX9_firstFrom_20 ?_
      have hP9 := hP.sub (ws' := [(qu, .inr (9, [.long vu_every, .long vu_at]))]) [0] rfl
      have hD9 := hD.sub (ws' := [(qu, .inr (9, [.long vu_every, .long vu_at]))]) [0] (by decide) rfl
      exact W.lret (v := (-1)) hx hb hr (fun t ht hW => ⟨⟨(-1), (), rfl, trivial, by rw [ht]; exact hP9, hD9⟩, hS.F ht⟩) hS.2.2 dX9_firstFrom_23
abbrev w_c_X9_largestSet (cI cJ cB cZ cO : ClassId) (qu : Nat) (vu_every : Int64) (vu_at : Int64) (qd : Nat) (vd_gap : Int32) (vd_odds : Int32) (vd_rain : Int32) (vd_lines : Int32) (qd_steps : Nat) (qd_lengths : Nat) (qd_starts : Nat) (qd_met : Nat) (qd_stumbles : Nat) (vd_stumbleCount : Int32) (qd_muds : Nat) (qd_cells : Nat) (vd_cellCount : Int32) (qd_tunes : Nat) (fd_tunes : Nat → Int32) (vd_tuneCount : Int32) (qd_changes : Nat) (vd_changeCount : Int32) : va_W := [(qu, .inr (9, [.long vu_every, .long vu_at])), (qd, .inr (0, [.int vd_gap, .int vd_odds, .int vd_rain, .int vd_lines, .ref qd_steps, .ref qd_lengths, .ref qd_starts, .ref qd_met, .ref qd_stumbles, .int vd_stumbleCount, .ref qd_muds, .ref qd_cells, .int vd_cellCount, .ref qd_tunes, .int vd_tuneCount, .ref qd_changes, .int vd_changeCount])), (qd_tunes, .inl (cI, 10, .inl (fd_tunes)))]
set_option maxHeartbeats 4000000 in
set_option maxRecDepth 100000 in
/-- X9 largestSet -/
theorem c_X9_largestSet (l : Launch) (D : va_G) (G : ct_G) (cI cJ cB cZ cO : ClassId) (qu : Nat) (vu_every : Int64) (vu_at : Int64) (qd : Nat) (vd_gap : Int32) (vd_odds : Int32) (vd_rain : Int32) (vd_lines : Int32) (qd_steps : Nat) (qd_lengths : Nat) (qd_starts : Nat) (qd_met : Nat) (qd_stumbles : Nat) (vd_stumbleCount : Int32) (qd_muds : Nat) (qd_cells : Nat) (vd_cellCount : Int32) (qd_tunes : Nat) (fd_tunes : Nat → Int32) (vd_tuneCount : Int32) (qd_changes : Nat) (vd_changeCount : Int32) (h_vd_gap : 0 ≤ vd_gap.toInt ∧ vd_gap.toInt ≤ 20) (h_vd_stumbleCount : 0 ≤ vd_stumbleCount.toInt ∧ vd_stumbleCount.toInt ≤ 8) (h_vd_cellCount : 0 ≤ vd_cellCount.toInt ∧ vd_cellCount.toInt ≤ 12) (h_vd_tuneCount : 0 ≤ vd_tuneCount.toInt ∧ vd_tuneCount.toInt ≤ 5) (h_vd_changeCount : 0 ≤ vd_changeCount.toInt ∧ vd_changeCount.toInt ≤ 40) (sz : Nat) : Met l yX9_largestSet wsX9_largestSet ({ frames := 4, cells := 0, slots := 0, locals := 105 }) (va_Pc [.ref qu, .ref qd] (ct_P D (ct_T cI cJ cB cZ cO) G (w_c_X9_largestSet cI cJ cB cZ cO qu vu_every vu_at qd vd_gap vd_odds vd_rain vd_lines qd_steps qd_lengths qd_starts qd_met qd_stumbles vd_stumbleCount qd_muds qd_cells vd_cellCount qd_tunes fd_tunes vd_tuneCount qd_changes vd_changeCount) sz)) (va_Qi (fun (rz : Int32) (u : Int64 × Int64) => (0 ≤ rz.toInt ∧ rz.toInt ≤ 40)) (fun (u : Int64 × Int64) t => ct_Q D (va_A (w_c_X9_largestSet cI cJ cB cZ cO qu vu_every vu_at qd vd_gap vd_odds vd_rain vd_lines qd_steps qd_lengths qd_starts qd_met qd_stumbles vd_stumbleCount qd_muds qd_cells vd_cellCount qd_tunes fd_tunes vd_tuneCount qd_changes vd_changeCount) sz) [(qu, .inr (9, [.long u.1, .long u.2])), (qd, .inr (0, [.int vd_gap, .int vd_odds, .int vd_rain, .int vd_lines, .ref qd_steps, .ref qd_lengths, .ref qd_starts, .ref qd_met, .ref qd_stumbles, .int vd_stumbleCount, .ref qd_muds, .ref qd_cells, .int vd_cellCount, .ref qd_tunes, .int vd_tuneCount, .ref qd_changes, .int vd_changeCount])), (qd_tunes, .inl (cI, 10, .inl (fd_tunes)))] t) (va_A (w_c_X9_largestSet cI cJ cB cZ cO qu vu_every vu_at qd vd_gap vd_odds vd_rain vd_lines qd_steps qd_lengths qd_starts qd_met qd_stumbles vd_stumbleCount qd_muds qd_cells vd_cellCount qd_tunes fd_tunes vd_tuneCount qd_changes vd_changeCount) sz)) 0 0 (va_A (w_c_X9_largestSet cI cJ cB cZ cO qu vu_every vu_at qd vd_gap vd_odds vd_rain vd_lines qd_steps qd_lengths qd_starts qd_met qd_stumbles vd_stumbleCount qd_muds qd_cells vd_cellCount qd_tunes fd_tunes vd_tuneCount qd_changes vd_changeCount) sz) := by
  refine Met.ofW (cc := cX9_largestSet) (maxL := 4) (ret := (some .int)) (by decide) rfl ?_
  intro p e s m args below meth c s₁ B hml hv
  obtain ⟨rfl, hsz, hP, hE, hD0, hH⟩ := hv
  have hx := B.exec
  have hb := B.bytes
  have hr := B.returns
  have hts := atoms_spec (ws := wsX9_largestSet) B.pre
  have hown : s.vm.findClass RX9 = some m.cls := findClass_of_methodNamed B.named
  have hlocks := B.notSynchronized
  have hK := hE.1
  have hi0 : ∀ w ∈ u_ws RX0 TX0 17, w ∈ wsX9_largestSet := fun w h => List.mem_cons_of_mem _ (List.mem_append_left _ (List.mem_append_right _ h))
  have hi9 : ∀ w ∈ u_ws RX9 TX9 2, w ∈ wsX9_largestSet := fun w h => List.mem_cons_of_mem _ (List.mem_append_right _ h)
  subst hsz
  have hD := hD0.self (sz := s.heap.size)
  generalize hAe : va_A (w_c_X9_largestSet cI cJ cB cZ cO qu vu_every vu_at qd vd_gap vd_odds vd_rain vd_lines qd_steps qd_lengths qd_starts qd_met qd_stumbles vd_stumbleCount qd_muds qd_cells vd_cellCount qd_tunes fd_tunes vd_tuneCount qd_changes vd_changeCount) s.heap.size = A at hD hH ⊢
  have hA : ∀ q : Nat, s.heap.size ≤ q → A q := fun q h => by rw [← hAe]; exact Or.inr h
  have hS : va_S A s.heap s.heap [] := va_S.rf
  have hP : va_P D vwCl [(qu, .inr (9, [.long vu_every, .long vu_at])), (qd, .inr (0, [.int vd_gap, .int vd_odds, .int vd_rain, .int vd_lines, .ref qd_steps, .ref qd_lengths, .ref qd_starts, .ref qd_met, .ref qd_stumbles, .int vd_stumbleCount, .ref qd_muds, .ref qd_cells, .int vd_cellCount, .ref qd_tunes, .int vd_tuneCount, .ref qd_changes, .int vd_changeCount])), (qd_tunes, .inl (cI, 10, .inl (fd_tunes)))] s.heap := hP
  have hD : va_D A [(qu, .inr (9, [.long vu_every, .long vu_at])), (qd, .inr (0, [.int vd_gap, .int vd_odds, .int vd_rain, .int vd_lines, .ref qd_steps, .ref qd_lengths, .ref qd_starts, .ref qd_met, .ref qd_stumbles, .int vd_stumbleCount, .ref qd_muds, .ref qd_cells, .int vd_cellCount, .ref qd_tunes, .int vd_tuneCount, .ref qd_changes, .int vd_changeCount])), (qd_tunes, .inl (cI, 10, .inl (fd_tunes)))] := hD
  have hl := lv_entry ([.ref qu, .ref qd]) (n := 4) (Nat.le_of_ble_eq_true rfl)
  rw [lg_entry_eq]
  generalize (lg_sl ([.ref qu, .ref qd]) ++ List.replicate (4 - (lg_sl ([.ref qu, .ref qd])).length) Slot.unset).toArray = ls at hl ⊢
  have hl : lv_has ls 4 [(0, .ref qu), (1, .ref qd)] := hl
  obtain ⟨H, hHe⟩ : ∃ H : Heap, H = s.heap := ⟨_, rfl⟩
  rw [← hHe] at hP
  have hS : va_S A s.heap H [] := by rw [hHe]; exact va_S.rf
  refine ct_start hHe ?_
  refine lv_iconst (v := 0) hx hb dX9_largestSet_0 (by decide) ?_
  refine lv_istore_n (lv' := [(2, .int 0), (0, .ref qu), (1, .ref qd)]) hx hb dX9_largestSet_1 rfl hl (by decide) rfl (fun ls hl => ?_)
  refine lv_iconst (v := 1) hx hb dX9_largestSet_2 (by decide) ?_
  refine lv_istore_n (lv' := [(3, .int 1), (2, .int 0), (0, .ref qu), (1, .ref qd)]) hx hb dX9_largestSet_3 rfl hl (by decide) rfl (fun ls hl => ?_)
  refine ct_loop (X := Int64 × Int64 × Int32 × Int32) (fun x => (32 - x.2.2.2.toInt).toNat) (fun x H locs ls => ((0 ≤ x.2.2.1.toInt ∧ x.2.2.1.toInt ≤ 40)) ∧ ((1 ≤ x.2.2.2.toInt ∧ x.2.2.2.toInt ≤ 32)) ∧ va_P D vwCl [(qu, .inr (9, [.long x.1, .long x.2.1])), (qd, .inr (0, [.int vd_gap, .int vd_odds, .int vd_rain, .int vd_lines, .ref qd_steps, .ref qd_lengths, .ref qd_starts, .ref qd_met, .ref qd_stumbles, .int vd_stumbleCount, .ref qd_muds, .ref qd_cells, .int vd_cellCount, .ref qd_tunes, .int vd_tuneCount, .ref qd_changes, .int vd_changeCount])), (qd_tunes, .inl (cI, 10, .inl (fd_tunes)))] H ∧ va_D A [(qu, .inr (9, [.long x.1, .long x.2.1])), (qd, .inr (0, [.int vd_gap, .int vd_odds, .int vd_rain, .int vd_lines, .ref qd_steps, .ref qd_lengths, .ref qd_starts, .ref qd_met, .ref qd_stumbles, .int vd_stumbleCount, .ref qd_muds, .ref qd_cells, .int vd_cellCount, .ref qd_tunes, .int vd_tuneCount, .ref qd_changes, .int vd_changeCount])), (qd_tunes, .inl (cI, 10, .inl (fd_tunes)))] ∧ va_S A s.heap H locs ∧ lv_has ls 4 [(3, .int x.2.2.2), (2, .int x.2.2.1), (0, .ref qu), (1, .ref qd)]) 4 (vu_every, vu_at, (0 : Int32), (1 : Int32)) ⟨(show 0 ≤ (0 : Int32).toInt ∧ (0 : Int32).toInt ≤ 40 by decide), (show 1 ≤ (1 : Int32).toInt ∧ (1 : Int32).toInt ≤ 32 by decide), hP, hD, hS, lv_sub hl [0, 1, 2, 3] rfl⟩ (fun x ih208 H locs ls hI => ?_)
  obtain ⟨x204, x205, x206, x207⟩ := x
  obtain ⟨h_x206, h_x207, hP, hD, hS, hl⟩ := hI
  have h_x206 : (0 ≤ x206.toInt ∧ x206.toInt ≤ 40) := h_x206
  have h_x207 : (1 ≤ x207.toInt ∧ x207.toInt ≤ 32) := h_x207
  have hP : va_P D vwCl [(qu, .inr (9, [.long x204, .long x205])), (qd, .inr (0, [.int vd_gap, .int vd_odds, .int vd_rain, .int vd_lines, .ref qd_steps, .ref qd_lengths, .ref qd_starts, .ref qd_met, .ref qd_stumbles, .int vd_stumbleCount, .ref qd_muds, .ref qd_cells, .int vd_cellCount, .ref qd_tunes, .int vd_tuneCount, .ref qd_changes, .int vd_changeCount])), (qd_tunes, .inl (cI, 10, .inl (fd_tunes)))] H := hP
  have hD : va_D A [(qu, .inr (9, [.long x204, .long x205])), (qd, .inr (0, [.int vd_gap, .int vd_odds, .int vd_rain, .int vd_lines, .ref qd_steps, .ref qd_lengths, .ref qd_starts, .ref qd_met, .ref qd_stumbles, .int vd_stumbleCount, .ref qd_muds, .ref qd_cells, .int vd_cellCount, .ref qd_tunes, .int vd_tuneCount, .ref qd_changes, .int vd_changeCount])), (qd_tunes, .inl (cI, 10, .inl (fd_tunes)))] := hD
  have hl : lv_has ls 4 [(3, .int x207), (2, .int x206), (0, .ref qu), (1, .ref qd)] := hl
  refine lv_iload_n hx hb dX9_largestSet_4 rfl (lv_at hl 0 rfl) ?_
  refine lv_iconst (v := 1) hx hb dX9_largestSet_5 (by decide) ?_
  refine lv_aload_n hx hb dX9_largestSet_6 rfl (lv_at hl 3 rfl) ?_
  refine va_get (D := D) (ci := 0) (v := .int vd_tuneCount) (C := RX0) (T := TX0) (N := 17) hx hb hts hi0 hown hK hP 1 rfl rfl 14 (by decide) (hts (.fieldLink RX9 18 "OverHill$Dance" "tuneCount" "I") (by decide +kernel)) (fun _ h9 => h9) rfl dX9_largestSet_7 ?_
  refine lv_ishl hx hb dX9_largestSet_10 ?_
  refine lv_topi (fun z209 ez209 => ?_)
  have fz209 : 1 ≤ z209.toInt ∧ z209.toInt ≤ 32 := by rw [ez209]; exact tq_shl5 rfl (by omega)
  refine lv_icmp_ge (tgt := 50) hx hb dX9_largestSet_11 (by decide) (fun hc => ?_) (fun hc => ?_)
  · have hq210 : z209.toInt ≤ x207.toInt := tq_le rfl rfl hc
    refine lv_iload_n hx hb dX9_largestSet_50 rfl (lv_at hl 1 rfl) ?_
    have hP9 := hP.sub (ws' := [(qu, .inr (9, [.long x204, .long x205])), (qd, .inr (0, [.int vd_gap, .int vd_odds, .int vd_rain, .int vd_lines, .ref qd_steps, .ref qd_lengths, .ref qd_starts, .ref qd_met, .ref qd_stumbles, .int vd_stumbleCount, .ref qd_muds, .ref qd_cells, .int vd_cellCount, .ref qd_tunes, .int vd_tuneCount, .ref qd_changes, .int vd_changeCount])), (qd_tunes, .inl (cI, 10, .inl (fd_tunes)))]) [0, 1, 2] rfl
    have hD9 := hD.sub (ws' := [(qu, .inr (9, [.long x204, .long x205])), (qd, .inr (0, [.int vd_gap, .int vd_odds, .int vd_rain, .int vd_lines, .ref qd_steps, .ref qd_lengths, .ref qd_starts, .ref qd_met, .ref qd_stumbles, .int vd_stumbleCount, .ref qd_muds, .ref qd_cells, .int vd_cellCount, .ref qd_tunes, .int vd_tuneCount, .ref qd_changes, .int vd_changeCount])), (qd_tunes, .inl (cI, 10, .inl (fd_tunes)))]) [0, 1, 2] (by decide) rfl
    exact W.iret (v := x206) hx hb hr (fun t ht hW => ⟨⟨x206, (x204, x205), rfl, (show 0 ≤ x206.toInt ∧ x206.toInt ≤ 40 by omega), by rw [ht]; exact hP9, hD9⟩, hS.F ht⟩) hS.2.2 dX9_largestSet_51
  · have hq210 : x207.toInt < z209.toInt := tq_nle rfl rfl hc
    refine lv_iload_n hx hb dX9_largestSet_14 rfl (lv_at hl 0 rfl) ?_
    refine ct_calli (D := D) (wc := (w_c_J6_bitCount_0f7a4 cI cJ cB cZ cO )) (wr := [(qu, .inr (9, [.long x204, .long x205])), (qd, .inr (0, [.int vd_gap, .int vd_odds, .int vd_rain, .int vd_lines, .ref qd_steps, .ref qd_lengths, .ref qd_starts, .ref qd_met, .ref qd_stumbles, .int vd_stumbleCount, .ref qd_muds, .ref qd_cells, .int vd_cellCount, .ref qd_tunes, .int vd_tuneCount, .ref qd_changes, .int vd_changeCount])), (qd_tunes, .inl (cI, 10, .inl (fd_tunes)))]) (va_runS (As := [.int x207]) (rest := []) ⟨hx, hb, hml, hown, hts⟩ (c_J6_bitCount_0f7a4 l D G cI cJ cB cZ cO x207  H.size) (va_cwS 1 hts gX9_largestSet_J6_bitCount_0f7a4 rfl rfl rfl (by decide +kernel) ⟨Nat.le_of_ble_eq_true rfl, Nat.le_of_ble_eq_true rfl⟩) (ct_preS (T := ct_T cI cJ cB cZ cO) hE hH hP hD hS hA [] (by decide) rfl) rfl rfl hl.1 rfl (lv_room (Nat.le_of_ble_eq_true rfl)) dX9_largestSet_15 ⟨Nat.le_of_ble_eq_true rfl, Nat.le_of_ble_eq_true rfl⟩) hP hD hS hA [] [0, 1, 2] rfl rfl (by decide) (by decide) (fun r211 u H locs hw hP hD hS => ?_)
    have hP : va_P D vwCl [(qu, .inr (9, [.long x204, .long x205])), (qd, .inr (0, [.int vd_gap, .int vd_odds, .int vd_rain, .int vd_lines, .ref qd_steps, .ref qd_lengths, .ref qd_starts, .ref qd_met, .ref qd_stumbles, .int vd_stumbleCount, .ref qd_muds, .ref qd_cells, .int vd_cellCount, .ref qd_tunes, .int vd_tuneCount, .ref qd_changes, .int vd_changeCount])), (qd_tunes, .inl (cI, 10, .inl (fd_tunes)))] H := hP
    have hD : va_D A [(qu, .inr (9, [.long x204, .long x205])), (qd, .inr (0, [.int vd_gap, .int vd_odds, .int vd_rain, .int vd_lines, .ref qd_steps, .ref qd_lengths, .ref qd_starts, .ref qd_met, .ref qd_stumbles, .int vd_stumbleCount, .ref qd_muds, .ref qd_cells, .int vd_cellCount, .ref qd_tunes, .int vd_tuneCount, .ref qd_changes, .int vd_changeCount])), (qd_tunes, .inl (cI, 10, .inl (fd_tunes)))] := hD
    have hz := hw
    have h_r211 : 0 ≤ r211.toInt ∧ r211.toInt ≤ 63 := hz
    refine lv_iload_n hx hb dX9_largestSet_18 rfl (lv_at hl 1 rfl) ?_
    refine ct_calli (D := D) (wc := (w_c_J6_bitCount_0f7a4 cI cJ cB cZ cO )) (wr := [(qu, .inr (9, [.long x204, .long x205])), (qd, .inr (0, [.int vd_gap, .int vd_odds, .int vd_rain, .int vd_lines, .ref qd_steps, .ref qd_lengths, .ref qd_starts, .ref qd_met, .ref qd_stumbles, .int vd_stumbleCount, .ref qd_muds, .ref qd_cells, .int vd_cellCount, .ref qd_tunes, .int vd_tuneCount, .ref qd_changes, .int vd_changeCount])), (qd_tunes, .inl (cI, 10, .inl (fd_tunes)))]) (va_runS (As := [.int x206]) (rest := [.int r211]) ⟨hx, hb, hml, hown, hts⟩ (c_J6_bitCount_0f7a4 l D G cI cJ cB cZ cO x206  H.size) (va_cwS 1 hts gX9_largestSet_J6_bitCount_0f7a4 rfl rfl rfl (by decide +kernel) ⟨Nat.le_of_ble_eq_true rfl, Nat.le_of_ble_eq_true rfl⟩) (ct_preS (T := ct_T cI cJ cB cZ cO) hE hH hP hD hS hA [] (by decide) rfl) rfl rfl hl.1 rfl (lv_room (Nat.le_of_ble_eq_true rfl)) dX9_largestSet_19 ⟨Nat.le_of_ble_eq_true rfl, Nat.le_of_ble_eq_true rfl⟩) hP hD hS hA [] [0, 1, 2] rfl rfl (by decide) (by decide) (fun r212 u H locs hw hP hD hS => ?_)
    have hP : va_P D vwCl [(qu, .inr (9, [.long x204, .long x205])), (qd, .inr (0, [.int vd_gap, .int vd_odds, .int vd_rain, .int vd_lines, .ref qd_steps, .ref qd_lengths, .ref qd_starts, .ref qd_met, .ref qd_stumbles, .int vd_stumbleCount, .ref qd_muds, .ref qd_cells, .int vd_cellCount, .ref qd_tunes, .int vd_tuneCount, .ref qd_changes, .int vd_changeCount])), (qd_tunes, .inl (cI, 10, .inl (fd_tunes)))] H := hP
    have hD : va_D A [(qu, .inr (9, [.long x204, .long x205])), (qd, .inr (0, [.int vd_gap, .int vd_odds, .int vd_rain, .int vd_lines, .ref qd_steps, .ref qd_lengths, .ref qd_starts, .ref qd_met, .ref qd_stumbles, .int vd_stumbleCount, .ref qd_muds, .ref qd_cells, .int vd_cellCount, .ref qd_tunes, .int vd_tuneCount, .ref qd_changes, .int vd_changeCount])), (qd_tunes, .inl (cI, 10, .inl (fd_tunes)))] := hD
    have hz := hw
    have h_r212 : 0 ≤ r212.toInt ∧ r212.toInt ≤ 63 := hz
    refine lv_icmp_le (tgt := 44) hx hb dX9_largestSet_22 (by decide) (fun hc => ?_) (fun hc => ?_)
    · have hq213 : r211.toInt ≤ r212.toInt := tq_le rfl rfl hc
      obtain ⟨z214, ez214⟩ : ∃ z : Int32, z = x207 + 1 := ⟨_, rfl⟩
      have fz214 : z214.toInt = x207.toInt + 1 := by rw [ez214]; exact tq_add rfl (by decide) (by omega)
      refine lv_iinc (v := z214) (lv' := [(3, .int z214), (2, .int x206), (0, .ref qu), (1, .ref qd)]) hx hb dX9_largestSet_44 hl (k := 0) rfl ez214.symm (by decide) rfl (fun ls hl => ?_)
      refine lv_goto (tgt := 4) hx hb dX9_largestSet_47 (by decide) ?_
      exact ih208 (x204, x205, x206, z214) _ _ _ (show (32 - z214.toInt).toNat < (32 - x207.toInt).toNat by omega) ⟨(show 0 ≤ x206.toInt ∧ x206.toInt ≤ 40 by omega), (show 1 ≤ z214.toInt ∧ z214.toInt ≤ 32 by omega), hP, hD, hS, lv_sub hl [0, 1, 2, 3] rfl⟩
    · have hq213 : r212.toInt < r211.toInt := tq_nle rfl rfl hc
      refine lv_aload_n hx hb dX9_largestSet_25 rfl (lv_at hl 2 rfl) ?_
      refine lv_aload_n hx hb dX9_largestSet_26 rfl (lv_at hl 3 rfl) ?_
      refine lv_iload_n hx hb dX9_largestSet_27 rfl (lv_at hl 0 rfl) ?_
      refine ct_callv (D := D) (wc := (w_c_X9_join cI cJ cB cZ cO qu x204 x205 qd vd_gap vd_odds vd_rain vd_lines qd_steps qd_lengths qd_starts qd_met qd_stumbles vd_stumbleCount qd_muds qd_cells vd_cellCount qd_tunes fd_tunes vd_tuneCount qd_changes vd_changeCount)) (wr := []) (va_runV (As := [.ref qd, .int x207]) (rest := []) ⟨hx, hb, hml, hown, hts⟩ (c_X9_join l D G cI cJ cB cZ cO qu x204 x205 qd vd_gap vd_odds vd_rain vd_lines qd_steps qd_lengths qd_starts qd_met qd_stumbles vd_stumbleCount qd_muds qd_cells vd_cellCount qd_tunes fd_tunes vd_tuneCount qd_changes vd_changeCount x207 (by omega) (by omega) (by omega) (by omega) (by omega) H.size) (cwV 2 hts gX9_largestSet_X9_join rfl rfl rfl (by decide +kernel) ⟨Nat.le_of_ble_eq_true rfl, Nat.le_of_ble_eq_true rfl⟩) (ct_preV (T := ct_T cI cJ cB cZ cO) (ci := 9) (q0 := 0) hE hH hP hD hS hA [0, 1, 2] (by decide) rfl rfl rfl) rfl rfl hl.1 rfl (lv_room (Nat.le_of_ble_eq_true rfl)) dX9_largestSet_28 ⟨Nat.le_of_ble_eq_true rfl, Nat.le_of_ble_eq_true rfl⟩) hP hD hS hA [0, 1, 2] [] rfl rfl (by decide) (by decide) (fun u H locs hw hP hD hS => ?_)
      obtain ⟨y215, y216⟩ := u
      have hP : va_P D vwCl [(qu, .inr (9, [.long y215, .long y216])), (qd, .inr (0, [.int vd_gap, .int vd_odds, .int vd_rain, .int vd_lines, .ref qd_steps, .ref qd_lengths, .ref qd_starts, .ref qd_met, .ref qd_stumbles, .int vd_stumbleCount, .ref qd_muds, .ref qd_cells, .int vd_cellCount, .ref qd_tunes, .int vd_tuneCount, .ref qd_changes, .int vd_changeCount])), (qd_tunes, .inl (cI, 10, .inl (fd_tunes)))] H := hP
      have hD : va_D A [(qu, .inr (9, [.long y215, .long y216])), (qd, .inr (0, [.int vd_gap, .int vd_odds, .int vd_rain, .int vd_lines, .ref qd_steps, .ref qd_lengths, .ref qd_starts, .ref qd_met, .ref qd_stumbles, .int vd_stumbleCount, .ref qd_muds, .ref qd_cells, .int vd_cellCount, .ref qd_tunes, .int vd_tuneCount, .ref qd_changes, .int vd_changeCount])), (qd_tunes, .inl (cI, 10, .inl (fd_tunes)))] := hD
      refine lv_aload_n hx hb dX9_largestSet_31 rfl (lv_at hl 2 rfl) ?_
      refine va_get (D := D) (ci := 9) (v := .long y216) (C := RX9) (T := TX9) (N := 2) hx hb hts hi9 hown hK hP 0 rfl rfl 1 (by decide) (hts (.fieldLink RX9 15 "OverHill$Tunes" "at" "J") (by decide +kernel)) (fun _ h9 => h9) rfl dX9_largestSet_32 ?_
      refine lv_ldc2 (v := (-1)) hx hb hown (hts (.constantLong RX9 32 (-1)) (by decide +kernel)) dX9_largestSet_35 ?_
      refine W.lcmp hx hb dX9_largestSet_38 ?_
      refine lv_if_eq (tgt := 44) hx hb dX9_largestSet_39 (by decide) (fun hc => ?_) (fun hc => ?_)
      · have hq217 : y216.toInt = (-1) := tl_eq rfl (by decide) ((lg_cmp_eq _ _).mp hc)
        obtain ⟨z218, ez218⟩ : ∃ z : Int32, z = x207 + 1 := ⟨_, rfl⟩
        have fz218 : z218.toInt = x207.toInt + 1 := by rw [ez218]; exact tq_add rfl (by decide) (by omega)
        refine lv_iinc (v := z218) (lv' := [(3, .int z218), (2, .int x206), (0, .ref qu), (1, .ref qd)]) hx hb dX9_largestSet_44 hl (k := 0) rfl ez218.symm (by decide) rfl (fun ls hl => ?_)
        refine lv_goto (tgt := 4) hx hb dX9_largestSet_47 (by decide) ?_
        exact ih208 (y215, y216, x206, z218) _ _ _ (show (32 - z218.toInt).toNat < (32 - x207.toInt).toNat by omega) ⟨(show 0 ≤ x206.toInt ∧ x206.toInt ≤ 40 by omega), (show 1 ≤ z218.toInt ∧ z218.toInt ≤ 32 by omega), hP, hD, hS, lv_sub hl [0, 1, 2, 3] rfl⟩
      · have hq217 : y216.toInt ≠ (-1) := tl_ne rfl (by decide) (fun z => hc ((lg_cmp_eq _ _).mpr z))
        refine lv_iload_n hx hb dX9_largestSet_42 rfl (lv_at hl 0 rfl) ?_
        refine lv_istore_n (lv' := [(2, .int x207), (3, .int x207), (0, .ref qu), (1, .ref qd)]) hx hb dX9_largestSet_43 rfl hl (by decide) rfl (fun ls hl => ?_)
        obtain ⟨z219, ez219⟩ : ∃ z : Int32, z = x207 + 1 := ⟨_, rfl⟩
        have fz219 : z219.toInt = x207.toInt + 1 := by rw [ez219]; exact tq_add rfl (by decide) (by omega)
        refine lv_iinc (v := z219) (lv' := [(3, .int z219), (2, .int x207), (0, .ref qu), (1, .ref qd)]) hx hb dX9_largestSet_44 hl (k := 1) rfl ez219.symm (by decide) rfl (fun ls hl => ?_)
        refine lv_goto (tgt := 4) hx hb dX9_largestSet_47 (by decide) ?_
        exact ih208 (y215, y216, x207, z219) _ _ _ (show (32 - z219.toInt).toNat < (32 - x207.toInt).toNat by omega) ⟨(show 0 ≤ x207.toInt ∧ x207.toInt ≤ 40 by omega), (show 1 ≤ z219.toInt ∧ z219.toInt ≤ 32 by omega), hP, hD, hS, lv_sub hl [0, 1, 2, 3] rfl⟩
