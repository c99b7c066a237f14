abbrev w_c_X10_through (cI cJ cB cZ cO : ClassId) (qw : Nat) (qw_arrivals : Nat) (fw_arrivals : Nat → Int32) (vw_meetingBeat : Int32) (vw_meetingCell : Int32) (qd : Nat) (vd_gap : Int32) (vd_odds : Int32) (vd_rain : Int32) (vd_lines : Int32) (qd_steps : Nat) (qd_lengths : Nat) (qd_starts : Nat) (qd_met : Nat) (qd_stumbles : Nat) (vd_stumbleCount : Int32) (qd_muds : Nat) (qd_cells : Nat) (fd_cells : Nat → Int32) (vd_cellCount : Int32) (qd_tunes : Nat) (vd_tuneCount : Int32) (qd_changes : Nat) (vd_changeCount : Int32) : va_W := [(qw, .inr (10, [.ref qw_arrivals, .int vw_meetingBeat, .int vw_meetingCell])), (qw_arrivals, .inl (cI, 24, .inl (fw_arrivals))), dn qd vd_gap vd_odds vd_rain vd_lines qd_steps qd_lengths qd_starts qd_met qd_stumbles vd_stumbleCount qd_muds qd_cells vd_cellCount qd_tunes vd_tuneCount qd_changes vd_changeCount, (qd_cells, .inl (cI, 24, .inl (fd_cells)))]
set_option maxHeartbeats 4000000 in
set_option maxRecDepth 100000 in
/-- X10 through -/
theorem c_X10_through (l : Launch) (D : va_G) (G : ct_G) (cI cJ cB cZ cO : ClassId) (qw : Nat) (qw_arrivals : Nat) (fw_arrivals : Nat → Int32) (vw_meetingBeat : Int32) (vw_meetingCell : Int32) (qd : Nat) (vd_gap : Int32) (vd_odds : Int32) (vd_rain : Int32) (vd_lines : Int32) (qd_steps : Nat) (qd_lengths : Nat) (qd_starts : Nat) (qd_met : Nat) (qd_stumbles : Nat) (vd_stumbleCount : Int32) (qd_muds : Nat) (qd_cells : Nat) (fd_cells : Nat → Int32) (vd_cellCount : Int32) (qd_tunes : Nat) (vd_tuneCount : Int32) (qd_changes : Nat) (vd_changeCount : Int32) (a2 : Int32) (a3 : Int32) (h_vd_gap : 0 ≤ vd_gap.toInt ∧ vd_gap.toInt ≤ 20) (h_vd_stumbleCount : 0 ≤ vd_stumbleCount.toInt ∧ vd_stumbleCount.toInt ≤ 8) (h_vd_cellCount : 0 ≤ vd_cellCount.toInt ∧ vd_cellCount.toInt ≤ 12) (h_vd_tuneCount : 0 ≤ vd_tuneCount.toInt ∧ vd_tuneCount.toInt ≤ 5) (h_vd_changeCount : 0 ≤ vd_changeCount.toInt ∧ vd_changeCount.toInt ≤ 40) (h_a2 : 0 ≤ a2.toInt ∧ a2.toInt ≤ 1) (sz : Nat) : Met l yX10_through wsX10_through ({ frames := 2, cells := 0, slots := 0, locals := 43 }) (va_Pc [.ref qw, .ref qd, .int a2, .int a3] (ct_P D (ct_T cI cJ cB cZ cO) G (w_c_X10_through cI cJ cB cZ cO qw qw_arrivals fw_arrivals vw_meetingBeat vw_meetingCell qd vd_gap vd_odds vd_rain vd_lines qd_steps qd_lengths qd_starts qd_met qd_stumbles vd_stumbleCount qd_muds qd_cells fd_cells vd_cellCount qd_tunes vd_tuneCount qd_changes vd_changeCount) sz)) (va_Qi (fun (rz : Int32) (u : (Nat → Int32)) => True) (fun (u : (Nat → Int32)) t => ct_Q D (va_A (w_c_X10_through cI cJ cB cZ cO qw qw_arrivals fw_arrivals vw_meetingBeat vw_meetingCell qd vd_gap vd_odds vd_rain vd_lines qd_steps qd_lengths qd_starts qd_met qd_stumbles vd_stumbleCount qd_muds qd_cells fd_cells vd_cellCount qd_tunes vd_tuneCount qd_changes vd_changeCount) sz) [(qw, .inr (10, [.ref qw_arrivals, .int vw_meetingBeat, .int vw_meetingCell])), (qw_arrivals, .inl (cI, 24, .inl (u))), dn qd vd_gap vd_odds vd_rain vd_lines qd_steps qd_lengths qd_starts qd_met qd_stumbles vd_stumbleCount qd_muds qd_cells vd_cellCount qd_tunes vd_tuneCount qd_changes vd_changeCount, (qd_cells, .inl (cI, 24, .inl (fd_cells)))] t) (va_A (w_c_X10_through cI cJ cB cZ cO qw qw_arrivals fw_arrivals vw_meetingBeat vw_meetingCell qd vd_gap vd_odds vd_rain vd_lines qd_steps qd_lengths qd_starts qd_met qd_stumbles vd_stumbleCount qd_muds qd_cells fd_cells vd_cellCount qd_tunes vd_tuneCount qd_changes vd_changeCount) sz)) 0 0 (va_A (w_c_X10_through cI cJ cB cZ cO qw qw_arrivals fw_arrivals vw_meetingBeat vw_meetingCell qd vd_gap vd_odds vd_rain vd_lines qd_steps qd_lengths qd_starts qd_met qd_stumbles vd_stumbleCount qd_muds qd_cells fd_cells vd_cellCount qd_tunes vd_tuneCount qd_changes vd_changeCount) sz) := by
  refine Met.ofW (cc := cX10_through) (maxL := 9) (ret := (some .int)) (by decide) rfl ?_
  intro p e s m args below meth c s₁ B hml hv
  obtain ⟨rfl, hsz, hP, hE, hD0, hH⟩ := hv
  have hx := B.exec
  have hb := B.bytes
  have hr := B.returns
  have hts := atoms_spec (ws := wsX10_through) B.pre
  have hown : s.vm.findClass RX10 = some m.cls := findClass_of_methodNamed B.named
  have hlocks := B.notSynchronized
  have hK := hE.1
  have hi0 : ∀ w ∈ u_ws RX0 TX0 17, w ∈ wsX10_through := fun w h => List.mem_cons_of_mem _ (List.mem_append_left _ (List.mem_append_right _ h))
  have hi10 : ∀ w ∈ u_ws RX10 TX10 3, w ∈ wsX10_through := fun w h => List.mem_cons_of_mem _ (List.mem_append_right _ h)
  subst hsz
  have hD := hD0.self (sz := s.heap.size)
  generalize hAe : va_A (w_c_X10_through cI cJ cB cZ cO qw qw_arrivals fw_arrivals vw_meetingBeat vw_meetingCell qd vd_gap vd_odds vd_rain vd_lines qd_steps qd_lengths qd_starts qd_met qd_stumbles vd_stumbleCount qd_muds qd_cells fd_cells vd_cellCount qd_tunes vd_tuneCount qd_changes vd_changeCount) s.heap.size = A at hD hH ⊢
  have hA : ∀ q : Nat, s.heap.size ≤ q → A q := fun q h => by rw [← hAe]; exact Or.inr h
  have hS : va_S A s.heap s.heap [] := va_S.rf
  obtain ⟨hP, hD⟩ : ct_B D A s.heap [(qw, .inr (10, [.ref qw_arrivals, .int vw_meetingBeat, .int vw_meetingCell])), (qw_arrivals, .inl (cI, 24, .inl (fw_arrivals))), dn qd vd_gap vd_odds vd_rain vd_lines qd_steps qd_lengths qd_starts qd_met qd_stumbles vd_stumbleCount qd_muds qd_cells vd_cellCount qd_tunes vd_tuneCount qd_changes vd_changeCount, (qd_cells, .inl (cI, 24, .inl (fd_cells)))] := ⟨hP, hD⟩
  have hl := lv_entry ([.ref qw, .ref qd, .int a2, .int a3]) (n := 9) (Nat.le_of_ble_eq_true rfl)
  rw [lg_entry_eq]
  generalize (lg_sl ([.ref qw, .ref qd, .int a2, .int a3]) ++ List.replicate (9 - (lg_sl ([.ref qw, .ref qd, .int a2, .int a3])).length) Slot.unset).toArray = ls at hl ⊢
  have hl : lv_has ls 9 [(0, .ref qw), (1, .ref qd), (2, .int a2), (3, .int a3)] := hl
  obtain ⟨H, hHe⟩ : ∃ H : Heap, H = s.heap := ⟨_, rfl⟩
  rw [← hHe] at hP
  have hS : va_S A s.heap H [] := by rw [hHe]; exact va_S.rf
  refine ct_start hHe ?_
  refine lv_iload_n hx hb dX10_through_0 rfl (lv_at hl 3 rfl) ?_
  refine lv_istore (lv' := [(4, .int a3), (0, .ref qw), (1, .ref qd), (2, .int a2), (3, .int a3)]) hx hb dX10_through_1 hl (by decide) rfl (fun ls hl => ?_)
  refine lv_iconst (v := 0) hx hb dX10_through_3 (by decide) ?_
  refine lv_istore (lv' := [(5, .int 0), (4, .int a3), (0, .ref qw), (1, .ref qd), (2, .int a2), (3, .int a3)]) hx hb dX10_through_4 hl (by decide) rfl (fun ls hl => ?_)
  refine ct_loop (X := (Nat → Int32) × Int32 × Int32) (fun x => (12 - x.2.2.toInt).toNat) (fun x H locs ls => ((0 ≤ x.2.2.toInt ∧ x.2.2.toInt ≤ 12)) ∧ ct_B D A H [(qw, .inr (10, [.ref qw_arrivals, .int vw_meetingBeat, .int vw_meetingCell])), (qw_arrivals, .inl (cI, 24, .inl (x.1))), dn qd vd_gap vd_odds vd_rain vd_lines qd_steps qd_lengths qd_starts qd_met qd_stumbles vd_stumbleCount qd_muds qd_cells vd_cellCount qd_tunes vd_tuneCount qd_changes vd_changeCount, (qd_cells, .inl (cI, 24, .inl (fd_cells)))] ∧ va_S A s.heap H locs ∧ lv_has ls 9 [(5, .int x.2.2), (4, .int x.2.1), (0, .ref qw), (1, .ref qd), (2, .int a2), (3, .int a3)]) 6 (fw_arrivals, a3, (0 : Int32)) ⟨(show 0 ≤ (0 : Int32).toInt ∧ (0 : Int32).toInt ≤ 12 by decide), ⟨hP, hD⟩, hS, lv_sub hl [0, 1, 2, 3, 4, 5] rfl⟩ (fun x ih395 H locs ls hI => ?_)
  obtain ⟨g392, x393, x394⟩ := x
  obtain ⟨h_x394, ⟨hP, hD⟩, hS, hl⟩ := hI
  have h_x394 : (0 ≤ x394.toInt ∧ x394.toInt ≤ 12) := h_x394
  obtain ⟨hP, hD⟩ : ct_B D A H [(qw, .inr (10, [.ref qw_arrivals, .int vw_meetingBeat, .int vw_meetingCell])), (qw_arrivals, .inl (cI, 24, .inl (g392))), dn qd vd_gap vd_odds vd_rain vd_lines qd_steps qd_lengths qd_starts qd_met qd_stumbles vd_stumbleCount qd_muds qd_cells vd_cellCount qd_tunes vd_tuneCount qd_changes vd_changeCount, (qd_cells, .inl (cI, 24, .inl (fd_cells)))] := ⟨hP, hD⟩
  have hl : lv_has ls 9 [(5, .int x394), (4, .int x393), (0, .ref qw), (1, .ref qd), (2, .int a2), (3, .int a3)] := hl
  refine lv_iload hx hb dX10_through_6 (lv_at hl 0 rfl) ?_
  refine lv_aload_n hx hb dX10_through_8 rfl (lv_at hl 3 rfl) ?_
  refine va_get (D := D) (ci := 0) (v := .int vd_cellCount) (C := RX0) (T := TX0) (N := 17) hx hb hts hi0 hown hK hP 2 rfl rfl 12 (by decide) (hts (.fieldLink RX10 15 "OverHill$Dance" "cellCount" "I") (by decide +kernel)) (fun _ h9 => h9) rfl dX10_through_9 ?_
  refine lv_icmp_ge (tgt := 96) hx hb dX10_through_12 (by decide) (fun hc => ?_) (fun hc => ?_)
  · have hq396 : vd_cellCount.toInt ≤ x394.toInt := tq_le rfl rfl hc
    refine lv_iload hx hb dX10_through_96 (lv_at hl 1 rfl) ?_
    refine lv_iconst (v := 1) hx hb dX10_through_98 (by decide) ?_
    refine lv_iadd hx hb dX10_through_99 ?_
    refine lv_topi (fun z397 ez397 => ?_)
    obtain ⟨hP9, hD9⟩ : ct_B D A H [(qw, .inr (10, [.ref qw_arrivals, .int vw_meetingBeat, .int vw_meetingCell])), (qw_arrivals, .inl (cI, 24, .inl (g392))), dn qd vd_gap vd_odds vd_rain vd_lines qd_steps qd_lengths qd_starts qd_met qd_stumbles vd_stumbleCount qd_muds qd_cells vd_cellCount qd_tunes vd_tuneCount qd_changes vd_changeCount, (qd_cells, .inl (cI, 24, .inl (fd_cells)))] := ⟨hP.sub [0, 1, 2, 3] rfl, hD.sub [0, 1, 2, 3] (by decide) rfl⟩
    exact W.iret (v := z397) hx hb hr (fun t ht hW => ⟨⟨z397, g392, rfl, trivial, by rw [ht]; exact hP9, hD9⟩, hS.F ht⟩) hS.2.2 dX10_through_100
  · have hq396 : x394.toInt < vd_cellCount.toInt := tq_nle rfl rfl hc
    refine lv_iload_n hx hb dX10_through_15 rfl (lv_at hl 4 rfl) ?_
    refine lv_if_ne (tgt := 24) hx hb dX10_through_16 (by decide) (fun hc => ?_) (fun hc => ?_)
    · have hq398 : a2.toInt ≠ 0 := tq_ne rfl (by decide) hc
      refine lv_aload_n hx hb dX10_through_24 rfl (lv_at hl 3 rfl) ?_
      refine va_get (D := D) (ci := 0) (v := .int vd_cellCount) (C := RX0) (T := TX0) (N := 17) hx hb hts hi0 hown hK hP 2 rfl rfl 12 (by decide) (hts (.fieldLink RX10 15 "OverHill$Dance" "cellCount" "I") (by decide +kernel)) (fun _ h9 => h9) rfl dX10_through_25 ?_
      refine lv_iconst (v := 1) hx hb dX10_through_28 (by decide) ?_
      refine lv_isub hx hb dX10_through_29 ?_
      refine lv_topi (fun z399 ez399 => ?_)
      have fz399 : z399.toInt = vd_cellCount.toInt - 1 := by rw [ez399]; exact tq_subt rfl (by decide) (by omega)
      refine lv_iload hx hb dX10_through_30 (lv_at hl 0 rfl) ?_
      refine lv_isub hx hb dX10_through_32 ?_
      refine lv_topi (fun z400 ez400 => ?_)
      have fz400 : z400.toInt = z399.toInt - x394.toInt := by rw [ez400]; exact tq_subt rfl rfl (by omega)
      refine lv_istore (lv' := [(6, .int z400), (5, .int x394), (4, .int x393), (0, .ref qw), (1, .ref qd), (2, .int a2), (3, .int a3)]) hx hb dX10_through_33 hl (by decide) rfl (fun ls hl => ?_)
      refine lv_aload_n hx hb dX10_through_35 rfl (lv_at hl 4 rfl) ?_
      refine va_get (D := D) (ci := 0) (v := .ref qd_cells) (C := RX0) (T := TX0) (N := 17) hx hb hts hi0 hown hK hP 2 rfl rfl 11 (by decide) (hts (.fieldLink RX10 21 "OverHill$Dance" "cells" "[I") (by decide +kernel)) (fun _ h9 => h9) rfl dX10_through_36 ?_
      refine lv_iload hx hb dX10_through_39 (lv_at hl 0 rfl) ?_
      refine lv_iconst (v := 2) hx hb dX10_through_41 (by decide) ?_
      refine lv_imul hx hb dX10_through_42 ?_
      refine lv_topi (fun z401 ez401 => ?_)
      have fz401 : z401.toInt = z400.toInt * 2 := by rw [ez401]; exact tq_mul rfl (by decide) (by omega)
      refine va_iald (D := D) hx hb hK hP 3 0 rfl rfl (tq_in rfl (by omega)) dX10_through_43 ?_
      refine lv_topi (fun z402 ez402 => ?_)
      refine lv_istore (lv' := [(7, .int z402), (6, .int z400), (5, .int x394), (4, .int x393), (0, .ref qw), (1, .ref qd), (2, .int a2), (3, .int a3)]) hx hb dX10_through_44 hl (by decide) rfl (fun ls hl => ?_)
      refine lv_aload_n hx hb dX10_through_46 rfl (lv_at hl 5 rfl) ?_
      refine va_get (D := D) (ci := 0) (v := .ref qd_cells) (C := RX0) (T := TX0) (N := 17) hx hb hts hi0 hown hK hP 2 rfl rfl 11 (by decide) (hts (.fieldLink RX10 21 "OverHill$Dance" "cells" "[I") (by decide +kernel)) (fun _ h9 => h9) rfl dX10_through_47 ?_
      refine lv_iload hx hb dX10_through_50 (lv_at hl 1 rfl) ?_
      refine lv_iconst (v := 2) hx hb dX10_through_52 (by decide) ?_
      refine lv_imul hx hb dX10_through_53 ?_
      refine lv_topi (fun z403 ez403 => ?_)
      have fz403 : z403.toInt = z400.toInt * 2 := by rw [ez403]; exact tq_mul rfl (by decide) (by omega)
      refine lv_iconst (v := 1) hx hb dX10_through_54 (by decide) ?_
      refine lv_iadd hx hb dX10_through_55 ?_
      refine lv_topi (fun z404 ez404 => ?_)
      have fz404 : z404.toInt = z403.toInt + 1 := by rw [ez404]; exact tq_add rfl (by decide) (by omega)
      refine va_iald (D := D) hx hb hK hP 3 0 rfl rfl (tq_in rfl (by omega)) dX10_through_56 ?_
      refine lv_topi (fun z405 ez405 => ?_)
      refine lv_istore (lv' := [(8, .int z405), (7, .int z402), (6, .int z400), (5, .int x394), (4, .int x393), (0, .ref qw), (1, .ref qd), (2, .int a2), (3, .int a3)]) hx hb dX10_through_57 hl (by decide) rfl (fun ls hl => ?_)
      refine lv_iload hx hb dX10_through_59 (lv_at hl 4 rfl) ?_
      refine lv_iload hx hb dX10_through_61 (lv_at hl 0 rfl) ?_
      refine lv_iload hx hb dX10_through_63 (lv_at hl 4 rfl) ?_
      refine lv_isub hx hb dX10_through_65 ?_
      refine lv_topi (fun z406 ez406 => ?_)
      refine lv_iload hx hb dX10_through_66 (lv_at hl 1 rfl) ?_
      refine ct_calli (D := D) (wr := [(qw, .inr (10, [.ref qw_arrivals, .int vw_meetingBeat, .int vw_meetingCell])), (qw_arrivals, .inl (cI, 24, .inl (g392))), dn qd vd_gap vd_odds vd_rain vd_lines qd_steps qd_lengths qd_starts qd_met qd_stumbles vd_stumbleCount qd_muds qd_cells vd_cellCount qd_tunes vd_tuneCount qd_changes vd_changeCount, (qd_cells, .inl (cI, 24, .inl (fd_cells)))]) (va_runSN (As := [.int z406, .int z402]) (rest := [.int x393]) ⟨hx, hb, hml, hown, hts⟩ (c_X11_wrap l D G cI cJ cB cZ cO z406 z402  H.size) ⟨va_cnB 2 hts gX10_through_X11_wrap_n24 rfl rfl rfl (hE.2.1 (RX10, 24, yX11_wrap, "OverHill") (List.mem_of_getElem? (i := 17) rfl)) (hts (.initialized RX11) (by decide +kernel)) (by decide +kernel) ⟨Nat.le_of_ble_eq_true rfl, Nat.le_of_ble_eq_true rfl⟩, (hts (.static yX11_wrap) (by decide +kernel)), trivial⟩ (ct_preS (T := ct_T cI cJ cB cZ cO) hE hH hP hD hS hA [] (by decide) rfl) rfl rfl hl.1 rfl (lv_room (Nat.le_of_ble_eq_true rfl)) dX10_through_68 ⟨Nat.le_of_ble_eq_true rfl, Nat.le_of_ble_eq_true rfl⟩) hP hD hS hA [] [0, 1, 2, 3] rfl rfl (by decide) (by decide) (fun r407 u H locs hw hP hD hS => ?_)
      obtain ⟨hP, hD⟩ : ct_B D A H [(qw, .inr (10, [.ref qw_arrivals, .int vw_meetingBeat, .int vw_meetingCell])), (qw_arrivals, .inl (cI, 24, .inl (g392))), dn qd vd_gap vd_odds vd_rain vd_lines qd_steps qd_lengths qd_starts qd_met qd_stumbles vd_stumbleCount qd_muds qd_cells vd_cellCount qd_tunes vd_tuneCount qd_changes vd_changeCount, (qd_cells, .inl (cI, 24, .inl (fd_cells)))] := ⟨hP, hD⟩
      obtain ⟨hz, hp0⟩ := hw
      have hp_408 : wr_ok z406.toInt z402.toInt r407.toInt := hp0
      have h_r407 : 0 ≤ r407.toInt ∧ (r407.toInt < z402.toInt ∨ r407.toInt = 0) := hz
      refine lv_iconst (v := 1) hx hb dX10_through_71 (by decide) ?_
      refine lv_iadd hx hb dX10_through_72 ?_
      refine lv_topi (fun z409 ez409 => ?_)
      refine lv_iadd hx hb dX10_through_73 ?_
      refine lv_topi (fun z410 ez410 => ?_)
      refine lv_istore (lv' := [(4, .int z410), (8, .int z405), (7, .int z402), (6, .int z400), (5, .int x394), (0, .ref qw), (1, .ref qd), (2, .int a2), (3, .int a3)]) hx hb dX10_through_74 hl (by decide) rfl (fun ls hl => ?_)
      refine lv_aload_n hx hb dX10_through_76 rfl (lv_at hl 5 rfl) ?_
      refine va_get (D := D) (ci := 10) (v := .ref qw_arrivals) (C := RX10) (T := TX10) (N := 3) hx hb hts hi10 hown hK hP 0 rfl rfl 0 (by decide) (hts (.fieldLink RX10 9 "OverHill$Wood" "arrivals" "[I") (by decide +kernel)) (fun _ h9 => h9) rfl dX10_through_77 ?_
      refine lv_iload_n hx hb dX10_through_80 rfl (lv_at hl 7 rfl) ?_
      refine lv_bipush (v := 12) hx hb dX10_through_81 (by decide) ?_
      refine lv_imul hx hb dX10_through_83 ?_
      refine lv_topi (fun z411 ez411 => ?_)
      have fz411 : z411.toInt = a2.toInt * 12 := by rw [ez411]; exact tq_mul rfl (by decide) (by omega)
      refine lv_iload hx hb dX10_through_84 (lv_at hl 3 rfl) ?_
      refine lv_iadd hx hb dX10_through_86 ?_
      refine lv_topi (fun z412 ez412 => ?_)
      have fz412 : z412.toInt = z411.toInt + z400.toInt := by rw [ez412]; exact tq_add rfl rfl (by omega)
      refine lv_iload hx hb dX10_through_87 (lv_at hl 0 rfl) ?_
      refine va_iast (D := D) hx hb hK hP hD hS 1 0 rfl rfl (tq_in rfl (by omega)) dX10_through_89 (fun H locs hP hD hS => ?_)
      obtain ⟨g413, hP, hD⟩ : ∃ g413 : Nat → Int32, ct_B D A H [(qw, .inr (10, [.ref qw_arrivals, .int vw_meetingBeat, .int vw_meetingCell])), (qw_arrivals, .inl (cI, 24, .inl (g413))), dn qd vd_gap vd_odds vd_rain vd_lines qd_steps qd_lengths qd_starts qd_met qd_stumbles vd_stumbleCount qd_muds qd_cells vd_cellCount qd_tunes vd_tuneCount qd_changes vd_changeCount, (qd_cells, .inl (cI, 24, .inl (fd_cells)))] := ⟨_, hP, hD⟩
      obtain ⟨z414, ez414⟩ : ∃ z : Int32, z = x394 + 1 := ⟨_, rfl⟩
      have fz414 : z414.toInt = x394.toInt + 1 := by rw [ez414]; exact tq_add rfl (by decide) (by omega)
      refine lv_iinc (v := z414) (lv' := [(5, .int z414), (4, .int z410), (8, .int z405), (7, .int z402), (6, .int z400), (0, .ref qw), (1, .ref qd), (2, .int a2), (3, .int a3)]) hx hb dX10_through_90 hl (k := 4) rfl ez414.symm (by decide) rfl (fun ls hl => ?_)
      refine lv_goto (tgt := 6) hx hb dX10_through_93 (by decide) ?_
      exact ih395 (g413, z410, z414) _ _ _ (show (12 - z414.toInt).toNat < (12 - x394.toInt).toNat by omega) ⟨(show 0 ≤ z414.toInt ∧ z414.toInt ≤ 12 by omega), ⟨hP, hD⟩, hS, lv_sub hl [0, 1, 5, 6, 7, 8] rfl⟩
    · have hq398 : a2.toInt = 0 := tq_eq rfl (by decide) hc
      refine lv_iload hx hb dX10_through_19 (lv_at hl 0 rfl) ?_
      refine lv_goto (tgt := 33) hx hb dX10_through_21 (by decide) ?_
      refine lv_istore (lv' := [(6, .int x394), (5, .int x394), (4, .int x393), (0, .ref qw), (1, .ref qd), (2, .int a2), (3, .int a3)]) hx hb dX10_through_33 hl (by decide) rfl (fun ls hl => ?_)
      refine lv_aload_n hx hb dX10_through_35 rfl (lv_at hl 4 rfl) ?_
      refine va_get (D := D) (ci := 0) (v := .ref qd_cells) (C := RX0) (T := TX0) (N := 17) hx hb hts hi0 hown hK hP 2 rfl rfl 11 (by decide) (hts (.fieldLink RX10 21 "OverHill$Dance" "cells" "[I") (by decide +kernel)) (fun _ h9 => h9) rfl dX10_through_36 ?_
      refine lv_iload hx hb dX10_through_39 (lv_at hl 0 rfl) ?_
      refine lv_iconst (v := 2) hx hb dX10_through_41 (by decide) ?_
      refine lv_imul hx hb dX10_through_42 ?_
      refine lv_topi (fun z415 ez415 => ?_)
      have fz415 : z415.toInt = x394.toInt * 2 := by rw [ez415]; exact tq_mul rfl (by decide) (by omega)
      refine va_iald (D := D) hx hb hK hP 3 0 rfl rfl (tq_in rfl (by omega)) dX10_through_43 ?_
      refine lv_topi (fun z416 ez416 => ?_)
      refine lv_istore (lv' := [(7, .int z416), (6, .int x394), (5, .int x394), (4, .int x393), (0, .ref qw), (1, .ref qd), (2, .int a2), (3, .int a3)]) hx hb dX10_through_44 hl (by decide) rfl (fun ls hl => ?_)
      refine lv_aload_n hx hb dX10_through_46 rfl (lv_at hl 5 rfl) ?_
      refine va_get (D := D) (ci := 0) (v := .ref qd_cells) (C := RX0) (T := TX0) (N := 17) hx hb hts hi0 hown hK hP 2 rfl rfl 11 (by decide) (hts (.fieldLink RX10 21 "OverHill$Dance" "cells" "[I") (by decide +kernel)) (fun _ h9 => h9) rfl dX10_through_47 ?_
      refine lv_iload hx hb dX10_through_50 (lv_at hl 1 rfl) ?_
      refine lv_iconst (v := 2) hx hb dX10_through_52 (by decide) ?_
      refine lv_imul hx hb dX10_through_53 ?_
      refine lv_topi (fun z417 ez417 => ?_)
      have fz417 : z417.toInt = x394.toInt * 2 := by rw [ez417]; exact tq_mul rfl (by decide) (by omega)
      refine lv_iconst (v := 1) hx hb dX10_through_54 (by decide) ?_
      refine lv_iadd hx hb dX10_through_55 ?_
      refine lv_topi (fun z418 ez418 => ?_)
      have fz418 : z418.toInt = z417.toInt + 1 := by rw [ez418]; exact tq_add rfl (by decide) (by omega)
      refine va_iald (D := D) hx hb hK hP 3 0 rfl rfl (tq_in rfl (by omega)) dX10_through_56 ?_
      refine lv_topi (fun z419 ez419 => ?_)
      refine lv_istore (lv' := [(8, .int z419), (7, .int z416), (6, .int x394), (5, .int x394), (4, .int x393), (0, .ref qw), (1, .ref qd), (2, .int a2), (3, .int a3)]) hx hb dX10_through_57 hl (by decide) rfl (fun ls hl => ?_)
      refine lv_iload hx hb dX10_through_59 (lv_at hl 4 rfl) ?_
      refine lv_iload hx hb dX10_through_61 (lv_at hl 0 rfl) ?_
      refine lv_iload hx hb dX10_through_63 (lv_at hl 4 rfl) ?_
      refine lv_isub hx hb dX10_through_65 ?_
      refine lv_topi (fun z420 ez420 => ?_)
      refine lv_iload hx hb dX10_through_66 (lv_at hl 1 rfl) ?_
      refine ct_calli (D := D) (wr := [(qw, .inr (10, [.ref qw_arrivals, .int vw_meetingBeat, .int vw_meetingCell])), (qw_arrivals, .inl (cI, 24, .inl (g392))), dn qd vd_gap vd_odds vd_rain vd_lines qd_steps qd_lengths qd_starts qd_met qd_stumbles vd_stumbleCount qd_muds qd_cells vd_cellCount qd_tunes vd_tuneCount qd_changes vd_changeCount, (qd_cells, .inl (cI, 24, .inl (fd_cells)))]) (va_runSN (As := [.int z420, .int z416]) (rest := [.int x393]) ⟨hx, hb, hml, hown, hts⟩ (c_X11_wrap l D G cI cJ cB cZ cO z420 z416  H.size) ⟨va_cnB 2 hts gX10_through_X11_wrap_n24 rfl rfl rfl (hE.2.1 (RX10, 24, yX11_wrap, "OverHill") (List.mem_of_getElem? (i := 17) rfl)) (hts (.initialized RX11) (by decide +kernel)) (by decide +kernel) ⟨Nat.le_of_ble_eq_true rfl, Nat.le_of_ble_eq_true rfl⟩, (hts (.static yX11_wrap) (by decide +kernel)), trivial⟩ (ct_preS (T := ct_T cI cJ cB cZ cO) hE hH hP hD hS hA [] (by decide) rfl) rfl rfl hl.1 rfl (lv_room (Nat.le_of_ble_eq_true rfl)) dX10_through_68 ⟨Nat.le_of_ble_eq_true rfl, Nat.le_of_ble_eq_true rfl⟩) hP hD hS hA [] [0, 1, 2, 3] rfl rfl (by decide) (by decide) (fun r421 u H locs hw hP hD hS => ?_)
      obtain ⟨hP, hD⟩ : ct_B D A H [(qw, .inr (10, [.ref qw_arrivals, .int vw_meetingBeat, .int vw_meetingCell])), (qw_arrivals, .inl (cI, 24, .inl (g392))), dn qd vd_gap vd_odds vd_rain vd_lines qd_steps qd_lengths qd_starts qd_met qd_stumbles vd_stumbleCount qd_muds qd_cells vd_cellCount qd_tunes vd_tuneCount qd_changes vd_changeCount, (qd_cells, .inl (cI, 24, .inl (fd_cells)))] := ⟨hP, hD⟩
      obtain ⟨hz, hp0⟩ := hw
      have hp_422 : wr_ok z420.toInt z416.toInt r421.toInt := hp0
      have h_r421 : 0 ≤ r421.toInt ∧ (r421.toInt < z416.toInt ∨ r421.toInt = 0) := hz
      refine lv_iconst (v := 1) hx hb dX10_through_71 (by decide) ?_
      refine lv_iadd hx hb dX10_through_72 ?_
      refine lv_topi (fun z423 ez423 => ?_)
      refine lv_iadd hx hb dX10_through_73 ?_
      refine lv_topi (fun z424 ez424 => ?_)
      refine lv_istore (lv' := [(4, .int z424), (8, .int z419), (7, .int z416), (6, .int x394), (5, .int x394), (0, .ref qw), (1, .ref qd), (2, .int a2), (3, .int a3)]) hx hb dX10_through_74 hl (by decide) rfl (fun ls hl => ?_)
      refine lv_aload_n hx hb dX10_through_76 rfl (lv_at hl 5 rfl) ?_
      refine va_get (D := D) (ci := 10) (v := .ref qw_arrivals) (C := RX10) (T := TX10) (N := 3) hx hb hts hi10 hown hK hP 0 rfl rfl 0 (by decide) (hts (.fieldLink RX10 9 "OverHill$Wood" "arrivals" "[I") (by decide +kernel)) (fun _ h9 => h9) rfl dX10_through_77 ?_
      refine lv_iload_n hx hb dX10_through_80 rfl (lv_at hl 7 rfl) ?_
      refine lv_bipush (v := 12) hx hb dX10_through_81 (by decide) ?_
      refine lv_imul hx hb dX10_through_83 ?_
      refine lv_topi (fun z425 ez425 => ?_)
      have fz425 : z425.toInt = a2.toInt * 12 := by rw [ez425]; exact tq_mul rfl (by decide) (by omega)
      refine lv_iload hx hb dX10_through_84 (lv_at hl 3 rfl) ?_
      refine lv_iadd hx hb dX10_through_86 ?_
      refine lv_topi (fun z426 ez426 => ?_)
      have fz426 : z426.toInt = z425.toInt + x394.toInt := by rw [ez426]; exact tq_add rfl rfl (by omega)
      refine lv_iload hx hb dX10_through_87 (lv_at hl 0 rfl) ?_
      refine va_iast (D := D) hx hb hK hP hD hS 1 0 rfl rfl (tq_in rfl (by omega)) dX10_through_89 (fun H locs hP hD hS => ?_)
      obtain ⟨g427, hP, hD⟩ : ∃ g427 : Nat → Int32, ct_B D A H [(qw, .inr (10, [.ref qw_arrivals, .int vw_meetingBeat, .int vw_meetingCell])), (qw_arrivals, .inl (cI, 24, .inl (g427))), dn qd vd_gap vd_odds vd_rain vd_lines qd_steps qd_lengths qd_starts qd_met qd_stumbles vd_stumbleCount qd_muds qd_cells vd_cellCount qd_tunes vd_tuneCount qd_changes vd_changeCount, (qd_cells, .inl (cI, 24, .inl (fd_cells)))] := ⟨_, hP, hD⟩
      obtain ⟨z428, ez428⟩ : ∃ z : Int32, z = x394 + 1 := ⟨_, rfl⟩
      have fz428 : z428.toInt = x394.toInt + 1 := by rw [ez428]; exact tq_add rfl (by decide) (by omega)
      refine lv_iinc (v := z428) (lv' := [(5, .int z428), (4, .int z424), (8, .int z419), (7, .int z416), (6, .int x394), (0, .ref qw), (1, .ref qd), (2, .int a2), (3, .int a3)]) hx hb dX10_through_90 hl (k := 4) rfl ez428.symm (by decide) rfl (fun ls hl => ?_)
      refine lv_goto (tgt := 6) hx hb dX10_through_93 (by decide) ?_
      exact ih395 (g427, z424, z428) _ _ _ (show (12 - z428.toInt).toNat < (12 - x394.toInt).toNat by omega) ⟨(show 0 ≤ z428.toInt ∧ z428.toInt ≤ 12 by omega), ⟨hP, hD⟩, hS, lv_sub hl [0, 1, 5, 6, 7, 8] rfl⟩
abbrev w_c_X10_findMeeting (cI cJ cB cZ cO : ClassId) (qw : Nat) (qw_arrivals : Nat) (fw_arrivals : Nat → Int32) (vw_meetingBeat : Int32) (vw_meetingCell : Int32) (qd : Nat) (vd_gap : Int32) (vd_odds : Int32) (vd_rain : Int32) (vd_lines : Int32) (qd_steps : Nat) (qd_lengths : Nat) (qd_starts : Nat) (qd_met : Nat) (qd_stumbles : Nat) (vd_stumbleCount : Int32) (qd_muds : Nat) (qd_cells : Nat) (fd_cells : Nat → Int32) (vd_cellCount : Int32) (qd_tunes : Nat) (vd_tuneCount : Int32) (qd_changes : Nat) (vd_changeCount : Int32) : va_W := [(qw, .inr (10, [.ref qw_arrivals, .int vw_meetingBeat, .int vw_meetingCell])), (qw_arrivals, .inl (cI, 24, .inl (fw_arrivals))), dn qd vd_gap vd_odds vd_rain vd_lines qd_steps qd_lengths qd_starts qd_met qd_stumbles vd_stumbleCount qd_muds qd_cells vd_cellCount qd_tunes vd_tuneCount qd_changes vd_changeCount, (qd_cells, .inl (cI, 24, .inl (fd_cells)))]
set_option maxHeartbeats 4000000 in
set_option maxRecDepth 100000 in
/-- X10 findMeeting -/
theorem c_X10_findMeeting (l : Launch) (D : va_G) (G : ct_G) (cI cJ cB cZ cO : ClassId) (qw : Nat) (qw_arrivals : Nat) (fw_arrivals : Nat → Int32) (vw_meetingBeat : Int32) (vw_meetingCell : Int32) (qd : Nat) (vd_gap : Int32) (vd_odds : Int32) (vd_rain : Int32) (vd_lines : Int32) (qd_steps : Nat) (qd_lengths : Nat) (qd_starts : Nat) (qd_met : Nat) (qd_stumbles : Nat) (vd_stumbleCount : Int32) (qd_muds : Nat) (qd_cells : Nat) (fd_cells : Nat → Int32) (vd_cellCount : Int32) (qd_tunes : Nat) (vd_tuneCount : Int32) (qd_changes : Nat) (vd_changeCount : Int32) (a2 : Int32) (a3 : Int32) (h_vd_gap : 0 ≤ vd_gap.toInt ∧ vd_gap.toInt ≤ 20) (h_vd_stumbleCount : 0 ≤ vd_stumbleCount.toInt ∧ vd_stumbleCount.toInt ≤ 8) (h_vd_cellCount : 0 ≤ vd_cellCount.toInt ∧ vd_cellCount.toInt ≤ 12) (h_vd_tuneCount : 0 ≤ vd_tuneCount.toInt ∧ vd_tuneCount.toInt ≤ 5) (h_vd_changeCount : 0 ≤ vd_changeCount.toInt ∧ vd_changeCount.toInt ≤ 40) (sz : Nat) : Met l yX10_findMeeting wsX10_findMeeting ({ frames := 3, cells := 0, slots := 0, locals := 71 }) (va_Pc [.ref qw, .ref qd, .int a2, .int a3] (ct_P D (ct_T cI cJ cB cZ cO) G (w_c_X10_findMeeting cI cJ cB cZ cO qw qw_arrivals fw_arrivals vw_meetingBeat vw_meetingCell qd vd_gap vd_odds vd_rain vd_lines qd_steps qd_lengths qd_starts qd_met qd_stumbles vd_stumbleCount qd_muds qd_cells fd_cells vd_cellCount qd_tunes vd_tuneCount qd_changes vd_changeCount) sz)) (va_Qv (fun (u : Int32 × Int32 × (Nat → Int32)) => True) (fun (u : Int32 × Int32 × (Nat → Int32)) t => ct_Q D (va_A (w_c_X10_findMeeting cI cJ cB cZ cO qw qw_arrivals fw_arrivals vw_meetingBeat vw_meetingCell qd vd_gap vd_odds vd_rain vd_lines qd_steps qd_lengths qd_starts qd_met qd_stumbles vd_stumbleCount qd_muds qd_cells fd_cells vd_cellCount qd_tunes vd_tuneCount qd_changes vd_changeCount) sz) [(qw, .inr (10, [.ref qw_arrivals, .int u.1, .int u.2.1])), (qw_arrivals, .inl (cI, 24, .inl (u.2.2))), dn qd vd_gap vd_odds vd_rain vd_lines qd_steps qd_lengths qd_starts qd_met qd_stumbles vd_stumbleCount qd_muds qd_cells vd_cellCount qd_tunes vd_tuneCount qd_changes vd_changeCount, (qd_cells, .inl (cI, 24, .inl (fd_cells)))] t) (va_A (w_c_X10_findMeeting cI cJ cB cZ cO qw qw_arrivals fw_arrivals vw_meetingBeat vw_meetingCell qd vd_gap vd_odds vd_rain vd_lines qd_steps qd_lengths qd_starts qd_met qd_stumbles vd_stumbleCount qd_muds qd_cells fd_cells vd_cellCount qd_tunes vd_tuneCount qd_changes vd_changeCount) sz)) 0 0 (va_A (w_c_X10_findMeeting cI cJ cB cZ cO qw qw_arrivals fw_arrivals vw_meetingBeat vw_meetingCell qd vd_gap vd_odds vd_rain vd_lines qd_steps qd_lengths qd_starts qd_met qd_stumbles vd_stumbleCount qd_muds qd_cells fd_cells vd_cellCount qd_tunes vd_tuneCount qd_changes vd_changeCount) sz) := by
  refine Met.ofW (cc := cX10_findMeeting) (maxL := 6) (ret := none) (by decide) rfl ?_
  intro p e s m args below meth c s₁ B hml hv
  obtain ⟨rfl, hsz, hP, hE, hD0, hH⟩ := hv
  have hx := B.exec
  have hb := B.bytes
  have hr := B.returns
  have hts := atoms_spec (ws := wsX10_findMeeting) B.pre
  have hown : s.vm.findClass RX10 = some m.cls := findClass_of_methodNamed B.named
  have hlocks := B.notSynchronized
  have hK := hE.1
  have hi0 : ∀ w ∈ u_ws RX0 TX0 17, w ∈ wsX10_findMeeting := fun w h => List.mem_cons_of_mem _ (List.mem_append_right _ h)
  have hi10 : ∀ w ∈ u_ws RX10 TX10 3, w ∈ wsX10_findMeeting := fun w h => List.mem_cons_of_mem _ (List.mem_append_left _ (List.mem_append_right _ h))
  subst hsz
  have hD := hD0.self (sz := s.heap.size)
  generalize hAe : va_A (w_c_X10_findMeeting cI cJ cB cZ cO qw qw_arrivals fw_arrivals vw_meetingBeat vw_meetingCell qd vd_gap vd_odds vd_rain vd_lines qd_steps qd_lengths qd_starts qd_met qd_stumbles vd_stumbleCount qd_muds qd_cells fd_cells vd_cellCount qd_tunes vd_tuneCount qd_changes vd_changeCount) s.heap.size = A at hD hH ⊢
  have hA : ∀ q : Nat, s.heap.size ≤ q → A q := fun q h => by rw [← hAe]; exact Or.inr h
  have hS : va_S A s.heap s.heap [] := va_S.rf
  obtain ⟨hP, hD⟩ : ct_B D A s.heap [(qw, .inr (10, [.ref qw_arrivals, .int vw_meetingBeat, .int vw_meetingCell])), (qw_arrivals, .inl (cI, 24, .inl (fw_arrivals))), dn qd vd_gap vd_odds vd_rain vd_lines qd_steps qd_lengths qd_starts qd_met qd_stumbles vd_stumbleCount qd_muds qd_cells vd_cellCount qd_tunes vd_tuneCount qd_changes vd_changeCount, (qd_cells, .inl (cI, 24, .inl (fd_cells)))] := ⟨hP, hD⟩
  have hl := lv_entry ([.ref qw, .ref qd, .int a2, .int a3]) (n := 6) (Nat.le_of_ble_eq_true rfl)
  rw [lg_entry_eq]
  generalize (lg_sl ([.ref qw, .ref qd, .int a2, .int a3]) ++ List.replicate (6 - (lg_sl ([.ref qw, .ref qd, .int a2, .int a3])).length) Slot.unset).toArray = ls at hl ⊢
  have hl : lv_has ls 6 [(0, .ref qw), (1, .ref qd), (2, .int a2), (3, .int a3)] := hl
  obtain ⟨H, hHe⟩ : ∃ H : Heap, H = s.heap := ⟨_, rfl⟩
  rw [← hHe] at hP
  have hS : va_S A s.heap H [] := by rw [hHe]; exact va_S.rf
  refine ct_start hHe ?_
  refine lv_aload_n hx hb dX10_findMeeting_0 rfl (lv_at hl 0 rfl) ?_
  refine lv_aload_n hx hb dX10_findMeeting_1 rfl (lv_at hl 1 rfl) ?_
  refine lv_iconst (v := 0) hx hb dX10_findMeeting_2 (by decide) ?_
  refine lv_iload_n hx hb dX10_findMeeting_3 rfl (lv_at hl 2 rfl) ?_
  refine ct_calli (D := D) (wr := []) (va_runV (As := [.ref qd, .int 0, .int a2]) (rest := []) ⟨hx, hb, hml, hown, hts⟩ (c_X10_through l D G cI cJ cB cZ cO qw qw_arrivals fw_arrivals vw_meetingBeat vw_meetingCell qd vd_gap vd_odds vd_rain vd_lines qd_steps qd_lengths qd_starts qd_met qd_stumbles vd_stumbleCount qd_muds qd_cells fd_cells vd_cellCount qd_tunes vd_tuneCount qd_changes vd_changeCount 0 a2 h_vd_gap h_vd_stumbleCount h_vd_cellCount h_vd_tuneCount h_vd_changeCount (by decide) H.size) (cwV 3 hts gX10_findMeeting_X10_through rfl rfl rfl (by decide +kernel) ⟨Nat.le_of_ble_eq_true rfl, Nat.le_of_ble_eq_true rfl⟩) (ct_preV (T := ct_T cI cJ cB cZ cO) (ci := 10) (q0 := 0) hE hH hP hD hS hA [0, 1, 2, 3] (by decide) rfl rfl rfl) rfl rfl hl.1 rfl (lv_room (Nat.le_of_ble_eq_true rfl)) dX10_findMeeting_4 ⟨Nat.le_of_ble_eq_true rfl, Nat.le_of_ble_eq_true rfl⟩) hP hD hS hA [0, 1, 2, 3] [] rfl rfl (by decide) (by decide) (fun r1 u H locs hw hP hD hS => ?_)
  obtain ⟨g2, rfl⟩ : ∃ z, z = u := ⟨_, rfl⟩
  obtain ⟨hP, hD⟩ : ct_B D A H [(qw, .inr (10, [.ref qw_arrivals, .int vw_meetingBeat, .int vw_meetingCell])), (qw_arrivals, .inl (cI, 24, .inl (g2))), dn qd vd_gap vd_odds vd_rain vd_lines qd_steps qd_lengths qd_starts qd_met qd_stumbles vd_stumbleCount qd_muds qd_cells vd_cellCount qd_tunes vd_tuneCount qd_changes vd_changeCount, (qd_cells, .inl (cI, 24, .inl (fd_cells)))] := ⟨hP, hD⟩
  refine lv_pop hx hb dX10_findMeeting_7 rfl ?_
  refine lv_aload_n hx hb dX10_findMeeting_8 rfl (lv_at hl 0 rfl) ?_
  refine lv_aload_n hx hb dX10_findMeeting_9 rfl (lv_at hl 1 rfl) ?_
  refine lv_iconst (v := 1) hx hb dX10_findMeeting_10 (by decide) ?_
  refine lv_iload_n hx hb dX10_findMeeting_11 rfl (lv_at hl 3 rfl) ?_
  refine ct_calli (D := D) (wr := []) (va_runV (As := [.ref qd, .int 1, .int a3]) (rest := []) ⟨hx, hb, hml, hown, hts⟩ (c_X10_through l D G cI cJ cB cZ cO qw qw_arrivals g2 vw_meetingBeat vw_meetingCell qd vd_gap vd_odds vd_rain vd_lines qd_steps qd_lengths qd_starts qd_met qd_stumbles vd_stumbleCount qd_muds qd_cells fd_cells vd_cellCount qd_tunes vd_tuneCount qd_changes vd_changeCount 1 a3 h_vd_gap h_vd_stumbleCount h_vd_cellCount h_vd_tuneCount h_vd_changeCount (by decide) H.size) (cwV 3 hts gX10_findMeeting_X10_through rfl rfl rfl (by decide +kernel) ⟨Nat.le_of_ble_eq_true rfl, Nat.le_of_ble_eq_true rfl⟩) (ct_preV (T := ct_T cI cJ cB cZ cO) (ci := 10) (q0 := 0) hE hH hP hD hS hA [0, 1, 2, 3] (by decide) rfl rfl rfl) rfl rfl hl.1 rfl (lv_room (Nat.le_of_ble_eq_true rfl)) dX10_findMeeting_12 ⟨Nat.le_of_ble_eq_true rfl, Nat.le_of_ble_eq_true rfl⟩) hP hD hS hA [0, 1, 2, 3] [] rfl rfl (by decide) (by decide) (fun r3 u H locs hw hP hD hS => ?_)
  obtain ⟨g4, rfl⟩ : ∃ z, z = u := ⟨_, rfl⟩
  obtain ⟨hP, hD⟩ : ct_B D A H [(qw, .inr (10, [.ref qw_arrivals, .int vw_meetingBeat, .int vw_meetingCell])), (qw_arrivals, .inl (cI, 24, .inl (g4))), dn qd vd_gap vd_odds vd_rain vd_lines qd_steps qd_lengths qd_starts qd_met qd_stumbles vd_stumbleCount qd_muds qd_cells vd_cellCount qd_tunes vd_tuneCount qd_changes vd_changeCount, (qd_cells, .inl (cI, 24, .inl (fd_cells)))] := ⟨hP, hD⟩
  refine lv_pop hx hb dX10_findMeeting_15 rfl ?_
  refine lv_aload_n hx hb dX10_findMeeting_16 rfl (lv_at hl 0 rfl) ?_
  refine lv_iconst (v := (-1)) hx hb dX10_findMeeting_17 (by decide) ?_
  refine va_put (D := D) (ci := 10) (v := .int (-1)) (ty := .int) (C := RX10) (T := TX10) (N := 3) hx hb hts hi10 tyX10 tyX10_ok nmX10 hown hK hP hD hS 0 rfl rfl 1 (by decide) (hts (.fieldLink RX10 32 "OverHill$Wood" "meetingBeat" "I") (by decide +kernel)) (fun _ h9 => h9) rfl (by decide +kernel) rfl rfl (Nat.le_of_ble_eq_true rfl) dX10_findMeeting_18 (fun H locs hP hD hS => ?_)
  obtain ⟨hP, hD⟩ : ct_B D A H [(qw, .inr (10, [.ref qw_arrivals, .int (-1), .int vw_meetingCell])), (qw_arrivals, .inl (cI, 24, .inl (g4))), dn qd vd_gap vd_odds vd_rain vd_lines qd_steps qd_lengths qd_starts qd_met qd_stumbles vd_stumbleCount qd_muds qd_cells vd_cellCount qd_tunes vd_tuneCount qd_changes vd_changeCount, (qd_cells, .inl (cI, 24, .inl (fd_cells)))] := ⟨hP, hD⟩
  refine lv_aload_n hx hb dX10_findMeeting_21 rfl (lv_at hl 0 rfl) ?_
  refine lv_iconst (v := (-1)) hx hb dX10_findMeeting_22 (by decide) ?_
  refine va_put (D := D) (ci := 10) (v := .int (-1)) (ty := .int) (C := RX10) (T := TX10) (N := 3) hx hb hts hi10 tyX10 tyX10_ok nmX10 hown hK hP hD hS 0 rfl rfl 2 (by decide) (hts (.fieldLink RX10 35 "OverHill$Wood" "meetingCell" "I") (by decide +kernel)) (fun _ h9 => h9) rfl (by decide +kernel) rfl rfl (Nat.le_of_ble_eq_true rfl) dX10_findMeeting_23 (fun H locs hP hD hS => ?_)
  obtain ⟨hP, hD⟩ : ct_B D A H [(qw, .inr (10, [.ref qw_arrivals, .int (-1), .int (-1)])), (qw_arrivals, .inl (cI, 24, .inl (g4))), dn qd vd_gap vd_odds vd_rain vd_lines qd_steps qd_lengths qd_starts qd_met qd_stumbles vd_stumbleCount qd_muds qd_cells vd_cellCount qd_tunes vd_tuneCount qd_changes vd_changeCount, (qd_cells, .inl (cI, 24, .inl (fd_cells)))] := ⟨hP, hD⟩
  refine lv_iconst (v := 0) hx hb dX10_findMeeting_26 (by decide) ?_
  refine lv_istore (lv' := [(4, .int 0), (0, .ref qw), (1, .ref qd), (2, .int a2), (3, .int a3)]) hx hb dX10_findMeeting_27 hl (by decide) rfl (fun ls hl => ?_)
  refine ct_loop (X := Int32 × Int32 × Int32) (fun x => (12 - x.2.2.toInt).toNat) (fun x H locs ls => (((-1) ≤ x.2.1.toInt ∧ x.2.1.toInt ≤ 11)) ∧ ((0 ≤ x.2.2.toInt ∧ x.2.2.toInt ≤ 12)) ∧ ct_B D A H [(qw, .inr (10, [.ref qw_arrivals, .int x.1, .int x.2.1])), (qw_arrivals, .inl (cI, 24, .inl (g4))), dn qd vd_gap vd_odds vd_rain vd_lines qd_steps qd_lengths qd_starts qd_met qd_stumbles vd_stumbleCount qd_muds qd_cells vd_cellCount qd_tunes vd_tuneCount qd_changes vd_changeCount, (qd_cells, .inl (cI, 24, .inl (fd_cells)))] ∧ va_S A s.heap H locs ∧ lv_has ls 6 [(4, .int x.2.2), (0, .ref qw), (1, .ref qd), (2, .int a2), (3, .int a3)]) 29 ((-1 : Int32), (-1 : Int32), (0 : Int32)) ⟨(show (-1) ≤ (-1 : Int32).toInt ∧ (-1 : Int32).toInt ≤ 11 by decide), (show 0 ≤ (0 : Int32).toInt ∧ (0 : Int32).toInt ≤ 12 by decide), ⟨hP, hD⟩, hS, lv_sub hl [0, 1, 2, 3, 4] rfl⟩ (fun x ih183 H locs ls hI => ?_)
  obtain ⟨x180, x181, x182⟩ := x
  obtain ⟨h_x181, h_x182, ⟨hP, hD⟩, hS, hl⟩ := hI
  have h_x181 : ((-1) ≤ x181.toInt ∧ x181.toInt ≤ 11) := h_x181
  have h_x182 : (0 ≤ x182.toInt ∧ x182.toInt ≤ 12) := h_x182
  obtain ⟨hP, hD⟩ : ct_B D A H [(qw, .inr (10, [.ref qw_arrivals, .int x180, .int x181])), (qw_arrivals, .inl (cI, 24, .inl (g4))), dn qd vd_gap vd_odds vd_rain vd_lines qd_steps qd_lengths qd_starts qd_met qd_stumbles vd_stumbleCount qd_muds qd_cells vd_cellCount qd_tunes vd_tuneCount qd_changes vd_changeCount, (qd_cells, .inl (cI, 24, .inl (fd_cells)))] := ⟨hP, hD⟩
  have hl : lv_has ls 6 [(4, .int x182), (0, .ref qw), (1, .ref qd), (2, .int a2), (3, .int a3)] := hl
  refine lv_iload hx hb dX10_findMeeting_29 (lv_at hl 0 rfl) ?_
  refine lv_aload_n hx hb dX10_findMeeting_31 rfl (lv_at hl 2 rfl) ?_
  refine va_get (D := D) (ci := 0) (v := .int vd_cellCount) (C := RX0) (T := TX0) (N := 17) hx hb hts hi0 hown hK hP 2 rfl rfl 12 (by decide) (hts (.fieldLink RX10 15 "OverHill$Dance" "cellCount" "I") (by decide +kernel)) (fun _ h9 => h9) rfl dX10_findMeeting_32 ?_
  refine lv_icmp_ge (tgt := 95) hx hb dX10_findMeeting_35 (by decide) (fun hc => ?_) (fun hc => ?_)
  · have hq184 : vd_cellCount.toInt ≤ x182.toInt := tq_le rfl rfl hc
    obtain ⟨hP9, hD9⟩ : ct_B D A H [(qw, .inr (10, [.ref qw_arrivals, .int x180, .int x181])), (qw_arrivals, .inl (cI, 24, .inl (g4))), dn qd vd_gap vd_odds vd_rain vd_lines qd_steps qd_lengths qd_starts qd_met qd_stumbles vd_stumbleCount qd_muds qd_cells vd_cellCount qd_tunes vd_tuneCount qd_changes vd_changeCount, (qd_cells, .inl (cI, 24, .inl (fd_cells)))] := ⟨hP.sub [0, 1, 2, 3] rfl, hD.sub [0, 1, 2, 3] (by decide) rfl⟩
    exact W.vret hx hb hr (fun t ht hW => ⟨⟨(x180, x181, g4), rfl, trivial, by rw [ht]; exact hP9, hD9⟩, hS.F ht⟩) hS.2.2 dX10_findMeeting_95
  · have hq184 : x182.toInt < vd_cellCount.toInt := tq_nle rfl rfl hc
    refine lv_aload_n hx hb dX10_findMeeting_38 rfl (lv_at hl 1 rfl) ?_
    refine va_get (D := D) (ci := 10) (v := .ref qw_arrivals) (C := RX10) (T := TX10) (N := 3) hx hb hts hi10 hown hK hP 0 rfl rfl 0 (by decide) (hts (.fieldLink RX10 9 "OverHill$Wood" "arrivals" "[I") (by decide +kernel)) (fun _ h9 => h9) rfl dX10_findMeeting_39 ?_
    refine lv_iload hx hb dX10_findMeeting_42 (lv_at hl 0 rfl) ?_
    refine va_iald (D := D) hx hb hK hP 1 0 rfl rfl (tq_in rfl (by omega)) dX10_findMeeting_44 ?_
    refine lv_topi (fun z185 ez185 => ?_)
    refine lv_aload_n hx hb dX10_findMeeting_45 rfl (lv_at hl 1 rfl) ?_
    refine va_get (D := D) (ci := 10) (v := .ref qw_arrivals) (C := RX10) (T := TX10) (N := 3) hx hb hts hi10 hown hK hP 0 rfl rfl 0 (by decide) (hts (.fieldLink RX10 9 "OverHill$Wood" "arrivals" "[I") (by decide +kernel)) (fun _ h9 => h9) rfl dX10_findMeeting_46 ?_
    refine lv_bipush (v := 12) hx hb dX10_findMeeting_49 (by decide) ?_
    refine lv_iload hx hb dX10_findMeeting_51 (lv_at hl 0 rfl) ?_
    refine lv_iadd hx hb dX10_findMeeting_53 ?_
    refine lv_topi (fun z186 ez186 => ?_)
    have fz186 : z186.toInt = 12 + x182.toInt := by rw [ez186]; exact tq_add (by decide) rfl (by omega)
    refine va_iald (D := D) hx hb hK hP 1 0 rfl rfl (tq_in rfl (by omega)) dX10_findMeeting_54 ?_
    refine lv_topi (fun z187 ez187 => ?_)
    refine va_mmax hx hb (hml.trans hl.1.symm) hown (hts (.methodLink RX10 38 Lib.Math.max.name) (by decide +kernel)) (hts (.static Lib.Math.max.name) (by decide +kernel)) (hts (.initialized "java/lang/Math") (by decide +kernel)) (hts (.code Lib.Math.max.name Lib.Math.max.code 2 (some .int)) (by decide +kernel)) (Nat.le_of_ble_eq_true rfl) (Nat.le_of_ble_eq_true rfl) (Nat.le_of_ble_eq_true rfl) (Nat.le_of_ble_eq_true rfl) dX10_findMeeting_55 ?_
    refine lv_topi (fun z188 ez188 => ?_)
    have fz188 : (z188.toInt = z185.toInt ∨ z188.toInt = z187.toInt) ∧ z185.toInt ≤ z188.toInt ∧ z187.toInt ≤ z188.toInt := by rw [ez188]; exact tq_max rfl rfl
    refine lv_istore (lv' := [(5, .int z188), (4, .int x182), (0, .ref qw), (1, .ref qd), (2, .int a2), (3, .int a3)]) hx hb dX10_findMeeting_58 hl (by decide) rfl (fun ls hl => ?_)
    refine lv_aload_n hx hb dX10_findMeeting_60 rfl (lv_at hl 2 rfl) ?_
    refine va_get (D := D) (ci := 10) (v := .int x181) (C := RX10) (T := TX10) (N := 3) hx hb hts hi10 hown hK hP 0 rfl rfl 2 (by decide) (hts (.fieldLink RX10 35 "OverHill$Wood" "meetingCell" "I") (by decide +kernel)) (fun _ h9 => h9) rfl dX10_findMeeting_61 ?_
    refine lv_iconst (v := (-1)) hx hb dX10_findMeeting_64 (by decide) ?_
    refine lv_icmp_eq (tgt := 77) hx hb dX10_findMeeting_65 (by decide) (fun hc => ?_) (fun hc => ?_)
    · have hq189 : x181.toInt = (-1) := tq_eq rfl (by decide) hc
      refine lv_aload_n hx hb dX10_findMeeting_77 rfl (lv_at hl 2 rfl) ?_
      refine lv_iload hx hb dX10_findMeeting_78 (lv_at hl 0 rfl) ?_
      refine va_put (D := D) (ci := 10) (v := .int z188) (ty := .int) (C := RX10) (T := TX10) (N := 3) hx hb hts hi10 tyX10 tyX10_ok nmX10 hown hK hP hD hS 0 rfl rfl 1 (by decide) (hts (.fieldLink RX10 32 "OverHill$Wood" "meetingBeat" "I") (by decide +kernel)) (fun _ h9 => h9) rfl (by decide +kernel) rfl rfl (Nat.le_of_ble_eq_true rfl) dX10_findMeeting_80 (fun H locs hP hD hS => ?_)
      obtain ⟨hP, hD⟩ : ct_B D A H [(qw, .inr (10, [.ref qw_arrivals, .int z188, .int x181])), (qw_arrivals, .inl (cI, 24, .inl (g4))), dn qd vd_gap vd_odds vd_rain vd_lines qd_steps qd_lengths qd_starts qd_met qd_stumbles vd_stumbleCount qd_muds qd_cells vd_cellCount qd_tunes vd_tuneCount qd_changes vd_changeCount, (qd_cells, .inl (cI, 24, .inl (fd_cells)))] := ⟨hP, hD⟩
      refine lv_aload_n hx hb dX10_findMeeting_83 rfl (lv_at hl 2 rfl) ?_
      refine lv_iload hx hb dX10_findMeeting_84 (lv_at hl 1 rfl) ?_
      refine va_put (D := D) (ci := 10) (v := .int x182) (ty := .int) (C := RX10) (T := TX10) (N := 3) hx hb hts hi10 tyX10 tyX10_ok nmX10 hown hK hP hD hS 0 rfl rfl 2 (by decide) (hts (.fieldLink RX10 35 "OverHill$Wood" "meetingCell" "I") (by decide +kernel)) (fun _ h9 => h9) rfl (by decide +kernel) rfl rfl (Nat.le_of_ble_eq_true rfl) dX10_findMeeting_86 (fun H locs hP hD hS => ?_)
      obtain ⟨hP, hD⟩ : ct_B D A H [(qw, .inr (10, [.ref qw_arrivals, .int z188, .int x182])), (qw_arrivals, .inl (cI, 24, .inl (g4))), dn qd vd_gap vd_odds vd_rain vd_lines qd_steps qd_lengths qd_starts qd_met qd_stumbles vd_stumbleCount qd_muds qd_cells vd_cellCount qd_tunes vd_tuneCount qd_changes vd_changeCount, (qd_cells, .inl (cI, 24, .inl (fd_cells)))] := ⟨hP, hD⟩
      obtain ⟨z190, ez190⟩ : ∃ z : Int32, z = x182 + 1 := ⟨_, rfl⟩
      have fz190 : z190.toInt = x182.toInt + 1 := by rw [ez190]; exact tq_add rfl (by decide) (by omega)
      refine lv_iinc (v := z190) (lv' := [(4, .int z190), (5, .int z188), (0, .ref qw), (1, .ref qd), (2, .int a2), (3, .int a3)]) hx hb dX10_findMeeting_89 hl (k := 1) rfl ez190.symm (by decide) rfl (fun ls hl => ?_)
      refine lv_goto (tgt := 29) hx hb dX10_findMeeting_92 (by decide) ?_
      exact ih183 (z188, x182, z190) _ _ _ (show (12 - z190.toInt).toNat < (12 - x182.toInt).toNat by omega) ⟨(show (-1) ≤ x182.toInt ∧ x182.toInt ≤ 11 by omega), (show 0 ≤ z190.toInt ∧ z190.toInt ≤ 12 by omega), ⟨hP, hD⟩, hS, lv_sub hl [0, 2, 3, 4, 5] rfl⟩
    · have hq189 : x181.toInt ≠ (-1) := tq_ne rfl (by decide) hc
      refine lv_iload hx hb dX10_findMeeting_68 (lv_at hl 0 rfl) ?_
      refine lv_aload_n hx hb dX10_findMeeting_70 rfl (lv_at hl 2 rfl) ?_
      refine va_get (D := D) (ci := 10) (v := .int x180) (C := RX10) (T := TX10) (N := 3) hx hb hts hi10 hown hK hP 0 rfl rfl 1 (by decide) (hts (.fieldLink RX10 32 "OverHill$Wood" "meetingBeat" "I") (by decide +kernel)) (fun _ h9 => h9) rfl dX10_findMeeting_71 ?_
      refine lv_icmp_ge (tgt := 89) hx hb dX10_findMeeting_74 (by decide) (fun hc => ?_) (fun hc => ?_)
      · have hq191 : x180.toInt ≤ z188.toInt := tq_le rfl rfl hc
        have hb192 := tq_lo z188
        have hb193 := tq_lo x180
        obtain ⟨z194, ez194⟩ : ∃ z : Int32, z = x182 + 1 := ⟨_, rfl⟩
        have fz194 : z194.toInt = x182.toInt + 1 := by rw [ez194]; exact tq_add rfl (by decide) (by omega)
        refine lv_iinc (v := z194) (lv' := [(4, .int z194), (5, .int z188), (0, .ref qw), (1, .ref qd), (2, .int a2), (3, .int a3)]) hx hb dX10_findMeeting_89 hl (k := 1) rfl ez194.symm (by decide) rfl (fun ls hl => ?_)
        refine lv_goto (tgt := 29) hx hb dX10_findMeeting_92 (by decide) ?_
        exact ih183 (x180, x181, z194) _ _ _ (show (12 - z194.toInt).toNat < (12 - x182.toInt).toNat by omega) ⟨h_x181, (show 0 ≤ z194.toInt ∧ z194.toInt ≤ 12 by omega), ⟨hP, hD⟩, hS, lv_sub hl [0, 2, 3, 4, 5] rfl⟩
      · have hq191 : z188.toInt < x180.toInt := tq_nle rfl rfl hc
        have hb195 := tq_lo z188
        have hb196 := tq_lo x180
        refine lv_aload_n hx hb dX10_findMeeting_77 rfl (lv_at hl 2 rfl) ?_
        refine lv_iload hx hb dX10_findMeeting_78 (lv_at hl 0 rfl) ?_
        refine va_put (D := D) (ci := 10) (v := .int z188) (ty := .int) (C := RX10) (T := TX10) (N := 3) hx hb hts hi10 tyX10 tyX10_ok nmX10 hown hK hP hD hS 0 rfl rfl 1 (by decide) (hts (.fieldLink RX10 32 "OverHill$Wood" "meetingBeat" "I") (by decide +kernel)) (fun _ h9 => h9) rfl (by decide +kernel) rfl rfl (Nat.le_of_ble_eq_true rfl) dX10_findMeeting_80 (fun H locs hP hD hS => ?_)
        obtain ⟨hP, hD⟩ : ct_B D A H [(qw, .inr (10, [.ref qw_arrivals, .int z188, .int x181])), (qw_arrivals, .inl (cI, 24, .inl (g4))), dn qd vd_gap vd_odds vd_rain vd_lines qd_steps qd_lengths qd_starts qd_met qd_stumbles vd_stumbleCount qd_muds qd_cells vd_cellCount qd_tunes vd_tuneCount qd_changes vd_changeCount, (qd_cells, .inl (cI, 24, .inl (fd_cells)))] := ⟨hP, hD⟩
        refine lv_aload_n hx hb dX10_findMeeting_83 rfl (lv_at hl 2 rfl) ?_
        refine lv_iload hx hb dX10_findMeeting_84 (lv_at hl 1 rfl) ?_
        refine va_put (D := D) (ci := 10) (v := .int x182) (ty := .int) (C := RX10) (T := TX10) (N := 3) hx hb hts hi10 tyX10 tyX10_ok nmX10 hown hK hP hD hS 0 rfl rfl 2 (by decide) (hts (.fieldLink RX10 35 "OverHill$Wood" "meetingCell" "I") (by decide +kernel)) (fun _ h9 => h9) rfl (by decide +kernel) rfl rfl (Nat.le_of_ble_eq_true rfl) dX10_findMeeting_86 (fun H locs hP hD hS => ?_)
        obtain ⟨hP, hD⟩ : ct_B D A H [(qw, .inr (10, [.ref qw_arrivals, .int z188, .int x182])), (qw_arrivals, .inl (cI, 24, .inl (g4))), dn qd vd_gap vd_odds vd_rain vd_lines qd_steps qd_lengths qd_starts qd_met qd_stumbles vd_stumbleCount qd_muds qd_cells vd_cellCount qd_tunes vd_tuneCount qd_changes vd_changeCount, (qd_cells, .inl (cI, 24, .inl (fd_cells)))] := ⟨hP, hD⟩
        obtain ⟨z197, ez197⟩ : ∃ z : Int32, z = x182 + 1 := ⟨_, rfl⟩
        have fz197 : z197.toInt = x182.toInt + 1 := by rw [ez197]; exact tq_add rfl (by decide) (by omega)
        refine lv_iinc (v := z197) (lv' := [(4, .int z197), (5, .int z188), (0, .ref qw), (1, .ref qd), (2, .int a2), (3, .int a3)]) hx hb dX10_findMeeting_89 hl (k := 1) rfl ez197.symm (by decide) rfl (fun ls hl => ?_)
        refine lv_goto (tgt := 29) hx hb dX10_findMeeting_92 (by decide) ?_
        exact ih183 (z188, x182, z197) _ _ _ (show (12 - z197.toInt).toNat < (12 - x182.toInt).toNat by omega) ⟨(show (-1) ≤ x182.toInt ∧ x182.toInt ≤ 11 by omega), (show 0 ≤ z197.toInt ∧ z197.toInt ≤ 12 by omega), ⟨hP, hD⟩, hS, lv_sub hl [0, 2, 3, 4, 5] rfl⟩
abbrev w_c_X10_slowest (cI cJ cB cZ cO : ClassId) (qw : Nat) (qw_arrivals : Nat) (fw_arrivals : Nat → Int32) (vw_meetingBeat : Int32) (vw_meetingCell : Int32) (qd : Nat) (vd_gap : Int32) (vd_odds : Int32) (vd_rain : Int32) (vd_lines : Int32) (qd_steps : Nat) (qd_lengths : Nat) (qd_starts : Nat) (qd_met : Nat) (qd_stumbles : Nat) (vd_stumbleCount : Int32) (qd_muds : Nat) (qd_cells : Nat) (fd_cells : Nat → Int32) (vd_cellCount : Int32) (qd_tunes : Nat) (vd_tuneCount : Int32) (qd_changes : Nat) (vd_changeCount : Int32) : va_W := [(qw, .inr (10, [.ref qw_arrivals, .int vw_meetingBeat, .int vw_meetingCell])), (qw_arrivals, .inl (cI, 24, .inl (fw_arrivals))), dn qd vd_gap vd_odds vd_rain vd_lines qd_steps qd_lengths qd_starts qd_met qd_stumbles vd_stumbleCount qd_muds qd_cells vd_cellCount qd_tunes vd_tuneCount qd_changes vd_changeCount, (qd_cells, .inl (cI, 24, .inl (fd_cells)))]
set_option maxHeartbeats 4000000 in
set_option maxRecDepth 100000 in
/-- X10 slowest -/
theorem c_X10_slowest (l : Launch) (D : va_G) (G : ct_G) (cI cJ cB cZ cO : ClassId) (qw : Nat) (qw_arrivals : Nat) (fw_arrivals : Nat → Int32) (vw_meetingBeat : Int32) (vw_meetingCell : Int32) (qd : Nat) (vd_gap : Int32) (vd_odds : Int32) (vd_rain : Int32) (vd_lines : Int32) (qd_steps : Nat) (qd_lengths : Nat) (qd_starts : Nat) (qd_met : Nat) (qd_stumbles : Nat) (vd_stumbleCount : Int32) (qd_muds : Nat) (qd_cells : Nat) (fd_cells : Nat → Int32) (vd_cellCount : Int32) (qd_tunes : Nat) (vd_tuneCount : Int32) (qd_changes : Nat) (vd_changeCount : Int32) (h_vd_gap : 0 ≤ vd_gap.toInt ∧ vd_gap.toInt ≤ 20) (h_vd_stumbleCount : 0 ≤ vd_stumbleCount.toInt ∧ vd_stumbleCount.toInt ≤ 8) (h_vd_cellCount : 0 ≤ vd_cellCount.toInt ∧ vd_cellCount.toInt ≤ 12) (h_vd_tuneCount : 0 ≤ vd_tuneCount.toInt ∧ vd_tuneCount.toInt ≤ 5) (h_vd_changeCount : 0 ≤ vd_changeCount.toInt ∧ vd_changeCount.toInt ≤ 40) (sz : Nat) : Met l yX10_slowest wsX10_slowest ({ frames := 3, cells := 0, slots := 0, locals := 71 }) (va_Pc [.ref qw, .ref qd] (ct_P D (ct_T cI cJ cB cZ cO) G (w_c_X10_slowest cI cJ cB cZ cO qw qw_arrivals fw_arrivals vw_meetingBeat vw_meetingCell qd vd_gap vd_odds vd_rain vd_lines qd_steps qd_lengths qd_starts qd_met qd_stumbles vd_stumbleCount qd_muds qd_cells fd_cells vd_cellCount qd_tunes vd_tuneCount qd_changes vd_changeCount) sz)) (va_Qi (fun (rz : Int32) (u : (Nat → Int32)) => (0 ≤ rz.toInt)) (fun (u : (Nat → Int32)) t => ct_Q D (va_A (w_c_X10_slowest cI cJ cB cZ cO qw qw_arrivals fw_arrivals vw_meetingBeat vw_meetingCell qd vd_gap vd_odds vd_rain vd_lines qd_steps qd_lengths qd_starts qd_met qd_stumbles vd_stumbleCount qd_muds qd_cells fd_cells vd_cellCount qd_tunes vd_tuneCount qd_changes vd_changeCount) sz) [(qw, .inr (10, [.ref qw_arrivals, .int vw_meetingBeat, .int vw_meetingCell])), (qw_arrivals, .inl (cI, 24, .inl (u))), dn qd vd_gap vd_odds vd_rain vd_lines qd_steps qd_lengths qd_starts qd_met qd_stumbles vd_stumbleCount qd_muds qd_cells vd_cellCount qd_tunes vd_tuneCount qd_changes vd_changeCount, (qd_cells, .inl (cI, 24, .inl (fd_cells)))] t) (va_A (w_c_X10_slowest cI cJ cB cZ cO qw qw_arrivals fw_arrivals vw_meetingBeat vw_meetingCell qd vd_gap vd_odds vd_rain vd_lines qd_steps qd_lengths qd_starts qd_met qd_stumbles vd_stumbleCount qd_muds qd_cells fd_cells vd_cellCount qd_tunes vd_tuneCount qd_changes vd_changeCount) sz)) 0 0 (va_A (w_c_X10_slowest cI cJ cB cZ cO qw qw_arrivals fw_arrivals vw_meetingBeat vw_meetingCell qd vd_gap vd_odds vd_rain vd_lines qd_steps qd_lengths qd_starts qd_met qd_stumbles vd_stumbleCount qd_muds qd_cells fd_cells vd_cellCount qd_tunes vd_tuneCount qd_changes vd_changeCount) sz) := by
  refine Met.ofW (cc := cX10_slowest) (maxL := 4) (ret := (some .int)) (by decide) rfl ?_
  intro p e s m args below meth c s₁ B hml hv
  obtain ⟨rfl, hsz, hP, hE, hD0, hH⟩ := hv
  have hx := B.exec
  have hb := B.bytes
  have hr := B.returns
  have hts := atoms_spec (ws := wsX10_slowest) B.pre
  have hown : s.vm.findClass RX10 = some m.cls := findClass_of_methodNamed B.named
  have hlocks := B.notSynchronized
  have hK := hE.1
  subst hsz
  have hD := hD0.self (sz := s.heap.size)
  generalize hAe : va_A (w_c_X10_slowest cI cJ cB cZ cO qw qw_arrivals fw_arrivals vw_meetingBeat vw_meetingCell qd vd_gap vd_odds vd_rain vd_lines qd_steps qd_lengths qd_starts qd_met qd_stumbles vd_stumbleCount qd_muds qd_cells fd_cells vd_cellCount qd_tunes vd_tuneCount qd_changes vd_changeCount) s.heap.size = A at hD hH ⊢
  have hA : ∀ q : Nat, s.heap.size ≤ q → A q := fun q h => by rw [← hAe]; exact Or.inr h
  have hS : va_S A s.heap s.heap [] := va_S.rf
  obtain ⟨hP, hD⟩ : ct_B D A s.heap [(qw, .inr (10, [.ref qw_arrivals, .int vw_meetingBeat, .int vw_meetingCell])), (qw_arrivals, .inl (cI, 24, .inl (fw_arrivals))), dn qd vd_gap vd_odds vd_rain vd_lines qd_steps qd_lengths qd_starts qd_met qd_stumbles vd_stumbleCount qd_muds qd_cells vd_cellCount qd_tunes vd_tuneCount qd_changes vd_changeCount, (qd_cells, .inl (cI, 24, .inl (fd_cells)))] := ⟨hP, hD⟩
  have hl := lv_entry ([.ref qw, .ref qd]) (n := 4) (Nat.le_of_ble_eq_true rfl)
  rw [lg_entry_eq]
  generalize (lg_sl ([.ref qw, .ref qd]) ++ List.replicate (4 - (lg_sl ([.ref qw, .ref qd])).length) Slot.unset).toArray = ls at hl ⊢
  have hl : lv_has ls 4 [(0, .ref qw), (1, .ref qd)] := hl
  obtain ⟨H, hHe⟩ : ∃ H : Heap, H = s.heap := ⟨_, rfl⟩
  rw [← hHe] at hP
  have hS : va_S A s.heap H [] := by rw [hHe]; exact va_S.rf
  refine ct_start hHe ?_
  refine lv_iconst (v := 0) hx hb dX10_slowest_0 (by decide) ?_
  refine lv_istore_n (lv' := [(2, .int 0), (0, .ref qw), (1, .ref qd)]) hx hb dX10_slowest_1 rfl hl (by decide) rfl (fun ls hl => ?_)
  refine lv_iconst (v := 0) hx hb dX10_slowest_2 (by decide) ?_
  refine lv_istore_n (lv' := [(3, .int 0), (2, .int 0), (0, .ref qw), (1, .ref qd)]) hx hb dX10_slowest_3 rfl hl (by decide) rfl (fun ls hl => ?_)
  refine ct_loop (X := (Nat → Int32) × Int32 × Int32) (fun x => (200 - x.2.2.toInt).toNat) (fun x H locs ls => ((0 ≤ x.2.1.toInt)) ∧ ((0 ≤ x.2.2.toInt ∧ x.2.2.toInt ≤ 200)) ∧ ct_B D A H [(qw, .inr (10, [.ref qw_arrivals, .int vw_meetingBeat, .int vw_meetingCell])), (qw_arrivals, .inl (cI, 24, .inl (x.1))), dn qd vd_gap vd_odds vd_rain vd_lines qd_steps qd_lengths qd_starts qd_met qd_stumbles vd_stumbleCount qd_muds qd_cells vd_cellCount qd_tunes vd_tuneCount qd_changes vd_changeCount, (qd_cells, .inl (cI, 24, .inl (fd_cells)))] ∧ va_S A s.heap H locs ∧ lv_has ls 4 [(3, .int x.2.2), (2, .int x.2.1), (0, .ref qw), (1, .ref qd)]) 4 (fw_arrivals, (0 : Int32), (0 : Int32)) ⟨(show 0 ≤ (0 : Int32).toInt by decide), (show 0 ≤ (0 : Int32).toInt ∧ (0 : Int32).toInt ≤ 200 by decide), ⟨hP, hD⟩, hS, lv_sub hl [0, 1, 2, 3] rfl⟩ (fun x ih152 H locs ls hI => ?_)
  obtain ⟨g149, x150, x151⟩ := x
  obtain ⟨h_x150, h_x151, ⟨hP, hD⟩, hS, hl⟩ := hI
  have h_x150 : (0 ≤ x150.toInt) := h_x150
  have h_x151 : (0 ≤ x151.toInt ∧ x151.toInt ≤ 200) := h_x151
  obtain ⟨hP, hD⟩ : ct_B D A H [(qw, .inr (10, [.ref qw_arrivals, .int vw_meetingBeat, .int vw_meetingCell])), (qw_arrivals, .inl (cI, 24, .inl (g149))), dn qd vd_gap vd_odds vd_rain vd_lines qd_steps qd_lengths qd_starts qd_met qd_stumbles vd_stumbleCount qd_muds qd_cells vd_cellCount qd_tunes vd_tuneCount qd_changes vd_changeCount, (qd_cells, .inl (cI, 24, .inl (fd_cells)))] := ⟨hP, hD⟩
  have hl : lv_has ls 4 [(3, .int x151), (2, .int x150), (0, .ref qw), (1, .ref qd)] := hl
  refine lv_iload_n hx hb dX10_slowest_4 rfl (lv_at hl 0 rfl) ?_
  refine lv_sipush (v := 200) hx hb dX10_slowest_5 (by decide) ?_
  refine lv_icmp_ge (tgt := 31) hx hb dX10_slowest_8 (by decide) (fun hc => ?_) (fun hc => ?_)
  · have hq153 : 200 ≤ x151.toInt := tq_le (by decide) rfl hc
    refine lv_iload_n hx hb dX10_slowest_31 rfl (lv_at hl 1 rfl) ?_
    obtain ⟨hP9, hD9⟩ : ct_B D A H [(qw, .inr (10, [.ref qw_arrivals, .int vw_meetingBeat, .int vw_meetingCell])), (qw_arrivals, .inl (cI, 24, .inl (g149))), dn qd vd_gap vd_odds vd_rain vd_lines qd_steps qd_lengths qd_starts qd_met qd_stumbles vd_stumbleCount qd_muds qd_cells vd_cellCount qd_tunes vd_tuneCount qd_changes vd_changeCount, (qd_cells, .inl (cI, 24, .inl (fd_cells)))] := ⟨hP.sub [0, 1, 2, 3] rfl, hD.sub [0, 1, 2, 3] (by decide) rfl⟩
    exact W.iret (v := x150) hx hb hr (fun t ht hW => ⟨⟨x150, g149, rfl, h_x150, by rw [ht]; exact hP9, hD9⟩, hS.F ht⟩) hS.2.2 dX10_slowest_32
  · have hq153 : x151.toInt < 200 := tq_nle (by decide) rfl hc
    refine lv_iload_n hx hb dX10_slowest_11 rfl (lv_at hl 1 rfl) ?_
    refine lv_aload_n hx hb dX10_slowest_12 rfl (lv_at hl 2 rfl) ?_
    refine lv_aload_n hx hb dX10_slowest_13 rfl (lv_at hl 3 rfl) ?_
    refine lv_iconst (v := 0) hx hb dX10_slowest_14 (by decide) ?_
    refine lv_iload_n hx hb dX10_slowest_15 rfl (lv_at hl 0 rfl) ?_
    refine ct_calli (D := D) (wr := []) (va_runV (As := [.ref qd, .int 0, .int x151]) (rest := [.int x150]) ⟨hx, hb, hml, hown, hts⟩ (c_X10_through l D G cI cJ cB cZ cO qw qw_arrivals g149 vw_meetingBeat vw_meetingCell qd vd_gap vd_odds vd_rain vd_lines qd_steps qd_lengths qd_starts qd_met qd_stumbles vd_stumbleCount qd_muds qd_cells fd_cells vd_cellCount qd_tunes vd_tuneCount qd_changes vd_changeCount 0 x151 h_vd_gap h_vd_stumbleCount h_vd_cellCount h_vd_tuneCount h_vd_changeCount (by decide) H.size) (cwV 3 hts gX10_slowest_X10_through rfl rfl rfl (by decide +kernel) ⟨Nat.le_of_ble_eq_true rfl, Nat.le_of_ble_eq_true rfl⟩) (ct_preV (T := ct_T cI cJ cB cZ cO) (ci := 10) (q0 := 0) hE hH hP hD hS hA [0, 1, 2, 3] (by decide) rfl rfl rfl) rfl rfl hl.1 rfl (lv_room (Nat.le_of_ble_eq_true rfl)) dX10_slowest_16 ⟨Nat.le_of_ble_eq_true rfl, Nat.le_of_ble_eq_true rfl⟩) hP hD hS hA [0, 1, 2, 3] [] rfl rfl (by decide) (by decide) (fun r154 u H locs hw hP hD hS => ?_)
    obtain ⟨g155, rfl⟩ : ∃ z, z = u := ⟨_, rfl⟩
    obtain ⟨hP, hD⟩ : ct_B D A H [(qw, .inr (10, [.ref qw_arrivals, .int vw_meetingBeat, .int vw_meetingCell])), (qw_arrivals, .inl (cI, 24, .inl (g155))), dn qd vd_gap vd_odds vd_rain vd_lines qd_steps qd_lengths qd_starts qd_met qd_stumbles vd_stumbleCount qd_muds qd_cells vd_cellCount qd_tunes vd_tuneCount qd_changes vd_changeCount, (qd_cells, .inl (cI, 24, .inl (fd_cells)))] := ⟨hP, hD⟩
    refine lv_iload_n hx hb dX10_slowest_19 rfl (lv_at hl 0 rfl) ?_
    refine lv_isub hx hb dX10_slowest_20 ?_
    refine lv_topi (fun z156 ez156 => ?_)
    refine va_mmax hx hb (hml.trans hl.1.symm) hown (hts (.methodLink RX10 38 Lib.Math.max.name) (by decide +kernel)) (hts (.static Lib.Math.max.name) (by decide +kernel)) (hts (.initialized "java/lang/Math") (by decide +kernel)) (hts (.code Lib.Math.max.name Lib.Math.max.code 2 (some .int)) (by decide +kernel)) (Nat.le_of_ble_eq_true rfl) (Nat.le_of_ble_eq_true rfl) (Nat.le_of_ble_eq_true rfl) (Nat.le_of_ble_eq_true rfl) dX10_slowest_21 ?_
    refine lv_topi (fun z157 ez157 => ?_)
    have fz157 : (z157.toInt = x150.toInt ∨ z157.toInt = z156.toInt) ∧ x150.toInt ≤ z157.toInt ∧ z156.toInt ≤ z157.toInt := by rw [ez157]; exact tq_max rfl rfl
    refine lv_istore_n (lv' := [(2, .int z157), (3, .int x151), (0, .ref qw), (1, .ref qd)]) hx hb dX10_slowest_24 rfl hl (by decide) rfl (fun ls hl => ?_)
    obtain ⟨z158, ez158⟩ : ∃ z : Int32, z = x151 + 1 := ⟨_, rfl⟩
    have fz158 : z158.toInt = x151.toInt + 1 := by rw [ez158]; exact tq_add rfl (by decide) (by omega)
    refine lv_iinc (v := z158) (lv' := [(3, .int z158), (2, .int z157), (0, .ref qw), (1, .ref qd)]) hx hb dX10_slowest_25 hl (k := 1) rfl ez158.symm (by decide) rfl (fun ls hl => ?_)
    refine lv_goto (tgt := 4) hx hb dX10_slowest_28 (by decide) ?_
    exact ih152 (g155, z157, z158) _ _ _ (show (200 - z158.toInt).toNat < (200 - x151.toInt).toNat by omega) ⟨(show 0 ≤ z157.toInt by omega), (show 0 ≤ z158.toInt ∧ z158.toInt ≤ 200 by omega), ⟨hP, hD⟩, hS, lv_sub hl [0, 1, 2, 3] rfl⟩
abbrev w_c_X9_joinOne (cI cJ cB cZ cO : ClassId) (qu : Nat) (vu_every : Int64) (vu_at : Int64) : va_W := [(qu, .inr (9, [.long vu_every, .long vu_at]))]
set_option maxHeartbeats 4000000 in
set_option maxRecDepth 100000 in
/-- X9 joinOne -/
theorem c_X9_joinOne (l : Launch) (D : va_G) (G : ct_G) (cI cJ cB cZ cO : ClassId) (qu : Nat) (vu_every : Int64) (vu_at : Int64) (a1 : Int32) (a2 : Int32)  (sz : Nat) : Met l yX9_joinOne wsX9_joinOne ({ frames := 2, cells := 0, slots := 0, locals := 55 }) (va_Pc [.ref qu, .int a1, .int a2] (ct_P D (ct_T cI cJ cB cZ cO) G (w_c_X9_joinOne cI cJ cB cZ cO qu vu_every vu_at) sz)) (va_Qv (fun (u : Int64 × Int64) => True) (fun (u : Int64 × Int64) t => ct_Q D (va_A (w_c_X9_joinOne cI cJ cB cZ cO qu vu_every vu_at) sz) [(qu, .inr (9, [.long u.1, .long u.2]))] t) (va_A (w_c_X9_joinOne cI cJ cB cZ cO qu vu_every vu_at) sz)) 0 0 (va_A (w_c_X9_joinOne cI cJ cB cZ cO qu vu_every vu_at) sz) := by
  refine Met.ofW (cc := cX9_joinOne) (maxL := 8) (ret := none) (by decide) rfl ?_
  intro p e s m args below meth c s₁ B hml hv
  obtain ⟨rfl, hsz, hP, hE, hD0, hH⟩ := hv
  have hx := B.exec
  have hb := B.bytes
  have hr := B.returns
  have hts := atoms_spec (ws := wsX9_joinOne) B.pre
  have hown : s.vm.findClass RX9 = some m.cls := findClass_of_methodNamed B.named
  have hlocks := B.notSynchronized
  have hK := hE.1
  have hi9 : ∀ w ∈ u_ws RX9 TX9 2, w ∈ wsX9_joinOne := fun w h => List.mem_cons_of_mem _ (List.mem_append_right _ h)
  subst hsz
  have hD := hD0.self (sz := s.heap.size)
  generalize hAe : va_A (w_c_X9_joinOne cI cJ cB cZ cO qu vu_every vu_at) s.heap.size = A at hD hH ⊢
  have hA : ∀ q : Nat, s.heap.size ≤ q → A q := fun q h => by rw [← hAe]; exact Or.inr h
  have hS : va_S A s.heap s.heap [] := va_S.rf
  obtain ⟨hP, hD⟩ : ct_B D A s.heap [(qu, .inr (9, [.long vu_every, .long vu_at]))] := ⟨hP, hD⟩
  have hl := lv_entry ([.ref qu, .int a1, .int a2]) (n := 8) (Nat.le_of_ble_eq_true rfl)
  rw [lg_entry_eq]
  generalize (lg_sl ([.ref qu, .int a1, .int a2]) ++ List.replicate (8 - (lg_sl ([.ref qu, .int a1, .int a2])).length) Slot.unset).toArray = ls at hl ⊢
  have hl : lv_has ls 8 [(0, .ref qu), (1, .int a1), (2, .int a2)] := hl
  obtain ⟨H, hHe⟩ : ∃ H : Heap, H = s.heap := ⟨_, rfl⟩
  rw [← hHe] at hP
  have hS : va_S A s.heap H [] := by rw [hHe]; exact va_S.rf
  refine ct_start hHe ?_
  refine lv_ldc2 (v := (-1)) hx hb hown (hts (.constantLong RX9 32 (-1)) (by decide +kernel)) dX9_joinOne_0 ?_
  refine lv_lstore_n (lv' := [(3, .long (-1)), (0, .ref qu), (1, .int a1), (2, .int a2)]) hx hb dX9_joinOne_3 rfl hl (by decide) rfl (fun ls hl => ?_)
  refine lv_iconst (v := 0) hx hb dX9_joinOne_4 (by decide) ?_
  refine lv_istore (lv' := [(5, .int 0), (3, .long (-1)), (0, .ref qu), (1, .int a1), (2, .int a2)]) hx hb dX9_joinOne_5 hl (by decide) rfl (fun ls hl => ?_)
  refine ct_loop (X := Int64 × Int32) (fun x => (2147483647 - x.2.toInt).toNat) (fun x H locs ls => ((0 ≤ x.2.toInt)) ∧ ct_B D A H [(qu, .inr (9, [.long vu_every, .long vu_at]))] ∧ va_S A s.heap H locs ∧ lv_has ls 8 [(5, .int x.2), (3, .long x.1), (0, .ref qu), (1, .int a1), (2, .int a2)]) 7 ((-1 : Int64), (0 : Int32)) ⟨(show 0 ≤ (0 : Int32).toInt by decide), ⟨hP, hD⟩, hS, lv_sub hl [0, 1, 2, 3, 4] rfl⟩ (fun x ih161 H locs ls hI => ?_)
  obtain ⟨x159, x160⟩ := x
  obtain ⟨h_x160, ⟨hP, hD⟩, hS, hl⟩ := hI
  have h_x160 : (0 ≤ x160.toInt) := h_x160
  obtain ⟨hP, hD⟩ : ct_B D A H [(qu, .inr (9, [.long vu_every, .long vu_at]))] := ⟨hP, hD⟩
  have hl : lv_has ls 8 [(5, .int x160), (3, .long x159), (0, .ref qu), (1, .int a1), (2, .int a2)] := hl
  refine lv_iload hx hb dX9_joinOne_7 (lv_at hl 0 rfl) ?_
  refine lv_iload_n hx hb dX9_joinOne_9 rfl (lv_at hl 3 rfl) ?_
  refine lv_icmp_ge (tgt := 67) hx hb dX9_joinOne_10 (by decide) (fun hc => ?_) (fun hc => ?_)
  · have hq162 : a1.toInt ≤ x160.toInt := tq_le rfl rfl hc
    have hb163 := tq_lo x160
    have hb164 := tq_lo a1
    refine lv_aload_n hx hb dX9_joinOne_67 rfl (lv_at hl 2 rfl) ?_
    refine lv_lload_n hx hb dX9_joinOne_68 rfl (lv_at hl 1 rfl) ?_
    refine va_put (D := D) (ci := 9) (v := .long x159) (ty := .long) (C := RX9) (T := TX9) (N := 2) hx hb hts hi9 tyX9 tyX9_ok nmX9 hown hK hP hD hS 0 rfl rfl 1 (by decide) (hts (.fieldLink RX9 15 "OverHill$Tunes" "at" "J") (by decide +kernel)) (fun _ h9 => h9) rfl (by decide +kernel) rfl rfl (Nat.le_of_ble_eq_true rfl) dX9_joinOne_69 (fun H locs hP hD hS => ?_)
    obtain ⟨hP, hD⟩ : ct_B D A H [(qu, .inr (9, [.long vu_every, .long x159]))] := ⟨hP, hD⟩
    refine lv_aload_n hx hb dX9_joinOne_72 rfl (lv_at hl 2 rfl) ?_
    refine lv_aload_n hx hb dX9_joinOne_73 rfl (lv_at hl 2 rfl) ?_
    refine va_get (D := D) (ci := 9) (v := .long vu_every) (C := RX9) (T := TX9) (N := 2) hx hb hts hi9 hown hK hP 0 rfl rfl 0 (by decide) (hts (.fieldLink RX9 9 "OverHill$Tunes" "every" "J") (by decide +kernel)) (fun _ h9 => h9) rfl dX9_joinOne_74 ?_
    refine lv_iload_n hx hb dX9_joinOne_77 rfl (lv_at hl 3 rfl) ?_
    refine lv_i2l (v := _) hx hb dX9_joinOne_78 rfl ?_
    refine lv_topl (fun z165 ez165 => ?_)
    have fz165 : z165.toInt = a1.toInt := by rw [ez165]; exact tl_i rfl
    have hb166 := tq_lo a1
    refine ct_calll (D := D) (wr := [(qu, .inr (9, [.long vu_every, .long x159]))]) (va_runSN (As := [.long vu_every, .long z165]) (rest := [.ref qu]) ⟨hx, hb, hml, hown, hts⟩ (c_X11_commonMultiple l D G cI cJ cB cZ cO vu_every z165  H.size) ⟨va_cnB 2 hts gX9_joinOne_X11_commonMultiple_n34 rfl rfl rfl (hE.2.1 (RX9, 34, yX11_commonMultiple, "OverHill") (List.mem_of_getElem? (i := 19) rfl)) (hts (.initialized RX11) (by decide +kernel)) (by decide +kernel) ⟨Nat.le_of_ble_eq_true rfl, Nat.le_of_ble_eq_true rfl⟩, (hts (.static yX11_commonMultiple) (by decide +kernel)), trivial⟩ (ct_preS (T := ct_T cI cJ cB cZ cO) hE hH hP hD hS hA [] (by decide) rfl) rfl rfl hl.1 rfl (lv_room (Nat.le_of_ble_eq_true rfl)) dX9_joinOne_79 ⟨Nat.le_of_ble_eq_true rfl, Nat.le_of_ble_eq_true rfl⟩) hP hD hS hA [] [0] rfl rfl (by decide) (by decide) (fun r167 u H locs hw hP hD hS => ?_)
    obtain ⟨hP, hD⟩ : ct_B D A H [(qu, .inr (9, [.long vu_every, .long x159]))] := ⟨hP, hD⟩
    refine va_put (D := D) (ci := 9) (v := .long r167) (ty := .long) (C := RX9) (T := TX9) (N := 2) hx hb hts hi9 tyX9 tyX9_ok nmX9 hown hK hP hD hS 0 rfl rfl 0 (by decide) (hts (.fieldLink RX9 9 "OverHill$Tunes" "every" "J") (by decide +kernel)) (fun _ h9 => h9) rfl (by decide +kernel) rfl rfl (Nat.le_of_ble_eq_true rfl) dX9_joinOne_82 (fun H locs hP hD hS => ?_)
    obtain ⟨hP, hD⟩ : ct_B D A H [(qu, .inr (9, [.long r167, .long x159]))] := ⟨hP, hD⟩
    obtain ⟨hP9, hD9⟩ : ct_B D A H [(qu, .inr (9, [.long r167, .long x159]))] := ⟨hP.sub [0] rfl, hD.sub [0] (by decide) rfl⟩
    exact W.vret hx hb hr (fun t ht hW => ⟨⟨(r167, x159), rfl, trivial, by rw [ht]; exact hP9, hD9⟩, hS.F ht⟩) hS.2.2 dX9_joinOne_85
  · have hq162 : x160.toInt < a1.toInt := tq_nle rfl rfl hc
    have hb168 := tq_lo x160
    have hb169 := tq_lo a1
    refine lv_aload_n hx hb dX9_joinOne_13 rfl (lv_at hl 2 rfl) ?_
    refine va_get (D := D) (ci := 9) (v := .long vu_at) (C := RX9) (T := TX9) (N := 2) hx hb hts hi9 hown hK hP 0 rfl rfl 1 (by decide) (hts (.fieldLink RX9 15 "OverHill$Tunes" "at" "J") (by decide +kernel)) (fun _ h9 => h9) rfl dX9_joinOne_14 ?_
    refine lv_ldc2 (v := (-1)) hx hb hown (hts (.constantLong RX9 32 (-1)) (by decide +kernel)) dX9_joinOne_17 ?_
    refine W.lcmp hx hb dX9_joinOne_20 ?_
    refine lv_if_eq (tgt := 67) hx hb dX9_joinOne_21 (by decide) (fun hc => ?_) (fun hc => ?_)
    · have hq170 : vu_at.toInt = (-1) := tl_eq rfl (by decide) ((lg_cmp_eq _ _).mp hc)
      refine lv_aload_n hx hb dX9_joinOne_67 rfl (lv_at hl 2 rfl) ?_
      refine lv_lload_n hx hb dX9_joinOne_68 rfl (lv_at hl 1 rfl) ?_
      refine va_put (D := D) (ci := 9) (v := .long x159) (ty := .long) (C := RX9) (T := TX9) (N := 2) hx hb hts hi9 tyX9 tyX9_ok nmX9 hown hK hP hD hS 0 rfl rfl 1 (by decide) (hts (.fieldLink RX9 15 "OverHill$Tunes" "at" "J") (by decide +kernel)) (fun _ h9 => h9) rfl (by decide +kernel) rfl rfl (Nat.le_of_ble_eq_true rfl) dX9_joinOne_69 (fun H locs hP hD hS => ?_)
      obtain ⟨hP, hD⟩ : ct_B D A H [(qu, .inr (9, [.long vu_every, .long x159]))] := ⟨hP, hD⟩
      refine lv_aload_n hx hb dX9_joinOne_72 rfl (lv_at hl 2 rfl) ?_
      refine lv_aload_n hx hb dX9_joinOne_73 rfl (lv_at hl 2 rfl) ?_
      refine va_get (D := D) (ci := 9) (v := .long vu_every) (C := RX9) (T := TX9) (N := 2) hx hb hts hi9 hown hK hP 0 rfl rfl 0 (by decide) (hts (.fieldLink RX9 9 "OverHill$Tunes" "every" "J") (by decide +kernel)) (fun _ h9 => h9) rfl dX9_joinOne_74 ?_
      refine lv_iload_n hx hb dX9_joinOne_77 rfl (lv_at hl 3 rfl) ?_
      refine lv_i2l (v := _) hx hb dX9_joinOne_78 rfl ?_
      refine lv_topl (fun z171 ez171 => ?_)
      have fz171 : z171.toInt = a1.toInt := by rw [ez171]; exact tl_i rfl
      have hb172 := tq_lo a1
      refine ct_calll (D := D) (wr := [(qu, .inr (9, [.long vu_every, .long x159]))]) (va_runSN (As := [.long vu_every, .long z171]) (rest := [.ref qu]) ⟨hx, hb, hml, hown, hts⟩ (c_X11_commonMultiple l D G cI cJ cB cZ cO vu_every z171  H.size) ⟨va_cnB 2 hts gX9_joinOne_X11_commonMultiple_n34 rfl rfl rfl (hE.2.1 (RX9, 34, yX11_commonMultiple, "OverHill") (List.mem_of_getElem? (i := 19) rfl)) (hts (.initialized RX11) (by decide +kernel)) (by decide +kernel) ⟨Nat.le_of_ble_eq_true rfl, Nat.le_of_ble_eq_true rfl⟩, (hts (.static yX11_commonMultiple) (by decide +kernel)), trivial⟩ (ct_preS (T := ct_T cI cJ cB cZ cO) hE hH hP hD hS hA [] (by decide) rfl) rfl rfl hl.1 rfl (lv_room (Nat.le_of_ble_eq_true rfl)) dX9_joinOne_79 ⟨Nat.le_of_ble_eq_true rfl, Nat.le_of_ble_eq_true rfl⟩) hP hD hS hA [] [0] rfl rfl (by decide) (by decide) (fun r173 u H locs hw hP hD hS => ?_)
      obtain ⟨hP, hD⟩ : ct_B D A H [(qu, .inr (9, [.long vu_every, .long x159]))] := ⟨hP, hD⟩
      refine va_put (D := D) (ci := 9) (v := .long r173) (ty := .long) (C := RX9) (T := TX9) (N := 2) hx hb hts hi9 tyX9 tyX9_ok nmX9 hown hK hP hD hS 0 rfl rfl 0 (by decide) (hts (.fieldLink RX9 9 "OverHill$Tunes" "every" "J") (by decide +kernel)) (fun _ h9 => h9) rfl (by decide +kernel) rfl rfl (Nat.le_of_ble_eq_true rfl) dX9_joinOne_82 (fun H locs hP hD hS => ?_)
      obtain ⟨hP, hD⟩ : ct_B D A H [(qu, .inr (9, [.long r173, .long x159]))] := ⟨hP, hD⟩
      obtain ⟨hP9, hD9⟩ : ct_B D A H [(qu, .inr (9, [.long r173, .long x159]))] := ⟨hP.sub [0] rfl, hD.sub [0] (by decide) rfl⟩
      exact W.vret hx hb hr (fun t ht hW => ⟨⟨(r173, x159), rfl, trivial, by rw [ht]; exact hP9, hD9⟩, hS.F ht⟩) hS.2.2 dX9_joinOne_85
    · have hq170 : vu_at.toInt ≠ (-1) := tl_ne rfl (by decide) (fun z => hc ((lg_cmp_eq _ _).mpr z))
      refine lv_lload_n hx hb dX9_joinOne_24 rfl (lv_at hl 1 rfl) ?_
      refine lv_ldc2 (v := (-1)) hx hb hown (hts (.constantLong RX9 32 (-1)) (by decide +kernel)) dX9_joinOne_25 ?_
      refine W.lcmp hx hb dX9_joinOne_28 ?_
      refine lv_if_ne (tgt := 67) hx hb dX9_joinOne_29 (by decide) (fun hc => ?_) (fun hc => ?_)
      · have hq174 : x159.toInt ≠ (-1) := tl_ne rfl (by decide) (fun z => hc ((lg_cmp_eq _ _).mpr z))
        refine lv_aload_n hx hb dX9_joinOne_67 rfl (lv_at hl 2 rfl) ?_
        refine lv_lload_n hx hb dX9_joinOne_68 rfl (lv_at hl 1 rfl) ?_
        refine va_put (D := D) (ci := 9) (v := .long x159) (ty := .long) (C := RX9) (T := TX9) (N := 2) hx hb hts hi9 tyX9 tyX9_ok nmX9 hown hK hP hD hS 0 rfl rfl 1 (by decide) (hts (.fieldLink RX9 15 "OverHill$Tunes" "at" "J") (by decide +kernel)) (fun _ h9 => h9) rfl (by decide +kernel) rfl rfl (Nat.le_of_ble_eq_true rfl) dX9_joinOne_69 (fun H locs hP hD hS => ?_)
        obtain ⟨hP, hD⟩ : ct_B D A H [(qu, .inr (9, [.long vu_every, .long x159]))] := ⟨hP, hD⟩
        refine lv_aload_n hx hb dX9_joinOne_72 rfl (lv_at hl 2 rfl) ?_
        refine lv_aload_n hx hb dX9_joinOne_73 rfl (lv_at hl 2 rfl) ?_
        refine va_get (D := D) (ci := 9) (v := .long vu_every) (C := RX9) (T := TX9) (N := 2) hx hb hts hi9 hown hK hP 0 rfl rfl 0 (by decide) (hts (.fieldLink RX9 9 "OverHill$Tunes" "every" "J") (by decide +kernel)) (fun _ h9 => h9) rfl dX9_joinOne_74 ?_
        refine lv_iload_n hx hb dX9_joinOne_77 rfl (lv_at hl 3 rfl) ?_
        refine lv_i2l (v := _) hx hb dX9_joinOne_78 rfl ?_
        refine lv_topl (fun z175 ez175 => ?_)
        have fz175 : z175.toInt = a1.toInt := by rw [ez175]; exact tl_i rfl
        have hb176 := tq_lo a1
        refine ct_calll (D := D) (wr := [(qu, .inr (9, [.long vu_every, .long x159]))]) (va_runSN (As := [.long vu_every, .long z175]) (rest := [.ref qu]) ⟨hx, hb, hml, hown, hts⟩ (c_X11_commonMultiple l D G cI cJ cB cZ cO vu_every z175  H.size) ⟨va_cnB 2 hts gX9_joinOne_X11_commonMultiple_n34 rfl rfl rfl (hE.2.1 (RX9, 34, yX11_commonMultiple, "OverHill") (List.mem_of_getElem? (i := 19) rfl)) (hts (.initialized RX11) (by decide +kernel)) (by decide +kernel) ⟨Nat.le_of_ble_eq_true rfl, Nat.le_of_ble_eq_true rfl⟩, (hts (.static yX11_commonMultiple) (by decide +kernel)), trivial⟩ (ct_preS (T := ct_T cI cJ cB cZ cO) hE hH hP hD hS hA [] (by decide) rfl) rfl rfl hl.1 rfl (lv_room (Nat.le_of_ble_eq_true rfl)) dX9_joinOne_79 ⟨Nat.le_of_ble_eq_true rfl, Nat.le_of_ble_eq_true rfl⟩) hP hD hS hA [] [0] rfl rfl (by decide) (by decide) (fun r177 u H locs hw hP hD hS => ?_)
        obtain ⟨hP, hD⟩ : ct_B D A H [(qu, .inr (9, [.long vu_every, .long x159]))] := ⟨hP, hD⟩
        refine va_put (D := D) (ci := 9) (v := .long r177) (ty := .long) (C := RX9) (T := TX9) (N := 2) hx hb hts hi9 tyX9 tyX9_ok nmX9 hown hK hP hD hS 0 rfl rfl 0 (by decide) (hts (.fieldLink RX9 9 "OverHill$Tunes" "every" "J") (by decide +kernel)) (fun _ h9 => h9) rfl (by decide +kernel) rfl rfl (Nat.le_of_ble_eq_true rfl) dX9_joinOne_82 (fun H locs hP hD hS => ?_)
        obtain ⟨hP, hD⟩ : ct_B D A H [(qu, .inr (9, [.long r177, .long x159]))] := ⟨hP, hD⟩
        obtain ⟨hP9, hD9⟩ : ct_B D A H [(qu, .inr (9, [.long r177, .long x159]))] := ⟨hP.sub [0] rfl, hD.sub [0] (by decide) rfl⟩
        exact W.vret hx hb hr (fun t ht hW => ⟨⟨(r177, x159), rfl, trivial, by rw [ht]; exact hP9, hD9⟩, hS.F ht⟩) hS.2.2 dX9_joinOne_85
      · have hq174 : x159.toInt = (-1) := tl_eq rfl (by decide) ((lg_cmp_eq _ _).mp hc)
        refine lv_aload_n hx hb dX9_joinOne_32 rfl (lv_at hl 2 rfl) ?_
        refine va_get (D := D) (ci := 9) (v := .long vu_at) (C := RX9) (T := TX9) (N := 2) hx hb hts hi9 hown hK hP 0 rfl rfl 1 (by decide) (hts (.fieldLink RX9 15 "OverHill$Tunes" "at" "J") (by decide +kernel)) (fun _ h9 => h9) rfl dX9_joinOne_33 ?_
        refine lv_iload hx hb dX9_joinOne_36 (lv_at hl 0 rfl) ?_
        refine lv_i2l (v := _) hx hb dX9_joinOne_38 rfl ?_
        refine lv_topl (fun z178 ez178 => ?_)
        have fz178 : z178.toInt = x160.toInt := by rw [ez178]; exact tl_i rfl
        refine lv_aload_n hx hb dX9_joinOne_39 rfl (lv_at hl 2 rfl) ?_
        refine va_get (D := D) (ci := 9) (v := .long vu_every) (C := RX9) (T := TX9) (N := 2) hx hb hts hi9 hown hK hP 0 rfl rfl 0 (by decide) (hts (.fieldLink RX9 9 "OverHill$Tunes" "every" "J") (by decide +kernel)) (fun _ h9 => h9) rfl dX9_joinOne_40 ?_
        refine lv_lmul hx hb dX9_joinOne_43 ?_
        refine lv_topl (fun z179 ez179 => ?_)
        refine lv_ladd hx hb dX9_joinOne_44 ?_
        refine lv_topl (fun z180 ez180 => ?_)
        refine lv_lstore (lv' := [(6, .long z180), (5, .int x160), (3, .long x159), (0, .ref qu), (1, .int a1), (2, .int a2)]) hx hb dX9_joinOne_45 hl (by decide) rfl (fun ls hl => ?_)
        refine lv_lload hx hb dX9_joinOne_47 (lv_at hl 0 rfl) ?_
        refine lv_iload_n hx hb dX9_joinOne_49 rfl (lv_at hl 4 rfl) ?_
        refine lv_i2l (v := _) hx hb dX9_joinOne_50 rfl ?_
        refine lv_topl (fun z181 ez181 => ?_)
        have fz181 : z181.toInt = a1.toInt := by rw [ez181]; exact tl_i rfl
        have hb182 := tq_lo a1
        refine lv_lrem hx hb dX9_joinOne_51 (tl_nz (by omega)) ?_
        refine lv_topl (fun z183 ez183 => ?_)
        refine lv_iload_n hx hb dX9_joinOne_52 rfl (lv_at hl 5 rfl) ?_
        refine lv_i2l (v := _) hx hb dX9_joinOne_53 rfl ?_
        refine lv_topl (fun z184 ez184 => ?_)
        have fz184 : z184.toInt = a2.toInt := by rw [ez184]; exact tl_i rfl
        have hb185 := tq_lo a2
        refine W.lcmp hx hb dX9_joinOne_54 ?_
        refine lv_if_ne (tgt := 61) hx hb dX9_joinOne_55 (by decide) (fun hc => ?_) (fun hc => ?_)
        · have hq186 : z183.toInt ≠ z184.toInt := tl_ne rfl rfl (fun z => hc ((lg_cmp_eq _ _).mpr z))
          obtain ⟨z187, ez187⟩ : ∃ z : Int32, z = x160 + 1 := ⟨_, rfl⟩
          have fz187 : z187.toInt = x160.toInt + 1 := by rw [ez187]; exact tq_add rfl (by decide) (by omega)
          refine lv_iinc (v := z187) (lv' := [(5, .int z187), (6, .long z180), (3, .long x159), (0, .ref qu), (1, .int a1), (2, .int a2)]) hx hb dX9_joinOne_61 hl (k := 1) rfl ez187.symm (by decide) rfl (fun ls hl => ?_)
          refine lv_goto (tgt := 7) hx hb dX9_joinOne_64 (by decide) ?_
          exact ih161 (x159, z187) _ _ _ (show (2147483647 - z187.toInt).toNat < (2147483647 - x160.toInt).toNat by omega) ⟨(show 0 ≤ z187.toInt by omega), ⟨hP, hD⟩, hS, lv_sub hl [0, 2, 3, 4, 5] rfl⟩
        · have hq186 : z183.toInt = z184.toInt := tl_eq rfl rfl ((lg_cmp_eq _ _).mp hc)
          refine lv_lload hx hb dX9_joinOne_58 (lv_at hl 0 rfl) ?_
          refine lv_lstore_n (lv' := [(3, .long z180), (6, .long z180), (5, .int x160), (0, .ref qu), (1, .int a1), (2, .int a2)]) hx hb dX9_joinOne_60 rfl hl (by decide) rfl (fun ls hl => ?_)
          obtain ⟨z188, ez188⟩ : ∃ z : Int32, z = x160 + 1 := ⟨_, rfl⟩
          have fz188 : z188.toInt = x160.toInt + 1 := by rw [ez188]; exact tq_add rfl (by decide) (by omega)
          refine lv_iinc (v := z188) (lv' := [(5, .int z188), (3, .long z180), (6, .long z180), (0, .ref qu), (1, .int a1), (2, .int a2)]) hx hb dX9_joinOne_61 hl (k := 2) rfl ez188.symm (by decide) rfl (fun ls hl => ?_)
          refine lv_goto (tgt := 7) hx hb dX9_joinOne_64 (by decide) ?_
          exact ih161 (z180, z188) _ _ _ (show (2147483647 - z188.toInt).toNat < (2147483647 - x160.toInt).toNat by omega) ⟨(show 0 ≤ z188.toInt by omega), ⟨hP, hD⟩, hS, lv_sub hl [0, 1, 3, 4, 5] rfl⟩
abbrev w_c_X9_join (cI cJ cB cZ cO : ClassId) (qu : Nat) (vu_every : Int64) (vu_at : Int64) (qd : Nat) (vd_gap : Int32) (vd_odds : Int32) (vd_rain : Int32) (vd_lines : Int32) (qd_steps : Nat) (qd_lengths : Nat) (qd_starts : Nat) (qd_met : Nat) (qd_stumbles : Nat) (vd_stumbleCount : Int32) (qd_muds : Nat) (qd_cells : Nat) (vd_cellCount : Int32) (qd_tunes : Nat) (fd_tunes : Nat → Int32) (vd_tuneCount : Int32) (qd_changes : Nat) (vd_changeCount : Int32) : va_W := [(qu, .inr (9, [.long vu_every, .long vu_at])), dn qd vd_gap vd_odds vd_rain vd_lines qd_steps qd_lengths qd_starts qd_met qd_stumbles vd_stumbleCount qd_muds qd_cells vd_cellCount qd_tunes vd_tuneCount qd_changes vd_changeCount, (qd_tunes, .inl (cI, 10, .inl (fd_tunes)))]
set_option maxHeartbeats 4000000 in
set_option maxRecDepth 100000 in
/-- X9 join -/
theorem c_X9_join (l : Launch) (D : va_G) (G : ct_G) (cI cJ cB cZ cO : ClassId) (qu : Nat) (vu_every : Int64) (vu_at : Int64) (qd : Nat) (vd_gap : Int32) (vd_odds : Int32) (vd_rain : Int32) (vd_lines : Int32) (qd_steps : Nat) (qd_lengths : Nat) (qd_starts : Nat) (qd_met : Nat) (qd_stumbles : Nat) (vd_stumbleCount : Int32) (qd_muds : Nat) (qd_cells : Nat) (vd_cellCount : Int32) (qd_tunes : Nat) (fd_tunes : Nat → Int32) (vd_tuneCount : Int32) (qd_changes : Nat) (vd_changeCount : Int32) (a2 : Int32) (h_vd_gap : 0 ≤ vd_gap.toInt ∧ vd_gap.toInt ≤ 20) (h_vd_stumbleCount : 0 ≤ vd_stumbleCount.toInt ∧ vd_stumbleCount.toInt ≤ 8) (h_vd_cellCount : 0 ≤ vd_cellCount.toInt ∧ vd_cellCount.toInt ≤ 12) (h_vd_tuneCount : 0 ≤ vd_tuneCount.toInt ∧ vd_tuneCount.toInt ≤ 5) (h_vd_changeCount : 0 ≤ vd_changeCount.toInt ∧ vd_changeCount.toInt ≤ 40) (sz : Nat) : Met l yX9_join wsX9_join ({ frames := 3, cells := 0, slots := 0, locals := 82 }) (va_Pc [.ref qu, .ref qd, .int a2] (ct_P D (ct_T cI cJ cB cZ cO) G (w_c_X9_join cI cJ cB cZ cO qu vu_every vu_at qd vd_gap vd_odds vd_rain vd_lines qd_steps qd_lengths qd_starts qd_met qd_stumbles vd_stumbleCount qd_muds qd_cells vd_cellCount qd_tunes fd_tunes vd_tuneCount qd_changes vd_changeCount) sz)) (va_Qv (fun (u : Int64 × Int64) => True) (fun (u : Int64 × Int64) t => ct_Q D (va_A (w_c_X9_join cI cJ cB cZ cO qu vu_every vu_at qd vd_gap vd_odds vd_rain vd_lines qd_steps qd_lengths qd_starts qd_met qd_stumbles vd_stumbleCount qd_muds qd_cells vd_cellCount qd_tunes fd_tunes vd_tuneCount qd_changes vd_changeCount) sz) [(qu, .inr (9, [.long u.1, .long u.2])), dn qd vd_gap vd_odds vd_rain vd_lines qd_steps qd_lengths qd_starts qd_met qd_stumbles vd_stumbleCount qd_muds qd_cells vd_cellCount qd_tunes vd_tuneCount qd_changes vd_changeCount, (qd_tunes, .inl (cI, 10, .inl (fd_tunes)))] t) (va_A (w_c_X9_join cI cJ cB cZ cO qu vu_every vu_at qd vd_gap vd_odds vd_rain vd_lines qd_steps qd_lengths qd_starts qd_met qd_stumbles vd_stumbleCount qd_muds qd_cells vd_cellCount qd_tunes fd_tunes vd_tuneCount qd_changes vd_changeCount) sz)) 0 0 (va_A (w_c_X9_join cI cJ cB cZ cO qu vu_every vu_at qd vd_gap vd_odds vd_rain vd_lines qd_steps qd_lengths qd_starts qd_met qd_stumbles vd_stumbleCount qd_muds qd_cells vd_cellCount qd_tunes fd_tunes vd_tuneCount qd_changes vd_changeCount) sz) := by
  refine Met.ofW (cc := cX9_join) (maxL := 4) (ret := none) (by decide) rfl ?_
  intro p e s m args below meth c s₁ B hml hv
  obtain ⟨rfl, hsz, hP, hE, hD0, hH⟩ := hv
  have hx := B.exec
  have hb := B.bytes
  have hr := B.returns
  have hts := atoms_spec (ws := wsX9_join) B.pre
  have hown : s.vm.findClass RX9 = some m.cls := findClass_of_methodNamed B.named
  have hlocks := B.notSynchronized
  have hK := hE.1
  have hi0 : ∀ w ∈ u_ws RX0 TX0 17, w ∈ wsX9_join := fun w h => List.mem_cons_of_mem _ (List.mem_append_right _ h)
  have hi9 : ∀ w ∈ u_ws RX9 TX9 2, w ∈ wsX9_join := fun w h => List.mem_cons_of_mem _ (List.mem_append_left _ (List.mem_append_right _ h))
  subst hsz
  have hD := hD0.self (sz := s.heap.size)
  generalize hAe : va_A (w_c_X9_join cI cJ cB cZ cO qu vu_every vu_at qd vd_gap vd_odds vd_rain vd_lines qd_steps qd_lengths qd_starts qd_met qd_stumbles vd_stumbleCount qd_muds qd_cells vd_cellCount qd_tunes fd_tunes vd_tuneCount qd_changes vd_changeCount) s.heap.size = A at hD hH ⊢
  have hA : ∀ q : Nat, s.heap.size ≤ q → A q := fun q h => by rw [← hAe]; exact Or.inr h
  have hS : va_S A s.heap s.heap [] := va_S.rf
  obtain ⟨hP, hD⟩ : ct_B D A s.heap [(qu, .inr (9, [.long vu_every, .long vu_at])), dn qd vd_gap vd_odds vd_rain vd_lines qd_steps qd_lengths qd_starts qd_met qd_stumbles vd_stumbleCount qd_muds qd_cells vd_cellCount qd_tunes vd_tuneCount qd_changes vd_changeCount, (qd_tunes, .inl (cI, 10, .inl (fd_tunes)))] := ⟨hP, hD⟩
  have hl := lv_entry ([.ref qu, .ref qd, .int a2]) (n := 4) (Nat.le_of_ble_eq_true rfl)
  rw [lg_entry_eq]
  generalize (lg_sl ([.ref qu, .ref qd, .int a2]) ++ List.replicate (4 - (lg_sl ([.ref qu, .ref qd, .int a2])).length) Slot.unset).toArray = ls at hl ⊢
  have hl : lv_has ls 4 [(0, .ref qu), (1, .ref qd), (2, .int a2)] := hl
  obtain ⟨H, hHe⟩ : ∃ H : Heap, H = s.heap := ⟨_, rfl⟩
  rw [← hHe] at hP
  have hS : va_S A s.heap H [] := by rw [hHe]; exact va_S.rf
  refine ct_start hHe ?_
  refine lv_aload_n hx hb dX9_join_0 rfl (lv_at hl 0 rfl) ?_
  refine lv_lconst (v := 1) hx hb dX9_join_1 (by decide) ?_
  refine va_put (D := D) (ci := 9) (v := .long 1) (ty := .long) (C := RX9) (T := TX9) (N := 2) hx hb hts hi9 tyX9 tyX9_ok nmX9 hown hK hP hD hS 0 rfl rfl 0 (by decide) (hts (.fieldLink RX9 9 "OverHill$Tunes" "every" "J") (by decide +kernel)) (fun _ h9 => h9) rfl (by decide +kernel) rfl rfl (Nat.le_of_ble_eq_true rfl) dX9_join_2 (fun H locs hP hD hS => ?_)
  obtain ⟨hP, hD⟩ : ct_B D A H [(qu, .inr (9, [.long 1, .long vu_at])), dn qd vd_gap vd_odds vd_rain vd_lines qd_steps qd_lengths qd_starts qd_met qd_stumbles vd_stumbleCount qd_muds qd_cells vd_cellCount qd_tunes vd_tuneCount qd_changes vd_changeCount, (qd_tunes, .inl (cI, 10, .inl (fd_tunes)))] := ⟨hP, hD⟩
  refine lv_aload_n hx hb dX9_join_5 rfl (lv_at hl 0 rfl) ?_
  refine lv_lconst (v := 0) hx hb dX9_join_6 (by decide) ?_
  refine va_put (D := D) (ci := 9) (v := .long 0) (ty := .long) (C := RX9) (T := TX9) (N := 2) hx hb hts hi9 tyX9 tyX9_ok nmX9 hown hK hP hD hS 0 rfl rfl 1 (by decide) (hts (.fieldLink RX9 15 "OverHill$Tunes" "at" "J") (by decide +kernel)) (fun _ h9 => h9) rfl (by decide +kernel) rfl rfl (Nat.le_of_ble_eq_true rfl) dX9_join_7 (fun H locs hP hD hS => ?_)
  obtain ⟨hP, hD⟩ : ct_B D A H [(qu, .inr (9, [.long 1, .long 0])), dn qd vd_gap vd_odds vd_rain vd_lines qd_steps qd_lengths qd_starts qd_met qd_stumbles vd_stumbleCount qd_muds qd_cells vd_cellCount qd_tunes vd_tuneCount qd_changes vd_changeCount, (qd_tunes, .inl (cI, 10, .inl (fd_tunes)))] := ⟨hP, hD⟩
  refine lv_iconst (v := 0) hx hb dX9_join_10 (by decide) ?_
  refine lv_istore_n (lv' := [(3, .int 0), (0, .ref qu), (1, .ref qd), (2, .int a2)]) hx hb dX9_join_11 rfl hl (by decide) rfl (fun ls hl => ?_)
  refine ct_loop (X := Int64 × Int64 × Int32) (fun x => (5 - x.2.2.toInt).toNat) (fun x H locs ls => ((0 ≤ x.2.2.toInt ∧ x.2.2.toInt ≤ 5)) ∧ ct_B D A H [(qu, .inr (9, [.long x.1, .long x.2.1])), dn qd vd_gap vd_odds vd_rain vd_lines qd_steps qd_lengths qd_starts qd_met qd_stumbles vd_stumbleCount qd_muds qd_cells vd_cellCount qd_tunes vd_tuneCount qd_changes vd_changeCount, (qd_tunes, .inl (cI, 10, .inl (fd_tunes)))] ∧ va_S A s.heap H locs ∧ lv_has ls 4 [(3, .int x.2.2), (0, .ref qu), (1, .ref qd), (2, .int a2)]) 12 ((1 : Int64), (0 : Int64), (0 : Int32)) ⟨(show 0 ≤ (0 : Int32).toInt ∧ (0 : Int32).toInt ≤ 5 by decide), ⟨hP, hD⟩, hS, lv_sub hl [0, 1, 2, 3] rfl⟩ (fun x ih95 H locs ls hI => ?_)
  obtain ⟨x92, x93, x94⟩ := x
  obtain ⟨h_x94, ⟨hP, hD⟩, hS, hl⟩ := hI
  have h_x94 : (0 ≤ x94.toInt ∧ x94.toInt ≤ 5) := h_x94
  obtain ⟨hP, hD⟩ : ct_B D A H [(qu, .inr (9, [.long x92, .long x93])), dn qd vd_gap vd_odds vd_rain vd_lines qd_steps qd_lengths qd_starts qd_met qd_stumbles vd_stumbleCount qd_muds qd_cells vd_cellCount qd_tunes vd_tuneCount qd_changes vd_changeCount, (qd_tunes, .inl (cI, 10, .inl (fd_tunes)))] := ⟨hP, hD⟩
  have hl : lv_has ls 4 [(3, .int x94), (0, .ref qu), (1, .ref qd), (2, .int a2)] := hl
  refine lv_iload_n hx hb dX9_join_12 rfl (lv_at hl 0 rfl) ?_
  refine lv_aload_n hx hb dX9_join_13 rfl (lv_at hl 2 rfl) ?_
  refine va_get (D := D) (ci := 0) (v := .int vd_tuneCount) (C := RX0) (T := TX0) (N := 17) hx hb hts hi0 hown hK hP 1 rfl rfl 14 (by decide) (hts (.fieldLink RX9 18 "OverHill$Dance" "tuneCount" "I") (by decide +kernel)) (fun _ h9 => h9) rfl dX9_join_14 ?_
  refine lv_icmp_ge (tgt := 56) hx hb dX9_join_17 (by decide) (fun hc => ?_) (fun hc => ?_)
  · have hq96 : vd_tuneCount.toInt ≤ x94.toInt := tq_le rfl rfl hc
    obtain ⟨hP9, hD9⟩ : ct_B D A H [(qu, .inr (9, [.long x92, .long x93])), dn qd vd_gap vd_odds vd_rain vd_lines qd_steps qd_lengths qd_starts qd_met qd_stumbles vd_stumbleCount qd_muds qd_cells vd_cellCount qd_tunes vd_tuneCount qd_changes vd_changeCount, (qd_tunes, .inl (cI, 10, .inl (fd_tunes)))] := ⟨hP.sub [0, 1, 2] rfl, hD.sub [0, 1, 2] (by decide) rfl⟩
    exact W.vret hx hb hr (fun t ht hW => ⟨⟨(x92, x93), rfl, trivial, by rw [ht]; exact hP9, hD9⟩, hS.F ht⟩) hS.2.2 dX9_join_56
  · have hq96 : x94.toInt < vd_tuneCount.toInt := tq_nle rfl rfl hc
    refine lv_iload_n hx hb dX9_join_20 rfl (lv_at hl 3 rfl) ?_
    refine lv_iload_n hx hb dX9_join_21 rfl (lv_at hl 0 rfl) ?_
    refine lv_ishr hx hb dX9_join_22 ?_
    refine lv_topi (fun z97 ez97 => ?_)
    refine lv_iconst (v := 1) hx hb dX9_join_23 (by decide) ?_
    refine lv_iand hx hb dX9_join_24 ?_
    refine lv_topi (fun z98 ez98 => ?_)
    have fz98 : 0 ≤ z98.toInt ∧ z98.toInt ≤ 1 := by rw [ez98]; exact tq_and (c := 1) (by decide) (by omega)
    refine lv_if_eq (tgt := 50) hx hb dX9_join_25 (by decide) (fun hc => ?_) (fun hc => ?_)
    · have hq99 : z98.toInt = 0 := tq_eq rfl (by decide) hc
      obtain ⟨z100, ez100⟩ : ∃ z : Int32, z = x94 + 1 := ⟨_, rfl⟩
      have fz100 : z100.toInt = x94.toInt + 1 := by rw [ez100]; exact tq_add rfl (by decide) (by omega)
      refine lv_iinc (v := z100) (lv' := [(3, .int z100), (0, .ref qu), (1, .ref qd), (2, .int a2)]) hx hb dX9_join_50 hl (k := 0) rfl ez100.symm (by decide) rfl (fun ls hl => ?_)
      refine lv_goto (tgt := 12) hx hb dX9_join_53 (by decide) ?_
      exact ih95 (x92, x93, z100) _ _ _ (show (5 - z100.toInt).toNat < (5 - x94.toInt).toNat by omega) ⟨(show 0 ≤ z100.toInt ∧ z100.toInt ≤ 5 by omega), ⟨hP, hD⟩, hS, lv_sub hl [0, 1, 2, 3] rfl⟩
    · have hq99 : z98.toInt ≠ 0 := tq_ne rfl (by decide) hc
      refine lv_aload_n hx hb dX9_join_28 rfl (lv_at hl 1 rfl) ?_
      refine lv_aload_n hx hb dX9_join_29 rfl (lv_at hl 2 rfl) ?_
      refine va_get (D := D) (ci := 0) (v := .ref qd_tunes) (C := RX0) (T := TX0) (N := 17) hx hb hts hi0 hown hK hP 1 rfl rfl 13 (by decide) (hts (.fieldLink RX9 24 "OverHill$Dance" "tunes" "[I") (by decide +kernel)) (fun _ h9 => h9) rfl dX9_join_30 ?_
      refine lv_iload_n hx hb dX9_join_33 rfl (lv_at hl 0 rfl) ?_
      refine lv_iconst (v := 2) hx hb dX9_join_34 (by decide) ?_
      refine lv_imul hx hb dX9_join_35 ?_
      refine lv_topi (fun z101 ez101 => ?_)
      have fz101 : z101.toInt = x94.toInt * 2 := by rw [ez101]; exact tq_mul rfl (by decide) (by omega)
      refine va_iald (D := D) hx hb hK hP 2 0 rfl rfl (tq_in rfl (by omega)) dX9_join_36 ?_
      refine lv_topi (fun z102 ez102 => ?_)
      refine lv_aload_n hx hb dX9_join_37 rfl (lv_at hl 2 rfl) ?_
      refine va_get (D := D) (ci := 0) (v := .ref qd_tunes) (C := RX0) (T := TX0) (N := 17) hx hb hts hi0 hown hK hP 1 rfl rfl 13 (by decide) (hts (.fieldLink RX9 24 "OverHill$Dance" "tunes" "[I") (by decide +kernel)) (fun _ h9 => h9) rfl dX9_join_38 ?_
      refine lv_iload_n hx hb dX9_join_41 rfl (lv_at hl 0 rfl) ?_
      refine lv_iconst (v := 2) hx hb dX9_join_42 (by decide) ?_
      refine lv_imul hx hb dX9_join_43 ?_
      refine lv_topi (fun z103 ez103 => ?_)
      have fz103 : z103.toInt = x94.toInt * 2 := by rw [ez103]; exact tq_mul rfl (by decide) (by omega)
      refine lv_iconst (v := 1) hx hb dX9_join_44 (by decide) ?_
      refine lv_iadd hx hb dX9_join_45 ?_
      refine lv_topi (fun z104 ez104 => ?_)
      have fz104 : z104.toInt = z103.toInt + 1 := by rw [ez104]; exact tq_add rfl (by decide) (by omega)
      refine va_iald (D := D) hx hb hK hP 2 0 rfl rfl (tq_in rfl (by omega)) dX9_join_46 ?_
      refine lv_topi (fun z105 ez105 => ?_)
      refine ct_callv (D := D) (wr := [dn qd vd_gap vd_odds vd_rain vd_lines qd_steps qd_lengths qd_starts qd_met qd_stumbles vd_stumbleCount qd_muds qd_cells vd_cellCount qd_tunes vd_tuneCount qd_changes vd_changeCount, (qd_tunes, .inl (cI, 10, .inl (fd_tunes)))]) (va_runV (As := [.int z102, .int z105]) (rest := []) ⟨hx, hb, hml, hown, hts⟩ (c_X9_joinOne l D G cI cJ cB cZ cO qu x92 x93 z102 z105  H.size) (cwV 2 hts gX9_join_X9_joinOne rfl rfl rfl (by decide +kernel) ⟨Nat.le_of_ble_eq_true rfl, Nat.le_of_ble_eq_true rfl⟩) (ct_preV (T := ct_T cI cJ cB cZ cO) (ci := 9) (q0 := 0) hE hH hP hD hS hA [0] (by decide) rfl rfl rfl) rfl rfl hl.1 rfl (lv_room (Nat.le_of_ble_eq_true rfl)) dX9_join_47 ⟨Nat.le_of_ble_eq_true rfl, Nat.le_of_ble_eq_true rfl⟩) hP hD hS hA [0] [1, 2] rfl rfl (by decide) (by decide) (fun u H locs hw hP hD hS => ?_)
      obtain ⟨y106, y107⟩ := u
      obtain ⟨hP, hD⟩ : ct_B D A H [dn qd vd_gap vd_odds vd_rain vd_lines qd_steps qd_lengths qd_starts qd_met qd_stumbles vd_stumbleCount qd_muds qd_cells vd_cellCount qd_tunes vd_tuneCount qd_changes vd_changeCount, (qd_tunes, .inl (cI, 10, .inl (fd_tunes))), (qu, .inr (9, [.long y106, .long y107]))] := ⟨hP, hD⟩
      obtain ⟨z108, ez108⟩ : ∃ z : Int32, z = x94 + 1 := ⟨_, rfl⟩
      have fz108 : z108.toInt = x94.toInt + 1 := by rw [ez108]; exact tq_add rfl (by decide) (by omega)
      refine lv_iinc (v := z108) (lv' := [(3, .int z108), (0, .ref qu), (1, .ref qd), (2, .int a2)]) hx hb dX9_join_50 hl (k := 0) rfl ez108.symm (by decide) rfl (fun ls hl => ?_)
      refine lv_goto (tgt := 12) hx hb dX9_join_53 (by decide) ?_
      obtain ⟨hP9, hD9⟩ : ct_B D A H [(qu, .inr (9, [.long y106, .long y107])), dn qd vd_gap vd_odds vd_rain vd_lines qd_steps qd_lengths qd_starts qd_met qd_stumbles vd_stumbleCount qd_muds qd_cells vd_cellCount qd_tunes vd_tuneCount qd_changes vd_changeCount, (qd_tunes, .inl (cI, 10, .inl (fd_tunes)))] := ⟨hP.sub [2, 0, 1] rfl, hD.sub [2, 0, 1] (by decide) rfl⟩
      exact ih95 (y106, y107, z108) _ _ _ (show (5 - z108.toInt).toNat < (5 - x94.toInt).toNat by omega) ⟨(show 0 ≤ z108.toInt ∧ z108.toInt ≤ 5 by omega), ⟨hP9, hD9⟩, hS, lv_sub hl [0, 1, 2, 3] rfl⟩
abbrev w_c_X9_firstFrom (cI cJ cB cZ cO : ClassId) (qu : Nat) (vu_every : Int64) (vu_at : Int64) : va_W := [(qu, .inr (9, [.long vu_every, .long vu_at]))]
set_option maxHeartbeats 4000000 in
set_option maxRecDepth 100000 in
/-- X9 firstFrom -/
theorem c_X9_firstFrom (l : Launch) (D : va_G) (G : ct_G) (cI cJ cB cZ cO : ClassId) (qu : Nat) (vu_every : Int64) (vu_at : Int64) (a1 : Int32)  (sz : Nat) : Met l yX9_firstFrom wsX9_firstFrom ({ frames := 1, cells := 0, slots := 0, locals := 25 }) (va_Pc [.ref qu, .int a1] (ct_P D (ct_T cI cJ cB cZ cO) G (w_c_X9_firstFrom cI cJ cB cZ cO qu vu_every vu_at) sz)) (va_Ql (fun (rz : Int64) (u : Unit) => True) (fun (u : Unit) t => ct_Q D (va_A (w_c_X9_firstFrom cI cJ cB cZ cO qu vu_every vu_at) sz) [(qu, .inr (9, [.long vu_every, .long vu_at]))] t) (va_A (w_c_X9_firstFrom cI cJ cB cZ cO qu vu_every vu_at) sz)) 0 0 (va_A (w_c_X9_firstFrom cI cJ cB cZ cO qu vu_every vu_at) sz) := by
  refine Met.ofW (cc := cX9_firstFrom) (maxL := 2) (ret := (some .long)) (by decide) rfl ?_
  intro p e s m args below meth c s₁ B hml hv
  obtain ⟨rfl, hsz, hP, hE, hD0, hH⟩ := hv
  have hx := B.exec
  have hb := B.bytes
  have hr := B.returns
  have hts := atoms_spec (ws := wsX9_firstFrom) B.pre
  have hown : s.vm.findClass RX9 = some m.cls := findClass_of_methodNamed B.named
  have hlocks := B.notSynchronized
  have hK := hE.1
  have hi9 : ∀ w ∈ u_ws RX9 TX9 2, w ∈ wsX9_firstFrom := fun w h => List.mem_cons_of_mem _ (List.mem_append_right _ h)
  subst hsz
  have hD := hD0.self (sz := s.heap.size)
  generalize hAe : va_A (w_c_X9_firstFrom cI cJ cB cZ cO qu vu_every vu_at) s.heap.size = A at hD hH ⊢
  have hA : ∀ q : Nat, s.heap.size ≤ q → A q := fun q h => by rw [← hAe]; exact Or.inr h
  have hS : va_S A s.heap s.heap [] := va_S.rf
  obtain ⟨hP, hD⟩ : ct_B D A s.heap [(qu, .inr (9, [.long vu_every, .long vu_at]))] := ⟨hP, hD⟩
  have hl := lv_entry ([.ref qu, .int a1]) (n := 2) (Nat.le_of_ble_eq_true rfl)
  rw [lg_entry_eq]
  generalize (lg_sl ([.ref qu, .int a1]) ++ List.replicate (2 - (lg_sl ([.ref qu, .int a1])).length) Slot.unset).toArray = ls at hl ⊢
  have hl : lv_has ls 2 [(0, .ref qu), (1, .int a1)] := hl
  obtain ⟨H, hHe⟩ : ∃ H : Heap, H = s.heap := ⟨_, rfl⟩
  rw [← hHe] at hP
  have hS : va_S A s.heap H [] := by rw [hHe]; exact va_S.rf
  refine ct_start hHe ?_
  refine lv_aload_n hx hb dX9_firstFrom_0 rfl (lv_at hl 0 rfl) ?_
  refine va_get (D := D) (ci := 9) (v := .long vu_at) (C := RX9) (T := TX9) (N := 2) hx hb hts hi9 hown hK hP 0 rfl rfl 1 (by decide) (hts (.fieldLink RX9 15 "OverHill$Tunes" "at" "J") (by decide +kernel)) (fun _ h9 => h9) rfl dX9_firstFrom_1 ?_
  refine lv_ldc2 (v := (-1)) hx hb hown (hts (.constantLong RX9 32 (-1)) (by decide +kernel)) dX9_firstFrom_4 ?_
  refine W.lcmp hx hb dX9_firstFrom_7 ?_
  refine lv_if_eq (tgt := 20) hx hb dX9_firstFrom_8 (by decide) (fun hc => ?_) (fun hc => ?_)
  · have hq1 : vu_at.toInt = (-1) := tl_eq rfl (by decide) ((lg_cmp_eq _ _).mp hc)
    refine lv_ldc2 (v := (-1)) hx hb hown (hts (.constantLong RX9 32 (-1)) (by decide +kernel)) dX9_firstFrom_20 ?_
    obtain ⟨hP9, hD9⟩ : ct_B D A H [(qu, .inr (9, [.long vu_every, .long vu_at]))] := ⟨hP.sub [0] rfl, hD.sub [0] (by decide) rfl⟩
    exact W.lret (v := (-1)) hx hb hr (fun t ht hW => ⟨⟨(-1), (), rfl, trivial, by rw [ht]; exact hP9, hD9⟩, hS.F ht⟩) hS.2.2 dX9_firstFrom_23
  · have hq1 : vu_at.toInt ≠ (-1) := tl_ne rfl (by decide) (fun z => hc ((lg_cmp_eq _ _).mpr z))
    refine lv_aload_n hx hb dX9_firstFrom_11 rfl (lv_at hl 0 rfl) ?_
    refine va_get (D := D) (ci := 9) (v := .long vu_every) (C := RX9) (T := TX9) (N := 2) hx hb hts hi9 hown hK hP 0 rfl rfl 0 (by decide) (hts (.fieldLink RX9 9 "OverHill$Tunes" "every" "J") (by decide +kernel)) (fun _ h9 => h9) rfl dX9_firstFrom_12 ?_
    refine lv_lconst (v := 0) hx hb dX9_firstFrom_15 (by decide) ?_
    refine W.lcmp hx hb dX9_firstFrom_16 ?_
    refine lv_if_gt (tgt := 24) hx hb dX9_firstFrom_17 (by decide) (fun hc => ?_) (fun hc => ?_)
    · have hq2 : 0 < vu_every.toInt := tl_lt (by decide) rfl ((lg_cmp_gt _ _).mp hc)
      refine lv_iload_n hx hb dX9_firstFrom_24 rfl (lv_at hl 1 rfl) ?_
      refine lv_i2l (v := _) hx hb dX9_firstFrom_25 rfl ?_
      refine lv_topl (fun z3 ez3 => ?_)
      have fz3 : z3.toInt = a1.toInt := by rw [ez3]; exact tl_i rfl
      have hb4 := tq_lo a1
      refine lv_aload_n hx hb dX9_firstFrom_26 rfl (lv_at hl 0 rfl) ?_
      refine va_get (D := D) (ci := 9) (v := .long vu_at) (C := RX9) (T := TX9) (N := 2) hx hb hts hi9 hown hK hP 0 rfl rfl 1 (by decide) (hts (.fieldLink RX9 15 "OverHill$Tunes" "at" "J") (by decide +kernel)) (fun _ h9 => h9) rfl dX9_firstFrom_27 ?_
      refine lv_iload_n hx hb dX9_firstFrom_30 rfl (lv_at hl 1 rfl) ?_
      refine lv_i2l (v := _) hx hb dX9_firstFrom_31 rfl ?_
      refine lv_topl (fun z5 ez5 => ?_)
      have fz5 : z5.toInt = a1.toInt := by rw [ez5]; exact tl_i rfl
      have hb6 := tq_lo a1
      refine lv_lsub hx hb dX9_firstFrom_32 ?_
      refine lv_topl (fun z7 ez7 => ?_)
      refine lv_aload_n hx hb dX9_firstFrom_33 rfl (lv_at hl 0 rfl) ?_
      refine va_get (D := D) (ci := 9) (v := .long vu_every) (C := RX9) (T := TX9) (N := 2) hx hb hts hi9 hown hK hP 0 rfl rfl 0 (by decide) (hts (.fieldLink RX9 9 "OverHill$Tunes" "every" "J") (by decide +kernel)) (fun _ h9 => h9) rfl dX9_firstFrom_34 ?_
      refine ct_calll (D := D) (wr := [(qu, .inr (9, [.long vu_every, .long vu_at]))]) (va_runS (As := [.long z7, .long vu_every]) (rest := [.long z3]) ⟨hx, hb, hml, hown, hts⟩ (c_J9_floorMod_f86c9 l D G cI cJ cB cZ cO z7 vu_every (by omega) H.size) (va_cwS 2 hts gX9_firstFrom_J9_floorMod_f86c9 rfl rfl rfl (by decide +kernel) ⟨Nat.le_of_ble_eq_true rfl, Nat.le_of_ble_eq_true rfl⟩) (ct_preS (T := ct_T cI cJ cB cZ cO) hE hH hP hD hS hA [] (by decide) rfl) rfl rfl hl.1 rfl (lv_room (Nat.le_of_ble_eq_true rfl)) dX9_firstFrom_37 ⟨Nat.le_of_ble_eq_true rfl, Nat.le_of_ble_eq_true rfl⟩) hP hD hS hA [] [0] rfl rfl (by decide) (by decide) (fun r8 u H locs hw hP hD hS => ?_)
      obtain ⟨hP, hD⟩ : ct_B D A H [(qu, .inr (9, [.long vu_every, .long vu_at]))] := ⟨hP, hD⟩
      refine lv_ladd hx hb dX9_firstFrom_40 ?_
      refine lv_topl (fun z9 ez9 => ?_)
      obtain ⟨hP9, hD9⟩ : ct_B D A H [(qu, .inr (9, [.long vu_every, .long vu_at]))] := ⟨hP.sub [0] rfl, hD.sub [0] (by decide) rfl⟩
      exact W.lret (v := z9) hx hb hr (fun t ht hW => ⟨⟨z9, (), rfl, trivial, by rw [ht]; exact hP9, hD9⟩, hS.F ht⟩) hS.2.2 dX9_firstFrom_41
    · have hq2 : vu_every.toInt ≤ 0 := tl_nlt (by decide) rfl (fun z => hc ((lg_cmp_gt _ _).mpr z))
      refine lv_ldc2 (v := (-1)) hx hb hown (hts (.constantLong RX9 32 (-1)) (by decide +kernel)) dX9_firstFrom_20 ?_
      obtain ⟨hP9, hD9⟩ : ct_B D A H [(qu, .inr (9, [.long vu_every, .long vu_at]))] := ⟨hP.sub [0] rfl, hD.sub [0] (by decide) rfl⟩
      exact W.lret (v := (-1)) hx hb hr (fun t ht hW => ⟨⟨(-1), (), rfl, trivial, by rw [ht]; exact hP9, hD9⟩, hS.F ht⟩) hS.2.2 dX9_firstFrom_23
abbrev w_c_X9_largestSet (cI cJ cB cZ cO : ClassId) (qu : Nat) (vu_every : Int64) (vu_at : Int64) (qd : Nat) (vd_gap : Int32) (vd_odds : Int32) (vd_rain : Int32) (vd_lines : Int32) (qd_steps : Nat) (qd_lengths : Nat) (qd_starts : Nat) (qd_met : Nat) (qd_stumbles : Nat) (vd_stumbleCount : Int32) (qd_muds : Nat) (qd_cells : Nat) (vd_cellCount : Int32) (qd_tunes : Nat) (fd_tunes : Nat → Int32) (vd_tuneCount : Int32) (qd_changes : Nat) (vd_changeCount : Int32) : va_W := [(qu, .inr (9, [.long vu_every, .long vu_at])), dn qd vd_gap vd_odds vd_rain vd_lines qd_steps qd_lengths qd_starts qd_met qd_stumbles vd_stumbleCount qd_muds qd_cells vd_cellCount qd_tunes vd_tuneCount qd_changes vd_changeCount, (qd_tunes, .inl (cI, 10, .inl (fd_tunes)))]
set_option maxHeartbeats 4000000 in
set_option maxRecDepth 100000 in
/-- X9 largestSet -/
theorem c_X9_largestSet (l : Launch) (D : va_G) (G : ct_G) (cI cJ cB cZ cO : ClassId) (qu : Nat) (vu_every : Int64) (vu_at : Int64) (qd : Nat) (vd_gap : Int32) (vd_odds : Int32) (vd_rain : Int32) (vd_lines : Int32) (qd_steps : Nat) (qd_lengths : Nat) (qd_starts : Nat) (qd_met : Nat) (qd_stumbles : Nat) (vd_stumbleCount : Int32) (qd_muds : Nat) (qd_cells : Nat) (vd_cellCount : Int32) (qd_tunes : Nat) (fd_tunes : Nat → Int32) (vd_tuneCount : Int32) (qd_changes : Nat) (vd_changeCount : Int32) (h_vd_gap : 0 ≤ vd_gap.toInt ∧ vd_gap.toInt ≤ 20) (h_vd_stumbleCount : 0 ≤ vd_stumbleCount.toInt ∧ vd_stumbleCount.toInt ≤ 8) (h_vd_cellCount : 0 ≤ vd_cellCount.toInt ∧ vd_cellCount.toInt ≤ 12) (h_vd_tuneCount : 0 ≤ vd_tuneCount.toInt ∧ vd_tuneCount.toInt ≤ 5) (h_vd_changeCount : 0 ≤ vd_changeCount.toInt ∧ vd_changeCount.toInt ≤ 40) (sz : Nat) : Met l yX9_largestSet wsX9_largestSet ({ frames := 4, cells := 0, slots := 0, locals := 105 }) (va_Pc [.ref qu, .ref qd] (ct_P D (ct_T cI cJ cB cZ cO) G (w_c_X9_largestSet cI cJ cB cZ cO qu vu_every vu_at qd vd_gap vd_odds vd_rain vd_lines qd_steps qd_lengths qd_starts qd_met qd_stumbles vd_stumbleCount qd_muds qd_cells vd_cellCount qd_tunes fd_tunes vd_tuneCount qd_changes vd_changeCount) sz)) (va_Qi (fun (rz : Int32) (u : Int64 × Int64) => (0 ≤ rz.toInt ∧ rz.toInt ≤ 31)) (fun (u : Int64 × Int64) t => ct_Q D (va_A (w_c_X9_largestSet cI cJ cB cZ cO qu vu_every vu_at qd vd_gap vd_odds vd_rain vd_lines qd_steps qd_lengths qd_starts qd_met qd_stumbles vd_stumbleCount qd_muds qd_cells vd_cellCount qd_tunes fd_tunes vd_tuneCount qd_changes vd_changeCount) sz) [(qu, .inr (9, [.long u.1, .long u.2])), dn qd vd_gap vd_odds vd_rain vd_lines qd_steps qd_lengths qd_starts qd_met qd_stumbles vd_stumbleCount qd_muds qd_cells vd_cellCount qd_tunes vd_tuneCount qd_changes vd_changeCount, (qd_tunes, .inl (cI, 10, .inl (fd_tunes)))] t) (va_A (w_c_X9_largestSet cI cJ cB cZ cO qu vu_every vu_at qd vd_gap vd_odds vd_rain vd_lines qd_steps qd_lengths qd_starts qd_met qd_stumbles vd_stumbleCount qd_muds qd_cells vd_cellCount qd_tunes fd_tunes vd_tuneCount qd_changes vd_changeCount) sz)) 0 0 (va_A (w_c_X9_largestSet cI cJ cB cZ cO qu vu_every vu_at qd vd_gap vd_odds vd_rain vd_lines qd_steps qd_lengths qd_starts qd_met qd_stumbles vd_stumbleCount qd_muds qd_cells vd_cellCount qd_tunes fd_tunes vd_tuneCount qd_changes vd_changeCount) sz) := by
  refine Met.ofW (cc := cX9_largestSet) (maxL := 4) (ret := (some .int)) (by decide) rfl ?_
  intro p e s m args below meth c s₁ B hml hv
  obtain ⟨rfl, hsz, hP, hE, hD0, hH⟩ := hv
  have hx := B.exec
  have hb := B.bytes
  have hr := B.returns
  have hts := atoms_spec (ws := wsX9_largestSet) B.pre
  have hown : s.vm.findClass RX9 = some m.cls := findClass_of_methodNamed B.named
  have hlocks := B.notSynchronized
  have hK := hE.1
  have hi0 : ∀ w ∈ u_ws RX0 TX0 17, w ∈ wsX9_largestSet := fun w h => List.mem_cons_of_mem _ (List.mem_append_left _ (List.mem_append_right _ h))
  have hi9 : ∀ w ∈ u_ws RX9 TX9 2, w ∈ wsX9_largestSet := fun w h => List.mem_cons_of_mem _ (List.mem_append_right _ h)
  subst hsz
  have hD := hD0.self (sz := s.heap.size)
  generalize hAe : va_A (w_c_X9_largestSet cI cJ cB cZ cO qu vu_every vu_at qd vd_gap vd_odds vd_rain vd_lines qd_steps qd_lengths qd_starts qd_met qd_stumbles vd_stumbleCount qd_muds qd_cells vd_cellCount qd_tunes fd_tunes vd_tuneCount qd_changes vd_changeCount) s.heap.size = A at hD hH ⊢
  have hA : ∀ q : Nat, s.heap.size ≤ q → A q := fun q h => by rw [← hAe]; exact Or.inr h
  have hS : va_S A s.heap s.heap [] := va_S.rf
  obtain ⟨hP, hD⟩ : ct_B D A s.heap [(qu, .inr (9, [.long vu_every, .long vu_at])), dn qd vd_gap vd_odds vd_rain vd_lines qd_steps qd_lengths qd_starts qd_met qd_stumbles vd_stumbleCount qd_muds qd_cells vd_cellCount qd_tunes vd_tuneCount qd_changes vd_changeCount, (qd_tunes, .inl (cI, 10, .inl (fd_tunes)))] := ⟨hP, hD⟩
  have hl := lv_entry ([.ref qu, .ref qd]) (n := 4) (Nat.le_of_ble_eq_true rfl)
  rw [lg_entry_eq]
  generalize (lg_sl ([.ref qu, .ref qd]) ++ List.replicate (4 - (lg_sl ([.ref qu, .ref qd])).length) Slot.unset).toArray = ls at hl ⊢
  have hl : lv_has ls 4 [(0, .ref qu), (1, .ref qd)] := hl
  obtain ⟨H, hHe⟩ : ∃ H : Heap, H = s.heap := ⟨_, rfl⟩
  rw [← hHe] at hP
  have hS : va_S A s.heap H [] := by rw [hHe]; exact va_S.rf
  refine ct_start hHe ?_
  refine lv_iconst (v := 0) hx hb dX9_largestSet_0 (by decide) ?_
  refine lv_istore_n (lv' := [(2, .int 0), (0, .ref qu), (1, .ref qd)]) hx hb dX9_largestSet_1 rfl hl (by decide) rfl (fun ls hl => ?_)
  refine lv_iconst (v := 1) hx hb dX9_largestSet_2 (by decide) ?_
  refine lv_istore_n (lv' := [(3, .int 1), (2, .int 0), (0, .ref qu), (1, .ref qd)]) hx hb dX9_largestSet_3 rfl hl (by decide) rfl (fun ls hl => ?_)
  refine ct_loop (X := Int64 × Int64 × Int32 × Int32) (fun x => (32 - x.2.2.2.toInt).toNat) (fun x H locs ls => ((0 ≤ x.2.2.1.toInt ∧ x.2.2.1.toInt ≤ 31)) ∧ ((1 ≤ x.2.2.2.toInt ∧ x.2.2.2.toInt ≤ 32)) ∧ ct_B D A H [(qu, .inr (9, [.long x.1, .long x.2.1])), dn qd vd_gap vd_odds vd_rain vd_lines qd_steps qd_lengths qd_starts qd_met qd_stumbles vd_stumbleCount qd_muds qd_cells vd_cellCount qd_tunes vd_tuneCount qd_changes vd_changeCount, (qd_tunes, .inl (cI, 10, .inl (fd_tunes)))] ∧ va_S A s.heap H locs ∧ lv_has ls 4 [(3, .int x.2.2.2), (2, .int x.2.2.1), (0, .ref qu), (1, .ref qd)]) 4 (vu_every, vu_at, (0 : Int32), (1 : Int32)) ⟨(show 0 ≤ (0 : Int32).toInt ∧ (0 : Int32).toInt ≤ 31 by decide), (show 1 ≤ (1 : Int32).toInt ∧ (1 : Int32).toInt ≤ 32 by decide), ⟨hP, hD⟩, hS, lv_sub hl [0, 1, 2, 3] rfl⟩ (fun x ih253 H locs ls hI => ?_)
  obtain ⟨x249, x250, x251, x252⟩ := x
  obtain ⟨h_x251, h_x252, ⟨hP, hD⟩, hS, hl⟩ := hI
  have h_x251 : (0 ≤ x251.toInt ∧ x251.toInt ≤ 31) := h_x251
  have h_x252 : (1 ≤ x252.toInt ∧ x252.toInt ≤ 32) := h_x252
  obtain ⟨hP, hD⟩ : ct_B D A H [(qu, .inr (9, [.long x249, .long x250])), dn qd vd_gap vd_odds vd_rain vd_lines qd_steps qd_lengths qd_starts qd_met qd_stumbles vd_stumbleCount qd_muds qd_cells vd_cellCount qd_tunes vd_tuneCount qd_changes vd_changeCount, (qd_tunes, .inl (cI, 10, .inl (fd_tunes)))] := ⟨hP, hD⟩
  have hl : lv_has ls 4 [(3, .int x252), (2, .int x251), (0, .ref qu), (1, .ref qd)] := hl
  refine lv_iload_n hx hb dX9_largestSet_4 rfl (lv_at hl 0 rfl) ?_
  refine lv_iconst (v := 1) hx hb dX9_largestSet_5 (by decide) ?_
  refine lv_aload_n hx hb dX9_largestSet_6 rfl (lv_at hl 3 rfl) ?_
  refine va_get (D := D) (ci := 0) (v := .int vd_tuneCount) (C := RX0) (T := TX0) (N := 17) hx hb hts hi0 hown hK hP 1 rfl rfl 14 (by decide) (hts (.fieldLink RX9 18 "OverHill$Dance" "tuneCount" "I") (by decide +kernel)) (fun _ h9 => h9) rfl dX9_largestSet_7 ?_
  refine lv_ishl hx hb dX9_largestSet_10 ?_
  refine lv_topi (fun z254 ez254 => ?_)
  have fz254 : 1 ≤ z254.toInt ∧ z254.toInt ≤ 32 := by rw [ez254]; exact tq_shl5 rfl (by omega)
  refine lv_icmp_ge (tgt := 50) hx hb dX9_largestSet_11 (by decide) (fun hc => ?_) (fun hc => ?_)
  · have hq255 : z254.toInt ≤ x252.toInt := tq_le rfl rfl hc
    refine lv_iload_n hx hb dX9_largestSet_50 rfl (lv_at hl 1 rfl) ?_
    obtain ⟨hP9, hD9⟩ : ct_B D A H [(qu, .inr (9, [.long x249, .long x250])), dn qd vd_gap vd_odds vd_rain vd_lines qd_steps qd_lengths qd_starts qd_met qd_stumbles vd_stumbleCount qd_muds qd_cells vd_cellCount qd_tunes vd_tuneCount qd_changes vd_changeCount, (qd_tunes, .inl (cI, 10, .inl (fd_tunes)))] := ⟨hP.sub [0, 1, 2] rfl, hD.sub [0, 1, 2] (by decide) rfl⟩
    exact W.iret (v := x251) hx hb hr (fun t ht hW => ⟨⟨x251, (x249, x250), rfl, h_x251, by rw [ht]; exact hP9, hD9⟩, hS.F ht⟩) hS.2.2 dX9_largestSet_51
  · have hq255 : x252.toInt < z254.toInt := tq_nle rfl rfl hc
    refine lv_iload_n hx hb dX9_largestSet_14 rfl (lv_at hl 0 rfl) ?_
    refine ct_calli (D := D) (wr := [(qu, .inr (9, [.long x249, .long x250])), dn qd vd_gap vd_odds vd_rain vd_lines qd_steps qd_lengths qd_starts qd_met qd_stumbles vd_stumbleCount qd_muds qd_cells vd_cellCount qd_tunes vd_tuneCount qd_changes vd_changeCount, (qd_tunes, .inl (cI, 10, .inl (fd_tunes)))]) (va_runS (As := [.int x252]) (rest := []) ⟨hx, hb, hml, hown, hts⟩ (c_J6_bitCount_0f7a4 l D G cI cJ cB cZ cO x252  H.size) (va_cwS 1 hts gX9_largestSet_J6_bitCount_0f7a4 rfl rfl rfl (by decide +kernel) ⟨Nat.le_of_ble_eq_true rfl, Nat.le_of_ble_eq_true rfl⟩) (ct_preS (T := ct_T cI cJ cB cZ cO) hE hH hP hD hS hA [] (by decide) rfl) rfl rfl hl.1 rfl (lv_room (Nat.le_of_ble_eq_true rfl)) dX9_largestSet_15 ⟨Nat.le_of_ble_eq_true rfl, Nat.le_of_ble_eq_true rfl⟩) hP hD hS hA [] [0, 1, 2] rfl rfl (by decide) (by decide) (fun r256 u H locs hw hP hD hS => ?_)
    obtain ⟨hP, hD⟩ : ct_B D A H [(qu, .inr (9, [.long x249, .long x250])), dn qd vd_gap vd_odds vd_rain vd_lines qd_steps qd_lengths qd_starts qd_met qd_stumbles vd_stumbleCount qd_muds qd_cells vd_cellCount qd_tunes vd_tuneCount qd_changes vd_changeCount, (qd_tunes, .inl (cI, 10, .inl (fd_tunes)))] := ⟨hP, hD⟩
    have hz := hw
    have h_r256 : 0 ≤ r256.toInt ∧ r256.toInt ≤ 63 := hz
    refine lv_iload_n hx hb dX9_largestSet_18 rfl (lv_at hl 1 rfl) ?_
    refine ct_calli (D := D) (wr := [(qu, .inr (9, [.long x249, .long x250])), dn qd vd_gap vd_odds vd_rain vd_lines qd_steps qd_lengths qd_starts qd_met qd_stumbles vd_stumbleCount qd_muds qd_cells vd_cellCount qd_tunes vd_tuneCount qd_changes vd_changeCount, (qd_tunes, .inl (cI, 10, .inl (fd_tunes)))]) (va_runS (As := [.int x251]) (rest := [.int r256]) ⟨hx, hb, hml, hown, hts⟩ (c_J6_bitCount_0f7a4 l D G cI cJ cB cZ cO x251  H.size) (va_cwS 1 hts gX9_largestSet_J6_bitCount_0f7a4 rfl rfl rfl (by decide +kernel) ⟨Nat.le_of_ble_eq_true rfl, Nat.le_of_ble_eq_true rfl⟩) (ct_preS (T := ct_T cI cJ cB cZ cO) hE hH hP hD hS hA [] (by decide) rfl) rfl rfl hl.1 rfl (lv_room (Nat.le_of_ble_eq_true rfl)) dX9_largestSet_19 ⟨Nat.le_of_ble_eq_true rfl, Nat.le_of_ble_eq_true rfl⟩) hP hD hS hA [] [0, 1, 2] rfl rfl (by decide) (by decide) (fun r257 u H locs hw hP hD hS => ?_)
    obtain ⟨hP, hD⟩ : ct_B D A H [(qu, .inr (9, [.long x249, .long x250])), dn qd vd_gap vd_odds vd_rain vd_lines qd_steps qd_lengths qd_starts qd_met qd_stumbles vd_stumbleCount qd_muds qd_cells vd_cellCount qd_tunes vd_tuneCount qd_changes vd_changeCount, (qd_tunes, .inl (cI, 10, .inl (fd_tunes)))] := ⟨hP, hD⟩
    have hz := hw
    have h_r257 : 0 ≤ r257.toInt ∧ r257.toInt ≤ 63 := hz
    refine lv_icmp_le (tgt := 44) hx hb dX9_largestSet_22 (by decide) (fun hc => ?_) (fun hc => ?_)
    · have hq258 : r256.toInt ≤ r257.toInt := tq_le rfl rfl hc
      obtain ⟨z259, ez259⟩ : ∃ z : Int32, z = x252 + 1 := ⟨_, rfl⟩
      have fz259 : z259.toInt = x252.toInt + 1 := by rw [ez259]; exact tq_add rfl (by decide) (by omega)
      refine lv_iinc (v := z259) (lv' := [(3, .int z259), (2, .int x251), (0, .ref qu), (1, .ref qd)]) hx hb dX9_largestSet_44 hl (k := 0) rfl ez259.symm (by decide) rfl (fun ls hl => ?_)
      refine lv_goto (tgt := 4) hx hb dX9_largestSet_47 (by decide) ?_
      exact ih253 (x249, x250, x251, z259) _ _ _ (show (32 - z259.toInt).toNat < (32 - x252.toInt).toNat by omega) ⟨h_x251, (show 1 ≤ z259.toInt ∧ z259.toInt ≤ 32 by omega), ⟨hP, hD⟩, hS, lv_sub hl [0, 1, 2, 3] rfl⟩
    · have hq258 : r257.toInt < r256.toInt := tq_nle rfl rfl hc
      refine lv_aload_n hx hb dX9_largestSet_25 rfl (lv_at hl 2 rfl) ?_
      refine lv_aload_n hx hb dX9_largestSet_26 rfl (lv_at hl 3 rfl) ?_
      refine lv_iload_n hx hb dX9_largestSet_27 rfl (lv_at hl 0 rfl) ?_
      refine ct_callv (D := D) (wr := []) (va_runV (As := [.ref qd, .int x252]) (rest := []) ⟨hx, hb, hml, hown, hts⟩ (c_X9_join l D G cI cJ cB cZ cO qu x249 x250 qd vd_gap vd_odds vd_rain vd_lines qd_steps qd_lengths qd_starts qd_met qd_stumbles vd_stumbleCount qd_muds qd_cells vd_cellCount qd_tunes fd_tunes vd_tuneCount qd_changes vd_changeCount x252 h_vd_gap h_vd_stumbleCount h_vd_cellCount h_vd_tuneCount h_vd_changeCount H.size) (cwV 2 hts gX9_largestSet_X9_join rfl rfl rfl (by decide +kernel) ⟨Nat.le_of_ble_eq_true rfl, Nat.le_of_ble_eq_true rfl⟩) (ct_preV (T := ct_T cI cJ cB cZ cO) (ci := 9) (q0 := 0) hE hH hP hD hS hA [0, 1, 2] (by decide) rfl rfl rfl) rfl rfl hl.1 rfl (lv_room (Nat.le_of_ble_eq_true rfl)) dX9_largestSet_28 ⟨Nat.le_of_ble_eq_true rfl, Nat.le_of_ble_eq_true rfl⟩) hP hD hS hA [0, 1, 2] [] rfl rfl (by decide) (by decide) (fun u H locs hw hP hD hS => ?_)
      obtain ⟨y260, y261⟩ := u
      obtain ⟨hP, hD⟩ : ct_B D A H [(qu, .inr (9, [.long y260, .long y261])), dn qd vd_gap vd_odds vd_rain vd_lines qd_steps qd_lengths qd_starts qd_met qd_stumbles vd_stumbleCount qd_muds qd_cells vd_cellCount qd_tunes vd_tuneCount qd_changes vd_changeCount, (qd_tunes, .inl (cI, 10, .inl (fd_tunes)))] := ⟨hP, hD⟩
      refine lv_aload_n hx hb dX9_largestSet_31 rfl (lv_at hl 2 rfl) ?_
      refine va_get (D := D) (ci := 9) (v := .long y261) (C := RX9) (T := TX9) (N := 2) hx hb hts hi9 hown hK hP 0 rfl rfl 1 (by decide) (hts (.fieldLink RX9 15 "OverHill$Tunes" "at" "J") (by decide +kernel)) (fun _ h9 => h9) rfl dX9_largestSet_32 ?_
      refine lv_ldc2 (v := (-1)) hx hb hown (hts (.constantLong RX9 32 (-1)) (by decide +kernel)) dX9_largestSet_35 ?_
      refine W.lcmp hx hb dX9_largestSet_38 ?_
      refine lv_if_eq (tgt := 44) hx hb dX9_largestSet_39 (by decide) (fun hc => ?_) (fun hc => ?_)
      · have hq262 : y261.toInt = (-1) := tl_eq rfl (by decide) ((lg_cmp_eq _ _).mp hc)
        obtain ⟨z263, ez263⟩ : ∃ z : Int32, z = x252 + 1 := ⟨_, rfl⟩
        have fz263 : z263.toInt = x252.toInt + 1 := by rw [ez263]; exact tq_add rfl (by decide) (by omega)
        refine lv_iinc (v := z263) (lv' := [(3, .int z263), (2, .int x251), (0, .ref qu), (1, .ref qd)]) hx hb dX9_largestSet_44 hl (k := 0) rfl ez263.symm (by decide) rfl (fun ls hl => ?_)
        refine lv_goto (tgt := 4) hx hb dX9_largestSet_47 (by decide) ?_
        exact ih253 (y260, y261, x251, z263) _ _ _ (show (32 - z263.toInt).toNat < (32 - x252.toInt).toNat by omega) ⟨h_x251, (show 1 ≤ z263.toInt ∧ z263.toInt ≤ 32 by omega), ⟨hP, hD⟩, hS, lv_sub hl [0, 1, 2, 3] rfl⟩
      · have hq262 : y261.toInt ≠ (-1) := tl_ne rfl (by decide) (fun z => hc ((lg_cmp_eq _ _).mpr z))
        refine lv_iload_n hx hb dX9_largestSet_42 rfl (lv_at hl 0 rfl) ?_
        refine lv_istore_n (lv' := [(2, .int x252), (3, .int x252), (0, .ref qu), (1, .ref qd)]) hx hb dX9_largestSet_43 rfl hl (by decide) rfl (fun ls hl => ?_)
        obtain ⟨z264, ez264⟩ : ∃ z : Int32, z = x252 + 1 := ⟨_, rfl⟩
        have fz264 : z264.toInt = x252.toInt + 1 := by rw [ez264]; exact tq_add rfl (by decide) (by omega)
        refine lv_iinc (v := z264) (lv' := [(3, .int z264), (2, .int x252), (0, .ref qu), (1, .ref qd)]) hx hb dX9_largestSet_44 hl (k := 1) rfl ez264.symm (by decide) rfl (fun ls hl => ?_)
        refine lv_goto (tgt := 4) hx hb dX9_largestSet_47 (by decide) ?_
        exact ih253 (y260, y261, x252, z264) _ _ _ (show (32 - z264.toInt).toNat < (32 - x252.toInt).toNat by omega) ⟨(show 0 ≤ x252.toInt ∧ x252.toInt ≤ 31 by omega), (show 1 ≤ z264.toInt ∧ z264.toInt ≤ 32 by omega), ⟨hP, hD⟩, hS, lv_sub hl [0, 1, 2, 3] rfl⟩
