abbrev w_c_X2_findWinning (cI cJ cB cZ cO : ClassId) (qg : Nat) (qg_winning : Nat) (fg_winning : Nat → Int32) (qd : Nat) (vd_gap : Int32) (vd_odds : Int32) (vd_rain : Int32) (vd_lines : Int32) (qd_steps : Nat) (qd_lengths : Nat) (qd_starts : Nat) (qd_met : Nat) (fd_met : Nat → Int32) (qd_stumbles : Nat) (vd_stumbleCount : Int32) (qd_muds : Nat) (qd_cells : Nat) (vd_cellCount : Int32) (qd_tunes : Nat) (vd_tuneCount : Int32) (qd_changes : Nat) (vd_changeCount : Int32) : va_W := [(qg, .inr (2, [.ref qg_winning])), (qg_winning, .inl (cI, 729, .inl (fg_winning))), (qd, .inr (0, [.int vd_gap, .int vd_odds, .int vd_rain, .int vd_lines, .ref qd_steps, .ref qd_lengths, .ref qd_starts, .ref qd_met, .ref qd_stumbles, .int vd_stumbleCount, .ref qd_muds, .ref qd_cells, .int vd_cellCount, .ref qd_tunes, .int vd_tuneCount, .ref qd_changes, .int vd_changeCount])), (qd_met, .inl (cI, 6, .inl (fd_met)))]
set_option maxHeartbeats 4000000 in
set_option maxRecDepth 100000 in
/-- X2 findWinning -/
theorem c_X2_findWinning (l : Launch) (D : va_G) (G : ct_G) (cI cJ cB cZ cO : ClassId) (qg : Nat) (qg_winning : Nat) (fg_winning : Nat → Int32) (qd : Nat) (vd_gap : Int32) (vd_odds : Int32) (vd_rain : Int32) (vd_lines : Int32) (qd_steps : Nat) (qd_lengths : Nat) (qd_starts : Nat) (qd_met : Nat) (fd_met : Nat → Int32) (qd_stumbles : Nat) (vd_stumbleCount : Int32) (qd_muds : Nat) (qd_cells : Nat) (vd_cellCount : Int32) (qd_tunes : Nat) (vd_tuneCount : Int32) (qd_changes : Nat) (vd_changeCount : Int32) (a2 : Int32) (h_vd_gap : 0 ≤ vd_gap.toInt ∧ vd_gap.toInt ≤ 20) (h_vd_stumbleCount : 0 ≤ vd_stumbleCount.toInt ∧ vd_stumbleCount.toInt ≤ 8) (h_vd_cellCount : 0 ≤ vd_cellCount.toInt ∧ vd_cellCount.toInt ≤ 12) (h_vd_tuneCount : 0 ≤ vd_tuneCount.toInt ∧ vd_tuneCount.toInt ≤ 5) (h_vd_changeCount : 0 ≤ vd_changeCount.toInt ∧ vd_changeCount.toInt ≤ 40) (h_a2 : 0 ≤ a2.toInt ∧ a2.toInt ≤ 728) (sz : Nat) : Met l yX2_findWinning wsX2_findWinning ({ frames := 0, cells := 0, slots := 0, locals := 0 }) (va_Pc [.ref qg, .ref qd, .int a2] (ct_P D (ct_T cI cJ cB cZ cO) G (w_c_X2_findWinning cI cJ cB cZ cO qg qg_winning fg_winning qd vd_gap vd_odds vd_rain vd_lines qd_steps qd_lengths qd_starts qd_met fd_met qd_stumbles vd_stumbleCount qd_muds qd_cells vd_cellCount qd_tunes vd_tuneCount qd_changes vd_changeCount) sz)) (va_Qi (fun (rz : Int32) (u : Unit) => True) (fun (u : Unit) t => ct_Q D (va_A (w_c_X2_findWinning cI cJ cB cZ cO qg qg_winning fg_winning qd vd_gap vd_odds vd_rain vd_lines qd_steps qd_lengths qd_starts qd_met fd_met qd_stumbles vd_stumbleCount qd_muds qd_cells vd_cellCount qd_tunes vd_tuneCount qd_changes vd_changeCount) sz) [(qg, .inr (2, [.ref qg_winning])), (qg_winning, .inl (cI, 729, .inl (fg_winning))), (qd, .inr (0, [.int vd_gap, .int vd_odds, .int vd_rain, .int vd_lines, .ref qd_steps, .ref qd_lengths, .ref qd_starts, .ref qd_met, .ref qd_stumbles, .int vd_stumbleCount, .ref qd_muds, .ref qd_cells, .int vd_cellCount, .ref qd_tunes, .int vd_tuneCount, .ref qd_changes, .int vd_changeCount])), (qd_met, .inl (cI, 6, .inl (fd_met)))] t) (va_A (w_c_X2_findWinning cI cJ cB cZ cO qg qg_winning fg_winning qd vd_gap vd_odds vd_rain vd_lines qd_steps qd_lengths qd_starts qd_met fd_met qd_stumbles vd_stumbleCount qd_muds qd_cells vd_cellCount qd_tunes vd_tuneCount qd_changes vd_changeCount) sz)) 0 0 (va_A (w_c_X2_findWinning cI cJ cB cZ cO qg qg_winning fg_winning qd vd_gap vd_odds vd_rain vd_lines qd_steps qd_lengths qd_starts qd_met fd_met qd_stumbles vd_stumbleCount qd_muds qd_cells vd_cellCount qd_tunes vd_tuneCount qd_changes vd_changeCount) sz) := by
  refine Met.ofW (cc := cX2_findWinning) (maxL := 6) (ret := (some .int)) (by decide) rfl ?_
  intro p e s m args below meth c s₁ B hml hv
  obtain ⟨rfl, hsz, hP, hE, hD0, hH⟩ := hv
  have hx := B.exec
  have hb := B.bytes
  have hr := B.returns
  have hts := atoms_spec (ws := wsX2_findWinning) B.pre
  have hown : s.vm.findClass RX2 = some m.cls := findClass_of_methodNamed B.named
  have hlocks := B.notSynchronized
  have hK := hE.1
  have hi0 : ∀ w ∈ u_ws RX0 TX0 17, w ∈ wsX2_findWinning := fun w h => List.mem_cons_of_mem _ (List.mem_append_right _ h)
  have hi2 : ∀ w ∈ u_ws RX2 TX2 1, w ∈ wsX2_findWinning := fun w h => List.mem_cons_of_mem _ (List.mem_append_left _ (List.mem_append_right _ h))
  subst hsz
  have hD := hD0.self (sz := s.heap.size)
  generalize hAe : va_A (w_c_X2_findWinning cI cJ cB cZ cO qg qg_winning fg_winning qd vd_gap vd_odds vd_rain vd_lines qd_steps qd_lengths qd_starts qd_met fd_met qd_stumbles vd_stumbleCount qd_muds qd_cells vd_cellCount qd_tunes vd_tuneCount qd_changes vd_changeCount) s.heap.size = A at hD hH ⊢
  have hA : ∀ q : Nat, s.heap.size ≤ q → A q := fun q h => by rw [← hAe]; exact Or.inr h
  have hS : va_S A s.heap s.heap [] := va_S.rf
  have hP : va_P D vwCl [(qg, .inr (2, [.ref qg_winning])), (qg_winning, .inl (cI, 729, .inl (fg_winning))), (qd, .inr (0, [.int vd_gap, .int vd_odds, .int vd_rain, .int vd_lines, .ref qd_steps, .ref qd_lengths, .ref qd_starts, .ref qd_met, .ref qd_stumbles, .int vd_stumbleCount, .ref qd_muds, .ref qd_cells, .int vd_cellCount, .ref qd_tunes, .int vd_tuneCount, .ref qd_changes, .int vd_changeCount])), (qd_met, .inl (cI, 6, .inl (fd_met)))] s.heap := hP
  have hD : va_D A [(qg, .inr (2, [.ref qg_winning])), (qg_winning, .inl (cI, 729, .inl (fg_winning))), (qd, .inr (0, [.int vd_gap, .int vd_odds, .int vd_rain, .int vd_lines, .ref qd_steps, .ref qd_lengths, .ref qd_starts, .ref qd_met, .ref qd_stumbles, .int vd_stumbleCount, .ref qd_muds, .ref qd_cells, .int vd_cellCount, .ref qd_tunes, .int vd_tuneCount, .ref qd_changes, .int vd_changeCount])), (qd_met, .inl (cI, 6, .inl (fd_met)))] := hD
  have hl := lv_entry ([.ref qg, .ref qd, .int a2]) (n := 6) (Nat.le_of_ble_eq_true rfl)
  rw [lg_entry_eq]
  generalize (lg_sl ([.ref qg, .ref qd, .int a2]) ++ List.replicate (6 - (lg_sl ([.ref qg, .ref qd, .int a2])).length) Slot.unset).toArray = ls at hl ⊢
  have hl : lv_has ls 6 [(0, .ref qg), (1, .ref qd), (2, .int a2)] := hl
  obtain ⟨H, hHe⟩ : ∃ H : Heap, H = s.heap := ⟨_, rfl⟩
  rw [← hHe] at hP
  have hS : va_S A s.heap H [] := by rw [hHe]; exact va_S.rf
  refine ct_start hHe ?_
  refine lv_iconst (v := 0) hx hb dX2_findWinning_0 (by decide) ?_
  refine lv_istore_n (lv' := [(3, .int 0), (0, .ref qg), (1, .ref qd), (2, .int a2)]) hx hb dX2_findWinning_1 rfl hl (by decide) rfl (fun ls hl => ?_)
  refine lv_iconst (v := 0) hx hb dX2_findWinning_2 (by decide) ?_
  refine lv_istore (lv' := [(4, .int 0), (3, .int 0), (0, .ref qg), (1, .ref qd), (2, .int a2)]) hx hb dX2_findWinning_3 hl (by decide) rfl (fun ls hl => ?_)
  refine ct_loop (X := Int32 × Int32) (fun x => (6 - x.2.toInt).toNat) (fun x H locs ls => ((0 ≤ x.2.toInt ∧ x.2.toInt ≤ 6)) ∧ va_P D vwCl [(qg, .inr (2, [.ref qg_winning])), (qg_winning, .inl (cI, 729, .inl (fg_winning))), (qd, .inr (0, [.int vd_gap, .int vd_odds, .int vd_rain, .int vd_lines, .ref qd_steps, .ref qd_lengths, .ref qd_starts, .ref qd_met, .ref qd_stumbles, .int vd_stumbleCount, .ref qd_muds, .ref qd_cells, .int vd_cellCount, .ref qd_tunes, .int vd_tuneCount, .ref qd_changes, .int vd_changeCount])), (qd_met, .inl (cI, 6, .inl (fd_met)))] H ∧ va_D A [(qg, .inr (2, [.ref qg_winning])), (qg_winning, .inl (cI, 729, .inl (fg_winning))), (qd, .inr (0, [.int vd_gap, .int vd_odds, .int vd_rain, .int vd_lines, .ref qd_steps, .ref qd_lengths, .ref qd_starts, .ref qd_met, .ref qd_stumbles, .int vd_stumbleCount, .ref qd_muds, .ref qd_cells, .int vd_cellCount, .ref qd_tunes, .int vd_tuneCount, .ref qd_changes, .int vd_changeCount])), (qd_met, .inl (cI, 6, .inl (fd_met)))] ∧ va_S A s.heap H locs ∧ lv_has ls 6 [(4, .int x.2), (3, .int x.1), (0, .ref qg), (1, .ref qd), (2, .int a2)]) 5 ((0 : Int32), (0 : Int32)) ⟨(show 0 ≤ (0 : Int32).toInt ∧ (0 : Int32).toInt ≤ 6 by decide), hP, hD, hS, lv_sub hl [0, 1, 2, 3, 4] rfl⟩ (fun x ih191 H locs ls hI => ?_)
  obtain ⟨x189, x190⟩ := x
  obtain ⟨h_x190, hP, hD, hS, hl⟩ := hI
  have h_x190 : (0 ≤ x190.toInt ∧ x190.toInt ≤ 6) := h_x190
  have hP : va_P D vwCl [(qg, .inr (2, [.ref qg_winning])), (qg_winning, .inl (cI, 729, .inl (fg_winning))), (qd, .inr (0, [.int vd_gap, .int vd_odds, .int vd_rain, .int vd_lines, .ref qd_steps, .ref qd_lengths, .ref qd_starts, .ref qd_met, .ref qd_stumbles, .int vd_stumbleCount, .ref qd_muds, .ref qd_cells, .int vd_cellCount, .ref qd_tunes, .int vd_tuneCount, .ref qd_changes, .int vd_changeCount])), (qd_met, .inl (cI, 6, .inl (fd_met)))] H := hP
  have hD : va_D A [(qg, .inr (2, [.ref qg_winning])), (qg_winning, .inl (cI, 729, .inl (fg_winning))), (qd, .inr (0, [.int vd_gap, .int vd_odds, .int vd_rain, .int vd_lines, .ref qd_steps, .ref qd_lengths, .ref qd_starts, .ref qd_met, .ref qd_stumbles, .int vd_stumbleCount, .ref qd_muds, .ref qd_cells, .int vd_cellCount, .ref qd_tunes, .int vd_tuneCount, .ref qd_changes, .int vd_changeCount])), (qd_met, .inl (cI, 6, .inl (fd_met)))] := hD
  have hl : lv_has ls 6 [(4, .int x190), (3, .int x189), (0, .ref qg), (1, .ref qd), (2, .int a2)] := hl
  refine lv_iload hx hb dX2_findWinning_5 (lv_at hl 0 rfl) ?_
  refine lv_bipush (v := 6) hx hb dX2_findWinning_7 (by decide) ?_
  refine lv_icmp_ge (tgt := 75) hx hb dX2_findWinning_9 (by decide) (fun hc => ?_) (fun hc => ?_)
  · have hq192 : 6 ≤ x190.toInt := tq_le (by decide) rfl hc
    refine lv_iload_n hx hb dX2_findWinning_75 rfl (lv_at hl 1 rfl) ?_
    have hP9 := hP.sub (ws' := [(qg, .inr (2, [.ref qg_winning])), (qg_winning, .inl (cI, 729, .inl (fg_winning))), (qd, .inr (0, [.int vd_gap, .int vd_odds, .int vd_rain, .int vd_lines, .ref qd_steps, .ref qd_lengths, .ref qd_starts, .ref qd_met, .ref qd_stumbles, .int vd_stumbleCount, .ref qd_muds, .ref qd_cells, .int vd_cellCount, .ref qd_tunes, .int vd_tuneCount, .ref qd_changes, .int vd_changeCount])), (qd_met, .inl (cI, 6, .inl (fd_met)))]) [0, 1, 2, 3] rfl
    have hD9 := hD.sub (ws' := [(qg, .inr (2, [.ref qg_winning])), (qg_winning, .inl (cI, 729, .inl (fg_winning))), (qd, .inr (0, [.int vd_gap, .int vd_odds, .int vd_rain, .int vd_lines, .ref qd_steps, .ref qd_lengths, .ref qd_starts, .ref qd_met, .ref qd_stumbles, .int vd_stumbleCount, .ref qd_muds, .ref qd_cells, .int vd_cellCount, .ref qd_tunes, .int vd_tuneCount, .ref qd_changes, .int vd_changeCount])), (qd_met, .inl (cI, 6, .inl (fd_met)))]) [0, 1, 2, 3] (by decide) rfl
    exact W.iret (v := x189) hx hb hr (fun t ht hW => ⟨⟨x189, (), rfl, trivial, by rw [ht]; exact hP9, hD9⟩, hS.F ht⟩) hS.2.2 dX2_findWinning_76
  · have hq192 : x190.toInt < 6 := tq_nle (by decide) rfl hc
    rcases (show x190.toInt = 0 ∨ x190.toInt = 1 ∨ x190.toInt = 2 ∨ x190.toInt = 3 ∨ x190.toInt = 4 ∨ x190.toInt = 5 by omega) with hj | hj | hj | hj | hj | hj
    · have hj2 : x190 = 0 := tq_of hj (by decide)
      have hl : lv_has ls 6 [(4, .int 0), (3, .int x189), (0, .ref qg), (1, .ref qd), (2, .int a2)] := by have h9 := hl; rw [hj2] at h9; exact h9
      refine lv_iload_n hx hb dX2_findWinning_12 rfl (lv_at hl 4 rfl) ?_
      refine va_gets hx hb hH.2.2.1 hS hown (hts (.fieldLink RX2 19 "OverHill$Game" "POWERS" "[I") (by decide +kernel)) (fun _ h9 => h9) dX2_findWinning_13 ?_
      refine lv_iload hx hb dX2_findWinning_16 (lv_at hl 0 rfl) ?_
      refine va_ti hx hb hH.2.2.2.1 hS (tq_in (a := 0) (by decide) (by omega)) (v := _) rfl dX2_findWinning_18 ?_
      refine lv_topi (fun z193 ez193 => ?_)
      obtain rfl : z193 = 1 := ez193.trans (by decide)
      refine lv_idiv hx hb dX2_findWinning_19 (by decide) ?_
      refine lv_topi (fun z194 ez194 => ?_)
      have fz194 : z194.toInt = a2.toInt / 1 := by rw [ez194]; exact tq_divc (c := 1) rfl (by decide) (by omega) (by omega)
      refine lv_iconst (v := 3) hx hb dX2_findWinning_20 (by decide) ?_
      refine lv_irem hx hb dX2_findWinning_21 (by decide) ?_
      refine lv_topi (fun z195 ez195 => ?_)
      have fz195 : z195.toInt = z194.toInt % 3 := by rw [ez195]; exact tq_remc (c := 3) rfl (by decide) (by omega) (by omega)
      refine lv_iconst (v := 2) hx hb dX2_findWinning_22 (by decide) ?_
      refine lv_icmp_ge (tgt := 30) hx hb dX2_findWinning_23 (by decide) (fun hc => ?_) (fun hc => ?_)
      · have hq196 : 2 ≤ z195.toInt := tq_le (by decide) rfl hc
        refine lv_iconst (v := 0) hx hb dX2_findWinning_30 (by decide) ?_
        refine lv_istore (lv' := [(5, .int 0), (4, .int 0), (3, .int x189), (0, .ref qg), (1, .ref qd), (2, .int a2)]) hx hb dX2_findWinning_31 hl (by decide) rfl (fun ls hl => ?_)
        refine lv_iload hx hb dX2_findWinning_33 (lv_at hl 0 rfl) ?_
        refine lv_if_eq (tgt := 69) hx hb dX2_findWinning_35 (by decide) (fun _ => ?_) (fun hc => absurd hc (by decide))
        refine lv_iinc (v := 1) (lv' := [(4, .int 1), (5, .int 0), (3, .int x189), (0, .ref qg), (1, .ref qd), (2, .int a2)]) hx hb dX2_findWinning_69 hl (k := 1) rfl (by decide) (by decide) rfl (fun ls hl => ?_)
        refine lv_goto (tgt := 5) hx hb dX2_findWinning_72 (by decide) ?_
        exact ih191 (x189, (1 : Int32)) _ _ _ (show (6 - (1 : Int32).toInt).toNat < (6 - x190.toInt).toNat by omega) ⟨(show 0 ≤ (1 : Int32).toInt ∧ (1 : Int32).toInt ≤ 6 by decide), hP, hD, hS, lv_sub hl [0, 2, 3, 4, 5] rfl⟩
      · have hq196 : z195.toInt < 2 := tq_nle (by decide) rfl hc
        refine lv_iconst (v := 1) hx hb dX2_findWinning_26 (by decide) ?_
        refine lv_goto (tgt := 31) hx hb dX2_findWinning_27 (by decide) ?_
        refine lv_istore (lv' := [(5, .int 1), (4, .int 0), (3, .int x189), (0, .ref qg), (1, .ref qd), (2, .int a2)]) hx hb dX2_findWinning_31 hl (by decide) rfl (fun ls hl => ?_)
        refine lv_iload hx hb dX2_findWinning_33 (lv_at hl 0 rfl) ?_
        refine lv_if_eq (tgt := 69) hx hb dX2_findWinning_35 (by decide) (fun hc => absurd hc (by decide)) (fun _ => ?_)
        refine lv_aload_n hx hb dX2_findWinning_38 rfl (lv_at hl 3 rfl) ?_
        refine va_get (D := D) (ci := 2) (v := .ref qg_winning) (C := RX2) (T := TX2) (N := 1) hx hb hts hi2 hown hK hP 0 rfl rfl 0 (by decide) (hts (.fieldLink RX2 11 "OverHill$Game" "winning" "[I") (by decide +kernel)) (fun _ h9 => h9) rfl dX2_findWinning_39 ?_
        refine lv_iload_n hx hb dX2_findWinning_42 rfl (lv_at hl 5 rfl) ?_
        refine va_gets hx hb hH.2.2.1 hS hown (hts (.fieldLink RX2 19 "OverHill$Game" "POWERS" "[I") (by decide +kernel)) (fun _ h9 => h9) dX2_findWinning_43 ?_
        refine lv_iload hx hb dX2_findWinning_46 (lv_at hl 1 rfl) ?_
        refine va_ti hx hb hH.2.2.2.1 hS (tq_in (a := 0) (by decide) (by omega)) (v := _) rfl dX2_findWinning_48 ?_
        refine lv_topi (fun z197 ez197 => ?_)
        obtain rfl : z197 = 1 := ez197.trans (by decide)
        refine lv_iadd hx hb dX2_findWinning_49 ?_
        refine lv_topi (fun z198 ez198 => ?_)
        have fz198 : z198.toInt = a2.toInt + 1 := by rw [ez198]; exact tq_add rfl (by decide) (by omega)
        refine va_iald (D := D) hx hb hK hP 1 0 rfl rfl (tq_in rfl (by omega)) dX2_findWinning_50 ?_
        refine lv_topi (fun z199 ez199 => ?_)
        refine lv_aload_n hx hb dX2_findWinning_51 rfl (lv_at hl 4 rfl) ?_
        refine va_get (D := D) (ci := 0) (v := .ref qd_met) (C := RX0) (T := TX0) (N := 17) hx hb hts hi0 hown hK hP 2 rfl rfl 7 (by decide) (hts (.fieldLink RX2 22 "OverHill$Dance" "met" "[I") (by decide +kernel)) (fun _ h9 => h9) rfl dX2_findWinning_52 ?_
        refine lv_iload hx hb dX2_findWinning_55 (lv_at hl 1 rfl) ?_
        refine va_iald (D := D) hx hb hK hP 3 0 rfl rfl (tq_in (a := 0) (by decide) (by omega)) dX2_findWinning_57 ?_
        refine lv_topi (fun z200 ez200 => ?_)
        refine lv_iand hx hb dX2_findWinning_58 ?_
        refine lv_topi (fun z201 ez201 => ?_)
        refine lv_if_ne (tgt := 69) hx hb dX2_findWinning_59 (by decide) (fun hc => ?_) (fun hc => ?_)
        · have hq202 : z201.toInt ≠ 0 := tq_ne rfl (by decide) hc
          have hb203 := tq_lo z201
          refine lv_iinc (v := 1) (lv' := [(4, .int 1), (5, .int 1), (3, .int x189), (0, .ref qg), (1, .ref qd), (2, .int a2)]) hx hb dX2_findWinning_69 hl (k := 1) rfl (by decide) (by decide) rfl (fun ls hl => ?_)
          refine lv_goto (tgt := 5) hx hb dX2_findWinning_72 (by decide) ?_
          exact ih191 (x189, (1 : Int32)) _ _ _ (show (6 - (1 : Int32).toInt).toNat < (6 - x190.toInt).toNat by omega) ⟨(show 0 ≤ (1 : Int32).toInt ∧ (1 : Int32).toInt ≤ 6 by decide), hP, hD, hS, lv_sub hl [0, 2, 3, 4, 5] rfl⟩
        · have hq202 : z201.toInt = 0 := tq_eq rfl (by decide) hc
          have hb204 := tq_lo z201
          refine lv_iload_n hx hb dX2_findWinning_62 rfl (lv_at hl 2 rfl) ?_
          refine lv_iconst (v := 1) hx hb dX2_findWinning_63 (by decide) ?_
          refine lv_iload hx hb dX2_findWinning_64 (lv_at hl 1 rfl) ?_
          refine lv_ishl hx hb dX2_findWinning_66 ?_
          refine lv_topi (fun z205 ez205 => ?_)
          obtain rfl : z205 = 1 := ez205.trans (by decide)
          refine lv_ior hx hb dX2_findWinning_67 ?_
          refine lv_topi (fun z206 ez206 => ?_)
          refine lv_istore_n (lv' := [(3, .int z206), (5, .int 1), (4, .int 0), (0, .ref qg), (1, .ref qd), (2, .int a2)]) hx hb dX2_findWinning_68 rfl hl (by decide) rfl (fun ls hl => ?_)
          refine lv_iinc (v := 1) (lv' := [(4, .int 1), (3, .int z206), (5, .int 1), (0, .ref qg), (1, .ref qd), (2, .int a2)]) hx hb dX2_findWinning_69 hl (k := 2) rfl (by decide) (by decide) rfl (fun ls hl => ?_)
          refine lv_goto (tgt := 5) hx hb dX2_findWinning_72 (by decide) ?_
          exact ih191 (z206, (1 : Int32)) _ _ _ (show (6 - (1 : Int32).toInt).toNat < (6 - x190.toInt).toNat by omega) ⟨(show 0 ≤ (1 : Int32).toInt ∧ (1 : Int32).toInt ≤ 6 by decide), hP, hD, hS, lv_sub hl [0, 1, 3, 4, 5] rfl⟩
    · have hj2 : x190 = 1 := tq_of hj (by decide)
      have hl : lv_has ls 6 [(4, .int 1), (3, .int x189), (0, .ref qg), (1, .ref qd), (2, .int a2)] := by have h9 := hl; rw [hj2] at h9; exact h9
      refine lv_iload_n hx hb dX2_findWinning_12 rfl (lv_at hl 4 rfl) ?_
      refine va_gets hx hb hH.2.2.1 hS hown (hts (.fieldLink RX2 19 "OverHill$Game" "POWERS" "[I") (by decide +kernel)) (fun _ h9 => h9) dX2_findWinning_13 ?_
      refine lv_iload hx hb dX2_findWinning_16 (lv_at hl 0 rfl) ?_
      refine va_ti hx hb hH.2.2.2.1 hS (tq_in (a := 1) (by decide) (by omega)) (v := _) rfl dX2_findWinning_18 ?_
      refine lv_topi (fun z207 ez207 => ?_)
      obtain rfl : z207 = 3 := ez207.trans (by decide)
      refine lv_idiv hx hb dX2_findWinning_19 (by decide) ?_
      refine lv_topi (fun z208 ez208 => ?_)
      have fz208 : z208.toInt = a2.toInt / 3 := by rw [ez208]; exact tq_divc (c := 3) rfl (by decide) (by omega) (by omega)
      refine lv_iconst (v := 3) hx hb dX2_findWinning_20 (by decide) ?_
      refine lv_irem hx hb dX2_findWinning_21 (by decide) ?_
      refine lv_topi (fun z209 ez209 => ?_)
      have fz209 : z209.toInt = z208.toInt % 3 := by rw [ez209]; exact tq_remc (c := 3) rfl (by decide) (by omega) (by omega)
      refine lv_iconst (v := 2) hx hb dX2_findWinning_22 (by decide) ?_
      refine lv_icmp_ge (tgt := 30) hx hb dX2_findWinning_23 (by decide) (fun hc => ?_) (fun hc => ?_)
      · have hq210 : 2 ≤ z209.toInt := tq_le (by decide) rfl hc
        refine lv_iconst (v := 0) hx hb dX2_findWinning_30 (by decide) ?_
        refine lv_istore (lv' := [(5, .int 0), (4, .int 1), (3, .int x189), (0, .ref qg), (1, .ref qd), (2, .int a2)]) hx hb dX2_findWinning_31 hl (by decide) rfl (fun ls hl => ?_)
        refine lv_iload hx hb dX2_findWinning_33 (lv_at hl 0 rfl) ?_
        refine lv_if_eq (tgt := 69) hx hb dX2_findWinning_35 (by decide) (fun _ => ?_) (fun hc => absurd hc (by decide))
        refine lv_iinc (v := 2) (lv' := [(4, .int 2), (5, .int 0), (3, .int x189), (0, .ref qg), (1, .ref qd), (2, .int a2)]) hx hb dX2_findWinning_69 hl (k := 1) rfl (by decide) (by decide) rfl (fun ls hl => ?_)
        refine lv_goto (tgt := 5) hx hb dX2_findWinning_72 (by decide) ?_
        exact ih191 (x189, (2 : Int32)) _ _ _ (show (6 - (2 : Int32).toInt).toNat < (6 - x190.toInt).toNat by omega) ⟨(show 0 ≤ (2 : Int32).toInt ∧ (2 : Int32).toInt ≤ 6 by decide), hP, hD, hS, lv_sub hl [0, 2, 3, 4, 5] rfl⟩
      · have hq210 : z209.toInt < 2 := tq_nle (by decide) rfl hc
        refine lv_iconst (v := 1) hx hb dX2_findWinning_26 (by decide) ?_
        refine lv_goto (tgt := 31) hx hb dX2_findWinning_27 (by decide) ?_
        refine lv_istore (lv' := [(5, .int 1), (4, .int 1), (3, .int x189), (0, .ref qg), (1, .ref qd), (2, .int a2)]) hx hb dX2_findWinning_31 hl (by decide) rfl (fun ls hl => ?_)
        refine lv_iload hx hb dX2_findWinning_33 (lv_at hl 0 rfl) ?_
        refine lv_if_eq (tgt := 69) hx hb dX2_findWinning_35 (by decide) (fun hc => absurd hc (by decide)) (fun _ => ?_)
        refine lv_aload_n hx hb dX2_findWinning_38 rfl (lv_at hl 3 rfl) ?_
        refine va_get (D := D) (ci := 2) (v := .ref qg_winning) (C := RX2) (T := TX2) (N := 1) hx hb hts hi2 hown hK hP 0 rfl rfl 0 (by decide) (hts (.fieldLink RX2 11 "OverHill$Game" "winning" "[I") (by decide +kernel)) (fun _ h9 => h9) rfl dX2_findWinning_39 ?_
        refine lv_iload_n hx hb dX2_findWinning_42 rfl (lv_at hl 5 rfl) ?_
        refine va_gets hx hb hH.2.2.1 hS hown (hts (.fieldLink RX2 19 "OverHill$Game" "POWERS" "[I") (by decide +kernel)) (fun _ h9 => h9) dX2_findWinning_43 ?_
        refine lv_iload hx hb dX2_findWinning_46 (lv_at hl 1 rfl) ?_
        refine va_ti hx hb hH.2.2.2.1 hS (tq_in (a := 1) (by decide) (by omega)) (v := _) rfl dX2_findWinning_48 ?_
        refine lv_topi (fun z211 ez211 => ?_)
        obtain rfl : z211 = 3 := ez211.trans (by decide)
        refine lv_iadd hx hb dX2_findWinning_49 ?_
        refine lv_topi (fun z212 ez212 => ?_)
        have fz212 : z212.toInt = a2.toInt + 3 := by rw [ez212]; exact tq_add rfl (by decide) (by omega)
        refine va_iald (D := D) hx hb hK hP 1 0 rfl rfl (tq_in rfl (by omega)) dX2_findWinning_50 ?_
        refine lv_topi (fun z213 ez213 => ?_)
        refine lv_aload_n hx hb dX2_findWinning_51 rfl (lv_at hl 4 rfl) ?_
        refine va_get (D := D) (ci := 0) (v := .ref qd_met) (C := RX0) (T := TX0) (N := 17) hx hb hts hi0 hown hK hP 2 rfl rfl 7 (by decide) (hts (.fieldLink RX2 22 "OverHill$Dance" "met" "[I") (by decide +kernel)) (fun _ h9 => h9) rfl dX2_findWinning_52 ?_
        refine lv_iload hx hb dX2_findWinning_55 (lv_at hl 1 rfl) ?_
        refine va_iald (D := D) hx hb hK hP 3 0 rfl rfl (tq_in (a := 1) (by decide) (by omega)) dX2_findWinning_57 ?_
        refine lv_topi (fun z214 ez214 => ?_)
        refine lv_iand hx hb dX2_findWinning_58 ?_
        refine lv_topi (fun z215 ez215 => ?_)
        refine lv_if_ne (tgt := 69) hx hb dX2_findWinning_59 (by decide) (fun hc => ?_) (fun hc => ?_)
        · have hq216 : z215.toInt ≠ 0 := tq_ne rfl (by decide) hc
          have hb217 := tq_lo z215
          refine lv_iinc (v := 2) (lv' := [(4, .int 2), (5, .int 1), (3, .int x189), (0, .ref qg), (1, .ref qd), (2, .int a2)]) hx hb dX2_findWinning_69 hl (k := 1) rfl (by decide) (by decide) rfl (fun ls hl => ?_)
          refine lv_goto (tgt := 5) hx hb dX2_findWinning_72 (by decide) ?_
          exact ih191 (x189, (2 : Int32)) _ _ _ (show (6 - (2 : Int32).toInt).toNat < (6 - x190.toInt).toNat by omega) ⟨(show 0 ≤ (2 : Int32).toInt ∧ (2 : Int32).toInt ≤ 6 by decide), hP, hD, hS, lv_sub hl [0, 2, 3, 4, 5] rfl⟩
        · have hq216 : z215.toInt = 0 := tq_eq rfl (by decide) hc
          have hb218 := tq_lo z215
          refine lv_iload_n hx hb dX2_findWinning_62 rfl (lv_at hl 2 rfl) ?_
          refine lv_iconst (v := 1) hx hb dX2_findWinning_63 (by decide) ?_
          refine lv_iload hx hb dX2_findWinning_64 (lv_at hl 1 rfl) ?_
          refine lv_ishl hx hb dX2_findWinning_66 ?_
          refine lv_topi (fun z219 ez219 => ?_)
          obtain rfl : z219 = 2 := ez219.trans (by decide)
          refine lv_ior hx hb dX2_findWinning_67 ?_
          refine lv_topi (fun z220 ez220 => ?_)
          refine lv_istore_n (lv' := [(3, .int z220), (5, .int 1), (4, .int 1), (0, .ref qg), (1, .ref qd), (2, .int a2)]) hx hb dX2_findWinning_68 rfl hl (by decide) rfl (fun ls hl => ?_)
          refine lv_iinc (v := 2) (lv' := [(4, .int 2), (3, .int z220), (5, .int 1), (0, .ref qg), (1, .ref qd), (2, .int a2)]) hx hb dX2_findWinning_69 hl (k := 2) rfl (by decide) (by decide) rfl (fun ls hl => ?_)
          refine lv_goto (tgt := 5) hx hb dX2_findWinning_72 (by decide) ?_
          exact ih191 (z220, (2 : Int32)) _ _ _ (show (6 - (2 : Int32).toInt).toNat < (6 - x190.toInt).toNat by omega) ⟨(show 0 ≤ (2 : Int32).toInt ∧ (2 : Int32).toInt ≤ 6 by decide), hP, hD, hS, lv_sub hl [0, 1, 3, 4, 5] rfl⟩
    · have hj2 : x190 = 2 := tq_of hj (by decide)
      have hl : lv_has ls 6 [(4, .int 2), (3, .int x189), (0, .ref qg), (1, .ref qd), (2, .int a2)] := by have h9 := hl; rw [hj2] at h9; exact h9
      refine lv_iload_n hx hb dX2_findWinning_12 rfl (lv_at hl 4 rfl) ?_
      refine va_gets hx hb hH.2.2.1 hS hown (hts (.fieldLink RX2 19 "OverHill$Game" "POWERS" "[I") (by decide +kernel)) (fun _ h9 => h9) dX2_findWinning_13 ?_
      refine lv_iload hx hb dX2_findWinning_16 (lv_at hl 0 rfl) ?_
      refine va_ti hx hb hH.2.2.2.1 hS (tq_in (a := 2) (by decide) (by omega)) (v := _) rfl dX2_findWinning_18 ?_
      refine lv_topi (fun z221 ez221 => ?_)
      obtain rfl : z221 = 9 := ez221.trans (by decide)
      refine lv_idiv hx hb dX2_findWinning_19 (by decide) ?_
      refine lv_topi (fun z222 ez222 => ?_)
      have fz222 : z222.toInt = a2.toInt / 9 := by rw [ez222]; exact tq_divc (c := 9) rfl (by decide) (by omega) (by omega)
      refine lv_iconst (v := 3) hx hb dX2_findWinning_20 (by decide) ?_
      refine lv_irem hx hb dX2_findWinning_21 (by decide) ?_
      refine lv_topi (fun z223 ez223 => ?_)
      have fz223 : z223.toInt = z222.toInt % 3 := by rw [ez223]; exact tq_remc (c := 3) rfl (by decide) (by omega) (by omega)
      refine lv_iconst (v := 2) hx hb dX2_findWinning_22 (by decide) ?_
      refine lv_icmp_ge (tgt := 30) hx hb dX2_findWinning_23 (by decide) (fun hc => ?_) (fun hc => ?_)
      · have hq224 : 2 ≤ z223.toInt := tq_le (by decide) rfl hc
        refine lv_iconst (v := 0) hx hb dX2_findWinning_30 (by decide) ?_
        refine lv_istore (lv' := [(5, .int 0), (4, .int 2), (3, .int x189), (0, .ref qg), (1, .ref qd), (2, .int a2)]) hx hb dX2_findWinning_31 hl (by decide) rfl (fun ls hl => ?_)
        refine lv_iload hx hb dX2_findWinning_33 (lv_at hl 0 rfl) ?_
        refine lv_if_eq (tgt := 69) hx hb dX2_findWinning_35 (by decide) (fun _ => ?_) (fun hc => absurd hc (by decide))
        refine lv_iinc (v := 3) (lv' := [(4, .int 3), (5, .int 0), (3, .int x189), (0, .ref qg), (1, .ref qd), (2, .int a2)]) hx hb dX2_findWinning_69 hl (k := 1) rfl (by decide) (by decide) rfl (fun ls hl => ?_)
        refine lv_goto (tgt := 5) hx hb dX2_findWinning_72 (by decide) ?_
        exact ih191 (x189, (3 : Int32)) _ _ _ (show (6 - (3 : Int32).toInt).toNat < (6 - x190.toInt).toNat by omega) ⟨(show 0 ≤ (3 : Int32).toInt ∧ (3 : Int32).toInt ≤ 6 by decide), hP, hD, hS, lv_sub hl [0, 2, 3, 4, 5] rfl⟩
      · have hq224 : z223.toInt < 2 := tq_nle (by decide) rfl hc
        refine lv_iconst (v := 1) hx hb dX2_findWinning_26 (by decide) ?_
        refine lv_goto (tgt := 31) hx hb dX2_findWinning_27 (by decide) ?_
        refine lv_istore (lv' := [(5, .int 1), (4, .int 2), (3, .int x189), (0, .ref qg), (1, .ref qd), (2, .int a2)]) hx hb dX2_findWinning_31 hl (by decide) rfl (fun ls hl => ?_)
        refine lv_iload hx hb dX2_findWinning_33 (lv_at hl 0 rfl) ?_
        refine lv_if_eq (tgt := 69) hx hb dX2_findWinning_35 (by decide) (fun hc => absurd hc (by decide)) (fun _ => ?_)
        refine lv_aload_n hx hb dX2_findWinning_38 rfl (lv_at hl 3 rfl) ?_
        refine va_get (D := D) (ci := 2) (v := .ref qg_winning) (C := RX2) (T := TX2) (N := 1) hx hb hts hi2 hown hK hP 0 rfl rfl 0 (by decide) (hts (.fieldLink RX2 11 "OverHill$Game" "winning" "[I") (by decide +kernel)) (fun _ h9 => h9) rfl dX2_findWinning_39 ?_
        refine lv_iload_n hx hb dX2_findWinning_42 rfl (lv_at hl 5 rfl) ?_
        refine va_gets hx hb hH.2.2.1 hS hown (hts (.fieldLink RX2 19 "OverHill$Game" "POWERS" "[I") (by decide +kernel)) (fun _ h9 => h9) dX2_findWinning_43 ?_
        refine lv_iload hx hb dX2_findWinning_46 (lv_at hl 1 rfl) ?_
        refine va_ti hx hb hH.2.2.2.1 hS (tq_in (a := 2) (by decide) (by omega)) (v := _) rfl dX2_findWinning_48 ?_
        refine lv_topi (fun z225 ez225 => ?_)
        obtain rfl : z225 = 9 := ez225.trans (by decide)
        refine lv_iadd hx hb dX2_findWinning_49 ?_
        refine lv_topi (fun z226 ez226 => ?_)
        have fz226 : z226.toInt = a2.toInt + 9 := by rw [ez226]; exact tq_add rfl (by decide) (by omega)
        refine va_iald (D := D) hx hb hK hP 1 0 rfl rfl (tq_in rfl (by omega)) dX2_findWinning_50 ?_
        refine lv_topi (fun z227 ez227 => ?_)
        refine lv_aload_n hx hb dX2_findWinning_51 rfl (lv_at hl 4 rfl) ?_
        refine va_get (D := D) (ci := 0) (v := .ref qd_met) (C := RX0) (T := TX0) (N := 17) hx hb hts hi0 hown hK hP 2 rfl rfl 7 (by decide) (hts (.fieldLink RX2 22 "OverHill$Dance" "met" "[I") (by decide +kernel)) (fun _ h9 => h9) rfl dX2_findWinning_52 ?_
        refine lv_iload hx hb dX2_findWinning_55 (lv_at hl 1 rfl) ?_
        refine va_iald (D := D) hx hb hK hP 3 0 rfl rfl (tq_in (a := 2) (by decide) (by omega)) dX2_findWinning_57 ?_
        refine lv_topi (fun z228 ez228 => ?_)
        refine lv_iand hx hb dX2_findWinning_58 ?_
        refine lv_topi (fun z229 ez229 => ?_)
        refine lv_if_ne (tgt := 69) hx hb dX2_findWinning_59 (by decide) (fun hc => ?_) (fun hc => ?_)
        · have hq230 : z229.toInt ≠ 0 := tq_ne rfl (by decide) hc
          have hb231 := tq_lo z229
          refine lv_iinc (v := 3) (lv' := [(4, .int 3), (5, .int 1), (3, .int x189), (0, .ref qg), (1, .ref qd), (2, .int a2)]) hx hb dX2_findWinning_69 hl (k := 1) rfl (by decide) (by decide) rfl (fun ls hl => ?_)
          refine lv_goto (tgt := 5) hx hb dX2_findWinning_72 (by decide) ?_
          exact ih191 (x189, (3 : Int32)) _ _ _ (show (6 - (3 : Int32).toInt).toNat < (6 - x190.toInt).toNat by omega) ⟨(show 0 ≤ (3 : Int32).toInt ∧ (3 : Int32).toInt ≤ 6 by decide), hP, hD, hS, lv_sub hl [0, 2, 3, 4, 5] rfl⟩
        · have hq230 : z229.toInt = 0 := tq_eq rfl (by decide) hc
          have hb232 := tq_lo z229
          refine lv_iload_n hx hb dX2_findWinning_62 rfl (lv_at hl 2 rfl) ?_
          refine lv_iconst (v := 1) hx hb dX2_findWinning_63 (by decide) ?_
          refine lv_iload hx hb dX2_findWinning_64 (lv_at hl 1 rfl) ?_
          refine lv_ishl hx hb dX2_findWinning_66 ?_
          refine lv_topi (fun z233 ez233 => ?_)
          obtain rfl : z233 = 4 := ez233.trans (by decide)
          refine lv_ior hx hb dX2_findWinning_67 ?_
          refine lv_topi (fun z234 ez234 => ?_)
          refine lv_istore_n (lv' := [(3, .int z234), (5, .int 1), (4, .int 2), (0, .ref qg), (1, .ref qd), (2, .int a2)]) hx hb dX2_findWinning_68 rfl hl (by decide) rfl (fun ls hl => ?_)
          refine lv_iinc (v := 3) (lv' := [(4, .int 3), (3, .int z234), (5, .int 1), (0, .ref qg), (1, .ref qd), (2, .int a2)]) hx hb dX2_findWinning_69 hl (k := 2) rfl (by decide) (by decide) rfl (fun ls hl => ?_)
          refine lv_goto (tgt := 5) hx hb dX2_findWinning_72 (by decide) ?_
          exact ih191 (z234, (3 : Int32)) _ _ _ (show (6 - (3 : Int32).toInt).toNat < (6 - x190.toInt).toNat by omega) ⟨(show 0 ≤ (3 : Int32).toInt ∧ (3 : Int32).toInt ≤ 6 by decide), hP, hD, hS, lv_sub hl [0, 1, 3, 4, 5] rfl⟩
    · have hj2 : x190 = 3 := tq_of hj (by decide)
      have hl : lv_has ls 6 [(4, .int 3), (3, .int x189), (0, .ref qg), (1, .ref qd), (2, .int a2)] := by have h9 := hl; rw [hj2] at h9; exact h9
      refine lv_iload_n hx hb dX2_findWinning_12 rfl (lv_at hl 4 rfl) ?_
      refine va_gets hx hb hH.2.2.1 hS hown (hts (.fieldLink RX2 19 "OverHill$Game" "POWERS" "[I") (by decide +kernel)) (fun _ h9 => h9) dX2_findWinning_13 ?_
      refine lv_iload hx hb dX2_findWinning_16 (lv_at hl 0 rfl) ?_
      refine va_ti hx hb hH.2.2.2.1 hS (tq_in (a := 3) (by decide) (by omega)) (v := _) rfl dX2_findWinning_18 ?_
      refine lv_topi (fun z235 ez235 => ?_)
      obtain rfl : z235 = 27 := ez235.trans (by decide)
      refine lv_idiv hx hb dX2_findWinning_19 (by decide) ?_
      refine lv_topi (fun z236 ez236 => ?_)
      have fz236 : z236.toInt = a2.toInt / 27 := by rw [ez236]; exact tq_divc (c := 27) rfl (by decide) (by omega) (by omega)
      refine lv_iconst (v := 3) hx hb dX2_findWinning_20 (by decide) ?_
      refine lv_irem hx hb dX2_findWinning_21 (by decide) ?_
      refine lv_topi (fun z237 ez237 => ?_)
      have fz237 : z237.toInt = z236.toInt % 3 := by rw [ez237]; exact tq_remc (c := 3) rfl (by decide) (by omega) (by omega)
      refine lv_iconst (v := 2) hx hb dX2_findWinning_22 (by decide) ?_
      refine lv_icmp_ge (tgt := 30) hx hb dX2_findWinning_23 (by decide) (fun hc => ?_) (fun hc => ?_)
      · have hq238 : 2 ≤ z237.toInt := tq_le (by decide) rfl hc
        refine lv_iconst (v := 0) hx hb dX2_findWinning_30 (by decide) ?_
        refine lv_istore (lv' := [(5, .int 0), (4, .int 3), (3, .int x189), (0, .ref qg), (1, .ref qd), (2, .int a2)]) hx hb dX2_findWinning_31 hl (by decide) rfl (fun ls hl => ?_)
        refine lv_iload hx hb dX2_findWinning_33 (lv_at hl 0 rfl) ?_
        refine lv_if_eq (tgt := 69) hx hb dX2_findWinning_35 (by decide) (fun _ => ?_) (fun hc => absurd hc (by decide))
        refine lv_iinc (v := 4) (lv' := [(4, .int 4), (5, .int 0), (3, .int x189), (0, .ref qg), (1, .ref qd), (2, .int a2)]) hx hb dX2_findWinning_69 hl (k := 1) rfl (by decide) (by decide) rfl (fun ls hl => ?_)
        refine lv_goto (tgt := 5) hx hb dX2_findWinning_72 (by decide) ?_
        exact ih191 (x189, (4 : Int32)) _ _ _ (show (6 - (4 : Int32).toInt).toNat < (6 - x190.toInt).toNat by omega) ⟨(show 0 ≤ (4 : Int32).toInt ∧ (4 : Int32).toInt ≤ 6 by decide), hP, hD, hS, lv_sub hl [0, 2, 3, 4, 5] rfl⟩
      · have hq238 : z237.toInt < 2 := tq_nle (by decide) rfl hc
        refine lv_iconst (v := 1) hx hb dX2_findWinning_26 (by decide) ?_
        refine lv_goto (tgt := 31) hx hb dX2_findWinning_27 (by decide) ?_
        refine lv_istore (lv' := [(5, .int 1), (4, .int 3), (3, .int x189), (0, .ref qg), (1, .ref qd), (2, .int a2)]) hx hb dX2_findWinning_31 hl (by decide) rfl (fun ls hl => ?_)
        refine lv_iload hx hb dX2_findWinning_33 (lv_at hl 0 rfl) ?_
        refine lv_if_eq (tgt := 69) hx hb dX2_findWinning_35 (by decide) (fun hc => absurd hc (by decide)) (fun _ => ?_)
        refine lv_aload_n hx hb dX2_findWinning_38 rfl (lv_at hl 3 rfl) ?_
        refine va_get (D := D) (ci := 2) (v := .ref qg_winning) (C := RX2) (T := TX2) (N := 1) hx hb hts hi2 hown hK hP 0 rfl rfl 0 (by decide) (hts (.fieldLink RX2 11 "OverHill$Game" "winning" "[I") (by decide +kernel)) (fun _ h9 => h9) rfl dX2_findWinning_39 ?_
        refine lv_iload_n hx hb dX2_findWinning_42 rfl (lv_at hl 5 rfl) ?_
        refine va_gets hx hb hH.2.2.1 hS hown (hts (.fieldLink RX2 19 "OverHill$Game" "POWERS" "[I") (by decide +kernel)) (fun _ h9 => h9) dX2_findWinning_43 ?_
        refine lv_iload hx hb dX2_findWinning_46 (lv_at hl 1 rfl) ?_
        refine va_ti hx hb hH.2.2.2.1 hS (tq_in (a := 3) (by decide) (by omega)) (v := _) rfl dX2_findWinning_48 ?_
        refine lv_topi (fun z239 ez239 => ?_)
        obtain rfl : z239 = 27 := ez239.trans (by decide)
        refine lv_iadd hx hb dX2_findWinning_49 ?_
        refine lv_topi (fun z240 ez240 => ?_)
        have fz240 : z240.toInt = a2.toInt + 27 := by rw [ez240]; exact tq_add rfl (by decide) (by omega)
        refine va_iald (D := D) hx hb hK hP 1 0 rfl rfl (tq_in rfl (by omega)) dX2_findWinning_50 ?_
        refine lv_topi (fun z241 ez241 => ?_)
        refine lv_aload_n hx hb dX2_findWinning_51 rfl (lv_at hl 4 rfl) ?_
        refine va_get (D := D) (ci := 0) (v := .ref qd_met) (C := RX0) (T := TX0) (N := 17) hx hb hts hi0 hown hK hP 2 rfl rfl 7 (by decide) (hts (.fieldLink RX2 22 "OverHill$Dance" "met" "[I") (by decide +kernel)) (fun _ h9 => h9) rfl dX2_findWinning_52 ?_
        refine lv_iload hx hb dX2_findWinning_55 (lv_at hl 1 rfl) ?_
        refine va_iald (D := D) hx hb hK hP 3 0 rfl rfl (tq_in (a := 3) (by decide) (by omega)) dX2_findWinning_57 ?_
        refine lv_topi (fun z242 ez242 => ?_)
        refine lv_iand hx hb dX2_findWinning_58 ?_
        refine lv_topi (fun z243 ez243 => ?_)
        refine lv_if_ne (tgt := 69) hx hb dX2_findWinning_59 (by decide) (fun hc => ?_) (fun hc => ?_)
        · have hq244 : z243.toInt ≠ 0 := tq_ne rfl (by decide) hc
          have hb245 := tq_lo z243
          refine lv_iinc (v := 4) (lv' := [(4, .int 4), (5, .int 1), (3, .int x189), (0, .ref qg), (1, .ref qd), (2, .int a2)]) hx hb dX2_findWinning_69 hl (k := 1) rfl (by decide) (by decide) rfl (fun ls hl => ?_)
          refine lv_goto (tgt := 5) hx hb dX2_findWinning_72 (by decide) ?_
          exact ih191 (x189, (4 : Int32)) _ _ _ (show (6 - (4 : Int32).toInt).toNat < (6 - x190.toInt).toNat by omega) ⟨(show 0 ≤ (4 : Int32).toInt ∧ (4 : Int32).toInt ≤ 6 by decide), hP, hD, hS, lv_sub hl [0, 2, 3, 4, 5] rfl⟩
        · have hq244 : z243.toInt = 0 := tq_eq rfl (by decide) hc
          have hb246 := tq_lo z243
          refine lv_iload_n hx hb dX2_findWinning_62 rfl (lv_at hl 2 rfl) ?_
          refine lv_iconst (v := 1) hx hb dX2_findWinning_63 (by decide) ?_
          refine lv_iload hx hb dX2_findWinning_64 (lv_at hl 1 rfl) ?_
          refine lv_ishl hx hb dX2_findWinning_66 ?_
          refine lv_topi (fun z247 ez247 => ?_)
          obtain rfl : z247 = 8 := ez247.trans (by decide)
          refine lv_ior hx hb dX2_findWinning_67 ?_
          refine lv_topi (fun z248 ez248 => ?_)
          refine lv_istore_n (lv' := [(3, .int z248), (5, .int 1), (4, .int 3), (0, .ref qg), (1, .ref qd), (2, .int a2)]) hx hb dX2_findWinning_68 rfl hl (by decide) rfl (fun ls hl => ?_)
          refine lv_iinc (v := 4) (lv' := [(4, .int 4), (3, .int z248), (5, .int 1), (0, .ref qg), (1, .ref qd), (2, .int a2)]) hx hb dX2_findWinning_69 hl (k := 2) rfl (by decide) (by decide) rfl (fun ls hl => ?_)
          refine lv_goto (tgt := 5) hx hb dX2_findWinning_72 (by decide) ?_
          exact ih191 (z248, (4 : Int32)) _ _ _ (show (6 - (4 : Int32).toInt).toNat < (6 - x190.toInt).toNat by omega) ⟨(show 0 ≤ (4 : Int32).toInt ∧ (4 : Int32).toInt ≤ 6 by decide), hP, hD, hS, lv_sub hl [0, 1, 3, 4, 5] rfl⟩
    · have hj2 : x190 = 4 := tq_of hj (by decide)
      have hl : lv_has ls 6 [(4, .int 4), (3, .int x189), (0, .ref qg), (1, .ref qd), (2, .int a2)] := by have h9 := hl; rw [hj2] at h9; exact h9
      refine lv_iload_n hx hb dX2_findWinning_12 rfl (lv_at hl 4 rfl) ?_
      refine va_gets hx hb hH.2.2.1 hS hown (hts (.fieldLink RX2 19 "OverHill$Game" "POWERS" "[I") (by decide +kernel)) (fun _ h9 => h9) dX2_findWinning_13 ?_
      refine lv_iload hx hb dX2_findWinning_16 (lv_at hl 0 rfl) ?_
      refine va_ti hx hb hH.2.2.2.1 hS (tq_in (a := 4) (by decide) (by omega)) (v := _) rfl dX2_findWinning_18 ?_
      refine lv_topi (fun z249 ez249 => ?_)
      obtain rfl : z249 = 81 := ez249.trans (by decide)
      refine lv_idiv hx hb dX2_findWinning_19 (by decide) ?_
      refine lv_topi (fun z250 ez250 => ?_)
      have fz250 : z250.toInt = a2.toInt / 81 := by rw [ez250]; exact tq_divc (c := 81) rfl (by decide) (by omega) (by omega)
      refine lv_iconst (v := 3) hx hb dX2_findWinning_20 (by decide) ?_
      refine lv_irem hx hb dX2_findWinning_21 (by decide) ?_
      refine lv_topi (fun z251 ez251 => ?_)
      have fz251 : z251.toInt = z250.toInt % 3 := by rw [ez251]; exact tq_remc (c := 3) rfl (by decide) (by omega) (by omega)
      refine lv_iconst (v := 2) hx hb dX2_findWinning_22 (by decide) ?_
      refine lv_icmp_ge (tgt := 30) hx hb dX2_findWinning_23 (by decide) (fun hc => ?_) (fun hc => ?_)
      · have hq252 : 2 ≤ z251.toInt := tq_le (by decide) rfl hc
        refine lv_iconst (v := 0) hx hb dX2_findWinning_30 (by decide) ?_
        refine lv_istore (lv' := [(5, .int 0), (4, .int 4), (3, .int x189), (0, .ref qg), (1, .ref qd), (2, .int a2)]) hx hb dX2_findWinning_31 hl (by decide) rfl (fun ls hl => ?_)
        refine lv_iload hx hb dX2_findWinning_33 (lv_at hl 0 rfl) ?_
        refine lv_if_eq (tgt := 69) hx hb dX2_findWinning_35 (by decide) (fun _ => ?_) (fun hc => absurd hc (by decide))
        refine lv_iinc (v := 5) (lv' := [(4, .int 5), (5, .int 0), (3, .int x189), (0, .ref qg), (1, .ref qd), (2, .int a2)]) hx hb dX2_findWinning_69 hl (k := 1) rfl (by decide) (by decide) rfl (fun ls hl => ?_)
        refine lv_goto (tgt := 5) hx hb dX2_findWinning_72 (by decide) ?_
        exact ih191 (x189, (5 : Int32)) _ _ _ (show (6 - (5 : Int32).toInt).toNat < (6 - x190.toInt).toNat by omega) ⟨(show 0 ≤ (5 : Int32).toInt ∧ (5 : Int32).toInt ≤ 6 by decide), hP, hD, hS, lv_sub hl [0, 2, 3, 4, 5] rfl⟩
      · have hq252 : z251.toInt < 2 := tq_nle (by decide) rfl hc
        refine lv_iconst (v := 1) hx hb dX2_findWinning_26 (by decide) ?_
        refine lv_goto (tgt := 31) hx hb dX2_findWinning_27 (by decide) ?_
        refine lv_istore (lv' := [(5, .int 1), (4, .int 4), (3, .int x189), (0, .ref qg), (1, .ref qd), (2, .int a2)]) hx hb dX2_findWinning_31 hl (by decide) rfl (fun ls hl => ?_)
        refine lv_iload hx hb dX2_findWinning_33 (lv_at hl 0 rfl) ?_
        refine lv_if_eq (tgt := 69) hx hb dX2_findWinning_35 (by decide) (fun hc => absurd hc (by decide)) (fun _ => ?_)
        refine lv_aload_n hx hb dX2_findWinning_38 rfl (lv_at hl 3 rfl) ?_
        refine va_get (D := D) (ci := 2) (v := .ref qg_winning) (C := RX2) (T := TX2) (N := 1) hx hb hts hi2 hown hK hP 0 rfl rfl 0 (by decide) (hts (.fieldLink RX2 11 "OverHill$Game" "winning" "[I") (by decide +kernel)) (fun _ h9 => h9) rfl dX2_findWinning_39 ?_
        refine lv_iload_n hx hb dX2_findWinning_42 rfl (lv_at hl 5 rfl) ?_
        refine va_gets hx hb hH.2.2.1 hS hown (hts (.fieldLink RX2 19 "OverHill$Game" "POWERS" "[I") (by decide +kernel)) (fun _ h9 => h9) dX2_findWinning_43 ?_
        refine lv_iload hx hb dX2_findWinning_46 (lv_at hl 1 rfl) ?_
        refine va_ti hx hb hH.2.2.2.1 hS (tq_in (a := 4) (by decide) (by omega)) (v := _) rfl dX2_findWinning_48 ?_
        refine lv_topi (fun z253 ez253 => ?_)
        obtain rfl : z253 = 81 := ez253.trans (by decide)
        refine lv_iadd hx hb dX2_findWinning_49 ?_
        refine lv_topi (fun z254 ez254 => ?_)
        have fz254 : z254.toInt = a2.toInt + 81 := by rw [ez254]; exact tq_add rfl (by decide) (by omega)
        refine va_iald (D := D) hx hb hK hP 1 0 rfl rfl (tq_in rfl (by omega)) dX2_findWinning_50 ?_
        refine lv_topi (fun z255 ez255 => ?_)
        refine lv_aload_n hx hb dX2_findWinning_51 rfl (lv_at hl 4 rfl) ?_
        refine va_get (D := D) (ci := 0) (v := .ref qd_met) (C := RX0) (T := TX0) (N := 17) hx hb hts hi0 hown hK hP 2 rfl rfl 7 (by decide) (hts (.fieldLink RX2 22 "OverHill$Dance" "met" "[I") (by decide +kernel)) (fun _ h9 => h9) rfl dX2_findWinning_52 ?_
        refine lv_iload hx hb dX2_findWinning_55 (lv_at hl 1 rfl) ?_
        refine va_iald (D := D) hx hb hK hP 3 0 rfl rfl (tq_in (a := 4) (by decide) (by omega)) dX2_findWinning_57 ?_
        refine lv_topi (fun z256 ez256 => ?_)
        refine lv_iand hx hb dX2_findWinning_58 ?_
        refine lv_topi (fun z257 ez257 => ?_)
        refine lv_if_ne (tgt := 69) hx hb dX2_findWinning_59 (by decide) (fun hc => ?_) (fun hc => ?_)
        · have hq258 : z257.toInt ≠ 0 := tq_ne rfl (by decide) hc
          have hb259 := tq_lo z257
          refine lv_iinc (v := 5) (lv' := [(4, .int 5), (5, .int 1), (3, .int x189), (0, .ref qg), (1, .ref qd), (2, .int a2)]) hx hb dX2_findWinning_69 hl (k := 1) rfl (by decide) (by decide) rfl (fun ls hl => ?_)
          refine lv_goto (tgt := 5) hx hb dX2_findWinning_72 (by decide) ?_
          exact ih191 (x189, (5 : Int32)) _ _ _ (show (6 - (5 : Int32).toInt).toNat < (6 - x190.toInt).toNat by omega) ⟨(show 0 ≤ (5 : Int32).toInt ∧ (5 : Int32).toInt ≤ 6 by decide), hP, hD, hS, lv_sub hl [0, 2, 3, 4, 5] rfl⟩
        · have hq258 : z257.toInt = 0 := tq_eq rfl (by decide) hc
          have hb260 := tq_lo z257
          refine lv_iload_n hx hb dX2_findWinning_62 rfl (lv_at hl 2 rfl) ?_
          refine lv_iconst (v := 1) hx hb dX2_findWinning_63 (by decide) ?_
          refine lv_iload hx hb dX2_findWinning_64 (lv_at hl 1 rfl) ?_
          refine lv_ishl hx hb dX2_findWinning_66 ?_
          refine lv_topi (fun z261 ez261 => ?_)
          obtain rfl : z261 = 16 := ez261.trans (by decide)
          refine lv_ior hx hb dX2_findWinning_67 ?_
          refine lv_topi (fun z262 ez262 => ?_)
          refine lv_istore_n (lv' := [(3, .int z262), (5, .int 1), (4, .int 4), (0, .ref qg), (1, .ref qd), (2, .int a2)]) hx hb dX2_findWinning_68 rfl hl (by decide) rfl (fun ls hl => ?_)
          refine lv_iinc (v := 5) (lv' := [(4, .int 5), (3, .int z262), (5, .int 1), (0, .ref qg), (1, .ref qd), (2, .int a2)]) hx hb dX2_findWinning_69 hl (k := 2) rfl (by decide) (by decide) rfl (fun ls hl => ?_)
          refine lv_goto (tgt := 5) hx hb dX2_findWinning_72 (by decide) ?_
          exact ih191 (z262, (5 : Int32)) _ _ _ (show (6 - (5 : Int32).toInt).toNat < (6 - x190.toInt).toNat by omega) ⟨(show 0 ≤ (5 : Int32).toInt ∧ (5 : Int32).toInt ≤ 6 by decide), hP, hD, hS, lv_sub hl [0, 1, 3, 4, 5] rfl⟩
    · have hj2 : x190 = 5 := tq_of hj (by decide)
      have hl : lv_has ls 6 [(4, .int 5), (3, .int x189), (0, .ref qg), (1, .ref qd), (2, .int a2)] := by have h9 := hl; rw [hj2] at h9; exact h9
      refine lv_iload_n hx hb dX2_findWinning_12 rfl (lv_at hl 4 rfl) ?_
      refine va_gets hx hb hH.2.2.1 hS hown (hts (.fieldLink RX2 19 "OverHill$Game" "POWERS" "[I") (by decide +kernel)) (fun _ h9 => h9) dX2_findWinning_13 ?_
      refine lv_iload hx hb dX2_findWinning_16 (lv_at hl 0 rfl) ?_
      refine va_ti hx hb hH.2.2.2.1 hS (tq_in (a := 5) (by decide) (by omega)) (v := _) rfl dX2_findWinning_18 ?_
      refine lv_topi (fun z263 ez263 => ?_)
      obtain rfl : z263 = 243 := ez263.trans (by decide)
      refine lv_idiv hx hb dX2_findWinning_19 (by decide) ?_
      refine lv_topi (fun z264 ez264 => ?_)
      have fz264 : z264.toInt = a2.toInt / 243 := by rw [ez264]; exact tq_divc (c := 243) rfl (by decide) (by omega) (by omega)
      refine lv_iconst (v := 3) hx hb dX2_findWinning_20 (by decide) ?_
      refine lv_irem hx hb dX2_findWinning_21 (by decide) ?_
      refine lv_topi (fun z265 ez265 => ?_)
      have fz265 : z265.toInt = z264.toInt % 3 := by rw [ez265]; exact tq_remc (c := 3) rfl (by decide) (by omega) (by omega)
      refine lv_iconst (v := 2) hx hb dX2_findWinning_22 (by decide) ?_
      refine lv_icmp_ge (tgt := 30) hx hb dX2_findWinning_23 (by decide) (fun hc => ?_) (fun hc => ?_)
      · have hq266 : 2 ≤ z265.toInt := tq_le (by decide) rfl hc
        refine lv_iconst (v := 0) hx hb dX2_findWinning_30 (by decide) ?_
        refine lv_istore (lv' := [(5, .int 0), (4, .int 5), (3, .int x189), (0, .ref qg), (1, .ref qd), (2, .int a2)]) hx hb dX2_findWinning_31 hl (by decide) rfl (fun ls hl => ?_)
        refine lv_iload hx hb dX2_findWinning_33 (lv_at hl 0 rfl) ?_
        refine lv_if_eq (tgt := 69) hx hb dX2_findWinning_35 (by decide) (fun _ => ?_) (fun hc => absurd hc (by decide))
        refine lv_iinc (v := 6) (lv' := [(4, .int 6), (5, .int 0), (3, .int x189), (0, .ref qg), (1, .ref qd), (2, .int a2)]) hx hb dX2_findWinning_69 hl (k := 1) rfl (by decide) (by decide) rfl (fun ls hl => ?_)
        refine lv_goto (tgt := 5) hx hb dX2_findWinning_72 (by decide) ?_
        exact ih191 (x189, (6 : Int32)) _ _ _ (show (6 - (6 : Int32).toInt).toNat < (6 - x190.toInt).toNat by omega) ⟨(show 0 ≤ (6 : Int32).toInt ∧ (6 : Int32).toInt ≤ 6 by decide), hP, hD, hS, lv_sub hl [0, 2, 3, 4, 5] rfl⟩
      · have hq266 : z265.toInt < 2 := tq_nle (by decide) rfl hc
        refine lv_iconst (v := 1) hx hb dX2_findWinning_26 (by decide) ?_
        refine lv_goto (tgt := 31) hx hb dX2_findWinning_27 (by decide) ?_
        refine lv_istore (lv' := [(5, .int 1), (4, .int 5), (3, .int x189), (0, .ref qg), (1, .ref qd), (2, .int a2)]) hx hb dX2_findWinning_31 hl (by decide) rfl (fun ls hl => ?_)
        refine lv_iload hx hb dX2_findWinning_33 (lv_at hl 0 rfl) ?_
        refine lv_if_eq (tgt := 69) hx hb dX2_findWinning_35 (by decide) (fun hc => absurd hc (by decide)) (fun _ => ?_)
        refine lv_aload_n hx hb dX2_findWinning_38 rfl (lv_at hl 3 rfl) ?_
        refine va_get (D := D) (ci := 2) (v := .ref qg_winning) (C := RX2) (T := TX2) (N := 1) hx hb hts hi2 hown hK hP 0 rfl rfl 0 (by decide) (hts (.fieldLink RX2 11 "OverHill$Game" "winning" "[I") (by decide +kernel)) (fun _ h9 => h9) rfl dX2_findWinning_39 ?_
        refine lv_iload_n hx hb dX2_findWinning_42 rfl (lv_at hl 5 rfl) ?_
        refine va_gets hx hb hH.2.2.1 hS hown (hts (.fieldLink RX2 19 "OverHill$Game" "POWERS" "[I") (by decide +kernel)) (fun _ h9 => h9) dX2_findWinning_43 ?_
        refine lv_iload hx hb dX2_findWinning_46 (lv_at hl 1 rfl) ?_
        refine va_ti hx hb hH.2.2.2.1 hS (tq_in (a := 5) (by decide) (by omega)) (v := _) rfl dX2_findWinning_48 ?_
        refine lv_topi (fun z267 ez267 => ?_)
        obtain rfl : z267 = 243 := ez267.trans (by decide)
        refine lv_iadd hx hb dX2_findWinning_49 ?_
        refine lv_topi (fun z268 ez268 => ?_)
        have fz268 : z268.toInt = a2.toInt + 243 := by rw [ez268]; exact tq_add rfl (by decide) (by omega)
        refine va_iald (D := D) hx hb hK hP 1 0 rfl rfl (tq_in rfl (by omega)) dX2_findWinning_50 ?_
        refine lv_topi (fun z269 ez269 => ?_)
        refine lv_aload_n hx hb dX2_findWinning_51 rfl (lv_at hl 4 rfl) ?_
        refine va_get (D := D) (ci := 0) (v := .ref qd_met) (C := RX0) (T := TX0) (N := 17) hx hb hts hi0 hown hK hP 2 rfl rfl 7 (by decide) (hts (.fieldLink RX2 22 "OverHill$Dance" "met" "[I") (by decide +kernel)) (fun _ h9 => h9) rfl dX2_findWinning_52 ?_
        refine lv_iload hx hb dX2_findWinning_55 (lv_at hl 1 rfl) ?_
        refine va_iald (D := D) hx hb hK hP 3 0 rfl rfl (tq_in (a := 5) (by decide) (by omega)) dX2_findWinning_57 ?_
        refine lv_topi (fun z270 ez270 => ?_)
        refine lv_iand hx hb dX2_findWinning_58 ?_
        refine lv_topi (fun z271 ez271 => ?_)
        refine lv_if_ne (tgt := 69) hx hb dX2_findWinning_59 (by decide) (fun hc => ?_) (fun hc => ?_)
        · have hq272 : z271.toInt ≠ 0 := tq_ne rfl (by decide) hc
          have hb273 := tq_lo z271
          refine lv_iinc (v := 6) (lv' := [(4, .int 6), (5, .int 1), (3, .int x189), (0, .ref qg), (1, .ref qd), (2, .int a2)]) hx hb dX2_findWinning_69 hl (k := 1) rfl (by decide) (by decide) rfl (fun ls hl => ?_)
          refine lv_goto (tgt := 5) hx hb dX2_findWinning_72 (by decide) ?_
          exact ih191 (x189, (6 : Int32)) _ _ _ (show (6 - (6 : Int32).toInt).toNat < (6 - x190.toInt).toNat by omega) ⟨(show 0 ≤ (6 : Int32).toInt ∧ (6 : Int32).toInt ≤ 6 by decide), hP, hD, hS, lv_sub hl [0, 2, 3, 4, 5] rfl⟩
        · have hq272 : z271.toInt = 0 := tq_eq rfl (by decide) hc
          have hb274 := tq_lo z271
          refine lv_iload_n hx hb dX2_findWinning_62 rfl (lv_at hl 2 rfl) ?_
          refine lv_iconst (v := 1) hx hb dX2_findWinning_63 (by decide) ?_
          refine lv_iload hx hb dX2_findWinning_64 (lv_at hl 1 rfl) ?_
          refine lv_ishl hx hb dX2_findWinning_66 ?_
          refine lv_topi (fun z275 ez275 => ?_)
          obtain rfl : z275 = 32 := ez275.trans (by decide)
          refine lv_ior hx hb dX2_findWinning_67 ?_
          refine lv_topi (fun z276 ez276 => ?_)
          refine lv_istore_n (lv' := [(3, .int z276), (5, .int 1), (4, .int 5), (0, .ref qg), (1, .ref qd), (2, .int a2)]) hx hb dX2_findWinning_68 rfl hl (by decide) rfl (fun ls hl => ?_)
          refine lv_iinc (v := 6) (lv' := [(4, .int 6), (3, .int z276), (5, .int 1), (0, .ref qg), (1, .ref qd), (2, .int a2)]) hx hb dX2_findWinning_69 hl (k := 2) rfl (by decide) (by decide) rfl (fun ls hl => ?_)
          refine lv_goto (tgt := 5) hx hb dX2_findWinning_72 (by decide) ?_
          exact ih191 (z276, (6 : Int32)) _ _ _ (show (6 - (6 : Int32).toInt).toNat < (6 - x190.toInt).toNat by omega) ⟨(show 0 ≤ (6 : Int32).toInt ∧ (6 : Int32).toInt ≤ 6 by decide), hP, hD, hS, lv_sub hl [0, 1, 3, 4, 5] rfl⟩
abbrev w_c_X2_winningStep (cI cJ cB cZ cO : ClassId) (qg : Nat) (qg_winning : Nat) (fg_winning : Nat → Int32) (qd : Nat) (vd_gap : Int32) (vd_odds : Int32) (vd_rain : Int32) (vd_lines : Int32) (qd_steps : Nat) (qd_lengths : Nat) (qd_starts : Nat) (qd_met : Nat) (fd_met : Nat → Int32) (qd_stumbles : Nat) (vd_stumbleCount : Int32) (qd_muds : Nat) (qd_cells : Nat) (vd_cellCount : Int32) (qd_tunes : Nat) (vd_tuneCount : Int32) (qd_changes : Nat) (vd_changeCount : Int32) : va_W := [(qg, .inr (2, [.ref qg_winning])), (qg_winning, .inl (cI, 729, .inl (fg_winning))), (qd, .inr (0, [.int vd_gap, .int vd_odds, .int vd_rain, .int vd_lines, .ref qd_steps, .ref qd_lengths, .ref qd_starts, .ref qd_met, .ref qd_stumbles, .int vd_stumbleCount, .ref qd_muds, .ref qd_cells, .int vd_cellCount, .ref qd_tunes, .int vd_tuneCount, .ref qd_changes, .int vd_changeCount])), (qd_met, .inl (cI, 6, .inl (fd_met)))]
set_option maxHeartbeats 4000000 in
set_option maxRecDepth 100000 in
/-- X2 winningStep -/
theorem c_X2_winningStep (l : Launch) (D : va_G) (G : ct_G) (cI cJ cB cZ cO : ClassId) (qg : Nat) (qg_winning : Nat) (fg_winning : Nat → Int32) (qd : Nat) (vd_gap : Int32) (vd_odds : Int32) (vd_rain : Int32) (vd_lines : Int32) (qd_steps : Nat) (qd_lengths : Nat) (qd_starts : Nat) (qd_met : Nat) (fd_met : Nat → Int32) (qd_stumbles : Nat) (vd_stumbleCount : Int32) (qd_muds : Nat) (qd_cells : Nat) (vd_cellCount : Int32) (qd_tunes : Nat) (vd_tuneCount : Int32) (qd_changes : Nat) (vd_changeCount : Int32) (a2 : Int32) (h_vd_gap : 0 ≤ vd_gap.toInt ∧ vd_gap.toInt ≤ 20) (h_vd_stumbleCount : 0 ≤ vd_stumbleCount.toInt ∧ vd_stumbleCount.toInt ≤ 8) (h_vd_cellCount : 0 ≤ vd_cellCount.toInt ∧ vd_cellCount.toInt ≤ 12) (h_vd_tuneCount : 0 ≤ vd_tuneCount.toInt ∧ vd_tuneCount.toInt ≤ 5) (h_vd_changeCount : 0 ≤ vd_changeCount.toInt ∧ vd_changeCount.toInt ≤ 40) (h_a2 : 0 ≤ a2.toInt ∧ a2.toInt ≤ 5) (sz : Nat) : Met l yX2_winningStep wsX2_winningStep ({ frames := 1, cells := 0, slots := 0, locals := 25 }) (va_Pc [.ref qg, .ref qd, .int a2] (ct_P D (ct_T cI cJ cB cZ cO) G (w_c_X2_winningStep cI cJ cB cZ cO qg qg_winning fg_winning qd vd_gap vd_odds vd_rain vd_lines qd_steps qd_lengths qd_starts qd_met fd_met qd_stumbles vd_stumbleCount qd_muds qd_cells vd_cellCount qd_tunes vd_tuneCount qd_changes vd_changeCount) sz)) (va_Qi (fun (rz : Int32) (u : (Nat → Int32)) => True) (fun (u : (Nat → Int32)) t => ct_Q D (va_A (w_c_X2_winningStep cI cJ cB cZ cO qg qg_winning fg_winning qd vd_gap vd_odds vd_rain vd_lines qd_steps qd_lengths qd_starts qd_met fd_met qd_stumbles vd_stumbleCount qd_muds qd_cells vd_cellCount qd_tunes vd_tuneCount qd_changes vd_changeCount) sz) [(qg, .inr (2, [.ref qg_winning])), (qg_winning, .inl (cI, 729, .inl (u))), (qd, .inr (0, [.int vd_gap, .int vd_odds, .int vd_rain, .int vd_lines, .ref qd_steps, .ref qd_lengths, .ref qd_starts, .ref qd_met, .ref qd_stumbles, .int vd_stumbleCount, .ref qd_muds, .ref qd_cells, .int vd_cellCount, .ref qd_tunes, .int vd_tuneCount, .ref qd_changes, .int vd_changeCount])), (qd_met, .inl (cI, 6, .inl (fd_met)))] t) (va_A (w_c_X2_winningStep cI cJ cB cZ cO qg qg_winning fg_winning qd vd_gap vd_odds vd_rain vd_lines qd_steps qd_lengths qd_starts qd_met fd_met qd_stumbles vd_stumbleCount qd_muds qd_cells vd_cellCount qd_tunes vd_tuneCount qd_changes vd_changeCount) sz)) 0 0 (va_A (w_c_X2_winningStep cI cJ cB cZ cO qg qg_winning fg_winning qd vd_gap vd_odds vd_rain vd_lines qd_steps qd_lengths qd_starts qd_met fd_met qd_stumbles vd_stumbleCount qd_muds qd_cells vd_cellCount qd_tunes vd_tuneCount qd_changes vd_changeCount) sz) := by
  refine Met.ofW (cc := cX2_winningStep) (maxL := 4) (ret := (some .int)) (by decide) rfl ?_
  intro p e s m args below meth c s₁ B hml hv
  obtain ⟨rfl, hsz, hP, hE, hD0, hH⟩ := hv
  have hx := B.exec
  have hb := B.bytes
  have hr := B.returns
  have hts := atoms_spec (ws := wsX2_winningStep) B.pre
  have hown : s.vm.findClass RX2 = some m.cls := findClass_of_methodNamed B.named
  have hlocks := B.notSynchronized
  have hK := hE.1
  have hi0 : ∀ w ∈ u_ws RX0 TX0 17, w ∈ wsX2_winningStep := fun w h => List.mem_cons_of_mem _ (List.mem_append_right _ h)
  have hi2 : ∀ w ∈ u_ws RX2 TX2 1, w ∈ wsX2_winningStep := fun w h => List.mem_cons_of_mem _ (List.mem_append_left _ (List.mem_append_right _ h))
  subst hsz
  have hD := hD0.self (sz := s.heap.size)
  generalize hAe : va_A (w_c_X2_winningStep cI cJ cB cZ cO qg qg_winning fg_winning qd vd_gap vd_odds vd_rain vd_lines qd_steps qd_lengths qd_starts qd_met fd_met qd_stumbles vd_stumbleCount qd_muds qd_cells vd_cellCount qd_tunes vd_tuneCount qd_changes vd_changeCount) s.heap.size = A at hD hH ⊢
  have hA : ∀ q : Nat, s.heap.size ≤ q → A q := fun q h => by rw [← hAe]; exact Or.inr h
  have hS : va_S A s.heap s.heap [] := va_S.rf
  have hP : va_P D vwCl [(qg, .inr (2, [.ref qg_winning])), (qg_winning, .inl (cI, 729, .inl (fg_winning))), (qd, .inr (0, [.int vd_gap, .int vd_odds, .int vd_rain, .int vd_lines, .ref qd_steps, .ref qd_lengths, .ref qd_starts, .ref qd_met, .ref qd_stumbles, .int vd_stumbleCount, .ref qd_muds, .ref qd_cells, .int vd_cellCount, .ref qd_tunes, .int vd_tuneCount, .ref qd_changes, .int vd_changeCount])), (qd_met, .inl (cI, 6, .inl (fd_met)))] s.heap := hP
  have hD : va_D A [(qg, .inr (2, [.ref qg_winning])), (qg_winning, .inl (cI, 729, .inl (fg_winning))), (qd, .inr (0, [.int vd_gap, .int vd_odds, .int vd_rain, .int vd_lines, .ref qd_steps, .ref qd_lengths, .ref qd_starts, .ref qd_met, .ref qd_stumbles, .int vd_stumbleCount, .ref qd_muds, .ref qd_cells, .int vd_cellCount, .ref qd_tunes, .int vd_tuneCount, .ref qd_changes, .int vd_changeCount])), (qd_met, .inl (cI, 6, .inl (fd_met)))] := hD
  have hl := lv_entry ([.ref qg, .ref qd, .int a2]) (n := 4) (Nat.le_of_ble_eq_true rfl)
  rw [lg_entry_eq]
  generalize (lg_sl ([.ref qg, .ref qd, .int a2]) ++ List.replicate (4 - (lg_sl ([.ref qg, .ref qd, .int a2])).length) Slot.unset).toArray = ls at hl ⊢
  have hl : lv_has ls 4 [(0, .ref qg), (1, .ref qd), (2, .int a2)] := hl
  obtain ⟨H, hHe⟩ : ∃ H : Heap, H = s.heap := ⟨_, rfl⟩
  rw [← hHe] at hP
  have hS : va_S A s.heap H [] := by rw [hHe]; exact va_S.rf
  refine ct_start hHe ?_
  refine lv_sipush (v := 728) hx hb dX2_winningStep_0 (by decide) ?_
  refine lv_istore_n (lv' := [(3, .int 728), (0, .ref qg), (1, .ref qd), (2, .int a2)]) hx hb dX2_winningStep_3 rfl hl (by decide) rfl (fun ls hl => ?_)
  refine ct_loop (X := (Nat → Int32) × Int32) (fun x => (x.2.toInt + 2).toNat) (fun x H locs ls => (((-1) ≤ x.2.toInt ∧ x.2.toInt ≤ 728)) ∧ va_P D vwCl [(qg, .inr (2, [.ref qg_winning])), (qg_winning, .inl (cI, 729, .inl (x.1))), (qd, .inr (0, [.int vd_gap, .int vd_odds, .int vd_rain, .int vd_lines, .ref qd_steps, .ref qd_lengths, .ref qd_starts, .ref qd_met, .ref qd_stumbles, .int vd_stumbleCount, .ref qd_muds, .ref qd_cells, .int vd_cellCount, .ref qd_tunes, .int vd_tuneCount, .ref qd_changes, .int vd_changeCount])), (qd_met, .inl (cI, 6, .inl (fd_met)))] H ∧ va_D A [(qg, .inr (2, [.ref qg_winning])), (qg_winning, .inl (cI, 729, .inl (x.1))), (qd, .inr (0, [.int vd_gap, .int vd_odds, .int vd_rain, .int vd_lines, .ref qd_steps, .ref qd_lengths, .ref qd_starts, .ref qd_met, .ref qd_stumbles, .int vd_stumbleCount, .ref qd_muds, .ref qd_cells, .int vd_cellCount, .ref qd_tunes, .int vd_tuneCount, .ref qd_changes, .int vd_changeCount])), (qd_met, .inl (cI, 6, .inl (fd_met)))] ∧ va_S A s.heap H locs ∧ lv_has ls 4 [(3, .int x.2), (0, .ref qg), (1, .ref qd), (2, .int a2)]) 4 (fg_winning, (728 : Int32)) ⟨(show (-1) ≤ (728 : Int32).toInt ∧ (728 : Int32).toInt ≤ 728 by decide), hP, hD, hS, lv_sub hl [0, 1, 2, 3] rfl⟩ (fun x ih103 H locs ls hI => ?_)
  obtain ⟨g101, x102⟩ := x
  obtain ⟨h_x102, hP, hD, hS, hl⟩ := hI
  have h_x102 : ((-1) ≤ x102.toInt ∧ x102.toInt ≤ 728) := h_x102
  have hP : va_P D vwCl [(qg, .inr (2, [.ref qg_winning])), (qg_winning, .inl (cI, 729, .inl (g101))), (qd, .inr (0, [.int vd_gap, .int vd_odds, .int vd_rain, .int vd_lines, .ref qd_steps, .ref qd_lengths, .ref qd_starts, .ref qd_met, .ref qd_stumbles, .int vd_stumbleCount, .ref qd_muds, .ref qd_cells, .int vd_cellCount, .ref qd_tunes, .int vd_tuneCount, .ref qd_changes, .int vd_changeCount])), (qd_met, .inl (cI, 6, .inl (fd_met)))] H := hP
  have hD : va_D A [(qg, .inr (2, [.ref qg_winning])), (qg_winning, .inl (cI, 729, .inl (g101))), (qd, .inr (0, [.int vd_gap, .int vd_odds, .int vd_rain, .int vd_lines, .ref qd_steps, .ref qd_lengths, .ref qd_starts, .ref qd_met, .ref qd_stumbles, .int vd_stumbleCount, .ref qd_muds, .ref qd_cells, .int vd_cellCount, .ref qd_tunes, .int vd_tuneCount, .ref qd_changes, .int vd_changeCount])), (qd_met, .inl (cI, 6, .inl (fd_met)))] := hD
  have hl : lv_has ls 4 [(3, .int x102), (0, .ref qg), (1, .ref qd), (2, .int a2)] := hl
  refine lv_iload_n hx hb dX2_winningStep_4 rfl (lv_at hl 0 rfl) ?_
  refine lv_if_lt (tgt := 26) hx hb dX2_winningStep_5 (by decide) (fun hc => ?_) (fun hc => ?_)
  · have hq104 : x102.toInt < 0 := tq_lt rfl (by decide) hc
    refine lv_aload_n hx hb dX2_winningStep_26 rfl (lv_at hl 1 rfl) ?_
    refine va_get (D := D) (ci := 2) (v := .ref qg_winning) (C := RX2) (T := TX2) (N := 1) hx hb hts hi2 hown hK hP 0 rfl rfl 0 (by decide) (hts (.fieldLink RX2 11 "OverHill$Game" "winning" "[I") (by decide +kernel)) (fun _ h9 => h9) rfl dX2_winningStep_27 ?_
    refine va_gets hx hb hH.2.2.1 hS hown (hts (.fieldLink RX2 19 "OverHill$Game" "POWERS" "[I") (by decide +kernel)) (fun _ h9 => h9) dX2_winningStep_30 ?_
    refine lv_iload_n hx hb dX2_winningStep_33 rfl (lv_at hl 3 rfl) ?_
    refine va_ti hx hb hH.2.2.2.1 hS (tq_in rfl (by omega)) (v := _) rfl dX2_winningStep_34 ?_
    refine lv_topi (fun z105 ez105 => ?_)
    have fz105 : 1 ≤ z105.toInt ∧ z105.toInt ≤ 243 := by rw [ez105]; exact ct_pw_ok a2 (by omega) (by omega)
    refine va_iald (D := D) hx hb hK hP 1 0 rfl rfl (tq_in rfl (by omega)) dX2_winningStep_35 ?_
    refine lv_topi (fun z106 ez106 => ?_)
    refine lv_aload_n hx hb dX2_winningStep_36 rfl (lv_at hl 2 rfl) ?_
    refine va_get (D := D) (ci := 0) (v := .ref qd_met) (C := RX0) (T := TX0) (N := 17) hx hb hts hi0 hown hK hP 2 rfl rfl 7 (by decide) (hts (.fieldLink RX2 22 "OverHill$Dance" "met" "[I") (by decide +kernel)) (fun _ h9 => h9) rfl dX2_winningStep_37 ?_
    refine lv_iload_n hx hb dX2_winningStep_40 rfl (lv_at hl 3 rfl) ?_
    refine va_iald (D := D) hx hb hK hP 3 0 rfl rfl (tq_in rfl (by omega)) dX2_winningStep_41 ?_
    refine lv_topi (fun z107 ez107 => ?_)
    refine lv_iand hx hb dX2_winningStep_42 ?_
    refine lv_topi (fun z108 ez108 => ?_)
    refine lv_istore_n (lv' := [(3, .int z108), (0, .ref qg), (1, .ref qd), (2, .int a2)]) hx hb dX2_winningStep_43 rfl hl (by decide) rfl (fun ls hl => ?_)
    refine lv_iload_n hx hb dX2_winningStep_44 rfl (lv_at hl 0 rfl) ?_
    refine lv_if_ne (tgt := 52) hx hb dX2_winningStep_45 (by decide) (fun hc => ?_) (fun hc => ?_)
    · have hq109 : z108.toInt ≠ 0 := tq_ne rfl (by decide) hc
      have hb110 := tq_lo z108
      refine lv_iload_n hx hb dX2_winningStep_52 rfl (lv_at hl 0 rfl) ?_
      refine ct_calli (D := D) (wc := (w_c_J6_numberOfTrailingZeros_0f7a4 cI cJ cB cZ cO )) (wr := [(qg, .inr (2, [.ref qg_winning])), (qg_winning, .inl (cI, 729, .inl (g101))), (qd, .inr (0, [.int vd_gap, .int vd_odds, .int vd_rain, .int vd_lines, .ref qd_steps, .ref qd_lengths, .ref qd_starts, .ref qd_met, .ref qd_stumbles, .int vd_stumbleCount, .ref qd_muds, .ref qd_cells, .int vd_cellCount, .ref qd_tunes, .int vd_tuneCount, .ref qd_changes, .int vd_changeCount])), (qd_met, .inl (cI, 6, .inl (fd_met)))]) (va_runS (As := [.int z108]) (rest := []) ⟨hx, hb, hml, hown, hts⟩ (c_J6_numberOfTrailingZeros_0f7a4 l D G cI cJ cB cZ cO z108  H.size) (va_cwS 1 hts gX2_winningStep_J6_numberOfTrailingZeros_0f7a4 rfl rfl rfl (by decide +kernel) ⟨Nat.le_of_ble_eq_true rfl, Nat.le_of_ble_eq_true rfl⟩) (ct_preS (T := ct_T cI cJ cB cZ cO) hE hH hP hD hS hA [] (by decide) rfl) rfl rfl hl.1 rfl (lv_room (Nat.le_of_ble_eq_true rfl)) dX2_winningStep_53 ⟨Nat.le_of_ble_eq_true rfl, Nat.le_of_ble_eq_true rfl⟩) hP hD hS hA [] [0, 1, 2, 3] rfl rfl (by decide) (by decide) (fun r111 u H locs hw hP hD hS => ?_)
      have hP : va_P D vwCl [(qg, .inr (2, [.ref qg_winning])), (qg_winning, .inl (cI, 729, .inl (g101))), (qd, .inr (0, [.int vd_gap, .int vd_odds, .int vd_rain, .int vd_lines, .ref qd_steps, .ref qd_lengths, .ref qd_starts, .ref qd_met, .ref qd_stumbles, .int vd_stumbleCount, .ref qd_muds, .ref qd_cells, .int vd_cellCount, .ref qd_tunes, .int vd_tuneCount, .ref qd_changes, .int vd_changeCount])), (qd_met, .inl (cI, 6, .inl (fd_met)))] H := hP
      have hD : va_D A [(qg, .inr (2, [.ref qg_winning])), (qg_winning, .inl (cI, 729, .inl (g101))), (qd, .inr (0, [.int vd_gap, .int vd_odds, .int vd_rain, .int vd_lines, .ref qd_steps, .ref qd_lengths, .ref qd_starts, .ref qd_met, .ref qd_stumbles, .int vd_stumbleCount, .ref qd_muds, .ref qd_cells, .int vd_cellCount, .ref qd_tunes, .int vd_tuneCount, .ref qd_changes, .int vd_changeCount])), (qd_met, .inl (cI, 6, .inl (fd_met)))] := hD
      have hP9 := hP.sub (ws' := [(qg, .inr (2, [.ref qg_winning])), (qg_winning, .inl (cI, 729, .inl (g101))), (qd, .inr (0, [.int vd_gap, .int vd_odds, .int vd_rain, .int vd_lines, .ref qd_steps, .ref qd_lengths, .ref qd_starts, .ref qd_met, .ref qd_stumbles, .int vd_stumbleCount, .ref qd_muds, .ref qd_cells, .int vd_cellCount, .ref qd_tunes, .int vd_tuneCount, .ref qd_changes, .int vd_changeCount])), (qd_met, .inl (cI, 6, .inl (fd_met)))]) [0, 1, 2, 3] rfl
      have hD9 := hD.sub (ws' := [(qg, .inr (2, [.ref qg_winning])), (qg_winning, .inl (cI, 729, .inl (g101))), (qd, .inr (0, [.int vd_gap, .int vd_odds, .int vd_rain, .int vd_lines, .ref qd_steps, .ref qd_lengths, .ref qd_starts, .ref qd_met, .ref qd_stumbles, .int vd_stumbleCount, .ref qd_muds, .ref qd_cells, .int vd_cellCount, .ref qd_tunes, .int vd_tuneCount, .ref qd_changes, .int vd_changeCount])), (qd_met, .inl (cI, 6, .inl (fd_met)))]) [0, 1, 2, 3] (by decide) rfl
      exact W.iret (v := r111) hx hb hr (fun t ht hW => ⟨⟨r111, g101, rfl, trivial, by rw [ht]; exact hP9, hD9⟩, hS.F ht⟩) hS.2.2 dX2_winningStep_56
    · have hq109 : z108.toInt = 0 := tq_eq rfl (by decide) hc
      have hb112 := tq_lo z108
      refine lv_iconst (v := (-1)) hx hb dX2_winningStep_48 (by decide) ?_
      refine lv_goto (tgt := 56) hx hb dX2_winningStep_49 (by decide) ?_
      have hP9 := hP.sub (ws' := [(qg, .inr (2, [.ref qg_winning])), (qg_winning, .inl (cI, 729, .inl (g101))), (qd, .inr (0, [.int vd_gap, .int vd_odds, .int vd_rain, .int vd_lines, .ref qd_steps, .ref qd_lengths, .ref qd_starts, .ref qd_met, .ref qd_stumbles, .int vd_stumbleCount, .ref qd_muds, .ref qd_cells, .int vd_cellCount, .ref qd_tunes, .int vd_tuneCount, .ref qd_changes, .int vd_changeCount])), (qd_met, .inl (cI, 6, .inl (fd_met)))]) [0, 1, 2, 3] rfl
      have hD9 := hD.sub (ws' := [(qg, .inr (2, [.ref qg_winning])), (qg_winning, .inl (cI, 729, .inl (g101))), (qd, .inr (0, [.int vd_gap, .int vd_odds, .int vd_rain, .int vd_lines, .ref qd_steps, .ref qd_lengths, .ref qd_starts, .ref qd_met, .ref qd_stumbles, .int vd_stumbleCount, .ref qd_muds, .ref qd_cells, .int vd_cellCount, .ref qd_tunes, .int vd_tuneCount, .ref qd_changes, .int vd_changeCount])), (qd_met, .inl (cI, 6, .inl (fd_met)))]) [0, 1, 2, 3] (by decide) rfl
      exact W.iret (v := (-1)) hx hb hr (fun t ht hW => ⟨⟨(-1), g101, rfl, trivial, by rw [ht]; exact hP9, hD9⟩, hS.F ht⟩) hS.2.2 dX2_winningStep_56
  · have hq104 : 0 ≤ x102.toInt := tq_nlt rfl (by decide) hc
    refine lv_aload_n hx hb dX2_winningStep_8 rfl (lv_at hl 1 rfl) ?_
    refine va_get (D := D) (ci := 2) (v := .ref qg_winning) (C := RX2) (T := TX2) (N := 1) hx hb hts hi2 hown hK hP 0 rfl rfl 0 (by decide) (hts (.fieldLink RX2 11 "OverHill$Game" "winning" "[I") (by decide +kernel)) (fun _ h9 => h9) rfl dX2_winningStep_9 ?_
    refine lv_iload_n hx hb dX2_winningStep_12 rfl (lv_at hl 0 rfl) ?_
    refine lv_aload_n hx hb dX2_winningStep_13 rfl (lv_at hl 1 rfl) ?_
    refine lv_aload_n hx hb dX2_winningStep_14 rfl (lv_at hl 2 rfl) ?_
    refine lv_iload_n hx hb dX2_winningStep_15 rfl (lv_at hl 0 rfl) ?_
    refine ct_calli (D := D) (wc := (w_c_X2_findWinning cI cJ cB cZ cO qg qg_winning g101 qd vd_gap vd_odds vd_rain vd_lines qd_steps qd_lengths qd_starts qd_met fd_met qd_stumbles vd_stumbleCount qd_muds qd_cells vd_cellCount qd_tunes vd_tuneCount qd_changes vd_changeCount)) (wr := []) (va_runV (As := [.ref qd, .int x102]) (rest := [.int x102, .ref qg_winning]) ⟨hx, hb, hml, hown, hts⟩ (c_X2_findWinning l D G cI cJ cB cZ cO qg qg_winning g101 qd vd_gap vd_odds vd_rain vd_lines qd_steps qd_lengths qd_starts qd_met fd_met qd_stumbles vd_stumbleCount qd_muds qd_cells vd_cellCount qd_tunes vd_tuneCount qd_changes vd_changeCount x102 (by omega) (by omega) (by omega) (by omega) (by omega) (by omega) H.size) (cwV 2 hts gX2_winningStep_X2_findWinning rfl rfl rfl (by decide +kernel) ⟨Nat.le_of_ble_eq_true rfl, Nat.le_of_ble_eq_true rfl⟩) (ct_preV (T := ct_T cI cJ cB cZ cO) (ci := 2) (q0 := 0) hE hH hP hD hS hA [0, 1, 2, 3] (by decide) rfl rfl rfl) rfl rfl hl.1 rfl (lv_room (Nat.le_of_ble_eq_true rfl)) dX2_winningStep_16 ⟨Nat.le_of_ble_eq_true rfl, Nat.le_of_ble_eq_true rfl⟩) hP hD hS hA [0, 1, 2, 3] [] rfl rfl (by decide) (by decide) (fun r113 u H locs hw hP hD hS => ?_)
    have hP : va_P D vwCl [(qg, .inr (2, [.ref qg_winning])), (qg_winning, .inl (cI, 729, .inl (g101))), (qd, .inr (0, [.int vd_gap, .int vd_odds, .int vd_rain, .int vd_lines, .ref qd_steps, .ref qd_lengths, .ref qd_starts, .ref qd_met, .ref qd_stumbles, .int vd_stumbleCount, .ref qd_muds, .ref qd_cells, .int vd_cellCount, .ref qd_tunes, .int vd_tuneCount, .ref qd_changes, .int vd_changeCount])), (qd_met, .inl (cI, 6, .inl (fd_met)))] H := hP
    have hD : va_D A [(qg, .inr (2, [.ref qg_winning])), (qg_winning, .inl (cI, 729, .inl (g101))), (qd, .inr (0, [.int vd_gap, .int vd_odds, .int vd_rain, .int vd_lines, .ref qd_steps, .ref qd_lengths, .ref qd_starts, .ref qd_met, .ref qd_stumbles, .int vd_stumbleCount, .ref qd_muds, .ref qd_cells, .int vd_cellCount, .ref qd_tunes, .int vd_tuneCount, .ref qd_changes, .int vd_changeCount])), (qd_met, .inl (cI, 6, .inl (fd_met)))] := hD
    refine va_iast (D := D) hx hb hK hP hD hS 1 0 rfl rfl (tq_in rfl (by omega)) dX2_winningStep_19 (fun H locs hP hD hS => ?_)
    obtain ⟨g114, hP, hD⟩ : ∃ g114 : Nat → Int32, va_P D vwCl [(qg, .inr (2, [.ref qg_winning])), (qg_winning, .inl (cI, 729, .inl (g114))), (qd, .inr (0, [.int vd_gap, .int vd_odds, .int vd_rain, .int vd_lines, .ref qd_steps, .ref qd_lengths, .ref qd_starts, .ref qd_met, .ref qd_stumbles, .int vd_stumbleCount, .ref qd_muds, .ref qd_cells, .int vd_cellCount, .ref qd_tunes, .int vd_tuneCount, .ref qd_changes, .int vd_changeCount])), (qd_met, .inl (cI, 6, .inl (fd_met)))] H ∧ va_D A [(qg, .inr (2, [.ref qg_winning])), (qg_winning, .inl (cI, 729, .inl (g114))), (qd, .inr (0, [.int vd_gap, .int vd_odds, .int vd_rain, .int vd_lines, .ref qd_steps, .ref qd_lengths, .ref qd_starts, .ref qd_met, .ref qd_stumbles, .int vd_stumbleCount, .ref qd_muds, .ref qd_cells, .int vd_cellCount, .ref qd_tunes, .int vd_tuneCount, .ref qd_changes, .int vd_changeCount])), (qd_met, .inl (cI, 6, .inl (fd_met)))] := ⟨_, hP, hD⟩
    obtain ⟨z115, ez115⟩ : ∃ z : Int32, z = x102 + (-1) := ⟨_, rfl⟩
    have fz115 : z115.toInt = x102.toInt + (-1) := by rw [ez115]; exact tq_add rfl (by decide) (by omega)
    refine lv_iinc (v := z115) (lv' := [(3, .int z115), (0, .ref qg), (1, .ref qd), (2, .int a2)]) hx hb dX2_winningStep_20 hl (k := 0) rfl ez115.symm (by decide) rfl (fun ls hl => ?_)
    refine lv_goto (tgt := 4) hx hb dX2_winningStep_23 (by decide) ?_
    exact ih103 (g114, z115) _ _ _ (show (z115.toInt + 2).toNat < (x102.toInt + 2).toNat by omega) ⟨(show (-1) ≤ z115.toInt ∧ z115.toInt ≤ 728 by omega), hP, hD, hS, lv_sub hl [0, 1, 2, 3] rfl⟩
