abbrev w_c_X0_stands (cI cJ cB cZ cO : ClassId) (qd : Nat) (vd_gap : Int32) (vd_odds : Int32) (vd_rain : Int32) (vd_lines : Int32) (qd_steps : Nat) (qd_lengths : Nat) (qd_starts : Nat) (qd_met : Nat) (qd_stumbles : Nat) (vd_stumbleCount : Int32) (qd_muds : Nat) (qd_cells : Nat) (vd_cellCount : Int32) (qd_tunes : Nat) (vd_tuneCount : Int32) (qd_changes : Nat) (vd_changeCount : Int32) : va_W := [dn qd vd_gap vd_odds vd_rain vd_lines qd_steps qd_lengths qd_starts qd_met qd_stumbles vd_stumbleCount qd_muds qd_cells vd_cellCount qd_tunes vd_tuneCount qd_changes vd_changeCount]
set_option maxHeartbeats 4000000 in
set_option maxRecDepth 100000 in
/-- X0 stands -/
theorem c_X0_stands (l : Launch) (D : va_G) (G : ct_G) (cI cJ cB cZ cO : ClassId) (qd : Nat) (vd_gap : Int32) (vd_odds : Int32) (vd_rain : Int32) (vd_lines : Int32) (qd_steps : Nat) (qd_lengths : Nat) (qd_starts : Nat) (qd_met : Nat) (qd_stumbles : Nat) (vd_stumbleCount : Int32) (qd_muds : Nat) (qd_cells : Nat) (vd_cellCount : Int32) (qd_tunes : Nat) (vd_tuneCount : Int32) (qd_changes : Nat) (vd_changeCount : Int32) (h_vd_gap : 0 ≤ vd_gap.toInt ∧ vd_gap.toInt ≤ 20) (h_vd_stumbleCount : 0 ≤ vd_stumbleCount.toInt ∧ vd_stumbleCount.toInt ≤ 8) (h_vd_cellCount : 0 ≤ vd_cellCount.toInt ∧ vd_cellCount.toInt ≤ 12) (h_vd_tuneCount : 0 ≤ vd_tuneCount.toInt ∧ vd_tuneCount.toInt ≤ 5) (h_vd_changeCount : 0 ≤ vd_changeCount.toInt ∧ vd_changeCount.toInt ≤ 40) (sz : Nat) : Met l yX0_stands wsX0_stands ({ frames := 0, cells := 0, slots := 0, locals := 0 }) (va_Pc [.ref qd] (ct_P D (ct_T cI cJ cB cZ cO) G (w_c_X0_stands cI cJ cB cZ cO qd vd_gap vd_odds vd_rain vd_lines qd_steps qd_lengths qd_starts qd_met qd_stumbles vd_stumbleCount qd_muds qd_cells vd_cellCount qd_tunes vd_tuneCount qd_changes vd_changeCount) sz)) (va_Qi (fun (rz : Int32) (u : Unit) => ((rz = 1 ∧ (0 < vd_lines.toInt)) ∨ (rz = 0 ∧ ¬ (0 < vd_lines.toInt)))) (fun (u : Unit) t => ct_Q D (va_A (w_c_X0_stands cI cJ cB cZ cO qd vd_gap vd_odds vd_rain vd_lines qd_steps qd_lengths qd_starts qd_met qd_stumbles vd_stumbleCount qd_muds qd_cells vd_cellCount qd_tunes vd_tuneCount qd_changes vd_changeCount) sz) [dn qd vd_gap vd_odds vd_rain vd_lines qd_steps qd_lengths qd_starts qd_met qd_stumbles vd_stumbleCount qd_muds qd_cells vd_cellCount qd_tunes vd_tuneCount qd_changes vd_changeCount] t) (va_A (w_c_X0_stands cI cJ cB cZ cO qd vd_gap vd_odds vd_rain vd_lines qd_steps qd_lengths qd_starts qd_met qd_stumbles vd_stumbleCount qd_muds qd_cells vd_cellCount qd_tunes vd_tuneCount qd_changes vd_changeCount) sz)) 0 0 (va_A (w_c_X0_stands cI cJ cB cZ cO qd vd_gap vd_odds vd_rain vd_lines qd_steps qd_lengths qd_starts qd_met qd_stumbles vd_stumbleCount qd_muds qd_cells vd_cellCount qd_tunes vd_tuneCount qd_changes vd_changeCount) sz) := by
  refine Met.ofW (cc := cX0_stands) (maxL := 1) (ret := (some .boolean)) (by decide) rfl ?_
  intro p e s m args below meth c s₁ B hml hv
  obtain ⟨rfl, hsz, hP, hE, hD0, hH⟩ := hv
  have hx := B.exec
  have hb := B.bytes
  have hr := B.returns
  have hts := atoms_spec (ws := wsX0_stands) B.pre
  have hown : s.vm.findClass RX0 = some m.cls := findClass_of_methodNamed B.named
  have hlocks := B.notSynchronized
  have hK := hE.1
  have hi0 : ∀ w ∈ u_ws RX0 TX0 17, w ∈ wsX0_stands := fun w h => List.mem_cons_of_mem _ (List.mem_append_right _ h)
  subst hsz
  have hD := hD0.self (sz := s.heap.size)
  generalize hAe : va_A (w_c_X0_stands cI cJ cB cZ cO qd vd_gap vd_odds vd_rain vd_lines qd_steps qd_lengths qd_starts qd_met qd_stumbles vd_stumbleCount qd_muds qd_cells vd_cellCount qd_tunes vd_tuneCount qd_changes vd_changeCount) s.heap.size = A at hD hH ⊢
  have hA : ∀ q : Nat, s.heap.size ≤ q → A q := fun q h => by rw [← hAe]; exact Or.inr h
  have hS : va_S A s.heap s.heap [] := va_S.rf
  obtain ⟨hP, hD⟩ : ct_B D A s.heap [dn qd vd_gap vd_odds vd_rain vd_lines qd_steps qd_lengths qd_starts qd_met qd_stumbles vd_stumbleCount qd_muds qd_cells vd_cellCount qd_tunes vd_tuneCount qd_changes vd_changeCount] := ⟨hP, hD⟩
  have hl := lv_entry ([.ref qd]) (n := 1) (Nat.le_of_ble_eq_true rfl)
  rw [lg_entry_eq]
  generalize (lg_sl ([.ref qd]) ++ List.replicate (1 - (lg_sl ([.ref qd])).length) Slot.unset).toArray = ls at hl ⊢
  have hl : lv_has ls 1 [(0, .ref qd)] := hl
  obtain ⟨H, hHe⟩ : ∃ H : Heap, H = s.heap := ⟨_, rfl⟩
  rw [← hHe] at hP
  have hS : va_S A s.heap H [] := by rw [hHe]; exact va_S.rf
  refine ct_start hHe ?_
  refine lv_aload_n hx hb dX0_stands_0 rfl (lv_at hl 0 rfl) ?_
  refine va_get (D := D) (ci := 0) (v := .int vd_lines) (C := RX0) (T := TX0) (N := 17) hx hb hts hi0 hown hK hP 0 rfl rfl 3 (by decide) (hts (.fieldLink RX0 49 "OverHill$Dance" "lines" "I") (by decide +kernel)) (fun _ h9 => h9) rfl dX0_stands_1 ?_
  refine lv_if_le (tgt := 11) hx hb dX0_stands_4 (by decide) (fun hc => ?_) (fun hc => ?_)
  · have hq1 : vd_lines.toInt ≤ 0 := tq_le rfl (by decide) hc
    have hb2 := tq_lo vd_lines
    refine lv_iconst (v := 0) hx hb dX0_stands_11 (by decide) ?_
    obtain ⟨hP9, hD9⟩ : ct_B D A H [dn qd vd_gap vd_odds vd_rain vd_lines qd_steps qd_lengths qd_starts qd_met qd_stumbles vd_stumbleCount qd_muds qd_cells vd_cellCount qd_tunes vd_tuneCount qd_changes vd_changeCount] := ⟨hP.sub [0] rfl, hD.sub [0] (by decide) rfl⟩
    exact W.zret (v := 0) (ty := .boolean) hx hb hr rfl (fun t ht hW => ⟨⟨0, (), rfl, (Or.inr (⟨rfl, (show ¬ (0 < vd_lines.toInt) by omega)⟩)), by rw [ht]; exact hP9, hD9⟩, hS.F ht⟩) hS.2.2 dX0_stands_12
  · have hq1 : 0 < vd_lines.toInt := tq_nle rfl (by decide) hc
    have hb3 := tq_lo vd_lines
    refine lv_iconst (v := 1) hx hb dX0_stands_7 (by decide) ?_
    refine lv_goto (tgt := 12) hx hb dX0_stands_8 (by decide) ?_
    obtain ⟨hP9, hD9⟩ : ct_B D A H [dn qd vd_gap vd_odds vd_rain vd_lines qd_steps qd_lengths qd_starts qd_met qd_stumbles vd_stumbleCount qd_muds qd_cells vd_cellCount qd_tunes vd_tuneCount qd_changes vd_changeCount] := ⟨hP.sub [0] rfl, hD.sub [0] (by decide) rfl⟩
    exact W.zret (v := 1) (ty := .boolean) hx hb hr rfl (fun t ht hW => ⟨⟨1, (), rfl, (Or.inl ⟨rfl, (show (0 < vd_lines.toInt) by omega)⟩), by rw [ht]; exact hP9, hD9⟩, hS.F ht⟩) hS.2.2 dX0_stands_12
abbrev w_c_X0_hasBothRounds (cI cJ cB cZ cO : ClassId) (qd : Nat) (vd_gap : Int32) (vd_odds : Int32) (vd_rain : Int32) (vd_lines : Int32) (qd_steps : Nat) (qd_lengths : Nat) (fd_lengths : Nat → Int32) (qd_starts : Nat) (qd_met : Nat) (qd_stumbles : Nat) (vd_stumbleCount : Int32) (qd_muds : Nat) (qd_cells : Nat) (vd_cellCount : Int32) (qd_tunes : Nat) (vd_tuneCount : Int32) (qd_changes : Nat) (vd_changeCount : Int32) : va_W := [dn qd vd_gap vd_odds vd_rain vd_lines qd_steps qd_lengths qd_starts qd_met qd_stumbles vd_stumbleCount qd_muds qd_cells vd_cellCount qd_tunes vd_tuneCount qd_changes vd_changeCount, (qd_lengths, .inl (cI, 2, .inl (fd_lengths)))]
set_option maxHeartbeats 4000000 in
set_option maxRecDepth 100000 in
/-- X0 hasBothRounds -/
theorem c_X0_hasBothRounds (l : Launch) (D : va_G) (G : ct_G) (cI cJ cB cZ cO : ClassId) (qd : Nat) (vd_gap : Int32) (vd_odds : Int32) (vd_rain : Int32) (vd_lines : Int32) (qd_steps : Nat) (qd_lengths : Nat) (fd_lengths : Nat → Int32) (qd_starts : Nat) (qd_met : Nat) (qd_stumbles : Nat) (vd_stumbleCount : Int32) (qd_muds : Nat) (qd_cells : Nat) (vd_cellCount : Int32) (qd_tunes : Nat) (vd_tuneCount : Int32) (qd_changes : Nat) (vd_changeCount : Int32) (h_vd_gap : 0 ≤ vd_gap.toInt ∧ vd_gap.toInt ≤ 20) (h_fd_lengths : ar_ok [0] [12] fd_lengths) (h_vd_stumbleCount : 0 ≤ vd_stumbleCount.toInt ∧ vd_stumbleCount.toInt ≤ 8) (h_vd_cellCount : 0 ≤ vd_cellCount.toInt ∧ vd_cellCount.toInt ≤ 12) (h_vd_tuneCount : 0 ≤ vd_tuneCount.toInt ∧ vd_tuneCount.toInt ≤ 5) (h_vd_changeCount : 0 ≤ vd_changeCount.toInt ∧ vd_changeCount.toInt ≤ 40) (sz : Nat) : Met l yX0_hasBothRounds wsX0_hasBothRounds ({ frames := 0, cells := 0, slots := 0, locals := 0 }) (va_Pc [.ref qd] (ct_P D (ct_T cI cJ cB cZ cO) G (w_c_X0_hasBothRounds cI cJ cB cZ cO qd vd_gap vd_odds vd_rain vd_lines qd_steps qd_lengths fd_lengths qd_starts qd_met qd_stumbles vd_stumbleCount qd_muds qd_cells vd_cellCount qd_tunes vd_tuneCount qd_changes vd_changeCount) sz)) (va_Qi (fun (rz : Int32) (u : Unit) => ((rz = 1 ∧ True) ∨ (rz = 0 ∧ True))) (fun (u : Unit) t => ct_Q D (va_A (w_c_X0_hasBothRounds cI cJ cB cZ cO qd vd_gap vd_odds vd_rain vd_lines qd_steps qd_lengths fd_lengths qd_starts qd_met qd_stumbles vd_stumbleCount qd_muds qd_cells vd_cellCount qd_tunes vd_tuneCount qd_changes vd_changeCount) sz) [dn qd vd_gap vd_odds vd_rain vd_lines qd_steps qd_lengths qd_starts qd_met qd_stumbles vd_stumbleCount qd_muds qd_cells vd_cellCount qd_tunes vd_tuneCount qd_changes vd_changeCount, (qd_lengths, .inl (cI, 2, .inl (fd_lengths)))] t) (va_A (w_c_X0_hasBothRounds cI cJ cB cZ cO qd vd_gap vd_odds vd_rain vd_lines qd_steps qd_lengths fd_lengths qd_starts qd_met qd_stumbles vd_stumbleCount qd_muds qd_cells vd_cellCount qd_tunes vd_tuneCount qd_changes vd_changeCount) sz)) 0 0 (va_A (w_c_X0_hasBothRounds cI cJ cB cZ cO qd vd_gap vd_odds vd_rain vd_lines qd_steps qd_lengths fd_lengths qd_starts qd_met qd_stumbles vd_stumbleCount qd_muds qd_cells vd_cellCount qd_tunes vd_tuneCount qd_changes vd_changeCount) sz) := by
  refine Met.ofW (cc := cX0_hasBothRounds) (maxL := 1) (ret := (some .boolean)) (by decide) rfl ?_
  intro p e s m args below meth c s₁ B hml hv
  obtain ⟨rfl, hsz, hP, hE, hD0, hH⟩ := hv
  have hx := B.exec
  have hb := B.bytes
  have hr := B.returns
  have hts := atoms_spec (ws := wsX0_hasBothRounds) B.pre
  have hown : s.vm.findClass RX0 = some m.cls := findClass_of_methodNamed B.named
  have hlocks := B.notSynchronized
  have hK := hE.1
  have hi0 : ∀ w ∈ u_ws RX0 TX0 17, w ∈ wsX0_hasBothRounds := fun w h => List.mem_cons_of_mem _ (List.mem_append_right _ h)
  subst hsz
  have hD := hD0.self (sz := s.heap.size)
  generalize hAe : va_A (w_c_X0_hasBothRounds cI cJ cB cZ cO qd vd_gap vd_odds vd_rain vd_lines qd_steps qd_lengths fd_lengths qd_starts qd_met qd_stumbles vd_stumbleCount qd_muds qd_cells vd_cellCount qd_tunes vd_tuneCount qd_changes vd_changeCount) s.heap.size = A at hD hH ⊢
  have hA : ∀ q : Nat, s.heap.size ≤ q → A q := fun q h => by rw [← hAe]; exact Or.inr h
  have hS : va_S A s.heap s.heap [] := va_S.rf
  obtain ⟨hP, hD⟩ : ct_B D A s.heap [dn qd vd_gap vd_odds vd_rain vd_lines qd_steps qd_lengths qd_starts qd_met qd_stumbles vd_stumbleCount qd_muds qd_cells vd_cellCount qd_tunes vd_tuneCount qd_changes vd_changeCount, (qd_lengths, .inl (cI, 2, .inl (fd_lengths)))] := ⟨hP, hD⟩
  have hl := lv_entry ([.ref qd]) (n := 1) (Nat.le_of_ble_eq_true rfl)
  rw [lg_entry_eq]
  generalize (lg_sl ([.ref qd]) ++ List.replicate (1 - (lg_sl ([.ref qd])).length) Slot.unset).toArray = ls at hl ⊢
  have hl : lv_has ls 1 [(0, .ref qd)] := hl
  obtain ⟨H, hHe⟩ : ∃ H : Heap, H = s.heap := ⟨_, rfl⟩
  rw [← hHe] at hP
  have hS : va_S A s.heap H [] := by rw [hHe]; exact va_S.rf
  refine ct_start hHe ?_
  refine lv_aload_n hx hb dX0_hasBothRounds_0 rfl (lv_at hl 0 rfl) ?_
  refine va_get (D := D) (ci := 0) (v := .ref qd_lengths) (C := RX0) (T := TX0) (N := 17) hx hb hts hi0 hown hK hP 0 rfl rfl 5 (by decide) (hts (.fieldLink RX0 15 "OverHill$Dance" "lengths" "[I") (by decide +kernel)) (fun _ h9 => h9) rfl dX0_hasBothRounds_1 ?_
  refine lv_iconst (v := 0) hx hb dX0_hasBothRounds_4 (by decide) ?_
  refine va_iald (D := D) hx hb hK hP 1 0 rfl rfl (tq_in (a := 0) (by decide) (by omega)) dX0_hasBothRounds_5 ?_
  refine lv_topi (fun z1 ez1 => ?_)
  have fz1 : 0 ≤ z1.toInt ∧ z1.toInt ≤ 12 := by rw [ez1]; exact ar_get h_fd_lengths (0 : Int32) 0 (by decide) (by decide) rfl
  refine lv_if_le (tgt := 22) hx hb dX0_hasBothRounds_6 (by decide) (fun hc => ?_) (fun hc => ?_)
  · have hq2 : z1.toInt ≤ 0 := tq_le rfl (by decide) hc
    refine lv_iconst (v := 0) hx hb dX0_hasBothRounds_22 (by decide) ?_
    obtain ⟨hP9, hD9⟩ : ct_B D A H [dn qd vd_gap vd_odds vd_rain vd_lines qd_steps qd_lengths qd_starts qd_met qd_stumbles vd_stumbleCount qd_muds qd_cells vd_cellCount qd_tunes vd_tuneCount qd_changes vd_changeCount, (qd_lengths, .inl (cI, 2, .inl (fd_lengths)))] := ⟨hP.sub [0, 1] rfl, hD.sub [0, 1] (by decide) rfl⟩
    exact W.zret (v := 0) (ty := .boolean) hx hb hr rfl (fun t ht hW => ⟨⟨0, (), rfl, (Or.inr (⟨rfl, trivial⟩)), by rw [ht]; exact hP9, hD9⟩, hS.F ht⟩) hS.2.2 dX0_hasBothRounds_23
  · have hq2 : 0 < z1.toInt := tq_nle rfl (by decide) hc
    refine lv_aload_n hx hb dX0_hasBothRounds_9 rfl (lv_at hl 0 rfl) ?_
    refine va_get (D := D) (ci := 0) (v := .ref qd_lengths) (C := RX0) (T := TX0) (N := 17) hx hb hts hi0 hown hK hP 0 rfl rfl 5 (by decide) (hts (.fieldLink RX0 15 "OverHill$Dance" "lengths" "[I") (by decide +kernel)) (fun _ h9 => h9) rfl dX0_hasBothRounds_10 ?_
    refine lv_iconst (v := 1) hx hb dX0_hasBothRounds_13 (by decide) ?_
    refine va_iald (D := D) hx hb hK hP 1 0 rfl rfl (tq_in (a := 1) (by decide) (by omega)) dX0_hasBothRounds_14 ?_
    refine lv_topi (fun z3 ez3 => ?_)
    have fz3 : 0 ≤ z3.toInt ∧ z3.toInt ≤ 12 := by rw [ez3]; exact ar_get h_fd_lengths (1 : Int32) 0 (by decide) (by decide) rfl
    refine lv_if_le (tgt := 22) hx hb dX0_hasBothRounds_15 (by decide) (fun hc => ?_) (fun hc => ?_)
    · have hq4 : z3.toInt ≤ 0 := tq_le rfl (by decide) hc
      refine lv_iconst (v := 0) hx hb dX0_hasBothRounds_22 (by decide) ?_
      obtain ⟨hP9, hD9⟩ : ct_B D A H [dn qd vd_gap vd_odds vd_rain vd_lines qd_steps qd_lengths qd_starts qd_met qd_stumbles vd_stumbleCount qd_muds qd_cells vd_cellCount qd_tunes vd_tuneCount qd_changes vd_changeCount, (qd_lengths, .inl (cI, 2, .inl (fd_lengths)))] := ⟨hP.sub [0, 1] rfl, hD.sub [0, 1] (by decide) rfl⟩
      exact W.zret (v := 0) (ty := .boolean) hx hb hr rfl (fun t ht hW => ⟨⟨0, (), rfl, (Or.inr (⟨rfl, trivial⟩)), by rw [ht]; exact hP9, hD9⟩, hS.F ht⟩) hS.2.2 dX0_hasBothRounds_23
    · have hq4 : 0 < z3.toInt := tq_nle rfl (by decide) hc
      refine lv_iconst (v := 1) hx hb dX0_hasBothRounds_18 (by decide) ?_
      refine lv_goto (tgt := 23) hx hb dX0_hasBothRounds_19 (by decide) ?_
      obtain ⟨hP9, hD9⟩ : ct_B D A H [dn qd vd_gap vd_odds vd_rain vd_lines qd_steps qd_lengths qd_starts qd_met qd_stumbles vd_stumbleCount qd_muds qd_cells vd_cellCount qd_tunes vd_tuneCount qd_changes vd_changeCount, (qd_lengths, .inl (cI, 2, .inl (fd_lengths)))] := ⟨hP.sub [0, 1] rfl, hD.sub [0, 1] (by decide) rfl⟩
      exact W.zret (v := 1) (ty := .boolean) hx hb hr rfl (fun t ht hW => ⟨⟨1, (), rfl, (Or.inl ⟨rfl, trivial⟩), by rw [ht]; exact hP9, hD9⟩, hS.F ht⟩) hS.2.2 dX0_hasBothRounds_23
abbrev w_c_X0_hasPlace (cI cJ cB cZ cO : ClassId) (qd : Nat) (vd_gap : Int32) (vd_odds : Int32) (vd_rain : Int32) (vd_lines : Int32) (qd_steps : Nat) (qd_lengths : Nat) (fd_lengths : Nat → Int32) (qd_starts : Nat) (qd_met : Nat) (qd_stumbles : Nat) (vd_stumbleCount : Int32) (qd_muds : Nat) (qd_cells : Nat) (vd_cellCount : Int32) (qd_tunes : Nat) (vd_tuneCount : Int32) (qd_changes : Nat) (vd_changeCount : Int32) : va_W := [dn qd vd_gap vd_odds vd_rain vd_lines qd_steps qd_lengths qd_starts qd_met qd_stumbles vd_stumbleCount qd_muds qd_cells vd_cellCount qd_tunes vd_tuneCount qd_changes vd_changeCount, (qd_lengths, .inl (cI, 2, .inl (fd_lengths)))]
set_option maxHeartbeats 4000000 in
set_option maxRecDepth 100000 in
/-- X0 hasPlace -/
theorem c_X0_hasPlace (l : Launch) (D : va_G) (G : ct_G) (cI cJ cB cZ cO : ClassId) (qd : Nat) (vd_gap : Int32) (vd_odds : Int32) (vd_rain : Int32) (vd_lines : Int32) (qd_steps : Nat) (qd_lengths : Nat) (fd_lengths : Nat → Int32) (qd_starts : Nat) (qd_met : Nat) (qd_stumbles : Nat) (vd_stumbleCount : Int32) (qd_muds : Nat) (qd_cells : Nat) (vd_cellCount : Int32) (qd_tunes : Nat) (vd_tuneCount : Int32) (qd_changes : Nat) (vd_changeCount : Int32) (a1 : Int32) (a2 : Int32) (h_vd_gap : 0 ≤ vd_gap.toInt ∧ vd_gap.toInt ≤ 20) (h_fd_lengths : ar_ok [0] [12] fd_lengths) (h_vd_stumbleCount : 0 ≤ vd_stumbleCount.toInt ∧ vd_stumbleCount.toInt ≤ 8) (h_vd_cellCount : 0 ≤ vd_cellCount.toInt ∧ vd_cellCount.toInt ≤ 12) (h_vd_tuneCount : 0 ≤ vd_tuneCount.toInt ∧ vd_tuneCount.toInt ≤ 5) (h_vd_changeCount : 0 ≤ vd_changeCount.toInt ∧ vd_changeCount.toInt ≤ 40) (h_a1 : 0 ≤ a1.toInt ∧ a1.toInt ≤ 1) (sz : Nat) : Met l yX0_hasPlace wsX0_hasPlace ({ frames := 1, cells := 0, slots := 0, locals := 21 }) (va_Pc [.ref qd, .int a1, .int a2] (ct_P D (ct_T cI cJ cB cZ cO) G (w_c_X0_hasPlace cI cJ cB cZ cO qd vd_gap vd_odds vd_rain vd_lines qd_steps qd_lengths fd_lengths qd_starts qd_met qd_stumbles vd_stumbleCount qd_muds qd_cells vd_cellCount qd_tunes vd_tuneCount qd_changes vd_changeCount) sz)) (va_Qi (fun (rz : Int32) (u : Unit) => ((rz = 1 ∧ (0 ≤ a2.toInt ∧ a2.toInt < 12)) ∨ (rz = 0 ∧ True))) (fun (u : Unit) t => ct_Q D (va_A (w_c_X0_hasPlace cI cJ cB cZ cO qd vd_gap vd_odds vd_rain vd_lines qd_steps qd_lengths fd_lengths qd_starts qd_met qd_stumbles vd_stumbleCount qd_muds qd_cells vd_cellCount qd_tunes vd_tuneCount qd_changes vd_changeCount) sz) [dn qd vd_gap vd_odds vd_rain vd_lines qd_steps qd_lengths qd_starts qd_met qd_stumbles vd_stumbleCount qd_muds qd_cells vd_cellCount qd_tunes vd_tuneCount qd_changes vd_changeCount, (qd_lengths, .inl (cI, 2, .inl (fd_lengths)))] t) (va_A (w_c_X0_hasPlace cI cJ cB cZ cO qd vd_gap vd_odds vd_rain vd_lines qd_steps qd_lengths fd_lengths qd_starts qd_met qd_stumbles vd_stumbleCount qd_muds qd_cells vd_cellCount qd_tunes vd_tuneCount qd_changes vd_changeCount) sz)) 0 0 (va_A (w_c_X0_hasPlace cI cJ cB cZ cO qd vd_gap vd_odds vd_rain vd_lines qd_steps qd_lengths fd_lengths qd_starts qd_met qd_stumbles vd_stumbleCount qd_muds qd_cells vd_cellCount qd_tunes vd_tuneCount qd_changes vd_changeCount) sz) := by
  refine Met.ofW (cc := cX0_hasPlace) (maxL := 3) (ret := (some .boolean)) (by decide) rfl ?_
  intro p e s m args below meth c s₁ B hml hv
  obtain ⟨rfl, hsz, hP, hE, hD0, hH⟩ := hv
  have hx := B.exec
  have hb := B.bytes
  have hr := B.returns
  have hts := atoms_spec (ws := wsX0_hasPlace) B.pre
  have hown : s.vm.findClass RX0 = some m.cls := findClass_of_methodNamed B.named
  have hlocks := B.notSynchronized
  have hK := hE.1
  have hi0 : ∀ w ∈ u_ws RX0 TX0 17, w ∈ wsX0_hasPlace := fun w h => List.mem_cons_of_mem _ (List.mem_append_right _ h)
  subst hsz
  have hD := hD0.self (sz := s.heap.size)
  generalize hAe : va_A (w_c_X0_hasPlace cI cJ cB cZ cO qd vd_gap vd_odds vd_rain vd_lines qd_steps qd_lengths fd_lengths qd_starts qd_met qd_stumbles vd_stumbleCount qd_muds qd_cells vd_cellCount qd_tunes vd_tuneCount qd_changes vd_changeCount) s.heap.size = A at hD hH ⊢
  have hA : ∀ q : Nat, s.heap.size ≤ q → A q := fun q h => by rw [← hAe]; exact Or.inr h
  have hS : va_S A s.heap s.heap [] := va_S.rf
  obtain ⟨hP, hD⟩ : ct_B D A s.heap [dn qd vd_gap vd_odds vd_rain vd_lines qd_steps qd_lengths qd_starts qd_met qd_stumbles vd_stumbleCount qd_muds qd_cells vd_cellCount qd_tunes vd_tuneCount qd_changes vd_changeCount, (qd_lengths, .inl (cI, 2, .inl (fd_lengths)))] := ⟨hP, hD⟩
  have hl := lv_entry ([.ref qd, .int a1, .int a2]) (n := 3) (Nat.le_of_ble_eq_true rfl)
  rw [lg_entry_eq]
  generalize (lg_sl ([.ref qd, .int a1, .int a2]) ++ List.replicate (3 - (lg_sl ([.ref qd, .int a1, .int a2])).length) Slot.unset).toArray = ls at hl ⊢
  have hl : lv_has ls 3 [(0, .ref qd), (1, .int a1), (2, .int a2)] := hl
  obtain ⟨H, hHe⟩ : ∃ H : Heap, H = s.heap := ⟨_, rfl⟩
  rw [← hHe] at hP
  have hS : va_S A s.heap H [] := by rw [hHe]; exact va_S.rf
  refine ct_start hHe ?_
  refine lv_iload_n hx hb dX0_hasPlace_0 rfl (lv_at hl 2 rfl) ?_
  refine lv_aload_n hx hb dX0_hasPlace_1 rfl (lv_at hl 0 rfl) ?_
  refine va_get (D := D) (ci := 0) (v := .ref qd_lengths) (C := RX0) (T := TX0) (N := 17) hx hb hts hi0 hown hK hP 0 rfl rfl 5 (by decide) (hts (.fieldLink RX0 15 "OverHill$Dance" "lengths" "[I") (by decide +kernel)) (fun _ h9 => h9) rfl dX0_hasPlace_2 ?_
  refine lv_iload_n hx hb dX0_hasPlace_5 rfl (lv_at hl 1 rfl) ?_
  refine va_iald (D := D) hx hb hK hP 1 0 rfl rfl (tq_in rfl (by omega)) dX0_hasPlace_6 ?_
  refine lv_topi (fun z1 ez1 => ?_)
  have fz1 : 0 ≤ z1.toInt ∧ z1.toInt ≤ 12 := by rw [ez1]; exact ar_get h_fd_lengths a1 0 (by omega) (show a1.toInt % 1 = 0 by omega) rfl
  refine ct_calli (D := D) (wr := [dn qd vd_gap vd_odds vd_rain vd_lines qd_steps qd_lengths qd_starts qd_met qd_stumbles vd_stumbleCount qd_muds qd_cells vd_cellCount qd_tunes vd_tuneCount qd_changes vd_changeCount, (qd_lengths, .inl (cI, 2, .inl (fd_lengths)))]) (va_runSN (As := [.int a2, .int z1]) (rest := []) ⟨hx, hb, hml, hown, hts⟩ (c_X11_isWithin l D G cI cJ cB cZ cO a2 z1  H.size) ⟨va_cnB 2 hts gX0_hasPlace_X11_isWithin_n76 rfl rfl rfl (hE.2.1 (RX0, 76, yX11_isWithin, "OverHill") (List.mem_of_getElem? (i := 11) rfl)) (hts (.initialized RX11) (by decide +kernel)) (by decide +kernel) ⟨Nat.le_of_ble_eq_true rfl, Nat.le_of_ble_eq_true rfl⟩, (hts (.static yX11_isWithin) (by decide +kernel)), trivial⟩ (ct_preS (T := ct_T cI cJ cB cZ cO) hE hH hP hD hS hA [] (by decide) rfl) rfl rfl hl.1 rfl (lv_room (Nat.le_of_ble_eq_true rfl)) dX0_hasPlace_7 ⟨Nat.le_of_ble_eq_true rfl, Nat.le_of_ble_eq_true rfl⟩) hP hD hS hA [] [0, 1] rfl rfl (by decide) (by decide) (fun r2 u H locs hw hP hD hS => ?_)
  obtain ⟨hP, hD⟩ : ct_B D A H [dn qd vd_gap vd_odds vd_rain vd_lines qd_steps qd_lengths qd_starts qd_met qd_stumbles vd_stumbleCount qd_muds qd_cells vd_cellCount qd_tunes vd_tuneCount qd_changes vd_changeCount, (qd_lengths, .inl (cI, 2, .inl (fd_lengths)))] := ⟨hP, hD⟩
  have hz := hw
  rcases hz with ⟨hz, hz2⟩ | ⟨hz, hz2⟩
  · subst hz
    have hz_3 : (0 ≤ a2.toInt ∧ a2.toInt < z1.toInt) := hz2
    obtain ⟨hP9, hD9⟩ : ct_B D A H [dn qd vd_gap vd_odds vd_rain vd_lines qd_steps qd_lengths qd_starts qd_met qd_stumbles vd_stumbleCount qd_muds qd_cells vd_cellCount qd_tunes vd_tuneCount qd_changes vd_changeCount, (qd_lengths, .inl (cI, 2, .inl (fd_lengths)))] := ⟨hP.sub [0, 1] rfl, hD.sub [0, 1] (by decide) rfl⟩
    exact W.zret (v := 1) (ty := .boolean) hx hb hr rfl (fun t ht hW => ⟨⟨1, (), rfl, (Or.inl ⟨rfl, (show (0 ≤ a2.toInt ∧ a2.toInt < 12) by omega)⟩), by rw [ht]; exact hP9, hD9⟩, hS.F ht⟩) hS.2.2 dX0_hasPlace_10
  · subst hz
    have hz_4 : ¬ (0 ≤ a2.toInt ∧ a2.toInt < z1.toInt) := hz2
    obtain ⟨hP9, hD9⟩ : ct_B D A H [dn qd vd_gap vd_odds vd_rain vd_lines qd_steps qd_lengths qd_starts qd_met qd_stumbles vd_stumbleCount qd_muds qd_cells vd_cellCount qd_tunes vd_tuneCount qd_changes vd_changeCount, (qd_lengths, .inl (cI, 2, .inl (fd_lengths)))] := ⟨hP.sub [0, 1] rfl, hD.sub [0, 1] (by decide) rfl⟩
    exact W.zret (v := 0) (ty := .boolean) hx hb hr rfl (fun t ht hW => ⟨⟨0, (), rfl, (Or.inr (⟨rfl, trivial⟩)), by rw [ht]; exact hP9, hD9⟩, hS.F ht⟩) hS.2.2 dX0_hasPlace_10
abbrev w_c_X0_hasStumble (cI cJ cB cZ cO : ClassId) (qd : Nat) (vd_gap : Int32) (vd_odds : Int32) (vd_rain : Int32) (vd_lines : Int32) (qd_steps : Nat) (qd_lengths : Nat) (qd_starts : Nat) (qd_met : Nat) (qd_stumbles : Nat) (vd_stumbleCount : Int32) (qd_muds : Nat) (qd_cells : Nat) (vd_cellCount : Int32) (qd_tunes : Nat) (vd_tuneCount : Int32) (qd_changes : Nat) (vd_changeCount : Int32) : va_W := [dn qd vd_gap vd_odds vd_rain vd_lines qd_steps qd_lengths qd_starts qd_met qd_stumbles vd_stumbleCount qd_muds qd_cells vd_cellCount qd_tunes vd_tuneCount qd_changes vd_changeCount]
set_option maxHeartbeats 4000000 in
set_option maxRecDepth 100000 in
/-- X0 hasStumble -/
theorem c_X0_hasStumble (l : Launch) (D : va_G) (G : ct_G) (cI cJ cB cZ cO : ClassId) (qd : Nat) (vd_gap : Int32) (vd_odds : Int32) (vd_rain : Int32) (vd_lines : Int32) (qd_steps : Nat) (qd_lengths : Nat) (qd_starts : Nat) (qd_met : Nat) (qd_stumbles : Nat) (vd_stumbleCount : Int32) (qd_muds : Nat) (qd_cells : Nat) (vd_cellCount : Int32) (qd_tunes : Nat) (vd_tuneCount : Int32) (qd_changes : Nat) (vd_changeCount : Int32) (a1 : Int32) (h_vd_gap : 0 ≤ vd_gap.toInt ∧ vd_gap.toInt ≤ 20) (h_vd_stumbleCount : 0 ≤ vd_stumbleCount.toInt ∧ vd_stumbleCount.toInt ≤ 8) (h_vd_cellCount : 0 ≤ vd_cellCount.toInt ∧ vd_cellCount.toInt ≤ 12) (h_vd_tuneCount : 0 ≤ vd_tuneCount.toInt ∧ vd_tuneCount.toInt ≤ 5) (h_vd_changeCount : 0 ≤ vd_changeCount.toInt ∧ vd_changeCount.toInt ≤ 40) (sz : Nat) : Met l yX0_hasStumble wsX0_hasStumble ({ frames := 1, cells := 0, slots := 0, locals := 21 }) (va_Pc [.ref qd, .int a1] (ct_P D (ct_T cI cJ cB cZ cO) G (w_c_X0_hasStumble cI cJ cB cZ cO qd vd_gap vd_odds vd_rain vd_lines qd_steps qd_lengths qd_starts qd_met qd_stumbles vd_stumbleCount qd_muds qd_cells vd_cellCount qd_tunes vd_tuneCount qd_changes vd_changeCount) sz)) (va_Qi (fun (rz : Int32) (u : Unit) => ((rz = 1 ∧ (0 ≤ a1.toInt ∧ a1.toInt < vd_stumbleCount.toInt)) ∨ (rz = 0 ∧ ¬ (0 ≤ a1.toInt ∧ a1.toInt < vd_stumbleCount.toInt)))) (fun (u : Unit) t => ct_Q D (va_A (w_c_X0_hasStumble cI cJ cB cZ cO qd vd_gap vd_odds vd_rain vd_lines qd_steps qd_lengths qd_starts qd_met qd_stumbles vd_stumbleCount qd_muds qd_cells vd_cellCount qd_tunes vd_tuneCount qd_changes vd_changeCount) sz) [dn qd vd_gap vd_odds vd_rain vd_lines qd_steps qd_lengths qd_starts qd_met qd_stumbles vd_stumbleCount qd_muds qd_cells vd_cellCount qd_tunes vd_tuneCount qd_changes vd_changeCount] t) (va_A (w_c_X0_hasStumble cI cJ cB cZ cO qd vd_gap vd_odds vd_rain vd_lines qd_steps qd_lengths qd_starts qd_met qd_stumbles vd_stumbleCount qd_muds qd_cells vd_cellCount qd_tunes vd_tuneCount qd_changes vd_changeCount) sz)) 0 0 (va_A (w_c_X0_hasStumble cI cJ cB cZ cO qd vd_gap vd_odds vd_rain vd_lines qd_steps qd_lengths qd_starts qd_met qd_stumbles vd_stumbleCount qd_muds qd_cells vd_cellCount qd_tunes vd_tuneCount qd_changes vd_changeCount) sz) := by
  refine Met.ofW (cc := cX0_hasStumble) (maxL := 2) (ret := (some .boolean)) (by decide) rfl ?_
  intro p e s m args below meth c s₁ B hml hv
  obtain ⟨rfl, hsz, hP, hE, hD0, hH⟩ := hv
  have hx := B.exec
  have hb := B.bytes
  have hr := B.returns
  have hts := atoms_spec (ws := wsX0_hasStumble) B.pre
  have hown : s.vm.findClass RX0 = some m.cls := findClass_of_methodNamed B.named
  have hlocks := B.notSynchronized
  have hK := hE.1
  have hi0 : ∀ w ∈ u_ws RX0 TX0 17, w ∈ wsX0_hasStumble := fun w h => List.mem_cons_of_mem _ (List.mem_append_right _ h)
  subst hsz
  have hD := hD0.self (sz := s.heap.size)
  generalize hAe : va_A (w_c_X0_hasStumble cI cJ cB cZ cO qd vd_gap vd_odds vd_rain vd_lines qd_steps qd_lengths qd_starts qd_met qd_stumbles vd_stumbleCount qd_muds qd_cells vd_cellCount qd_tunes vd_tuneCount qd_changes vd_changeCount) s.heap.size = A at hD hH ⊢
  have hA : ∀ q : Nat, s.heap.size ≤ q → A q := fun q h => by rw [← hAe]; exact Or.inr h
  have hS : va_S A s.heap s.heap [] := va_S.rf
  obtain ⟨hP, hD⟩ : ct_B D A s.heap [dn qd vd_gap vd_odds vd_rain vd_lines qd_steps qd_lengths qd_starts qd_met qd_stumbles vd_stumbleCount qd_muds qd_cells vd_cellCount qd_tunes vd_tuneCount qd_changes vd_changeCount] := ⟨hP, hD⟩
  have hl := lv_entry ([.ref qd, .int a1]) (n := 2) (Nat.le_of_ble_eq_true rfl)
  rw [lg_entry_eq]
  generalize (lg_sl ([.ref qd, .int a1]) ++ List.replicate (2 - (lg_sl ([.ref qd, .int a1])).length) Slot.unset).toArray = ls at hl ⊢
  have hl : lv_has ls 2 [(0, .ref qd), (1, .int a1)] := hl
  obtain ⟨H, hHe⟩ : ∃ H : Heap, H = s.heap := ⟨_, rfl⟩
  rw [← hHe] at hP
  have hS : va_S A s.heap H [] := by rw [hHe]; exact va_S.rf
  refine ct_start hHe ?_
  refine lv_iload_n hx hb dX0_hasStumble_0 rfl (lv_at hl 1 rfl) ?_
  refine lv_aload_n hx hb dX0_hasStumble_1 rfl (lv_at hl 0 rfl) ?_
  refine va_get (D := D) (ci := 0) (v := .int vd_stumbleCount) (C := RX0) (T := TX0) (N := 17) hx hb hts hi0 hown hK hP 0 rfl rfl 9 (by decide) (hts (.fieldLink RX0 58 "OverHill$Dance" "stumbleCount" "I") (by decide +kernel)) (fun _ h9 => h9) rfl dX0_hasStumble_2 ?_
  refine ct_calli (D := D) (wr := [dn qd vd_gap vd_odds vd_rain vd_lines qd_steps qd_lengths qd_starts qd_met qd_stumbles vd_stumbleCount qd_muds qd_cells vd_cellCount qd_tunes vd_tuneCount qd_changes vd_changeCount]) (va_runSN (As := [.int a1, .int vd_stumbleCount]) (rest := []) ⟨hx, hb, hml, hown, hts⟩ (c_X11_isWithin l D G cI cJ cB cZ cO a1 vd_stumbleCount  H.size) ⟨va_cnB 2 hts gX0_hasStumble_X11_isWithin_n76 rfl rfl rfl (hE.2.1 (RX0, 76, yX11_isWithin, "OverHill") (List.mem_of_getElem? (i := 11) rfl)) (hts (.initialized RX11) (by decide +kernel)) (by decide +kernel) ⟨Nat.le_of_ble_eq_true rfl, Nat.le_of_ble_eq_true rfl⟩, (hts (.static yX11_isWithin) (by decide +kernel)), trivial⟩ (ct_preS (T := ct_T cI cJ cB cZ cO) hE hH hP hD hS hA [] (by decide) rfl) rfl rfl hl.1 rfl (lv_room (Nat.le_of_ble_eq_true rfl)) dX0_hasStumble_5 ⟨Nat.le_of_ble_eq_true rfl, Nat.le_of_ble_eq_true rfl⟩) hP hD hS hA [] [0] rfl rfl (by decide) (by decide) (fun r1 u H locs hw hP hD hS => ?_)
  obtain ⟨hP, hD⟩ : ct_B D A H [dn qd vd_gap vd_odds vd_rain vd_lines qd_steps qd_lengths qd_starts qd_met qd_stumbles vd_stumbleCount qd_muds qd_cells vd_cellCount qd_tunes vd_tuneCount qd_changes vd_changeCount] := ⟨hP, hD⟩
  have hz := hw
  rcases hz with ⟨hz, hz2⟩ | ⟨hz, hz2⟩
  · subst hz
    have hz_2 : (0 ≤ a1.toInt ∧ a1.toInt < vd_stumbleCount.toInt) := hz2
    obtain ⟨hP9, hD9⟩ : ct_B D A H [dn qd vd_gap vd_odds vd_rain vd_lines qd_steps qd_lengths qd_starts qd_met qd_stumbles vd_stumbleCount qd_muds qd_cells vd_cellCount qd_tunes vd_tuneCount qd_changes vd_changeCount] := ⟨hP.sub [0] rfl, hD.sub [0] (by decide) rfl⟩
    exact W.zret (v := 1) (ty := .boolean) hx hb hr rfl (fun t ht hW => ⟨⟨1, (), rfl, (Or.inl ⟨rfl, (show (0 ≤ a1.toInt ∧ a1.toInt < vd_stumbleCount.toInt) by omega)⟩), by rw [ht]; exact hP9, hD9⟩, hS.F ht⟩) hS.2.2 dX0_hasStumble_8
  · subst hz
    have hz_3 : ¬ (0 ≤ a1.toInt ∧ a1.toInt < vd_stumbleCount.toInt) := hz2
    obtain ⟨hP9, hD9⟩ : ct_B D A H [dn qd vd_gap vd_odds vd_rain vd_lines qd_steps qd_lengths qd_starts qd_met qd_stumbles vd_stumbleCount qd_muds qd_cells vd_cellCount qd_tunes vd_tuneCount qd_changes vd_changeCount] := ⟨hP.sub [0] rfl, hD.sub [0] (by decide) rfl⟩
    exact W.zret (v := 0) (ty := .boolean) hx hb hr rfl (fun t ht hW => ⟨⟨0, (), rfl, (Or.inr (⟨rfl, (show ¬ (0 ≤ a1.toInt ∧ a1.toInt < vd_stumbleCount.toInt) by omega)⟩)), by rw [ht]; exact hP9, hD9⟩, hS.F ht⟩) hS.2.2 dX0_hasStumble_8
abbrev w_c_X0_stepAt (cI cJ cB cZ cO : ClassId) (qd : Nat) (vd_gap : Int32) (vd_odds : Int32) (vd_rain : Int32) (vd_lines : Int32) (qd_steps : Nat) (fd_steps : Nat → Int32) (qd_lengths : Nat) (qd_starts : Nat) (qd_met : Nat) (qd_stumbles : Nat) (vd_stumbleCount : Int32) (qd_muds : Nat) (qd_cells : Nat) (vd_cellCount : Int32) (qd_tunes : Nat) (vd_tuneCount : Int32) (qd_changes : Nat) (vd_changeCount : Int32) : va_W := [dn qd vd_gap vd_odds vd_rain vd_lines qd_steps qd_lengths qd_starts qd_met qd_stumbles vd_stumbleCount qd_muds qd_cells vd_cellCount qd_tunes vd_tuneCount qd_changes vd_changeCount, (qd_steps, .inl (cI, 24, .inl (fd_steps)))]
set_option maxHeartbeats 4000000 in
set_option maxRecDepth 100000 in
/-- X0 stepAt -/
theorem c_X0_stepAt (l : Launch) (D : va_G) (G : ct_G) (cI cJ cB cZ cO : ClassId) (qd : Nat) (vd_gap : Int32) (vd_odds : Int32) (vd_rain : Int32) (vd_lines : Int32) (qd_steps : Nat) (fd_steps : Nat → Int32) (qd_lengths : Nat) (qd_starts : Nat) (qd_met : Nat) (qd_stumbles : Nat) (vd_stumbleCount : Int32) (qd_muds : Nat) (qd_cells : Nat) (vd_cellCount : Int32) (qd_tunes : Nat) (vd_tuneCount : Int32) (qd_changes : Nat) (vd_changeCount : Int32) (a1 : Int32) (a2 : Int32) (h_vd_gap : 0 ≤ vd_gap.toInt ∧ vd_gap.toInt ≤ 20) (h_fd_steps : ar_ok [0] [5] fd_steps) (h_vd_stumbleCount : 0 ≤ vd_stumbleCount.toInt ∧ vd_stumbleCount.toInt ≤ 8) (h_vd_cellCount : 0 ≤ vd_cellCount.toInt ∧ vd_cellCount.toInt ≤ 12) (h_vd_tuneCount : 0 ≤ vd_tuneCount.toInt ∧ vd_tuneCount.toInt ≤ 5) (h_vd_changeCount : 0 ≤ vd_changeCount.toInt ∧ vd_changeCount.toInt ≤ 40) (h_a1 : 0 ≤ a1.toInt ∧ a1.toInt ≤ 1) (h_a2 : 0 ≤ a2.toInt ∧ a2.toInt ≤ 11) (sz : Nat) : Met l yX0_stepAt wsX0_stepAt ({ frames := 0, cells := 0, slots := 0, locals := 0 }) (va_Pc [.ref qd, .int a1, .int a2] (ct_P D (ct_T cI cJ cB cZ cO) G (w_c_X0_stepAt cI cJ cB cZ cO qd vd_gap vd_odds vd_rain vd_lines qd_steps fd_steps qd_lengths qd_starts qd_met qd_stumbles vd_stumbleCount qd_muds qd_cells vd_cellCount qd_tunes vd_tuneCount qd_changes vd_changeCount) sz)) (va_Qi (fun (rz : Int32) (u : Unit) => (0 ≤ rz.toInt ∧ rz.toInt ≤ 5)) (fun (u : Unit) t => ct_Q D (va_A (w_c_X0_stepAt cI cJ cB cZ cO qd vd_gap vd_odds vd_rain vd_lines qd_steps fd_steps qd_lengths qd_starts qd_met qd_stumbles vd_stumbleCount qd_muds qd_cells vd_cellCount qd_tunes vd_tuneCount qd_changes vd_changeCount) sz) [dn qd vd_gap vd_odds vd_rain vd_lines qd_steps qd_lengths qd_starts qd_met qd_stumbles vd_stumbleCount qd_muds qd_cells vd_cellCount qd_tunes vd_tuneCount qd_changes vd_changeCount, (qd_steps, .inl (cI, 24, .inl (fd_steps)))] t) (va_A (w_c_X0_stepAt cI cJ cB cZ cO qd vd_gap vd_odds vd_rain vd_lines qd_steps fd_steps qd_lengths qd_starts qd_met qd_stumbles vd_stumbleCount qd_muds qd_cells vd_cellCount qd_tunes vd_tuneCount qd_changes vd_changeCount) sz)) 0 0 (va_A (w_c_X0_stepAt cI cJ cB cZ cO qd vd_gap vd_odds vd_rain vd_lines qd_steps fd_steps qd_lengths qd_starts qd_met qd_stumbles vd_stumbleCount qd_muds qd_cells vd_cellCount qd_tunes vd_tuneCount qd_changes vd_changeCount) sz) := by
  refine Met.ofW (cc := cX0_stepAt) (maxL := 3) (ret := (some .int)) (by decide) rfl ?_
  intro p e s m args below meth c s₁ B hml hv
  obtain ⟨rfl, hsz, hP, hE, hD0, hH⟩ := hv
  have hx := B.exec
  have hb := B.bytes
  have hr := B.returns
  have hts := atoms_spec (ws := wsX0_stepAt) B.pre
  have hown : s.vm.findClass RX0 = some m.cls := findClass_of_methodNamed B.named
  have hlocks := B.notSynchronized
  have hK := hE.1
  have hi0 : ∀ w ∈ u_ws RX0 TX0 17, w ∈ wsX0_stepAt := fun w h => List.mem_cons_of_mem _ (List.mem_append_right _ h)
  subst hsz
  have hD := hD0.self (sz := s.heap.size)
  generalize hAe : va_A (w_c_X0_stepAt cI cJ cB cZ cO qd vd_gap vd_odds vd_rain vd_lines qd_steps fd_steps qd_lengths qd_starts qd_met qd_stumbles vd_stumbleCount qd_muds qd_cells vd_cellCount qd_tunes vd_tuneCount qd_changes vd_changeCount) s.heap.size = A at hD hH ⊢
  have hA : ∀ q : Nat, s.heap.size ≤ q → A q := fun q h => by rw [← hAe]; exact Or.inr h
  have hS : va_S A s.heap s.heap [] := va_S.rf
  obtain ⟨hP, hD⟩ : ct_B D A s.heap [dn qd vd_gap vd_odds vd_rain vd_lines qd_steps qd_lengths qd_starts qd_met qd_stumbles vd_stumbleCount qd_muds qd_cells vd_cellCount qd_tunes vd_tuneCount qd_changes vd_changeCount, (qd_steps, .inl (cI, 24, .inl (fd_steps)))] := ⟨hP, hD⟩
  have hl := lv_entry ([.ref qd, .int a1, .int a2]) (n := 3) (Nat.le_of_ble_eq_true rfl)
  rw [lg_entry_eq]
  generalize (lg_sl ([.ref qd, .int a1, .int a2]) ++ List.replicate (3 - (lg_sl ([.ref qd, .int a1, .int a2])).length) Slot.unset).toArray = ls at hl ⊢
  have hl : lv_has ls 3 [(0, .ref qd), (1, .int a1), (2, .int a2)] := hl
  obtain ⟨H, hHe⟩ : ∃ H : Heap, H = s.heap := ⟨_, rfl⟩
  rw [← hHe] at hP
  have hS : va_S A s.heap H [] := by rw [hHe]; exact va_S.rf
  refine ct_start hHe ?_
  refine lv_aload_n hx hb dX0_stepAt_0 rfl (lv_at hl 0 rfl) ?_
  refine va_get (D := D) (ci := 0) (v := .ref qd_steps) (C := RX0) (T := TX0) (N := 17) hx hb hts hi0 hown hK hP 0 rfl rfl 4 (by decide) (hts (.fieldLink RX0 9 "OverHill$Dance" "steps" "[I") (by decide +kernel)) (fun _ h9 => h9) rfl dX0_stepAt_1 ?_
  refine lv_iload_n hx hb dX0_stepAt_4 rfl (lv_at hl 1 rfl) ?_
  refine lv_bipush (v := 12) hx hb dX0_stepAt_5 (by decide) ?_
  refine lv_imul hx hb dX0_stepAt_7 ?_
  refine lv_topi (fun z1 ez1 => ?_)
  have fz1 : z1.toInt = a1.toInt * 12 := by rw [ez1]; exact tq_mul rfl (by decide) (by omega)
  refine lv_iload_n hx hb dX0_stepAt_8 rfl (lv_at hl 2 rfl) ?_
  refine lv_iadd hx hb dX0_stepAt_9 ?_
  refine lv_topi (fun z2 ez2 => ?_)
  have fz2 : z2.toInt = z1.toInt + a2.toInt := by rw [ez2]; exact tq_add rfl rfl (by omega)
  refine va_iald (D := D) hx hb hK hP 1 0 rfl rfl (tq_in rfl (by omega)) dX0_stepAt_10 ?_
  refine lv_topi (fun z3 ez3 => ?_)
  have fz3 : 0 ≤ z3.toInt ∧ z3.toInt ≤ 5 := by rw [ez3]; exact ar_get h_fd_steps z2 0 (by omega) (show z2.toInt % 1 = 0 by omega) rfl
  obtain ⟨hP9, hD9⟩ : ct_B D A H [dn qd vd_gap vd_odds vd_rain vd_lines qd_steps qd_lengths qd_starts qd_met qd_stumbles vd_stumbleCount qd_muds qd_cells vd_cellCount qd_tunes vd_tuneCount qd_changes vd_changeCount, (qd_steps, .inl (cI, 24, .inl (fd_steps)))] := ⟨hP.sub [0, 1] rfl, hD.sub [0, 1] (by decide) rfl⟩
  exact W.iret (v := z3) hx hb hr (fun t ht hW => ⟨⟨z3, (), rfl, fz3, by rw [ht]; exact hP9, hD9⟩, hS.F ht⟩) hS.2.2 dX0_stepAt_11
abbrev w_c_X0_mayMeet (cI cJ cB cZ cO : ClassId) (qd : Nat) (vd_gap : Int32) (vd_odds : Int32) (vd_rain : Int32) (vd_lines : Int32) (qd_steps : Nat) (qd_lengths : Nat) (qd_starts : Nat) (qd_met : Nat) (fd_met : Nat → Int32) (qd_stumbles : Nat) (vd_stumbleCount : Int32) (qd_muds : Nat) (qd_cells : Nat) (vd_cellCount : Int32) (qd_tunes : Nat) (vd_tuneCount : Int32) (qd_changes : Nat) (vd_changeCount : Int32) : va_W := [dn qd vd_gap vd_odds vd_rain vd_lines qd_steps qd_lengths qd_starts qd_met qd_stumbles vd_stumbleCount qd_muds qd_cells vd_cellCount qd_tunes vd_tuneCount qd_changes vd_changeCount, (qd_met, .inl (cI, 6, .inl (fd_met)))]
set_option maxHeartbeats 4000000 in
set_option maxRecDepth 100000 in
/-- X0 mayMeet -/
theorem c_X0_mayMeet (l : Launch) (D : va_G) (G : ct_G) (cI cJ cB cZ cO : ClassId) (qd : Nat) (vd_gap : Int32) (vd_odds : Int32) (vd_rain : Int32) (vd_lines : Int32) (qd_steps : Nat) (qd_lengths : Nat) (qd_starts : Nat) (qd_met : Nat) (fd_met : Nat → Int32) (qd_stumbles : Nat) (vd_stumbleCount : Int32) (qd_muds : Nat) (qd_cells : Nat) (vd_cellCount : Int32) (qd_tunes : Nat) (vd_tuneCount : Int32) (qd_changes : Nat) (vd_changeCount : Int32) (a1 : Int32) (a2 : Int32) (h_vd_gap : 0 ≤ vd_gap.toInt ∧ vd_gap.toInt ≤ 20) (h_vd_stumbleCount : 0 ≤ vd_stumbleCount.toInt ∧ vd_stumbleCount.toInt ≤ 8) (h_vd_cellCount : 0 ≤ vd_cellCount.toInt ∧ vd_cellCount.toInt ≤ 12) (h_vd_tuneCount : 0 ≤ vd_tuneCount.toInt ∧ vd_tuneCount.toInt ≤ 5) (h_vd_changeCount : 0 ≤ vd_changeCount.toInt ∧ vd_changeCount.toInt ≤ 40) (h_a2 : 0 ≤ a2.toInt ∧ a2.toInt ≤ 5) (sz : Nat) : Met l yX0_mayMeet wsX0_mayMeet ({ frames := 0, cells := 0, slots := 0, locals := 0 }) (va_Pc [.ref qd, .int a1, .int a2] (ct_P D (ct_T cI cJ cB cZ cO) G (w_c_X0_mayMeet cI cJ cB cZ cO qd vd_gap vd_odds vd_rain vd_lines qd_steps qd_lengths qd_starts qd_met fd_met qd_stumbles vd_stumbleCount qd_muds qd_cells vd_cellCount qd_tunes vd_tuneCount qd_changes vd_changeCount) sz)) (va_Qi (fun (rz : Int32) (u : Unit) => ((rz = 1 ∧ True) ∨ (rz = 0 ∧ True))) (fun (u : Unit) t => ct_Q D (va_A (w_c_X0_mayMeet cI cJ cB cZ cO qd vd_gap vd_odds vd_rain vd_lines qd_steps qd_lengths qd_starts qd_met fd_met qd_stumbles vd_stumbleCount qd_muds qd_cells vd_cellCount qd_tunes vd_tuneCount qd_changes vd_changeCount) sz) [dn qd vd_gap vd_odds vd_rain vd_lines qd_steps qd_lengths qd_starts qd_met qd_stumbles vd_stumbleCount qd_muds qd_cells vd_cellCount qd_tunes vd_tuneCount qd_changes vd_changeCount, (qd_met, .inl (cI, 6, .inl (fd_met)))] t) (va_A (w_c_X0_mayMeet cI cJ cB cZ cO qd vd_gap vd_odds vd_rain vd_lines qd_steps qd_lengths qd_starts qd_met fd_met qd_stumbles vd_stumbleCount qd_muds qd_cells vd_cellCount qd_tunes vd_tuneCount qd_changes vd_changeCount) sz)) 0 0 (va_A (w_c_X0_mayMeet cI cJ cB cZ cO qd vd_gap vd_odds vd_rain vd_lines qd_steps qd_lengths qd_starts qd_met fd_met qd_stumbles vd_stumbleCount qd_muds qd_cells vd_cellCount qd_tunes vd_tuneCount qd_changes vd_changeCount) sz) := by
  refine Met.ofW (cc := cX0_mayMeet) (maxL := 3) (ret := (some .boolean)) (by decide) rfl ?_
  intro p e s m args below meth c s₁ B hml hv
  obtain ⟨rfl, hsz, hP, hE, hD0, hH⟩ := hv
  have hx := B.exec
  have hb := B.bytes
  have hr := B.returns
  have hts := atoms_spec (ws := wsX0_mayMeet) B.pre
  have hown : s.vm.findClass RX0 = some m.cls := findClass_of_methodNamed B.named
  have hlocks := B.notSynchronized
  have hK := hE.1
  have hi0 : ∀ w ∈ u_ws RX0 TX0 17, w ∈ wsX0_mayMeet := fun w h => List.mem_cons_of_mem _ (List.mem_append_right _ h)
  subst hsz
  have hD := hD0.self (sz := s.heap.size)
  generalize hAe : va_A (w_c_X0_mayMeet cI cJ cB cZ cO qd vd_gap vd_odds vd_rain vd_lines qd_steps qd_lengths qd_starts qd_met fd_met qd_stumbles vd_stumbleCount qd_muds qd_cells vd_cellCount qd_tunes vd_tuneCount qd_changes vd_changeCount) s.heap.size = A at hD hH ⊢
  have hA : ∀ q : Nat, s.heap.size ≤ q → A q := fun q h => by rw [← hAe]; exact Or.inr h
  have hS : va_S A s.heap s.heap [] := va_S.rf
  obtain ⟨hP, hD⟩ : ct_B D A s.heap [dn qd vd_gap vd_odds vd_rain vd_lines qd_steps qd_lengths qd_starts qd_met qd_stumbles vd_stumbleCount qd_muds qd_cells vd_cellCount qd_tunes vd_tuneCount qd_changes vd_changeCount, (qd_met, .inl (cI, 6, .inl (fd_met)))] := ⟨hP, hD⟩
  have hl := lv_entry ([.ref qd, .int a1, .int a2]) (n := 3) (Nat.le_of_ble_eq_true rfl)
  rw [lg_entry_eq]
  generalize (lg_sl ([.ref qd, .int a1, .int a2]) ++ List.replicate (3 - (lg_sl ([.ref qd, .int a1, .int a2])).length) Slot.unset).toArray = ls at hl ⊢
  have hl : lv_has ls 3 [(0, .ref qd), (1, .int a1), (2, .int a2)] := hl
  obtain ⟨H, hHe⟩ : ∃ H : Heap, H = s.heap := ⟨_, rfl⟩
  rw [← hHe] at hP
  have hS : va_S A s.heap H [] := by rw [hHe]; exact va_S.rf
  refine ct_start hHe ?_
  refine lv_aload_n hx hb dX0_mayMeet_0 rfl (lv_at hl 0 rfl) ?_
  refine va_get (D := D) (ci := 0) (v := .ref qd_met) (C := RX0) (T := TX0) (N := 17) hx hb hts hi0 hown hK hP 0 rfl rfl 7 (by decide) (hts (.fieldLink RX0 21 "OverHill$Dance" "met" "[I") (by decide +kernel)) (fun _ h9 => h9) rfl dX0_mayMeet_1 ?_
  refine lv_iload_n hx hb dX0_mayMeet_4 rfl (lv_at hl 2 rfl) ?_
  refine va_iald (D := D) hx hb hK hP 1 0 rfl rfl (tq_in rfl (by omega)) dX0_mayMeet_5 ?_
  refine lv_topi (fun z1 ez1 => ?_)
  refine lv_iload_n hx hb dX0_mayMeet_6 rfl (lv_at hl 1 rfl) ?_
  refine lv_ishr hx hb dX0_mayMeet_7 ?_
  refine lv_topi (fun z2 ez2 => ?_)
  refine lv_iconst (v := 1) hx hb dX0_mayMeet_8 (by decide) ?_
  refine lv_iand hx hb dX0_mayMeet_9 ?_
  refine lv_topi (fun z3 ez3 => ?_)
  have fz3 : 0 ≤ z3.toInt ∧ z3.toInt ≤ 1 := by rw [ez3]; exact tq_and (c := 1) (by decide) (by omega)
  refine lv_if_eq (tgt := 17) hx hb dX0_mayMeet_10 (by decide) (fun hc => ?_) (fun hc => ?_)
  · have hq4 : z3.toInt = 0 := tq_eq rfl (by decide) hc
    refine lv_iconst (v := 0) hx hb dX0_mayMeet_17 (by decide) ?_
    obtain ⟨hP9, hD9⟩ : ct_B D A H [dn qd vd_gap vd_odds vd_rain vd_lines qd_steps qd_lengths qd_starts qd_met qd_stumbles vd_stumbleCount qd_muds qd_cells vd_cellCount qd_tunes vd_tuneCount qd_changes vd_changeCount, (qd_met, .inl (cI, 6, .inl (fd_met)))] := ⟨hP.sub [0, 1] rfl, hD.sub [0, 1] (by decide) rfl⟩
    exact W.zret (v := 0) (ty := .boolean) hx hb hr rfl (fun t ht hW => ⟨⟨0, (), rfl, (Or.inr (⟨rfl, trivial⟩)), by rw [ht]; exact hP9, hD9⟩, hS.F ht⟩) hS.2.2 dX0_mayMeet_18
  · have hq4 : z3.toInt ≠ 0 := tq_ne rfl (by decide) hc
    refine lv_iconst (v := 1) hx hb dX0_mayMeet_13 (by decide) ?_
    refine lv_goto (tgt := 18) hx hb dX0_mayMeet_14 (by decide) ?_
    obtain ⟨hP9, hD9⟩ : ct_B D A H [dn qd vd_gap vd_odds vd_rain vd_lines qd_steps qd_lengths qd_starts qd_met qd_stumbles vd_stumbleCount qd_muds qd_cells vd_cellCount qd_tunes vd_tuneCount qd_changes vd_changeCount, (qd_met, .inl (cI, 6, .inl (fd_met)))] := ⟨hP.sub [0, 1] rfl, hD.sub [0, 1] (by decide) rfl⟩
    exact W.zret (v := 1) (ty := .boolean) hx hb hr rfl (fun t ht hW => ⟨⟨1, (), rfl, (Or.inl ⟨rfl, trivial⟩), by rw [ht]; exact hP9, hD9⟩, hS.F ht⟩) hS.2.2 dX0_mayMeet_18
abbrev w_c_X0_isHole (cI cJ cB cZ cO : ClassId) (qd : Nat) (vd_gap : Int32) (vd_odds : Int32) (vd_rain : Int32) (vd_lines : Int32) (qd_steps : Nat) (qd_lengths : Nat) (qd_starts : Nat) (qd_met : Nat) (fd_met : Nat → Int32) (qd_stumbles : Nat) (vd_stumbleCount : Int32) (qd_muds : Nat) (qd_cells : Nat) (vd_cellCount : Int32) (qd_tunes : Nat) (vd_tuneCount : Int32) (qd_changes : Nat) (vd_changeCount : Int32) : va_W := [dn qd vd_gap vd_odds vd_rain vd_lines qd_steps qd_lengths qd_starts qd_met qd_stumbles vd_stumbleCount qd_muds qd_cells vd_cellCount qd_tunes vd_tuneCount qd_changes vd_changeCount, (qd_met, .inl (cI, 6, .inl (fd_met)))]
set_option maxHeartbeats 4000000 in
set_option maxRecDepth 100000 in
/-- X0 isHole -/
theorem c_X0_isHole (l : Launch) (D : va_G) (G : ct_G) (cI cJ cB cZ cO : ClassId) (qd : Nat) (vd_gap : Int32) (vd_odds : Int32) (vd_rain : Int32) (vd_lines : Int32) (qd_steps : Nat) (qd_lengths : Nat) (qd_starts : Nat) (qd_met : Nat) (fd_met : Nat → Int32) (qd_stumbles : Nat) (vd_stumbleCount : Int32) (qd_muds : Nat) (qd_cells : Nat) (vd_cellCount : Int32) (qd_tunes : Nat) (vd_tuneCount : Int32) (qd_changes : Nat) (vd_changeCount : Int32) (a1 : Int32) (a2 : Int32) (h_vd_gap : 0 ≤ vd_gap.toInt ∧ vd_gap.toInt ≤ 20) (h_vd_stumbleCount : 0 ≤ vd_stumbleCount.toInt ∧ vd_stumbleCount.toInt ≤ 8) (h_vd_cellCount : 0 ≤ vd_cellCount.toInt ∧ vd_cellCount.toInt ≤ 12) (h_vd_tuneCount : 0 ≤ vd_tuneCount.toInt ∧ vd_tuneCount.toInt ≤ 5) (h_vd_changeCount : 0 ≤ vd_changeCount.toInt ∧ vd_changeCount.toInt ≤ 40) (h_a1 : (-1) ≤ a1.toInt ∧ a1.toInt ≤ 5) (sz : Nat) : Met l yX0_isHole wsX0_isHole ({ frames := 1, cells := 0, slots := 0, locals := 22 }) (va_Pc [.ref qd, .int a1, .int a2] (ct_P D (ct_T cI cJ cB cZ cO) G (w_c_X0_isHole cI cJ cB cZ cO qd vd_gap vd_odds vd_rain vd_lines qd_steps qd_lengths qd_starts qd_met fd_met qd_stumbles vd_stumbleCount qd_muds qd_cells vd_cellCount qd_tunes vd_tuneCount qd_changes vd_changeCount) sz)) (va_Qi (fun (rz : Int32) (u : Unit) => ((rz = 1 ∧ True) ∨ (rz = 0 ∧ True))) (fun (u : Unit) t => ct_Q D (va_A (w_c_X0_isHole cI cJ cB cZ cO qd vd_gap vd_odds vd_rain vd_lines qd_steps qd_lengths qd_starts qd_met fd_met qd_stumbles vd_stumbleCount qd_muds qd_cells vd_cellCount qd_tunes vd_tuneCount qd_changes vd_changeCount) sz) [dn qd vd_gap vd_odds vd_rain vd_lines qd_steps qd_lengths qd_starts qd_met qd_stumbles vd_stumbleCount qd_muds qd_cells vd_cellCount qd_tunes vd_tuneCount qd_changes vd_changeCount, (qd_met, .inl (cI, 6, .inl (fd_met)))] t) (va_A (w_c_X0_isHole cI cJ cB cZ cO qd vd_gap vd_odds vd_rain vd_lines qd_steps qd_lengths qd_starts qd_met fd_met qd_stumbles vd_stumbleCount qd_muds qd_cells vd_cellCount qd_tunes vd_tuneCount qd_changes vd_changeCount) sz)) 0 0 (va_A (w_c_X0_isHole cI cJ cB cZ cO qd vd_gap vd_odds vd_rain vd_lines qd_steps qd_lengths qd_starts qd_met fd_met qd_stumbles vd_stumbleCount qd_muds qd_cells vd_cellCount qd_tunes vd_tuneCount qd_changes vd_changeCount) sz) := by
  refine Met.ofW (cc := cX0_isHole) (maxL := 3) (ret := (some .boolean)) (by decide) rfl ?_
  intro p e s m args below meth c s₁ B hml hv
  obtain ⟨rfl, hsz, hP, hE, hD0, hH⟩ := hv
  have hx := B.exec
  have hb := B.bytes
  have hr := B.returns
  have hts := atoms_spec (ws := wsX0_isHole) B.pre
  have hown : s.vm.findClass RX0 = some m.cls := findClass_of_methodNamed B.named
  have hlocks := B.notSynchronized
  have hK := hE.1
  subst hsz
  have hD := hD0.self (sz := s.heap.size)
  generalize hAe : va_A (w_c_X0_isHole cI cJ cB cZ cO qd vd_gap vd_odds vd_rain vd_lines qd_steps qd_lengths qd_starts qd_met fd_met qd_stumbles vd_stumbleCount qd_muds qd_cells vd_cellCount qd_tunes vd_tuneCount qd_changes vd_changeCount) s.heap.size = A at hD hH ⊢
  have hA : ∀ q : Nat, s.heap.size ≤ q → A q := fun q h => by rw [← hAe]; exact Or.inr h
  have hS : va_S A s.heap s.heap [] := va_S.rf
  obtain ⟨hP, hD⟩ : ct_B D A s.heap [dn qd vd_gap vd_odds vd_rain vd_lines qd_steps qd_lengths qd_starts qd_met qd_stumbles vd_stumbleCount qd_muds qd_cells vd_cellCount qd_tunes vd_tuneCount qd_changes vd_changeCount, (qd_met, .inl (cI, 6, .inl (fd_met)))] := ⟨hP, hD⟩
  have hl := lv_entry ([.ref qd, .int a1, .int a2]) (n := 3) (Nat.le_of_ble_eq_true rfl)
  rw [lg_entry_eq]
  generalize (lg_sl ([.ref qd, .int a1, .int a2]) ++ List.replicate (3 - (lg_sl ([.ref qd, .int a1, .int a2])).length) Slot.unset).toArray = ls at hl ⊢
  have hl : lv_has ls 3 [(0, .ref qd), (1, .int a1), (2, .int a2)] := hl
  obtain ⟨H, hHe⟩ : ∃ H : Heap, H = s.heap := ⟨_, rfl⟩
  rw [← hHe] at hP
  have hS : va_S A s.heap H [] := by rw [hHe]; exact va_S.rf
  refine ct_start hHe ?_
  refine lv_iload_n hx hb dX0_isHole_0 rfl (lv_at hl 1 rfl) ?_
  refine lv_iconst (v := (-1)) hx hb dX0_isHole_1 (by decide) ?_
  refine lv_icmp_eq (tgt := 23) hx hb dX0_isHole_2 (by decide) (fun hc => ?_) (fun hc => ?_)
  · have hq1 : a1.toInt = (-1) := tq_eq rfl (by decide) hc
    refine lv_iconst (v := 0) hx hb dX0_isHole_23 (by decide) ?_
    obtain ⟨hP9, hD9⟩ : ct_B D A H [dn qd vd_gap vd_odds vd_rain vd_lines qd_steps qd_lengths qd_starts qd_met qd_stumbles vd_stumbleCount qd_muds qd_cells vd_cellCount qd_tunes vd_tuneCount qd_changes vd_changeCount, (qd_met, .inl (cI, 6, .inl (fd_met)))] := ⟨hP.sub [0, 1] rfl, hD.sub [0, 1] (by decide) rfl⟩
    exact W.zret (v := 0) (ty := .boolean) hx hb hr rfl (fun t ht hW => ⟨⟨0, (), rfl, (Or.inr (⟨rfl, trivial⟩)), by rw [ht]; exact hP9, hD9⟩, hS.F ht⟩) hS.2.2 dX0_isHole_24
  · have hq1 : a1.toInt ≠ (-1) := tq_ne rfl (by decide) hc
    refine lv_iload_n hx hb dX0_isHole_5 rfl (lv_at hl 2 rfl) ?_
    refine lv_iconst (v := (-1)) hx hb dX0_isHole_6 (by decide) ?_
    refine lv_icmp_eq (tgt := 23) hx hb dX0_isHole_7 (by decide) (fun hc => ?_) (fun hc => ?_)
    · have hq2 : a2.toInt = (-1) := tq_eq rfl (by decide) hc
      have hb3 := tq_lo a2
      refine lv_iconst (v := 0) hx hb dX0_isHole_23 (by decide) ?_
      obtain ⟨hP9, hD9⟩ : ct_B D A H [dn qd vd_gap vd_odds vd_rain vd_lines qd_steps qd_lengths qd_starts qd_met qd_stumbles vd_stumbleCount qd_muds qd_cells vd_cellCount qd_tunes vd_tuneCount qd_changes vd_changeCount, (qd_met, .inl (cI, 6, .inl (fd_met)))] := ⟨hP.sub [0, 1] rfl, hD.sub [0, 1] (by decide) rfl⟩
      exact W.zret (v := 0) (ty := .boolean) hx hb hr rfl (fun t ht hW => ⟨⟨0, (), rfl, (Or.inr (⟨rfl, trivial⟩)), by rw [ht]; exact hP9, hD9⟩, hS.F ht⟩) hS.2.2 dX0_isHole_24
    · have hq2 : a2.toInt ≠ (-1) := tq_ne rfl (by decide) hc
      have hb4 := tq_lo a2
      refine lv_aload_n hx hb dX0_isHole_10 rfl (lv_at hl 0 rfl) ?_
      refine lv_iload_n hx hb dX0_isHole_11 rfl (lv_at hl 2 rfl) ?_
      refine lv_iload_n hx hb dX0_isHole_12 rfl (lv_at hl 1 rfl) ?_
      refine ct_calli (D := D) (wr := []) (va_runV (As := [.int a2, .int a1]) (rest := []) ⟨hx, hb, hml, hown, hts⟩ (c_X0_mayMeet l D G cI cJ cB cZ cO qd vd_gap vd_odds vd_rain vd_lines qd_steps qd_lengths qd_starts qd_met fd_met qd_stumbles vd_stumbleCount qd_muds qd_cells vd_cellCount qd_tunes vd_tuneCount qd_changes vd_changeCount a2 a1 h_vd_gap h_vd_stumbleCount h_vd_cellCount h_vd_tuneCount h_vd_changeCount (by omega) H.size) (cwV 2 hts gX0_isHole_X0_mayMeet rfl rfl rfl (by decide +kernel) ⟨Nat.le_of_ble_eq_true rfl, Nat.le_of_ble_eq_true rfl⟩) (ct_preV (T := ct_T cI cJ cB cZ cO) (ci := 0) (q0 := 0) hE hH hP hD hS hA [0, 1] (by decide) rfl rfl rfl) rfl rfl hl.1 rfl (lv_room (Nat.le_of_ble_eq_true rfl)) dX0_isHole_13 ⟨Nat.le_of_ble_eq_true rfl, Nat.le_of_ble_eq_true rfl⟩) hP hD hS hA [0, 1] [] rfl rfl (by decide) (by decide) (fun r5 u H locs hw hP hD hS => ?_)
      obtain ⟨hP, hD⟩ : ct_B D A H [dn qd vd_gap vd_odds vd_rain vd_lines qd_steps qd_lengths qd_starts qd_met qd_stumbles vd_stumbleCount qd_muds qd_cells vd_cellCount qd_tunes vd_tuneCount qd_changes vd_changeCount, (qd_met, .inl (cI, 6, .inl (fd_met)))] := ⟨hP, hD⟩
      have hz := hw
      rcases hz with ⟨hz, hz2⟩ | ⟨hz, hz2⟩
      · subst hz
        refine lv_if_ne (tgt := 23) hx hb dX0_isHole_16 (by decide) (fun _ => ?_) (fun hc => absurd hc (by decide))
        refine lv_iconst (v := 0) hx hb dX0_isHole_23 (by decide) ?_
        obtain ⟨hP9, hD9⟩ : ct_B D A H [dn qd vd_gap vd_odds vd_rain vd_lines qd_steps qd_lengths qd_starts qd_met qd_stumbles vd_stumbleCount qd_muds qd_cells vd_cellCount qd_tunes vd_tuneCount qd_changes vd_changeCount, (qd_met, .inl (cI, 6, .inl (fd_met)))] := ⟨hP.sub [0, 1] rfl, hD.sub [0, 1] (by decide) rfl⟩
        exact W.zret (v := 0) (ty := .boolean) hx hb hr rfl (fun t ht hW => ⟨⟨0, (), rfl, (Or.inr (⟨rfl, trivial⟩)), by rw [ht]; exact hP9, hD9⟩, hS.F ht⟩) hS.2.2 dX0_isHole_24
      · subst hz
        refine lv_if_ne (tgt := 23) hx hb dX0_isHole_16 (by decide) (fun hc => absurd hc (by decide)) (fun _ => ?_)
        refine lv_iconst (v := 1) hx hb dX0_isHole_19 (by decide) ?_
        refine lv_goto (tgt := 24) hx hb dX0_isHole_20 (by decide) ?_
        obtain ⟨hP9, hD9⟩ : ct_B D A H [dn qd vd_gap vd_odds vd_rain vd_lines qd_steps qd_lengths qd_starts qd_met qd_stumbles vd_stumbleCount qd_muds qd_cells vd_cellCount qd_tunes vd_tuneCount qd_changes vd_changeCount, (qd_met, .inl (cI, 6, .inl (fd_met)))] := ⟨hP.sub [0, 1] rfl, hD.sub [0, 1] (by decide) rfl⟩
        exact W.zret (v := 1) (ty := .boolean) hx hb hr rfl (fun t ht hW => ⟨⟨1, (), rfl, (Or.inl ⟨rfl, trivial⟩), by rw [ht]; exact hP9, hD9⟩, hS.F ht⟩) hS.2.2 dX0_isHole_24
abbrev w_c_X0_stumbleOf (cI cJ cB cZ cO : ClassId) (qd : Nat) (vd_gap : Int32) (vd_odds : Int32) (vd_rain : Int32) (vd_lines : Int32) (qd_steps : Nat) (qd_lengths : Nat) (qd_starts : Nat) (qd_met : Nat) (qd_stumbles : Nat) (fd_stumbles : Nat → Int32) (vd_stumbleCount : Int32) (qd_muds : Nat) (qd_cells : Nat) (vd_cellCount : Int32) (qd_tunes : Nat) (vd_tuneCount : Int32) (qd_changes : Nat) (vd_changeCount : Int32) : va_W := [dn qd vd_gap vd_odds vd_rain vd_lines qd_steps qd_lengths qd_starts qd_met qd_stumbles vd_stumbleCount qd_muds qd_cells vd_cellCount qd_tunes vd_tuneCount qd_changes vd_changeCount, (qd_stumbles, .inl (cI, 32, .inl (fd_stumbles)))]
set_option maxHeartbeats 4000000 in
set_option maxRecDepth 100000 in
/-- X0 stumbleOf -/
theorem c_X0_stumbleOf (l : Launch) (D : va_G) (G : ct_G) (cI cJ cB cZ cO : ClassId) (qd : Nat) (vd_gap : Int32) (vd_odds : Int32) (vd_rain : Int32) (vd_lines : Int32) (qd_steps : Nat) (qd_lengths : Nat) (qd_starts : Nat) (qd_met : Nat) (qd_stumbles : Nat) (fd_stumbles : Nat → Int32) (vd_stumbleCount : Int32) (qd_muds : Nat) (qd_cells : Nat) (vd_cellCount : Int32) (qd_tunes : Nat) (vd_tuneCount : Int32) (qd_changes : Nat) (vd_changeCount : Int32) (a1 : Int32) (a2 : Int32) (h_vd_gap : 0 ≤ vd_gap.toInt ∧ vd_gap.toInt ≤ 20) (h_fd_stumbles : ar_ok [(-2147483648), 0, 0, (-2147483648)] [2147483647, 199, 5, 2147483647] fd_stumbles) (h_vd_stumbleCount : 0 ≤ vd_stumbleCount.toInt ∧ vd_stumbleCount.toInt ≤ 8) (h_vd_cellCount : 0 ≤ vd_cellCount.toInt ∧ vd_cellCount.toInt ≤ 12) (h_vd_tuneCount : 0 ≤ vd_tuneCount.toInt ∧ vd_tuneCount.toInt ≤ 5) (h_vd_changeCount : 0 ≤ vd_changeCount.toInt ∧ vd_changeCount.toInt ≤ 40) (sz : Nat) : Met l yX0_stumbleOf wsX0_stumbleOf ({ frames := 0, cells := 0, slots := 0, locals := 0 }) (va_Pc [.ref qd, .int a1, .int a2] (ct_P D (ct_T cI cJ cB cZ cO) G (w_c_X0_stumbleOf cI cJ cB cZ cO qd vd_gap vd_odds vd_rain vd_lines qd_steps qd_lengths qd_starts qd_met qd_stumbles fd_stumbles vd_stumbleCount qd_muds qd_cells vd_cellCount qd_tunes vd_tuneCount qd_changes vd_changeCount) sz)) (va_Qi (fun (rz : Int32) (u : Unit) => ((-1) ≤ rz.toInt ∧ rz.toInt ≤ 7)) (fun (u : Unit) t => ct_Q D (va_A (w_c_X0_stumbleOf cI cJ cB cZ cO qd vd_gap vd_odds vd_rain vd_lines qd_steps qd_lengths qd_starts qd_met qd_stumbles fd_stumbles vd_stumbleCount qd_muds qd_cells vd_cellCount qd_tunes vd_tuneCount qd_changes vd_changeCount) sz) [dn qd vd_gap vd_odds vd_rain vd_lines qd_steps qd_lengths qd_starts qd_met qd_stumbles vd_stumbleCount qd_muds qd_cells vd_cellCount qd_tunes vd_tuneCount qd_changes vd_changeCount, (qd_stumbles, .inl (cI, 32, .inl (fd_stumbles)))] t) (va_A (w_c_X0_stumbleOf cI cJ cB cZ cO qd vd_gap vd_odds vd_rain vd_lines qd_steps qd_lengths qd_starts qd_met qd_stumbles fd_stumbles vd_stumbleCount qd_muds qd_cells vd_cellCount qd_tunes vd_tuneCount qd_changes vd_changeCount) sz)) 0 0 (va_A (w_c_X0_stumbleOf cI cJ cB cZ cO qd vd_gap vd_odds vd_rain vd_lines qd_steps qd_lengths qd_starts qd_met qd_stumbles fd_stumbles vd_stumbleCount qd_muds qd_cells vd_cellCount qd_tunes vd_tuneCount qd_changes vd_changeCount) sz) := by
  refine Met.ofW (cc := cX0_stumbleOf) (maxL := 5) (ret := (some .int)) (by decide) rfl ?_
  intro p e s m args below meth c s₁ B hml hv
  obtain ⟨rfl, hsz, hP, hE, hD0, hH⟩ := hv
  have hx := B.exec
  have hb := B.bytes
  have hr := B.returns
  have hts := atoms_spec (ws := wsX0_stumbleOf) B.pre
  have hown : s.vm.findClass RX0 = some m.cls := findClass_of_methodNamed B.named
  have hlocks := B.notSynchronized
  have hK := hE.1
  have hi0 : ∀ w ∈ u_ws RX0 TX0 17, w ∈ wsX0_stumbleOf := fun w h => List.mem_cons_of_mem _ (List.mem_append_right _ h)
  subst hsz
  have hD := hD0.self (sz := s.heap.size)
  generalize hAe : va_A (w_c_X0_stumbleOf cI cJ cB cZ cO qd vd_gap vd_odds vd_rain vd_lines qd_steps qd_lengths qd_starts qd_met qd_stumbles fd_stumbles vd_stumbleCount qd_muds qd_cells vd_cellCount qd_tunes vd_tuneCount qd_changes vd_changeCount) s.heap.size = A at hD hH ⊢
  have hA : ∀ q : Nat, s.heap.size ≤ q → A q := fun q h => by rw [← hAe]; exact Or.inr h
  have hS : va_S A s.heap s.heap [] := va_S.rf
  obtain ⟨hP, hD⟩ : ct_B D A s.heap [dn qd vd_gap vd_odds vd_rain vd_lines qd_steps qd_lengths qd_starts qd_met qd_stumbles vd_stumbleCount qd_muds qd_cells vd_cellCount qd_tunes vd_tuneCount qd_changes vd_changeCount, (qd_stumbles, .inl (cI, 32, .inl (fd_stumbles)))] := ⟨hP, hD⟩
  have hl := lv_entry ([.ref qd, .int a1, .int a2]) (n := 5) (Nat.le_of_ble_eq_true rfl)
  rw [lg_entry_eq]
  generalize (lg_sl ([.ref qd, .int a1, .int a2]) ++ List.replicate (5 - (lg_sl ([.ref qd, .int a1, .int a2])).length) Slot.unset).toArray = ls at hl ⊢
  have hl : lv_has ls 5 [(0, .ref qd), (1, .int a1), (2, .int a2)] := hl
  obtain ⟨H, hHe⟩ : ∃ H : Heap, H = s.heap := ⟨_, rfl⟩
  rw [← hHe] at hP
  have hS : va_S A s.heap H [] := by rw [hHe]; exact va_S.rf
  refine ct_start hHe ?_
  refine lv_iconst (v := 0) hx hb dX0_stumbleOf_0 (by decide) ?_
  refine lv_istore_n (lv' := [(3, .int 0), (0, .ref qd), (1, .int a1), (2, .int a2)]) hx hb dX0_stumbleOf_1 rfl hl (by decide) rfl (fun ls hl => ?_)
  refine ct_loop (X := Int32) (fun x => (8 - x.toInt).toNat) (fun x H locs ls => ((0 ≤ x.toInt ∧ x.toInt ≤ 8)) ∧ ct_B D A H [dn qd vd_gap vd_odds vd_rain vd_lines qd_steps qd_lengths qd_starts qd_met qd_stumbles vd_stumbleCount qd_muds qd_cells vd_cellCount qd_tunes vd_tuneCount qd_changes vd_changeCount, (qd_stumbles, .inl (cI, 32, .inl (fd_stumbles)))] ∧ va_S A s.heap H locs ∧ lv_has ls 5 [(3, .int x), (0, .ref qd), (1, .int a1), (2, .int a2)]) 2 (0 : Int32) ⟨(show 0 ≤ (0 : Int32).toInt ∧ (0 : Int32).toInt ≤ 8 by decide), ⟨hP, hD⟩, hS, lv_sub hl [0, 1, 2, 3] rfl⟩ (fun x ih143 H locs ls hI => ?_)
  obtain ⟨x142, rfl⟩ : ∃ z, z = x := ⟨_, rfl⟩
  obtain ⟨h_x142, ⟨hP, hD⟩, hS, hl⟩ := hI
  have h_x142 : (0 ≤ x142.toInt ∧ x142.toInt ≤ 8) := h_x142
  obtain ⟨hP, hD⟩ : ct_B D A H [dn qd vd_gap vd_odds vd_rain vd_lines qd_steps qd_lengths qd_starts qd_met qd_stumbles vd_stumbleCount qd_muds qd_cells vd_cellCount qd_tunes vd_tuneCount qd_changes vd_changeCount, (qd_stumbles, .inl (cI, 32, .inl (fd_stumbles)))] := ⟨hP, hD⟩
  have hl : lv_has ls 5 [(3, .int x142), (0, .ref qd), (1, .int a1), (2, .int a2)] := hl
  refine lv_iload_n hx hb dX0_stumbleOf_2 rfl (lv_at hl 0 rfl) ?_
  refine lv_aload_n hx hb dX0_stumbleOf_3 rfl (lv_at hl 1 rfl) ?_
  refine va_get (D := D) (ci := 0) (v := .int vd_stumbleCount) (C := RX0) (T := TX0) (N := 17) hx hb hts hi0 hown hK hP 0 rfl rfl 9 (by decide) (hts (.fieldLink RX0 58 "OverHill$Dance" "stumbleCount" "I") (by decide +kernel)) (fun _ h9 => h9) rfl dX0_stumbleOf_4 ?_
  refine lv_icmp_ge (tgt := 47) hx hb dX0_stumbleOf_7 (by decide) (fun hc => ?_) (fun hc => ?_)
  · have hq144 : vd_stumbleCount.toInt ≤ x142.toInt := tq_le rfl rfl hc
    refine lv_iconst (v := (-1)) hx hb dX0_stumbleOf_47 (by decide) ?_
    obtain ⟨hP9, hD9⟩ : ct_B D A H [dn qd vd_gap vd_odds vd_rain vd_lines qd_steps qd_lengths qd_starts qd_met qd_stumbles vd_stumbleCount qd_muds qd_cells vd_cellCount qd_tunes vd_tuneCount qd_changes vd_changeCount, (qd_stumbles, .inl (cI, 32, .inl (fd_stumbles)))] := ⟨hP.sub [0, 1] rfl, hD.sub [0, 1] (by decide) rfl⟩
    exact W.iret (v := (-1)) hx hb hr (fun t ht hW => ⟨⟨(-1), (), rfl, (show (-1) ≤ (-1 : Int32).toInt ∧ (-1 : Int32).toInt ≤ 7 by decide), by rw [ht]; exact hP9, hD9⟩, hS.F ht⟩) hS.2.2 dX0_stumbleOf_48
  · have hq144 : x142.toInt < vd_stumbleCount.toInt := tq_nle rfl rfl hc
    refine lv_iload_n hx hb dX0_stumbleOf_10 rfl (lv_at hl 0 rfl) ?_
    refine lv_iconst (v := 4) hx hb dX0_stumbleOf_11 (by decide) ?_
    refine lv_imul hx hb dX0_stumbleOf_12 ?_
    refine lv_topi (fun z145 ez145 => ?_)
    have fz145 : z145.toInt = x142.toInt * 4 := by rw [ez145]; exact tq_mul rfl (by decide) (by omega)
    refine lv_istore (lv' := [(4, .int z145), (3, .int x142), (0, .ref qd), (1, .int a1), (2, .int a2)]) hx hb dX0_stumbleOf_13 hl (by decide) rfl (fun ls hl => ?_)
    refine lv_aload_n hx hb dX0_stumbleOf_15 rfl (lv_at hl 2 rfl) ?_
    refine va_get (D := D) (ci := 0) (v := .ref qd_stumbles) (C := RX0) (T := TX0) (N := 17) hx hb hts hi0 hown hK hP 0 rfl rfl 8 (by decide) (hts (.fieldLink RX0 24 "OverHill$Dance" "stumbles" "[I") (by decide +kernel)) (fun _ h9 => h9) rfl dX0_stumbleOf_16 ?_
    refine lv_iload hx hb dX0_stumbleOf_19 (lv_at hl 0 rfl) ?_
    refine va_iald (D := D) hx hb hK hP 1 0 rfl rfl (tq_in rfl (by omega)) dX0_stumbleOf_21 ?_
    refine lv_topi (fun z146 ez146 => ?_)
    refine lv_iload_n hx hb dX0_stumbleOf_22 rfl (lv_at hl 3 rfl) ?_
    refine lv_icmp_ne (tgt := 41) hx hb dX0_stumbleOf_23 (by decide) (fun hc => ?_) (fun hc => ?_)
    · have hq147 : z146.toInt ≠ a1.toInt := tq_ne rfl rfl hc
      have hb148 := tq_lo z146
      have hb149 := tq_lo a1
      obtain ⟨z150, ez150⟩ : ∃ z : Int32, z = x142 + 1 := ⟨_, rfl⟩
      have fz150 : z150.toInt = x142.toInt + 1 := by rw [ez150]; exact tq_add rfl (by decide) (by omega)
      refine lv_iinc (v := z150) (lv' := [(3, .int z150), (4, .int z145), (0, .ref qd), (1, .int a1), (2, .int a2)]) hx hb dX0_stumbleOf_41 hl (k := 1) rfl ez150.symm (by decide) rfl (fun ls hl => ?_)
      refine lv_goto (tgt := 2) hx hb dX0_stumbleOf_44 (by decide) ?_
      exact ih143 z150 _ _ _ (show (8 - z150.toInt).toNat < (8 - x142.toInt).toNat by omega) ⟨(show 0 ≤ z150.toInt ∧ z150.toInt ≤ 8 by omega), ⟨hP, hD⟩, hS, lv_sub hl [0, 2, 3, 4] rfl⟩
    · have hq147 : z146.toInt = a1.toInt := tq_eq rfl rfl hc
      have hb151 := tq_lo z146
      have hb152 := tq_lo a1
      refine lv_aload_n hx hb dX0_stumbleOf_26 rfl (lv_at hl 2 rfl) ?_
      refine va_get (D := D) (ci := 0) (v := .ref qd_stumbles) (C := RX0) (T := TX0) (N := 17) hx hb hts hi0 hown hK hP 0 rfl rfl 8 (by decide) (hts (.fieldLink RX0 24 "OverHill$Dance" "stumbles" "[I") (by decide +kernel)) (fun _ h9 => h9) rfl dX0_stumbleOf_27 ?_
      refine lv_iload hx hb dX0_stumbleOf_30 (lv_at hl 0 rfl) ?_
      refine lv_iconst (v := 1) hx hb dX0_stumbleOf_32 (by decide) ?_
      refine lv_iadd hx hb dX0_stumbleOf_33 ?_
      refine lv_topi (fun z153 ez153 => ?_)
      have fz153 : z153.toInt = z145.toInt + 1 := by rw [ez153]; exact tq_add rfl (by decide) (by omega)
      refine va_iald (D := D) hx hb hK hP 1 0 rfl rfl (tq_in rfl (by omega)) dX0_stumbleOf_34 ?_
      refine lv_topi (fun z154 ez154 => ?_)
      have fz154 : 0 ≤ z154.toInt ∧ z154.toInt ≤ 199 := by rw [ez154]; exact ar_get h_fd_stumbles z153 1 (by omega) (show z153.toInt % 4 = 1 by omega) rfl
      refine lv_iload_n hx hb dX0_stumbleOf_35 rfl (lv_at hl 4 rfl) ?_
      refine lv_icmp_ne (tgt := 41) hx hb dX0_stumbleOf_36 (by decide) (fun hc => ?_) (fun hc => ?_)
      · have hq155 : z154.toInt ≠ a2.toInt := tq_ne rfl rfl hc
        have hb156 := tq_lo a2
        obtain ⟨z157, ez157⟩ : ∃ z : Int32, z = x142 + 1 := ⟨_, rfl⟩
        have fz157 : z157.toInt = x142.toInt + 1 := by rw [ez157]; exact tq_add rfl (by decide) (by omega)
        refine lv_iinc (v := z157) (lv' := [(3, .int z157), (4, .int z145), (0, .ref qd), (1, .int a1), (2, .int a2)]) hx hb dX0_stumbleOf_41 hl (k := 1) rfl ez157.symm (by decide) rfl (fun ls hl => ?_)
        refine lv_goto (tgt := 2) hx hb dX0_stumbleOf_44 (by decide) ?_
        exact ih143 z157 _ _ _ (show (8 - z157.toInt).toNat < (8 - x142.toInt).toNat by omega) ⟨(show 0 ≤ z157.toInt ∧ z157.toInt ≤ 8 by omega), ⟨hP, hD⟩, hS, lv_sub hl [0, 2, 3, 4] rfl⟩
      · have hq155 : z154.toInt = a2.toInt := tq_eq rfl rfl hc
        have hb158 := tq_lo a2
        refine lv_iload_n hx hb dX0_stumbleOf_39 rfl (lv_at hl 1 rfl) ?_
        obtain ⟨hP9, hD9⟩ : ct_B D A H [dn qd vd_gap vd_odds vd_rain vd_lines qd_steps qd_lengths qd_starts qd_met qd_stumbles vd_stumbleCount qd_muds qd_cells vd_cellCount qd_tunes vd_tuneCount qd_changes vd_changeCount, (qd_stumbles, .inl (cI, 32, .inl (fd_stumbles)))] := ⟨hP.sub [0, 1] rfl, hD.sub [0, 1] (by decide) rfl⟩
        exact W.iret (v := x142) hx hb hr (fun t ht hW => ⟨⟨x142, (), rfl, (show (-1) ≤ x142.toInt ∧ x142.toInt ≤ 7 by omega), by rw [ht]; exact hP9, hD9⟩, hS.F ht⟩) hS.2.2 dX0_stumbleOf_40
abbrev w_c_X0_addCell (cI cJ cB cZ cO : ClassId) (qd : Nat) (vd_gap : Int32) (vd_odds : Int32) (vd_rain : Int32) (vd_lines : Int32) (qd_steps : Nat) (qd_lengths : Nat) (qd_starts : Nat) (qd_met : Nat) (qd_stumbles : Nat) (vd_stumbleCount : Int32) (qd_muds : Nat) (qd_cells : Nat) (fd_cells : Nat → Int32) (vd_cellCount : Int32) (qd_tunes : Nat) (vd_tuneCount : Int32) (qd_changes : Nat) (vd_changeCount : Int32) : va_W := [dn qd vd_gap vd_odds vd_rain vd_lines qd_steps qd_lengths qd_starts qd_met qd_stumbles vd_stumbleCount qd_muds qd_cells vd_cellCount qd_tunes vd_tuneCount qd_changes vd_changeCount, (qd_cells, .inl (cI, 24, .inl (fd_cells)))]
set_option maxHeartbeats 4000000 in
set_option maxRecDepth 100000 in
/-- X0 addCell -/
theorem c_X0_addCell (l : Launch) (D : va_G) (G : ct_G) (cI cJ cB cZ cO : ClassId) (qd : Nat) (vd_gap : Int32) (vd_odds : Int32) (vd_rain : Int32) (vd_lines : Int32) (qd_steps : Nat) (qd_lengths : Nat) (qd_starts : Nat) (qd_met : Nat) (qd_stumbles : Nat) (vd_stumbleCount : Int32) (qd_muds : Nat) (qd_cells : Nat) (fd_cells : Nat → Int32) (vd_cellCount : Int32) (qd_tunes : Nat) (vd_tuneCount : Int32) (qd_changes : Nat) (vd_changeCount : Int32) (a1 : Int32) (a2 : Int32) (h_vd_gap : 0 ≤ vd_gap.toInt ∧ vd_gap.toInt ≤ 20) (h_vd_stumbleCount : 0 ≤ vd_stumbleCount.toInt ∧ vd_stumbleCount.toInt ≤ 8) (h_vd_cellCount : 0 ≤ vd_cellCount.toInt ∧ vd_cellCount.toInt ≤ 12) (h_vd_tuneCount : 0 ≤ vd_tuneCount.toInt ∧ vd_tuneCount.toInt ≤ 5) (h_vd_changeCount : 0 ≤ vd_changeCount.toInt ∧ vd_changeCount.toInt ≤ 40) (sz : Nat) : Met l yX0_addCell wsX0_addCell ({ frames := 0, cells := 0, slots := 0, locals := 0 }) (va_Pc [.ref qd, .int a1, .int a2] (ct_P D (ct_T cI cJ cB cZ cO) G (w_c_X0_addCell cI cJ cB cZ cO qd vd_gap vd_odds vd_rain vd_lines qd_steps qd_lengths qd_starts qd_met qd_stumbles vd_stumbleCount qd_muds qd_cells fd_cells vd_cellCount qd_tunes vd_tuneCount qd_changes vd_changeCount) sz)) (va_Qv (fun (u : Int32 × (Nat → Int32)) => (0 ≤ u.1.toInt ∧ u.1.toInt ≤ 12)) (fun (u : Int32 × (Nat → Int32)) t => ct_Q D (va_A (w_c_X0_addCell cI cJ cB cZ cO qd vd_gap vd_odds vd_rain vd_lines qd_steps qd_lengths qd_starts qd_met qd_stumbles vd_stumbleCount qd_muds qd_cells fd_cells vd_cellCount qd_tunes vd_tuneCount qd_changes vd_changeCount) sz) [dn qd vd_gap vd_odds vd_rain vd_lines qd_steps qd_lengths qd_starts qd_met qd_stumbles vd_stumbleCount qd_muds qd_cells u.1 qd_tunes vd_tuneCount qd_changes vd_changeCount, (qd_cells, .inl (cI, 24, .inl (u.2)))] t) (va_A (w_c_X0_addCell cI cJ cB cZ cO qd vd_gap vd_odds vd_rain vd_lines qd_steps qd_lengths qd_starts qd_met qd_stumbles vd_stumbleCount qd_muds qd_cells fd_cells vd_cellCount qd_tunes vd_tuneCount qd_changes vd_changeCount) sz)) 0 0 (va_A (w_c_X0_addCell cI cJ cB cZ cO qd vd_gap vd_odds vd_rain vd_lines qd_steps qd_lengths qd_starts qd_met qd_stumbles vd_stumbleCount qd_muds qd_cells fd_cells vd_cellCount qd_tunes vd_tuneCount qd_changes vd_changeCount) sz) := by
  refine Met.ofW (cc := cX0_addCell) (maxL := 3) (ret := none) (by decide) rfl ?_
  intro p e s m args below meth c s₁ B hml hv
  obtain ⟨rfl, hsz, hP, hE, hD0, hH⟩ := hv
  have hx := B.exec
  have hb := B.bytes
  have hr := B.returns
  have hts := atoms_spec (ws := wsX0_addCell) B.pre
  have hown : s.vm.findClass RX0 = some m.cls := findClass_of_methodNamed B.named
  have hlocks := B.notSynchronized
  have hK := hE.1
  have hi0 : ∀ w ∈ u_ws RX0 TX0 17, w ∈ wsX0_addCell := fun w h => List.mem_cons_of_mem _ (List.mem_append_right _ h)
  subst hsz
  have hD := hD0.self (sz := s.heap.size)
  generalize hAe : va_A (w_c_X0_addCell cI cJ cB cZ cO qd vd_gap vd_odds vd_rain vd_lines qd_steps qd_lengths qd_starts qd_met qd_stumbles vd_stumbleCount qd_muds qd_cells fd_cells vd_cellCount qd_tunes vd_tuneCount qd_changes vd_changeCount) s.heap.size = A at hD hH ⊢
  have hA : ∀ q : Nat, s.heap.size ≤ q → A q := fun q h => by rw [← hAe]; exact Or.inr h
  have hS : va_S A s.heap s.heap [] := va_S.rf
  obtain ⟨hP, hD⟩ : ct_B D A s.heap [dn qd vd_gap vd_odds vd_rain vd_lines qd_steps qd_lengths qd_starts qd_met qd_stumbles vd_stumbleCount qd_muds qd_cells vd_cellCount qd_tunes vd_tuneCount qd_changes vd_changeCount, (qd_cells, .inl (cI, 24, .inl (fd_cells)))] := ⟨hP, hD⟩
  have hl := lv_entry ([.ref qd, .int a1, .int a2]) (n := 3) (Nat.le_of_ble_eq_true rfl)
  rw [lg_entry_eq]
  generalize (lg_sl ([.ref qd, .int a1, .int a2]) ++ List.replicate (3 - (lg_sl ([.ref qd, .int a1, .int a2])).length) Slot.unset).toArray = ls at hl ⊢
  have hl : lv_has ls 3 [(0, .ref qd), (1, .int a1), (2, .int a2)] := hl
  obtain ⟨H, hHe⟩ : ∃ H : Heap, H = s.heap := ⟨_, rfl⟩
  rw [← hHe] at hP
  have hS : va_S A s.heap H [] := by rw [hHe]; exact va_S.rf
  refine ct_start hHe ?_
  refine lv_aload_n hx hb dX0_addCell_0 rfl (lv_at hl 0 rfl) ?_
  refine va_get (D := D) (ci := 0) (v := .int vd_cellCount) (C := RX0) (T := TX0) (N := 17) hx hb hts hi0 hown hK hP 0 rfl rfl 12 (by decide) (hts (.fieldLink RX0 61 "OverHill$Dance" "cellCount" "I") (by decide +kernel)) (fun _ h9 => h9) rfl dX0_addCell_1 ?_
  refine lv_bipush (v := 12) hx hb dX0_addCell_4 (by decide) ?_
  refine lv_icmp_ge (tgt := 45) hx hb dX0_addCell_6 (by decide) (fun hc => ?_) (fun hc => ?_)
  · have hq1 : 12 ≤ vd_cellCount.toInt := tq_le (by decide) rfl hc
    obtain ⟨hP9, hD9⟩ : ct_B D A H [dn qd vd_gap vd_odds vd_rain vd_lines qd_steps qd_lengths qd_starts qd_met qd_stumbles vd_stumbleCount qd_muds qd_cells vd_cellCount qd_tunes vd_tuneCount qd_changes vd_changeCount, (qd_cells, .inl (cI, 24, .inl (fd_cells)))] := ⟨hP.sub [0, 1] rfl, hD.sub [0, 1] (by decide) rfl⟩
    exact W.vret hx hb hr (fun t ht hW => ⟨⟨(vd_cellCount, fd_cells), rfl, h_vd_cellCount, by rw [ht]; exact hP9, hD9⟩, hS.F ht⟩) hS.2.2 dX0_addCell_45
  · have hq1 : vd_cellCount.toInt < 12 := tq_nle (by decide) rfl hc
    refine lv_aload_n hx hb dX0_addCell_9 rfl (lv_at hl 0 rfl) ?_
    refine va_get (D := D) (ci := 0) (v := .ref qd_cells) (C := RX0) (T := TX0) (N := 17) hx hb hts hi0 hown hK hP 0 rfl rfl 11 (by decide) (hts (.fieldLink RX0 30 "OverHill$Dance" "cells" "[I") (by decide +kernel)) (fun _ h9 => h9) rfl dX0_addCell_10 ?_
    refine lv_aload_n hx hb dX0_addCell_13 rfl (lv_at hl 0 rfl) ?_
    refine va_get (D := D) (ci := 0) (v := .int vd_cellCount) (C := RX0) (T := TX0) (N := 17) hx hb hts hi0 hown hK hP 0 rfl rfl 12 (by decide) (hts (.fieldLink RX0 61 "OverHill$Dance" "cellCount" "I") (by decide +kernel)) (fun _ h9 => h9) rfl dX0_addCell_14 ?_
    refine lv_iconst (v := 2) hx hb dX0_addCell_17 (by decide) ?_
    refine lv_imul hx hb dX0_addCell_18 ?_
    refine lv_topi (fun z2 ez2 => ?_)
    have fz2 : z2.toInt = vd_cellCount.toInt * 2 := by rw [ez2]; exact tq_mul rfl (by decide) (by omega)
    refine lv_iload_n hx hb dX0_addCell_19 rfl (lv_at hl 1 rfl) ?_
    refine va_iast (D := D) hx hb hK hP hD hS 1 0 rfl rfl (tq_in rfl (by omega)) dX0_addCell_20 (fun H locs hP hD hS => ?_)
    obtain ⟨g3, hP, hD⟩ : ∃ g3 : Nat → Int32, ct_B D A H [dn qd vd_gap vd_odds vd_rain vd_lines qd_steps qd_lengths qd_starts qd_met qd_stumbles vd_stumbleCount qd_muds qd_cells vd_cellCount qd_tunes vd_tuneCount qd_changes vd_changeCount, (qd_cells, .inl (cI, 24, .inl (g3)))] := ⟨_, hP, hD⟩
    refine lv_aload_n hx hb dX0_addCell_21 rfl (lv_at hl 0 rfl) ?_
    refine va_get (D := D) (ci := 0) (v := .ref qd_cells) (C := RX0) (T := TX0) (N := 17) hx hb hts hi0 hown hK hP 0 rfl rfl 11 (by decide) (hts (.fieldLink RX0 30 "OverHill$Dance" "cells" "[I") (by decide +kernel)) (fun _ h9 => h9) rfl dX0_addCell_22 ?_
    refine lv_aload_n hx hb dX0_addCell_25 rfl (lv_at hl 0 rfl) ?_
    refine va_get (D := D) (ci := 0) (v := .int vd_cellCount) (C := RX0) (T := TX0) (N := 17) hx hb hts hi0 hown hK hP 0 rfl rfl 12 (by decide) (hts (.fieldLink RX0 61 "OverHill$Dance" "cellCount" "I") (by decide +kernel)) (fun _ h9 => h9) rfl dX0_addCell_26 ?_
    refine lv_iconst (v := 2) hx hb dX0_addCell_29 (by decide) ?_
    refine lv_imul hx hb dX0_addCell_30 ?_
    refine lv_topi (fun z4 ez4 => ?_)
    have fz4 : z4.toInt = vd_cellCount.toInt * 2 := by rw [ez4]; exact tq_mul rfl (by decide) (by omega)
    refine lv_iconst (v := 1) hx hb dX0_addCell_31 (by decide) ?_
    refine lv_iadd hx hb dX0_addCell_32 ?_
    refine lv_topi (fun z5 ez5 => ?_)
    have fz5 : z5.toInt = z4.toInt + 1 := by rw [ez5]; exact tq_add rfl (by decide) (by omega)
    refine lv_iload_n hx hb dX0_addCell_33 rfl (lv_at hl 2 rfl) ?_
    refine va_iast (D := D) hx hb hK hP hD hS 1 0 rfl rfl (tq_in rfl (by omega)) dX0_addCell_34 (fun H locs hP hD hS => ?_)
    obtain ⟨g6, hP, hD⟩ : ∃ g6 : Nat → Int32, ct_B D A H [dn qd vd_gap vd_odds vd_rain vd_lines qd_steps qd_lengths qd_starts qd_met qd_stumbles vd_stumbleCount qd_muds qd_cells vd_cellCount qd_tunes vd_tuneCount qd_changes vd_changeCount, (qd_cells, .inl (cI, 24, .inl (g6)))] := ⟨_, hP, hD⟩
    refine lv_aload_n hx hb dX0_addCell_35 rfl (lv_at hl 0 rfl) ?_
    refine lv_dup hx hb dX0_addCell_36 rfl ?_
    refine va_get (D := D) (ci := 0) (v := .int vd_cellCount) (C := RX0) (T := TX0) (N := 17) hx hb hts hi0 hown hK hP 0 rfl rfl 12 (by decide) (hts (.fieldLink RX0 61 "OverHill$Dance" "cellCount" "I") (by decide +kernel)) (fun _ h9 => h9) rfl dX0_addCell_37 ?_
    refine lv_iconst (v := 1) hx hb dX0_addCell_40 (by decide) ?_
    refine lv_iadd hx hb dX0_addCell_41 ?_
    refine lv_topi (fun z7 ez7 => ?_)
    have fz7 : z7.toInt = vd_cellCount.toInt + 1 := by rw [ez7]; exact tq_add rfl (by decide) (by omega)
    refine va_put (D := D) (ci := 0) (v := .int z7) (ty := .int) (C := RX0) (T := TX0) (N := 17) hx hb hts hi0 tyX0 tyX0_ok nmX0 hown hK hP hD hS 0 rfl rfl 12 (by decide) (hts (.fieldLink RX0 61 "OverHill$Dance" "cellCount" "I") (by decide +kernel)) (fun _ h9 => h9) rfl (by decide +kernel) rfl rfl (Nat.le_of_ble_eq_true rfl) dX0_addCell_42 (fun H locs hP hD hS => ?_)
    obtain ⟨hP, hD⟩ : ct_B D A H [dn qd vd_gap vd_odds vd_rain vd_lines qd_steps qd_lengths qd_starts qd_met qd_stumbles vd_stumbleCount qd_muds qd_cells z7 qd_tunes vd_tuneCount qd_changes vd_changeCount, (qd_cells, .inl (cI, 24, .inl (g6)))] := ⟨hP, hD⟩
    obtain ⟨hP9, hD9⟩ : ct_B D A H [dn qd vd_gap vd_odds vd_rain vd_lines qd_steps qd_lengths qd_starts qd_met qd_stumbles vd_stumbleCount qd_muds qd_cells z7 qd_tunes vd_tuneCount qd_changes vd_changeCount, (qd_cells, .inl (cI, 24, .inl (g6)))] := ⟨hP.sub [0, 1] rfl, hD.sub [0, 1] (by decide) rfl⟩
    exact W.vret hx hb hr (fun t ht hW => ⟨⟨(z7, g6), rfl, (show 0 ≤ z7.toInt ∧ z7.toInt ≤ 12 by omega), by rw [ht]; exact hP9, hD9⟩, hS.F ht⟩) hS.2.2 dX0_addCell_45
abbrev w_c_X0_addTune (cI cJ cB cZ cO : ClassId) (qd : Nat) (vd_gap : Int32) (vd_odds : Int32) (vd_rain : Int32) (vd_lines : Int32) (qd_steps : Nat) (qd_lengths : Nat) (qd_starts : Nat) (qd_met : Nat) (qd_stumbles : Nat) (vd_stumbleCount : Int32) (qd_muds : Nat) (qd_cells : Nat) (vd_cellCount : Int32) (qd_tunes : Nat) (fd_tunes : Nat → Int32) (vd_tuneCount : Int32) (qd_changes : Nat) (vd_changeCount : Int32) : va_W := [dn qd vd_gap vd_odds vd_rain vd_lines qd_steps qd_lengths qd_starts qd_met qd_stumbles vd_stumbleCount qd_muds qd_cells vd_cellCount qd_tunes vd_tuneCount qd_changes vd_changeCount, (qd_tunes, .inl (cI, 10, .inl (fd_tunes)))]
set_option maxHeartbeats 4000000 in
set_option maxRecDepth 100000 in
/-- X0 addTune -/
theorem c_X0_addTune (l : Launch) (D : va_G) (G : ct_G) (cI cJ cB cZ cO : ClassId) (qd : Nat) (vd_gap : Int32) (vd_odds : Int32) (vd_rain : Int32) (vd_lines : Int32) (qd_steps : Nat) (qd_lengths : Nat) (qd_starts : Nat) (qd_met : Nat) (qd_stumbles : Nat) (vd_stumbleCount : Int32) (qd_muds : Nat) (qd_cells : Nat) (vd_cellCount : Int32) (qd_tunes : Nat) (fd_tunes : Nat → Int32) (vd_tuneCount : Int32) (qd_changes : Nat) (vd_changeCount : Int32) (a1 : Int32) (a2 : Int32) (h_vd_gap : 0 ≤ vd_gap.toInt ∧ vd_gap.toInt ≤ 20) (h_vd_stumbleCount : 0 ≤ vd_stumbleCount.toInt ∧ vd_stumbleCount.toInt ≤ 8) (h_vd_cellCount : 0 ≤ vd_cellCount.toInt ∧ vd_cellCount.toInt ≤ 12) (h_vd_tuneCount : 0 ≤ vd_tuneCount.toInt ∧ vd_tuneCount.toInt ≤ 5) (h_vd_changeCount : 0 ≤ vd_changeCount.toInt ∧ vd_changeCount.toInt ≤ 40) (sz : Nat) : Met l yX0_addTune wsX0_addTune ({ frames := 0, cells := 0, slots := 0, locals := 0 }) (va_Pc [.ref qd, .int a1, .int a2] (ct_P D (ct_T cI cJ cB cZ cO) G (w_c_X0_addTune cI cJ cB cZ cO qd vd_gap vd_odds vd_rain vd_lines qd_steps qd_lengths qd_starts qd_met qd_stumbles vd_stumbleCount qd_muds qd_cells vd_cellCount qd_tunes fd_tunes vd_tuneCount qd_changes vd_changeCount) sz)) (va_Qv (fun (u : Int32 × (Nat → Int32)) => (0 ≤ u.1.toInt ∧ u.1.toInt ≤ 5)) (fun (u : Int32 × (Nat → Int32)) t => ct_Q D (va_A (w_c_X0_addTune cI cJ cB cZ cO qd vd_gap vd_odds vd_rain vd_lines qd_steps qd_lengths qd_starts qd_met qd_stumbles vd_stumbleCount qd_muds qd_cells vd_cellCount qd_tunes fd_tunes vd_tuneCount qd_changes vd_changeCount) sz) [dn qd vd_gap vd_odds vd_rain vd_lines qd_steps qd_lengths qd_starts qd_met qd_stumbles vd_stumbleCount qd_muds qd_cells vd_cellCount qd_tunes u.1 qd_changes vd_changeCount, (qd_tunes, .inl (cI, 10, .inl (u.2)))] t) (va_A (w_c_X0_addTune cI cJ cB cZ cO qd vd_gap vd_odds vd_rain vd_lines qd_steps qd_lengths qd_starts qd_met qd_stumbles vd_stumbleCount qd_muds qd_cells vd_cellCount qd_tunes fd_tunes vd_tuneCount qd_changes vd_changeCount) sz)) 0 0 (va_A (w_c_X0_addTune cI cJ cB cZ cO qd vd_gap vd_odds vd_rain vd_lines qd_steps qd_lengths qd_starts qd_met qd_stumbles vd_stumbleCount qd_muds qd_cells vd_cellCount qd_tunes fd_tunes vd_tuneCount qd_changes vd_changeCount) sz) := by
  refine Met.ofW (cc := cX0_addTune) (maxL := 3) (ret := none) (by decide) rfl ?_
  intro p e s m args below meth c s₁ B hml hv
  obtain ⟨rfl, hsz, hP, hE, hD0, hH⟩ := hv
  have hx := B.exec
  have hb := B.bytes
  have hr := B.returns
  have hts := atoms_spec (ws := wsX0_addTune) B.pre
  have hown : s.vm.findClass RX0 = some m.cls := findClass_of_methodNamed B.named
  have hlocks := B.notSynchronized
  have hK := hE.1
  have hi0 : ∀ w ∈ u_ws RX0 TX0 17, w ∈ wsX0_addTune := fun w h => List.mem_cons_of_mem _ (List.mem_append_right _ h)
  subst hsz
  have hD := hD0.self (sz := s.heap.size)
  generalize hAe : va_A (w_c_X0_addTune cI cJ cB cZ cO qd vd_gap vd_odds vd_rain vd_lines qd_steps qd_lengths qd_starts qd_met qd_stumbles vd_stumbleCount qd_muds qd_cells vd_cellCount qd_tunes fd_tunes vd_tuneCount qd_changes vd_changeCount) s.heap.size = A at hD hH ⊢
  have hA : ∀ q : Nat, s.heap.size ≤ q → A q := fun q h => by rw [← hAe]; exact Or.inr h
  have hS : va_S A s.heap s.heap [] := va_S.rf
  obtain ⟨hP, hD⟩ : ct_B D A s.heap [dn qd vd_gap vd_odds vd_rain vd_lines qd_steps qd_lengths qd_starts qd_met qd_stumbles vd_stumbleCount qd_muds qd_cells vd_cellCount qd_tunes vd_tuneCount qd_changes vd_changeCount, (qd_tunes, .inl (cI, 10, .inl (fd_tunes)))] := ⟨hP, hD⟩
  have hl := lv_entry ([.ref qd, .int a1, .int a2]) (n := 3) (Nat.le_of_ble_eq_true rfl)
  rw [lg_entry_eq]
  generalize (lg_sl ([.ref qd, .int a1, .int a2]) ++ List.replicate (3 - (lg_sl ([.ref qd, .int a1, .int a2])).length) Slot.unset).toArray = ls at hl ⊢
  have hl : lv_has ls 3 [(0, .ref qd), (1, .int a1), (2, .int a2)] := hl
  obtain ⟨H, hHe⟩ : ∃ H : Heap, H = s.heap := ⟨_, rfl⟩
  rw [← hHe] at hP
  have hS : va_S A s.heap H [] := by rw [hHe]; exact va_S.rf
  refine ct_start hHe ?_
  refine lv_aload_n hx hb dX0_addTune_0 rfl (lv_at hl 0 rfl) ?_
  refine va_get (D := D) (ci := 0) (v := .int vd_tuneCount) (C := RX0) (T := TX0) (N := 17) hx hb hts hi0 hown hK hP 0 rfl rfl 14 (by decide) (hts (.fieldLink RX0 64 "OverHill$Dance" "tuneCount" "I") (by decide +kernel)) (fun _ h9 => h9) rfl dX0_addTune_1 ?_
  refine lv_iconst (v := 5) hx hb dX0_addTune_4 (by decide) ?_
  refine lv_icmp_ge (tgt := 44) hx hb dX0_addTune_5 (by decide) (fun hc => ?_) (fun hc => ?_)
  · have hq1 : 5 ≤ vd_tuneCount.toInt := tq_le (by decide) rfl hc
    obtain ⟨hP9, hD9⟩ : ct_B D A H [dn qd vd_gap vd_odds vd_rain vd_lines qd_steps qd_lengths qd_starts qd_met qd_stumbles vd_stumbleCount qd_muds qd_cells vd_cellCount qd_tunes vd_tuneCount qd_changes vd_changeCount, (qd_tunes, .inl (cI, 10, .inl (fd_tunes)))] := ⟨hP.sub [0, 1] rfl, hD.sub [0, 1] (by decide) rfl⟩
    exact W.vret hx hb hr (fun t ht hW => ⟨⟨(vd_tuneCount, fd_tunes), rfl, h_vd_tuneCount, by rw [ht]; exact hP9, hD9⟩, hS.F ht⟩) hS.2.2 dX0_addTune_44
  · have hq1 : vd_tuneCount.toInt < 5 := tq_nle (by decide) rfl hc
    refine lv_aload_n hx hb dX0_addTune_8 rfl (lv_at hl 0 rfl) ?_
    refine va_get (D := D) (ci := 0) (v := .ref qd_tunes) (C := RX0) (T := TX0) (N := 17) hx hb hts hi0 hown hK hP 0 rfl rfl 13 (by decide) (hts (.fieldLink RX0 33 "OverHill$Dance" "tunes" "[I") (by decide +kernel)) (fun _ h9 => h9) rfl dX0_addTune_9 ?_
    refine lv_aload_n hx hb dX0_addTune_12 rfl (lv_at hl 0 rfl) ?_
    refine va_get (D := D) (ci := 0) (v := .int vd_tuneCount) (C := RX0) (T := TX0) (N := 17) hx hb hts hi0 hown hK hP 0 rfl rfl 14 (by decide) (hts (.fieldLink RX0 64 "OverHill$Dance" "tuneCount" "I") (by decide +kernel)) (fun _ h9 => h9) rfl dX0_addTune_13 ?_
    refine lv_iconst (v := 2) hx hb dX0_addTune_16 (by decide) ?_
    refine lv_imul hx hb dX0_addTune_17 ?_
    refine lv_topi (fun z2 ez2 => ?_)
    have fz2 : z2.toInt = vd_tuneCount.toInt * 2 := by rw [ez2]; exact tq_mul rfl (by decide) (by omega)
    refine lv_iload_n hx hb dX0_addTune_18 rfl (lv_at hl 1 rfl) ?_
    refine va_iast (D := D) hx hb hK hP hD hS 1 0 rfl rfl (tq_in rfl (by omega)) dX0_addTune_19 (fun H locs hP hD hS => ?_)
    obtain ⟨g3, hP, hD⟩ : ∃ g3 : Nat → Int32, ct_B D A H [dn qd vd_gap vd_odds vd_rain vd_lines qd_steps qd_lengths qd_starts qd_met qd_stumbles vd_stumbleCount qd_muds qd_cells vd_cellCount qd_tunes vd_tuneCount qd_changes vd_changeCount, (qd_tunes, .inl (cI, 10, .inl (g3)))] := ⟨_, hP, hD⟩
    refine lv_aload_n hx hb dX0_addTune_20 rfl (lv_at hl 0 rfl) ?_
    refine va_get (D := D) (ci := 0) (v := .ref qd_tunes) (C := RX0) (T := TX0) (N := 17) hx hb hts hi0 hown hK hP 0 rfl rfl 13 (by decide) (hts (.fieldLink RX0 33 "OverHill$Dance" "tunes" "[I") (by decide +kernel)) (fun _ h9 => h9) rfl dX0_addTune_21 ?_
    refine lv_aload_n hx hb dX0_addTune_24 rfl (lv_at hl 0 rfl) ?_
    refine va_get (D := D) (ci := 0) (v := .int vd_tuneCount) (C := RX0) (T := TX0) (N := 17) hx hb hts hi0 hown hK hP 0 rfl rfl 14 (by decide) (hts (.fieldLink RX0 64 "OverHill$Dance" "tuneCount" "I") (by decide +kernel)) (fun _ h9 => h9) rfl dX0_addTune_25 ?_
    refine lv_iconst (v := 2) hx hb dX0_addTune_28 (by decide) ?_
    refine lv_imul hx hb dX0_addTune_29 ?_
    refine lv_topi (fun z4 ez4 => ?_)
    have fz4 : z4.toInt = vd_tuneCount.toInt * 2 := by rw [ez4]; exact tq_mul rfl (by decide) (by omega)
    refine lv_iconst (v := 1) hx hb dX0_addTune_30 (by decide) ?_
    refine lv_iadd hx hb dX0_addTune_31 ?_
    refine lv_topi (fun z5 ez5 => ?_)
    have fz5 : z5.toInt = z4.toInt + 1 := by rw [ez5]; exact tq_add rfl (by decide) (by omega)
    refine lv_iload_n hx hb dX0_addTune_32 rfl (lv_at hl 2 rfl) ?_
    refine va_iast (D := D) hx hb hK hP hD hS 1 0 rfl rfl (tq_in rfl (by omega)) dX0_addTune_33 (fun H locs hP hD hS => ?_)
    obtain ⟨g6, hP, hD⟩ : ∃ g6 : Nat → Int32, ct_B D A H [dn qd vd_gap vd_odds vd_rain vd_lines qd_steps qd_lengths qd_starts qd_met qd_stumbles vd_stumbleCount qd_muds qd_cells vd_cellCount qd_tunes vd_tuneCount qd_changes vd_changeCount, (qd_tunes, .inl (cI, 10, .inl (g6)))] := ⟨_, hP, hD⟩
    refine lv_aload_n hx hb dX0_addTune_34 rfl (lv_at hl 0 rfl) ?_
    refine lv_dup hx hb dX0_addTune_35 rfl ?_
    refine va_get (D := D) (ci := 0) (v := .int vd_tuneCount) (C := RX0) (T := TX0) (N := 17) hx hb hts hi0 hown hK hP 0 rfl rfl 14 (by decide) (hts (.fieldLink RX0 64 "OverHill$Dance" "tuneCount" "I") (by decide +kernel)) (fun _ h9 => h9) rfl dX0_addTune_36 ?_
    refine lv_iconst (v := 1) hx hb dX0_addTune_39 (by decide) ?_
    refine lv_iadd hx hb dX0_addTune_40 ?_
    refine lv_topi (fun z7 ez7 => ?_)
    have fz7 : z7.toInt = vd_tuneCount.toInt + 1 := by rw [ez7]; exact tq_add rfl (by decide) (by omega)
    refine va_put (D := D) (ci := 0) (v := .int z7) (ty := .int) (C := RX0) (T := TX0) (N := 17) hx hb hts hi0 tyX0 tyX0_ok nmX0 hown hK hP hD hS 0 rfl rfl 14 (by decide) (hts (.fieldLink RX0 64 "OverHill$Dance" "tuneCount" "I") (by decide +kernel)) (fun _ h9 => h9) rfl (by decide +kernel) rfl rfl (Nat.le_of_ble_eq_true rfl) dX0_addTune_41 (fun H locs hP hD hS => ?_)
    obtain ⟨hP, hD⟩ : ct_B D A H [dn qd vd_gap vd_odds vd_rain vd_lines qd_steps qd_lengths qd_starts qd_met qd_stumbles vd_stumbleCount qd_muds qd_cells vd_cellCount qd_tunes z7 qd_changes vd_changeCount, (qd_tunes, .inl (cI, 10, .inl (g6)))] := ⟨hP, hD⟩
    obtain ⟨hP9, hD9⟩ : ct_B D A H [dn qd vd_gap vd_odds vd_rain vd_lines qd_steps qd_lengths qd_starts qd_met qd_stumbles vd_stumbleCount qd_muds qd_cells vd_cellCount qd_tunes z7 qd_changes vd_changeCount, (qd_tunes, .inl (cI, 10, .inl (g6)))] := ⟨hP.sub [0, 1] rfl, hD.sub [0, 1] (by decide) rfl⟩
    exact W.vret hx hb hr (fun t ht hW => ⟨⟨(z7, g6), rfl, (show 0 ≤ z7.toInt ∧ z7.toInt ≤ 5 by omega), by rw [ht]; exact hP9, hD9⟩, hS.F ht⟩) hS.2.2 dX0_addTune_44
abbrev w_c_X0_countMuds (cI cJ cB cZ cO : ClassId) (qd : Nat) (vd_gap : Int32) (vd_odds : Int32) (vd_rain : Int32) (vd_lines : Int32) (qd_steps : Nat) (qd_lengths : Nat) (qd_starts : Nat) (qd_met : Nat) (qd_stumbles : Nat) (vd_stumbleCount : Int32) (qd_muds : Nat) (fd_muds : Nat → Int32) (qd_cells : Nat) (vd_cellCount : Int32) (qd_tunes : Nat) (vd_tuneCount : Int32) (qd_changes : Nat) (vd_changeCount : Int32) : va_W := [dn qd vd_gap vd_odds vd_rain vd_lines qd_steps qd_lengths qd_starts qd_met qd_stumbles vd_stumbleCount qd_muds qd_cells vd_cellCount qd_tunes vd_tuneCount qd_changes vd_changeCount, (qd_muds, .inl (cI, 200, .inl (fd_muds)))]
set_option maxHeartbeats 4000000 in
set_option maxRecDepth 100000 in
/-- X0 countMuds -/
theorem c_X0_countMuds (l : Launch) (D : va_G) (G : ct_G) (cI cJ cB cZ cO : ClassId) (qd : Nat) (vd_gap : Int32) (vd_odds : Int32) (vd_rain : Int32) (vd_lines : Int32) (qd_steps : Nat) (qd_lengths : Nat) (qd_starts : Nat) (qd_met : Nat) (qd_stumbles : Nat) (vd_stumbleCount : Int32) (qd_muds : Nat) (fd_muds : Nat → Int32) (qd_cells : Nat) (vd_cellCount : Int32) (qd_tunes : Nat) (vd_tuneCount : Int32) (qd_changes : Nat) (vd_changeCount : Int32) (h_vd_gap : 0 ≤ vd_gap.toInt ∧ vd_gap.toInt ≤ 20) (h_vd_stumbleCount : 0 ≤ vd_stumbleCount.toInt ∧ vd_stumbleCount.toInt ≤ 8) (h_vd_cellCount : 0 ≤ vd_cellCount.toInt ∧ vd_cellCount.toInt ≤ 12) (h_vd_tuneCount : 0 ≤ vd_tuneCount.toInt ∧ vd_tuneCount.toInt ≤ 5) (h_vd_changeCount : 0 ≤ vd_changeCount.toInt ∧ vd_changeCount.toInt ≤ 40) (sz : Nat) : Met l yX0_countMuds wsX0_countMuds ({ frames := 0, cells := 0, slots := 0, locals := 0 }) (va_Pc [.ref qd] (ct_P D (ct_T cI cJ cB cZ cO) G (w_c_X0_countMuds cI cJ cB cZ cO qd vd_gap vd_odds vd_rain vd_lines qd_steps qd_lengths qd_starts qd_met qd_stumbles vd_stumbleCount qd_muds fd_muds qd_cells vd_cellCount qd_tunes vd_tuneCount qd_changes vd_changeCount) sz)) (va_Qi (fun (rz : Int32) (u : Unit) => True) (fun (u : Unit) t => ct_Q D (va_A (w_c_X0_countMuds cI cJ cB cZ cO qd vd_gap vd_odds vd_rain vd_lines qd_steps qd_lengths qd_starts qd_met qd_stumbles vd_stumbleCount qd_muds fd_muds qd_cells vd_cellCount qd_tunes vd_tuneCount qd_changes vd_changeCount) sz) [dn qd vd_gap vd_odds vd_rain vd_lines qd_steps qd_lengths qd_starts qd_met qd_stumbles vd_stumbleCount qd_muds qd_cells vd_cellCount qd_tunes vd_tuneCount qd_changes vd_changeCount, (qd_muds, .inl (cI, 200, .inl (fd_muds)))] t) (va_A (w_c_X0_countMuds cI cJ cB cZ cO qd vd_gap vd_odds vd_rain vd_lines qd_steps qd_lengths qd_starts qd_met qd_stumbles vd_stumbleCount qd_muds fd_muds qd_cells vd_cellCount qd_tunes vd_tuneCount qd_changes vd_changeCount) sz)) 0 0 (va_A (w_c_X0_countMuds cI cJ cB cZ cO qd vd_gap vd_odds vd_rain vd_lines qd_steps qd_lengths qd_starts qd_met qd_stumbles vd_stumbleCount qd_muds fd_muds qd_cells vd_cellCount qd_tunes vd_tuneCount qd_changes vd_changeCount) sz) := by
  refine Met.ofW (cc := cX0_countMuds) (maxL := 3) (ret := (some .int)) (by decide) rfl ?_
  intro p e s m args below meth c s₁ B hml hv
  obtain ⟨rfl, hsz, hP, hE, hD0, hH⟩ := hv
  have hx := B.exec
  have hb := B.bytes
  have hr := B.returns
  have hts := atoms_spec (ws := wsX0_countMuds) B.pre
  have hown : s.vm.findClass RX0 = some m.cls := findClass_of_methodNamed B.named
  have hlocks := B.notSynchronized
  have hK := hE.1
  have hi0 : ∀ w ∈ u_ws RX0 TX0 17, w ∈ wsX0_countMuds := fun w h => List.mem_cons_of_mem _ (List.mem_append_right _ h)
  subst hsz
  have hD := hD0.self (sz := s.heap.size)
  generalize hAe : va_A (w_c_X0_countMuds cI cJ cB cZ cO qd vd_gap vd_odds vd_rain vd_lines qd_steps qd_lengths qd_starts qd_met qd_stumbles vd_stumbleCount qd_muds fd_muds qd_cells vd_cellCount qd_tunes vd_tuneCount qd_changes vd_changeCount) s.heap.size = A at hD hH ⊢
  have hA : ∀ q : Nat, s.heap.size ≤ q → A q := fun q h => by rw [← hAe]; exact Or.inr h
  have hS : va_S A s.heap s.heap [] := va_S.rf
  obtain ⟨hP, hD⟩ : ct_B D A s.heap [dn qd vd_gap vd_odds vd_rain vd_lines qd_steps qd_lengths qd_starts qd_met qd_stumbles vd_stumbleCount qd_muds qd_cells vd_cellCount qd_tunes vd_tuneCount qd_changes vd_changeCount, (qd_muds, .inl (cI, 200, .inl (fd_muds)))] := ⟨hP, hD⟩
  have hl := lv_entry ([.ref qd]) (n := 3) (Nat.le_of_ble_eq_true rfl)
  rw [lg_entry_eq]
  generalize (lg_sl ([.ref qd]) ++ List.replicate (3 - (lg_sl ([.ref qd])).length) Slot.unset).toArray = ls at hl ⊢
  have hl : lv_has ls 3 [(0, .ref qd)] := hl
  obtain ⟨H, hHe⟩ : ∃ H : Heap, H = s.heap := ⟨_, rfl⟩
  rw [← hHe] at hP
  have hS : va_S A s.heap H [] := by rw [hHe]; exact va_S.rf
  refine ct_start hHe ?_
  refine lv_iconst (v := 0) hx hb dX0_countMuds_0 (by decide) ?_
  refine lv_istore_n (lv' := [(1, .int 0), (0, .ref qd)]) hx hb dX0_countMuds_1 rfl hl (by decide) rfl (fun ls hl => ?_)
  refine lv_iconst (v := 0) hx hb dX0_countMuds_2 (by decide) ?_
  refine lv_istore_n (lv' := [(2, .int 0), (1, .int 0), (0, .ref qd)]) hx hb dX0_countMuds_3 rfl hl (by decide) rfl (fun ls hl => ?_)
  refine ct_loop (X := Int32 × Int32) (fun x => (200 - x.2.toInt).toNat) (fun x H locs ls => ((0 ≤ x.2.toInt ∧ x.2.toInt ≤ 200)) ∧ ct_B D A H [dn qd vd_gap vd_odds vd_rain vd_lines qd_steps qd_lengths qd_starts qd_met qd_stumbles vd_stumbleCount qd_muds qd_cells vd_cellCount qd_tunes vd_tuneCount qd_changes vd_changeCount, (qd_muds, .inl (cI, 200, .inl (fd_muds)))] ∧ va_S A s.heap H locs ∧ lv_has ls 3 [(2, .int x.2), (1, .int x.1), (0, .ref qd)]) 4 ((0 : Int32), (0 : Int32)) ⟨(show 0 ≤ (0 : Int32).toInt ∧ (0 : Int32).toInt ≤ 200 by decide), ⟨hP, hD⟩, hS, lv_sub hl [0, 1, 2] rfl⟩ (fun x ih101 H locs ls hI => ?_)
  obtain ⟨x99, x100⟩ := x
  obtain ⟨h_x100, ⟨hP, hD⟩, hS, hl⟩ := hI
  have h_x100 : (0 ≤ x100.toInt ∧ x100.toInt ≤ 200) := h_x100
  obtain ⟨hP, hD⟩ : ct_B D A H [dn qd vd_gap vd_odds vd_rain vd_lines qd_steps qd_lengths qd_starts qd_met qd_stumbles vd_stumbleCount qd_muds qd_cells vd_cellCount qd_tunes vd_tuneCount qd_changes vd_changeCount, (qd_muds, .inl (cI, 200, .inl (fd_muds)))] := ⟨hP, hD⟩
  have hl : lv_has ls 3 [(2, .int x100), (1, .int x99), (0, .ref qd)] := hl
  refine lv_iload_n hx hb dX0_countMuds_4 rfl (lv_at hl 0 rfl) ?_
  refine lv_sipush (v := 200) hx hb dX0_countMuds_5 (by decide) ?_
  refine lv_icmp_ge (tgt := 26) hx hb dX0_countMuds_8 (by decide) (fun hc => ?_) (fun hc => ?_)
  · have hq102 : 200 ≤ x100.toInt := tq_le (by decide) rfl hc
    refine lv_iload_n hx hb dX0_countMuds_26 rfl (lv_at hl 1 rfl) ?_
    obtain ⟨hP9, hD9⟩ : ct_B D A H [dn qd vd_gap vd_odds vd_rain vd_lines qd_steps qd_lengths qd_starts qd_met qd_stumbles vd_stumbleCount qd_muds qd_cells vd_cellCount qd_tunes vd_tuneCount qd_changes vd_changeCount, (qd_muds, .inl (cI, 200, .inl (fd_muds)))] := ⟨hP.sub [0, 1] rfl, hD.sub [0, 1] (by decide) rfl⟩
    exact W.iret (v := x99) hx hb hr (fun t ht hW => ⟨⟨x99, (), rfl, trivial, by rw [ht]; exact hP9, hD9⟩, hS.F ht⟩) hS.2.2 dX0_countMuds_27
  · have hq102 : x100.toInt < 200 := tq_nle (by decide) rfl hc
    refine lv_iload_n hx hb dX0_countMuds_11 rfl (lv_at hl 1 rfl) ?_
    refine lv_aload_n hx hb dX0_countMuds_12 rfl (lv_at hl 2 rfl) ?_
    refine va_get (D := D) (ci := 0) (v := .ref qd_muds) (C := RX0) (T := TX0) (N := 17) hx hb hts hi0 hown hK hP 0 rfl rfl 10 (by decide) (hts (.fieldLink RX0 27 "OverHill$Dance" "muds" "[I") (by decide +kernel)) (fun _ h9 => h9) rfl dX0_countMuds_13 ?_
    refine lv_iload_n hx hb dX0_countMuds_16 rfl (lv_at hl 0 rfl) ?_
    refine va_iald (D := D) hx hb hK hP 1 0 rfl rfl (tq_in rfl (by omega)) dX0_countMuds_17 ?_
    refine lv_topi (fun z103 ez103 => ?_)
    refine lv_iadd hx hb dX0_countMuds_18 ?_
    refine lv_topi (fun z104 ez104 => ?_)
    refine lv_istore_n (lv' := [(1, .int z104), (2, .int x100), (0, .ref qd)]) hx hb dX0_countMuds_19 rfl hl (by decide) rfl (fun ls hl => ?_)
    obtain ⟨z105, ez105⟩ : ∃ z : Int32, z = x100 + 1 := ⟨_, rfl⟩
    have fz105 : z105.toInt = x100.toInt + 1 := by rw [ez105]; exact tq_add rfl (by decide) (by omega)
    refine lv_iinc (v := z105) (lv' := [(2, .int z105), (1, .int z104), (0, .ref qd)]) hx hb dX0_countMuds_20 hl (k := 1) rfl ez105.symm (by decide) rfl (fun ls hl => ?_)
    refine lv_goto (tgt := 4) hx hb dX0_countMuds_23 (by decide) ?_
    exact ih101 (z104, z105) _ _ _ (show (200 - z105.toInt).toNat < (200 - x100.toInt).toNat by omega) ⟨(show 0 ≤ z105.toInt ∧ z105.toInt ≤ 200 by omega), ⟨hP, hD⟩, hS, lv_sub hl [0, 1, 2] rfl⟩
abbrev w_c_X0_addStumble (cI cJ cB cZ cO : ClassId) (qd : Nat) (vd_gap : Int32) (vd_odds : Int32) (vd_rain : Int32) (vd_lines : Int32) (qd_steps : Nat) (qd_lengths : Nat) (qd_starts : Nat) (qd_met : Nat) (qd_stumbles : Nat) (fd_stumbles : Nat → Int32) (vd_stumbleCount : Int32) (qd_muds : Nat) (qd_cells : Nat) (vd_cellCount : Int32) (qd_tunes : Nat) (vd_tuneCount : Int32) (qd_changes : Nat) (vd_changeCount : Int32) : va_W := [dn qd vd_gap vd_odds vd_rain vd_lines qd_steps qd_lengths qd_starts qd_met qd_stumbles vd_stumbleCount qd_muds qd_cells vd_cellCount qd_tunes vd_tuneCount qd_changes vd_changeCount, (qd_stumbles, .inl (cI, 32, .inl (fd_stumbles)))]
set_option maxHeartbeats 4000000 in
set_option maxRecDepth 100000 in
/-- X0 addStumble -/
theorem c_X0_addStumble (l : Launch) (D : va_G) (G : ct_G) (cI cJ cB cZ cO : ClassId) (qd : Nat) (vd_gap : Int32) (vd_odds : Int32) (vd_rain : Int32) (vd_lines : Int32) (qd_steps : Nat) (qd_lengths : Nat) (qd_starts : Nat) (qd_met : Nat) (qd_stumbles : Nat) (fd_stumbles : Nat → Int32) (vd_stumbleCount : Int32) (qd_muds : Nat) (qd_cells : Nat) (vd_cellCount : Int32) (qd_tunes : Nat) (vd_tuneCount : Int32) (qd_changes : Nat) (vd_changeCount : Int32) (a1 : Int32) (a2 : Int32) (a3 : Int32) (a4 : Int32) (h_vd_gap : 0 ≤ vd_gap.toInt ∧ vd_gap.toInt ≤ 20) (h_fd_stumbles : ar_ok [(-2147483648), 0, 0, (-2147483648)] [2147483647, 199, 5, 2147483647] fd_stumbles) (h_vd_stumbleCount : 0 ≤ vd_stumbleCount.toInt ∧ vd_stumbleCount.toInt ≤ 8) (h_vd_cellCount : 0 ≤ vd_cellCount.toInt ∧ vd_cellCount.toInt ≤ 12) (h_vd_tuneCount : 0 ≤ vd_tuneCount.toInt ∧ vd_tuneCount.toInt ≤ 5) (h_vd_changeCount : 0 ≤ vd_changeCount.toInt ∧ vd_changeCount.toInt ≤ 40) (h_a2 : 0 ≤ a2.toInt ∧ a2.toInt ≤ 199) (h_a3 : 0 ≤ a3.toInt ∧ a3.toInt ≤ 5) (sz : Nat) : Met l yX0_addStumble wsX0_addStumble ({ frames := 0, cells := 0, slots := 0, locals := 0 }) (va_Pc [.ref qd, .int a1, .int a2, .int a3, .int a4] (ct_P D (ct_T cI cJ cB cZ cO) G (w_c_X0_addStumble cI cJ cB cZ cO qd vd_gap vd_odds vd_rain vd_lines qd_steps qd_lengths qd_starts qd_met qd_stumbles fd_stumbles vd_stumbleCount qd_muds qd_cells vd_cellCount qd_tunes vd_tuneCount qd_changes vd_changeCount) sz)) (va_Qv (fun (u : Int32 × (Nat → Int32)) => (0 ≤ u.1.toInt ∧ u.1.toInt ≤ 8) ∧ (ar_ok [(-2147483648), 0, 0, (-2147483648)] [2147483647, 199, 5, 2147483647] u.2) ∧ (8 ≤ vd_stumbleCount.toInt ∨ u.1.toInt = vd_stumbleCount.toInt + 1)) (fun (u : Int32 × (Nat → Int32)) t => ct_Q D (va_A (w_c_X0_addStumble cI cJ cB cZ cO qd vd_gap vd_odds vd_rain vd_lines qd_steps qd_lengths qd_starts qd_met qd_stumbles fd_stumbles vd_stumbleCount qd_muds qd_cells vd_cellCount qd_tunes vd_tuneCount qd_changes vd_changeCount) sz) [dn qd vd_gap vd_odds vd_rain vd_lines qd_steps qd_lengths qd_starts qd_met qd_stumbles u.1 qd_muds qd_cells vd_cellCount qd_tunes vd_tuneCount qd_changes vd_changeCount, (qd_stumbles, .inl (cI, 32, .inl (u.2)))] t) (va_A (w_c_X0_addStumble cI cJ cB cZ cO qd vd_gap vd_odds vd_rain vd_lines qd_steps qd_lengths qd_starts qd_met qd_stumbles fd_stumbles vd_stumbleCount qd_muds qd_cells vd_cellCount qd_tunes vd_tuneCount qd_changes vd_changeCount) sz)) 0 0 (va_A (w_c_X0_addStumble cI cJ cB cZ cO qd vd_gap vd_odds vd_rain vd_lines qd_steps qd_lengths qd_starts qd_met qd_stumbles fd_stumbles vd_stumbleCount qd_muds qd_cells vd_cellCount qd_tunes vd_tuneCount qd_changes vd_changeCount) sz) := by
  refine Met.ofW (cc := cX0_addStumble) (maxL := 6) (ret := none) (by decide) rfl ?_
  intro p e s m args below meth c s₁ B hml hv
  obtain ⟨rfl, hsz, hP, hE, hD0, hH⟩ := hv
  have hx := B.exec
  have hb := B.bytes
  have hr := B.returns
  have hts := atoms_spec (ws := wsX0_addStumble) B.pre
  have hown : s.vm.findClass RX0 = some m.cls := findClass_of_methodNamed B.named
  have hlocks := B.notSynchronized
  have hK := hE.1
  have hi0 : ∀ w ∈ u_ws RX0 TX0 17, w ∈ wsX0_addStumble := fun w h => List.mem_cons_of_mem _ (List.mem_append_right _ h)
  subst hsz
  have hD := hD0.self (sz := s.heap.size)
  generalize hAe : va_A (w_c_X0_addStumble cI cJ cB cZ cO qd vd_gap vd_odds vd_rain vd_lines qd_steps qd_lengths qd_starts qd_met qd_stumbles fd_stumbles vd_stumbleCount qd_muds qd_cells vd_cellCount qd_tunes vd_tuneCount qd_changes vd_changeCount) s.heap.size = A at hD hH ⊢
  have hA : ∀ q : Nat, s.heap.size ≤ q → A q := fun q h => by rw [← hAe]; exact Or.inr h
  have hS : va_S A s.heap s.heap [] := va_S.rf
  obtain ⟨hP, hD⟩ : ct_B D A s.heap [dn qd vd_gap vd_odds vd_rain vd_lines qd_steps qd_lengths qd_starts qd_met qd_stumbles vd_stumbleCount qd_muds qd_cells vd_cellCount qd_tunes vd_tuneCount qd_changes vd_changeCount, (qd_stumbles, .inl (cI, 32, .inl (fd_stumbles)))] := ⟨hP, hD⟩
  have hl := lv_entry ([.ref qd, .int a1, .int a2, .int a3, .int a4]) (n := 6) (Nat.le_of_ble_eq_true rfl)
  rw [lg_entry_eq]
  generalize (lg_sl ([.ref qd, .int a1, .int a2, .int a3, .int a4]) ++ List.replicate (6 - (lg_sl ([.ref qd, .int a1, .int a2, .int a3, .int a4])).length) Slot.unset).toArray = ls at hl ⊢
  have hl : lv_has ls 6 [(0, .ref qd), (1, .int a1), (2, .int a2), (3, .int a3), (4, .int a4)] := hl
  obtain ⟨H, hHe⟩ : ∃ H : Heap, H = s.heap := ⟨_, rfl⟩
  rw [← hHe] at hP
  have hS : va_S A s.heap H [] := by rw [hHe]; exact va_S.rf
  refine ct_start hHe ?_
  refine lv_aload_n hx hb dX0_addStumble_0 rfl (lv_at hl 0 rfl) ?_
  refine va_get (D := D) (ci := 0) (v := .int vd_stumbleCount) (C := RX0) (T := TX0) (N := 17) hx hb hts hi0 hown hK hP 0 rfl rfl 9 (by decide) (hts (.fieldLink RX0 58 "OverHill$Dance" "stumbleCount" "I") (by decide +kernel)) (fun _ h9 => h9) rfl dX0_addStumble_1 ?_
  refine lv_bipush (v := 8) hx hb dX0_addStumble_4 (by decide) ?_
  refine lv_icmp_ge (tgt := 66) hx hb dX0_addStumble_6 (by decide) (fun hc => ?_) (fun hc => ?_)
  · have hq1 : 8 ≤ vd_stumbleCount.toInt := tq_le (by decide) rfl hc
    obtain ⟨hP9, hD9⟩ : ct_B D A H [dn qd vd_gap vd_odds vd_rain vd_lines qd_steps qd_lengths qd_starts qd_met qd_stumbles vd_stumbleCount qd_muds qd_cells vd_cellCount qd_tunes vd_tuneCount qd_changes vd_changeCount, (qd_stumbles, .inl (cI, 32, .inl (fd_stumbles)))] := ⟨hP.sub [0, 1] rfl, hD.sub [0, 1] (by decide) rfl⟩
    exact W.vret hx hb hr (fun t ht hW => ⟨⟨(vd_stumbleCount, fd_stumbles), rfl, ⟨h_vd_stumbleCount, h_fd_stumbles, (show 8 ≤ vd_stumbleCount.toInt ∨ vd_stumbleCount.toInt = vd_stumbleCount.toInt + 1 by omega)⟩, by rw [ht]; exact hP9, hD9⟩, hS.F ht⟩) hS.2.2 dX0_addStumble_66
  · have hq1 : vd_stumbleCount.toInt < 8 := tq_nle (by decide) rfl hc
    refine lv_aload_n hx hb dX0_addStumble_9 rfl (lv_at hl 0 rfl) ?_
    refine va_get (D := D) (ci := 0) (v := .int vd_stumbleCount) (C := RX0) (T := TX0) (N := 17) hx hb hts hi0 hown hK hP 0 rfl rfl 9 (by decide) (hts (.fieldLink RX0 58 "OverHill$Dance" "stumbleCount" "I") (by decide +kernel)) (fun _ h9 => h9) rfl dX0_addStumble_10 ?_
    refine lv_iconst (v := 4) hx hb dX0_addStumble_13 (by decide) ?_
    refine lv_imul hx hb dX0_addStumble_14 ?_
    refine lv_topi (fun z2 ez2 => ?_)
    have fz2 : z2.toInt = vd_stumbleCount.toInt * 4 := by rw [ez2]; exact tq_mul rfl (by decide) (by omega)
    refine lv_istore (lv' := [(5, .int z2), (0, .ref qd), (1, .int a1), (2, .int a2), (3, .int a3), (4, .int a4)]) hx hb dX0_addStumble_15 hl (by decide) rfl (fun ls hl => ?_)
    refine lv_aload_n hx hb dX0_addStumble_17 rfl (lv_at hl 1 rfl) ?_
    refine va_get (D := D) (ci := 0) (v := .ref qd_stumbles) (C := RX0) (T := TX0) (N := 17) hx hb hts hi0 hown hK hP 0 rfl rfl 8 (by decide) (hts (.fieldLink RX0 24 "OverHill$Dance" "stumbles" "[I") (by decide +kernel)) (fun _ h9 => h9) rfl dX0_addStumble_18 ?_
    refine lv_iload hx hb dX0_addStumble_21 (lv_at hl 0 rfl) ?_
    refine lv_iload_n hx hb dX0_addStumble_23 rfl (lv_at hl 2 rfl) ?_
    refine va_iast (D := D) hx hb hK hP hD hS 1 0 rfl rfl (tq_in rfl (by omega)) dX0_addStumble_24 (fun H locs hP hD hS => ?_)
    obtain ⟨g3, h_g3, hP, hD⟩ : ∃ g3 : Nat → Int32, ar_ok [(-2147483648), 0, 0, (-2147483648)] [2147483647, 199, 5, 2147483647] g3 ∧ ct_B D A H [dn qd vd_gap vd_odds vd_rain vd_lines qd_steps qd_lengths qd_starts qd_met qd_stumbles vd_stumbleCount qd_muds qd_cells vd_cellCount qd_tunes vd_tuneCount qd_changes vd_changeCount, (qd_stumbles, .inl (cI, 32, .inl (g3)))] := ⟨_, ar_setF h_fd_stumbles z2 a1 0 (by omega) (show z2.toInt % 4 = 0 by omega) rfl rfl, hP, hD⟩
    refine lv_aload_n hx hb dX0_addStumble_25 rfl (lv_at hl 1 rfl) ?_
    refine va_get (D := D) (ci := 0) (v := .ref qd_stumbles) (C := RX0) (T := TX0) (N := 17) hx hb hts hi0 hown hK hP 0 rfl rfl 8 (by decide) (hts (.fieldLink RX0 24 "OverHill$Dance" "stumbles" "[I") (by decide +kernel)) (fun _ h9 => h9) rfl dX0_addStumble_26 ?_
    refine lv_iload hx hb dX0_addStumble_29 (lv_at hl 0 rfl) ?_
    refine lv_iconst (v := 1) hx hb dX0_addStumble_31 (by decide) ?_
    refine lv_iadd hx hb dX0_addStumble_32 ?_
    refine lv_topi (fun z4 ez4 => ?_)
    have fz4 : z4.toInt = z2.toInt + 1 := by rw [ez4]; exact tq_add rfl (by decide) (by omega)
    refine lv_iload_n hx hb dX0_addStumble_33 rfl (lv_at hl 3 rfl) ?_
    refine va_iast (D := D) hx hb hK hP hD hS 1 0 rfl rfl (tq_in rfl (by omega)) dX0_addStumble_34 (fun H locs hP hD hS => ?_)
    obtain ⟨g5, h_g5, hP, hD⟩ : ∃ g5 : Nat → Int32, ar_ok [(-2147483648), 0, 0, (-2147483648)] [2147483647, 199, 5, 2147483647] g5 ∧ ct_B D A H [dn qd vd_gap vd_odds vd_rain vd_lines qd_steps qd_lengths qd_starts qd_met qd_stumbles vd_stumbleCount qd_muds qd_cells vd_cellCount qd_tunes vd_tuneCount qd_changes vd_changeCount, (qd_stumbles, .inl (cI, 32, .inl (g5)))] := ⟨_, ar_set h_g3 z4 a2 1 (by omega) (show z4.toInt % 4 = 1 by omega) rfl (show 0 ≤ a2.toInt ∧ a2.toInt ≤ 199 by omega), hP, hD⟩
    refine lv_aload_n hx hb dX0_addStumble_35 rfl (lv_at hl 1 rfl) ?_
    refine va_get (D := D) (ci := 0) (v := .ref qd_stumbles) (C := RX0) (T := TX0) (N := 17) hx hb hts hi0 hown hK hP 0 rfl rfl 8 (by decide) (hts (.fieldLink RX0 24 "OverHill$Dance" "stumbles" "[I") (by decide +kernel)) (fun _ h9 => h9) rfl dX0_addStumble_36 ?_
    refine lv_iload hx hb dX0_addStumble_39 (lv_at hl 0 rfl) ?_
    refine lv_iconst (v := 2) hx hb dX0_addStumble_41 (by decide) ?_
    refine lv_iadd hx hb dX0_addStumble_42 ?_
    refine lv_topi (fun z6 ez6 => ?_)
    have fz6 : z6.toInt = z2.toInt + 2 := by rw [ez6]; exact tq_add rfl (by decide) (by omega)
    refine lv_iload_n hx hb dX0_addStumble_43 rfl (lv_at hl 4 rfl) ?_
    refine va_iast (D := D) hx hb hK hP hD hS 1 0 rfl rfl (tq_in rfl (by omega)) dX0_addStumble_44 (fun H locs hP hD hS => ?_)
    obtain ⟨g7, h_g7, hP, hD⟩ : ∃ g7 : Nat → Int32, ar_ok [(-2147483648), 0, 0, (-2147483648)] [2147483647, 199, 5, 2147483647] g7 ∧ ct_B D A H [dn qd vd_gap vd_odds vd_rain vd_lines qd_steps qd_lengths qd_starts qd_met qd_stumbles vd_stumbleCount qd_muds qd_cells vd_cellCount qd_tunes vd_tuneCount qd_changes vd_changeCount, (qd_stumbles, .inl (cI, 32, .inl (g7)))] := ⟨_, ar_set h_g5 z6 a3 2 (by omega) (show z6.toInt % 4 = 2 by omega) rfl (show 0 ≤ a3.toInt ∧ a3.toInt ≤ 5 by omega), hP, hD⟩
    refine lv_aload_n hx hb dX0_addStumble_45 rfl (lv_at hl 1 rfl) ?_
    refine va_get (D := D) (ci := 0) (v := .ref qd_stumbles) (C := RX0) (T := TX0) (N := 17) hx hb hts hi0 hown hK hP 0 rfl rfl 8 (by decide) (hts (.fieldLink RX0 24 "OverHill$Dance" "stumbles" "[I") (by decide +kernel)) (fun _ h9 => h9) rfl dX0_addStumble_46 ?_
    refine lv_iload hx hb dX0_addStumble_49 (lv_at hl 0 rfl) ?_
    refine lv_iconst (v := 3) hx hb dX0_addStumble_51 (by decide) ?_
    refine lv_iadd hx hb dX0_addStumble_52 ?_
    refine lv_topi (fun z8 ez8 => ?_)
    have fz8 : z8.toInt = z2.toInt + 3 := by rw [ez8]; exact tq_add rfl (by decide) (by omega)
    refine lv_iload hx hb dX0_addStumble_53 (lv_at hl 5 rfl) ?_
    refine va_iast (D := D) hx hb hK hP hD hS 1 0 rfl rfl (tq_in rfl (by omega)) dX0_addStumble_55 (fun H locs hP hD hS => ?_)
    obtain ⟨g9, h_g9, hP, hD⟩ : ∃ g9 : Nat → Int32, ar_ok [(-2147483648), 0, 0, (-2147483648)] [2147483647, 199, 5, 2147483647] g9 ∧ ct_B D A H [dn qd vd_gap vd_odds vd_rain vd_lines qd_steps qd_lengths qd_starts qd_met qd_stumbles vd_stumbleCount qd_muds qd_cells vd_cellCount qd_tunes vd_tuneCount qd_changes vd_changeCount, (qd_stumbles, .inl (cI, 32, .inl (g9)))] := ⟨_, ar_setF h_g7 z8 a4 3 (by omega) (show z8.toInt % 4 = 3 by omega) rfl rfl, hP, hD⟩
    refine lv_aload_n hx hb dX0_addStumble_56 rfl (lv_at hl 1 rfl) ?_
    refine lv_dup hx hb dX0_addStumble_57 rfl ?_
    refine va_get (D := D) (ci := 0) (v := .int vd_stumbleCount) (C := RX0) (T := TX0) (N := 17) hx hb hts hi0 hown hK hP 0 rfl rfl 9 (by decide) (hts (.fieldLink RX0 58 "OverHill$Dance" "stumbleCount" "I") (by decide +kernel)) (fun _ h9 => h9) rfl dX0_addStumble_58 ?_
    refine lv_iconst (v := 1) hx hb dX0_addStumble_61 (by decide) ?_
    refine lv_iadd hx hb dX0_addStumble_62 ?_
    refine lv_topi (fun z10 ez10 => ?_)
    have fz10 : z10.toInt = vd_stumbleCount.toInt + 1 := by rw [ez10]; exact tq_add rfl (by decide) (by omega)
    refine va_put (D := D) (ci := 0) (v := .int z10) (ty := .int) (C := RX0) (T := TX0) (N := 17) hx hb hts hi0 tyX0 tyX0_ok nmX0 hown hK hP hD hS 0 rfl rfl 9 (by decide) (hts (.fieldLink RX0 58 "OverHill$Dance" "stumbleCount" "I") (by decide +kernel)) (fun _ h9 => h9) rfl (by decide +kernel) rfl rfl (Nat.le_of_ble_eq_true rfl) dX0_addStumble_63 (fun H locs hP hD hS => ?_)
    obtain ⟨hP, hD⟩ : ct_B D A H [dn qd vd_gap vd_odds vd_rain vd_lines qd_steps qd_lengths qd_starts qd_met qd_stumbles z10 qd_muds qd_cells vd_cellCount qd_tunes vd_tuneCount qd_changes vd_changeCount, (qd_stumbles, .inl (cI, 32, .inl (g9)))] := ⟨hP, hD⟩
    obtain ⟨hP9, hD9⟩ : ct_B D A H [dn qd vd_gap vd_odds vd_rain vd_lines qd_steps qd_lengths qd_starts qd_met qd_stumbles z10 qd_muds qd_cells vd_cellCount qd_tunes vd_tuneCount qd_changes vd_changeCount, (qd_stumbles, .inl (cI, 32, .inl (g9)))] := ⟨hP.sub [0, 1] rfl, hD.sub [0, 1] (by decide) rfl⟩
    exact W.vret hx hb hr (fun t ht hW => ⟨⟨(z10, g9), rfl, ⟨(show 0 ≤ z10.toInt ∧ z10.toInt ≤ 8 by omega), h_g9, (show 8 ≤ vd_stumbleCount.toInt ∨ z10.toInt = vd_stumbleCount.toInt + 1 by omega)⟩, by rw [ht]; exact hP9, hD9⟩, hS.F ht⟩) hS.2.2 dX0_addStumble_66
