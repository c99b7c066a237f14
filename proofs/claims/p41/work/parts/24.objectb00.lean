abbrev w_c_X11_has (cI cJ cB cZ cO : ClassId) (qh : Nat) (qh_kept : Nat) (vh_laid : Int32) (qi : Nat) (qr : Nat) (qt : Nat) (qd : Nat) (vd_gap : Int32) (vd_odds : Int32) (vd_rain : Int32) (vd_lines : Int32) (qd_steps : Nat) (qd_lengths : Nat) (qd_starts : Nat) (qd_met : Nat) (qd_stumbles : Nat) (vd_stumbleCount : Int32) (qd_muds : Nat) (qd_cells : Nat) (vd_cellCount : Int32) (qd_tunes : Nat) (vd_tuneCount : Int32) (qd_changes : Nat) (vd_changeCount : Int32) (qd2 : Nat) (qf : Nat) (qf2 : Nat) (qo : Nat) (qe : Nat) (qw : Nat) (qu : Nat) (qg : Nat) (qn : Nat) (qs : Nat) : va_W := [oo qh qr qt qd qd2 qi qh_kept qf qf2 vh_laid qo qe qw qu qg qn qs, dn qd vd_gap vd_odds vd_rain vd_lines qd_steps qd_lengths qd_starts qd_met qd_stumbles vd_stumbleCount qd_muds qd_cells vd_cellCount qd_tunes vd_tuneCount qd_changes vd_changeCount]
set_option maxHeartbeats 4000000 in
set_option maxRecDepth 100000 in
/-- X11 has -/
theorem c_X11_has (l : Launch) (D : va_G) (G : ct_G) (cI cJ cB cZ cO : ClassId) (qh : Nat) (qh_kept : Nat) (vh_laid : Int32) (qi : Nat) (qr : Nat) (qt : Nat) (qd : Nat) (vd_gap : Int32) (vd_odds : Int32) (vd_rain : Int32) (vd_lines : Int32) (qd_steps : Nat) (qd_lengths : Nat) (qd_starts : Nat) (qd_met : Nat) (qd_stumbles : Nat) (vd_stumbleCount : Int32) (qd_muds : Nat) (qd_cells : Nat) (vd_cellCount : Int32) (qd_tunes : Nat) (vd_tuneCount : Int32) (qd_changes : Nat) (vd_changeCount : Int32) (qd2 : Nat) (qf : Nat) (qf2 : Nat) (qo : Nat) (qe : Nat) (qw : Nat) (qu : Nat) (qg : Nat) (qn : Nat) (qs : Nat) (a1 : Int32) (a2 : Int32) (h_vd_gap : 0 ≤ vd_gap.toInt ∧ vd_gap.toInt ≤ 20) (h_vd_stumbleCount : 0 ≤ vd_stumbleCount.toInt ∧ vd_stumbleCount.toInt ≤ 8) (h_vd_cellCount : 0 ≤ vd_cellCount.toInt ∧ vd_cellCount.toInt ≤ 12) (h_vd_tuneCount : 0 ≤ vd_tuneCount.toInt ∧ vd_tuneCount.toInt ≤ 5) (h_vd_changeCount : 0 ≤ vd_changeCount.toInt ∧ vd_changeCount.toInt ≤ 40) (sz : Nat) : Met l yX11_has wsX11_has ({ frames := 2, cells := 0, slots := 0, locals := 41 }) (va_Pc [.ref qh, .int a1, .int a2] (ct_P D (ct_T cI cJ cB cZ cO) G (w_c_X11_has cI cJ cB cZ cO qh qh_kept vh_laid qi qr qt qd vd_gap vd_odds vd_rain vd_lines qd_steps qd_lengths qd_starts qd_met qd_stumbles vd_stumbleCount qd_muds qd_cells vd_cellCount qd_tunes vd_tuneCount qd_changes vd_changeCount qd2 qf qf2 qo qe qw qu qg qn qs) sz)) (va_Qi (fun (rz : Int32) (u : Unit) => ((rz = 1 ∧ (0 ≤ a1.toInt ∧ a1.toInt < 2 ∧ 0 ≤ a2.toInt ∧ a2.toInt < 200)) ∨ (rz = 0 ∧ True))) (fun (u : Unit) t => ct_Q D (va_A (w_c_X11_has cI cJ cB cZ cO qh qh_kept vh_laid qi qr qt qd vd_gap vd_odds vd_rain vd_lines qd_steps qd_lengths qd_starts qd_met qd_stumbles vd_stumbleCount qd_muds qd_cells vd_cellCount qd_tunes vd_tuneCount qd_changes vd_changeCount qd2 qf qf2 qo qe qw qu qg qn qs) sz) [oo qh qr qt qd qd2 qi qh_kept qf qf2 vh_laid qo qe qw qu qg qn qs, dn qd vd_gap vd_odds vd_rain vd_lines qd_steps qd_lengths qd_starts qd_met qd_stumbles vd_stumbleCount qd_muds qd_cells vd_cellCount qd_tunes vd_tuneCount qd_changes vd_changeCount] t) (va_A (w_c_X11_has cI cJ cB cZ cO qh qh_kept vh_laid qi qr qt qd vd_gap vd_odds vd_rain vd_lines qd_steps qd_lengths qd_starts qd_met qd_stumbles vd_stumbleCount qd_muds qd_cells vd_cellCount qd_tunes vd_tuneCount qd_changes vd_changeCount qd2 qf qf2 qo qe qw qu qg qn qs) sz)) 0 0 (va_A (w_c_X11_has cI cJ cB cZ cO qh qh_kept vh_laid qi qr qt qd vd_gap vd_odds vd_rain vd_lines qd_steps qd_lengths qd_starts qd_met qd_stumbles vd_stumbleCount qd_muds qd_cells vd_cellCount qd_tunes vd_tuneCount qd_changes vd_changeCount qd2 qf qf2 qo qe qw qu qg qn qs) sz) := by
  refine Met.ofW (cc := cX11_has) (maxL := 3) (ret := (some .boolean)) (by decide) rfl ?_
  intro p e s m args below meth c s₁ B hml hv
  obtain ⟨rfl, hsz, hP, hE, hD0, hH⟩ := hv
  have hx := B.exec
  have hb := B.bytes
  have hr := B.returns
  have hts := atoms_spec (ws := wsX11_has) B.pre
  have hown : s.vm.findClass RX11 = some m.cls := findClass_of_methodNamed B.named
  have hlocks := B.notSynchronized
  have hK := hE.1
  have hi11 : ∀ w ∈ u_ws RX11 TX11 16, w ∈ wsX11_has := fun w h => List.mem_cons_of_mem _ (List.mem_append_left _ (List.mem_append_right _ h))
  subst hsz
  have hD := hD0.self (sz := s.heap.size)
  generalize hAe : va_A (w_c_X11_has cI cJ cB cZ cO qh qh_kept vh_laid qi qr qt qd vd_gap vd_odds vd_rain vd_lines qd_steps qd_lengths qd_starts qd_met qd_stumbles vd_stumbleCount qd_muds qd_cells vd_cellCount qd_tunes vd_tuneCount qd_changes vd_changeCount qd2 qf qf2 qo qe qw qu qg qn qs) s.heap.size = A at hD hH ⊢
  have hA : ∀ q : Nat, s.heap.size ≤ q → A q := fun q h => by rw [← hAe]; exact Or.inr h
  have hS : va_S A s.heap s.heap [] := va_S.rf
  obtain ⟨hP, hD⟩ : ct_B D A s.heap [oo qh qr qt qd qd2 qi qh_kept qf qf2 vh_laid qo qe qw qu qg qn qs, dn qd vd_gap vd_odds vd_rain vd_lines qd_steps qd_lengths qd_starts qd_met qd_stumbles vd_stumbleCount qd_muds qd_cells vd_cellCount qd_tunes vd_tuneCount qd_changes vd_changeCount] := ⟨hP, hD⟩
  have hl := lv_entry ([.ref qh, .int a1, .int a2]) (n := 3) (Nat.le_of_ble_eq_true rfl)
  rw [lg_entry_eq]
  generalize (lg_sl ([.ref qh, .int a1, .int a2]) ++ List.replicate (3 - (lg_sl ([.ref qh, .int a1, .int a2])).length) Slot.unset).toArray = ls at hl ⊢
  have hl : lv_has ls 3 [(0, .ref qh), (1, .int a1), (2, .int a2)] := hl
  obtain ⟨H, hHe⟩ : ∃ H : Heap, H = s.heap := ⟨_, rfl⟩
  rw [← hHe] at hP
  have hS : va_S A s.heap H [] := by rw [hHe]; exact va_S.rf
  refine ct_start hHe ?_
  refine lv_aload_n hx hb dX11_has_0 rfl (lv_at hl 0 rfl) ?_
  refine va_get (D := D) (ci := 11) (v := .ref qd) (C := RX11) (T := TX11) (N := 16) hx hb hts hi11 hown hK hP 0 rfl rfl 2 (by decide) (hts (.fieldLink RX11 24 "OverHill" "now" "LOverHill$Dance;") (by decide +kernel)) (fun _ h9 => h9) rfl dX11_has_1 ?_
  refine ct_calli (D := D) (wr := [oo qh qr qt qd qd2 qi qh_kept qf qf2 vh_laid qo qe qw qu qg qn qs]) (va_runV (As := []) (rest := []) ⟨hx, hb, hml, hown, hts⟩ (c_X0_stands l D G cI cJ cB cZ cO qd vd_gap vd_odds vd_rain vd_lines qd_steps qd_lengths qd_starts qd_met qd_stumbles vd_stumbleCount qd_muds qd_cells vd_cellCount qd_tunes vd_tuneCount qd_changes vd_changeCount h_vd_gap h_vd_stumbleCount h_vd_cellCount h_vd_tuneCount h_vd_changeCount H.size) (cwV 0 hts gX11_has_X0_stands rfl rfl rfl (by decide +kernel) ⟨Nat.le_of_ble_eq_true rfl, Nat.le_of_ble_eq_true rfl⟩) (ct_preV (T := ct_T cI cJ cB cZ cO) (ci := 0) (q0 := 1) hE hH hP hD hS hA [1] (by decide) rfl rfl rfl) rfl rfl hl.1 rfl (lv_room (Nat.le_of_ble_eq_true rfl)) dX11_has_4 ⟨Nat.le_of_ble_eq_true rfl, Nat.le_of_ble_eq_true rfl⟩) hP hD hS hA [1] [0] rfl rfl (by decide) (by decide) (fun r1 u H locs hw hP hD hS => ?_)
  obtain ⟨hP, hD⟩ : ct_B D A H [oo qh qr qt qd qd2 qi qh_kept qf qf2 vh_laid qo qe qw qu qg qn qs, dn qd vd_gap vd_odds vd_rain vd_lines qd_steps qd_lengths qd_starts qd_met qd_stumbles vd_stumbleCount qd_muds qd_cells vd_cellCount qd_tunes vd_tuneCount qd_changes vd_changeCount] := ⟨hP, hD⟩
  have hz := hw
  rcases hz with ⟨hz, hz2⟩ | ⟨hz, hz2⟩
  · subst hz
    have hz_2 : (0 < vd_lines.toInt) := hz2
    refine lv_if_eq (tgt := 28) hx hb dX11_has_7 (by decide) (fun hc => absurd hc (by decide)) (fun _ => ?_)
    refine lv_iload_n hx hb dX11_has_10 rfl (lv_at hl 1 rfl) ?_
    refine ct_calli (D := D) (wr := [oo qh qr qt qd qd2 qi qh_kept qf qf2 vh_laid qo qe qw qu qg qn qs, dn qd vd_gap vd_odds vd_rain vd_lines qd_steps qd_lengths qd_starts qd_met qd_stumbles vd_stumbleCount qd_muds qd_cells vd_cellCount qd_tunes vd_tuneCount qd_changes vd_changeCount]) (va_runS (As := [.int a1]) (rest := []) ⟨hx, hb, hml, hown, hts⟩ (c_X11_isSide l D G cI cJ cB cZ cO a1  H.size) (va_cwS 1 hts gX11_has_X11_isSide rfl rfl rfl (by decide +kernel) ⟨Nat.le_of_ble_eq_true rfl, Nat.le_of_ble_eq_true rfl⟩) (ct_preS (T := ct_T cI cJ cB cZ cO) hE hH hP hD hS hA [] (by decide) rfl) rfl rfl hl.1 rfl (lv_room (Nat.le_of_ble_eq_true rfl)) dX11_has_11 ⟨Nat.le_of_ble_eq_true rfl, Nat.le_of_ble_eq_true rfl⟩) hP hD hS hA [] [0, 1] rfl rfl (by decide) (by decide) (fun r3 u H locs hw hP hD hS => ?_)
    obtain ⟨hP, hD⟩ : ct_B D A H [oo qh qr qt qd qd2 qi qh_kept qf qf2 vh_laid qo qe qw qu qg qn qs, dn qd vd_gap vd_odds vd_rain vd_lines qd_steps qd_lengths qd_starts qd_met qd_stumbles vd_stumbleCount qd_muds qd_cells vd_cellCount qd_tunes vd_tuneCount qd_changes vd_changeCount] := ⟨hP, hD⟩
    have hz := hw
    rcases hz with ⟨hz, hz2⟩ | ⟨hz, hz2⟩
    · subst hz
      have hz_4 : (0 ≤ a1.toInt ∧ a1.toInt < 2) := hz2
      refine lv_if_eq (tgt := 28) hx hb dX11_has_14 (by decide) (fun hc => absurd hc (by decide)) (fun _ => ?_)
      refine lv_iload_n hx hb dX11_has_17 rfl (lv_at hl 2 rfl) ?_
      refine ct_calli (D := D) (wr := [oo qh qr qt qd qd2 qi qh_kept qf qf2 vh_laid qo qe qw qu qg qn qs, dn qd vd_gap vd_odds vd_rain vd_lines qd_steps qd_lengths qd_starts qd_met qd_stumbles vd_stumbleCount qd_muds qd_cells vd_cellCount qd_tunes vd_tuneCount qd_changes vd_changeCount]) (va_runS (As := [.int a2]) (rest := []) ⟨hx, hb, hml, hown, hts⟩ (c_X11_isBeat l D G cI cJ cB cZ cO a2  H.size) (va_cwS 1 hts gX11_has_X11_isBeat rfl rfl rfl (by decide +kernel) ⟨Nat.le_of_ble_eq_true rfl, Nat.le_of_ble_eq_true rfl⟩) (ct_preS (T := ct_T cI cJ cB cZ cO) hE hH hP hD hS hA [] (by decide) rfl) rfl rfl hl.1 rfl (lv_room (Nat.le_of_ble_eq_true rfl)) dX11_has_18 ⟨Nat.le_of_ble_eq_true rfl, Nat.le_of_ble_eq_true rfl⟩) hP hD hS hA [] [0, 1] rfl rfl (by decide) (by decide) (fun r5 u H locs hw hP hD hS => ?_)
      obtain ⟨hP, hD⟩ : ct_B D A H [oo qh qr qt qd qd2 qi qh_kept qf qf2 vh_laid qo qe qw qu qg qn qs, dn qd vd_gap vd_odds vd_rain vd_lines qd_steps qd_lengths qd_starts qd_met qd_stumbles vd_stumbleCount qd_muds qd_cells vd_cellCount qd_tunes vd_tuneCount qd_changes vd_changeCount] := ⟨hP, hD⟩
      have hz := hw
      rcases hz with ⟨hz, hz2⟩ | ⟨hz, hz2⟩
      · subst hz
        have hz_6 : (0 ≤ a2.toInt ∧ a2.toInt < 200) := hz2
        refine lv_if_eq (tgt := 28) hx hb dX11_has_21 (by decide) (fun hc => absurd hc (by decide)) (fun _ => ?_)
        refine lv_iconst (v := 1) hx hb dX11_has_24 (by decide) ?_
        refine lv_goto (tgt := 29) hx hb dX11_has_25 (by decide) ?_
        obtain ⟨hP9, hD9⟩ : ct_B D A H [oo qh qr qt qd qd2 qi qh_kept qf qf2 vh_laid qo qe qw qu qg qn qs, dn qd vd_gap vd_odds vd_rain vd_lines qd_steps qd_lengths qd_starts qd_met qd_stumbles vd_stumbleCount qd_muds qd_cells vd_cellCount qd_tunes vd_tuneCount qd_changes vd_changeCount] := ⟨hP.sub [0, 1] rfl, hD.sub [0, 1] (by decide) rfl⟩
        exact W.zret (v := 1) (ty := .boolean) hx hb hr rfl (fun t ht hW => ⟨⟨1, (), rfl, (Or.inl ⟨rfl, (show (0 ≤ a1.toInt ∧ a1.toInt < 2 ∧ 0 ≤ a2.toInt ∧ a2.toInt < 200) by omega)⟩), by rw [ht]; exact hP9, hD9⟩, hS.F ht⟩) hS.2.2 dX11_has_29
      · subst hz
        have hz_7 : ¬ (0 ≤ a2.toInt ∧ a2.toInt < 200) := hz2
        refine lv_if_eq (tgt := 28) hx hb dX11_has_21 (by decide) (fun _ => ?_) (fun hc => absurd hc (by decide))
        refine lv_iconst (v := 0) hx hb dX11_has_28 (by decide) ?_
        obtain ⟨hP9, hD9⟩ : ct_B D A H [oo qh qr qt qd qd2 qi qh_kept qf qf2 vh_laid qo qe qw qu qg qn qs, dn qd vd_gap vd_odds vd_rain vd_lines qd_steps qd_lengths qd_starts qd_met qd_stumbles vd_stumbleCount qd_muds qd_cells vd_cellCount qd_tunes vd_tuneCount qd_changes vd_changeCount] := ⟨hP.sub [0, 1] rfl, hD.sub [0, 1] (by decide) rfl⟩
        exact W.zret (v := 0) (ty := .boolean) hx hb hr rfl (fun t ht hW => ⟨⟨0, (), rfl, (Or.inr (⟨rfl, trivial⟩)), by rw [ht]; exact hP9, hD9⟩, hS.F ht⟩) hS.2.2 dX11_has_29
    · subst hz
      have hz_8 : ¬ (0 ≤ a1.toInt ∧ a1.toInt < 2) := hz2
      refine lv_if_eq (tgt := 28) hx hb dX11_has_14 (by decide) (fun _ => ?_) (fun hc => absurd hc (by decide))
      refine lv_iconst (v := 0) hx hb dX11_has_28 (by decide) ?_
      obtain ⟨hP9, hD9⟩ : ct_B D A H [oo qh qr qt qd qd2 qi qh_kept qf qf2 vh_laid qo qe qw qu qg qn qs, dn qd vd_gap vd_odds vd_rain vd_lines qd_steps qd_lengths qd_starts qd_met qd_stumbles vd_stumbleCount qd_muds qd_cells vd_cellCount qd_tunes vd_tuneCount qd_changes vd_changeCount] := ⟨hP.sub [0, 1] rfl, hD.sub [0, 1] (by decide) rfl⟩
      exact W.zret (v := 0) (ty := .boolean) hx hb hr rfl (fun t ht hW => ⟨⟨0, (), rfl, (Or.inr (⟨rfl, trivial⟩)), by rw [ht]; exact hP9, hD9⟩, hS.F ht⟩) hS.2.2 dX11_has_29
  · subst hz
    have hz_9 : ¬ (0 < vd_lines.toInt) := hz2
    refine lv_if_eq (tgt := 28) hx hb dX11_has_7 (by decide) (fun _ => ?_) (fun hc => absurd hc (by decide))
    refine lv_iconst (v := 0) hx hb dX11_has_28 (by decide) ?_
    obtain ⟨hP9, hD9⟩ : ct_B D A H [oo qh qr qt qd qd2 qi qh_kept qf qf2 vh_laid qo qe qw qu qg qn qs, dn qd vd_gap vd_odds vd_rain vd_lines qd_steps qd_lengths qd_starts qd_met qd_stumbles vd_stumbleCount qd_muds qd_cells vd_cellCount qd_tunes vd_tuneCount qd_changes vd_changeCount] := ⟨hP.sub [0, 1] rfl, hD.sub [0, 1] (by decide) rfl⟩
    exact W.zret (v := 0) (ty := .boolean) hx hb hr rfl (fun t ht hW => ⟨⟨0, (), rfl, (Or.inr (⟨rfl, trivial⟩)), by rw [ht]; exact hP9, hD9⟩, hS.F ht⟩) hS.2.2 dX11_has_29
abbrev w_c_X11_hasSpan (cI cJ cB cZ cO : ClassId) (qh : Nat) (qh_kept : Nat) (vh_laid : Int32) (qi : Nat) (qr : Nat) (qt : Nat) (qd : Nat) (vd_gap : Int32) (vd_odds : Int32) (vd_rain : Int32) (vd_lines : Int32) (qd_steps : Nat) (qd_lengths : Nat) (qd_starts : Nat) (qd_met : Nat) (qd_stumbles : Nat) (vd_stumbleCount : Int32) (qd_muds : Nat) (qd_cells : Nat) (vd_cellCount : Int32) (qd_tunes : Nat) (vd_tuneCount : Int32) (qd_changes : Nat) (vd_changeCount : Int32) (qd2 : Nat) (qf : Nat) (qf2 : Nat) (qo : Nat) (qe : Nat) (qw : Nat) (qu : Nat) (qg : Nat) (qn : Nat) (qs : Nat) : va_W := [oo qh qr qt qd qd2 qi qh_kept qf qf2 vh_laid qo qe qw qu qg qn qs, dn qd vd_gap vd_odds vd_rain vd_lines qd_steps qd_lengths qd_starts qd_met qd_stumbles vd_stumbleCount qd_muds qd_cells vd_cellCount qd_tunes vd_tuneCount qd_changes vd_changeCount]
set_option maxHeartbeats 4000000 in
set_option maxRecDepth 100000 in
/-- X11 hasSpan -/
theorem c_X11_hasSpan (l : Launch) (D : va_G) (G : ct_G) (cI cJ cB cZ cO : ClassId) (qh : Nat) (qh_kept : Nat) (vh_laid : Int32) (qi : Nat) (qr : Nat) (qt : Nat) (qd : Nat) (vd_gap : Int32) (vd_odds : Int32) (vd_rain : Int32) (vd_lines : Int32) (qd_steps : Nat) (qd_lengths : Nat) (qd_starts : Nat) (qd_met : Nat) (qd_stumbles : Nat) (vd_stumbleCount : Int32) (qd_muds : Nat) (qd_cells : Nat) (vd_cellCount : Int32) (qd_tunes : Nat) (vd_tuneCount : Int32) (qd_changes : Nat) (vd_changeCount : Int32) (qd2 : Nat) (qf : Nat) (qf2 : Nat) (qo : Nat) (qe : Nat) (qw : Nat) (qu : Nat) (qg : Nat) (qn : Nat) (qs : Nat) (a1 : Int32) (a2 : Int32) (h_vd_gap : 0 ≤ vd_gap.toInt ∧ vd_gap.toInt ≤ 20) (h_vd_stumbleCount : 0 ≤ vd_stumbleCount.toInt ∧ vd_stumbleCount.toInt ≤ 8) (h_vd_cellCount : 0 ≤ vd_cellCount.toInt ∧ vd_cellCount.toInt ≤ 12) (h_vd_tuneCount : 0 ≤ vd_tuneCount.toInt ∧ vd_tuneCount.toInt ≤ 5) (h_vd_changeCount : 0 ≤ vd_changeCount.toInt ∧ vd_changeCount.toInt ≤ 40) (sz : Nat) : Met l yX11_hasSpan wsX11_hasSpan ({ frames := 2, cells := 0, slots := 0, locals := 41 }) (va_Pc [.ref qh, .int a1, .int a2] (ct_P D (ct_T cI cJ cB cZ cO) G (w_c_X11_hasSpan cI cJ cB cZ cO qh qh_kept vh_laid qi qr qt qd vd_gap vd_odds vd_rain vd_lines qd_steps qd_lengths qd_starts qd_met qd_stumbles vd_stumbleCount qd_muds qd_cells vd_cellCount qd_tunes vd_tuneCount qd_changes vd_changeCount qd2 qf qf2 qo qe qw qu qg qn qs) sz)) (va_Qi (fun (rz : Int32) (u : Unit) => ((rz = 1 ∧ (0 ≤ a1.toInt ∧ a1.toInt ≤ a2.toInt ∧ a2.toInt < 200)) ∨ (rz = 0 ∧ True))) (fun (u : Unit) t => ct_Q D (va_A (w_c_X11_hasSpan cI cJ cB cZ cO qh qh_kept vh_laid qi qr qt qd vd_gap vd_odds vd_rain vd_lines qd_steps qd_lengths qd_starts qd_met qd_stumbles vd_stumbleCount qd_muds qd_cells vd_cellCount qd_tunes vd_tuneCount qd_changes vd_changeCount qd2 qf qf2 qo qe qw qu qg qn qs) sz) [oo qh qr qt qd qd2 qi qh_kept qf qf2 vh_laid qo qe qw qu qg qn qs, dn qd vd_gap vd_odds vd_rain vd_lines qd_steps qd_lengths qd_starts qd_met qd_stumbles vd_stumbleCount qd_muds qd_cells vd_cellCount qd_tunes vd_tuneCount qd_changes vd_changeCount] t) (va_A (w_c_X11_hasSpan cI cJ cB cZ cO qh qh_kept vh_laid qi qr qt qd vd_gap vd_odds vd_rain vd_lines qd_steps qd_lengths qd_starts qd_met qd_stumbles vd_stumbleCount qd_muds qd_cells vd_cellCount qd_tunes vd_tuneCount qd_changes vd_changeCount qd2 qf qf2 qo qe qw qu qg qn qs) sz)) 0 0 (va_A (w_c_X11_hasSpan cI cJ cB cZ cO qh qh_kept vh_laid qi qr qt qd vd_gap vd_odds vd_rain vd_lines qd_steps qd_lengths qd_starts qd_met qd_stumbles vd_stumbleCount qd_muds qd_cells vd_cellCount qd_tunes vd_tuneCount qd_changes vd_changeCount qd2 qf qf2 qo qe qw qu qg qn qs) sz) := by
  refine Met.ofW (cc := cX11_hasSpan) (maxL := 3) (ret := (some .boolean)) (by decide) rfl ?_
  intro p e s m args below meth c s₁ B hml hv
  obtain ⟨rfl, hsz, hP, hE, hD0, hH⟩ := hv
  have hx := B.exec
  have hb := B.bytes
  have hr := B.returns
  have hts := atoms_spec (ws := wsX11_hasSpan) B.pre
  have hown : s.vm.findClass RX11 = some m.cls := findClass_of_methodNamed B.named
  have hlocks := B.notSynchronized
  have hK := hE.1
  have hi11 : ∀ w ∈ u_ws RX11 TX11 16, w ∈ wsX11_hasSpan := fun w h => List.mem_cons_of_mem _ (List.mem_append_left _ (List.mem_append_right _ h))
  subst hsz
  have hD := hD0.self (sz := s.heap.size)
  generalize hAe : va_A (w_c_X11_hasSpan cI cJ cB cZ cO qh qh_kept vh_laid qi qr qt qd vd_gap vd_odds vd_rain vd_lines qd_steps qd_lengths qd_starts qd_met qd_stumbles vd_stumbleCount qd_muds qd_cells vd_cellCount qd_tunes vd_tuneCount qd_changes vd_changeCount qd2 qf qf2 qo qe qw qu qg qn qs) s.heap.size = A at hD hH ⊢
  have hA : ∀ q : Nat, s.heap.size ≤ q → A q := fun q h => by rw [← hAe]; exact Or.inr h
  have hS : va_S A s.heap s.heap [] := va_S.rf
  obtain ⟨hP, hD⟩ : ct_B D A s.heap [oo qh qr qt qd qd2 qi qh_kept qf qf2 vh_laid qo qe qw qu qg qn qs, dn qd vd_gap vd_odds vd_rain vd_lines qd_steps qd_lengths qd_starts qd_met qd_stumbles vd_stumbleCount qd_muds qd_cells vd_cellCount qd_tunes vd_tuneCount qd_changes vd_changeCount] := ⟨hP, hD⟩
  have hl := lv_entry ([.ref qh, .int a1, .int a2]) (n := 3) (Nat.le_of_ble_eq_true rfl)
  rw [lg_entry_eq]
  generalize (lg_sl ([.ref qh, .int a1, .int a2]) ++ List.replicate (3 - (lg_sl ([.ref qh, .int a1, .int a2])).length) Slot.unset).toArray = ls at hl ⊢
  have hl : lv_has ls 3 [(0, .ref qh), (1, .int a1), (2, .int a2)] := hl
  obtain ⟨H, hHe⟩ : ∃ H : Heap, H = s.heap := ⟨_, rfl⟩
  rw [← hHe] at hP
  have hS : va_S A s.heap H [] := by rw [hHe]; exact va_S.rf
  refine ct_start hHe ?_
  refine lv_aload_n hx hb dX11_hasSpan_0 rfl (lv_at hl 0 rfl) ?_
  refine va_get (D := D) (ci := 11) (v := .ref qd) (C := RX11) (T := TX11) (N := 16) hx hb hts hi11 hown hK hP 0 rfl rfl 2 (by decide) (hts (.fieldLink RX11 24 "OverHill" "now" "LOverHill$Dance;") (by decide +kernel)) (fun _ h9 => h9) rfl dX11_hasSpan_1 ?_
  refine ct_calli (D := D) (wr := [oo qh qr qt qd qd2 qi qh_kept qf qf2 vh_laid qo qe qw qu qg qn qs]) (va_runV (As := []) (rest := []) ⟨hx, hb, hml, hown, hts⟩ (c_X0_stands l D G cI cJ cB cZ cO qd vd_gap vd_odds vd_rain vd_lines qd_steps qd_lengths qd_starts qd_met qd_stumbles vd_stumbleCount qd_muds qd_cells vd_cellCount qd_tunes vd_tuneCount qd_changes vd_changeCount h_vd_gap h_vd_stumbleCount h_vd_cellCount h_vd_tuneCount h_vd_changeCount H.size) (cwV 0 hts gX11_hasSpan_X0_stands rfl rfl rfl (by decide +kernel) ⟨Nat.le_of_ble_eq_true rfl, Nat.le_of_ble_eq_true rfl⟩) (ct_preV (T := ct_T cI cJ cB cZ cO) (ci := 0) (q0 := 1) hE hH hP hD hS hA [1] (by decide) rfl rfl rfl) rfl rfl hl.1 rfl (lv_room (Nat.le_of_ble_eq_true rfl)) dX11_hasSpan_4 ⟨Nat.le_of_ble_eq_true rfl, Nat.le_of_ble_eq_true rfl⟩) hP hD hS hA [1] [0] rfl rfl (by decide) (by decide) (fun r1 u H locs hw hP hD hS => ?_)
  obtain ⟨hP, hD⟩ : ct_B D A H [oo qh qr qt qd qd2 qi qh_kept qf qf2 vh_laid qo qe qw qu qg qn qs, dn qd vd_gap vd_odds vd_rain vd_lines qd_steps qd_lengths qd_starts qd_met qd_stumbles vd_stumbleCount qd_muds qd_cells vd_cellCount qd_tunes vd_tuneCount qd_changes vd_changeCount] := ⟨hP, hD⟩
  have hz := hw
  rcases hz with ⟨hz, hz2⟩ | ⟨hz, hz2⟩
  · subst hz
    have hz_2 : (0 < vd_lines.toInt) := hz2
    refine lv_if_eq (tgt := 33) hx hb dX11_hasSpan_7 (by decide) (fun hc => absurd hc (by decide)) (fun _ => ?_)
    refine lv_iload_n hx hb dX11_hasSpan_10 rfl (lv_at hl 1 rfl) ?_
    refine ct_calli (D := D) (wr := [oo qh qr qt qd qd2 qi qh_kept qf qf2 vh_laid qo qe qw qu qg qn qs, dn qd vd_gap vd_odds vd_rain vd_lines qd_steps qd_lengths qd_starts qd_met qd_stumbles vd_stumbleCount qd_muds qd_cells vd_cellCount qd_tunes vd_tuneCount qd_changes vd_changeCount]) (va_runS (As := [.int a1]) (rest := []) ⟨hx, hb, hml, hown, hts⟩ (c_X11_isBeat l D G cI cJ cB cZ cO a1  H.size) (va_cwS 1 hts gX11_hasSpan_X11_isBeat rfl rfl rfl (by decide +kernel) ⟨Nat.le_of_ble_eq_true rfl, Nat.le_of_ble_eq_true rfl⟩) (ct_preS (T := ct_T cI cJ cB cZ cO) hE hH hP hD hS hA [] (by decide) rfl) rfl rfl hl.1 rfl (lv_room (Nat.le_of_ble_eq_true rfl)) dX11_hasSpan_11 ⟨Nat.le_of_ble_eq_true rfl, Nat.le_of_ble_eq_true rfl⟩) hP hD hS hA [] [0, 1] rfl rfl (by decide) (by decide) (fun r3 u H locs hw hP hD hS => ?_)
    obtain ⟨hP, hD⟩ : ct_B D A H [oo qh qr qt qd qd2 qi qh_kept qf qf2 vh_laid qo qe qw qu qg qn qs, dn qd vd_gap vd_odds vd_rain vd_lines qd_steps qd_lengths qd_starts qd_met qd_stumbles vd_stumbleCount qd_muds qd_cells vd_cellCount qd_tunes vd_tuneCount qd_changes vd_changeCount] := ⟨hP, hD⟩
    have hz := hw
    rcases hz with ⟨hz, hz2⟩ | ⟨hz, hz2⟩
    · subst hz
      have hz_4 : (0 ≤ a1.toInt ∧ a1.toInt < 200) := hz2
      refine lv_if_eq (tgt := 33) hx hb dX11_hasSpan_14 (by decide) (fun hc => absurd hc (by decide)) (fun _ => ?_)
      refine lv_iload_n hx hb dX11_hasSpan_17 rfl (lv_at hl 2 rfl) ?_
      refine ct_calli (D := D) (wr := [oo qh qr qt qd qd2 qi qh_kept qf qf2 vh_laid qo qe qw qu qg qn qs, dn qd vd_gap vd_odds vd_rain vd_lines qd_steps qd_lengths qd_starts qd_met qd_stumbles vd_stumbleCount qd_muds qd_cells vd_cellCount qd_tunes vd_tuneCount qd_changes vd_changeCount]) (va_runS (As := [.int a2]) (rest := []) ⟨hx, hb, hml, hown, hts⟩ (c_X11_isBeat l D G cI cJ cB cZ cO a2  H.size) (va_cwS 1 hts gX11_hasSpan_X11_isBeat rfl rfl rfl (by decide +kernel) ⟨Nat.le_of_ble_eq_true rfl, Nat.le_of_ble_eq_true rfl⟩) (ct_preS (T := ct_T cI cJ cB cZ cO) hE hH hP hD hS hA [] (by decide) rfl) rfl rfl hl.1 rfl (lv_room (Nat.le_of_ble_eq_true rfl)) dX11_hasSpan_18 ⟨Nat.le_of_ble_eq_true rfl, Nat.le_of_ble_eq_true rfl⟩) hP hD hS hA [] [0, 1] rfl rfl (by decide) (by decide) (fun r5 u H locs hw hP hD hS => ?_)
      obtain ⟨hP, hD⟩ : ct_B D A H [oo qh qr qt qd qd2 qi qh_kept qf qf2 vh_laid qo qe qw qu qg qn qs, dn qd vd_gap vd_odds vd_rain vd_lines qd_steps qd_lengths qd_starts qd_met qd_stumbles vd_stumbleCount qd_muds qd_cells vd_cellCount qd_tunes vd_tuneCount qd_changes vd_changeCount] := ⟨hP, hD⟩
      have hz := hw
      rcases hz with ⟨hz, hz2⟩ | ⟨hz, hz2⟩
      · subst hz
        have hz_6 : (0 ≤ a2.toInt ∧ a2.toInt < 200) := hz2
        refine lv_if_eq (tgt := 33) hx hb dX11_hasSpan_21 (by decide) (fun hc => absurd hc (by decide)) (fun _ => ?_)
        refine lv_iload_n hx hb dX11_hasSpan_24 rfl (lv_at hl 1 rfl) ?_
        refine lv_iload_n hx hb dX11_hasSpan_25 rfl (lv_at hl 2 rfl) ?_
        refine lv_icmp_gt (tgt := 33) hx hb dX11_hasSpan_26 (by decide) (fun hc => ?_) (fun hc => ?_)
        · have hq7 : a2.toInt < a1.toInt := tq_lt rfl rfl hc
          refine lv_iconst (v := 0) hx hb dX11_hasSpan_33 (by decide) ?_
          obtain ⟨hP9, hD9⟩ : ct_B D A H [oo qh qr qt qd qd2 qi qh_kept qf qf2 vh_laid qo qe qw qu qg qn qs, dn qd vd_gap vd_odds vd_rain vd_lines qd_steps qd_lengths qd_starts qd_met qd_stumbles vd_stumbleCount qd_muds qd_cells vd_cellCount qd_tunes vd_tuneCount qd_changes vd_changeCount] := ⟨hP.sub [0, 1] rfl, hD.sub [0, 1] (by decide) rfl⟩
          exact W.zret (v := 0) (ty := .boolean) hx hb hr rfl (fun t ht hW => ⟨⟨0, (), rfl, (Or.inr (⟨rfl, trivial⟩)), by rw [ht]; exact hP9, hD9⟩, hS.F ht⟩) hS.2.2 dX11_hasSpan_34
        · have hq7 : a1.toInt ≤ a2.toInt := tq_nlt rfl rfl hc
          refine lv_iconst (v := 1) hx hb dX11_hasSpan_29 (by decide) ?_
          refine lv_goto (tgt := 34) hx hb dX11_hasSpan_30 (by decide) ?_
          obtain ⟨hP9, hD9⟩ : ct_B D A H [oo qh qr qt qd qd2 qi qh_kept qf qf2 vh_laid qo qe qw qu qg qn qs, dn qd vd_gap vd_odds vd_rain vd_lines qd_steps qd_lengths qd_starts qd_met qd_stumbles vd_stumbleCount qd_muds qd_cells vd_cellCount qd_tunes vd_tuneCount qd_changes vd_changeCount] := ⟨hP.sub [0, 1] rfl, hD.sub [0, 1] (by decide) rfl⟩
          exact W.zret (v := 1) (ty := .boolean) hx hb hr rfl (fun t ht hW => ⟨⟨1, (), rfl, (Or.inl ⟨rfl, (show (0 ≤ a1.toInt ∧ a1.toInt ≤ a2.toInt ∧ a2.toInt < 200) by omega)⟩), by rw [ht]; exact hP9, hD9⟩, hS.F ht⟩) hS.2.2 dX11_hasSpan_34
      · subst hz
        have hz_8 : ¬ (0 ≤ a2.toInt ∧ a2.toInt < 200) := hz2
        refine lv_if_eq (tgt := 33) hx hb dX11_hasSpan_21 (by decide) (fun _ => ?_) (fun hc => absurd hc (by decide))
        refine lv_iconst (v := 0) hx hb dX11_hasSpan_33 (by decide) ?_
        obtain ⟨hP9, hD9⟩ : ct_B D A H [oo qh qr qt qd qd2 qi qh_kept qf qf2 vh_laid qo qe qw qu qg qn qs, dn qd vd_gap vd_odds vd_rain vd_lines qd_steps qd_lengths qd_starts qd_met qd_stumbles vd_stumbleCount qd_muds qd_cells vd_cellCount qd_tunes vd_tuneCount qd_changes vd_changeCount] := ⟨hP.sub [0, 1] rfl, hD.sub [0, 1] (by decide) rfl⟩
        exact W.zret (v := 0) (ty := .boolean) hx hb hr rfl (fun t ht hW => ⟨⟨0, (), rfl, (Or.inr (⟨rfl, trivial⟩)), by rw [ht]; exact hP9, hD9⟩, hS.F ht⟩) hS.2.2 dX11_hasSpan_34
    · subst hz
      have hz_9 : ¬ (0 ≤ a1.toInt ∧ a1.toInt < 200) := hz2
      refine lv_if_eq (tgt := 33) hx hb dX11_hasSpan_14 (by decide) (fun _ => ?_) (fun hc => absurd hc (by decide))
      refine lv_iconst (v := 0) hx hb dX11_hasSpan_33 (by decide) ?_
      obtain ⟨hP9, hD9⟩ : ct_B D A H [oo qh qr qt qd qd2 qi qh_kept qf qf2 vh_laid qo qe qw qu qg qn qs, dn qd vd_gap vd_odds vd_rain vd_lines qd_steps qd_lengths qd_starts qd_met qd_stumbles vd_stumbleCount qd_muds qd_cells vd_cellCount qd_tunes vd_tuneCount qd_changes vd_changeCount] := ⟨hP.sub [0, 1] rfl, hD.sub [0, 1] (by decide) rfl⟩
      exact W.zret (v := 0) (ty := .boolean) hx hb hr rfl (fun t ht hW => ⟨⟨0, (), rfl, (Or.inr (⟨rfl, trivial⟩)), by rw [ht]; exact hP9, hD9⟩, hS.F ht⟩) hS.2.2 dX11_hasSpan_34
  · subst hz
    have hz_10 : ¬ (0 < vd_lines.toInt) := hz2
    refine lv_if_eq (tgt := 33) hx hb dX11_hasSpan_7 (by decide) (fun _ => ?_) (fun hc => absurd hc (by decide))
    refine lv_iconst (v := 0) hx hb dX11_hasSpan_33 (by decide) ?_
    obtain ⟨hP9, hD9⟩ : ct_B D A H [oo qh qr qt qd qd2 qi qh_kept qf qf2 vh_laid qo qe qw qu qg qn qs, dn qd vd_gap vd_odds vd_rain vd_lines qd_steps qd_lengths qd_starts qd_met qd_stumbles vd_stumbleCount qd_muds qd_cells vd_cellCount qd_tunes vd_tuneCount qd_changes vd_changeCount] := ⟨hP.sub [0, 1] rfl, hD.sub [0, 1] (by decide) rfl⟩
    exact W.zret (v := 0) (ty := .boolean) hx hb hr rfl (fun t ht hW => ⟨⟨0, (), rfl, (Or.inr (⟨rfl, trivial⟩)), by rw [ht]; exact hP9, hD9⟩, hS.F ht⟩) hS.2.2 dX11_hasSpan_34
abbrev w_c_X11_hasRounds (cI cJ cB cZ cO : ClassId) (qh : Nat) (qh_kept : Nat) (vh_laid : Int32) (qi : Nat) (qr : Nat) (qt : Nat) (qd : Nat) (vd_gap : Int32) (vd_odds : Int32) (vd_rain : Int32) (vd_lines : Int32) (qd_steps : Nat) (qd_lengths : Nat) (fd_lengths : Nat → Int32) (qd_starts : Nat) (qd_met : Nat) (qd_stumbles : Nat) (vd_stumbleCount : Int32) (qd_muds : Nat) (qd_cells : Nat) (vd_cellCount : Int32) (qd_tunes : Nat) (vd_tuneCount : Int32) (qd_changes : Nat) (vd_changeCount : Int32) (qd2 : Nat) (qf : Nat) (qf2 : Nat) (qo : Nat) (qe : Nat) (qw : Nat) (qu : Nat) (qg : Nat) (qn : Nat) (qs : Nat) : va_W := [oo qh qr qt qd qd2 qi qh_kept qf qf2 vh_laid qo qe qw qu qg qn qs, dn qd vd_gap vd_odds vd_rain vd_lines qd_steps qd_lengths qd_starts qd_met qd_stumbles vd_stumbleCount qd_muds qd_cells vd_cellCount qd_tunes vd_tuneCount qd_changes vd_changeCount, (qd_lengths, .inl (cI, 2, .inl (fd_lengths)))]
set_option maxHeartbeats 4000000 in
set_option maxRecDepth 100000 in
/-- X11 hasRounds -/
theorem c_X11_hasRounds (l : Launch) (D : va_G) (G : ct_G) (cI cJ cB cZ cO : ClassId) (qh : Nat) (qh_kept : Nat) (vh_laid : Int32) (qi : Nat) (qr : Nat) (qt : Nat) (qd : Nat) (vd_gap : Int32) (vd_odds : Int32) (vd_rain : Int32) (vd_lines : Int32) (qd_steps : Nat) (qd_lengths : Nat) (fd_lengths : Nat → Int32) (qd_starts : Nat) (qd_met : Nat) (qd_stumbles : Nat) (vd_stumbleCount : Int32) (qd_muds : Nat) (qd_cells : Nat) (vd_cellCount : Int32) (qd_tunes : Nat) (vd_tuneCount : Int32) (qd_changes : Nat) (vd_changeCount : Int32) (qd2 : Nat) (qf : Nat) (qf2 : Nat) (qo : Nat) (qe : Nat) (qw : Nat) (qu : Nat) (qg : Nat) (qn : Nat) (qs : Nat) (h_vd_gap : 0 ≤ vd_gap.toInt ∧ vd_gap.toInt ≤ 20) (h_fd_lengths : ar_ok [0] [12] fd_lengths) (h_vd_stumbleCount : 0 ≤ vd_stumbleCount.toInt ∧ vd_stumbleCount.toInt ≤ 8) (h_vd_cellCount : 0 ≤ vd_cellCount.toInt ∧ vd_cellCount.toInt ≤ 12) (h_vd_tuneCount : 0 ≤ vd_tuneCount.toInt ∧ vd_tuneCount.toInt ≤ 5) (h_vd_changeCount : 0 ≤ vd_changeCount.toInt ∧ vd_changeCount.toInt ≤ 40) (sz : Nat) : Met l yX11_hasRounds wsX11_hasRounds ({ frames := 1, cells := 0, slots := 0, locals := 20 }) (va_Pc [.ref qh] (ct_P D (ct_T cI cJ cB cZ cO) G (w_c_X11_hasRounds cI cJ cB cZ cO qh qh_kept vh_laid qi qr qt qd vd_gap vd_odds vd_rain vd_lines qd_steps qd_lengths fd_lengths qd_starts qd_met qd_stumbles vd_stumbleCount qd_muds qd_cells vd_cellCount qd_tunes vd_tuneCount qd_changes vd_changeCount qd2 qf qf2 qo qe qw qu qg qn qs) sz)) (va_Qi (fun (rz : Int32) (u : Unit) => ((rz = 1 ∧ True) ∨ (rz = 0 ∧ True))) (fun (u : Unit) t => ct_Q D (va_A (w_c_X11_hasRounds cI cJ cB cZ cO qh qh_kept vh_laid qi qr qt qd vd_gap vd_odds vd_rain vd_lines qd_steps qd_lengths fd_lengths qd_starts qd_met qd_stumbles vd_stumbleCount qd_muds qd_cells vd_cellCount qd_tunes vd_tuneCount qd_changes vd_changeCount qd2 qf qf2 qo qe qw qu qg qn qs) sz) [oo qh qr qt qd qd2 qi qh_kept qf qf2 vh_laid qo qe qw qu qg qn qs, dn qd vd_gap vd_odds vd_rain vd_lines qd_steps qd_lengths qd_starts qd_met qd_stumbles vd_stumbleCount qd_muds qd_cells vd_cellCount qd_tunes vd_tuneCount qd_changes vd_changeCount, (qd_lengths, .inl (cI, 2, .inl (fd_lengths)))] t) (va_A (w_c_X11_hasRounds cI cJ cB cZ cO qh qh_kept vh_laid qi qr qt qd vd_gap vd_odds vd_rain vd_lines qd_steps qd_lengths fd_lengths qd_starts qd_met qd_stumbles vd_stumbleCount qd_muds qd_cells vd_cellCount qd_tunes vd_tuneCount qd_changes vd_changeCount qd2 qf qf2 qo qe qw qu qg qn qs) sz)) 0 0 (va_A (w_c_X11_hasRounds cI cJ cB cZ cO qh qh_kept vh_laid qi qr qt qd vd_gap vd_odds vd_rain vd_lines qd_steps qd_lengths fd_lengths qd_starts qd_met qd_stumbles vd_stumbleCount qd_muds qd_cells vd_cellCount qd_tunes vd_tuneCount qd_changes vd_changeCount qd2 qf qf2 qo qe qw qu qg qn qs) sz) := by
  refine Met.ofW (cc := cX11_hasRounds) (maxL := 1) (ret := (some .boolean)) (by decide) rfl ?_
  intro p e s m args below meth c s₁ B hml hv
  obtain ⟨rfl, hsz, hP, hE, hD0, hH⟩ := hv
  have hx := B.exec
  have hb := B.bytes
  have hr := B.returns
  have hts := atoms_spec (ws := wsX11_hasRounds) B.pre
  have hown : s.vm.findClass RX11 = some m.cls := findClass_of_methodNamed B.named
  have hlocks := B.notSynchronized
  have hK := hE.1
  have hi11 : ∀ w ∈ u_ws RX11 TX11 16, w ∈ wsX11_hasRounds := fun w h => List.mem_cons_of_mem _ (List.mem_append_left _ (List.mem_append_right _ h))
  subst hsz
  have hD := hD0.self (sz := s.heap.size)
  generalize hAe : va_A (w_c_X11_hasRounds cI cJ cB cZ cO qh qh_kept vh_laid qi qr qt qd vd_gap vd_odds vd_rain vd_lines qd_steps qd_lengths fd_lengths qd_starts qd_met qd_stumbles vd_stumbleCount qd_muds qd_cells vd_cellCount qd_tunes vd_tuneCount qd_changes vd_changeCount qd2 qf qf2 qo qe qw qu qg qn qs) s.heap.size = A at hD hH ⊢
  have hA : ∀ q : Nat, s.heap.size ≤ q → A q := fun q h => by rw [← hAe]; exact Or.inr h
  have hS : va_S A s.heap s.heap [] := va_S.rf
  obtain ⟨hP, hD⟩ : ct_B D A s.heap [oo qh qr qt qd qd2 qi qh_kept qf qf2 vh_laid qo qe qw qu qg qn qs, dn qd vd_gap vd_odds vd_rain vd_lines qd_steps qd_lengths qd_starts qd_met qd_stumbles vd_stumbleCount qd_muds qd_cells vd_cellCount qd_tunes vd_tuneCount qd_changes vd_changeCount, (qd_lengths, .inl (cI, 2, .inl (fd_lengths)))] := ⟨hP, hD⟩
  have hl := lv_entry ([.ref qh]) (n := 1) (Nat.le_of_ble_eq_true rfl)
  rw [lg_entry_eq]
  generalize (lg_sl ([.ref qh]) ++ List.replicate (1 - (lg_sl ([.ref qh])).length) Slot.unset).toArray = ls at hl ⊢
  have hl : lv_has ls 1 [(0, .ref qh)] := hl
  obtain ⟨H, hHe⟩ : ∃ H : Heap, H = s.heap := ⟨_, rfl⟩
  rw [← hHe] at hP
  have hS : va_S A s.heap H [] := by rw [hHe]; exact va_S.rf
  refine ct_start hHe ?_
  refine lv_aload_n hx hb dX11_hasRounds_0 rfl (lv_at hl 0 rfl) ?_
  refine va_get (D := D) (ci := 11) (v := .ref qd) (C := RX11) (T := TX11) (N := 16) hx hb hts hi11 hown hK hP 0 rfl rfl 2 (by decide) (hts (.fieldLink RX11 24 "OverHill" "now" "LOverHill$Dance;") (by decide +kernel)) (fun _ h9 => h9) rfl dX11_hasRounds_1 ?_
  refine ct_calli (D := D) (wr := [oo qh qr qt qd qd2 qi qh_kept qf qf2 vh_laid qo qe qw qu qg qn qs, (qd_lengths, .inl (cI, 2, .inl (fd_lengths)))]) (va_runV (As := []) (rest := []) ⟨hx, hb, hml, hown, hts⟩ (c_X0_stands l D G cI cJ cB cZ cO qd vd_gap vd_odds vd_rain vd_lines qd_steps qd_lengths qd_starts qd_met qd_stumbles vd_stumbleCount qd_muds qd_cells vd_cellCount qd_tunes vd_tuneCount qd_changes vd_changeCount h_vd_gap h_vd_stumbleCount h_vd_cellCount h_vd_tuneCount h_vd_changeCount H.size) (cwV 0 hts gX11_hasRounds_X0_stands rfl rfl rfl (by decide +kernel) ⟨Nat.le_of_ble_eq_true rfl, Nat.le_of_ble_eq_true rfl⟩) (ct_preV (T := ct_T cI cJ cB cZ cO) (ci := 0) (q0 := 1) hE hH hP hD hS hA [1] (by decide) rfl rfl rfl) rfl rfl hl.1 rfl (lv_room (Nat.le_of_ble_eq_true rfl)) dX11_hasRounds_4 ⟨Nat.le_of_ble_eq_true rfl, Nat.le_of_ble_eq_true rfl⟩) hP hD hS hA [1] [0, 2] rfl rfl (by decide) (by decide) (fun r1 u H locs hw hP hD hS => ?_)
  obtain ⟨hP, hD⟩ : ct_B D A H [oo qh qr qt qd qd2 qi qh_kept qf qf2 vh_laid qo qe qw qu qg qn qs, (qd_lengths, .inl (cI, 2, .inl (fd_lengths))), dn qd vd_gap vd_odds vd_rain vd_lines qd_steps qd_lengths qd_starts qd_met qd_stumbles vd_stumbleCount qd_muds qd_cells vd_cellCount qd_tunes vd_tuneCount qd_changes vd_changeCount] := ⟨hP, hD⟩
  have hz := hw
  rcases hz with ⟨hz, hz2⟩ | ⟨hz, hz2⟩
  · subst hz
    have hz_2 : (0 < vd_lines.toInt) := hz2
    refine lv_if_eq (tgt := 24) hx hb dX11_hasRounds_7 (by decide) (fun hc => absurd hc (by decide)) (fun _ => ?_)
    refine lv_aload_n hx hb dX11_hasRounds_10 rfl (lv_at hl 0 rfl) ?_
    refine va_get (D := D) (ci := 11) (v := .ref qd) (C := RX11) (T := TX11) (N := 16) hx hb hts hi11 hown hK hP 0 rfl rfl 2 (by decide) (hts (.fieldLink RX11 24 "OverHill" "now" "LOverHill$Dance;") (by decide +kernel)) (fun _ h9 => h9) rfl dX11_hasRounds_11 ?_
    refine ct_calli (D := D) (wr := [oo qh qr qt qd qd2 qi qh_kept qf qf2 vh_laid qo qe qw qu qg qn qs]) (va_runV (As := []) (rest := []) ⟨hx, hb, hml, hown, hts⟩ (c_X0_hasBothRounds l D G cI cJ cB cZ cO qd vd_gap vd_odds vd_rain vd_lines qd_steps qd_lengths fd_lengths qd_starts qd_met qd_stumbles vd_stumbleCount qd_muds qd_cells vd_cellCount qd_tunes vd_tuneCount qd_changes vd_changeCount h_vd_gap h_fd_lengths h_vd_stumbleCount h_vd_cellCount h_vd_tuneCount h_vd_changeCount H.size) (cwV 0 hts gX11_hasRounds_X0_hasBothRounds rfl rfl rfl (by decide +kernel) ⟨Nat.le_of_ble_eq_true rfl, Nat.le_of_ble_eq_true rfl⟩) (ct_preV (T := ct_T cI cJ cB cZ cO) (ci := 0) (q0 := 2) hE hH hP hD hS hA [2, 1] (by decide) rfl rfl rfl) rfl rfl hl.1 rfl (lv_room (Nat.le_of_ble_eq_true rfl)) dX11_hasRounds_14 ⟨Nat.le_of_ble_eq_true rfl, Nat.le_of_ble_eq_true rfl⟩) hP hD hS hA [2, 1] [0] rfl rfl (by decide) (by decide) (fun r3 u H locs hw hP hD hS => ?_)
    obtain ⟨hP, hD⟩ : ct_B D A H [oo qh qr qt qd qd2 qi qh_kept qf qf2 vh_laid qo qe qw qu qg qn qs, dn qd vd_gap vd_odds vd_rain vd_lines qd_steps qd_lengths qd_starts qd_met qd_stumbles vd_stumbleCount qd_muds qd_cells vd_cellCount qd_tunes vd_tuneCount qd_changes vd_changeCount, (qd_lengths, .inl (cI, 2, .inl (fd_lengths)))] := ⟨hP, hD⟩
    have hz := hw
    rcases hz with ⟨hz, hz2⟩ | ⟨hz, hz2⟩
    · subst hz
      refine lv_if_eq (tgt := 24) hx hb dX11_hasRounds_17 (by decide) (fun hc => absurd hc (by decide)) (fun _ => ?_)
      refine lv_iconst (v := 1) hx hb dX11_hasRounds_20 (by decide) ?_
      refine lv_goto (tgt := 25) hx hb dX11_hasRounds_21 (by decide) ?_
      obtain ⟨hP9, hD9⟩ : ct_B D A H [oo qh qr qt qd qd2 qi qh_kept qf qf2 vh_laid qo qe qw qu qg qn qs, dn qd vd_gap vd_odds vd_rain vd_lines qd_steps qd_lengths qd_starts qd_met qd_stumbles vd_stumbleCount qd_muds qd_cells vd_cellCount qd_tunes vd_tuneCount qd_changes vd_changeCount, (qd_lengths, .inl (cI, 2, .inl (fd_lengths)))] := ⟨hP.sub [0, 1, 2] rfl, hD.sub [0, 1, 2] (by decide) rfl⟩
      exact W.zret (v := 1) (ty := .boolean) hx hb hr rfl (fun t ht hW => ⟨⟨1, (), rfl, (Or.inl ⟨rfl, trivial⟩), by rw [ht]; exact hP9, hD9⟩, hS.F ht⟩) hS.2.2 dX11_hasRounds_25
    · subst hz
      refine lv_if_eq (tgt := 24) hx hb dX11_hasRounds_17 (by decide) (fun _ => ?_) (fun hc => absurd hc (by decide))
      refine lv_iconst (v := 0) hx hb dX11_hasRounds_24 (by decide) ?_
      obtain ⟨hP9, hD9⟩ : ct_B D A H [oo qh qr qt qd qd2 qi qh_kept qf qf2 vh_laid qo qe qw qu qg qn qs, dn qd vd_gap vd_odds vd_rain vd_lines qd_steps qd_lengths qd_starts qd_met qd_stumbles vd_stumbleCount qd_muds qd_cells vd_cellCount qd_tunes vd_tuneCount qd_changes vd_changeCount, (qd_lengths, .inl (cI, 2, .inl (fd_lengths)))] := ⟨hP.sub [0, 1, 2] rfl, hD.sub [0, 1, 2] (by decide) rfl⟩
      exact W.zret (v := 0) (ty := .boolean) hx hb hr rfl (fun t ht hW => ⟨⟨0, (), rfl, (Or.inr (⟨rfl, trivial⟩)), by rw [ht]; exact hP9, hD9⟩, hS.F ht⟩) hS.2.2 dX11_hasRounds_25
  · subst hz
    have hz_4 : ¬ (0 < vd_lines.toInt) := hz2
    refine lv_if_eq (tgt := 24) hx hb dX11_hasRounds_7 (by decide) (fun _ => ?_) (fun hc => absurd hc (by decide))
    refine lv_iconst (v := 0) hx hb dX11_hasRounds_24 (by decide) ?_
    obtain ⟨hP9, hD9⟩ : ct_B D A H [oo qh qr qt qd qd2 qi qh_kept qf qf2 vh_laid qo qe qw qu qg qn qs, dn qd vd_gap vd_odds vd_rain vd_lines qd_steps qd_lengths qd_starts qd_met qd_stumbles vd_stumbleCount qd_muds qd_cells vd_cellCount qd_tunes vd_tuneCount qd_changes vd_changeCount, (qd_lengths, .inl (cI, 2, .inl (fd_lengths)))] := ⟨hP.sub [0, 2, 1] rfl, hD.sub [0, 2, 1] (by decide) rfl⟩
    exact W.zret (v := 0) (ty := .boolean) hx hb hr rfl (fun t ht hW => ⟨⟨0, (), rfl, (Or.inr (⟨rfl, trivial⟩)), by rw [ht]; exact hP9, hD9⟩, hS.F ht⟩) hS.2.2 dX11_hasRounds_25
abbrev w_c_X11_hasSet (cI cJ cB cZ cO : ClassId) (qh : Nat) (qh_kept : Nat) (vh_laid : Int32) (qi : Nat) (qr : Nat) (qt : Nat) (qd : Nat) (vd_gap : Int32) (vd_odds : Int32) (vd_rain : Int32) (vd_lines : Int32) (qd_steps : Nat) (qd_lengths : Nat) (qd_starts : Nat) (qd_met : Nat) (qd_stumbles : Nat) (vd_stumbleCount : Int32) (qd_muds : Nat) (qd_cells : Nat) (vd_cellCount : Int32) (qd_tunes : Nat) (vd_tuneCount : Int32) (qd_changes : Nat) (vd_changeCount : Int32) (qd2 : Nat) (qf : Nat) (qf2 : Nat) (qo : Nat) (qe : Nat) (qw : Nat) (qu : Nat) (qg : Nat) (qn : Nat) (qs : Nat) : va_W := [oo qh qr qt qd qd2 qi qh_kept qf qf2 vh_laid qo qe qw qu qg qn qs, dn qd vd_gap vd_odds vd_rain vd_lines qd_steps qd_lengths qd_starts qd_met qd_stumbles vd_stumbleCount qd_muds qd_cells vd_cellCount qd_tunes vd_tuneCount qd_changes vd_changeCount]
set_option maxHeartbeats 4000000 in
set_option maxRecDepth 100000 in
/-- X11 hasSet -/
theorem c_X11_hasSet (l : Launch) (D : va_G) (G : ct_G) (cI cJ cB cZ cO : ClassId) (qh : Nat) (qh_kept : Nat) (vh_laid : Int32) (qi : Nat) (qr : Nat) (qt : Nat) (qd : Nat) (vd_gap : Int32) (vd_odds : Int32) (vd_rain : Int32) (vd_lines : Int32) (qd_steps : Nat) (qd_lengths : Nat) (qd_starts : Nat) (qd_met : Nat) (qd_stumbles : Nat) (vd_stumbleCount : Int32) (qd_muds : Nat) (qd_cells : Nat) (vd_cellCount : Int32) (qd_tunes : Nat) (vd_tuneCount : Int32) (qd_changes : Nat) (vd_changeCount : Int32) (qd2 : Nat) (qf : Nat) (qf2 : Nat) (qo : Nat) (qe : Nat) (qw : Nat) (qu : Nat) (qg : Nat) (qn : Nat) (qs : Nat) (a1 : Int32) (h_vd_gap : 0 ≤ vd_gap.toInt ∧ vd_gap.toInt ≤ 20) (h_vd_stumbleCount : 0 ≤ vd_stumbleCount.toInt ∧ vd_stumbleCount.toInt ≤ 8) (h_vd_cellCount : 0 ≤ vd_cellCount.toInt ∧ vd_cellCount.toInt ≤ 12) (h_vd_tuneCount : 0 ≤ vd_tuneCount.toInt ∧ vd_tuneCount.toInt ≤ 5) (h_vd_changeCount : 0 ≤ vd_changeCount.toInt ∧ vd_changeCount.toInt ≤ 40) (sz : Nat) : Met l yX11_hasSet wsX11_hasSet ({ frames := 1, cells := 0, slots := 0, locals := 21 }) (va_Pc [.ref qh, .int a1] (ct_P D (ct_T cI cJ cB cZ cO) G (w_c_X11_hasSet cI cJ cB cZ cO qh qh_kept vh_laid qi qr qt qd vd_gap vd_odds vd_rain vd_lines qd_steps qd_lengths qd_starts qd_met qd_stumbles vd_stumbleCount qd_muds qd_cells vd_cellCount qd_tunes vd_tuneCount qd_changes vd_changeCount qd2 qf qf2 qo qe qw qu qg qn qs) sz)) (va_Qi (fun (rz : Int32) (u : Unit) => ((rz = 1 ∧ True) ∨ (rz = 0 ∧ True))) (fun (u : Unit) t => ct_Q D (va_A (w_c_X11_hasSet cI cJ cB cZ cO qh qh_kept vh_laid qi qr qt qd vd_gap vd_odds vd_rain vd_lines qd_steps qd_lengths qd_starts qd_met qd_stumbles vd_stumbleCount qd_muds qd_cells vd_cellCount qd_tunes vd_tuneCount qd_changes vd_changeCount qd2 qf qf2 qo qe qw qu qg qn qs) sz) [oo qh qr qt qd qd2 qi qh_kept qf qf2 vh_laid qo qe qw qu qg qn qs, dn qd vd_gap vd_odds vd_rain vd_lines qd_steps qd_lengths qd_starts qd_met qd_stumbles vd_stumbleCount qd_muds qd_cells vd_cellCount qd_tunes vd_tuneCount qd_changes vd_changeCount] t) (va_A (w_c_X11_hasSet cI cJ cB cZ cO qh qh_kept vh_laid qi qr qt qd vd_gap vd_odds vd_rain vd_lines qd_steps qd_lengths qd_starts qd_met qd_stumbles vd_stumbleCount qd_muds qd_cells vd_cellCount qd_tunes vd_tuneCount qd_changes vd_changeCount qd2 qf qf2 qo qe qw qu qg qn qs) sz)) 0 0 (va_A (w_c_X11_hasSet cI cJ cB cZ cO qh qh_kept vh_laid qi qr qt qd vd_gap vd_odds vd_rain vd_lines qd_steps qd_lengths qd_starts qd_met qd_stumbles vd_stumbleCount qd_muds qd_cells vd_cellCount qd_tunes vd_tuneCount qd_changes vd_changeCount qd2 qf qf2 qo qe qw qu qg qn qs) sz) := by
  refine Met.ofW (cc := cX11_hasSet) (maxL := 2) (ret := (some .boolean)) (by decide) rfl ?_
  intro p e s m args below meth c s₁ B hml hv
  obtain ⟨rfl, hsz, hP, hE, hD0, hH⟩ := hv
  have hx := B.exec
  have hb := B.bytes
  have hr := B.returns
  have hts := atoms_spec (ws := wsX11_hasSet) B.pre
  have hown : s.vm.findClass RX11 = some m.cls := findClass_of_methodNamed B.named
  have hlocks := B.notSynchronized
  have hK := hE.1
  have hi0 : ∀ w ∈ u_ws RX0 TX0 17, w ∈ wsX11_hasSet := fun w h => List.mem_cons_of_mem _ (List.mem_append_right _ h)
  have hi11 : ∀ w ∈ u_ws RX11 TX11 16, w ∈ wsX11_hasSet := fun w h => List.mem_cons_of_mem _ (List.mem_append_left _ (List.mem_append_right _ h))
  subst hsz
  have hD := hD0.self (sz := s.heap.size)
  generalize hAe : va_A (w_c_X11_hasSet cI cJ cB cZ cO qh qh_kept vh_laid qi qr qt qd vd_gap vd_odds vd_rain vd_lines qd_steps qd_lengths qd_starts qd_met qd_stumbles vd_stumbleCount qd_muds qd_cells vd_cellCount qd_tunes vd_tuneCount qd_changes vd_changeCount qd2 qf qf2 qo qe qw qu qg qn qs) s.heap.size = A at hD hH ⊢
  have hA : ∀ q : Nat, s.heap.size ≤ q → A q := fun q h => by rw [← hAe]; exact Or.inr h
  have hS : va_S A s.heap s.heap [] := va_S.rf
  obtain ⟨hP, hD⟩ : ct_B D A s.heap [oo qh qr qt qd qd2 qi qh_kept qf qf2 vh_laid qo qe qw qu qg qn qs, dn qd vd_gap vd_odds vd_rain vd_lines qd_steps qd_lengths qd_starts qd_met qd_stumbles vd_stumbleCount qd_muds qd_cells vd_cellCount qd_tunes vd_tuneCount qd_changes vd_changeCount] := ⟨hP, hD⟩
  have hl := lv_entry ([.ref qh, .int a1]) (n := 2) (Nat.le_of_ble_eq_true rfl)
  rw [lg_entry_eq]
  generalize (lg_sl ([.ref qh, .int a1]) ++ List.replicate (2 - (lg_sl ([.ref qh, .int a1])).length) Slot.unset).toArray = ls at hl ⊢
  have hl : lv_has ls 2 [(0, .ref qh), (1, .int a1)] := hl
  obtain ⟨H, hHe⟩ : ∃ H : Heap, H = s.heap := ⟨_, rfl⟩
  rw [← hHe] at hP
  have hS : va_S A s.heap H [] := by rw [hHe]; exact va_S.rf
  refine ct_start hHe ?_
  refine lv_aload_n hx hb dX11_hasSet_0 rfl (lv_at hl 0 rfl) ?_
  refine va_get (D := D) (ci := 11) (v := .ref qd) (C := RX11) (T := TX11) (N := 16) hx hb hts hi11 hown hK hP 0 rfl rfl 2 (by decide) (hts (.fieldLink RX11 24 "OverHill" "now" "LOverHill$Dance;") (by decide +kernel)) (fun _ h9 => h9) rfl dX11_hasSet_1 ?_
  refine ct_calli (D := D) (wr := [oo qh qr qt qd qd2 qi qh_kept qf qf2 vh_laid qo qe qw qu qg qn qs]) (va_runV (As := []) (rest := []) ⟨hx, hb, hml, hown, hts⟩ (c_X0_stands l D G cI cJ cB cZ cO qd vd_gap vd_odds vd_rain vd_lines qd_steps qd_lengths qd_starts qd_met qd_stumbles vd_stumbleCount qd_muds qd_cells vd_cellCount qd_tunes vd_tuneCount qd_changes vd_changeCount h_vd_gap h_vd_stumbleCount h_vd_cellCount h_vd_tuneCount h_vd_changeCount H.size) (cwV 0 hts gX11_hasSet_X0_stands rfl rfl rfl (by decide +kernel) ⟨Nat.le_of_ble_eq_true rfl, Nat.le_of_ble_eq_true rfl⟩) (ct_preV (T := ct_T cI cJ cB cZ cO) (ci := 0) (q0 := 1) hE hH hP hD hS hA [1] (by decide) rfl rfl rfl) rfl rfl hl.1 rfl (lv_room (Nat.le_of_ble_eq_true rfl)) dX11_hasSet_4 ⟨Nat.le_of_ble_eq_true rfl, Nat.le_of_ble_eq_true rfl⟩) hP hD hS hA [1] [0] rfl rfl (by decide) (by decide) (fun r1 u H locs hw hP hD hS => ?_)
  obtain ⟨hP, hD⟩ : ct_B D A H [oo qh qr qt qd qd2 qi qh_kept qf qf2 vh_laid qo qe qw qu qg qn qs, dn qd vd_gap vd_odds vd_rain vd_lines qd_steps qd_lengths qd_starts qd_met qd_stumbles vd_stumbleCount qd_muds qd_cells vd_cellCount qd_tunes vd_tuneCount qd_changes vd_changeCount] := ⟨hP, hD⟩
  have hz := hw
  rcases hz with ⟨hz, hz2⟩ | ⟨hz, hz2⟩
  · subst hz
    have hz_2 : (0 < vd_lines.toInt) := hz2
    refine lv_if_eq (tgt := 30) hx hb dX11_hasSet_7 (by decide) (fun hc => absurd hc (by decide)) (fun _ => ?_)
    refine lv_iload_n hx hb dX11_hasSet_10 rfl (lv_at hl 1 rfl) ?_
    refine lv_iconst (v := 1) hx hb dX11_hasSet_11 (by decide) ?_
    refine lv_aload_n hx hb dX11_hasSet_12 rfl (lv_at hl 0 rfl) ?_
    refine va_get (D := D) (ci := 11) (v := .ref qd) (C := RX11) (T := TX11) (N := 16) hx hb hts hi11 hown hK hP 0 rfl rfl 2 (by decide) (hts (.fieldLink RX11 24 "OverHill" "now" "LOverHill$Dance;") (by decide +kernel)) (fun _ h9 => h9) rfl dX11_hasSet_13 ?_
    refine va_get (D := D) (ci := 0) (v := .int vd_tuneCount) (C := RX0) (T := TX0) (N := 17) hx hb hts hi0 hown hK hP 1 rfl rfl 14 (by decide) (hts (.fieldLink RX11 401 "OverHill$Dance" "tuneCount" "I") (by decide +kernel)) (fun _ h9 => h9) rfl dX11_hasSet_16 ?_
    refine lv_ishl hx hb dX11_hasSet_19 ?_
    refine lv_topi (fun z3 ez3 => ?_)
    have fz3 : 1 ≤ z3.toInt ∧ z3.toInt ≤ 32 := by rw [ez3]; exact tq_shl5 rfl (by omega)
    refine ct_calli (D := D) (wr := [oo qh qr qt qd qd2 qi qh_kept qf qf2 vh_laid qo qe qw qu qg qn qs, dn qd vd_gap vd_odds vd_rain vd_lines qd_steps qd_lengths qd_starts qd_met qd_stumbles vd_stumbleCount qd_muds qd_cells vd_cellCount qd_tunes vd_tuneCount qd_changes vd_changeCount]) (va_runS (As := [.int a1, .int z3]) (rest := []) ⟨hx, hb, hml, hown, hts⟩ (c_X11_isWithin l D G cI cJ cB cZ cO a1 z3  H.size) (va_cwS 2 hts gX11_hasSet_X11_isWithin rfl rfl rfl (by decide +kernel) ⟨Nat.le_of_ble_eq_true rfl, Nat.le_of_ble_eq_true rfl⟩) (ct_preS (T := ct_T cI cJ cB cZ cO) hE hH hP hD hS hA [] (by decide) rfl) rfl rfl hl.1 rfl (lv_room (Nat.le_of_ble_eq_true rfl)) dX11_hasSet_20 ⟨Nat.le_of_ble_eq_true rfl, Nat.le_of_ble_eq_true rfl⟩) hP hD hS hA [] [0, 1] rfl rfl (by decide) (by decide) (fun r4 u H locs hw hP hD hS => ?_)
    obtain ⟨hP, hD⟩ : ct_B D A H [oo qh qr qt qd qd2 qi qh_kept qf qf2 vh_laid qo qe qw qu qg qn qs, dn qd vd_gap vd_odds vd_rain vd_lines qd_steps qd_lengths qd_starts qd_met qd_stumbles vd_stumbleCount qd_muds qd_cells vd_cellCount qd_tunes vd_tuneCount qd_changes vd_changeCount] := ⟨hP, hD⟩
    have hz := hw
    rcases hz with ⟨hz, hz2⟩ | ⟨hz, hz2⟩
    · subst hz
      have hz_5 : (0 ≤ a1.toInt ∧ a1.toInt < z3.toInt) := hz2
      refine lv_if_eq (tgt := 30) hx hb dX11_hasSet_23 (by decide) (fun hc => absurd hc (by decide)) (fun _ => ?_)
      refine lv_iconst (v := 1) hx hb dX11_hasSet_26 (by decide) ?_
      refine lv_goto (tgt := 31) hx hb dX11_hasSet_27 (by decide) ?_
      obtain ⟨hP9, hD9⟩ : ct_B D A H [oo qh qr qt qd qd2 qi qh_kept qf qf2 vh_laid qo qe qw qu qg qn qs, dn qd vd_gap vd_odds vd_rain vd_lines qd_steps qd_lengths qd_starts qd_met qd_stumbles vd_stumbleCount qd_muds qd_cells vd_cellCount qd_tunes vd_tuneCount qd_changes vd_changeCount] := ⟨hP.sub [0, 1] rfl, hD.sub [0, 1] (by decide) rfl⟩
      exact W.zret (v := 1) (ty := .boolean) hx hb hr rfl (fun t ht hW => ⟨⟨1, (), rfl, (Or.inl ⟨rfl, trivial⟩), by rw [ht]; exact hP9, hD9⟩, hS.F ht⟩) hS.2.2 dX11_hasSet_31
    · subst hz
      have hz_6 : ¬ (0 ≤ a1.toInt ∧ a1.toInt < z3.toInt) := hz2
      refine lv_if_eq (tgt := 30) hx hb dX11_hasSet_23 (by decide) (fun _ => ?_) (fun hc => absurd hc (by decide))
      refine lv_iconst (v := 0) hx hb dX11_hasSet_30 (by decide) ?_
      obtain ⟨hP9, hD9⟩ : ct_B D A H [oo qh qr qt qd qd2 qi qh_kept qf qf2 vh_laid qo qe qw qu qg qn qs, dn qd vd_gap vd_odds vd_rain vd_lines qd_steps qd_lengths qd_starts qd_met qd_stumbles vd_stumbleCount qd_muds qd_cells vd_cellCount qd_tunes vd_tuneCount qd_changes vd_changeCount] := ⟨hP.sub [0, 1] rfl, hD.sub [0, 1] (by decide) rfl⟩
      exact W.zret (v := 0) (ty := .boolean) hx hb hr rfl (fun t ht hW => ⟨⟨0, (), rfl, (Or.inr (⟨rfl, trivial⟩)), by rw [ht]; exact hP9, hD9⟩, hS.F ht⟩) hS.2.2 dX11_hasSet_31
  · subst hz
    have hz_7 : ¬ (0 < vd_lines.toInt) := hz2
    refine lv_if_eq (tgt := 30) hx hb dX11_hasSet_7 (by decide) (fun _ => ?_) (fun hc => absurd hc (by decide))
    refine lv_iconst (v := 0) hx hb dX11_hasSet_30 (by decide) ?_
    obtain ⟨hP9, hD9⟩ : ct_B D A H [oo qh qr qt qd qd2 qi qh_kept qf qf2 vh_laid qo qe qw qu qg qn qs, dn qd vd_gap vd_odds vd_rain vd_lines qd_steps qd_lengths qd_starts qd_met qd_stumbles vd_stumbleCount qd_muds qd_cells vd_cellCount qd_tunes vd_tuneCount qd_changes vd_changeCount] := ⟨hP.sub [0, 1] rfl, hD.sub [0, 1] (by decide) rfl⟩
    exact W.zret (v := 0) (ty := .boolean) hx hb hr rfl (fun t ht hW => ⟨⟨0, (), rfl, (Or.inr (⟨rfl, trivial⟩)), by rw [ht]; exact hP9, hD9⟩, hS.F ht⟩) hS.2.2 dX11_hasSet_31
abbrev w_c_X11_hasNight (cI cJ cB cZ cO : ClassId) (qh : Nat) (qh_kept : Nat) (vh_laid : Int32) (qi : Nat) (qr : Nat) (qt : Nat) (qd : Nat) (vd_gap : Int32) (vd_odds : Int32) (vd_rain : Int32) (vd_lines : Int32) (qd_steps : Nat) (qd_lengths : Nat) (qd_starts : Nat) (qd_met : Nat) (qd_stumbles : Nat) (vd_stumbleCount : Int32) (qd_muds : Nat) (qd_cells : Nat) (vd_cellCount : Int32) (qd_tunes : Nat) (vd_tuneCount : Int32) (qd_changes : Nat) (vd_changeCount : Int32) (qd2 : Nat) (qf : Nat) (qf2 : Nat) (qo : Nat) (qe : Nat) (qw : Nat) (qu : Nat) (qg : Nat) (qn : Nat) (qs : Nat) : va_W := [oo qh qr qt qd qd2 qi qh_kept qf qf2 vh_laid qo qe qw qu qg qn qs, dn qd vd_gap vd_odds vd_rain vd_lines qd_steps qd_lengths qd_starts qd_met qd_stumbles vd_stumbleCount qd_muds qd_cells vd_cellCount qd_tunes vd_tuneCount qd_changes vd_changeCount]
set_option maxHeartbeats 4000000 in
set_option maxRecDepth 100000 in
/-- X11 hasNight -/
theorem c_X11_hasNight (l : Launch) (D : va_G) (G : ct_G) (cI cJ cB cZ cO : ClassId) (qh : Nat) (qh_kept : Nat) (vh_laid : Int32) (qi : Nat) (qr : Nat) (qt : Nat) (qd : Nat) (vd_gap : Int32) (vd_odds : Int32) (vd_rain : Int32) (vd_lines : Int32) (qd_steps : Nat) (qd_lengths : Nat) (qd_starts : Nat) (qd_met : Nat) (qd_stumbles : Nat) (vd_stumbleCount : Int32) (qd_muds : Nat) (qd_cells : Nat) (vd_cellCount : Int32) (qd_tunes : Nat) (vd_tuneCount : Int32) (qd_changes : Nat) (vd_changeCount : Int32) (qd2 : Nat) (qf : Nat) (qf2 : Nat) (qo : Nat) (qe : Nat) (qw : Nat) (qu : Nat) (qg : Nat) (qn : Nat) (qs : Nat) (a1 : Int32) (a2 : Int32) (h_vd_gap : 0 ≤ vd_gap.toInt ∧ vd_gap.toInt ≤ 20) (h_vd_stumbleCount : 0 ≤ vd_stumbleCount.toInt ∧ vd_stumbleCount.toInt ≤ 8) (h_vd_cellCount : 0 ≤ vd_cellCount.toInt ∧ vd_cellCount.toInt ≤ 12) (h_vd_tuneCount : 0 ≤ vd_tuneCount.toInt ∧ vd_tuneCount.toInt ≤ 5) (h_vd_changeCount : 0 ≤ vd_changeCount.toInt ∧ vd_changeCount.toInt ≤ 40) (sz : Nat) : Met l yX11_hasNight wsX11_hasNight ({ frames := 1, cells := 0, slots := 0, locals := 20 }) (va_Pc [.ref qh, .int a1, .int a2] (ct_P D (ct_T cI cJ cB cZ cO) G (w_c_X11_hasNight cI cJ cB cZ cO qh qh_kept vh_laid qi qr qt qd vd_gap vd_odds vd_rain vd_lines qd_steps qd_lengths qd_starts qd_met qd_stumbles vd_stumbleCount qd_muds qd_cells vd_cellCount qd_tunes vd_tuneCount qd_changes vd_changeCount qd2 qf qf2 qo qe qw qu qg qn qs) sz)) (va_Qi (fun (rz : Int32) (u : Unit) => ((rz = 1 ∧ True) ∨ (rz = 0 ∧ True))) (fun (u : Unit) t => ct_Q D (va_A (w_c_X11_hasNight cI cJ cB cZ cO qh qh_kept vh_laid qi qr qt qd vd_gap vd_odds vd_rain vd_lines qd_steps qd_lengths qd_starts qd_met qd_stumbles vd_stumbleCount qd_muds qd_cells vd_cellCount qd_tunes vd_tuneCount qd_changes vd_changeCount qd2 qf qf2 qo qe qw qu qg qn qs) sz) [oo qh qr qt qd qd2 qi qh_kept qf qf2 vh_laid qo qe qw qu qg qn qs, dn qd vd_gap vd_odds vd_rain vd_lines qd_steps qd_lengths qd_starts qd_met qd_stumbles vd_stumbleCount qd_muds qd_cells vd_cellCount qd_tunes vd_tuneCount qd_changes vd_changeCount] t) (va_A (w_c_X11_hasNight cI cJ cB cZ cO qh qh_kept vh_laid qi qr qt qd vd_gap vd_odds vd_rain vd_lines qd_steps qd_lengths qd_starts qd_met qd_stumbles vd_stumbleCount qd_muds qd_cells vd_cellCount qd_tunes vd_tuneCount qd_changes vd_changeCount qd2 qf qf2 qo qe qw qu qg qn qs) sz)) 0 0 (va_A (w_c_X11_hasNight cI cJ cB cZ cO qh qh_kept vh_laid qi qr qt qd vd_gap vd_odds vd_rain vd_lines qd_steps qd_lengths qd_starts qd_met qd_stumbles vd_stumbleCount qd_muds qd_cells vd_cellCount qd_tunes vd_tuneCount qd_changes vd_changeCount qd2 qf qf2 qo qe qw qu qg qn qs) sz) := by
  refine Met.ofW (cc := cX11_hasNight) (maxL := 3) (ret := (some .boolean)) (by decide) rfl ?_
  intro p e s m args below meth c s₁ B hml hv
  obtain ⟨rfl, hsz, hP, hE, hD0, hH⟩ := hv
  have hx := B.exec
  have hb := B.bytes
  have hr := B.returns
  have hts := atoms_spec (ws := wsX11_hasNight) B.pre
  have hown : s.vm.findClass RX11 = some m.cls := findClass_of_methodNamed B.named
  have hlocks := B.notSynchronized
  have hK := hE.1
  have hi11 : ∀ w ∈ u_ws RX11 TX11 16, w ∈ wsX11_hasNight := fun w h => List.mem_cons_of_mem _ (List.mem_append_left _ (List.mem_append_right _ h))
  subst hsz
  have hD := hD0.self (sz := s.heap.size)
  generalize hAe : va_A (w_c_X11_hasNight cI cJ cB cZ cO qh qh_kept vh_laid qi qr qt qd vd_gap vd_odds vd_rain vd_lines qd_steps qd_lengths qd_starts qd_met qd_stumbles vd_stumbleCount qd_muds qd_cells vd_cellCount qd_tunes vd_tuneCount qd_changes vd_changeCount qd2 qf qf2 qo qe qw qu qg qn qs) s.heap.size = A at hD hH ⊢
  have hA : ∀ q : Nat, s.heap.size ≤ q → A q := fun q h => by rw [← hAe]; exact Or.inr h
  have hS : va_S A s.heap s.heap [] := va_S.rf
  obtain ⟨hP, hD⟩ : ct_B D A s.heap [oo qh qr qt qd qd2 qi qh_kept qf qf2 vh_laid qo qe qw qu qg qn qs, dn qd vd_gap vd_odds vd_rain vd_lines qd_steps qd_lengths qd_starts qd_met qd_stumbles vd_stumbleCount qd_muds qd_cells vd_cellCount qd_tunes vd_tuneCount qd_changes vd_changeCount] := ⟨hP, hD⟩
  have hl := lv_entry ([.ref qh, .int a1, .int a2]) (n := 3) (Nat.le_of_ble_eq_true rfl)
  rw [lg_entry_eq]
  generalize (lg_sl ([.ref qh, .int a1, .int a2]) ++ List.replicate (3 - (lg_sl ([.ref qh, .int a1, .int a2])).length) Slot.unset).toArray = ls at hl ⊢
  have hl : lv_has ls 3 [(0, .ref qh), (1, .int a1), (2, .int a2)] := hl
  obtain ⟨H, hHe⟩ : ∃ H : Heap, H = s.heap := ⟨_, rfl⟩
  rw [← hHe] at hP
  have hS : va_S A s.heap H [] := by rw [hHe]; exact va_S.rf
  refine ct_start hHe ?_
  refine lv_aload_n hx hb dX11_hasNight_0 rfl (lv_at hl 0 rfl) ?_
  refine va_get (D := D) (ci := 11) (v := .ref qd) (C := RX11) (T := TX11) (N := 16) hx hb hts hi11 hown hK hP 0 rfl rfl 2 (by decide) (hts (.fieldLink RX11 24 "OverHill" "now" "LOverHill$Dance;") (by decide +kernel)) (fun _ h9 => h9) rfl dX11_hasNight_1 ?_
  refine ct_calli (D := D) (wr := [oo qh qr qt qd qd2 qi qh_kept qf qf2 vh_laid qo qe qw qu qg qn qs]) (va_runV (As := []) (rest := []) ⟨hx, hb, hml, hown, hts⟩ (c_X0_stands l D G cI cJ cB cZ cO qd vd_gap vd_odds vd_rain vd_lines qd_steps qd_lengths qd_starts qd_met qd_stumbles vd_stumbleCount qd_muds qd_cells vd_cellCount qd_tunes vd_tuneCount qd_changes vd_changeCount h_vd_gap h_vd_stumbleCount h_vd_cellCount h_vd_tuneCount h_vd_changeCount H.size) (cwV 0 hts gX11_hasNight_X0_stands rfl rfl rfl (by decide +kernel) ⟨Nat.le_of_ble_eq_true rfl, Nat.le_of_ble_eq_true rfl⟩) (ct_preV (T := ct_T cI cJ cB cZ cO) (ci := 0) (q0 := 1) hE hH hP hD hS hA [1] (by decide) rfl rfl rfl) rfl rfl hl.1 rfl (lv_room (Nat.le_of_ble_eq_true rfl)) dX11_hasNight_4 ⟨Nat.le_of_ble_eq_true rfl, Nat.le_of_ble_eq_true rfl⟩) hP hD hS hA [1] [0] rfl rfl (by decide) (by decide) (fun r1 u H locs hw hP hD hS => ?_)
  obtain ⟨hP, hD⟩ : ct_B D A H [oo qh qr qt qd qd2 qi qh_kept qf qf2 vh_laid qo qe qw qu qg qn qs, dn qd vd_gap vd_odds vd_rain vd_lines qd_steps qd_lengths qd_starts qd_met qd_stumbles vd_stumbleCount qd_muds qd_cells vd_cellCount qd_tunes vd_tuneCount qd_changes vd_changeCount] := ⟨hP, hD⟩
  have hz := hw
  rcases hz with ⟨hz, hz2⟩ | ⟨hz, hz2⟩
  · subst hz
    have hz_2 : (0 < vd_lines.toInt) := hz2
    refine lv_if_eq (tgt := 36) hx hb dX11_hasNight_7 (by decide) (fun hc => absurd hc (by decide)) (fun _ => ?_)
    refine lv_iload_n hx hb dX11_hasNight_10 rfl (lv_at hl 1 rfl) ?_
    refine lv_if_lt (tgt := 36) hx hb dX11_hasNight_11 (by decide) (fun hc => ?_) (fun hc => ?_)
    · have hq3 : a1.toInt < 0 := tq_lt rfl (by decide) hc
      have hb4 := tq_lo a1
      refine lv_iconst (v := 0) hx hb dX11_hasNight_36 (by decide) ?_
      obtain ⟨hP9, hD9⟩ : ct_B D A H [oo qh qr qt qd qd2 qi qh_kept qf qf2 vh_laid qo qe qw qu qg qn qs, dn qd vd_gap vd_odds vd_rain vd_lines qd_steps qd_lengths qd_starts qd_met qd_stumbles vd_stumbleCount qd_muds qd_cells vd_cellCount qd_tunes vd_tuneCount qd_changes vd_changeCount] := ⟨hP.sub [0, 1] rfl, hD.sub [0, 1] (by decide) rfl⟩
      exact W.zret (v := 0) (ty := .boolean) hx hb hr rfl (fun t ht hW => ⟨⟨0, (), rfl, (Or.inr (⟨rfl, trivial⟩)), by rw [ht]; exact hP9, hD9⟩, hS.F ht⟩) hS.2.2 dX11_hasNight_37
    · have hq3 : 0 ≤ a1.toInt := tq_nlt rfl (by decide) hc
      have hb5 := tq_lo a1
      refine lv_iload_n hx hb dX11_hasNight_14 rfl (lv_at hl 1 rfl) ?_
      refine lv_ldcw (v := 2000000000) hx hb hown (hts (.constant RX11 437 (2000000000)) (by decide +kernel)) dX11_hasNight_15 ?_
      refine lv_icmp_gt (tgt := 36) hx hb dX11_hasNight_18 (by decide) (fun hc => ?_) (fun hc => ?_)
      · have hq6 : 2000000000 < a1.toInt := tq_lt (by decide +kernel) rfl hc
        have hb7 := tq_lo a1
        refine lv_iconst (v := 0) hx hb dX11_hasNight_36 (by decide) ?_
        obtain ⟨hP9, hD9⟩ : ct_B D A H [oo qh qr qt qd qd2 qi qh_kept qf qf2 vh_laid qo qe qw qu qg qn qs, dn qd vd_gap vd_odds vd_rain vd_lines qd_steps qd_lengths qd_starts qd_met qd_stumbles vd_stumbleCount qd_muds qd_cells vd_cellCount qd_tunes vd_tuneCount qd_changes vd_changeCount] := ⟨hP.sub [0, 1] rfl, hD.sub [0, 1] (by decide) rfl⟩
        exact W.zret (v := 0) (ty := .boolean) hx hb hr rfl (fun t ht hW => ⟨⟨0, (), rfl, (Or.inr (⟨rfl, trivial⟩)), by rw [ht]; exact hP9, hD9⟩, hS.F ht⟩) hS.2.2 dX11_hasNight_37
      · have hq6 : a1.toInt ≤ 2000000000 := tq_nlt (by decide +kernel) rfl hc
        have hb8 := tq_lo a1
        refine lv_iload_n hx hb dX11_hasNight_21 rfl (lv_at hl 2 rfl) ?_
        refine lv_iconst (v := 1) hx hb dX11_hasNight_22 (by decide) ?_
        refine lv_icmp_lt (tgt := 36) hx hb dX11_hasNight_23 (by decide) (fun hc => ?_) (fun hc => ?_)
        · have hq9 : a2.toInt < 1 := tq_lt rfl (by decide) hc
          have hb10 := tq_lo a2
          refine lv_iconst (v := 0) hx hb dX11_hasNight_36 (by decide) ?_
          obtain ⟨hP9, hD9⟩ : ct_B D A H [oo qh qr qt qd qd2 qi qh_kept qf qf2 vh_laid qo qe qw qu qg qn qs, dn qd vd_gap vd_odds vd_rain vd_lines qd_steps qd_lengths qd_starts qd_met qd_stumbles vd_stumbleCount qd_muds qd_cells vd_cellCount qd_tunes vd_tuneCount qd_changes vd_changeCount] := ⟨hP.sub [0, 1] rfl, hD.sub [0, 1] (by decide) rfl⟩
          exact W.zret (v := 0) (ty := .boolean) hx hb hr rfl (fun t ht hW => ⟨⟨0, (), rfl, (Or.inr (⟨rfl, trivial⟩)), by rw [ht]; exact hP9, hD9⟩, hS.F ht⟩) hS.2.2 dX11_hasNight_37
        · have hq9 : 1 ≤ a2.toInt := tq_nlt rfl (by decide) hc
          have hb11 := tq_lo a2
          refine lv_iload_n hx hb dX11_hasNight_26 rfl (lv_at hl 2 rfl) ?_
          refine lv_bipush (v := 100) hx hb dX11_hasNight_27 (by decide) ?_
          refine lv_icmp_gt (tgt := 36) hx hb dX11_hasNight_29 (by decide) (fun hc => ?_) (fun hc => ?_)
          · have hq12 : 100 < a2.toInt := tq_lt (by decide) rfl hc
            have hb13 := tq_lo a2
            refine lv_iconst (v := 0) hx hb dX11_hasNight_36 (by decide) ?_
            obtain ⟨hP9, hD9⟩ : ct_B D A H [oo qh qr qt qd qd2 qi qh_kept qf qf2 vh_laid qo qe qw qu qg qn qs, dn qd vd_gap vd_odds vd_rain vd_lines qd_steps qd_lengths qd_starts qd_met qd_stumbles vd_stumbleCount qd_muds qd_cells vd_cellCount qd_tunes vd_tuneCount qd_changes vd_changeCount] := ⟨hP.sub [0, 1] rfl, hD.sub [0, 1] (by decide) rfl⟩
            exact W.zret (v := 0) (ty := .boolean) hx hb hr rfl (fun t ht hW => ⟨⟨0, (), rfl, (Or.inr (⟨rfl, trivial⟩)), by rw [ht]; exact hP9, hD9⟩, hS.F ht⟩) hS.2.2 dX11_hasNight_37
          · have hq12 : a2.toInt ≤ 100 := tq_nlt (by decide) rfl hc
            have hb14 := tq_lo a2
            refine lv_iconst (v := 1) hx hb dX11_hasNight_32 (by decide) ?_
            refine lv_goto (tgt := 37) hx hb dX11_hasNight_33 (by decide) ?_
            obtain ⟨hP9, hD9⟩ : ct_B D A H [oo qh qr qt qd qd2 qi qh_kept qf qf2 vh_laid qo qe qw qu qg qn qs, dn qd vd_gap vd_odds vd_rain vd_lines qd_steps qd_lengths qd_starts qd_met qd_stumbles vd_stumbleCount qd_muds qd_cells vd_cellCount qd_tunes vd_tuneCount qd_changes vd_changeCount] := ⟨hP.sub [0, 1] rfl, hD.sub [0, 1] (by decide) rfl⟩
            exact W.zret (v := 1) (ty := .boolean) hx hb hr rfl (fun t ht hW => ⟨⟨1, (), rfl, (Or.inl ⟨rfl, trivial⟩), by rw [ht]; exact hP9, hD9⟩, hS.F ht⟩) hS.2.2 dX11_hasNight_37
  · subst hz
    have hz_15 : ¬ (0 < vd_lines.toInt) := hz2
    refine lv_if_eq (tgt := 36) hx hb dX11_hasNight_7 (by decide) (fun _ => ?_) (fun hc => absurd hc (by decide))
    refine lv_iconst (v := 0) hx hb dX11_hasNight_36 (by decide) ?_
    obtain ⟨hP9, hD9⟩ : ct_B D A H [oo qh qr qt qd qd2 qi qh_kept qf qf2 vh_laid qo qe qw qu qg qn qs, dn qd vd_gap vd_odds vd_rain vd_lines qd_steps qd_lengths qd_starts qd_met qd_stumbles vd_stumbleCount qd_muds qd_cells vd_cellCount qd_tunes vd_tuneCount qd_changes vd_changeCount] := ⟨hP.sub [0, 1] rfl, hD.sub [0, 1] (by decide) rfl⟩
    exact W.zret (v := 0) (ty := .boolean) hx hb hr rfl (fun t ht hW => ⟨⟨0, (), rfl, (Or.inr (⟨rfl, trivial⟩)), by rw [ht]; exact hP9, hD9⟩, hS.F ht⟩) hS.2.2 dX11_hasNight_37
abbrev w_c_X11_plainFloor (cI cJ cB cZ cO : ClassId) (qh : Nat) (qh_kept : Nat) (vh_laid : Int32) (qi : Nat) (qr : Nat) (qt : Nat) (qd : Nat) (vd_gap : Int32) (vd_odds : Int32) (vd_rain : Int32) (vd_lines : Int32) (qd_steps : Nat) (fd_steps : Nat → Int32) (qd_lengths : Nat) (fd_lengths : Nat → Int32) (qd_starts : Nat) (fd_starts : Nat → Int32) (qd_met : Nat) (qd_stumbles : Nat) (fd_stumbles : Nat → Int32) (vd_stumbleCount : Int32) (qd_muds : Nat) (fd_muds : Nat → Int32) (qd_cells : Nat) (vd_cellCount : Int32) (qd_tunes : Nat) (vd_tuneCount : Int32) (qd_changes : Nat) (vd_changeCount : Int32) (qd2 : Nat) (qf : Nat) (qf_places : Nat) (ff_places : Nat → Int32) (qf_steps : Nat) (ff_steps : Nat → Int32) (qf_stumbleIn : Nat) (ff_stumbleIn : Nat → Int32) (vf_gap : Int32) (vf_calmLength : Int32) (vf_calmStart : Int32) (qf2 : Nat) (qo : Nat) (qe : Nat) (qw : Nat) (qu : Nat) (qg : Nat) (qn : Nat) (qs : Nat) : va_W := [oo qh qr qt qd qd2 qi qh_kept qf qf2 vh_laid qo qe qw qu qg qn qs, dn qd vd_gap vd_odds vd_rain vd_lines qd_steps qd_lengths qd_starts qd_met qd_stumbles vd_stumbleCount qd_muds qd_cells vd_cellCount qd_tunes vd_tuneCount qd_changes vd_changeCount, (qd_steps, .inl (cI, 24, .inl (fd_steps))), (qd_lengths, .inl (cI, 2, .inl (fd_lengths))), (qd_starts, .inl (cI, 2, .inl (fd_starts))), (qd_stumbles, .inl (cI, 32, .inl (fd_stumbles))), (qd_muds, .inl (cI, 200, .inl (fd_muds))), fo qf qf_places qf_steps qf_stumbleIn vf_gap vf_calmLength vf_calmStart, (qf_places, .inl (cI, 400, .inl (ff_places))), (qf_steps, .inl (cI, 400, .inl (ff_steps))), (qf_stumbleIn, .inl (cI, 200, .inl (ff_stumbleIn)))]
set_option maxHeartbeats 4000000 in
set_option maxRecDepth 100000 in
/-- X11 plainFloor -/
theorem c_X11_plainFloor (l : Launch) (D : va_G) (G : ct_G) (cI cJ cB cZ cO : ClassId) (qh : Nat) (qh_kept : Nat) (vh_laid : Int32) (qi : Nat) (qr : Nat) (qt : Nat) (qd : Nat) (vd_gap : Int32) (vd_odds : Int32) (vd_rain : Int32) (vd_lines : Int32) (qd_steps : Nat) (fd_steps : Nat → Int32) (qd_lengths : Nat) (fd_lengths : Nat → Int32) (qd_starts : Nat) (fd_starts : Nat → Int32) (qd_met : Nat) (qd_stumbles : Nat) (fd_stumbles : Nat → Int32) (vd_stumbleCount : Int32) (qd_muds : Nat) (fd_muds : Nat → Int32) (qd_cells : Nat) (vd_cellCount : Int32) (qd_tunes : Nat) (vd_tuneCount : Int32) (qd_changes : Nat) (vd_changeCount : Int32) (qd2 : Nat) (qf : Nat) (qf_places : Nat) (ff_places : Nat → Int32) (qf_steps : Nat) (ff_steps : Nat → Int32) (qf_stumbleIn : Nat) (ff_stumbleIn : Nat → Int32) (vf_gap : Int32) (vf_calmLength : Int32) (vf_calmStart : Int32) (qf2 : Nat) (qo : Nat) (qe : Nat) (qw : Nat) (qu : Nat) (qg : Nat) (qn : Nat) (qs : Nat) (h_vd_gap : 0 ≤ vd_gap.toInt ∧ vd_gap.toInt ≤ 20) (h_fd_steps : ar_ok [0] [5] fd_steps) (h_fd_lengths : ar_ok [0] [12] fd_lengths) (h_fd_starts : ar_ok [0] [11] fd_starts) (h_fd_stumbles : ar_ok [(-2147483648), 0, 0, (-2147483648)] [2147483647, 199, 5, 2147483647] fd_stumbles) (h_vd_stumbleCount : 0 ≤ vd_stumbleCount.toInt ∧ vd_stumbleCount.toInt ≤ 8) (h_vd_cellCount : 0 ≤ vd_cellCount.toInt ∧ vd_cellCount.toInt ≤ 12) (h_vd_tuneCount : 0 ≤ vd_tuneCount.toInt ∧ vd_tuneCount.toInt ≤ 5) (h_vd_changeCount : 0 ≤ vd_changeCount.toInt ∧ vd_changeCount.toInt ≤ 40) (h_ff_steps : ar_ok [(-1)] [5] ff_steps) (h_ff_stumbleIn : ar_q ff_stumbleIn) (h_vf_gap : 0 ≤ vf_gap.toInt ∧ vf_gap.toInt ≤ 20) (sz : Nat) : Met l yX11_plainFloor wsX11_plainFloor ({ frames := 4, cells := 0, slots := 0, locals := 95 }) (va_Pc [.ref qh] (ct_P D (ct_T cI cJ cB cZ cO) G (w_c_X11_plainFloor cI cJ cB cZ cO qh qh_kept vh_laid qi qr qt qd vd_gap vd_odds vd_rain vd_lines qd_steps fd_steps qd_lengths fd_lengths qd_starts fd_starts qd_met qd_stumbles fd_stumbles vd_stumbleCount qd_muds fd_muds qd_cells vd_cellCount qd_tunes vd_tuneCount qd_changes vd_changeCount qd2 qf qf_places ff_places qf_steps ff_steps qf_stumbleIn ff_stumbleIn vf_gap vf_calmLength vf_calmStart qf2 qo qe qw qu qg qn qs) sz)) (va_Qr (fun (u : Int32 × Int32 × (Nat → Int32) × (Nat → Int32) × (Nat → Int32)) => (0 ≤ u.2.1.toInt ∧ u.2.1.toInt ≤ 20) ∧ (ar_ok [(-1)] [5] u.2.2.2.1) ∧ (ar_q u.2.2.2.2)) (fun (u : Int32 × Int32 × (Nat → Int32) × (Nat → Int32) × (Nat → Int32)) rq t => rq = qf ∧ ct_Q D (va_A (w_c_X11_plainFloor cI cJ cB cZ cO qh qh_kept vh_laid qi qr qt qd vd_gap vd_odds vd_rain vd_lines qd_steps fd_steps qd_lengths fd_lengths qd_starts fd_starts qd_met qd_stumbles fd_stumbles vd_stumbleCount qd_muds fd_muds qd_cells vd_cellCount qd_tunes vd_tuneCount qd_changes vd_changeCount qd2 qf qf_places ff_places qf_steps ff_steps qf_stumbleIn ff_stumbleIn vf_gap vf_calmLength vf_calmStart qf2 qo qe qw qu qg qn qs) sz) [oo qh qr qt qd qd2 qi qh_kept qf qf2 u.1 qo qe qw qu qg qn qs, dn qd vd_gap vd_odds vd_rain vd_lines qd_steps qd_lengths qd_starts qd_met qd_stumbles vd_stumbleCount qd_muds qd_cells vd_cellCount qd_tunes vd_tuneCount qd_changes vd_changeCount, (qd_steps, .inl (cI, 24, .inl (fd_steps))), (qd_lengths, .inl (cI, 2, .inl (fd_lengths))), (qd_starts, .inl (cI, 2, .inl (fd_starts))), (qd_stumbles, .inl (cI, 32, .inl (fd_stumbles))), (qd_muds, .inl (cI, 200, .inl (fd_muds))), fo qf qf_places qf_steps qf_stumbleIn u.2.1 vf_calmLength vf_calmStart, (qf_places, .inl (cI, 400, .inl (u.2.2.1))), (qf_steps, .inl (cI, 400, .inl (u.2.2.2.1))), (qf_stumbleIn, .inl (cI, 200, .inl (u.2.2.2.2)))] t) (va_A (w_c_X11_plainFloor cI cJ cB cZ cO qh qh_kept vh_laid qi qr qt qd vd_gap vd_odds vd_rain vd_lines qd_steps fd_steps qd_lengths fd_lengths qd_starts fd_starts qd_met qd_stumbles fd_stumbles vd_stumbleCount qd_muds fd_muds qd_cells vd_cellCount qd_tunes vd_tuneCount qd_changes vd_changeCount qd2 qf qf_places ff_places qf_steps ff_steps qf_stumbleIn ff_stumbleIn vf_gap vf_calmLength vf_calmStart qf2 qo qe qw qu qg qn qs) sz)) 0 0 (va_A (w_c_X11_plainFloor cI cJ cB cZ cO qh qh_kept vh_laid qi qr qt qd vd_gap vd_odds vd_rain vd_lines qd_steps fd_steps qd_lengths fd_lengths qd_starts fd_starts qd_met qd_stumbles fd_stumbles vd_stumbleCount qd_muds fd_muds qd_cells vd_cellCount qd_tunes vd_tuneCount qd_changes vd_changeCount qd2 qf qf_places ff_places qf_steps ff_steps qf_stumbleIn ff_stumbleIn vf_gap vf_calmLength vf_calmStart qf2 qo qe qw qu qg qn qs) sz) := by
  refine Met.ofW (cc := cX11_plainFloor) (maxL := 1) (ret := (some (.object "OverHill$Floor"))) (by decide) rfl ?_
  intro p e s m args below meth c s₁ B hml hv
  obtain ⟨rfl, hsz, hP, hE, hD0, hH⟩ := hv
  have hx := B.exec
  have hb := B.bytes
  have hr := B.returns
  have hts := atoms_spec (ws := wsX11_plainFloor) B.pre
  have hown : s.vm.findClass RX11 = some m.cls := findClass_of_methodNamed B.named
  have hlocks := B.notSynchronized
  have hK := hE.1
  have hi11 : ∀ w ∈ u_ws RX11 TX11 16, w ∈ wsX11_plainFloor := fun w h => List.mem_cons_of_mem _ (List.mem_append_left _ (List.mem_append_left _ (List.mem_append_right _ h)))
  subst hsz
  have hD := hD0.self (sz := s.heap.size)
  generalize hAe : va_A (w_c_X11_plainFloor cI cJ cB cZ cO qh qh_kept vh_laid qi qr qt qd vd_gap vd_odds vd_rain vd_lines qd_steps fd_steps qd_lengths fd_lengths qd_starts fd_starts qd_met qd_stumbles fd_stumbles vd_stumbleCount qd_muds fd_muds qd_cells vd_cellCount qd_tunes vd_tuneCount qd_changes vd_changeCount qd2 qf qf_places ff_places qf_steps ff_steps qf_stumbleIn ff_stumbleIn vf_gap vf_calmLength vf_calmStart qf2 qo qe qw qu qg qn qs) s.heap.size = A at hD hH ⊢
  have hA : ∀ q : Nat, s.heap.size ≤ q → A q := fun q h => by rw [← hAe]; exact Or.inr h
  have hS : va_S A s.heap s.heap [] := va_S.rf
  obtain ⟨hP, hD⟩ : ct_B D A s.heap [oo qh qr qt qd qd2 qi qh_kept qf qf2 vh_laid qo qe qw qu qg qn qs, dn qd vd_gap vd_odds vd_rain vd_lines qd_steps qd_lengths qd_starts qd_met qd_stumbles vd_stumbleCount qd_muds qd_cells vd_cellCount qd_tunes vd_tuneCount qd_changes vd_changeCount, (qd_steps, .inl (cI, 24, .inl (fd_steps))), (qd_lengths, .inl (cI, 2, .inl (fd_lengths))), (qd_starts, .inl (cI, 2, .inl (fd_starts))), (qd_stumbles, .inl (cI, 32, .inl (fd_stumbles))), (qd_muds, .inl (cI, 200, .inl (fd_muds))), fo qf qf_places qf_steps qf_stumbleIn vf_gap vf_calmLength vf_calmStart, (qf_places, .inl (cI, 400, .inl (ff_places))), (qf_steps, .inl (cI, 400, .inl (ff_steps))), (qf_stumbleIn, .inl (cI, 200, .inl (ff_stumbleIn)))] := ⟨hP, hD⟩
  have hl := lv_entry ([.ref qh]) (n := 1) (Nat.le_of_ble_eq_true rfl)
  rw [lg_entry_eq]
  generalize (lg_sl ([.ref qh]) ++ List.replicate (1 - (lg_sl ([.ref qh])).length) Slot.unset).toArray = ls at hl ⊢
  have hl : lv_has ls 1 [(0, .ref qh)] := hl
  obtain ⟨H, hHe⟩ : ∃ H : Heap, H = s.heap := ⟨_, rfl⟩
  rw [← hHe] at hP
  have hS : va_S A s.heap H [] := by rw [hHe]; exact va_S.rf
  refine ct_start hHe ?_
  refine lv_aload_n hx hb dX11_plainFloor_0 rfl (lv_at hl 0 rfl) ?_
  refine va_get (D := D) (ci := 11) (v := .int vh_laid) (C := RX11) (T := TX11) (N := 16) hx hb hts hi11 hown hK hP 0 rfl rfl 8 (by decide) (hts (.fieldLink RX11 49 "OverHill" "laid" "Z") (by decide +kernel)) (fun _ h9 => h9) rfl dX11_plainFloor_1 ?_
  refine lv_if_ne (tgt := 24) hx hb dX11_plainFloor_4 (by decide) (fun hc => ?_) (fun hc => ?_)
  · have hq1 : vh_laid.toInt ≠ 0 := tq_ne rfl (by decide) hc
    have hb2 := tq_lo vh_laid
    refine lv_aload_n hx hb dX11_plainFloor_24 rfl (lv_at hl 0 rfl) ?_
    refine va_get (D := D) (ci := 11) (v := .ref qf) (C := RX11) (T := TX11) (N := 16) hx hb hts hi11 hown hK hP 0 rfl rfl 6 (by decide) (hts (.fieldLink RX11 42 "OverHill" "floor" "LOverHill$Floor;") (by decide +kernel)) (fun _ h9 => h9) rfl dX11_plainFloor_25 ?_
    obtain ⟨hP9, hD9⟩ : ct_B D A H [oo qh qr qt qd qd2 qi qh_kept qf qf2 vh_laid qo qe qw qu qg qn qs, dn qd vd_gap vd_odds vd_rain vd_lines qd_steps qd_lengths qd_starts qd_met qd_stumbles vd_stumbleCount qd_muds qd_cells vd_cellCount qd_tunes vd_tuneCount qd_changes vd_changeCount, (qd_steps, .inl (cI, 24, .inl (fd_steps))), (qd_lengths, .inl (cI, 2, .inl (fd_lengths))), (qd_starts, .inl (cI, 2, .inl (fd_starts))), (qd_stumbles, .inl (cI, 32, .inl (fd_stumbles))), (qd_muds, .inl (cI, 200, .inl (fd_muds))), fo qf qf_places qf_steps qf_stumbleIn vf_gap vf_calmLength vf_calmStart, (qf_places, .inl (cI, 400, .inl (ff_places))), (qf_steps, .inl (cI, 400, .inl (ff_steps))), (qf_stumbleIn, .inl (cI, 200, .inl (ff_stumbleIn)))] := ⟨hP.sub [0, 1, 2, 3, 4, 5, 6, 7, 8, 9, 10] rfl, hD.sub [0, 1, 2, 3, 4, 5, 6, 7, 8, 9, 10] (by decide) rfl⟩
    exact W.aret (v := .ref qf) hx hb hr (Or.inl ⟨_, rfl⟩) (Or.inr ⟨_, rfl⟩) (fun t ht hW => ⟨⟨(vh_laid, vf_gap, ff_places, ff_steps, ff_stumbleIn), qf, rfl, ⟨h_vf_gap, h_ff_steps, h_ff_stumbleIn⟩, ⟨rfl, by rw [ht]; exact hP9, hD9⟩⟩, hS.F ht⟩) hS.2.2 dX11_plainFloor_28
  · have hq1 : vh_laid.toInt = 0 := tq_eq rfl (by decide) hc
    have hb3 := tq_lo vh_laid
    refine lv_aload_n hx hb dX11_plainFloor_7 rfl (lv_at hl 0 rfl) ?_
    refine va_get (D := D) (ci := 11) (v := .ref qf) (C := RX11) (T := TX11) (N := 16) hx hb hts hi11 hown hK hP 0 rfl rfl 6 (by decide) (hts (.fieldLink RX11 42 "OverHill" "floor" "LOverHill$Floor;") (by decide +kernel)) (fun _ h9 => h9) rfl dX11_plainFloor_8 ?_
    refine lv_aload_n hx hb dX11_plainFloor_11 rfl (lv_at hl 0 rfl) ?_
    refine va_get (D := D) (ci := 11) (v := .ref qd) (C := RX11) (T := TX11) (N := 16) hx hb hts hi11 hown hK hP 0 rfl rfl 2 (by decide) (hts (.fieldLink RX11 24 "OverHill" "now" "LOverHill$Dance;") (by decide +kernel)) (fun _ h9 => h9) rfl dX11_plainFloor_12 ?_
    refine lv_iconst (v := (-1)) hx hb dX11_plainFloor_15 (by decide) ?_
    refine ct_callv (D := D) (wr := [oo qh qr qt qd qd2 qi qh_kept qf qf2 vh_laid qo qe qw qu qg qn qs]) (va_runV (As := [.ref qd, .int (-1)]) (rest := []) ⟨hx, hb, hml, hown, hts⟩ (c_X1_lay l D G cI cJ cB cZ cO qf qf_places ff_places qf_steps ff_steps qf_stumbleIn ff_stumbleIn vf_gap vf_calmLength vf_calmStart qd vd_gap vd_odds vd_rain vd_lines qd_steps fd_steps qd_lengths fd_lengths qd_starts fd_starts qd_met qd_stumbles fd_stumbles vd_stumbleCount qd_muds fd_muds qd_cells vd_cellCount qd_tunes vd_tuneCount qd_changes vd_changeCount (-1) h_ff_steps h_ff_stumbleIn h_vf_gap h_vd_gap h_fd_steps h_fd_lengths h_fd_starts h_fd_stumbles h_vd_stumbleCount h_vd_cellCount h_vd_tuneCount h_vd_changeCount H.size) (cwV 2 hts gX11_plainFloor_X1_lay rfl rfl rfl (by decide +kernel) ⟨Nat.le_of_ble_eq_true rfl, Nat.le_of_ble_eq_true rfl⟩) (ct_preV (T := ct_T cI cJ cB cZ cO) (ci := 1) (q0 := 7) hE hH hP hD hS hA [7, 8, 9, 10, 1, 2, 3, 4, 5, 6] (by decide) rfl rfl rfl) rfl rfl hl.1 rfl (lv_room (Nat.le_of_ble_eq_true rfl)) dX11_plainFloor_16 ⟨Nat.le_of_ble_eq_true rfl, Nat.le_of_ble_eq_true rfl⟩) hP hD hS hA [7, 8, 9, 10, 1, 2, 3, 4, 5, 6] [0] rfl rfl (by decide) (by decide) (fun u H locs hw hP hD hS => ?_)
    obtain ⟨y4, g5, g6, g7⟩ := u
    obtain ⟨hP, hD⟩ : ct_B D A H [oo qh qr qt qd qd2 qi qh_kept qf qf2 vh_laid qo qe qw qu qg qn qs, fo qf qf_places qf_steps qf_stumbleIn y4 vf_calmLength vf_calmStart, (qf_places, .inl (cI, 400, .inl (g5))), (qf_steps, .inl (cI, 400, .inl (g6))), (qf_stumbleIn, .inl (cI, 200, .inl (g7))), dn qd vd_gap vd_odds vd_rain vd_lines qd_steps qd_lengths qd_starts qd_met qd_stumbles vd_stumbleCount qd_muds qd_cells vd_cellCount qd_tunes vd_tuneCount qd_changes vd_changeCount, (qd_steps, .inl (cI, 24, .inl (fd_steps))), (qd_lengths, .inl (cI, 2, .inl (fd_lengths))), (qd_starts, .inl (cI, 2, .inl (fd_starts))), (qd_stumbles, .inl (cI, 32, .inl (fd_stumbles))), (qd_muds, .inl (cI, 200, .inl (fd_muds)))] := ⟨hP, hD⟩
    obtain ⟨hp0, hp1, hp2⟩ := hw
    have h_y4 : 0 ≤ y4.toInt ∧ y4.toInt ≤ 20 := hp0
    have h_g6 : ar_ok [(-1)] [5] g6 := hp1
    have h_g7 : ar_q g7 := hp2
    refine lv_aload_n hx hb dX11_plainFloor_19 rfl (lv_at hl 0 rfl) ?_
    refine lv_iconst (v := 1) hx hb dX11_plainFloor_20 (by decide) ?_
    refine va_put (D := D) (ci := 11) (v := .int 1) (ty := .boolean) (C := RX11) (T := TX11) (N := 16) hx hb hts hi11 tyX11 tyX11_ok nmX11 hown hK hP hD hS 0 rfl rfl 8 (by decide) (hts (.fieldLink RX11 49 "OverHill" "laid" "Z") (by decide +kernel)) (fun _ h9 => h9) rfl (by decide +kernel) rfl rfl (Nat.le_of_ble_eq_true rfl) dX11_plainFloor_21 (fun H locs hP hD hS => ?_)
    obtain ⟨hP, hD⟩ : ct_B D A H [oo qh qr qt qd qd2 qi qh_kept qf qf2 1 qo qe qw qu qg qn qs, fo qf qf_places qf_steps qf_stumbleIn y4 vf_calmLength vf_calmStart, (qf_places, .inl (cI, 400, .inl (g5))), (qf_steps, .inl (cI, 400, .inl (g6))), (qf_stumbleIn, .inl (cI, 200, .inl (g7))), dn qd vd_gap vd_odds vd_rain vd_lines qd_steps qd_lengths qd_starts qd_met qd_stumbles vd_stumbleCount qd_muds qd_cells vd_cellCount qd_tunes vd_tuneCount qd_changes vd_changeCount, (qd_steps, .inl (cI, 24, .inl (fd_steps))), (qd_lengths, .inl (cI, 2, .inl (fd_lengths))), (qd_starts, .inl (cI, 2, .inl (fd_starts))), (qd_stumbles, .inl (cI, 32, .inl (fd_stumbles))), (qd_muds, .inl (cI, 200, .inl (fd_muds)))] := ⟨hP, hD⟩
    refine lv_aload_n hx hb dX11_plainFloor_24 rfl (lv_at hl 0 rfl) ?_
    refine va_get (D := D) (ci := 11) (v := .ref qf) (C := RX11) (T := TX11) (N := 16) hx hb hts hi11 hown hK hP 0 rfl rfl 6 (by decide) (hts (.fieldLink RX11 42 "OverHill" "floor" "LOverHill$Floor;") (by decide +kernel)) (fun _ h9 => h9) rfl dX11_plainFloor_25 ?_
    obtain ⟨hP9, hD9⟩ : ct_B D A H [oo qh qr qt qd qd2 qi qh_kept qf qf2 1 qo qe qw qu qg qn qs, dn qd vd_gap vd_odds vd_rain vd_lines qd_steps qd_lengths qd_starts qd_met qd_stumbles vd_stumbleCount qd_muds qd_cells vd_cellCount qd_tunes vd_tuneCount qd_changes vd_changeCount, (qd_steps, .inl (cI, 24, .inl (fd_steps))), (qd_lengths, .inl (cI, 2, .inl (fd_lengths))), (qd_starts, .inl (cI, 2, .inl (fd_starts))), (qd_stumbles, .inl (cI, 32, .inl (fd_stumbles))), (qd_muds, .inl (cI, 200, .inl (fd_muds))), fo qf qf_places qf_steps qf_stumbleIn y4 vf_calmLength vf_calmStart, (qf_places, .inl (cI, 400, .inl (g5))), (qf_steps, .inl (cI, 400, .inl (g6))), (qf_stumbleIn, .inl (cI, 200, .inl (g7)))] := ⟨hP.sub [0, 5, 6, 7, 8, 9, 10, 1, 2, 3, 4] rfl, hD.sub [0, 5, 6, 7, 8, 9, 10, 1, 2, 3, 4] (by decide) rfl⟩
    exact W.aret (v := .ref qf) hx hb hr (Or.inl ⟨_, rfl⟩) (Or.inr ⟨_, rfl⟩) (fun t ht hW => ⟨⟨((1 : Int32), y4, g5, g6, g7), qf, rfl, ⟨h_y4, h_g6, h_g7⟩, ⟨rfl, by rw [ht]; exact hP9, hD9⟩⟩, hS.F ht⟩) hS.2.2 dX11_plainFloor_28
abbrev w_c_X11_feed (cI cJ cB cZ cO : ClassId) (qh : Nat) (qh_kept : Nat) (vh_laid : Int32) (qi : Nat) (qr : Nat) (qt : Nat) (qt_bytes : Nat) (ft_bytes : Nat → Int32) (vt_length : Int32) (vt_kind : Int32) (vt_from : Int32) (vt_upto : Int32) (vt_value : Int32) (qd : Nat) (qd2 : Nat) (qf : Nat) (qf2 : Nat) (qo : Nat) (qe : Nat) (qw : Nat) (qu : Nat) (qg : Nat) (qn : Nat) (qs : Nat) : va_W := [oo qh qr qt qd qd2 qi qh_kept qf qf2 vh_laid qo qe qw qu qg qn qs, (qt, .inr (8, [.ref qt_bytes, .int vt_length, .int vt_kind, .int vt_from, .int vt_upto, .int vt_value])), (qt_bytes, .inl (cB, 1200, .inl (ft_bytes)))]
set_option maxHeartbeats 4000000 in
set_option maxRecDepth 100000 in
/-- X11 feed -/
theorem c_X11_feed (l : Launch) (D : va_G) (G : ct_G) (cI cJ cB cZ cO : ClassId) (qh : Nat) (qh_kept : Nat) (vh_laid : Int32) (qi : Nat) (qr : Nat) (qt : Nat) (qt_bytes : Nat) (ft_bytes : Nat → Int32) (vt_length : Int32) (vt_kind : Int32) (vt_from : Int32) (vt_upto : Int32) (vt_value : Int32) (qd : Nat) (qd2 : Nat) (qf : Nat) (qf2 : Nat) (qo : Nat) (qe : Nat) (qw : Nat) (qu : Nat) (qg : Nat) (qn : Nat) (qs : Nat) (a1 : Int32) (a2 : Int32) (a3 : Int32) (a4 : Int32) (a5 : Int32) (h_vt_length : 0 ≤ vt_length.toInt ∧ vt_length.toInt ≤ 1200) (h_vt_from : 0 ≤ vt_from.toInt ∧ vt_from.toInt ≤ 1200) (h_vt_upto : 0 ≤ vt_upto.toInt ∧ vt_upto.toInt ≤ 1200) (sz : Nat) : Met l yX11_feed wsX11_feed ({ frames := 1, cells := 0, slots := 0, locals := 22 }) (va_Pc [.ref qh, .int a1, .int a2, .int a3, .int a4, .int a5] (ct_P D (ct_T cI cJ cB cZ cO) G (w_c_X11_feed cI cJ cB cZ cO qh qh_kept vh_laid qi qr qt qt_bytes ft_bytes vt_length vt_kind vt_from vt_upto vt_value qd qd2 qf qf2 qo qe qw qu qg qn qs) sz)) (va_Qi (fun (rz : Int32) (u : Int32 × (Nat → Int32)) => ((-1) ≤ rz.toInt ∧ rz.toInt ≤ 1200) ∧ (0 ≤ u.1.toInt ∧ u.1.toInt ≤ 1200)) (fun (u : Int32 × (Nat → Int32)) t => ct_Q D (va_A (w_c_X11_feed cI cJ cB cZ cO qh qh_kept vh_laid qi qr qt qt_bytes ft_bytes vt_length vt_kind vt_from vt_upto vt_value qd qd2 qf qf2 qo qe qw qu qg qn qs) sz) [oo qh qr qt qd qd2 qi qh_kept qf qf2 vh_laid qo qe qw qu qg qn qs, (qt, .inr (8, [.ref qt_bytes, .int u.1, .int vt_kind, .int vt_from, .int vt_upto, .int vt_value])), (qt_bytes, .inl (cB, 1200, .inl (u.2)))] t) (va_A (w_c_X11_feed cI cJ cB cZ cO qh qh_kept vh_laid qi qr qt qt_bytes ft_bytes vt_length vt_kind vt_from vt_upto vt_value qd qd2 qf qf2 qo qe qw qu qg qn qs) sz)) 0 0 (va_A (w_c_X11_feed cI cJ cB cZ cO qh qh_kept vh_laid qi qr qt qt_bytes ft_bytes vt_length vt_kind vt_from vt_upto vt_value qd qd2 qf qf2 qo qe qw qu qg qn qs) sz) := by
  refine Met.ofW (cc := cX11_feed) (maxL := 6) (ret := (some .int)) (by decide) rfl ?_
  intro p e s m args below meth c s₁ B hml hv
  obtain ⟨rfl, hsz, hP, hE, hD0, hH⟩ := hv
  have hx := B.exec
  have hb := B.bytes
  have hr := B.returns
  have hts := atoms_spec (ws := wsX11_feed) B.pre
  have hown : s.vm.findClass RX11 = some m.cls := findClass_of_methodNamed B.named
  have hlocks := B.notSynchronized
  have hK := hE.1
  have hi8 : ∀ w ∈ u_ws RX8 TX8 6, w ∈ wsX11_feed := fun w h => List.mem_cons_of_mem _ (List.mem_append_right _ h)
  have hi11 : ∀ w ∈ u_ws RX11 TX11 16, w ∈ wsX11_feed := fun w h => List.mem_cons_of_mem _ (List.mem_append_left _ (List.mem_append_right _ h))
  subst hsz
  have hD := hD0.self (sz := s.heap.size)
  generalize hAe : va_A (w_c_X11_feed cI cJ cB cZ cO qh qh_kept vh_laid qi qr qt qt_bytes ft_bytes vt_length vt_kind vt_from vt_upto vt_value qd qd2 qf qf2 qo qe qw qu qg qn qs) s.heap.size = A at hD hH ⊢
  have hA : ∀ q : Nat, s.heap.size ≤ q → A q := fun q h => by rw [← hAe]; exact Or.inr h
  have hS : va_S A s.heap s.heap [] := va_S.rf
  obtain ⟨hP, hD⟩ : ct_B D A s.heap [oo qh qr qt qd qd2 qi qh_kept qf qf2 vh_laid qo qe qw qu qg qn qs, (qt, .inr (8, [.ref qt_bytes, .int vt_length, .int vt_kind, .int vt_from, .int vt_upto, .int vt_value])), (qt_bytes, .inl (cB, 1200, .inl (ft_bytes)))] := ⟨hP, hD⟩
  have hl := lv_entry ([.ref qh, .int a1, .int a2, .int a3, .int a4, .int a5]) (n := 6) (Nat.le_of_ble_eq_true rfl)
  rw [lg_entry_eq]
  generalize (lg_sl ([.ref qh, .int a1, .int a2, .int a3, .int a4, .int a5]) ++ List.replicate (6 - (lg_sl ([.ref qh, .int a1, .int a2, .int a3, .int a4, .int a5])).length) Slot.unset).toArray = ls at hl ⊢
  have hl : lv_has ls 6 [(0, .ref qh), (1, .int a1), (2, .int a2), (3, .int a3), (4, .int a4), (5, .int a5)] := hl
  obtain ⟨H, hHe⟩ : ∃ H : Heap, H = s.heap := ⟨_, rfl⟩
  rw [← hHe] at hP
  have hS : va_S A s.heap H [] := by rw [hHe]; exact va_S.rf
  refine ct_start hHe ?_
  refine lv_aload_n hx hb dX11_feed_0 rfl (lv_at hl 0 rfl) ?_
  refine va_get (D := D) (ci := 11) (v := .ref qt) (C := RX11) (T := TX11) (N := 16) hx hb hts hi11 hown hK hP 0 rfl rfl 1 (by decide) (hts (.fieldLink RX11 20 "OverHill" "tape" "LOverHill$Tape;") (by decide +kernel)) (fun _ h9 => h9) rfl dX11_feed_1 ?_
  refine va_get (D := D) (ci := 8) (v := .int vt_length) (C := RX8) (T := TX8) (N := 6) hx hb hts hi8 hown hK hP 1 rfl rfl 1 (by decide) (hts (.fieldLink RX11 102 "OverHill$Tape" "length" "I") (by decide +kernel)) (fun _ h9 => h9) rfl dX11_feed_4 ?_
  refine lv_bipush (v := 20) hx hb dX11_feed_7 (by decide) ?_
  refine lv_iadd hx hb dX11_feed_9 ?_
  refine lv_topi (fun z1 ez1 => ?_)
  have fz1 : z1.toInt = vt_length.toInt + 20 := by rw [ez1]; exact tq_add rfl (by decide) (by omega)
  refine lv_sipush (v := 1200) hx hb dX11_feed_10 (by decide) ?_
  refine lv_icmp_le (tgt := 18) hx hb dX11_feed_13 (by decide) (fun hc => ?_) (fun hc => ?_)
  · have hq2 : z1.toInt ≤ 1200 := tq_le rfl (by decide) hc
    refine lv_aload_n hx hb dX11_feed_18 rfl (lv_at hl 0 rfl) ?_
    refine va_get (D := D) (ci := 11) (v := .ref qt) (C := RX11) (T := TX11) (N := 16) hx hb hts hi11 hown hK hP 0 rfl rfl 1 (by decide) (hts (.fieldLink RX11 20 "OverHill" "tape" "LOverHill$Tape;") (by decide +kernel)) (fun _ h9 => h9) rfl dX11_feed_19 ?_
    refine lv_iload_n hx hb dX11_feed_22 rfl (lv_at hl 1 rfl) ?_
    refine ct_callv (D := D) (wr := [oo qh qr qt qd qd2 qi qh_kept qf qf2 vh_laid qo qe qw qu qg qn qs]) (va_runV (As := [.int a1]) (rest := []) ⟨hx, hb, hml, hown, hts⟩ (c_X8_push l D G cI cJ cB cZ cO qt qt_bytes ft_bytes vt_length vt_kind vt_from vt_upto vt_value a1 h_vt_length h_vt_from h_vt_upto H.size) (cwV 1 hts gX11_feed_X8_push rfl rfl rfl (by decide +kernel) ⟨Nat.le_of_ble_eq_true rfl, Nat.le_of_ble_eq_true rfl⟩) (ct_preV (T := ct_T cI cJ cB cZ cO) (ci := 8) (q0 := 1) hE hH hP hD hS hA [1, 2] (by decide) rfl rfl rfl) rfl rfl hl.1 rfl (lv_room (Nat.le_of_ble_eq_true rfl)) dX11_feed_23 ⟨Nat.le_of_ble_eq_true rfl, Nat.le_of_ble_eq_true rfl⟩) hP hD hS hA [1, 2] [0] rfl rfl (by decide) (by decide) (fun u H locs hw hP hD hS => ?_)
    obtain ⟨y3, g4⟩ := u
    obtain ⟨hP, hD⟩ : ct_B D A H [oo qh qr qt qd qd2 qi qh_kept qf qf2 vh_laid qo qe qw qu qg qn qs, (qt, .inr (8, [.ref qt_bytes, .int y3, .int vt_kind, .int vt_from, .int vt_upto, .int vt_value])), (qt_bytes, .inl (cB, 1200, .inl (g4)))] := ⟨hP, hD⟩
    have hp0 := hw
    have h_y3 : 0 ≤ y3.toInt ∧ y3.toInt ≤ 1200 := hp0
    refine lv_aload_n hx hb dX11_feed_26 rfl (lv_at hl 0 rfl) ?_
    refine va_get (D := D) (ci := 11) (v := .ref qt) (C := RX11) (T := TX11) (N := 16) hx hb hts hi11 hown hK hP 0 rfl rfl 1 (by decide) (hts (.fieldLink RX11 20 "OverHill" "tape" "LOverHill$Tape;") (by decide +kernel)) (fun _ h9 => h9) rfl dX11_feed_27 ?_
    refine lv_iload_n hx hb dX11_feed_30 rfl (lv_at hl 2 rfl) ?_
    refine ct_callv (D := D) (wr := [oo qh qr qt qd qd2 qi qh_kept qf qf2 vh_laid qo qe qw qu qg qn qs]) (va_runV (As := [.int a2]) (rest := []) ⟨hx, hb, hml, hown, hts⟩ (c_X8_push l D G cI cJ cB cZ cO qt qt_bytes g4 y3 vt_kind vt_from vt_upto vt_value a2 h_y3 h_vt_from h_vt_upto H.size) (cwV 1 hts gX11_feed_X8_push rfl rfl rfl (by decide +kernel) ⟨Nat.le_of_ble_eq_true rfl, Nat.le_of_ble_eq_true rfl⟩) (ct_preV (T := ct_T cI cJ cB cZ cO) (ci := 8) (q0 := 1) hE hH hP hD hS hA [1, 2] (by decide) rfl rfl rfl) rfl rfl hl.1 rfl (lv_room (Nat.le_of_ble_eq_true rfl)) dX11_feed_31 ⟨Nat.le_of_ble_eq_true rfl, Nat.le_of_ble_eq_true rfl⟩) hP hD hS hA [1, 2] [0] rfl rfl (by decide) (by decide) (fun u H locs hw hP hD hS => ?_)
    obtain ⟨y5, g6⟩ := u
    obtain ⟨hP, hD⟩ : ct_B D A H [oo qh qr qt qd qd2 qi qh_kept qf qf2 vh_laid qo qe qw qu qg qn qs, (qt, .inr (8, [.ref qt_bytes, .int y5, .int vt_kind, .int vt_from, .int vt_upto, .int vt_value])), (qt_bytes, .inl (cB, 1200, .inl (g6)))] := ⟨hP, hD⟩
    have hp0 := hw
    have h_y5 : 0 ≤ y5.toInt ∧ y5.toInt ≤ 1200 := hp0
    refine lv_aload_n hx hb dX11_feed_34 rfl (lv_at hl 0 rfl) ?_
    refine va_get (D := D) (ci := 11) (v := .ref qt) (C := RX11) (T := TX11) (N := 16) hx hb hts hi11 hown hK hP 0 rfl rfl 1 (by decide) (hts (.fieldLink RX11 20 "OverHill" "tape" "LOverHill$Tape;") (by decide +kernel)) (fun _ h9 => h9) rfl dX11_feed_35 ?_
    refine lv_iload_n hx hb dX11_feed_38 rfl (lv_at hl 3 rfl) ?_
    refine ct_callv (D := D) (wr := [oo qh qr qt qd qd2 qi qh_kept qf qf2 vh_laid qo qe qw qu qg qn qs]) (va_runV (As := [.int a3]) (rest := []) ⟨hx, hb, hml, hown, hts⟩ (c_X8_push l D G cI cJ cB cZ cO qt qt_bytes g6 y5 vt_kind vt_from vt_upto vt_value a3 h_y5 h_vt_from h_vt_upto H.size) (cwV 1 hts gX11_feed_X8_push rfl rfl rfl (by decide +kernel) ⟨Nat.le_of_ble_eq_true rfl, Nat.le_of_ble_eq_true rfl⟩) (ct_preV (T := ct_T cI cJ cB cZ cO) (ci := 8) (q0 := 1) hE hH hP hD hS hA [1, 2] (by decide) rfl rfl rfl) rfl rfl hl.1 rfl (lv_room (Nat.le_of_ble_eq_true rfl)) dX11_feed_39 ⟨Nat.le_of_ble_eq_true rfl, Nat.le_of_ble_eq_true rfl⟩) hP hD hS hA [1, 2] [0] rfl rfl (by decide) (by decide) (fun u H locs hw hP hD hS => ?_)
    obtain ⟨y7, g8⟩ := u
    obtain ⟨hP, hD⟩ : ct_B D A H [oo qh qr qt qd qd2 qi qh_kept qf qf2 vh_laid qo qe qw qu qg qn qs, (qt, .inr (8, [.ref qt_bytes, .int y7, .int vt_kind, .int vt_from, .int vt_upto, .int vt_value])), (qt_bytes, .inl (cB, 1200, .inl (g8)))] := ⟨hP, hD⟩
    have hp0 := hw
    have h_y7 : 0 ≤ y7.toInt ∧ y7.toInt ≤ 1200 := hp0
    refine lv_aload_n hx hb dX11_feed_42 rfl (lv_at hl 0 rfl) ?_
    refine va_get (D := D) (ci := 11) (v := .ref qt) (C := RX11) (T := TX11) (N := 16) hx hb hts hi11 hown hK hP 0 rfl rfl 1 (by decide) (hts (.fieldLink RX11 20 "OverHill" "tape" "LOverHill$Tape;") (by decide +kernel)) (fun _ h9 => h9) rfl dX11_feed_43 ?_
    refine lv_iload hx hb dX11_feed_46 (lv_at hl 4 rfl) ?_
    refine ct_callv (D := D) (wr := [oo qh qr qt qd qd2 qi qh_kept qf qf2 vh_laid qo qe qw qu qg qn qs]) (va_runV (As := [.int a4]) (rest := []) ⟨hx, hb, hml, hown, hts⟩ (c_X8_push l D G cI cJ cB cZ cO qt qt_bytes g8 y7 vt_kind vt_from vt_upto vt_value a4 h_y7 h_vt_from h_vt_upto H.size) (cwV 1 hts gX11_feed_X8_push rfl rfl rfl (by decide +kernel) ⟨Nat.le_of_ble_eq_true rfl, Nat.le_of_ble_eq_true rfl⟩) (ct_preV (T := ct_T cI cJ cB cZ cO) (ci := 8) (q0 := 1) hE hH hP hD hS hA [1, 2] (by decide) rfl rfl rfl) rfl rfl hl.1 rfl (lv_room (Nat.le_of_ble_eq_true rfl)) dX11_feed_48 ⟨Nat.le_of_ble_eq_true rfl, Nat.le_of_ble_eq_true rfl⟩) hP hD hS hA [1, 2] [0] rfl rfl (by decide) (by decide) (fun u H locs hw hP hD hS => ?_)
    obtain ⟨y9, g10⟩ := u
    obtain ⟨hP, hD⟩ : ct_B D A H [oo qh qr qt qd qd2 qi qh_kept qf qf2 vh_laid qo qe qw qu qg qn qs, (qt, .inr (8, [.ref qt_bytes, .int y9, .int vt_kind, .int vt_from, .int vt_upto, .int vt_value])), (qt_bytes, .inl (cB, 1200, .inl (g10)))] := ⟨hP, hD⟩
    have hp0 := hw
    have h_y9 : 0 ≤ y9.toInt ∧ y9.toInt ≤ 1200 := hp0
    refine lv_aload_n hx hb dX11_feed_51 rfl (lv_at hl 0 rfl) ?_
    refine va_get (D := D) (ci := 11) (v := .ref qt) (C := RX11) (T := TX11) (N := 16) hx hb hts hi11 hown hK hP 0 rfl rfl 1 (by decide) (hts (.fieldLink RX11 20 "OverHill" "tape" "LOverHill$Tape;") (by decide +kernel)) (fun _ h9 => h9) rfl dX11_feed_52 ?_
    refine lv_iload hx hb dX11_feed_55 (lv_at hl 5 rfl) ?_
    refine ct_callv (D := D) (wr := [oo qh qr qt qd qd2 qi qh_kept qf qf2 vh_laid qo qe qw qu qg qn qs]) (va_runV (As := [.int a5]) (rest := []) ⟨hx, hb, hml, hown, hts⟩ (c_X8_push l D G cI cJ cB cZ cO qt qt_bytes g10 y9 vt_kind vt_from vt_upto vt_value a5 h_y9 h_vt_from h_vt_upto H.size) (cwV 1 hts gX11_feed_X8_push rfl rfl rfl (by decide +kernel) ⟨Nat.le_of_ble_eq_true rfl, Nat.le_of_ble_eq_true rfl⟩) (ct_preV (T := ct_T cI cJ cB cZ cO) (ci := 8) (q0 := 1) hE hH hP hD hS hA [1, 2] (by decide) rfl rfl rfl) rfl rfl hl.1 rfl (lv_room (Nat.le_of_ble_eq_true rfl)) dX11_feed_57 ⟨Nat.le_of_ble_eq_true rfl, Nat.le_of_ble_eq_true rfl⟩) hP hD hS hA [1, 2] [0] rfl rfl (by decide) (by decide) (fun u H locs hw hP hD hS => ?_)
    obtain ⟨y11, g12⟩ := u
    obtain ⟨hP, hD⟩ : ct_B D A H [oo qh qr qt qd qd2 qi qh_kept qf qf2 vh_laid qo qe qw qu qg qn qs, (qt, .inr (8, [.ref qt_bytes, .int y11, .int vt_kind, .int vt_from, .int vt_upto, .int vt_value])), (qt_bytes, .inl (cB, 1200, .inl (g12)))] := ⟨hP, hD⟩
    have hp0 := hw
    have h_y11 : 0 ≤ y11.toInt ∧ y11.toInt ≤ 1200 := hp0
    refine lv_aload_n hx hb dX11_feed_60 rfl (lv_at hl 0 rfl) ?_
    refine va_get (D := D) (ci := 11) (v := .ref qt) (C := RX11) (T := TX11) (N := 16) hx hb hts hi11 hown hK hP 0 rfl rfl 1 (by decide) (hts (.fieldLink RX11 20 "OverHill" "tape" "LOverHill$Tape;") (by decide +kernel)) (fun _ h9 => h9) rfl dX11_feed_61 ?_
    refine va_get (D := D) (ci := 8) (v := .int y11) (C := RX8) (T := TX8) (N := 6) hx hb hts hi8 hown hK hP 1 rfl rfl 1 (by decide) (hts (.fieldLink RX11 102 "OverHill$Tape" "length" "I") (by decide +kernel)) (fun _ h9 => h9) rfl dX11_feed_64 ?_
    obtain ⟨hP9, hD9⟩ : ct_B D A H [oo qh qr qt qd qd2 qi qh_kept qf qf2 vh_laid qo qe qw qu qg qn qs, (qt, .inr (8, [.ref qt_bytes, .int y11, .int vt_kind, .int vt_from, .int vt_upto, .int vt_value])), (qt_bytes, .inl (cB, 1200, .inl (g12)))] := ⟨hP.sub [0, 1, 2] rfl, hD.sub [0, 1, 2] (by decide) rfl⟩
    exact W.iret (v := y11) hx hb hr (fun t ht hW => ⟨⟨y11, (y11, g12), rfl, ⟨(show (-1) ≤ y11.toInt ∧ y11.toInt ≤ 1200 by omega), h_y11⟩, by rw [ht]; exact hP9, hD9⟩, hS.F ht⟩) hS.2.2 dX11_feed_67
  · have hq2 : 1200 < z1.toInt := tq_nle rfl (by decide) hc
    refine lv_iconst (v := (-1)) hx hb dX11_feed_16 (by decide) ?_
    obtain ⟨hP9, hD9⟩ : ct_B D A H [oo qh qr qt qd qd2 qi qh_kept qf qf2 vh_laid qo qe qw qu qg qn qs, (qt, .inr (8, [.ref qt_bytes, .int vt_length, .int vt_kind, .int vt_from, .int vt_upto, .int vt_value])), (qt_bytes, .inl (cB, 1200, .inl (ft_bytes)))] := ⟨hP.sub [0, 1, 2] rfl, hD.sub [0, 1, 2] (by decide) rfl⟩
    exact W.iret (v := (-1)) hx hb hr (fun t ht hW => ⟨⟨(-1), (vt_length, ft_bytes), rfl, ⟨(show (-1) ≤ (-1 : Int32).toInt ∧ (-1 : Int32).toInt ≤ 1200 by decide), h_vt_length⟩, by rw [ht]; exact hP9, hD9⟩, hS.F ht⟩) hS.2.2 dX11_feed_17
abbrev w_c_X11_end (cI cJ cB cZ cO : ClassId) (qh : Nat) (qh_kept : Nat) (vh_laid : Int32) (qi : Nat) (qr : Nat) (qt : Nat) (qt_bytes : Nat) (vt_length : Int32) (vt_kind : Int32) (vt_from : Int32) (vt_upto : Int32) (vt_value : Int32) (qd : Nat) (qd2 : Nat) (qf : Nat) (qf2 : Nat) (qo : Nat) (qe : Nat) (qw : Nat) (qu : Nat) (qg : Nat) (qn : Nat) (qs : Nat) : va_W := [oo qh qr qt qd qd2 qi qh_kept qf qf2 vh_laid qo qe qw qu qg qn qs, (qt, .inr (8, [.ref qt_bytes, .int vt_length, .int vt_kind, .int vt_from, .int vt_upto, .int vt_value]))]
set_option maxHeartbeats 4000000 in
set_option maxRecDepth 100000 in
/-- X11 end -/
theorem c_X11_end (l : Launch) (D : va_G) (G : ct_G) (cI cJ cB cZ cO : ClassId) (qh : Nat) (qh_kept : Nat) (vh_laid : Int32) (qi : Nat) (qr : Nat) (qt : Nat) (qt_bytes : Nat) (vt_length : Int32) (vt_kind : Int32) (vt_from : Int32) (vt_upto : Int32) (vt_value : Int32) (qd : Nat) (qd2 : Nat) (qf : Nat) (qf2 : Nat) (qo : Nat) (qe : Nat) (qw : Nat) (qu : Nat) (qg : Nat) (qn : Nat) (qs : Nat) (a1 : Int32) (h_vt_length : 0 ≤ vt_length.toInt ∧ vt_length.toInt ≤ 1200) (h_vt_from : 0 ≤ vt_from.toInt ∧ vt_from.toInt ≤ 1200) (h_vt_upto : 0 ≤ vt_upto.toInt ∧ vt_upto.toInt ≤ 1200) (sz : Nat) : Met l yX11_end wsX11_end ({ frames := 0, cells := 0, slots := 0, locals := 0 }) (va_Pc [.ref qh, .int a1] (ct_P D (ct_T cI cJ cB cZ cO) G (w_c_X11_end cI cJ cB cZ cO qh qh_kept vh_laid qi qr qt qt_bytes vt_length vt_kind vt_from vt_upto vt_value qd qd2 qf qf2 qo qe qw qu qg qn qs) sz)) (va_Qi (fun (rz : Int32) (u : Int32) => ((-1) ≤ rz.toInt ∧ rz.toInt ≤ 1200) ∧ (0 ≤ u.toInt ∧ u.toInt ≤ 1200)) (fun (u : Int32) t => ct_Q D (va_A (w_c_X11_end cI cJ cB cZ cO qh qh_kept vh_laid qi qr qt qt_bytes vt_length vt_kind vt_from vt_upto vt_value qd qd2 qf qf2 qo qe qw qu qg qn qs) sz) [oo qh qr qt qd qd2 qi qh_kept qf qf2 vh_laid qo qe qw qu qg qn qs, (qt, .inr (8, [.ref qt_bytes, .int u, .int vt_kind, .int vt_from, .int vt_upto, .int vt_value]))] t) (va_A (w_c_X11_end cI cJ cB cZ cO qh qh_kept vh_laid qi qr qt qt_bytes vt_length vt_kind vt_from vt_upto vt_value qd qd2 qf qf2 qo qe qw qu qg qn qs) sz)) 0 0 (va_A (w_c_X11_end cI cJ cB cZ cO qh qh_kept vh_laid qi qr qt qt_bytes vt_length vt_kind vt_from vt_upto vt_value qd qd2 qf qf2 qo qe qw qu qg qn qs) sz) := by
  refine Met.ofW (cc := cX11_end) (maxL := 2) (ret := (some .int)) (by decide) rfl ?_
  intro p e s m args below meth c s₁ B hml hv
  obtain ⟨rfl, hsz, hP, hE, hD0, hH⟩ := hv
  have hx := B.exec
  have hb := B.bytes
  have hr := B.returns
  have hts := atoms_spec (ws := wsX11_end) B.pre
  have hown : s.vm.findClass RX11 = some m.cls := findClass_of_methodNamed B.named
  have hlocks := B.notSynchronized
  have hK := hE.1
  have hi8 : ∀ w ∈ u_ws RX8 TX8 6, w ∈ wsX11_end := fun w h => List.mem_cons_of_mem _ (List.mem_append_right _ h)
  have hi11 : ∀ w ∈ u_ws RX11 TX11 16, w ∈ wsX11_end := fun w h => List.mem_cons_of_mem _ (List.mem_append_left _ (List.mem_append_right _ h))
  subst hsz
  have hD := hD0.self (sz := s.heap.size)
  generalize hAe : va_A (w_c_X11_end cI cJ cB cZ cO qh qh_kept vh_laid qi qr qt qt_bytes vt_length vt_kind vt_from vt_upto vt_value qd qd2 qf qf2 qo qe qw qu qg qn qs) s.heap.size = A at hD hH ⊢
  have hA : ∀ q : Nat, s.heap.size ≤ q → A q := fun q h => by rw [← hAe]; exact Or.inr h
  have hS : va_S A s.heap s.heap [] := va_S.rf
  obtain ⟨hP, hD⟩ : ct_B D A s.heap [oo qh qr qt qd qd2 qi qh_kept qf qf2 vh_laid qo qe qw qu qg qn qs, (qt, .inr (8, [.ref qt_bytes, .int vt_length, .int vt_kind, .int vt_from, .int vt_upto, .int vt_value]))] := ⟨hP, hD⟩
  have hl := lv_entry ([.ref qh, .int a1]) (n := 2) (Nat.le_of_ble_eq_true rfl)
  rw [lg_entry_eq]
  generalize (lg_sl ([.ref qh, .int a1]) ++ List.replicate (2 - (lg_sl ([.ref qh, .int a1])).length) Slot.unset).toArray = ls at hl ⊢
  have hl : lv_has ls 2 [(0, .ref qh), (1, .int a1)] := hl
  obtain ⟨H, hHe⟩ : ∃ H : Heap, H = s.heap := ⟨_, rfl⟩
  rw [← hHe] at hP
  have hS : va_S A s.heap H [] := by rw [hHe]; exact va_S.rf
  refine ct_start hHe ?_
  refine lv_iload_n hx hb dX11_end_0 rfl (lv_at hl 1 rfl) ?_
  refine lv_if_lt (tgt := 15) hx hb dX11_end_1 (by decide) (fun hc => ?_) (fun hc => ?_)
  · have hq1 : a1.toInt < 0 := tq_lt rfl (by decide) hc
    have hb2 := tq_lo a1
    refine lv_iconst (v := (-1)) hx hb dX11_end_15 (by decide) ?_
    obtain ⟨hP9, hD9⟩ : ct_B D A H [oo qh qr qt qd qd2 qi qh_kept qf qf2 vh_laid qo qe qw qu qg qn qs, (qt, .inr (8, [.ref qt_bytes, .int vt_length, .int vt_kind, .int vt_from, .int vt_upto, .int vt_value]))] := ⟨hP.sub [0, 1] rfl, hD.sub [0, 1] (by decide) rfl⟩
    exact W.iret (v := (-1)) hx hb hr (fun t ht hW => ⟨⟨(-1), vt_length, rfl, ⟨(show (-1) ≤ (-1 : Int32).toInt ∧ (-1 : Int32).toInt ≤ 1200 by decide), h_vt_length⟩, by rw [ht]; exact hP9, hD9⟩, hS.F ht⟩) hS.2.2 dX11_end_16
  · have hq1 : 0 ≤ a1.toInt := tq_nlt rfl (by decide) hc
    have hb3 := tq_lo a1
    refine lv_iload_n hx hb dX11_end_4 rfl (lv_at hl 1 rfl) ?_
    refine lv_aload_n hx hb dX11_end_5 rfl (lv_at hl 0 rfl) ?_
    refine va_get (D := D) (ci := 11) (v := .ref qt) (C := RX11) (T := TX11) (N := 16) hx hb hts hi11 hown hK hP 0 rfl rfl 1 (by decide) (hts (.fieldLink RX11 20 "OverHill" "tape" "LOverHill$Tape;") (by decide +kernel)) (fun _ h9 => h9) rfl dX11_end_6 ?_
    refine va_get (D := D) (ci := 8) (v := .int vt_length) (C := RX8) (T := TX8) (N := 6) hx hb hts hi8 hown hK hP 1 rfl rfl 1 (by decide) (hts (.fieldLink RX11 102 "OverHill$Tape" "length" "I") (by decide +kernel)) (fun _ h9 => h9) rfl dX11_end_9 ?_
    refine lv_icmp_le (tgt := 17) hx hb dX11_end_12 (by decide) (fun hc => ?_) (fun hc => ?_)
    · have hq4 : a1.toInt ≤ vt_length.toInt := tq_le rfl rfl hc
      have hb5 := tq_lo a1
      refine lv_aload_n hx hb dX11_end_17 rfl (lv_at hl 0 rfl) ?_
      refine va_get (D := D) (ci := 11) (v := .ref qt) (C := RX11) (T := TX11) (N := 16) hx hb hts hi11 hown hK hP 0 rfl rfl 1 (by decide) (hts (.fieldLink RX11 20 "OverHill" "tape" "LOverHill$Tape;") (by decide +kernel)) (fun _ h9 => h9) rfl dX11_end_18 ?_
      refine lv_iload_n hx hb dX11_end_21 rfl (lv_at hl 1 rfl) ?_
      refine va_put (D := D) (ci := 8) (v := .int a1) (ty := .int) (C := RX8) (T := TX8) (N := 6) hx hb hts hi8 tyX8 tyX8_ok nmX8 hown hK hP hD hS 1 rfl rfl 1 (by decide) (hts (.fieldLink RX11 102 "OverHill$Tape" "length" "I") (by decide +kernel)) (fun _ h9 => h9) rfl (by decide +kernel) rfl rfl (Nat.le_of_ble_eq_true rfl) dX11_end_22 (fun H locs hP hD hS => ?_)
      obtain ⟨hP, hD⟩ : ct_B D A H [oo qh qr qt qd qd2 qi qh_kept qf qf2 vh_laid qo qe qw qu qg qn qs, (qt, .inr (8, [.ref qt_bytes, .int a1, .int vt_kind, .int vt_from, .int vt_upto, .int vt_value]))] := ⟨hP, hD⟩
      refine lv_iload_n hx hb dX11_end_25 rfl (lv_at hl 1 rfl) ?_
      obtain ⟨hP9, hD9⟩ : ct_B D A H [oo qh qr qt qd qd2 qi qh_kept qf qf2 vh_laid qo qe qw qu qg qn qs, (qt, .inr (8, [.ref qt_bytes, .int a1, .int vt_kind, .int vt_from, .int vt_upto, .int vt_value]))] := ⟨hP.sub [0, 1] rfl, hD.sub [0, 1] (by decide) rfl⟩
      exact W.iret (v := a1) hx hb hr (fun t ht hW => ⟨⟨a1, a1, rfl, ⟨(show (-1) ≤ a1.toInt ∧ a1.toInt ≤ 1200 by omega), (show 0 ≤ a1.toInt ∧ a1.toInt ≤ 1200 by omega)⟩, by rw [ht]; exact hP9, hD9⟩, hS.F ht⟩) hS.2.2 dX11_end_26
    · have hq4 : vt_length.toInt < a1.toInt := tq_nle rfl rfl hc
      have hb6 := tq_lo a1
      refine lv_iconst (v := (-1)) hx hb dX11_end_15 (by decide) ?_
      obtain ⟨hP9, hD9⟩ : ct_B D A H [oo qh qr qt qd qd2 qi qh_kept qf qf2 vh_laid qo qe qw qu qg qn qs, (qt, .inr (8, [.ref qt_bytes, .int vt_length, .int vt_kind, .int vt_from, .int vt_upto, .int vt_value]))] := ⟨hP.sub [0, 1] rfl, hD.sub [0, 1] (by decide) rfl⟩
      exact W.iret (v := (-1)) hx hb hr (fun t ht hW => ⟨⟨(-1), vt_length, rfl, ⟨(show (-1) ≤ (-1 : Int32).toInt ∧ (-1 : Int32).toInt ≤ 1200 by decide), h_vt_length⟩, by rw [ht]; exact hP9, hD9⟩, hS.F ht⟩) hS.2.2 dX11_end_16
abbrev w_c_X11_fault (cI cJ cB cZ cO : ClassId) (qh : Nat) (qh_kept : Nat) (vh_laid : Int32) (qi : Nat) (qr : Nat) (vr_numberPlace : Int32) (vr_fault : Int32) (vr_faultPlace : Int32) (qt : Nat) (qd : Nat) (qd2 : Nat) (qf : Nat) (qf2 : Nat) (qo : Nat) (qe : Nat) (qw : Nat) (qu : Nat) (qg : Nat) (qn : Nat) (qs : Nat) : va_W := [oo qh qr qt qd qd2 qi qh_kept qf qf2 vh_laid qo qe qw qu qg qn qs, (qr, .inr (5, [.ref qt, .int vr_numberPlace, .int vr_fault, .int vr_faultPlace]))]
set_option maxHeartbeats 4000000 in
set_option maxRecDepth 100000 in
/-- X11 fault -/
theorem c_X11_fault (l : Launch) (D : va_G) (G : ct_G) (cI cJ cB cZ cO : ClassId) (qh : Nat) (qh_kept : Nat) (vh_laid : Int32) (qi : Nat) (qr : Nat) (vr_numberPlace : Int32) (vr_fault : Int32) (vr_faultPlace : Int32) (qt : Nat) (qd : Nat) (qd2 : Nat) (qf : Nat) (qf2 : Nat) (qo : Nat) (qe : Nat) (qw : Nat) (qu : Nat) (qg : Nat) (qn : Nat) (qs : Nat) (a1 : Int32)  (sz : Nat) : Met l yX11_fault wsX11_fault ({ frames := 0, cells := 0, slots := 0, locals := 0 }) (va_Pc [.ref qh, .int a1] (ct_P D (ct_T cI cJ cB cZ cO) G (w_c_X11_fault cI cJ cB cZ cO qh qh_kept vh_laid qi qr vr_numberPlace vr_fault vr_faultPlace qt qd qd2 qf qf2 qo qe qw qu qg qn qs) sz)) (va_Qi (fun (rz : Int32) (u : Unit) => True) (fun (u : Unit) t => ct_Q D (va_A (w_c_X11_fault cI cJ cB cZ cO qh qh_kept vh_laid qi qr vr_numberPlace vr_fault vr_faultPlace qt qd qd2 qf qf2 qo qe qw qu qg qn qs) sz) [oo qh qr qt qd qd2 qi qh_kept qf qf2 vh_laid qo qe qw qu qg qn qs, (qr, .inr (5, [.ref qt, .int vr_numberPlace, .int vr_fault, .int vr_faultPlace]))] t) (va_A (w_c_X11_fault cI cJ cB cZ cO qh qh_kept vh_laid qi qr vr_numberPlace vr_fault vr_faultPlace qt qd qd2 qf qf2 qo qe qw qu qg qn qs) sz)) 0 0 (va_A (w_c_X11_fault cI cJ cB cZ cO qh qh_kept vh_laid qi qr vr_numberPlace vr_fault vr_faultPlace qt qd qd2 qf qf2 qo qe qw qu qg qn qs) sz) := by
  refine Met.ofW (cc := cX11_fault) (maxL := 2) (ret := (some .int)) (by decide) rfl ?_
  intro p e s m args below meth c s₁ B hml hv
  obtain ⟨rfl, hsz, hP, hE, hD0, hH⟩ := hv
  have hx := B.exec
  have hb := B.bytes
  have hr := B.returns
  have hts := atoms_spec (ws := wsX11_fault) B.pre
  have hown : s.vm.findClass RX11 = some m.cls := findClass_of_methodNamed B.named
  have hlocks := B.notSynchronized
  have hK := hE.1
  have hi5 : ∀ w ∈ u_ws RX5 TX5 4, w ∈ wsX11_fault := fun w h => List.mem_cons_of_mem _ (List.mem_append_right _ h)
  have hi11 : ∀ w ∈ u_ws RX11 TX11 16, w ∈ wsX11_fault := fun w h => List.mem_cons_of_mem _ (List.mem_append_left _ (List.mem_append_right _ h))
  subst hsz
  have hD := hD0.self (sz := s.heap.size)
  generalize hAe : va_A (w_c_X11_fault cI cJ cB cZ cO qh qh_kept vh_laid qi qr vr_numberPlace vr_fault vr_faultPlace qt qd qd2 qf qf2 qo qe qw qu qg qn qs) s.heap.size = A at hD hH ⊢
  have hA : ∀ q : Nat, s.heap.size ≤ q → A q := fun q h => by rw [← hAe]; exact Or.inr h
  have hS : va_S A s.heap s.heap [] := va_S.rf
  obtain ⟨hP, hD⟩ : ct_B D A s.heap [oo qh qr qt qd qd2 qi qh_kept qf qf2 vh_laid qo qe qw qu qg qn qs, (qr, .inr (5, [.ref qt, .int vr_numberPlace, .int vr_fault, .int vr_faultPlace]))] := ⟨hP, hD⟩
  have hl := lv_entry ([.ref qh, .int a1]) (n := 2) (Nat.le_of_ble_eq_true rfl)
  rw [lg_entry_eq]
  generalize (lg_sl ([.ref qh, .int a1]) ++ List.replicate (2 - (lg_sl ([.ref qh, .int a1])).length) Slot.unset).toArray = ls at hl ⊢
  have hl : lv_has ls 2 [(0, .ref qh), (1, .int a1)] := hl
  obtain ⟨H, hHe⟩ : ∃ H : Heap, H = s.heap := ⟨_, rfl⟩
  rw [← hHe] at hP
  have hS : va_S A s.heap H [] := by rw [hHe]; exact va_S.rf
  refine ct_start hHe ?_
  refine lv_iload_n hx hb dX11_fault_0 rfl (lv_at hl 1 rfl) ?_
  by_cases hc1 : a1 = 0
  · have hq2 : a1.toInt = 0 := tq_eq rfl (by decide) hc1
    refine lv_lookup (tgt := 28) (off := 27) hx hb dX11_fault_1 (by decide) (by rw [hq2]; decide) (by decide) ?_
    refine lv_aload_n hx hb dX11_fault_28 rfl (lv_at hl 0 rfl) ?_
    refine va_get (D := D) (ci := 11) (v := .ref qr) (C := RX11) (T := TX11) (N := 16) hx hb hts hi11 hown hK hP 0 rfl rfl 0 (by decide) (hts (.fieldLink RX11 10 "OverHill" "reader" "LOverHill$Reader;") (by decide +kernel)) (fun _ h9 => h9) rfl dX11_fault_29 ?_
    refine va_get (D := D) (ci := 5) (v := .int vr_fault) (C := RX5) (T := TX5) (N := 4) hx hb hts hi5 hown hK hP 1 rfl rfl 2 (by decide) (hts (.fieldLink RX11 119 "OverHill$Reader" "fault" "I") (by decide +kernel)) (fun _ h9 => h9) rfl dX11_fault_32 ?_
    obtain ⟨hP9, hD9⟩ : ct_B D A H [oo qh qr qt qd qd2 qi qh_kept qf qf2 vh_laid qo qe qw qu qg qn qs, (qr, .inr (5, [.ref qt, .int vr_numberPlace, .int vr_fault, .int vr_faultPlace]))] := ⟨hP.sub [0, 1] rfl, hD.sub [0, 1] (by decide) rfl⟩
    exact W.iret (v := vr_fault) hx hb hr (fun t ht hW => ⟨⟨vr_fault, (), rfl, trivial, by rw [ht]; exact hP9, hD9⟩, hS.F ht⟩) hS.2.2 dX11_fault_35
  have hq2 : a1.toInt ≠ 0 := tq_ne rfl (by decide) hc1
  by_cases hc3 : a1 = 1
  · have hq4 : a1.toInt = 1 := tq_eq rfl (by decide) hc3
    refine lv_lookup (tgt := 36) (off := 35) hx hb dX11_fault_1 (by decide) (by rw [hq4]; decide) (by decide) ?_
    refine lv_aload_n hx hb dX11_fault_36 rfl (lv_at hl 0 rfl) ?_
    refine va_get (D := D) (ci := 11) (v := .ref qr) (C := RX11) (T := TX11) (N := 16) hx hb hts hi11 hown hK hP 0 rfl rfl 0 (by decide) (hts (.fieldLink RX11 10 "OverHill" "reader" "LOverHill$Reader;") (by decide +kernel)) (fun _ h9 => h9) rfl dX11_fault_37 ?_
    refine va_get (D := D) (ci := 5) (v := .int vr_faultPlace) (C := RX5) (T := TX5) (N := 4) hx hb hts hi5 hown hK hP 1 rfl rfl 3 (by decide) (hts (.fieldLink RX11 122 "OverHill$Reader" "faultPlace" "I") (by decide +kernel)) (fun _ h9 => h9) rfl dX11_fault_40 ?_
    obtain ⟨hP9, hD9⟩ : ct_B D A H [oo qh qr qt qd qd2 qi qh_kept qf qf2 vh_laid qo qe qw qu qg qn qs, (qr, .inr (5, [.ref qt, .int vr_numberPlace, .int vr_fault, .int vr_faultPlace]))] := ⟨hP.sub [0, 1] rfl, hD.sub [0, 1] (by decide) rfl⟩
    exact W.iret (v := vr_faultPlace) hx hb hr (fun t ht hW => ⟨⟨vr_faultPlace, (), rfl, trivial, by rw [ht]; exact hP9, hD9⟩, hS.F ht⟩) hS.2.2 dX11_fault_43
  have hq4 : a1.toInt ≠ 1 := tq_ne rfl (by decide) hc3
  refine lv_lookup (tgt := 44) (off := 43) hx hb dX11_fault_1 (by decide) (by show (if (0 : Int) = a1.toInt then (27 : Int) else if (1 : Int) = a1.toInt then (35 : Int) else (43 : Int)) = 43; rw [if_neg (by omega), if_neg (by omega)]) (by decide) ?_
  refine lv_iconst (v := (-1)) hx hb dX11_fault_44 (by decide) ?_
  obtain ⟨hP9, hD9⟩ : ct_B D A H [oo qh qr qt qd qd2 qi qh_kept qf qf2 vh_laid qo qe qw qu qg qn qs, (qr, .inr (5, [.ref qt, .int vr_numberPlace, .int vr_fault, .int vr_faultPlace]))] := ⟨hP.sub [0, 1] rfl, hD.sub [0, 1] (by decide) rfl⟩
  exact W.iret (v := (-1)) hx hb hr (fun t ht hW => ⟨⟨(-1), (), rfl, trivial, by rw [ht]; exact hP9, hD9⟩, hS.F ht⟩) hS.2.2 dX11_fault_45
abbrev w_c_X11_step (cI cJ cB cZ cO : ClassId) (qh : Nat) (qh_kept : Nat) (vh_laid : Int32) (qi : Nat) (qr : Nat) (qt : Nat) (qd : Nat) (vd_gap : Int32) (vd_odds : Int32) (vd_rain : Int32) (vd_lines : Int32) (qd_steps : Nat) (fd_steps : Nat → Int32) (qd_lengths : Nat) (fd_lengths : Nat → Int32) (qd_starts : Nat) (qd_met : Nat) (qd_stumbles : Nat) (vd_stumbleCount : Int32) (qd_muds : Nat) (qd_cells : Nat) (vd_cellCount : Int32) (qd_tunes : Nat) (vd_tuneCount : Int32) (qd_changes : Nat) (vd_changeCount : Int32) (qd2 : Nat) (qf : Nat) (qf2 : Nat) (qo : Nat) (qe : Nat) (qw : Nat) (qu : Nat) (qg : Nat) (qn : Nat) (qs : Nat) : va_W := [oo qh qr qt qd qd2 qi qh_kept qf qf2 vh_laid qo qe qw qu qg qn qs, dn qd vd_gap vd_odds vd_rain vd_lines qd_steps qd_lengths qd_starts qd_met qd_stumbles vd_stumbleCount qd_muds qd_cells vd_cellCount qd_tunes vd_tuneCount qd_changes vd_changeCount, (qd_steps, .inl (cI, 24, .inl (fd_steps))), (qd_lengths, .inl (cI, 2, .inl (fd_lengths)))]
set_option maxHeartbeats 4000000 in
set_option maxRecDepth 100000 in
/-- X11 step -/
theorem c_X11_step (l : Launch) (D : va_G) (G : ct_G) (cI cJ cB cZ cO : ClassId) (qh : Nat) (qh_kept : Nat) (vh_laid : Int32) (qi : Nat) (qr : Nat) (qt : Nat) (qd : Nat) (vd_gap : Int32) (vd_odds : Int32) (vd_rain : Int32) (vd_lines : Int32) (qd_steps : Nat) (fd_steps : Nat → Int32) (qd_lengths : Nat) (fd_lengths : Nat → Int32) (qd_starts : Nat) (qd_met : Nat) (qd_stumbles : Nat) (vd_stumbleCount : Int32) (qd_muds : Nat) (qd_cells : Nat) (vd_cellCount : Int32) (qd_tunes : Nat) (vd_tuneCount : Int32) (qd_changes : Nat) (vd_changeCount : Int32) (qd2 : Nat) (qf : Nat) (qf2 : Nat) (qo : Nat) (qe : Nat) (qw : Nat) (qu : Nat) (qg : Nat) (qn : Nat) (qs : Nat) (a1 : Int32) (a2 : Int32) (h_vd_gap : 0 ≤ vd_gap.toInt ∧ vd_gap.toInt ≤ 20) (h_fd_steps : ar_ok [0] [5] fd_steps) (h_fd_lengths : ar_ok [0] [12] fd_lengths) (h_vd_stumbleCount : 0 ≤ vd_stumbleCount.toInt ∧ vd_stumbleCount.toInt ≤ 8) (h_vd_cellCount : 0 ≤ vd_cellCount.toInt ∧ vd_cellCount.toInt ≤ 12) (h_vd_tuneCount : 0 ≤ vd_tuneCount.toInt ∧ vd_tuneCount.toInt ≤ 5) (h_vd_changeCount : 0 ≤ vd_changeCount.toInt ∧ vd_changeCount.toInt ≤ 40) (sz : Nat) : Met l yX11_step wsX11_step ({ frames := 2, cells := 0, slots := 0, locals := 43 }) (va_Pc [.ref qh, .int a1, .int a2] (ct_P D (ct_T cI cJ cB cZ cO) G (w_c_X11_step cI cJ cB cZ cO qh qh_kept vh_laid qi qr qt qd vd_gap vd_odds vd_rain vd_lines qd_steps fd_steps qd_lengths fd_lengths qd_starts qd_met qd_stumbles vd_stumbleCount qd_muds qd_cells vd_cellCount qd_tunes vd_tuneCount qd_changes vd_changeCount qd2 qf qf2 qo qe qw qu qg qn qs) sz)) (va_Qi (fun (rz : Int32) (u : Unit) => ((-2) ≤ rz.toInt ∧ rz.toInt ≤ 5)) (fun (u : Unit) t => ct_Q D (va_A (w_c_X11_step cI cJ cB cZ cO qh qh_kept vh_laid qi qr qt qd vd_gap vd_odds vd_rain vd_lines qd_steps fd_steps qd_lengths fd_lengths qd_starts qd_met qd_stumbles vd_stumbleCount qd_muds qd_cells vd_cellCount qd_tunes vd_tuneCount qd_changes vd_changeCount qd2 qf qf2 qo qe qw qu qg qn qs) sz) [oo qh qr qt qd qd2 qi qh_kept qf qf2 vh_laid qo qe qw qu qg qn qs, dn qd vd_gap vd_odds vd_rain vd_lines qd_steps qd_lengths qd_starts qd_met qd_stumbles vd_stumbleCount qd_muds qd_cells vd_cellCount qd_tunes vd_tuneCount qd_changes vd_changeCount, (qd_steps, .inl (cI, 24, .inl (fd_steps))), (qd_lengths, .inl (cI, 2, .inl (fd_lengths)))] t) (va_A (w_c_X11_step cI cJ cB cZ cO qh qh_kept vh_laid qi qr qt qd vd_gap vd_odds vd_rain vd_lines qd_steps fd_steps qd_lengths fd_lengths qd_starts qd_met qd_stumbles vd_stumbleCount qd_muds qd_cells vd_cellCount qd_tunes vd_tuneCount qd_changes vd_changeCount qd2 qf qf2 qo qe qw qu qg qn qs) sz)) 0 0 (va_A (w_c_X11_step cI cJ cB cZ cO qh qh_kept vh_laid qi qr qt qd vd_gap vd_odds vd_rain vd_lines qd_steps fd_steps qd_lengths fd_lengths qd_starts qd_met qd_stumbles vd_stumbleCount qd_muds qd_cells vd_cellCount qd_tunes vd_tuneCount qd_changes vd_changeCount qd2 qf qf2 qo qe qw qu qg qn qs) sz) := by
  refine Met.ofW (cc := cX11_step) (maxL := 3) (ret := (some .int)) (by decide) rfl ?_
  intro p e s m args below meth c s₁ B hml hv
  obtain ⟨rfl, hsz, hP, hE, hD0, hH⟩ := hv
  have hx := B.exec
  have hb := B.bytes
  have hr := B.returns
  have hts := atoms_spec (ws := wsX11_step) B.pre
  have hown : s.vm.findClass RX11 = some m.cls := findClass_of_methodNamed B.named
  have hlocks := B.notSynchronized
  have hK := hE.1
  have hi11 : ∀ w ∈ u_ws RX11 TX11 16, w ∈ wsX11_step := fun w h => List.mem_cons_of_mem _ (List.mem_append_left _ (List.mem_append_right _ h))
  subst hsz
  have hD := hD0.self (sz := s.heap.size)
  generalize hAe : va_A (w_c_X11_step cI cJ cB cZ cO qh qh_kept vh_laid qi qr qt qd vd_gap vd_odds vd_rain vd_lines qd_steps fd_steps qd_lengths fd_lengths qd_starts qd_met qd_stumbles vd_stumbleCount qd_muds qd_cells vd_cellCount qd_tunes vd_tuneCount qd_changes vd_changeCount qd2 qf qf2 qo qe qw qu qg qn qs) s.heap.size = A at hD hH ⊢
  have hA : ∀ q : Nat, s.heap.size ≤ q → A q := fun q h => by rw [← hAe]; exact Or.inr h
  have hS : va_S A s.heap s.heap [] := va_S.rf
  obtain ⟨hP, hD⟩ : ct_B D A s.heap [oo qh qr qt qd qd2 qi qh_kept qf qf2 vh_laid qo qe qw qu qg qn qs, dn qd vd_gap vd_odds vd_rain vd_lines qd_steps qd_lengths qd_starts qd_met qd_stumbles vd_stumbleCount qd_muds qd_cells vd_cellCount qd_tunes vd_tuneCount qd_changes vd_changeCount, (qd_steps, .inl (cI, 24, .inl (fd_steps))), (qd_lengths, .inl (cI, 2, .inl (fd_lengths)))] := ⟨hP, hD⟩
  have hl := lv_entry ([.ref qh, .int a1, .int a2]) (n := 3) (Nat.le_of_ble_eq_true rfl)
  rw [lg_entry_eq]
  generalize (lg_sl ([.ref qh, .int a1, .int a2]) ++ List.replicate (3 - (lg_sl ([.ref qh, .int a1, .int a2])).length) Slot.unset).toArray = ls at hl ⊢
  have hl : lv_has ls 3 [(0, .ref qh), (1, .int a1), (2, .int a2)] := hl
  obtain ⟨H, hHe⟩ : ∃ H : Heap, H = s.heap := ⟨_, rfl⟩
  rw [← hHe] at hP
  have hS : va_S A s.heap H [] := by rw [hHe]; exact va_S.rf
  refine ct_start hHe ?_
  refine lv_aload_n hx hb dX11_step_0 rfl (lv_at hl 0 rfl) ?_
  refine va_get (D := D) (ci := 11) (v := .ref qd) (C := RX11) (T := TX11) (N := 16) hx hb hts hi11 hown hK hP 0 rfl rfl 2 (by decide) (hts (.fieldLink RX11 24 "OverHill" "now" "LOverHill$Dance;") (by decide +kernel)) (fun _ h9 => h9) rfl dX11_step_1 ?_
  refine ct_calli (D := D) (wr := [oo qh qr qt qd qd2 qi qh_kept qf qf2 vh_laid qo qe qw qu qg qn qs, (qd_steps, .inl (cI, 24, .inl (fd_steps))), (qd_lengths, .inl (cI, 2, .inl (fd_lengths)))]) (va_runV (As := []) (rest := []) ⟨hx, hb, hml, hown, hts⟩ (c_X0_stands l D G cI cJ cB cZ cO qd vd_gap vd_odds vd_rain vd_lines qd_steps qd_lengths qd_starts qd_met qd_stumbles vd_stumbleCount qd_muds qd_cells vd_cellCount qd_tunes vd_tuneCount qd_changes vd_changeCount h_vd_gap h_vd_stumbleCount h_vd_cellCount h_vd_tuneCount h_vd_changeCount H.size) (cwV 0 hts gX11_step_X0_stands rfl rfl rfl (by decide +kernel) ⟨Nat.le_of_ble_eq_true rfl, Nat.le_of_ble_eq_true rfl⟩) (ct_preV (T := ct_T cI cJ cB cZ cO) (ci := 0) (q0 := 1) hE hH hP hD hS hA [1] (by decide) rfl rfl rfl) rfl rfl hl.1 rfl (lv_room (Nat.le_of_ble_eq_true rfl)) dX11_step_4 ⟨Nat.le_of_ble_eq_true rfl, Nat.le_of_ble_eq_true rfl⟩) hP hD hS hA [1] [0, 2, 3] rfl rfl (by decide) (by decide) (fun r1 u H locs hw hP hD hS => ?_)
  obtain ⟨hP, hD⟩ : ct_B D A H [oo qh qr qt qd qd2 qi qh_kept qf qf2 vh_laid qo qe qw qu qg qn qs, (qd_steps, .inl (cI, 24, .inl (fd_steps))), (qd_lengths, .inl (cI, 2, .inl (fd_lengths))), dn qd vd_gap vd_odds vd_rain vd_lines qd_steps qd_lengths qd_starts qd_met qd_stumbles vd_stumbleCount qd_muds qd_cells vd_cellCount qd_tunes vd_tuneCount qd_changes vd_changeCount] := ⟨hP, hD⟩
  have hz := hw
  rcases hz with ⟨hz, hz2⟩ | ⟨hz, hz2⟩
  · subst hz
    have hz_2 : (0 < vd_lines.toInt) := hz2
    refine lv_if_eq (tgt := 17) hx hb dX11_step_7 (by decide) (fun hc => absurd hc (by decide)) (fun _ => ?_)
    refine lv_iload_n hx hb dX11_step_10 rfl (lv_at hl 1 rfl) ?_
    refine ct_calli (D := D) (wr := [oo qh qr qt qd qd2 qi qh_kept qf qf2 vh_laid qo qe qw qu qg qn qs, (qd_steps, .inl (cI, 24, .inl (fd_steps))), (qd_lengths, .inl (cI, 2, .inl (fd_lengths))), dn qd vd_gap vd_odds vd_rain vd_lines qd_steps qd_lengths qd_starts qd_met qd_stumbles vd_stumbleCount qd_muds qd_cells vd_cellCount qd_tunes vd_tuneCount qd_changes vd_changeCount]) (va_runS (As := [.int a1]) (rest := []) ⟨hx, hb, hml, hown, hts⟩ (c_X11_isSide l D G cI cJ cB cZ cO a1  H.size) (va_cwS 1 hts gX11_step_X11_isSide rfl rfl rfl (by decide +kernel) ⟨Nat.le_of_ble_eq_true rfl, Nat.le_of_ble_eq_true rfl⟩) (ct_preS (T := ct_T cI cJ cB cZ cO) hE hH hP hD hS hA [] (by decide) rfl) rfl rfl hl.1 rfl (lv_room (Nat.le_of_ble_eq_true rfl)) dX11_step_11 ⟨Nat.le_of_ble_eq_true rfl, Nat.le_of_ble_eq_true rfl⟩) hP hD hS hA [] [0, 1, 2, 3] rfl rfl (by decide) (by decide) (fun r3 u H locs hw hP hD hS => ?_)
    obtain ⟨hP, hD⟩ : ct_B D A H [oo qh qr qt qd qd2 qi qh_kept qf qf2 vh_laid qo qe qw qu qg qn qs, (qd_steps, .inl (cI, 24, .inl (fd_steps))), (qd_lengths, .inl (cI, 2, .inl (fd_lengths))), dn qd vd_gap vd_odds vd_rain vd_lines qd_steps qd_lengths qd_starts qd_met qd_stumbles vd_stumbleCount qd_muds qd_cells vd_cellCount qd_tunes vd_tuneCount qd_changes vd_changeCount] := ⟨hP, hD⟩
    have hz := hw
    rcases hz with ⟨hz, hz2⟩ | ⟨hz, hz2⟩
    · subst hz
      have hz_4 : (0 ≤ a1.toInt ∧ a1.toInt < 2) := hz2
      refine lv_if_ne (tgt := 20) hx hb dX11_step_14 (by decide) (fun _ => ?_) (fun hc => absurd hc (by decide))
      refine lv_aload_n hx hb dX11_step_20 rfl (lv_at hl 0 rfl) ?_
      refine va_get (D := D) (ci := 11) (v := .ref qd) (C := RX11) (T := TX11) (N := 16) hx hb hts hi11 hown hK hP 0 rfl rfl 2 (by decide) (hts (.fieldLink RX11 24 "OverHill" "now" "LOverHill$Dance;") (by decide +kernel)) (fun _ h9 => h9) rfl dX11_step_21 ?_
      refine lv_iload_n hx hb dX11_step_24 rfl (lv_at hl 1 rfl) ?_
      refine lv_iload_n hx hb dX11_step_25 rfl (lv_at hl 2 rfl) ?_
      refine ct_calli (D := D) (wr := [oo qh qr qt qd qd2 qi qh_kept qf qf2 vh_laid qo qe qw qu qg qn qs, (qd_steps, .inl (cI, 24, .inl (fd_steps)))]) (va_runV (As := [.int a1, .int a2]) (rest := []) ⟨hx, hb, hml, hown, hts⟩ (c_X0_hasPlace l D G cI cJ cB cZ cO qd vd_gap vd_odds vd_rain vd_lines qd_steps qd_lengths fd_lengths qd_starts qd_met qd_stumbles vd_stumbleCount qd_muds qd_cells vd_cellCount qd_tunes vd_tuneCount qd_changes vd_changeCount a1 a2 h_vd_gap h_fd_lengths h_vd_stumbleCount h_vd_cellCount h_vd_tuneCount h_vd_changeCount (by omega) H.size) (cwV 2 hts gX11_step_X0_hasPlace rfl rfl rfl (by decide +kernel) ⟨Nat.le_of_ble_eq_true rfl, Nat.le_of_ble_eq_true rfl⟩) (ct_preV (T := ct_T cI cJ cB cZ cO) (ci := 0) (q0 := 3) hE hH hP hD hS hA [3, 2] (by decide) rfl rfl rfl) rfl rfl hl.1 rfl (lv_room (Nat.le_of_ble_eq_true rfl)) dX11_step_26 ⟨Nat.le_of_ble_eq_true rfl, Nat.le_of_ble_eq_true rfl⟩) hP hD hS hA [3, 2] [0, 1] rfl rfl (by decide) (by decide) (fun r5 u H locs hw hP hD hS => ?_)
      obtain ⟨hP, hD⟩ : ct_B D A H [oo qh qr qt qd qd2 qi qh_kept qf qf2 vh_laid qo qe qw qu qg qn qs, (qd_steps, .inl (cI, 24, .inl (fd_steps))), dn qd vd_gap vd_odds vd_rain vd_lines qd_steps qd_lengths qd_starts qd_met qd_stumbles vd_stumbleCount qd_muds qd_cells vd_cellCount qd_tunes vd_tuneCount qd_changes vd_changeCount, (qd_lengths, .inl (cI, 2, .inl (fd_lengths)))] := ⟨hP, hD⟩
      have hz := hw
      rcases hz with ⟨hz, hz2⟩ | ⟨hz, hz2⟩
      · subst hz
        have hz_6 : (0 ≤ a2.toInt ∧ a2.toInt < 12) := hz2
        refine lv_if_eq (tgt := 44) hx hb dX11_step_29 (by decide) (fun hc => absurd hc (by decide)) (fun _ => ?_)
        refine lv_aload_n hx hb dX11_step_32 rfl (lv_at hl 0 rfl) ?_
        refine va_get (D := D) (ci := 11) (v := .ref qd) (C := RX11) (T := TX11) (N := 16) hx hb hts hi11 hown hK hP 0 rfl rfl 2 (by decide) (hts (.fieldLink RX11 24 "OverHill" "now" "LOverHill$Dance;") (by decide +kernel)) (fun _ h9 => h9) rfl dX11_step_33 ?_
        refine lv_iload_n hx hb dX11_step_36 rfl (lv_at hl 1 rfl) ?_
        refine lv_iload_n hx hb dX11_step_37 rfl (lv_at hl 2 rfl) ?_
        refine ct_calli (D := D) (wr := [oo qh qr qt qd qd2 qi qh_kept qf qf2 vh_laid qo qe qw qu qg qn qs, (qd_lengths, .inl (cI, 2, .inl (fd_lengths)))]) (va_runV (As := [.int a1, .int a2]) (rest := []) ⟨hx, hb, hml, hown, hts⟩ (c_X0_stepAt l D G cI cJ cB cZ cO qd vd_gap vd_odds vd_rain vd_lines qd_steps fd_steps qd_lengths qd_starts qd_met qd_stumbles vd_stumbleCount qd_muds qd_cells vd_cellCount qd_tunes vd_tuneCount qd_changes vd_changeCount a1 a2 h_vd_gap h_fd_steps h_vd_stumbleCount h_vd_cellCount h_vd_tuneCount h_vd_changeCount (by omega) (by omega) H.size) (cwV 2 hts gX11_step_X0_stepAt rfl rfl rfl (by decide +kernel) ⟨Nat.le_of_ble_eq_true rfl, Nat.le_of_ble_eq_true rfl⟩) (ct_preV (T := ct_T cI cJ cB cZ cO) (ci := 0) (q0 := 2) hE hH hP hD hS hA [2, 1] (by decide) rfl rfl rfl) rfl rfl hl.1 rfl (lv_room (Nat.le_of_ble_eq_true rfl)) dX11_step_38 ⟨Nat.le_of_ble_eq_true rfl, Nat.le_of_ble_eq_true rfl⟩) hP hD hS hA [2, 1] [0, 3] rfl rfl (by decide) (by decide) (fun r7 u H locs hw hP hD hS => ?_)
        obtain ⟨hP, hD⟩ : ct_B D A H [oo qh qr qt qd qd2 qi qh_kept qf qf2 vh_laid qo qe qw qu qg qn qs, (qd_lengths, .inl (cI, 2, .inl (fd_lengths))), dn qd vd_gap vd_odds vd_rain vd_lines qd_steps qd_lengths qd_starts qd_met qd_stumbles vd_stumbleCount qd_muds qd_cells vd_cellCount qd_tunes vd_tuneCount qd_changes vd_changeCount, (qd_steps, .inl (cI, 24, .inl (fd_steps)))] := ⟨hP, hD⟩
        have hz := hw
        have h_r7 : 0 ≤ r7.toInt ∧ r7.toInt ≤ 5 := hz
        refine lv_goto (tgt := 45) hx hb dX11_step_41 (by decide) ?_
        obtain ⟨hP9, hD9⟩ : ct_B D A H [oo qh qr qt qd qd2 qi qh_kept qf qf2 vh_laid qo qe qw qu qg qn qs, dn qd vd_gap vd_odds vd_rain vd_lines qd_steps qd_lengths qd_starts qd_met qd_stumbles vd_stumbleCount qd_muds qd_cells vd_cellCount qd_tunes vd_tuneCount qd_changes vd_changeCount, (qd_steps, .inl (cI, 24, .inl (fd_steps))), (qd_lengths, .inl (cI, 2, .inl (fd_lengths)))] := ⟨hP.sub [0, 2, 3, 1] rfl, hD.sub [0, 2, 3, 1] (by decide) rfl⟩
        exact W.iret (v := r7) hx hb hr (fun t ht hW => ⟨⟨r7, (), rfl, (show (-2) ≤ r7.toInt ∧ r7.toInt ≤ 5 by omega), by rw [ht]; exact hP9, hD9⟩, hS.F ht⟩) hS.2.2 dX11_step_45
      · subst hz
        refine lv_if_eq (tgt := 44) hx hb dX11_step_29 (by decide) (fun _ => ?_) (fun hc => absurd hc (by decide))
        refine lv_iconst (v := (-1)) hx hb dX11_step_44 (by decide) ?_
        obtain ⟨hP9, hD9⟩ : ct_B D A H [oo qh qr qt qd qd2 qi qh_kept qf qf2 vh_laid qo qe qw qu qg qn qs, dn qd vd_gap vd_odds vd_rain vd_lines qd_steps qd_lengths qd_starts qd_met qd_stumbles vd_stumbleCount qd_muds qd_cells vd_cellCount qd_tunes vd_tuneCount qd_changes vd_changeCount, (qd_steps, .inl (cI, 24, .inl (fd_steps))), (qd_lengths, .inl (cI, 2, .inl (fd_lengths)))] := ⟨hP.sub [0, 2, 1, 3] rfl, hD.sub [0, 2, 1, 3] (by decide) rfl⟩
        exact W.iret (v := (-1)) hx hb hr (fun t ht hW => ⟨⟨(-1), (), rfl, (show (-2) ≤ (-1 : Int32).toInt ∧ (-1 : Int32).toInt ≤ 5 by decide), by rw [ht]; exact hP9, hD9⟩, hS.F ht⟩) hS.2.2 dX11_step_45
    · subst hz
      have hz_8 : ¬ (0 ≤ a1.toInt ∧ a1.toInt < 2) := hz2
      refine lv_if_ne (tgt := 20) hx hb dX11_step_14 (by decide) (fun hc => absurd hc (by decide)) (fun _ => ?_)
      refine lv_bipush (v := (-2)) hx hb dX11_step_17 (by decide) ?_
      obtain ⟨hP9, hD9⟩ : ct_B D A H [oo qh qr qt qd qd2 qi qh_kept qf qf2 vh_laid qo qe qw qu qg qn qs, dn qd vd_gap vd_odds vd_rain vd_lines qd_steps qd_lengths qd_starts qd_met qd_stumbles vd_stumbleCount qd_muds qd_cells vd_cellCount qd_tunes vd_tuneCount qd_changes vd_changeCount, (qd_steps, .inl (cI, 24, .inl (fd_steps))), (qd_lengths, .inl (cI, 2, .inl (fd_lengths)))] := ⟨hP.sub [0, 3, 1, 2] rfl, hD.sub [0, 3, 1, 2] (by decide) rfl⟩
      exact W.iret (v := (-2)) hx hb hr (fun t ht hW => ⟨⟨(-2), (), rfl, (show (-2) ≤ (-2 : Int32).toInt ∧ (-2 : Int32).toInt ≤ 5 by decide), by rw [ht]; exact hP9, hD9⟩, hS.F ht⟩) hS.2.2 dX11_step_19
  · subst hz
    have hz_9 : ¬ (0 < vd_lines.toInt) := hz2
    refine lv_if_eq (tgt := 17) hx hb dX11_step_7 (by decide) (fun _ => ?_) (fun hc => absurd hc (by decide))
    refine lv_bipush (v := (-2)) hx hb dX11_step_17 (by decide) ?_
    obtain ⟨hP9, hD9⟩ : ct_B D A H [oo qh qr qt qd qd2 qi qh_kept qf qf2 vh_laid qo qe qw qu qg qn qs, dn qd vd_gap vd_odds vd_rain vd_lines qd_steps qd_lengths qd_starts qd_met qd_stumbles vd_stumbleCount qd_muds qd_cells vd_cellCount qd_tunes vd_tuneCount qd_changes vd_changeCount, (qd_steps, .inl (cI, 24, .inl (fd_steps))), (qd_lengths, .inl (cI, 2, .inl (fd_lengths)))] := ⟨hP.sub [0, 3, 1, 2] rfl, hD.sub [0, 3, 1, 2] (by decide) rfl⟩
    exact W.iret (v := (-2)) hx hb hr (fun t ht hW => ⟨⟨(-2), (), rfl, (show (-2) ≤ (-2 : Int32).toInt ∧ (-2 : Int32).toInt ≤ 5 by decide), by rw [ht]; exact hP9, hD9⟩, hS.F ht⟩) hS.2.2 dX11_step_19
abbrev w_c_X11_answers (cI cJ cB cZ cO : ClassId) (qh : Nat) (qh_kept : Nat) (vh_laid : Int32) (qi : Nat) (qr : Nat) (qt : Nat) (qd : Nat) (vd_gap : Int32) (vd_odds : Int32) (vd_rain : Int32) (vd_lines : Int32) (qd_steps : Nat) (qd_lengths : Nat) (qd_starts : Nat) (qd_met : Nat) (fd_met : Nat → Int32) (qd_stumbles : Nat) (vd_stumbleCount : Int32) (qd_muds : Nat) (qd_cells : Nat) (vd_cellCount : Int32) (qd_tunes : Nat) (vd_tuneCount : Int32) (qd_changes : Nat) (vd_changeCount : Int32) (qd2 : Nat) (qf : Nat) (qf2 : Nat) (qo : Nat) (qe : Nat) (qw : Nat) (qu : Nat) (qg : Nat) (qn : Nat) (qs : Nat) : va_W := [oo qh qr qt qd qd2 qi qh_kept qf qf2 vh_laid qo qe qw qu qg qn qs, dn qd vd_gap vd_odds vd_rain vd_lines qd_steps qd_lengths qd_starts qd_met qd_stumbles vd_stumbleCount qd_muds qd_cells vd_cellCount qd_tunes vd_tuneCount qd_changes vd_changeCount, (qd_met, .inl (cI, 6, .inl (fd_met)))]
set_option maxHeartbeats 4000000 in
set_option maxRecDepth 100000 in
/-- X11 answers -/
theorem c_X11_answers (l : Launch) (D : va_G) (G : ct_G) (cI cJ cB cZ cO : ClassId) (qh : Nat) (qh_kept : Nat) (vh_laid : Int32) (qi : Nat) (qr : Nat) (qt : Nat) (qd : Nat) (vd_gap : Int32) (vd_odds : Int32) (vd_rain : Int32) (vd_lines : Int32) (qd_steps : Nat) (qd_lengths : Nat) (qd_starts : Nat) (qd_met : Nat) (fd_met : Nat → Int32) (qd_stumbles : Nat) (vd_stumbleCount : Int32) (qd_muds : Nat) (qd_cells : Nat) (vd_cellCount : Int32) (qd_tunes : Nat) (vd_tuneCount : Int32) (qd_changes : Nat) (vd_changeCount : Int32) (qd2 : Nat) (qf : Nat) (qf2 : Nat) (qo : Nat) (qe : Nat) (qw : Nat) (qu : Nat) (qg : Nat) (qn : Nat) (qs : Nat) (a1 : Int32) (h_vd_gap : 0 ≤ vd_gap.toInt ∧ vd_gap.toInt ≤ 20) (h_vd_stumbleCount : 0 ≤ vd_stumbleCount.toInt ∧ vd_stumbleCount.toInt ≤ 8) (h_vd_cellCount : 0 ≤ vd_cellCount.toInt ∧ vd_cellCount.toInt ≤ 12) (h_vd_tuneCount : 0 ≤ vd_tuneCount.toInt ∧ vd_tuneCount.toInt ≤ 5) (h_vd_changeCount : 0 ≤ vd_changeCount.toInt ∧ vd_changeCount.toInt ≤ 40) (sz : Nat) : Met l yX11_answers wsX11_answers ({ frames := 2, cells := 0, slots := 0, locals := 41 }) (va_Pc [.ref qh, .int a1] (ct_P D (ct_T cI cJ cB cZ cO) G (w_c_X11_answers cI cJ cB cZ cO qh qh_kept vh_laid qi qr qt qd vd_gap vd_odds vd_rain vd_lines qd_steps qd_lengths qd_starts qd_met fd_met qd_stumbles vd_stumbleCount qd_muds qd_cells vd_cellCount qd_tunes vd_tuneCount qd_changes vd_changeCount qd2 qf qf2 qo qe qw qu qg qn qs) sz)) (va_Qi (fun (rz : Int32) (u : Unit) => True) (fun (u : Unit) t => ct_Q D (va_A (w_c_X11_answers cI cJ cB cZ cO qh qh_kept vh_laid qi qr qt qd vd_gap vd_odds vd_rain vd_lines qd_steps qd_lengths qd_starts qd_met fd_met qd_stumbles vd_stumbleCount qd_muds qd_cells vd_cellCount qd_tunes vd_tuneCount qd_changes vd_changeCount qd2 qf qf2 qo qe qw qu qg qn qs) sz) [oo qh qr qt qd qd2 qi qh_kept qf qf2 vh_laid qo qe qw qu qg qn qs, dn qd vd_gap vd_odds vd_rain vd_lines qd_steps qd_lengths qd_starts qd_met qd_stumbles vd_stumbleCount qd_muds qd_cells vd_cellCount qd_tunes vd_tuneCount qd_changes vd_changeCount, (qd_met, .inl (cI, 6, .inl (fd_met)))] t) (va_A (w_c_X11_answers cI cJ cB cZ cO qh qh_kept vh_laid qi qr qt qd vd_gap vd_odds vd_rain vd_lines qd_steps qd_lengths qd_starts qd_met fd_met qd_stumbles vd_stumbleCount qd_muds qd_cells vd_cellCount qd_tunes vd_tuneCount qd_changes vd_changeCount qd2 qf qf2 qo qe qw qu qg qn qs) sz)) 0 0 (va_A (w_c_X11_answers cI cJ cB cZ cO qh qh_kept vh_laid qi qr qt qd vd_gap vd_odds vd_rain vd_lines qd_steps qd_lengths qd_starts qd_met fd_met qd_stumbles vd_stumbleCount qd_muds qd_cells vd_cellCount qd_tunes vd_tuneCount qd_changes vd_changeCount qd2 qf qf2 qo qe qw qu qg qn qs) sz) := by
  refine Met.ofW (cc := cX11_answers) (maxL := 2) (ret := (some .int)) (by decide) rfl ?_
  intro p e s m args below meth c s₁ B hml hv
  obtain ⟨rfl, hsz, hP, hE, hD0, hH⟩ := hv
  have hx := B.exec
  have hb := B.bytes
  have hr := B.returns
  have hts := atoms_spec (ws := wsX11_answers) B.pre
  have hown : s.vm.findClass RX11 = some m.cls := findClass_of_methodNamed B.named
  have hlocks := B.notSynchronized
  have hK := hE.1
  have hi0 : ∀ w ∈ u_ws RX0 TX0 17, w ∈ wsX11_answers := fun w h => List.mem_cons_of_mem _ (List.mem_append_right _ h)
  have hi11 : ∀ w ∈ u_ws RX11 TX11 16, w ∈ wsX11_answers := fun w h => List.mem_cons_of_mem _ (List.mem_append_left _ (List.mem_append_right _ h))
  subst hsz
  have hD := hD0.self (sz := s.heap.size)
  generalize hAe : va_A (w_c_X11_answers cI cJ cB cZ cO qh qh_kept vh_laid qi qr qt qd vd_gap vd_odds vd_rain vd_lines qd_steps qd_lengths qd_starts qd_met fd_met qd_stumbles vd_stumbleCount qd_muds qd_cells vd_cellCount qd_tunes vd_tuneCount qd_changes vd_changeCount qd2 qf qf2 qo qe qw qu qg qn qs) s.heap.size = A at hD hH ⊢
  have hA : ∀ q : Nat, s.heap.size ≤ q → A q := fun q h => by rw [← hAe]; exact Or.inr h
  have hS : va_S A s.heap s.heap [] := va_S.rf
  obtain ⟨hP, hD⟩ : ct_B D A s.heap [oo qh qr qt qd qd2 qi qh_kept qf qf2 vh_laid qo qe qw qu qg qn qs, dn qd vd_gap vd_odds vd_rain vd_lines qd_steps qd_lengths qd_starts qd_met qd_stumbles vd_stumbleCount qd_muds qd_cells vd_cellCount qd_tunes vd_tuneCount qd_changes vd_changeCount, (qd_met, .inl (cI, 6, .inl (fd_met)))] := ⟨hP, hD⟩
  have hl := lv_entry ([.ref qh, .int a1]) (n := 2) (Nat.le_of_ble_eq_true rfl)
  rw [lg_entry_eq]
  generalize (lg_sl ([.ref qh, .int a1]) ++ List.replicate (2 - (lg_sl ([.ref qh, .int a1])).length) Slot.unset).toArray = ls at hl ⊢
  have hl : lv_has ls 2 [(0, .ref qh), (1, .int a1)] := hl
  obtain ⟨H, hHe⟩ : ∃ H : Heap, H = s.heap := ⟨_, rfl⟩
  rw [← hHe] at hP
  have hS : va_S A s.heap H [] := by rw [hHe]; exact va_S.rf
  refine ct_start hHe ?_
  refine lv_aload_n hx hb dX11_answers_0 rfl (lv_at hl 0 rfl) ?_
  refine va_get (D := D) (ci := 11) (v := .ref qd) (C := RX11) (T := TX11) (N := 16) hx hb hts hi11 hown hK hP 0 rfl rfl 2 (by decide) (hts (.fieldLink RX11 24 "OverHill" "now" "LOverHill$Dance;") (by decide +kernel)) (fun _ h9 => h9) rfl dX11_answers_1 ?_
  refine ct_calli (D := D) (wr := [oo qh qr qt qd qd2 qi qh_kept qf qf2 vh_laid qo qe qw qu qg qn qs, (qd_met, .inl (cI, 6, .inl (fd_met)))]) (va_runV (As := []) (rest := []) ⟨hx, hb, hml, hown, hts⟩ (c_X0_stands l D G cI cJ cB cZ cO qd vd_gap vd_odds vd_rain vd_lines qd_steps qd_lengths qd_starts qd_met qd_stumbles vd_stumbleCount qd_muds qd_cells vd_cellCount qd_tunes vd_tuneCount qd_changes vd_changeCount h_vd_gap h_vd_stumbleCount h_vd_cellCount h_vd_tuneCount h_vd_changeCount H.size) (cwV 0 hts gX11_answers_X0_stands rfl rfl rfl (by decide +kernel) ⟨Nat.le_of_ble_eq_true rfl, Nat.le_of_ble_eq_true rfl⟩) (ct_preV (T := ct_T cI cJ cB cZ cO) (ci := 0) (q0 := 1) hE hH hP hD hS hA [1] (by decide) rfl rfl rfl) rfl rfl hl.1 rfl (lv_room (Nat.le_of_ble_eq_true rfl)) dX11_answers_4 ⟨Nat.le_of_ble_eq_true rfl, Nat.le_of_ble_eq_true rfl⟩) hP hD hS hA [1] [0, 2] rfl rfl (by decide) (by decide) (fun r1 u H locs hw hP hD hS => ?_)
  obtain ⟨hP, hD⟩ : ct_B D A H [oo qh qr qt qd qd2 qi qh_kept qf qf2 vh_laid qo qe qw qu qg qn qs, (qd_met, .inl (cI, 6, .inl (fd_met))), dn qd vd_gap vd_odds vd_rain vd_lines qd_steps qd_lengths qd_starts qd_met qd_stumbles vd_stumbleCount qd_muds qd_cells vd_cellCount qd_tunes vd_tuneCount qd_changes vd_changeCount] := ⟨hP, hD⟩
  have hz := hw
  rcases hz with ⟨hz, hz2⟩ | ⟨hz, hz2⟩
  · subst hz
    have hz_2 : (0 < vd_lines.toInt) := hz2
    refine lv_if_eq (tgt := 29) hx hb dX11_answers_7 (by decide) (fun hc => absurd hc (by decide)) (fun _ => ?_)
    refine lv_iload_n hx hb dX11_answers_10 rfl (lv_at hl 1 rfl) ?_
    refine ct_calli (D := D) (wr := [oo qh qr qt qd qd2 qi qh_kept qf qf2 vh_laid qo qe qw qu qg qn qs, (qd_met, .inl (cI, 6, .inl (fd_met))), dn qd vd_gap vd_odds vd_rain vd_lines qd_steps qd_lengths qd_starts qd_met qd_stumbles vd_stumbleCount qd_muds qd_cells vd_cellCount qd_tunes vd_tuneCount qd_changes vd_changeCount]) (va_runS (As := [.int a1]) (rest := []) ⟨hx, hb, hml, hown, hts⟩ (c_X11_isStep l D G cI cJ cB cZ cO a1  H.size) (va_cwS 1 hts gX11_answers_X11_isStep rfl rfl rfl (by decide +kernel) ⟨Nat.le_of_ble_eq_true rfl, Nat.le_of_ble_eq_true rfl⟩) (ct_preS (T := ct_T cI cJ cB cZ cO) hE hH hP hD hS hA [] (by decide) rfl) rfl rfl hl.1 rfl (lv_room (Nat.le_of_ble_eq_true rfl)) dX11_answers_11 ⟨Nat.le_of_ble_eq_true rfl, Nat.le_of_ble_eq_true rfl⟩) hP hD hS hA [] [0, 1, 2] rfl rfl (by decide) (by decide) (fun r3 u H locs hw hP hD hS => ?_)
    obtain ⟨hP, hD⟩ : ct_B D A H [oo qh qr qt qd qd2 qi qh_kept qf qf2 vh_laid qo qe qw qu qg qn qs, (qd_met, .inl (cI, 6, .inl (fd_met))), dn qd vd_gap vd_odds vd_rain vd_lines qd_steps qd_lengths qd_starts qd_met qd_stumbles vd_stumbleCount qd_muds qd_cells vd_cellCount qd_tunes vd_tuneCount qd_changes vd_changeCount] := ⟨hP, hD⟩
    have hz := hw
    rcases hz with ⟨hz, hz2⟩ | ⟨hz, hz2⟩
    · subst hz
      have hz_4 : (0 ≤ a1.toInt ∧ a1.toInt < 6) := hz2
      refine lv_if_eq (tgt := 29) hx hb dX11_answers_14 (by decide) (fun hc => absurd hc (by decide)) (fun _ => ?_)
      refine lv_aload_n hx hb dX11_answers_17 rfl (lv_at hl 0 rfl) ?_
      refine va_get (D := D) (ci := 11) (v := .ref qd) (C := RX11) (T := TX11) (N := 16) hx hb hts hi11 hown hK hP 0 rfl rfl 2 (by decide) (hts (.fieldLink RX11 24 "OverHill" "now" "LOverHill$Dance;") (by decide +kernel)) (fun _ h9 => h9) rfl dX11_answers_18 ?_
      refine va_get (D := D) (ci := 0) (v := .ref qd_met) (C := RX0) (T := TX0) (N := 17) hx hb hts hi0 hown hK hP 2 rfl rfl 7 (by decide) (hts (.fieldLink RX11 144 "OverHill$Dance" "met" "[I") (by decide +kernel)) (fun _ h9 => h9) rfl dX11_answers_21 ?_
      refine lv_iload_n hx hb dX11_answers_24 rfl (lv_at hl 1 rfl) ?_
      refine va_iald (D := D) hx hb hK hP 1 0 rfl rfl (tq_in rfl (by omega)) dX11_answers_25 ?_
      refine lv_topi (fun z5 ez5 => ?_)
      refine lv_goto (tgt := 31) hx hb dX11_answers_26 (by decide) ?_
      obtain ⟨hP9, hD9⟩ : ct_B D A H [oo qh qr qt qd qd2 qi qh_kept qf qf2 vh_laid qo qe qw qu qg qn qs, dn qd vd_gap vd_odds vd_rain vd_lines qd_steps qd_lengths qd_starts qd_met qd_stumbles vd_stumbleCount qd_muds qd_cells vd_cellCount qd_tunes vd_tuneCount qd_changes vd_changeCount, (qd_met, .inl (cI, 6, .inl (fd_met)))] := ⟨hP.sub [0, 2, 1] rfl, hD.sub [0, 2, 1] (by decide) rfl⟩
      exact W.iret (v := z5) hx hb hr (fun t ht hW => ⟨⟨z5, (), rfl, trivial, by rw [ht]; exact hP9, hD9⟩, hS.F ht⟩) hS.2.2 dX11_answers_31
    · subst hz
      have hz_6 : ¬ (0 ≤ a1.toInt ∧ a1.toInt < 6) := hz2
      refine lv_if_eq (tgt := 29) hx hb dX11_answers_14 (by decide) (fun _ => ?_) (fun hc => absurd hc (by decide))
      refine lv_bipush (v := (-2)) hx hb dX11_answers_29 (by decide) ?_
      obtain ⟨hP9, hD9⟩ : ct_B D A H [oo qh qr qt qd qd2 qi qh_kept qf qf2 vh_laid qo qe qw qu qg qn qs, dn qd vd_gap vd_odds vd_rain vd_lines qd_steps qd_lengths qd_starts qd_met qd_stumbles vd_stumbleCount qd_muds qd_cells vd_cellCount qd_tunes vd_tuneCount qd_changes vd_changeCount, (qd_met, .inl (cI, 6, .inl (fd_met)))] := ⟨hP.sub [0, 2, 1] rfl, hD.sub [0, 2, 1] (by decide) rfl⟩
      exact W.iret (v := (-2)) hx hb hr (fun t ht hW => ⟨⟨(-2), (), rfl, trivial, by rw [ht]; exact hP9, hD9⟩, hS.F ht⟩) hS.2.2 dX11_answers_31
  · subst hz
    have hz_7 : ¬ (0 < vd_lines.toInt) := hz2
    refine lv_if_eq (tgt := 29) hx hb dX11_answers_7 (by decide) (fun _ => ?_) (fun hc => absurd hc (by decide))
    refine lv_bipush (v := (-2)) hx hb dX11_answers_29 (by decide) ?_
    obtain ⟨hP9, hD9⟩ : ct_B D A H [oo qh qr qt qd qd2 qi qh_kept qf qf2 vh_laid qo qe qw qu qg qn qs, dn qd vd_gap vd_odds vd_rain vd_lines qd_steps qd_lengths qd_starts qd_met qd_stumbles vd_stumbleCount qd_muds qd_cells vd_cellCount qd_tunes vd_tuneCount qd_changes vd_changeCount, (qd_met, .inl (cI, 6, .inl (fd_met)))] := ⟨hP.sub [0, 2, 1] rfl, hD.sub [0, 2, 1] (by decide) rfl⟩
    exact W.iret (v := (-2)) hx hb hr (fun t ht hW => ⟨⟨(-2), (), rfl, trivial, by rw [ht]; exact hP9, hD9⟩, hS.F ht⟩) hS.2.2 dX11_answers_31
abbrev w_c_X11_stumbled (cI cJ cB cZ cO : ClassId) (qh : Nat) (qh_kept : Nat) (vh_laid : Int32) (qi : Nat) (qr : Nat) (qt : Nat) (qd : Nat) (vd_gap : Int32) (vd_odds : Int32) (vd_rain : Int32) (vd_lines : Int32) (qd_steps : Nat) (qd_lengths : Nat) (qd_starts : Nat) (qd_met : Nat) (qd_stumbles : Nat) (fd_stumbles : Nat → Int32) (vd_stumbleCount : Int32) (qd_muds : Nat) (qd_cells : Nat) (vd_cellCount : Int32) (qd_tunes : Nat) (vd_tuneCount : Int32) (qd_changes : Nat) (vd_changeCount : Int32) (qd2 : Nat) (qf : Nat) (qf2 : Nat) (qo : Nat) (qe : Nat) (qw : Nat) (qu : Nat) (qg : Nat) (qn : Nat) (qs : Nat) : va_W := [oo qh qr qt qd qd2 qi qh_kept qf qf2 vh_laid qo qe qw qu qg qn qs, dn qd vd_gap vd_odds vd_rain vd_lines qd_steps qd_lengths qd_starts qd_met qd_stumbles vd_stumbleCount qd_muds qd_cells vd_cellCount qd_tunes vd_tuneCount qd_changes vd_changeCount, (qd_stumbles, .inl (cI, 32, .inl (fd_stumbles)))]
set_option maxHeartbeats 4000000 in
set_option maxRecDepth 100000 in
/-- X11 stumbled -/
theorem c_X11_stumbled (l : Launch) (D : va_G) (G : ct_G) (cI cJ cB cZ cO : ClassId) (qh : Nat) (qh_kept : Nat) (vh_laid : Int32) (qi : Nat) (qr : Nat) (qt : Nat) (qd : Nat) (vd_gap : Int32) (vd_odds : Int32) (vd_rain : Int32) (vd_lines : Int32) (qd_steps : Nat) (qd_lengths : Nat) (qd_starts : Nat) (qd_met : Nat) (qd_stumbles : Nat) (fd_stumbles : Nat → Int32) (vd_stumbleCount : Int32) (qd_muds : Nat) (qd_cells : Nat) (vd_cellCount : Int32) (qd_tunes : Nat) (vd_tuneCount : Int32) (qd_changes : Nat) (vd_changeCount : Int32) (qd2 : Nat) (qf : Nat) (qf2 : Nat) (qo : Nat) (qe : Nat) (qw : Nat) (qu : Nat) (qg : Nat) (qn : Nat) (qs : Nat) (a1 : Int32) (a2 : Int32) (h_vd_gap : 0 ≤ vd_gap.toInt ∧ vd_gap.toInt ≤ 20) (h_fd_stumbles : ar_ok [(-2147483648), 0, 0, (-2147483648)] [2147483647, 199, 5, 2147483647] fd_stumbles) (h_vd_stumbleCount : 0 ≤ vd_stumbleCount.toInt ∧ vd_stumbleCount.toInt ≤ 8) (h_vd_cellCount : 0 ≤ vd_cellCount.toInt ∧ vd_cellCount.toInt ≤ 12) (h_vd_tuneCount : 0 ≤ vd_tuneCount.toInt ∧ vd_tuneCount.toInt ≤ 5) (h_vd_changeCount : 0 ≤ vd_changeCount.toInt ∧ vd_changeCount.toInt ≤ 40) (sz : Nat) : Met l yX11_stumbled wsX11_stumbled ({ frames := 2, cells := 0, slots := 0, locals := 42 }) (va_Pc [.ref qh, .int a1, .int a2] (ct_P D (ct_T cI cJ cB cZ cO) G (w_c_X11_stumbled cI cJ cB cZ cO qh qh_kept vh_laid qi qr qt qd vd_gap vd_odds vd_rain vd_lines qd_steps qd_lengths qd_starts qd_met qd_stumbles fd_stumbles vd_stumbleCount qd_muds qd_cells vd_cellCount qd_tunes vd_tuneCount qd_changes vd_changeCount qd2 qf qf2 qo qe qw qu qg qn qs) sz)) (va_Qi (fun (rz : Int32) (u : Unit) => True) (fun (u : Unit) t => ct_Q D (va_A (w_c_X11_stumbled cI cJ cB cZ cO qh qh_kept vh_laid qi qr qt qd vd_gap vd_odds vd_rain vd_lines qd_steps qd_lengths qd_starts qd_met qd_stumbles fd_stumbles vd_stumbleCount qd_muds qd_cells vd_cellCount qd_tunes vd_tuneCount qd_changes vd_changeCount qd2 qf qf2 qo qe qw qu qg qn qs) sz) [oo qh qr qt qd qd2 qi qh_kept qf qf2 vh_laid qo qe qw qu qg qn qs, dn qd vd_gap vd_odds vd_rain vd_lines qd_steps qd_lengths qd_starts qd_met qd_stumbles vd_stumbleCount qd_muds qd_cells vd_cellCount qd_tunes vd_tuneCount qd_changes vd_changeCount, (qd_stumbles, .inl (cI, 32, .inl (fd_stumbles)))] t) (va_A (w_c_X11_stumbled cI cJ cB cZ cO qh qh_kept vh_laid qi qr qt qd vd_gap vd_odds vd_rain vd_lines qd_steps qd_lengths qd_starts qd_met qd_stumbles fd_stumbles vd_stumbleCount qd_muds qd_cells vd_cellCount qd_tunes vd_tuneCount qd_changes vd_changeCount qd2 qf qf2 qo qe qw qu qg qn qs) sz)) 0 0 (va_A (w_c_X11_stumbled cI cJ cB cZ cO qh qh_kept vh_laid qi qr qt qd vd_gap vd_odds vd_rain vd_lines qd_steps qd_lengths qd_starts qd_met qd_stumbles fd_stumbles vd_stumbleCount qd_muds qd_cells vd_cellCount qd_tunes vd_tuneCount qd_changes vd_changeCount qd2 qf qf2 qo qe qw qu qg qn qs) sz) := by
  refine Met.ofW (cc := cX11_stumbled) (maxL := 3) (ret := (some .int)) (by decide) rfl ?_
  intro p e s m args below meth c s₁ B hml hv
  obtain ⟨rfl, hsz, hP, hE, hD0, hH⟩ := hv
  have hx := B.exec
  have hb := B.bytes
  have hr := B.returns
  have hts := atoms_spec (ws := wsX11_stumbled) B.pre
  have hown : s.vm.findClass RX11 = some m.cls := findClass_of_methodNamed B.named
  have hlocks := B.notSynchronized
  have hK := hE.1
  have hi0 : ∀ w ∈ u_ws RX0 TX0 17, w ∈ wsX11_stumbled := fun w h => List.mem_cons_of_mem _ (List.mem_append_right _ h)
  have hi11 : ∀ w ∈ u_ws RX11 TX11 16, w ∈ wsX11_stumbled := fun w h => List.mem_cons_of_mem _ (List.mem_append_left _ (List.mem_append_right _ h))
  subst hsz
  have hD := hD0.self (sz := s.heap.size)
  generalize hAe : va_A (w_c_X11_stumbled cI cJ cB cZ cO qh qh_kept vh_laid qi qr qt qd vd_gap vd_odds vd_rain vd_lines qd_steps qd_lengths qd_starts qd_met qd_stumbles fd_stumbles vd_stumbleCount qd_muds qd_cells vd_cellCount qd_tunes vd_tuneCount qd_changes vd_changeCount qd2 qf qf2 qo qe qw qu qg qn qs) s.heap.size = A at hD hH ⊢
  have hA : ∀ q : Nat, s.heap.size ≤ q → A q := fun q h => by rw [← hAe]; exact Or.inr h
  have hS : va_S A s.heap s.heap [] := va_S.rf
  obtain ⟨hP, hD⟩ : ct_B D A s.heap [oo qh qr qt qd qd2 qi qh_kept qf qf2 vh_laid qo qe qw qu qg qn qs, dn qd vd_gap vd_odds vd_rain vd_lines qd_steps qd_lengths qd_starts qd_met qd_stumbles vd_stumbleCount qd_muds qd_cells vd_cellCount qd_tunes vd_tuneCount qd_changes vd_changeCount, (qd_stumbles, .inl (cI, 32, .inl (fd_stumbles)))] := ⟨hP, hD⟩
  have hl := lv_entry ([.ref qh, .int a1, .int a2]) (n := 3) (Nat.le_of_ble_eq_true rfl)
  rw [lg_entry_eq]
  generalize (lg_sl ([.ref qh, .int a1, .int a2]) ++ List.replicate (3 - (lg_sl ([.ref qh, .int a1, .int a2])).length) Slot.unset).toArray = ls at hl ⊢
  have hl : lv_has ls 3 [(0, .ref qh), (1, .int a1), (2, .int a2)] := hl
  obtain ⟨H, hHe⟩ : ∃ H : Heap, H = s.heap := ⟨_, rfl⟩
  rw [← hHe] at hP
  have hS : va_S A s.heap H [] := by rw [hHe]; exact va_S.rf
  refine ct_start hHe ?_
  refine lv_aload_n hx hb dX11_stumbled_0 rfl (lv_at hl 0 rfl) ?_
  refine va_get (D := D) (ci := 11) (v := .ref qd) (C := RX11) (T := TX11) (N := 16) hx hb hts hi11 hown hK hP 0 rfl rfl 2 (by decide) (hts (.fieldLink RX11 24 "OverHill" "now" "LOverHill$Dance;") (by decide +kernel)) (fun _ h9 => h9) rfl dX11_stumbled_1 ?_
  refine lv_iload_n hx hb dX11_stumbled_4 rfl (lv_at hl 1 rfl) ?_
  refine ct_calli (D := D) (wr := [oo qh qr qt qd qd2 qi qh_kept qf qf2 vh_laid qo qe qw qu qg qn qs, (qd_stumbles, .inl (cI, 32, .inl (fd_stumbles)))]) (va_runV (As := [.int a1]) (rest := []) ⟨hx, hb, hml, hown, hts⟩ (c_X0_hasStumble l D G cI cJ cB cZ cO qd vd_gap vd_odds vd_rain vd_lines qd_steps qd_lengths qd_starts qd_met qd_stumbles vd_stumbleCount qd_muds qd_cells vd_cellCount qd_tunes vd_tuneCount qd_changes vd_changeCount a1 h_vd_gap h_vd_stumbleCount h_vd_cellCount h_vd_tuneCount h_vd_changeCount H.size) (cwV 1 hts gX11_stumbled_X0_hasStumble rfl rfl rfl (by decide +kernel) ⟨Nat.le_of_ble_eq_true rfl, Nat.le_of_ble_eq_true rfl⟩) (ct_preV (T := ct_T cI cJ cB cZ cO) (ci := 0) (q0 := 1) hE hH hP hD hS hA [1] (by decide) rfl rfl rfl) rfl rfl hl.1 rfl (lv_room (Nat.le_of_ble_eq_true rfl)) dX11_stumbled_5 ⟨Nat.le_of_ble_eq_true rfl, Nat.le_of_ble_eq_true rfl⟩) hP hD hS hA [1] [0, 2] rfl rfl (by decide) (by decide) (fun r1 u H locs hw hP hD hS => ?_)
  obtain ⟨hP, hD⟩ : ct_B D A H [oo qh qr qt qd qd2 qi qh_kept qf qf2 vh_laid qo qe qw qu qg qn qs, (qd_stumbles, .inl (cI, 32, .inl (fd_stumbles))), dn qd vd_gap vd_odds vd_rain vd_lines qd_steps qd_lengths qd_starts qd_met qd_stumbles vd_stumbleCount qd_muds qd_cells vd_cellCount qd_tunes vd_tuneCount qd_changes vd_changeCount] := ⟨hP, hD⟩
  have hz := hw
  rcases hz with ⟨hz, hz2⟩ | ⟨hz, hz2⟩
  · subst hz
    have hz_2 : (0 ≤ a1.toInt ∧ a1.toInt < vd_stumbleCount.toInt) := hz2
    refine lv_if_eq (tgt := 19) hx hb dX11_stumbled_8 (by decide) (fun hc => absurd hc (by decide)) (fun _ => ?_)
    refine lv_iload_n hx hb dX11_stumbled_11 rfl (lv_at hl 2 rfl) ?_
    refine lv_iconst (v := 4) hx hb dX11_stumbled_12 (by decide) ?_
    refine ct_calli (D := D) (wr := [oo qh qr qt qd qd2 qi qh_kept qf qf2 vh_laid qo qe qw qu qg qn qs, (qd_stumbles, .inl (cI, 32, .inl (fd_stumbles))), dn qd vd_gap vd_odds vd_rain vd_lines qd_steps qd_lengths qd_starts qd_met qd_stumbles vd_stumbleCount qd_muds qd_cells vd_cellCount qd_tunes vd_tuneCount qd_changes vd_changeCount]) (va_runS (As := [.int a2, .int 4]) (rest := []) ⟨hx, hb, hml, hown, hts⟩ (c_X11_isWithin l D G cI cJ cB cZ cO a2 4  H.size) (va_cwS 2 hts gX11_stumbled_X11_isWithin rfl rfl rfl (by decide +kernel) ⟨Nat.le_of_ble_eq_true rfl, Nat.le_of_ble_eq_true rfl⟩) (ct_preS (T := ct_T cI cJ cB cZ cO) hE hH hP hD hS hA [] (by decide) rfl) rfl rfl hl.1 rfl (lv_room (Nat.le_of_ble_eq_true rfl)) dX11_stumbled_13 ⟨Nat.le_of_ble_eq_true rfl, Nat.le_of_ble_eq_true rfl⟩) hP hD hS hA [] [0, 1, 2] rfl rfl (by decide) (by decide) (fun r3 u H locs hw hP hD hS => ?_)
    obtain ⟨hP, hD⟩ : ct_B D A H [oo qh qr qt qd qd2 qi qh_kept qf qf2 vh_laid qo qe qw qu qg qn qs, (qd_stumbles, .inl (cI, 32, .inl (fd_stumbles))), dn qd vd_gap vd_odds vd_rain vd_lines qd_steps qd_lengths qd_starts qd_met qd_stumbles vd_stumbleCount qd_muds qd_cells vd_cellCount qd_tunes vd_tuneCount qd_changes vd_changeCount] := ⟨hP, hD⟩
    have hk4 : (4 : Int32).toInt = 4 := by decide
    have hz := hw
    rcases hz with ⟨hz, hz2⟩ | ⟨hz, hz2⟩
    · subst hz
      have hz_5 : (0 ≤ a2.toInt ∧ a2.toInt < (4 : Int32).toInt) := hz2
      refine lv_if_ne (tgt := 22) hx hb dX11_stumbled_16 (by decide) (fun _ => ?_) (fun hc => absurd hc (by decide))
      refine lv_aload_n hx hb dX11_stumbled_22 rfl (lv_at hl 0 rfl) ?_
      refine va_get (D := D) (ci := 11) (v := .ref qd) (C := RX11) (T := TX11) (N := 16) hx hb hts hi11 hown hK hP 0 rfl rfl 2 (by decide) (hts (.fieldLink RX11 24 "OverHill" "now" "LOverHill$Dance;") (by decide +kernel)) (fun _ h9 => h9) rfl dX11_stumbled_23 ?_
      refine va_get (D := D) (ci := 0) (v := .ref qd_stumbles) (C := RX0) (T := TX0) (N := 17) hx hb hts hi0 hown hK hP 2 rfl rfl 8 (by decide) (hts (.fieldLink RX11 153 "OverHill$Dance" "stumbles" "[I") (by decide +kernel)) (fun _ h9 => h9) rfl dX11_stumbled_26 ?_
      refine lv_iload_n hx hb dX11_stumbled_29 rfl (lv_at hl 1 rfl) ?_
      refine lv_iconst (v := 4) hx hb dX11_stumbled_30 (by decide) ?_
      refine lv_imul hx hb dX11_stumbled_31 ?_
      refine lv_topi (fun z6 ez6 => ?_)
      have fz6 : z6.toInt = a1.toInt * 4 := by rw [ez6]; exact tq_mul rfl (by decide) (by omega)
      refine lv_iload_n hx hb dX11_stumbled_32 rfl (lv_at hl 2 rfl) ?_
      refine lv_iadd hx hb dX11_stumbled_33 ?_
      refine lv_topi (fun z7 ez7 => ?_)
      have fz7 : z7.toInt = z6.toInt + a2.toInt := by rw [ez7]; exact tq_add rfl rfl (by omega)
      refine va_iald (D := D) hx hb hK hP 1 0 rfl rfl (tq_in rfl (by omega)) dX11_stumbled_34 ?_
      refine lv_topi (fun z8 ez8 => ?_)
      obtain ⟨hP9, hD9⟩ : ct_B D A H [oo qh qr qt qd qd2 qi qh_kept qf qf2 vh_laid qo qe qw qu qg qn qs, dn qd vd_gap vd_odds vd_rain vd_lines qd_steps qd_lengths qd_starts qd_met qd_stumbles vd_stumbleCount qd_muds qd_cells vd_cellCount qd_tunes vd_tuneCount qd_changes vd_changeCount, (qd_stumbles, .inl (cI, 32, .inl (fd_stumbles)))] := ⟨hP.sub [0, 2, 1] rfl, hD.sub [0, 2, 1] (by decide) rfl⟩
      exact W.iret (v := z8) hx hb hr (fun t ht hW => ⟨⟨z8, (), rfl, trivial, by rw [ht]; exact hP9, hD9⟩, hS.F ht⟩) hS.2.2 dX11_stumbled_35
    · subst hz
      have hz_9 : ¬ (0 ≤ a2.toInt ∧ a2.toInt < (4 : Int32).toInt) := hz2
      refine lv_if_ne (tgt := 22) hx hb dX11_stumbled_16 (by decide) (fun hc => absurd hc (by decide)) (fun _ => ?_)
      refine lv_bipush (v := (-2)) hx hb dX11_stumbled_19 (by decide) ?_
      obtain ⟨hP9, hD9⟩ : ct_B D A H [oo qh qr qt qd qd2 qi qh_kept qf qf2 vh_laid qo qe qw qu qg qn qs, dn qd vd_gap vd_odds vd_rain vd_lines qd_steps qd_lengths qd_starts qd_met qd_stumbles vd_stumbleCount qd_muds qd_cells vd_cellCount qd_tunes vd_tuneCount qd_changes vd_changeCount, (qd_stumbles, .inl (cI, 32, .inl (fd_stumbles)))] := ⟨hP.sub [0, 2, 1] rfl, hD.sub [0, 2, 1] (by decide) rfl⟩
      exact W.iret (v := (-2)) hx hb hr (fun t ht hW => ⟨⟨(-2), (), rfl, trivial, by rw [ht]; exact hP9, hD9⟩, hS.F ht⟩) hS.2.2 dX11_stumbled_21
  · subst hz
    have hz_10 : ¬ (0 ≤ a1.toInt ∧ a1.toInt < vd_stumbleCount.toInt) := hz2
    refine lv_if_eq (tgt := 19) hx hb dX11_stumbled_8 (by decide) (fun _ => ?_) (fun hc => absurd hc (by decide))
    refine lv_bipush (v := (-2)) hx hb dX11_stumbled_19 (by decide) ?_
    obtain ⟨hP9, hD9⟩ : ct_B D A H [oo qh qr qt qd qd2 qi qh_kept qf qf2 vh_laid qo qe qw qu qg qn qs, dn qd vd_gap vd_odds vd_rain vd_lines qd_steps qd_lengths qd_starts qd_met qd_stumbles vd_stumbleCount qd_muds qd_cells vd_cellCount qd_tunes vd_tuneCount qd_changes vd_changeCount, (qd_stumbles, .inl (cI, 32, .inl (fd_stumbles)))] := ⟨hP.sub [0, 2, 1] rfl, hD.sub [0, 2, 1] (by decide) rfl⟩
    exact W.iret (v := (-2)) hx hb hr (fun t ht hW => ⟨⟨(-2), (), rfl, trivial, by rw [ht]; exact hP9, hD9⟩, hS.F ht⟩) hS.2.2 dX11_stumbled_21
abbrev w_c_X11_muddy (cI cJ cB cZ cO : ClassId) (qh : Nat) (qh_kept : Nat) (vh_laid : Int32) (qi : Nat) (qr : Nat) (qt : Nat) (qd : Nat) (vd_gap : Int32) (vd_odds : Int32) (vd_rain : Int32) (vd_lines : Int32) (qd_steps : Nat) (qd_lengths : Nat) (qd_starts : Nat) (qd_met : Nat) (qd_stumbles : Nat) (vd_stumbleCount : Int32) (qd_muds : Nat) (fd_muds : Nat → Int32) (qd_cells : Nat) (vd_cellCount : Int32) (qd_tunes : Nat) (vd_tuneCount : Int32) (qd_changes : Nat) (vd_changeCount : Int32) (qd2 : Nat) (qf : Nat) (qf2 : Nat) (qo : Nat) (qe : Nat) (qw : Nat) (qu : Nat) (qg : Nat) (qn : Nat) (qs : Nat) : va_W := [oo qh qr qt qd qd2 qi qh_kept qf qf2 vh_laid qo qe qw qu qg qn qs, dn qd vd_gap vd_odds vd_rain vd_lines qd_steps qd_lengths qd_starts qd_met qd_stumbles vd_stumbleCount qd_muds qd_cells vd_cellCount qd_tunes vd_tuneCount qd_changes vd_changeCount, (qd_muds, .inl (cI, 200, .inl (fd_muds)))]
set_option maxHeartbeats 4000000 in
set_option maxRecDepth 100000 in
/-- X11 muddy -/
theorem c_X11_muddy (l : Launch) (D : va_G) (G : ct_G) (cI cJ cB cZ cO : ClassId) (qh : Nat) (qh_kept : Nat) (vh_laid : Int32) (qi : Nat) (qr : Nat) (qt : Nat) (qd : Nat) (vd_gap : Int32) (vd_odds : Int32) (vd_rain : Int32) (vd_lines : Int32) (qd_steps : Nat) (qd_lengths : Nat) (qd_starts : Nat) (qd_met : Nat) (qd_stumbles : Nat) (vd_stumbleCount : Int32) (qd_muds : Nat) (fd_muds : Nat → Int32) (qd_cells : Nat) (vd_cellCount : Int32) (qd_tunes : Nat) (vd_tuneCount : Int32) (qd_changes : Nat) (vd_changeCount : Int32) (qd2 : Nat) (qf : Nat) (qf2 : Nat) (qo : Nat) (qe : Nat) (qw : Nat) (qu : Nat) (qg : Nat) (qn : Nat) (qs : Nat) (a1 : Int32) (h_vd_gap : 0 ≤ vd_gap.toInt ∧ vd_gap.toInt ≤ 20) (h_vd_stumbleCount : 0 ≤ vd_stumbleCount.toInt ∧ vd_stumbleCount.toInt ≤ 8) (h_vd_cellCount : 0 ≤ vd_cellCount.toInt ∧ vd_cellCount.toInt ≤ 12) (h_vd_tuneCount : 0 ≤ vd_tuneCount.toInt ∧ vd_tuneCount.toInt ≤ 5) (h_vd_changeCount : 0 ≤ vd_changeCount.toInt ∧ vd_changeCount.toInt ≤ 40) (sz : Nat) : Met l yX11_muddy wsX11_muddy ({ frames := 2, cells := 0, slots := 0, locals := 41 }) (va_Pc [.ref qh, .int a1] (ct_P D (ct_T cI cJ cB cZ cO) G (w_c_X11_muddy cI cJ cB cZ cO qh qh_kept vh_laid qi qr qt qd vd_gap vd_odds vd_rain vd_lines qd_steps qd_lengths qd_starts qd_met qd_stumbles vd_stumbleCount qd_muds fd_muds qd_cells vd_cellCount qd_tunes vd_tuneCount qd_changes vd_changeCount qd2 qf qf2 qo qe qw qu qg qn qs) sz)) (va_Qi (fun (rz : Int32) (u : Unit) => True) (fun (u : Unit) t => ct_Q D (va_A (w_c_X11_muddy cI cJ cB cZ cO qh qh_kept vh_laid qi qr qt qd vd_gap vd_odds vd_rain vd_lines qd_steps qd_lengths qd_starts qd_met qd_stumbles vd_stumbleCount qd_muds fd_muds qd_cells vd_cellCount qd_tunes vd_tuneCount qd_changes vd_changeCount qd2 qf qf2 qo qe qw qu qg qn qs) sz) [oo qh qr qt qd qd2 qi qh_kept qf qf2 vh_laid qo qe qw qu qg qn qs, dn qd vd_gap vd_odds vd_rain vd_lines qd_steps qd_lengths qd_starts qd_met qd_stumbles vd_stumbleCount qd_muds qd_cells vd_cellCount qd_tunes vd_tuneCount qd_changes vd_changeCount, (qd_muds, .inl (cI, 200, .inl (fd_muds)))] t) (va_A (w_c_X11_muddy cI cJ cB cZ cO qh qh_kept vh_laid qi qr qt qd vd_gap vd_odds vd_rain vd_lines qd_steps qd_lengths qd_starts qd_met qd_stumbles vd_stumbleCount qd_muds fd_muds qd_cells vd_cellCount qd_tunes vd_tuneCount qd_changes vd_changeCount qd2 qf qf2 qo qe qw qu qg qn qs) sz)) 0 0 (va_A (w_c_X11_muddy cI cJ cB cZ cO qh qh_kept vh_laid qi qr qt qd vd_gap vd_odds vd_rain vd_lines qd_steps qd_lengths qd_starts qd_met qd_stumbles vd_stumbleCount qd_muds fd_muds qd_cells vd_cellCount qd_tunes vd_tuneCount qd_changes vd_changeCount qd2 qf qf2 qo qe qw qu qg qn qs) sz) := by
  refine Met.ofW (cc := cX11_muddy) (maxL := 2) (ret := (some .int)) (by decide) rfl ?_
  intro p e s m args below meth c s₁ B hml hv
  obtain ⟨rfl, hsz, hP, hE, hD0, hH⟩ := hv
  have hx := B.exec
  have hb := B.bytes
  have hr := B.returns
  have hts := atoms_spec (ws := wsX11_muddy) B.pre
  have hown : s.vm.findClass RX11 = some m.cls := findClass_of_methodNamed B.named
  have hlocks := B.notSynchronized
  have hK := hE.1
  have hi0 : ∀ w ∈ u_ws RX0 TX0 17, w ∈ wsX11_muddy := fun w h => List.mem_cons_of_mem _ (List.mem_append_right _ h)
  have hi11 : ∀ w ∈ u_ws RX11 TX11 16, w ∈ wsX11_muddy := fun w h => List.mem_cons_of_mem _ (List.mem_append_left _ (List.mem_append_right _ h))
  subst hsz
  have hD := hD0.self (sz := s.heap.size)
  generalize hAe : va_A (w_c_X11_muddy cI cJ cB cZ cO qh qh_kept vh_laid qi qr qt qd vd_gap vd_odds vd_rain vd_lines qd_steps qd_lengths qd_starts qd_met qd_stumbles vd_stumbleCount qd_muds fd_muds qd_cells vd_cellCount qd_tunes vd_tuneCount qd_changes vd_changeCount qd2 qf qf2 qo qe qw qu qg qn qs) s.heap.size = A at hD hH ⊢
  have hA : ∀ q : Nat, s.heap.size ≤ q → A q := fun q h => by rw [← hAe]; exact Or.inr h
  have hS : va_S A s.heap s.heap [] := va_S.rf
  obtain ⟨hP, hD⟩ : ct_B D A s.heap [oo qh qr qt qd qd2 qi qh_kept qf qf2 vh_laid qo qe qw qu qg qn qs, dn qd vd_gap vd_odds vd_rain vd_lines qd_steps qd_lengths qd_starts qd_met qd_stumbles vd_stumbleCount qd_muds qd_cells vd_cellCount qd_tunes vd_tuneCount qd_changes vd_changeCount, (qd_muds, .inl (cI, 200, .inl (fd_muds)))] := ⟨hP, hD⟩
  have hl := lv_entry ([.ref qh, .int a1]) (n := 2) (Nat.le_of_ble_eq_true rfl)
  rw [lg_entry_eq]
  generalize (lg_sl ([.ref qh, .int a1]) ++ List.replicate (2 - (lg_sl ([.ref qh, .int a1])).length) Slot.unset).toArray = ls at hl ⊢
  have hl : lv_has ls 2 [(0, .ref qh), (1, .int a1)] := hl
  obtain ⟨H, hHe⟩ : ∃ H : Heap, H = s.heap := ⟨_, rfl⟩
  rw [← hHe] at hP
  have hS : va_S A s.heap H [] := by rw [hHe]; exact va_S.rf
  refine ct_start hHe ?_
  refine lv_aload_n hx hb dX11_muddy_0 rfl (lv_at hl 0 rfl) ?_
  refine va_get (D := D) (ci := 11) (v := .ref qd) (C := RX11) (T := TX11) (N := 16) hx hb hts hi11 hown hK hP 0 rfl rfl 2 (by decide) (hts (.fieldLink RX11 24 "OverHill" "now" "LOverHill$Dance;") (by decide +kernel)) (fun _ h9 => h9) rfl dX11_muddy_1 ?_
  refine ct_calli (D := D) (wr := [oo qh qr qt qd qd2 qi qh_kept qf qf2 vh_laid qo qe qw qu qg qn qs, (qd_muds, .inl (cI, 200, .inl (fd_muds)))]) (va_runV (As := []) (rest := []) ⟨hx, hb, hml, hown, hts⟩ (c_X0_stands l D G cI cJ cB cZ cO qd vd_gap vd_odds vd_rain vd_lines qd_steps qd_lengths qd_starts qd_met qd_stumbles vd_stumbleCount qd_muds qd_cells vd_cellCount qd_tunes vd_tuneCount qd_changes vd_changeCount h_vd_gap h_vd_stumbleCount h_vd_cellCount h_vd_tuneCount h_vd_changeCount H.size) (cwV 0 hts gX11_muddy_X0_stands rfl rfl rfl (by decide +kernel) ⟨Nat.le_of_ble_eq_true rfl, Nat.le_of_ble_eq_true rfl⟩) (ct_preV (T := ct_T cI cJ cB cZ cO) (ci := 0) (q0 := 1) hE hH hP hD hS hA [1] (by decide) rfl rfl rfl) rfl rfl hl.1 rfl (lv_room (Nat.le_of_ble_eq_true rfl)) dX11_muddy_4 ⟨Nat.le_of_ble_eq_true rfl, Nat.le_of_ble_eq_true rfl⟩) hP hD hS hA [1] [0, 2] rfl rfl (by decide) (by decide) (fun r1 u H locs hw hP hD hS => ?_)
  obtain ⟨hP, hD⟩ : ct_B D A H [oo qh qr qt qd qd2 qi qh_kept qf qf2 vh_laid qo qe qw qu qg qn qs, (qd_muds, .inl (cI, 200, .inl (fd_muds))), dn qd vd_gap vd_odds vd_rain vd_lines qd_steps qd_lengths qd_starts qd_met qd_stumbles vd_stumbleCount qd_muds qd_cells vd_cellCount qd_tunes vd_tuneCount qd_changes vd_changeCount] := ⟨hP, hD⟩
  have hz := hw
  rcases hz with ⟨hz, hz2⟩ | ⟨hz, hz2⟩
  · subst hz
    have hz_2 : (0 < vd_lines.toInt) := hz2
    refine lv_if_eq (tgt := 29) hx hb dX11_muddy_7 (by decide) (fun hc => absurd hc (by decide)) (fun _ => ?_)
    refine lv_iload_n hx hb dX11_muddy_10 rfl (lv_at hl 1 rfl) ?_
    refine ct_calli (D := D) (wr := [oo qh qr qt qd qd2 qi qh_kept qf qf2 vh_laid qo qe qw qu qg qn qs, (qd_muds, .inl (cI, 200, .inl (fd_muds))), dn qd vd_gap vd_odds vd_rain vd_lines qd_steps qd_lengths qd_starts qd_met qd_stumbles vd_stumbleCount qd_muds qd_cells vd_cellCount qd_tunes vd_tuneCount qd_changes vd_changeCount]) (va_runS (As := [.int a1]) (rest := []) ⟨hx, hb, hml, hown, hts⟩ (c_X11_isBeat l D G cI cJ cB cZ cO a1  H.size) (va_cwS 1 hts gX11_muddy_X11_isBeat rfl rfl rfl (by decide +kernel) ⟨Nat.le_of_ble_eq_true rfl, Nat.le_of_ble_eq_true rfl⟩) (ct_preS (T := ct_T cI cJ cB cZ cO) hE hH hP hD hS hA [] (by decide) rfl) rfl rfl hl.1 rfl (lv_room (Nat.le_of_ble_eq_true rfl)) dX11_muddy_11 ⟨Nat.le_of_ble_eq_true rfl, Nat.le_of_ble_eq_true rfl⟩) hP hD hS hA [] [0, 1, 2] rfl rfl (by decide) (by decide) (fun r3 u H locs hw hP hD hS => ?_)
    obtain ⟨hP, hD⟩ : ct_B D A H [oo qh qr qt qd qd2 qi qh_kept qf qf2 vh_laid qo qe qw qu qg qn qs, (qd_muds, .inl (cI, 200, .inl (fd_muds))), dn qd vd_gap vd_odds vd_rain vd_lines qd_steps qd_lengths qd_starts qd_met qd_stumbles vd_stumbleCount qd_muds qd_cells vd_cellCount qd_tunes vd_tuneCount qd_changes vd_changeCount] := ⟨hP, hD⟩
    have hz := hw
    rcases hz with ⟨hz, hz2⟩ | ⟨hz, hz2⟩
    · subst hz
      have hz_4 : (0 ≤ a1.toInt ∧ a1.toInt < 200) := hz2
      refine lv_if_eq (tgt := 29) hx hb dX11_muddy_14 (by decide) (fun hc => absurd hc (by decide)) (fun _ => ?_)
      refine lv_aload_n hx hb dX11_muddy_17 rfl (lv_at hl 0 rfl) ?_
      refine va_get (D := D) (ci := 11) (v := .ref qd) (C := RX11) (T := TX11) (N := 16) hx hb hts hi11 hown hK hP 0 rfl rfl 2 (by decide) (hts (.fieldLink RX11 24 "OverHill" "now" "LOverHill$Dance;") (by decide +kernel)) (fun _ h9 => h9) rfl dX11_muddy_18 ?_
      refine va_get (D := D) (ci := 0) (v := .ref qd_muds) (C := RX0) (T := TX0) (N := 17) hx hb hts hi0 hown hK hP 2 rfl rfl 10 (by decide) (hts (.fieldLink RX11 159 "OverHill$Dance" "muds" "[I") (by decide +kernel)) (fun _ h9 => h9) rfl dX11_muddy_21 ?_
      refine lv_iload_n hx hb dX11_muddy_24 rfl (lv_at hl 1 rfl) ?_
      refine va_iald (D := D) hx hb hK hP 1 0 rfl rfl (tq_in rfl (by omega)) dX11_muddy_25 ?_
      refine lv_topi (fun z5 ez5 => ?_)
      refine lv_goto (tgt := 31) hx hb dX11_muddy_26 (by decide) ?_
      obtain ⟨hP9, hD9⟩ : ct_B D A H [oo qh qr qt qd qd2 qi qh_kept qf qf2 vh_laid qo qe qw qu qg qn qs, dn qd vd_gap vd_odds vd_rain vd_lines qd_steps qd_lengths qd_starts qd_met qd_stumbles vd_stumbleCount qd_muds qd_cells vd_cellCount qd_tunes vd_tuneCount qd_changes vd_changeCount, (qd_muds, .inl (cI, 200, .inl (fd_muds)))] := ⟨hP.sub [0, 2, 1] rfl, hD.sub [0, 2, 1] (by decide) rfl⟩
      exact W.iret (v := z5) hx hb hr (fun t ht hW => ⟨⟨z5, (), rfl, trivial, by rw [ht]; exact hP9, hD9⟩, hS.F ht⟩) hS.2.2 dX11_muddy_31
    · subst hz
      have hz_6 : ¬ (0 ≤ a1.toInt ∧ a1.toInt < 200) := hz2
      refine lv_if_eq (tgt := 29) hx hb dX11_muddy_14 (by decide) (fun _ => ?_) (fun hc => absurd hc (by decide))
      refine lv_bipush (v := (-2)) hx hb dX11_muddy_29 (by decide) ?_
      obtain ⟨hP9, hD9⟩ : ct_B D A H [oo qh qr qt qd qd2 qi qh_kept qf qf2 vh_laid qo qe qw qu qg qn qs, dn qd vd_gap vd_odds vd_rain vd_lines qd_steps qd_lengths qd_starts qd_met qd_stumbles vd_stumbleCount qd_muds qd_cells vd_cellCount qd_tunes vd_tuneCount qd_changes vd_changeCount, (qd_muds, .inl (cI, 200, .inl (fd_muds)))] := ⟨hP.sub [0, 2, 1] rfl, hD.sub [0, 2, 1] (by decide) rfl⟩
      exact W.iret (v := (-2)) hx hb hr (fun t ht hW => ⟨⟨(-2), (), rfl, trivial, by rw [ht]; exact hP9, hD9⟩, hS.F ht⟩) hS.2.2 dX11_muddy_31
  · subst hz
    have hz_7 : ¬ (0 < vd_lines.toInt) := hz2
    refine lv_if_eq (tgt := 29) hx hb dX11_muddy_7 (by decide) (fun _ => ?_) (fun hc => absurd hc (by decide))
    refine lv_bipush (v := (-2)) hx hb dX11_muddy_29 (by decide) ?_
    obtain ⟨hP9, hD9⟩ : ct_B D A H [oo qh qr qt qd qd2 qi qh_kept qf qf2 vh_laid qo qe qw qu qg qn qs, dn qd vd_gap vd_odds vd_rain vd_lines qd_steps qd_lengths qd_starts qd_met qd_stumbles vd_stumbleCount qd_muds qd_cells vd_cellCount qd_tunes vd_tuneCount qd_changes vd_changeCount, (qd_muds, .inl (cI, 200, .inl (fd_muds)))] := ⟨hP.sub [0, 2, 1] rfl, hD.sub [0, 2, 1] (by decide) rfl⟩
    exact W.iret (v := (-2)) hx hb hr (fun t ht hW => ⟨⟨(-2), (), rfl, trivial, by rw [ht]; exact hP9, hD9⟩, hS.F ht⟩) hS.2.2 dX11_muddy_31
abbrev w_c_X11_place (cI cJ cB cZ cO : ClassId) (qh : Nat) (qh_kept : Nat) (vh_laid : Int32) (qi : Nat) (qr : Nat) (qt : Nat) (qd : Nat) (vd_gap : Int32) (vd_odds : Int32) (vd_rain : Int32) (vd_lines : Int32) (qd_steps : Nat) (fd_steps : Nat → Int32) (qd_lengths : Nat) (fd_lengths : Nat → Int32) (qd_starts : Nat) (fd_starts : Nat → Int32) (qd_met : Nat) (qd_stumbles : Nat) (fd_stumbles : Nat → Int32) (vd_stumbleCount : Int32) (qd_muds : Nat) (fd_muds : Nat → Int32) (qd_cells : Nat) (vd_cellCount : Int32) (qd_tunes : Nat) (vd_tuneCount : Int32) (qd_changes : Nat) (vd_changeCount : Int32) (qd2 : Nat) (qf : Nat) (qf_places : Nat) (ff_places : Nat → Int32) (qf_steps : Nat) (ff_steps : Nat → Int32) (qf_stumbleIn : Nat) (ff_stumbleIn : Nat → Int32) (vf_gap : Int32) (vf_calmLength : Int32) (vf_calmStart : Int32) (qf2 : Nat) (qo : Nat) (qe : Nat) (qw : Nat) (qu : Nat) (qg : Nat) (qn : Nat) (qs : Nat) : va_W := [oo qh qr qt qd qd2 qi qh_kept qf qf2 vh_laid qo qe qw qu qg qn qs, dn qd vd_gap vd_odds vd_rain vd_lines qd_steps qd_lengths qd_starts qd_met qd_stumbles vd_stumbleCount qd_muds qd_cells vd_cellCount qd_tunes vd_tuneCount qd_changes vd_changeCount, (qd_steps, .inl (cI, 24, .inl (fd_steps))), (qd_lengths, .inl (cI, 2, .inl (fd_lengths))), (qd_starts, .inl (cI, 2, .inl (fd_starts))), (qd_stumbles, .inl (cI, 32, .inl (fd_stumbles))), (qd_muds, .inl (cI, 200, .inl (fd_muds))), fo qf qf_places qf_steps qf_stumbleIn vf_gap vf_calmLength vf_calmStart, (qf_places, .inl (cI, 400, .inl (ff_places))), (qf_steps, .inl (cI, 400, .inl (ff_steps))), (qf_stumbleIn, .inl (cI, 200, .inl (ff_stumbleIn)))]
set_option maxHeartbeats 4000000 in
set_option maxRecDepth 100000 in
/-- X11 place -/
theorem c_X11_place (l : Launch) (D : va_G) (G : ct_G) (cI cJ cB cZ cO : ClassId) (qh : Nat) (qh_kept : Nat) (vh_laid : Int32) (qi : Nat) (qr : Nat) (qt : Nat) (qd : Nat) (vd_gap : Int32) (vd_odds : Int32) (vd_rain : Int32) (vd_lines : Int32) (qd_steps : Nat) (fd_steps : Nat → Int32) (qd_lengths : Nat) (fd_lengths : Nat → Int32) (qd_starts : Nat) (fd_starts : Nat → Int32) (qd_met : Nat) (qd_stumbles : Nat) (fd_stumbles : Nat → Int32) (vd_stumbleCount : Int32) (qd_muds : Nat) (fd_muds : Nat → Int32) (qd_cells : Nat) (vd_cellCount : Int32) (qd_tunes : Nat) (vd_tuneCount : Int32) (qd_changes : Nat) (vd_changeCount : Int32) (qd2 : Nat) (qf : Nat) (qf_places : Nat) (ff_places : Nat → Int32) (qf_steps : Nat) (ff_steps : Nat → Int32) (qf_stumbleIn : Nat) (ff_stumbleIn : Nat → Int32) (vf_gap : Int32) (vf_calmLength : Int32) (vf_calmStart : Int32) (qf2 : Nat) (qo : Nat) (qe : Nat) (qw : Nat) (qu : Nat) (qg : Nat) (qn : Nat) (qs : Nat) (a1 : Int32) (a2 : Int32) (h_vd_gap : 0 ≤ vd_gap.toInt ∧ vd_gap.toInt ≤ 20) (h_fd_steps : ar_ok [0] [5] fd_steps) (h_fd_lengths : ar_ok [0] [12] fd_lengths) (h_fd_starts : ar_ok [0] [11] fd_starts) (h_fd_stumbles : ar_ok [(-2147483648), 0, 0, (-2147483648)] [2147483647, 199, 5, 2147483647] fd_stumbles) (h_vd_stumbleCount : 0 ≤ vd_stumbleCount.toInt ∧ vd_stumbleCount.toInt ≤ 8) (h_vd_cellCount : 0 ≤ vd_cellCount.toInt ∧ vd_cellCount.toInt ≤ 12) (h_vd_tuneCount : 0 ≤ vd_tuneCount.toInt ∧ vd_tuneCount.toInt ≤ 5) (h_vd_changeCount : 0 ≤ vd_changeCount.toInt ∧ vd_changeCount.toInt ≤ 40) (h_ff_steps : ar_ok [(-1)] [5] ff_steps) (h_ff_stumbleIn : ar_q ff_stumbleIn) (h_vf_gap : 0 ≤ vf_gap.toInt ∧ vf_gap.toInt ≤ 20) (sz : Nat) : Met l yX11_place wsX11_place ({ frames := 5, cells := 0, slots := 0, locals := 115 }) (va_Pc [.ref qh, .int a1, .int a2] (ct_P D (ct_T cI cJ cB cZ cO) G (w_c_X11_place cI cJ cB cZ cO qh qh_kept vh_laid qi qr qt qd vd_gap vd_odds vd_rain vd_lines qd_steps fd_steps qd_lengths fd_lengths qd_starts fd_starts qd_met qd_stumbles fd_stumbles vd_stumbleCount qd_muds fd_muds qd_cells vd_cellCount qd_tunes vd_tuneCount qd_changes vd_changeCount qd2 qf qf_places ff_places qf_steps ff_steps qf_stumbleIn ff_stumbleIn vf_gap vf_calmLength vf_calmStart qf2 qo qe qw qu qg qn qs) sz)) (va_Qi (fun (rz : Int32) (u : Int32 × Int32 × (Nat → Int32) × (Nat → Int32) × (Nat → Int32)) => (0 ≤ u.2.1.toInt ∧ u.2.1.toInt ≤ 20) ∧ (ar_ok [(-1)] [5] u.2.2.2.1) ∧ (ar_q u.2.2.2.2)) (fun (u : Int32 × Int32 × (Nat → Int32) × (Nat → Int32) × (Nat → Int32)) t => ct_Q D (va_A (w_c_X11_place cI cJ cB cZ cO qh qh_kept vh_laid qi qr qt qd vd_gap vd_odds vd_rain vd_lines qd_steps fd_steps qd_lengths fd_lengths qd_starts fd_starts qd_met qd_stumbles fd_stumbles vd_stumbleCount qd_muds fd_muds qd_cells vd_cellCount qd_tunes vd_tuneCount qd_changes vd_changeCount qd2 qf qf_places ff_places qf_steps ff_steps qf_stumbleIn ff_stumbleIn vf_gap vf_calmLength vf_calmStart qf2 qo qe qw qu qg qn qs) sz) [oo qh qr qt qd qd2 qi qh_kept qf qf2 u.1 qo qe qw qu qg qn qs, dn qd vd_gap vd_odds vd_rain vd_lines qd_steps qd_lengths qd_starts qd_met qd_stumbles vd_stumbleCount qd_muds qd_cells vd_cellCount qd_tunes vd_tuneCount qd_changes vd_changeCount, (qd_steps, .inl (cI, 24, .inl (fd_steps))), (qd_lengths, .inl (cI, 2, .inl (fd_lengths))), (qd_starts, .inl (cI, 2, .inl (fd_starts))), (qd_stumbles, .inl (cI, 32, .inl (fd_stumbles))), (qd_muds, .inl (cI, 200, .inl (fd_muds))), fo qf qf_places qf_steps qf_stumbleIn u.2.1 vf_calmLength vf_calmStart, (qf_places, .inl (cI, 400, .inl (u.2.2.1))), (qf_steps, .inl (cI, 400, .inl (u.2.2.2.1))), (qf_stumbleIn, .inl (cI, 200, .inl (u.2.2.2.2)))] t) (va_A (w_c_X11_place cI cJ cB cZ cO qh qh_kept vh_laid qi qr qt qd vd_gap vd_odds vd_rain vd_lines qd_steps fd_steps qd_lengths fd_lengths qd_starts fd_starts qd_met qd_stumbles fd_stumbles vd_stumbleCount qd_muds fd_muds qd_cells vd_cellCount qd_tunes vd_tuneCount qd_changes vd_changeCount qd2 qf qf_places ff_places qf_steps ff_steps qf_stumbleIn ff_stumbleIn vf_gap vf_calmLength vf_calmStart qf2 qo qe qw qu qg qn qs) sz)) 0 0 (va_A (w_c_X11_place cI cJ cB cZ cO qh qh_kept vh_laid qi qr qt qd vd_gap vd_odds vd_rain vd_lines qd_steps fd_steps qd_lengths fd_lengths qd_starts fd_starts qd_met qd_stumbles fd_stumbles vd_stumbleCount qd_muds fd_muds qd_cells vd_cellCount qd_tunes vd_tuneCount qd_changes vd_changeCount qd2 qf qf_places ff_places qf_steps ff_steps qf_stumbleIn ff_stumbleIn vf_gap vf_calmLength vf_calmStart qf2 qo qe qw qu qg qn qs) sz) := by
  refine Met.ofW (cc := cX11_place) (maxL := 3) (ret := (some .int)) (by decide) rfl ?_
  intro p e s m args below meth c s₁ B hml hv
  obtain ⟨rfl, hsz, hP, hE, hD0, hH⟩ := hv
  have hx := B.exec
  have hb := B.bytes
  have hr := B.returns
  have hts := atoms_spec (ws := wsX11_place) B.pre
  have hown : s.vm.findClass RX11 = some m.cls := findClass_of_methodNamed B.named
  have hlocks := B.notSynchronized
  have hK := hE.1
  subst hsz
  have hD := hD0.self (sz := s.heap.size)
  generalize hAe : va_A (w_c_X11_place cI cJ cB cZ cO qh qh_kept vh_laid qi qr qt qd vd_gap vd_odds vd_rain vd_lines qd_steps fd_steps qd_lengths fd_lengths qd_starts fd_starts qd_met qd_stumbles fd_stumbles vd_stumbleCount qd_muds fd_muds qd_cells vd_cellCount qd_tunes vd_tuneCount qd_changes vd_changeCount qd2 qf qf_places ff_places qf_steps ff_steps qf_stumbleIn ff_stumbleIn vf_gap vf_calmLength vf_calmStart qf2 qo qe qw qu qg qn qs) s.heap.size = A at hD hH ⊢
  have hA : ∀ q : Nat, s.heap.size ≤ q → A q := fun q h => by rw [← hAe]; exact Or.inr h
  have hS : va_S A s.heap s.heap [] := va_S.rf
  obtain ⟨hP, hD⟩ : ct_B D A s.heap [oo qh qr qt qd qd2 qi qh_kept qf qf2 vh_laid qo qe qw qu qg qn qs, dn qd vd_gap vd_odds vd_rain vd_lines qd_steps qd_lengths qd_starts qd_met qd_stumbles vd_stumbleCount qd_muds qd_cells vd_cellCount qd_tunes vd_tuneCount qd_changes vd_changeCount, (qd_steps, .inl (cI, 24, .inl (fd_steps))), (qd_lengths, .inl (cI, 2, .inl (fd_lengths))), (qd_starts, .inl (cI, 2, .inl (fd_starts))), (qd_stumbles, .inl (cI, 32, .inl (fd_stumbles))), (qd_muds, .inl (cI, 200, .inl (fd_muds))), fo qf qf_places qf_steps qf_stumbleIn vf_gap vf_calmLength vf_calmStart, (qf_places, .inl (cI, 400, .inl (ff_places))), (qf_steps, .inl (cI, 400, .inl (ff_steps))), (qf_stumbleIn, .inl (cI, 200, .inl (ff_stumbleIn)))] := ⟨hP, hD⟩
  have hl := lv_entry ([.ref qh, .int a1, .int a2]) (n := 3) (Nat.le_of_ble_eq_true rfl)
  rw [lg_entry_eq]
  generalize (lg_sl ([.ref qh, .int a1, .int a2]) ++ List.replicate (3 - (lg_sl ([.ref qh, .int a1, .int a2])).length) Slot.unset).toArray = ls at hl ⊢
  have hl : lv_has ls 3 [(0, .ref qh), (1, .int a1), (2, .int a2)] := hl
  obtain ⟨H, hHe⟩ : ∃ H : Heap, H = s.heap := ⟨_, rfl⟩
  rw [← hHe] at hP
  have hS : va_S A s.heap H [] := by rw [hHe]; exact va_S.rf
  refine ct_start hHe ?_
  refine lv_aload_n hx hb dX11_place_0 rfl (lv_at hl 0 rfl) ?_
  refine lv_iload_n hx hb dX11_place_1 rfl (lv_at hl 1 rfl) ?_
  refine lv_iload_n hx hb dX11_place_2 rfl (lv_at hl 2 rfl) ?_
  refine ct_calli (D := D) (wr := [(qd_steps, .inl (cI, 24, .inl (fd_steps))), (qd_lengths, .inl (cI, 2, .inl (fd_lengths))), (qd_starts, .inl (cI, 2, .inl (fd_starts))), (qd_stumbles, .inl (cI, 32, .inl (fd_stumbles))), (qd_muds, .inl (cI, 200, .inl (fd_muds))), fo qf qf_places qf_steps qf_stumbleIn vf_gap vf_calmLength vf_calmStart, (qf_places, .inl (cI, 400, .inl (ff_places))), (qf_steps, .inl (cI, 400, .inl (ff_steps))), (qf_stumbleIn, .inl (cI, 200, .inl (ff_stumbleIn)))]) (va_runV (As := [.int a1, .int a2]) (rest := []) ⟨hx, hb, hml, hown, hts⟩ (c_X11_has l D G cI cJ cB cZ cO qh qh_kept vh_laid qi qr qt qd vd_gap vd_odds vd_rain vd_lines qd_steps qd_lengths qd_starts qd_met qd_stumbles vd_stumbleCount qd_muds qd_cells vd_cellCount qd_tunes vd_tuneCount qd_changes vd_changeCount qd2 qf qf2 qo qe qw qu qg qn qs a1 a2 h_vd_gap h_vd_stumbleCount h_vd_cellCount h_vd_tuneCount h_vd_changeCount H.size) (cwV 2 hts gX11_place_X11_has rfl rfl rfl (by decide +kernel) ⟨Nat.le_of_ble_eq_true rfl, Nat.le_of_ble_eq_true rfl⟩) (ct_preV (T := ct_T cI cJ cB cZ cO) (ci := 11) (q0 := 0) hE hH hP hD hS hA [0, 1] (by decide) rfl rfl rfl) rfl rfl hl.1 rfl (lv_room (Nat.le_of_ble_eq_true rfl)) dX11_place_3 ⟨Nat.le_of_ble_eq_true rfl, Nat.le_of_ble_eq_true rfl⟩) hP hD hS hA [0, 1] [2, 3, 4, 5, 6, 7, 8, 9, 10] rfl rfl (by decide) (by decide) (fun r1 u H locs hw hP hD hS => ?_)
  obtain ⟨hP, hD⟩ : ct_B D A H [(qd_steps, .inl (cI, 24, .inl (fd_steps))), (qd_lengths, .inl (cI, 2, .inl (fd_lengths))), (qd_starts, .inl (cI, 2, .inl (fd_starts))), (qd_stumbles, .inl (cI, 32, .inl (fd_stumbles))), (qd_muds, .inl (cI, 200, .inl (fd_muds))), fo qf qf_places qf_steps qf_stumbleIn vf_gap vf_calmLength vf_calmStart, (qf_places, .inl (cI, 400, .inl (ff_places))), (qf_steps, .inl (cI, 400, .inl (ff_steps))), (qf_stumbleIn, .inl (cI, 200, .inl (ff_stumbleIn))), oo qh qr qt qd qd2 qi qh_kept qf qf2 vh_laid qo qe qw qu qg qn qs, dn qd vd_gap vd_odds vd_rain vd_lines qd_steps qd_lengths qd_starts qd_met qd_stumbles vd_stumbleCount qd_muds qd_cells vd_cellCount qd_tunes vd_tuneCount qd_changes vd_changeCount] := ⟨hP, hD⟩
  have hz := hw
  rcases hz with ⟨hz, hz2⟩ | ⟨hz, hz2⟩
  · subst hz
    have hz_2 : (0 ≤ a1.toInt ∧ a1.toInt < 2 ∧ 0 ≤ a2.toInt ∧ a2.toInt < 200) := hz2
    refine lv_if_eq (tgt := 21) hx hb dX11_place_6 (by decide) (fun hc => absurd hc (by decide)) (fun _ => ?_)
    refine lv_aload_n hx hb dX11_place_9 rfl (lv_at hl 0 rfl) ?_
    refine ct_callr (D := D) (wr := []) (va_runV (As := []) (rest := []) ⟨hx, hb, hml, hown, hts⟩ (c_X11_plainFloor l D G cI cJ cB cZ cO qh qh_kept vh_laid qi qr qt qd vd_gap vd_odds vd_rain vd_lines qd_steps fd_steps qd_lengths fd_lengths qd_starts fd_starts qd_met qd_stumbles fd_stumbles vd_stumbleCount qd_muds fd_muds qd_cells vd_cellCount qd_tunes vd_tuneCount qd_changes vd_changeCount qd2 qf qf_places ff_places qf_steps ff_steps qf_stumbleIn ff_stumbleIn vf_gap vf_calmLength vf_calmStart qf2 qo qe qw qu qg qn qs h_vd_gap h_fd_steps h_fd_lengths h_fd_starts h_fd_stumbles h_vd_stumbleCount h_vd_cellCount h_vd_tuneCount h_vd_changeCount h_ff_steps h_ff_stumbleIn h_vf_gap H.size) (cwV 0 hts gX11_place_X11_plainFloor rfl rfl rfl (by decide +kernel) ⟨Nat.le_of_ble_eq_true rfl, Nat.le_of_ble_eq_true rfl⟩) (ct_preV (T := ct_T cI cJ cB cZ cO) (ci := 11) (q0 := 9) hE hH hP hD hS hA [9, 10, 0, 1, 2, 3, 4, 5, 6, 7, 8] (by decide) rfl rfl rfl) rfl rfl hl.1 rfl (lv_room (Nat.le_of_ble_eq_true rfl)) dX11_place_10 ⟨Nat.le_of_ble_eq_true rfl, Nat.le_of_ble_eq_true rfl⟩) hP hD hS hA [9, 10, 0, 1, 2, 3, 4, 5, 6, 7, 8] [] rfl rfl (by decide) (by decide) (fun u H locs hw hP hD hS => ?_)
    obtain ⟨y3, y4, g5, g6, g7⟩ := u
    obtain ⟨hP, hD⟩ : ct_B D A H [oo qh qr qt qd qd2 qi qh_kept qf qf2 y3 qo qe qw qu qg qn qs, dn qd vd_gap vd_odds vd_rain vd_lines qd_steps qd_lengths qd_starts qd_met qd_stumbles vd_stumbleCount qd_muds qd_cells vd_cellCount qd_tunes vd_tuneCount qd_changes vd_changeCount, (qd_steps, .inl (cI, 24, .inl (fd_steps))), (qd_lengths, .inl (cI, 2, .inl (fd_lengths))), (qd_starts, .inl (cI, 2, .inl (fd_starts))), (qd_stumbles, .inl (cI, 32, .inl (fd_stumbles))), (qd_muds, .inl (cI, 200, .inl (fd_muds))), fo qf qf_places qf_steps qf_stumbleIn y4 vf_calmLength vf_calmStart, (qf_places, .inl (cI, 400, .inl (g5))), (qf_steps, .inl (cI, 400, .inl (g6))), (qf_stumbleIn, .inl (cI, 200, .inl (g7)))] := ⟨hP, hD⟩
    obtain ⟨hp0, hp1, hp2⟩ := hw
    have h_y4 : 0 ≤ y4.toInt ∧ y4.toInt ≤ 20 := hp0
    have h_g6 : ar_ok [(-1)] [5] g6 := hp1
    have h_g7 : ar_q g7 := hp2
    refine lv_iload_n hx hb dX11_place_13 rfl (lv_at hl 1 rfl) ?_
    refine lv_iload_n hx hb dX11_place_14 rfl (lv_at hl 2 rfl) ?_
    refine ct_calli (D := D) (wr := [oo qh qr qt qd qd2 qi qh_kept qf qf2 y3 qo qe qw qu qg qn qs, dn qd vd_gap vd_odds vd_rain vd_lines qd_steps qd_lengths qd_starts qd_met qd_stumbles vd_stumbleCount qd_muds qd_cells vd_cellCount qd_tunes vd_tuneCount qd_changes vd_changeCount, (qd_steps, .inl (cI, 24, .inl (fd_steps))), (qd_lengths, .inl (cI, 2, .inl (fd_lengths))), (qd_starts, .inl (cI, 2, .inl (fd_starts))), (qd_stumbles, .inl (cI, 32, .inl (fd_stumbles))), (qd_muds, .inl (cI, 200, .inl (fd_muds))), (qf_steps, .inl (cI, 400, .inl (g6))), (qf_stumbleIn, .inl (cI, 200, .inl (g7)))]) (va_runV (As := [.int a1, .int a2]) (rest := []) ⟨hx, hb, hml, hown, hts⟩ (c_X1_placeOf l D G cI cJ cB cZ cO qf qf_places g5 qf_steps qf_stumbleIn y4 vf_calmLength vf_calmStart a1 a2 h_y4 (by omega) (by omega) H.size) (cwV 2 hts gX11_place_X1_placeOf rfl rfl rfl (by decide +kernel) ⟨Nat.le_of_ble_eq_true rfl, Nat.le_of_ble_eq_true rfl⟩) (ct_preV (T := ct_T cI cJ cB cZ cO) (ci := 1) (q0 := 7) hE hH hP hD hS hA [7, 8] (by decide) rfl rfl rfl) rfl rfl hl.1 rfl (lv_room (Nat.le_of_ble_eq_true rfl)) dX11_place_15 ⟨Nat.le_of_ble_eq_true rfl, Nat.le_of_ble_eq_true rfl⟩) hP hD hS hA [7, 8] [0, 1, 2, 3, 4, 5, 6, 9, 10] rfl rfl (by decide) (by decide) (fun r8 u H locs hw hP hD hS => ?_)
    obtain ⟨hP, hD⟩ : ct_B D A H [oo qh qr qt qd qd2 qi qh_kept qf qf2 y3 qo qe qw qu qg qn qs, dn qd vd_gap vd_odds vd_rain vd_lines qd_steps qd_lengths qd_starts qd_met qd_stumbles vd_stumbleCount qd_muds qd_cells vd_cellCount qd_tunes vd_tuneCount qd_changes vd_changeCount, (qd_steps, .inl (cI, 24, .inl (fd_steps))), (qd_lengths, .inl (cI, 2, .inl (fd_lengths))), (qd_starts, .inl (cI, 2, .inl (fd_starts))), (qd_stumbles, .inl (cI, 32, .inl (fd_stumbles))), (qd_muds, .inl (cI, 200, .inl (fd_muds))), (qf_steps, .inl (cI, 400, .inl (g6))), (qf_stumbleIn, .inl (cI, 200, .inl (g7))), fo qf qf_places qf_steps qf_stumbleIn y4 vf_calmLength vf_calmStart, (qf_places, .inl (cI, 400, .inl (g5)))] := ⟨hP, hD⟩
    refine lv_goto (tgt := 23) hx hb dX11_place_18 (by decide) ?_
    obtain ⟨hP9, hD9⟩ : ct_B D A H [oo qh qr qt qd qd2 qi qh_kept qf qf2 y3 qo qe qw qu qg qn qs, dn qd vd_gap vd_odds vd_rain vd_lines qd_steps qd_lengths qd_starts qd_met qd_stumbles vd_stumbleCount qd_muds qd_cells vd_cellCount qd_tunes vd_tuneCount qd_changes vd_changeCount, (qd_steps, .inl (cI, 24, .inl (fd_steps))), (qd_lengths, .inl (cI, 2, .inl (fd_lengths))), (qd_starts, .inl (cI, 2, .inl (fd_starts))), (qd_stumbles, .inl (cI, 32, .inl (fd_stumbles))), (qd_muds, .inl (cI, 200, .inl (fd_muds))), fo qf qf_places qf_steps qf_stumbleIn y4 vf_calmLength vf_calmStart, (qf_places, .inl (cI, 400, .inl (g5))), (qf_steps, .inl (cI, 400, .inl (g6))), (qf_stumbleIn, .inl (cI, 200, .inl (g7)))] := ⟨hP.sub [0, 1, 2, 3, 4, 5, 6, 9, 10, 7, 8] rfl, hD.sub [0, 1, 2, 3, 4, 5, 6, 9, 10, 7, 8] (by decide) rfl⟩
    exact W.iret (v := r8) hx hb hr (fun t ht hW => ⟨⟨r8, (y3, y4, g5, g6, g7), rfl, ⟨h_y4, h_g6, h_g7⟩, by rw [ht]; exact hP9, hD9⟩, hS.F ht⟩) hS.2.2 dX11_place_23
  · subst hz
    refine lv_if_eq (tgt := 21) hx hb dX11_place_6 (by decide) (fun _ => ?_) (fun hc => absurd hc (by decide))
    refine lv_bipush (v := (-2)) hx hb dX11_place_21 (by decide) ?_
    obtain ⟨hP9, hD9⟩ : ct_B D A H [oo qh qr qt qd qd2 qi qh_kept qf qf2 vh_laid qo qe qw qu qg qn qs, dn qd vd_gap vd_odds vd_rain vd_lines qd_steps qd_lengths qd_starts qd_met qd_stumbles vd_stumbleCount qd_muds qd_cells vd_cellCount qd_tunes vd_tuneCount qd_changes vd_changeCount, (qd_steps, .inl (cI, 24, .inl (fd_steps))), (qd_lengths, .inl (cI, 2, .inl (fd_lengths))), (qd_starts, .inl (cI, 2, .inl (fd_starts))), (qd_stumbles, .inl (cI, 32, .inl (fd_stumbles))), (qd_muds, .inl (cI, 200, .inl (fd_muds))), fo qf qf_places qf_steps qf_stumbleIn vf_gap vf_calmLength vf_calmStart, (qf_places, .inl (cI, 400, .inl (ff_places))), (qf_steps, .inl (cI, 400, .inl (ff_steps))), (qf_stumbleIn, .inl (cI, 200, .inl (ff_stumbleIn)))] := ⟨hP.sub [9, 10, 0, 1, 2, 3, 4, 5, 6, 7, 8] rfl, hD.sub [9, 10, 0, 1, 2, 3, 4, 5, 6, 7, 8] (by decide) rfl⟩
    exact W.iret (v := (-2)) hx hb hr (fun t ht hW => ⟨⟨(-2), (vh_laid, vf_gap, ff_places, ff_steps, ff_stumbleIn), rfl, ⟨h_vf_gap, h_ff_steps, h_ff_stumbleIn⟩, by rw [ht]; exact hP9, hD9⟩, hS.F ht⟩) hS.2.2 dX11_place_23
abbrev w_c_X11_danced (cI cJ cB cZ cO : ClassId) (qh : Nat) (qh_kept : Nat) (vh_laid : Int32) (qi : Nat) (qr : Nat) (qt : Nat) (qd : Nat) (vd_gap : Int32) (vd_odds : Int32) (vd_rain : Int32) (vd_lines : Int32) (qd_steps : Nat) (fd_steps : Nat → Int32) (qd_lengths : Nat) (fd_lengths : Nat → Int32) (qd_starts : Nat) (fd_starts : Nat → Int32) (qd_met : Nat) (qd_stumbles : Nat) (fd_stumbles : Nat → Int32) (vd_stumbleCount : Int32) (qd_muds : Nat) (fd_muds : Nat → Int32) (qd_cells : Nat) (vd_cellCount : Int32) (qd_tunes : Nat) (vd_tuneCount : Int32) (qd_changes : Nat) (vd_changeCount : Int32) (qd2 : Nat) (qf : Nat) (qf_places : Nat) (ff_places : Nat → Int32) (qf_steps : Nat) (ff_steps : Nat → Int32) (qf_stumbleIn : Nat) (ff_stumbleIn : Nat → Int32) (vf_gap : Int32) (vf_calmLength : Int32) (vf_calmStart : Int32) (qf2 : Nat) (qo : Nat) (qe : Nat) (qw : Nat) (qu : Nat) (qg : Nat) (qn : Nat) (qs : Nat) : va_W := [oo qh qr qt qd qd2 qi qh_kept qf qf2 vh_laid qo qe qw qu qg qn qs, dn qd vd_gap vd_odds vd_rain vd_lines qd_steps qd_lengths qd_starts qd_met qd_stumbles vd_stumbleCount qd_muds qd_cells vd_cellCount qd_tunes vd_tuneCount qd_changes vd_changeCount, (qd_steps, .inl (cI, 24, .inl (fd_steps))), (qd_lengths, .inl (cI, 2, .inl (fd_lengths))), (qd_starts, .inl (cI, 2, .inl (fd_starts))), (qd_stumbles, .inl (cI, 32, .inl (fd_stumbles))), (qd_muds, .inl (cI, 200, .inl (fd_muds))), fo qf qf_places qf_steps qf_stumbleIn vf_gap vf_calmLength vf_calmStart, (qf_places, .inl (cI, 400, .inl (ff_places))), (qf_steps, .inl (cI, 400, .inl (ff_steps))), (qf_stumbleIn, .inl (cI, 200, .inl (ff_stumbleIn)))]
set_option maxHeartbeats 4000000 in
set_option maxRecDepth 100000 in
/-- X11 danced -/
theorem c_X11_danced (l : Launch) (D : va_G) (G : ct_G) (cI cJ cB cZ cO : ClassId) (qh : Nat) (qh_kept : Nat) (vh_laid : Int32) (qi : Nat) (qr : Nat) (qt : Nat) (qd : Nat) (vd_gap : Int32) (vd_odds : Int32) (vd_rain : Int32) (vd_lines : Int32) (qd_steps : Nat) (fd_steps : Nat → Int32) (qd_lengths : Nat) (fd_lengths : Nat → Int32) (qd_starts : Nat) (fd_starts : Nat → Int32) (qd_met : Nat) (qd_stumbles : Nat) (fd_stumbles : Nat → Int32) (vd_stumbleCount : Int32) (qd_muds : Nat) (fd_muds : Nat → Int32) (qd_cells : Nat) (vd_cellCount : Int32) (qd_tunes : Nat) (vd_tuneCount : Int32) (qd_changes : Nat) (vd_changeCount : Int32) (qd2 : Nat) (qf : Nat) (qf_places : Nat) (ff_places : Nat → Int32) (qf_steps : Nat) (ff_steps : Nat → Int32) (qf_stumbleIn : Nat) (ff_stumbleIn : Nat → Int32) (vf_gap : Int32) (vf_calmLength : Int32) (vf_calmStart : Int32) (qf2 : Nat) (qo : Nat) (qe : Nat) (qw : Nat) (qu : Nat) (qg : Nat) (qn : Nat) (qs : Nat) (a1 : Int32) (a2 : Int32) (h_vd_gap : 0 ≤ vd_gap.toInt ∧ vd_gap.toInt ≤ 20) (h_fd_steps : ar_ok [0] [5] fd_steps) (h_fd_lengths : ar_ok [0] [12] fd_lengths) (h_fd_starts : ar_ok [0] [11] fd_starts) (h_fd_stumbles : ar_ok [(-2147483648), 0, 0, (-2147483648)] [2147483647, 199, 5, 2147483647] fd_stumbles) (h_vd_stumbleCount : 0 ≤ vd_stumbleCount.toInt ∧ vd_stumbleCount.toInt ≤ 8) (h_vd_cellCount : 0 ≤ vd_cellCount.toInt ∧ vd_cellCount.toInt ≤ 12) (h_vd_tuneCount : 0 ≤ vd_tuneCount.toInt ∧ vd_tuneCount.toInt ≤ 5) (h_vd_changeCount : 0 ≤ vd_changeCount.toInt ∧ vd_changeCount.toInt ≤ 40) (h_ff_steps : ar_ok [(-1)] [5] ff_steps) (h_ff_stumbleIn : ar_q ff_stumbleIn) (h_vf_gap : 0 ≤ vf_gap.toInt ∧ vf_gap.toInt ≤ 20) (sz : Nat) : Met l yX11_danced wsX11_danced ({ frames := 5, cells := 0, slots := 0, locals := 115 }) (va_Pc [.ref qh, .int a1, .int a2] (ct_P D (ct_T cI cJ cB cZ cO) G (w_c_X11_danced cI cJ cB cZ cO qh qh_kept vh_laid qi qr qt qd vd_gap vd_odds vd_rain vd_lines qd_steps fd_steps qd_lengths fd_lengths qd_starts fd_starts qd_met qd_stumbles fd_stumbles vd_stumbleCount qd_muds fd_muds qd_cells vd_cellCount qd_tunes vd_tuneCount qd_changes vd_changeCount qd2 qf qf_places ff_places qf_steps ff_steps qf_stumbleIn ff_stumbleIn vf_gap vf_calmLength vf_calmStart qf2 qo qe qw qu qg qn qs) sz)) (va_Qi (fun (rz : Int32) (u : Int32 × Int32 × (Nat → Int32) × (Nat → Int32) × (Nat → Int32)) => ((-2) ≤ rz.toInt ∧ rz.toInt ≤ 5) ∧ (0 ≤ u.2.1.toInt ∧ u.2.1.toInt ≤ 20) ∧ (ar_ok [(-1)] [5] u.2.2.2.1) ∧ (ar_q u.2.2.2.2)) (fun (u : Int32 × Int32 × (Nat → Int32) × (Nat → Int32) × (Nat → Int32)) t => ct_Q D (va_A (w_c_X11_danced cI cJ cB cZ cO qh qh_kept vh_laid qi qr qt qd vd_gap vd_odds vd_rain vd_lines qd_steps fd_steps qd_lengths fd_lengths qd_starts fd_starts qd_met qd_stumbles fd_stumbles vd_stumbleCount qd_muds fd_muds qd_cells vd_cellCount qd_tunes vd_tuneCount qd_changes vd_changeCount qd2 qf qf_places ff_places qf_steps ff_steps qf_stumbleIn ff_stumbleIn vf_gap vf_calmLength vf_calmStart qf2 qo qe qw qu qg qn qs) sz) [oo qh qr qt qd qd2 qi qh_kept qf qf2 u.1 qo qe qw qu qg qn qs, dn qd vd_gap vd_odds vd_rain vd_lines qd_steps qd_lengths qd_starts qd_met qd_stumbles vd_stumbleCount qd_muds qd_cells vd_cellCount qd_tunes vd_tuneCount qd_changes vd_changeCount, (qd_steps, .inl (cI, 24, .inl (fd_steps))), (qd_lengths, .inl (cI, 2, .inl (fd_lengths))), (qd_starts, .inl (cI, 2, .inl (fd_starts))), (qd_stumbles, .inl (cI, 32, .inl (fd_stumbles))), (qd_muds, .inl (cI, 200, .inl (fd_muds))), fo qf qf_places qf_steps qf_stumbleIn u.2.1 vf_calmLength vf_calmStart, (qf_places, .inl (cI, 400, .inl (u.2.2.1))), (qf_steps, .inl (cI, 400, .inl (u.2.2.2.1))), (qf_stumbleIn, .inl (cI, 200, .inl (u.2.2.2.2)))] t) (va_A (w_c_X11_danced cI cJ cB cZ cO qh qh_kept vh_laid qi qr qt qd vd_gap vd_odds vd_rain vd_lines qd_steps fd_steps qd_lengths fd_lengths qd_starts fd_starts qd_met qd_stumbles fd_stumbles vd_stumbleCount qd_muds fd_muds qd_cells vd_cellCount qd_tunes vd_tuneCount qd_changes vd_changeCount qd2 qf qf_places ff_places qf_steps ff_steps qf_stumbleIn ff_stumbleIn vf_gap vf_calmLength vf_calmStart qf2 qo qe qw qu qg qn qs) sz)) 0 0 (va_A (w_c_X11_danced cI cJ cB cZ cO qh qh_kept vh_laid qi qr qt qd vd_gap vd_odds vd_rain vd_lines qd_steps fd_steps qd_lengths fd_lengths qd_starts fd_starts qd_met qd_stumbles fd_stumbles vd_stumbleCount qd_muds fd_muds qd_cells vd_cellCount qd_tunes vd_tuneCount qd_changes vd_changeCount qd2 qf qf_places ff_places qf_steps ff_steps qf_stumbleIn ff_stumbleIn vf_gap vf_calmLength vf_calmStart qf2 qo qe qw qu qg qn qs) sz) := by
  refine Met.ofW (cc := cX11_danced) (maxL := 3) (ret := (some .int)) (by decide) rfl ?_
  intro p e s m args below meth c s₁ B hml hv
  obtain ⟨rfl, hsz, hP, hE, hD0, hH⟩ := hv
  have hx := B.exec
  have hb := B.bytes
  have hr := B.returns
  have hts := atoms_spec (ws := wsX11_danced) B.pre
  have hown : s.vm.findClass RX11 = some m.cls := findClass_of_methodNamed B.named
  have hlocks := B.notSynchronized
  have hK := hE.1
  subst hsz
  have hD := hD0.self (sz := s.heap.size)
  generalize hAe : va_A (w_c_X11_danced cI cJ cB cZ cO qh qh_kept vh_laid qi qr qt qd vd_gap vd_odds vd_rain vd_lines qd_steps fd_steps qd_lengths fd_lengths qd_starts fd_starts qd_met qd_stumbles fd_stumbles vd_stumbleCount qd_muds fd_muds qd_cells vd_cellCount qd_tunes vd_tuneCount qd_changes vd_changeCount qd2 qf qf_places ff_places qf_steps ff_steps qf_stumbleIn ff_stumbleIn vf_gap vf_calmLength vf_calmStart qf2 qo qe qw qu qg qn qs) s.heap.size = A at hD hH ⊢
  have hA : ∀ q : Nat, s.heap.size ≤ q → A q := fun q h => by rw [← hAe]; exact Or.inr h
  have hS : va_S A s.heap s.heap [] := va_S.rf
  obtain ⟨hP, hD⟩ : ct_B D A s.heap [oo qh qr qt qd qd2 qi qh_kept qf qf2 vh_laid qo qe qw qu qg qn qs, dn qd vd_gap vd_odds vd_rain vd_lines qd_steps qd_lengths qd_starts qd_met qd_stumbles vd_stumbleCount qd_muds qd_cells vd_cellCount qd_tunes vd_tuneCount qd_changes vd_changeCount, (qd_steps, .inl (cI, 24, .inl (fd_steps))), (qd_lengths, .inl (cI, 2, .inl (fd_lengths))), (qd_starts, .inl (cI, 2, .inl (fd_starts))), (qd_stumbles, .inl (cI, 32, .inl (fd_stumbles))), (qd_muds, .inl (cI, 200, .inl (fd_muds))), fo qf qf_places qf_steps qf_stumbleIn vf_gap vf_calmLength vf_calmStart, (qf_places, .inl (cI, 400, .inl (ff_places))), (qf_steps, .inl (cI, 400, .inl (ff_steps))), (qf_stumbleIn, .inl (cI, 200, .inl (ff_stumbleIn)))] := ⟨hP, hD⟩
  have hl := lv_entry ([.ref qh, .int a1, .int a2]) (n := 3) (Nat.le_of_ble_eq_true rfl)
  rw [lg_entry_eq]
  generalize (lg_sl ([.ref qh, .int a1, .int a2]) ++ List.replicate (3 - (lg_sl ([.ref qh, .int a1, .int a2])).length) Slot.unset).toArray = ls at hl ⊢
  have hl : lv_has ls 3 [(0, .ref qh), (1, .int a1), (2, .int a2)] := hl
  obtain ⟨H, hHe⟩ : ∃ H : Heap, H = s.heap := ⟨_, rfl⟩
  rw [← hHe] at hP
  have hS : va_S A s.heap H [] := by rw [hHe]; exact va_S.rf
  refine ct_start hHe ?_
  refine lv_aload_n hx hb dX11_danced_0 rfl (lv_at hl 0 rfl) ?_
  refine lv_iload_n hx hb dX11_danced_1 rfl (lv_at hl 1 rfl) ?_
  refine lv_iload_n hx hb dX11_danced_2 rfl (lv_at hl 2 rfl) ?_
  refine ct_calli (D := D) (wr := [(qd_steps, .inl (cI, 24, .inl (fd_steps))), (qd_lengths, .inl (cI, 2, .inl (fd_lengths))), (qd_starts, .inl (cI, 2, .inl (fd_starts))), (qd_stumbles, .inl (cI, 32, .inl (fd_stumbles))), (qd_muds, .inl (cI, 200, .inl (fd_muds))), fo qf qf_places qf_steps qf_stumbleIn vf_gap vf_calmLength vf_calmStart, (qf_places, .inl (cI, 400, .inl (ff_places))), (qf_steps, .inl (cI, 400, .inl (ff_steps))), (qf_stumbleIn, .inl (cI, 200, .inl (ff_stumbleIn)))]) (va_runV (As := [.int a1, .int a2]) (rest := []) ⟨hx, hb, hml, hown, hts⟩ (c_X11_has l D G cI cJ cB cZ cO qh qh_kept vh_laid qi qr qt qd vd_gap vd_odds vd_rain vd_lines qd_steps qd_lengths qd_starts qd_met qd_stumbles vd_stumbleCount qd_muds qd_cells vd_cellCount qd_tunes vd_tuneCount qd_changes vd_changeCount qd2 qf qf2 qo qe qw qu qg qn qs a1 a2 h_vd_gap h_vd_stumbleCount h_vd_cellCount h_vd_tuneCount h_vd_changeCount H.size) (cwV 2 hts gX11_danced_X11_has rfl rfl rfl (by decide +kernel) ⟨Nat.le_of_ble_eq_true rfl, Nat.le_of_ble_eq_true rfl⟩) (ct_preV (T := ct_T cI cJ cB cZ cO) (ci := 11) (q0 := 0) hE hH hP hD hS hA [0, 1] (by decide) rfl rfl rfl) rfl rfl hl.1 rfl (lv_room (Nat.le_of_ble_eq_true rfl)) dX11_danced_3 ⟨Nat.le_of_ble_eq_true rfl, Nat.le_of_ble_eq_true rfl⟩) hP hD hS hA [0, 1] [2, 3, 4, 5, 6, 7, 8, 9, 10] rfl rfl (by decide) (by decide) (fun r1 u H locs hw hP hD hS => ?_)
  obtain ⟨hP, hD⟩ : ct_B D A H [(qd_steps, .inl (cI, 24, .inl (fd_steps))), (qd_lengths, .inl (cI, 2, .inl (fd_lengths))), (qd_starts, .inl (cI, 2, .inl (fd_starts))), (qd_stumbles, .inl (cI, 32, .inl (fd_stumbles))), (qd_muds, .inl (cI, 200, .inl (fd_muds))), fo qf qf_places qf_steps qf_stumbleIn vf_gap vf_calmLength vf_calmStart, (qf_places, .inl (cI, 400, .inl (ff_places))), (qf_steps, .inl (cI, 400, .inl (ff_steps))), (qf_stumbleIn, .inl (cI, 200, .inl (ff_stumbleIn))), oo qh qr qt qd qd2 qi qh_kept qf qf2 vh_laid qo qe qw qu qg qn qs, dn qd vd_gap vd_odds vd_rain vd_lines qd_steps qd_lengths qd_starts qd_met qd_stumbles vd_stumbleCount qd_muds qd_cells vd_cellCount qd_tunes vd_tuneCount qd_changes vd_changeCount] := ⟨hP, hD⟩
  have hz := hw
  rcases hz with ⟨hz, hz2⟩ | ⟨hz, hz2⟩
  · subst hz
    have hz_2 : (0 ≤ a1.toInt ∧ a1.toInt < 2 ∧ 0 ≤ a2.toInt ∧ a2.toInt < 200) := hz2
    refine lv_if_eq (tgt := 21) hx hb dX11_danced_6 (by decide) (fun hc => absurd hc (by decide)) (fun _ => ?_)
    refine lv_aload_n hx hb dX11_danced_9 rfl (lv_at hl 0 rfl) ?_
    refine ct_callr (D := D) (wr := []) (va_runV (As := []) (rest := []) ⟨hx, hb, hml, hown, hts⟩ (c_X11_plainFloor l D G cI cJ cB cZ cO qh qh_kept vh_laid qi qr qt qd vd_gap vd_odds vd_rain vd_lines qd_steps fd_steps qd_lengths fd_lengths qd_starts fd_starts qd_met qd_stumbles fd_stumbles vd_stumbleCount qd_muds fd_muds qd_cells vd_cellCount qd_tunes vd_tuneCount qd_changes vd_changeCount qd2 qf qf_places ff_places qf_steps ff_steps qf_stumbleIn ff_stumbleIn vf_gap vf_calmLength vf_calmStart qf2 qo qe qw qu qg qn qs h_vd_gap h_fd_steps h_fd_lengths h_fd_starts h_fd_stumbles h_vd_stumbleCount h_vd_cellCount h_vd_tuneCount h_vd_changeCount h_ff_steps h_ff_stumbleIn h_vf_gap H.size) (cwV 0 hts gX11_danced_X11_plainFloor rfl rfl rfl (by decide +kernel) ⟨Nat.le_of_ble_eq_true rfl, Nat.le_of_ble_eq_true rfl⟩) (ct_preV (T := ct_T cI cJ cB cZ cO) (ci := 11) (q0 := 9) hE hH hP hD hS hA [9, 10, 0, 1, 2, 3, 4, 5, 6, 7, 8] (by decide) rfl rfl rfl) rfl rfl hl.1 rfl (lv_room (Nat.le_of_ble_eq_true rfl)) dX11_danced_10 ⟨Nat.le_of_ble_eq_true rfl, Nat.le_of_ble_eq_true rfl⟩) hP hD hS hA [9, 10, 0, 1, 2, 3, 4, 5, 6, 7, 8] [] rfl rfl (by decide) (by decide) (fun u H locs hw hP hD hS => ?_)
    obtain ⟨y3, y4, g5, g6, g7⟩ := u
    obtain ⟨hP, hD⟩ : ct_B D A H [oo qh qr qt qd qd2 qi qh_kept qf qf2 y3 qo qe qw qu qg qn qs, dn qd vd_gap vd_odds vd_rain vd_lines qd_steps qd_lengths qd_starts qd_met qd_stumbles vd_stumbleCount qd_muds qd_cells vd_cellCount qd_tunes vd_tuneCount qd_changes vd_changeCount, (qd_steps, .inl (cI, 24, .inl (fd_steps))), (qd_lengths, .inl (cI, 2, .inl (fd_lengths))), (qd_starts, .inl (cI, 2, .inl (fd_starts))), (qd_stumbles, .inl (cI, 32, .inl (fd_stumbles))), (qd_muds, .inl (cI, 200, .inl (fd_muds))), fo qf qf_places qf_steps qf_stumbleIn y4 vf_calmLength vf_calmStart, (qf_places, .inl (cI, 400, .inl (g5))), (qf_steps, .inl (cI, 400, .inl (g6))), (qf_stumbleIn, .inl (cI, 200, .inl (g7)))] := ⟨hP, hD⟩
    obtain ⟨hp0, hp1, hp2⟩ := hw
    have h_y4 : 0 ≤ y4.toInt ∧ y4.toInt ≤ 20 := hp0
    have h_g6 : ar_ok [(-1)] [5] g6 := hp1
    have h_g7 : ar_q g7 := hp2
    refine lv_iload_n hx hb dX11_danced_13 rfl (lv_at hl 1 rfl) ?_
    refine lv_iload_n hx hb dX11_danced_14 rfl (lv_at hl 2 rfl) ?_
    refine ct_calli (D := D) (wr := [oo qh qr qt qd qd2 qi qh_kept qf qf2 y3 qo qe qw qu qg qn qs, dn qd vd_gap vd_odds vd_rain vd_lines qd_steps qd_lengths qd_starts qd_met qd_stumbles vd_stumbleCount qd_muds qd_cells vd_cellCount qd_tunes vd_tuneCount qd_changes vd_changeCount, (qd_steps, .inl (cI, 24, .inl (fd_steps))), (qd_lengths, .inl (cI, 2, .inl (fd_lengths))), (qd_starts, .inl (cI, 2, .inl (fd_starts))), (qd_stumbles, .inl (cI, 32, .inl (fd_stumbles))), (qd_muds, .inl (cI, 200, .inl (fd_muds))), (qf_places, .inl (cI, 400, .inl (g5))), (qf_stumbleIn, .inl (cI, 200, .inl (g7)))]) (va_runV (As := [.int a1, .int a2]) (rest := []) ⟨hx, hb, hml, hown, hts⟩ (c_X1_stepOf l D G cI cJ cB cZ cO qf qf_places qf_steps g6 qf_stumbleIn y4 vf_calmLength vf_calmStart a1 a2 h_g6 h_y4 (by omega) (by omega) H.size) (cwV 2 hts gX11_danced_X1_stepOf rfl rfl rfl (by decide +kernel) ⟨Nat.le_of_ble_eq_true rfl, Nat.le_of_ble_eq_true rfl⟩) (ct_preV (T := ct_T cI cJ cB cZ cO) (ci := 1) (q0 := 7) hE hH hP hD hS hA [7, 9] (by decide) rfl rfl rfl) rfl rfl hl.1 rfl (lv_room (Nat.le_of_ble_eq_true rfl)) dX11_danced_15 ⟨Nat.le_of_ble_eq_true rfl, Nat.le_of_ble_eq_true rfl⟩) hP hD hS hA [7, 9] [0, 1, 2, 3, 4, 5, 6, 8, 10] rfl rfl (by decide) (by decide) (fun r8 u H locs hw hP hD hS => ?_)
    obtain ⟨hP, hD⟩ : ct_B D A H [oo qh qr qt qd qd2 qi qh_kept qf qf2 y3 qo qe qw qu qg qn qs, dn qd vd_gap vd_odds vd_rain vd_lines qd_steps qd_lengths qd_starts qd_met qd_stumbles vd_stumbleCount qd_muds qd_cells vd_cellCount qd_tunes vd_tuneCount qd_changes vd_changeCount, (qd_steps, .inl (cI, 24, .inl (fd_steps))), (qd_lengths, .inl (cI, 2, .inl (fd_lengths))), (qd_starts, .inl (cI, 2, .inl (fd_starts))), (qd_stumbles, .inl (cI, 32, .inl (fd_stumbles))), (qd_muds, .inl (cI, 200, .inl (fd_muds))), (qf_places, .inl (cI, 400, .inl (g5))), (qf_stumbleIn, .inl (cI, 200, .inl (g7))), fo qf qf_places qf_steps qf_stumbleIn y4 vf_calmLength vf_calmStart, (qf_steps, .inl (cI, 400, .inl (g6)))] := ⟨hP, hD⟩
    have hz := hw
    have h_r8 : (-1) ≤ r8.toInt ∧ r8.toInt ≤ 5 := hz
    refine lv_goto (tgt := 23) hx hb dX11_danced_18 (by decide) ?_
    obtain ⟨hP9, hD9⟩ : ct_B D A H [oo qh qr qt qd qd2 qi qh_kept qf qf2 y3 qo qe qw qu qg qn qs, dn qd vd_gap vd_odds vd_rain vd_lines qd_steps qd_lengths qd_starts qd_met qd_stumbles vd_stumbleCount qd_muds qd_cells vd_cellCount qd_tunes vd_tuneCount qd_changes vd_changeCount, (qd_steps, .inl (cI, 24, .inl (fd_steps))), (qd_lengths, .inl (cI, 2, .inl (fd_lengths))), (qd_starts, .inl (cI, 2, .inl (fd_starts))), (qd_stumbles, .inl (cI, 32, .inl (fd_stumbles))), (qd_muds, .inl (cI, 200, .inl (fd_muds))), fo qf qf_places qf_steps qf_stumbleIn y4 vf_calmLength vf_calmStart, (qf_places, .inl (cI, 400, .inl (g5))), (qf_steps, .inl (cI, 400, .inl (g6))), (qf_stumbleIn, .inl (cI, 200, .inl (g7)))] := ⟨hP.sub [0, 1, 2, 3, 4, 5, 6, 9, 7, 10, 8] rfl, hD.sub [0, 1, 2, 3, 4, 5, 6, 9, 7, 10, 8] (by decide) rfl⟩
    exact W.iret (v := r8) hx hb hr (fun t ht hW => ⟨⟨r8, (y3, y4, g5, g6, g7), rfl, ⟨(show (-2) ≤ r8.toInt ∧ r8.toInt ≤ 5 by omega), h_y4, h_g6, h_g7⟩, by rw [ht]; exact hP9, hD9⟩, hS.F ht⟩) hS.2.2 dX11_danced_23
  · subst hz
    refine lv_if_eq (tgt := 21) hx hb dX11_danced_6 (by decide) (fun _ => ?_) (fun hc => absurd hc (by decide))
    refine lv_bipush (v := (-2)) hx hb dX11_danced_21 (by decide) ?_
    obtain ⟨hP9, hD9⟩ : ct_B D A H [oo qh qr qt qd qd2 qi qh_kept qf qf2 vh_laid qo qe qw qu qg qn qs, dn qd vd_gap vd_odds vd_rain vd_lines qd_steps qd_lengths qd_starts qd_met qd_stumbles vd_stumbleCount qd_muds qd_cells vd_cellCount qd_tunes vd_tuneCount qd_changes vd_changeCount, (qd_steps, .inl (cI, 24, .inl (fd_steps))), (qd_lengths, .inl (cI, 2, .inl (fd_lengths))), (qd_starts, .inl (cI, 2, .inl (fd_starts))), (qd_stumbles, .inl (cI, 32, .inl (fd_stumbles))), (qd_muds, .inl (cI, 200, .inl (fd_muds))), fo qf qf_places qf_steps qf_stumbleIn vf_gap vf_calmLength vf_calmStart, (qf_places, .inl (cI, 400, .inl (ff_places))), (qf_steps, .inl (cI, 400, .inl (ff_steps))), (qf_stumbleIn, .inl (cI, 200, .inl (ff_stumbleIn)))] := ⟨hP.sub [9, 10, 0, 1, 2, 3, 4, 5, 6, 7, 8] rfl, hD.sub [9, 10, 0, 1, 2, 3, 4, 5, 6, 7, 8] (by decide) rfl⟩
    exact W.iret (v := (-2)) hx hb hr (fun t ht hW => ⟨⟨(-2), (vh_laid, vf_gap, ff_places, ff_steps, ff_stumbleIn), rfl, ⟨(show (-2) ≤ (-2 : Int32).toInt ∧ (-2 : Int32).toInt ≤ 5 by decide), h_vf_gap, h_ff_steps, h_ff_stumbleIn⟩, by rw [ht]; exact hP9, hD9⟩, hS.F ht⟩) hS.2.2 dX11_danced_23
abbrev w_c_X11_hears (cI cJ cB cZ cO : ClassId) (qh : Nat) (qh_kept : Nat) (vh_laid : Int32) (qi : Nat) (qr : Nat) (qt : Nat) (qd : Nat) (vd_gap : Int32) (vd_odds : Int32) (vd_rain : Int32) (vd_lines : Int32) (qd_steps : Nat) (fd_steps : Nat → Int32) (qd_lengths : Nat) (fd_lengths : Nat → Int32) (qd_starts : Nat) (fd_starts : Nat → Int32) (qd_met : Nat) (qd_stumbles : Nat) (fd_stumbles : Nat → Int32) (vd_stumbleCount : Int32) (qd_muds : Nat) (fd_muds : Nat → Int32) (qd_cells : Nat) (vd_cellCount : Int32) (qd_tunes : Nat) (vd_tuneCount : Int32) (qd_changes : Nat) (vd_changeCount : Int32) (qd2 : Nat) (qf : Nat) (qf_places : Nat) (ff_places : Nat → Int32) (qf_steps : Nat) (ff_steps : Nat → Int32) (qf_stumbleIn : Nat) (ff_stumbleIn : Nat → Int32) (vf_gap : Int32) (vf_calmLength : Int32) (vf_calmStart : Int32) (qf2 : Nat) (qo : Nat) (qe : Nat) (qw : Nat) (qu : Nat) (qg : Nat) (qn : Nat) (qs : Nat) : va_W := [oo qh qr qt qd qd2 qi qh_kept qf qf2 vh_laid qo qe qw qu qg qn qs, dn qd vd_gap vd_odds vd_rain vd_lines qd_steps qd_lengths qd_starts qd_met qd_stumbles vd_stumbleCount qd_muds qd_cells vd_cellCount qd_tunes vd_tuneCount qd_changes vd_changeCount, (qd_steps, .inl (cI, 24, .inl (fd_steps))), (qd_lengths, .inl (cI, 2, .inl (fd_lengths))), (qd_starts, .inl (cI, 2, .inl (fd_starts))), (qd_stumbles, .inl (cI, 32, .inl (fd_stumbles))), (qd_muds, .inl (cI, 200, .inl (fd_muds))), fo qf qf_places qf_steps qf_stumbleIn vf_gap vf_calmLength vf_calmStart, (qf_places, .inl (cI, 400, .inl (ff_places))), (qf_steps, .inl (cI, 400, .inl (ff_steps))), (qf_stumbleIn, .inl (cI, 200, .inl (ff_stumbleIn)))]
set_option maxHeartbeats 4000000 in
set_option maxRecDepth 100000 in
/-- X11 hears -/
theorem c_X11_hears (l : Launch) (D : va_G) (G : ct_G) (cI cJ cB cZ cO : ClassId) (qh : Nat) (qh_kept : Nat) (vh_laid : Int32) (qi : Nat) (qr : Nat) (qt : Nat) (qd : Nat) (vd_gap : Int32) (vd_odds : Int32) (vd_rain : Int32) (vd_lines : Int32) (qd_steps : Nat) (fd_steps : Nat → Int32) (qd_lengths : Nat) (fd_lengths : Nat → Int32) (qd_starts : Nat) (fd_starts : Nat → Int32) (qd_met : Nat) (qd_stumbles : Nat) (fd_stumbles : Nat → Int32) (vd_stumbleCount : Int32) (qd_muds : Nat) (fd_muds : Nat → Int32) (qd_cells : Nat) (vd_cellCount : Int32) (qd_tunes : Nat) (vd_tuneCount : Int32) (qd_changes : Nat) (vd_changeCount : Int32) (qd2 : Nat) (qf : Nat) (qf_places : Nat) (ff_places : Nat → Int32) (qf_steps : Nat) (ff_steps : Nat → Int32) (qf_stumbleIn : Nat) (ff_stumbleIn : Nat → Int32) (vf_gap : Int32) (vf_calmLength : Int32) (vf_calmStart : Int32) (qf2 : Nat) (qo : Nat) (qe : Nat) (qw : Nat) (qu : Nat) (qg : Nat) (qn : Nat) (qs : Nat) (a1 : Int32) (a2 : Int32) (h_vd_gap : 0 ≤ vd_gap.toInt ∧ vd_gap.toInt ≤ 20) (h_fd_steps : ar_ok [0] [5] fd_steps) (h_fd_lengths : ar_ok [0] [12] fd_lengths) (h_fd_starts : ar_ok [0] [11] fd_starts) (h_fd_stumbles : ar_ok [(-2147483648), 0, 0, (-2147483648)] [2147483647, 199, 5, 2147483647] fd_stumbles) (h_vd_stumbleCount : 0 ≤ vd_stumbleCount.toInt ∧ vd_stumbleCount.toInt ≤ 8) (h_vd_cellCount : 0 ≤ vd_cellCount.toInt ∧ vd_cellCount.toInt ≤ 12) (h_vd_tuneCount : 0 ≤ vd_tuneCount.toInt ∧ vd_tuneCount.toInt ≤ 5) (h_vd_changeCount : 0 ≤ vd_changeCount.toInt ∧ vd_changeCount.toInt ≤ 40) (h_ff_steps : ar_ok [(-1)] [5] ff_steps) (h_ff_stumbleIn : ar_q ff_stumbleIn) (h_vf_gap : 0 ≤ vf_gap.toInt ∧ vf_gap.toInt ≤ 20) (sz : Nat) : Met l yX11_hears wsX11_hears ({ frames := 5, cells := 0, slots := 0, locals := 115 }) (va_Pc [.ref qh, .int a1, .int a2] (ct_P D (ct_T cI cJ cB cZ cO) G (w_c_X11_hears cI cJ cB cZ cO qh qh_kept vh_laid qi qr qt qd vd_gap vd_odds vd_rain vd_lines qd_steps fd_steps qd_lengths fd_lengths qd_starts fd_starts qd_met qd_stumbles fd_stumbles vd_stumbleCount qd_muds fd_muds qd_cells vd_cellCount qd_tunes vd_tuneCount qd_changes vd_changeCount qd2 qf qf_places ff_places qf_steps ff_steps qf_stumbleIn ff_stumbleIn vf_gap vf_calmLength vf_calmStart qf2 qo qe qw qu qg qn qs) sz)) (va_Qi (fun (rz : Int32) (u : Int32 × Int32 × (Nat → Int32) × (Nat → Int32) × (Nat → Int32)) => ((-2) ≤ rz.toInt ∧ rz.toInt ≤ 5) ∧ (0 ≤ u.2.1.toInt ∧ u.2.1.toInt ≤ 20) ∧ (ar_ok [(-1)] [5] u.2.2.2.1) ∧ (ar_q u.2.2.2.2)) (fun (u : Int32 × Int32 × (Nat → Int32) × (Nat → Int32) × (Nat → Int32)) t => ct_Q D (va_A (w_c_X11_hears cI cJ cB cZ cO qh qh_kept vh_laid qi qr qt qd vd_gap vd_odds vd_rain vd_lines qd_steps fd_steps qd_lengths fd_lengths qd_starts fd_starts qd_met qd_stumbles fd_stumbles vd_stumbleCount qd_muds fd_muds qd_cells vd_cellCount qd_tunes vd_tuneCount qd_changes vd_changeCount qd2 qf qf_places ff_places qf_steps ff_steps qf_stumbleIn ff_stumbleIn vf_gap vf_calmLength vf_calmStart qf2 qo qe qw qu qg qn qs) sz) [oo qh qr qt qd qd2 qi qh_kept qf qf2 u.1 qo qe qw qu qg qn qs, dn qd vd_gap vd_odds vd_rain vd_lines qd_steps qd_lengths qd_starts qd_met qd_stumbles vd_stumbleCount qd_muds qd_cells vd_cellCount qd_tunes vd_tuneCount qd_changes vd_changeCount, (qd_steps, .inl (cI, 24, .inl (fd_steps))), (qd_lengths, .inl (cI, 2, .inl (fd_lengths))), (qd_starts, .inl (cI, 2, .inl (fd_starts))), (qd_stumbles, .inl (cI, 32, .inl (fd_stumbles))), (qd_muds, .inl (cI, 200, .inl (fd_muds))), fo qf qf_places qf_steps qf_stumbleIn u.2.1 vf_calmLength vf_calmStart, (qf_places, .inl (cI, 400, .inl (u.2.2.1))), (qf_steps, .inl (cI, 400, .inl (u.2.2.2.1))), (qf_stumbleIn, .inl (cI, 200, .inl (u.2.2.2.2)))] t) (va_A (w_c_X11_hears cI cJ cB cZ cO qh qh_kept vh_laid qi qr qt qd vd_gap vd_odds vd_rain vd_lines qd_steps fd_steps qd_lengths fd_lengths qd_starts fd_starts qd_met qd_stumbles fd_stumbles vd_stumbleCount qd_muds fd_muds qd_cells vd_cellCount qd_tunes vd_tuneCount qd_changes vd_changeCount qd2 qf qf_places ff_places qf_steps ff_steps qf_stumbleIn ff_stumbleIn vf_gap vf_calmLength vf_calmStart qf2 qo qe qw qu qg qn qs) sz)) 0 0 (va_A (w_c_X11_hears cI cJ cB cZ cO qh qh_kept vh_laid qi qr qt qd vd_gap vd_odds vd_rain vd_lines qd_steps fd_steps qd_lengths fd_lengths qd_starts fd_starts qd_met qd_stumbles fd_stumbles vd_stumbleCount qd_muds fd_muds qd_cells vd_cellCount qd_tunes vd_tuneCount qd_changes vd_changeCount qd2 qf qf_places ff_places qf_steps ff_steps qf_stumbleIn ff_stumbleIn vf_gap vf_calmLength vf_calmStart qf2 qo qe qw qu qg qn qs) sz) := by
  refine Met.ofW (cc := cX11_hears) (maxL := 3) (ret := (some .int)) (by decide) rfl ?_
  intro p e s m args below meth c s₁ B hml hv
  obtain ⟨rfl, hsz, hP, hE, hD0, hH⟩ := hv
  have hx := B.exec
  have hb := B.bytes
  have hr := B.returns
  have hts := atoms_spec (ws := wsX11_hears) B.pre
  have hown : s.vm.findClass RX11 = some m.cls := findClass_of_methodNamed B.named
  have hlocks := B.notSynchronized
  have hK := hE.1
  subst hsz
  have hD := hD0.self (sz := s.heap.size)
  generalize hAe : va_A (w_c_X11_hears cI cJ cB cZ cO qh qh_kept vh_laid qi qr qt qd vd_gap vd_odds vd_rain vd_lines qd_steps fd_steps qd_lengths fd_lengths qd_starts fd_starts qd_met qd_stumbles fd_stumbles vd_stumbleCount qd_muds fd_muds qd_cells vd_cellCount qd_tunes vd_tuneCount qd_changes vd_changeCount qd2 qf qf_places ff_places qf_steps ff_steps qf_stumbleIn ff_stumbleIn vf_gap vf_calmLength vf_calmStart qf2 qo qe qw qu qg qn qs) s.heap.size = A at hD hH ⊢
  have hA : ∀ q : Nat, s.heap.size ≤ q → A q := fun q h => by rw [← hAe]; exact Or.inr h
  have hS : va_S A s.heap s.heap [] := va_S.rf
  obtain ⟨hP, hD⟩ : ct_B D A s.heap [oo qh qr qt qd qd2 qi qh_kept qf qf2 vh_laid qo qe qw qu qg qn qs, dn qd vd_gap vd_odds vd_rain vd_lines qd_steps qd_lengths qd_starts qd_met qd_stumbles vd_stumbleCount qd_muds qd_cells vd_cellCount qd_tunes vd_tuneCount qd_changes vd_changeCount, (qd_steps, .inl (cI, 24, .inl (fd_steps))), (qd_lengths, .inl (cI, 2, .inl (fd_lengths))), (qd_starts, .inl (cI, 2, .inl (fd_starts))), (qd_stumbles, .inl (cI, 32, .inl (fd_stumbles))), (qd_muds, .inl (cI, 200, .inl (fd_muds))), fo qf qf_places qf_steps qf_stumbleIn vf_gap vf_calmLength vf_calmStart, (qf_places, .inl (cI, 400, .inl (ff_places))), (qf_steps, .inl (cI, 400, .inl (ff_steps))), (qf_stumbleIn, .inl (cI, 200, .inl (ff_stumbleIn)))] := ⟨hP, hD⟩
  have hl := lv_entry ([.ref qh, .int a1, .int a2]) (n := 3) (Nat.le_of_ble_eq_true rfl)
  rw [lg_entry_eq]
  generalize (lg_sl ([.ref qh, .int a1, .int a2]) ++ List.replicate (3 - (lg_sl ([.ref qh, .int a1, .int a2])).length) Slot.unset).toArray = ls at hl ⊢
  have hl : lv_has ls 3 [(0, .ref qh), (1, .int a1), (2, .int a2)] := hl
  obtain ⟨H, hHe⟩ : ∃ H : Heap, H = s.heap := ⟨_, rfl⟩
  rw [← hHe] at hP
  have hS : va_S A s.heap H [] := by rw [hHe]; exact va_S.rf
  refine ct_start hHe ?_
  refine lv_aload_n hx hb dX11_hears_0 rfl (lv_at hl 0 rfl) ?_
  refine lv_iload_n hx hb dX11_hears_1 rfl (lv_at hl 1 rfl) ?_
  refine lv_iload_n hx hb dX11_hears_2 rfl (lv_at hl 2 rfl) ?_
  refine ct_calli (D := D) (wr := [(qd_steps, .inl (cI, 24, .inl (fd_steps))), (qd_lengths, .inl (cI, 2, .inl (fd_lengths))), (qd_starts, .inl (cI, 2, .inl (fd_starts))), (qd_stumbles, .inl (cI, 32, .inl (fd_stumbles))), (qd_muds, .inl (cI, 200, .inl (fd_muds))), fo qf qf_places qf_steps qf_stumbleIn vf_gap vf_calmLength vf_calmStart, (qf_places, .inl (cI, 400, .inl (ff_places))), (qf_steps, .inl (cI, 400, .inl (ff_steps))), (qf_stumbleIn, .inl (cI, 200, .inl (ff_stumbleIn)))]) (va_runV (As := [.int a1, .int a2]) (rest := []) ⟨hx, hb, hml, hown, hts⟩ (c_X11_has l D G cI cJ cB cZ cO qh qh_kept vh_laid qi qr qt qd vd_gap vd_odds vd_rain vd_lines qd_steps qd_lengths qd_starts qd_met qd_stumbles vd_stumbleCount qd_muds qd_cells vd_cellCount qd_tunes vd_tuneCount qd_changes vd_changeCount qd2 qf qf2 qo qe qw qu qg qn qs a1 a2 h_vd_gap h_vd_stumbleCount h_vd_cellCount h_vd_tuneCount h_vd_changeCount H.size) (cwV 2 hts gX11_hears_X11_has rfl rfl rfl (by decide +kernel) ⟨Nat.le_of_ble_eq_true rfl, Nat.le_of_ble_eq_true rfl⟩) (ct_preV (T := ct_T cI cJ cB cZ cO) (ci := 11) (q0 := 0) hE hH hP hD hS hA [0, 1] (by decide) rfl rfl rfl) rfl rfl hl.1 rfl (lv_room (Nat.le_of_ble_eq_true rfl)) dX11_hears_3 ⟨Nat.le_of_ble_eq_true rfl, Nat.le_of_ble_eq_true rfl⟩) hP hD hS hA [0, 1] [2, 3, 4, 5, 6, 7, 8, 9, 10] rfl rfl (by decide) (by decide) (fun r1 u H locs hw hP hD hS => ?_)
  obtain ⟨hP, hD⟩ : ct_B D A H [(qd_steps, .inl (cI, 24, .inl (fd_steps))), (qd_lengths, .inl (cI, 2, .inl (fd_lengths))), (qd_starts, .inl (cI, 2, .inl (fd_starts))), (qd_stumbles, .inl (cI, 32, .inl (fd_stumbles))), (qd_muds, .inl (cI, 200, .inl (fd_muds))), fo qf qf_places qf_steps qf_stumbleIn vf_gap vf_calmLength vf_calmStart, (qf_places, .inl (cI, 400, .inl (ff_places))), (qf_steps, .inl (cI, 400, .inl (ff_steps))), (qf_stumbleIn, .inl (cI, 200, .inl (ff_stumbleIn))), oo qh qr qt qd qd2 qi qh_kept qf qf2 vh_laid qo qe qw qu qg qn qs, dn qd vd_gap vd_odds vd_rain vd_lines qd_steps qd_lengths qd_starts qd_met qd_stumbles vd_stumbleCount qd_muds qd_cells vd_cellCount qd_tunes vd_tuneCount qd_changes vd_changeCount] := ⟨hP, hD⟩
  have hz := hw
  rcases hz with ⟨hz, hz2⟩ | ⟨hz, hz2⟩
  · subst hz
    have hz_2 : (0 ≤ a1.toInt ∧ a1.toInt < 2 ∧ 0 ≤ a2.toInt ∧ a2.toInt < 200) := hz2
    refine lv_if_eq (tgt := 21) hx hb dX11_hears_6 (by decide) (fun hc => absurd hc (by decide)) (fun _ => ?_)
    refine lv_aload_n hx hb dX11_hears_9 rfl (lv_at hl 0 rfl) ?_
    refine ct_callr (D := D) (wr := []) (va_runV (As := []) (rest := []) ⟨hx, hb, hml, hown, hts⟩ (c_X11_plainFloor l D G cI cJ cB cZ cO qh qh_kept vh_laid qi qr qt qd vd_gap vd_odds vd_rain vd_lines qd_steps fd_steps qd_lengths fd_lengths qd_starts fd_starts qd_met qd_stumbles fd_stumbles vd_stumbleCount qd_muds fd_muds qd_cells vd_cellCount qd_tunes vd_tuneCount qd_changes vd_changeCount qd2 qf qf_places ff_places qf_steps ff_steps qf_stumbleIn ff_stumbleIn vf_gap vf_calmLength vf_calmStart qf2 qo qe qw qu qg qn qs h_vd_gap h_fd_steps h_fd_lengths h_fd_starts h_fd_stumbles h_vd_stumbleCount h_vd_cellCount h_vd_tuneCount h_vd_changeCount h_ff_steps h_ff_stumbleIn h_vf_gap H.size) (cwV 0 hts gX11_hears_X11_plainFloor rfl rfl rfl (by decide +kernel) ⟨Nat.le_of_ble_eq_true rfl, Nat.le_of_ble_eq_true rfl⟩) (ct_preV (T := ct_T cI cJ cB cZ cO) (ci := 11) (q0 := 9) hE hH hP hD hS hA [9, 10, 0, 1, 2, 3, 4, 5, 6, 7, 8] (by decide) rfl rfl rfl) rfl rfl hl.1 rfl (lv_room (Nat.le_of_ble_eq_true rfl)) dX11_hears_10 ⟨Nat.le_of_ble_eq_true rfl, Nat.le_of_ble_eq_true rfl⟩) hP hD hS hA [9, 10, 0, 1, 2, 3, 4, 5, 6, 7, 8] [] rfl rfl (by decide) (by decide) (fun u H locs hw hP hD hS => ?_)
    obtain ⟨y3, y4, g5, g6, g7⟩ := u
    obtain ⟨hP, hD⟩ : ct_B D A H [oo qh qr qt qd qd2 qi qh_kept qf qf2 y3 qo qe qw qu qg qn qs, dn qd vd_gap vd_odds vd_rain vd_lines qd_steps qd_lengths qd_starts qd_met qd_stumbles vd_stumbleCount qd_muds qd_cells vd_cellCount qd_tunes vd_tuneCount qd_changes vd_changeCount, (qd_steps, .inl (cI, 24, .inl (fd_steps))), (qd_lengths, .inl (cI, 2, .inl (fd_lengths))), (qd_starts, .inl (cI, 2, .inl (fd_starts))), (qd_stumbles, .inl (cI, 32, .inl (fd_stumbles))), (qd_muds, .inl (cI, 200, .inl (fd_muds))), fo qf qf_places qf_steps qf_stumbleIn y4 vf_calmLength vf_calmStart, (qf_places, .inl (cI, 400, .inl (g5))), (qf_steps, .inl (cI, 400, .inl (g6))), (qf_stumbleIn, .inl (cI, 200, .inl (g7)))] := ⟨hP, hD⟩
    obtain ⟨hp0, hp1, hp2⟩ := hw
    have h_y4 : 0 ≤ y4.toInt ∧ y4.toInt ≤ 20 := hp0
    have h_g6 : ar_ok [(-1)] [5] g6 := hp1
    have h_g7 : ar_q g7 := hp2
    refine lv_iload_n hx hb dX11_hears_13 rfl (lv_at hl 1 rfl) ?_
    refine lv_iload_n hx hb dX11_hears_14 rfl (lv_at hl 2 rfl) ?_
    refine ct_calli (D := D) (wr := [oo qh qr qt qd qd2 qi qh_kept qf qf2 y3 qo qe qw qu qg qn qs, dn qd vd_gap vd_odds vd_rain vd_lines qd_steps qd_lengths qd_starts qd_met qd_stumbles vd_stumbleCount qd_muds qd_cells vd_cellCount qd_tunes vd_tuneCount qd_changes vd_changeCount, (qd_steps, .inl (cI, 24, .inl (fd_steps))), (qd_lengths, .inl (cI, 2, .inl (fd_lengths))), (qd_starts, .inl (cI, 2, .inl (fd_starts))), (qd_stumbles, .inl (cI, 32, .inl (fd_stumbles))), (qd_muds, .inl (cI, 200, .inl (fd_muds))), (qf_places, .inl (cI, 400, .inl (g5))), (qf_stumbleIn, .inl (cI, 200, .inl (g7)))]) (va_runV (As := [.int a1, .int a2]) (rest := []) ⟨hx, hb, hml, hown, hts⟩ (c_X1_heardBy l D G cI cJ cB cZ cO qf qf_places qf_steps g6 qf_stumbleIn y4 vf_calmLength vf_calmStart a1 a2 h_g6 h_y4 (by omega) (by omega) H.size) (cwV 2 hts gX11_hears_X1_heardBy rfl rfl rfl (by decide +kernel) ⟨Nat.le_of_ble_eq_true rfl, Nat.le_of_ble_eq_true rfl⟩) (ct_preV (T := ct_T cI cJ cB cZ cO) (ci := 1) (q0 := 7) hE hH hP hD hS hA [7, 9] (by decide) rfl rfl rfl) rfl rfl hl.1 rfl (lv_room (Nat.le_of_ble_eq_true rfl)) dX11_hears_15 ⟨Nat.le_of_ble_eq_true rfl, Nat.le_of_ble_eq_true rfl⟩) hP hD hS hA [7, 9] [0, 1, 2, 3, 4, 5, 6, 8, 10] rfl rfl (by decide) (by decide) (fun r8 u H locs hw hP hD hS => ?_)
    obtain ⟨hP, hD⟩ : ct_B D A H [oo qh qr qt qd qd2 qi qh_kept qf qf2 y3 qo qe qw qu qg qn qs, dn qd vd_gap vd_odds vd_rain vd_lines qd_steps qd_lengths qd_starts qd_met qd_stumbles vd_stumbleCount qd_muds qd_cells vd_cellCount qd_tunes vd_tuneCount qd_changes vd_changeCount, (qd_steps, .inl (cI, 24, .inl (fd_steps))), (qd_lengths, .inl (cI, 2, .inl (fd_lengths))), (qd_starts, .inl (cI, 2, .inl (fd_starts))), (qd_stumbles, .inl (cI, 32, .inl (fd_stumbles))), (qd_muds, .inl (cI, 200, .inl (fd_muds))), (qf_places, .inl (cI, 400, .inl (g5))), (qf_stumbleIn, .inl (cI, 200, .inl (g7))), fo qf qf_places qf_steps qf_stumbleIn y4 vf_calmLength vf_calmStart, (qf_steps, .inl (cI, 400, .inl (g6)))] := ⟨hP, hD⟩
    have hz := hw
    have h_r8 : (-1) ≤ r8.toInt ∧ r8.toInt ≤ 5 := hz
    refine lv_goto (tgt := 23) hx hb dX11_hears_18 (by decide) ?_
    obtain ⟨hP9, hD9⟩ : ct_B D A H [oo qh qr qt qd qd2 qi qh_kept qf qf2 y3 qo qe qw qu qg qn qs, dn qd vd_gap vd_odds vd_rain vd_lines qd_steps qd_lengths qd_starts qd_met qd_stumbles vd_stumbleCount qd_muds qd_cells vd_cellCount qd_tunes vd_tuneCount qd_changes vd_changeCount, (qd_steps, .inl (cI, 24, .inl (fd_steps))), (qd_lengths, .inl (cI, 2, .inl (fd_lengths))), (qd_starts, .inl (cI, 2, .inl (fd_starts))), (qd_stumbles, .inl (cI, 32, .inl (fd_stumbles))), (qd_muds, .inl (cI, 200, .inl (fd_muds))), fo qf qf_places qf_steps qf_stumbleIn y4 vf_calmLength vf_calmStart, (qf_places, .inl (cI, 400, .inl (g5))), (qf_steps, .inl (cI, 400, .inl (g6))), (qf_stumbleIn, .inl (cI, 200, .inl (g7)))] := ⟨hP.sub [0, 1, 2, 3, 4, 5, 6, 9, 7, 10, 8] rfl, hD.sub [0, 1, 2, 3, 4, 5, 6, 9, 7, 10, 8] (by decide) rfl⟩
    exact W.iret (v := r8) hx hb hr (fun t ht hW => ⟨⟨r8, (y3, y4, g5, g6, g7), rfl, ⟨(show (-2) ≤ r8.toInt ∧ r8.toInt ≤ 5 by omega), h_y4, h_g6, h_g7⟩, by rw [ht]; exact hP9, hD9⟩, hS.F ht⟩) hS.2.2 dX11_hears_23
  · subst hz
    refine lv_if_eq (tgt := 21) hx hb dX11_hears_6 (by decide) (fun _ => ?_) (fun hc => absurd hc (by decide))
    refine lv_bipush (v := (-2)) hx hb dX11_hears_21 (by decide) ?_
    obtain ⟨hP9, hD9⟩ : ct_B D A H [oo qh qr qt qd qd2 qi qh_kept qf qf2 vh_laid qo qe qw qu qg qn qs, dn qd vd_gap vd_odds vd_rain vd_lines qd_steps qd_lengths qd_starts qd_met qd_stumbles vd_stumbleCount qd_muds qd_cells vd_cellCount qd_tunes vd_tuneCount qd_changes vd_changeCount, (qd_steps, .inl (cI, 24, .inl (fd_steps))), (qd_lengths, .inl (cI, 2, .inl (fd_lengths))), (qd_starts, .inl (cI, 2, .inl (fd_starts))), (qd_stumbles, .inl (cI, 32, .inl (fd_stumbles))), (qd_muds, .inl (cI, 200, .inl (fd_muds))), fo qf qf_places qf_steps qf_stumbleIn vf_gap vf_calmLength vf_calmStart, (qf_places, .inl (cI, 400, .inl (ff_places))), (qf_steps, .inl (cI, 400, .inl (ff_steps))), (qf_stumbleIn, .inl (cI, 200, .inl (ff_stumbleIn)))] := ⟨hP.sub [9, 10, 0, 1, 2, 3, 4, 5, 6, 7, 8] rfl, hD.sub [9, 10, 0, 1, 2, 3, 4, 5, 6, 7, 8] (by decide) rfl⟩
    exact W.iret (v := (-2)) hx hb hr (fun t ht hW => ⟨⟨(-2), (vh_laid, vf_gap, ff_places, ff_steps, ff_stumbleIn), rfl, ⟨(show (-2) ≤ (-2 : Int32).toInt ∧ (-2 : Int32).toInt ≤ 5 by decide), h_vf_gap, h_ff_steps, h_ff_stumbleIn⟩, by rw [ht]; exact hP9, hD9⟩, hS.F ht⟩) hS.2.2 dX11_hears_23
