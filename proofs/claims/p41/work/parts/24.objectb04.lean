abbrev w_c_X11_chorus (cI cJ cB cZ cO : ClassId) (qh : Nat) (qh_kept : Nat) (vh_laid : Int32) (qi : Nat) (qr : Nat) (qt : Nat) (qd : Nat) (vd_gap : Int32) (vd_odds : Int32) (vd_rain : Int32) (vd_lines : Int32) (qd_steps : Nat) (qd_lengths : Nat) (qd_starts : Nat) (qd_met : Nat) (qd_stumbles : Nat) (vd_stumbleCount : Int32) (qd_muds : Nat) (qd_cells : Nat) (vd_cellCount : Int32) (qd_tunes : Nat) (fd_tunes : Nat → Int32) (vd_tuneCount : Int32) (qd_changes : Nat) (vd_changeCount : Int32) (qd2 : Nat) (qf : Nat) (qf2 : Nat) (qo : Nat) (qe : Nat) (qw : Nat) (qu : Nat) (vu_every : Int64) (vu_at : Int64) (qg : Nat) (qn : Nat) (qs : Nat) : va_W := [oo qh qr qt qd qd2 qi qh_kept qf qf2 vh_laid qo qe qw qu qg qn qs, dn qd vd_gap vd_odds vd_rain vd_lines qd_steps qd_lengths qd_starts qd_met qd_stumbles vd_stumbleCount qd_muds qd_cells vd_cellCount qd_tunes vd_tuneCount qd_changes vd_changeCount, (qd_tunes, .inl (cI, 10, .inl (fd_tunes))), (qu, .inr (9, [.long vu_every, .long vu_at]))]
set_option maxHeartbeats 4000000 in
set_option maxRecDepth 100000 in
/-- X11 chorus -/
theorem c_X11_chorus (l : Launch) (D : va_G) (G : ct_G) (cI cJ cB cZ cO : ClassId) (qh : Nat) (qh_kept : Nat) (vh_laid : Int32) (qi : Nat) (qr : Nat) (qt : Nat) (qd : Nat) (vd_gap : Int32) (vd_odds : Int32) (vd_rain : Int32) (vd_lines : Int32) (qd_steps : Nat) (qd_lengths : Nat) (qd_starts : Nat) (qd_met : Nat) (qd_stumbles : Nat) (vd_stumbleCount : Int32) (qd_muds : Nat) (qd_cells : Nat) (vd_cellCount : Int32) (qd_tunes : Nat) (fd_tunes : Nat → Int32) (vd_tuneCount : Int32) (qd_changes : Nat) (vd_changeCount : Int32) (qd2 : Nat) (qf : Nat) (qf2 : Nat) (qo : Nat) (qe : Nat) (qw : Nat) (qu : Nat) (vu_every : Int64) (vu_at : Int64) (qg : Nat) (qn : Nat) (qs : Nat) (h_vd_gap : 0 ≤ vd_gap.toInt ∧ vd_gap.toInt ≤ 20) (h_vd_stumbleCount : 0 ≤ vd_stumbleCount.toInt ∧ vd_stumbleCount.toInt ≤ 8) (h_vd_cellCount : 0 ≤ vd_cellCount.toInt ∧ vd_cellCount.toInt ≤ 12) (h_vd_tuneCount : 0 ≤ vd_tuneCount.toInt ∧ vd_tuneCount.toInt ≤ 5) (h_vd_changeCount : 0 ≤ vd_changeCount.toInt ∧ vd_changeCount.toInt ≤ 40) (sz : Nat) : Met l yX11_chorus wsX11_chorus ({ frames := 5, cells := 0, slots := 0, locals := 128 }) (va_Pc [.ref qh] (ct_P D (ct_T cI cJ cB cZ cO) G (w_c_X11_chorus cI cJ cB cZ cO qh qh_kept vh_laid qi qr qt qd vd_gap vd_odds vd_rain vd_lines qd_steps qd_lengths qd_starts qd_met qd_stumbles vd_stumbleCount qd_muds qd_cells vd_cellCount qd_tunes fd_tunes vd_tuneCount qd_changes vd_changeCount qd2 qf qf2 qo qe qw qu vu_every vu_at qg qn qs) sz)) (va_Qi (fun (rz : Int32) (u : Int64 × Int64) => ((-2) ≤ rz.toInt ∧ rz.toInt ≤ 31)) (fun (u : Int64 × Int64) t => ct_Q D (va_A (w_c_X11_chorus cI cJ cB cZ cO qh qh_kept vh_laid qi qr qt qd vd_gap vd_odds vd_rain vd_lines qd_steps qd_lengths qd_starts qd_met qd_stumbles vd_stumbleCount qd_muds qd_cells vd_cellCount qd_tunes fd_tunes vd_tuneCount qd_changes vd_changeCount qd2 qf qf2 qo qe qw qu vu_every vu_at qg qn qs) sz) [oo qh qr qt qd qd2 qi qh_kept qf qf2 vh_laid qo qe qw qu qg qn qs, dn qd vd_gap vd_odds vd_rain vd_lines qd_steps qd_lengths qd_starts qd_met qd_stumbles vd_stumbleCount qd_muds qd_cells vd_cellCount qd_tunes vd_tuneCount qd_changes vd_changeCount, (qd_tunes, .inl (cI, 10, .inl (fd_tunes))), (qu, .inr (9, [.long u.1, .long u.2]))] t) (va_A (w_c_X11_chorus cI cJ cB cZ cO qh qh_kept vh_laid qi qr qt qd vd_gap vd_odds vd_rain vd_lines qd_steps qd_lengths qd_starts qd_met qd_stumbles vd_stumbleCount qd_muds qd_cells vd_cellCount qd_tunes fd_tunes vd_tuneCount qd_changes vd_changeCount qd2 qf qf2 qo qe qw qu vu_every vu_at qg qn qs) sz)) 0 0 (va_A (w_c_X11_chorus cI cJ cB cZ cO qh qh_kept vh_laid qi qr qt qd vd_gap vd_odds vd_rain vd_lines qd_steps qd_lengths qd_starts qd_met qd_stumbles vd_stumbleCount qd_muds qd_cells vd_cellCount qd_tunes fd_tunes vd_tuneCount qd_changes vd_changeCount qd2 qf qf2 qo qe qw qu vu_every vu_at qg qn qs) sz) := by
  refine Met.ofW (cc := cX11_chorus) (maxL := 1) (ret := (some .int)) (by decide) rfl ?_
  intro p e s m args below meth c s₁ B hml hv
  obtain ⟨rfl, hsz, hP, hE, hD0, hH⟩ := hv
  have hx := B.exec
  have hb := B.bytes
  have hr := B.returns
  have hts := atoms_spec (ws := wsX11_chorus) B.pre
  have hown : s.vm.findClass RX11 = some m.cls := findClass_of_methodNamed B.named
  have hlocks := B.notSynchronized
  have hK := hE.1
  have hi11 : ∀ w ∈ u_ws RX11 TX11 16, w ∈ wsX11_chorus := fun w h => List.mem_cons_of_mem _ (List.mem_append_left _ (List.mem_append_left _ (List.mem_append_right _ h)))
  subst hsz
  have hD := hD0.self (sz := s.heap.size)
  generalize hAe : va_A (w_c_X11_chorus cI cJ cB cZ cO qh qh_kept vh_laid qi qr qt qd vd_gap vd_odds vd_rain vd_lines qd_steps qd_lengths qd_starts qd_met qd_stumbles vd_stumbleCount qd_muds qd_cells vd_cellCount qd_tunes fd_tunes vd_tuneCount qd_changes vd_changeCount qd2 qf qf2 qo qe qw qu vu_every vu_at qg qn qs) s.heap.size = A at hD hH ⊢
  have hA : ∀ q : Nat, s.heap.size ≤ q → A q := fun q h => by rw [← hAe]; exact Or.inr h
  have hS : va_S A s.heap s.heap [] := va_S.rf
  obtain ⟨hP, hD⟩ : ct_B D A s.heap [oo qh qr qt qd qd2 qi qh_kept qf qf2 vh_laid qo qe qw qu qg qn qs, dn qd vd_gap vd_odds vd_rain vd_lines qd_steps qd_lengths qd_starts qd_met qd_stumbles vd_stumbleCount qd_muds qd_cells vd_cellCount qd_tunes vd_tuneCount qd_changes vd_changeCount, (qd_tunes, .inl (cI, 10, .inl (fd_tunes))), (qu, .inr (9, [.long vu_every, .long vu_at]))] := ⟨hP, hD⟩
  have hl := lv_entry ([.ref qh]) (n := 1) (Nat.le_of_ble_eq_true rfl)
  rw [lg_entry_eq]
  generalize (lg_sl ([.ref qh]) ++ List.replicate (1 - (lg_sl ([.ref qh])).length) Slot.unset).toArray = ls at hl ⊢
  have hl : lv_has ls 1 [(0, .ref qh)] := hl
  obtain ⟨H, hHe⟩ : ∃ H : Heap, H = s.heap := ⟨_, rfl⟩
  rw [← hHe] at hP
  have hS : va_S A s.heap H [] := by rw [hHe]; exact va_S.rf
  refine ct_start hHe ?_
  refine lv_aload_n hx hb dX11_chorus_0 rfl (lv_at hl 0 rfl) ?_
  refine va_get (D := D) (ci := 11) (v := .ref qd) (C := RX11) (T := TX11) (N := 16) hx hb hts hi11 hown hK hP 0 rfl rfl 2 (by decide) (hts (.fieldLink RX11 24 "OverHill" "now" "LOverHill$Dance;") (by decide +kernel)) (fun _ h9 => h9) rfl dX11_chorus_1 ?_
  refine ct_calli (D := D) (wr := [oo qh qr qt qd qd2 qi qh_kept qf qf2 vh_laid qo qe qw qu qg qn qs, (qd_tunes, .inl (cI, 10, .inl (fd_tunes))), (qu, .inr (9, [.long vu_every, .long vu_at]))]) (va_runV (As := []) (rest := []) ⟨hx, hb, hml, hown, hts⟩ (c_X0_stands l D G cI cJ cB cZ cO qd vd_gap vd_odds vd_rain vd_lines qd_steps qd_lengths qd_starts qd_met qd_stumbles vd_stumbleCount qd_muds qd_cells vd_cellCount qd_tunes vd_tuneCount qd_changes vd_changeCount h_vd_gap h_vd_stumbleCount h_vd_cellCount h_vd_tuneCount h_vd_changeCount H.size) (cwV 0 hts gX11_chorus_X0_stands rfl rfl rfl (by decide +kernel) ⟨Nat.le_of_ble_eq_true rfl, Nat.le_of_ble_eq_true rfl⟩) (ct_preV (T := ct_T cI cJ cB cZ cO) (ci := 0) (q0 := 1) hE hH hP hD hS hA [1] (by decide) rfl rfl rfl) rfl rfl hl.1 rfl (lv_room (Nat.le_of_ble_eq_true rfl)) dX11_chorus_4 ⟨Nat.le_of_ble_eq_true rfl, Nat.le_of_ble_eq_true rfl⟩) hP hD hS hA [1] [0, 2, 3] rfl rfl (by decide) (by decide) (fun r1 u H locs hw hP hD hS => ?_)
  obtain ⟨hP, hD⟩ : ct_B D A H [oo qh qr qt qd qd2 qi qh_kept qf qf2 vh_laid qo qe qw qu qg qn qs, (qd_tunes, .inl (cI, 10, .inl (fd_tunes))), (qu, .inr (9, [.long vu_every, .long vu_at])), dn qd vd_gap vd_odds vd_rain vd_lines qd_steps qd_lengths qd_starts qd_met qd_stumbles vd_stumbleCount qd_muds qd_cells vd_cellCount qd_tunes vd_tuneCount qd_changes vd_changeCount] := ⟨hP, hD⟩
  have hz := hw
  rcases hz with ⟨hz, hz2⟩ | ⟨hz, hz2⟩
  · subst hz
    have hz_2 : (0 < vd_lines.toInt) := hz2
    refine lv_if_eq (tgt := 24) hx hb dX11_chorus_7 (by decide) (fun hc => absurd hc (by decide)) (fun _ => ?_)
    refine lv_aload_n hx hb dX11_chorus_10 rfl (lv_at hl 0 rfl) ?_
    refine va_get (D := D) (ci := 11) (v := .ref qu) (C := RX11) (T := TX11) (N := 16) hx hb hts hi11 hown hK hP 0 rfl rfl 12 (by decide) (hts (.fieldLink RX11 77 "OverHill" "tunes" "LOverHill$Tunes;") (by decide +kernel)) (fun _ h9 => h9) rfl dX11_chorus_11 ?_
    refine lv_aload_n hx hb dX11_chorus_14 rfl (lv_at hl 0 rfl) ?_
    refine va_get (D := D) (ci := 11) (v := .ref qd) (C := RX11) (T := TX11) (N := 16) hx hb hts hi11 hown hK hP 0 rfl rfl 2 (by decide) (hts (.fieldLink RX11 24 "OverHill" "now" "LOverHill$Dance;") (by decide +kernel)) (fun _ h9 => h9) rfl dX11_chorus_15 ?_
    refine ct_calli (D := D) (wr := [oo qh qr qt qd qd2 qi qh_kept qf qf2 vh_laid qo qe qw qu qg qn qs]) (va_runV (As := [.ref qd]) (rest := []) ⟨hx, hb, hml, hown, hts⟩ (c_X9_largestSet l D G cI cJ cB cZ cO qu vu_every vu_at qd vd_gap vd_odds vd_rain vd_lines qd_steps qd_lengths qd_starts qd_met qd_stumbles vd_stumbleCount qd_muds qd_cells vd_cellCount qd_tunes fd_tunes vd_tuneCount qd_changes vd_changeCount h_vd_gap h_vd_stumbleCount h_vd_cellCount h_vd_tuneCount h_vd_changeCount H.size) (cwV 1 hts gX11_chorus_X9_largestSet rfl rfl rfl (by decide +kernel) ⟨Nat.le_of_ble_eq_true rfl, Nat.le_of_ble_eq_true rfl⟩) (ct_preV (T := ct_T cI cJ cB cZ cO) (ci := 9) (q0 := 2) hE hH hP hD hS hA [2, 3, 1] (by decide) rfl rfl rfl) rfl rfl hl.1 rfl (lv_room (Nat.le_of_ble_eq_true rfl)) dX11_chorus_18 ⟨Nat.le_of_ble_eq_true rfl, Nat.le_of_ble_eq_true rfl⟩) hP hD hS hA [2, 3, 1] [0] rfl rfl (by decide) (by decide) (fun r3 u H locs hw hP hD hS => ?_)
    obtain ⟨y4, y5⟩ := u
    obtain ⟨hP, hD⟩ : ct_B D A H [oo qh qr qt qd qd2 qi qh_kept qf qf2 vh_laid qo qe qw qu qg qn qs, (qu, .inr (9, [.long y4, .long y5])), dn qd vd_gap vd_odds vd_rain vd_lines qd_steps qd_lengths qd_starts qd_met qd_stumbles vd_stumbleCount qd_muds qd_cells vd_cellCount qd_tunes vd_tuneCount qd_changes vd_changeCount, (qd_tunes, .inl (cI, 10, .inl (fd_tunes)))] := ⟨hP, hD⟩
    have hz := hw
    have h_r3 : 0 ≤ r3.toInt ∧ r3.toInt ≤ 31 := hz
    refine lv_goto (tgt := 26) hx hb dX11_chorus_21 (by decide) ?_
    obtain ⟨hP9, hD9⟩ : ct_B D A H [oo qh qr qt qd qd2 qi qh_kept qf qf2 vh_laid qo qe qw qu qg qn qs, dn qd vd_gap vd_odds vd_rain vd_lines qd_steps qd_lengths qd_starts qd_met qd_stumbles vd_stumbleCount qd_muds qd_cells vd_cellCount qd_tunes vd_tuneCount qd_changes vd_changeCount, (qd_tunes, .inl (cI, 10, .inl (fd_tunes))), (qu, .inr (9, [.long y4, .long y5]))] := ⟨hP.sub [0, 2, 3, 1] rfl, hD.sub [0, 2, 3, 1] (by decide) rfl⟩
    exact W.iret (v := r3) hx hb hr (fun t ht hW => ⟨⟨r3, (y4, y5), rfl, (show (-2) ≤ r3.toInt ∧ r3.toInt ≤ 31 by omega), by rw [ht]; exact hP9, hD9⟩, hS.F ht⟩) hS.2.2 dX11_chorus_26
  · subst hz
    have hz_6 : ¬ (0 < vd_lines.toInt) := hz2
    refine lv_if_eq (tgt := 24) hx hb dX11_chorus_7 (by decide) (fun _ => ?_) (fun hc => absurd hc (by decide))
    refine lv_bipush (v := (-2)) hx hb dX11_chorus_24 (by decide) ?_
    obtain ⟨hP9, hD9⟩ : ct_B D A H [oo qh qr qt qd qd2 qi qh_kept qf qf2 vh_laid qo qe qw qu qg qn qs, dn qd vd_gap vd_odds vd_rain vd_lines qd_steps qd_lengths qd_starts qd_met qd_stumbles vd_stumbleCount qd_muds qd_cells vd_cellCount qd_tunes vd_tuneCount qd_changes vd_changeCount, (qd_tunes, .inl (cI, 10, .inl (fd_tunes))), (qu, .inr (9, [.long vu_every, .long vu_at]))] := ⟨hP.sub [0, 3, 1, 2] rfl, hD.sub [0, 3, 1, 2] (by decide) rfl⟩
    exact W.iret (v := (-2)) hx hb hr (fun t ht hW => ⟨⟨(-2), (vu_every, vu_at), rfl, (show (-2) ≤ (-2 : Int32).toInt ∧ (-2 : Int32).toInt ≤ 31 by decide), by rw [ht]; exact hP9, hD9⟩, hS.F ht⟩) hS.2.2 dX11_chorus_26
abbrev w_c_X11_treaties (cI cJ cB cZ cO : ClassId) (qh : Nat) (qh_kept : Nat) (vh_laid : Int32) (qi : Nat) (qr : Nat) (qt : Nat) (qd : Nat) (vd_gap : Int32) (vd_odds : Int32) (vd_rain : Int32) (vd_lines : Int32) (qd_steps : Nat) (qd_lengths : Nat) (qd_starts : Nat) (qd_met : Nat) (fd_met : Nat → Int32) (qd_stumbles : Nat) (vd_stumbleCount : Int32) (qd_muds : Nat) (qd_cells : Nat) (vd_cellCount : Int32) (qd_tunes : Nat) (vd_tuneCount : Int32) (qd_changes : Nat) (vd_changeCount : Int32) (qd2 : Nat) (qf : Nat) (qf2 : Nat) (qo : Nat) (qe : Nat) (qw : Nat) (qu : Nat) (qg : Nat) (qn : Nat) (qs : Nat) : va_W := [oo qh qr qt qd qd2 qi qh_kept qf qf2 vh_laid qo qe qw qu qg qn qs, dn qd vd_gap vd_odds vd_rain vd_lines qd_steps qd_lengths qd_starts qd_met qd_stumbles vd_stumbleCount qd_muds qd_cells vd_cellCount qd_tunes vd_tuneCount qd_changes vd_changeCount, (qd_met, .inl (cI, 6, .inl (fd_met)))]
set_option maxHeartbeats 4000000 in
set_option maxRecDepth 100000 in
/-- X11 treaties -/
theorem c_X11_treaties (l : Launch) (D : va_G) (G : ct_G) (cI cJ cB cZ cO : ClassId) (qh : Nat) (qh_kept : Nat) (vh_laid : Int32) (qi : Nat) (qr : Nat) (qt : Nat) (qd : Nat) (vd_gap : Int32) (vd_odds : Int32) (vd_rain : Int32) (vd_lines : Int32) (qd_steps : Nat) (qd_lengths : Nat) (qd_starts : Nat) (qd_met : Nat) (fd_met : Nat → Int32) (qd_stumbles : Nat) (vd_stumbleCount : Int32) (qd_muds : Nat) (qd_cells : Nat) (vd_cellCount : Int32) (qd_tunes : Nat) (vd_tuneCount : Int32) (qd_changes : Nat) (vd_changeCount : Int32) (qd2 : Nat) (qf : Nat) (qf2 : Nat) (qo : Nat) (qe : Nat) (qw : Nat) (qu : Nat) (qg : Nat) (qn : Nat) (qs : Nat) (h_vd_gap : 0 ≤ vd_gap.toInt ∧ vd_gap.toInt ≤ 20) (h_vd_stumbleCount : 0 ≤ vd_stumbleCount.toInt ∧ vd_stumbleCount.toInt ≤ 8) (h_vd_cellCount : 0 ≤ vd_cellCount.toInt ∧ vd_cellCount.toInt ≤ 12) (h_vd_tuneCount : 0 ≤ vd_tuneCount.toInt ∧ vd_tuneCount.toInt ≤ 5) (h_vd_changeCount : 0 ≤ vd_changeCount.toInt ∧ vd_changeCount.toInt ≤ 40) (sz : Nat) : Met l yX11_treaties wsX11_treaties ({ frames := 1, cells := 0, slots := 0, locals := 22 }) (va_Pc [.ref qh] (ct_P D (ct_T cI cJ cB cZ cO) G (w_c_X11_treaties cI cJ cB cZ cO qh qh_kept vh_laid qi qr qt qd vd_gap vd_odds vd_rain vd_lines qd_steps qd_lengths qd_starts qd_met fd_met qd_stumbles vd_stumbleCount qd_muds qd_cells vd_cellCount qd_tunes vd_tuneCount qd_changes vd_changeCount qd2 qf qf2 qo qe qw qu qg qn qs) sz)) (va_Qi (fun (rz : Int32) (u : Unit) => True) (fun (u : Unit) t => ct_Q D (va_A (w_c_X11_treaties cI cJ cB cZ cO qh qh_kept vh_laid qi qr qt qd vd_gap vd_odds vd_rain vd_lines qd_steps qd_lengths qd_starts qd_met fd_met qd_stumbles vd_stumbleCount qd_muds qd_cells vd_cellCount qd_tunes vd_tuneCount qd_changes vd_changeCount qd2 qf qf2 qo qe qw qu qg qn qs) sz) [oo qh qr qt qd qd2 qi qh_kept qf qf2 vh_laid qo qe qw qu qg qn qs, dn qd vd_gap vd_odds vd_rain vd_lines qd_steps qd_lengths qd_starts qd_met qd_stumbles vd_stumbleCount qd_muds qd_cells vd_cellCount qd_tunes vd_tuneCount qd_changes vd_changeCount, (qd_met, .inl (cI, 6, .inl (fd_met)))] t) (va_A (w_c_X11_treaties cI cJ cB cZ cO qh qh_kept vh_laid qi qr qt qd vd_gap vd_odds vd_rain vd_lines qd_steps qd_lengths qd_starts qd_met fd_met qd_stumbles vd_stumbleCount qd_muds qd_cells vd_cellCount qd_tunes vd_tuneCount qd_changes vd_changeCount qd2 qf qf2 qo qe qw qu qg qn qs) sz)) 0 0 (va_A (w_c_X11_treaties cI cJ cB cZ cO qh qh_kept vh_laid qi qr qt qd vd_gap vd_odds vd_rain vd_lines qd_steps qd_lengths qd_starts qd_met fd_met qd_stumbles vd_stumbleCount qd_muds qd_cells vd_cellCount qd_tunes vd_tuneCount qd_changes vd_changeCount qd2 qf qf2 qo qe qw qu qg qn qs) sz) := by
  refine Met.ofW (cc := cX11_treaties) (maxL := 4) (ret := (some .int)) (by decide) rfl ?_
  intro p e s m args below meth c s₁ B hml hv
  obtain ⟨rfl, hsz, hP, hE, hD0, hH⟩ := hv
  have hx := B.exec
  have hb := B.bytes
  have hr := B.returns
  have hts := atoms_spec (ws := wsX11_treaties) B.pre
  have hown : s.vm.findClass RX11 = some m.cls := findClass_of_methodNamed B.named
  have hlocks := B.notSynchronized
  have hK := hE.1
  have hi11 : ∀ w ∈ u_ws RX11 TX11 16, w ∈ wsX11_treaties := fun w h => List.mem_cons_of_mem _ (List.mem_append_left _ (List.mem_append_right _ h))
  subst hsz
  have hD := hD0.self (sz := s.heap.size)
  generalize hAe : va_A (w_c_X11_treaties cI cJ cB cZ cO qh qh_kept vh_laid qi qr qt qd vd_gap vd_odds vd_rain vd_lines qd_steps qd_lengths qd_starts qd_met fd_met qd_stumbles vd_stumbleCount qd_muds qd_cells vd_cellCount qd_tunes vd_tuneCount qd_changes vd_changeCount qd2 qf qf2 qo qe qw qu qg qn qs) s.heap.size = A at hD hH ⊢
  have hA : ∀ q : Nat, s.heap.size ≤ q → A q := fun q h => by rw [← hAe]; exact Or.inr h
  have hS : va_S A s.heap s.heap [] := va_S.rf
  obtain ⟨hP, hD⟩ : ct_B D A s.heap [oo qh qr qt qd qd2 qi qh_kept qf qf2 vh_laid qo qe qw qu qg qn qs, dn qd vd_gap vd_odds vd_rain vd_lines qd_steps qd_lengths qd_starts qd_met qd_stumbles vd_stumbleCount qd_muds qd_cells vd_cellCount qd_tunes vd_tuneCount qd_changes vd_changeCount, (qd_met, .inl (cI, 6, .inl (fd_met)))] := ⟨hP, hD⟩
  have hl := lv_entry ([.ref qh]) (n := 4) (Nat.le_of_ble_eq_true rfl)
  rw [lg_entry_eq]
  generalize (lg_sl ([.ref qh]) ++ List.replicate (4 - (lg_sl ([.ref qh])).length) Slot.unset).toArray = ls at hl ⊢
  have hl : lv_has ls 4 [(0, .ref qh)] := hl
  obtain ⟨H, hHe⟩ : ∃ H : Heap, H = s.heap := ⟨_, rfl⟩
  rw [← hHe] at hP
  have hS : va_S A s.heap H [] := by rw [hHe]; exact va_S.rf
  refine ct_start hHe ?_
  refine lv_aload_n hx hb dX11_treaties_0 rfl (lv_at hl 0 rfl) ?_
  refine va_get (D := D) (ci := 11) (v := .ref qd) (C := RX11) (T := TX11) (N := 16) hx hb hts hi11 hown hK hP 0 rfl rfl 2 (by decide) (hts (.fieldLink RX11 24 "OverHill" "now" "LOverHill$Dance;") (by decide +kernel)) (fun _ h9 => h9) rfl dX11_treaties_1 ?_
  refine ct_calli (D := D) (wr := [oo qh qr qt qd qd2 qi qh_kept qf qf2 vh_laid qo qe qw qu qg qn qs, (qd_met, .inl (cI, 6, .inl (fd_met)))]) (va_runV (As := []) (rest := []) ⟨hx, hb, hml, hown, hts⟩ (c_X0_stands l D G cI cJ cB cZ cO qd vd_gap vd_odds vd_rain vd_lines qd_steps qd_lengths qd_starts qd_met qd_stumbles vd_stumbleCount qd_muds qd_cells vd_cellCount qd_tunes vd_tuneCount qd_changes vd_changeCount h_vd_gap h_vd_stumbleCount h_vd_cellCount h_vd_tuneCount h_vd_changeCount H.size) (cwV 0 hts gX11_treaties_X0_stands rfl rfl rfl (by decide +kernel) ⟨Nat.le_of_ble_eq_true rfl, Nat.le_of_ble_eq_true rfl⟩) (ct_preV (T := ct_T cI cJ cB cZ cO) (ci := 0) (q0 := 1) hE hH hP hD hS hA [1] (by decide) rfl rfl rfl) rfl rfl hl.1 rfl (lv_room (Nat.le_of_ble_eq_true rfl)) dX11_treaties_4 ⟨Nat.le_of_ble_eq_true rfl, Nat.le_of_ble_eq_true rfl⟩) hP hD hS hA [1] [0, 2] rfl rfl (by decide) (by decide) (fun r1 u H locs hw hP hD hS => ?_)
  obtain ⟨hP, hD⟩ : ct_B D A H [oo qh qr qt qd qd2 qi qh_kept qf qf2 vh_laid qo qe qw qu qg qn qs, (qd_met, .inl (cI, 6, .inl (fd_met))), dn qd vd_gap vd_odds vd_rain vd_lines qd_steps qd_lengths qd_starts qd_met qd_stumbles vd_stumbleCount qd_muds qd_cells vd_cellCount qd_tunes vd_tuneCount qd_changes vd_changeCount] := ⟨hP, hD⟩
  have hz := hw
  rcases hz with ⟨hz, hz2⟩ | ⟨hz, hz2⟩
  · subst hz
    have hz_2 : (0 < vd_lines.toInt) := hz2
    refine lv_if_ne (tgt := 13) hx hb dX11_treaties_7 (by decide) (fun _ => ?_) (fun hc => absurd hc (by decide))
    refine lv_iconst (v := 0) hx hb dX11_treaties_13 (by decide) ?_
    refine lv_istore_n (lv' := [(1, .int 0), (0, .ref qh)]) hx hb dX11_treaties_14 rfl hl (by decide) rfl (fun ls hl => ?_)
    refine lv_iconst (v := 0) hx hb dX11_treaties_15 (by decide) ?_
    refine lv_istore_n (lv' := [(2, .int 0), (1, .int 0), (0, .ref qh)]) hx hb dX11_treaties_16 rfl hl (by decide) rfl (fun ls hl => ?_)
    refine ct_loop (X := Int32 × Int32) (fun x => (6 - x.2.toInt).toNat) (fun x H locs ls => ((0 ≤ x.2.toInt ∧ x.2.toInt ≤ 6)) ∧ ct_B D A H [oo qh qr qt qd qd2 qi qh_kept qf qf2 vh_laid qo qe qw qu qg qn qs, (qd_met, .inl (cI, 6, .inl (fd_met))), dn qd vd_gap vd_odds vd_rain vd_lines qd_steps qd_lengths qd_starts qd_met qd_stumbles vd_stumbleCount qd_muds qd_cells vd_cellCount qd_tunes vd_tuneCount qd_changes vd_changeCount] ∧ va_S A s.heap H locs ∧ lv_has ls 4 [(2, .int x.2), (1, .int x.1), (0, .ref qh)]) 17 ((0 : Int32), (0 : Int32)) ⟨(show 0 ≤ (0 : Int32).toInt ∧ (0 : Int32).toInt ≤ 6 by decide), ⟨hP, hD⟩, hS, lv_sub hl [0, 1, 2] rfl⟩ (fun x ih608 H locs ls hI => ?_)
    obtain ⟨x606, x607⟩ := x
    obtain ⟨h_x607, ⟨hP, hD⟩, hS, hl⟩ := hI
    have h_x607 : (0 ≤ x607.toInt ∧ x607.toInt ≤ 6) := h_x607
    obtain ⟨hP, hD⟩ : ct_B D A H [oo qh qr qt qd qd2 qi qh_kept qf qf2 vh_laid qo qe qw qu qg qn qs, (qd_met, .inl (cI, 6, .inl (fd_met))), dn qd vd_gap vd_odds vd_rain vd_lines qd_steps qd_lengths qd_starts qd_met qd_stumbles vd_stumbleCount qd_muds qd_cells vd_cellCount qd_tunes vd_tuneCount qd_changes vd_changeCount] := ⟨hP, hD⟩
    have hl : lv_has ls 4 [(2, .int x607), (1, .int x606), (0, .ref qh)] := hl
    refine lv_iload_n hx hb dX11_treaties_17 rfl (lv_at hl 0 rfl) ?_
    refine lv_bipush (v := 6) hx hb dX11_treaties_18 (by decide) ?_
    refine lv_icmp_ge (tgt := 70) hx hb dX11_treaties_20 (by decide) (fun hc => ?_) (fun hc => ?_)
    · have hq609 : 6 ≤ x607.toInt := tq_le (by decide) rfl hc
      refine lv_iload_n hx hb dX11_treaties_70 rfl (lv_at hl 1 rfl) ?_
      obtain ⟨hP9, hD9⟩ : ct_B D A H [oo qh qr qt qd qd2 qi qh_kept qf qf2 vh_laid qo qe qw qu qg qn qs, dn qd vd_gap vd_odds vd_rain vd_lines qd_steps qd_lengths qd_starts qd_met qd_stumbles vd_stumbleCount qd_muds qd_cells vd_cellCount qd_tunes vd_tuneCount qd_changes vd_changeCount, (qd_met, .inl (cI, 6, .inl (fd_met)))] := ⟨hP.sub [0, 2, 1] rfl, hD.sub [0, 2, 1] (by decide) rfl⟩
      exact W.iret (v := x606) hx hb hr (fun t ht hW => ⟨⟨x606, (), rfl, trivial, by rw [ht]; exact hP9, hD9⟩, hS.F ht⟩) hS.2.2 dX11_treaties_71
    · have hq609 : x607.toInt < 6 := tq_nle (by decide) rfl hc
      refine lv_iconst (v := 0) hx hb dX11_treaties_23 (by decide) ?_
      refine lv_istore_n (lv' := [(3, .int 0), (2, .int x607), (1, .int x606), (0, .ref qh)]) hx hb dX11_treaties_24 rfl hl (by decide) rfl (fun ls hl => ?_)
      refine ct_loop (X := Int32 × Int32) (fun x => (6 - x.2.toInt).toNat) (fun x H locs ls => ((0 ≤ x.2.toInt ∧ x.2.toInt ≤ 6)) ∧ ct_B D A H [oo qh qr qt qd qd2 qi qh_kept qf qf2 vh_laid qo qe qw qu qg qn qs, (qd_met, .inl (cI, 6, .inl (fd_met))), dn qd vd_gap vd_odds vd_rain vd_lines qd_steps qd_lengths qd_starts qd_met qd_stumbles vd_stumbleCount qd_muds qd_cells vd_cellCount qd_tunes vd_tuneCount qd_changes vd_changeCount] ∧ va_S A s.heap H locs ∧ lv_has ls 4 [(3, .int x.2), (2, .int x607), (1, .int x.1), (0, .ref qh)]) 25 (x606, (0 : Int32)) ⟨(show 0 ≤ (0 : Int32).toInt ∧ (0 : Int32).toInt ≤ 6 by decide), ⟨hP, hD⟩, hS, lv_sub hl [0, 1, 2, 3] rfl⟩ (fun x ih671 H locs ls hI => ?_)
      obtain ⟨x669, x670⟩ := x
      obtain ⟨h_x670, ⟨hP, hD⟩, hS, hl⟩ := hI
      have h_x670 : (0 ≤ x670.toInt ∧ x670.toInt ≤ 6) := h_x670
      obtain ⟨hP, hD⟩ : ct_B D A H [oo qh qr qt qd qd2 qi qh_kept qf qf2 vh_laid qo qe qw qu qg qn qs, (qd_met, .inl (cI, 6, .inl (fd_met))), dn qd vd_gap vd_odds vd_rain vd_lines qd_steps qd_lengths qd_starts qd_met qd_stumbles vd_stumbleCount qd_muds qd_cells vd_cellCount qd_tunes vd_tuneCount qd_changes vd_changeCount] := ⟨hP, hD⟩
      have hl : lv_has ls 4 [(3, .int x670), (2, .int x607), (1, .int x669), (0, .ref qh)] := hl
      refine lv_iload_n hx hb dX11_treaties_25 rfl (lv_at hl 0 rfl) ?_
      refine lv_bipush (v := 6) hx hb dX11_treaties_26 (by decide) ?_
      refine lv_icmp_ge (tgt := 64) hx hb dX11_treaties_28 (by decide) (fun hc => ?_) (fun hc => ?_)
      · have hq672 : 6 ≤ x670.toInt := tq_le (by decide) rfl hc
        obtain ⟨z673, ez673⟩ : ∃ z : Int32, z = x607 + 1 := ⟨_, rfl⟩
        have fz673 : z673.toInt = x607.toInt + 1 := by rw [ez673]; exact tq_add rfl (by decide) (by omega)
        refine lv_iinc (v := z673) (lv' := [(2, .int z673), (3, .int x670), (1, .int x669), (0, .ref qh)]) hx hb dX11_treaties_64 hl (k := 1) rfl ez673.symm (by decide) rfl (fun ls hl => ?_)
        refine lv_goto (tgt := 17) hx hb dX11_treaties_67 (by decide) ?_
        exact ih608 (x669, z673) _ _ _ (show (6 - z673.toInt).toNat < (6 - x607.toInt).toNat by omega) ⟨(show 0 ≤ z673.toInt ∧ z673.toInt ≤ 6 by omega), ⟨hP, hD⟩, hS, lv_sub hl [0, 2, 3] rfl⟩
      · have hq672 : x670.toInt < 6 := tq_nle (by decide) rfl hc
        refine lv_aload_n hx hb dX11_treaties_31 rfl (lv_at hl 3 rfl) ?_
        refine va_get (D := D) (ci := 11) (v := .ref qd) (C := RX11) (T := TX11) (N := 16) hx hb hts hi11 hown hK hP 0 rfl rfl 2 (by decide) (hts (.fieldLink RX11 24 "OverHill" "now" "LOverHill$Dance;") (by decide +kernel)) (fun _ h9 => h9) rfl dX11_treaties_32 ?_
        refine lv_iload_n hx hb dX11_treaties_35 rfl (lv_at hl 1 rfl) ?_
        refine lv_iload_n hx hb dX11_treaties_36 rfl (lv_at hl 0 rfl) ?_
        refine ct_calli (D := D) (wr := [oo qh qr qt qd qd2 qi qh_kept qf qf2 vh_laid qo qe qw qu qg qn qs]) (va_runV (As := [.int x607, .int x670]) (rest := []) ⟨hx, hb, hml, hown, hts⟩ (c_X0_mayMeet l D G cI cJ cB cZ cO qd vd_gap vd_odds vd_rain vd_lines qd_steps qd_lengths qd_starts qd_met fd_met qd_stumbles vd_stumbleCount qd_muds qd_cells vd_cellCount qd_tunes vd_tuneCount qd_changes vd_changeCount x607 x670 h_vd_gap h_vd_stumbleCount h_vd_cellCount h_vd_tuneCount h_vd_changeCount (by omega) H.size) (cwV 2 hts gX11_treaties_X0_mayMeet rfl rfl rfl (by decide +kernel) ⟨Nat.le_of_ble_eq_true rfl, Nat.le_of_ble_eq_true rfl⟩) (ct_preV (T := ct_T cI cJ cB cZ cO) (ci := 0) (q0 := 2) hE hH hP hD hS hA [2, 1] (by decide) rfl rfl rfl) rfl rfl hl.1 rfl (lv_room (Nat.le_of_ble_eq_true rfl)) dX11_treaties_37 ⟨Nat.le_of_ble_eq_true rfl, Nat.le_of_ble_eq_true rfl⟩) hP hD hS hA [2, 1] [0] rfl rfl (by decide) (by decide) (fun r674 u H locs hw hP hD hS => ?_)
        obtain ⟨hP, hD⟩ : ct_B D A H [oo qh qr qt qd qd2 qi qh_kept qf qf2 vh_laid qo qe qw qu qg qn qs, dn qd vd_gap vd_odds vd_rain vd_lines qd_steps qd_lengths qd_starts qd_met qd_stumbles vd_stumbleCount qd_muds qd_cells vd_cellCount qd_tunes vd_tuneCount qd_changes vd_changeCount, (qd_met, .inl (cI, 6, .inl (fd_met)))] := ⟨hP, hD⟩
        have hz := hw
        rcases hz with ⟨hz, hz2⟩ | ⟨hz, hz2⟩
        · subst hz
          refine lv_if_eq (tgt := 58) hx hb dX11_treaties_40 (by decide) (fun hc => absurd hc (by decide)) (fun _ => ?_)
          refine lv_aload_n hx hb dX11_treaties_43 rfl (lv_at hl 3 rfl) ?_
          refine va_get (D := D) (ci := 11) (v := .ref qd) (C := RX11) (T := TX11) (N := 16) hx hb hts hi11 hown hK hP 0 rfl rfl 2 (by decide) (hts (.fieldLink RX11 24 "OverHill" "now" "LOverHill$Dance;") (by decide +kernel)) (fun _ h9 => h9) rfl dX11_treaties_44 ?_
          refine lv_iload_n hx hb dX11_treaties_47 rfl (lv_at hl 0 rfl) ?_
          refine lv_iload_n hx hb dX11_treaties_48 rfl (lv_at hl 1 rfl) ?_
          refine ct_calli (D := D) (wr := [oo qh qr qt qd qd2 qi qh_kept qf qf2 vh_laid qo qe qw qu qg qn qs]) (va_runV (As := [.int x670, .int x607]) (rest := []) ⟨hx, hb, hml, hown, hts⟩ (c_X0_mayMeet l D G cI cJ cB cZ cO qd vd_gap vd_odds vd_rain vd_lines qd_steps qd_lengths qd_starts qd_met fd_met qd_stumbles vd_stumbleCount qd_muds qd_cells vd_cellCount qd_tunes vd_tuneCount qd_changes vd_changeCount x670 x607 h_vd_gap h_vd_stumbleCount h_vd_cellCount h_vd_tuneCount h_vd_changeCount (by omega) H.size) (cwV 2 hts gX11_treaties_X0_mayMeet rfl rfl rfl (by decide +kernel) ⟨Nat.le_of_ble_eq_true rfl, Nat.le_of_ble_eq_true rfl⟩) (ct_preV (T := ct_T cI cJ cB cZ cO) (ci := 0) (q0 := 1) hE hH hP hD hS hA [1, 2] (by decide) rfl rfl rfl) rfl rfl hl.1 rfl (lv_room (Nat.le_of_ble_eq_true rfl)) dX11_treaties_49 ⟨Nat.le_of_ble_eq_true rfl, Nat.le_of_ble_eq_true rfl⟩) hP hD hS hA [1, 2] [0] rfl rfl (by decide) (by decide) (fun r675 u H locs hw hP hD hS => ?_)
          obtain ⟨hP, hD⟩ : ct_B D A H [oo qh qr qt qd qd2 qi qh_kept qf qf2 vh_laid qo qe qw qu qg qn qs, dn qd vd_gap vd_odds vd_rain vd_lines qd_steps qd_lengths qd_starts qd_met qd_stumbles vd_stumbleCount qd_muds qd_cells vd_cellCount qd_tunes vd_tuneCount qd_changes vd_changeCount, (qd_met, .inl (cI, 6, .inl (fd_met)))] := ⟨hP, hD⟩
          have hz := hw
          rcases hz with ⟨hz, hz2⟩ | ⟨hz, hz2⟩
          · subst hz
            refine lv_if_eq (tgt := 58) hx hb dX11_treaties_52 (by decide) (fun hc => absurd hc (by decide)) (fun _ => ?_)
            obtain ⟨z676, ez676⟩ : ∃ z : Int32, z = x669 + 1 := ⟨_, rfl⟩
            refine lv_iinc (v := z676) (lv' := [(1, .int z676), (3, .int x670), (2, .int x607), (0, .ref qh)]) hx hb dX11_treaties_55 hl (k := 2) rfl ez676.symm (by decide) rfl (fun ls hl => ?_)
            obtain ⟨z677, ez677⟩ : ∃ z : Int32, z = x670 + 1 := ⟨_, rfl⟩
            have fz677 : z677.toInt = x670.toInt + 1 := by rw [ez677]; exact tq_add rfl (by decide) (by omega)
            refine lv_iinc (v := z677) (lv' := [(3, .int z677), (1, .int z676), (2, .int x607), (0, .ref qh)]) hx hb dX11_treaties_58 hl (k := 1) rfl ez677.symm (by decide) rfl (fun ls hl => ?_)
            refine lv_goto (tgt := 25) hx hb dX11_treaties_61 (by decide) ?_
            obtain ⟨hP9, hD9⟩ : ct_B D A H [oo qh qr qt qd qd2 qi qh_kept qf qf2 vh_laid qo qe qw qu qg qn qs, (qd_met, .inl (cI, 6, .inl (fd_met))), dn qd vd_gap vd_odds vd_rain vd_lines qd_steps qd_lengths qd_starts qd_met qd_stumbles vd_stumbleCount qd_muds qd_cells vd_cellCount qd_tunes vd_tuneCount qd_changes vd_changeCount] := ⟨hP.sub [0, 2, 1] rfl, hD.sub [0, 2, 1] (by decide) rfl⟩
            exact ih671 (z676, z677) _ _ _ (show (6 - z677.toInt).toNat < (6 - x670.toInt).toNat by omega) ⟨(show 0 ≤ z677.toInt ∧ z677.toInt ≤ 6 by omega), ⟨hP9, hD9⟩, hS, lv_sub hl [0, 2, 1, 3] rfl⟩
          · subst hz
            refine lv_if_eq (tgt := 58) hx hb dX11_treaties_52 (by decide) (fun _ => ?_) (fun hc => absurd hc (by decide))
            obtain ⟨z678, ez678⟩ : ∃ z : Int32, z = x670 + 1 := ⟨_, rfl⟩
            have fz678 : z678.toInt = x670.toInt + 1 := by rw [ez678]; exact tq_add rfl (by decide) (by omega)
            refine lv_iinc (v := z678) (lv' := [(3, .int z678), (2, .int x607), (1, .int x669), (0, .ref qh)]) hx hb dX11_treaties_58 hl (k := 0) rfl ez678.symm (by decide) rfl (fun ls hl => ?_)
            refine lv_goto (tgt := 25) hx hb dX11_treaties_61 (by decide) ?_
            obtain ⟨hP9, hD9⟩ : ct_B D A H [oo qh qr qt qd qd2 qi qh_kept qf qf2 vh_laid qo qe qw qu qg qn qs, (qd_met, .inl (cI, 6, .inl (fd_met))), dn qd vd_gap vd_odds vd_rain vd_lines qd_steps qd_lengths qd_starts qd_met qd_stumbles vd_stumbleCount qd_muds qd_cells vd_cellCount qd_tunes vd_tuneCount qd_changes vd_changeCount] := ⟨hP.sub [0, 2, 1] rfl, hD.sub [0, 2, 1] (by decide) rfl⟩
            exact ih671 (x669, z678) _ _ _ (show (6 - z678.toInt).toNat < (6 - x670.toInt).toNat by omega) ⟨(show 0 ≤ z678.toInt ∧ z678.toInt ≤ 6 by omega), ⟨hP9, hD9⟩, hS, lv_sub hl [0, 1, 2, 3] rfl⟩
        · subst hz
          refine lv_if_eq (tgt := 58) hx hb dX11_treaties_40 (by decide) (fun _ => ?_) (fun hc => absurd hc (by decide))
          obtain ⟨z679, ez679⟩ : ∃ z : Int32, z = x670 + 1 := ⟨_, rfl⟩
          have fz679 : z679.toInt = x670.toInt + 1 := by rw [ez679]; exact tq_add rfl (by decide) (by omega)
          refine lv_iinc (v := z679) (lv' := [(3, .int z679), (2, .int x607), (1, .int x669), (0, .ref qh)]) hx hb dX11_treaties_58 hl (k := 0) rfl ez679.symm (by decide) rfl (fun ls hl => ?_)
          refine lv_goto (tgt := 25) hx hb dX11_treaties_61 (by decide) ?_
          obtain ⟨hP9, hD9⟩ : ct_B D A H [oo qh qr qt qd qd2 qi qh_kept qf qf2 vh_laid qo qe qw qu qg qn qs, (qd_met, .inl (cI, 6, .inl (fd_met))), dn qd vd_gap vd_odds vd_rain vd_lines qd_steps qd_lengths qd_starts qd_met qd_stumbles vd_stumbleCount qd_muds qd_cells vd_cellCount qd_tunes vd_tuneCount qd_changes vd_changeCount] := ⟨hP.sub [0, 2, 1] rfl, hD.sub [0, 2, 1] (by decide) rfl⟩
          exact ih671 (x669, z679) _ _ _ (show (6 - z679.toInt).toNat < (6 - x670.toInt).toNat by omega) ⟨(show 0 ≤ z679.toInt ∧ z679.toInt ≤ 6 by omega), ⟨hP9, hD9⟩, hS, lv_sub hl [0, 1, 2, 3] rfl⟩
  · subst hz
    have hz_680 : ¬ (0 < vd_lines.toInt) := hz2
    refine lv_if_ne (tgt := 13) hx hb dX11_treaties_7 (by decide) (fun hc => absurd hc (by decide)) (fun _ => ?_)
    refine lv_bipush (v := (-2)) hx hb dX11_treaties_10 (by decide) ?_
    obtain ⟨hP9, hD9⟩ : ct_B D A H [oo qh qr qt qd qd2 qi qh_kept qf qf2 vh_laid qo qe qw qu qg qn qs, dn qd vd_gap vd_odds vd_rain vd_lines qd_steps qd_lengths qd_starts qd_met qd_stumbles vd_stumbleCount qd_muds qd_cells vd_cellCount qd_tunes vd_tuneCount qd_changes vd_changeCount, (qd_met, .inl (cI, 6, .inl (fd_met)))] := ⟨hP.sub [0, 2, 1] rfl, hD.sub [0, 2, 1] (by decide) rfl⟩
    exact W.iret (v := (-2)) hx hb hr (fun t ht hW => ⟨⟨(-2), (), rfl, trivial, by rw [ht]; exact hP9, hD9⟩, hS.F ht⟩) hS.2.2 dX11_treaties_12
abbrev w_c_X11_leads (cI cJ cB cZ cO : ClassId) (qh : Nat) (qh_kept : Nat) (vh_laid : Int32) (qi : Nat) (qr : Nat) (qt : Nat) (qd : Nat) (vd_gap : Int32) (vd_odds : Int32) (vd_rain : Int32) (vd_lines : Int32) (qd_steps : Nat) (qd_lengths : Nat) (qd_starts : Nat) (qd_met : Nat) (fd_met : Nat → Int32) (qd_stumbles : Nat) (vd_stumbleCount : Int32) (qd_muds : Nat) (qd_cells : Nat) (vd_cellCount : Int32) (qd_tunes : Nat) (vd_tuneCount : Int32) (qd_changes : Nat) (vd_changeCount : Int32) (qd2 : Nat) (qf : Nat) (qf2 : Nat) (qo : Nat) (qe : Nat) (qw : Nat) (qu : Nat) (qg : Nat) (qn : Nat) (qs : Nat) : va_W := [oo qh qr qt qd qd2 qi qh_kept qf qf2 vh_laid qo qe qw qu qg qn qs, dn qd vd_gap vd_odds vd_rain vd_lines qd_steps qd_lengths qd_starts qd_met qd_stumbles vd_stumbleCount qd_muds qd_cells vd_cellCount qd_tunes vd_tuneCount qd_changes vd_changeCount, (qd_met, .inl (cI, 6, .inl (fd_met)))]
set_option maxHeartbeats 4000000 in
set_option maxRecDepth 100000 in
/-- X11 leads -/
theorem c_X11_leads (l : Launch) (D : va_G) (G : ct_G) (cI cJ cB cZ cO : ClassId) (qh : Nat) (qh_kept : Nat) (vh_laid : Int32) (qi : Nat) (qr : Nat) (qt : Nat) (qd : Nat) (vd_gap : Int32) (vd_odds : Int32) (vd_rain : Int32) (vd_lines : Int32) (qd_steps : Nat) (qd_lengths : Nat) (qd_starts : Nat) (qd_met : Nat) (fd_met : Nat → Int32) (qd_stumbles : Nat) (vd_stumbleCount : Int32) (qd_muds : Nat) (qd_cells : Nat) (vd_cellCount : Int32) (qd_tunes : Nat) (vd_tuneCount : Int32) (qd_changes : Nat) (vd_changeCount : Int32) (qd2 : Nat) (qf : Nat) (qf2 : Nat) (qo : Nat) (qe : Nat) (qw : Nat) (qu : Nat) (qg : Nat) (qn : Nat) (qs : Nat) (a1 : Int32) (h_vd_gap : 0 ≤ vd_gap.toInt ∧ vd_gap.toInt ≤ 20) (h_vd_stumbleCount : 0 ≤ vd_stumbleCount.toInt ∧ vd_stumbleCount.toInt ≤ 8) (h_vd_cellCount : 0 ≤ vd_cellCount.toInt ∧ vd_cellCount.toInt ≤ 12) (h_vd_tuneCount : 0 ≤ vd_tuneCount.toInt ∧ vd_tuneCount.toInt ≤ 5) (h_vd_changeCount : 0 ≤ vd_changeCount.toInt ∧ vd_changeCount.toInt ≤ 40) (sz : Nat) : Met l yX11_leads wsX11_leads ({ frames := 1, cells := 0, slots := 0, locals := 21 }) (va_Pc [.ref qh, .int a1] (ct_P D (ct_T cI cJ cB cZ cO) G (w_c_X11_leads cI cJ cB cZ cO qh qh_kept vh_laid qi qr qt qd vd_gap vd_odds vd_rain vd_lines qd_steps qd_lengths qd_starts qd_met fd_met qd_stumbles vd_stumbleCount qd_muds qd_cells vd_cellCount qd_tunes vd_tuneCount qd_changes vd_changeCount qd2 qf qf2 qo qe qw qu qg qn qs) sz)) (va_Qi (fun (rz : Int32) (u : Unit) => ((-2) ≤ rz.toInt ∧ rz.toInt ≤ 5)) (fun (u : Unit) t => ct_Q D (va_A (w_c_X11_leads cI cJ cB cZ cO qh qh_kept vh_laid qi qr qt qd vd_gap vd_odds vd_rain vd_lines qd_steps qd_lengths qd_starts qd_met fd_met qd_stumbles vd_stumbleCount qd_muds qd_cells vd_cellCount qd_tunes vd_tuneCount qd_changes vd_changeCount qd2 qf qf2 qo qe qw qu qg qn qs) sz) [oo qh qr qt qd qd2 qi qh_kept qf qf2 vh_laid qo qe qw qu qg qn qs, dn qd vd_gap vd_odds vd_rain vd_lines qd_steps qd_lengths qd_starts qd_met qd_stumbles vd_stumbleCount qd_muds qd_cells vd_cellCount qd_tunes vd_tuneCount qd_changes vd_changeCount, (qd_met, .inl (cI, 6, .inl (fd_met)))] t) (va_A (w_c_X11_leads cI cJ cB cZ cO qh qh_kept vh_laid qi qr qt qd vd_gap vd_odds vd_rain vd_lines qd_steps qd_lengths qd_starts qd_met fd_met qd_stumbles vd_stumbleCount qd_muds qd_cells vd_cellCount qd_tunes vd_tuneCount qd_changes vd_changeCount qd2 qf qf2 qo qe qw qu qg qn qs) sz)) 0 0 (va_A (w_c_X11_leads cI cJ cB cZ cO qh qh_kept vh_laid qi qr qt qd vd_gap vd_odds vd_rain vd_lines qd_steps qd_lengths qd_starts qd_met fd_met qd_stumbles vd_stumbleCount qd_muds qd_cells vd_cellCount qd_tunes vd_tuneCount qd_changes vd_changeCount qd2 qf qf2 qo qe qw qu qg qn qs) sz) := by
  refine Met.ofW (cc := cX11_leads) (maxL := 5) (ret := (some .int)) (by decide) rfl ?_
  intro p e s m args below meth c s₁ B hml hv
  obtain ⟨rfl, hsz, hP, hE, hD0, hH⟩ := hv
  have hx := B.exec
  have hb := B.bytes
  have hr := B.returns
  have hts := atoms_spec (ws := wsX11_leads) B.pre
  have hown : s.vm.findClass RX11 = some m.cls := findClass_of_methodNamed B.named
  have hlocks := B.notSynchronized
  have hK := hE.1
  have hi0 : ∀ w ∈ u_ws RX0 TX0 17, w ∈ wsX11_leads := fun w h => List.mem_cons_of_mem _ (List.mem_append_right _ h)
  have hi11 : ∀ w ∈ u_ws RX11 TX11 16, w ∈ wsX11_leads := fun w h => List.mem_cons_of_mem _ (List.mem_append_left _ (List.mem_append_right _ h))
  subst hsz
  have hD := hD0.self (sz := s.heap.size)
  generalize hAe : va_A (w_c_X11_leads cI cJ cB cZ cO qh qh_kept vh_laid qi qr qt qd vd_gap vd_odds vd_rain vd_lines qd_steps qd_lengths qd_starts qd_met fd_met qd_stumbles vd_stumbleCount qd_muds qd_cells vd_cellCount qd_tunes vd_tuneCount qd_changes vd_changeCount qd2 qf qf2 qo qe qw qu qg qn qs) s.heap.size = A at hD hH ⊢
  have hA : ∀ q : Nat, s.heap.size ≤ q → A q := fun q h => by rw [← hAe]; exact Or.inr h
  have hS : va_S A s.heap s.heap [] := va_S.rf
  obtain ⟨hP, hD⟩ : ct_B D A s.heap [oo qh qr qt qd qd2 qi qh_kept qf qf2 vh_laid qo qe qw qu qg qn qs, dn qd vd_gap vd_odds vd_rain vd_lines qd_steps qd_lengths qd_starts qd_met qd_stumbles vd_stumbleCount qd_muds qd_cells vd_cellCount qd_tunes vd_tuneCount qd_changes vd_changeCount, (qd_met, .inl (cI, 6, .inl (fd_met)))] := ⟨hP, hD⟩
  have hl := lv_entry ([.ref qh, .int a1]) (n := 5) (Nat.le_of_ble_eq_true rfl)
  rw [lg_entry_eq]
  generalize (lg_sl ([.ref qh, .int a1]) ++ List.replicate (5 - (lg_sl ([.ref qh, .int a1])).length) Slot.unset).toArray = ls at hl ⊢
  have hl : lv_has ls 5 [(0, .ref qh), (1, .int a1)] := hl
  obtain ⟨H, hHe⟩ : ∃ H : Heap, H = s.heap := ⟨_, rfl⟩
  rw [← hHe] at hP
  have hS : va_S A s.heap H [] := by rw [hHe]; exact va_S.rf
  refine ct_start hHe ?_
  refine lv_aload_n hx hb dX11_leads_0 rfl (lv_at hl 0 rfl) ?_
  refine va_get (D := D) (ci := 11) (v := .ref qd) (C := RX11) (T := TX11) (N := 16) hx hb hts hi11 hown hK hP 0 rfl rfl 2 (by decide) (hts (.fieldLink RX11 24 "OverHill" "now" "LOverHill$Dance;") (by decide +kernel)) (fun _ h9 => h9) rfl dX11_leads_1 ?_
  refine ct_calli (D := D) (wr := [oo qh qr qt qd qd2 qi qh_kept qf qf2 vh_laid qo qe qw qu qg qn qs, (qd_met, .inl (cI, 6, .inl (fd_met)))]) (va_runV (As := []) (rest := []) ⟨hx, hb, hml, hown, hts⟩ (c_X0_stands l D G cI cJ cB cZ cO qd vd_gap vd_odds vd_rain vd_lines qd_steps qd_lengths qd_starts qd_met qd_stumbles vd_stumbleCount qd_muds qd_cells vd_cellCount qd_tunes vd_tuneCount qd_changes vd_changeCount h_vd_gap h_vd_stumbleCount h_vd_cellCount h_vd_tuneCount h_vd_changeCount H.size) (cwV 0 hts gX11_leads_X0_stands rfl rfl rfl (by decide +kernel) ⟨Nat.le_of_ble_eq_true rfl, Nat.le_of_ble_eq_true rfl⟩) (ct_preV (T := ct_T cI cJ cB cZ cO) (ci := 0) (q0 := 1) hE hH hP hD hS hA [1] (by decide) rfl rfl rfl) rfl rfl hl.1 rfl (lv_room (Nat.le_of_ble_eq_true rfl)) dX11_leads_4 ⟨Nat.le_of_ble_eq_true rfl, Nat.le_of_ble_eq_true rfl⟩) hP hD hS hA [1] [0, 2] rfl rfl (by decide) (by decide) (fun r1 u H locs hw hP hD hS => ?_)
  obtain ⟨hP, hD⟩ : ct_B D A H [oo qh qr qt qd qd2 qi qh_kept qf qf2 vh_laid qo qe qw qu qg qn qs, (qd_met, .inl (cI, 6, .inl (fd_met))), dn qd vd_gap vd_odds vd_rain vd_lines qd_steps qd_lengths qd_starts qd_met qd_stumbles vd_stumbleCount qd_muds qd_cells vd_cellCount qd_tunes vd_tuneCount qd_changes vd_changeCount] := ⟨hP, hD⟩
  have hz := hw
  rcases hz with ⟨hz, hz2⟩ | ⟨hz, hz2⟩
  · subst hz
    have hz_2 : (0 < vd_lines.toInt) := hz2
    refine lv_if_eq (tgt := 18) hx hb dX11_leads_7 (by decide) (fun hc => absurd hc (by decide)) (fun _ => ?_)
    refine lv_iload_n hx hb dX11_leads_10 rfl (lv_at hl 1 rfl) ?_
    refine lv_iconst (v := 2) hx hb dX11_leads_11 (by decide) ?_
    refine ct_calli (D := D) (wr := [oo qh qr qt qd qd2 qi qh_kept qf qf2 vh_laid qo qe qw qu qg qn qs, (qd_met, .inl (cI, 6, .inl (fd_met))), dn qd vd_gap vd_odds vd_rain vd_lines qd_steps qd_lengths qd_starts qd_met qd_stumbles vd_stumbleCount qd_muds qd_cells vd_cellCount qd_tunes vd_tuneCount qd_changes vd_changeCount]) (va_runS (As := [.int a1, .int 2]) (rest := []) ⟨hx, hb, hml, hown, hts⟩ (c_X11_isWithin l D G cI cJ cB cZ cO a1 2  H.size) (va_cwS 2 hts gX11_leads_X11_isWithin rfl rfl rfl (by decide +kernel) ⟨Nat.le_of_ble_eq_true rfl, Nat.le_of_ble_eq_true rfl⟩) (ct_preS (T := ct_T cI cJ cB cZ cO) hE hH hP hD hS hA [] (by decide) rfl) rfl rfl hl.1 rfl (lv_room (Nat.le_of_ble_eq_true rfl)) dX11_leads_12 ⟨Nat.le_of_ble_eq_true rfl, Nat.le_of_ble_eq_true rfl⟩) hP hD hS hA [] [0, 1, 2] rfl rfl (by decide) (by decide) (fun r3 u H locs hw hP hD hS => ?_)
    obtain ⟨hP, hD⟩ : ct_B D A H [oo qh qr qt qd qd2 qi qh_kept qf qf2 vh_laid qo qe qw qu qg qn qs, (qd_met, .inl (cI, 6, .inl (fd_met))), dn qd vd_gap vd_odds vd_rain vd_lines qd_steps qd_lengths qd_starts qd_met qd_stumbles vd_stumbleCount qd_muds qd_cells vd_cellCount qd_tunes vd_tuneCount qd_changes vd_changeCount] := ⟨hP, hD⟩
    have hk4 : (2 : Int32).toInt = 2 := by decide
    have hz := hw
    rcases hz with ⟨hz, hz2⟩ | ⟨hz, hz2⟩
    · subst hz
      have hz_5 : (0 ≤ a1.toInt ∧ a1.toInt < (2 : Int32).toInt) := hz2
      refine lv_if_ne (tgt := 21) hx hb dX11_leads_15 (by decide) (fun _ => ?_) (fun hc => absurd hc (by decide))
      refine lv_iload_n hx hb dX11_leads_21 rfl (lv_at hl 1 rfl) ?_
      refine lv_if_ne (tgt := 29) hx hb dX11_leads_22 (by decide) (fun hc => ?_) (fun hc => ?_)
      · have hq6 : a1.toInt ≠ 0 := tq_ne rfl (by decide) hc
        refine lv_iconst (v := (-1)) hx hb dX11_leads_29 (by decide) ?_
        refine lv_istore_n (lv' := [(2, .int (-1)), (0, .ref qh), (1, .int a1)]) hx hb dX11_leads_30 rfl hl (by decide) rfl (fun ls hl => ?_)
        refine lv_iconst (v := 0) hx hb dX11_leads_31 (by decide) ?_
        refine lv_istore_n (lv' := [(3, .int 0), (2, .int (-1)), (0, .ref qh), (1, .int a1)]) hx hb dX11_leads_32 rfl hl (by decide) rfl (fun ls hl => ?_)
        refine lv_iconst (v := 1) hx hb dX11_leads_33 (by decide) ?_
        refine lv_istore (lv' := [(4, .int 1), (3, .int 0), (2, .int (-1)), (0, .ref qh), (1, .int a1)]) hx hb dX11_leads_34 hl (by decide) rfl (fun ls hl => ?_)
        refine ct_loop (X := Int32 × Int32) (fun x => (6 - x.2.toInt).toNat) (fun x H locs ls => ((0 ≤ x.1.toInt ∧ x.1.toInt ≤ 5)) ∧ ((1 ≤ x.2.toInt ∧ x.2.toInt ≤ 6)) ∧ ct_B D A H [oo qh qr qt qd qd2 qi qh_kept qf qf2 vh_laid qo qe qw qu qg qn qs, (qd_met, .inl (cI, 6, .inl (fd_met))), dn qd vd_gap vd_odds vd_rain vd_lines qd_steps qd_lengths qd_starts qd_met qd_stumbles vd_stumbleCount qd_muds qd_cells vd_cellCount qd_tunes vd_tuneCount qd_changes vd_changeCount] ∧ va_S A s.heap H locs ∧ lv_has ls 5 [(4, .int x.2), (3, .int x.1), (2, .int (-1)), (0, .ref qh), (1, .int a1)]) 36 ((0 : Int32), (1 : Int32)) ⟨(show 0 ≤ (0 : Int32).toInt ∧ (0 : Int32).toInt ≤ 5 by decide), (show 1 ≤ (1 : Int32).toInt ∧ (1 : Int32).toInt ≤ 6 by decide), ⟨hP, hD⟩, hS, lv_sub hl [0, 1, 2, 3, 4] rfl⟩ (fun x ih88 H locs ls hI => ?_)
        obtain ⟨x86, x87⟩ := x
        obtain ⟨h_x86, h_x87, ⟨hP, hD⟩, hS, hl⟩ := hI
        have h_x86 : (0 ≤ x86.toInt ∧ x86.toInt ≤ 5) := h_x86
        have h_x87 : (1 ≤ x87.toInt ∧ x87.toInt ≤ 6) := h_x87
        obtain ⟨hP, hD⟩ : ct_B D A H [oo qh qr qt qd qd2 qi qh_kept qf qf2 vh_laid qo qe qw qu qg qn qs, (qd_met, .inl (cI, 6, .inl (fd_met))), dn qd vd_gap vd_odds vd_rain vd_lines qd_steps qd_lengths qd_starts qd_met qd_stumbles vd_stumbleCount qd_muds qd_cells vd_cellCount qd_tunes vd_tuneCount qd_changes vd_changeCount] := ⟨hP, hD⟩
        have hl : lv_has ls 5 [(4, .int x87), (3, .int x86), (2, .int (-1)), (0, .ref qh), (1, .int a1)] := hl
        refine lv_iload hx hb dX11_leads_36 (lv_at hl 0 rfl) ?_
        refine lv_bipush (v := 6) hx hb dX11_leads_38 (by decide) ?_
        refine lv_icmp_ge (tgt := 84) hx hb dX11_leads_40 (by decide) (fun hc => ?_) (fun hc => ?_)
        · have hq89 : 6 ≤ x87.toInt := tq_le (by decide) rfl hc
          refine lv_iload_n hx hb dX11_leads_84 rfl (lv_at hl 1 rfl) ?_
          obtain ⟨hP9, hD9⟩ : ct_B D A H [oo qh qr qt qd qd2 qi qh_kept qf qf2 vh_laid qo qe qw qu qg qn qs, dn qd vd_gap vd_odds vd_rain vd_lines qd_steps qd_lengths qd_starts qd_met qd_stumbles vd_stumbleCount qd_muds qd_cells vd_cellCount qd_tunes vd_tuneCount qd_changes vd_changeCount, (qd_met, .inl (cI, 6, .inl (fd_met)))] := ⟨hP.sub [0, 2, 1] rfl, hD.sub [0, 2, 1] (by decide) rfl⟩
          exact W.iret (v := x86) hx hb hr (fun t ht hW => ⟨⟨x86, (), rfl, (show (-2) ≤ x86.toInt ∧ x86.toInt ≤ 5 by omega), by rw [ht]; exact hP9, hD9⟩, hS.F ht⟩) hS.2.2 dX11_leads_85
        · have hq89 : x87.toInt < 6 := tq_nle (by decide) rfl hc
          refine lv_iload_n hx hb dX11_leads_43 rfl (lv_at hl 2 rfl) ?_
          refine lv_aload_n hx hb dX11_leads_44 rfl (lv_at hl 3 rfl) ?_
          refine va_get (D := D) (ci := 11) (v := .ref qd) (C := RX11) (T := TX11) (N := 16) hx hb hts hi11 hown hK hP 0 rfl rfl 2 (by decide) (hts (.fieldLink RX11 24 "OverHill" "now" "LOverHill$Dance;") (by decide +kernel)) (fun _ h9 => h9) rfl dX11_leads_45 ?_
          refine va_get (D := D) (ci := 0) (v := .ref qd_met) (C := RX0) (T := TX0) (N := 17) hx hb hts hi0 hown hK hP 2 rfl rfl 7 (by decide) (hts (.fieldLink RX11 144 "OverHill$Dance" "met" "[I") (by decide +kernel)) (fun _ h9 => h9) rfl dX11_leads_48 ?_
          refine lv_iload hx hb dX11_leads_51 (lv_at hl 0 rfl) ?_
          refine va_iald (D := D) hx hb hK hP 1 0 rfl rfl (tq_in rfl (by omega)) dX11_leads_53 ?_
          refine lv_topi (fun z90 ez90 => ?_)
          refine ct_calli (D := D) (wr := [oo qh qr qt qd qd2 qi qh_kept qf qf2 vh_laid qo qe qw qu qg qn qs, (qd_met, .inl (cI, 6, .inl (fd_met))), dn qd vd_gap vd_odds vd_rain vd_lines qd_steps qd_lengths qd_starts qd_met qd_stumbles vd_stumbleCount qd_muds qd_cells vd_cellCount qd_tunes vd_tuneCount qd_changes vd_changeCount]) (va_runS (As := [.int z90]) (rest := [.int (-1)]) ⟨hx, hb, hml, hown, hts⟩ (c_J6_bitCount_0f7a4 l D G cI cJ cB cZ cO z90  H.size) (va_cwS 1 hts gX11_leads_J6_bitCount_0f7a4 rfl rfl rfl (by decide +kernel) ⟨Nat.le_of_ble_eq_true rfl, Nat.le_of_ble_eq_true rfl⟩) (ct_preS (T := ct_T cI cJ cB cZ cO) hE hH hP hD hS hA [] (by decide) rfl) rfl rfl hl.1 rfl (lv_room (Nat.le_of_ble_eq_true rfl)) dX11_leads_54 ⟨Nat.le_of_ble_eq_true rfl, Nat.le_of_ble_eq_true rfl⟩) hP hD hS hA [] [0, 1, 2] rfl rfl (by decide) (by decide) (fun r91 u H locs hw hP hD hS => ?_)
          obtain ⟨hP, hD⟩ : ct_B D A H [oo qh qr qt qd qd2 qi qh_kept qf qf2 vh_laid qo qe qw qu qg qn qs, (qd_met, .inl (cI, 6, .inl (fd_met))), dn qd vd_gap vd_odds vd_rain vd_lines qd_steps qd_lengths qd_starts qd_met qd_stumbles vd_stumbleCount qd_muds qd_cells vd_cellCount qd_tunes vd_tuneCount qd_changes vd_changeCount] := ⟨hP, hD⟩
          have hz := hw
          have h_r91 : 0 ≤ r91.toInt ∧ r91.toInt ≤ 63 := hz
          refine lv_imul hx hb dX11_leads_57 ?_
          refine lv_topi (fun z92 ez92 => ?_)
          have fz92 : z92.toInt = (-1) * r91.toInt := by rw [ez92]; exact tq_mul (by decide) rfl (by omega)
          refine lv_iload_n hx hb dX11_leads_58 rfl (lv_at hl 2 rfl) ?_
          refine lv_aload_n hx hb dX11_leads_59 rfl (lv_at hl 3 rfl) ?_
          refine va_get (D := D) (ci := 11) (v := .ref qd) (C := RX11) (T := TX11) (N := 16) hx hb hts hi11 hown hK hP 0 rfl rfl 2 (by decide) (hts (.fieldLink RX11 24 "OverHill" "now" "LOverHill$Dance;") (by decide +kernel)) (fun _ h9 => h9) rfl dX11_leads_60 ?_
          refine va_get (D := D) (ci := 0) (v := .ref qd_met) (C := RX0) (T := TX0) (N := 17) hx hb hts hi0 hown hK hP 2 rfl rfl 7 (by decide) (hts (.fieldLink RX11 144 "OverHill$Dance" "met" "[I") (by decide +kernel)) (fun _ h9 => h9) rfl dX11_leads_63 ?_
          refine lv_iload_n hx hb dX11_leads_66 rfl (lv_at hl 1 rfl) ?_
          refine va_iald (D := D) hx hb hK hP 1 0 rfl rfl (tq_in rfl (by omega)) dX11_leads_67 ?_
          refine lv_topi (fun z93 ez93 => ?_)
          refine ct_calli (D := D) (wr := [oo qh qr qt qd qd2 qi qh_kept qf qf2 vh_laid qo qe qw qu qg qn qs, (qd_met, .inl (cI, 6, .inl (fd_met))), dn qd vd_gap vd_odds vd_rain vd_lines qd_steps qd_lengths qd_starts qd_met qd_stumbles vd_stumbleCount qd_muds qd_cells vd_cellCount qd_tunes vd_tuneCount qd_changes vd_changeCount]) (va_runS (As := [.int z93]) (rest := [.int (-1), .int z92]) ⟨hx, hb, hml, hown, hts⟩ (c_J6_bitCount_0f7a4 l D G cI cJ cB cZ cO z93  H.size) (va_cwS 1 hts gX11_leads_J6_bitCount_0f7a4 rfl rfl rfl (by decide +kernel) ⟨Nat.le_of_ble_eq_true rfl, Nat.le_of_ble_eq_true rfl⟩) (ct_preS (T := ct_T cI cJ cB cZ cO) hE hH hP hD hS hA [] (by decide) rfl) rfl rfl hl.1 rfl (lv_room (Nat.le_of_ble_eq_true rfl)) dX11_leads_68 ⟨Nat.le_of_ble_eq_true rfl, Nat.le_of_ble_eq_true rfl⟩) hP hD hS hA [] [0, 1, 2] rfl rfl (by decide) (by decide) (fun r94 u H locs hw hP hD hS => ?_)
          obtain ⟨hP, hD⟩ : ct_B D A H [oo qh qr qt qd qd2 qi qh_kept qf qf2 vh_laid qo qe qw qu qg qn qs, (qd_met, .inl (cI, 6, .inl (fd_met))), dn qd vd_gap vd_odds vd_rain vd_lines qd_steps qd_lengths qd_starts qd_met qd_stumbles vd_stumbleCount qd_muds qd_cells vd_cellCount qd_tunes vd_tuneCount qd_changes vd_changeCount] := ⟨hP, hD⟩
          have hz := hw
          have h_r94 : 0 ≤ r94.toInt ∧ r94.toInt ≤ 63 := hz
          refine lv_imul hx hb dX11_leads_71 ?_
          refine lv_topi (fun z95 ez95 => ?_)
          have fz95 : z95.toInt = (-1) * r94.toInt := by rw [ez95]; exact tq_mul (by decide) rfl (by omega)
          refine lv_icmp_le (tgt := 78) hx hb dX11_leads_72 (by decide) (fun hc => ?_) (fun hc => ?_)
          · have hq96 : z92.toInt ≤ z95.toInt := tq_le rfl rfl hc
            obtain ⟨z97, ez97⟩ : ∃ z : Int32, z = x87 + 1 := ⟨_, rfl⟩
            have fz97 : z97.toInt = x87.toInt + 1 := by rw [ez97]; exact tq_add rfl (by decide) (by omega)
            refine lv_iinc (v := z97) (lv' := [(4, .int z97), (3, .int x86), (2, .int (-1)), (0, .ref qh), (1, .int a1)]) hx hb dX11_leads_78 hl (k := 0) rfl ez97.symm (by decide) rfl (fun ls hl => ?_)
            refine lv_goto (tgt := 36) hx hb dX11_leads_81 (by decide) ?_
            exact ih88 (x86, z97) _ _ _ (show (6 - z97.toInt).toNat < (6 - x87.toInt).toNat by omega) ⟨h_x86, (show 1 ≤ z97.toInt ∧ z97.toInt ≤ 6 by omega), ⟨hP, hD⟩, hS, lv_sub hl [0, 1, 2, 3, 4] rfl⟩
          · have hq96 : z95.toInt < z92.toInt := tq_nle rfl rfl hc
            refine lv_iload hx hb dX11_leads_75 (lv_at hl 0 rfl) ?_
            refine lv_istore_n (lv' := [(3, .int x87), (4, .int x87), (2, .int (-1)), (0, .ref qh), (1, .int a1)]) hx hb dX11_leads_77 rfl hl (by decide) rfl (fun ls hl => ?_)
            obtain ⟨z98, ez98⟩ : ∃ z : Int32, z = x87 + 1 := ⟨_, rfl⟩
            have fz98 : z98.toInt = x87.toInt + 1 := by rw [ez98]; exact tq_add rfl (by decide) (by omega)
            refine lv_iinc (v := z98) (lv' := [(4, .int z98), (3, .int x87), (2, .int (-1)), (0, .ref qh), (1, .int a1)]) hx hb dX11_leads_78 hl (k := 1) rfl ez98.symm (by decide) rfl (fun ls hl => ?_)
            refine lv_goto (tgt := 36) hx hb dX11_leads_81 (by decide) ?_
            exact ih88 (x87, z98) _ _ _ (show (6 - z98.toInt).toNat < (6 - x87.toInt).toNat by omega) ⟨(show 0 ≤ x87.toInt ∧ x87.toInt ≤ 5 by omega), (show 1 ≤ z98.toInt ∧ z98.toInt ≤ 6 by omega), ⟨hP, hD⟩, hS, lv_sub hl [0, 1, 2, 3, 4] rfl⟩
      · have hq6 : a1.toInt = 0 := tq_eq rfl (by decide) hc
        refine lv_iconst (v := 1) hx hb dX11_leads_25 (by decide) ?_
        refine lv_goto (tgt := 30) hx hb dX11_leads_26 (by decide) ?_
        refine lv_istore_n (lv' := [(2, .int 1), (0, .ref qh), (1, .int a1)]) hx hb dX11_leads_30 rfl hl (by decide) rfl (fun ls hl => ?_)
        refine lv_iconst (v := 0) hx hb dX11_leads_31 (by decide) ?_
        refine lv_istore_n (lv' := [(3, .int 0), (2, .int 1), (0, .ref qh), (1, .int a1)]) hx hb dX11_leads_32 rfl hl (by decide) rfl (fun ls hl => ?_)
        refine lv_iconst (v := 1) hx hb dX11_leads_33 (by decide) ?_
        refine lv_istore (lv' := [(4, .int 1), (3, .int 0), (2, .int 1), (0, .ref qh), (1, .int a1)]) hx hb dX11_leads_34 hl (by decide) rfl (fun ls hl => ?_)
        refine ct_loop (X := Int32 × Int32) (fun x => (6 - x.2.toInt).toNat) (fun x H locs ls => ((0 ≤ x.1.toInt ∧ x.1.toInt ≤ 5)) ∧ ((1 ≤ x.2.toInt ∧ x.2.toInt ≤ 6)) ∧ ct_B D A H [oo qh qr qt qd qd2 qi qh_kept qf qf2 vh_laid qo qe qw qu qg qn qs, (qd_met, .inl (cI, 6, .inl (fd_met))), dn qd vd_gap vd_odds vd_rain vd_lines qd_steps qd_lengths qd_starts qd_met qd_stumbles vd_stumbleCount qd_muds qd_cells vd_cellCount qd_tunes vd_tuneCount qd_changes vd_changeCount] ∧ va_S A s.heap H locs ∧ lv_has ls 5 [(4, .int x.2), (3, .int x.1), (2, .int 1), (0, .ref qh), (1, .int a1)]) 36 ((0 : Int32), (1 : Int32)) ⟨(show 0 ≤ (0 : Int32).toInt ∧ (0 : Int32).toInt ≤ 5 by decide), (show 1 ≤ (1 : Int32).toInt ∧ (1 : Int32).toInt ≤ 6 by decide), ⟨hP, hD⟩, hS, lv_sub hl [0, 1, 2, 3, 4] rfl⟩ (fun x ih180 H locs ls hI => ?_)
        obtain ⟨x178, x179⟩ := x
        obtain ⟨h_x178, h_x179, ⟨hP, hD⟩, hS, hl⟩ := hI
        have h_x178 : (0 ≤ x178.toInt ∧ x178.toInt ≤ 5) := h_x178
        have h_x179 : (1 ≤ x179.toInt ∧ x179.toInt ≤ 6) := h_x179
        obtain ⟨hP, hD⟩ : ct_B D A H [oo qh qr qt qd qd2 qi qh_kept qf qf2 vh_laid qo qe qw qu qg qn qs, (qd_met, .inl (cI, 6, .inl (fd_met))), dn qd vd_gap vd_odds vd_rain vd_lines qd_steps qd_lengths qd_starts qd_met qd_stumbles vd_stumbleCount qd_muds qd_cells vd_cellCount qd_tunes vd_tuneCount qd_changes vd_changeCount] := ⟨hP, hD⟩
        have hl : lv_has ls 5 [(4, .int x179), (3, .int x178), (2, .int 1), (0, .ref qh), (1, .int a1)] := hl
        refine lv_iload hx hb dX11_leads_36 (lv_at hl 0 rfl) ?_
        refine lv_bipush (v := 6) hx hb dX11_leads_38 (by decide) ?_
        refine lv_icmp_ge (tgt := 84) hx hb dX11_leads_40 (by decide) (fun hc => ?_) (fun hc => ?_)
        · have hq181 : 6 ≤ x179.toInt := tq_le (by decide) rfl hc
          refine lv_iload_n hx hb dX11_leads_84 rfl (lv_at hl 1 rfl) ?_
          obtain ⟨hP9, hD9⟩ : ct_B D A H [oo qh qr qt qd qd2 qi qh_kept qf qf2 vh_laid qo qe qw qu qg qn qs, dn qd vd_gap vd_odds vd_rain vd_lines qd_steps qd_lengths qd_starts qd_met qd_stumbles vd_stumbleCount qd_muds qd_cells vd_cellCount qd_tunes vd_tuneCount qd_changes vd_changeCount, (qd_met, .inl (cI, 6, .inl (fd_met)))] := ⟨hP.sub [0, 2, 1] rfl, hD.sub [0, 2, 1] (by decide) rfl⟩
          exact W.iret (v := x178) hx hb hr (fun t ht hW => ⟨⟨x178, (), rfl, (show (-2) ≤ x178.toInt ∧ x178.toInt ≤ 5 by omega), by rw [ht]; exact hP9, hD9⟩, hS.F ht⟩) hS.2.2 dX11_leads_85
        · have hq181 : x179.toInt < 6 := tq_nle (by decide) rfl hc
          refine lv_iload_n hx hb dX11_leads_43 rfl (lv_at hl 2 rfl) ?_
          refine lv_aload_n hx hb dX11_leads_44 rfl (lv_at hl 3 rfl) ?_
          refine va_get (D := D) (ci := 11) (v := .ref qd) (C := RX11) (T := TX11) (N := 16) hx hb hts hi11 hown hK hP 0 rfl rfl 2 (by decide) (hts (.fieldLink RX11 24 "OverHill" "now" "LOverHill$Dance;") (by decide +kernel)) (fun _ h9 => h9) rfl dX11_leads_45 ?_
          refine va_get (D := D) (ci := 0) (v := .ref qd_met) (C := RX0) (T := TX0) (N := 17) hx hb hts hi0 hown hK hP 2 rfl rfl 7 (by decide) (hts (.fieldLink RX11 144 "OverHill$Dance" "met" "[I") (by decide +kernel)) (fun _ h9 => h9) rfl dX11_leads_48 ?_
          refine lv_iload hx hb dX11_leads_51 (lv_at hl 0 rfl) ?_
          refine va_iald (D := D) hx hb hK hP 1 0 rfl rfl (tq_in rfl (by omega)) dX11_leads_53 ?_
          refine lv_topi (fun z182 ez182 => ?_)
          refine ct_calli (D := D) (wr := [oo qh qr qt qd qd2 qi qh_kept qf qf2 vh_laid qo qe qw qu qg qn qs, (qd_met, .inl (cI, 6, .inl (fd_met))), dn qd vd_gap vd_odds vd_rain vd_lines qd_steps qd_lengths qd_starts qd_met qd_stumbles vd_stumbleCount qd_muds qd_cells vd_cellCount qd_tunes vd_tuneCount qd_changes vd_changeCount]) (va_runS (As := [.int z182]) (rest := [.int 1]) ⟨hx, hb, hml, hown, hts⟩ (c_J6_bitCount_0f7a4 l D G cI cJ cB cZ cO z182  H.size) (va_cwS 1 hts gX11_leads_J6_bitCount_0f7a4 rfl rfl rfl (by decide +kernel) ⟨Nat.le_of_ble_eq_true rfl, Nat.le_of_ble_eq_true rfl⟩) (ct_preS (T := ct_T cI cJ cB cZ cO) hE hH hP hD hS hA [] (by decide) rfl) rfl rfl hl.1 rfl (lv_room (Nat.le_of_ble_eq_true rfl)) dX11_leads_54 ⟨Nat.le_of_ble_eq_true rfl, Nat.le_of_ble_eq_true rfl⟩) hP hD hS hA [] [0, 1, 2] rfl rfl (by decide) (by decide) (fun r183 u H locs hw hP hD hS => ?_)
          obtain ⟨hP, hD⟩ : ct_B D A H [oo qh qr qt qd qd2 qi qh_kept qf qf2 vh_laid qo qe qw qu qg qn qs, (qd_met, .inl (cI, 6, .inl (fd_met))), dn qd vd_gap vd_odds vd_rain vd_lines qd_steps qd_lengths qd_starts qd_met qd_stumbles vd_stumbleCount qd_muds qd_cells vd_cellCount qd_tunes vd_tuneCount qd_changes vd_changeCount] := ⟨hP, hD⟩
          have hz := hw
          have h_r183 : 0 ≤ r183.toInt ∧ r183.toInt ≤ 63 := hz
          refine lv_imul hx hb dX11_leads_57 ?_
          refine lv_topi (fun z184 ez184 => ?_)
          have fz184 : z184.toInt = 1 * r183.toInt := by rw [ez184]; exact tq_mul (by decide) rfl (by omega)
          refine lv_iload_n hx hb dX11_leads_58 rfl (lv_at hl 2 rfl) ?_
          refine lv_aload_n hx hb dX11_leads_59 rfl (lv_at hl 3 rfl) ?_
          refine va_get (D := D) (ci := 11) (v := .ref qd) (C := RX11) (T := TX11) (N := 16) hx hb hts hi11 hown hK hP 0 rfl rfl 2 (by decide) (hts (.fieldLink RX11 24 "OverHill" "now" "LOverHill$Dance;") (by decide +kernel)) (fun _ h9 => h9) rfl dX11_leads_60 ?_
          refine va_get (D := D) (ci := 0) (v := .ref qd_met) (C := RX0) (T := TX0) (N := 17) hx hb hts hi0 hown hK hP 2 rfl rfl 7 (by decide) (hts (.fieldLink RX11 144 "OverHill$Dance" "met" "[I") (by decide +kernel)) (fun _ h9 => h9) rfl dX11_leads_63 ?_
          refine lv_iload_n hx hb dX11_leads_66 rfl (lv_at hl 1 rfl) ?_
          refine va_iald (D := D) hx hb hK hP 1 0 rfl rfl (tq_in rfl (by omega)) dX11_leads_67 ?_
          refine lv_topi (fun z185 ez185 => ?_)
          refine ct_calli (D := D) (wr := [oo qh qr qt qd qd2 qi qh_kept qf qf2 vh_laid qo qe qw qu qg qn qs, (qd_met, .inl (cI, 6, .inl (fd_met))), dn qd vd_gap vd_odds vd_rain vd_lines qd_steps qd_lengths qd_starts qd_met qd_stumbles vd_stumbleCount qd_muds qd_cells vd_cellCount qd_tunes vd_tuneCount qd_changes vd_changeCount]) (va_runS (As := [.int z185]) (rest := [.int 1, .int z184]) ⟨hx, hb, hml, hown, hts⟩ (c_J6_bitCount_0f7a4 l D G cI cJ cB cZ cO z185  H.size) (va_cwS 1 hts gX11_leads_J6_bitCount_0f7a4 rfl rfl rfl (by decide +kernel) ⟨Nat.le_of_ble_eq_true rfl, Nat.le_of_ble_eq_true rfl⟩) (ct_preS (T := ct_T cI cJ cB cZ cO) hE hH hP hD hS hA [] (by decide) rfl) rfl rfl hl.1 rfl (lv_room (Nat.le_of_ble_eq_true rfl)) dX11_leads_68 ⟨Nat.le_of_ble_eq_true rfl, Nat.le_of_ble_eq_true rfl⟩) hP hD hS hA [] [0, 1, 2] rfl rfl (by decide) (by decide) (fun r186 u H locs hw hP hD hS => ?_)
          obtain ⟨hP, hD⟩ : ct_B D A H [oo qh qr qt qd qd2 qi qh_kept qf qf2 vh_laid qo qe qw qu qg qn qs, (qd_met, .inl (cI, 6, .inl (fd_met))), dn qd vd_gap vd_odds vd_rain vd_lines qd_steps qd_lengths qd_starts qd_met qd_stumbles vd_stumbleCount qd_muds qd_cells vd_cellCount qd_tunes vd_tuneCount qd_changes vd_changeCount] := ⟨hP, hD⟩
          have hz := hw
          have h_r186 : 0 ≤ r186.toInt ∧ r186.toInt ≤ 63 := hz
          refine lv_imul hx hb dX11_leads_71 ?_
          refine lv_topi (fun z187 ez187 => ?_)
          have fz187 : z187.toInt = 1 * r186.toInt := by rw [ez187]; exact tq_mul (by decide) rfl (by omega)
          refine lv_icmp_le (tgt := 78) hx hb dX11_leads_72 (by decide) (fun hc => ?_) (fun hc => ?_)
          · have hq188 : z184.toInt ≤ z187.toInt := tq_le rfl rfl hc
            obtain ⟨z189, ez189⟩ : ∃ z : Int32, z = x179 + 1 := ⟨_, rfl⟩
            have fz189 : z189.toInt = x179.toInt + 1 := by rw [ez189]; exact tq_add rfl (by decide) (by omega)
            refine lv_iinc (v := z189) (lv' := [(4, .int z189), (3, .int x178), (2, .int 1), (0, .ref qh), (1, .int a1)]) hx hb dX11_leads_78 hl (k := 0) rfl ez189.symm (by decide) rfl (fun ls hl => ?_)
            refine lv_goto (tgt := 36) hx hb dX11_leads_81 (by decide) ?_
            exact ih180 (x178, z189) _ _ _ (show (6 - z189.toInt).toNat < (6 - x179.toInt).toNat by omega) ⟨h_x178, (show 1 ≤ z189.toInt ∧ z189.toInt ≤ 6 by omega), ⟨hP, hD⟩, hS, lv_sub hl [0, 1, 2, 3, 4] rfl⟩
          · have hq188 : z187.toInt < z184.toInt := tq_nle rfl rfl hc
            refine lv_iload hx hb dX11_leads_75 (lv_at hl 0 rfl) ?_
            refine lv_istore_n (lv' := [(3, .int x179), (4, .int x179), (2, .int 1), (0, .ref qh), (1, .int a1)]) hx hb dX11_leads_77 rfl hl (by decide) rfl (fun ls hl => ?_)
            obtain ⟨z190, ez190⟩ : ∃ z : Int32, z = x179 + 1 := ⟨_, rfl⟩
            have fz190 : z190.toInt = x179.toInt + 1 := by rw [ez190]; exact tq_add rfl (by decide) (by omega)
            refine lv_iinc (v := z190) (lv' := [(4, .int z190), (3, .int x179), (2, .int 1), (0, .ref qh), (1, .int a1)]) hx hb dX11_leads_78 hl (k := 1) rfl ez190.symm (by decide) rfl (fun ls hl => ?_)
            refine lv_goto (tgt := 36) hx hb dX11_leads_81 (by decide) ?_
            exact ih180 (x179, z190) _ _ _ (show (6 - z190.toInt).toNat < (6 - x179.toInt).toNat by omega) ⟨(show 0 ≤ x179.toInt ∧ x179.toInt ≤ 5 by omega), (show 1 ≤ z190.toInt ∧ z190.toInt ≤ 6 by omega), ⟨hP, hD⟩, hS, lv_sub hl [0, 1, 2, 3, 4] rfl⟩
    · subst hz
      have hz_191 : ¬ (0 ≤ a1.toInt ∧ a1.toInt < (2 : Int32).toInt) := hz2
      refine lv_if_ne (tgt := 21) hx hb dX11_leads_15 (by decide) (fun hc => absurd hc (by decide)) (fun _ => ?_)
      refine lv_bipush (v := (-2)) hx hb dX11_leads_18 (by decide) ?_
      obtain ⟨hP9, hD9⟩ : ct_B D A H [oo qh qr qt qd qd2 qi qh_kept qf qf2 vh_laid qo qe qw qu qg qn qs, dn qd vd_gap vd_odds vd_rain vd_lines qd_steps qd_lengths qd_starts qd_met qd_stumbles vd_stumbleCount qd_muds qd_cells vd_cellCount qd_tunes vd_tuneCount qd_changes vd_changeCount, (qd_met, .inl (cI, 6, .inl (fd_met)))] := ⟨hP.sub [0, 2, 1] rfl, hD.sub [0, 2, 1] (by decide) rfl⟩
      exact W.iret (v := (-2)) hx hb hr (fun t ht hW => ⟨⟨(-2), (), rfl, (show (-2) ≤ (-2 : Int32).toInt ∧ (-2 : Int32).toInt ≤ 5 by decide), by rw [ht]; exact hP9, hD9⟩, hS.F ht⟩) hS.2.2 dX11_leads_20
  · subst hz
    have hz_192 : ¬ (0 < vd_lines.toInt) := hz2
    refine lv_if_eq (tgt := 18) hx hb dX11_leads_7 (by decide) (fun _ => ?_) (fun hc => absurd hc (by decide))
    refine lv_bipush (v := (-2)) hx hb dX11_leads_18 (by decide) ?_
    obtain ⟨hP9, hD9⟩ : ct_B D A H [oo qh qr qt qd qd2 qi qh_kept qf qf2 vh_laid qo qe qw qu qg qn qs, dn qd vd_gap vd_odds vd_rain vd_lines qd_steps qd_lengths qd_starts qd_met qd_stumbles vd_stumbleCount qd_muds qd_cells vd_cellCount qd_tunes vd_tuneCount qd_changes vd_changeCount, (qd_met, .inl (cI, 6, .inl (fd_met)))] := ⟨hP.sub [0, 2, 1] rfl, hD.sub [0, 2, 1] (by decide) rfl⟩
    exact W.iret (v := (-2)) hx hb hr (fun t ht hW => ⟨⟨(-2), (), rfl, (show (-2) ≤ (-2 : Int32).toInt ∧ (-2 : Int32).toInt ≤ 5 by decide), by rw [ht]; exact hP9, hD9⟩, hS.F ht⟩) hS.2.2 dX11_leads_20
abbrev w_c_X11_game (cI cJ cB cZ cO : ClassId) (qh : Nat) (qh_kept : Nat) (vh_laid : Int32) (qi : Nat) (qr : Nat) (qt : Nat) (qd : Nat) (vd_gap : Int32) (vd_odds : Int32) (vd_rain : Int32) (vd_lines : Int32) (qd_steps : Nat) (qd_lengths : Nat) (qd_starts : Nat) (qd_met : Nat) (fd_met : Nat → Int32) (qd_stumbles : Nat) (vd_stumbleCount : Int32) (qd_muds : Nat) (qd_cells : Nat) (vd_cellCount : Int32) (qd_tunes : Nat) (vd_tuneCount : Int32) (qd_changes : Nat) (vd_changeCount : Int32) (qd2 : Nat) (qf : Nat) (qf2 : Nat) (qo : Nat) (qe : Nat) (qw : Nat) (qu : Nat) (qg : Nat) (qg_winning : Nat) (fg_winning : Nat → Int32) (qn : Nat) (qs : Nat) : va_W := [oo qh qr qt qd qd2 qi qh_kept qf qf2 vh_laid qo qe qw qu qg qn qs, dn qd vd_gap vd_odds vd_rain vd_lines qd_steps qd_lengths qd_starts qd_met qd_stumbles vd_stumbleCount qd_muds qd_cells vd_cellCount qd_tunes vd_tuneCount qd_changes vd_changeCount, (qd_met, .inl (cI, 6, .inl (fd_met))), (qg, .inr (2, [.ref qg_winning])), (qg_winning, .inl (cI, 729, .inl (fg_winning)))]
set_option maxHeartbeats 4000000 in
set_option maxRecDepth 100000 in
/-- X11 game -/
theorem c_X11_game (l : Launch) (D : va_G) (G : ct_G) (cI cJ cB cZ cO : ClassId) (qh : Nat) (qh_kept : Nat) (vh_laid : Int32) (qi : Nat) (qr : Nat) (qt : Nat) (qd : Nat) (vd_gap : Int32) (vd_odds : Int32) (vd_rain : Int32) (vd_lines : Int32) (qd_steps : Nat) (qd_lengths : Nat) (qd_starts : Nat) (qd_met : Nat) (fd_met : Nat → Int32) (qd_stumbles : Nat) (vd_stumbleCount : Int32) (qd_muds : Nat) (qd_cells : Nat) (vd_cellCount : Int32) (qd_tunes : Nat) (vd_tuneCount : Int32) (qd_changes : Nat) (vd_changeCount : Int32) (qd2 : Nat) (qf : Nat) (qf2 : Nat) (qo : Nat) (qe : Nat) (qw : Nat) (qu : Nat) (qg : Nat) (qg_winning : Nat) (fg_winning : Nat → Int32) (qn : Nat) (qs : Nat) (a1 : Int32) (h_vd_gap : 0 ≤ vd_gap.toInt ∧ vd_gap.toInt ≤ 20) (h_vd_stumbleCount : 0 ≤ vd_stumbleCount.toInt ∧ vd_stumbleCount.toInt ≤ 8) (h_vd_cellCount : 0 ≤ vd_cellCount.toInt ∧ vd_cellCount.toInt ≤ 12) (h_vd_tuneCount : 0 ≤ vd_tuneCount.toInt ∧ vd_tuneCount.toInt ≤ 5) (h_vd_changeCount : 0 ≤ vd_changeCount.toInt ∧ vd_changeCount.toInt ≤ 40) (sz : Nat) : Met l yX11_game wsX11_game ({ frames := 2, cells := 0, slots := 0, locals := 48 }) (va_Pc [.ref qh, .int a1] (ct_P D (ct_T cI cJ cB cZ cO) G (w_c_X11_game cI cJ cB cZ cO qh qh_kept vh_laid qi qr qt qd vd_gap vd_odds vd_rain vd_lines qd_steps qd_lengths qd_starts qd_met fd_met qd_stumbles vd_stumbleCount qd_muds qd_cells vd_cellCount qd_tunes vd_tuneCount qd_changes vd_changeCount qd2 qf qf2 qo qe qw qu qg qg_winning fg_winning qn qs) sz)) (va_Qi (fun (rz : Int32) (u : (Nat → Int32)) => ((-2) ≤ rz.toInt ∧ rz.toInt ≤ 1)) (fun (u : (Nat → Int32)) t => ct_Q D (va_A (w_c_X11_game cI cJ cB cZ cO qh qh_kept vh_laid qi qr qt qd vd_gap vd_odds vd_rain vd_lines qd_steps qd_lengths qd_starts qd_met fd_met qd_stumbles vd_stumbleCount qd_muds qd_cells vd_cellCount qd_tunes vd_tuneCount qd_changes vd_changeCount qd2 qf qf2 qo qe qw qu qg qg_winning fg_winning qn qs) sz) [oo qh qr qt qd qd2 qi qh_kept qf qf2 vh_laid qo qe qw qu qg qn qs, dn qd vd_gap vd_odds vd_rain vd_lines qd_steps qd_lengths qd_starts qd_met qd_stumbles vd_stumbleCount qd_muds qd_cells vd_cellCount qd_tunes vd_tuneCount qd_changes vd_changeCount, (qd_met, .inl (cI, 6, .inl (fd_met))), (qg, .inr (2, [.ref qg_winning])), (qg_winning, .inl (cI, 729, .inl (u)))] t) (va_A (w_c_X11_game cI cJ cB cZ cO qh qh_kept vh_laid qi qr qt qd vd_gap vd_odds vd_rain vd_lines qd_steps qd_lengths qd_starts qd_met fd_met qd_stumbles vd_stumbleCount qd_muds qd_cells vd_cellCount qd_tunes vd_tuneCount qd_changes vd_changeCount qd2 qf qf2 qo qe qw qu qg qg_winning fg_winning qn qs) sz)) 0 0 (va_A (w_c_X11_game cI cJ cB cZ cO qh qh_kept vh_laid qi qr qt qd vd_gap vd_odds vd_rain vd_lines qd_steps qd_lengths qd_starts qd_met fd_met qd_stumbles vd_stumbleCount qd_muds qd_cells vd_cellCount qd_tunes vd_tuneCount qd_changes vd_changeCount qd2 qf qf2 qo qe qw qu qg qg_winning fg_winning qn qs) sz) := by
  refine Met.ofW (cc := cX11_game) (maxL := 2) (ret := (some .int)) (by decide) rfl ?_
  intro p e s m args below meth c s₁ B hml hv
  obtain ⟨rfl, hsz, hP, hE, hD0, hH⟩ := hv
  have hx := B.exec
  have hb := B.bytes
  have hr := B.returns
  have hts := atoms_spec (ws := wsX11_game) B.pre
  have hown : s.vm.findClass RX11 = some m.cls := findClass_of_methodNamed B.named
  have hlocks := B.notSynchronized
  have hK := hE.1
  have hi11 : ∀ w ∈ u_ws RX11 TX11 16, w ∈ wsX11_game := fun w h => List.mem_cons_of_mem _ (List.mem_append_left _ (List.mem_append_left _ (List.mem_append_right _ h)))
  subst hsz
  have hD := hD0.self (sz := s.heap.size)
  generalize hAe : va_A (w_c_X11_game cI cJ cB cZ cO qh qh_kept vh_laid qi qr qt qd vd_gap vd_odds vd_rain vd_lines qd_steps qd_lengths qd_starts qd_met fd_met qd_stumbles vd_stumbleCount qd_muds qd_cells vd_cellCount qd_tunes vd_tuneCount qd_changes vd_changeCount qd2 qf qf2 qo qe qw qu qg qg_winning fg_winning qn qs) s.heap.size = A at hD hH ⊢
  have hA : ∀ q : Nat, s.heap.size ≤ q → A q := fun q h => by rw [← hAe]; exact Or.inr h
  have hS : va_S A s.heap s.heap [] := va_S.rf
  obtain ⟨hP, hD⟩ : ct_B D A s.heap [oo qh qr qt qd qd2 qi qh_kept qf qf2 vh_laid qo qe qw qu qg qn qs, dn qd vd_gap vd_odds vd_rain vd_lines qd_steps qd_lengths qd_starts qd_met qd_stumbles vd_stumbleCount qd_muds qd_cells vd_cellCount qd_tunes vd_tuneCount qd_changes vd_changeCount, (qd_met, .inl (cI, 6, .inl (fd_met))), (qg, .inr (2, [.ref qg_winning])), (qg_winning, .inl (cI, 729, .inl (fg_winning)))] := ⟨hP, hD⟩
  have hl := lv_entry ([.ref qh, .int a1]) (n := 2) (Nat.le_of_ble_eq_true rfl)
  rw [lg_entry_eq]
  generalize (lg_sl ([.ref qh, .int a1]) ++ List.replicate (2 - (lg_sl ([.ref qh, .int a1])).length) Slot.unset).toArray = ls at hl ⊢
  have hl : lv_has ls 2 [(0, .ref qh), (1, .int a1)] := hl
  obtain ⟨H, hHe⟩ : ∃ H : Heap, H = s.heap := ⟨_, rfl⟩
  rw [← hHe] at hP
  have hS : va_S A s.heap H [] := by rw [hHe]; exact va_S.rf
  refine ct_start hHe ?_
  refine lv_aload_n hx hb dX11_game_0 rfl (lv_at hl 0 rfl) ?_
  refine va_get (D := D) (ci := 11) (v := .ref qd) (C := RX11) (T := TX11) (N := 16) hx hb hts hi11 hown hK hP 0 rfl rfl 2 (by decide) (hts (.fieldLink RX11 24 "OverHill" "now" "LOverHill$Dance;") (by decide +kernel)) (fun _ h9 => h9) rfl dX11_game_1 ?_
  refine ct_calli (D := D) (wr := [oo qh qr qt qd qd2 qi qh_kept qf qf2 vh_laid qo qe qw qu qg qn qs, (qd_met, .inl (cI, 6, .inl (fd_met))), (qg, .inr (2, [.ref qg_winning])), (qg_winning, .inl (cI, 729, .inl (fg_winning)))]) (va_runV (As := []) (rest := []) ⟨hx, hb, hml, hown, hts⟩ (c_X0_stands l D G cI cJ cB cZ cO qd vd_gap vd_odds vd_rain vd_lines qd_steps qd_lengths qd_starts qd_met qd_stumbles vd_stumbleCount qd_muds qd_cells vd_cellCount qd_tunes vd_tuneCount qd_changes vd_changeCount h_vd_gap h_vd_stumbleCount h_vd_cellCount h_vd_tuneCount h_vd_changeCount H.size) (cwV 0 hts gX11_game_X0_stands rfl rfl rfl (by decide +kernel) ⟨Nat.le_of_ble_eq_true rfl, Nat.le_of_ble_eq_true rfl⟩) (ct_preV (T := ct_T cI cJ cB cZ cO) (ci := 0) (q0 := 1) hE hH hP hD hS hA [1] (by decide) rfl rfl rfl) rfl rfl hl.1 rfl (lv_room (Nat.le_of_ble_eq_true rfl)) dX11_game_4 ⟨Nat.le_of_ble_eq_true rfl, Nat.le_of_ble_eq_true rfl⟩) hP hD hS hA [1] [0, 2, 3, 4] rfl rfl (by decide) (by decide) (fun r1 u H locs hw hP hD hS => ?_)
  obtain ⟨hP, hD⟩ : ct_B D A H [oo qh qr qt qd qd2 qi qh_kept qf qf2 vh_laid qo qe qw qu qg qn qs, (qd_met, .inl (cI, 6, .inl (fd_met))), (qg, .inr (2, [.ref qg_winning])), (qg_winning, .inl (cI, 729, .inl (fg_winning))), dn qd vd_gap vd_odds vd_rain vd_lines qd_steps qd_lengths qd_starts qd_met qd_stumbles vd_stumbleCount qd_muds qd_cells vd_cellCount qd_tunes vd_tuneCount qd_changes vd_changeCount] := ⟨hP, hD⟩
  have hz := hw
  rcases hz with ⟨hz, hz2⟩ | ⟨hz, hz2⟩
  · subst hz
    have hz_2 : (0 < vd_lines.toInt) := hz2
    refine lv_if_eq (tgt := 17) hx hb dX11_game_7 (by decide) (fun hc => absurd hc (by decide)) (fun _ => ?_)
    refine lv_iload_n hx hb dX11_game_10 rfl (lv_at hl 1 rfl) ?_
    refine ct_calli (D := D) (wr := [oo qh qr qt qd qd2 qi qh_kept qf qf2 vh_laid qo qe qw qu qg qn qs, (qd_met, .inl (cI, 6, .inl (fd_met))), (qg, .inr (2, [.ref qg_winning])), (qg_winning, .inl (cI, 729, .inl (fg_winning))), dn qd vd_gap vd_odds vd_rain vd_lines qd_steps qd_lengths qd_starts qd_met qd_stumbles vd_stumbleCount qd_muds qd_cells vd_cellCount qd_tunes vd_tuneCount qd_changes vd_changeCount]) (va_runS (As := [.int a1]) (rest := []) ⟨hx, hb, hml, hown, hts⟩ (c_X11_isStep l D G cI cJ cB cZ cO a1  H.size) (va_cwS 1 hts gX11_game_X11_isStep rfl rfl rfl (by decide +kernel) ⟨Nat.le_of_ble_eq_true rfl, Nat.le_of_ble_eq_true rfl⟩) (ct_preS (T := ct_T cI cJ cB cZ cO) hE hH hP hD hS hA [] (by decide) rfl) rfl rfl hl.1 rfl (lv_room (Nat.le_of_ble_eq_true rfl)) dX11_game_11 ⟨Nat.le_of_ble_eq_true rfl, Nat.le_of_ble_eq_true rfl⟩) hP hD hS hA [] [0, 1, 2, 3, 4] rfl rfl (by decide) (by decide) (fun r3 u H locs hw hP hD hS => ?_)
    obtain ⟨hP, hD⟩ : ct_B D A H [oo qh qr qt qd qd2 qi qh_kept qf qf2 vh_laid qo qe qw qu qg qn qs, (qd_met, .inl (cI, 6, .inl (fd_met))), (qg, .inr (2, [.ref qg_winning])), (qg_winning, .inl (cI, 729, .inl (fg_winning))), dn qd vd_gap vd_odds vd_rain vd_lines qd_steps qd_lengths qd_starts qd_met qd_stumbles vd_stumbleCount qd_muds qd_cells vd_cellCount qd_tunes vd_tuneCount qd_changes vd_changeCount] := ⟨hP, hD⟩
    have hz := hw
    rcases hz with ⟨hz, hz2⟩ | ⟨hz, hz2⟩
    · subst hz
      have hz_4 : (0 ≤ a1.toInt ∧ a1.toInt < 6) := hz2
      refine lv_if_ne (tgt := 20) hx hb dX11_game_14 (by decide) (fun _ => ?_) (fun hc => absurd hc (by decide))
      refine lv_aload_n hx hb dX11_game_20 rfl (lv_at hl 0 rfl) ?_
      refine va_get (D := D) (ci := 11) (v := .ref qg) (C := RX11) (T := TX11) (N := 16) hx hb hts hi11 hown hK hP 0 rfl rfl 13 (by decide) (hts (.fieldLink RX11 84 "OverHill" "games" "LOverHill$Game;") (by decide +kernel)) (fun _ h9 => h9) rfl dX11_game_21 ?_
      refine lv_aload_n hx hb dX11_game_24 rfl (lv_at hl 0 rfl) ?_
      refine va_get (D := D) (ci := 11) (v := .ref qd) (C := RX11) (T := TX11) (N := 16) hx hb hts hi11 hown hK hP 0 rfl rfl 2 (by decide) (hts (.fieldLink RX11 24 "OverHill" "now" "LOverHill$Dance;") (by decide +kernel)) (fun _ h9 => h9) rfl dX11_game_25 ?_
      refine lv_iload_n hx hb dX11_game_28 rfl (lv_at hl 1 rfl) ?_
      refine ct_calli (D := D) (wr := [oo qh qr qt qd qd2 qi qh_kept qf qf2 vh_laid qo qe qw qu qg qn qs]) (va_runV (As := [.ref qd, .int a1]) (rest := []) ⟨hx, hb, hml, hown, hts⟩ (c_X2_winningStep l D G cI cJ cB cZ cO qg qg_winning fg_winning qd vd_gap vd_odds vd_rain vd_lines qd_steps qd_lengths qd_starts qd_met fd_met qd_stumbles vd_stumbleCount qd_muds qd_cells vd_cellCount qd_tunes vd_tuneCount qd_changes vd_changeCount a1 h_vd_gap h_vd_stumbleCount h_vd_cellCount h_vd_tuneCount h_vd_changeCount (by omega) H.size) (cwV 2 hts gX11_game_X2_winningStep rfl rfl rfl (by decide +kernel) ⟨Nat.le_of_ble_eq_true rfl, Nat.le_of_ble_eq_true rfl⟩) (ct_preV (T := ct_T cI cJ cB cZ cO) (ci := 2) (q0 := 2) hE hH hP hD hS hA [2, 3, 4, 1] (by decide) rfl rfl rfl) rfl rfl hl.1 rfl (lv_room (Nat.le_of_ble_eq_true rfl)) dX11_game_29 ⟨Nat.le_of_ble_eq_true rfl, Nat.le_of_ble_eq_true rfl⟩) hP hD hS hA [2, 3, 4, 1] [0] rfl rfl (by decide) (by decide) (fun r5 u H locs hw hP hD hS => ?_)
      obtain ⟨g6, rfl⟩ : ∃ z, z = u := ⟨_, rfl⟩
      obtain ⟨hP, hD⟩ : ct_B D A H [oo qh qr qt qd qd2 qi qh_kept qf qf2 vh_laid qo qe qw qu qg qn qs, (qg, .inr (2, [.ref qg_winning])), (qg_winning, .inl (cI, 729, .inl (g6))), dn qd vd_gap vd_odds vd_rain vd_lines qd_steps qd_lengths qd_starts qd_met qd_stumbles vd_stumbleCount qd_muds qd_cells vd_cellCount qd_tunes vd_tuneCount qd_changes vd_changeCount, (qd_met, .inl (cI, 6, .inl (fd_met)))] := ⟨hP, hD⟩
      refine lv_iconst (v := (-1)) hx hb dX11_game_32 (by decide) ?_
      refine lv_icmp_ne (tgt := 40) hx hb dX11_game_33 (by decide) (fun hc => ?_) (fun hc => ?_)
      · have hq7 : r5.toInt ≠ (-1) := tq_ne rfl (by decide) hc
        have hb8 := tq_lo r5
        refine lv_iconst (v := 1) hx hb dX11_game_40 (by decide) ?_
        obtain ⟨hP9, hD9⟩ : ct_B D A H [oo qh qr qt qd qd2 qi qh_kept qf qf2 vh_laid qo qe qw qu qg qn qs, dn qd vd_gap vd_odds vd_rain vd_lines qd_steps qd_lengths qd_starts qd_met qd_stumbles vd_stumbleCount qd_muds qd_cells vd_cellCount qd_tunes vd_tuneCount qd_changes vd_changeCount, (qd_met, .inl (cI, 6, .inl (fd_met))), (qg, .inr (2, [.ref qg_winning])), (qg_winning, .inl (cI, 729, .inl (g6)))] := ⟨hP.sub [0, 3, 4, 1, 2] rfl, hD.sub [0, 3, 4, 1, 2] (by decide) rfl⟩
        exact W.iret (v := 1) hx hb hr (fun t ht hW => ⟨⟨1, g6, rfl, (show (-2) ≤ (1 : Int32).toInt ∧ (1 : Int32).toInt ≤ 1 by decide), by rw [ht]; exact hP9, hD9⟩, hS.F ht⟩) hS.2.2 dX11_game_41
      · have hq7 : r5.toInt = (-1) := tq_eq rfl (by decide) hc
        have hb9 := tq_lo r5
        refine lv_iconst (v := 0) hx hb dX11_game_36 (by decide) ?_
        refine lv_goto (tgt := 41) hx hb dX11_game_37 (by decide) ?_
        obtain ⟨hP9, hD9⟩ : ct_B D A H [oo qh qr qt qd qd2 qi qh_kept qf qf2 vh_laid qo qe qw qu qg qn qs, dn qd vd_gap vd_odds vd_rain vd_lines qd_steps qd_lengths qd_starts qd_met qd_stumbles vd_stumbleCount qd_muds qd_cells vd_cellCount qd_tunes vd_tuneCount qd_changes vd_changeCount, (qd_met, .inl (cI, 6, .inl (fd_met))), (qg, .inr (2, [.ref qg_winning])), (qg_winning, .inl (cI, 729, .inl (g6)))] := ⟨hP.sub [0, 3, 4, 1, 2] rfl, hD.sub [0, 3, 4, 1, 2] (by decide) rfl⟩
        exact W.iret (v := 0) hx hb hr (fun t ht hW => ⟨⟨0, g6, rfl, (show (-2) ≤ (0 : Int32).toInt ∧ (0 : Int32).toInt ≤ 1 by decide), by rw [ht]; exact hP9, hD9⟩, hS.F ht⟩) hS.2.2 dX11_game_41
    · subst hz
      have hz_10 : ¬ (0 ≤ a1.toInt ∧ a1.toInt < 6) := hz2
      refine lv_if_ne (tgt := 20) hx hb dX11_game_14 (by decide) (fun hc => absurd hc (by decide)) (fun _ => ?_)
      refine lv_bipush (v := (-2)) hx hb dX11_game_17 (by decide) ?_
      obtain ⟨hP9, hD9⟩ : ct_B D A H [oo qh qr qt qd qd2 qi qh_kept qf qf2 vh_laid qo qe qw qu qg qn qs, dn qd vd_gap vd_odds vd_rain vd_lines qd_steps qd_lengths qd_starts qd_met qd_stumbles vd_stumbleCount qd_muds qd_cells vd_cellCount qd_tunes vd_tuneCount qd_changes vd_changeCount, (qd_met, .inl (cI, 6, .inl (fd_met))), (qg, .inr (2, [.ref qg_winning])), (qg_winning, .inl (cI, 729, .inl (fg_winning)))] := ⟨hP.sub [0, 4, 1, 2, 3] rfl, hD.sub [0, 4, 1, 2, 3] (by decide) rfl⟩
      exact W.iret (v := (-2)) hx hb hr (fun t ht hW => ⟨⟨(-2), fg_winning, rfl, (show (-2) ≤ (-2 : Int32).toInt ∧ (-2 : Int32).toInt ≤ 1 by decide), by rw [ht]; exact hP9, hD9⟩, hS.F ht⟩) hS.2.2 dX11_game_19
  · subst hz
    have hz_11 : ¬ (0 < vd_lines.toInt) := hz2
    refine lv_if_eq (tgt := 17) hx hb dX11_game_7 (by decide) (fun _ => ?_) (fun hc => absurd hc (by decide))
    refine lv_bipush (v := (-2)) hx hb dX11_game_17 (by decide) ?_
    obtain ⟨hP9, hD9⟩ : ct_B D A H [oo qh qr qt qd qd2 qi qh_kept qf qf2 vh_laid qo qe qw qu qg qn qs, dn qd vd_gap vd_odds vd_rain vd_lines qd_steps qd_lengths qd_starts qd_met qd_stumbles vd_stumbleCount qd_muds qd_cells vd_cellCount qd_tunes vd_tuneCount qd_changes vd_changeCount, (qd_met, .inl (cI, 6, .inl (fd_met))), (qg, .inr (2, [.ref qg_winning])), (qg_winning, .inl (cI, 729, .inl (fg_winning)))] := ⟨hP.sub [0, 4, 1, 2, 3] rfl, hD.sub [0, 4, 1, 2, 3] (by decide) rfl⟩
    exact W.iret (v := (-2)) hx hb hr (fun t ht hW => ⟨⟨(-2), fg_winning, rfl, (show (-2) ≤ (-2 : Int32).toInt ∧ (-2 : Int32).toInt ≤ 1 by decide), by rw [ht]; exact hP9, hD9⟩, hS.F ht⟩) hS.2.2 dX11_game_19
abbrev w_c_X11_plays (cI cJ cB cZ cO : ClassId) (qh : Nat) (qh_kept : Nat) (vh_laid : Int32) (qi : Nat) (qr : Nat) (qt : Nat) (qd : Nat) (vd_gap : Int32) (vd_odds : Int32) (vd_rain : Int32) (vd_lines : Int32) (qd_steps : Nat) (qd_lengths : Nat) (qd_starts : Nat) (qd_met : Nat) (fd_met : Nat → Int32) (qd_stumbles : Nat) (vd_stumbleCount : Int32) (qd_muds : Nat) (qd_cells : Nat) (vd_cellCount : Int32) (qd_tunes : Nat) (vd_tuneCount : Int32) (qd_changes : Nat) (vd_changeCount : Int32) (qd2 : Nat) (qf : Nat) (qf2 : Nat) (qo : Nat) (qe : Nat) (qw : Nat) (qu : Nat) (qg : Nat) (qg_winning : Nat) (fg_winning : Nat → Int32) (qn : Nat) (qs : Nat) : va_W := [oo qh qr qt qd qd2 qi qh_kept qf qf2 vh_laid qo qe qw qu qg qn qs, dn qd vd_gap vd_odds vd_rain vd_lines qd_steps qd_lengths qd_starts qd_met qd_stumbles vd_stumbleCount qd_muds qd_cells vd_cellCount qd_tunes vd_tuneCount qd_changes vd_changeCount, (qd_met, .inl (cI, 6, .inl (fd_met))), (qg, .inr (2, [.ref qg_winning])), (qg_winning, .inl (cI, 729, .inl (fg_winning)))]
set_option maxHeartbeats 4000000 in
set_option maxRecDepth 100000 in
/-- X11 plays -/
theorem c_X11_plays (l : Launch) (D : va_G) (G : ct_G) (cI cJ cB cZ cO : ClassId) (qh : Nat) (qh_kept : Nat) (vh_laid : Int32) (qi : Nat) (qr : Nat) (qt : Nat) (qd : Nat) (vd_gap : Int32) (vd_odds : Int32) (vd_rain : Int32) (vd_lines : Int32) (qd_steps : Nat) (qd_lengths : Nat) (qd_starts : Nat) (qd_met : Nat) (fd_met : Nat → Int32) (qd_stumbles : Nat) (vd_stumbleCount : Int32) (qd_muds : Nat) (qd_cells : Nat) (vd_cellCount : Int32) (qd_tunes : Nat) (vd_tuneCount : Int32) (qd_changes : Nat) (vd_changeCount : Int32) (qd2 : Nat) (qf : Nat) (qf2 : Nat) (qo : Nat) (qe : Nat) (qw : Nat) (qu : Nat) (qg : Nat) (qg_winning : Nat) (fg_winning : Nat → Int32) (qn : Nat) (qs : Nat) (a1 : Int32) (h_vd_gap : 0 ≤ vd_gap.toInt ∧ vd_gap.toInt ≤ 20) (h_vd_stumbleCount : 0 ≤ vd_stumbleCount.toInt ∧ vd_stumbleCount.toInt ≤ 8) (h_vd_cellCount : 0 ≤ vd_cellCount.toInt ∧ vd_cellCount.toInt ≤ 12) (h_vd_tuneCount : 0 ≤ vd_tuneCount.toInt ∧ vd_tuneCount.toInt ≤ 5) (h_vd_changeCount : 0 ≤ vd_changeCount.toInt ∧ vd_changeCount.toInt ≤ 40) (sz : Nat) : Met l yX11_plays wsX11_plays ({ frames := 2, cells := 0, slots := 0, locals := 48 }) (va_Pc [.ref qh, .int a1] (ct_P D (ct_T cI cJ cB cZ cO) G (w_c_X11_plays cI cJ cB cZ cO qh qh_kept vh_laid qi qr qt qd vd_gap vd_odds vd_rain vd_lines qd_steps qd_lengths qd_starts qd_met fd_met qd_stumbles vd_stumbleCount qd_muds qd_cells vd_cellCount qd_tunes vd_tuneCount qd_changes vd_changeCount qd2 qf qf2 qo qe qw qu qg qg_winning fg_winning qn qs) sz)) (va_Qi (fun (rz : Int32) (u : (Nat → Int32)) => True) (fun (u : (Nat → Int32)) t => ct_Q D (va_A (w_c_X11_plays cI cJ cB cZ cO qh qh_kept vh_laid qi qr qt qd vd_gap vd_odds vd_rain vd_lines qd_steps qd_lengths qd_starts qd_met fd_met qd_stumbles vd_stumbleCount qd_muds qd_cells vd_cellCount qd_tunes vd_tuneCount qd_changes vd_changeCount qd2 qf qf2 qo qe qw qu qg qg_winning fg_winning qn qs) sz) [oo qh qr qt qd qd2 qi qh_kept qf qf2 vh_laid qo qe qw qu qg qn qs, dn qd vd_gap vd_odds vd_rain vd_lines qd_steps qd_lengths qd_starts qd_met qd_stumbles vd_stumbleCount qd_muds qd_cells vd_cellCount qd_tunes vd_tuneCount qd_changes vd_changeCount, (qd_met, .inl (cI, 6, .inl (fd_met))), (qg, .inr (2, [.ref qg_winning])), (qg_winning, .inl (cI, 729, .inl (u)))] t) (va_A (w_c_X11_plays cI cJ cB cZ cO qh qh_kept vh_laid qi qr qt qd vd_gap vd_odds vd_rain vd_lines qd_steps qd_lengths qd_starts qd_met fd_met qd_stumbles vd_stumbleCount qd_muds qd_cells vd_cellCount qd_tunes vd_tuneCount qd_changes vd_changeCount qd2 qf qf2 qo qe qw qu qg qg_winning fg_winning qn qs) sz)) 0 0 (va_A (w_c_X11_plays cI cJ cB cZ cO qh qh_kept vh_laid qi qr qt qd vd_gap vd_odds vd_rain vd_lines qd_steps qd_lengths qd_starts qd_met fd_met qd_stumbles vd_stumbleCount qd_muds qd_cells vd_cellCount qd_tunes vd_tuneCount qd_changes vd_changeCount qd2 qf qf2 qo qe qw qu qg qg_winning fg_winning qn qs) sz) := by
  refine Met.ofW (cc := cX11_plays) (maxL := 2) (ret := (some .int)) (by decide) rfl ?_
  intro p e s m args below meth c s₁ B hml hv
  obtain ⟨rfl, hsz, hP, hE, hD0, hH⟩ := hv
  have hx := B.exec
  have hb := B.bytes
  have hr := B.returns
  have hts := atoms_spec (ws := wsX11_plays) B.pre
  have hown : s.vm.findClass RX11 = some m.cls := findClass_of_methodNamed B.named
  have hlocks := B.notSynchronized
  have hK := hE.1
  have hi11 : ∀ w ∈ u_ws RX11 TX11 16, w ∈ wsX11_plays := fun w h => List.mem_cons_of_mem _ (List.mem_append_left _ (List.mem_append_left _ (List.mem_append_right _ h)))
  subst hsz
  have hD := hD0.self (sz := s.heap.size)
  generalize hAe : va_A (w_c_X11_plays cI cJ cB cZ cO qh qh_kept vh_laid qi qr qt qd vd_gap vd_odds vd_rain vd_lines qd_steps qd_lengths qd_starts qd_met fd_met qd_stumbles vd_stumbleCount qd_muds qd_cells vd_cellCount qd_tunes vd_tuneCount qd_changes vd_changeCount qd2 qf qf2 qo qe qw qu qg qg_winning fg_winning qn qs) s.heap.size = A at hD hH ⊢
  have hA : ∀ q : Nat, s.heap.size ≤ q → A q := fun q h => by rw [← hAe]; exact Or.inr h
  have hS : va_S A s.heap s.heap [] := va_S.rf
  obtain ⟨hP, hD⟩ : ct_B D A s.heap [oo qh qr qt qd qd2 qi qh_kept qf qf2 vh_laid qo qe qw qu qg qn qs, dn qd vd_gap vd_odds vd_rain vd_lines qd_steps qd_lengths qd_starts qd_met qd_stumbles vd_stumbleCount qd_muds qd_cells vd_cellCount qd_tunes vd_tuneCount qd_changes vd_changeCount, (qd_met, .inl (cI, 6, .inl (fd_met))), (qg, .inr (2, [.ref qg_winning])), (qg_winning, .inl (cI, 729, .inl (fg_winning)))] := ⟨hP, hD⟩
  have hl := lv_entry ([.ref qh, .int a1]) (n := 2) (Nat.le_of_ble_eq_true rfl)
  rw [lg_entry_eq]
  generalize (lg_sl ([.ref qh, .int a1]) ++ List.replicate (2 - (lg_sl ([.ref qh, .int a1])).length) Slot.unset).toArray = ls at hl ⊢
  have hl : lv_has ls 2 [(0, .ref qh), (1, .int a1)] := hl
  obtain ⟨H, hHe⟩ : ∃ H : Heap, H = s.heap := ⟨_, rfl⟩
  rw [← hHe] at hP
  have hS : va_S A s.heap H [] := by rw [hHe]; exact va_S.rf
  refine ct_start hHe ?_
  refine lv_aload_n hx hb dX11_plays_0 rfl (lv_at hl 0 rfl) ?_
  refine va_get (D := D) (ci := 11) (v := .ref qd) (C := RX11) (T := TX11) (N := 16) hx hb hts hi11 hown hK hP 0 rfl rfl 2 (by decide) (hts (.fieldLink RX11 24 "OverHill" "now" "LOverHill$Dance;") (by decide +kernel)) (fun _ h9 => h9) rfl dX11_plays_1 ?_
  refine ct_calli (D := D) (wr := [oo qh qr qt qd qd2 qi qh_kept qf qf2 vh_laid qo qe qw qu qg qn qs, (qd_met, .inl (cI, 6, .inl (fd_met))), (qg, .inr (2, [.ref qg_winning])), (qg_winning, .inl (cI, 729, .inl (fg_winning)))]) (va_runV (As := []) (rest := []) ⟨hx, hb, hml, hown, hts⟩ (c_X0_stands l D G cI cJ cB cZ cO qd vd_gap vd_odds vd_rain vd_lines qd_steps qd_lengths qd_starts qd_met qd_stumbles vd_stumbleCount qd_muds qd_cells vd_cellCount qd_tunes vd_tuneCount qd_changes vd_changeCount h_vd_gap h_vd_stumbleCount h_vd_cellCount h_vd_tuneCount h_vd_changeCount H.size) (cwV 0 hts gX11_plays_X0_stands rfl rfl rfl (by decide +kernel) ⟨Nat.le_of_ble_eq_true rfl, Nat.le_of_ble_eq_true rfl⟩) (ct_preV (T := ct_T cI cJ cB cZ cO) (ci := 0) (q0 := 1) hE hH hP hD hS hA [1] (by decide) rfl rfl rfl) rfl rfl hl.1 rfl (lv_room (Nat.le_of_ble_eq_true rfl)) dX11_plays_4 ⟨Nat.le_of_ble_eq_true rfl, Nat.le_of_ble_eq_true rfl⟩) hP hD hS hA [1] [0, 2, 3, 4] rfl rfl (by decide) (by decide) (fun r1 u H locs hw hP hD hS => ?_)
  obtain ⟨hP, hD⟩ : ct_B D A H [oo qh qr qt qd qd2 qi qh_kept qf qf2 vh_laid qo qe qw qu qg qn qs, (qd_met, .inl (cI, 6, .inl (fd_met))), (qg, .inr (2, [.ref qg_winning])), (qg_winning, .inl (cI, 729, .inl (fg_winning))), dn qd vd_gap vd_odds vd_rain vd_lines qd_steps qd_lengths qd_starts qd_met qd_stumbles vd_stumbleCount qd_muds qd_cells vd_cellCount qd_tunes vd_tuneCount qd_changes vd_changeCount] := ⟨hP, hD⟩
  have hz := hw
  rcases hz with ⟨hz, hz2⟩ | ⟨hz, hz2⟩
  · subst hz
    have hz_2 : (0 < vd_lines.toInt) := hz2
    refine lv_if_eq (tgt := 32) hx hb dX11_plays_7 (by decide) (fun hc => absurd hc (by decide)) (fun _ => ?_)
    refine lv_iload_n hx hb dX11_plays_10 rfl (lv_at hl 1 rfl) ?_
    refine ct_calli (D := D) (wr := [oo qh qr qt qd qd2 qi qh_kept qf qf2 vh_laid qo qe qw qu qg qn qs, (qd_met, .inl (cI, 6, .inl (fd_met))), (qg, .inr (2, [.ref qg_winning])), (qg_winning, .inl (cI, 729, .inl (fg_winning))), dn qd vd_gap vd_odds vd_rain vd_lines qd_steps qd_lengths qd_starts qd_met qd_stumbles vd_stumbleCount qd_muds qd_cells vd_cellCount qd_tunes vd_tuneCount qd_changes vd_changeCount]) (va_runS (As := [.int a1]) (rest := []) ⟨hx, hb, hml, hown, hts⟩ (c_X11_isStep l D G cI cJ cB cZ cO a1  H.size) (va_cwS 1 hts gX11_plays_X11_isStep rfl rfl rfl (by decide +kernel) ⟨Nat.le_of_ble_eq_true rfl, Nat.le_of_ble_eq_true rfl⟩) (ct_preS (T := ct_T cI cJ cB cZ cO) hE hH hP hD hS hA [] (by decide) rfl) rfl rfl hl.1 rfl (lv_room (Nat.le_of_ble_eq_true rfl)) dX11_plays_11 ⟨Nat.le_of_ble_eq_true rfl, Nat.le_of_ble_eq_true rfl⟩) hP hD hS hA [] [0, 1, 2, 3, 4] rfl rfl (by decide) (by decide) (fun r3 u H locs hw hP hD hS => ?_)
    obtain ⟨hP, hD⟩ : ct_B D A H [oo qh qr qt qd qd2 qi qh_kept qf qf2 vh_laid qo qe qw qu qg qn qs, (qd_met, .inl (cI, 6, .inl (fd_met))), (qg, .inr (2, [.ref qg_winning])), (qg_winning, .inl (cI, 729, .inl (fg_winning))), dn qd vd_gap vd_odds vd_rain vd_lines qd_steps qd_lengths qd_starts qd_met qd_stumbles vd_stumbleCount qd_muds qd_cells vd_cellCount qd_tunes vd_tuneCount qd_changes vd_changeCount] := ⟨hP, hD⟩
    have hz := hw
    rcases hz with ⟨hz, hz2⟩ | ⟨hz, hz2⟩
    · subst hz
      have hz_4 : (0 ≤ a1.toInt ∧ a1.toInt < 6) := hz2
      refine lv_if_eq (tgt := 32) hx hb dX11_plays_14 (by decide) (fun hc => absurd hc (by decide)) (fun _ => ?_)
      refine lv_aload_n hx hb dX11_plays_17 rfl (lv_at hl 0 rfl) ?_
      refine va_get (D := D) (ci := 11) (v := .ref qg) (C := RX11) (T := TX11) (N := 16) hx hb hts hi11 hown hK hP 0 rfl rfl 13 (by decide) (hts (.fieldLink RX11 84 "OverHill" "games" "LOverHill$Game;") (by decide +kernel)) (fun _ h9 => h9) rfl dX11_plays_18 ?_
      refine lv_aload_n hx hb dX11_plays_21 rfl (lv_at hl 0 rfl) ?_
      refine va_get (D := D) (ci := 11) (v := .ref qd) (C := RX11) (T := TX11) (N := 16) hx hb hts hi11 hown hK hP 0 rfl rfl 2 (by decide) (hts (.fieldLink RX11 24 "OverHill" "now" "LOverHill$Dance;") (by decide +kernel)) (fun _ h9 => h9) rfl dX11_plays_22 ?_
      refine lv_iload_n hx hb dX11_plays_25 rfl (lv_at hl 1 rfl) ?_
      refine ct_calli (D := D) (wr := [oo qh qr qt qd qd2 qi qh_kept qf qf2 vh_laid qo qe qw qu qg qn qs]) (va_runV (As := [.ref qd, .int a1]) (rest := []) ⟨hx, hb, hml, hown, hts⟩ (c_X2_winningStep l D G cI cJ cB cZ cO qg qg_winning fg_winning qd vd_gap vd_odds vd_rain vd_lines qd_steps qd_lengths qd_starts qd_met fd_met qd_stumbles vd_stumbleCount qd_muds qd_cells vd_cellCount qd_tunes vd_tuneCount qd_changes vd_changeCount a1 h_vd_gap h_vd_stumbleCount h_vd_cellCount h_vd_tuneCount h_vd_changeCount (by omega) H.size) (cwV 2 hts gX11_plays_X2_winningStep rfl rfl rfl (by decide +kernel) ⟨Nat.le_of_ble_eq_true rfl, Nat.le_of_ble_eq_true rfl⟩) (ct_preV (T := ct_T cI cJ cB cZ cO) (ci := 2) (q0 := 2) hE hH hP hD hS hA [2, 3, 4, 1] (by decide) rfl rfl rfl) rfl rfl hl.1 rfl (lv_room (Nat.le_of_ble_eq_true rfl)) dX11_plays_26 ⟨Nat.le_of_ble_eq_true rfl, Nat.le_of_ble_eq_true rfl⟩) hP hD hS hA [2, 3, 4, 1] [0] rfl rfl (by decide) (by decide) (fun r5 u H locs hw hP hD hS => ?_)
      obtain ⟨g6, rfl⟩ : ∃ z, z = u := ⟨_, rfl⟩
      obtain ⟨hP, hD⟩ : ct_B D A H [oo qh qr qt qd qd2 qi qh_kept qf qf2 vh_laid qo qe qw qu qg qn qs, (qg, .inr (2, [.ref qg_winning])), (qg_winning, .inl (cI, 729, .inl (g6))), dn qd vd_gap vd_odds vd_rain vd_lines qd_steps qd_lengths qd_starts qd_met qd_stumbles vd_stumbleCount qd_muds qd_cells vd_cellCount qd_tunes vd_tuneCount qd_changes vd_changeCount, (qd_met, .inl (cI, 6, .inl (fd_met)))] := ⟨hP, hD⟩
      refine lv_goto (tgt := 34) hx hb dX11_plays_29 (by decide) ?_
      obtain ⟨hP9, hD9⟩ : ct_B D A H [oo qh qr qt qd qd2 qi qh_kept qf qf2 vh_laid qo qe qw qu qg qn qs, dn qd vd_gap vd_odds vd_rain vd_lines qd_steps qd_lengths qd_starts qd_met qd_stumbles vd_stumbleCount qd_muds qd_cells vd_cellCount qd_tunes vd_tuneCount qd_changes vd_changeCount, (qd_met, .inl (cI, 6, .inl (fd_met))), (qg, .inr (2, [.ref qg_winning])), (qg_winning, .inl (cI, 729, .inl (g6)))] := ⟨hP.sub [0, 3, 4, 1, 2] rfl, hD.sub [0, 3, 4, 1, 2] (by decide) rfl⟩
      exact W.iret (v := r5) hx hb hr (fun t ht hW => ⟨⟨r5, g6, rfl, trivial, by rw [ht]; exact hP9, hD9⟩, hS.F ht⟩) hS.2.2 dX11_plays_34
    · subst hz
      have hz_7 : ¬ (0 ≤ a1.toInt ∧ a1.toInt < 6) := hz2
      refine lv_if_eq (tgt := 32) hx hb dX11_plays_14 (by decide) (fun _ => ?_) (fun hc => absurd hc (by decide))
      refine lv_bipush (v := (-2)) hx hb dX11_plays_32 (by decide) ?_
      obtain ⟨hP9, hD9⟩ : ct_B D A H [oo qh qr qt qd qd2 qi qh_kept qf qf2 vh_laid qo qe qw qu qg qn qs, dn qd vd_gap vd_odds vd_rain vd_lines qd_steps qd_lengths qd_starts qd_met qd_stumbles vd_stumbleCount qd_muds qd_cells vd_cellCount qd_tunes vd_tuneCount qd_changes vd_changeCount, (qd_met, .inl (cI, 6, .inl (fd_met))), (qg, .inr (2, [.ref qg_winning])), (qg_winning, .inl (cI, 729, .inl (fg_winning)))] := ⟨hP.sub [0, 4, 1, 2, 3] rfl, hD.sub [0, 4, 1, 2, 3] (by decide) rfl⟩
      exact W.iret (v := (-2)) hx hb hr (fun t ht hW => ⟨⟨(-2), fg_winning, rfl, trivial, by rw [ht]; exact hP9, hD9⟩, hS.F ht⟩) hS.2.2 dX11_plays_34
  · subst hz
    have hz_8 : ¬ (0 < vd_lines.toInt) := hz2
    refine lv_if_eq (tgt := 32) hx hb dX11_plays_7 (by decide) (fun _ => ?_) (fun hc => absurd hc (by decide))
    refine lv_bipush (v := (-2)) hx hb dX11_plays_32 (by decide) ?_
    obtain ⟨hP9, hD9⟩ : ct_B D A H [oo qh qr qt qd qd2 qi qh_kept qf qf2 vh_laid qo qe qw qu qg qn qs, dn qd vd_gap vd_odds vd_rain vd_lines qd_steps qd_lengths qd_starts qd_met qd_stumbles vd_stumbleCount qd_muds qd_cells vd_cellCount qd_tunes vd_tuneCount qd_changes vd_changeCount, (qd_met, .inl (cI, 6, .inl (fd_met))), (qg, .inr (2, [.ref qg_winning])), (qg_winning, .inl (cI, 729, .inl (fg_winning)))] := ⟨hP.sub [0, 4, 1, 2, 3] rfl, hD.sub [0, 4, 1, 2, 3] (by decide) rfl⟩
    exact W.iret (v := (-2)) hx hb hr (fun t ht hW => ⟨⟨(-2), fg_winning, rfl, trivial, by rw [ht]; exact hP9, hD9⟩, hS.F ht⟩) hS.2.2 dX11_plays_34
abbrev w_c_X11_wet (cI cJ cB cZ cO : ClassId) (qh : Nat) (qh_kept : Nat) (vh_laid : Int32) (qi : Nat) (qr : Nat) (qt : Nat) (qd : Nat) (vd_gap : Int32) (vd_odds : Int32) (vd_rain : Int32) (vd_lines : Int32) (qd_steps : Nat) (qd_lengths : Nat) (qd_starts : Nat) (qd_met : Nat) (qd_stumbles : Nat) (vd_stumbleCount : Int32) (qd_muds : Nat) (qd_cells : Nat) (vd_cellCount : Int32) (qd_tunes : Nat) (vd_tuneCount : Int32) (qd_changes : Nat) (vd_changeCount : Int32) (qd2 : Nat) (qf : Nat) (qf2 : Nat) (qo : Nat) (qe : Nat) (qw : Nat) (qu : Nat) (qg : Nat) (qn : Nat) (qs : Nat) : va_W := [oo qh qr qt qd qd2 qi qh_kept qf qf2 vh_laid qo qe qw qu qg qn qs, dn qd vd_gap vd_odds vd_rain vd_lines qd_steps qd_lengths qd_starts qd_met qd_stumbles vd_stumbleCount qd_muds qd_cells vd_cellCount qd_tunes vd_tuneCount qd_changes vd_changeCount]
set_option maxHeartbeats 4000000 in
set_option maxRecDepth 100000 in
/-- X11 wet -/
theorem c_X11_wet (l : Launch) (D : va_G) (G : ct_G) (cI cJ cB cZ cO : ClassId) (qh : Nat) (qh_kept : Nat) (vh_laid : Int32) (qi : Nat) (qr : Nat) (qt : Nat) (qd : Nat) (vd_gap : Int32) (vd_odds : Int32) (vd_rain : Int32) (vd_lines : Int32) (qd_steps : Nat) (qd_lengths : Nat) (qd_starts : Nat) (qd_met : Nat) (qd_stumbles : Nat) (vd_stumbleCount : Int32) (qd_muds : Nat) (qd_cells : Nat) (vd_cellCount : Int32) (qd_tunes : Nat) (vd_tuneCount : Int32) (qd_changes : Nat) (vd_changeCount : Int32) (qd2 : Nat) (qf : Nat) (qf2 : Nat) (qo : Nat) (qe : Nat) (qw : Nat) (qu : Nat) (qg : Nat) (qn : Nat) (qs : Nat) (a1 : Int32) (a2 : Int32) (a3 : Int32) (h_vd_gap : 0 ≤ vd_gap.toInt ∧ vd_gap.toInt ≤ 20) (h_vd_stumbleCount : 0 ≤ vd_stumbleCount.toInt ∧ vd_stumbleCount.toInt ≤ 8) (h_vd_cellCount : 0 ≤ vd_cellCount.toInt ∧ vd_cellCount.toInt ≤ 12) (h_vd_tuneCount : 0 ≤ vd_tuneCount.toInt ∧ vd_tuneCount.toInt ≤ 5) (h_vd_changeCount : 0 ≤ vd_changeCount.toInt ∧ vd_changeCount.toInt ≤ 40) (sz : Nat) : Met l yX11_wet wsX11_wet ({ frames := 1, cells := 0, slots := 0, locals := 30 }) (va_Pc [.ref qh, .int a1, .int a2, .int a3] (ct_P D (ct_T cI cJ cB cZ cO) G (w_c_X11_wet cI cJ cB cZ cO qh qh_kept vh_laid qi qr qt qd vd_gap vd_odds vd_rain vd_lines qd_steps qd_lengths qd_starts qd_met qd_stumbles vd_stumbleCount qd_muds qd_cells vd_cellCount qd_tunes vd_tuneCount qd_changes vd_changeCount qd2 qf qf2 qo qe qw qu qg qn qs) sz)) (va_Ql (fun (rz : Int64) (u : Unit) => True) (fun (u : Unit) t => ct_Q D (va_A (w_c_X11_wet cI cJ cB cZ cO qh qh_kept vh_laid qi qr qt qd vd_gap vd_odds vd_rain vd_lines qd_steps qd_lengths qd_starts qd_met qd_stumbles vd_stumbleCount qd_muds qd_cells vd_cellCount qd_tunes vd_tuneCount qd_changes vd_changeCount qd2 qf qf2 qo qe qw qu qg qn qs) sz) [oo qh qr qt qd qd2 qi qh_kept qf qf2 vh_laid qo qe qw qu qg qn qs, dn qd vd_gap vd_odds vd_rain vd_lines qd_steps qd_lengths qd_starts qd_met qd_stumbles vd_stumbleCount qd_muds qd_cells vd_cellCount qd_tunes vd_tuneCount qd_changes vd_changeCount] t) (va_A (w_c_X11_wet cI cJ cB cZ cO qh qh_kept vh_laid qi qr qt qd vd_gap vd_odds vd_rain vd_lines qd_steps qd_lengths qd_starts qd_met qd_stumbles vd_stumbleCount qd_muds qd_cells vd_cellCount qd_tunes vd_tuneCount qd_changes vd_changeCount qd2 qf qf2 qo qe qw qu qg qn qs) sz)) 0 0 (va_A (w_c_X11_wet cI cJ cB cZ cO qh qh_kept vh_laid qi qr qt qd vd_gap vd_odds vd_rain vd_lines qd_steps qd_lengths qd_starts qd_met qd_stumbles vd_stumbleCount qd_muds qd_cells vd_cellCount qd_tunes vd_tuneCount qd_changes vd_changeCount qd2 qf qf2 qo qe qw qu qg qn qs) sz) := by
  refine Met.ofW (cc := cX11_wet) (maxL := 10) (ret := (some .long)) (by decide) rfl ?_
  intro p e s m args below meth c s₁ B hml hv
  obtain ⟨rfl, hsz, hP, hE, hD0, hH⟩ := hv
  have hx := B.exec
  have hb := B.bytes
  have hr := B.returns
  have hts := atoms_spec (ws := wsX11_wet) B.pre
  have hown : s.vm.findClass RX11 = some m.cls := findClass_of_methodNamed B.named
  have hlocks := B.notSynchronized
  have hK := hE.1
  have hi0 : ∀ w ∈ u_ws RX0 TX0 17, w ∈ wsX11_wet := fun w h => List.mem_cons_of_mem _ (List.mem_append_right _ h)
  have hi11 : ∀ w ∈ u_ws RX11 TX11 16, w ∈ wsX11_wet := fun w h => List.mem_cons_of_mem _ (List.mem_append_left _ (List.mem_append_right _ h))
  subst hsz
  have hD := hD0.self (sz := s.heap.size)
  generalize hAe : va_A (w_c_X11_wet cI cJ cB cZ cO qh qh_kept vh_laid qi qr qt qd vd_gap vd_odds vd_rain vd_lines qd_steps qd_lengths qd_starts qd_met qd_stumbles vd_stumbleCount qd_muds qd_cells vd_cellCount qd_tunes vd_tuneCount qd_changes vd_changeCount qd2 qf qf2 qo qe qw qu qg qn qs) s.heap.size = A at hD hH ⊢
  have hA : ∀ q : Nat, s.heap.size ≤ q → A q := fun q h => by rw [← hAe]; exact Or.inr h
  have hS : va_S A s.heap s.heap [] := va_S.rf
  obtain ⟨hP, hD⟩ : ct_B D A s.heap [oo qh qr qt qd qd2 qi qh_kept qf qf2 vh_laid qo qe qw qu qg qn qs, dn qd vd_gap vd_odds vd_rain vd_lines qd_steps qd_lengths qd_starts qd_met qd_stumbles vd_stumbleCount qd_muds qd_cells vd_cellCount qd_tunes vd_tuneCount qd_changes vd_changeCount] := ⟨hP, hD⟩
  have hl := lv_entry ([.ref qh, .int a1, .int a2, .int a3]) (n := 10) (Nat.le_of_ble_eq_true rfl)
  rw [lg_entry_eq]
  generalize (lg_sl ([.ref qh, .int a1, .int a2, .int a3]) ++ List.replicate (10 - (lg_sl ([.ref qh, .int a1, .int a2, .int a3])).length) Slot.unset).toArray = ls at hl ⊢
  have hl : lv_has ls 10 [(0, .ref qh), (1, .int a1), (2, .int a2), (3, .int a3)] := hl
  obtain ⟨H, hHe⟩ : ∃ H : Heap, H = s.heap := ⟨_, rfl⟩
  rw [← hHe] at hP
  have hS : va_S A s.heap H [] := by rw [hHe]; exact va_S.rf
  refine ct_start hHe ?_
  refine lv_aload_n hx hb dX11_wet_0 rfl (lv_at hl 0 rfl) ?_
  refine va_get (D := D) (ci := 11) (v := .ref qd) (C := RX11) (T := TX11) (N := 16) hx hb hts hi11 hown hK hP 0 rfl rfl 2 (by decide) (hts (.fieldLink RX11 24 "OverHill" "now" "LOverHill$Dance;") (by decide +kernel)) (fun _ h9 => h9) rfl dX11_wet_1 ?_
  refine ct_calli (D := D) (wr := [oo qh qr qt qd qd2 qi qh_kept qf qf2 vh_laid qo qe qw qu qg qn qs]) (va_runV (As := []) (rest := []) ⟨hx, hb, hml, hown, hts⟩ (c_X0_stands l D G cI cJ cB cZ cO qd vd_gap vd_odds vd_rain vd_lines qd_steps qd_lengths qd_starts qd_met qd_stumbles vd_stumbleCount qd_muds qd_cells vd_cellCount qd_tunes vd_tuneCount qd_changes vd_changeCount h_vd_gap h_vd_stumbleCount h_vd_cellCount h_vd_tuneCount h_vd_changeCount H.size) (cwV 0 hts gX11_wet_X0_stands rfl rfl rfl (by decide +kernel) ⟨Nat.le_of_ble_eq_true rfl, Nat.le_of_ble_eq_true rfl⟩) (ct_preV (T := ct_T cI cJ cB cZ cO) (ci := 0) (q0 := 1) hE hH hP hD hS hA [1] (by decide) rfl rfl rfl) rfl rfl hl.1 rfl (lv_room (Nat.le_of_ble_eq_true rfl)) dX11_wet_4 ⟨Nat.le_of_ble_eq_true rfl, Nat.le_of_ble_eq_true rfl⟩) hP hD hS hA [1] [0] rfl rfl (by decide) (by decide) (fun r1 u H locs hw hP hD hS => ?_)
  obtain ⟨hP, hD⟩ : ct_B D A H [oo qh qr qt qd qd2 qi qh_kept qf qf2 vh_laid qo qe qw qu qg qn qs, dn qd vd_gap vd_odds vd_rain vd_lines qd_steps qd_lengths qd_starts qd_met qd_stumbles vd_stumbleCount qd_muds qd_cells vd_cellCount qd_tunes vd_tuneCount qd_changes vd_changeCount] := ⟨hP, hD⟩
  have hz := hw
  rcases hz with ⟨hz, hz2⟩ | ⟨hz, hz2⟩
  · subst hz
    have hz_2 : (0 < vd_lines.toInt) := hz2
    refine lv_if_eq (tgt := 39) hx hb dX11_wet_7 (by decide) (fun hc => absurd hc (by decide)) (fun _ => ?_)
    refine lv_iload_n hx hb dX11_wet_10 rfl (lv_at hl 1 rfl) ?_
    refine lv_iconst (v := 1) hx hb dX11_wet_11 (by decide) ?_
    refine lv_icmp_lt (tgt := 39) hx hb dX11_wet_12 (by decide) (fun hc => ?_) (fun hc => ?_)
    · have hq3 : a1.toInt < 1 := tq_lt rfl (by decide) hc
      have hb4 := tq_lo a1
      refine lv_ldc2 (v := (-2)) hx hb hown (hts (.constantLong RX11 306 (-2)) (by decide +kernel)) dX11_wet_39 ?_
      obtain ⟨hP9, hD9⟩ : ct_B D A H [oo qh qr qt qd qd2 qi qh_kept qf qf2 vh_laid qo qe qw qu qg qn qs, dn qd vd_gap vd_odds vd_rain vd_lines qd_steps qd_lengths qd_starts qd_met qd_stumbles vd_stumbleCount qd_muds qd_cells vd_cellCount qd_tunes vd_tuneCount qd_changes vd_changeCount] := ⟨hP.sub [0, 1] rfl, hD.sub [0, 1] (by decide) rfl⟩
      exact W.lret (v := (-2)) hx hb hr (fun t ht hW => ⟨⟨(-2), (), rfl, trivial, by rw [ht]; exact hP9, hD9⟩, hS.F ht⟩) hS.2.2 dX11_wet_42
    · have hq3 : 1 ≤ a1.toInt := tq_nlt rfl (by decide) hc
      have hb5 := tq_lo a1
      refine lv_iload_n hx hb dX11_wet_15 rfl (lv_at hl 1 rfl) ?_
      refine lv_bipush (v := 9) hx hb dX11_wet_16 (by decide) ?_
      refine lv_icmp_gt (tgt := 39) hx hb dX11_wet_18 (by decide) (fun hc => ?_) (fun hc => ?_)
      · have hq6 : 9 < a1.toInt := tq_lt (by decide) rfl hc
        have hb7 := tq_lo a1
        refine lv_ldc2 (v := (-2)) hx hb hown (hts (.constantLong RX11 306 (-2)) (by decide +kernel)) dX11_wet_39 ?_
        obtain ⟨hP9, hD9⟩ : ct_B D A H [oo qh qr qt qd qd2 qi qh_kept qf qf2 vh_laid qo qe qw qu qg qn qs, dn qd vd_gap vd_odds vd_rain vd_lines qd_steps qd_lengths qd_starts qd_met qd_stumbles vd_stumbleCount qd_muds qd_cells vd_cellCount qd_tunes vd_tuneCount qd_changes vd_changeCount] := ⟨hP.sub [0, 1] rfl, hD.sub [0, 1] (by decide) rfl⟩
        exact W.lret (v := (-2)) hx hb hr (fun t ht hW => ⟨⟨(-2), (), rfl, trivial, by rw [ht]; exact hP9, hD9⟩, hS.F ht⟩) hS.2.2 dX11_wet_42
      · have hq6 : a1.toInt ≤ 9 := tq_nlt (by decide) rfl hc
        have hb8 := tq_lo a1
        refine lv_iload_n hx hb dX11_wet_21 rfl (lv_at hl 2 rfl) ?_
        refine lv_iload_n hx hb dX11_wet_22 rfl (lv_at hl 1 rfl) ?_
        refine lv_iconst (v := 1) hx hb dX11_wet_23 (by decide) ?_
        refine lv_iadd hx hb dX11_wet_24 ?_
        refine lv_topi (fun z9 ez9 => ?_)
        have fz9 : z9.toInt = a1.toInt + 1 := by rw [ez9]; exact tq_add rfl (by decide) (by omega)
        refine ct_calli (D := D) (wr := [oo qh qr qt qd qd2 qi qh_kept qf qf2 vh_laid qo qe qw qu qg qn qs, dn qd vd_gap vd_odds vd_rain vd_lines qd_steps qd_lengths qd_starts qd_met qd_stumbles vd_stumbleCount qd_muds qd_cells vd_cellCount qd_tunes vd_tuneCount qd_changes vd_changeCount]) (va_runS (As := [.int a2, .int z9]) (rest := []) ⟨hx, hb, hml, hown, hts⟩ (c_X11_isWithin l D G cI cJ cB cZ cO a2 z9  H.size) (va_cwS 2 hts gX11_wet_X11_isWithin rfl rfl rfl (by decide +kernel) ⟨Nat.le_of_ble_eq_true rfl, Nat.le_of_ble_eq_true rfl⟩) (ct_preS (T := ct_T cI cJ cB cZ cO) hE hH hP hD hS hA [] (by decide) rfl) rfl rfl hl.1 rfl (lv_room (Nat.le_of_ble_eq_true rfl)) dX11_wet_25 ⟨Nat.le_of_ble_eq_true rfl, Nat.le_of_ble_eq_true rfl⟩) hP hD hS hA [] [0, 1] rfl rfl (by decide) (by decide) (fun r10 u H locs hw hP hD hS => ?_)
        obtain ⟨hP, hD⟩ : ct_B D A H [oo qh qr qt qd qd2 qi qh_kept qf qf2 vh_laid qo qe qw qu qg qn qs, dn qd vd_gap vd_odds vd_rain vd_lines qd_steps qd_lengths qd_starts qd_met qd_stumbles vd_stumbleCount qd_muds qd_cells vd_cellCount qd_tunes vd_tuneCount qd_changes vd_changeCount] := ⟨hP, hD⟩
        have hz := hw
        rcases hz with ⟨hz, hz2⟩ | ⟨hz, hz2⟩
        · subst hz
          have hz_11 : (0 ≤ a2.toInt ∧ a2.toInt < z9.toInt) := hz2
          refine lv_if_eq (tgt := 39) hx hb dX11_wet_28 (by decide) (fun hc => absurd hc (by decide)) (fun _ => ?_)
          refine lv_iload_n hx hb dX11_wet_31 rfl (lv_at hl 3 rfl) ?_
          refine lv_iconst (v := 2) hx hb dX11_wet_32 (by decide) ?_
          refine ct_calli (D := D) (wr := [oo qh qr qt qd qd2 qi qh_kept qf qf2 vh_laid qo qe qw qu qg qn qs, dn qd vd_gap vd_odds vd_rain vd_lines qd_steps qd_lengths qd_starts qd_met qd_stumbles vd_stumbleCount qd_muds qd_cells vd_cellCount qd_tunes vd_tuneCount qd_changes vd_changeCount]) (va_runS (As := [.int a3, .int 2]) (rest := []) ⟨hx, hb, hml, hown, hts⟩ (c_X11_isWithin l D G cI cJ cB cZ cO a3 2  H.size) (va_cwS 2 hts gX11_wet_X11_isWithin rfl rfl rfl (by decide +kernel) ⟨Nat.le_of_ble_eq_true rfl, Nat.le_of_ble_eq_true rfl⟩) (ct_preS (T := ct_T cI cJ cB cZ cO) hE hH hP hD hS hA [] (by decide) rfl) rfl rfl hl.1 rfl (lv_room (Nat.le_of_ble_eq_true rfl)) dX11_wet_33 ⟨Nat.le_of_ble_eq_true rfl, Nat.le_of_ble_eq_true rfl⟩) hP hD hS hA [] [0, 1] rfl rfl (by decide) (by decide) (fun r12 u H locs hw hP hD hS => ?_)
          obtain ⟨hP, hD⟩ : ct_B D A H [oo qh qr qt qd qd2 qi qh_kept qf qf2 vh_laid qo qe qw qu qg qn qs, dn qd vd_gap vd_odds vd_rain vd_lines qd_steps qd_lengths qd_starts qd_met qd_stumbles vd_stumbleCount qd_muds qd_cells vd_cellCount qd_tunes vd_tuneCount qd_changes vd_changeCount] := ⟨hP, hD⟩
          have hk13 : (2 : Int32).toInt = 2 := by decide
          have hz := hw
          rcases hz with ⟨hz, hz2⟩ | ⟨hz, hz2⟩
          · subst hz
            have hz_14 : (0 ≤ a3.toInt ∧ a3.toInt < (2 : Int32).toInt) := hz2
            refine lv_if_ne (tgt := 43) hx hb dX11_wet_36 (by decide) (fun _ => ?_) (fun hc => absurd hc (by decide))
            refine lv_iload_n hx hb dX11_wet_43 rfl (lv_at hl 1 rfl) ?_
            refine lv_iload_n hx hb dX11_wet_44 rfl (lv_at hl 2 rfl) ?_
            refine ct_calll (D := D) (wr := [oo qh qr qt qd qd2 qi qh_kept qf qf2 vh_laid qo qe qw qu qg qn qs, dn qd vd_gap vd_odds vd_rain vd_lines qd_steps qd_lengths qd_starts qd_met qd_stumbles vd_stumbleCount qd_muds qd_cells vd_cellCount qd_tunes vd_tuneCount qd_changes vd_changeCount]) (va_runS (As := [.int a1, .int a2]) (rest := []) ⟨hx, hb, hml, hown, hts⟩ (c_X11_choices l D G cI cJ cB cZ cO a1 a2 (by omega) (by omega) H.size) (va_cwS 2 hts gX11_wet_X11_choices rfl rfl rfl (by decide +kernel) ⟨Nat.le_of_ble_eq_true rfl, Nat.le_of_ble_eq_true rfl⟩) (ct_preS (T := ct_T cI cJ cB cZ cO) hE hH hP hD hS hA [] (by decide) rfl) rfl rfl hl.1 rfl (lv_room (Nat.le_of_ble_eq_true rfl)) dX11_wet_45 ⟨Nat.le_of_ble_eq_true rfl, Nat.le_of_ble_eq_true rfl⟩) hP hD hS hA [] [0, 1] rfl rfl (by decide) (by decide) (fun r15 u H locs hw hP hD hS => ?_)
            obtain ⟨hP, hD⟩ : ct_B D A H [oo qh qr qt qd qd2 qi qh_kept qf qf2 vh_laid qo qe qw qu qg qn qs, dn qd vd_gap vd_odds vd_rain vd_lines qd_steps qd_lengths qd_starts qd_met qd_stumbles vd_stumbleCount qd_muds qd_cells vd_cellCount qd_tunes vd_tuneCount qd_changes vd_changeCount] := ⟨hP, hD⟩
            refine lv_aload_n hx hb dX11_wet_48 rfl (lv_at hl 0 rfl) ?_
            refine va_get (D := D) (ci := 11) (v := .ref qd) (C := RX11) (T := TX11) (N := 16) hx hb hts hi11 hown hK hP 0 rfl rfl 2 (by decide) (hts (.fieldLink RX11 24 "OverHill" "now" "LOverHill$Dance;") (by decide +kernel)) (fun _ h9 => h9) rfl dX11_wet_49 ?_
            refine va_get (D := D) (ci := 0) (v := .int vd_rain) (C := RX0) (T := TX0) (N := 17) hx hb hts hi0 hown hK hP 1 rfl rfl 2 (by decide) (hts (.fieldLink RX11 341 "OverHill$Dance" "rain" "I") (by decide +kernel)) (fun _ h9 => h9) rfl dX11_wet_52 ?_
            refine lv_iload_n hx hb dX11_wet_55 rfl (lv_at hl 2 rfl) ?_
            refine ct_calll (D := D) (wr := [oo qh qr qt qd qd2 qi qh_kept qf qf2 vh_laid qo qe qw qu qg qn qs, dn qd vd_gap vd_odds vd_rain vd_lines qd_steps qd_lengths qd_starts qd_met qd_stumbles vd_stumbleCount qd_muds qd_cells vd_cellCount qd_tunes vd_tuneCount qd_changes vd_changeCount]) (va_runS (As := [.int vd_rain, .int a2]) (rest := [.long r15]) ⟨hx, hb, hml, hown, hts⟩ (c_X11_power l D G cI cJ cB cZ cO vd_rain a2  H.size) (va_cwS 2 hts gX11_wet_X11_power rfl rfl rfl (by decide +kernel) ⟨Nat.le_of_ble_eq_true rfl, Nat.le_of_ble_eq_true rfl⟩) (ct_preS (T := ct_T cI cJ cB cZ cO) hE hH hP hD hS hA [] (by decide) rfl) rfl rfl hl.1 rfl (lv_room (Nat.le_of_ble_eq_true rfl)) dX11_wet_56 ⟨Nat.le_of_ble_eq_true rfl, Nat.le_of_ble_eq_true rfl⟩) hP hD hS hA [] [0, 1] rfl rfl (by decide) (by decide) (fun r16 u H locs hw hP hD hS => ?_)
            obtain ⟨hP, hD⟩ : ct_B D A H [oo qh qr qt qd qd2 qi qh_kept qf qf2 vh_laid qo qe qw qu qg qn qs, dn qd vd_gap vd_odds vd_rain vd_lines qd_steps qd_lengths qd_starts qd_met qd_stumbles vd_stumbleCount qd_muds qd_cells vd_cellCount qd_tunes vd_tuneCount qd_changes vd_changeCount] := ⟨hP, hD⟩
            refine lv_lmul hx hb dX11_wet_59 ?_
            refine lv_topl (fun z17 ez17 => ?_)
            refine lv_bipush (v := 100) hx hb dX11_wet_60 (by decide) ?_
            refine lv_aload_n hx hb dX11_wet_62 rfl (lv_at hl 0 rfl) ?_
            refine va_get (D := D) (ci := 11) (v := .ref qd) (C := RX11) (T := TX11) (N := 16) hx hb hts hi11 hown hK hP 0 rfl rfl 2 (by decide) (hts (.fieldLink RX11 24 "OverHill" "now" "LOverHill$Dance;") (by decide +kernel)) (fun _ h9 => h9) rfl dX11_wet_63 ?_
            refine va_get (D := D) (ci := 0) (v := .int vd_rain) (C := RX0) (T := TX0) (N := 17) hx hb hts hi0 hown hK hP 1 rfl rfl 2 (by decide) (hts (.fieldLink RX11 341 "OverHill$Dance" "rain" "I") (by decide +kernel)) (fun _ h9 => h9) rfl dX11_wet_66 ?_
            refine lv_isub hx hb dX11_wet_69 ?_
            refine lv_topi (fun z18 ez18 => ?_)
            refine lv_iload_n hx hb dX11_wet_70 rfl (lv_at hl 1 rfl) ?_
            refine lv_iload_n hx hb dX11_wet_71 rfl (lv_at hl 2 rfl) ?_
            refine lv_isub hx hb dX11_wet_72 ?_
            refine lv_topi (fun z19 ez19 => ?_)
            have fz19 : z19.toInt = a1.toInt - a2.toInt := by rw [ez19]; exact tq_subt rfl rfl (by omega)
            refine ct_calll (D := D) (wr := [oo qh qr qt qd qd2 qi qh_kept qf qf2 vh_laid qo qe qw qu qg qn qs, dn qd vd_gap vd_odds vd_rain vd_lines qd_steps qd_lengths qd_starts qd_met qd_stumbles vd_stumbleCount qd_muds qd_cells vd_cellCount qd_tunes vd_tuneCount qd_changes vd_changeCount]) (va_runS (As := [.int z18, .int z19]) (rest := [.long z17]) ⟨hx, hb, hml, hown, hts⟩ (c_X11_power l D G cI cJ cB cZ cO z18 z19  H.size) (va_cwS 2 hts gX11_wet_X11_power rfl rfl rfl (by decide +kernel) ⟨Nat.le_of_ble_eq_true rfl, Nat.le_of_ble_eq_true rfl⟩) (ct_preS (T := ct_T cI cJ cB cZ cO) hE hH hP hD hS hA [] (by decide) rfl) rfl rfl hl.1 rfl (lv_room (Nat.le_of_ble_eq_true rfl)) dX11_wet_73 ⟨Nat.le_of_ble_eq_true rfl, Nat.le_of_ble_eq_true rfl⟩) hP hD hS hA [] [0, 1] rfl rfl (by decide) (by decide) (fun r20 u H locs hw hP hD hS => ?_)
            obtain ⟨hP, hD⟩ : ct_B D A H [oo qh qr qt qd qd2 qi qh_kept qf qf2 vh_laid qo qe qw qu qg qn qs, dn qd vd_gap vd_odds vd_rain vd_lines qd_steps qd_lengths qd_starts qd_met qd_stumbles vd_stumbleCount qd_muds qd_cells vd_cellCount qd_tunes vd_tuneCount qd_changes vd_changeCount] := ⟨hP, hD⟩
            refine lv_lmul hx hb dX11_wet_76 ?_
            refine lv_topl (fun z21 ez21 => ?_)
            refine lv_lstore (lv' := [(4, .long z21), (0, .ref qh), (1, .int a1), (2, .int a2), (3, .int a3)]) hx hb dX11_wet_77 hl (by decide) rfl (fun ls hl => ?_)
            refine lv_bipush (v := 100) hx hb dX11_wet_79 (by decide) ?_
            refine lv_iload_n hx hb dX11_wet_81 rfl (lv_at hl 2 rfl) ?_
            refine ct_calll (D := D) (wr := [oo qh qr qt qd qd2 qi qh_kept qf qf2 vh_laid qo qe qw qu qg qn qs, dn qd vd_gap vd_odds vd_rain vd_lines qd_steps qd_lengths qd_starts qd_met qd_stumbles vd_stumbleCount qd_muds qd_cells vd_cellCount qd_tunes vd_tuneCount qd_changes vd_changeCount]) (va_runS (As := [.int 100, .int a1]) (rest := []) ⟨hx, hb, hml, hown, hts⟩ (c_X11_power l D G cI cJ cB cZ cO 100 a1  H.size) (va_cwS 2 hts gX11_wet_X11_power rfl rfl rfl (by decide +kernel) ⟨Nat.le_of_ble_eq_true rfl, Nat.le_of_ble_eq_true rfl⟩) (ct_preS (T := ct_T cI cJ cB cZ cO) hE hH hP hD hS hA [] (by decide) rfl) rfl rfl hl.1 rfl (lv_room (Nat.le_of_ble_eq_true rfl)) dX11_wet_82 ⟨Nat.le_of_ble_eq_true rfl, Nat.le_of_ble_eq_true rfl⟩) hP hD hS hA [] [0, 1] rfl rfl (by decide) (by decide) (fun r22 u H locs hw hP hD hS => ?_)
            obtain ⟨hP, hD⟩ : ct_B D A H [oo qh qr qt qd qd2 qi qh_kept qf qf2 vh_laid qo qe qw qu qg qn qs, dn qd vd_gap vd_odds vd_rain vd_lines qd_steps qd_lengths qd_starts qd_met qd_stumbles vd_stumbleCount qd_muds qd_cells vd_cellCount qd_tunes vd_tuneCount qd_changes vd_changeCount] := ⟨hP, hD⟩
            refine lv_lstore (lv' := [(6, .long r22), (4, .long z21), (0, .ref qh), (1, .int a1), (2, .int a2), (3, .int a3)]) hx hb dX11_wet_85 hl (by decide) rfl (fun ls hl => ?_)
            refine lv_lload hx hb dX11_wet_87 (lv_at hl 1 rfl) ?_
            refine lv_lload hx hb dX11_wet_89 (lv_at hl 0 rfl) ?_
            refine ct_calll (D := D) (wr := [oo qh qr qt qd qd2 qi qh_kept qf qf2 vh_laid qo qe qw qu qg qn qs, dn qd vd_gap vd_odds vd_rain vd_lines qd_steps qd_lengths qd_starts qd_met qd_stumbles vd_stumbleCount qd_muds qd_cells vd_cellCount qd_tunes vd_tuneCount qd_changes vd_changeCount]) (va_runS (As := [.long z21, .long r22]) (rest := []) ⟨hx, hb, hml, hown, hts⟩ (c_X11_commonDivisor l D G cI cJ cB cZ cO z21 r22  H.size) (va_cwS 2 hts gX11_wet_X11_commonDivisor rfl rfl rfl (by decide +kernel) ⟨Nat.le_of_ble_eq_true rfl, Nat.le_of_ble_eq_true rfl⟩) (ct_preS (T := ct_T cI cJ cB cZ cO) hE hH hP hD hS hA [] (by decide) rfl) rfl rfl hl.1 rfl (lv_room (Nat.le_of_ble_eq_true rfl)) dX11_wet_91 ⟨Nat.le_of_ble_eq_true rfl, Nat.le_of_ble_eq_true rfl⟩) hP hD hS hA [] [0, 1] rfl rfl (by decide) (by decide) (fun r23 u H locs hw hP hD hS => ?_)
            obtain ⟨hP, hD⟩ : ct_B D A H [oo qh qr qt qd qd2 qi qh_kept qf qf2 vh_laid qo qe qw qu qg qn qs, dn qd vd_gap vd_odds vd_rain vd_lines qd_steps qd_lengths qd_starts qd_met qd_stumbles vd_stumbleCount qd_muds qd_cells vd_cellCount qd_tunes vd_tuneCount qd_changes vd_changeCount] := ⟨hP, hD⟩
            refine lv_lstore (lv' := [(8, .long r23), (6, .long r22), (4, .long z21), (0, .ref qh), (1, .int a1), (2, .int a2), (3, .int a3)]) hx hb dX11_wet_94 hl (by decide) rfl (fun ls hl => ?_)
            refine lv_lload hx hb dX11_wet_96 (lv_at hl 0 rfl) ?_
            refine lv_lconst (v := 0) hx hb dX11_wet_98 (by decide) ?_
            refine W.lcmp hx hb dX11_wet_99 ?_
            refine lv_if_ne (tgt := 107) hx hb dX11_wet_100 (by decide) (fun hc => ?_) (fun hc => ?_)
            · have hq24 : r23.toInt ≠ 0 := tl_ne rfl (by decide) (fun z => hc ((lg_cmp_eq _ _).mpr z))
              refine lv_iload_n hx hb dX11_wet_107 rfl (lv_at hl 6 rfl) ?_
              refine lv_if_ne (tgt := 116) hx hb dX11_wet_108 (by decide) (fun hc => ?_) (fun hc => ?_)
              · have hq25 : a3.toInt ≠ 0 := tq_ne rfl (by decide) hc
                refine lv_lload hx hb dX11_wet_116 (lv_at hl 1 rfl) ?_
                refine lv_lload hx hb dX11_wet_118 (lv_at hl 0 rfl) ?_
                refine lv_ldiv hx hb dX11_wet_120 (tl_nz (by omega)) ?_
                refine lv_topl (fun z26 ez26 => ?_)
                obtain ⟨hP9, hD9⟩ : ct_B D A H [oo qh qr qt qd qd2 qi qh_kept qf qf2 vh_laid qo qe qw qu qg qn qs, dn qd vd_gap vd_odds vd_rain vd_lines qd_steps qd_lengths qd_starts qd_met qd_stumbles vd_stumbleCount qd_muds qd_cells vd_cellCount qd_tunes vd_tuneCount qd_changes vd_changeCount] := ⟨hP.sub [0, 1] rfl, hD.sub [0, 1] (by decide) rfl⟩
                exact W.lret (v := z26) hx hb hr (fun t ht hW => ⟨⟨z26, (), rfl, trivial, by rw [ht]; exact hP9, hD9⟩, hS.F ht⟩) hS.2.2 dX11_wet_121
              · have hq25 : a3.toInt = 0 := tq_eq rfl (by decide) hc
                refine lv_lload hx hb dX11_wet_111 (lv_at hl 2 rfl) ?_
                refine lv_goto (tgt := 118) hx hb dX11_wet_113 (by decide) ?_
                refine lv_lload hx hb dX11_wet_118 (lv_at hl 0 rfl) ?_
                refine lv_ldiv hx hb dX11_wet_120 (tl_nz (by omega)) ?_
                refine lv_topl (fun z27 ez27 => ?_)
                obtain ⟨hP9, hD9⟩ : ct_B D A H [oo qh qr qt qd qd2 qi qh_kept qf qf2 vh_laid qo qe qw qu qg qn qs, dn qd vd_gap vd_odds vd_rain vd_lines qd_steps qd_lengths qd_starts qd_met qd_stumbles vd_stumbleCount qd_muds qd_cells vd_cellCount qd_tunes vd_tuneCount qd_changes vd_changeCount] := ⟨hP.sub [0, 1] rfl, hD.sub [0, 1] (by decide) rfl⟩
                exact W.lret (v := z27) hx hb hr (fun t ht hW => ⟨⟨z27, (), rfl, trivial, by rw [ht]; exact hP9, hD9⟩, hS.F ht⟩) hS.2.2 dX11_wet_121
            · have hq24 : r23.toInt = 0 := tl_eq rfl (by decide) ((lg_cmp_eq _ _).mp hc)
              refine lv_ldc2 (v := (-2)) hx hb hown (hts (.constantLong RX11 306 (-2)) (by decide +kernel)) dX11_wet_103 ?_
              obtain ⟨hP9, hD9⟩ : ct_B D A H [oo qh qr qt qd qd2 qi qh_kept qf qf2 vh_laid qo qe qw qu qg qn qs, dn qd vd_gap vd_odds vd_rain vd_lines qd_steps qd_lengths qd_starts qd_met qd_stumbles vd_stumbleCount qd_muds qd_cells vd_cellCount qd_tunes vd_tuneCount qd_changes vd_changeCount] := ⟨hP.sub [0, 1] rfl, hD.sub [0, 1] (by decide) rfl⟩
              exact W.lret (v := (-2)) hx hb hr (fun t ht hW => ⟨⟨(-2), (), rfl, trivial, by rw [ht]; exact hP9, hD9⟩, hS.F ht⟩) hS.2.2 dX11_wet_106
          · subst hz
            have hz_28 : ¬ (0 ≤ a3.toInt ∧ a3.toInt < (2 : Int32).toInt) := hz2
            refine lv_if_ne (tgt := 43) hx hb dX11_wet_36 (by decide) (fun hc => absurd hc (by decide)) (fun _ => ?_)
            refine lv_ldc2 (v := (-2)) hx hb hown (hts (.constantLong RX11 306 (-2)) (by decide +kernel)) dX11_wet_39 ?_
            obtain ⟨hP9, hD9⟩ : ct_B D A H [oo qh qr qt qd qd2 qi qh_kept qf qf2 vh_laid qo qe qw qu qg qn qs, dn qd vd_gap vd_odds vd_rain vd_lines qd_steps qd_lengths qd_starts qd_met qd_stumbles vd_stumbleCount qd_muds qd_cells vd_cellCount qd_tunes vd_tuneCount qd_changes vd_changeCount] := ⟨hP.sub [0, 1] rfl, hD.sub [0, 1] (by decide) rfl⟩
            exact W.lret (v := (-2)) hx hb hr (fun t ht hW => ⟨⟨(-2), (), rfl, trivial, by rw [ht]; exact hP9, hD9⟩, hS.F ht⟩) hS.2.2 dX11_wet_42
        · subst hz
          have hz_29 : ¬ (0 ≤ a2.toInt ∧ a2.toInt < z9.toInt) := hz2
          refine lv_if_eq (tgt := 39) hx hb dX11_wet_28 (by decide) (fun _ => ?_) (fun hc => absurd hc (by decide))
          refine lv_ldc2 (v := (-2)) hx hb hown (hts (.constantLong RX11 306 (-2)) (by decide +kernel)) dX11_wet_39 ?_
          obtain ⟨hP9, hD9⟩ : ct_B D A H [oo qh qr qt qd qd2 qi qh_kept qf qf2 vh_laid qo qe qw qu qg qn qs, dn qd vd_gap vd_odds vd_rain vd_lines qd_steps qd_lengths qd_starts qd_met qd_stumbles vd_stumbleCount qd_muds qd_cells vd_cellCount qd_tunes vd_tuneCount qd_changes vd_changeCount] := ⟨hP.sub [0, 1] rfl, hD.sub [0, 1] (by decide) rfl⟩
          exact W.lret (v := (-2)) hx hb hr (fun t ht hW => ⟨⟨(-2), (), rfl, trivial, by rw [ht]; exact hP9, hD9⟩, hS.F ht⟩) hS.2.2 dX11_wet_42
  · subst hz
    have hz_30 : ¬ (0 < vd_lines.toInt) := hz2
    refine lv_if_eq (tgt := 39) hx hb dX11_wet_7 (by decide) (fun _ => ?_) (fun hc => absurd hc (by decide))
    refine lv_ldc2 (v := (-2)) hx hb hown (hts (.constantLong RX11 306 (-2)) (by decide +kernel)) dX11_wet_39 ?_
    obtain ⟨hP9, hD9⟩ : ct_B D A H [oo qh qr qt qd qd2 qi qh_kept qf qf2 vh_laid qo qe qw qu qg qn qs, dn qd vd_gap vd_odds vd_rain vd_lines qd_steps qd_lengths qd_starts qd_met qd_stumbles vd_stumbleCount qd_muds qd_cells vd_cellCount qd_tunes vd_tuneCount qd_changes vd_changeCount] := ⟨hP.sub [0, 1] rfl, hD.sub [0, 1] (by decide) rfl⟩
    exact W.lret (v := (-2)) hx hb hr (fun t ht hW => ⟨⟨(-2), (), rfl, trivial, by rw [ht]; exact hP9, hD9⟩, hS.F ht⟩) hS.2.2 dX11_wet_42
abbrev w_c_X11_dry (cI cJ cB cZ cO : ClassId) (qh : Nat) (qh_kept : Nat) (vh_laid : Int32) (qi : Nat) (qr : Nat) (qt : Nat) (qd : Nat) (vd_gap : Int32) (vd_odds : Int32) (vd_rain : Int32) (vd_lines : Int32) (qd_steps : Nat) (qd_lengths : Nat) (qd_starts : Nat) (qd_met : Nat) (qd_stumbles : Nat) (vd_stumbleCount : Int32) (qd_muds : Nat) (qd_cells : Nat) (vd_cellCount : Int32) (qd_tunes : Nat) (vd_tuneCount : Int32) (qd_changes : Nat) (vd_changeCount : Int32) (qd2 : Nat) (qf : Nat) (qf2 : Nat) (qo : Nat) (qe : Nat) (qw : Nat) (qu : Nat) (qg : Nat) (qn : Nat) (qs : Nat) : va_W := [oo qh qr qt qd qd2 qi qh_kept qf qf2 vh_laid qo qe qw qu qg qn qs, dn qd vd_gap vd_odds vd_rain vd_lines qd_steps qd_lengths qd_starts qd_met qd_stumbles vd_stumbleCount qd_muds qd_cells vd_cellCount qd_tunes vd_tuneCount qd_changes vd_changeCount]
set_option maxHeartbeats 4000000 in
set_option maxRecDepth 100000 in
/-- X11 dry -/
theorem c_X11_dry (l : Launch) (D : va_G) (G : ct_G) (cI cJ cB cZ cO : ClassId) (qh : Nat) (qh_kept : Nat) (vh_laid : Int32) (qi : Nat) (qr : Nat) (qt : Nat) (qd : Nat) (vd_gap : Int32) (vd_odds : Int32) (vd_rain : Int32) (vd_lines : Int32) (qd_steps : Nat) (qd_lengths : Nat) (qd_starts : Nat) (qd_met : Nat) (qd_stumbles : Nat) (vd_stumbleCount : Int32) (qd_muds : Nat) (qd_cells : Nat) (vd_cellCount : Int32) (qd_tunes : Nat) (vd_tuneCount : Int32) (qd_changes : Nat) (vd_changeCount : Int32) (qd2 : Nat) (qf : Nat) (qf2 : Nat) (qo : Nat) (qe : Nat) (qw : Nat) (qu : Nat) (qg : Nat) (qn : Nat) (qs : Nat) (a1 : Int32) (a2 : Int32) (h_vd_gap : 0 ≤ vd_gap.toInt ∧ vd_gap.toInt ≤ 20) (h_vd_stumbleCount : 0 ≤ vd_stumbleCount.toInt ∧ vd_stumbleCount.toInt ≤ 8) (h_vd_cellCount : 0 ≤ vd_cellCount.toInt ∧ vd_cellCount.toInt ≤ 12) (h_vd_tuneCount : 0 ≤ vd_tuneCount.toInt ∧ vd_tuneCount.toInt ≤ 5) (h_vd_changeCount : 0 ≤ vd_changeCount.toInt ∧ vd_changeCount.toInt ≤ 40) (sz : Nat) : Met l yX11_dry wsX11_dry ({ frames := 2, cells := 0, slots := 0, locals := 59 }) (va_Pc [.ref qh, .int a1, .int a2] (ct_P D (ct_T cI cJ cB cZ cO) G (w_c_X11_dry cI cJ cB cZ cO qh qh_kept vh_laid qi qr qt qd vd_gap vd_odds vd_rain vd_lines qd_steps qd_lengths qd_starts qd_met qd_stumbles vd_stumbleCount qd_muds qd_cells vd_cellCount qd_tunes vd_tuneCount qd_changes vd_changeCount qd2 qf qf2 qo qe qw qu qg qn qs) sz)) (va_Ql (fun (rz : Int64) (u : Unit) => True) (fun (u : Unit) t => ct_Q D (va_A (w_c_X11_dry cI cJ cB cZ cO qh qh_kept vh_laid qi qr qt qd vd_gap vd_odds vd_rain vd_lines qd_steps qd_lengths qd_starts qd_met qd_stumbles vd_stumbleCount qd_muds qd_cells vd_cellCount qd_tunes vd_tuneCount qd_changes vd_changeCount qd2 qf qf2 qo qe qw qu qg qn qs) sz) [oo qh qr qt qd qd2 qi qh_kept qf qf2 vh_laid qo qe qw qu qg qn qs, dn qd vd_gap vd_odds vd_rain vd_lines qd_steps qd_lengths qd_starts qd_met qd_stumbles vd_stumbleCount qd_muds qd_cells vd_cellCount qd_tunes vd_tuneCount qd_changes vd_changeCount] t) (va_A (w_c_X11_dry cI cJ cB cZ cO qh qh_kept vh_laid qi qr qt qd vd_gap vd_odds vd_rain vd_lines qd_steps qd_lengths qd_starts qd_met qd_stumbles vd_stumbleCount qd_muds qd_cells vd_cellCount qd_tunes vd_tuneCount qd_changes vd_changeCount qd2 qf qf2 qo qe qw qu qg qn qs) sz)) 0 0 (va_A (w_c_X11_dry cI cJ cB cZ cO qh qh_kept vh_laid qi qr qt qd vd_gap vd_odds vd_rain vd_lines qd_steps qd_lengths qd_starts qd_met qd_stumbles vd_stumbleCount qd_muds qd_cells vd_cellCount qd_tunes vd_tuneCount qd_changes vd_changeCount qd2 qf qf2 qo qe qw qu qg qn qs) sz) := by
  refine Met.ofW (cc := cX11_dry) (maxL := 3) (ret := (some .long)) (by decide) rfl ?_
  intro p e s m args below meth c s₁ B hml hv
  obtain ⟨rfl, hsz, hP, hE, hD0, hH⟩ := hv
  have hx := B.exec
  have hb := B.bytes
  have hr := B.returns
  have hts := atoms_spec (ws := wsX11_dry) B.pre
  have hown : s.vm.findClass RX11 = some m.cls := findClass_of_methodNamed B.named
  have hlocks := B.notSynchronized
  have hK := hE.1
  subst hsz
  have hD := hD0.self (sz := s.heap.size)
  generalize hAe : va_A (w_c_X11_dry cI cJ cB cZ cO qh qh_kept vh_laid qi qr qt qd vd_gap vd_odds vd_rain vd_lines qd_steps qd_lengths qd_starts qd_met qd_stumbles vd_stumbleCount qd_muds qd_cells vd_cellCount qd_tunes vd_tuneCount qd_changes vd_changeCount qd2 qf qf2 qo qe qw qu qg qn qs) s.heap.size = A at hD hH ⊢
  have hA : ∀ q : Nat, s.heap.size ≤ q → A q := fun q h => by rw [← hAe]; exact Or.inr h
  have hS : va_S A s.heap s.heap [] := va_S.rf
  obtain ⟨hP, hD⟩ : ct_B D A s.heap [oo qh qr qt qd qd2 qi qh_kept qf qf2 vh_laid qo qe qw qu qg qn qs, dn qd vd_gap vd_odds vd_rain vd_lines qd_steps qd_lengths qd_starts qd_met qd_stumbles vd_stumbleCount qd_muds qd_cells vd_cellCount qd_tunes vd_tuneCount qd_changes vd_changeCount] := ⟨hP, hD⟩
  have hl := lv_entry ([.ref qh, .int a1, .int a2]) (n := 3) (Nat.le_of_ble_eq_true rfl)
  rw [lg_entry_eq]
  generalize (lg_sl ([.ref qh, .int a1, .int a2]) ++ List.replicate (3 - (lg_sl ([.ref qh, .int a1, .int a2])).length) Slot.unset).toArray = ls at hl ⊢
  have hl : lv_has ls 3 [(0, .ref qh), (1, .int a1), (2, .int a2)] := hl
  obtain ⟨H, hHe⟩ : ∃ H : Heap, H = s.heap := ⟨_, rfl⟩
  rw [← hHe] at hP
  have hS : va_S A s.heap H [] := by rw [hHe]; exact va_S.rf
  refine ct_start hHe ?_
  refine lv_aload_n hx hb dX11_dry_0 rfl (lv_at hl 0 rfl) ?_
  refine lv_iload_n hx hb dX11_dry_1 rfl (lv_at hl 1 rfl) ?_
  refine lv_iconst (v := 0) hx hb dX11_dry_2 (by decide) ?_
  refine lv_iload_n hx hb dX11_dry_3 rfl (lv_at hl 2 rfl) ?_
  refine ct_calll (D := D) (wr := []) (va_runV (As := [.int a1, .int 0, .int a2]) (rest := []) ⟨hx, hb, hml, hown, hts⟩ (c_X11_wet l D G cI cJ cB cZ cO qh qh_kept vh_laid qi qr qt qd vd_gap vd_odds vd_rain vd_lines qd_steps qd_lengths qd_starts qd_met qd_stumbles vd_stumbleCount qd_muds qd_cells vd_cellCount qd_tunes vd_tuneCount qd_changes vd_changeCount qd2 qf qf2 qo qe qw qu qg qn qs a1 0 a2 h_vd_gap h_vd_stumbleCount h_vd_cellCount h_vd_tuneCount h_vd_changeCount H.size) (cwV 3 hts gX11_dry_X11_wet rfl rfl rfl (by decide +kernel) ⟨Nat.le_of_ble_eq_true rfl, Nat.le_of_ble_eq_true rfl⟩) (ct_preV (T := ct_T cI cJ cB cZ cO) (ci := 11) (q0 := 0) hE hH hP hD hS hA [0, 1] (by decide) rfl rfl rfl) rfl rfl hl.1 rfl (lv_room (Nat.le_of_ble_eq_true rfl)) dX11_dry_4 ⟨Nat.le_of_ble_eq_true rfl, Nat.le_of_ble_eq_true rfl⟩) hP hD hS hA [0, 1] [] rfl rfl (by decide) (by decide) (fun r1 u H locs hw hP hD hS => ?_)
  obtain ⟨hP, hD⟩ : ct_B D A H [oo qh qr qt qd qd2 qi qh_kept qf qf2 vh_laid qo qe qw qu qg qn qs, dn qd vd_gap vd_odds vd_rain vd_lines qd_steps qd_lengths qd_starts qd_met qd_stumbles vd_stumbleCount qd_muds qd_cells vd_cellCount qd_tunes vd_tuneCount qd_changes vd_changeCount] := ⟨hP, hD⟩
  obtain ⟨hP9, hD9⟩ : ct_B D A H [oo qh qr qt qd qd2 qi qh_kept qf qf2 vh_laid qo qe qw qu qg qn qs, dn qd vd_gap vd_odds vd_rain vd_lines qd_steps qd_lengths qd_starts qd_met qd_stumbles vd_stumbleCount qd_muds qd_cells vd_cellCount qd_tunes vd_tuneCount qd_changes vd_changeCount] := ⟨hP.sub [0, 1] rfl, hD.sub [0, 1] (by decide) rfl⟩
  exact W.lret (v := r1) hx hb hr (fun t ht hW => ⟨⟨r1, (), rfl, trivial, by rw [ht]; exact hP9, hD9⟩, hS.F ht⟩) hS.2.2 dX11_dry_7
abbrev w_c_X11_drawn (cI cJ cB cZ cO : ClassId) (qh : Nat) (qh_kept : Nat) (vh_laid : Int32) (qi : Nat) (qr : Nat) (qt : Nat) (qd : Nat) (vd_gap : Int32) (vd_odds : Int32) (vd_rain : Int32) (vd_lines : Int32) (qd_steps : Nat) (fd_steps : Nat → Int32) (qd_lengths : Nat) (fd_lengths : Nat → Int32) (qd_starts : Nat) (fd_starts : Nat → Int32) (qd_met : Nat) (fd_met : Nat → Int32) (qd_stumbles : Nat) (vd_stumbleCount : Int32) (qd_muds : Nat) (qd_cells : Nat) (vd_cellCount : Int32) (qd_tunes : Nat) (vd_tuneCount : Int32) (qd_changes : Nat) (vd_changeCount : Int32) (qd2 : Nat) (qf : Nat) (qf2 : Nat) (qo : Nat) (qe : Nat) (qw : Nat) (qu : Nat) (qg : Nat) (qn : Nat) (qn_danced : Nat) (fn_danced : Nat → Int32) (qn_places : Nat) (fn_places : Nat → Int32) (vn_state : Int64) (vn_holeCount : Int32) (vn_firstHole : Int32) (vn_mudCount : Int32) (vn_slipCount : Int32) (qs : Nat) : va_W := [oo qh qr qt qd qd2 qi qh_kept qf qf2 vh_laid qo qe qw qu qg qn qs, dn qd vd_gap vd_odds vd_rain vd_lines qd_steps qd_lengths qd_starts qd_met qd_stumbles vd_stumbleCount qd_muds qd_cells vd_cellCount qd_tunes vd_tuneCount qd_changes vd_changeCount, (qd_steps, .inl (cI, 24, .inl (fd_steps))), (qd_lengths, .inl (cI, 2, .inl (fd_lengths))), (qd_starts, .inl (cI, 2, .inl (fd_starts))), (qd_met, .inl (cI, 6, .inl (fd_met))), (qn, .inr (4, [.ref qn_danced, .ref qn_places, .long vn_state, .int vn_holeCount, .int vn_firstHole, .int vn_mudCount, .int vn_slipCount])), (qn_danced, .inl (cI, 200, .inl (fn_danced))), (qn_places, .inl (cI, 2, .inl (fn_places)))]
set_option maxHeartbeats 4000000 in
set_option maxRecDepth 100000 in
/-- X11 drawn -/
theorem c_X11_drawn (l : Launch) (D : va_G) (G : ct_G) (cI cJ cB cZ cO : ClassId) (qh : Nat) (qh_kept : Nat) (vh_laid : Int32) (qi : Nat) (qr : Nat) (qt : Nat) (qd : Nat) (vd_gap : Int32) (vd_odds : Int32) (vd_rain : Int32) (vd_lines : Int32) (qd_steps : Nat) (fd_steps : Nat → Int32) (qd_lengths : Nat) (fd_lengths : Nat → Int32) (qd_starts : Nat) (fd_starts : Nat → Int32) (qd_met : Nat) (fd_met : Nat → Int32) (qd_stumbles : Nat) (vd_stumbleCount : Int32) (qd_muds : Nat) (qd_cells : Nat) (vd_cellCount : Int32) (qd_tunes : Nat) (vd_tuneCount : Int32) (qd_changes : Nat) (vd_changeCount : Int32) (qd2 : Nat) (qf : Nat) (qf2 : Nat) (qo : Nat) (qe : Nat) (qw : Nat) (qu : Nat) (qg : Nat) (qn : Nat) (qn_danced : Nat) (fn_danced : Nat → Int32) (qn_places : Nat) (fn_places : Nat → Int32) (vn_state : Int64) (vn_holeCount : Int32) (vn_firstHole : Int32) (vn_mudCount : Int32) (vn_slipCount : Int32) (qs : Nat) (a1 : Int32) (a2 : Int32) (a3 : Int32) (h_vd_gap : 0 ≤ vd_gap.toInt ∧ vd_gap.toInt ≤ 20) (h_fd_steps : ar_ok [0] [5] fd_steps) (h_fd_lengths : ar_ok [0] [12] fd_lengths) (h_fd_starts : ar_ok [0] [11] fd_starts) (h_vd_stumbleCount : 0 ≤ vd_stumbleCount.toInt ∧ vd_stumbleCount.toInt ≤ 8) (h_vd_cellCount : 0 ≤ vd_cellCount.toInt ∧ vd_cellCount.toInt ≤ 12) (h_vd_tuneCount : 0 ≤ vd_tuneCount.toInt ∧ vd_tuneCount.toInt ≤ 5) (h_vd_changeCount : 0 ≤ vd_changeCount.toInt ∧ vd_changeCount.toInt ≤ 40) (h_fn_danced : ar_ok [(-1)] [5] fn_danced) (h_fn_places : ar_ok [0] [11] fn_places) (sz : Nat) : Met l yX11_drawn wsX11_drawn ({ frames := 5, cells := 0, slots := 0, locals := 115 }) (va_Pc [.ref qh, .int a1, .int a2, .int a3] (ct_P D (ct_T cI cJ cB cZ cO) G (w_c_X11_drawn cI cJ cB cZ cO qh qh_kept vh_laid qi qr qt qd vd_gap vd_odds vd_rain vd_lines qd_steps fd_steps qd_lengths fd_lengths qd_starts fd_starts qd_met fd_met qd_stumbles vd_stumbleCount qd_muds qd_cells vd_cellCount qd_tunes vd_tuneCount qd_changes vd_changeCount qd2 qf qf2 qo qe qw qu qg qn qn_danced fn_danced qn_places fn_places vn_state vn_holeCount vn_firstHole vn_mudCount vn_slipCount qs) sz)) (va_Qi (fun (rz : Int32) (u : Int64 × Int32 × Int32 × Int32 × Int32 × (Nat → Int32) × (Nat → Int32)) => (ar_ok [(-1)] [5] u.2.2.2.2.2.1) ∧ (ar_ok [0] [11] u.2.2.2.2.2.2)) (fun (u : Int64 × Int32 × Int32 × Int32 × Int32 × (Nat → Int32) × (Nat → Int32)) t => ct_Q D (va_A (w_c_X11_drawn cI cJ cB cZ cO qh qh_kept vh_laid qi qr qt qd vd_gap vd_odds vd_rain vd_lines qd_steps fd_steps qd_lengths fd_lengths qd_starts fd_starts qd_met fd_met qd_stumbles vd_stumbleCount qd_muds qd_cells vd_cellCount qd_tunes vd_tuneCount qd_changes vd_changeCount qd2 qf qf2 qo qe qw qu qg qn qn_danced fn_danced qn_places fn_places vn_state vn_holeCount vn_firstHole vn_mudCount vn_slipCount qs) sz) [oo qh qr qt qd qd2 qi qh_kept qf qf2 vh_laid qo qe qw qu qg qn qs, dn qd vd_gap vd_odds vd_rain vd_lines qd_steps qd_lengths qd_starts qd_met qd_stumbles vd_stumbleCount qd_muds qd_cells vd_cellCount qd_tunes vd_tuneCount qd_changes vd_changeCount, (qd_steps, .inl (cI, 24, .inl (fd_steps))), (qd_lengths, .inl (cI, 2, .inl (fd_lengths))), (qd_starts, .inl (cI, 2, .inl (fd_starts))), (qd_met, .inl (cI, 6, .inl (fd_met))), (qn, .inr (4, [.ref qn_danced, .ref qn_places, .long u.1, .int u.2.1, .int u.2.2.1, .int u.2.2.2.1, .int u.2.2.2.2.1])), (qn_danced, .inl (cI, 200, .inl (u.2.2.2.2.2.1))), (qn_places, .inl (cI, 2, .inl (u.2.2.2.2.2.2)))] t) (va_A (w_c_X11_drawn cI cJ cB cZ cO qh qh_kept vh_laid qi qr qt qd vd_gap vd_odds vd_rain vd_lines qd_steps fd_steps qd_lengths fd_lengths qd_starts fd_starts qd_met fd_met qd_stumbles vd_stumbleCount qd_muds qd_cells vd_cellCount qd_tunes vd_tuneCount qd_changes vd_changeCount qd2 qf qf2 qo qe qw qu qg qn qn_danced fn_danced qn_places fn_places vn_state vn_holeCount vn_firstHole vn_mudCount vn_slipCount qs) sz)) 0 0 (va_A (w_c_X11_drawn cI cJ cB cZ cO qh qh_kept vh_laid qi qr qt qd vd_gap vd_odds vd_rain vd_lines qd_steps fd_steps qd_lengths fd_lengths qd_starts fd_starts qd_met fd_met qd_stumbles vd_stumbleCount qd_muds qd_cells vd_cellCount qd_tunes vd_tuneCount qd_changes vd_changeCount qd2 qf qf2 qo qe qw qu qg qn qn_danced fn_danced qn_places fn_places vn_state vn_holeCount vn_firstHole vn_mudCount vn_slipCount qs) sz) := by
  refine Met.ofW (cc := cX11_drawn) (maxL := 4) (ret := (some .int)) (by decide) rfl ?_
  intro p e s m args below meth c s₁ B hml hv
  obtain ⟨rfl, hsz, hP, hE, hD0, hH⟩ := hv
  have hx := B.exec
  have hb := B.bytes
  have hr := B.returns
  have hts := atoms_spec (ws := wsX11_drawn) B.pre
  have hown : s.vm.findClass RX11 = some m.cls := findClass_of_methodNamed B.named
  have hlocks := B.notSynchronized
  have hK := hE.1
  have hi4 : ∀ w ∈ u_ws RX4 TX4 7, w ∈ wsX11_drawn := fun w h => List.mem_cons_of_mem _ (List.mem_append_left _ (List.mem_append_right _ h))
  have hi11 : ∀ w ∈ u_ws RX11 TX11 16, w ∈ wsX11_drawn := fun w h => List.mem_cons_of_mem _ (List.mem_append_left _ (List.mem_append_left _ (List.mem_append_right _ h)))
  subst hsz
  have hD := hD0.self (sz := s.heap.size)
  generalize hAe : va_A (w_c_X11_drawn cI cJ cB cZ cO qh qh_kept vh_laid qi qr qt qd vd_gap vd_odds vd_rain vd_lines qd_steps fd_steps qd_lengths fd_lengths qd_starts fd_starts qd_met fd_met qd_stumbles vd_stumbleCount qd_muds qd_cells vd_cellCount qd_tunes vd_tuneCount qd_changes vd_changeCount qd2 qf qf2 qo qe qw qu qg qn qn_danced fn_danced qn_places fn_places vn_state vn_holeCount vn_firstHole vn_mudCount vn_slipCount qs) s.heap.size = A at hD hH ⊢
  have hA : ∀ q : Nat, s.heap.size ≤ q → A q := fun q h => by rw [← hAe]; exact Or.inr h
  have hS : va_S A s.heap s.heap [] := va_S.rf
  obtain ⟨hP, hD⟩ : ct_B D A s.heap [oo qh qr qt qd qd2 qi qh_kept qf qf2 vh_laid qo qe qw qu qg qn qs, dn qd vd_gap vd_odds vd_rain vd_lines qd_steps qd_lengths qd_starts qd_met qd_stumbles vd_stumbleCount qd_muds qd_cells vd_cellCount qd_tunes vd_tuneCount qd_changes vd_changeCount, (qd_steps, .inl (cI, 24, .inl (fd_steps))), (qd_lengths, .inl (cI, 2, .inl (fd_lengths))), (qd_starts, .inl (cI, 2, .inl (fd_starts))), (qd_met, .inl (cI, 6, .inl (fd_met))), (qn, .inr (4, [.ref qn_danced, .ref qn_places, .long vn_state, .int vn_holeCount, .int vn_firstHole, .int vn_mudCount, .int vn_slipCount])), (qn_danced, .inl (cI, 200, .inl (fn_danced))), (qn_places, .inl (cI, 2, .inl (fn_places)))] := ⟨hP, hD⟩
  have hl := lv_entry ([.ref qh, .int a1, .int a2, .int a3]) (n := 4) (Nat.le_of_ble_eq_true rfl)
  rw [lg_entry_eq]
  generalize (lg_sl ([.ref qh, .int a1, .int a2, .int a3]) ++ List.replicate (4 - (lg_sl ([.ref qh, .int a1, .int a2, .int a3])).length) Slot.unset).toArray = ls at hl ⊢
  have hl : lv_has ls 4 [(0, .ref qh), (1, .int a1), (2, .int a2), (3, .int a3)] := hl
  obtain ⟨H, hHe⟩ : ∃ H : Heap, H = s.heap := ⟨_, rfl⟩
  rw [← hHe] at hP
  have hS : va_S A s.heap H [] := by rw [hHe]; exact va_S.rf
  refine ct_start hHe ?_
  refine lv_aload_n hx hb dX11_drawn_0 rfl (lv_at hl 0 rfl) ?_
  refine lv_iload_n hx hb dX11_drawn_1 rfl (lv_at hl 1 rfl) ?_
  refine lv_iload_n hx hb dX11_drawn_2 rfl (lv_at hl 2 rfl) ?_
  refine ct_calli (D := D) (wr := [(qd_steps, .inl (cI, 24, .inl (fd_steps))), (qd_lengths, .inl (cI, 2, .inl (fd_lengths))), (qd_starts, .inl (cI, 2, .inl (fd_starts))), (qd_met, .inl (cI, 6, .inl (fd_met))), (qn, .inr (4, [.ref qn_danced, .ref qn_places, .long vn_state, .int vn_holeCount, .int vn_firstHole, .int vn_mudCount, .int vn_slipCount])), (qn_danced, .inl (cI, 200, .inl (fn_danced))), (qn_places, .inl (cI, 2, .inl (fn_places)))]) (va_runV (As := [.int a1, .int a2]) (rest := []) ⟨hx, hb, hml, hown, hts⟩ (c_X11_hasNight l D G cI cJ cB cZ cO qh qh_kept vh_laid qi qr qt qd vd_gap vd_odds vd_rain vd_lines qd_steps qd_lengths qd_starts qd_met qd_stumbles vd_stumbleCount qd_muds qd_cells vd_cellCount qd_tunes vd_tuneCount qd_changes vd_changeCount qd2 qf qf2 qo qe qw qu qg qn qs a1 a2 h_vd_gap h_vd_stumbleCount h_vd_cellCount h_vd_tuneCount h_vd_changeCount H.size) (cwV 2 hts gX11_drawn_X11_hasNight rfl rfl rfl (by decide +kernel) ⟨Nat.le_of_ble_eq_true rfl, Nat.le_of_ble_eq_true rfl⟩) (ct_preV (T := ct_T cI cJ cB cZ cO) (ci := 11) (q0 := 0) hE hH hP hD hS hA [0, 1] (by decide) rfl rfl rfl) rfl rfl hl.1 rfl (lv_room (Nat.le_of_ble_eq_true rfl)) dX11_drawn_3 ⟨Nat.le_of_ble_eq_true rfl, Nat.le_of_ble_eq_true rfl⟩) hP hD hS hA [0, 1] [2, 3, 4, 5, 6, 7, 8] rfl rfl (by decide) (by decide) (fun r1 u H locs hw hP hD hS => ?_)
  obtain ⟨hP, hD⟩ : ct_B D A H [(qd_steps, .inl (cI, 24, .inl (fd_steps))), (qd_lengths, .inl (cI, 2, .inl (fd_lengths))), (qd_starts, .inl (cI, 2, .inl (fd_starts))), (qd_met, .inl (cI, 6, .inl (fd_met))), (qn, .inr (4, [.ref qn_danced, .ref qn_places, .long vn_state, .int vn_holeCount, .int vn_firstHole, .int vn_mudCount, .int vn_slipCount])), (qn_danced, .inl (cI, 200, .inl (fn_danced))), (qn_places, .inl (cI, 2, .inl (fn_places))), oo qh qr qt qd qd2 qi qh_kept qf qf2 vh_laid qo qe qw qu qg qn qs, dn qd vd_gap vd_odds vd_rain vd_lines qd_steps qd_lengths qd_starts qd_met qd_stumbles vd_stumbleCount qd_muds qd_cells vd_cellCount qd_tunes vd_tuneCount qd_changes vd_changeCount] := ⟨hP, hD⟩
  have hz := hw
  rcases hz with ⟨hz, hz2⟩ | ⟨hz, hz2⟩
  · subst hz
    refine lv_if_eq (tgt := 17) hx hb dX11_drawn_6 (by decide) (fun hc => absurd hc (by decide)) (fun _ => ?_)
    refine lv_iload_n hx hb dX11_drawn_9 rfl (lv_at hl 3 rfl) ?_
    refine lv_iconst (v := 4) hx hb dX11_drawn_10 (by decide) ?_
    refine ct_calli (D := D) (wr := [(qd_steps, .inl (cI, 24, .inl (fd_steps))), (qd_lengths, .inl (cI, 2, .inl (fd_lengths))), (qd_starts, .inl (cI, 2, .inl (fd_starts))), (qd_met, .inl (cI, 6, .inl (fd_met))), (qn, .inr (4, [.ref qn_danced, .ref qn_places, .long vn_state, .int vn_holeCount, .int vn_firstHole, .int vn_mudCount, .int vn_slipCount])), (qn_danced, .inl (cI, 200, .inl (fn_danced))), (qn_places, .inl (cI, 2, .inl (fn_places))), oo qh qr qt qd qd2 qi qh_kept qf qf2 vh_laid qo qe qw qu qg qn qs, dn qd vd_gap vd_odds vd_rain vd_lines qd_steps qd_lengths qd_starts qd_met qd_stumbles vd_stumbleCount qd_muds qd_cells vd_cellCount qd_tunes vd_tuneCount qd_changes vd_changeCount]) (va_runS (As := [.int a3, .int 4]) (rest := []) ⟨hx, hb, hml, hown, hts⟩ (c_X11_isWithin l D G cI cJ cB cZ cO a3 4  H.size) (va_cwS 2 hts gX11_drawn_X11_isWithin rfl rfl rfl (by decide +kernel) ⟨Nat.le_of_ble_eq_true rfl, Nat.le_of_ble_eq_true rfl⟩) (ct_preS (T := ct_T cI cJ cB cZ cO) hE hH hP hD hS hA [] (by decide) rfl) rfl rfl hl.1 rfl (lv_room (Nat.le_of_ble_eq_true rfl)) dX11_drawn_11 ⟨Nat.le_of_ble_eq_true rfl, Nat.le_of_ble_eq_true rfl⟩) hP hD hS hA [] [0, 1, 2, 3, 4, 5, 6, 7, 8] rfl rfl (by decide) (by decide) (fun r2 u H locs hw hP hD hS => ?_)
    obtain ⟨hP, hD⟩ : ct_B D A H [(qd_steps, .inl (cI, 24, .inl (fd_steps))), (qd_lengths, .inl (cI, 2, .inl (fd_lengths))), (qd_starts, .inl (cI, 2, .inl (fd_starts))), (qd_met, .inl (cI, 6, .inl (fd_met))), (qn, .inr (4, [.ref qn_danced, .ref qn_places, .long vn_state, .int vn_holeCount, .int vn_firstHole, .int vn_mudCount, .int vn_slipCount])), (qn_danced, .inl (cI, 200, .inl (fn_danced))), (qn_places, .inl (cI, 2, .inl (fn_places))), oo qh qr qt qd qd2 qi qh_kept qf qf2 vh_laid qo qe qw qu qg qn qs, dn qd vd_gap vd_odds vd_rain vd_lines qd_steps qd_lengths qd_starts qd_met qd_stumbles vd_stumbleCount qd_muds qd_cells vd_cellCount qd_tunes vd_tuneCount qd_changes vd_changeCount] := ⟨hP, hD⟩
    have hk3 : (4 : Int32).toInt = 4 := by decide
    have hz := hw
    rcases hz with ⟨hz, hz2⟩ | ⟨hz, hz2⟩
    · subst hz
      have hz_4 : (0 ≤ a3.toInt ∧ a3.toInt < (4 : Int32).toInt) := hz2
      refine lv_if_ne (tgt := 20) hx hb dX11_drawn_14 (by decide) (fun _ => ?_) (fun hc => absurd hc (by decide))
      refine lv_aload_n hx hb dX11_drawn_20 rfl (lv_at hl 0 rfl) ?_
      refine va_get (D := D) (ci := 11) (v := .ref qn) (C := RX11) (T := TX11) (N := 16) hx hb hts hi11 hown hK hP 7 rfl rfl 14 (by decide) (hts (.fieldLink RX11 91 "OverHill" "night" "LOverHill$Night;") (by decide +kernel)) (fun _ h9 => h9) rfl dX11_drawn_21 ?_
      refine lv_aload_n hx hb dX11_drawn_24 rfl (lv_at hl 0 rfl) ?_
      refine va_get (D := D) (ci := 11) (v := .ref qd) (C := RX11) (T := TX11) (N := 16) hx hb hts hi11 hown hK hP 7 rfl rfl 2 (by decide) (hts (.fieldLink RX11 24 "OverHill" "now" "LOverHill$Dance;") (by decide +kernel)) (fun _ h9 => h9) rfl dX11_drawn_25 ?_
      refine lv_iload_n hx hb dX11_drawn_28 rfl (lv_at hl 1 rfl) ?_
      refine lv_iload_n hx hb dX11_drawn_29 rfl (lv_at hl 2 rfl) ?_
      refine ct_callv (D := D) (wr := [oo qh qr qt qd qd2 qi qh_kept qf qf2 vh_laid qo qe qw qu qg qn qs]) (va_runV (As := [.ref qd, .int a1, .int a2]) (rest := []) ⟨hx, hb, hml, hown, hts⟩ (c_X4_play l D G cI cJ cB cZ cO qn qn_danced fn_danced qn_places fn_places vn_state vn_holeCount vn_firstHole vn_mudCount vn_slipCount qd vd_gap vd_odds vd_rain vd_lines qd_steps fd_steps qd_lengths fd_lengths qd_starts fd_starts qd_met fd_met qd_stumbles vd_stumbleCount qd_muds qd_cells vd_cellCount qd_tunes vd_tuneCount qd_changes vd_changeCount a1 a2 h_fn_danced h_fn_places h_vd_gap h_fd_steps h_fd_lengths h_fd_starts h_vd_stumbleCount h_vd_cellCount h_vd_tuneCount h_vd_changeCount H.size) (cwV 3 hts gX11_drawn_X4_play rfl rfl rfl (by decide +kernel) ⟨Nat.le_of_ble_eq_true rfl, Nat.le_of_ble_eq_true rfl⟩) (ct_preV (T := ct_T cI cJ cB cZ cO) (ci := 4) (q0 := 4) hE hH hP hD hS hA [4, 5, 6, 8, 0, 1, 2, 3] (by decide) rfl rfl rfl) rfl rfl hl.1 rfl (lv_room (Nat.le_of_ble_eq_true rfl)) dX11_drawn_30 ⟨Nat.le_of_ble_eq_true rfl, Nat.le_of_ble_eq_true rfl⟩) hP hD hS hA [4, 5, 6, 8, 0, 1, 2, 3] [7] rfl rfl (by decide) (by decide) (fun u H locs hw hP hD hS => ?_)
      obtain ⟨y5, y6, y7, y8, y9, g10, g11⟩ := u
      obtain ⟨hP, hD⟩ : ct_B D A H [oo qh qr qt qd qd2 qi qh_kept qf qf2 vh_laid qo qe qw qu qg qn qs, (qn, .inr (4, [.ref qn_danced, .ref qn_places, .long y5, .int y6, .int y7, .int y8, .int y9])), (qn_danced, .inl (cI, 200, .inl (g10))), (qn_places, .inl (cI, 2, .inl (g11))), dn qd vd_gap vd_odds vd_rain vd_lines qd_steps qd_lengths qd_starts qd_met qd_stumbles vd_stumbleCount qd_muds qd_cells vd_cellCount qd_tunes vd_tuneCount qd_changes vd_changeCount, (qd_steps, .inl (cI, 24, .inl (fd_steps))), (qd_lengths, .inl (cI, 2, .inl (fd_lengths))), (qd_starts, .inl (cI, 2, .inl (fd_starts))), (qd_met, .inl (cI, 6, .inl (fd_met)))] := ⟨hP, hD⟩
      obtain ⟨hp0, hp1⟩ := hw
      have h_g10 : ar_ok [(-1)] [5] g10 := hp0
      have h_g11 : ar_ok [0] [11] g11 := hp1
      refine lv_iload_n hx hb dX11_drawn_33 rfl (lv_at hl 3 rfl) ?_
      by_cases hq12 : a3.toInt = 0
      · refine lv_tableIn (tgt := 60) (off := 26) hx hb dX11_drawn_34 (by omega) (by omega) (by rw [hq12]; decide) (by decide) ?_
        refine lv_aload_n hx hb dX11_drawn_60 rfl (lv_at hl 0 rfl) ?_
        refine va_get (D := D) (ci := 11) (v := .ref qn) (C := RX11) (T := TX11) (N := 16) hx hb hts hi11 hown hK hP 0 rfl rfl 14 (by decide) (hts (.fieldLink RX11 91 "OverHill" "night" "LOverHill$Night;") (by decide +kernel)) (fun _ h9 => h9) rfl dX11_drawn_61 ?_
        refine va_get (D := D) (ci := 4) (v := .int y6) (C := RX4) (T := TX4) (N := 7) hx hb hts hi4 hown hK hP 1 rfl rfl 3 (by decide) (hts (.fieldLink RX11 357 "OverHill$Night" "holeCount" "I") (by decide +kernel)) (fun _ h9 => h9) rfl dX11_drawn_64 ?_
        obtain ⟨hP9, hD9⟩ : ct_B D A H [oo qh qr qt qd qd2 qi qh_kept qf qf2 vh_laid qo qe qw qu qg qn qs, dn qd vd_gap vd_odds vd_rain vd_lines qd_steps qd_lengths qd_starts qd_met qd_stumbles vd_stumbleCount qd_muds qd_cells vd_cellCount qd_tunes vd_tuneCount qd_changes vd_changeCount, (qd_steps, .inl (cI, 24, .inl (fd_steps))), (qd_lengths, .inl (cI, 2, .inl (fd_lengths))), (qd_starts, .inl (cI, 2, .inl (fd_starts))), (qd_met, .inl (cI, 6, .inl (fd_met))), (qn, .inr (4, [.ref qn_danced, .ref qn_places, .long y5, .int y6, .int y7, .int y8, .int y9])), (qn_danced, .inl (cI, 200, .inl (g10))), (qn_places, .inl (cI, 2, .inl (g11)))] := ⟨hP.sub [0, 4, 5, 6, 7, 8, 1, 2, 3] rfl, hD.sub [0, 4, 5, 6, 7, 8, 1, 2, 3] (by decide) rfl⟩
        exact W.iret (v := y6) hx hb hr (fun t ht hW => ⟨⟨y6, (y5, y6, y7, y8, y9, g10, g11), rfl, ⟨h_g10, h_g11⟩, by rw [ht]; exact hP9, hD9⟩, hS.F ht⟩) hS.2.2 dX11_drawn_67
      by_cases hq13 : a3.toInt = 1
      · refine lv_tableIn (tgt := 68) (off := 34) hx hb dX11_drawn_34 (by omega) (by omega) (by rw [hq13]; decide) (by decide) ?_
        refine lv_aload_n hx hb dX11_drawn_68 rfl (lv_at hl 0 rfl) ?_
        refine va_get (D := D) (ci := 11) (v := .ref qn) (C := RX11) (T := TX11) (N := 16) hx hb hts hi11 hown hK hP 0 rfl rfl 14 (by decide) (hts (.fieldLink RX11 91 "OverHill" "night" "LOverHill$Night;") (by decide +kernel)) (fun _ h9 => h9) rfl dX11_drawn_69 ?_
        refine va_get (D := D) (ci := 4) (v := .int y7) (C := RX4) (T := TX4) (N := 7) hx hb hts hi4 hown hK hP 1 rfl rfl 4 (by decide) (hts (.fieldLink RX11 360 "OverHill$Night" "firstHole" "I") (by decide +kernel)) (fun _ h9 => h9) rfl dX11_drawn_72 ?_
        obtain ⟨hP9, hD9⟩ : ct_B D A H [oo qh qr qt qd qd2 qi qh_kept qf qf2 vh_laid qo qe qw qu qg qn qs, dn qd vd_gap vd_odds vd_rain vd_lines qd_steps qd_lengths qd_starts qd_met qd_stumbles vd_stumbleCount qd_muds qd_cells vd_cellCount qd_tunes vd_tuneCount qd_changes vd_changeCount, (qd_steps, .inl (cI, 24, .inl (fd_steps))), (qd_lengths, .inl (cI, 2, .inl (fd_lengths))), (qd_starts, .inl (cI, 2, .inl (fd_starts))), (qd_met, .inl (cI, 6, .inl (fd_met))), (qn, .inr (4, [.ref qn_danced, .ref qn_places, .long y5, .int y6, .int y7, .int y8, .int y9])), (qn_danced, .inl (cI, 200, .inl (g10))), (qn_places, .inl (cI, 2, .inl (g11)))] := ⟨hP.sub [0, 4, 5, 6, 7, 8, 1, 2, 3] rfl, hD.sub [0, 4, 5, 6, 7, 8, 1, 2, 3] (by decide) rfl⟩
        exact W.iret (v := y7) hx hb hr (fun t ht hW => ⟨⟨y7, (y5, y6, y7, y8, y9, g10, g11), rfl, ⟨h_g10, h_g11⟩, by rw [ht]; exact hP9, hD9⟩, hS.F ht⟩) hS.2.2 dX11_drawn_75
      by_cases hq14 : a3.toInt = 2
      · refine lv_tableIn (tgt := 76) (off := 42) hx hb dX11_drawn_34 (by omega) (by omega) (by rw [hq14]; decide) (by decide) ?_
        refine lv_aload_n hx hb dX11_drawn_76 rfl (lv_at hl 0 rfl) ?_
        refine va_get (D := D) (ci := 11) (v := .ref qn) (C := RX11) (T := TX11) (N := 16) hx hb hts hi11 hown hK hP 0 rfl rfl 14 (by decide) (hts (.fieldLink RX11 91 "OverHill" "night" "LOverHill$Night;") (by decide +kernel)) (fun _ h9 => h9) rfl dX11_drawn_77 ?_
        refine va_get (D := D) (ci := 4) (v := .int y8) (C := RX4) (T := TX4) (N := 7) hx hb hts hi4 hown hK hP 1 rfl rfl 5 (by decide) (hts (.fieldLink RX11 363 "OverHill$Night" "mudCount" "I") (by decide +kernel)) (fun _ h9 => h9) rfl dX11_drawn_80 ?_
        obtain ⟨hP9, hD9⟩ : ct_B D A H [oo qh qr qt qd qd2 qi qh_kept qf qf2 vh_laid qo qe qw qu qg qn qs, dn qd vd_gap vd_odds vd_rain vd_lines qd_steps qd_lengths qd_starts qd_met qd_stumbles vd_stumbleCount qd_muds qd_cells vd_cellCount qd_tunes vd_tuneCount qd_changes vd_changeCount, (qd_steps, .inl (cI, 24, .inl (fd_steps))), (qd_lengths, .inl (cI, 2, .inl (fd_lengths))), (qd_starts, .inl (cI, 2, .inl (fd_starts))), (qd_met, .inl (cI, 6, .inl (fd_met))), (qn, .inr (4, [.ref qn_danced, .ref qn_places, .long y5, .int y6, .int y7, .int y8, .int y9])), (qn_danced, .inl (cI, 200, .inl (g10))), (qn_places, .inl (cI, 2, .inl (g11)))] := ⟨hP.sub [0, 4, 5, 6, 7, 8, 1, 2, 3] rfl, hD.sub [0, 4, 5, 6, 7, 8, 1, 2, 3] (by decide) rfl⟩
        exact W.iret (v := y8) hx hb hr (fun t ht hW => ⟨⟨y8, (y5, y6, y7, y8, y9, g10, g11), rfl, ⟨h_g10, h_g11⟩, by rw [ht]; exact hP9, hD9⟩, hS.F ht⟩) hS.2.2 dX11_drawn_83
      refine lv_tableOut (tgt := 84) hx hb dX11_drawn_34 (by omega) (by decide) ?_
      refine lv_aload_n hx hb dX11_drawn_84 rfl (lv_at hl 0 rfl) ?_
      refine va_get (D := D) (ci := 11) (v := .ref qn) (C := RX11) (T := TX11) (N := 16) hx hb hts hi11 hown hK hP 0 rfl rfl 14 (by decide) (hts (.fieldLink RX11 91 "OverHill" "night" "LOverHill$Night;") (by decide +kernel)) (fun _ h9 => h9) rfl dX11_drawn_85 ?_
      refine va_get (D := D) (ci := 4) (v := .int y9) (C := RX4) (T := TX4) (N := 7) hx hb hts hi4 hown hK hP 1 rfl rfl 6 (by decide) (hts (.fieldLink RX11 366 "OverHill$Night" "slipCount" "I") (by decide +kernel)) (fun _ h9 => h9) rfl dX11_drawn_88 ?_
      obtain ⟨hP9, hD9⟩ : ct_B D A H [oo qh qr qt qd qd2 qi qh_kept qf qf2 vh_laid qo qe qw qu qg qn qs, dn qd vd_gap vd_odds vd_rain vd_lines qd_steps qd_lengths qd_starts qd_met qd_stumbles vd_stumbleCount qd_muds qd_cells vd_cellCount qd_tunes vd_tuneCount qd_changes vd_changeCount, (qd_steps, .inl (cI, 24, .inl (fd_steps))), (qd_lengths, .inl (cI, 2, .inl (fd_lengths))), (qd_starts, .inl (cI, 2, .inl (fd_starts))), (qd_met, .inl (cI, 6, .inl (fd_met))), (qn, .inr (4, [.ref qn_danced, .ref qn_places, .long y5, .int y6, .int y7, .int y8, .int y9])), (qn_danced, .inl (cI, 200, .inl (g10))), (qn_places, .inl (cI, 2, .inl (g11)))] := ⟨hP.sub [0, 4, 5, 6, 7, 8, 1, 2, 3] rfl, hD.sub [0, 4, 5, 6, 7, 8, 1, 2, 3] (by decide) rfl⟩
      exact W.iret (v := y9) hx hb hr (fun t ht hW => ⟨⟨y9, (y5, y6, y7, y8, y9, g10, g11), rfl, ⟨h_g10, h_g11⟩, by rw [ht]; exact hP9, hD9⟩, hS.F ht⟩) hS.2.2 dX11_drawn_91
    · subst hz
      have hz_15 : ¬ (0 ≤ a3.toInt ∧ a3.toInt < (4 : Int32).toInt) := hz2
      refine lv_if_ne (tgt := 20) hx hb dX11_drawn_14 (by decide) (fun hc => absurd hc (by decide)) (fun _ => ?_)
      refine lv_bipush (v := (-2)) hx hb dX11_drawn_17 (by decide) ?_
      obtain ⟨hP9, hD9⟩ : ct_B D A H [oo qh qr qt qd qd2 qi qh_kept qf qf2 vh_laid qo qe qw qu qg qn qs, dn qd vd_gap vd_odds vd_rain vd_lines qd_steps qd_lengths qd_starts qd_met qd_stumbles vd_stumbleCount qd_muds qd_cells vd_cellCount qd_tunes vd_tuneCount qd_changes vd_changeCount, (qd_steps, .inl (cI, 24, .inl (fd_steps))), (qd_lengths, .inl (cI, 2, .inl (fd_lengths))), (qd_starts, .inl (cI, 2, .inl (fd_starts))), (qd_met, .inl (cI, 6, .inl (fd_met))), (qn, .inr (4, [.ref qn_danced, .ref qn_places, .long vn_state, .int vn_holeCount, .int vn_firstHole, .int vn_mudCount, .int vn_slipCount])), (qn_danced, .inl (cI, 200, .inl (fn_danced))), (qn_places, .inl (cI, 2, .inl (fn_places)))] := ⟨hP.sub [7, 8, 0, 1, 2, 3, 4, 5, 6] rfl, hD.sub [7, 8, 0, 1, 2, 3, 4, 5, 6] (by decide) rfl⟩
      exact W.iret (v := (-2)) hx hb hr (fun t ht hW => ⟨⟨(-2), (vn_state, vn_holeCount, vn_firstHole, vn_mudCount, vn_slipCount, fn_danced, fn_places), rfl, ⟨h_fn_danced, h_fn_places⟩, by rw [ht]; exact hP9, hD9⟩, hS.F ht⟩) hS.2.2 dX11_drawn_19
  · subst hz
    refine lv_if_eq (tgt := 17) hx hb dX11_drawn_6 (by decide) (fun _ => ?_) (fun hc => absurd hc (by decide))
    refine lv_bipush (v := (-2)) hx hb dX11_drawn_17 (by decide) ?_
    obtain ⟨hP9, hD9⟩ : ct_B D A H [oo qh qr qt qd qd2 qi qh_kept qf qf2 vh_laid qo qe qw qu qg qn qs, dn qd vd_gap vd_odds vd_rain vd_lines qd_steps qd_lengths qd_starts qd_met qd_stumbles vd_stumbleCount qd_muds qd_cells vd_cellCount qd_tunes vd_tuneCount qd_changes vd_changeCount, (qd_steps, .inl (cI, 24, .inl (fd_steps))), (qd_lengths, .inl (cI, 2, .inl (fd_lengths))), (qd_starts, .inl (cI, 2, .inl (fd_starts))), (qd_met, .inl (cI, 6, .inl (fd_met))), (qn, .inr (4, [.ref qn_danced, .ref qn_places, .long vn_state, .int vn_holeCount, .int vn_firstHole, .int vn_mudCount, .int vn_slipCount])), (qn_danced, .inl (cI, 200, .inl (fn_danced))), (qn_places, .inl (cI, 2, .inl (fn_places)))] := ⟨hP.sub [7, 8, 0, 1, 2, 3, 4, 5, 6] rfl, hD.sub [7, 8, 0, 1, 2, 3, 4, 5, 6] (by decide) rfl⟩
    exact W.iret (v := (-2)) hx hb hr (fun t ht hW => ⟨⟨(-2), (vn_state, vn_holeCount, vn_firstHole, vn_mudCount, vn_slipCount, fn_danced, fn_places), rfl, ⟨h_fn_danced, h_fn_places⟩, by rw [ht]; exact hP9, hD9⟩, hS.F ht⟩) hS.2.2 dX11_drawn_19
abbrev w_c_X11_nights (cI cJ cB cZ cO : ClassId) (qh : Nat) (qh_kept : Nat) (vh_laid : Int32) (qi : Nat) (qr : Nat) (qt : Nat) (qd : Nat) (vd_gap : Int32) (vd_odds : Int32) (vd_rain : Int32) (vd_lines : Int32) (qd_steps : Nat) (fd_steps : Nat → Int32) (qd_lengths : Nat) (fd_lengths : Nat → Int32) (qd_starts : Nat) (fd_starts : Nat → Int32) (qd_met : Nat) (fd_met : Nat → Int32) (qd_stumbles : Nat) (vd_stumbleCount : Int32) (qd_muds : Nat) (qd_cells : Nat) (vd_cellCount : Int32) (qd_tunes : Nat) (vd_tuneCount : Int32) (qd_changes : Nat) (vd_changeCount : Int32) (qd2 : Nat) (qf : Nat) (qf2 : Nat) (qo : Nat) (qe : Nat) (qw : Nat) (qu : Nat) (qg : Nat) (qn : Nat) (qn_danced : Nat) (fn_danced : Nat → Int32) (qn_places : Nat) (fn_places : Nat → Int32) (vn_state : Int64) (vn_holeCount : Int32) (vn_firstHole : Int32) (vn_mudCount : Int32) (vn_slipCount : Int32) (qs : Nat) : va_W := [oo qh qr qt qd qd2 qi qh_kept qf qf2 vh_laid qo qe qw qu qg qn qs, dn qd vd_gap vd_odds vd_rain vd_lines qd_steps qd_lengths qd_starts qd_met qd_stumbles vd_stumbleCount qd_muds qd_cells vd_cellCount qd_tunes vd_tuneCount qd_changes vd_changeCount, (qd_steps, .inl (cI, 24, .inl (fd_steps))), (qd_lengths, .inl (cI, 2, .inl (fd_lengths))), (qd_starts, .inl (cI, 2, .inl (fd_starts))), (qd_met, .inl (cI, 6, .inl (fd_met))), (qn, .inr (4, [.ref qn_danced, .ref qn_places, .long vn_state, .int vn_holeCount, .int vn_firstHole, .int vn_mudCount, .int vn_slipCount])), (qn_danced, .inl (cI, 200, .inl (fn_danced))), (qn_places, .inl (cI, 2, .inl (fn_places)))]
set_option maxHeartbeats 4000000 in
set_option maxRecDepth 100000 in
/-- X11 nights -/
theorem c_X11_nights (l : Launch) (D : va_G) (G : ct_G) (cI cJ cB cZ cO : ClassId) (qh : Nat) (qh_kept : Nat) (vh_laid : Int32) (qi : Nat) (qr : Nat) (qt : Nat) (qd : Nat) (vd_gap : Int32) (vd_odds : Int32) (vd_rain : Int32) (vd_lines : Int32) (qd_steps : Nat) (fd_steps : Nat → Int32) (qd_lengths : Nat) (fd_lengths : Nat → Int32) (qd_starts : Nat) (fd_starts : Nat → Int32) (qd_met : Nat) (fd_met : Nat → Int32) (qd_stumbles : Nat) (vd_stumbleCount : Int32) (qd_muds : Nat) (qd_cells : Nat) (vd_cellCount : Int32) (qd_tunes : Nat) (vd_tuneCount : Int32) (qd_changes : Nat) (vd_changeCount : Int32) (qd2 : Nat) (qf : Nat) (qf2 : Nat) (qo : Nat) (qe : Nat) (qw : Nat) (qu : Nat) (qg : Nat) (qn : Nat) (qn_danced : Nat) (fn_danced : Nat → Int32) (qn_places : Nat) (fn_places : Nat → Int32) (vn_state : Int64) (vn_holeCount : Int32) (vn_firstHole : Int32) (vn_mudCount : Int32) (vn_slipCount : Int32) (qs : Nat) (a1 : Int32) (a2 : Int32) (a3 : Int32) (h_vd_gap : 0 ≤ vd_gap.toInt ∧ vd_gap.toInt ≤ 20) (h_fd_steps : ar_ok [0] [5] fd_steps) (h_fd_lengths : ar_ok [0] [12] fd_lengths) (h_fd_starts : ar_ok [0] [11] fd_starts) (h_vd_stumbleCount : 0 ≤ vd_stumbleCount.toInt ∧ vd_stumbleCount.toInt ≤ 8) (h_vd_cellCount : 0 ≤ vd_cellCount.toInt ∧ vd_cellCount.toInt ≤ 12) (h_vd_tuneCount : 0 ≤ vd_tuneCount.toInt ∧ vd_tuneCount.toInt ≤ 5) (h_vd_changeCount : 0 ≤ vd_changeCount.toInt ∧ vd_changeCount.toInt ≤ 40) (h_fn_danced : ar_ok [(-1)] [5] fn_danced) (h_fn_places : ar_ok [0] [11] fn_places) (sz : Nat) : Met l yX11_nights wsX11_nights ({ frames := 5, cells := 0, slots := 0, locals := 115 }) (va_Pc [.ref qh, .int a1, .int a2, .int a3] (ct_P D (ct_T cI cJ cB cZ cO) G (w_c_X11_nights cI cJ cB cZ cO qh qh_kept vh_laid qi qr qt qd vd_gap vd_odds vd_rain vd_lines qd_steps fd_steps qd_lengths fd_lengths qd_starts fd_starts qd_met fd_met qd_stumbles vd_stumbleCount qd_muds qd_cells vd_cellCount qd_tunes vd_tuneCount qd_changes vd_changeCount qd2 qf qf2 qo qe qw qu qg qn qn_danced fn_danced qn_places fn_places vn_state vn_holeCount vn_firstHole vn_mudCount vn_slipCount qs) sz)) (va_Qi (fun (rz : Int32) (u : Int64 × Int32 × Int32 × Int32 × Int32 × (Nat → Int32) × (Nat → Int32)) => (ar_ok [(-1)] [5] u.2.2.2.2.2.1) ∧ (ar_ok [0] [11] u.2.2.2.2.2.2)) (fun (u : Int64 × Int32 × Int32 × Int32 × Int32 × (Nat → Int32) × (Nat → Int32)) t => ct_Q D (va_A (w_c_X11_nights cI cJ cB cZ cO qh qh_kept vh_laid qi qr qt qd vd_gap vd_odds vd_rain vd_lines qd_steps fd_steps qd_lengths fd_lengths qd_starts fd_starts qd_met fd_met qd_stumbles vd_stumbleCount qd_muds qd_cells vd_cellCount qd_tunes vd_tuneCount qd_changes vd_changeCount qd2 qf qf2 qo qe qw qu qg qn qn_danced fn_danced qn_places fn_places vn_state vn_holeCount vn_firstHole vn_mudCount vn_slipCount qs) sz) [oo qh qr qt qd qd2 qi qh_kept qf qf2 vh_laid qo qe qw qu qg qn qs, dn qd vd_gap vd_odds vd_rain vd_lines qd_steps qd_lengths qd_starts qd_met qd_stumbles vd_stumbleCount qd_muds qd_cells vd_cellCount qd_tunes vd_tuneCount qd_changes vd_changeCount, (qd_steps, .inl (cI, 24, .inl (fd_steps))), (qd_lengths, .inl (cI, 2, .inl (fd_lengths))), (qd_starts, .inl (cI, 2, .inl (fd_starts))), (qd_met, .inl (cI, 6, .inl (fd_met))), (qn, .inr (4, [.ref qn_danced, .ref qn_places, .long u.1, .int u.2.1, .int u.2.2.1, .int u.2.2.2.1, .int u.2.2.2.2.1])), (qn_danced, .inl (cI, 200, .inl (u.2.2.2.2.2.1))), (qn_places, .inl (cI, 2, .inl (u.2.2.2.2.2.2)))] t) (va_A (w_c_X11_nights cI cJ cB cZ cO qh qh_kept vh_laid qi qr qt qd vd_gap vd_odds vd_rain vd_lines qd_steps fd_steps qd_lengths fd_lengths qd_starts fd_starts qd_met fd_met qd_stumbles vd_stumbleCount qd_muds qd_cells vd_cellCount qd_tunes vd_tuneCount qd_changes vd_changeCount qd2 qf qf2 qo qe qw qu qg qn qn_danced fn_danced qn_places fn_places vn_state vn_holeCount vn_firstHole vn_mudCount vn_slipCount qs) sz)) 0 0 (va_A (w_c_X11_nights cI cJ cB cZ cO qh qh_kept vh_laid qi qr qt qd vd_gap vd_odds vd_rain vd_lines qd_steps fd_steps qd_lengths fd_lengths qd_starts fd_starts qd_met fd_met qd_stumbles vd_stumbleCount qd_muds qd_cells vd_cellCount qd_tunes vd_tuneCount qd_changes vd_changeCount qd2 qf qf2 qo qe qw qu qg qn qn_danced fn_danced qn_places fn_places vn_state vn_holeCount vn_firstHole vn_mudCount vn_slipCount qs) sz) := by
  refine Met.ofW (cc := cX11_nights) (maxL := 6) (ret := (some .int)) (by decide) rfl ?_
  intro p e s m args below meth c s₁ B hml hv
  obtain ⟨rfl, hsz, hP, hE, hD0, hH⟩ := hv
  have hx := B.exec
  have hb := B.bytes
  have hr := B.returns
  have hts := atoms_spec (ws := wsX11_nights) B.pre
  have hown : s.vm.findClass RX11 = some m.cls := findClass_of_methodNamed B.named
  have hlocks := B.notSynchronized
  have hK := hE.1
  have hi4 : ∀ w ∈ u_ws RX4 TX4 7, w ∈ wsX11_nights := fun w h => List.mem_cons_of_mem _ (List.mem_append_left _ (List.mem_append_right _ h))
  have hi11 : ∀ w ∈ u_ws RX11 TX11 16, w ∈ wsX11_nights := fun w h => List.mem_cons_of_mem _ (List.mem_append_left _ (List.mem_append_left _ (List.mem_append_right _ h)))
  subst hsz
  have hD := hD0.self (sz := s.heap.size)
  generalize hAe : va_A (w_c_X11_nights cI cJ cB cZ cO qh qh_kept vh_laid qi qr qt qd vd_gap vd_odds vd_rain vd_lines qd_steps fd_steps qd_lengths fd_lengths qd_starts fd_starts qd_met fd_met qd_stumbles vd_stumbleCount qd_muds qd_cells vd_cellCount qd_tunes vd_tuneCount qd_changes vd_changeCount qd2 qf qf2 qo qe qw qu qg qn qn_danced fn_danced qn_places fn_places vn_state vn_holeCount vn_firstHole vn_mudCount vn_slipCount qs) s.heap.size = A at hD hH ⊢
  have hA : ∀ q : Nat, s.heap.size ≤ q → A q := fun q h => by rw [← hAe]; exact Or.inr h
  have hS : va_S A s.heap s.heap [] := va_S.rf
  obtain ⟨hP, hD⟩ : ct_B D A s.heap [oo qh qr qt qd qd2 qi qh_kept qf qf2 vh_laid qo qe qw qu qg qn qs, dn qd vd_gap vd_odds vd_rain vd_lines qd_steps qd_lengths qd_starts qd_met qd_stumbles vd_stumbleCount qd_muds qd_cells vd_cellCount qd_tunes vd_tuneCount qd_changes vd_changeCount, (qd_steps, .inl (cI, 24, .inl (fd_steps))), (qd_lengths, .inl (cI, 2, .inl (fd_lengths))), (qd_starts, .inl (cI, 2, .inl (fd_starts))), (qd_met, .inl (cI, 6, .inl (fd_met))), (qn, .inr (4, [.ref qn_danced, .ref qn_places, .long vn_state, .int vn_holeCount, .int vn_firstHole, .int vn_mudCount, .int vn_slipCount])), (qn_danced, .inl (cI, 200, .inl (fn_danced))), (qn_places, .inl (cI, 2, .inl (fn_places)))] := ⟨hP, hD⟩
  have hl := lv_entry ([.ref qh, .int a1, .int a2, .int a3]) (n := 6) (Nat.le_of_ble_eq_true rfl)
  rw [lg_entry_eq]
  generalize (lg_sl ([.ref qh, .int a1, .int a2, .int a3]) ++ List.replicate (6 - (lg_sl ([.ref qh, .int a1, .int a2, .int a3])).length) Slot.unset).toArray = ls at hl ⊢
  have hl : lv_has ls 6 [(0, .ref qh), (1, .int a1), (2, .int a2), (3, .int a3)] := hl
  obtain ⟨H, hHe⟩ : ∃ H : Heap, H = s.heap := ⟨_, rfl⟩
  rw [← hHe] at hP
  have hS : va_S A s.heap H [] := by rw [hHe]; exact va_S.rf
  refine ct_start hHe ?_
  refine lv_aload_n hx hb dX11_nights_0 rfl (lv_at hl 0 rfl) ?_
  refine lv_iload_n hx hb dX11_nights_1 rfl (lv_at hl 1 rfl) ?_
  refine lv_iload_n hx hb dX11_nights_2 rfl (lv_at hl 3 rfl) ?_
  refine ct_calli (D := D) (wr := [(qd_steps, .inl (cI, 24, .inl (fd_steps))), (qd_lengths, .inl (cI, 2, .inl (fd_lengths))), (qd_starts, .inl (cI, 2, .inl (fd_starts))), (qd_met, .inl (cI, 6, .inl (fd_met))), (qn, .inr (4, [.ref qn_danced, .ref qn_places, .long vn_state, .int vn_holeCount, .int vn_firstHole, .int vn_mudCount, .int vn_slipCount])), (qn_danced, .inl (cI, 200, .inl (fn_danced))), (qn_places, .inl (cI, 2, .inl (fn_places)))]) (va_runV (As := [.int a1, .int a3]) (rest := []) ⟨hx, hb, hml, hown, hts⟩ (c_X11_hasNight l D G cI cJ cB cZ cO qh qh_kept vh_laid qi qr qt qd vd_gap vd_odds vd_rain vd_lines qd_steps qd_lengths qd_starts qd_met qd_stumbles vd_stumbleCount qd_muds qd_cells vd_cellCount qd_tunes vd_tuneCount qd_changes vd_changeCount qd2 qf qf2 qo qe qw qu qg qn qs a1 a3 h_vd_gap h_vd_stumbleCount h_vd_cellCount h_vd_tuneCount h_vd_changeCount H.size) (cwV 2 hts gX11_nights_X11_hasNight rfl rfl rfl (by decide +kernel) ⟨Nat.le_of_ble_eq_true rfl, Nat.le_of_ble_eq_true rfl⟩) (ct_preV (T := ct_T cI cJ cB cZ cO) (ci := 11) (q0 := 0) hE hH hP hD hS hA [0, 1] (by decide) rfl rfl rfl) rfl rfl hl.1 rfl (lv_room (Nat.le_of_ble_eq_true rfl)) dX11_nights_3 ⟨Nat.le_of_ble_eq_true rfl, Nat.le_of_ble_eq_true rfl⟩) hP hD hS hA [0, 1] [2, 3, 4, 5, 6, 7, 8] rfl rfl (by decide) (by decide) (fun r1 u H locs hw hP hD hS => ?_)
  obtain ⟨hP, hD⟩ : ct_B D A H [(qd_steps, .inl (cI, 24, .inl (fd_steps))), (qd_lengths, .inl (cI, 2, .inl (fd_lengths))), (qd_starts, .inl (cI, 2, .inl (fd_starts))), (qd_met, .inl (cI, 6, .inl (fd_met))), (qn, .inr (4, [.ref qn_danced, .ref qn_places, .long vn_state, .int vn_holeCount, .int vn_firstHole, .int vn_mudCount, .int vn_slipCount])), (qn_danced, .inl (cI, 200, .inl (fn_danced))), (qn_places, .inl (cI, 2, .inl (fn_places))), oo qh qr qt qd qd2 qi qh_kept qf qf2 vh_laid qo qe qw qu qg qn qs, dn qd vd_gap vd_odds vd_rain vd_lines qd_steps qd_lengths qd_starts qd_met qd_stumbles vd_stumbleCount qd_muds qd_cells vd_cellCount qd_tunes vd_tuneCount qd_changes vd_changeCount] := ⟨hP, hD⟩
  have hz := hw
  rcases hz with ⟨hz, hz2⟩ | ⟨hz, hz2⟩
  · subst hz
    refine lv_if_eq (tgt := 20) hx hb dX11_nights_6 (by decide) (fun hc => absurd hc (by decide)) (fun _ => ?_)
    refine lv_iload_n hx hb dX11_nights_9 rfl (lv_at hl 2 rfl) ?_
    refine lv_iconst (v := 1) hx hb dX11_nights_10 (by decide) ?_
    refine lv_icmp_lt (tgt := 20) hx hb dX11_nights_11 (by decide) (fun hc => ?_) (fun hc => ?_)
    · have hq2 : a2.toInt < 1 := tq_lt rfl (by decide) hc
      have hb3 := tq_lo a2
      refine lv_bipush (v := (-2)) hx hb dX11_nights_20 (by decide) ?_
      obtain ⟨hP9, hD9⟩ : ct_B D A H [oo qh qr qt qd qd2 qi qh_kept qf qf2 vh_laid qo qe qw qu qg qn qs, dn qd vd_gap vd_odds vd_rain vd_lines qd_steps qd_lengths qd_starts qd_met qd_stumbles vd_stumbleCount qd_muds qd_cells vd_cellCount qd_tunes vd_tuneCount qd_changes vd_changeCount, (qd_steps, .inl (cI, 24, .inl (fd_steps))), (qd_lengths, .inl (cI, 2, .inl (fd_lengths))), (qd_starts, .inl (cI, 2, .inl (fd_starts))), (qd_met, .inl (cI, 6, .inl (fd_met))), (qn, .inr (4, [.ref qn_danced, .ref qn_places, .long vn_state, .int vn_holeCount, .int vn_firstHole, .int vn_mudCount, .int vn_slipCount])), (qn_danced, .inl (cI, 200, .inl (fn_danced))), (qn_places, .inl (cI, 2, .inl (fn_places)))] := ⟨hP.sub [7, 8, 0, 1, 2, 3, 4, 5, 6] rfl, hD.sub [7, 8, 0, 1, 2, 3, 4, 5, 6] (by decide) rfl⟩
      exact W.iret (v := (-2)) hx hb hr (fun t ht hW => ⟨⟨(-2), (vn_state, vn_holeCount, vn_firstHole, vn_mudCount, vn_slipCount, fn_danced, fn_places), rfl, ⟨h_fn_danced, h_fn_places⟩, by rw [ht]; exact hP9, hD9⟩, hS.F ht⟩) hS.2.2 dX11_nights_22
    · have hq2 : 1 ≤ a2.toInt := tq_nlt rfl (by decide) hc
      have hb4 := tq_lo a2
      refine lv_iload_n hx hb dX11_nights_14 rfl (lv_at hl 2 rfl) ?_
      refine lv_bipush (v := 20) hx hb dX11_nights_15 (by decide) ?_
      refine lv_icmp_le (tgt := 23) hx hb dX11_nights_17 (by decide) (fun hc => ?_) (fun hc => ?_)
      · have hq5 : a2.toInt ≤ 20 := tq_le rfl (by decide) hc
        have hb6 := tq_lo a2
        refine lv_iconst (v := 0) hx hb dX11_nights_23 (by decide) ?_
        refine lv_istore (lv' := [(4, .int 0), (0, .ref qh), (1, .int a1), (2, .int a2), (3, .int a3)]) hx hb dX11_nights_24 hl (by decide) rfl (fun ls hl => ?_)
        refine lv_iconst (v := 0) hx hb dX11_nights_26 (by decide) ?_
        refine lv_istore (lv' := [(5, .int 0), (4, .int 0), (0, .ref qh), (1, .int a1), (2, .int a2), (3, .int a3)]) hx hb dX11_nights_27 hl (by decide) rfl (fun ls hl => ?_)
        refine ct_loop (X := (Nat → Int32) × (Nat → Int32) × Int64 × Int32 × Int32 × Int32 × Int32 × Int32 × Int32) (fun x => (20 - x.2.2.2.2.2.2.2.2.toInt).toNat) (fun x H locs ls => (ar_ok [(-1)] [5] x.1) ∧ (ar_ok [0] [11] x.2.1) ∧ ((0 ≤ x.2.2.2.2.2.2.2.2.toInt ∧ x.2.2.2.2.2.2.2.2.toInt ≤ 20)) ∧ ct_B D A H [(qd_steps, .inl (cI, 24, .inl (fd_steps))), (qd_lengths, .inl (cI, 2, .inl (fd_lengths))), (qd_starts, .inl (cI, 2, .inl (fd_starts))), (qd_met, .inl (cI, 6, .inl (fd_met))), (qn, .inr (4, [.ref qn_danced, .ref qn_places, .long x.2.2.1, .int x.2.2.2.1, .int x.2.2.2.2.1, .int x.2.2.2.2.2.1, .int x.2.2.2.2.2.2.1])), (qn_danced, .inl (cI, 200, .inl (x.1))), (qn_places, .inl (cI, 2, .inl (x.2.1))), oo qh qr qt qd qd2 qi qh_kept qf qf2 vh_laid qo qe qw qu qg qn qs, dn qd vd_gap vd_odds vd_rain vd_lines qd_steps qd_lengths qd_starts qd_met qd_stumbles vd_stumbleCount qd_muds qd_cells vd_cellCount qd_tunes vd_tuneCount qd_changes vd_changeCount] ∧ va_S A s.heap H locs ∧ lv_has ls 6 [(5, .int x.2.2.2.2.2.2.2.2), (4, .int x.2.2.2.2.2.2.2.1), (0, .ref qh), (1, .int a1), (2, .int a2), (3, .int a3)]) 29 (fn_danced, fn_places, vn_state, vn_holeCount, vn_firstHole, vn_mudCount, vn_slipCount, (0 : Int32), (0 : Int32)) ⟨h_fn_danced, h_fn_places, (show 0 ≤ (0 : Int32).toInt ∧ (0 : Int32).toInt ≤ 20 by decide), ⟨hP, hD⟩, hS, lv_sub hl [0, 1, 2, 3, 4, 5] rfl⟩ (fun x ih436 H locs ls hI => ?_)
        obtain ⟨g427, g428, x429, x430, x431, x432, x433, x434, x435⟩ := x
        obtain ⟨h_g427, h_g428, h_x435, ⟨hP, hD⟩, hS, hl⟩ := hI
        have h_g427 : ar_ok [(-1)] [5] g427 := h_g427
        have h_g428 : ar_ok [0] [11] g428 := h_g428
        have h_x435 : (0 ≤ x435.toInt ∧ x435.toInt ≤ 20) := h_x435
        obtain ⟨hP, hD⟩ : ct_B D A H [(qd_steps, .inl (cI, 24, .inl (fd_steps))), (qd_lengths, .inl (cI, 2, .inl (fd_lengths))), (qd_starts, .inl (cI, 2, .inl (fd_starts))), (qd_met, .inl (cI, 6, .inl (fd_met))), (qn, .inr (4, [.ref qn_danced, .ref qn_places, .long x429, .int x430, .int x431, .int x432, .int x433])), (qn_danced, .inl (cI, 200, .inl (g427))), (qn_places, .inl (cI, 2, .inl (g428))), oo qh qr qt qd qd2 qi qh_kept qf qf2 vh_laid qo qe qw qu qg qn qs, dn qd vd_gap vd_odds vd_rain vd_lines qd_steps qd_lengths qd_starts qd_met qd_stumbles vd_stumbleCount qd_muds qd_cells vd_cellCount qd_tunes vd_tuneCount qd_changes vd_changeCount] := ⟨hP, hD⟩
        have hl : lv_has ls 6 [(5, .int x435), (4, .int x434), (0, .ref qh), (1, .int a1), (2, .int a2), (3, .int a3)] := hl
        refine lv_iload hx hb dX11_nights_29 (lv_at hl 0 rfl) ?_
        refine lv_iload_n hx hb dX11_nights_31 rfl (lv_at hl 4 rfl) ?_
        refine lv_icmp_ge (tgt := 70) hx hb dX11_nights_32 (by decide) (fun hc => ?_) (fun hc => ?_)
        · have hq437 : a2.toInt ≤ x435.toInt := tq_le rfl rfl hc
          refine lv_iload hx hb dX11_nights_70 (lv_at hl 1 rfl) ?_
          obtain ⟨hP9, hD9⟩ : ct_B D A H [oo qh qr qt qd qd2 qi qh_kept qf qf2 vh_laid qo qe qw qu qg qn qs, dn qd vd_gap vd_odds vd_rain vd_lines qd_steps qd_lengths qd_starts qd_met qd_stumbles vd_stumbleCount qd_muds qd_cells vd_cellCount qd_tunes vd_tuneCount qd_changes vd_changeCount, (qd_steps, .inl (cI, 24, .inl (fd_steps))), (qd_lengths, .inl (cI, 2, .inl (fd_lengths))), (qd_starts, .inl (cI, 2, .inl (fd_starts))), (qd_met, .inl (cI, 6, .inl (fd_met))), (qn, .inr (4, [.ref qn_danced, .ref qn_places, .long x429, .int x430, .int x431, .int x432, .int x433])), (qn_danced, .inl (cI, 200, .inl (g427))), (qn_places, .inl (cI, 2, .inl (g428)))] := ⟨hP.sub [7, 8, 0, 1, 2, 3, 4, 5, 6] rfl, hD.sub [7, 8, 0, 1, 2, 3, 4, 5, 6] (by decide) rfl⟩
          exact W.iret (v := x434) hx hb hr (fun t ht hW => ⟨⟨x434, (x429, x430, x431, x432, x433, g427, g428), rfl, ⟨h_g427, h_g428⟩, by rw [ht]; exact hP9, hD9⟩, hS.F ht⟩) hS.2.2 dX11_nights_72
        · have hq437 : x435.toInt < a2.toInt := tq_nle rfl rfl hc
          refine lv_aload_n hx hb dX11_nights_35 rfl (lv_at hl 2 rfl) ?_
          refine va_get (D := D) (ci := 11) (v := .ref qn) (C := RX11) (T := TX11) (N := 16) hx hb hts hi11 hown hK hP 7 rfl rfl 14 (by decide) (hts (.fieldLink RX11 91 "OverHill" "night" "LOverHill$Night;") (by decide +kernel)) (fun _ h9 => h9) rfl dX11_nights_36 ?_
          refine lv_aload_n hx hb dX11_nights_39 rfl (lv_at hl 2 rfl) ?_
          refine va_get (D := D) (ci := 11) (v := .ref qd) (C := RX11) (T := TX11) (N := 16) hx hb hts hi11 hown hK hP 7 rfl rfl 2 (by decide) (hts (.fieldLink RX11 24 "OverHill" "now" "LOverHill$Dance;") (by decide +kernel)) (fun _ h9 => h9) rfl dX11_nights_40 ?_
          refine lv_iload_n hx hb dX11_nights_43 rfl (lv_at hl 3 rfl) ?_
          refine lv_iload hx hb dX11_nights_44 (lv_at hl 0 rfl) ?_
          refine lv_iadd hx hb dX11_nights_46 ?_
          refine lv_topi (fun z438 ez438 => ?_)
          refine lv_iload_n hx hb dX11_nights_47 rfl (lv_at hl 5 rfl) ?_
          refine ct_callv (D := D) (wr := [oo qh qr qt qd qd2 qi qh_kept qf qf2 vh_laid qo qe qw qu qg qn qs]) (va_runV (As := [.ref qd, .int z438, .int a3]) (rest := []) ⟨hx, hb, hml, hown, hts⟩ (c_X4_play l D G cI cJ cB cZ cO qn qn_danced g427 qn_places g428 x429 x430 x431 x432 x433 qd vd_gap vd_odds vd_rain vd_lines qd_steps fd_steps qd_lengths fd_lengths qd_starts fd_starts qd_met fd_met qd_stumbles vd_stumbleCount qd_muds qd_cells vd_cellCount qd_tunes vd_tuneCount qd_changes vd_changeCount z438 a3 h_g427 h_g428 h_vd_gap h_fd_steps h_fd_lengths h_fd_starts h_vd_stumbleCount h_vd_cellCount h_vd_tuneCount h_vd_changeCount H.size) (cwV 3 hts gX11_nights_X4_play rfl rfl rfl (by decide +kernel) ⟨Nat.le_of_ble_eq_true rfl, Nat.le_of_ble_eq_true rfl⟩) (ct_preV (T := ct_T cI cJ cB cZ cO) (ci := 4) (q0 := 4) hE hH hP hD hS hA [4, 5, 6, 8, 0, 1, 2, 3] (by decide) rfl rfl rfl) rfl rfl hl.1 rfl (lv_room (Nat.le_of_ble_eq_true rfl)) dX11_nights_48 ⟨Nat.le_of_ble_eq_true rfl, Nat.le_of_ble_eq_true rfl⟩) hP hD hS hA [4, 5, 6, 8, 0, 1, 2, 3] [7] rfl rfl (by decide) (by decide) (fun u H locs hw hP hD hS => ?_)
          obtain ⟨y439, y440, y441, y442, y443, g444, g445⟩ := u
          obtain ⟨hP, hD⟩ : ct_B D A H [oo qh qr qt qd qd2 qi qh_kept qf qf2 vh_laid qo qe qw qu qg qn qs, (qn, .inr (4, [.ref qn_danced, .ref qn_places, .long y439, .int y440, .int y441, .int y442, .int y443])), (qn_danced, .inl (cI, 200, .inl (g444))), (qn_places, .inl (cI, 2, .inl (g445))), dn qd vd_gap vd_odds vd_rain vd_lines qd_steps qd_lengths qd_starts qd_met qd_stumbles vd_stumbleCount qd_muds qd_cells vd_cellCount qd_tunes vd_tuneCount qd_changes vd_changeCount, (qd_steps, .inl (cI, 24, .inl (fd_steps))), (qd_lengths, .inl (cI, 2, .inl (fd_lengths))), (qd_starts, .inl (cI, 2, .inl (fd_starts))), (qd_met, .inl (cI, 6, .inl (fd_met)))] := ⟨hP, hD⟩
          obtain ⟨hp0, hp1⟩ := hw
          have h_g444 : ar_ok [(-1)] [5] g444 := hp0
          have h_g445 : ar_ok [0] [11] g445 := hp1
          refine lv_aload_n hx hb dX11_nights_51 rfl (lv_at hl 2 rfl) ?_
          refine va_get (D := D) (ci := 11) (v := .ref qn) (C := RX11) (T := TX11) (N := 16) hx hb hts hi11 hown hK hP 0 rfl rfl 14 (by decide) (hts (.fieldLink RX11 91 "OverHill" "night" "LOverHill$Night;") (by decide +kernel)) (fun _ h9 => h9) rfl dX11_nights_52 ?_
          refine va_get (D := D) (ci := 4) (v := .int y440) (C := RX4) (T := TX4) (N := 7) hx hb hts hi4 hown hK hP 1 rfl rfl 3 (by decide) (hts (.fieldLink RX11 357 "OverHill$Night" "holeCount" "I") (by decide +kernel)) (fun _ h9 => h9) rfl dX11_nights_55 ?_
          refine lv_if_ne (tgt := 64) hx hb dX11_nights_58 (by decide) (fun hc => ?_) (fun hc => ?_)
          · have hq446 : y440.toInt ≠ 0 := tq_ne rfl (by decide) hc
            have hb447 := tq_lo y440
            obtain ⟨z448, ez448⟩ : ∃ z : Int32, z = x435 + 1 := ⟨_, rfl⟩
            have fz448 : z448.toInt = x435.toInt + 1 := by rw [ez448]; exact tq_add rfl (by decide) (by omega)
            refine lv_iinc (v := z448) (lv' := [(5, .int z448), (4, .int x434), (0, .ref qh), (1, .int a1), (2, .int a2), (3, .int a3)]) hx hb dX11_nights_64 hl (k := 0) rfl ez448.symm (by decide) rfl (fun ls hl => ?_)
            refine lv_goto (tgt := 29) hx hb dX11_nights_67 (by decide) ?_
            obtain ⟨hP9, hD9⟩ : ct_B D A H [(qd_steps, .inl (cI, 24, .inl (fd_steps))), (qd_lengths, .inl (cI, 2, .inl (fd_lengths))), (qd_starts, .inl (cI, 2, .inl (fd_starts))), (qd_met, .inl (cI, 6, .inl (fd_met))), (qn, .inr (4, [.ref qn_danced, .ref qn_places, .long y439, .int y440, .int y441, .int y442, .int y443])), (qn_danced, .inl (cI, 200, .inl (g444))), (qn_places, .inl (cI, 2, .inl (g445))), oo qh qr qt qd qd2 qi qh_kept qf qf2 vh_laid qo qe qw qu qg qn qs, dn qd vd_gap vd_odds vd_rain vd_lines qd_steps qd_lengths qd_starts qd_met qd_stumbles vd_stumbleCount qd_muds qd_cells vd_cellCount qd_tunes vd_tuneCount qd_changes vd_changeCount] := ⟨hP.sub [5, 6, 7, 8, 1, 2, 3, 0, 4] rfl, hD.sub [5, 6, 7, 8, 1, 2, 3, 0, 4] (by decide) rfl⟩
            exact ih436 (g444, g445, y439, y440, y441, y442, y443, x434, z448) _ _ _ (show (20 - z448.toInt).toNat < (20 - x435.toInt).toNat by omega) ⟨h_g444, h_g445, (show 0 ≤ z448.toInt ∧ z448.toInt ≤ 20 by omega), ⟨hP9, hD9⟩, hS, lv_sub hl [0, 1, 2, 3, 4, 5] rfl⟩
          · have hq446 : y440.toInt = 0 := tq_eq rfl (by decide) hc
            have hb449 := tq_lo y440
            obtain ⟨z450, ez450⟩ : ∃ z : Int32, z = x434 + 1 := ⟨_, rfl⟩
            refine lv_iinc (v := z450) (lv' := [(4, .int z450), (5, .int x435), (0, .ref qh), (1, .int a1), (2, .int a2), (3, .int a3)]) hx hb dX11_nights_61 hl (k := 1) rfl ez450.symm (by decide) rfl (fun ls hl => ?_)
            obtain ⟨z451, ez451⟩ : ∃ z : Int32, z = x435 + 1 := ⟨_, rfl⟩
            have fz451 : z451.toInt = x435.toInt + 1 := by rw [ez451]; exact tq_add rfl (by decide) (by omega)
            refine lv_iinc (v := z451) (lv' := [(5, .int z451), (4, .int z450), (0, .ref qh), (1, .int a1), (2, .int a2), (3, .int a3)]) hx hb dX11_nights_64 hl (k := 1) rfl ez451.symm (by decide) rfl (fun ls hl => ?_)
            refine lv_goto (tgt := 29) hx hb dX11_nights_67 (by decide) ?_
            obtain ⟨hP9, hD9⟩ : ct_B D A H [(qd_steps, .inl (cI, 24, .inl (fd_steps))), (qd_lengths, .inl (cI, 2, .inl (fd_lengths))), (qd_starts, .inl (cI, 2, .inl (fd_starts))), (qd_met, .inl (cI, 6, .inl (fd_met))), (qn, .inr (4, [.ref qn_danced, .ref qn_places, .long y439, .int y440, .int y441, .int y442, .int y443])), (qn_danced, .inl (cI, 200, .inl (g444))), (qn_places, .inl (cI, 2, .inl (g445))), oo qh qr qt qd qd2 qi qh_kept qf qf2 vh_laid qo qe qw qu qg qn qs, dn qd vd_gap vd_odds vd_rain vd_lines qd_steps qd_lengths qd_starts qd_met qd_stumbles vd_stumbleCount qd_muds qd_cells vd_cellCount qd_tunes vd_tuneCount qd_changes vd_changeCount] := ⟨hP.sub [5, 6, 7, 8, 1, 2, 3, 0, 4] rfl, hD.sub [5, 6, 7, 8, 1, 2, 3, 0, 4] (by decide) rfl⟩
            exact ih436 (g444, g445, y439, y440, y441, y442, y443, z450, z451) _ _ _ (show (20 - z451.toInt).toNat < (20 - x435.toInt).toNat by omega) ⟨h_g444, h_g445, (show 0 ≤ z451.toInt ∧ z451.toInt ≤ 20 by omega), ⟨hP9, hD9⟩, hS, lv_sub hl [0, 1, 2, 3, 4, 5] rfl⟩
      · have hq5 : 20 < a2.toInt := tq_nle rfl (by decide) hc
        have hb452 := tq_lo a2
        refine lv_bipush (v := (-2)) hx hb dX11_nights_20 (by decide) ?_
        obtain ⟨hP9, hD9⟩ : ct_B D A H [oo qh qr qt qd qd2 qi qh_kept qf qf2 vh_laid qo qe qw qu qg qn qs, dn qd vd_gap vd_odds vd_rain vd_lines qd_steps qd_lengths qd_starts qd_met qd_stumbles vd_stumbleCount qd_muds qd_cells vd_cellCount qd_tunes vd_tuneCount qd_changes vd_changeCount, (qd_steps, .inl (cI, 24, .inl (fd_steps))), (qd_lengths, .inl (cI, 2, .inl (fd_lengths))), (qd_starts, .inl (cI, 2, .inl (fd_starts))), (qd_met, .inl (cI, 6, .inl (fd_met))), (qn, .inr (4, [.ref qn_danced, .ref qn_places, .long vn_state, .int vn_holeCount, .int vn_firstHole, .int vn_mudCount, .int vn_slipCount])), (qn_danced, .inl (cI, 200, .inl (fn_danced))), (qn_places, .inl (cI, 2, .inl (fn_places)))] := ⟨hP.sub [7, 8, 0, 1, 2, 3, 4, 5, 6] rfl, hD.sub [7, 8, 0, 1, 2, 3, 4, 5, 6] (by decide) rfl⟩
        exact W.iret (v := (-2)) hx hb hr (fun t ht hW => ⟨⟨(-2), (vn_state, vn_holeCount, vn_firstHole, vn_mudCount, vn_slipCount, fn_danced, fn_places), rfl, ⟨h_fn_danced, h_fn_places⟩, by rw [ht]; exact hP9, hD9⟩, hS.F ht⟩) hS.2.2 dX11_nights_22
  · subst hz
    refine lv_if_eq (tgt := 20) hx hb dX11_nights_6 (by decide) (fun _ => ?_) (fun hc => absurd hc (by decide))
    refine lv_bipush (v := (-2)) hx hb dX11_nights_20 (by decide) ?_
    obtain ⟨hP9, hD9⟩ : ct_B D A H [oo qh qr qt qd qd2 qi qh_kept qf qf2 vh_laid qo qe qw qu qg qn qs, dn qd vd_gap vd_odds vd_rain vd_lines qd_steps qd_lengths qd_starts qd_met qd_stumbles vd_stumbleCount qd_muds qd_cells vd_cellCount qd_tunes vd_tuneCount qd_changes vd_changeCount, (qd_steps, .inl (cI, 24, .inl (fd_steps))), (qd_lengths, .inl (cI, 2, .inl (fd_lengths))), (qd_starts, .inl (cI, 2, .inl (fd_starts))), (qd_met, .inl (cI, 6, .inl (fd_met))), (qn, .inr (4, [.ref qn_danced, .ref qn_places, .long vn_state, .int vn_holeCount, .int vn_firstHole, .int vn_mudCount, .int vn_slipCount])), (qn_danced, .inl (cI, 200, .inl (fn_danced))), (qn_places, .inl (cI, 2, .inl (fn_places)))] := ⟨hP.sub [7, 8, 0, 1, 2, 3, 4, 5, 6] rfl, hD.sub [7, 8, 0, 1, 2, 3, 4, 5, 6] (by decide) rfl⟩
    exact W.iret (v := (-2)) hx hb hr (fun t ht hW => ⟨⟨(-2), (vn_state, vn_holeCount, vn_firstHole, vn_mudCount, vn_slipCount, fn_danced, fn_places), rfl, ⟨h_fn_danced, h_fn_places⟩, by rw [ht]; exact hP9, hD9⟩, hS.F ht⟩) hS.2.2 dX11_nights_22
abbrev w_c_X11_stumble (cI cJ cB cZ cO : ClassId) (qh : Nat) (qh_kept : Nat) (vh_laid : Int32) (qi : Nat) (qr : Nat) (qt : Nat) (qd : Nat) (vd_gap : Int32) (vd_odds : Int32) (vd_rain : Int32) (vd_lines : Int32) (qd_steps : Nat) (qd_lengths : Nat) (qd_starts : Nat) (qd_met : Nat) (qd_stumbles : Nat) (fd_stumbles : Nat → Int32) (vd_stumbleCount : Int32) (qd_muds : Nat) (qd_cells : Nat) (vd_cellCount : Int32) (qd_tunes : Nat) (vd_tuneCount : Int32) (qd_changes : Nat) (fd_changes : Nat → Int32) (vd_changeCount : Int32) (qd2 : Nat) (qf : Nat) (qf2 : Nat) (qo : Nat) (qe : Nat) (qw : Nat) (qu : Nat) (qg : Nat) (qn : Nat) (qs : Nat) : va_W := [oo qh qr qt qd qd2 qi qh_kept qf qf2 vh_laid qo qe qw qu qg qn qs, dn qd vd_gap vd_odds vd_rain vd_lines qd_steps qd_lengths qd_starts qd_met qd_stumbles vd_stumbleCount qd_muds qd_cells vd_cellCount qd_tunes vd_tuneCount qd_changes vd_changeCount, (qd_stumbles, .inl (cI, 32, .inl (fd_stumbles))), (qd_changes, .inl (cI, 120, .inl (fd_changes)))]
set_option maxHeartbeats 4000000 in
set_option maxRecDepth 100000 in
/-- X11 stumble -/
theorem c_X11_stumble (l : Launch) (D : va_G) (G : ct_G) (cI cJ cB cZ cO : ClassId) (qh : Nat) (qh_kept : Nat) (vh_laid : Int32) (qi : Nat) (qr : Nat) (qt : Nat) (qd : Nat) (vd_gap : Int32) (vd_odds : Int32) (vd_rain : Int32) (vd_lines : Int32) (qd_steps : Nat) (qd_lengths : Nat) (qd_starts : Nat) (qd_met : Nat) (qd_stumbles : Nat) (fd_stumbles : Nat → Int32) (vd_stumbleCount : Int32) (qd_muds : Nat) (qd_cells : Nat) (vd_cellCount : Int32) (qd_tunes : Nat) (vd_tuneCount : Int32) (qd_changes : Nat) (fd_changes : Nat → Int32) (vd_changeCount : Int32) (qd2 : Nat) (qf : Nat) (qf2 : Nat) (qo : Nat) (qe : Nat) (qw : Nat) (qu : Nat) (qg : Nat) (qn : Nat) (qs : Nat) (a1 : Int32) (a2 : Int32) (a3 : Int32) (a4 : Int32) (h_vd_gap : 0 ≤ vd_gap.toInt ∧ vd_gap.toInt ≤ 20) (h_fd_stumbles : ar_ok [(-2147483648), 0, 0, (-2147483648)] [2147483647, 199, 5, 2147483647] fd_stumbles) (h_vd_stumbleCount : 0 ≤ vd_stumbleCount.toInt ∧ vd_stumbleCount.toInt ≤ 8) (h_vd_cellCount : 0 ≤ vd_cellCount.toInt ∧ vd_cellCount.toInt ≤ 12) (h_vd_tuneCount : 0 ≤ vd_tuneCount.toInt ∧ vd_tuneCount.toInt ≤ 5) (h_vd_changeCount : 0 ≤ vd_changeCount.toInt ∧ vd_changeCount.toInt ≤ 40) (h_chd : ch_ok fd_changes vd_changeCount vd_stumbleCount) (sz : Nat) : Met l yX11_stumble wsX11_stumble ({ frames := 3, cells := 0, slots := 0, locals := 63 }) (va_Pc [.ref qh, .int a1, .int a2, .int a3, .int a4] (ct_P D (ct_T cI cJ cB cZ cO) G (w_c_X11_stumble cI cJ cB cZ cO qh qh_kept vh_laid qi qr qt qd vd_gap vd_odds vd_rain vd_lines qd_steps qd_lengths qd_starts qd_met qd_stumbles fd_stumbles vd_stumbleCount qd_muds qd_cells vd_cellCount qd_tunes vd_tuneCount qd_changes fd_changes vd_changeCount qd2 qf qf2 qo qe qw qu qg qn qs) sz)) (va_Qi (fun (rz : Int32) (u : Int32 × Int32 × Int32 × (Nat → Int32) × (Nat → Int32)) => ((-5) ≤ rz.toInt ∧ rz.toInt ≤ 7) ∧ (0 ≤ u.2.1.toInt ∧ u.2.1.toInt ≤ 8) ∧ (0 ≤ u.2.2.1.toInt ∧ u.2.2.1.toInt ≤ 40) ∧ (ar_ok [(-2147483648), 0, 0, (-2147483648)] [2147483647, 199, 5, 2147483647] u.2.2.2.1) ∧ (ch_ok u.2.2.2.2 u.2.2.1 u.2.1)) (fun (u : Int32 × Int32 × Int32 × (Nat → Int32) × (Nat → Int32)) t => ct_Q D (va_A (w_c_X11_stumble cI cJ cB cZ cO qh qh_kept vh_laid qi qr qt qd vd_gap vd_odds vd_rain vd_lines qd_steps qd_lengths qd_starts qd_met qd_stumbles fd_stumbles vd_stumbleCount qd_muds qd_cells vd_cellCount qd_tunes vd_tuneCount qd_changes fd_changes vd_changeCount qd2 qf qf2 qo qe qw qu qg qn qs) sz) [oo qh qr qt qd qd2 qi qh_kept qf qf2 u.1 qo qe qw qu qg qn qs, dn qd vd_gap vd_odds vd_rain vd_lines qd_steps qd_lengths qd_starts qd_met qd_stumbles u.2.1 qd_muds qd_cells vd_cellCount qd_tunes vd_tuneCount qd_changes u.2.2.1, (qd_stumbles, .inl (cI, 32, .inl (u.2.2.2.1))), (qd_changes, .inl (cI, 120, .inl (u.2.2.2.2)))] t) (va_A (w_c_X11_stumble cI cJ cB cZ cO qh qh_kept vh_laid qi qr qt qd vd_gap vd_odds vd_rain vd_lines qd_steps qd_lengths qd_starts qd_met qd_stumbles fd_stumbles vd_stumbleCount qd_muds qd_cells vd_cellCount qd_tunes vd_tuneCount qd_changes fd_changes vd_changeCount qd2 qf qf2 qo qe qw qu qg qn qs) sz)) 0 0 (va_A (w_c_X11_stumble cI cJ cB cZ cO qh qh_kept vh_laid qi qr qt qd vd_gap vd_odds vd_rain vd_lines qd_steps qd_lengths qd_starts qd_met qd_stumbles fd_stumbles vd_stumbleCount qd_muds qd_cells vd_cellCount qd_tunes vd_tuneCount qd_changes fd_changes vd_changeCount qd2 qf qf2 qo qe qw qu qg qn qs) sz) := by
  refine Met.ofW (cc := cX11_stumble) (maxL := 6) (ret := (some .int)) (by decide) rfl ?_
  intro p e s m args below meth c s₁ B hml hv
  obtain ⟨rfl, hsz, hP, hE, hD0, hH⟩ := hv
  have hx := B.exec
  have hb := B.bytes
  have hr := B.returns
  have hts := atoms_spec (ws := wsX11_stumble) B.pre
  have hown : s.vm.findClass RX11 = some m.cls := findClass_of_methodNamed B.named
  have hlocks := B.notSynchronized
  have hK := hE.1
  have hi0 : ∀ w ∈ u_ws RX0 TX0 17, w ∈ wsX11_stumble := fun w h => List.mem_cons_of_mem _ (List.mem_append_right _ h)
  have hi11 : ∀ w ∈ u_ws RX11 TX11 16, w ∈ wsX11_stumble := fun w h => List.mem_cons_of_mem _ (List.mem_append_left _ (List.mem_append_right _ h))
  subst hsz
  have hD := hD0.self (sz := s.heap.size)
  generalize hAe : va_A (w_c_X11_stumble cI cJ cB cZ cO qh qh_kept vh_laid qi qr qt qd vd_gap vd_odds vd_rain vd_lines qd_steps qd_lengths qd_starts qd_met qd_stumbles fd_stumbles vd_stumbleCount qd_muds qd_cells vd_cellCount qd_tunes vd_tuneCount qd_changes fd_changes vd_changeCount qd2 qf qf2 qo qe qw qu qg qn qs) s.heap.size = A at hD hH ⊢
  have hA : ∀ q : Nat, s.heap.size ≤ q → A q := fun q h => by rw [← hAe]; exact Or.inr h
  have hS : va_S A s.heap s.heap [] := va_S.rf
  obtain ⟨hP, hD⟩ : ct_B D A s.heap [oo qh qr qt qd qd2 qi qh_kept qf qf2 vh_laid qo qe qw qu qg qn qs, dn qd vd_gap vd_odds vd_rain vd_lines qd_steps qd_lengths qd_starts qd_met qd_stumbles vd_stumbleCount qd_muds qd_cells vd_cellCount qd_tunes vd_tuneCount qd_changes vd_changeCount, (qd_stumbles, .inl (cI, 32, .inl (fd_stumbles))), (qd_changes, .inl (cI, 120, .inl (fd_changes)))] := ⟨hP, hD⟩
  have hl := lv_entry ([.ref qh, .int a1, .int a2, .int a3, .int a4]) (n := 6) (Nat.le_of_ble_eq_true rfl)
  rw [lg_entry_eq]
  generalize (lg_sl ([.ref qh, .int a1, .int a2, .int a3, .int a4]) ++ List.replicate (6 - (lg_sl ([.ref qh, .int a1, .int a2, .int a3, .int a4])).length) Slot.unset).toArray = ls at hl ⊢
  have hl : lv_has ls 6 [(0, .ref qh), (1, .int a1), (2, .int a2), (3, .int a3), (4, .int a4)] := hl
  obtain ⟨H, hHe⟩ : ∃ H : Heap, H = s.heap := ⟨_, rfl⟩
  rw [← hHe] at hP
  have hS : va_S A s.heap H [] := by rw [hHe]; exact va_S.rf
  refine ct_start hHe ?_
  refine lv_aload_n hx hb dX11_stumble_0 rfl (lv_at hl 0 rfl) ?_
  refine lv_iload_n hx hb dX11_stumble_1 rfl (lv_at hl 1 rfl) ?_
  refine lv_iload_n hx hb dX11_stumble_2 rfl (lv_at hl 2 rfl) ?_
  refine ct_calli (D := D) (wr := [(qd_stumbles, .inl (cI, 32, .inl (fd_stumbles))), (qd_changes, .inl (cI, 120, .inl (fd_changes)))]) (va_runV (As := [.int a1, .int a2]) (rest := []) ⟨hx, hb, hml, hown, hts⟩ (c_X11_has l D G cI cJ cB cZ cO qh qh_kept vh_laid qi qr qt qd vd_gap vd_odds vd_rain vd_lines qd_steps qd_lengths qd_starts qd_met qd_stumbles vd_stumbleCount qd_muds qd_cells vd_cellCount qd_tunes vd_tuneCount qd_changes vd_changeCount qd2 qf qf2 qo qe qw qu qg qn qs a1 a2 h_vd_gap h_vd_stumbleCount h_vd_cellCount h_vd_tuneCount h_vd_changeCount H.size) (cwV 2 hts gX11_stumble_X11_has rfl rfl rfl (by decide +kernel) ⟨Nat.le_of_ble_eq_true rfl, Nat.le_of_ble_eq_true rfl⟩) (ct_preV (T := ct_T cI cJ cB cZ cO) (ci := 11) (q0 := 0) hE hH hP hD hS hA [0, 1] (by decide) rfl rfl rfl) rfl rfl hl.1 rfl (lv_room (Nat.le_of_ble_eq_true rfl)) dX11_stumble_3 ⟨Nat.le_of_ble_eq_true rfl, Nat.le_of_ble_eq_true rfl⟩) hP hD hS hA [0, 1] [2, 3] rfl rfl (by decide) (by decide) (fun r1 u H locs hw hP hD hS => ?_)
  obtain ⟨hP, hD⟩ : ct_B D A H [(qd_stumbles, .inl (cI, 32, .inl (fd_stumbles))), (qd_changes, .inl (cI, 120, .inl (fd_changes))), oo qh qr qt qd qd2 qi qh_kept qf qf2 vh_laid qo qe qw qu qg qn qs, dn qd vd_gap vd_odds vd_rain vd_lines qd_steps qd_lengths qd_starts qd_met qd_stumbles vd_stumbleCount qd_muds qd_cells vd_cellCount qd_tunes vd_tuneCount qd_changes vd_changeCount] := ⟨hP, hD⟩
  have hz := hw
  rcases hz with ⟨hz, hz2⟩ | ⟨hz, hz2⟩
  · subst hz
    have hz_2 : (0 ≤ a1.toInt ∧ a1.toInt < 2 ∧ 0 ≤ a2.toInt ∧ a2.toInt < 200) := hz2
    refine lv_if_eq (tgt := 26) hx hb dX11_stumble_6 (by decide) (fun hc => absurd hc (by decide)) (fun _ => ?_)
    refine lv_iload_n hx hb dX11_stumble_9 rfl (lv_at hl 3 rfl) ?_
    refine ct_calli (D := D) (wr := [(qd_stumbles, .inl (cI, 32, .inl (fd_stumbles))), (qd_changes, .inl (cI, 120, .inl (fd_changes))), oo qh qr qt qd qd2 qi qh_kept qf qf2 vh_laid qo qe qw qu qg qn qs, dn qd vd_gap vd_odds vd_rain vd_lines qd_steps qd_lengths qd_starts qd_met qd_stumbles vd_stumbleCount qd_muds qd_cells vd_cellCount qd_tunes vd_tuneCount qd_changes vd_changeCount]) (va_runS (As := [.int a3]) (rest := []) ⟨hx, hb, hml, hown, hts⟩ (c_X11_isStep l D G cI cJ cB cZ cO a3  H.size) (va_cwS 1 hts gX11_stumble_X11_isStep rfl rfl rfl (by decide +kernel) ⟨Nat.le_of_ble_eq_true rfl, Nat.le_of_ble_eq_true rfl⟩) (ct_preS (T := ct_T cI cJ cB cZ cO) hE hH hP hD hS hA [] (by decide) rfl) rfl rfl hl.1 rfl (lv_room (Nat.le_of_ble_eq_true rfl)) dX11_stumble_10 ⟨Nat.le_of_ble_eq_true rfl, Nat.le_of_ble_eq_true rfl⟩) hP hD hS hA [] [0, 1, 2, 3] rfl rfl (by decide) (by decide) (fun r3 u H locs hw hP hD hS => ?_)
    obtain ⟨hP, hD⟩ : ct_B D A H [(qd_stumbles, .inl (cI, 32, .inl (fd_stumbles))), (qd_changes, .inl (cI, 120, .inl (fd_changes))), oo qh qr qt qd qd2 qi qh_kept qf qf2 vh_laid qo qe qw qu qg qn qs, dn qd vd_gap vd_odds vd_rain vd_lines qd_steps qd_lengths qd_starts qd_met qd_stumbles vd_stumbleCount qd_muds qd_cells vd_cellCount qd_tunes vd_tuneCount qd_changes vd_changeCount] := ⟨hP, hD⟩
    have hz := hw
    rcases hz with ⟨hz, hz2⟩ | ⟨hz, hz2⟩
    · subst hz
      have hz_4 : (0 ≤ a3.toInt ∧ a3.toInt < 6) := hz2
      refine lv_if_eq (tgt := 26) hx hb dX11_stumble_13 (by decide) (fun hc => absurd hc (by decide)) (fun _ => ?_)
      refine lv_iload hx hb dX11_stumble_16 (lv_at hl 4 rfl) ?_
      refine lv_bipush (v := 10) hx hb dX11_stumble_18 (by decide) ?_
      refine ct_calli (D := D) (wr := [(qd_stumbles, .inl (cI, 32, .inl (fd_stumbles))), (qd_changes, .inl (cI, 120, .inl (fd_changes))), oo qh qr qt qd qd2 qi qh_kept qf qf2 vh_laid qo qe qw qu qg qn qs, dn qd vd_gap vd_odds vd_rain vd_lines qd_steps qd_lengths qd_starts qd_met qd_stumbles vd_stumbleCount qd_muds qd_cells vd_cellCount qd_tunes vd_tuneCount qd_changes vd_changeCount]) (va_runS (As := [.int a4, .int 10]) (rest := []) ⟨hx, hb, hml, hown, hts⟩ (c_X11_isWithin l D G cI cJ cB cZ cO a4 10  H.size) (va_cwS 2 hts gX11_stumble_X11_isWithin rfl rfl rfl (by decide +kernel) ⟨Nat.le_of_ble_eq_true rfl, Nat.le_of_ble_eq_true rfl⟩) (ct_preS (T := ct_T cI cJ cB cZ cO) hE hH hP hD hS hA [] (by decide) rfl) rfl rfl hl.1 rfl (lv_room (Nat.le_of_ble_eq_true rfl)) dX11_stumble_20 ⟨Nat.le_of_ble_eq_true rfl, Nat.le_of_ble_eq_true rfl⟩) hP hD hS hA [] [0, 1, 2, 3] rfl rfl (by decide) (by decide) (fun r5 u H locs hw hP hD hS => ?_)
      obtain ⟨hP, hD⟩ : ct_B D A H [(qd_stumbles, .inl (cI, 32, .inl (fd_stumbles))), (qd_changes, .inl (cI, 120, .inl (fd_changes))), oo qh qr qt qd qd2 qi qh_kept qf qf2 vh_laid qo qe qw qu qg qn qs, dn qd vd_gap vd_odds vd_rain vd_lines qd_steps qd_lengths qd_starts qd_met qd_stumbles vd_stumbleCount qd_muds qd_cells vd_cellCount qd_tunes vd_tuneCount qd_changes vd_changeCount] := ⟨hP, hD⟩
      have hk6 : (10 : Int32).toInt = 10 := by decide
      have hz := hw
      rcases hz with ⟨hz, hz2⟩ | ⟨hz, hz2⟩
      · subst hz
        have hz_7 : (0 ≤ a4.toInt ∧ a4.toInt < (10 : Int32).toInt) := hz2
        refine lv_if_ne (tgt := 29) hx hb dX11_stumble_23 (by decide) (fun _ => ?_) (fun hc => absurd hc (by decide))
        refine lv_aload_n hx hb dX11_stumble_29 rfl (lv_at hl 0 rfl) ?_
        refine va_get (D := D) (ci := 11) (v := .ref qd) (C := RX11) (T := TX11) (N := 16) hx hb hts hi11 hown hK hP 2 rfl rfl 2 (by decide) (hts (.fieldLink RX11 24 "OverHill" "now" "LOverHill$Dance;") (by decide +kernel)) (fun _ h9 => h9) rfl dX11_stumble_30 ?_
        refine va_get (D := D) (ci := 0) (v := .int vd_stumbleCount) (C := RX0) (T := TX0) (N := 17) hx hb hts hi0 hown hK hP 3 rfl rfl 9 (by decide) (hts (.fieldLink RX11 216 "OverHill$Dance" "stumbleCount" "I") (by decide +kernel)) (fun _ h9 => h9) rfl dX11_stumble_33 ?_
        refine lv_bipush (v := 8) hx hb dX11_stumble_36 (by decide) ?_
        refine lv_icmp_ge (tgt := 53) hx hb dX11_stumble_38 (by decide) (fun hc => ?_) (fun hc => ?_)
        · have hq8 : 8 ≤ vd_stumbleCount.toInt := tq_le (by decide) rfl hc
          refine lv_iconst (v := 1) hx hb dX11_stumble_53 (by decide) ?_
          refine lv_goto (tgt := 58) hx hb dX11_stumble_54 (by decide) ?_
          refine lv_istore (lv' := [(5, .int 1), (0, .ref qh), (1, .int a1), (2, .int a2), (3, .int a3), (4, .int a4)]) hx hb dX11_stumble_58 hl (by decide) rfl (fun ls hl => ?_)
          refine lv_iload hx hb dX11_stumble_60 (lv_at hl 0 rfl) ?_
          refine lv_if_ne (tgt := 78) hx hb dX11_stumble_62 (by decide) (fun _ => ?_) (fun hc => absurd hc (by decide))
          refine lv_bipush (v := (-5)) hx hb dX11_stumble_78 (by decide) ?_
          obtain ⟨hP9, hD9⟩ : ct_B D A H [oo qh qr qt qd qd2 qi qh_kept qf qf2 vh_laid qo qe qw qu qg qn qs, dn qd vd_gap vd_odds vd_rain vd_lines qd_steps qd_lengths qd_starts qd_met qd_stumbles vd_stumbleCount qd_muds qd_cells vd_cellCount qd_tunes vd_tuneCount qd_changes vd_changeCount, (qd_stumbles, .inl (cI, 32, .inl (fd_stumbles))), (qd_changes, .inl (cI, 120, .inl (fd_changes)))] := ⟨hP.sub [2, 3, 0, 1] rfl, hD.sub [2, 3, 0, 1] (by decide) rfl⟩
          exact W.iret (v := (-5)) hx hb hr (fun t ht hW => ⟨⟨(-5), (vh_laid, vd_stumbleCount, vd_changeCount, fd_stumbles, fd_changes), rfl, ⟨(show (-5) ≤ (-5 : Int32).toInt ∧ (-5 : Int32).toInt ≤ 7 by decide), h_vd_stumbleCount, h_vd_changeCount, h_fd_stumbles, (show ch_ok fd_changes vd_changeCount vd_stumbleCount by exact h_chd)⟩, by rw [ht]; exact hP9, hD9⟩, hS.F ht⟩) hS.2.2 dX11_stumble_80
        · have hq8 : vd_stumbleCount.toInt < 8 := tq_nle (by decide) rfl hc
          refine lv_aload_n hx hb dX11_stumble_41 rfl (lv_at hl 0 rfl) ?_
          refine va_get (D := D) (ci := 11) (v := .ref qd) (C := RX11) (T := TX11) (N := 16) hx hb hts hi11 hown hK hP 2 rfl rfl 2 (by decide) (hts (.fieldLink RX11 24 "OverHill" "now" "LOverHill$Dance;") (by decide +kernel)) (fun _ h9 => h9) rfl dX11_stumble_42 ?_
          refine va_get (D := D) (ci := 0) (v := .int vd_changeCount) (C := RX0) (T := TX0) (N := 17) hx hb hts hi0 hown hK hP 3 rfl rfl 16 (by decide) (hts (.fieldLink RX11 369 "OverHill$Dance" "changeCount" "I") (by decide +kernel)) (fun _ h9 => h9) rfl dX11_stumble_45 ?_
          refine lv_bipush (v := 40) hx hb dX11_stumble_48 (by decide) ?_
          refine lv_icmp_lt (tgt := 57) hx hb dX11_stumble_50 (by decide) (fun hc => ?_) (fun hc => ?_)
          · have hq9 : vd_changeCount.toInt < 40 := tq_lt rfl (by decide) hc
            refine lv_iconst (v := 0) hx hb dX11_stumble_57 (by decide) ?_
            refine lv_istore (lv' := [(5, .int 0), (0, .ref qh), (1, .int a1), (2, .int a2), (3, .int a3), (4, .int a4)]) hx hb dX11_stumble_58 hl (by decide) rfl (fun ls hl => ?_)
            refine lv_iload hx hb dX11_stumble_60 (lv_at hl 0 rfl) ?_
            refine lv_if_ne (tgt := 78) hx hb dX11_stumble_62 (by decide) (fun hc => absurd hc (by decide)) (fun _ => ?_)
            refine lv_aload_n hx hb dX11_stumble_65 rfl (lv_at hl 1 rfl) ?_
            refine va_get (D := D) (ci := 11) (v := .ref qd) (C := RX11) (T := TX11) (N := 16) hx hb hts hi11 hown hK hP 2 rfl rfl 2 (by decide) (hts (.fieldLink RX11 24 "OverHill" "now" "LOverHill$Dance;") (by decide +kernel)) (fun _ h9 => h9) rfl dX11_stumble_66 ?_
            refine lv_iload_n hx hb dX11_stumble_69 rfl (lv_at hl 2 rfl) ?_
            refine lv_iload_n hx hb dX11_stumble_70 rfl (lv_at hl 3 rfl) ?_
            refine ct_calli (D := D) (wr := [(qd_changes, .inl (cI, 120, .inl (fd_changes))), oo qh qr qt qd qd2 qi qh_kept qf qf2 vh_laid qo qe qw qu qg qn qs]) (va_runV (As := [.int a1, .int a2]) (rest := []) ⟨hx, hb, hml, hown, hts⟩ (c_X0_stumbleOf l D G cI cJ cB cZ cO qd vd_gap vd_odds vd_rain vd_lines qd_steps qd_lengths qd_starts qd_met qd_stumbles fd_stumbles vd_stumbleCount qd_muds qd_cells vd_cellCount qd_tunes vd_tuneCount qd_changes vd_changeCount a1 a2 h_vd_gap h_fd_stumbles h_vd_stumbleCount h_vd_cellCount h_vd_tuneCount h_vd_changeCount H.size) (cwV 2 hts gX11_stumble_X0_stumbleOf rfl rfl rfl (by decide +kernel) ⟨Nat.le_of_ble_eq_true rfl, Nat.le_of_ble_eq_true rfl⟩) (ct_preV (T := ct_T cI cJ cB cZ cO) (ci := 0) (q0 := 3) hE hH hP hD hS hA [3, 0] (by decide) rfl rfl rfl) rfl rfl hl.1 rfl (lv_room (Nat.le_of_ble_eq_true rfl)) dX11_stumble_71 ⟨Nat.le_of_ble_eq_true rfl, Nat.le_of_ble_eq_true rfl⟩) hP hD hS hA [3, 0] [1, 2] rfl rfl (by decide) (by decide) (fun r10 u H locs hw hP hD hS => ?_)
            obtain ⟨hP, hD⟩ : ct_B D A H [(qd_changes, .inl (cI, 120, .inl (fd_changes))), oo qh qr qt qd qd2 qi qh_kept qf qf2 vh_laid qo qe qw qu qg qn qs, dn qd vd_gap vd_odds vd_rain vd_lines qd_steps qd_lengths qd_starts qd_met qd_stumbles vd_stumbleCount qd_muds qd_cells vd_cellCount qd_tunes vd_tuneCount qd_changes vd_changeCount, (qd_stumbles, .inl (cI, 32, .inl (fd_stumbles)))] := ⟨hP, hD⟩
            have hz := hw
            have h_r10 : (-1) ≤ r10.toInt ∧ r10.toInt ≤ 7 := hz
            refine lv_iconst (v := (-1)) hx hb dX11_stumble_74 (by decide) ?_
            refine lv_icmp_eq (tgt := 81) hx hb dX11_stumble_75 (by decide) (fun hc => ?_) (fun hc => ?_)
            · have hq11 : r10.toInt = (-1) := tq_eq rfl (by decide) hc
              refine lv_aload_n hx hb dX11_stumble_81 rfl (lv_at hl 1 rfl) ?_
              refine va_get (D := D) (ci := 11) (v := .ref qd) (C := RX11) (T := TX11) (N := 16) hx hb hts hi11 hown hK hP 1 rfl rfl 2 (by decide) (hts (.fieldLink RX11 24 "OverHill" "now" "LOverHill$Dance;") (by decide +kernel)) (fun _ h9 => h9) rfl dX11_stumble_82 ?_
              refine lv_iconst (v := 0) hx hb dX11_stumble_85 (by decide) ?_
              refine lv_iconst (v := 0) hx hb dX11_stumble_86 (by decide) ?_
              refine lv_iconst (v := 0) hx hb dX11_stumble_87 (by decide) ?_
              refine ct_callv (D := D) (wr := [oo qh qr qt qd qd2 qi qh_kept qf qf2 vh_laid qo qe qw qu qg qn qs, (qd_stumbles, .inl (cI, 32, .inl (fd_stumbles)))]) (va_runV (As := [.int 0, .int 0, .int 0]) (rest := []) ⟨hx, hb, hml, hown, hts⟩ (c_X0_keepChange l D G cI cJ cB cZ cO qd vd_gap vd_odds vd_rain vd_lines qd_steps qd_lengths qd_starts qd_met qd_stumbles vd_stumbleCount qd_muds qd_cells vd_cellCount qd_tunes vd_tuneCount qd_changes fd_changes vd_changeCount 0 0 0 h_vd_gap h_vd_stumbleCount h_vd_cellCount h_vd_tuneCount h_vd_changeCount h_chd (by omega) (by have := (show Int32.toInt (0) = 0 by decide); omega) H.size) (cwV 3 hts gX11_stumble_X0_keepChange rfl rfl rfl (by decide +kernel) ⟨Nat.le_of_ble_eq_true rfl, Nat.le_of_ble_eq_true rfl⟩) (ct_preV (T := ct_T cI cJ cB cZ cO) (ci := 0) (q0 := 2) hE hH hP hD hS hA [2, 0] (by decide) rfl rfl rfl) rfl rfl hl.1 rfl (lv_room (Nat.le_of_ble_eq_true rfl)) dX11_stumble_88 ⟨Nat.le_of_ble_eq_true rfl, Nat.le_of_ble_eq_true rfl⟩) hP hD hS hA [2, 0] [1, 3] rfl rfl (by decide) (by decide) (fun u H locs hw hP hD hS => ?_)
              obtain ⟨y12, g13⟩ := u
              obtain ⟨hP, hD⟩ : ct_B D A H [oo qh qr qt qd qd2 qi qh_kept qf qf2 vh_laid qo qe qw qu qg qn qs, (qd_stumbles, .inl (cI, 32, .inl (fd_stumbles))), dn qd vd_gap vd_odds vd_rain vd_lines qd_steps qd_lengths qd_starts qd_met qd_stumbles vd_stumbleCount qd_muds qd_cells vd_cellCount qd_tunes vd_tuneCount qd_changes y12, (qd_changes, .inl (cI, 120, .inl (g13)))] := ⟨hP, hD⟩
              have hk14 : (0 : Int32).toInt = 0 := by decide
              obtain ⟨hp0, hp1⟩ := hw
              have h_y12 : 0 ≤ y12.toInt ∧ y12.toInt ≤ 40 := hp0
              have hp_15 : ∀ x : Int32, (if (0 : Int32).toInt = 0 then vd_stumbleCount.toInt + 1 else vd_stumbleCount.toInt) ≤ x.toInt → ch_ok g13 y12 x := hp1
              refine lv_aload_n hx hb dX11_stumble_91 rfl (lv_at hl 1 rfl) ?_
              refine va_get (D := D) (ci := 11) (v := .ref qd) (C := RX11) (T := TX11) (N := 16) hx hb hts hi11 hown hK hP 0 rfl rfl 2 (by decide) (hts (.fieldLink RX11 24 "OverHill" "now" "LOverHill$Dance;") (by decide +kernel)) (fun _ h9 => h9) rfl dX11_stumble_92 ?_
              refine lv_iload_n hx hb dX11_stumble_95 rfl (lv_at hl 2 rfl) ?_
              refine lv_iload_n hx hb dX11_stumble_96 rfl (lv_at hl 3 rfl) ?_
              refine lv_iload_n hx hb dX11_stumble_97 rfl (lv_at hl 4 rfl) ?_
              refine lv_iload hx hb dX11_stumble_98 (lv_at hl 5 rfl) ?_
              refine ct_callv (D := D) (wr := [oo qh qr qt qd qd2 qi qh_kept qf qf2 vh_laid qo qe qw qu qg qn qs, (qd_changes, .inl (cI, 120, .inl (g13)))]) (va_runV (As := [.int a1, .int a2, .int a3, .int a4]) (rest := []) ⟨hx, hb, hml, hown, hts⟩ (c_X0_addStumble l D G cI cJ cB cZ cO qd vd_gap vd_odds vd_rain vd_lines qd_steps qd_lengths qd_starts qd_met qd_stumbles fd_stumbles vd_stumbleCount qd_muds qd_cells vd_cellCount qd_tunes vd_tuneCount qd_changes y12 a1 a2 a3 a4 h_vd_gap h_fd_stumbles h_vd_stumbleCount h_vd_cellCount h_vd_tuneCount h_y12 (by omega) (by omega) H.size) (cwV 4 hts gX11_stumble_X0_addStumble rfl rfl rfl (by decide +kernel) ⟨Nat.le_of_ble_eq_true rfl, Nat.le_of_ble_eq_true rfl⟩) (ct_preV (T := ct_T cI cJ cB cZ cO) (ci := 0) (q0 := 2) hE hH hP hD hS hA [2, 1] (by decide) rfl rfl rfl) rfl rfl hl.1 rfl (lv_room (Nat.le_of_ble_eq_true rfl)) dX11_stumble_100 ⟨Nat.le_of_ble_eq_true rfl, Nat.le_of_ble_eq_true rfl⟩) hP hD hS hA [2, 1] [0, 3] rfl rfl (by decide) (by decide) (fun u H locs hw hP hD hS => ?_)
              obtain ⟨y16, g17⟩ := u
              obtain ⟨hP, hD⟩ : ct_B D A H [oo qh qr qt qd qd2 qi qh_kept qf qf2 vh_laid qo qe qw qu qg qn qs, (qd_changes, .inl (cI, 120, .inl (g13))), dn qd vd_gap vd_odds vd_rain vd_lines qd_steps qd_lengths qd_starts qd_met qd_stumbles y16 qd_muds qd_cells vd_cellCount qd_tunes vd_tuneCount qd_changes y12, (qd_stumbles, .inl (cI, 32, .inl (g17)))] := ⟨hP, hD⟩
              obtain ⟨hp0, hp1, hp2⟩ := hw
              have h_y16 : 0 ≤ y16.toInt ∧ y16.toInt ≤ 8 := hp0
              have h_g17 : ar_ok [(-2147483648), 0, 0, (-2147483648)] [2147483647, 199, 5, 2147483647] g17 := hp1
              have hp_18 : 8 ≤ vd_stumbleCount.toInt ∨ y16.toInt = vd_stumbleCount.toInt + 1 := hp2
              refine lv_aload_n hx hb dX11_stumble_103 rfl (lv_at hl 1 rfl) ?_
              refine lv_iconst (v := 0) hx hb dX11_stumble_104 (by decide) ?_
              refine va_put (D := D) (ci := 11) (v := .int 0) (ty := .boolean) (C := RX11) (T := TX11) (N := 16) hx hb hts hi11 tyX11 tyX11_ok nmX11 hown hK hP hD hS 0 rfl rfl 8 (by decide) (hts (.fieldLink RX11 49 "OverHill" "laid" "Z") (by decide +kernel)) (fun _ h9 => h9) rfl (by decide +kernel) rfl rfl (Nat.le_of_ble_eq_true rfl) dX11_stumble_105 (fun H locs hP hD hS => ?_)
              obtain ⟨hP, hD⟩ : ct_B D A H [oo qh qr qt qd qd2 qi qh_kept qf qf2 0 qo qe qw qu qg qn qs, (qd_changes, .inl (cI, 120, .inl (g13))), dn qd vd_gap vd_odds vd_rain vd_lines qd_steps qd_lengths qd_starts qd_met qd_stumbles y16 qd_muds qd_cells vd_cellCount qd_tunes vd_tuneCount qd_changes y12, (qd_stumbles, .inl (cI, 32, .inl (g17)))] := ⟨hP, hD⟩
              refine lv_aload_n hx hb dX11_stumble_108 rfl (lv_at hl 1 rfl) ?_
              refine va_get (D := D) (ci := 11) (v := .ref qd) (C := RX11) (T := TX11) (N := 16) hx hb hts hi11 hown hK hP 0 rfl rfl 2 (by decide) (hts (.fieldLink RX11 24 "OverHill" "now" "LOverHill$Dance;") (by decide +kernel)) (fun _ h9 => h9) rfl dX11_stumble_109 ?_
              refine va_get (D := D) (ci := 0) (v := .int y16) (C := RX0) (T := TX0) (N := 17) hx hb hts hi0 hown hK hP 2 rfl rfl 9 (by decide) (hts (.fieldLink RX11 216 "OverHill$Dance" "stumbleCount" "I") (by decide +kernel)) (fun _ h9 => h9) rfl dX11_stumble_112 ?_
              refine lv_iconst (v := 1) hx hb dX11_stumble_115 (by decide) ?_
              refine lv_isub hx hb dX11_stumble_116 ?_
              refine lv_topi (fun z19 ez19 => ?_)
              have fz19 : z19.toInt = y16.toInt - 1 := by rw [ez19]; exact tq_subt rfl (by decide) (by omega)
              have hk20 : (0 : Int32).toInt = 0 := by decide
              obtain ⟨hP9, hD9⟩ : ct_B D A H [oo qh qr qt qd qd2 qi qh_kept qf qf2 0 qo qe qw qu qg qn qs, dn qd vd_gap vd_odds vd_rain vd_lines qd_steps qd_lengths qd_starts qd_met qd_stumbles y16 qd_muds qd_cells vd_cellCount qd_tunes vd_tuneCount qd_changes y12, (qd_stumbles, .inl (cI, 32, .inl (g17))), (qd_changes, .inl (cI, 120, .inl (g13)))] := ⟨hP.sub [0, 2, 3, 1] rfl, hD.sub [0, 2, 3, 1] (by decide) rfl⟩
              exact W.iret (v := z19) hx hb hr (fun t ht hW => ⟨⟨z19, ((0 : Int32), y16, y12, g17, g13), rfl, ⟨(show (-5) ≤ z19.toInt ∧ z19.toInt ≤ 7 by omega), h_y16, h_y12, h_g17, (show ch_ok g13 y12 y16 by exact hp_15 _ (by rw [if_pos (by decide)]; omega))⟩, by rw [ht]; exact hP9, hD9⟩, hS.F ht⟩) hS.2.2 dX11_stumble_117
            · have hq11 : r10.toInt ≠ (-1) := tq_ne rfl (by decide) hc
              refine lv_bipush (v := (-5)) hx hb dX11_stumble_78 (by decide) ?_
              obtain ⟨hP9, hD9⟩ : ct_B D A H [oo qh qr qt qd qd2 qi qh_kept qf qf2 vh_laid qo qe qw qu qg qn qs, dn qd vd_gap vd_odds vd_rain vd_lines qd_steps qd_lengths qd_starts qd_met qd_stumbles vd_stumbleCount qd_muds qd_cells vd_cellCount qd_tunes vd_tuneCount qd_changes vd_changeCount, (qd_stumbles, .inl (cI, 32, .inl (fd_stumbles))), (qd_changes, .inl (cI, 120, .inl (fd_changes)))] := ⟨hP.sub [1, 2, 3, 0] rfl, hD.sub [1, 2, 3, 0] (by decide) rfl⟩
              exact W.iret (v := (-5)) hx hb hr (fun t ht hW => ⟨⟨(-5), (vh_laid, vd_stumbleCount, vd_changeCount, fd_stumbles, fd_changes), rfl, ⟨(show (-5) ≤ (-5 : Int32).toInt ∧ (-5 : Int32).toInt ≤ 7 by decide), h_vd_stumbleCount, h_vd_changeCount, h_fd_stumbles, (show ch_ok fd_changes vd_changeCount vd_stumbleCount by exact h_chd)⟩, by rw [ht]; exact hP9, hD9⟩, hS.F ht⟩) hS.2.2 dX11_stumble_80
          · have hq9 : 40 ≤ vd_changeCount.toInt := tq_nlt rfl (by decide) hc
            refine lv_iconst (v := 1) hx hb dX11_stumble_53 (by decide) ?_
            refine lv_goto (tgt := 58) hx hb dX11_stumble_54 (by decide) ?_
            refine lv_istore (lv' := [(5, .int 1), (0, .ref qh), (1, .int a1), (2, .int a2), (3, .int a3), (4, .int a4)]) hx hb dX11_stumble_58 hl (by decide) rfl (fun ls hl => ?_)
            refine lv_iload hx hb dX11_stumble_60 (lv_at hl 0 rfl) ?_
            refine lv_if_ne (tgt := 78) hx hb dX11_stumble_62 (by decide) (fun _ => ?_) (fun hc => absurd hc (by decide))
            refine lv_bipush (v := (-5)) hx hb dX11_stumble_78 (by decide) ?_
            obtain ⟨hP9, hD9⟩ : ct_B D A H [oo qh qr qt qd qd2 qi qh_kept qf qf2 vh_laid qo qe qw qu qg qn qs, dn qd vd_gap vd_odds vd_rain vd_lines qd_steps qd_lengths qd_starts qd_met qd_stumbles vd_stumbleCount qd_muds qd_cells vd_cellCount qd_tunes vd_tuneCount qd_changes vd_changeCount, (qd_stumbles, .inl (cI, 32, .inl (fd_stumbles))), (qd_changes, .inl (cI, 120, .inl (fd_changes)))] := ⟨hP.sub [2, 3, 0, 1] rfl, hD.sub [2, 3, 0, 1] (by decide) rfl⟩
            exact W.iret (v := (-5)) hx hb hr (fun t ht hW => ⟨⟨(-5), (vh_laid, vd_stumbleCount, vd_changeCount, fd_stumbles, fd_changes), rfl, ⟨(show (-5) ≤ (-5 : Int32).toInt ∧ (-5 : Int32).toInt ≤ 7 by decide), h_vd_stumbleCount, h_vd_changeCount, h_fd_stumbles, (show ch_ok fd_changes vd_changeCount vd_stumbleCount by exact h_chd)⟩, by rw [ht]; exact hP9, hD9⟩, hS.F ht⟩) hS.2.2 dX11_stumble_80
      · subst hz
        have hz_21 : ¬ (0 ≤ a4.toInt ∧ a4.toInt < (10 : Int32).toInt) := hz2
        refine lv_if_ne (tgt := 29) hx hb dX11_stumble_23 (by decide) (fun hc => absurd hc (by decide)) (fun _ => ?_)
        refine lv_bipush (v := (-2)) hx hb dX11_stumble_26 (by decide) ?_
        obtain ⟨hP9, hD9⟩ : ct_B D A H [oo qh qr qt qd qd2 qi qh_kept qf qf2 vh_laid qo qe qw qu qg qn qs, dn qd vd_gap vd_odds vd_rain vd_lines qd_steps qd_lengths qd_starts qd_met qd_stumbles vd_stumbleCount qd_muds qd_cells vd_cellCount qd_tunes vd_tuneCount qd_changes vd_changeCount, (qd_stumbles, .inl (cI, 32, .inl (fd_stumbles))), (qd_changes, .inl (cI, 120, .inl (fd_changes)))] := ⟨hP.sub [2, 3, 0, 1] rfl, hD.sub [2, 3, 0, 1] (by decide) rfl⟩
        exact W.iret (v := (-2)) hx hb hr (fun t ht hW => ⟨⟨(-2), (vh_laid, vd_stumbleCount, vd_changeCount, fd_stumbles, fd_changes), rfl, ⟨(show (-5) ≤ (-2 : Int32).toInt ∧ (-2 : Int32).toInt ≤ 7 by decide), h_vd_stumbleCount, h_vd_changeCount, h_fd_stumbles, (show ch_ok fd_changes vd_changeCount vd_stumbleCount by exact h_chd)⟩, by rw [ht]; exact hP9, hD9⟩, hS.F ht⟩) hS.2.2 dX11_stumble_28
    · subst hz
      have hz_22 : ¬ (0 ≤ a3.toInt ∧ a3.toInt < 6) := hz2
      refine lv_if_eq (tgt := 26) hx hb dX11_stumble_13 (by decide) (fun _ => ?_) (fun hc => absurd hc (by decide))
      refine lv_bipush (v := (-2)) hx hb dX11_stumble_26 (by decide) ?_
      obtain ⟨hP9, hD9⟩ : ct_B D A H [oo qh qr qt qd qd2 qi qh_kept qf qf2 vh_laid qo qe qw qu qg qn qs, dn qd vd_gap vd_odds vd_rain vd_lines qd_steps qd_lengths qd_starts qd_met qd_stumbles vd_stumbleCount qd_muds qd_cells vd_cellCount qd_tunes vd_tuneCount qd_changes vd_changeCount, (qd_stumbles, .inl (cI, 32, .inl (fd_stumbles))), (qd_changes, .inl (cI, 120, .inl (fd_changes)))] := ⟨hP.sub [2, 3, 0, 1] rfl, hD.sub [2, 3, 0, 1] (by decide) rfl⟩
      exact W.iret (v := (-2)) hx hb hr (fun t ht hW => ⟨⟨(-2), (vh_laid, vd_stumbleCount, vd_changeCount, fd_stumbles, fd_changes), rfl, ⟨(show (-5) ≤ (-2 : Int32).toInt ∧ (-2 : Int32).toInt ≤ 7 by decide), h_vd_stumbleCount, h_vd_changeCount, h_fd_stumbles, (show ch_ok fd_changes vd_changeCount vd_stumbleCount by exact h_chd)⟩, by rw [ht]; exact hP9, hD9⟩, hS.F ht⟩) hS.2.2 dX11_stumble_28
  · subst hz
    refine lv_if_eq (tgt := 26) hx hb dX11_stumble_6 (by decide) (fun _ => ?_) (fun hc => absurd hc (by decide))
    refine lv_bipush (v := (-2)) hx hb dX11_stumble_26 (by decide) ?_
    obtain ⟨hP9, hD9⟩ : ct_B D A H [oo qh qr qt qd qd2 qi qh_kept qf qf2 vh_laid qo qe qw qu qg qn qs, dn qd vd_gap vd_odds vd_rain vd_lines qd_steps qd_lengths qd_starts qd_met qd_stumbles vd_stumbleCount qd_muds qd_cells vd_cellCount qd_tunes vd_tuneCount qd_changes vd_changeCount, (qd_stumbles, .inl (cI, 32, .inl (fd_stumbles))), (qd_changes, .inl (cI, 120, .inl (fd_changes)))] := ⟨hP.sub [2, 3, 0, 1] rfl, hD.sub [2, 3, 0, 1] (by decide) rfl⟩
    exact W.iret (v := (-2)) hx hb hr (fun t ht hW => ⟨⟨(-2), (vh_laid, vd_stumbleCount, vd_changeCount, fd_stumbles, fd_changes), rfl, ⟨(show (-5) ≤ (-2 : Int32).toInt ∧ (-2 : Int32).toInt ≤ 7 by decide), h_vd_stumbleCount, h_vd_changeCount, h_fd_stumbles, (show ch_ok fd_changes vd_changeCount vd_stumbleCount by exact h_chd)⟩, by rw [ht]; exact hP9, hD9⟩, hS.F ht⟩) hS.2.2 dX11_stumble_28
