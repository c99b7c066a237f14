abbrev w_c_X11_mud (cI cJ cB cZ cO : ClassId) (qh : Nat) (qh_kept : Nat) (vh_laid : Int32) (qi : Nat) (qr : Nat) (qt : Nat) (qd : Nat) (vd_gap : Int32) (vd_odds : Int32) (vd_rain : Int32) (vd_lines : Int32) (qd_steps : Nat) (qd_lengths : Nat) (qd_starts : Nat) (qd_met : Nat) (qd_stumbles : Nat) (vd_stumbleCount : Int32) (qd_muds : Nat) (fd_muds : Nat → Int32) (qd_cells : Nat) (vd_cellCount : Int32) (qd_tunes : Nat) (vd_tuneCount : Int32) (qd_changes : Nat) (fd_changes : Nat → Int32) (vd_changeCount : Int32) (qd2 : Nat) (qf : Nat) (qf2 : Nat) (qo : Nat) (qe : Nat) (qw : Nat) (qu : Nat) (qg : Nat) (qn : Nat) (qs : Nat) : va_W := [oo qh qr qt qd qd2 qi qh_kept qf qf2 vh_laid qo qe qw qu qg qn qs, dn qd vd_gap vd_odds vd_rain vd_lines qd_steps qd_lengths qd_starts qd_met qd_stumbles vd_stumbleCount qd_muds qd_cells vd_cellCount qd_tunes vd_tuneCount qd_changes vd_changeCount, (qd_muds, .inl (cI, 200, .inl (fd_muds))), (qd_changes, .inl (cI, 120, .inl (fd_changes)))]
set_option maxHeartbeats 4000000 in
set_option maxRecDepth 100000 in
/-- X11 mud -/
theorem c_X11_mud (l : Launch) (D : va_G) (G : ct_G) (cI cJ cB cZ cO : ClassId) (qh : Nat) (qh_kept : Nat) (vh_laid : Int32) (qi : Nat) (qr : Nat) (qt : Nat) (qd : Nat) (vd_gap : Int32) (vd_odds : Int32) (vd_rain : Int32) (vd_lines : Int32) (qd_steps : Nat) (qd_lengths : Nat) (qd_starts : Nat) (qd_met : Nat) (qd_stumbles : Nat) (vd_stumbleCount : Int32) (qd_muds : Nat) (fd_muds : Nat → Int32) (qd_cells : Nat) (vd_cellCount : Int32) (qd_tunes : Nat) (vd_tuneCount : Int32) (qd_changes : Nat) (fd_changes : Nat → Int32) (vd_changeCount : Int32) (qd2 : Nat) (qf : Nat) (qf2 : Nat) (qo : Nat) (qe : Nat) (qw : Nat) (qu : Nat) (qg : Nat) (qn : Nat) (qs : Nat) (a1 : Int32) (a2 : Int32) (h_vd_gap : 0 ≤ vd_gap.toInt ∧ vd_gap.toInt ≤ 20) (h_vd_stumbleCount : 0 ≤ vd_stumbleCount.toInt ∧ vd_stumbleCount.toInt ≤ 8) (h_vd_cellCount : 0 ≤ vd_cellCount.toInt ∧ vd_cellCount.toInt ≤ 12) (h_vd_tuneCount : 0 ≤ vd_tuneCount.toInt ∧ vd_tuneCount.toInt ≤ 5) (h_vd_changeCount : 0 ≤ vd_changeCount.toInt ∧ vd_changeCount.toInt ≤ 40) (h_chd : ch_ok fd_changes vd_changeCount vd_stumbleCount) (sz : Nat) : Met l yX11_mud wsX11_mud ({ frames := 2, cells := 0, slots := 0, locals := 41 }) (va_Pc [.ref qh, .int a1, .int a2] (ct_P D (ct_T cI cJ cB cZ cO) G (w_c_X11_mud cI cJ cB cZ cO qh qh_kept vh_laid qi qr qt qd vd_gap vd_odds vd_rain vd_lines qd_steps qd_lengths qd_starts qd_met qd_stumbles vd_stumbleCount qd_muds fd_muds qd_cells vd_cellCount qd_tunes vd_tuneCount qd_changes fd_changes vd_changeCount qd2 qf qf2 qo qe qw qu qg qn qs) sz)) (va_Qi (fun (rz : Int32) (u : Int32 × Int32 × (Nat → Int32) × (Nat → Int32)) => (0 ≤ u.2.1.toInt ∧ u.2.1.toInt ≤ 40) ∧ (ch_ok u.2.2.2 u.2.1 vd_stumbleCount)) (fun (u : Int32 × Int32 × (Nat → Int32) × (Nat → Int32)) t => ct_Q D (va_A (w_c_X11_mud cI cJ cB cZ cO qh qh_kept vh_laid qi qr qt qd vd_gap vd_odds vd_rain vd_lines qd_steps qd_lengths qd_starts qd_met qd_stumbles vd_stumbleCount qd_muds fd_muds qd_cells vd_cellCount qd_tunes vd_tuneCount qd_changes fd_changes vd_changeCount qd2 qf qf2 qo qe qw qu qg qn qs) sz) [oo qh qr qt qd qd2 qi qh_kept qf qf2 u.1 qo qe qw qu qg qn qs, dn qd vd_gap vd_odds vd_rain vd_lines qd_steps qd_lengths qd_starts qd_met qd_stumbles vd_stumbleCount qd_muds qd_cells vd_cellCount qd_tunes vd_tuneCount qd_changes u.2.1, (qd_muds, .inl (cI, 200, .inl (u.2.2.1))), (qd_changes, .inl (cI, 120, .inl (u.2.2.2)))] t) (va_A (w_c_X11_mud cI cJ cB cZ cO qh qh_kept vh_laid qi qr qt qd vd_gap vd_odds vd_rain vd_lines qd_steps qd_lengths qd_starts qd_met qd_stumbles vd_stumbleCount qd_muds fd_muds qd_cells vd_cellCount qd_tunes vd_tuneCount qd_changes fd_changes vd_changeCount qd2 qf qf2 qo qe qw qu qg qn qs) sz)) 0 0 (va_A (w_c_X11_mud cI cJ cB cZ cO qh qh_kept vh_laid qi qr qt qd vd_gap vd_odds vd_rain vd_lines qd_steps qd_lengths qd_starts qd_met qd_stumbles vd_stumbleCount qd_muds fd_muds qd_cells vd_cellCount qd_tunes vd_tuneCount qd_changes fd_changes vd_changeCount qd2 qf qf2 qo qe qw qu qg qn qs) sz) := by
  refine Met.ofW (cc := cX11_mud) (maxL := 4) (ret := (some .int)) (by decide) rfl ?_
  intro p e s m args below meth c s₁ B hml hv
  obtain ⟨rfl, hsz, hP, hE, hD0, hH⟩ := hv
  have hx := B.exec
  have hb := B.bytes
  have hr := B.returns
  have hts := atoms_spec (ws := wsX11_mud) B.pre
  have hown : s.vm.findClass RX11 = some m.cls := findClass_of_methodNamed B.named
  have hlocks := B.notSynchronized
  have hK := hE.1
  have hi0 : ∀ w ∈ u_ws RX0 TX0 17, w ∈ wsX11_mud := fun w h => List.mem_cons_of_mem _ (List.mem_append_right _ h)
  have hi11 : ∀ w ∈ u_ws RX11 TX11 16, w ∈ wsX11_mud := fun w h => List.mem_cons_of_mem _ (List.mem_append_left _ (List.mem_append_right _ h))
  subst hsz
  have hD := hD0.self (sz := s.heap.size)
  generalize hAe : va_A (w_c_X11_mud cI cJ cB cZ cO qh qh_kept vh_laid qi qr qt qd vd_gap vd_odds vd_rain vd_lines qd_steps qd_lengths qd_starts qd_met qd_stumbles vd_stumbleCount qd_muds fd_muds qd_cells vd_cellCount qd_tunes vd_tuneCount qd_changes fd_changes vd_changeCount qd2 qf qf2 qo qe qw qu qg qn qs) s.heap.size = A at hD hH ⊢
  have hA : ∀ q : Nat, s.heap.size ≤ q → A q := fun q h => by rw [← hAe]; exact Or.inr h
  have hS : va_S A s.heap s.heap [] := va_S.rf
  obtain ⟨hP, hD⟩ : ct_B D A s.heap [oo qh qr qt qd qd2 qi qh_kept qf qf2 vh_laid qo qe qw qu qg qn qs, dn qd vd_gap vd_odds vd_rain vd_lines qd_steps qd_lengths qd_starts qd_met qd_stumbles vd_stumbleCount qd_muds qd_cells vd_cellCount qd_tunes vd_tuneCount qd_changes vd_changeCount, (qd_muds, .inl (cI, 200, .inl (fd_muds))), (qd_changes, .inl (cI, 120, .inl (fd_changes)))] := ⟨hP, hD⟩
  have hl := lv_entry ([.ref qh, .int a1, .int a2]) (n := 4) (Nat.le_of_ble_eq_true rfl)
  rw [lg_entry_eq]
  generalize (lg_sl ([.ref qh, .int a1, .int a2]) ++ List.replicate (4 - (lg_sl ([.ref qh, .int a1, .int a2])).length) Slot.unset).toArray = ls at hl ⊢
  have hl : lv_has ls 4 [(0, .ref qh), (1, .int a1), (2, .int a2)] := hl
  obtain ⟨H, hHe⟩ : ∃ H : Heap, H = s.heap := ⟨_, rfl⟩
  rw [← hHe] at hP
  have hS : va_S A s.heap H [] := by rw [hHe]; exact va_S.rf
  refine ct_start hHe ?_
  refine lv_aload_n hx hb dX11_mud_0 rfl (lv_at hl 0 rfl) ?_
  refine va_get (D := D) (ci := 11) (v := .ref qd) (C := RX11) (T := TX11) (N := 16) hx hb hts hi11 hown hK hP 0 rfl rfl 2 (by decide) (hts (.fieldLink RX11 24 "OverHill" "now" "LOverHill$Dance;") (by decide +kernel)) (fun _ h9 => h9) rfl dX11_mud_1 ?_
  refine ct_calli (D := D) (wr := [oo qh qr qt qd qd2 qi qh_kept qf qf2 vh_laid qo qe qw qu qg qn qs, (qd_muds, .inl (cI, 200, .inl (fd_muds))), (qd_changes, .inl (cI, 120, .inl (fd_changes)))]) (va_runV (As := []) (rest := []) ⟨hx, hb, hml, hown, hts⟩ (c_X0_stands l D G cI cJ cB cZ cO qd vd_gap vd_odds vd_rain vd_lines qd_steps qd_lengths qd_starts qd_met qd_stumbles vd_stumbleCount qd_muds qd_cells vd_cellCount qd_tunes vd_tuneCount qd_changes vd_changeCount h_vd_gap h_vd_stumbleCount h_vd_cellCount h_vd_tuneCount h_vd_changeCount H.size) (cwV 0 hts gX11_mud_X0_stands rfl rfl rfl (by decide +kernel) ⟨Nat.le_of_ble_eq_true rfl, Nat.le_of_ble_eq_true rfl⟩) (ct_preV (T := ct_T cI cJ cB cZ cO) (ci := 0) (q0 := 1) hE hH hP hD hS hA [1] (by decide) rfl rfl rfl) rfl rfl hl.1 rfl (lv_room (Nat.le_of_ble_eq_true rfl)) dX11_mud_4 ⟨Nat.le_of_ble_eq_true rfl, Nat.le_of_ble_eq_true rfl⟩) hP hD hS hA [1] [0, 2, 3] rfl rfl (by decide) (by decide) (fun r1 u H locs hw hP hD hS => ?_)
  obtain ⟨hP, hD⟩ : ct_B D A H [oo qh qr qt qd qd2 qi qh_kept qf qf2 vh_laid qo qe qw qu qg qn qs, (qd_muds, .inl (cI, 200, .inl (fd_muds))), (qd_changes, .inl (cI, 120, .inl (fd_changes))), dn qd vd_gap vd_odds vd_rain vd_lines qd_steps qd_lengths qd_starts qd_met qd_stumbles vd_stumbleCount qd_muds qd_cells vd_cellCount qd_tunes vd_tuneCount qd_changes vd_changeCount] := ⟨hP, hD⟩
  have hz := hw
  rcases hz with ⟨hz, hz2⟩ | ⟨hz, hz2⟩
  · subst hz
    have hz_2 : (0 < vd_lines.toInt) := hz2
    refine lv_if_eq (tgt := 25) hx hb dX11_mud_7 (by decide) (fun hc => absurd hc (by decide)) (fun _ => ?_)
    refine lv_iload_n hx hb dX11_mud_10 rfl (lv_at hl 1 rfl) ?_
    refine ct_calli (D := D) (wr := [oo qh qr qt qd qd2 qi qh_kept qf qf2 vh_laid qo qe qw qu qg qn qs, (qd_muds, .inl (cI, 200, .inl (fd_muds))), (qd_changes, .inl (cI, 120, .inl (fd_changes))), dn qd vd_gap vd_odds vd_rain vd_lines qd_steps qd_lengths qd_starts qd_met qd_stumbles vd_stumbleCount qd_muds qd_cells vd_cellCount qd_tunes vd_tuneCount qd_changes vd_changeCount]) (va_runS (As := [.int a1]) (rest := []) ⟨hx, hb, hml, hown, hts⟩ (c_X11_isBeat l D G cI cJ cB cZ cO a1  H.size) (va_cwS 1 hts gX11_mud_X11_isBeat rfl rfl rfl (by decide +kernel) ⟨Nat.le_of_ble_eq_true rfl, Nat.le_of_ble_eq_true rfl⟩) (ct_preS (T := ct_T cI cJ cB cZ cO) hE hH hP hD hS hA [] (by decide) rfl) rfl rfl hl.1 rfl (lv_room (Nat.le_of_ble_eq_true rfl)) dX11_mud_11 ⟨Nat.le_of_ble_eq_true rfl, Nat.le_of_ble_eq_true rfl⟩) hP hD hS hA [] [0, 1, 2, 3] rfl rfl (by decide) (by decide) (fun r3 u H locs hw hP hD hS => ?_)
    obtain ⟨hP, hD⟩ : ct_B D A H [oo qh qr qt qd qd2 qi qh_kept qf qf2 vh_laid qo qe qw qu qg qn qs, (qd_muds, .inl (cI, 200, .inl (fd_muds))), (qd_changes, .inl (cI, 120, .inl (fd_changes))), dn qd vd_gap vd_odds vd_rain vd_lines qd_steps qd_lengths qd_starts qd_met qd_stumbles vd_stumbleCount qd_muds qd_cells vd_cellCount qd_tunes vd_tuneCount qd_changes vd_changeCount] := ⟨hP, hD⟩
    have hz := hw
    rcases hz with ⟨hz, hz2⟩ | ⟨hz, hz2⟩
    · subst hz
      have hz_4 : (0 ≤ a1.toInt ∧ a1.toInt < 200) := hz2
      refine lv_if_eq (tgt := 25) hx hb dX11_mud_14 (by decide) (fun hc => absurd hc (by decide)) (fun _ => ?_)
      refine lv_iload_n hx hb dX11_mud_17 rfl (lv_at hl 2 rfl) ?_
      refine lv_iconst (v := 2) hx hb dX11_mud_18 (by decide) ?_
      refine ct_calli (D := D) (wr := [oo qh qr qt qd qd2 qi qh_kept qf qf2 vh_laid qo qe qw qu qg qn qs, (qd_muds, .inl (cI, 200, .inl (fd_muds))), (qd_changes, .inl (cI, 120, .inl (fd_changes))), dn qd vd_gap vd_odds vd_rain vd_lines qd_steps qd_lengths qd_starts qd_met qd_stumbles vd_stumbleCount qd_muds qd_cells vd_cellCount qd_tunes vd_tuneCount qd_changes vd_changeCount]) (va_runS (As := [.int a2, .int 2]) (rest := []) ⟨hx, hb, hml, hown, hts⟩ (c_X11_isWithin l D G cI cJ cB cZ cO a2 2  H.size) (va_cwS 2 hts gX11_mud_X11_isWithin rfl rfl rfl (by decide +kernel) ⟨Nat.le_of_ble_eq_true rfl, Nat.le_of_ble_eq_true rfl⟩) (ct_preS (T := ct_T cI cJ cB cZ cO) hE hH hP hD hS hA [] (by decide) rfl) rfl rfl hl.1 rfl (lv_room (Nat.le_of_ble_eq_true rfl)) dX11_mud_19 ⟨Nat.le_of_ble_eq_true rfl, Nat.le_of_ble_eq_true rfl⟩) hP hD hS hA [] [0, 1, 2, 3] rfl rfl (by decide) (by decide) (fun r5 u H locs hw hP hD hS => ?_)
      obtain ⟨hP, hD⟩ : ct_B D A H [oo qh qr qt qd qd2 qi qh_kept qf qf2 vh_laid qo qe qw qu qg qn qs, (qd_muds, .inl (cI, 200, .inl (fd_muds))), (qd_changes, .inl (cI, 120, .inl (fd_changes))), dn qd vd_gap vd_odds vd_rain vd_lines qd_steps qd_lengths qd_starts qd_met qd_stumbles vd_stumbleCount qd_muds qd_cells vd_cellCount qd_tunes vd_tuneCount qd_changes vd_changeCount] := ⟨hP, hD⟩
      have hk6 : (2 : Int32).toInt = 2 := by decide
      have hz := hw
      rcases hz with ⟨hz, hz2⟩ | ⟨hz, hz2⟩
      · subst hz
        have hz_7 : (0 ≤ a2.toInt ∧ a2.toInt < (2 : Int32).toInt) := hz2
        refine lv_if_ne (tgt := 28) hx hb dX11_mud_22 (by decide) (fun _ => ?_) (fun hc => absurd hc (by decide))
        refine lv_aload_n hx hb dX11_mud_28 rfl (lv_at hl 0 rfl) ?_
        refine va_get (D := D) (ci := 11) (v := .ref qd) (C := RX11) (T := TX11) (N := 16) hx hb hts hi11 hown hK hP 0 rfl rfl 2 (by decide) (hts (.fieldLink RX11 24 "OverHill" "now" "LOverHill$Dance;") (by decide +kernel)) (fun _ h9 => h9) rfl dX11_mud_29 ?_
        refine va_get (D := D) (ci := 0) (v := .int vd_changeCount) (C := RX0) (T := TX0) (N := 17) hx hb hts hi0 hown hK hP 3 rfl rfl 16 (by decide) (hts (.fieldLink RX11 369 "OverHill$Dance" "changeCount" "I") (by decide +kernel)) (fun _ h9 => h9) rfl dX11_mud_32 ?_
        refine lv_bipush (v := 40) hx hb dX11_mud_35 (by decide) ?_
        refine lv_icmp_lt (tgt := 43) hx hb dX11_mud_37 (by decide) (fun hc => ?_) (fun hc => ?_)
        · have hq8 : vd_changeCount.toInt < 40 := tq_lt rfl (by decide) hc
          refine lv_aload_n hx hb dX11_mud_43 rfl (lv_at hl 0 rfl) ?_
          refine va_get (D := D) (ci := 11) (v := .ref qd) (C := RX11) (T := TX11) (N := 16) hx hb hts hi11 hown hK hP 0 rfl rfl 2 (by decide) (hts (.fieldLink RX11 24 "OverHill" "now" "LOverHill$Dance;") (by decide +kernel)) (fun _ h9 => h9) rfl dX11_mud_44 ?_
          refine va_get (D := D) (ci := 0) (v := .ref qd_muds) (C := RX0) (T := TX0) (N := 17) hx hb hts hi0 hown hK hP 3 rfl rfl 10 (by decide) (hts (.fieldLink RX11 159 "OverHill$Dance" "muds" "[I") (by decide +kernel)) (fun _ h9 => h9) rfl dX11_mud_47 ?_
          refine lv_iload_n hx hb dX11_mud_50 rfl (lv_at hl 1 rfl) ?_
          refine va_iald (D := D) hx hb hK hP 1 0 rfl rfl (tq_in rfl (by omega)) dX11_mud_51 ?_
          refine lv_topi (fun z9 ez9 => ?_)
          refine lv_istore_n (lv' := [(3, .int z9), (0, .ref qh), (1, .int a1), (2, .int a2)]) hx hb dX11_mud_52 rfl hl (by decide) rfl (fun ls hl => ?_)
          refine lv_aload_n hx hb dX11_mud_53 rfl (lv_at hl 1 rfl) ?_
          refine va_get (D := D) (ci := 11) (v := .ref qd) (C := RX11) (T := TX11) (N := 16) hx hb hts hi11 hown hK hP 0 rfl rfl 2 (by decide) (hts (.fieldLink RX11 24 "OverHill" "now" "LOverHill$Dance;") (by decide +kernel)) (fun _ h9 => h9) rfl dX11_mud_54 ?_
          refine lv_iconst (v := 1) hx hb dX11_mud_57 (by decide) ?_
          refine lv_iload_n hx hb dX11_mud_58 rfl (lv_at hl 2 rfl) ?_
          refine lv_iload_n hx hb dX11_mud_59 rfl (lv_at hl 0 rfl) ?_
          refine ct_callv (D := D) (wr := [oo qh qr qt qd qd2 qi qh_kept qf qf2 vh_laid qo qe qw qu qg qn qs, (qd_muds, .inl (cI, 200, .inl (fd_muds)))]) (va_runV (As := [.int 1, .int a1, .int z9]) (rest := []) ⟨hx, hb, hml, hown, hts⟩ (c_X0_keepChange l D G cI cJ cB cZ cO qd vd_gap vd_odds vd_rain vd_lines qd_steps qd_lengths qd_starts qd_met qd_stumbles vd_stumbleCount qd_muds qd_cells vd_cellCount qd_tunes vd_tuneCount qd_changes fd_changes vd_changeCount 1 a1 z9 h_vd_gap h_vd_stumbleCount h_vd_cellCount h_vd_tuneCount h_vd_changeCount h_chd (by omega) (by have := (show Int32.toInt (1) = 1 by decide); omega) H.size) (cwV 3 hts gX11_mud_X0_keepChange rfl rfl rfl (by decide +kernel) ⟨Nat.le_of_ble_eq_true rfl, Nat.le_of_ble_eq_true rfl⟩) (ct_preV (T := ct_T cI cJ cB cZ cO) (ci := 0) (q0 := 3) hE hH hP hD hS hA [3, 2] (by decide) rfl rfl rfl) rfl rfl hl.1 rfl (lv_room (Nat.le_of_ble_eq_true rfl)) dX11_mud_60 ⟨Nat.le_of_ble_eq_true rfl, Nat.le_of_ble_eq_true rfl⟩) hP hD hS hA [3, 2] [0, 1] rfl rfl (by decide) (by decide) (fun u H locs hw hP hD hS => ?_)
          obtain ⟨y10, g11⟩ := u
          obtain ⟨hP, hD⟩ : ct_B D A H [oo qh qr qt qd qd2 qi qh_kept qf qf2 vh_laid qo qe qw qu qg qn qs, (qd_muds, .inl (cI, 200, .inl (fd_muds))), dn qd vd_gap vd_odds vd_rain vd_lines qd_steps qd_lengths qd_starts qd_met qd_stumbles vd_stumbleCount qd_muds qd_cells vd_cellCount qd_tunes vd_tuneCount qd_changes y10, (qd_changes, .inl (cI, 120, .inl (g11)))] := ⟨hP, hD⟩
          have hk12 : (1 : Int32).toInt = 1 := by decide
          obtain ⟨hp0, hp1⟩ := hw
          have h_y10 : 0 ≤ y10.toInt ∧ y10.toInt ≤ 40 := hp0
          have hp_13 : ∀ x : Int32, (if (1 : Int32).toInt = 0 then vd_stumbleCount.toInt + 1 else vd_stumbleCount.toInt) ≤ x.toInt → ch_ok g11 y10 x := hp1
          refine lv_aload_n hx hb dX11_mud_63 rfl (lv_at hl 1 rfl) ?_
          refine va_get (D := D) (ci := 11) (v := .ref qd) (C := RX11) (T := TX11) (N := 16) hx hb hts hi11 hown hK hP 0 rfl rfl 2 (by decide) (hts (.fieldLink RX11 24 "OverHill" "now" "LOverHill$Dance;") (by decide +kernel)) (fun _ h9 => h9) rfl dX11_mud_64 ?_
          refine va_get (D := D) (ci := 0) (v := .ref qd_muds) (C := RX0) (T := TX0) (N := 17) hx hb hts hi0 hown hK hP 2 rfl rfl 10 (by decide) (hts (.fieldLink RX11 159 "OverHill$Dance" "muds" "[I") (by decide +kernel)) (fun _ h9 => h9) rfl dX11_mud_67 ?_
          refine lv_iload_n hx hb dX11_mud_70 rfl (lv_at hl 2 rfl) ?_
          refine lv_iload_n hx hb dX11_mud_71 rfl (lv_at hl 3 rfl) ?_
          refine va_iast (D := D) hx hb hK hP hD hS 1 0 rfl rfl (tq_in rfl (by omega)) dX11_mud_72 (fun H locs hP hD hS => ?_)
          obtain ⟨g14, hP, hD⟩ : ∃ g14 : Nat → Int32, ct_B D A H [oo qh qr qt qd qd2 qi qh_kept qf qf2 vh_laid qo qe qw qu qg qn qs, (qd_muds, .inl (cI, 200, .inl (g14))), dn qd vd_gap vd_odds vd_rain vd_lines qd_steps qd_lengths qd_starts qd_met qd_stumbles vd_stumbleCount qd_muds qd_cells vd_cellCount qd_tunes vd_tuneCount qd_changes y10, (qd_changes, .inl (cI, 120, .inl (g11)))] := ⟨_, hP, hD⟩
          refine lv_aload_n hx hb dX11_mud_73 rfl (lv_at hl 1 rfl) ?_
          refine lv_iconst (v := 0) hx hb dX11_mud_74 (by decide) ?_
          refine va_put (D := D) (ci := 11) (v := .int 0) (ty := .boolean) (C := RX11) (T := TX11) (N := 16) hx hb hts hi11 tyX11 tyX11_ok nmX11 hown hK hP hD hS 0 rfl rfl 8 (by decide) (hts (.fieldLink RX11 49 "OverHill" "laid" "Z") (by decide +kernel)) (fun _ h9 => h9) rfl (by decide +kernel) rfl rfl (Nat.le_of_ble_eq_true rfl) dX11_mud_75 (fun H locs hP hD hS => ?_)
          obtain ⟨hP, hD⟩ : ct_B D A H [oo qh qr qt qd qd2 qi qh_kept qf qf2 0 qo qe qw qu qg qn qs, (qd_muds, .inl (cI, 200, .inl (g14))), dn qd vd_gap vd_odds vd_rain vd_lines qd_steps qd_lengths qd_starts qd_met qd_stumbles vd_stumbleCount qd_muds qd_cells vd_cellCount qd_tunes vd_tuneCount qd_changes y10, (qd_changes, .inl (cI, 120, .inl (g11)))] := ⟨hP, hD⟩
          refine lv_iload_n hx hb dX11_mud_78 rfl (lv_at hl 0 rfl) ?_
          have hk15 : (0 : Int32).toInt = 0 := by decide
          obtain ⟨hP9, hD9⟩ : ct_B D A H [oo qh qr qt qd qd2 qi qh_kept qf qf2 0 qo qe qw qu qg qn qs, dn qd vd_gap vd_odds vd_rain vd_lines qd_steps qd_lengths qd_starts qd_met qd_stumbles vd_stumbleCount qd_muds qd_cells vd_cellCount qd_tunes vd_tuneCount qd_changes y10, (qd_muds, .inl (cI, 200, .inl (g14))), (qd_changes, .inl (cI, 120, .inl (g11)))] := ⟨hP.sub [0, 2, 1, 3] rfl, hD.sub [0, 2, 1, 3] (by decide) rfl⟩
          exact W.iret (v := z9) hx hb hr (fun t ht hW => ⟨⟨z9, ((0 : Int32), y10, g14, g11), rfl, ⟨h_y10, (show ch_ok g11 y10 vd_stumbleCount by exact hp_13 _ (by rw [if_neg (by decide)]; omega))⟩, by rw [ht]; exact hP9, hD9⟩, hS.F ht⟩) hS.2.2 dX11_mud_79
        · have hq8 : 40 ≤ vd_changeCount.toInt := tq_nlt rfl (by decide) hc
          refine lv_bipush (v := (-5)) hx hb dX11_mud_40 (by decide) ?_
          obtain ⟨hP9, hD9⟩ : ct_B D A H [oo qh qr qt qd qd2 qi qh_kept qf qf2 vh_laid qo qe qw qu qg qn qs, dn qd vd_gap vd_odds vd_rain vd_lines qd_steps qd_lengths qd_starts qd_met qd_stumbles vd_stumbleCount qd_muds qd_cells vd_cellCount qd_tunes vd_tuneCount qd_changes vd_changeCount, (qd_muds, .inl (cI, 200, .inl (fd_muds))), (qd_changes, .inl (cI, 120, .inl (fd_changes)))] := ⟨hP.sub [0, 3, 1, 2] rfl, hD.sub [0, 3, 1, 2] (by decide) rfl⟩
          exact W.iret (v := (-5)) hx hb hr (fun t ht hW => ⟨⟨(-5), (vh_laid, vd_changeCount, fd_muds, fd_changes), rfl, ⟨h_vd_changeCount, (show ch_ok fd_changes vd_changeCount vd_stumbleCount by exact h_chd)⟩, by rw [ht]; exact hP9, hD9⟩, hS.F ht⟩) hS.2.2 dX11_mud_42
      · subst hz
        have hz_16 : ¬ (0 ≤ a2.toInt ∧ a2.toInt < (2 : Int32).toInt) := hz2
        refine lv_if_ne (tgt := 28) hx hb dX11_mud_22 (by decide) (fun hc => absurd hc (by decide)) (fun _ => ?_)
        refine lv_bipush (v := (-2)) hx hb dX11_mud_25 (by decide) ?_
        obtain ⟨hP9, hD9⟩ : ct_B D A H [oo qh qr qt qd qd2 qi qh_kept qf qf2 vh_laid qo qe qw qu qg qn qs, dn qd vd_gap vd_odds vd_rain vd_lines qd_steps qd_lengths qd_starts qd_met qd_stumbles vd_stumbleCount qd_muds qd_cells vd_cellCount qd_tunes vd_tuneCount qd_changes vd_changeCount, (qd_muds, .inl (cI, 200, .inl (fd_muds))), (qd_changes, .inl (cI, 120, .inl (fd_changes)))] := ⟨hP.sub [0, 3, 1, 2] rfl, hD.sub [0, 3, 1, 2] (by decide) rfl⟩
        exact W.iret (v := (-2)) hx hb hr (fun t ht hW => ⟨⟨(-2), (vh_laid, vd_changeCount, fd_muds, fd_changes), rfl, ⟨h_vd_changeCount, (show ch_ok fd_changes vd_changeCount vd_stumbleCount by exact h_chd)⟩, by rw [ht]; exact hP9, hD9⟩, hS.F ht⟩) hS.2.2 dX11_mud_27
    · subst hz
      have hz_17 : ¬ (0 ≤ a1.toInt ∧ a1.toInt < 200) := hz2
      refine lv_if_eq (tgt := 25) hx hb dX11_mud_14 (by decide) (fun _ => ?_) (fun hc => absurd hc (by decide))
      refine lv_bipush (v := (-2)) hx hb dX11_mud_25 (by decide) ?_
      obtain ⟨hP9, hD9⟩ : ct_B D A H [oo qh qr qt qd qd2 qi qh_kept qf qf2 vh_laid qo qe qw qu qg qn qs, dn qd vd_gap vd_odds vd_rain vd_lines qd_steps qd_lengths qd_starts qd_met qd_stumbles vd_stumbleCount qd_muds qd_cells vd_cellCount qd_tunes vd_tuneCount qd_changes vd_changeCount, (qd_muds, .inl (cI, 200, .inl (fd_muds))), (qd_changes, .inl (cI, 120, .inl (fd_changes)))] := ⟨hP.sub [0, 3, 1, 2] rfl, hD.sub [0, 3, 1, 2] (by decide) rfl⟩
      exact W.iret (v := (-2)) hx hb hr (fun t ht hW => ⟨⟨(-2), (vh_laid, vd_changeCount, fd_muds, fd_changes), rfl, ⟨h_vd_changeCount, (show ch_ok fd_changes vd_changeCount vd_stumbleCount by exact h_chd)⟩, by rw [ht]; exact hP9, hD9⟩, hS.F ht⟩) hS.2.2 dX11_mud_27
  · subst hz
    have hz_18 : ¬ (0 < vd_lines.toInt) := hz2
    refine lv_if_eq (tgt := 25) hx hb dX11_mud_7 (by decide) (fun _ => ?_) (fun hc => absurd hc (by decide))
    refine lv_bipush (v := (-2)) hx hb dX11_mud_25 (by decide) ?_
    obtain ⟨hP9, hD9⟩ : ct_B D A H [oo qh qr qt qd qd2 qi qh_kept qf qf2 vh_laid qo qe qw qu qg qn qs, dn qd vd_gap vd_odds vd_rain vd_lines qd_steps qd_lengths qd_starts qd_met qd_stumbles vd_stumbleCount qd_muds qd_cells vd_cellCount qd_tunes vd_tuneCount qd_changes vd_changeCount, (qd_muds, .inl (cI, 200, .inl (fd_muds))), (qd_changes, .inl (cI, 120, .inl (fd_changes)))] := ⟨hP.sub [0, 3, 1, 2] rfl, hD.sub [0, 3, 1, 2] (by decide) rfl⟩
    exact W.iret (v := (-2)) hx hb hr (fun t ht hW => ⟨⟨(-2), (vh_laid, vd_changeCount, fd_muds, fd_changes), rfl, ⟨h_vd_changeCount, (show ch_ok fd_changes vd_changeCount vd_stumbleCount by exact h_chd)⟩, by rw [ht]; exact hP9, hD9⟩, hS.F ht⟩) hS.2.2 dX11_mud_27
abbrev w_c_X11_teach (cI cJ cB cZ cO : ClassId) (qh : Nat) (qh_kept : Nat) (vh_laid : Int32) (qi : Nat) (qr : Nat) (qt : Nat) (qd : Nat) (vd_gap : Int32) (vd_odds : Int32) (vd_rain : Int32) (vd_lines : Int32) (qd_steps : Nat) (fd_steps : Nat → Int32) (qd_lengths : Nat) (fd_lengths : Nat → Int32) (qd_starts : Nat) (qd_met : Nat) (qd_stumbles : Nat) (vd_stumbleCount : Int32) (qd_muds : Nat) (qd_cells : Nat) (vd_cellCount : Int32) (qd_tunes : Nat) (vd_tuneCount : Int32) (qd_changes : Nat) (fd_changes : Nat → Int32) (vd_changeCount : Int32) (qd2 : Nat) (qf : Nat) (qf2 : Nat) (qo : Nat) (qe : Nat) (qw : Nat) (qu : Nat) (qg : Nat) (qn : Nat) (qs : Nat) : va_W := [oo qh qr qt qd qd2 qi qh_kept qf qf2 vh_laid qo qe qw qu qg qn qs, dn qd vd_gap vd_odds vd_rain vd_lines qd_steps qd_lengths qd_starts qd_met qd_stumbles vd_stumbleCount qd_muds qd_cells vd_cellCount qd_tunes vd_tuneCount qd_changes vd_changeCount, (qd_steps, .inl (cI, 24, .inl (fd_steps))), (qd_lengths, .inl (cI, 2, .inl (fd_lengths))), (qd_changes, .inl (cI, 120, .inl (fd_changes)))]
set_option maxHeartbeats 4000000 in
set_option maxRecDepth 100000 in
/-- X11 teach -/
theorem c_X11_teach (l : Launch) (D : va_G) (G : ct_G) (cI cJ cB cZ cO : ClassId) (qh : Nat) (qh_kept : Nat) (vh_laid : Int32) (qi : Nat) (qr : Nat) (qt : Nat) (qd : Nat) (vd_gap : Int32) (vd_odds : Int32) (vd_rain : Int32) (vd_lines : Int32) (qd_steps : Nat) (fd_steps : Nat → Int32) (qd_lengths : Nat) (fd_lengths : Nat → Int32) (qd_starts : Nat) (qd_met : Nat) (qd_stumbles : Nat) (vd_stumbleCount : Int32) (qd_muds : Nat) (qd_cells : Nat) (vd_cellCount : Int32) (qd_tunes : Nat) (vd_tuneCount : Int32) (qd_changes : Nat) (fd_changes : Nat → Int32) (vd_changeCount : Int32) (qd2 : Nat) (qf : Nat) (qf2 : Nat) (qo : Nat) (qe : Nat) (qw : Nat) (qu : Nat) (qg : Nat) (qn : Nat) (qs : Nat) (a1 : Int32) (a2 : Int32) (a3 : Int32) (h_vd_gap : 0 ≤ vd_gap.toInt ∧ vd_gap.toInt ≤ 20) (h_fd_steps : ar_ok [0] [5] fd_steps) (h_fd_lengths : ar_ok [0] [12] fd_lengths) (h_vd_stumbleCount : 0 ≤ vd_stumbleCount.toInt ∧ vd_stumbleCount.toInt ≤ 8) (h_vd_cellCount : 0 ≤ vd_cellCount.toInt ∧ vd_cellCount.toInt ≤ 12) (h_vd_tuneCount : 0 ≤ vd_tuneCount.toInt ∧ vd_tuneCount.toInt ≤ 5) (h_vd_changeCount : 0 ≤ vd_changeCount.toInt ∧ vd_changeCount.toInt ≤ 40) (h_chd : ch_ok fd_changes vd_changeCount vd_stumbleCount) (sz : Nat) : Met l yX11_teach wsX11_teach ({ frames := 2, cells := 0, slots := 0, locals := 43 }) (va_Pc [.ref qh, .int a1, .int a2, .int a3] (ct_P D (ct_T cI cJ cB cZ cO) G (w_c_X11_teach cI cJ cB cZ cO qh qh_kept vh_laid qi qr qt qd vd_gap vd_odds vd_rain vd_lines qd_steps fd_steps qd_lengths fd_lengths qd_starts qd_met qd_stumbles vd_stumbleCount qd_muds qd_cells vd_cellCount qd_tunes vd_tuneCount qd_changes fd_changes vd_changeCount qd2 qf qf2 qo qe qw qu qg qn qs) sz)) (va_Qi (fun (rz : Int32) (u : Int32 × Int32 × (Nat → Int32) × (Nat → Int32)) => ((-5) ≤ rz.toInt ∧ rz.toInt ≤ 5) ∧ (0 ≤ u.2.1.toInt ∧ u.2.1.toInt ≤ 40) ∧ (ar_ok [0] [5] u.2.2.1) ∧ (ch_ok u.2.2.2 u.2.1 vd_stumbleCount)) (fun (u : Int32 × Int32 × (Nat → Int32) × (Nat → Int32)) t => ct_Q D (va_A (w_c_X11_teach cI cJ cB cZ cO qh qh_kept vh_laid qi qr qt qd vd_gap vd_odds vd_rain vd_lines qd_steps fd_steps qd_lengths fd_lengths qd_starts qd_met qd_stumbles vd_stumbleCount qd_muds qd_cells vd_cellCount qd_tunes vd_tuneCount qd_changes fd_changes vd_changeCount qd2 qf qf2 qo qe qw qu qg qn qs) sz) [oo qh qr qt qd qd2 qi qh_kept qf qf2 u.1 qo qe qw qu qg qn qs, dn qd vd_gap vd_odds vd_rain vd_lines qd_steps qd_lengths qd_starts qd_met qd_stumbles vd_stumbleCount qd_muds qd_cells vd_cellCount qd_tunes vd_tuneCount qd_changes u.2.1, (qd_steps, .inl (cI, 24, .inl (u.2.2.1))), (qd_lengths, .inl (cI, 2, .inl (fd_lengths))), (qd_changes, .inl (cI, 120, .inl (u.2.2.2)))] t) (va_A (w_c_X11_teach cI cJ cB cZ cO qh qh_kept vh_laid qi qr qt qd vd_gap vd_odds vd_rain vd_lines qd_steps fd_steps qd_lengths fd_lengths qd_starts qd_met qd_stumbles vd_stumbleCount qd_muds qd_cells vd_cellCount qd_tunes vd_tuneCount qd_changes fd_changes vd_changeCount qd2 qf qf2 qo qe qw qu qg qn qs) sz)) 0 0 (va_A (w_c_X11_teach cI cJ cB cZ cO qh qh_kept vh_laid qi qr qt qd vd_gap vd_odds vd_rain vd_lines qd_steps fd_steps qd_lengths fd_lengths qd_starts qd_met qd_stumbles vd_stumbleCount qd_muds qd_cells vd_cellCount qd_tunes vd_tuneCount qd_changes fd_changes vd_changeCount qd2 qf qf2 qo qe qw qu qg qn qs) sz) := by
  refine Met.ofW (cc := cX11_teach) (maxL := 6) (ret := (some .int)) (by decide) rfl ?_
  intro p e s m args below meth c s₁ B hml hv
  obtain ⟨rfl, hsz, hP, hE, hD0, hH⟩ := hv
  have hx := B.exec
  have hb := B.bytes
  have hr := B.returns
  have hts := atoms_spec (ws := wsX11_teach) B.pre
  have hown : s.vm.findClass RX11 = some m.cls := findClass_of_methodNamed B.named
  have hlocks := B.notSynchronized
  have hK := hE.1
  have hi0 : ∀ w ∈ u_ws RX0 TX0 17, w ∈ wsX11_teach := fun w h => List.mem_cons_of_mem _ (List.mem_append_right _ h)
  have hi11 : ∀ w ∈ u_ws RX11 TX11 16, w ∈ wsX11_teach := fun w h => List.mem_cons_of_mem _ (List.mem_append_left _ (List.mem_append_right _ h))
  subst hsz
  have hD := hD0.self (sz := s.heap.size)
  generalize hAe : va_A (w_c_X11_teach cI cJ cB cZ cO qh qh_kept vh_laid qi qr qt qd vd_gap vd_odds vd_rain vd_lines qd_steps fd_steps qd_lengths fd_lengths qd_starts qd_met qd_stumbles vd_stumbleCount qd_muds qd_cells vd_cellCount qd_tunes vd_tuneCount qd_changes fd_changes vd_changeCount qd2 qf qf2 qo qe qw qu qg qn qs) s.heap.size = A at hD hH ⊢
  have hA : ∀ q : Nat, s.heap.size ≤ q → A q := fun q h => by rw [← hAe]; exact Or.inr h
  have hS : va_S A s.heap s.heap [] := va_S.rf
  obtain ⟨hP, hD⟩ : ct_B D A s.heap [oo qh qr qt qd qd2 qi qh_kept qf qf2 vh_laid qo qe qw qu qg qn qs, dn qd vd_gap vd_odds vd_rain vd_lines qd_steps qd_lengths qd_starts qd_met qd_stumbles vd_stumbleCount qd_muds qd_cells vd_cellCount qd_tunes vd_tuneCount qd_changes vd_changeCount, (qd_steps, .inl (cI, 24, .inl (fd_steps))), (qd_lengths, .inl (cI, 2, .inl (fd_lengths))), (qd_changes, .inl (cI, 120, .inl (fd_changes)))] := ⟨hP, hD⟩
  have hl := lv_entry ([.ref qh, .int a1, .int a2, .int a3]) (n := 6) (Nat.le_of_ble_eq_true rfl)
  rw [lg_entry_eq]
  generalize (lg_sl ([.ref qh, .int a1, .int a2, .int a3]) ++ List.replicate (6 - (lg_sl ([.ref qh, .int a1, .int a2, .int a3])).length) Slot.unset).toArray = ls at hl ⊢
  have hl : lv_has ls 6 [(0, .ref qh), (1, .int a1), (2, .int a2), (3, .int a3)] := hl
  obtain ⟨H, hHe⟩ : ∃ H : Heap, H = s.heap := ⟨_, rfl⟩
  rw [← hHe] at hP
  have hS : va_S A s.heap H [] := by rw [hHe]; exact va_S.rf
  refine ct_start hHe ?_
  refine lv_aload_n hx hb dX11_teach_0 rfl (lv_at hl 0 rfl) ?_
  refine va_get (D := D) (ci := 11) (v := .ref qd) (C := RX11) (T := TX11) (N := 16) hx hb hts hi11 hown hK hP 0 rfl rfl 2 (by decide) (hts (.fieldLink RX11 24 "OverHill" "now" "LOverHill$Dance;") (by decide +kernel)) (fun _ h9 => h9) rfl dX11_teach_1 ?_
  refine ct_calli (D := D) (wr := [oo qh qr qt qd qd2 qi qh_kept qf qf2 vh_laid qo qe qw qu qg qn qs, (qd_steps, .inl (cI, 24, .inl (fd_steps))), (qd_lengths, .inl (cI, 2, .inl (fd_lengths))), (qd_changes, .inl (cI, 120, .inl (fd_changes)))]) (va_runV (As := []) (rest := []) ⟨hx, hb, hml, hown, hts⟩ (c_X0_stands l D G cI cJ cB cZ cO qd vd_gap vd_odds vd_rain vd_lines qd_steps qd_lengths qd_starts qd_met qd_stumbles vd_stumbleCount qd_muds qd_cells vd_cellCount qd_tunes vd_tuneCount qd_changes vd_changeCount h_vd_gap h_vd_stumbleCount h_vd_cellCount h_vd_tuneCount h_vd_changeCount H.size) (cwV 0 hts gX11_teach_X0_stands rfl rfl rfl (by decide +kernel) ⟨Nat.le_of_ble_eq_true rfl, Nat.le_of_ble_eq_true rfl⟩) (ct_preV (T := ct_T cI cJ cB cZ cO) (ci := 0) (q0 := 1) hE hH hP hD hS hA [1] (by decide) rfl rfl rfl) rfl rfl hl.1 rfl (lv_room (Nat.le_of_ble_eq_true rfl)) dX11_teach_4 ⟨Nat.le_of_ble_eq_true rfl, Nat.le_of_ble_eq_true rfl⟩) hP hD hS hA [1] [0, 2, 3, 4] rfl rfl (by decide) (by decide) (fun r1 u H locs hw hP hD hS => ?_)
  obtain ⟨hP, hD⟩ : ct_B D A H [oo qh qr qt qd qd2 qi qh_kept qf qf2 vh_laid qo qe qw qu qg qn qs, (qd_steps, .inl (cI, 24, .inl (fd_steps))), (qd_lengths, .inl (cI, 2, .inl (fd_lengths))), (qd_changes, .inl (cI, 120, .inl (fd_changes))), dn qd vd_gap vd_odds vd_rain vd_lines qd_steps qd_lengths qd_starts qd_met qd_stumbles vd_stumbleCount qd_muds qd_cells vd_cellCount qd_tunes vd_tuneCount qd_changes vd_changeCount] := ⟨hP, hD⟩
  have hz := hw
  rcases hz with ⟨hz, hz2⟩ | ⟨hz, hz2⟩
  · subst hz
    have hz_2 : (0 < vd_lines.toInt) := hz2
    refine lv_if_eq (tgt := 36) hx hb dX11_teach_7 (by decide) (fun hc => absurd hc (by decide)) (fun _ => ?_)
    refine lv_iload_n hx hb dX11_teach_10 rfl (lv_at hl 1 rfl) ?_
    refine ct_calli (D := D) (wr := [oo qh qr qt qd qd2 qi qh_kept qf qf2 vh_laid qo qe qw qu qg qn qs, (qd_steps, .inl (cI, 24, .inl (fd_steps))), (qd_lengths, .inl (cI, 2, .inl (fd_lengths))), (qd_changes, .inl (cI, 120, .inl (fd_changes))), dn qd vd_gap vd_odds vd_rain vd_lines qd_steps qd_lengths qd_starts qd_met qd_stumbles vd_stumbleCount qd_muds qd_cells vd_cellCount qd_tunes vd_tuneCount qd_changes vd_changeCount]) (va_runS (As := [.int a1]) (rest := []) ⟨hx, hb, hml, hown, hts⟩ (c_X11_isSide l D G cI cJ cB cZ cO a1  H.size) (va_cwS 1 hts gX11_teach_X11_isSide rfl rfl rfl (by decide +kernel) ⟨Nat.le_of_ble_eq_true rfl, Nat.le_of_ble_eq_true rfl⟩) (ct_preS (T := ct_T cI cJ cB cZ cO) hE hH hP hD hS hA [] (by decide) rfl) rfl rfl hl.1 rfl (lv_room (Nat.le_of_ble_eq_true rfl)) dX11_teach_11 ⟨Nat.le_of_ble_eq_true rfl, Nat.le_of_ble_eq_true rfl⟩) hP hD hS hA [] [0, 1, 2, 3, 4] rfl rfl (by decide) (by decide) (fun r3 u H locs hw hP hD hS => ?_)
    obtain ⟨hP, hD⟩ : ct_B D A H [oo qh qr qt qd qd2 qi qh_kept qf qf2 vh_laid qo qe qw qu qg qn qs, (qd_steps, .inl (cI, 24, .inl (fd_steps))), (qd_lengths, .inl (cI, 2, .inl (fd_lengths))), (qd_changes, .inl (cI, 120, .inl (fd_changes))), dn qd vd_gap vd_odds vd_rain vd_lines qd_steps qd_lengths qd_starts qd_met qd_stumbles vd_stumbleCount qd_muds qd_cells vd_cellCount qd_tunes vd_tuneCount qd_changes vd_changeCount] := ⟨hP, hD⟩
    have hz := hw
    rcases hz with ⟨hz, hz2⟩ | ⟨hz, hz2⟩
    · subst hz
      have hz_4 : (0 ≤ a1.toInt ∧ a1.toInt < 2) := hz2
      refine lv_if_eq (tgt := 36) hx hb dX11_teach_14 (by decide) (fun hc => absurd hc (by decide)) (fun _ => ?_)
      refine lv_aload_n hx hb dX11_teach_17 rfl (lv_at hl 0 rfl) ?_
      refine va_get (D := D) (ci := 11) (v := .ref qd) (C := RX11) (T := TX11) (N := 16) hx hb hts hi11 hown hK hP 0 rfl rfl 2 (by decide) (hts (.fieldLink RX11 24 "OverHill" "now" "LOverHill$Dance;") (by decide +kernel)) (fun _ h9 => h9) rfl dX11_teach_18 ?_
      refine lv_iload_n hx hb dX11_teach_21 rfl (lv_at hl 1 rfl) ?_
      refine lv_iload_n hx hb dX11_teach_22 rfl (lv_at hl 2 rfl) ?_
      refine ct_calli (D := D) (wr := [oo qh qr qt qd qd2 qi qh_kept qf qf2 vh_laid qo qe qw qu qg qn qs, (qd_steps, .inl (cI, 24, .inl (fd_steps))), (qd_changes, .inl (cI, 120, .inl (fd_changes)))]) (va_runV (As := [.int a1, .int a2]) (rest := []) ⟨hx, hb, hml, hown, hts⟩ (c_X0_hasPlace l D G cI cJ cB cZ cO qd vd_gap vd_odds vd_rain vd_lines qd_steps qd_lengths fd_lengths qd_starts qd_met qd_stumbles vd_stumbleCount qd_muds qd_cells vd_cellCount qd_tunes vd_tuneCount qd_changes vd_changeCount a1 a2 h_vd_gap h_fd_lengths h_vd_stumbleCount h_vd_cellCount h_vd_tuneCount h_vd_changeCount (by omega) H.size) (cwV 2 hts gX11_teach_X0_hasPlace rfl rfl rfl (by decide +kernel) ⟨Nat.le_of_ble_eq_true rfl, Nat.le_of_ble_eq_true rfl⟩) (ct_preV (T := ct_T cI cJ cB cZ cO) (ci := 0) (q0 := 4) hE hH hP hD hS hA [4, 2] (by decide) rfl rfl rfl) rfl rfl hl.1 rfl (lv_room (Nat.le_of_ble_eq_true rfl)) dX11_teach_23 ⟨Nat.le_of_ble_eq_true rfl, Nat.le_of_ble_eq_true rfl⟩) hP hD hS hA [4, 2] [0, 1, 3] rfl rfl (by decide) (by decide) (fun r5 u H locs hw hP hD hS => ?_)
      obtain ⟨hP, hD⟩ : ct_B D A H [oo qh qr qt qd qd2 qi qh_kept qf qf2 vh_laid qo qe qw qu qg qn qs, (qd_steps, .inl (cI, 24, .inl (fd_steps))), (qd_changes, .inl (cI, 120, .inl (fd_changes))), dn qd vd_gap vd_odds vd_rain vd_lines qd_steps qd_lengths qd_starts qd_met qd_stumbles vd_stumbleCount qd_muds qd_cells vd_cellCount qd_tunes vd_tuneCount qd_changes vd_changeCount, (qd_lengths, .inl (cI, 2, .inl (fd_lengths)))] := ⟨hP, hD⟩
      have hz := hw
      rcases hz with ⟨hz, hz2⟩ | ⟨hz, hz2⟩
      · subst hz
        have hz_6 : (0 ≤ a2.toInt ∧ a2.toInt < 12) := hz2
        refine lv_if_eq (tgt := 36) hx hb dX11_teach_26 (by decide) (fun hc => absurd hc (by decide)) (fun _ => ?_)
        refine lv_iload_n hx hb dX11_teach_29 rfl (lv_at hl 3 rfl) ?_
        refine ct_calli (D := D) (wr := [oo qh qr qt qd qd2 qi qh_kept qf qf2 vh_laid qo qe qw qu qg qn qs, (qd_steps, .inl (cI, 24, .inl (fd_steps))), (qd_changes, .inl (cI, 120, .inl (fd_changes))), dn qd vd_gap vd_odds vd_rain vd_lines qd_steps qd_lengths qd_starts qd_met qd_stumbles vd_stumbleCount qd_muds qd_cells vd_cellCount qd_tunes vd_tuneCount qd_changes vd_changeCount, (qd_lengths, .inl (cI, 2, .inl (fd_lengths)))]) (va_runS (As := [.int a3]) (rest := []) ⟨hx, hb, hml, hown, hts⟩ (c_X11_isStep l D G cI cJ cB cZ cO a3  H.size) (va_cwS 1 hts gX11_teach_X11_isStep rfl rfl rfl (by decide +kernel) ⟨Nat.le_of_ble_eq_true rfl, Nat.le_of_ble_eq_true rfl⟩) (ct_preS (T := ct_T cI cJ cB cZ cO) hE hH hP hD hS hA [] (by decide) rfl) rfl rfl hl.1 rfl (lv_room (Nat.le_of_ble_eq_true rfl)) dX11_teach_30 ⟨Nat.le_of_ble_eq_true rfl, Nat.le_of_ble_eq_true rfl⟩) hP hD hS hA [] [0, 1, 2, 3, 4] rfl rfl (by decide) (by decide) (fun r7 u H locs hw hP hD hS => ?_)
        obtain ⟨hP, hD⟩ : ct_B D A H [oo qh qr qt qd qd2 qi qh_kept qf qf2 vh_laid qo qe qw qu qg qn qs, (qd_steps, .inl (cI, 24, .inl (fd_steps))), (qd_changes, .inl (cI, 120, .inl (fd_changes))), dn qd vd_gap vd_odds vd_rain vd_lines qd_steps qd_lengths qd_starts qd_met qd_stumbles vd_stumbleCount qd_muds qd_cells vd_cellCount qd_tunes vd_tuneCount qd_changes vd_changeCount, (qd_lengths, .inl (cI, 2, .inl (fd_lengths)))] := ⟨hP, hD⟩
        have hz := hw
        rcases hz with ⟨hz, hz2⟩ | ⟨hz, hz2⟩
        · subst hz
          have hz_8 : (0 ≤ a3.toInt ∧ a3.toInt < 6) := hz2
          refine lv_if_ne (tgt := 39) hx hb dX11_teach_33 (by decide) (fun _ => ?_) (fun hc => absurd hc (by decide))
          refine lv_aload_n hx hb dX11_teach_39 rfl (lv_at hl 0 rfl) ?_
          refine va_get (D := D) (ci := 11) (v := .ref qd) (C := RX11) (T := TX11) (N := 16) hx hb hts hi11 hown hK hP 0 rfl rfl 2 (by decide) (hts (.fieldLink RX11 24 "OverHill" "now" "LOverHill$Dance;") (by decide +kernel)) (fun _ h9 => h9) rfl dX11_teach_40 ?_
          refine va_get (D := D) (ci := 0) (v := .int vd_changeCount) (C := RX0) (T := TX0) (N := 17) hx hb hts hi0 hown hK hP 3 rfl rfl 16 (by decide) (hts (.fieldLink RX11 369 "OverHill$Dance" "changeCount" "I") (by decide +kernel)) (fun _ h9 => h9) rfl dX11_teach_43 ?_
          refine lv_bipush (v := 40) hx hb dX11_teach_46 (by decide) ?_
          refine lv_icmp_lt (tgt := 54) hx hb dX11_teach_48 (by decide) (fun hc => ?_) (fun hc => ?_)
          · have hq9 : vd_changeCount.toInt < 40 := tq_lt rfl (by decide) hc
            refine lv_iload_n hx hb dX11_teach_54 rfl (lv_at hl 1 rfl) ?_
            refine lv_bipush (v := 12) hx hb dX11_teach_55 (by decide) ?_
            refine lv_imul hx hb dX11_teach_57 ?_
            refine lv_topi (fun z10 ez10 => ?_)
            have fz10 : z10.toInt = a1.toInt * 12 := by rw [ez10]; exact tq_mul rfl (by decide) (by omega)
            refine lv_iload_n hx hb dX11_teach_58 rfl (lv_at hl 2 rfl) ?_
            refine lv_iadd hx hb dX11_teach_59 ?_
            refine lv_topi (fun z11 ez11 => ?_)
            have fz11 : z11.toInt = z10.toInt + a2.toInt := by rw [ez11]; exact tq_add rfl rfl (by omega)
            refine lv_istore (lv' := [(4, .int z11), (0, .ref qh), (1, .int a1), (2, .int a2), (3, .int a3)]) hx hb dX11_teach_60 hl (by decide) rfl (fun ls hl => ?_)
            refine lv_aload_n hx hb dX11_teach_62 rfl (lv_at hl 1 rfl) ?_
            refine va_get (D := D) (ci := 11) (v := .ref qd) (C := RX11) (T := TX11) (N := 16) hx hb hts hi11 hown hK hP 0 rfl rfl 2 (by decide) (hts (.fieldLink RX11 24 "OverHill" "now" "LOverHill$Dance;") (by decide +kernel)) (fun _ h9 => h9) rfl dX11_teach_63 ?_
            refine va_get (D := D) (ci := 0) (v := .ref qd_steps) (C := RX0) (T := TX0) (N := 17) hx hb hts hi0 hown hK hP 3 rfl rfl 4 (by decide) (hts (.fieldLink RX11 383 "OverHill$Dance" "steps" "[I") (by decide +kernel)) (fun _ h9 => h9) rfl dX11_teach_66 ?_
            refine lv_iload hx hb dX11_teach_69 (lv_at hl 0 rfl) ?_
            refine va_iald (D := D) hx hb hK hP 1 0 rfl rfl (tq_in rfl (by omega)) dX11_teach_71 ?_
            refine lv_topi (fun z12 ez12 => ?_)
            have fz12 : 0 ≤ z12.toInt ∧ z12.toInt ≤ 5 := by rw [ez12]; exact ar_get h_fd_steps z11 0 (by omega) (show z11.toInt % 1 = 0 by omega) rfl
            refine lv_istore (lv' := [(5, .int z12), (4, .int z11), (0, .ref qh), (1, .int a1), (2, .int a2), (3, .int a3)]) hx hb dX11_teach_72 hl (by decide) rfl (fun ls hl => ?_)
            refine lv_aload_n hx hb dX11_teach_74 rfl (lv_at hl 2 rfl) ?_
            refine va_get (D := D) (ci := 11) (v := .ref qd) (C := RX11) (T := TX11) (N := 16) hx hb hts hi11 hown hK hP 0 rfl rfl 2 (by decide) (hts (.fieldLink RX11 24 "OverHill" "now" "LOverHill$Dance;") (by decide +kernel)) (fun _ h9 => h9) rfl dX11_teach_75 ?_
            refine lv_iconst (v := 2) hx hb dX11_teach_78 (by decide) ?_
            refine lv_iload hx hb dX11_teach_79 (lv_at hl 1 rfl) ?_
            refine lv_iload hx hb dX11_teach_81 (lv_at hl 0 rfl) ?_
            refine ct_callv (D := D) (wr := [oo qh qr qt qd qd2 qi qh_kept qf qf2 vh_laid qo qe qw qu qg qn qs, (qd_steps, .inl (cI, 24, .inl (fd_steps))), (qd_lengths, .inl (cI, 2, .inl (fd_lengths)))]) (va_runV (As := [.int 2, .int z11, .int z12]) (rest := []) ⟨hx, hb, hml, hown, hts⟩ (c_X0_keepChange l D G cI cJ cB cZ cO qd vd_gap vd_odds vd_rain vd_lines qd_steps qd_lengths qd_starts qd_met qd_stumbles vd_stumbleCount qd_muds qd_cells vd_cellCount qd_tunes vd_tuneCount qd_changes fd_changes vd_changeCount 2 z11 z12 h_vd_gap h_vd_stumbleCount h_vd_cellCount h_vd_tuneCount h_vd_changeCount h_chd (by omega) (by have := (show Int32.toInt (2) = 2 by decide); omega) H.size) (cwV 3 hts gX11_teach_X0_keepChange rfl rfl rfl (by decide +kernel) ⟨Nat.le_of_ble_eq_true rfl, Nat.le_of_ble_eq_true rfl⟩) (ct_preV (T := ct_T cI cJ cB cZ cO) (ci := 0) (q0 := 3) hE hH hP hD hS hA [3, 2] (by decide) rfl rfl rfl) rfl rfl hl.1 rfl (lv_room (Nat.le_of_ble_eq_true rfl)) dX11_teach_83 ⟨Nat.le_of_ble_eq_true rfl, Nat.le_of_ble_eq_true rfl⟩) hP hD hS hA [3, 2] [0, 1, 4] rfl rfl (by decide) (by decide) (fun u H locs hw hP hD hS => ?_)
            obtain ⟨y13, g14⟩ := u
            obtain ⟨hP, hD⟩ : ct_B D A H [oo qh qr qt qd qd2 qi qh_kept qf qf2 vh_laid qo qe qw qu qg qn qs, (qd_steps, .inl (cI, 24, .inl (fd_steps))), (qd_lengths, .inl (cI, 2, .inl (fd_lengths))), dn qd vd_gap vd_odds vd_rain vd_lines qd_steps qd_lengths qd_starts qd_met qd_stumbles vd_stumbleCount qd_muds qd_cells vd_cellCount qd_tunes vd_tuneCount qd_changes y13, (qd_changes, .inl (cI, 120, .inl (g14)))] := ⟨hP, hD⟩
            have hk15 : (2 : Int32).toInt = 2 := by decide
            obtain ⟨hp0, hp1⟩ := hw
            have h_y13 : 0 ≤ y13.toInt ∧ y13.toInt ≤ 40 := hp0
            have hp_16 : ∀ x : Int32, (if (2 : Int32).toInt = 0 then vd_stumbleCount.toInt + 1 else vd_stumbleCount.toInt) ≤ x.toInt → ch_ok g14 y13 x := hp1
            refine lv_aload_n hx hb dX11_teach_86 rfl (lv_at hl 2 rfl) ?_
            refine va_get (D := D) (ci := 11) (v := .ref qd) (C := RX11) (T := TX11) (N := 16) hx hb hts hi11 hown hK hP 0 rfl rfl 2 (by decide) (hts (.fieldLink RX11 24 "OverHill" "now" "LOverHill$Dance;") (by decide +kernel)) (fun _ h9 => h9) rfl dX11_teach_87 ?_
            refine va_get (D := D) (ci := 0) (v := .ref qd_steps) (C := RX0) (T := TX0) (N := 17) hx hb hts hi0 hown hK hP 3 rfl rfl 4 (by decide) (hts (.fieldLink RX11 383 "OverHill$Dance" "steps" "[I") (by decide +kernel)) (fun _ h9 => h9) rfl dX11_teach_90 ?_
            refine lv_iload hx hb dX11_teach_93 (lv_at hl 1 rfl) ?_
            refine lv_iload_n hx hb dX11_teach_95 rfl (lv_at hl 5 rfl) ?_
            refine va_iast (D := D) hx hb hK hP hD hS 1 0 rfl rfl (tq_in rfl (by omega)) dX11_teach_96 (fun H locs hP hD hS => ?_)
            obtain ⟨g17, h_g17, hP, hD⟩ : ∃ g17 : Nat → Int32, ar_ok [0] [5] g17 ∧ ct_B D A H [oo qh qr qt qd qd2 qi qh_kept qf qf2 vh_laid qo qe qw qu qg qn qs, (qd_steps, .inl (cI, 24, .inl (g17))), (qd_lengths, .inl (cI, 2, .inl (fd_lengths))), dn qd vd_gap vd_odds vd_rain vd_lines qd_steps qd_lengths qd_starts qd_met qd_stumbles vd_stumbleCount qd_muds qd_cells vd_cellCount qd_tunes vd_tuneCount qd_changes y13, (qd_changes, .inl (cI, 120, .inl (g14)))] := ⟨_, ar_set h_fd_steps z11 a3 0 (by omega) (show z11.toInt % 1 = 0 by omega) rfl (show 0 ≤ a3.toInt ∧ a3.toInt ≤ 5 by omega), hP, hD⟩
            refine lv_aload_n hx hb dX11_teach_97 rfl (lv_at hl 2 rfl) ?_
            refine lv_iconst (v := 0) hx hb dX11_teach_98 (by decide) ?_
            refine va_put (D := D) (ci := 11) (v := .int 0) (ty := .boolean) (C := RX11) (T := TX11) (N := 16) hx hb hts hi11 tyX11 tyX11_ok nmX11 hown hK hP hD hS 0 rfl rfl 8 (by decide) (hts (.fieldLink RX11 49 "OverHill" "laid" "Z") (by decide +kernel)) (fun _ h9 => h9) rfl (by decide +kernel) rfl rfl (Nat.le_of_ble_eq_true rfl) dX11_teach_99 (fun H locs hP hD hS => ?_)
            obtain ⟨hP, hD⟩ : ct_B D A H [oo qh qr qt qd qd2 qi qh_kept qf qf2 0 qo qe qw qu qg qn qs, (qd_steps, .inl (cI, 24, .inl (g17))), (qd_lengths, .inl (cI, 2, .inl (fd_lengths))), dn qd vd_gap vd_odds vd_rain vd_lines qd_steps qd_lengths qd_starts qd_met qd_stumbles vd_stumbleCount qd_muds qd_cells vd_cellCount qd_tunes vd_tuneCount qd_changes y13, (qd_changes, .inl (cI, 120, .inl (g14)))] := ⟨hP, hD⟩
            refine lv_iload hx hb dX11_teach_102 (lv_at hl 0 rfl) ?_
            have hk18 : (0 : Int32).toInt = 0 := by decide
            obtain ⟨hP9, hD9⟩ : ct_B D A H [oo qh qr qt qd qd2 qi qh_kept qf qf2 0 qo qe qw qu qg qn qs, dn qd vd_gap vd_odds vd_rain vd_lines qd_steps qd_lengths qd_starts qd_met qd_stumbles vd_stumbleCount qd_muds qd_cells vd_cellCount qd_tunes vd_tuneCount qd_changes y13, (qd_steps, .inl (cI, 24, .inl (g17))), (qd_lengths, .inl (cI, 2, .inl (fd_lengths))), (qd_changes, .inl (cI, 120, .inl (g14)))] := ⟨hP.sub [0, 3, 1, 2, 4] rfl, hD.sub [0, 3, 1, 2, 4] (by decide) rfl⟩
            exact W.iret (v := z12) hx hb hr (fun t ht hW => ⟨⟨z12, ((0 : Int32), y13, g17, g14), rfl, ⟨(show (-5) ≤ z12.toInt ∧ z12.toInt ≤ 5 by omega), h_y13, h_g17, (show ch_ok g14 y13 vd_stumbleCount by exact hp_16 _ (by rw [if_neg (by decide)]; omega))⟩, by rw [ht]; exact hP9, hD9⟩, hS.F ht⟩) hS.2.2 dX11_teach_104
          · have hq9 : 40 ≤ vd_changeCount.toInt := tq_nlt rfl (by decide) hc
            refine lv_bipush (v := (-5)) hx hb dX11_teach_51 (by decide) ?_
            obtain ⟨hP9, hD9⟩ : ct_B D A H [oo qh qr qt qd qd2 qi qh_kept qf qf2 vh_laid qo qe qw qu qg qn qs, dn qd vd_gap vd_odds vd_rain vd_lines qd_steps qd_lengths qd_starts qd_met qd_stumbles vd_stumbleCount qd_muds qd_cells vd_cellCount qd_tunes vd_tuneCount qd_changes vd_changeCount, (qd_steps, .inl (cI, 24, .inl (fd_steps))), (qd_lengths, .inl (cI, 2, .inl (fd_lengths))), (qd_changes, .inl (cI, 120, .inl (fd_changes)))] := ⟨hP.sub [0, 3, 1, 4, 2] rfl, hD.sub [0, 3, 1, 4, 2] (by decide) rfl⟩
            exact W.iret (v := (-5)) hx hb hr (fun t ht hW => ⟨⟨(-5), (vh_laid, vd_changeCount, fd_steps, fd_changes), rfl, ⟨(show (-5) ≤ (-5 : Int32).toInt ∧ (-5 : Int32).toInt ≤ 5 by decide), h_vd_changeCount, h_fd_steps, (show ch_ok fd_changes vd_changeCount vd_stumbleCount by exact h_chd)⟩, by rw [ht]; exact hP9, hD9⟩, hS.F ht⟩) hS.2.2 dX11_teach_53
        · subst hz
          have hz_19 : ¬ (0 ≤ a3.toInt ∧ a3.toInt < 6) := hz2
          refine lv_if_ne (tgt := 39) hx hb dX11_teach_33 (by decide) (fun hc => absurd hc (by decide)) (fun _ => ?_)
          refine lv_bipush (v := (-2)) hx hb dX11_teach_36 (by decide) ?_
          obtain ⟨hP9, hD9⟩ : ct_B D A H [oo qh qr qt qd qd2 qi qh_kept qf qf2 vh_laid qo qe qw qu qg qn qs, dn qd vd_gap vd_odds vd_rain vd_lines qd_steps qd_lengths qd_starts qd_met qd_stumbles vd_stumbleCount qd_muds qd_cells vd_cellCount qd_tunes vd_tuneCount qd_changes vd_changeCount, (qd_steps, .inl (cI, 24, .inl (fd_steps))), (qd_lengths, .inl (cI, 2, .inl (fd_lengths))), (qd_changes, .inl (cI, 120, .inl (fd_changes)))] := ⟨hP.sub [0, 3, 1, 4, 2] rfl, hD.sub [0, 3, 1, 4, 2] (by decide) rfl⟩
          exact W.iret (v := (-2)) hx hb hr (fun t ht hW => ⟨⟨(-2), (vh_laid, vd_changeCount, fd_steps, fd_changes), rfl, ⟨(show (-5) ≤ (-2 : Int32).toInt ∧ (-2 : Int32).toInt ≤ 5 by decide), h_vd_changeCount, h_fd_steps, (show ch_ok fd_changes vd_changeCount vd_stumbleCount by exact h_chd)⟩, by rw [ht]; exact hP9, hD9⟩, hS.F ht⟩) hS.2.2 dX11_teach_38
      · subst hz
        refine lv_if_eq (tgt := 36) hx hb dX11_teach_26 (by decide) (fun _ => ?_) (fun hc => absurd hc (by decide))
        refine lv_bipush (v := (-2)) hx hb dX11_teach_36 (by decide) ?_
        obtain ⟨hP9, hD9⟩ : ct_B D A H [oo qh qr qt qd qd2 qi qh_kept qf qf2 vh_laid qo qe qw qu qg qn qs, dn qd vd_gap vd_odds vd_rain vd_lines qd_steps qd_lengths qd_starts qd_met qd_stumbles vd_stumbleCount qd_muds qd_cells vd_cellCount qd_tunes vd_tuneCount qd_changes vd_changeCount, (qd_steps, .inl (cI, 24, .inl (fd_steps))), (qd_lengths, .inl (cI, 2, .inl (fd_lengths))), (qd_changes, .inl (cI, 120, .inl (fd_changes)))] := ⟨hP.sub [0, 3, 1, 4, 2] rfl, hD.sub [0, 3, 1, 4, 2] (by decide) rfl⟩
        exact W.iret (v := (-2)) hx hb hr (fun t ht hW => ⟨⟨(-2), (vh_laid, vd_changeCount, fd_steps, fd_changes), rfl, ⟨(show (-5) ≤ (-2 : Int32).toInt ∧ (-2 : Int32).toInt ≤ 5 by decide), h_vd_changeCount, h_fd_steps, (show ch_ok fd_changes vd_changeCount vd_stumbleCount by exact h_chd)⟩, by rw [ht]; exact hP9, hD9⟩, hS.F ht⟩) hS.2.2 dX11_teach_38
    · subst hz
      have hz_20 : ¬ (0 ≤ a1.toInt ∧ a1.toInt < 2) := hz2
      refine lv_if_eq (tgt := 36) hx hb dX11_teach_14 (by decide) (fun _ => ?_) (fun hc => absurd hc (by decide))
      refine lv_bipush (v := (-2)) hx hb dX11_teach_36 (by decide) ?_
      obtain ⟨hP9, hD9⟩ : ct_B D A H [oo qh qr qt qd qd2 qi qh_kept qf qf2 vh_laid qo qe qw qu qg qn qs, dn qd vd_gap vd_odds vd_rain vd_lines qd_steps qd_lengths qd_starts qd_met qd_stumbles vd_stumbleCount qd_muds qd_cells vd_cellCount qd_tunes vd_tuneCount qd_changes vd_changeCount, (qd_steps, .inl (cI, 24, .inl (fd_steps))), (qd_lengths, .inl (cI, 2, .inl (fd_lengths))), (qd_changes, .inl (cI, 120, .inl (fd_changes)))] := ⟨hP.sub [0, 4, 1, 2, 3] rfl, hD.sub [0, 4, 1, 2, 3] (by decide) rfl⟩
      exact W.iret (v := (-2)) hx hb hr (fun t ht hW => ⟨⟨(-2), (vh_laid, vd_changeCount, fd_steps, fd_changes), rfl, ⟨(show (-5) ≤ (-2 : Int32).toInt ∧ (-2 : Int32).toInt ≤ 5 by decide), h_vd_changeCount, h_fd_steps, (show ch_ok fd_changes vd_changeCount vd_stumbleCount by exact h_chd)⟩, by rw [ht]; exact hP9, hD9⟩, hS.F ht⟩) hS.2.2 dX11_teach_38
  · subst hz
    have hz_21 : ¬ (0 < vd_lines.toInt) := hz2
    refine lv_if_eq (tgt := 36) hx hb dX11_teach_7 (by decide) (fun _ => ?_) (fun hc => absurd hc (by decide))
    refine lv_bipush (v := (-2)) hx hb dX11_teach_36 (by decide) ?_
    obtain ⟨hP9, hD9⟩ : ct_B D A H [oo qh qr qt qd qd2 qi qh_kept qf qf2 vh_laid qo qe qw qu qg qn qs, dn qd vd_gap vd_odds vd_rain vd_lines qd_steps qd_lengths qd_starts qd_met qd_stumbles vd_stumbleCount qd_muds qd_cells vd_cellCount qd_tunes vd_tuneCount qd_changes vd_changeCount, (qd_steps, .inl (cI, 24, .inl (fd_steps))), (qd_lengths, .inl (cI, 2, .inl (fd_lengths))), (qd_changes, .inl (cI, 120, .inl (fd_changes)))] := ⟨hP.sub [0, 4, 1, 2, 3] rfl, hD.sub [0, 4, 1, 2, 3] (by decide) rfl⟩
    exact W.iret (v := (-2)) hx hb hr (fun t ht hW => ⟨⟨(-2), (vh_laid, vd_changeCount, fd_steps, fd_changes), rfl, ⟨(show (-5) ≤ (-2 : Int32).toInt ∧ (-2 : Int32).toInt ≤ 5 by decide), h_vd_changeCount, h_fd_steps, (show ch_ok fd_changes vd_changeCount vd_stumbleCount by exact h_chd)⟩, by rw [ht]; exact hP9, hD9⟩, hS.F ht⟩) hS.2.2 dX11_teach_38
abbrev w_c_X11_undo (cI cJ cB cZ cO : ClassId) (qh : Nat) (qh_kept : Nat) (vh_laid : Int32) (qi : Nat) (qr : Nat) (qt : Nat) (qd : Nat) (vd_gap : Int32) (vd_odds : Int32) (vd_rain : Int32) (vd_lines : Int32) (qd_steps : Nat) (fd_steps : Nat → Int32) (qd_lengths : Nat) (qd_starts : Nat) (qd_met : Nat) (qd_stumbles : Nat) (vd_stumbleCount : Int32) (qd_muds : Nat) (fd_muds : Nat → Int32) (qd_cells : Nat) (vd_cellCount : Int32) (qd_tunes : Nat) (vd_tuneCount : Int32) (qd_changes : Nat) (fd_changes : Nat → Int32) (vd_changeCount : Int32) (qd2 : Nat) (qf : Nat) (qf2 : Nat) (qo : Nat) (qe : Nat) (qw : Nat) (qu : Nat) (qg : Nat) (qn : Nat) (qs : Nat) : va_W := [oo qh qr qt qd qd2 qi qh_kept qf qf2 vh_laid qo qe qw qu qg qn qs, dn qd vd_gap vd_odds vd_rain vd_lines qd_steps qd_lengths qd_starts qd_met qd_stumbles vd_stumbleCount qd_muds qd_cells vd_cellCount qd_tunes vd_tuneCount qd_changes vd_changeCount, (qd_steps, .inl (cI, 24, .inl (fd_steps))), (qd_muds, .inl (cI, 200, .inl (fd_muds))), (qd_changes, .inl (cI, 120, .inl (fd_changes)))]
set_option maxHeartbeats 4000000 in
set_option maxRecDepth 100000 in
/-- X11 undo -/
theorem c_X11_undo (l : Launch) (D : va_G) (G : ct_G) (cI cJ cB cZ cO : ClassId) (qh : Nat) (qh_kept : Nat) (vh_laid : Int32) (qi : Nat) (qr : Nat) (qt : Nat) (qd : Nat) (vd_gap : Int32) (vd_odds : Int32) (vd_rain : Int32) (vd_lines : Int32) (qd_steps : Nat) (fd_steps : Nat → Int32) (qd_lengths : Nat) (qd_starts : Nat) (qd_met : Nat) (qd_stumbles : Nat) (vd_stumbleCount : Int32) (qd_muds : Nat) (fd_muds : Nat → Int32) (qd_cells : Nat) (vd_cellCount : Int32) (qd_tunes : Nat) (vd_tuneCount : Int32) (qd_changes : Nat) (fd_changes : Nat → Int32) (vd_changeCount : Int32) (qd2 : Nat) (qf : Nat) (qf2 : Nat) (qo : Nat) (qe : Nat) (qw : Nat) (qu : Nat) (qg : Nat) (qn : Nat) (qs : Nat) (h_vd_gap : 0 ≤ vd_gap.toInt ∧ vd_gap.toInt ≤ 20) (h_fd_steps : ar_ok [0] [5] fd_steps) (h_vd_stumbleCount : 0 ≤ vd_stumbleCount.toInt ∧ vd_stumbleCount.toInt ≤ 8) (h_vd_cellCount : 0 ≤ vd_cellCount.toInt ∧ vd_cellCount.toInt ≤ 12) (h_vd_tuneCount : 0 ≤ vd_tuneCount.toInt ∧ vd_tuneCount.toInt ≤ 5) (h_vd_changeCount : 0 ≤ vd_changeCount.toInt ∧ vd_changeCount.toInt ≤ 40) (h_chd : ch_ok fd_changes vd_changeCount vd_stumbleCount) (sz : Nat) : Met l yX11_undo wsX11_undo ({ frames := 1, cells := 0, slots := 0, locals := 23 }) (va_Pc [.ref qh] (ct_P D (ct_T cI cJ cB cZ cO) G (w_c_X11_undo cI cJ cB cZ cO qh qh_kept vh_laid qi qr qt qd vd_gap vd_odds vd_rain vd_lines qd_steps fd_steps qd_lengths qd_starts qd_met qd_stumbles vd_stumbleCount qd_muds fd_muds qd_cells vd_cellCount qd_tunes vd_tuneCount qd_changes fd_changes vd_changeCount qd2 qf qf2 qo qe qw qu qg qn qs) sz)) (va_Qi (fun (rz : Int32) (u : Int32 × Int32 × Int32 × (Nat → Int32) × (Nat → Int32)) => ((-5) ≤ rz.toInt ∧ rz.toInt ≤ 40) ∧ (0 ≤ u.2.1.toInt ∧ u.2.1.toInt ≤ 8) ∧ (0 ≤ u.2.2.1.toInt ∧ u.2.2.1.toInt ≤ 40) ∧ (ar_ok [0] [5] u.2.2.2.1) ∧ (ch_ok fd_changes u.2.2.1 u.2.1)) (fun (u : Int32 × Int32 × Int32 × (Nat → Int32) × (Nat → Int32)) t => ct_Q D (va_A (w_c_X11_undo cI cJ cB cZ cO qh qh_kept vh_laid qi qr qt qd vd_gap vd_odds vd_rain vd_lines qd_steps fd_steps qd_lengths qd_starts qd_met qd_stumbles vd_stumbleCount qd_muds fd_muds qd_cells vd_cellCount qd_tunes vd_tuneCount qd_changes fd_changes vd_changeCount qd2 qf qf2 qo qe qw qu qg qn qs) sz) [oo qh qr qt qd qd2 qi qh_kept qf qf2 u.1 qo qe qw qu qg qn qs, dn qd vd_gap vd_odds vd_rain vd_lines qd_steps qd_lengths qd_starts qd_met qd_stumbles u.2.1 qd_muds qd_cells vd_cellCount qd_tunes vd_tuneCount qd_changes u.2.2.1, (qd_steps, .inl (cI, 24, .inl (u.2.2.2.1))), (qd_muds, .inl (cI, 200, .inl (u.2.2.2.2))), (qd_changes, .inl (cI, 120, .inl (fd_changes)))] t) (va_A (w_c_X11_undo cI cJ cB cZ cO qh qh_kept vh_laid qi qr qt qd vd_gap vd_odds vd_rain vd_lines qd_steps fd_steps qd_lengths qd_starts qd_met qd_stumbles vd_stumbleCount qd_muds fd_muds qd_cells vd_cellCount qd_tunes vd_tuneCount qd_changes fd_changes vd_changeCount qd2 qf qf2 qo qe qw qu qg qn qs) sz)) 0 0 (va_A (w_c_X11_undo cI cJ cB cZ cO qh qh_kept vh_laid qi qr qt qd vd_gap vd_odds vd_rain vd_lines qd_steps fd_steps qd_lengths qd_starts qd_met qd_stumbles vd_stumbleCount qd_muds fd_muds qd_cells vd_cellCount qd_tunes vd_tuneCount qd_changes fd_changes vd_changeCount qd2 qf qf2 qo qe qw qu qg qn qs) sz) := by
  refine Met.ofW (cc := cX11_undo) (maxL := 1) (ret := (some .int)) (by decide) rfl ?_
  intro p e s m args below meth c s₁ B hml hv
  obtain ⟨rfl, hsz, hP, hE, hD0, hH⟩ := hv
  have hx := B.exec
  have hb := B.bytes
  have hr := B.returns
  have hts := atoms_spec (ws := wsX11_undo) B.pre
  have hown : s.vm.findClass RX11 = some m.cls := findClass_of_methodNamed B.named
  have hlocks := B.notSynchronized
  have hK := hE.1
  have hi0 : ∀ w ∈ u_ws RX0 TX0 17, w ∈ wsX11_undo := fun w h => List.mem_cons_of_mem _ (List.mem_append_right _ h)
  have hi11 : ∀ w ∈ u_ws RX11 TX11 16, w ∈ wsX11_undo := fun w h => List.mem_cons_of_mem _ (List.mem_append_left _ (List.mem_append_right _ h))
  subst hsz
  have hD := hD0.self (sz := s.heap.size)
  generalize hAe : va_A (w_c_X11_undo cI cJ cB cZ cO qh qh_kept vh_laid qi qr qt qd vd_gap vd_odds vd_rain vd_lines qd_steps fd_steps qd_lengths qd_starts qd_met qd_stumbles vd_stumbleCount qd_muds fd_muds qd_cells vd_cellCount qd_tunes vd_tuneCount qd_changes fd_changes vd_changeCount qd2 qf qf2 qo qe qw qu qg qn qs) s.heap.size = A at hD hH ⊢
  have hA : ∀ q : Nat, s.heap.size ≤ q → A q := fun q h => by rw [← hAe]; exact Or.inr h
  have hS : va_S A s.heap s.heap [] := va_S.rf
  obtain ⟨hP, hD⟩ : ct_B D A s.heap [oo qh qr qt qd qd2 qi qh_kept qf qf2 vh_laid qo qe qw qu qg qn qs, dn qd vd_gap vd_odds vd_rain vd_lines qd_steps qd_lengths qd_starts qd_met qd_stumbles vd_stumbleCount qd_muds qd_cells vd_cellCount qd_tunes vd_tuneCount qd_changes vd_changeCount, (qd_steps, .inl (cI, 24, .inl (fd_steps))), (qd_muds, .inl (cI, 200, .inl (fd_muds))), (qd_changes, .inl (cI, 120, .inl (fd_changes)))] := ⟨hP, hD⟩
  have hl := lv_entry ([.ref qh]) (n := 1) (Nat.le_of_ble_eq_true rfl)
  rw [lg_entry_eq]
  generalize (lg_sl ([.ref qh]) ++ List.replicate (1 - (lg_sl ([.ref qh])).length) Slot.unset).toArray = ls at hl ⊢
  have hl : lv_has ls 1 [(0, .ref qh)] := hl
  obtain ⟨H, hHe⟩ : ∃ H : Heap, H = s.heap := ⟨_, rfl⟩
  rw [← hHe] at hP
  have hS : va_S A s.heap H [] := by rw [hHe]; exact va_S.rf
  refine ct_start hHe ?_
  refine lv_aload_n hx hb dX11_undo_0 rfl (lv_at hl 0 rfl) ?_
  refine va_get (D := D) (ci := 11) (v := .ref qd) (C := RX11) (T := TX11) (N := 16) hx hb hts hi11 hown hK hP 0 rfl rfl 2 (by decide) (hts (.fieldLink RX11 24 "OverHill" "now" "LOverHill$Dance;") (by decide +kernel)) (fun _ h9 => h9) rfl dX11_undo_1 ?_
  refine ct_calli (D := D) (wr := [oo qh qr qt qd qd2 qi qh_kept qf qf2 vh_laid qo qe qw qu qg qn qs, (qd_steps, .inl (cI, 24, .inl (fd_steps))), (qd_muds, .inl (cI, 200, .inl (fd_muds))), (qd_changes, .inl (cI, 120, .inl (fd_changes)))]) (va_runV (As := []) (rest := []) ⟨hx, hb, hml, hown, hts⟩ (c_X0_stands l D G cI cJ cB cZ cO qd vd_gap vd_odds vd_rain vd_lines qd_steps qd_lengths qd_starts qd_met qd_stumbles vd_stumbleCount qd_muds qd_cells vd_cellCount qd_tunes vd_tuneCount qd_changes vd_changeCount h_vd_gap h_vd_stumbleCount h_vd_cellCount h_vd_tuneCount h_vd_changeCount H.size) (cwV 0 hts gX11_undo_X0_stands rfl rfl rfl (by decide +kernel) ⟨Nat.le_of_ble_eq_true rfl, Nat.le_of_ble_eq_true rfl⟩) (ct_preV (T := ct_T cI cJ cB cZ cO) (ci := 0) (q0 := 1) hE hH hP hD hS hA [1] (by decide) rfl rfl rfl) rfl rfl hl.1 rfl (lv_room (Nat.le_of_ble_eq_true rfl)) dX11_undo_4 ⟨Nat.le_of_ble_eq_true rfl, Nat.le_of_ble_eq_true rfl⟩) hP hD hS hA [1] [0, 2, 3, 4] rfl rfl (by decide) (by decide) (fun r1 u H locs hw hP hD hS => ?_)
  obtain ⟨hP, hD⟩ : ct_B D A H [oo qh qr qt qd qd2 qi qh_kept qf qf2 vh_laid qo qe qw qu qg qn qs, (qd_steps, .inl (cI, 24, .inl (fd_steps))), (qd_muds, .inl (cI, 200, .inl (fd_muds))), (qd_changes, .inl (cI, 120, .inl (fd_changes))), dn qd vd_gap vd_odds vd_rain vd_lines qd_steps qd_lengths qd_starts qd_met qd_stumbles vd_stumbleCount qd_muds qd_cells vd_cellCount qd_tunes vd_tuneCount qd_changes vd_changeCount] := ⟨hP, hD⟩
  have hz := hw
  rcases hz with ⟨hz, hz2⟩ | ⟨hz, hz2⟩
  · subst hz
    have hz_2 : (0 < vd_lines.toInt) := hz2
    refine lv_if_ne (tgt := 13) hx hb dX11_undo_7 (by decide) (fun _ => ?_) (fun hc => absurd hc (by decide))
    refine lv_aload_n hx hb dX11_undo_13 rfl (lv_at hl 0 rfl) ?_
    refine va_get (D := D) (ci := 11) (v := .ref qd) (C := RX11) (T := TX11) (N := 16) hx hb hts hi11 hown hK hP 0 rfl rfl 2 (by decide) (hts (.fieldLink RX11 24 "OverHill" "now" "LOverHill$Dance;") (by decide +kernel)) (fun _ h9 => h9) rfl dX11_undo_14 ?_
    refine va_get (D := D) (ci := 0) (v := .int vd_changeCount) (C := RX0) (T := TX0) (N := 17) hx hb hts hi0 hown hK hP 4 rfl rfl 16 (by decide) (hts (.fieldLink RX11 369 "OverHill$Dance" "changeCount" "I") (by decide +kernel)) (fun _ h9 => h9) rfl dX11_undo_17 ?_
    refine lv_if_ne (tgt := 26) hx hb dX11_undo_20 (by decide) (fun hc => ?_) (fun hc => ?_)
    · have hq3 : vd_changeCount.toInt ≠ 0 := tq_ne rfl (by decide) hc
      refine lv_aload_n hx hb dX11_undo_26 rfl (lv_at hl 0 rfl) ?_
      refine va_get (D := D) (ci := 11) (v := .ref qd) (C := RX11) (T := TX11) (N := 16) hx hb hts hi11 hown hK hP 0 rfl rfl 2 (by decide) (hts (.fieldLink RX11 24 "OverHill" "now" "LOverHill$Dance;") (by decide +kernel)) (fun _ h9 => h9) rfl dX11_undo_27 ?_
      refine ct_callv (D := D) (wr := [oo qh qr qt qd qd2 qi qh_kept qf qf2 vh_laid qo qe qw qu qg qn qs]) (va_runV (As := []) (rest := []) ⟨hx, hb, hml, hown, hts⟩ (c_X0_takeBack l D G cI cJ cB cZ cO qd vd_gap vd_odds vd_rain vd_lines qd_steps fd_steps qd_lengths qd_starts qd_met qd_stumbles vd_stumbleCount qd_muds fd_muds qd_cells vd_cellCount qd_tunes vd_tuneCount qd_changes fd_changes vd_changeCount h_vd_gap h_fd_steps h_vd_stumbleCount h_vd_cellCount h_vd_tuneCount h_vd_changeCount h_chd H.size) (cwV 0 hts gX11_undo_X0_takeBack rfl rfl rfl (by decide +kernel) ⟨Nat.le_of_ble_eq_true rfl, Nat.le_of_ble_eq_true rfl⟩) (ct_preV (T := ct_T cI cJ cB cZ cO) (ci := 0) (q0 := 4) hE hH hP hD hS hA [4, 1, 2, 3] (by decide) rfl rfl rfl) rfl rfl hl.1 rfl (lv_room (Nat.le_of_ble_eq_true rfl)) dX11_undo_30 ⟨Nat.le_of_ble_eq_true rfl, Nat.le_of_ble_eq_true rfl⟩) hP hD hS hA [4, 1, 2, 3] [0] rfl rfl (by decide) (by decide) (fun u H locs hw hP hD hS => ?_)
      obtain ⟨y4, y5, g6, g7⟩ := u
      obtain ⟨hP, hD⟩ : ct_B D A H [oo qh qr qt qd qd2 qi qh_kept qf qf2 vh_laid qo qe qw qu qg qn qs, dn qd vd_gap vd_odds vd_rain vd_lines qd_steps qd_lengths qd_starts qd_met qd_stumbles y4 qd_muds qd_cells vd_cellCount qd_tunes vd_tuneCount qd_changes y5, (qd_steps, .inl (cI, 24, .inl (g6))), (qd_muds, .inl (cI, 200, .inl (g7))), (qd_changes, .inl (cI, 120, .inl (fd_changes)))] := ⟨hP, hD⟩
      obtain ⟨hp0, hp1, hp2, hp3⟩ := hw
      have h_y4 : 0 ≤ y4.toInt ∧ y4.toInt ≤ 8 := hp0
      have h_y5 : 0 ≤ y5.toInt ∧ y5.toInt ≤ 40 := hp1
      have h_g6 : ar_ok [0] [5] g6 := hp2
      have hp_8 : ch_ok fd_changes y5 y4 := hp3
      refine lv_aload_n hx hb dX11_undo_33 rfl (lv_at hl 0 rfl) ?_
      refine lv_iconst (v := 0) hx hb dX11_undo_34 (by decide) ?_
      refine va_put (D := D) (ci := 11) (v := .int 0) (ty := .boolean) (C := RX11) (T := TX11) (N := 16) hx hb hts hi11 tyX11 tyX11_ok nmX11 hown hK hP hD hS 0 rfl rfl 8 (by decide) (hts (.fieldLink RX11 49 "OverHill" "laid" "Z") (by decide +kernel)) (fun _ h9 => h9) rfl (by decide +kernel) rfl rfl (Nat.le_of_ble_eq_true rfl) dX11_undo_35 (fun H locs hP hD hS => ?_)
      obtain ⟨hP, hD⟩ : ct_B D A H [oo qh qr qt qd qd2 qi qh_kept qf qf2 0 qo qe qw qu qg qn qs, dn qd vd_gap vd_odds vd_rain vd_lines qd_steps qd_lengths qd_starts qd_met qd_stumbles y4 qd_muds qd_cells vd_cellCount qd_tunes vd_tuneCount qd_changes y5, (qd_steps, .inl (cI, 24, .inl (g6))), (qd_muds, .inl (cI, 200, .inl (g7))), (qd_changes, .inl (cI, 120, .inl (fd_changes)))] := ⟨hP, hD⟩
      refine lv_aload_n hx hb dX11_undo_38 rfl (lv_at hl 0 rfl) ?_
      refine va_get (D := D) (ci := 11) (v := .ref qd) (C := RX11) (T := TX11) (N := 16) hx hb hts hi11 hown hK hP 0 rfl rfl 2 (by decide) (hts (.fieldLink RX11 24 "OverHill" "now" "LOverHill$Dance;") (by decide +kernel)) (fun _ h9 => h9) rfl dX11_undo_39 ?_
      refine va_get (D := D) (ci := 0) (v := .int y5) (C := RX0) (T := TX0) (N := 17) hx hb hts hi0 hown hK hP 1 rfl rfl 16 (by decide) (hts (.fieldLink RX11 369 "OverHill$Dance" "changeCount" "I") (by decide +kernel)) (fun _ h9 => h9) rfl dX11_undo_42 ?_
      have hk9 : (0 : Int32).toInt = 0 := by decide
      obtain ⟨hP9, hD9⟩ : ct_B D A H [oo qh qr qt qd qd2 qi qh_kept qf qf2 0 qo qe qw qu qg qn qs, dn qd vd_gap vd_odds vd_rain vd_lines qd_steps qd_lengths qd_starts qd_met qd_stumbles y4 qd_muds qd_cells vd_cellCount qd_tunes vd_tuneCount qd_changes y5, (qd_steps, .inl (cI, 24, .inl (g6))), (qd_muds, .inl (cI, 200, .inl (g7))), (qd_changes, .inl (cI, 120, .inl (fd_changes)))] := ⟨hP.sub [0, 1, 2, 3, 4] rfl, hD.sub [0, 1, 2, 3, 4] (by decide) rfl⟩
      exact W.iret (v := y5) hx hb hr (fun t ht hW => ⟨⟨y5, ((0 : Int32), y4, y5, g6, g7), rfl, ⟨(show (-5) ≤ y5.toInt ∧ y5.toInt ≤ 40 by omega), h_y4, h_y5, h_g6, (show ch_ok fd_changes y5 y4 by exact hp_8)⟩, by rw [ht]; exact hP9, hD9⟩, hS.F ht⟩) hS.2.2 dX11_undo_45
    · have hq3 : vd_changeCount.toInt = 0 := tq_eq rfl (by decide) hc
      refine lv_bipush (v := (-5)) hx hb dX11_undo_23 (by decide) ?_
      obtain ⟨hP9, hD9⟩ : ct_B D A H [oo qh qr qt qd qd2 qi qh_kept qf qf2 vh_laid qo qe qw qu qg qn qs, dn qd vd_gap vd_odds vd_rain vd_lines qd_steps qd_lengths qd_starts qd_met qd_stumbles vd_stumbleCount qd_muds qd_cells vd_cellCount qd_tunes vd_tuneCount qd_changes vd_changeCount, (qd_steps, .inl (cI, 24, .inl (fd_steps))), (qd_muds, .inl (cI, 200, .inl (fd_muds))), (qd_changes, .inl (cI, 120, .inl (fd_changes)))] := ⟨hP.sub [0, 4, 1, 2, 3] rfl, hD.sub [0, 4, 1, 2, 3] (by decide) rfl⟩
      exact W.iret (v := (-5)) hx hb hr (fun t ht hW => ⟨⟨(-5), (vh_laid, vd_stumbleCount, vd_changeCount, fd_steps, fd_muds), rfl, ⟨(show (-5) ≤ (-5 : Int32).toInt ∧ (-5 : Int32).toInt ≤ 40 by decide), h_vd_stumbleCount, h_vd_changeCount, h_fd_steps, (show ch_ok fd_changes vd_changeCount vd_stumbleCount by exact h_chd)⟩, by rw [ht]; exact hP9, hD9⟩, hS.F ht⟩) hS.2.2 dX11_undo_25
  · subst hz
    have hz_10 : ¬ (0 < vd_lines.toInt) := hz2
    refine lv_if_ne (tgt := 13) hx hb dX11_undo_7 (by decide) (fun hc => absurd hc (by decide)) (fun _ => ?_)
    refine lv_bipush (v := (-2)) hx hb dX11_undo_10 (by decide) ?_
    obtain ⟨hP9, hD9⟩ : ct_B D A H [oo qh qr qt qd qd2 qi qh_kept qf qf2 vh_laid qo qe qw qu qg qn qs, dn qd vd_gap vd_odds vd_rain vd_lines qd_steps qd_lengths qd_starts qd_met qd_stumbles vd_stumbleCount qd_muds qd_cells vd_cellCount qd_tunes vd_tuneCount qd_changes vd_changeCount, (qd_steps, .inl (cI, 24, .inl (fd_steps))), (qd_muds, .inl (cI, 200, .inl (fd_muds))), (qd_changes, .inl (cI, 120, .inl (fd_changes)))] := ⟨hP.sub [0, 4, 1, 2, 3] rfl, hD.sub [0, 4, 1, 2, 3] (by decide) rfl⟩
    exact W.iret (v := (-2)) hx hb hr (fun t ht hW => ⟨⟨(-2), (vh_laid, vd_stumbleCount, vd_changeCount, fd_steps, fd_muds), rfl, ⟨(show (-5) ≤ (-2 : Int32).toInt ∧ (-2 : Int32).toInt ≤ 40 by decide), h_vd_stumbleCount, h_vd_changeCount, h_fd_steps, (show ch_ok fd_changes vd_changeCount vd_stumbleCount by exact h_chd)⟩, by rw [ht]; exact hP9, hD9⟩, hS.F ht⟩) hS.2.2 dX11_undo_12
abbrev w_c_X11_count (cI cJ cB cZ cO : ClassId) (qh : Nat) (qh_kept : Nat) (vh_laid : Int32) (qi : Nat) (qr : Nat) (qt : Nat) (qt_bytes : Nat) (vt_length : Int32) (vt_kind : Int32) (vt_from : Int32) (vt_upto : Int32) (vt_value : Int32) (qd : Nat) (vd_gap : Int32) (vd_odds : Int32) (vd_rain : Int32) (vd_lines : Int32) (qd_steps : Nat) (qd_lengths : Nat) (fd_lengths : Nat → Int32) (qd_starts : Nat) (qd_met : Nat) (qd_stumbles : Nat) (vd_stumbleCount : Int32) (qd_muds : Nat) (fd_muds : Nat → Int32) (qd_cells : Nat) (vd_cellCount : Int32) (qd_tunes : Nat) (vd_tuneCount : Int32) (qd_changes : Nat) (vd_changeCount : Int32) (qd2 : Nat) (qf : Nat) (qf2 : Nat) (qo : Nat) (qe : Nat) (qw : Nat) (qu : Nat) (qg : Nat) (qn : Nat) (qs : Nat) (qs_widths : Nat) (qs_sizes : Nat) (fs_sizes : Nat → Int32) (qs_numbers : Nat) : va_W := [oo qh qr qt qd qd2 qi qh_kept qf qf2 vh_laid qo qe qw qu qg qn qs, (qt, .inr (8, [.ref qt_bytes, .int vt_length, .int vt_kind, .int vt_from, .int vt_upto, .int vt_value])), dn qd vd_gap vd_odds vd_rain vd_lines qd_steps qd_lengths qd_starts qd_met qd_stumbles vd_stumbleCount qd_muds qd_cells vd_cellCount qd_tunes vd_tuneCount qd_changes vd_changeCount, (qd_lengths, .inl (cI, 2, .inl (fd_lengths))), (qd_muds, .inl (cI, 200, .inl (fd_muds))), (qs, .inr (7, [.ref qs_widths, .ref qs_sizes, .ref qs_numbers])), (qs_sizes, .inl (cI, 4, .inl (fs_sizes)))]
set_option maxHeartbeats 4000000 in
set_option maxRecDepth 100000 in
/-- X11 count -/
theorem c_X11_count (l : Launch) (D : va_G) (G : ct_G) (cI cJ cB cZ cO : ClassId) (qh : Nat) (qh_kept : Nat) (vh_laid : Int32) (qi : Nat) (qr : Nat) (qt : Nat) (qt_bytes : Nat) (vt_length : Int32) (vt_kind : Int32) (vt_from : Int32) (vt_upto : Int32) (vt_value : Int32) (qd : Nat) (vd_gap : Int32) (vd_odds : Int32) (vd_rain : Int32) (vd_lines : Int32) (qd_steps : Nat) (qd_lengths : Nat) (fd_lengths : Nat → Int32) (qd_starts : Nat) (qd_met : Nat) (qd_stumbles : Nat) (vd_stumbleCount : Int32) (qd_muds : Nat) (fd_muds : Nat → Int32) (qd_cells : Nat) (vd_cellCount : Int32) (qd_tunes : Nat) (vd_tuneCount : Int32) (qd_changes : Nat) (vd_changeCount : Int32) (qd2 : Nat) (qf : Nat) (qf2 : Nat) (qo : Nat) (qe : Nat) (qw : Nat) (qu : Nat) (qg : Nat) (qn : Nat) (qs : Nat) (qs_widths : Nat) (qs_sizes : Nat) (fs_sizes : Nat → Int32) (qs_numbers : Nat) (a1 : Int32) (h_vt_length : 0 ≤ vt_length.toInt ∧ vt_length.toInt ≤ 1200) (h_vt_from : 0 ≤ vt_from.toInt ∧ vt_from.toInt ≤ 1200) (h_vt_upto : 0 ≤ vt_upto.toInt ∧ vt_upto.toInt ≤ 1200) (h_vd_gap : 0 ≤ vd_gap.toInt ∧ vd_gap.toInt ≤ 20) (h_fd_lengths : ar_ok [0] [12] fd_lengths) (h_vd_stumbleCount : 0 ≤ vd_stumbleCount.toInt ∧ vd_stumbleCount.toInt ≤ 8) (h_vd_cellCount : 0 ≤ vd_cellCount.toInt ∧ vd_cellCount.toInt ≤ 12) (h_vd_tuneCount : 0 ≤ vd_tuneCount.toInt ∧ vd_tuneCount.toInt ≤ 5) (h_vd_changeCount : 0 ≤ vd_changeCount.toInt ∧ vd_changeCount.toInt ≤ 40) (h_fs_sizes : ar_ok [(-1)] [60] fs_sizes) (sz : Nat) : Met l yX11_count wsX11_count ({ frames := 2, cells := 0, slots := 0, locals := 43 }) (va_Pc [.ref qh, .int a1] (ct_P D (ct_T cI cJ cB cZ cO) G (w_c_X11_count cI cJ cB cZ cO qh qh_kept vh_laid qi qr qt qt_bytes vt_length vt_kind vt_from vt_upto vt_value qd vd_gap vd_odds vd_rain vd_lines qd_steps qd_lengths fd_lengths qd_starts qd_met qd_stumbles vd_stumbleCount qd_muds fd_muds qd_cells vd_cellCount qd_tunes vd_tuneCount qd_changes vd_changeCount qd2 qf qf2 qo qe qw qu qg qn qs qs_widths qs_sizes fs_sizes qs_numbers) sz)) (va_Qi (fun (rz : Int32) (u : Unit) => True) (fun (u : Unit) t => ct_Q D (va_A (w_c_X11_count cI cJ cB cZ cO qh qh_kept vh_laid qi qr qt qt_bytes vt_length vt_kind vt_from vt_upto vt_value qd vd_gap vd_odds vd_rain vd_lines qd_steps qd_lengths fd_lengths qd_starts qd_met qd_stumbles vd_stumbleCount qd_muds fd_muds qd_cells vd_cellCount qd_tunes vd_tuneCount qd_changes vd_changeCount qd2 qf qf2 qo qe qw qu qg qn qs qs_widths qs_sizes fs_sizes qs_numbers) sz) [oo qh qr qt qd qd2 qi qh_kept qf qf2 vh_laid qo qe qw qu qg qn qs, (qt, .inr (8, [.ref qt_bytes, .int vt_length, .int vt_kind, .int vt_from, .int vt_upto, .int vt_value])), dn qd vd_gap vd_odds vd_rain vd_lines qd_steps qd_lengths qd_starts qd_met qd_stumbles vd_stumbleCount qd_muds qd_cells vd_cellCount qd_tunes vd_tuneCount qd_changes vd_changeCount, (qd_lengths, .inl (cI, 2, .inl (fd_lengths))), (qd_muds, .inl (cI, 200, .inl (fd_muds))), (qs, .inr (7, [.ref qs_widths, .ref qs_sizes, .ref qs_numbers])), (qs_sizes, .inl (cI, 4, .inl (fs_sizes)))] t) (va_A (w_c_X11_count cI cJ cB cZ cO qh qh_kept vh_laid qi qr qt qt_bytes vt_length vt_kind vt_from vt_upto vt_value qd vd_gap vd_odds vd_rain vd_lines qd_steps qd_lengths fd_lengths qd_starts qd_met qd_stumbles vd_stumbleCount qd_muds fd_muds qd_cells vd_cellCount qd_tunes vd_tuneCount qd_changes vd_changeCount qd2 qf qf2 qo qe qw qu qg qn qs qs_widths qs_sizes fs_sizes qs_numbers) sz)) 0 0 (va_A (w_c_X11_count cI cJ cB cZ cO qh qh_kept vh_laid qi qr qt qt_bytes vt_length vt_kind vt_from vt_upto vt_value qd vd_gap vd_odds vd_rain vd_lines qd_steps qd_lengths fd_lengths qd_starts qd_met qd_stumbles vd_stumbleCount qd_muds fd_muds qd_cells vd_cellCount qd_tunes vd_tuneCount qd_changes vd_changeCount qd2 qf qf2 qo qe qw qu qg qn qs qs_widths qs_sizes fs_sizes qs_numbers) sz) := by
  refine Met.ofW (cc := cX11_count) (maxL := 2) (ret := (some .int)) (by decide) rfl ?_
  intro p e s m args below meth c s₁ B hml hv
  obtain ⟨rfl, hsz, hP, hE, hD0, hH⟩ := hv
  have hx := B.exec
  have hb := B.bytes
  have hr := B.returns
  have hts := atoms_spec (ws := wsX11_count) B.pre
  have hown : s.vm.findClass RX11 = some m.cls := findClass_of_methodNamed B.named
  have hlocks := B.notSynchronized
  have hK := hE.1
  have hi0 : ∀ w ∈ u_ws RX0 TX0 17, w ∈ wsX11_count := fun w h => List.mem_cons_of_mem _ (List.mem_append_left _ (List.mem_append_left _ (List.mem_append_right _ h)))
  have hi8 : ∀ w ∈ u_ws RX8 TX8 6, w ∈ wsX11_count := fun w h => List.mem_cons_of_mem _ (List.mem_append_left _ (List.mem_append_right _ h))
  have hi11 : ∀ w ∈ u_ws RX11 TX11 16, w ∈ wsX11_count := fun w h => List.mem_cons_of_mem _ (List.mem_append_left _ (List.mem_append_left _ (List.mem_append_left _ (List.mem_append_right _ h))))
  subst hsz
  have hD := hD0.self (sz := s.heap.size)
  generalize hAe : va_A (w_c_X11_count cI cJ cB cZ cO qh qh_kept vh_laid qi qr qt qt_bytes vt_length vt_kind vt_from vt_upto vt_value qd vd_gap vd_odds vd_rain vd_lines qd_steps qd_lengths fd_lengths qd_starts qd_met qd_stumbles vd_stumbleCount qd_muds fd_muds qd_cells vd_cellCount qd_tunes vd_tuneCount qd_changes vd_changeCount qd2 qf qf2 qo qe qw qu qg qn qs qs_widths qs_sizes fs_sizes qs_numbers) s.heap.size = A at hD hH ⊢
  have hA : ∀ q : Nat, s.heap.size ≤ q → A q := fun q h => by rw [← hAe]; exact Or.inr h
  have hS : va_S A s.heap s.heap [] := va_S.rf
  obtain ⟨hP, hD⟩ : ct_B D A s.heap [oo qh qr qt qd qd2 qi qh_kept qf qf2 vh_laid qo qe qw qu qg qn qs, (qt, .inr (8, [.ref qt_bytes, .int vt_length, .int vt_kind, .int vt_from, .int vt_upto, .int vt_value])), dn qd vd_gap vd_odds vd_rain vd_lines qd_steps qd_lengths qd_starts qd_met qd_stumbles vd_stumbleCount qd_muds qd_cells vd_cellCount qd_tunes vd_tuneCount qd_changes vd_changeCount, (qd_lengths, .inl (cI, 2, .inl (fd_lengths))), (qd_muds, .inl (cI, 200, .inl (fd_muds))), (qs, .inr (7, [.ref qs_widths, .ref qs_sizes, .ref qs_numbers])), (qs_sizes, .inl (cI, 4, .inl (fs_sizes)))] := ⟨hP, hD⟩
  have hl := lv_entry ([.ref qh, .int a1]) (n := 2) (Nat.le_of_ble_eq_true rfl)
  rw [lg_entry_eq]
  generalize (lg_sl ([.ref qh, .int a1]) ++ List.replicate (2 - (lg_sl ([.ref qh, .int a1])).length) Slot.unset).toArray = ls at hl ⊢
  have hl : lv_has ls 2 [(0, .ref qh), (1, .int a1)] := hl
  obtain ⟨H, hHe⟩ : ∃ H : Heap, H = s.heap := ⟨_, rfl⟩
  rw [← hHe] at hP
  have hS : va_S A s.heap H [] := by rw [hHe]; exact va_S.rf
  refine ct_start hHe ?_
  refine lv_iload_n hx hb dX11_count_0 rfl (lv_at hl 1 rfl) ?_
  by_cases hq1 : a1.toInt = 0
  · refine lv_tableIn (tgt := 68) (off := 67) hx hb dX11_count_1 (by omega) (by omega) (by rw [hq1]; decide) (by decide) ?_
    refine lv_aload_n hx hb dX11_count_68 rfl (lv_at hl 0 rfl) ?_
    refine va_get (D := D) (ci := 11) (v := .ref qd) (C := RX11) (T := TX11) (N := 16) hx hb hts hi11 hown hK hP 0 rfl rfl 2 (by decide) (hts (.fieldLink RX11 24 "OverHill" "now" "LOverHill$Dance;") (by decide +kernel)) (fun _ h9 => h9) rfl dX11_count_69 ?_
    refine va_get (D := D) (ci := 0) (v := .int vd_gap) (C := RX0) (T := TX0) (N := 17) hx hb hts hi0 hown hK hP 2 rfl rfl 0 (by decide) (hts (.fieldLink RX11 389 "OverHill$Dance" "gap" "I") (by decide +kernel)) (fun _ h9 => h9) rfl dX11_count_72 ?_
    obtain ⟨hP9, hD9⟩ : ct_B D A H [oo qh qr qt qd qd2 qi qh_kept qf qf2 vh_laid qo qe qw qu qg qn qs, (qt, .inr (8, [.ref qt_bytes, .int vt_length, .int vt_kind, .int vt_from, .int vt_upto, .int vt_value])), dn qd vd_gap vd_odds vd_rain vd_lines qd_steps qd_lengths qd_starts qd_met qd_stumbles vd_stumbleCount qd_muds qd_cells vd_cellCount qd_tunes vd_tuneCount qd_changes vd_changeCount, (qd_lengths, .inl (cI, 2, .inl (fd_lengths))), (qd_muds, .inl (cI, 200, .inl (fd_muds))), (qs, .inr (7, [.ref qs_widths, .ref qs_sizes, .ref qs_numbers])), (qs_sizes, .inl (cI, 4, .inl (fs_sizes)))] := ⟨hP.sub [0, 1, 2, 3, 4, 5, 6] rfl, hD.sub [0, 1, 2, 3, 4, 5, 6] (by decide) rfl⟩
    exact W.iret (v := vd_gap) hx hb hr (fun t ht hW => ⟨⟨vd_gap, (), rfl, trivial, by rw [ht]; exact hP9, hD9⟩, hS.F ht⟩) hS.2.2 dX11_count_75
  by_cases hq2 : a1.toInt = 1
  · refine lv_tableIn (tgt := 76) (off := 75) hx hb dX11_count_1 (by omega) (by omega) (by rw [hq2]; decide) (by decide) ?_
    refine lv_aload_n hx hb dX11_count_76 rfl (lv_at hl 0 rfl) ?_
    refine va_get (D := D) (ci := 11) (v := .ref qd) (C := RX11) (T := TX11) (N := 16) hx hb hts hi11 hown hK hP 0 rfl rfl 2 (by decide) (hts (.fieldLink RX11 24 "OverHill" "now" "LOverHill$Dance;") (by decide +kernel)) (fun _ h9 => h9) rfl dX11_count_77 ?_
    refine va_get (D := D) (ci := 0) (v := .int vd_odds) (C := RX0) (T := TX0) (N := 17) hx hb hts hi0 hown hK hP 2 rfl rfl 1 (by decide) (hts (.fieldLink RX11 392 "OverHill$Dance" "odds" "I") (by decide +kernel)) (fun _ h9 => h9) rfl dX11_count_80 ?_
    obtain ⟨hP9, hD9⟩ : ct_B D A H [oo qh qr qt qd qd2 qi qh_kept qf qf2 vh_laid qo qe qw qu qg qn qs, (qt, .inr (8, [.ref qt_bytes, .int vt_length, .int vt_kind, .int vt_from, .int vt_upto, .int vt_value])), dn qd vd_gap vd_odds vd_rain vd_lines qd_steps qd_lengths qd_starts qd_met qd_stumbles vd_stumbleCount qd_muds qd_cells vd_cellCount qd_tunes vd_tuneCount qd_changes vd_changeCount, (qd_lengths, .inl (cI, 2, .inl (fd_lengths))), (qd_muds, .inl (cI, 200, .inl (fd_muds))), (qs, .inr (7, [.ref qs_widths, .ref qs_sizes, .ref qs_numbers])), (qs_sizes, .inl (cI, 4, .inl (fs_sizes)))] := ⟨hP.sub [0, 1, 2, 3, 4, 5, 6] rfl, hD.sub [0, 1, 2, 3, 4, 5, 6] (by decide) rfl⟩
    exact W.iret (v := vd_odds) hx hb hr (fun t ht hW => ⟨⟨vd_odds, (), rfl, trivial, by rw [ht]; exact hP9, hD9⟩, hS.F ht⟩) hS.2.2 dX11_count_83
  by_cases hq3 : a1.toInt = 2
  · refine lv_tableIn (tgt := 84) (off := 83) hx hb dX11_count_1 (by omega) (by omega) (by rw [hq3]; decide) (by decide) ?_
    refine lv_aload_n hx hb dX11_count_84 rfl (lv_at hl 0 rfl) ?_
    refine va_get (D := D) (ci := 11) (v := .ref qd) (C := RX11) (T := TX11) (N := 16) hx hb hts hi11 hown hK hP 0 rfl rfl 2 (by decide) (hts (.fieldLink RX11 24 "OverHill" "now" "LOverHill$Dance;") (by decide +kernel)) (fun _ h9 => h9) rfl dX11_count_85 ?_
    refine va_get (D := D) (ci := 0) (v := .int vd_rain) (C := RX0) (T := TX0) (N := 17) hx hb hts hi0 hown hK hP 2 rfl rfl 2 (by decide) (hts (.fieldLink RX11 341 "OverHill$Dance" "rain" "I") (by decide +kernel)) (fun _ h9 => h9) rfl dX11_count_88 ?_
    obtain ⟨hP9, hD9⟩ : ct_B D A H [oo qh qr qt qd qd2 qi qh_kept qf qf2 vh_laid qo qe qw qu qg qn qs, (qt, .inr (8, [.ref qt_bytes, .int vt_length, .int vt_kind, .int vt_from, .int vt_upto, .int vt_value])), dn qd vd_gap vd_odds vd_rain vd_lines qd_steps qd_lengths qd_starts qd_met qd_stumbles vd_stumbleCount qd_muds qd_cells vd_cellCount qd_tunes vd_tuneCount qd_changes vd_changeCount, (qd_lengths, .inl (cI, 2, .inl (fd_lengths))), (qd_muds, .inl (cI, 200, .inl (fd_muds))), (qs, .inr (7, [.ref qs_widths, .ref qs_sizes, .ref qs_numbers])), (qs_sizes, .inl (cI, 4, .inl (fs_sizes)))] := ⟨hP.sub [0, 1, 2, 3, 4, 5, 6] rfl, hD.sub [0, 1, 2, 3, 4, 5, 6] (by decide) rfl⟩
    exact W.iret (v := vd_rain) hx hb hr (fun t ht hW => ⟨⟨vd_rain, (), rfl, trivial, by rw [ht]; exact hP9, hD9⟩, hS.F ht⟩) hS.2.2 dX11_count_91
  by_cases hq4 : a1.toInt = 3
  · refine lv_tableIn (tgt := 92) (off := 91) hx hb dX11_count_1 (by omega) (by omega) (by rw [hq4]; decide) (by decide) ?_
    refine lv_aload_n hx hb dX11_count_92 rfl (lv_at hl 0 rfl) ?_
    refine va_get (D := D) (ci := 11) (v := .ref qd) (C := RX11) (T := TX11) (N := 16) hx hb hts hi11 hown hK hP 0 rfl rfl 2 (by decide) (hts (.fieldLink RX11 24 "OverHill" "now" "LOverHill$Dance;") (by decide +kernel)) (fun _ h9 => h9) rfl dX11_count_93 ?_
    refine va_get (D := D) (ci := 0) (v := .ref qd_lengths) (C := RX0) (T := TX0) (N := 17) hx hb hts hi0 hown hK hP 2 rfl rfl 5 (by decide) (hts (.fieldLink RX11 178 "OverHill$Dance" "lengths" "[I") (by decide +kernel)) (fun _ h9 => h9) rfl dX11_count_96 ?_
    refine lv_iconst (v := 0) hx hb dX11_count_99 (by decide) ?_
    refine va_iald (D := D) hx hb hK hP 3 0 rfl rfl (tq_in (a := 0) (by decide) (by omega)) dX11_count_100 ?_
    refine lv_topi (fun z5 ez5 => ?_)
    have fz5 : 0 ≤ z5.toInt ∧ z5.toInt ≤ 12 := by rw [ez5]; exact ar_get h_fd_lengths (0 : Int32) 0 (by decide) (by decide) rfl
    obtain ⟨hP9, hD9⟩ : ct_B D A H [oo qh qr qt qd qd2 qi qh_kept qf qf2 vh_laid qo qe qw qu qg qn qs, (qt, .inr (8, [.ref qt_bytes, .int vt_length, .int vt_kind, .int vt_from, .int vt_upto, .int vt_value])), dn qd vd_gap vd_odds vd_rain vd_lines qd_steps qd_lengths qd_starts qd_met qd_stumbles vd_stumbleCount qd_muds qd_cells vd_cellCount qd_tunes vd_tuneCount qd_changes vd_changeCount, (qd_lengths, .inl (cI, 2, .inl (fd_lengths))), (qd_muds, .inl (cI, 200, .inl (fd_muds))), (qs, .inr (7, [.ref qs_widths, .ref qs_sizes, .ref qs_numbers])), (qs_sizes, .inl (cI, 4, .inl (fs_sizes)))] := ⟨hP.sub [0, 1, 2, 3, 4, 5, 6] rfl, hD.sub [0, 1, 2, 3, 4, 5, 6] (by decide) rfl⟩
    exact W.iret (v := z5) hx hb hr (fun t ht hW => ⟨⟨z5, (), rfl, trivial, by rw [ht]; exact hP9, hD9⟩, hS.F ht⟩) hS.2.2 dX11_count_101
  by_cases hq6 : a1.toInt = 4
  · refine lv_tableIn (tgt := 102) (off := 101) hx hb dX11_count_1 (by omega) (by omega) (by rw [hq6]; decide) (by decide) ?_
    refine lv_aload_n hx hb dX11_count_102 rfl (lv_at hl 0 rfl) ?_
    refine va_get (D := D) (ci := 11) (v := .ref qd) (C := RX11) (T := TX11) (N := 16) hx hb hts hi11 hown hK hP 0 rfl rfl 2 (by decide) (hts (.fieldLink RX11 24 "OverHill" "now" "LOverHill$Dance;") (by decide +kernel)) (fun _ h9 => h9) rfl dX11_count_103 ?_
    refine va_get (D := D) (ci := 0) (v := .ref qd_lengths) (C := RX0) (T := TX0) (N := 17) hx hb hts hi0 hown hK hP 2 rfl rfl 5 (by decide) (hts (.fieldLink RX11 178 "OverHill$Dance" "lengths" "[I") (by decide +kernel)) (fun _ h9 => h9) rfl dX11_count_106 ?_
    refine lv_iconst (v := 1) hx hb dX11_count_109 (by decide) ?_
    refine va_iald (D := D) hx hb hK hP 3 0 rfl rfl (tq_in (a := 1) (by decide) (by omega)) dX11_count_110 ?_
    refine lv_topi (fun z7 ez7 => ?_)
    have fz7 : 0 ≤ z7.toInt ∧ z7.toInt ≤ 12 := by rw [ez7]; exact ar_get h_fd_lengths (1 : Int32) 0 (by decide) (by decide) rfl
    obtain ⟨hP9, hD9⟩ : ct_B D A H [oo qh qr qt qd qd2 qi qh_kept qf qf2 vh_laid qo qe qw qu qg qn qs, (qt, .inr (8, [.ref qt_bytes, .int vt_length, .int vt_kind, .int vt_from, .int vt_upto, .int vt_value])), dn qd vd_gap vd_odds vd_rain vd_lines qd_steps qd_lengths qd_starts qd_met qd_stumbles vd_stumbleCount qd_muds qd_cells vd_cellCount qd_tunes vd_tuneCount qd_changes vd_changeCount, (qd_lengths, .inl (cI, 2, .inl (fd_lengths))), (qd_muds, .inl (cI, 200, .inl (fd_muds))), (qs, .inr (7, [.ref qs_widths, .ref qs_sizes, .ref qs_numbers])), (qs_sizes, .inl (cI, 4, .inl (fs_sizes)))] := ⟨hP.sub [0, 1, 2, 3, 4, 5, 6] rfl, hD.sub [0, 1, 2, 3, 4, 5, 6] (by decide) rfl⟩
    exact W.iret (v := z7) hx hb hr (fun t ht hW => ⟨⟨z7, (), rfl, trivial, by rw [ht]; exact hP9, hD9⟩, hS.F ht⟩) hS.2.2 dX11_count_111
  by_cases hq8 : a1.toInt = 5
  · refine lv_tableIn (tgt := 112) (off := 111) hx hb dX11_count_1 (by omega) (by omega) (by rw [hq8]; decide) (by decide) ?_
    refine lv_aload_n hx hb dX11_count_112 rfl (lv_at hl 0 rfl) ?_
    refine va_get (D := D) (ci := 11) (v := .ref qd) (C := RX11) (T := TX11) (N := 16) hx hb hts hi11 hown hK hP 0 rfl rfl 2 (by decide) (hts (.fieldLink RX11 24 "OverHill" "now" "LOverHill$Dance;") (by decide +kernel)) (fun _ h9 => h9) rfl dX11_count_113 ?_
    refine va_get (D := D) (ci := 0) (v := .int vd_stumbleCount) (C := RX0) (T := TX0) (N := 17) hx hb hts hi0 hown hK hP 2 rfl rfl 9 (by decide) (hts (.fieldLink RX11 216 "OverHill$Dance" "stumbleCount" "I") (by decide +kernel)) (fun _ h9 => h9) rfl dX11_count_116 ?_
    obtain ⟨hP9, hD9⟩ : ct_B D A H [oo qh qr qt qd qd2 qi qh_kept qf qf2 vh_laid qo qe qw qu qg qn qs, (qt, .inr (8, [.ref qt_bytes, .int vt_length, .int vt_kind, .int vt_from, .int vt_upto, .int vt_value])), dn qd vd_gap vd_odds vd_rain vd_lines qd_steps qd_lengths qd_starts qd_met qd_stumbles vd_stumbleCount qd_muds qd_cells vd_cellCount qd_tunes vd_tuneCount qd_changes vd_changeCount, (qd_lengths, .inl (cI, 2, .inl (fd_lengths))), (qd_muds, .inl (cI, 200, .inl (fd_muds))), (qs, .inr (7, [.ref qs_widths, .ref qs_sizes, .ref qs_numbers])), (qs_sizes, .inl (cI, 4, .inl (fs_sizes)))] := ⟨hP.sub [0, 1, 2, 3, 4, 5, 6] rfl, hD.sub [0, 1, 2, 3, 4, 5, 6] (by decide) rfl⟩
    exact W.iret (v := vd_stumbleCount) hx hb hr (fun t ht hW => ⟨⟨vd_stumbleCount, (), rfl, trivial, by rw [ht]; exact hP9, hD9⟩, hS.F ht⟩) hS.2.2 dX11_count_119
  by_cases hq9 : a1.toInt = 6
  · refine lv_tableIn (tgt := 120) (off := 119) hx hb dX11_count_1 (by omega) (by omega) (by rw [hq9]; decide) (by decide) ?_
    refine lv_aload_n hx hb dX11_count_120 rfl (lv_at hl 0 rfl) ?_
    refine va_get (D := D) (ci := 11) (v := .ref qd) (C := RX11) (T := TX11) (N := 16) hx hb hts hi11 hown hK hP 0 rfl rfl 2 (by decide) (hts (.fieldLink RX11 24 "OverHill" "now" "LOverHill$Dance;") (by decide +kernel)) (fun _ h9 => h9) rfl dX11_count_121 ?_
    refine ct_calli (D := D) (wr := [oo qh qr qt qd qd2 qi qh_kept qf qf2 vh_laid qo qe qw qu qg qn qs, (qt, .inr (8, [.ref qt_bytes, .int vt_length, .int vt_kind, .int vt_from, .int vt_upto, .int vt_value])), (qd_lengths, .inl (cI, 2, .inl (fd_lengths))), (qs, .inr (7, [.ref qs_widths, .ref qs_sizes, .ref qs_numbers])), (qs_sizes, .inl (cI, 4, .inl (fs_sizes)))]) (va_runV (As := []) (rest := []) ⟨hx, hb, hml, hown, hts⟩ (c_X0_countMuds l D G cI cJ cB cZ cO qd vd_gap vd_odds vd_rain vd_lines qd_steps qd_lengths qd_starts qd_met qd_stumbles vd_stumbleCount qd_muds fd_muds qd_cells vd_cellCount qd_tunes vd_tuneCount qd_changes vd_changeCount h_vd_gap h_vd_stumbleCount h_vd_cellCount h_vd_tuneCount h_vd_changeCount H.size) (cwV 0 hts gX11_count_X0_countMuds rfl rfl rfl (by decide +kernel) ⟨Nat.le_of_ble_eq_true rfl, Nat.le_of_ble_eq_true rfl⟩) (ct_preV (T := ct_T cI cJ cB cZ cO) (ci := 0) (q0 := 2) hE hH hP hD hS hA [2, 4] (by decide) rfl rfl rfl) rfl rfl hl.1 rfl (lv_room (Nat.le_of_ble_eq_true rfl)) dX11_count_124 ⟨Nat.le_of_ble_eq_true rfl, Nat.le_of_ble_eq_true rfl⟩) hP hD hS hA [2, 4] [0, 1, 3, 5, 6] rfl rfl (by decide) (by decide) (fun r10 u H locs hw hP hD hS => ?_)
    obtain ⟨hP, hD⟩ : ct_B D A H [oo qh qr qt qd qd2 qi qh_kept qf qf2 vh_laid qo qe qw qu qg qn qs, (qt, .inr (8, [.ref qt_bytes, .int vt_length, .int vt_kind, .int vt_from, .int vt_upto, .int vt_value])), (qd_lengths, .inl (cI, 2, .inl (fd_lengths))), (qs, .inr (7, [.ref qs_widths, .ref qs_sizes, .ref qs_numbers])), (qs_sizes, .inl (cI, 4, .inl (fs_sizes))), dn qd vd_gap vd_odds vd_rain vd_lines qd_steps qd_lengths qd_starts qd_met qd_stumbles vd_stumbleCount qd_muds qd_cells vd_cellCount qd_tunes vd_tuneCount qd_changes vd_changeCount, (qd_muds, .inl (cI, 200, .inl (fd_muds)))] := ⟨hP, hD⟩
    obtain ⟨hP9, hD9⟩ : ct_B D A H [oo qh qr qt qd qd2 qi qh_kept qf qf2 vh_laid qo qe qw qu qg qn qs, (qt, .inr (8, [.ref qt_bytes, .int vt_length, .int vt_kind, .int vt_from, .int vt_upto, .int vt_value])), dn qd vd_gap vd_odds vd_rain vd_lines qd_steps qd_lengths qd_starts qd_met qd_stumbles vd_stumbleCount qd_muds qd_cells vd_cellCount qd_tunes vd_tuneCount qd_changes vd_changeCount, (qd_lengths, .inl (cI, 2, .inl (fd_lengths))), (qd_muds, .inl (cI, 200, .inl (fd_muds))), (qs, .inr (7, [.ref qs_widths, .ref qs_sizes, .ref qs_numbers])), (qs_sizes, .inl (cI, 4, .inl (fs_sizes)))] := ⟨hP.sub [0, 1, 5, 2, 6, 3, 4] rfl, hD.sub [0, 1, 5, 2, 6, 3, 4] (by decide) rfl⟩
    exact W.iret (v := r10) hx hb hr (fun t ht hW => ⟨⟨r10, (), rfl, trivial, by rw [ht]; exact hP9, hD9⟩, hS.F ht⟩) hS.2.2 dX11_count_127
  by_cases hq11 : a1.toInt = 7
  · refine lv_tableIn (tgt := 128) (off := 127) hx hb dX11_count_1 (by omega) (by omega) (by rw [hq11]; decide) (by decide) ?_
    refine lv_aload_n hx hb dX11_count_128 rfl (lv_at hl 0 rfl) ?_
    refine va_get (D := D) (ci := 11) (v := .ref qd) (C := RX11) (T := TX11) (N := 16) hx hb hts hi11 hown hK hP 0 rfl rfl 2 (by decide) (hts (.fieldLink RX11 24 "OverHill" "now" "LOverHill$Dance;") (by decide +kernel)) (fun _ h9 => h9) rfl dX11_count_129 ?_
    refine va_get (D := D) (ci := 0) (v := .int vd_cellCount) (C := RX0) (T := TX0) (N := 17) hx hb hts hi0 hown hK hP 2 rfl rfl 12 (by decide) (hts (.fieldLink RX11 398 "OverHill$Dance" "cellCount" "I") (by decide +kernel)) (fun _ h9 => h9) rfl dX11_count_132 ?_
    obtain ⟨hP9, hD9⟩ : ct_B D A H [oo qh qr qt qd qd2 qi qh_kept qf qf2 vh_laid qo qe qw qu qg qn qs, (qt, .inr (8, [.ref qt_bytes, .int vt_length, .int vt_kind, .int vt_from, .int vt_upto, .int vt_value])), dn qd vd_gap vd_odds vd_rain vd_lines qd_steps qd_lengths qd_starts qd_met qd_stumbles vd_stumbleCount qd_muds qd_cells vd_cellCount qd_tunes vd_tuneCount qd_changes vd_changeCount, (qd_lengths, .inl (cI, 2, .inl (fd_lengths))), (qd_muds, .inl (cI, 200, .inl (fd_muds))), (qs, .inr (7, [.ref qs_widths, .ref qs_sizes, .ref qs_numbers])), (qs_sizes, .inl (cI, 4, .inl (fs_sizes)))] := ⟨hP.sub [0, 1, 2, 3, 4, 5, 6] rfl, hD.sub [0, 1, 2, 3, 4, 5, 6] (by decide) rfl⟩
    exact W.iret (v := vd_cellCount) hx hb hr (fun t ht hW => ⟨⟨vd_cellCount, (), rfl, trivial, by rw [ht]; exact hP9, hD9⟩, hS.F ht⟩) hS.2.2 dX11_count_135
  by_cases hq12 : a1.toInt = 8
  · refine lv_tableIn (tgt := 136) (off := 135) hx hb dX11_count_1 (by omega) (by omega) (by rw [hq12]; decide) (by decide) ?_
    refine lv_aload_n hx hb dX11_count_136 rfl (lv_at hl 0 rfl) ?_
    refine va_get (D := D) (ci := 11) (v := .ref qd) (C := RX11) (T := TX11) (N := 16) hx hb hts hi11 hown hK hP 0 rfl rfl 2 (by decide) (hts (.fieldLink RX11 24 "OverHill" "now" "LOverHill$Dance;") (by decide +kernel)) (fun _ h9 => h9) rfl dX11_count_137 ?_
    refine va_get (D := D) (ci := 0) (v := .int vd_tuneCount) (C := RX0) (T := TX0) (N := 17) hx hb hts hi0 hown hK hP 2 rfl rfl 14 (by decide) (hts (.fieldLink RX11 401 "OverHill$Dance" "tuneCount" "I") (by decide +kernel)) (fun _ h9 => h9) rfl dX11_count_140 ?_
    obtain ⟨hP9, hD9⟩ : ct_B D A H [oo qh qr qt qd qd2 qi qh_kept qf qf2 vh_laid qo qe qw qu qg qn qs, (qt, .inr (8, [.ref qt_bytes, .int vt_length, .int vt_kind, .int vt_from, .int vt_upto, .int vt_value])), dn qd vd_gap vd_odds vd_rain vd_lines qd_steps qd_lengths qd_starts qd_met qd_stumbles vd_stumbleCount qd_muds qd_cells vd_cellCount qd_tunes vd_tuneCount qd_changes vd_changeCount, (qd_lengths, .inl (cI, 2, .inl (fd_lengths))), (qd_muds, .inl (cI, 200, .inl (fd_muds))), (qs, .inr (7, [.ref qs_widths, .ref qs_sizes, .ref qs_numbers])), (qs_sizes, .inl (cI, 4, .inl (fs_sizes)))] := ⟨hP.sub [0, 1, 2, 3, 4, 5, 6] rfl, hD.sub [0, 1, 2, 3, 4, 5, 6] (by decide) rfl⟩
    exact W.iret (v := vd_tuneCount) hx hb hr (fun t ht hW => ⟨⟨vd_tuneCount, (), rfl, trivial, by rw [ht]; exact hP9, hD9⟩, hS.F ht⟩) hS.2.2 dX11_count_143
  by_cases hq13 : a1.toInt = 9
  · refine lv_tableIn (tgt := 144) (off := 143) hx hb dX11_count_1 (by omega) (by omega) (by rw [hq13]; decide) (by decide) ?_
    refine lv_aload_n hx hb dX11_count_144 rfl (lv_at hl 0 rfl) ?_
    refine va_get (D := D) (ci := 11) (v := .ref qd) (C := RX11) (T := TX11) (N := 16) hx hb hts hi11 hown hK hP 0 rfl rfl 2 (by decide) (hts (.fieldLink RX11 24 "OverHill" "now" "LOverHill$Dance;") (by decide +kernel)) (fun _ h9 => h9) rfl dX11_count_145 ?_
    refine va_get (D := D) (ci := 0) (v := .int vd_changeCount) (C := RX0) (T := TX0) (N := 17) hx hb hts hi0 hown hK hP 2 rfl rfl 16 (by decide) (hts (.fieldLink RX11 369 "OverHill$Dance" "changeCount" "I") (by decide +kernel)) (fun _ h9 => h9) rfl dX11_count_148 ?_
    obtain ⟨hP9, hD9⟩ : ct_B D A H [oo qh qr qt qd qd2 qi qh_kept qf qf2 vh_laid qo qe qw qu qg qn qs, (qt, .inr (8, [.ref qt_bytes, .int vt_length, .int vt_kind, .int vt_from, .int vt_upto, .int vt_value])), dn qd vd_gap vd_odds vd_rain vd_lines qd_steps qd_lengths qd_starts qd_met qd_stumbles vd_stumbleCount qd_muds qd_cells vd_cellCount qd_tunes vd_tuneCount qd_changes vd_changeCount, (qd_lengths, .inl (cI, 2, .inl (fd_lengths))), (qd_muds, .inl (cI, 200, .inl (fd_muds))), (qs, .inr (7, [.ref qs_widths, .ref qs_sizes, .ref qs_numbers])), (qs_sizes, .inl (cI, 4, .inl (fs_sizes)))] := ⟨hP.sub [0, 1, 2, 3, 4, 5, 6] rfl, hD.sub [0, 1, 2, 3, 4, 5, 6] (by decide) rfl⟩
    exact W.iret (v := vd_changeCount) hx hb hr (fun t ht hW => ⟨⟨vd_changeCount, (), rfl, trivial, by rw [ht]; exact hP9, hD9⟩, hS.F ht⟩) hS.2.2 dX11_count_151
  by_cases hq14 : a1.toInt = 10
  · refine lv_tableIn (tgt := 152) (off := 151) hx hb dX11_count_1 (by omega) (by omega) (by rw [hq14]; decide) (by decide) ?_
    refine lv_aload_n hx hb dX11_count_152 rfl (lv_at hl 0 rfl) ?_
    refine va_get (D := D) (ci := 11) (v := .ref qd) (C := RX11) (T := TX11) (N := 16) hx hb hts hi11 hown hK hP 0 rfl rfl 2 (by decide) (hts (.fieldLink RX11 24 "OverHill" "now" "LOverHill$Dance;") (by decide +kernel)) (fun _ h9 => h9) rfl dX11_count_153 ?_
    refine va_get (D := D) (ci := 0) (v := .int vd_lines) (C := RX0) (T := TX0) (N := 17) hx hb hts hi0 hown hK hP 2 rfl rfl 3 (by decide) (hts (.fieldLink RX11 116 "OverHill$Dance" "lines" "I") (by decide +kernel)) (fun _ h9 => h9) rfl dX11_count_156 ?_
    obtain ⟨hP9, hD9⟩ : ct_B D A H [oo qh qr qt qd qd2 qi qh_kept qf qf2 vh_laid qo qe qw qu qg qn qs, (qt, .inr (8, [.ref qt_bytes, .int vt_length, .int vt_kind, .int vt_from, .int vt_upto, .int vt_value])), dn qd vd_gap vd_odds vd_rain vd_lines qd_steps qd_lengths qd_starts qd_met qd_stumbles vd_stumbleCount qd_muds qd_cells vd_cellCount qd_tunes vd_tuneCount qd_changes vd_changeCount, (qd_lengths, .inl (cI, 2, .inl (fd_lengths))), (qd_muds, .inl (cI, 200, .inl (fd_muds))), (qs, .inr (7, [.ref qs_widths, .ref qs_sizes, .ref qs_numbers])), (qs_sizes, .inl (cI, 4, .inl (fs_sizes)))] := ⟨hP.sub [0, 1, 2, 3, 4, 5, 6] rfl, hD.sub [0, 1, 2, 3, 4, 5, 6] (by decide) rfl⟩
    exact W.iret (v := vd_lines) hx hb hr (fun t ht hW => ⟨⟨vd_lines, (), rfl, trivial, by rw [ht]; exact hP9, hD9⟩, hS.F ht⟩) hS.2.2 dX11_count_159
  by_cases hq15 : a1.toInt = 11
  · refine lv_tableIn (tgt := 160) (off := 159) hx hb dX11_count_1 (by omega) (by omega) (by rw [hq15]; decide) (by decide) ?_
    refine lv_aload_n hx hb dX11_count_160 rfl (lv_at hl 0 rfl) ?_
    refine va_get (D := D) (ci := 11) (v := .ref qt) (C := RX11) (T := TX11) (N := 16) hx hb hts hi11 hown hK hP 0 rfl rfl 1 (by decide) (hts (.fieldLink RX11 20 "OverHill" "tape" "LOverHill$Tape;") (by decide +kernel)) (fun _ h9 => h9) rfl dX11_count_161 ?_
    refine va_get (D := D) (ci := 8) (v := .int vt_length) (C := RX8) (T := TX8) (N := 6) hx hb hts hi8 hown hK hP 1 rfl rfl 1 (by decide) (hts (.fieldLink RX11 102 "OverHill$Tape" "length" "I") (by decide +kernel)) (fun _ h9 => h9) rfl dX11_count_164 ?_
    obtain ⟨hP9, hD9⟩ : ct_B D A H [oo qh qr qt qd qd2 qi qh_kept qf qf2 vh_laid qo qe qw qu qg qn qs, (qt, .inr (8, [.ref qt_bytes, .int vt_length, .int vt_kind, .int vt_from, .int vt_upto, .int vt_value])), dn qd vd_gap vd_odds vd_rain vd_lines qd_steps qd_lengths qd_starts qd_met qd_stumbles vd_stumbleCount qd_muds qd_cells vd_cellCount qd_tunes vd_tuneCount qd_changes vd_changeCount, (qd_lengths, .inl (cI, 2, .inl (fd_lengths))), (qd_muds, .inl (cI, 200, .inl (fd_muds))), (qs, .inr (7, [.ref qs_widths, .ref qs_sizes, .ref qs_numbers])), (qs_sizes, .inl (cI, 4, .inl (fs_sizes)))] := ⟨hP.sub [0, 1, 2, 3, 4, 5, 6] rfl, hD.sub [0, 1, 2, 3, 4, 5, 6] (by decide) rfl⟩
    exact W.iret (v := vt_length) hx hb hr (fun t ht hW => ⟨⟨vt_length, (), rfl, trivial, by rw [ht]; exact hP9, hD9⟩, hS.F ht⟩) hS.2.2 dX11_count_167
  by_cases hq16 : a1.toInt = 12
  · refine lv_tableIn (tgt := 168) (off := 167) hx hb dX11_count_1 (by omega) (by omega) (by rw [hq16]; decide) (by decide) ?_
    refine lv_aload_n hx hb dX11_count_168 rfl (lv_at hl 0 rfl) ?_
    refine va_get (D := D) (ci := 11) (v := .ref qs) (C := RX11) (T := TX11) (N := 16) hx hb hts hi11 hown hK hP 0 rfl rfl 15 (by decide) (hts (.fieldLink RX11 98 "OverHill" "slots" "LOverHill$Slots;") (by decide +kernel)) (fun _ h9 => h9) rfl dX11_count_169 ?_
    refine ct_calli (D := D) (wr := [oo qh qr qt qd qd2 qi qh_kept qf qf2 vh_laid qo qe qw qu qg qn qs, (qt, .inr (8, [.ref qt_bytes, .int vt_length, .int vt_kind, .int vt_from, .int vt_upto, .int vt_value])), dn qd vd_gap vd_odds vd_rain vd_lines qd_steps qd_lengths qd_starts qd_met qd_stumbles vd_stumbleCount qd_muds qd_cells vd_cellCount qd_tunes vd_tuneCount qd_changes vd_changeCount, (qd_lengths, .inl (cI, 2, .inl (fd_lengths))), (qd_muds, .inl (cI, 200, .inl (fd_muds)))]) (va_runV (As := []) (rest := []) ⟨hx, hb, hml, hown, hts⟩ (c_X7_countRows l D G cI cJ cB cZ cO qs qs_widths qs_sizes fs_sizes qs_numbers h_fs_sizes H.size) (cwV 0 hts gX11_count_X7_countRows rfl rfl rfl (by decide +kernel) ⟨Nat.le_of_ble_eq_true rfl, Nat.le_of_ble_eq_true rfl⟩) (ct_preV (T := ct_T cI cJ cB cZ cO) (ci := 7) (q0 := 5) hE hH hP hD hS hA [5, 6] (by decide) rfl rfl rfl) rfl rfl hl.1 rfl (lv_room (Nat.le_of_ble_eq_true rfl)) dX11_count_172 ⟨Nat.le_of_ble_eq_true rfl, Nat.le_of_ble_eq_true rfl⟩) hP hD hS hA [5, 6] [0, 1, 2, 3, 4] rfl rfl (by decide) (by decide) (fun r17 u H locs hw hP hD hS => ?_)
    obtain ⟨hP, hD⟩ : ct_B D A H [oo qh qr qt qd qd2 qi qh_kept qf qf2 vh_laid qo qe qw qu qg qn qs, (qt, .inr (8, [.ref qt_bytes, .int vt_length, .int vt_kind, .int vt_from, .int vt_upto, .int vt_value])), dn qd vd_gap vd_odds vd_rain vd_lines qd_steps qd_lengths qd_starts qd_met qd_stumbles vd_stumbleCount qd_muds qd_cells vd_cellCount qd_tunes vd_tuneCount qd_changes vd_changeCount, (qd_lengths, .inl (cI, 2, .inl (fd_lengths))), (qd_muds, .inl (cI, 200, .inl (fd_muds))), (qs, .inr (7, [.ref qs_widths, .ref qs_sizes, .ref qs_numbers])), (qs_sizes, .inl (cI, 4, .inl (fs_sizes)))] := ⟨hP, hD⟩
    obtain ⟨hP9, hD9⟩ : ct_B D A H [oo qh qr qt qd qd2 qi qh_kept qf qf2 vh_laid qo qe qw qu qg qn qs, (qt, .inr (8, [.ref qt_bytes, .int vt_length, .int vt_kind, .int vt_from, .int vt_upto, .int vt_value])), dn qd vd_gap vd_odds vd_rain vd_lines qd_steps qd_lengths qd_starts qd_met qd_stumbles vd_stumbleCount qd_muds qd_cells vd_cellCount qd_tunes vd_tuneCount qd_changes vd_changeCount, (qd_lengths, .inl (cI, 2, .inl (fd_lengths))), (qd_muds, .inl (cI, 200, .inl (fd_muds))), (qs, .inr (7, [.ref qs_widths, .ref qs_sizes, .ref qs_numbers])), (qs_sizes, .inl (cI, 4, .inl (fs_sizes)))] := ⟨hP.sub [0, 1, 2, 3, 4, 5, 6] rfl, hD.sub [0, 1, 2, 3, 4, 5, 6] (by decide) rfl⟩
    exact W.iret (v := r17) hx hb hr (fun t ht hW => ⟨⟨r17, (), rfl, trivial, by rw [ht]; exact hP9, hD9⟩, hS.F ht⟩) hS.2.2 dX11_count_175
  refine lv_tableOut (tgt := 176) hx hb dX11_count_1 (by omega) (by decide) ?_
  refine lv_iconst (v := (-1)) hx hb dX11_count_176 (by decide) ?_
  obtain ⟨hP9, hD9⟩ : ct_B D A H [oo qh qr qt qd qd2 qi qh_kept qf qf2 vh_laid qo qe qw qu qg qn qs, (qt, .inr (8, [.ref qt_bytes, .int vt_length, .int vt_kind, .int vt_from, .int vt_upto, .int vt_value])), dn qd vd_gap vd_odds vd_rain vd_lines qd_steps qd_lengths qd_starts qd_met qd_stumbles vd_stumbleCount qd_muds qd_cells vd_cellCount qd_tunes vd_tuneCount qd_changes vd_changeCount, (qd_lengths, .inl (cI, 2, .inl (fd_lengths))), (qd_muds, .inl (cI, 200, .inl (fd_muds))), (qs, .inr (7, [.ref qs_widths, .ref qs_sizes, .ref qs_numbers])), (qs_sizes, .inl (cI, 4, .inl (fs_sizes)))] := ⟨hP.sub [0, 1, 2, 3, 4, 5, 6] rfl, hD.sub [0, 1, 2, 3, 4, 5, 6] (by decide) rfl⟩
  exact W.iret (v := (-1)) hx hb hr (fun t ht hW => ⟨⟨(-1), (), rfl, trivial, by rw [ht]; exact hP9, hD9⟩, hS.F ht⟩) hS.2.2 dX11_count_177
abbrev w_c_X11_row (cI cJ cB cZ cO : ClassId) (qh : Nat) (qh_kept : Nat) (vh_laid : Int32) (qi : Nat) (qr : Nat) (qt : Nat) (qd : Nat) (qd2 : Nat) (qf : Nat) (qf2 : Nat) (qo : Nat) (qe : Nat) (qw : Nat) (qu : Nat) (qg : Nat) (qn : Nat) (qs : Nat) (qs_widths : Nat) (fs_widths : Nat → Int32) (qs_sizes : Nat) (fs_sizes : Nat → Int32) (qs_numbers : Nat) (fs_numbers : Nat → Int64) : va_W := [oo qh qr qt qd qd2 qi qh_kept qf qf2 vh_laid qo qe qw qu qg qn qs, (qs, .inr (7, [.ref qs_widths, .ref qs_sizes, .ref qs_numbers])), (qs_widths, .inl (cI, 4, .inl (fs_widths))), (qs_sizes, .inl (cI, 4, .inl (fs_sizes))), (qs_numbers, .inl (cJ, 240, .inr (.inl (fs_numbers))))]
set_option maxHeartbeats 4000000 in
set_option maxRecDepth 100000 in
/-- X11 row -/
theorem c_X11_row (l : Launch) (D : va_G) (G : ct_G) (cI cJ cB cZ cO : ClassId) (qh : Nat) (qh_kept : Nat) (vh_laid : Int32) (qi : Nat) (qr : Nat) (qt : Nat) (qd : Nat) (qd2 : Nat) (qf : Nat) (qf2 : Nat) (qo : Nat) (qe : Nat) (qw : Nat) (qu : Nat) (qg : Nat) (qn : Nat) (qs : Nat) (qs_widths : Nat) (fs_widths : Nat → Int32) (qs_sizes : Nat) (fs_sizes : Nat → Int32) (qs_numbers : Nat) (fs_numbers : Nat → Int64) (a1 : Int32) (a2 : Int32) (a3 : Int32) (h_fs_sizes : ar_ok [(-1)] [60] fs_sizes) (sz : Nat) : Met l yX11_row wsX11_row ({ frames := 2, cells := 0, slots := 0, locals := 41 }) (va_Pc [.ref qh, .int a1, .int a2, .int a3] (ct_P D (ct_T cI cJ cB cZ cO) G (w_c_X11_row cI cJ cB cZ cO qh qh_kept vh_laid qi qr qt qd qd2 qf qf2 qo qe qw qu qg qn qs qs_widths fs_widths qs_sizes fs_sizes qs_numbers fs_numbers) sz)) (va_Qi (fun (rz : Int32) (u : (Nat → Int32) × (Nat → Int32) × (Nat → Int64)) => ((rz = (-2) ∧ ¬ ((0 ≤ a1.toInt ∧ a1.toInt < 4) ∧ (0 ≤ a2.toInt ∧ a2.toInt < 4) ∧ a3.toInt ≤ 60)) ∨ (rz = (-3) ∧ (((0 ≤ a1.toInt ∧ a1.toInt < 4) ∧ (0 ≤ a2.toInt ∧ a2.toInt < 4) ∧ a3.toInt ≤ 60) ∧ a3.toInt < 0)) ∨ (rz = 0 ∧ (((0 ≤ a1.toInt ∧ a1.toInt < 4) ∧ (0 ≤ a2.toInt ∧ a2.toInt < 4) ∧ a3.toInt ≤ 60) ∧ 0 ≤ a3.toInt))) ∧ (ar_ok [(-1)] [60] u.2.1) ∧ ((rz = 0 ∧ u.2.1 = upd fs_sizes a1.toNatClampNeg a3 ∧ u.1 = upd fs_widths a1.toNatClampNeg a2 ∧ rowN a1.toInt a3.toInt fs_numbers u.2.2) ∨ (rz ≠ 0 ∧ u.2.1 = fs_sizes ∧ u.1 = fs_widths ∧ u.2.2 = fs_numbers))) (fun (u : (Nat → Int32) × (Nat → Int32) × (Nat → Int64)) t => ct_Q D (va_A (w_c_X11_row cI cJ cB cZ cO qh qh_kept vh_laid qi qr qt qd qd2 qf qf2 qo qe qw qu qg qn qs qs_widths fs_widths qs_sizes fs_sizes qs_numbers fs_numbers) sz) [oo qh qr qt qd qd2 qi qh_kept qf qf2 vh_laid qo qe qw qu qg qn qs, (qs, .inr (7, [.ref qs_widths, .ref qs_sizes, .ref qs_numbers])), (qs_widths, .inl (cI, 4, .inl (u.1))), (qs_sizes, .inl (cI, 4, .inl (u.2.1))), (qs_numbers, .inl (cJ, 240, .inr (.inl (u.2.2))))] t) (va_A (w_c_X11_row cI cJ cB cZ cO qh qh_kept vh_laid qi qr qt qd qd2 qf qf2 qo qe qw qu qg qn qs qs_widths fs_widths qs_sizes fs_sizes qs_numbers fs_numbers) sz)) 0 0 (va_A (w_c_X11_row cI cJ cB cZ cO qh qh_kept vh_laid qi qr qt qd qd2 qf qf2 qo qe qw qu qg qn qs qs_widths fs_widths qs_sizes fs_sizes qs_numbers fs_numbers) sz) := by
  refine Met.ofW (cc := cX11_row) (maxL := 4) (ret := (some .int)) (by decide) rfl ?_
  intro p e s m args below meth c s₁ B hml hv
  obtain ⟨rfl, hsz, hP, hE, hD0, hH⟩ := hv
  have hx := B.exec
  have hb := B.bytes
  have hr := B.returns
  have hts := atoms_spec (ws := wsX11_row) B.pre
  have hown : s.vm.findClass RX11 = some m.cls := findClass_of_methodNamed B.named
  have hlocks := B.notSynchronized
  have hK := hE.1
  have hi11 : ∀ w ∈ u_ws RX11 TX11 16, w ∈ wsX11_row := fun w h => List.mem_cons_of_mem _ (List.mem_append_left _ (List.mem_append_right _ h))
  subst hsz
  have hD := hD0.self (sz := s.heap.size)
  generalize hAe : va_A (w_c_X11_row cI cJ cB cZ cO qh qh_kept vh_laid qi qr qt qd qd2 qf qf2 qo qe qw qu qg qn qs qs_widths fs_widths qs_sizes fs_sizes qs_numbers fs_numbers) s.heap.size = A at hD hH ⊢
  have hA : ∀ q : Nat, s.heap.size ≤ q → A q := fun q h => by rw [← hAe]; exact Or.inr h
  have hS : va_S A s.heap s.heap [] := va_S.rf
  obtain ⟨hP, hD⟩ : ct_B D A s.heap [oo qh qr qt qd qd2 qi qh_kept qf qf2 vh_laid qo qe qw qu qg qn qs, (qs, .inr (7, [.ref qs_widths, .ref qs_sizes, .ref qs_numbers])), (qs_widths, .inl (cI, 4, .inl (fs_widths))), (qs_sizes, .inl (cI, 4, .inl (fs_sizes))), (qs_numbers, .inl (cJ, 240, .inr (.inl (fs_numbers))))] := ⟨hP, hD⟩
  have hl := lv_entry ([.ref qh, .int a1, .int a2, .int a3]) (n := 4) (Nat.le_of_ble_eq_true rfl)
  rw [lg_entry_eq]
  generalize (lg_sl ([.ref qh, .int a1, .int a2, .int a3]) ++ List.replicate (4 - (lg_sl ([.ref qh, .int a1, .int a2, .int a3])).length) Slot.unset).toArray = ls at hl ⊢
  have hl : lv_has ls 4 [(0, .ref qh), (1, .int a1), (2, .int a2), (3, .int a3)] := hl
  obtain ⟨H, hHe⟩ : ∃ H : Heap, H = s.heap := ⟨_, rfl⟩
  rw [← hHe] at hP
  have hS : va_S A s.heap H [] := by rw [hHe]; exact va_S.rf
  refine ct_start hHe ?_
  refine lv_iload_n hx hb dX11_row_0 rfl (lv_at hl 1 rfl) ?_
  refine ct_calli (D := D) (wr := [oo qh qr qt qd qd2 qi qh_kept qf qf2 vh_laid qo qe qw qu qg qn qs, (qs, .inr (7, [.ref qs_widths, .ref qs_sizes, .ref qs_numbers])), (qs_widths, .inl (cI, 4, .inl (fs_widths))), (qs_sizes, .inl (cI, 4, .inl (fs_sizes))), (qs_numbers, .inl (cJ, 240, .inr (.inl (fs_numbers))))]) (va_runS (As := [.int a1]) (rest := []) ⟨hx, hb, hml, hown, hts⟩ (c_X7_isSlot l D G cI cJ cB cZ cO a1  H.size) (va_cwS 1 hts gX11_row_X7_isSlot rfl rfl rfl (by decide +kernel) ⟨Nat.le_of_ble_eq_true rfl, Nat.le_of_ble_eq_true rfl⟩) (ct_preS (T := ct_T cI cJ cB cZ cO) hE hH hP hD hS hA [] (by decide) rfl) rfl rfl hl.1 rfl (lv_room (Nat.le_of_ble_eq_true rfl)) dX11_row_1 ⟨Nat.le_of_ble_eq_true rfl, Nat.le_of_ble_eq_true rfl⟩) hP hD hS hA [] [0, 1, 2, 3, 4] rfl rfl (by decide) (by decide) (fun r1 u H locs hw hP hD hS => ?_)
  obtain ⟨hP, hD⟩ : ct_B D A H [oo qh qr qt qd qd2 qi qh_kept qf qf2 vh_laid qo qe qw qu qg qn qs, (qs, .inr (7, [.ref qs_widths, .ref qs_sizes, .ref qs_numbers])), (qs_widths, .inl (cI, 4, .inl (fs_widths))), (qs_sizes, .inl (cI, 4, .inl (fs_sizes))), (qs_numbers, .inl (cJ, 240, .inr (.inl (fs_numbers))))] := ⟨hP, hD⟩
  have hz := hw
  rcases hz with ⟨hz, hz2⟩ | ⟨hz, hz2⟩
  · subst hz
    have hz_2 : (0 ≤ a1.toInt ∧ a1.toInt < 4) := hz2
    refine lv_if_eq (tgt := 21) hx hb dX11_row_4 (by decide) (fun hc => absurd hc (by decide)) (fun _ => ?_)
    refine lv_iload_n hx hb dX11_row_7 rfl (lv_at hl 2 rfl) ?_
    refine lv_iconst (v := 4) hx hb dX11_row_8 (by decide) ?_
    refine ct_calli (D := D) (wr := [oo qh qr qt qd qd2 qi qh_kept qf qf2 vh_laid qo qe qw qu qg qn qs, (qs, .inr (7, [.ref qs_widths, .ref qs_sizes, .ref qs_numbers])), (qs_widths, .inl (cI, 4, .inl (fs_widths))), (qs_sizes, .inl (cI, 4, .inl (fs_sizes))), (qs_numbers, .inl (cJ, 240, .inr (.inl (fs_numbers))))]) (va_runS (As := [.int a2, .int 4]) (rest := []) ⟨hx, hb, hml, hown, hts⟩ (c_X11_isWithin l D G cI cJ cB cZ cO a2 4  H.size) (va_cwS 2 hts gX11_row_X11_isWithin rfl rfl rfl (by decide +kernel) ⟨Nat.le_of_ble_eq_true rfl, Nat.le_of_ble_eq_true rfl⟩) (ct_preS (T := ct_T cI cJ cB cZ cO) hE hH hP hD hS hA [] (by decide) rfl) rfl rfl hl.1 rfl (lv_room (Nat.le_of_ble_eq_true rfl)) dX11_row_9 ⟨Nat.le_of_ble_eq_true rfl, Nat.le_of_ble_eq_true rfl⟩) hP hD hS hA [] [0, 1, 2, 3, 4] rfl rfl (by decide) (by decide) (fun r3 u H locs hw hP hD hS => ?_)
    obtain ⟨hP, hD⟩ : ct_B D A H [oo qh qr qt qd qd2 qi qh_kept qf qf2 vh_laid qo qe qw qu qg qn qs, (qs, .inr (7, [.ref qs_widths, .ref qs_sizes, .ref qs_numbers])), (qs_widths, .inl (cI, 4, .inl (fs_widths))), (qs_sizes, .inl (cI, 4, .inl (fs_sizes))), (qs_numbers, .inl (cJ, 240, .inr (.inl (fs_numbers))))] := ⟨hP, hD⟩
    have hk4 : (4 : Int32).toInt = 4 := by decide
    have hz := hw
    rcases hz with ⟨hz, hz2⟩ | ⟨hz, hz2⟩
    · subst hz
      have hz_5 : (0 ≤ a2.toInt ∧ a2.toInt < (4 : Int32).toInt) := hz2
      refine lv_if_eq (tgt := 21) hx hb dX11_row_12 (by decide) (fun hc => absurd hc (by decide)) (fun _ => ?_)
      refine lv_iload_n hx hb dX11_row_15 rfl (lv_at hl 3 rfl) ?_
      refine lv_bipush (v := 60) hx hb dX11_row_16 (by decide) ?_
      refine lv_icmp_le (tgt := 24) hx hb dX11_row_18 (by decide) (fun hc => ?_) (fun hc => ?_)
      · have hq6 : a3.toInt ≤ 60 := tq_le rfl (by decide) hc
        have hb7 := tq_lo a3
        refine lv_iload_n hx hb dX11_row_24 rfl (lv_at hl 3 rfl) ?_
        refine lv_if_ge (tgt := 31) hx hb dX11_row_25 (by decide) (fun hc => ?_) (fun hc => ?_)
        · have hq8 : 0 ≤ a3.toInt := tq_le (by decide) rfl hc
          have hb9 := tq_lo a3
          refine lv_aload_n hx hb dX11_row_31 rfl (lv_at hl 0 rfl) ?_
          refine va_get (D := D) (ci := 11) (v := .ref qs) (C := RX11) (T := TX11) (N := 16) hx hb hts hi11 hown hK hP 0 rfl rfl 15 (by decide) (hts (.fieldLink RX11 98 "OverHill" "slots" "LOverHill$Slots;") (by decide +kernel)) (fun _ h9 => h9) rfl dX11_row_32 ?_
          refine lv_iload_n hx hb dX11_row_35 rfl (lv_at hl 1 rfl) ?_
          refine lv_iload_n hx hb dX11_row_36 rfl (lv_at hl 2 rfl) ?_
          refine lv_iload_n hx hb dX11_row_37 rfl (lv_at hl 3 rfl) ?_
          refine ct_callv (D := D) (wr := [oo qh qr qt qd qd2 qi qh_kept qf qf2 vh_laid qo qe qw qu qg qn qs]) (va_runV (As := [.int a1, .int a2, .int a3]) (rest := []) ⟨hx, hb, hml, hown, hts⟩ (c_X7_make l D G cI cJ cB cZ cO qs qs_widths fs_widths qs_sizes fs_sizes qs_numbers fs_numbers a1 a2 a3 h_fs_sizes (by omega) (by omega) H.size) (cwV 3 hts gX11_row_X7_make rfl rfl rfl (by decide +kernel) ⟨Nat.le_of_ble_eq_true rfl, Nat.le_of_ble_eq_true rfl⟩) (ct_preV (T := ct_T cI cJ cB cZ cO) (ci := 7) (q0 := 1) hE hH hP hD hS hA [1, 2, 3, 4] (by decide) rfl rfl rfl) rfl rfl hl.1 rfl (lv_room (Nat.le_of_ble_eq_true rfl)) dX11_row_38 ⟨Nat.le_of_ble_eq_true rfl, Nat.le_of_ble_eq_true rfl⟩) hP hD hS hA [1, 2, 3, 4] [0] rfl rfl (by decide) (by decide) (fun u H locs hw hP hD hS => ?_)
          obtain ⟨g10, g11, g12⟩ := u
          obtain ⟨hP, hD⟩ : ct_B D A H [oo qh qr qt qd qd2 qi qh_kept qf qf2 vh_laid qo qe qw qu qg qn qs, (qs, .inr (7, [.ref qs_widths, .ref qs_sizes, .ref qs_numbers])), (qs_widths, .inl (cI, 4, .inl (g10))), (qs_sizes, .inl (cI, 4, .inl (g11))), (qs_numbers, .inl (cJ, 240, .inr (.inl (g12))))] := ⟨hP, hD⟩
          obtain ⟨hp0, hp1, hp2, hp3⟩ := hw
          have h_g11 : ar_ok [(-1)] [60] g11 := hp0
          have hp_13 : g10 = upd fs_widths a1.toNatClampNeg a2 := hp1
          have hp_14 : g11 = upd fs_sizes a1.toNatClampNeg a3 := hp2
          have hp_15 : rowN a1.toInt 60 fs_numbers g12 := hp3
          refine lv_iconst (v := 0) hx hb dX11_row_41 (by decide) ?_
          have hk16 : (0 : Int32).toInt = 0 := by decide
          obtain ⟨hP9, hD9⟩ : ct_B D A H [oo qh qr qt qd qd2 qi qh_kept qf qf2 vh_laid qo qe qw qu qg qn qs, (qs, .inr (7, [.ref qs_widths, .ref qs_sizes, .ref qs_numbers])), (qs_widths, .inl (cI, 4, .inl (g10))), (qs_sizes, .inl (cI, 4, .inl (g11))), (qs_numbers, .inl (cJ, 240, .inr (.inl (g12))))] := ⟨hP.sub [0, 1, 2, 3, 4] rfl, hD.sub [0, 1, 2, 3, 4] (by decide) rfl⟩
          exact W.iret (v := 0) hx hb hr (fun t ht hW => ⟨⟨0, (g10, g11, g12), rfl, ⟨(Or.inr (Or.inr (⟨rfl, (show (((0 ≤ a1.toInt ∧ a1.toInt < 4) ∧ (0 ≤ a2.toInt ∧ a2.toInt < 4) ∧ a3.toInt ≤ 60) ∧ 0 ≤ a3.toInt) by omega)⟩))), h_g11, (show ((0 : Int32) = 0 ∧ g11 = upd fs_sizes a1.toNatClampNeg a3 ∧ g10 = upd fs_widths a1.toNatClampNeg a2 ∧ rowN a1.toInt a3.toInt fs_numbers g12) ∨ ((0 : Int32) ≠ 0 ∧ g11 = fs_sizes ∧ g10 = fs_widths ∧ g12 = fs_numbers) by exact Or.inl ⟨rfl, hp_14, hp_13, rowN_le hp_15 (by omega)⟩)⟩, by rw [ht]; exact hP9, hD9⟩, hS.F ht⟩) hS.2.2 dX11_row_42
        · have hq8 : a3.toInt < 0 := tq_nle (by decide) rfl hc
          have hb17 := tq_lo a3
          refine lv_bipush (v := (-3)) hx hb dX11_row_28 (by decide) ?_
          have hk18 : (-3 : Int32).toInt = (-3) := by decide
          obtain ⟨hP9, hD9⟩ : ct_B D A H [oo qh qr qt qd qd2 qi qh_kept qf qf2 vh_laid qo qe qw qu qg qn qs, (qs, .inr (7, [.ref qs_widths, .ref qs_sizes, .ref qs_numbers])), (qs_widths, .inl (cI, 4, .inl (fs_widths))), (qs_sizes, .inl (cI, 4, .inl (fs_sizes))), (qs_numbers, .inl (cJ, 240, .inr (.inl (fs_numbers))))] := ⟨hP.sub [0, 1, 2, 3, 4] rfl, hD.sub [0, 1, 2, 3, 4] (by decide) rfl⟩
          exact W.iret (v := (-3)) hx hb hr (fun t ht hW => ⟨⟨(-3), (fs_widths, fs_sizes, fs_numbers), rfl, ⟨(Or.inr (Or.inl ⟨rfl, (show (((0 ≤ a1.toInt ∧ a1.toInt < 4) ∧ (0 ≤ a2.toInt ∧ a2.toInt < 4) ∧ a3.toInt ≤ 60) ∧ a3.toInt < 0) by omega)⟩)), h_fs_sizes, (show ((-3 : Int32) = 0 ∧ fs_sizes = upd fs_sizes a1.toNatClampNeg a3 ∧ fs_widths = upd fs_widths a1.toNatClampNeg a2 ∧ rowN a1.toInt a3.toInt fs_numbers fs_numbers) ∨ ((-3 : Int32) ≠ 0 ∧ fs_sizes = fs_sizes ∧ fs_widths = fs_widths ∧ fs_numbers = fs_numbers) by exact Or.inr ⟨by decide, rfl, rfl, rfl⟩)⟩, by rw [ht]; exact hP9, hD9⟩, hS.F ht⟩) hS.2.2 dX11_row_30
      · have hq6 : 60 < a3.toInt := tq_nle rfl (by decide) hc
        have hb19 := tq_lo a3
        refine lv_bipush (v := (-2)) hx hb dX11_row_21 (by decide) ?_
        have hk20 : (-2 : Int32).toInt = (-2) := by decide
        obtain ⟨hP9, hD9⟩ : ct_B D A H [oo qh qr qt qd qd2 qi qh_kept qf qf2 vh_laid qo qe qw qu qg qn qs, (qs, .inr (7, [.ref qs_widths, .ref qs_sizes, .ref qs_numbers])), (qs_widths, .inl (cI, 4, .inl (fs_widths))), (qs_sizes, .inl (cI, 4, .inl (fs_sizes))), (qs_numbers, .inl (cJ, 240, .inr (.inl (fs_numbers))))] := ⟨hP.sub [0, 1, 2, 3, 4] rfl, hD.sub [0, 1, 2, 3, 4] (by decide) rfl⟩
        exact W.iret (v := (-2)) hx hb hr (fun t ht hW => ⟨⟨(-2), (fs_widths, fs_sizes, fs_numbers), rfl, ⟨(Or.inl ⟨rfl, (show ¬ ((0 ≤ a1.toInt ∧ a1.toInt < 4) ∧ (0 ≤ a2.toInt ∧ a2.toInt < 4) ∧ a3.toInt ≤ 60) by omega)⟩), h_fs_sizes, (show ((-2 : Int32) = 0 ∧ fs_sizes = upd fs_sizes a1.toNatClampNeg a3 ∧ fs_widths = upd fs_widths a1.toNatClampNeg a2 ∧ rowN a1.toInt a3.toInt fs_numbers fs_numbers) ∨ ((-2 : Int32) ≠ 0 ∧ fs_sizes = fs_sizes ∧ fs_widths = fs_widths ∧ fs_numbers = fs_numbers) by exact Or.inr ⟨by decide, rfl, rfl, rfl⟩)⟩, by rw [ht]; exact hP9, hD9⟩, hS.F ht⟩) hS.2.2 dX11_row_23
    · subst hz
      have hz_21 : ¬ (0 ≤ a2.toInt ∧ a2.toInt < (4 : Int32).toInt) := hz2
      refine lv_if_eq (tgt := 21) hx hb dX11_row_12 (by decide) (fun _ => ?_) (fun hc => absurd hc (by decide))
      refine lv_bipush (v := (-2)) hx hb dX11_row_21 (by decide) ?_
      have hk22 : (-2 : Int32).toInt = (-2) := by decide
      obtain ⟨hP9, hD9⟩ : ct_B D A H [oo qh qr qt qd qd2 qi qh_kept qf qf2 vh_laid qo qe qw qu qg qn qs, (qs, .inr (7, [.ref qs_widths, .ref qs_sizes, .ref qs_numbers])), (qs_widths, .inl (cI, 4, .inl (fs_widths))), (qs_sizes, .inl (cI, 4, .inl (fs_sizes))), (qs_numbers, .inl (cJ, 240, .inr (.inl (fs_numbers))))] := ⟨hP.sub [0, 1, 2, 3, 4] rfl, hD.sub [0, 1, 2, 3, 4] (by decide) rfl⟩
      exact W.iret (v := (-2)) hx hb hr (fun t ht hW => ⟨⟨(-2), (fs_widths, fs_sizes, fs_numbers), rfl, ⟨(Or.inl ⟨rfl, (show ¬ ((0 ≤ a1.toInt ∧ a1.toInt < 4) ∧ (0 ≤ a2.toInt ∧ a2.toInt < 4) ∧ a3.toInt ≤ 60) by omega)⟩), h_fs_sizes, (show ((-2 : Int32) = 0 ∧ fs_sizes = upd fs_sizes a1.toNatClampNeg a3 ∧ fs_widths = upd fs_widths a1.toNatClampNeg a2 ∧ rowN a1.toInt a3.toInt fs_numbers fs_numbers) ∨ ((-2 : Int32) ≠ 0 ∧ fs_sizes = fs_sizes ∧ fs_widths = fs_widths ∧ fs_numbers = fs_numbers) by exact Or.inr ⟨by decide, rfl, rfl, rfl⟩)⟩, by rw [ht]; exact hP9, hD9⟩, hS.F ht⟩) hS.2.2 dX11_row_23
  · subst hz
    have hz_23 : ¬ (0 ≤ a1.toInt ∧ a1.toInt < 4) := hz2
    refine lv_if_eq (tgt := 21) hx hb dX11_row_4 (by decide) (fun _ => ?_) (fun hc => absurd hc (by decide))
    refine lv_bipush (v := (-2)) hx hb dX11_row_21 (by decide) ?_
    have hk24 : (-2 : Int32).toInt = (-2) := by decide
    obtain ⟨hP9, hD9⟩ : ct_B D A H [oo qh qr qt qd qd2 qi qh_kept qf qf2 vh_laid qo qe qw qu qg qn qs, (qs, .inr (7, [.ref qs_widths, .ref qs_sizes, .ref qs_numbers])), (qs_widths, .inl (cI, 4, .inl (fs_widths))), (qs_sizes, .inl (cI, 4, .inl (fs_sizes))), (qs_numbers, .inl (cJ, 240, .inr (.inl (fs_numbers))))] := ⟨hP.sub [0, 1, 2, 3, 4] rfl, hD.sub [0, 1, 2, 3, 4] (by decide) rfl⟩
    exact W.iret (v := (-2)) hx hb hr (fun t ht hW => ⟨⟨(-2), (fs_widths, fs_sizes, fs_numbers), rfl, ⟨(Or.inl ⟨rfl, (show ¬ ((0 ≤ a1.toInt ∧ a1.toInt < 4) ∧ (0 ≤ a2.toInt ∧ a2.toInt < 4) ∧ a3.toInt ≤ 60) by omega)⟩), h_fs_sizes, (show ((-2 : Int32) = 0 ∧ fs_sizes = upd fs_sizes a1.toNatClampNeg a3 ∧ fs_widths = upd fs_widths a1.toNatClampNeg a2 ∧ rowN a1.toInt a3.toInt fs_numbers fs_numbers) ∨ ((-2 : Int32) ≠ 0 ∧ fs_sizes = fs_sizes ∧ fs_widths = fs_widths ∧ fs_numbers = fs_numbers) by exact Or.inr ⟨by decide, rfl, rfl, rfl⟩)⟩, by rw [ht]; exact hP9, hD9⟩, hS.F ht⟩) hS.2.2 dX11_row_23
abbrev w_c_X11_write (cI cJ cB cZ cO : ClassId) (qh : Nat) (qh_kept : Nat) (vh_laid : Int32) (qi : Nat) (qr : Nat) (qt : Nat) (qd : Nat) (qd2 : Nat) (qf : Nat) (qf2 : Nat) (qo : Nat) (qe : Nat) (qw : Nat) (qu : Nat) (qg : Nat) (qn : Nat) (qs : Nat) (qs_widths : Nat) (fs_widths : Nat → Int32) (qs_sizes : Nat) (fs_sizes : Nat → Int32) (qs_numbers : Nat) (fs_numbers : Nat → Int64) : va_W := [oo qh qr qt qd qd2 qi qh_kept qf qf2 vh_laid qo qe qw qu qg qn qs, (qs, .inr (7, [.ref qs_widths, .ref qs_sizes, .ref qs_numbers])), (qs_widths, .inl (cI, 4, .inl (fs_widths))), (qs_sizes, .inl (cI, 4, .inl (fs_sizes))), (qs_numbers, .inl (cJ, 240, .inr (.inl (fs_numbers))))]
set_option maxHeartbeats 4000000 in
set_option maxRecDepth 100000 in
/-- X11 write -/
theorem c_X11_write (l : Launch) (D : va_G) (G : ct_G) (cI cJ cB cZ cO : ClassId) (qh : Nat) (qh_kept : Nat) (vh_laid : Int32) (qi : Nat) (qr : Nat) (qt : Nat) (qd : Nat) (qd2 : Nat) (qf : Nat) (qf2 : Nat) (qo : Nat) (qe : Nat) (qw : Nat) (qu : Nat) (qg : Nat) (qn : Nat) (qs : Nat) (qs_widths : Nat) (fs_widths : Nat → Int32) (qs_sizes : Nat) (fs_sizes : Nat → Int32) (qs_numbers : Nat) (fs_numbers : Nat → Int64) (a1 : Int32) (a2 : Int32) (a3 : Int64) (h_fs_sizes : ar_ok [(-1)] [60] fs_sizes) (sz : Nat) : Met l yX11_write wsX11_write ({ frames := 2, cells := 0, slots := 0, locals := 46 }) (va_Pc [.ref qh, .int a1, .int a2, .long a3] (ct_P D (ct_T cI cJ cB cZ cO) G (w_c_X11_write cI cJ cB cZ cO qh qh_kept vh_laid qi qr qt qd qd2 qf qf2 qo qe qw qu qg qn qs qs_widths fs_widths qs_sizes fs_sizes qs_numbers fs_numbers) sz)) (va_Qi (fun (rz : Int32) (u : (Nat → Int64)) => ((rz = (-2) ∧ ¬ (0 ≤ a1.toInt ∧ a1.toInt < 4)) ∨ (rz = (-6) ∧ ((0 ≤ a1.toInt ∧ a1.toInt < 4) ∧ ¬ ((fs_sizes a1.toNatClampNeg).toInt ≠ -1))) ∨ (rz = (-7) ∧ ((0 ≤ a1.toInt ∧ a1.toInt < 4) ∧ ((fs_sizes a1.toNatClampNeg).toInt ≠ -1) ∧ ¬ (0 ≤ a2.toInt ∧ a2.toInt < (fs_sizes a1.toNatClampNeg).toInt))) ∨ (rz = 0 ∧ ((0 ≤ a1.toInt ∧ a1.toInt < 4) ∧ ((fs_sizes a1.toNatClampNeg).toInt ≠ -1) ∧ (0 ≤ a2.toInt ∧ a2.toInt < (fs_sizes a1.toNatClampNeg).toInt)))) ∧ ((rz = 0 ∧ u = vp_updL fs_numbers (60 * a1.toInt + a2.toInt).toNat (cu a3 (fs_widths a1.toNatClampNeg))) ∨ (rz ≠ 0 ∧ u = fs_numbers))) (fun (u : (Nat → Int64)) t => ct_Q D (va_A (w_c_X11_write cI cJ cB cZ cO qh qh_kept vh_laid qi qr qt qd qd2 qf qf2 qo qe qw qu qg qn qs qs_widths fs_widths qs_sizes fs_sizes qs_numbers fs_numbers) sz) [oo qh qr qt qd qd2 qi qh_kept qf qf2 vh_laid qo qe qw qu qg qn qs, (qs, .inr (7, [.ref qs_widths, .ref qs_sizes, .ref qs_numbers])), (qs_widths, .inl (cI, 4, .inl (fs_widths))), (qs_sizes, .inl (cI, 4, .inl (fs_sizes))), (qs_numbers, .inl (cJ, 240, .inr (.inl (u))))] t) (va_A (w_c_X11_write cI cJ cB cZ cO qh qh_kept vh_laid qi qr qt qd qd2 qf qf2 qo qe qw qu qg qn qs qs_widths fs_widths qs_sizes fs_sizes qs_numbers fs_numbers) sz)) 0 0 (va_A (w_c_X11_write cI cJ cB cZ cO qh qh_kept vh_laid qi qr qt qd qd2 qf qf2 qo qe qw qu qg qn qs qs_widths fs_widths qs_sizes fs_sizes qs_numbers fs_numbers) sz) := by
  refine Met.ofW (cc := cX11_write) (maxL := 5) (ret := (some .int)) (by decide) rfl ?_
  intro p e s m args below meth c s₁ B hml hv
  obtain ⟨rfl, hsz, hP, hE, hD0, hH⟩ := hv
  have hx := B.exec
  have hb := B.bytes
  have hr := B.returns
  have hts := atoms_spec (ws := wsX11_write) B.pre
  have hown : s.vm.findClass RX11 = some m.cls := findClass_of_methodNamed B.named
  have hlocks := B.notSynchronized
  have hK := hE.1
  have hi7 : ∀ w ∈ u_ws RX7 TX7 3, w ∈ wsX11_write := fun w h => List.mem_cons_of_mem _ (List.mem_append_right _ h)
  have hi11 : ∀ w ∈ u_ws RX11 TX11 16, w ∈ wsX11_write := fun w h => List.mem_cons_of_mem _ (List.mem_append_left _ (List.mem_append_right _ h))
  subst hsz
  have hD := hD0.self (sz := s.heap.size)
  generalize hAe : va_A (w_c_X11_write cI cJ cB cZ cO qh qh_kept vh_laid qi qr qt qd qd2 qf qf2 qo qe qw qu qg qn qs qs_widths fs_widths qs_sizes fs_sizes qs_numbers fs_numbers) s.heap.size = A at hD hH ⊢
  have hA : ∀ q : Nat, s.heap.size ≤ q → A q := fun q h => by rw [← hAe]; exact Or.inr h
  have hS : va_S A s.heap s.heap [] := va_S.rf
  obtain ⟨hP, hD⟩ : ct_B D A s.heap [oo qh qr qt qd qd2 qi qh_kept qf qf2 vh_laid qo qe qw qu qg qn qs, (qs, .inr (7, [.ref qs_widths, .ref qs_sizes, .ref qs_numbers])), (qs_widths, .inl (cI, 4, .inl (fs_widths))), (qs_sizes, .inl (cI, 4, .inl (fs_sizes))), (qs_numbers, .inl (cJ, 240, .inr (.inl (fs_numbers))))] := ⟨hP, hD⟩
  have hl := lv_entry ([.ref qh, .int a1, .int a2, .long a3]) (n := 5) (Nat.le_of_ble_eq_true rfl)
  rw [lg_entry_eq]
  generalize (lg_sl ([.ref qh, .int a1, .int a2, .long a3]) ++ List.replicate (5 - (lg_sl ([.ref qh, .int a1, .int a2, .long a3])).length) Slot.unset).toArray = ls at hl ⊢
  have hl : lv_has ls 5 [(0, .ref qh), (1, .int a1), (2, .int a2), (3, .long a3)] := hl
  obtain ⟨H, hHe⟩ : ∃ H : Heap, H = s.heap := ⟨_, rfl⟩
  rw [← hHe] at hP
  have hS : va_S A s.heap H [] := by rw [hHe]; exact va_S.rf
  refine ct_start hHe ?_
  refine lv_iload_n hx hb dX11_write_0 rfl (lv_at hl 1 rfl) ?_
  refine ct_calli (D := D) (wr := [oo qh qr qt qd qd2 qi qh_kept qf qf2 vh_laid qo qe qw qu qg qn qs, (qs, .inr (7, [.ref qs_widths, .ref qs_sizes, .ref qs_numbers])), (qs_widths, .inl (cI, 4, .inl (fs_widths))), (qs_sizes, .inl (cI, 4, .inl (fs_sizes))), (qs_numbers, .inl (cJ, 240, .inr (.inl (fs_numbers))))]) (va_runS (As := [.int a1]) (rest := []) ⟨hx, hb, hml, hown, hts⟩ (c_X7_isSlot l D G cI cJ cB cZ cO a1  H.size) (va_cwS 1 hts gX11_write_X7_isSlot rfl rfl rfl (by decide +kernel) ⟨Nat.le_of_ble_eq_true rfl, Nat.le_of_ble_eq_true rfl⟩) (ct_preS (T := ct_T cI cJ cB cZ cO) hE hH hP hD hS hA [] (by decide) rfl) rfl rfl hl.1 rfl (lv_room (Nat.le_of_ble_eq_true rfl)) dX11_write_1 ⟨Nat.le_of_ble_eq_true rfl, Nat.le_of_ble_eq_true rfl⟩) hP hD hS hA [] [0, 1, 2, 3, 4] rfl rfl (by decide) (by decide) (fun r1 u H locs hw hP hD hS => ?_)
  obtain ⟨hP, hD⟩ : ct_B D A H [oo qh qr qt qd qd2 qi qh_kept qf qf2 vh_laid qo qe qw qu qg qn qs, (qs, .inr (7, [.ref qs_widths, .ref qs_sizes, .ref qs_numbers])), (qs_widths, .inl (cI, 4, .inl (fs_widths))), (qs_sizes, .inl (cI, 4, .inl (fs_sizes))), (qs_numbers, .inl (cJ, 240, .inr (.inl (fs_numbers))))] := ⟨hP, hD⟩
  have hz := hw
  rcases hz with ⟨hz, hz2⟩ | ⟨hz, hz2⟩
  · subst hz
    have hz_2 : (0 ≤ a1.toInt ∧ a1.toInt < 4) := hz2
    refine lv_if_ne (tgt := 10) hx hb dX11_write_4 (by decide) (fun _ => ?_) (fun hc => absurd hc (by decide))
    refine lv_aload_n hx hb dX11_write_10 rfl (lv_at hl 0 rfl) ?_
    refine va_get (D := D) (ci := 11) (v := .ref qs) (C := RX11) (T := TX11) (N := 16) hx hb hts hi11 hown hK hP 0 rfl rfl 15 (by decide) (hts (.fieldLink RX11 98 "OverHill" "slots" "LOverHill$Slots;") (by decide +kernel)) (fun _ h9 => h9) rfl dX11_write_11 ?_
    refine lv_iload_n hx hb dX11_write_14 rfl (lv_at hl 1 rfl) ?_
    refine ct_calli (D := D) (wr := [oo qh qr qt qd qd2 qi qh_kept qf qf2 vh_laid qo qe qw qu qg qn qs, (qs_widths, .inl (cI, 4, .inl (fs_widths))), (qs_numbers, .inl (cJ, 240, .inr (.inl (fs_numbers))))]) (va_runV (As := [.int a1]) (rest := []) ⟨hx, hb, hml, hown, hts⟩ (c_X7_has l D G cI cJ cB cZ cO qs qs_widths qs_sizes fs_sizes qs_numbers a1 h_fs_sizes (by omega) H.size) (cwV 1 hts gX11_write_X7_has rfl rfl rfl (by decide +kernel) ⟨Nat.le_of_ble_eq_true rfl, Nat.le_of_ble_eq_true rfl⟩) (ct_preV (T := ct_T cI cJ cB cZ cO) (ci := 7) (q0 := 1) hE hH hP hD hS hA [1, 3] (by decide) rfl rfl rfl) rfl rfl hl.1 rfl (lv_room (Nat.le_of_ble_eq_true rfl)) dX11_write_15 ⟨Nat.le_of_ble_eq_true rfl, Nat.le_of_ble_eq_true rfl⟩) hP hD hS hA [1, 3] [0, 2, 4] rfl rfl (by decide) (by decide) (fun r3 u H locs hw hP hD hS => ?_)
    obtain ⟨hP, hD⟩ : ct_B D A H [oo qh qr qt qd qd2 qi qh_kept qf qf2 vh_laid qo qe qw qu qg qn qs, (qs_widths, .inl (cI, 4, .inl (fs_widths))), (qs_numbers, .inl (cJ, 240, .inr (.inl (fs_numbers)))), (qs, .inr (7, [.ref qs_widths, .ref qs_sizes, .ref qs_numbers])), (qs_sizes, .inl (cI, 4, .inl (fs_sizes)))] := ⟨hP, hD⟩
    have hz := hw
    rcases hz with ⟨hz, hz2⟩ | ⟨hz, hz2⟩
    · subst hz
      have hz_4 : ((fs_sizes a1.toNatClampNeg).toInt ≠ -1) := hz2
      refine lv_if_ne (tgt := 24) hx hb dX11_write_18 (by decide) (fun _ => ?_) (fun hc => absurd hc (by decide))
      refine lv_iload_n hx hb dX11_write_24 rfl (lv_at hl 2 rfl) ?_
      refine lv_aload_n hx hb dX11_write_25 rfl (lv_at hl 0 rfl) ?_
      refine va_get (D := D) (ci := 11) (v := .ref qs) (C := RX11) (T := TX11) (N := 16) hx hb hts hi11 hown hK hP 0 rfl rfl 15 (by decide) (hts (.fieldLink RX11 98 "OverHill" "slots" "LOverHill$Slots;") (by decide +kernel)) (fun _ h9 => h9) rfl dX11_write_26 ?_
      refine va_get (D := D) (ci := 7) (v := .ref qs_sizes) (C := RX7) (T := TX7) (N := 3) hx hb hts hi7 hown hK hP 3 rfl rfl 1 (by decide) (hts (.fieldLink RX11 419 "OverHill$Slots" "sizes" "[I") (by decide +kernel)) (fun _ h9 => h9) rfl dX11_write_29 ?_
      refine lv_iload_n hx hb dX11_write_32 rfl (lv_at hl 1 rfl) ?_
      refine va_iald (D := D) hx hb hK hP 4 0 rfl rfl (tq_in rfl (by omega)) dX11_write_33 ?_
      refine lv_topi (fun z5 ez5 => ?_)
      have fz5 : (-1) ≤ z5.toInt ∧ z5.toInt ≤ 60 := by rw [ez5]; exact ar_get h_fs_sizes a1 0 (by omega) (show a1.toInt % 1 = 0 by omega) rfl
      have gz5 : z5.toInt = (fs_sizes a1.toNatClampNeg).toInt := by rw [ez5]
      refine ct_calli (D := D) (wr := [oo qh qr qt qd qd2 qi qh_kept qf qf2 vh_laid qo qe qw qu qg qn qs, (qs_widths, .inl (cI, 4, .inl (fs_widths))), (qs_numbers, .inl (cJ, 240, .inr (.inl (fs_numbers)))), (qs, .inr (7, [.ref qs_widths, .ref qs_sizes, .ref qs_numbers])), (qs_sizes, .inl (cI, 4, .inl (fs_sizes)))]) (va_runS (As := [.int a2, .int z5]) (rest := []) ⟨hx, hb, hml, hown, hts⟩ (c_X11_isWithin l D G cI cJ cB cZ cO a2 z5  H.size) (va_cwS 2 hts gX11_write_X11_isWithin rfl rfl rfl (by decide +kernel) ⟨Nat.le_of_ble_eq_true rfl, Nat.le_of_ble_eq_true rfl⟩) (ct_preS (T := ct_T cI cJ cB cZ cO) hE hH hP hD hS hA [] (by decide) rfl) rfl rfl hl.1 rfl (lv_room (Nat.le_of_ble_eq_true rfl)) dX11_write_34 ⟨Nat.le_of_ble_eq_true rfl, Nat.le_of_ble_eq_true rfl⟩) hP hD hS hA [] [0, 1, 2, 3, 4] rfl rfl (by decide) (by decide) (fun r6 u H locs hw hP hD hS => ?_)
      obtain ⟨hP, hD⟩ : ct_B D A H [oo qh qr qt qd qd2 qi qh_kept qf qf2 vh_laid qo qe qw qu qg qn qs, (qs_widths, .inl (cI, 4, .inl (fs_widths))), (qs_numbers, .inl (cJ, 240, .inr (.inl (fs_numbers)))), (qs, .inr (7, [.ref qs_widths, .ref qs_sizes, .ref qs_numbers])), (qs_sizes, .inl (cI, 4, .inl (fs_sizes)))] := ⟨hP, hD⟩
      have hz := hw
      rcases hz with ⟨hz, hz2⟩ | ⟨hz, hz2⟩
      · subst hz
        have hz_7 : (0 ≤ a2.toInt ∧ a2.toInt < z5.toInt) := hz2
        refine lv_if_ne (tgt := 43) hx hb dX11_write_37 (by decide) (fun _ => ?_) (fun hc => absurd hc (by decide))
        refine lv_aload_n hx hb dX11_write_43 rfl (lv_at hl 0 rfl) ?_
        refine va_get (D := D) (ci := 11) (v := .ref qs) (C := RX11) (T := TX11) (N := 16) hx hb hts hi11 hown hK hP 0 rfl rfl 15 (by decide) (hts (.fieldLink RX11 98 "OverHill" "slots" "LOverHill$Slots;") (by decide +kernel)) (fun _ h9 => h9) rfl dX11_write_44 ?_
        refine lv_iload_n hx hb dX11_write_47 rfl (lv_at hl 1 rfl) ?_
        refine lv_iload_n hx hb dX11_write_48 rfl (lv_at hl 2 rfl) ?_
        refine lv_lload_n hx hb dX11_write_49 rfl (lv_at hl 3 rfl) ?_
        refine ct_callv (D := D) (wr := [oo qh qr qt qd qd2 qi qh_kept qf qf2 vh_laid qo qe qw qu qg qn qs, (qs_sizes, .inl (cI, 4, .inl (fs_sizes)))]) (va_runV (As := [.int a1, .int a2, .long a3]) (rest := []) ⟨hx, hb, hml, hown, hts⟩ (c_X7_put l D G cI cJ cB cZ cO qs qs_widths fs_widths qs_sizes qs_numbers fs_numbers a1 a2 a3 (by omega) (by omega) H.size) (cwV 3 hts gX11_write_X7_put rfl rfl rfl (by decide +kernel) ⟨Nat.le_of_ble_eq_true rfl, Nat.le_of_ble_eq_true rfl⟩) (ct_preV (T := ct_T cI cJ cB cZ cO) (ci := 7) (q0 := 3) hE hH hP hD hS hA [3, 1, 2] (by decide) rfl rfl rfl) rfl rfl hl.1 rfl (lv_room (Nat.le_of_ble_eq_true rfl)) dX11_write_50 ⟨Nat.le_of_ble_eq_true rfl, Nat.le_of_ble_eq_true rfl⟩) hP hD hS hA [3, 1, 2] [0, 4] rfl rfl (by decide) (by decide) (fun u H locs hw hP hD hS => ?_)
        obtain ⟨g8, rfl⟩ : ∃ z, z = u := ⟨_, rfl⟩
        obtain ⟨hP, hD⟩ : ct_B D A H [oo qh qr qt qd qd2 qi qh_kept qf qf2 vh_laid qo qe qw qu qg qn qs, (qs_sizes, .inl (cI, 4, .inl (fs_sizes))), (qs, .inr (7, [.ref qs_widths, .ref qs_sizes, .ref qs_numbers])), (qs_widths, .inl (cI, 4, .inl (fs_widths))), (qs_numbers, .inl (cJ, 240, .inr (.inl (g8))))] := ⟨hP, hD⟩
        have hp0 := hw
        have hp_9 : g8 = vp_updL fs_numbers (60 * a1.toInt + a2.toInt).toNat (cu a3 (fs_widths a1.toNatClampNeg)) := hp0
        refine lv_iconst (v := 0) hx hb dX11_write_53 (by decide) ?_
        have hk10 : (0 : Int32).toInt = 0 := by decide
        obtain ⟨hP9, hD9⟩ : ct_B D A H [oo qh qr qt qd qd2 qi qh_kept qf qf2 vh_laid qo qe qw qu qg qn qs, (qs, .inr (7, [.ref qs_widths, .ref qs_sizes, .ref qs_numbers])), (qs_widths, .inl (cI, 4, .inl (fs_widths))), (qs_sizes, .inl (cI, 4, .inl (fs_sizes))), (qs_numbers, .inl (cJ, 240, .inr (.inl (g8))))] := ⟨hP.sub [0, 2, 3, 1, 4] rfl, hD.sub [0, 2, 3, 1, 4] (by decide) rfl⟩
        exact W.iret (v := 0) hx hb hr (fun t ht hW => ⟨⟨0, g8, rfl, ⟨(Or.inr (Or.inr (Or.inr (⟨rfl, (show ((0 ≤ a1.toInt ∧ a1.toInt < 4) ∧ ((fs_sizes a1.toNatClampNeg).toInt ≠ -1) ∧ (0 ≤ a2.toInt ∧ a2.toInt < (fs_sizes a1.toNatClampNeg).toInt)) by omega)⟩)))), (show ((0 : Int32) = 0 ∧ g8 = vp_updL fs_numbers (60 * a1.toInt + a2.toInt).toNat (cu a3 (fs_widths a1.toNatClampNeg))) ∨ ((0 : Int32) ≠ 0 ∧ g8 = fs_numbers) by exact Or.inl ⟨rfl, hp_9⟩)⟩, by rw [ht]; exact hP9, hD9⟩, hS.F ht⟩) hS.2.2 dX11_write_54
      · subst hz
        have hz_11 : ¬ (0 ≤ a2.toInt ∧ a2.toInt < z5.toInt) := hz2
        refine lv_if_ne (tgt := 43) hx hb dX11_write_37 (by decide) (fun hc => absurd hc (by decide)) (fun _ => ?_)
        refine lv_bipush (v := (-7)) hx hb dX11_write_40 (by decide) ?_
        have hk12 : (-7 : Int32).toInt = (-7) := by decide
        obtain ⟨hP9, hD9⟩ : ct_B D A H [oo qh qr qt qd qd2 qi qh_kept qf qf2 vh_laid qo qe qw qu qg qn qs, (qs, .inr (7, [.ref qs_widths, .ref qs_sizes, .ref qs_numbers])), (qs_widths, .inl (cI, 4, .inl (fs_widths))), (qs_sizes, .inl (cI, 4, .inl (fs_sizes))), (qs_numbers, .inl (cJ, 240, .inr (.inl (fs_numbers))))] := ⟨hP.sub [0, 3, 1, 4, 2] rfl, hD.sub [0, 3, 1, 4, 2] (by decide) rfl⟩
        exact W.iret (v := (-7)) hx hb hr (fun t ht hW => ⟨⟨(-7), fs_numbers, rfl, ⟨(Or.inr (Or.inr (Or.inl ⟨rfl, (show ((0 ≤ a1.toInt ∧ a1.toInt < 4) ∧ ((fs_sizes a1.toNatClampNeg).toInt ≠ -1) ∧ ¬ (0 ≤ a2.toInt ∧ a2.toInt < (fs_sizes a1.toNatClampNeg).toInt)) by omega)⟩))), (show ((-7 : Int32) = 0 ∧ fs_numbers = vp_updL fs_numbers (60 * a1.toInt + a2.toInt).toNat (cu a3 (fs_widths a1.toNatClampNeg))) ∨ ((-7 : Int32) ≠ 0 ∧ fs_numbers = fs_numbers) by exact Or.inr ⟨by decide, rfl⟩)⟩, by rw [ht]; exact hP9, hD9⟩, hS.F ht⟩) hS.2.2 dX11_write_42
    · subst hz
      have hz_13 : ¬ ((fs_sizes a1.toNatClampNeg).toInt ≠ -1) := hz2
      refine lv_if_ne (tgt := 24) hx hb dX11_write_18 (by decide) (fun hc => absurd hc (by decide)) (fun _ => ?_)
      refine lv_bipush (v := (-6)) hx hb dX11_write_21 (by decide) ?_
      have hk14 : (-6 : Int32).toInt = (-6) := by decide
      obtain ⟨hP9, hD9⟩ : ct_B D A H [oo qh qr qt qd qd2 qi qh_kept qf qf2 vh_laid qo qe qw qu qg qn qs, (qs, .inr (7, [.ref qs_widths, .ref qs_sizes, .ref qs_numbers])), (qs_widths, .inl (cI, 4, .inl (fs_widths))), (qs_sizes, .inl (cI, 4, .inl (fs_sizes))), (qs_numbers, .inl (cJ, 240, .inr (.inl (fs_numbers))))] := ⟨hP.sub [0, 3, 1, 4, 2] rfl, hD.sub [0, 3, 1, 4, 2] (by decide) rfl⟩
      exact W.iret (v := (-6)) hx hb hr (fun t ht hW => ⟨⟨(-6), fs_numbers, rfl, ⟨(Or.inr (Or.inl ⟨rfl, (show ((0 ≤ a1.toInt ∧ a1.toInt < 4) ∧ ¬ ((fs_sizes a1.toNatClampNeg).toInt ≠ -1)) by omega)⟩)), (show ((-6 : Int32) = 0 ∧ fs_numbers = vp_updL fs_numbers (60 * a1.toInt + a2.toInt).toNat (cu a3 (fs_widths a1.toNatClampNeg))) ∨ ((-6 : Int32) ≠ 0 ∧ fs_numbers = fs_numbers) by exact Or.inr ⟨by decide, rfl⟩)⟩, by rw [ht]; exact hP9, hD9⟩, hS.F ht⟩) hS.2.2 dX11_write_23
  · subst hz
    have hz_15 : ¬ (0 ≤ a1.toInt ∧ a1.toInt < 4) := hz2
    refine lv_if_ne (tgt := 10) hx hb dX11_write_4 (by decide) (fun hc => absurd hc (by decide)) (fun _ => ?_)
    refine lv_bipush (v := (-2)) hx hb dX11_write_7 (by decide) ?_
    have hk16 : (-2 : Int32).toInt = (-2) := by decide
    obtain ⟨hP9, hD9⟩ : ct_B D A H [oo qh qr qt qd qd2 qi qh_kept qf qf2 vh_laid qo qe qw qu qg qn qs, (qs, .inr (7, [.ref qs_widths, .ref qs_sizes, .ref qs_numbers])), (qs_widths, .inl (cI, 4, .inl (fs_widths))), (qs_sizes, .inl (cI, 4, .inl (fs_sizes))), (qs_numbers, .inl (cJ, 240, .inr (.inl (fs_numbers))))] := ⟨hP.sub [0, 1, 2, 3, 4] rfl, hD.sub [0, 1, 2, 3, 4] (by decide) rfl⟩
    exact W.iret (v := (-2)) hx hb hr (fun t ht hW => ⟨⟨(-2), fs_numbers, rfl, ⟨(Or.inl ⟨rfl, (show ¬ (0 ≤ a1.toInt ∧ a1.toInt < 4) by omega)⟩), (show ((-2 : Int32) = 0 ∧ fs_numbers = vp_updL fs_numbers (60 * a1.toInt + a2.toInt).toNat (cu a3 (fs_widths a1.toNatClampNeg))) ∨ ((-2 : Int32) ≠ 0 ∧ fs_numbers = fs_numbers) by exact Or.inr ⟨by decide, rfl⟩)⟩, by rw [ht]; exact hP9, hD9⟩, hS.F ht⟩) hS.2.2 dX11_write_9
abbrev w_c_X11_paste (cI cJ cB cZ cO : ClassId) (qh : Nat) (qh_kept : Nat) (vh_laid : Int32) (qi : Nat) (qr : Nat) (qt : Nat) (qd : Nat) (qd2 : Nat) (qf : Nat) (qf2 : Nat) (qo : Nat) (qe : Nat) (qw : Nat) (qu : Nat) (qg : Nat) (qn : Nat) (qs : Nat) (qs_widths : Nat) (fs_widths : Nat → Int32) (qs_sizes : Nat) (fs_sizes : Nat → Int32) (qs_numbers : Nat) (fs_numbers : Nat → Int64) : va_W := [oo qh qr qt qd qd2 qi qh_kept qf qf2 vh_laid qo qe qw qu qg qn qs, (qs, .inr (7, [.ref qs_widths, .ref qs_sizes, .ref qs_numbers])), (qs_widths, .inl (cI, 4, .inl (fs_widths))), (qs_sizes, .inl (cI, 4, .inl (fs_sizes))), (qs_numbers, .inl (cJ, 240, .inr (.inl (fs_numbers))))]
set_option maxHeartbeats 4000000 in
set_option maxRecDepth 100000 in
/-- X11 paste -/
theorem c_X11_paste (l : Launch) (D : va_G) (G : ct_G) (cI cJ cB cZ cO : ClassId) (qh : Nat) (qh_kept : Nat) (vh_laid : Int32) (qi : Nat) (qr : Nat) (qt : Nat) (qd : Nat) (qd2 : Nat) (qf : Nat) (qf2 : Nat) (qo : Nat) (qe : Nat) (qw : Nat) (qu : Nat) (qg : Nat) (qn : Nat) (qs : Nat) (qs_widths : Nat) (fs_widths : Nat → Int32) (qs_sizes : Nat) (fs_sizes : Nat → Int32) (qs_numbers : Nat) (fs_numbers : Nat → Int64) (a1 : Int32) (a2 : Int32) (a3 : Int32) (a4 : Int32) (a5 : Int32) (h_fs_sizes : ar_ok [(-1)] [60] fs_sizes) (sz : Nat) : Met l yX11_paste wsX11_paste ({ frames := 2, cells := 0, slots := 0, locals := 85 }) (va_Pc [.ref qh, .int a1, .int a2, .int a3, .int a4, .int a5] (ct_P D (ct_T cI cJ cB cZ cO) G (w_c_X11_paste cI cJ cB cZ cO qh qh_kept vh_laid qi qr qt qd qd2 qf qf2 qo qe qw qu qg qn qs qs_widths fs_widths qs_sizes fs_sizes qs_numbers fs_numbers) sz)) (va_Qi (fun (rz : Int32) (u : (Nat → Int64)) => ((rz = (-2) ∧ ¬ ((0 ≤ a1.toInt ∧ a1.toInt < 4) ∧ (0 ≤ a3.toInt ∧ a3.toInt < 4))) ∨ (rz = (-6) ∧ ((0 ≤ a1.toInt ∧ a1.toInt < 4) ∧ (0 ≤ a3.toInt ∧ a3.toInt < 4) ∧ ¬ (((fs_sizes a1.toNatClampNeg).toInt ≠ -1) ∧ ((fs_sizes a3.toNatClampNeg).toInt ≠ -1)))) ∨ (rz = (-8) ∧ ((0 ≤ a1.toInt ∧ a1.toInt < 4) ∧ (0 ≤ a3.toInt ∧ a3.toInt < 4) ∧ ((fs_sizes a1.toNatClampNeg).toInt ≠ -1) ∧ ((fs_sizes a3.toNatClampNeg).toInt ≠ -1) ∧ (fs_widths a1.toNatClampNeg).toInt ≠ (fs_widths a3.toNatClampNeg).toInt)) ∨ (rz = (-7) ∧ ((0 ≤ a1.toInt ∧ a1.toInt < 4) ∧ (0 ≤ a3.toInt ∧ a3.toInt < 4) ∧ ((fs_sizes a1.toNatClampNeg).toInt ≠ -1) ∧ ((fs_sizes a3.toNatClampNeg).toInt ≠ -1) ∧ (fs_widths a1.toNatClampNeg).toInt = (fs_widths a3.toNatClampNeg).toInt ∧ ¬ (0 ≤ a2.toInt ∧ 0 ≤ a4.toInt ∧ 0 ≤ a5.toInt ∧ a2.toInt + a5.toInt ≤ (fs_sizes a1.toNatClampNeg).toInt ∧ a4.toInt + a5.toInt ≤ (fs_sizes a3.toNatClampNeg).toInt))) ∨ (rz = 0 ∧ ((0 ≤ a1.toInt ∧ a1.toInt < 4) ∧ (0 ≤ a3.toInt ∧ a3.toInt < 4) ∧ ((fs_sizes a1.toNatClampNeg).toInt ≠ -1) ∧ ((fs_sizes a3.toNatClampNeg).toInt ≠ -1) ∧ (fs_widths a1.toNatClampNeg).toInt = (fs_widths a3.toNatClampNeg).toInt ∧ (0 ≤ a2.toInt ∧ 0 ≤ a4.toInt ∧ 0 ≤ a5.toInt ∧ a2.toInt + a5.toInt ≤ (fs_sizes a1.toNatClampNeg).toInt ∧ a4.toInt + a5.toInt ≤ (fs_sizes a3.toNatClampNeg).toInt)))) ∧ ((rz = 0 ∧ paN (60 * a1.toInt + a2.toInt) (60 * a3.toInt + a4.toInt) a5.toInt fs_numbers u) ∨ (rz ≠ 0 ∧ u = fs_numbers))) (fun (u : (Nat → Int64)) t => ct_Q D (va_A (w_c_X11_paste cI cJ cB cZ cO qh qh_kept vh_laid qi qr qt qd qd2 qf qf2 qo qe qw qu qg qn qs qs_widths fs_widths qs_sizes fs_sizes qs_numbers fs_numbers) sz) [oo qh qr qt qd qd2 qi qh_kept qf qf2 vh_laid qo qe qw qu qg qn qs, (qs, .inr (7, [.ref qs_widths, .ref qs_sizes, .ref qs_numbers])), (qs_widths, .inl (cI, 4, .inl (fs_widths))), (qs_sizes, .inl (cI, 4, .inl (fs_sizes))), (qs_numbers, .inl (cJ, 240, .inr (.inl (u))))] t) (va_A (w_c_X11_paste cI cJ cB cZ cO qh qh_kept vh_laid qi qr qt qd qd2 qf qf2 qo qe qw qu qg qn qs qs_widths fs_widths qs_sizes fs_sizes qs_numbers fs_numbers) sz)) 0 0 (va_A (w_c_X11_paste cI cJ cB cZ cO qh qh_kept vh_laid qi qr qt qd qd2 qf qf2 qo qe qw qu qg qn qs qs_widths fs_widths qs_sizes fs_sizes qs_numbers fs_numbers) sz) := by
  refine Met.ofW (cc := cX11_paste) (maxL := 6) (ret := (some .int)) (by decide) rfl ?_
  intro p e s m args below meth c s₁ B hml hv
  obtain ⟨rfl, hsz, hP, hE, hD0, hH⟩ := hv
  have hx := B.exec
  have hb := B.bytes
  have hr := B.returns
  have hts := atoms_spec (ws := wsX11_paste) B.pre
  have hown : s.vm.findClass RX11 = some m.cls := findClass_of_methodNamed B.named
  have hlocks := B.notSynchronized
  have hK := hE.1
  have hi7 : ∀ w ∈ u_ws RX7 TX7 3, w ∈ wsX11_paste := fun w h => List.mem_cons_of_mem _ (List.mem_append_right _ h)
  have hi11 : ∀ w ∈ u_ws RX11 TX11 16, w ∈ wsX11_paste := fun w h => List.mem_cons_of_mem _ (List.mem_append_left _ (List.mem_append_right _ h))
  subst hsz
  have hD := hD0.self (sz := s.heap.size)
  generalize hAe : va_A (w_c_X11_paste cI cJ cB cZ cO qh qh_kept vh_laid qi qr qt qd qd2 qf qf2 qo qe qw qu qg qn qs qs_widths fs_widths qs_sizes fs_sizes qs_numbers fs_numbers) s.heap.size = A at hD hH ⊢
  have hA : ∀ q : Nat, s.heap.size ≤ q → A q := fun q h => by rw [← hAe]; exact Or.inr h
  have hS : va_S A s.heap s.heap [] := va_S.rf
  obtain ⟨hP, hD⟩ : ct_B D A s.heap [oo qh qr qt qd qd2 qi qh_kept qf qf2 vh_laid qo qe qw qu qg qn qs, (qs, .inr (7, [.ref qs_widths, .ref qs_sizes, .ref qs_numbers])), (qs_widths, .inl (cI, 4, .inl (fs_widths))), (qs_sizes, .inl (cI, 4, .inl (fs_sizes))), (qs_numbers, .inl (cJ, 240, .inr (.inl (fs_numbers))))] := ⟨hP, hD⟩
  have hl := lv_entry ([.ref qh, .int a1, .int a2, .int a3, .int a4, .int a5]) (n := 6) (Nat.le_of_ble_eq_true rfl)
  rw [lg_entry_eq]
  generalize (lg_sl ([.ref qh, .int a1, .int a2, .int a3, .int a4, .int a5]) ++ List.replicate (6 - (lg_sl ([.ref qh, .int a1, .int a2, .int a3, .int a4, .int a5])).length) Slot.unset).toArray = ls at hl ⊢
  have hl : lv_has ls 6 [(0, .ref qh), (1, .int a1), (2, .int a2), (3, .int a3), (4, .int a4), (5, .int a5)] := hl
  obtain ⟨H, hHe⟩ : ∃ H : Heap, H = s.heap := ⟨_, rfl⟩
  rw [← hHe] at hP
  have hS : va_S A s.heap H [] := by rw [hHe]; exact va_S.rf
  refine ct_start hHe ?_
  refine lv_iload_n hx hb dX11_paste_0 rfl (lv_at hl 1 rfl) ?_
  refine ct_calli (D := D) (wr := [oo qh qr qt qd qd2 qi qh_kept qf qf2 vh_laid qo qe qw qu qg qn qs, (qs, .inr (7, [.ref qs_widths, .ref qs_sizes, .ref qs_numbers])), (qs_widths, .inl (cI, 4, .inl (fs_widths))), (qs_sizes, .inl (cI, 4, .inl (fs_sizes))), (qs_numbers, .inl (cJ, 240, .inr (.inl (fs_numbers))))]) (va_runS (As := [.int a1]) (rest := []) ⟨hx, hb, hml, hown, hts⟩ (c_X7_isSlot l D G cI cJ cB cZ cO a1  H.size) (va_cwS 1 hts gX11_paste_X7_isSlot rfl rfl rfl (by decide +kernel) ⟨Nat.le_of_ble_eq_true rfl, Nat.le_of_ble_eq_true rfl⟩) (ct_preS (T := ct_T cI cJ cB cZ cO) hE hH hP hD hS hA [] (by decide) rfl) rfl rfl hl.1 rfl (lv_room (Nat.le_of_ble_eq_true rfl)) dX11_paste_1 ⟨Nat.le_of_ble_eq_true rfl, Nat.le_of_ble_eq_true rfl⟩) hP hD hS hA [] [0, 1, 2, 3, 4] rfl rfl (by decide) (by decide) (fun r1 u H locs hw hP hD hS => ?_)
  obtain ⟨hP, hD⟩ : ct_B D A H [oo qh qr qt qd qd2 qi qh_kept qf qf2 vh_laid qo qe qw qu qg qn qs, (qs, .inr (7, [.ref qs_widths, .ref qs_sizes, .ref qs_numbers])), (qs_widths, .inl (cI, 4, .inl (fs_widths))), (qs_sizes, .inl (cI, 4, .inl (fs_sizes))), (qs_numbers, .inl (cJ, 240, .inr (.inl (fs_numbers))))] := ⟨hP, hD⟩
  have hz := hw
  rcases hz with ⟨hz, hz2⟩ | ⟨hz, hz2⟩
  · subst hz
    have hz_2 : (0 ≤ a1.toInt ∧ a1.toInt < 4) := hz2
    refine lv_if_eq (tgt := 14) hx hb dX11_paste_4 (by decide) (fun hc => absurd hc (by decide)) (fun _ => ?_)
    refine lv_iload_n hx hb dX11_paste_7 rfl (lv_at hl 3 rfl) ?_
    refine ct_calli (D := D) (wr := [oo qh qr qt qd qd2 qi qh_kept qf qf2 vh_laid qo qe qw qu qg qn qs, (qs, .inr (7, [.ref qs_widths, .ref qs_sizes, .ref qs_numbers])), (qs_widths, .inl (cI, 4, .inl (fs_widths))), (qs_sizes, .inl (cI, 4, .inl (fs_sizes))), (qs_numbers, .inl (cJ, 240, .inr (.inl (fs_numbers))))]) (va_runS (As := [.int a3]) (rest := []) ⟨hx, hb, hml, hown, hts⟩ (c_X7_isSlot l D G cI cJ cB cZ cO a3  H.size) (va_cwS 1 hts gX11_paste_X7_isSlot rfl rfl rfl (by decide +kernel) ⟨Nat.le_of_ble_eq_true rfl, Nat.le_of_ble_eq_true rfl⟩) (ct_preS (T := ct_T cI cJ cB cZ cO) hE hH hP hD hS hA [] (by decide) rfl) rfl rfl hl.1 rfl (lv_room (Nat.le_of_ble_eq_true rfl)) dX11_paste_8 ⟨Nat.le_of_ble_eq_true rfl, Nat.le_of_ble_eq_true rfl⟩) hP hD hS hA [] [0, 1, 2, 3, 4] rfl rfl (by decide) (by decide) (fun r3 u H locs hw hP hD hS => ?_)
    obtain ⟨hP, hD⟩ : ct_B D A H [oo qh qr qt qd qd2 qi qh_kept qf qf2 vh_laid qo qe qw qu qg qn qs, (qs, .inr (7, [.ref qs_widths, .ref qs_sizes, .ref qs_numbers])), (qs_widths, .inl (cI, 4, .inl (fs_widths))), (qs_sizes, .inl (cI, 4, .inl (fs_sizes))), (qs_numbers, .inl (cJ, 240, .inr (.inl (fs_numbers))))] := ⟨hP, hD⟩
    have hz := hw
    rcases hz with ⟨hz, hz2⟩ | ⟨hz, hz2⟩
    · subst hz
      have hz_4 : (0 ≤ a3.toInt ∧ a3.toInt < 4) := hz2
      refine lv_if_ne (tgt := 17) hx hb dX11_paste_11 (by decide) (fun _ => ?_) (fun hc => absurd hc (by decide))
      refine lv_aload_n hx hb dX11_paste_17 rfl (lv_at hl 0 rfl) ?_
      refine va_get (D := D) (ci := 11) (v := .ref qs) (C := RX11) (T := TX11) (N := 16) hx hb hts hi11 hown hK hP 0 rfl rfl 15 (by decide) (hts (.fieldLink RX11 98 "OverHill" "slots" "LOverHill$Slots;") (by decide +kernel)) (fun _ h9 => h9) rfl dX11_paste_18 ?_
      refine lv_iload_n hx hb dX11_paste_21 rfl (lv_at hl 1 rfl) ?_
      refine ct_calli (D := D) (wr := [oo qh qr qt qd qd2 qi qh_kept qf qf2 vh_laid qo qe qw qu qg qn qs, (qs_widths, .inl (cI, 4, .inl (fs_widths))), (qs_numbers, .inl (cJ, 240, .inr (.inl (fs_numbers))))]) (va_runV (As := [.int a1]) (rest := []) ⟨hx, hb, hml, hown, hts⟩ (c_X7_has l D G cI cJ cB cZ cO qs qs_widths qs_sizes fs_sizes qs_numbers a1 h_fs_sizes (by omega) H.size) (cwV 1 hts gX11_paste_X7_has rfl rfl rfl (by decide +kernel) ⟨Nat.le_of_ble_eq_true rfl, Nat.le_of_ble_eq_true rfl⟩) (ct_preV (T := ct_T cI cJ cB cZ cO) (ci := 7) (q0 := 1) hE hH hP hD hS hA [1, 3] (by decide) rfl rfl rfl) rfl rfl hl.1 rfl (lv_room (Nat.le_of_ble_eq_true rfl)) dX11_paste_22 ⟨Nat.le_of_ble_eq_true rfl, Nat.le_of_ble_eq_true rfl⟩) hP hD hS hA [1, 3] [0, 2, 4] rfl rfl (by decide) (by decide) (fun r5 u H locs hw hP hD hS => ?_)
      obtain ⟨hP, hD⟩ : ct_B D A H [oo qh qr qt qd qd2 qi qh_kept qf qf2 vh_laid qo qe qw qu qg qn qs, (qs_widths, .inl (cI, 4, .inl (fs_widths))), (qs_numbers, .inl (cJ, 240, .inr (.inl (fs_numbers)))), (qs, .inr (7, [.ref qs_widths, .ref qs_sizes, .ref qs_numbers])), (qs_sizes, .inl (cI, 4, .inl (fs_sizes)))] := ⟨hP, hD⟩
      have hz := hw
      rcases hz with ⟨hz, hz2⟩ | ⟨hz, hz2⟩
      · subst hz
        have hz_6 : ((fs_sizes a1.toNatClampNeg).toInt ≠ -1) := hz2
        refine lv_if_eq (tgt := 39) hx hb dX11_paste_25 (by decide) (fun hc => absurd hc (by decide)) (fun _ => ?_)
        refine lv_aload_n hx hb dX11_paste_28 rfl (lv_at hl 0 rfl) ?_
        refine va_get (D := D) (ci := 11) (v := .ref qs) (C := RX11) (T := TX11) (N := 16) hx hb hts hi11 hown hK hP 0 rfl rfl 15 (by decide) (hts (.fieldLink RX11 98 "OverHill" "slots" "LOverHill$Slots;") (by decide +kernel)) (fun _ h9 => h9) rfl dX11_paste_29 ?_
        refine lv_iload_n hx hb dX11_paste_32 rfl (lv_at hl 3 rfl) ?_
        refine ct_calli (D := D) (wr := [oo qh qr qt qd qd2 qi qh_kept qf qf2 vh_laid qo qe qw qu qg qn qs, (qs_widths, .inl (cI, 4, .inl (fs_widths))), (qs_numbers, .inl (cJ, 240, .inr (.inl (fs_numbers))))]) (va_runV (As := [.int a3]) (rest := []) ⟨hx, hb, hml, hown, hts⟩ (c_X7_has l D G cI cJ cB cZ cO qs qs_widths qs_sizes fs_sizes qs_numbers a3 h_fs_sizes (by omega) H.size) (cwV 1 hts gX11_paste_X7_has rfl rfl rfl (by decide +kernel) ⟨Nat.le_of_ble_eq_true rfl, Nat.le_of_ble_eq_true rfl⟩) (ct_preV (T := ct_T cI cJ cB cZ cO) (ci := 7) (q0 := 3) hE hH hP hD hS hA [3, 4] (by decide) rfl rfl rfl) rfl rfl hl.1 rfl (lv_room (Nat.le_of_ble_eq_true rfl)) dX11_paste_33 ⟨Nat.le_of_ble_eq_true rfl, Nat.le_of_ble_eq_true rfl⟩) hP hD hS hA [3, 4] [0, 1, 2] rfl rfl (by decide) (by decide) (fun r7 u H locs hw hP hD hS => ?_)
        obtain ⟨hP, hD⟩ : ct_B D A H [oo qh qr qt qd qd2 qi qh_kept qf qf2 vh_laid qo qe qw qu qg qn qs, (qs_widths, .inl (cI, 4, .inl (fs_widths))), (qs_numbers, .inl (cJ, 240, .inr (.inl (fs_numbers)))), (qs, .inr (7, [.ref qs_widths, .ref qs_sizes, .ref qs_numbers])), (qs_sizes, .inl (cI, 4, .inl (fs_sizes)))] := ⟨hP, hD⟩
        have hz := hw
        rcases hz with ⟨hz, hz2⟩ | ⟨hz, hz2⟩
        · subst hz
          have hz_8 : ((fs_sizes a3.toNatClampNeg).toInt ≠ -1) := hz2
          refine lv_if_ne (tgt := 42) hx hb dX11_paste_36 (by decide) (fun _ => ?_) (fun hc => absurd hc (by decide))
          refine lv_aload_n hx hb dX11_paste_42 rfl (lv_at hl 0 rfl) ?_
          refine va_get (D := D) (ci := 11) (v := .ref qs) (C := RX11) (T := TX11) (N := 16) hx hb hts hi11 hown hK hP 0 rfl rfl 15 (by decide) (hts (.fieldLink RX11 98 "OverHill" "slots" "LOverHill$Slots;") (by decide +kernel)) (fun _ h9 => h9) rfl dX11_paste_43 ?_
          refine va_get (D := D) (ci := 7) (v := .ref qs_widths) (C := RX7) (T := TX7) (N := 3) hx hb hts hi7 hown hK hP 3 rfl rfl 0 (by decide) (hts (.fieldLink RX11 426 "OverHill$Slots" "widths" "[I") (by decide +kernel)) (fun _ h9 => h9) rfl dX11_paste_46 ?_
          refine lv_iload_n hx hb dX11_paste_49 rfl (lv_at hl 1 rfl) ?_
          refine va_iald (D := D) hx hb hK hP 1 0 rfl rfl (tq_in rfl (by omega)) dX11_paste_50 ?_
          refine lv_topi (fun z9 ez9 => ?_)
          have gz9 : z9.toInt = (fs_widths a1.toNatClampNeg).toInt := by rw [ez9]
          refine lv_aload_n hx hb dX11_paste_51 rfl (lv_at hl 0 rfl) ?_
          refine va_get (D := D) (ci := 11) (v := .ref qs) (C := RX11) (T := TX11) (N := 16) hx hb hts hi11 hown hK hP 0 rfl rfl 15 (by decide) (hts (.fieldLink RX11 98 "OverHill" "slots" "LOverHill$Slots;") (by decide +kernel)) (fun _ h9 => h9) rfl dX11_paste_52 ?_
          refine va_get (D := D) (ci := 7) (v := .ref qs_widths) (C := RX7) (T := TX7) (N := 3) hx hb hts hi7 hown hK hP 3 rfl rfl 0 (by decide) (hts (.fieldLink RX11 426 "OverHill$Slots" "widths" "[I") (by decide +kernel)) (fun _ h9 => h9) rfl dX11_paste_55 ?_
          refine lv_iload_n hx hb dX11_paste_58 rfl (lv_at hl 3 rfl) ?_
          refine va_iald (D := D) hx hb hK hP 1 0 rfl rfl (tq_in rfl (by omega)) dX11_paste_59 ?_
          refine lv_topi (fun z10 ez10 => ?_)
          have gz10 : z10.toInt = (fs_widths a3.toNatClampNeg).toInt := by rw [ez10]
          refine lv_icmp_eq (tgt := 66) hx hb dX11_paste_60 (by decide) (fun hc => ?_) (fun hc => ?_)
          · have hq11 : z9.toInt = z10.toInt := tq_eq rfl rfl hc
            have hb12 := tq_lo z9
            have hb13 := tq_lo z10
            refine lv_aload_n hx hb dX11_paste_66 rfl (lv_at hl 0 rfl) ?_
            refine va_get (D := D) (ci := 11) (v := .ref qs) (C := RX11) (T := TX11) (N := 16) hx hb hts hi11 hown hK hP 0 rfl rfl 15 (by decide) (hts (.fieldLink RX11 98 "OverHill" "slots" "LOverHill$Slots;") (by decide +kernel)) (fun _ h9 => h9) rfl dX11_paste_67 ?_
            refine lv_iload_n hx hb dX11_paste_70 rfl (lv_at hl 1 rfl) ?_
            refine lv_iload_n hx hb dX11_paste_71 rfl (lv_at hl 2 rfl) ?_
            refine lv_iload hx hb dX11_paste_72 (lv_at hl 5 rfl) ?_
            refine ct_calli (D := D) (wr := [oo qh qr qt qd qd2 qi qh_kept qf qf2 vh_laid qo qe qw qu qg qn qs, (qs_widths, .inl (cI, 4, .inl (fs_widths))), (qs_numbers, .inl (cJ, 240, .inr (.inl (fs_numbers))))]) (va_runV (As := [.int a1, .int a2, .int a5]) (rest := []) ⟨hx, hb, hml, hown, hts⟩ (c_X7_holds l D G cI cJ cB cZ cO qs qs_widths qs_sizes fs_sizes qs_numbers a1 a2 a5 h_fs_sizes (by omega) H.size) (cwV 3 hts gX11_paste_X7_holds rfl rfl rfl (by decide +kernel) ⟨Nat.le_of_ble_eq_true rfl, Nat.le_of_ble_eq_true rfl⟩) (ct_preV (T := ct_T cI cJ cB cZ cO) (ci := 7) (q0 := 3) hE hH hP hD hS hA [3, 4] (by decide) rfl rfl rfl) rfl rfl hl.1 rfl (lv_room (Nat.le_of_ble_eq_true rfl)) dX11_paste_74 ⟨Nat.le_of_ble_eq_true rfl, Nat.le_of_ble_eq_true rfl⟩) hP hD hS hA [3, 4] [0, 1, 2] rfl rfl (by decide) (by decide) (fun r14 u H locs hw hP hD hS => ?_)
            obtain ⟨hP, hD⟩ : ct_B D A H [oo qh qr qt qd qd2 qi qh_kept qf qf2 vh_laid qo qe qw qu qg qn qs, (qs_widths, .inl (cI, 4, .inl (fs_widths))), (qs_numbers, .inl (cJ, 240, .inr (.inl (fs_numbers)))), (qs, .inr (7, [.ref qs_widths, .ref qs_sizes, .ref qs_numbers])), (qs_sizes, .inl (cI, 4, .inl (fs_sizes)))] := ⟨hP, hD⟩
            have hz := hw
            rcases hz with ⟨hz, hz2⟩ | ⟨hz, hz2⟩
            · subst hz
              have hz_15 : (0 ≤ a2.toInt ∧ 0 ≤ a5.toInt ∧ a2.toInt + a5.toInt ≤ 60 ∧ a2.toInt + a5.toInt ≤ (fs_sizes a1.toNatClampNeg).toInt) := hz2
              refine lv_if_eq (tgt := 95) hx hb dX11_paste_77 (by decide) (fun hc => absurd hc (by decide)) (fun _ => ?_)
              refine lv_aload_n hx hb dX11_paste_80 rfl (lv_at hl 0 rfl) ?_
              refine va_get (D := D) (ci := 11) (v := .ref qs) (C := RX11) (T := TX11) (N := 16) hx hb hts hi11 hown hK hP 0 rfl rfl 15 (by decide) (hts (.fieldLink RX11 98 "OverHill" "slots" "LOverHill$Slots;") (by decide +kernel)) (fun _ h9 => h9) rfl dX11_paste_81 ?_
              refine lv_iload_n hx hb dX11_paste_84 rfl (lv_at hl 3 rfl) ?_
              refine lv_iload hx hb dX11_paste_85 (lv_at hl 4 rfl) ?_
              refine lv_iload hx hb dX11_paste_87 (lv_at hl 5 rfl) ?_
              refine ct_calli (D := D) (wr := [oo qh qr qt qd qd2 qi qh_kept qf qf2 vh_laid qo qe qw qu qg qn qs, (qs_widths, .inl (cI, 4, .inl (fs_widths))), (qs_numbers, .inl (cJ, 240, .inr (.inl (fs_numbers))))]) (va_runV (As := [.int a3, .int a4, .int a5]) (rest := []) ⟨hx, hb, hml, hown, hts⟩ (c_X7_holds l D G cI cJ cB cZ cO qs qs_widths qs_sizes fs_sizes qs_numbers a3 a4 a5 h_fs_sizes (by omega) H.size) (cwV 3 hts gX11_paste_X7_holds rfl rfl rfl (by decide +kernel) ⟨Nat.le_of_ble_eq_true rfl, Nat.le_of_ble_eq_true rfl⟩) (ct_preV (T := ct_T cI cJ cB cZ cO) (ci := 7) (q0 := 3) hE hH hP hD hS hA [3, 4] (by decide) rfl rfl rfl) rfl rfl hl.1 rfl (lv_room (Nat.le_of_ble_eq_true rfl)) dX11_paste_89 ⟨Nat.le_of_ble_eq_true rfl, Nat.le_of_ble_eq_true rfl⟩) hP hD hS hA [3, 4] [0, 1, 2] rfl rfl (by decide) (by decide) (fun r16 u H locs hw hP hD hS => ?_)
              obtain ⟨hP, hD⟩ : ct_B D A H [oo qh qr qt qd qd2 qi qh_kept qf qf2 vh_laid qo qe qw qu qg qn qs, (qs_widths, .inl (cI, 4, .inl (fs_widths))), (qs_numbers, .inl (cJ, 240, .inr (.inl (fs_numbers)))), (qs, .inr (7, [.ref qs_widths, .ref qs_sizes, .ref qs_numbers])), (qs_sizes, .inl (cI, 4, .inl (fs_sizes)))] := ⟨hP, hD⟩
              have hz := hw
              rcases hz with ⟨hz, hz2⟩ | ⟨hz, hz2⟩
              · subst hz
                have hz_17 : (0 ≤ a4.toInt ∧ 0 ≤ a5.toInt ∧ a4.toInt + a5.toInt ≤ 60 ∧ a4.toInt + a5.toInt ≤ (fs_sizes a3.toNatClampNeg).toInt) := hz2
                refine lv_if_ne (tgt := 98) hx hb dX11_paste_92 (by decide) (fun _ => ?_) (fun hc => absurd hc (by decide))
                refine lv_aload_n hx hb dX11_paste_98 rfl (lv_at hl 0 rfl) ?_
                refine va_get (D := D) (ci := 11) (v := .ref qs) (C := RX11) (T := TX11) (N := 16) hx hb hts hi11 hown hK hP 0 rfl rfl 15 (by decide) (hts (.fieldLink RX11 98 "OverHill" "slots" "LOverHill$Slots;") (by decide +kernel)) (fun _ h9 => h9) rfl dX11_paste_99 ?_
                refine lv_iload_n hx hb dX11_paste_102 rfl (lv_at hl 1 rfl) ?_
                refine lv_iload_n hx hb dX11_paste_103 rfl (lv_at hl 2 rfl) ?_
                refine lv_iload_n hx hb dX11_paste_104 rfl (lv_at hl 3 rfl) ?_
                refine lv_iload hx hb dX11_paste_105 (lv_at hl 4 rfl) ?_
                refine lv_iload hx hb dX11_paste_107 (lv_at hl 5 rfl) ?_
                refine ct_callv (D := D) (wr := [oo qh qr qt qd qd2 qi qh_kept qf qf2 vh_laid qo qe qw qu qg qn qs, (qs_widths, .inl (cI, 4, .inl (fs_widths))), (qs_sizes, .inl (cI, 4, .inl (fs_sizes)))]) (va_runV (As := [.int a1, .int a2, .int a3, .int a4, .int a5]) (rest := []) ⟨hx, hb, hml, hown, hts⟩ (c_X7_move l D G cI cJ cB cZ cO qs qs_widths qs_sizes qs_numbers fs_numbers a1 a2 a3 a4 a5 (by omega) (by omega) (by omega) (by omega) (by omega) (by omega) (by omega) H.size) (cwV 5 hts gX11_paste_X7_move rfl rfl rfl (by decide +kernel) ⟨Nat.le_of_ble_eq_true rfl, Nat.le_of_ble_eq_true rfl⟩) (ct_preV (T := ct_T cI cJ cB cZ cO) (ci := 7) (q0 := 3) hE hH hP hD hS hA [3, 2] (by decide) rfl rfl rfl) rfl rfl hl.1 rfl (lv_room (Nat.le_of_ble_eq_true rfl)) dX11_paste_109 ⟨Nat.le_of_ble_eq_true rfl, Nat.le_of_ble_eq_true rfl⟩) hP hD hS hA [3, 2] [0, 1, 4] rfl rfl (by decide) (by decide) (fun u H locs hw hP hD hS => ?_)
                obtain ⟨g18, rfl⟩ : ∃ z, z = u := ⟨_, rfl⟩
                obtain ⟨hP, hD⟩ : ct_B D A H [oo qh qr qt qd qd2 qi qh_kept qf qf2 vh_laid qo qe qw qu qg qn qs, (qs_widths, .inl (cI, 4, .inl (fs_widths))), (qs_sizes, .inl (cI, 4, .inl (fs_sizes))), (qs, .inr (7, [.ref qs_widths, .ref qs_sizes, .ref qs_numbers])), (qs_numbers, .inl (cJ, 240, .inr (.inl (g18))))] := ⟨hP, hD⟩
                have hp0 := hw
                have hp_19 : paN (60 * a1.toInt + a2.toInt) (60 * a3.toInt + a4.toInt) a5.toInt fs_numbers g18 := hp0
                refine lv_iconst (v := 0) hx hb dX11_paste_112 (by decide) ?_
                have hk20 : (0 : Int32).toInt = 0 := by decide
                obtain ⟨hP9, hD9⟩ : ct_B D A H [oo qh qr qt qd qd2 qi qh_kept qf qf2 vh_laid qo qe qw qu qg qn qs, (qs, .inr (7, [.ref qs_widths, .ref qs_sizes, .ref qs_numbers])), (qs_widths, .inl (cI, 4, .inl (fs_widths))), (qs_sizes, .inl (cI, 4, .inl (fs_sizes))), (qs_numbers, .inl (cJ, 240, .inr (.inl (g18))))] := ⟨hP.sub [0, 3, 1, 2, 4] rfl, hD.sub [0, 3, 1, 2, 4] (by decide) rfl⟩
                exact W.iret (v := 0) hx hb hr (fun t ht hW => ⟨⟨0, g18, rfl, ⟨(Or.inr (Or.inr (Or.inr (Or.inr (⟨rfl, (show ((0 ≤ a1.toInt ∧ a1.toInt < 4) ∧ (0 ≤ a3.toInt ∧ a3.toInt < 4) ∧ ((fs_sizes a1.toNatClampNeg).toInt ≠ -1) ∧ ((fs_sizes a3.toNatClampNeg).toInt ≠ -1) ∧ (fs_widths a1.toNatClampNeg).toInt = (fs_widths a3.toNatClampNeg).toInt ∧ (0 ≤ a2.toInt ∧ 0 ≤ a4.toInt ∧ 0 ≤ a5.toInt ∧ a2.toInt + a5.toInt ≤ (fs_sizes a1.toNatClampNeg).toInt ∧ a4.toInt + a5.toInt ≤ (fs_sizes a3.toNatClampNeg).toInt)) by omega)⟩))))), (show ((0 : Int32) = 0 ∧ paN (60 * a1.toInt + a2.toInt) (60 * a3.toInt + a4.toInt) a5.toInt fs_numbers g18) ∨ ((0 : Int32) ≠ 0 ∧ g18 = fs_numbers) by exact Or.inl ⟨rfl, hp_19⟩)⟩, by rw [ht]; exact hP9, hD9⟩, hS.F ht⟩) hS.2.2 dX11_paste_113
              · subst hz
                have hz_21 : ¬ (0 ≤ a4.toInt ∧ 0 ≤ a5.toInt ∧ a4.toInt + a5.toInt ≤ (fs_sizes a3.toNatClampNeg).toInt) := hz2
                refine lv_if_ne (tgt := 98) hx hb dX11_paste_92 (by decide) (fun hc => absurd hc (by decide)) (fun _ => ?_)
                refine lv_bipush (v := (-7)) hx hb dX11_paste_95 (by decide) ?_
                have hk22 : (-7 : Int32).toInt = (-7) := by decide
                obtain ⟨hP9, hD9⟩ : ct_B D A H [oo qh qr qt qd qd2 qi qh_kept qf qf2 vh_laid qo qe qw qu qg qn qs, (qs, .inr (7, [.ref qs_widths, .ref qs_sizes, .ref qs_numbers])), (qs_widths, .inl (cI, 4, .inl (fs_widths))), (qs_sizes, .inl (cI, 4, .inl (fs_sizes))), (qs_numbers, .inl (cJ, 240, .inr (.inl (fs_numbers))))] := ⟨hP.sub [0, 3, 1, 4, 2] rfl, hD.sub [0, 3, 1, 4, 2] (by decide) rfl⟩
                exact W.iret (v := (-7)) hx hb hr (fun t ht hW => ⟨⟨(-7), fs_numbers, rfl, ⟨(Or.inr (Or.inr (Or.inr (Or.inl ⟨rfl, (show ((0 ≤ a1.toInt ∧ a1.toInt < 4) ∧ (0 ≤ a3.toInt ∧ a3.toInt < 4) ∧ ((fs_sizes a1.toNatClampNeg).toInt ≠ -1) ∧ ((fs_sizes a3.toNatClampNeg).toInt ≠ -1) ∧ (fs_widths a1.toNatClampNeg).toInt = (fs_widths a3.toNatClampNeg).toInt ∧ ¬ (0 ≤ a2.toInt ∧ 0 ≤ a4.toInt ∧ 0 ≤ a5.toInt ∧ a2.toInt + a5.toInt ≤ (fs_sizes a1.toNatClampNeg).toInt ∧ a4.toInt + a5.toInt ≤ (fs_sizes a3.toNatClampNeg).toInt)) by omega)⟩)))), (show ((-7 : Int32) = 0 ∧ paN (60 * a1.toInt + a2.toInt) (60 * a3.toInt + a4.toInt) a5.toInt fs_numbers fs_numbers) ∨ ((-7 : Int32) ≠ 0 ∧ fs_numbers = fs_numbers) by exact Or.inr ⟨by decide, rfl⟩)⟩, by rw [ht]; exact hP9, hD9⟩, hS.F ht⟩) hS.2.2 dX11_paste_97
            · subst hz
              have hz_23 : ¬ (0 ≤ a2.toInt ∧ 0 ≤ a5.toInt ∧ a2.toInt + a5.toInt ≤ (fs_sizes a1.toNatClampNeg).toInt) := hz2
              refine lv_if_eq (tgt := 95) hx hb dX11_paste_77 (by decide) (fun _ => ?_) (fun hc => absurd hc (by decide))
              refine lv_bipush (v := (-7)) hx hb dX11_paste_95 (by decide) ?_
              have hk24 : (-7 : Int32).toInt = (-7) := by decide
              obtain ⟨hP9, hD9⟩ : ct_B D A H [oo qh qr qt qd qd2 qi qh_kept qf qf2 vh_laid qo qe qw qu qg qn qs, (qs, .inr (7, [.ref qs_widths, .ref qs_sizes, .ref qs_numbers])), (qs_widths, .inl (cI, 4, .inl (fs_widths))), (qs_sizes, .inl (cI, 4, .inl (fs_sizes))), (qs_numbers, .inl (cJ, 240, .inr (.inl (fs_numbers))))] := ⟨hP.sub [0, 3, 1, 4, 2] rfl, hD.sub [0, 3, 1, 4, 2] (by decide) rfl⟩
              exact W.iret (v := (-7)) hx hb hr (fun t ht hW => ⟨⟨(-7), fs_numbers, rfl, ⟨(Or.inr (Or.inr (Or.inr (Or.inl ⟨rfl, (show ((0 ≤ a1.toInt ∧ a1.toInt < 4) ∧ (0 ≤ a3.toInt ∧ a3.toInt < 4) ∧ ((fs_sizes a1.toNatClampNeg).toInt ≠ -1) ∧ ((fs_sizes a3.toNatClampNeg).toInt ≠ -1) ∧ (fs_widths a1.toNatClampNeg).toInt = (fs_widths a3.toNatClampNeg).toInt ∧ ¬ (0 ≤ a2.toInt ∧ 0 ≤ a4.toInt ∧ 0 ≤ a5.toInt ∧ a2.toInt + a5.toInt ≤ (fs_sizes a1.toNatClampNeg).toInt ∧ a4.toInt + a5.toInt ≤ (fs_sizes a3.toNatClampNeg).toInt)) by omega)⟩)))), (show ((-7 : Int32) = 0 ∧ paN (60 * a1.toInt + a2.toInt) (60 * a3.toInt + a4.toInt) a5.toInt fs_numbers fs_numbers) ∨ ((-7 : Int32) ≠ 0 ∧ fs_numbers = fs_numbers) by exact Or.inr ⟨by decide, rfl⟩)⟩, by rw [ht]; exact hP9, hD9⟩, hS.F ht⟩) hS.2.2 dX11_paste_97
          · have hq11 : z9.toInt ≠ z10.toInt := tq_ne rfl rfl hc
            have hb25 := tq_lo z9
            have hb26 := tq_lo z10
            refine lv_bipush (v := (-8)) hx hb dX11_paste_63 (by decide) ?_
            have hk27 : (-8 : Int32).toInt = (-8) := by decide
            obtain ⟨hP9, hD9⟩ : ct_B D A H [oo qh qr qt qd qd2 qi qh_kept qf qf2 vh_laid qo qe qw qu qg qn qs, (qs, .inr (7, [.ref qs_widths, .ref qs_sizes, .ref qs_numbers])), (qs_widths, .inl (cI, 4, .inl (fs_widths))), (qs_sizes, .inl (cI, 4, .inl (fs_sizes))), (qs_numbers, .inl (cJ, 240, .inr (.inl (fs_numbers))))] := ⟨hP.sub [0, 3, 1, 4, 2] rfl, hD.sub [0, 3, 1, 4, 2] (by decide) rfl⟩
            exact W.iret (v := (-8)) hx hb hr (fun t ht hW => ⟨⟨(-8), fs_numbers, rfl, ⟨(Or.inr (Or.inr (Or.inl ⟨rfl, (show ((0 ≤ a1.toInt ∧ a1.toInt < 4) ∧ (0 ≤ a3.toInt ∧ a3.toInt < 4) ∧ ((fs_sizes a1.toNatClampNeg).toInt ≠ -1) ∧ ((fs_sizes a3.toNatClampNeg).toInt ≠ -1) ∧ (fs_widths a1.toNatClampNeg).toInt ≠ (fs_widths a3.toNatClampNeg).toInt) by omega)⟩))), (show ((-8 : Int32) = 0 ∧ paN (60 * a1.toInt + a2.toInt) (60 * a3.toInt + a4.toInt) a5.toInt fs_numbers fs_numbers) ∨ ((-8 : Int32) ≠ 0 ∧ fs_numbers = fs_numbers) by exact Or.inr ⟨by decide, rfl⟩)⟩, by rw [ht]; exact hP9, hD9⟩, hS.F ht⟩) hS.2.2 dX11_paste_65
        · subst hz
          have hz_28 : ¬ ((fs_sizes a3.toNatClampNeg).toInt ≠ -1) := hz2
          refine lv_if_ne (tgt := 42) hx hb dX11_paste_36 (by decide) (fun hc => absurd hc (by decide)) (fun _ => ?_)
          refine lv_bipush (v := (-6)) hx hb dX11_paste_39 (by decide) ?_
          have hk29 : (-6 : Int32).toInt = (-6) := by decide
          obtain ⟨hP9, hD9⟩ : ct_B D A H [oo qh qr qt qd qd2 qi qh_kept qf qf2 vh_laid qo qe qw qu qg qn qs, (qs, .inr (7, [.ref qs_widths, .ref qs_sizes, .ref qs_numbers])), (qs_widths, .inl (cI, 4, .inl (fs_widths))), (qs_sizes, .inl (cI, 4, .inl (fs_sizes))), (qs_numbers, .inl (cJ, 240, .inr (.inl (fs_numbers))))] := ⟨hP.sub [0, 3, 1, 4, 2] rfl, hD.sub [0, 3, 1, 4, 2] (by decide) rfl⟩
          exact W.iret (v := (-6)) hx hb hr (fun t ht hW => ⟨⟨(-6), fs_numbers, rfl, ⟨(Or.inr (Or.inl ⟨rfl, (show ((0 ≤ a1.toInt ∧ a1.toInt < 4) ∧ (0 ≤ a3.toInt ∧ a3.toInt < 4) ∧ ¬ (((fs_sizes a1.toNatClampNeg).toInt ≠ -1) ∧ ((fs_sizes a3.toNatClampNeg).toInt ≠ -1))) by omega)⟩)), (show ((-6 : Int32) = 0 ∧ paN (60 * a1.toInt + a2.toInt) (60 * a3.toInt + a4.toInt) a5.toInt fs_numbers fs_numbers) ∨ ((-6 : Int32) ≠ 0 ∧ fs_numbers = fs_numbers) by exact Or.inr ⟨by decide, rfl⟩)⟩, by rw [ht]; exact hP9, hD9⟩, hS.F ht⟩) hS.2.2 dX11_paste_41
      · subst hz
        have hz_30 : ¬ ((fs_sizes a1.toNatClampNeg).toInt ≠ -1) := hz2
        refine lv_if_eq (tgt := 39) hx hb dX11_paste_25 (by decide) (fun _ => ?_) (fun hc => absurd hc (by decide))
        refine lv_bipush (v := (-6)) hx hb dX11_paste_39 (by decide) ?_
        have hk31 : (-6 : Int32).toInt = (-6) := by decide
        obtain ⟨hP9, hD9⟩ : ct_B D A H [oo qh qr qt qd qd2 qi qh_kept qf qf2 vh_laid qo qe qw qu qg qn qs, (qs, .inr (7, [.ref qs_widths, .ref qs_sizes, .ref qs_numbers])), (qs_widths, .inl (cI, 4, .inl (fs_widths))), (qs_sizes, .inl (cI, 4, .inl (fs_sizes))), (qs_numbers, .inl (cJ, 240, .inr (.inl (fs_numbers))))] := ⟨hP.sub [0, 3, 1, 4, 2] rfl, hD.sub [0, 3, 1, 4, 2] (by decide) rfl⟩
        exact W.iret (v := (-6)) hx hb hr (fun t ht hW => ⟨⟨(-6), fs_numbers, rfl, ⟨(Or.inr (Or.inl ⟨rfl, (show ((0 ≤ a1.toInt ∧ a1.toInt < 4) ∧ (0 ≤ a3.toInt ∧ a3.toInt < 4) ∧ ¬ (((fs_sizes a1.toNatClampNeg).toInt ≠ -1) ∧ ((fs_sizes a3.toNatClampNeg).toInt ≠ -1))) by omega)⟩)), (show ((-6 : Int32) = 0 ∧ paN (60 * a1.toInt + a2.toInt) (60 * a3.toInt + a4.toInt) a5.toInt fs_numbers fs_numbers) ∨ ((-6 : Int32) ≠ 0 ∧ fs_numbers = fs_numbers) by exact Or.inr ⟨by decide, rfl⟩)⟩, by rw [ht]; exact hP9, hD9⟩, hS.F ht⟩) hS.2.2 dX11_paste_41
    · subst hz
      have hz_32 : ¬ (0 ≤ a3.toInt ∧ a3.toInt < 4) := hz2
      refine lv_if_ne (tgt := 17) hx hb dX11_paste_11 (by decide) (fun hc => absurd hc (by decide)) (fun _ => ?_)
      refine lv_bipush (v := (-2)) hx hb dX11_paste_14 (by decide) ?_
      have hk33 : (-2 : Int32).toInt = (-2) := by decide
      obtain ⟨hP9, hD9⟩ : ct_B D A H [oo qh qr qt qd qd2 qi qh_kept qf qf2 vh_laid qo qe qw qu qg qn qs, (qs, .inr (7, [.ref qs_widths, .ref qs_sizes, .ref qs_numbers])), (qs_widths, .inl (cI, 4, .inl (fs_widths))), (qs_sizes, .inl (cI, 4, .inl (fs_sizes))), (qs_numbers, .inl (cJ, 240, .inr (.inl (fs_numbers))))] := ⟨hP.sub [0, 1, 2, 3, 4] rfl, hD.sub [0, 1, 2, 3, 4] (by decide) rfl⟩
      exact W.iret (v := (-2)) hx hb hr (fun t ht hW => ⟨⟨(-2), fs_numbers, rfl, ⟨(Or.inl ⟨rfl, (show ¬ ((0 ≤ a1.toInt ∧ a1.toInt < 4) ∧ (0 ≤ a3.toInt ∧ a3.toInt < 4)) by omega)⟩), (show ((-2 : Int32) = 0 ∧ paN (60 * a1.toInt + a2.toInt) (60 * a3.toInt + a4.toInt) a5.toInt fs_numbers fs_numbers) ∨ ((-2 : Int32) ≠ 0 ∧ fs_numbers = fs_numbers) by exact Or.inr ⟨by decide, rfl⟩)⟩, by rw [ht]; exact hP9, hD9⟩, hS.F ht⟩) hS.2.2 dX11_paste_16
  · subst hz
    have hz_34 : ¬ (0 ≤ a1.toInt ∧ a1.toInt < 4) := hz2
    refine lv_if_eq (tgt := 14) hx hb dX11_paste_4 (by decide) (fun _ => ?_) (fun hc => absurd hc (by decide))
    refine lv_bipush (v := (-2)) hx hb dX11_paste_14 (by decide) ?_
    have hk35 : (-2 : Int32).toInt = (-2) := by decide
    obtain ⟨hP9, hD9⟩ : ct_B D A H [oo qh qr qt qd qd2 qi qh_kept qf qf2 vh_laid qo qe qw qu qg qn qs, (qs, .inr (7, [.ref qs_widths, .ref qs_sizes, .ref qs_numbers])), (qs_widths, .inl (cI, 4, .inl (fs_widths))), (qs_sizes, .inl (cI, 4, .inl (fs_sizes))), (qs_numbers, .inl (cJ, 240, .inr (.inl (fs_numbers))))] := ⟨hP.sub [0, 1, 2, 3, 4] rfl, hD.sub [0, 1, 2, 3, 4] (by decide) rfl⟩
    exact W.iret (v := (-2)) hx hb hr (fun t ht hW => ⟨⟨(-2), fs_numbers, rfl, ⟨(Or.inl ⟨rfl, (show ¬ ((0 ≤ a1.toInt ∧ a1.toInt < 4) ∧ (0 ≤ a3.toInt ∧ a3.toInt < 4)) by omega)⟩), (show ((-2 : Int32) = 0 ∧ paN (60 * a1.toInt + a2.toInt) (60 * a3.toInt + a4.toInt) a5.toInt fs_numbers fs_numbers) ∨ ((-2 : Int32) ≠ 0 ∧ fs_numbers = fs_numbers) by exact Or.inr ⟨by decide, rfl⟩)⟩, by rw [ht]; exact hP9, hD9⟩, hS.F ht⟩) hS.2.2 dX11_paste_16
