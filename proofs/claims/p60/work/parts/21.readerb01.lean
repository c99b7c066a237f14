abbrev w_c_X5_readMud (cI cJ cB cZ cO : ClassId) (qr : Nat) (vr_numberPlace : Int32) (vr_fault : Int32) (vr_faultPlace : Int32) (qt : Nat) (qt_bytes : Nat) (ft_bytes : Nat → Int32) (vt_length : Int32) (vt_kind : Int32) (vt_from : Int32) (vt_upto : Int32) (vt_value : Int32) (qd : Nat) (vd_gap : Int32) (vd_odds : Int32) (vd_rain : Int32) (vd_lines : Int32) (qd_steps : Nat) (qd_lengths : Nat) (qd_starts : Nat) (qd_met : Nat) (qd_stumbles : Nat) (vd_stumbleCount : Int32) (qd_muds : Nat) (fd_muds : Nat → Int32) (qd_cells : Nat) (vd_cellCount : Int32) (qd_tunes : Nat) (vd_tuneCount : Int32) (qd_changes : Nat) (vd_changeCount : Int32) : va_W := [(qr, .inr (5, [.ref qt, .int vr_numberPlace, .int vr_fault, .int vr_faultPlace])), (qt, .inr (8, [.ref qt_bytes, .int vt_length, .int vt_kind, .int vt_from, .int vt_upto, .int vt_value])), (qt_bytes, .inl (cB, 1200, .inl (ft_bytes))), dn qd vd_gap vd_odds vd_rain vd_lines qd_steps qd_lengths qd_starts qd_met qd_stumbles vd_stumbleCount qd_muds qd_cells vd_cellCount qd_tunes vd_tuneCount qd_changes vd_changeCount, (qd_muds, .inl (cI, 200, .inl (fd_muds)))]
set_option maxHeartbeats 4000000 in
set_option maxRecDepth 100000 in
/-- X5 readMud -/
theorem c_X5_readMud (l : Launch) (D : va_G) (G : ct_G) (cI cJ cB cZ cO : ClassId) (qr : Nat) (vr_numberPlace : Int32) (vr_fault : Int32) (vr_faultPlace : Int32) (qt : Nat) (qt_bytes : Nat) (ft_bytes : Nat → Int32) (vt_length : Int32) (vt_kind : Int32) (vt_from : Int32) (vt_upto : Int32) (vt_value : Int32) (qd : Nat) (vd_gap : Int32) (vd_odds : Int32) (vd_rain : Int32) (vd_lines : Int32) (qd_steps : Nat) (qd_lengths : Nat) (qd_starts : Nat) (qd_met : Nat) (qd_stumbles : Nat) (vd_stumbleCount : Int32) (qd_muds : Nat) (fd_muds : Nat → Int32) (qd_cells : Nat) (vd_cellCount : Int32) (qd_tunes : Nat) (vd_tuneCount : Int32) (qd_changes : Nat) (vd_changeCount : Int32) (h_vt_length : 0 ≤ vt_length.toInt ∧ vt_length.toInt ≤ 1200) (h_vt_from : 0 ≤ vt_from.toInt ∧ vt_from.toInt ≤ 1200) (h_vt_upto : 0 ≤ vt_upto.toInt ∧ vt_upto.toInt ≤ 1200) (h_vd_gap : 0 ≤ vd_gap.toInt ∧ vd_gap.toInt ≤ 20) (h_vd_stumbleCount : 0 ≤ vd_stumbleCount.toInt ∧ vd_stumbleCount.toInt ≤ 8) (h_vd_cellCount : 0 ≤ vd_cellCount.toInt ∧ vd_cellCount.toInt ≤ 12) (h_vd_tuneCount : 0 ≤ vd_tuneCount.toInt ∧ vd_tuneCount.toInt ≤ 5) (h_vd_changeCount : 0 ≤ vd_changeCount.toInt ∧ vd_changeCount.toInt ≤ 40) (sz : Nat) : Met l yX5_readMud wsX5_readMud ({ frames := 3, cells := 0, slots := 0, locals := 67 }) (va_Pc [.ref qr, .ref qd] (ct_P D (ct_T cI cJ cB cZ cO) G (w_c_X5_readMud cI cJ cB cZ cO qr vr_numberPlace vr_fault vr_faultPlace qt qt_bytes ft_bytes vt_length vt_kind vt_from vt_upto vt_value qd vd_gap vd_odds vd_rain vd_lines qd_steps qd_lengths qd_starts qd_met qd_stumbles vd_stumbleCount qd_muds fd_muds qd_cells vd_cellCount qd_tunes vd_tuneCount qd_changes vd_changeCount) sz)) (va_Qv (fun (u : Int32 × Int32 × Int32 × Int32 × Int32 × Int32 × Int32 × (Nat → Int32)) => (0 ≤ u.2.2.2.2.1.toInt ∧ u.2.2.2.2.1.toInt ≤ 1200) ∧ (0 ≤ u.2.2.2.2.2.1.toInt ∧ u.2.2.2.2.2.1.toInt ≤ 1200)) (fun (u : Int32 × Int32 × Int32 × Int32 × Int32 × Int32 × Int32 × (Nat → Int32)) t => ct_Q D (va_A (w_c_X5_readMud cI cJ cB cZ cO qr vr_numberPlace vr_fault vr_faultPlace qt qt_bytes ft_bytes vt_length vt_kind vt_from vt_upto vt_value qd vd_gap vd_odds vd_rain vd_lines qd_steps qd_lengths qd_starts qd_met qd_stumbles vd_stumbleCount qd_muds fd_muds qd_cells vd_cellCount qd_tunes vd_tuneCount qd_changes vd_changeCount) sz) [(qr, .inr (5, [.ref qt, .int u.1, .int u.2.1, .int u.2.2.1])), (qt, .inr (8, [.ref qt_bytes, .int vt_length, .int u.2.2.2.1, .int u.2.2.2.2.1, .int u.2.2.2.2.2.1, .int u.2.2.2.2.2.2.1])), (qt_bytes, .inl (cB, 1200, .inl (ft_bytes))), dn qd vd_gap vd_odds vd_rain vd_lines qd_steps qd_lengths qd_starts qd_met qd_stumbles vd_stumbleCount qd_muds qd_cells vd_cellCount qd_tunes vd_tuneCount qd_changes vd_changeCount, (qd_muds, .inl (cI, 200, .inl (u.2.2.2.2.2.2.2)))] t) (va_A (w_c_X5_readMud cI cJ cB cZ cO qr vr_numberPlace vr_fault vr_faultPlace qt qt_bytes ft_bytes vt_length vt_kind vt_from vt_upto vt_value qd vd_gap vd_odds vd_rain vd_lines qd_steps qd_lengths qd_starts qd_met qd_stumbles vd_stumbleCount qd_muds fd_muds qd_cells vd_cellCount qd_tunes vd_tuneCount qd_changes vd_changeCount) sz)) 0 0 (va_A (w_c_X5_readMud cI cJ cB cZ cO qr vr_numberPlace vr_fault vr_faultPlace qt qt_bytes ft_bytes vt_length vt_kind vt_from vt_upto vt_value qd vd_gap vd_odds vd_rain vd_lines qd_steps qd_lengths qd_starts qd_met qd_stumbles vd_stumbleCount qd_muds fd_muds qd_cells vd_cellCount qd_tunes vd_tuneCount qd_changes vd_changeCount) sz) := by
  refine Met.ofW (cc := cX5_readMud) (maxL := 3) (ret := none) (by decide) rfl ?_
  intro p e s m args below meth c s₁ B hml hv
  obtain ⟨rfl, hsz, hP, hE, hD0, hH⟩ := hv
  have hx := B.exec
  have hb := B.bytes
  have hr := B.returns
  have hts := atoms_spec (ws := wsX5_readMud) B.pre
  have hown : s.vm.findClass RX5 = some m.cls := findClass_of_methodNamed B.named
  have hlocks := B.notSynchronized
  have hK := hE.1
  have hi0 : ∀ w ∈ u_ws RX0 TX0 17, w ∈ wsX5_readMud := fun w h => List.mem_cons_of_mem _ (List.mem_append_left _ (List.mem_append_right _ h))
  have hi5 : ∀ w ∈ u_ws RX5 TX5 4, w ∈ wsX5_readMud := fun w h => List.mem_cons_of_mem _ (List.mem_append_left _ (List.mem_append_left _ (List.mem_append_right _ h)))
  subst hsz
  have hD := hD0.self (sz := s.heap.size)
  generalize hAe : va_A (w_c_X5_readMud cI cJ cB cZ cO qr vr_numberPlace vr_fault vr_faultPlace qt qt_bytes ft_bytes vt_length vt_kind vt_from vt_upto vt_value qd vd_gap vd_odds vd_rain vd_lines qd_steps qd_lengths qd_starts qd_met qd_stumbles vd_stumbleCount qd_muds fd_muds qd_cells vd_cellCount qd_tunes vd_tuneCount qd_changes vd_changeCount) s.heap.size = A at hD hH ⊢
  have hA : ∀ q : Nat, s.heap.size ≤ q → A q := fun q h => by rw [← hAe]; exact Or.inr h
  have hS : va_S A s.heap s.heap [] := va_S.rf
  obtain ⟨hP, hD⟩ : ct_B D A s.heap [(qr, .inr (5, [.ref qt, .int vr_numberPlace, .int vr_fault, .int vr_faultPlace])), (qt, .inr (8, [.ref qt_bytes, .int vt_length, .int vt_kind, .int vt_from, .int vt_upto, .int vt_value])), (qt_bytes, .inl (cB, 1200, .inl (ft_bytes))), dn qd vd_gap vd_odds vd_rain vd_lines qd_steps qd_lengths qd_starts qd_met qd_stumbles vd_stumbleCount qd_muds qd_cells vd_cellCount qd_tunes vd_tuneCount qd_changes vd_changeCount, (qd_muds, .inl (cI, 200, .inl (fd_muds)))] := ⟨hP, hD⟩
  have hl := lv_entry ([.ref qr, .ref qd]) (n := 3) (Nat.le_of_ble_eq_true rfl)
  rw [lg_entry_eq]
  generalize (lg_sl ([.ref qr, .ref qd]) ++ List.replicate (3 - (lg_sl ([.ref qr, .ref qd])).length) Slot.unset).toArray = ls at hl ⊢
  have hl : lv_has ls 3 [(0, .ref qr), (1, .ref qd)] := hl
  obtain ⟨H, hHe⟩ : ∃ H : Heap, H = s.heap := ⟨_, rfl⟩
  rw [← hHe] at hP
  have hS : va_S A s.heap H [] := by rw [hHe]; exact va_S.rf
  refine ct_start hHe ?_
  refine lv_aload_n hx hb dX5_readMud_0 rfl (lv_at hl 0 rfl) ?_
  refine va_get (D := D) (ci := 5) (v := .ref qt) (C := RX5) (T := TX5) (N := 4) hx hb hts hi5 hown hK hP 0 rfl rfl 0 (by decide) (hts (.fieldLink RX5 12 "OverHill$Reader" "tape" "LOverHill$Tape;") (by decide +kernel)) (fun _ h9 => h9) rfl dX5_readMud_1 ?_
  refine ct_callv (D := D) (wr := [(qr, .inr (5, [.ref qt, .int vr_numberPlace, .int vr_fault, .int vr_faultPlace])), dn qd vd_gap vd_odds vd_rain vd_lines qd_steps qd_lengths qd_starts qd_met qd_stumbles vd_stumbleCount qd_muds qd_cells vd_cellCount qd_tunes vd_tuneCount qd_changes vd_changeCount, (qd_muds, .inl (cI, 200, .inl (fd_muds)))]) (va_runV (As := []) (rest := []) ⟨hx, hb, hml, hown, hts⟩ (c_X8_advance l D G cI cJ cB cZ cO qt qt_bytes ft_bytes vt_length vt_kind vt_from vt_upto vt_value h_vt_length h_vt_from h_vt_upto H.size) (cwV 0 hts gX5_readMud_X8_advance rfl rfl rfl (by decide +kernel) ⟨Nat.le_of_ble_eq_true rfl, Nat.le_of_ble_eq_true rfl⟩) (ct_preV (T := ct_T cI cJ cB cZ cO) (ci := 8) (q0 := 1) hE hH hP hD hS hA [1, 2] (by decide) rfl rfl rfl) rfl rfl hl.1 rfl (lv_room (Nat.le_of_ble_eq_true rfl)) dX5_readMud_4 ⟨Nat.le_of_ble_eq_true rfl, Nat.le_of_ble_eq_true rfl⟩) hP hD hS hA [1, 2] [0, 3, 4] rfl rfl (by decide) (by decide) (fun u H locs hw hP hD hS => ?_)
  obtain ⟨y1, y2, y3, y4⟩ := u
  obtain ⟨hP, hD⟩ : ct_B D A H [(qr, .inr (5, [.ref qt, .int vr_numberPlace, .int vr_fault, .int vr_faultPlace])), dn qd vd_gap vd_odds vd_rain vd_lines qd_steps qd_lengths qd_starts qd_met qd_stumbles vd_stumbleCount qd_muds qd_cells vd_cellCount qd_tunes vd_tuneCount qd_changes vd_changeCount, (qd_muds, .inl (cI, 200, .inl (fd_muds))), (qt, .inr (8, [.ref qt_bytes, .int vt_length, .int y1, .int y2, .int y3, .int y4])), (qt_bytes, .inl (cB, 1200, .inl (ft_bytes)))] := ⟨hP, hD⟩
  obtain ⟨hp0, hp1⟩ := hw
  have h_y2 : 0 ≤ y2.toInt ∧ y2.toInt ≤ 1200 := hp0
  have h_y3 : 0 ≤ y3.toInt ∧ y3.toInt ≤ 1200 := hp1
  clear hp0 hp1
  refine lv_aload_n hx hb dX5_readMud_7 rfl (lv_at hl 0 rfl) ?_
  refine lv_iconst (v := 0) hx hb dX5_readMud_8 (by decide) ?_
  refine lv_sipush (v := 199) hx hb dX5_readMud_9 (by decide) ?_
  refine ct_calli (D := D) (wr := [dn qd vd_gap vd_odds vd_rain vd_lines qd_steps qd_lengths qd_starts qd_met qd_stumbles vd_stumbleCount qd_muds qd_cells vd_cellCount qd_tunes vd_tuneCount qd_changes vd_changeCount, (qd_muds, .inl (cI, 200, .inl (fd_muds)))]) (va_runV (As := [.int 0, .int 199]) (rest := []) ⟨hx, hb, hml, hown, hts⟩ (c_X5_takeNumber l D G cI cJ cB cZ cO qr vr_numberPlace vr_fault vr_faultPlace qt qt_bytes ft_bytes vt_length y1 y2 y3 y4 0 199 h_vt_length h_y2 h_y3 H.size) (cwV 2 hts gX5_readMud_X5_takeNumber rfl rfl rfl (by decide +kernel) ⟨Nat.le_of_ble_eq_true rfl, Nat.le_of_ble_eq_true rfl⟩) (ct_preV (T := ct_T cI cJ cB cZ cO) (ci := 5) (q0 := 0) hE hH hP hD hS hA [0, 3, 4] (by decide) rfl rfl rfl) rfl rfl hl.1 rfl (lv_room (Nat.le_of_ble_eq_true rfl)) dX5_readMud_12 ⟨Nat.le_of_ble_eq_true rfl, Nat.le_of_ble_eq_true rfl⟩) hP hD hS hA [0, 3, 4] [1, 2] rfl rfl (by decide) (by decide) (fun r5 u H locs hw hP hD hS => ?_)
  obtain ⟨y6, y7, y8, y9, y10, y11, y12⟩ := u
  obtain ⟨hP, hD⟩ : ct_B D A H [dn qd vd_gap vd_odds vd_rain vd_lines qd_steps qd_lengths qd_starts qd_met qd_stumbles vd_stumbleCount qd_muds qd_cells vd_cellCount qd_tunes vd_tuneCount qd_changes vd_changeCount, (qd_muds, .inl (cI, 200, .inl (fd_muds))), (qr, .inr (5, [.ref qt, .int y6, .int y7, .int y8])), (qt, .inr (8, [.ref qt_bytes, .int vt_length, .int y9, .int y10, .int y11, .int y12])), (qt_bytes, .inl (cB, 1200, .inl (ft_bytes)))] := ⟨hP, hD⟩
  have hk13 : (0 : Int32).toInt = 0 := by decide
  have hk14 : (199 : Int32).toInt = 199 := by decide
  obtain ⟨hz, hp0, hp1⟩ := hw
  have h_y10 : 0 ≤ y10.toInt ∧ y10.toInt ≤ 1200 := hp0
  have h_y11 : 0 ≤ y11.toInt ∧ y11.toInt ≤ 1200 := hp1
  clear hp0 hp1
  have h_r5 : r5.toInt = (0 : Int32).toInt ∨ ((0 : Int32).toInt ≤ r5.toInt ∧ r5.toInt ≤ (199 : Int32).toInt) := hz
  clear hz
  have hi_r5 : 0 ≤ r5.toInt ∧ r5.toInt ≤ 199 := by rcases h_r5 with h | h <;> omega
  clear h_r5
  refine lv_istore_n (lv' := [(2, .int r5), (0, .ref qr), (1, .ref qd)]) hx hb dX5_readMud_15 rfl hl (by decide) rfl (fun ls hl => ?_)
  refine lv_aload_n hx hb dX5_readMud_16 rfl (lv_at hl 2 rfl) ?_
  refine va_get (D := D) (ci := 0) (v := .ref qd_muds) (C := RX0) (T := TX0) (N := 17) hx hb hts hi0 hown hK hP 0 rfl rfl 10 (by decide) (hts (.fieldLink RX5 158 "OverHill$Dance" "muds" "[I") (by decide +kernel)) (fun _ h9 => h9) rfl dX5_readMud_17 ?_
  refine lv_iload_n hx hb dX5_readMud_20 rfl (lv_at hl 0 rfl) ?_
  refine va_iald (D := D) hx hb hK hP 1 0 rfl rfl (tq_in rfl (by omega)) dX5_readMud_21 ?_
  refine lv_topi (fun z15 ez15 => ?_)
  refine lv_if_eq (tgt := 34) hx hb dX5_readMud_22 (by decide) (fun hc => ?_) (fun hc => ?_)
  · have hq16 : z15.toInt = 0 := tq_eq rfl (by decide) hc
    have hb17 := tq_lo z15
    refine lv_aload_n hx hb dX5_readMud_34 rfl (lv_at hl 2 rfl) ?_
    refine va_get (D := D) (ci := 0) (v := .ref qd_muds) (C := RX0) (T := TX0) (N := 17) hx hb hts hi0 hown hK hP 0 rfl rfl 10 (by decide) (hts (.fieldLink RX5 158 "OverHill$Dance" "muds" "[I") (by decide +kernel)) (fun _ h9 => h9) rfl dX5_readMud_35 ?_
    refine lv_iload_n hx hb dX5_readMud_38 rfl (lv_at hl 0 rfl) ?_
    refine lv_iconst (v := 1) hx hb dX5_readMud_39 (by decide) ?_
    refine va_iast (D := D) hx hb hK hP hD hS 1 0 rfl rfl (tq_in rfl (by omega)) dX5_readMud_40 (fun H locs hP hD hS => ?_)
    obtain ⟨g18, hP, hD⟩ : ∃ g18 : Nat → Int32, ct_B D A H [dn qd vd_gap vd_odds vd_rain vd_lines qd_steps qd_lengths qd_starts qd_met qd_stumbles vd_stumbleCount qd_muds qd_cells vd_cellCount qd_tunes vd_tuneCount qd_changes vd_changeCount, (qd_muds, .inl (cI, 200, .inl (g18))), (qr, .inr (5, [.ref qt, .int y6, .int y7, .int y8])), (qt, .inr (8, [.ref qt_bytes, .int vt_length, .int y9, .int y10, .int y11, .int y12])), (qt_bytes, .inl (cB, 1200, .inl (ft_bytes)))] := ⟨_, hP, hD⟩
    obtain ⟨hP9, hD9⟩ : ct_B D A H [(qr, .inr (5, [.ref qt, .int y6, .int y7, .int y8])), (qt, .inr (8, [.ref qt_bytes, .int vt_length, .int y9, .int y10, .int y11, .int y12])), (qt_bytes, .inl (cB, 1200, .inl (ft_bytes))), dn qd vd_gap vd_odds vd_rain vd_lines qd_steps qd_lengths qd_starts qd_met qd_stumbles vd_stumbleCount qd_muds qd_cells vd_cellCount qd_tunes vd_tuneCount qd_changes vd_changeCount, (qd_muds, .inl (cI, 200, .inl (g18)))] := ⟨hP.sub [2, 3, 4, 0, 1] rfl, hD.sub [2, 3, 4, 0, 1] (by decide) rfl⟩
    exact W.vret hx hb hr (fun t ht hW => ⟨⟨(y6, y7, y8, y9, y10, y11, y12, g18), rfl, ⟨h_y10, h_y11⟩, by rw [ht]; exact hP9, hD9⟩, hS.F ht⟩) hS.2.2 dX5_readMud_41
  · have hq16 : z15.toInt ≠ 0 := tq_ne rfl (by decide) hc
    have hb19 := tq_lo z15
    refine lv_aload_n hx hb dX5_readMud_25 rfl (lv_at hl 1 rfl) ?_
    refine lv_iconst (v := 2) hx hb dX5_readMud_26 (by decide) ?_
    refine lv_aload_n hx hb dX5_readMud_27 rfl (lv_at hl 1 rfl) ?_
    refine va_get (D := D) (ci := 5) (v := .int y6) (C := RX5) (T := TX5) (N := 4) hx hb hts hi5 hown hK hP 2 rfl rfl 1 (by decide) (hts (.fieldLink RX5 121 "OverHill$Reader" "numberPlace" "I") (by decide +kernel)) (fun _ h9 => h9) rfl dX5_readMud_28 ?_
    refine ct_callv (D := D) (wr := [dn qd vd_gap vd_odds vd_rain vd_lines qd_steps qd_lengths qd_starts qd_met qd_stumbles vd_stumbleCount qd_muds qd_cells vd_cellCount qd_tunes vd_tuneCount qd_changes vd_changeCount, (qd_muds, .inl (cI, 200, .inl (fd_muds))), (qt, .inr (8, [.ref qt_bytes, .int vt_length, .int y9, .int y10, .int y11, .int y12])), (qt_bytes, .inl (cB, 1200, .inl (ft_bytes)))]) (va_runV (As := [.int 2, .int y6]) (rest := []) ⟨hx, hb, hml, hown, hts⟩ (c_X5_fail l D G cI cJ cB cZ cO qr y6 y7 y8 qt 2 y6 (by decide) H.size) (cwV 2 hts gX5_readMud_X5_fail rfl rfl rfl (by decide +kernel) ⟨Nat.le_of_ble_eq_true rfl, Nat.le_of_ble_eq_true rfl⟩) (ct_preV (T := ct_T cI cJ cB cZ cO) (ci := 5) (q0 := 2) hE hH hP hD hS hA [2] (by decide) rfl rfl rfl) rfl rfl hl.1 rfl (lv_room (Nat.le_of_ble_eq_true rfl)) dX5_readMud_31 ⟨Nat.le_of_ble_eq_true rfl, Nat.le_of_ble_eq_true rfl⟩) hP hD hS hA [2] [0, 1, 3, 4] rfl rfl (by decide) (by decide) (fun u H locs hw hP hD hS => ?_)
    obtain ⟨y20, y21⟩ := u
    obtain ⟨hP, hD⟩ : ct_B D A H [dn qd vd_gap vd_odds vd_rain vd_lines qd_steps qd_lengths qd_starts qd_met qd_stumbles vd_stumbleCount qd_muds qd_cells vd_cellCount qd_tunes vd_tuneCount qd_changes vd_changeCount, (qd_muds, .inl (cI, 200, .inl (fd_muds))), (qt, .inr (8, [.ref qt_bytes, .int vt_length, .int y9, .int y10, .int y11, .int y12])), (qt_bytes, .inl (cB, 1200, .inl (ft_bytes))), (qr, .inr (5, [.ref qt, .int y6, .int y20, .int y21]))] := ⟨hP, hD⟩
    have hp0 := hw
    clear hw
    have hp_22 : y20.toInt ≠ 0 := hp0
    clear hp0
    refine lv_aload_n hx hb dX5_readMud_34 rfl (lv_at hl 2 rfl) ?_
    refine va_get (D := D) (ci := 0) (v := .ref qd_muds) (C := RX0) (T := TX0) (N := 17) hx hb hts hi0 hown hK hP 0 rfl rfl 10 (by decide) (hts (.fieldLink RX5 158 "OverHill$Dance" "muds" "[I") (by decide +kernel)) (fun _ h9 => h9) rfl dX5_readMud_35 ?_
    refine lv_iload_n hx hb dX5_readMud_38 rfl (lv_at hl 0 rfl) ?_
    refine lv_iconst (v := 1) hx hb dX5_readMud_39 (by decide) ?_
    refine va_iast (D := D) hx hb hK hP hD hS 1 0 rfl rfl (tq_in rfl (by omega)) dX5_readMud_40 (fun H locs hP hD hS => ?_)
    obtain ⟨g23, hP, hD⟩ : ∃ g23 : Nat → Int32, ct_B D A H [dn qd vd_gap vd_odds vd_rain vd_lines qd_steps qd_lengths qd_starts qd_met qd_stumbles vd_stumbleCount qd_muds qd_cells vd_cellCount qd_tunes vd_tuneCount qd_changes vd_changeCount, (qd_muds, .inl (cI, 200, .inl (g23))), (qt, .inr (8, [.ref qt_bytes, .int vt_length, .int y9, .int y10, .int y11, .int y12])), (qt_bytes, .inl (cB, 1200, .inl (ft_bytes))), (qr, .inr (5, [.ref qt, .int y6, .int y20, .int y21]))] := ⟨_, hP, hD⟩
    obtain ⟨hP9, hD9⟩ : ct_B D A H [(qr, .inr (5, [.ref qt, .int y6, .int y20, .int y21])), (qt, .inr (8, [.ref qt_bytes, .int vt_length, .int y9, .int y10, .int y11, .int y12])), (qt_bytes, .inl (cB, 1200, .inl (ft_bytes))), dn qd vd_gap vd_odds vd_rain vd_lines qd_steps qd_lengths qd_starts qd_met qd_stumbles vd_stumbleCount qd_muds qd_cells vd_cellCount qd_tunes vd_tuneCount qd_changes vd_changeCount, (qd_muds, .inl (cI, 200, .inl (g23)))] := ⟨hP.sub [4, 2, 3, 0, 1] rfl, hD.sub [4, 2, 3, 0, 1] (by decide) rfl⟩
    exact W.vret hx hb hr (fun t ht hW => ⟨⟨(y6, y20, y21, y9, y10, y11, y12, g23), rfl, ⟨h_y10, h_y11⟩, by rw [ht]; exact hP9, hD9⟩, hS.F ht⟩) hS.2.2 dX5_readMud_41
abbrev w_c_X5_readWood (cI cJ cB cZ cO : ClassId) (qr : Nat) (vr_numberPlace : Int32) (vr_fault : Int32) (vr_faultPlace : Int32) (qt : Nat) (qt_bytes : Nat) (ft_bytes : Nat → Int32) (vt_length : Int32) (vt_kind : Int32) (vt_from : Int32) (vt_upto : Int32) (vt_value : Int32) (qd : Nat) (vd_gap : Int32) (vd_odds : Int32) (vd_rain : Int32) (vd_lines : Int32) (qd_steps : Nat) (qd_lengths : Nat) (qd_starts : Nat) (qd_met : Nat) (qd_stumbles : Nat) (vd_stumbleCount : Int32) (qd_muds : Nat) (qd_cells : Nat) (fd_cells : Nat → Int32) (vd_cellCount : Int32) (qd_tunes : Nat) (vd_tuneCount : Int32) (qd_changes : Nat) (vd_changeCount : Int32) : va_W := [(qr, .inr (5, [.ref qt, .int vr_numberPlace, .int vr_fault, .int vr_faultPlace])), (qt, .inr (8, [.ref qt_bytes, .int vt_length, .int vt_kind, .int vt_from, .int vt_upto, .int vt_value])), (qt_bytes, .inl (cB, 1200, .inl (ft_bytes))), dn qd vd_gap vd_odds vd_rain vd_lines qd_steps qd_lengths qd_starts qd_met qd_stumbles vd_stumbleCount qd_muds qd_cells vd_cellCount qd_tunes vd_tuneCount qd_changes vd_changeCount, (qd_cells, .inl (cI, 24, .inl (fd_cells)))]
set_option maxHeartbeats 4000000 in
set_option maxRecDepth 100000 in
/-- X5 readWood -/
theorem c_X5_readWood (l : Launch) (D : va_G) (G : ct_G) (cI cJ cB cZ cO : ClassId) (qr : Nat) (vr_numberPlace : Int32) (vr_fault : Int32) (vr_faultPlace : Int32) (qt : Nat) (qt_bytes : Nat) (ft_bytes : Nat → Int32) (vt_length : Int32) (vt_kind : Int32) (vt_from : Int32) (vt_upto : Int32) (vt_value : Int32) (qd : Nat) (vd_gap : Int32) (vd_odds : Int32) (vd_rain : Int32) (vd_lines : Int32) (qd_steps : Nat) (qd_lengths : Nat) (qd_starts : Nat) (qd_met : Nat) (qd_stumbles : Nat) (vd_stumbleCount : Int32) (qd_muds : Nat) (qd_cells : Nat) (fd_cells : Nat → Int32) (vd_cellCount : Int32) (qd_tunes : Nat) (vd_tuneCount : Int32) (qd_changes : Nat) (vd_changeCount : Int32) (h_vt_length : 0 ≤ vt_length.toInt ∧ vt_length.toInt ≤ 1200) (h_vt_from : 0 ≤ vt_from.toInt ∧ vt_from.toInt ≤ 1200) (h_vt_upto : 0 ≤ vt_upto.toInt ∧ vt_upto.toInt ≤ 1200) (h_vd_gap : 0 ≤ vd_gap.toInt ∧ vd_gap.toInt ≤ 20) (h_vd_stumbleCount : 0 ≤ vd_stumbleCount.toInt ∧ vd_stumbleCount.toInt ≤ 8) (h_vd_cellCount : 0 ≤ vd_cellCount.toInt ∧ vd_cellCount.toInt ≤ 12) (h_vd_tuneCount : 0 ≤ vd_tuneCount.toInt ∧ vd_tuneCount.toInt ≤ 5) (h_vd_changeCount : 0 ≤ vd_changeCount.toInt ∧ vd_changeCount.toInt ≤ 40) (sz : Nat) : Met l yX5_readWood wsX5_readWood ({ frames := 6, cells := 0, slots := 0, locals := 128 }) (va_Pc [.ref qr, .ref qd] (ct_P D (ct_T cI cJ cB cZ cO) G (w_c_X5_readWood cI cJ cB cZ cO qr vr_numberPlace vr_fault vr_faultPlace qt qt_bytes ft_bytes vt_length vt_kind vt_from vt_upto vt_value qd vd_gap vd_odds vd_rain vd_lines qd_steps qd_lengths qd_starts qd_met qd_stumbles vd_stumbleCount qd_muds qd_cells fd_cells vd_cellCount qd_tunes vd_tuneCount qd_changes vd_changeCount) sz)) (va_Qv (fun (u : Int32 × Int32 × Int32 × Int32 × Int32 × Int32 × Int32 × Int32 × (Nat → Int32)) => (0 ≤ u.2.2.2.2.1.toInt ∧ u.2.2.2.2.1.toInt ≤ 1200) ∧ (0 ≤ u.2.2.2.2.2.1.toInt ∧ u.2.2.2.2.2.1.toInt ≤ 1200) ∧ (0 ≤ u.2.2.2.2.2.2.2.1.toInt ∧ u.2.2.2.2.2.2.2.1.toInt ≤ 12)) (fun (u : Int32 × Int32 × Int32 × Int32 × Int32 × Int32 × Int32 × Int32 × (Nat → Int32)) t => ct_Q D (va_A (w_c_X5_readWood cI cJ cB cZ cO qr vr_numberPlace vr_fault vr_faultPlace qt qt_bytes ft_bytes vt_length vt_kind vt_from vt_upto vt_value qd vd_gap vd_odds vd_rain vd_lines qd_steps qd_lengths qd_starts qd_met qd_stumbles vd_stumbleCount qd_muds qd_cells fd_cells vd_cellCount qd_tunes vd_tuneCount qd_changes vd_changeCount) sz) [(qr, .inr (5, [.ref qt, .int u.1, .int u.2.1, .int u.2.2.1])), (qt, .inr (8, [.ref qt_bytes, .int vt_length, .int u.2.2.2.1, .int u.2.2.2.2.1, .int u.2.2.2.2.2.1, .int u.2.2.2.2.2.2.1])), (qt_bytes, .inl (cB, 1200, .inl (ft_bytes))), dn qd vd_gap vd_odds vd_rain vd_lines qd_steps qd_lengths qd_starts qd_met qd_stumbles vd_stumbleCount qd_muds qd_cells u.2.2.2.2.2.2.2.1 qd_tunes vd_tuneCount qd_changes vd_changeCount, (qd_cells, .inl (cI, 24, .inl (u.2.2.2.2.2.2.2.2)))] t) (va_A (w_c_X5_readWood cI cJ cB cZ cO qr vr_numberPlace vr_fault vr_faultPlace qt qt_bytes ft_bytes vt_length vt_kind vt_from vt_upto vt_value qd vd_gap vd_odds vd_rain vd_lines qd_steps qd_lengths qd_starts qd_met qd_stumbles vd_stumbleCount qd_muds qd_cells fd_cells vd_cellCount qd_tunes vd_tuneCount qd_changes vd_changeCount) sz)) 0 0 (va_A (w_c_X5_readWood cI cJ cB cZ cO qr vr_numberPlace vr_fault vr_faultPlace qt qt_bytes ft_bytes vt_length vt_kind vt_from vt_upto vt_value qd vd_gap vd_odds vd_rain vd_lines qd_steps qd_lengths qd_starts qd_met qd_stumbles vd_stumbleCount qd_muds qd_cells fd_cells vd_cellCount qd_tunes vd_tuneCount qd_changes vd_changeCount) sz) := by
  refine Met.ofW (cc := cX5_readWood) (maxL := 3) (ret := none) (by decide) rfl ?_
  intro p e s m args below meth c s₁ B hml hv
  obtain ⟨rfl, hsz, hP, hE, hD0, hH⟩ := hv
  have hx := B.exec
  have hb := B.bytes
  have hr := B.returns
  have hts := atoms_spec (ws := wsX5_readWood) B.pre
  have hown : s.vm.findClass RX5 = some m.cls := findClass_of_methodNamed B.named
  have hlocks := B.notSynchronized
  have hK := hE.1
  have hi0 : ∀ w ∈ u_ws RX0 TX0 17, w ∈ wsX5_readWood := fun w h => List.mem_cons_of_mem _ (List.mem_append_left _ (List.mem_append_left _ (List.mem_append_right _ h)))
  subst hsz
  have hD := hD0.self (sz := s.heap.size)
  generalize hAe : va_A (w_c_X5_readWood cI cJ cB cZ cO qr vr_numberPlace vr_fault vr_faultPlace qt qt_bytes ft_bytes vt_length vt_kind vt_from vt_upto vt_value qd vd_gap vd_odds vd_rain vd_lines qd_steps qd_lengths qd_starts qd_met qd_stumbles vd_stumbleCount qd_muds qd_cells fd_cells vd_cellCount qd_tunes vd_tuneCount qd_changes vd_changeCount) s.heap.size = A at hD hH ⊢
  have hA : ∀ q : Nat, s.heap.size ≤ q → A q := fun q h => by rw [← hAe]; exact Or.inr h
  have hS : va_S A s.heap s.heap [] := va_S.rf
  obtain ⟨hP, hD⟩ : ct_B D A s.heap [(qr, .inr (5, [.ref qt, .int vr_numberPlace, .int vr_fault, .int vr_faultPlace])), (qt, .inr (8, [.ref qt_bytes, .int vt_length, .int vt_kind, .int vt_from, .int vt_upto, .int vt_value])), (qt_bytes, .inl (cB, 1200, .inl (ft_bytes))), dn qd vd_gap vd_odds vd_rain vd_lines qd_steps qd_lengths qd_starts qd_met qd_stumbles vd_stumbleCount qd_muds qd_cells vd_cellCount qd_tunes vd_tuneCount qd_changes vd_changeCount, (qd_cells, .inl (cI, 24, .inl (fd_cells)))] := ⟨hP, hD⟩
  have hl := lv_entry ([.ref qr, .ref qd]) (n := 3) (Nat.le_of_ble_eq_true rfl)
  rw [lg_entry_eq]
  generalize (lg_sl ([.ref qr, .ref qd]) ++ List.replicate (3 - (lg_sl ([.ref qr, .ref qd])).length) Slot.unset).toArray = ls at hl ⊢
  have hl : lv_has ls 3 [(0, .ref qr), (1, .ref qd)] := hl
  obtain ⟨H, hHe⟩ : ∃ H : Heap, H = s.heap := ⟨_, rfl⟩
  rw [← hHe] at hP
  have hS : va_S A s.heap H [] := by rw [hHe]; exact va_S.rf
  refine ct_start hHe ?_
  refine lv_aload_n hx hb dX5_readWood_0 rfl (lv_at hl 0 rfl) ?_
  refine lv_aload_n hx hb dX5_readWood_1 rfl (lv_at hl 1 rfl) ?_
  refine va_get (D := D) (ci := 0) (v := .int vd_cellCount) (C := RX0) (T := TX0) (N := 17) hx hb hts hi0 hown hK hP 3 rfl rfl 12 (by decide) (hts (.fieldLink RX5 161 "OverHill$Dance" "cellCount" "I") (by decide +kernel)) (fun _ h9 => h9) rfl dX5_readWood_2 ?_
  refine lv_bipush (v := 12) hx hb dX5_readWood_5 (by decide) ?_
  refine ct_callv (D := D) (wr := [dn qd vd_gap vd_odds vd_rain vd_lines qd_steps qd_lengths qd_starts qd_met qd_stumbles vd_stumbleCount qd_muds qd_cells vd_cellCount qd_tunes vd_tuneCount qd_changes vd_changeCount, (qd_cells, .inl (cI, 24, .inl (fd_cells)))]) (va_runV (As := [.int vd_cellCount, .int 12]) (rest := []) ⟨hx, hb, hml, hown, hts⟩ (c_X5_beginOneOf l D G cI cJ cB cZ cO qr vr_numberPlace vr_fault vr_faultPlace qt qt_bytes ft_bytes vt_length vt_kind vt_from vt_upto vt_value vd_cellCount 12 h_vt_length h_vt_from h_vt_upto H.size) (cwV 2 hts gX5_readWood_X5_beginOneOf rfl rfl rfl (by decide +kernel) ⟨Nat.le_of_ble_eq_true rfl, Nat.le_of_ble_eq_true rfl⟩) (ct_preV (T := ct_T cI cJ cB cZ cO) (ci := 5) (q0 := 0) hE hH hP hD hS hA [0, 1, 2] (by decide) rfl rfl rfl) rfl rfl hl.1 rfl (lv_room (Nat.le_of_ble_eq_true rfl)) dX5_readWood_7 ⟨Nat.le_of_ble_eq_true rfl, Nat.le_of_ble_eq_true rfl⟩) hP hD hS hA [0, 1, 2] [3, 4] rfl rfl (by decide) (by decide) (fun u H locs hw hP hD hS => ?_)
  obtain ⟨y1, y2, y3, y4, y5, y6⟩ := u
  obtain ⟨hP, hD⟩ : ct_B D A H [dn qd vd_gap vd_odds vd_rain vd_lines qd_steps qd_lengths qd_starts qd_met qd_stumbles vd_stumbleCount qd_muds qd_cells vd_cellCount qd_tunes vd_tuneCount qd_changes vd_changeCount, (qd_cells, .inl (cI, 24, .inl (fd_cells))), (qr, .inr (5, [.ref qt, .int vr_numberPlace, .int y1, .int y2])), (qt, .inr (8, [.ref qt_bytes, .int vt_length, .int y3, .int y4, .int y5, .int y6])), (qt_bytes, .inl (cB, 1200, .inl (ft_bytes)))] := ⟨hP, hD⟩
  obtain ⟨hp0, hp1⟩ := hw
  have h_y4 : 0 ≤ y4.toInt ∧ y4.toInt ≤ 1200 := hp0
  have h_y5 : 0 ≤ y5.toInt ∧ y5.toInt ≤ 1200 := hp1
  clear hp0 hp1
  refine lv_aload_n hx hb dX5_readWood_10 rfl (lv_at hl 0 rfl) ?_
  refine va_ldcS hx hb hown (hE.2.2.2 14 (by decide)) dX5_readWood_11 ?_
  refine ct_callv (D := D) (wr := [dn qd vd_gap vd_odds vd_rain vd_lines qd_steps qd_lengths qd_starts qd_met qd_stumbles vd_stumbleCount qd_muds qd_cells vd_cellCount qd_tunes vd_tuneCount qd_changes vd_changeCount, (qd_cells, .inl (cI, 24, .inl (fd_cells)))]) (va_runV (As := [.ref (G.1 14)]) (rest := []) ⟨hx, hb, hml, hown, hts⟩ (c_X5_takeWord l D G cI cJ cB cZ cO qr vr_numberPlace y1 y2 qt qt_bytes ft_bytes vt_length y3 y4 y5 y6 14 h_vt_length h_y4 h_y5 (by decide) H.size) (cwV 1 hts gX5_readWood_X5_takeWord rfl rfl rfl (by decide +kernel) ⟨Nat.le_of_ble_eq_true rfl, Nat.le_of_ble_eq_true rfl⟩) (ct_preV (T := ct_T cI cJ cB cZ cO) (ci := 5) (q0 := 2) hE hH hP hD hS hA [2, 3, 4] (by decide) rfl rfl rfl) rfl rfl hl.1 rfl (lv_room (Nat.le_of_ble_eq_true rfl)) dX5_readWood_13 ⟨Nat.le_of_ble_eq_true rfl, Nat.le_of_ble_eq_true rfl⟩) hP hD hS hA [2, 3, 4] [0, 1] rfl rfl (by decide) (by decide) (fun u H locs hw hP hD hS => ?_)
  obtain ⟨y7, y8, y9, y10, y11, y12⟩ := u
  obtain ⟨hP, hD⟩ : ct_B D A H [dn qd vd_gap vd_odds vd_rain vd_lines qd_steps qd_lengths qd_starts qd_met qd_stumbles vd_stumbleCount qd_muds qd_cells vd_cellCount qd_tunes vd_tuneCount qd_changes vd_changeCount, (qd_cells, .inl (cI, 24, .inl (fd_cells))), (qr, .inr (5, [.ref qt, .int vr_numberPlace, .int y7, .int y8])), (qt, .inr (8, [.ref qt_bytes, .int vt_length, .int y9, .int y10, .int y11, .int y12])), (qt_bytes, .inl (cB, 1200, .inl (ft_bytes)))] := ⟨hP, hD⟩
  obtain ⟨hp0, hp1⟩ := hw
  have h_y10 : 0 ≤ y10.toInt ∧ y10.toInt ≤ 1200 := hp0
  have h_y11 : 0 ≤ y11.toInt ∧ y11.toInt ≤ 1200 := hp1
  clear hp0 hp1
  refine lv_aload_n hx hb dX5_readWood_16 rfl (lv_at hl 0 rfl) ?_
  refine lv_iconst (v := 1) hx hb dX5_readWood_17 (by decide) ?_
  refine lv_bipush (v := 9) hx hb dX5_readWood_18 (by decide) ?_
  refine ct_calli (D := D) (wr := [dn qd vd_gap vd_odds vd_rain vd_lines qd_steps qd_lengths qd_starts qd_met qd_stumbles vd_stumbleCount qd_muds qd_cells vd_cellCount qd_tunes vd_tuneCount qd_changes vd_changeCount, (qd_cells, .inl (cI, 24, .inl (fd_cells)))]) (va_runV (As := [.int 1, .int 9]) (rest := []) ⟨hx, hb, hml, hown, hts⟩ (c_X5_takeNumber l D G cI cJ cB cZ cO qr vr_numberPlace y7 y8 qt qt_bytes ft_bytes vt_length y9 y10 y11 y12 1 9 h_vt_length h_y10 h_y11 H.size) (cwV 2 hts gX5_readWood_X5_takeNumber rfl rfl rfl (by decide +kernel) ⟨Nat.le_of_ble_eq_true rfl, Nat.le_of_ble_eq_true rfl⟩) (ct_preV (T := ct_T cI cJ cB cZ cO) (ci := 5) (q0 := 2) hE hH hP hD hS hA [2, 3, 4] (by decide) rfl rfl rfl) rfl rfl hl.1 rfl (lv_room (Nat.le_of_ble_eq_true rfl)) dX5_readWood_20 ⟨Nat.le_of_ble_eq_true rfl, Nat.le_of_ble_eq_true rfl⟩) hP hD hS hA [2, 3, 4] [0, 1] rfl rfl (by decide) (by decide) (fun r13 u H locs hw hP hD hS => ?_)
  obtain ⟨y14, y15, y16, y17, y18, y19, y20⟩ := u
  obtain ⟨hP, hD⟩ : ct_B D A H [dn qd vd_gap vd_odds vd_rain vd_lines qd_steps qd_lengths qd_starts qd_met qd_stumbles vd_stumbleCount qd_muds qd_cells vd_cellCount qd_tunes vd_tuneCount qd_changes vd_changeCount, (qd_cells, .inl (cI, 24, .inl (fd_cells))), (qr, .inr (5, [.ref qt, .int y14, .int y15, .int y16])), (qt, .inr (8, [.ref qt_bytes, .int vt_length, .int y17, .int y18, .int y19, .int y20])), (qt_bytes, .inl (cB, 1200, .inl (ft_bytes)))] := ⟨hP, hD⟩
  have hk21 : (1 : Int32).toInt = 1 := by decide
  have hk22 : (9 : Int32).toInt = 9 := by decide
  obtain ⟨hz, hp0, hp1⟩ := hw
  have h_y18 : 0 ≤ y18.toInt ∧ y18.toInt ≤ 1200 := hp0
  have h_y19 : 0 ≤ y19.toInt ∧ y19.toInt ≤ 1200 := hp1
  clear hp0 hp1
  have h_r13 : r13.toInt = (1 : Int32).toInt ∨ ((1 : Int32).toInt ≤ r13.toInt ∧ r13.toInt ≤ (9 : Int32).toInt) := hz
  clear hz
  have hi_r13 : 1 ≤ r13.toInt ∧ r13.toInt ≤ 9 := by rcases h_r13 with h | h <;> omega
  clear h_r13
  refine lv_istore_n (lv' := [(2, .int r13), (0, .ref qr), (1, .ref qd)]) hx hb dX5_readWood_23 rfl hl (by decide) rfl (fun ls hl => ?_)
  refine lv_aload_n hx hb dX5_readWood_24 rfl (lv_at hl 1 rfl) ?_
  refine va_ldcS hx hb hown (hE.2.2.2 9 (by decide)) dX5_readWood_25 ?_
  refine ct_callv (D := D) (wr := [dn qd vd_gap vd_odds vd_rain vd_lines qd_steps qd_lengths qd_starts qd_met qd_stumbles vd_stumbleCount qd_muds qd_cells vd_cellCount qd_tunes vd_tuneCount qd_changes vd_changeCount, (qd_cells, .inl (cI, 24, .inl (fd_cells)))]) (va_runV (As := [.ref (G.1 9)]) (rest := []) ⟨hx, hb, hml, hown, hts⟩ (c_X5_takeWord l D G cI cJ cB cZ cO qr y14 y15 y16 qt qt_bytes ft_bytes vt_length y17 y18 y19 y20 9 h_vt_length h_y18 h_y19 (by decide) H.size) (cwV 1 hts gX5_readWood_X5_takeWord rfl rfl rfl (by decide +kernel) ⟨Nat.le_of_ble_eq_true rfl, Nat.le_of_ble_eq_true rfl⟩) (ct_preV (T := ct_T cI cJ cB cZ cO) (ci := 5) (q0 := 2) hE hH hP hD hS hA [2, 3, 4] (by decide) rfl rfl rfl) rfl rfl hl.1 rfl (lv_room (Nat.le_of_ble_eq_true rfl)) dX5_readWood_27 ⟨Nat.le_of_ble_eq_true rfl, Nat.le_of_ble_eq_true rfl⟩) hP hD hS hA [2, 3, 4] [0, 1] rfl rfl (by decide) (by decide) (fun u H locs hw hP hD hS => ?_)
  obtain ⟨y23, y24, y25, y26, y27, y28⟩ := u
  obtain ⟨hP, hD⟩ : ct_B D A H [dn qd vd_gap vd_odds vd_rain vd_lines qd_steps qd_lengths qd_starts qd_met qd_stumbles vd_stumbleCount qd_muds qd_cells vd_cellCount qd_tunes vd_tuneCount qd_changes vd_changeCount, (qd_cells, .inl (cI, 24, .inl (fd_cells))), (qr, .inr (5, [.ref qt, .int y14, .int y23, .int y24])), (qt, .inr (8, [.ref qt_bytes, .int vt_length, .int y25, .int y26, .int y27, .int y28])), (qt_bytes, .inl (cB, 1200, .inl (ft_bytes)))] := ⟨hP, hD⟩
  obtain ⟨hp0, hp1⟩ := hw
  have h_y26 : 0 ≤ y26.toInt ∧ y26.toInt ≤ 1200 := hp0
  have h_y27 : 0 ≤ y27.toInt ∧ y27.toInt ≤ 1200 := hp1
  clear hp0 hp1
  refine lv_aload_n hx hb dX5_readWood_30 rfl (lv_at hl 2 rfl) ?_
  refine lv_iload_n hx hb dX5_readWood_31 rfl (lv_at hl 0 rfl) ?_
  refine lv_aload_n hx hb dX5_readWood_32 rfl (lv_at hl 1 rfl) ?_
  refine lv_iconst (v := 0) hx hb dX5_readWood_33 (by decide) ?_
  refine lv_iload_n hx hb dX5_readWood_34 rfl (lv_at hl 0 rfl) ?_
  refine lv_iconst (v := 1) hx hb dX5_readWood_35 (by decide) ?_
  refine lv_isub hx hb dX5_readWood_36 ?_
  refine lv_topi (fun z29 ez29 => ?_)
  have fz29 : z29.toInt = r13.toInt - 1 := by rw [ez29]; exact tq_subt rfl (by decide) (by omega)
  refine ct_calli (D := D) (wr := [dn qd vd_gap vd_odds vd_rain vd_lines qd_steps qd_lengths qd_starts qd_met qd_stumbles vd_stumbleCount qd_muds qd_cells vd_cellCount qd_tunes vd_tuneCount qd_changes vd_changeCount, (qd_cells, .inl (cI, 24, .inl (fd_cells)))]) (va_runV (As := [.int 0, .int z29]) (rest := [.int r13, .ref qd]) ⟨hx, hb, hml, hown, hts⟩ (c_X5_takeNumber l D G cI cJ cB cZ cO qr y14 y23 y24 qt qt_bytes ft_bytes vt_length y25 y26 y27 y28 0 z29 h_vt_length h_y26 h_y27 H.size) (cwV 2 hts gX5_readWood_X5_takeNumber rfl rfl rfl (by decide +kernel) ⟨Nat.le_of_ble_eq_true rfl, Nat.le_of_ble_eq_true rfl⟩) (ct_preV (T := ct_T cI cJ cB cZ cO) (ci := 5) (q0 := 2) hE hH hP hD hS hA [2, 3, 4] (by decide) rfl rfl rfl) rfl rfl hl.1 rfl (lv_room (Nat.le_of_ble_eq_true rfl)) dX5_readWood_37 ⟨Nat.le_of_ble_eq_true rfl, Nat.le_of_ble_eq_true rfl⟩) hP hD hS hA [2, 3, 4] [0, 1] rfl rfl (by decide) (by decide) (fun r30 u H locs hw hP hD hS => ?_)
  obtain ⟨y31, y32, y33, y34, y35, y36, y37⟩ := u
  obtain ⟨hP, hD⟩ : ct_B D A H [dn qd vd_gap vd_odds vd_rain vd_lines qd_steps qd_lengths qd_starts qd_met qd_stumbles vd_stumbleCount qd_muds qd_cells vd_cellCount qd_tunes vd_tuneCount qd_changes vd_changeCount, (qd_cells, .inl (cI, 24, .inl (fd_cells))), (qr, .inr (5, [.ref qt, .int y31, .int y32, .int y33])), (qt, .inr (8, [.ref qt_bytes, .int vt_length, .int y34, .int y35, .int y36, .int y37])), (qt_bytes, .inl (cB, 1200, .inl (ft_bytes)))] := ⟨hP, hD⟩
  have hk38 : (0 : Int32).toInt = 0 := by decide
  obtain ⟨hz, hp0, hp1⟩ := hw
  have h_y35 : 0 ≤ y35.toInt ∧ y35.toInt ≤ 1200 := hp0
  have h_y36 : 0 ≤ y36.toInt ∧ y36.toInt ≤ 1200 := hp1
  clear hp0 hp1
  have h_r30 : r30.toInt = (0 : Int32).toInt ∨ ((0 : Int32).toInt ≤ r30.toInt ∧ r30.toInt ≤ z29.toInt) := hz
  clear hz
  have hi_r30 : 0 ≤ r30.toInt ∧ r30.toInt ≤ 8 := by rcases h_r30 with h | h <;> omega
  refine ct_callv (D := D) (wr := [(qr, .inr (5, [.ref qt, .int y31, .int y32, .int y33])), (qt, .inr (8, [.ref qt_bytes, .int vt_length, .int y34, .int y35, .int y36, .int y37])), (qt_bytes, .inl (cB, 1200, .inl (ft_bytes)))]) (va_runV (As := [.int r13, .int r30]) (rest := []) ⟨hx, hb, hml, hown, hts⟩ (c_X0_addCell l D G cI cJ cB cZ cO qd vd_gap vd_odds vd_rain vd_lines qd_steps qd_lengths qd_starts qd_met qd_stumbles vd_stumbleCount qd_muds qd_cells fd_cells vd_cellCount qd_tunes vd_tuneCount qd_changes vd_changeCount r13 r30 h_vd_gap h_vd_stumbleCount h_vd_cellCount h_vd_tuneCount h_vd_changeCount H.size) (cwV 2 hts gX5_readWood_X0_addCell rfl rfl rfl (by decide +kernel) ⟨Nat.le_of_ble_eq_true rfl, Nat.le_of_ble_eq_true rfl⟩) (ct_preV (T := ct_T cI cJ cB cZ cO) (ci := 0) (q0 := 0) hE hH hP hD hS hA [0, 1] (by decide) rfl rfl rfl) rfl rfl hl.1 rfl (lv_room (Nat.le_of_ble_eq_true rfl)) dX5_readWood_40 ⟨Nat.le_of_ble_eq_true rfl, Nat.le_of_ble_eq_true rfl⟩) hP hD hS hA [0, 1] [2, 3, 4] rfl rfl (by decide) (by decide) (fun u H locs hw hP hD hS => ?_)
  obtain ⟨y39, g40⟩ := u
  obtain ⟨hP, hD⟩ : ct_B D A H [(qr, .inr (5, [.ref qt, .int y31, .int y32, .int y33])), (qt, .inr (8, [.ref qt_bytes, .int vt_length, .int y34, .int y35, .int y36, .int y37])), (qt_bytes, .inl (cB, 1200, .inl (ft_bytes))), dn qd vd_gap vd_odds vd_rain vd_lines qd_steps qd_lengths qd_starts qd_met qd_stumbles vd_stumbleCount qd_muds qd_cells y39 qd_tunes vd_tuneCount qd_changes vd_changeCount, (qd_cells, .inl (cI, 24, .inl (g40)))] := ⟨hP, hD⟩
  have hp0 := hw
  clear hw
  have h_y39 : 0 ≤ y39.toInt ∧ y39.toInt ≤ 12 := hp0
  clear hp0
  obtain ⟨hP9, hD9⟩ : ct_B D A H [(qr, .inr (5, [.ref qt, .int y31, .int y32, .int y33])), (qt, .inr (8, [.ref qt_bytes, .int vt_length, .int y34, .int y35, .int y36, .int y37])), (qt_bytes, .inl (cB, 1200, .inl (ft_bytes))), dn qd vd_gap vd_odds vd_rain vd_lines qd_steps qd_lengths qd_starts qd_met qd_stumbles vd_stumbleCount qd_muds qd_cells y39 qd_tunes vd_tuneCount qd_changes vd_changeCount, (qd_cells, .inl (cI, 24, .inl (g40)))] := ⟨hP.sub [0, 1, 2, 3, 4] rfl, hD.sub [0, 1, 2, 3, 4] (by decide) rfl⟩
  exact W.vret hx hb hr (fun t ht hW => ⟨⟨(y31, y32, y33, y34, y35, y36, y37, y39, g40), rfl, ⟨h_y35, h_y36, h_y39⟩, by rw [ht]; exact hP9, hD9⟩, hS.F ht⟩) hS.2.2 dX5_readWood_43
abbrev w_c_X5_readTune (cI cJ cB cZ cO : ClassId) (qr : Nat) (vr_numberPlace : Int32) (vr_fault : Int32) (vr_faultPlace : Int32) (qt : Nat) (qt_bytes : Nat) (ft_bytes : Nat → Int32) (vt_length : Int32) (vt_kind : Int32) (vt_from : Int32) (vt_upto : Int32) (vt_value : Int32) (qd : Nat) (vd_gap : Int32) (vd_odds : Int32) (vd_rain : Int32) (vd_lines : Int32) (qd_steps : Nat) (qd_lengths : Nat) (qd_starts : Nat) (qd_met : Nat) (qd_stumbles : Nat) (vd_stumbleCount : Int32) (qd_muds : Nat) (qd_cells : Nat) (vd_cellCount : Int32) (qd_tunes : Nat) (fd_tunes : Nat → Int32) (vd_tuneCount : Int32) (qd_changes : Nat) (vd_changeCount : Int32) : va_W := [(qr, .inr (5, [.ref qt, .int vr_numberPlace, .int vr_fault, .int vr_faultPlace])), (qt, .inr (8, [.ref qt_bytes, .int vt_length, .int vt_kind, .int vt_from, .int vt_upto, .int vt_value])), (qt_bytes, .inl (cB, 1200, .inl (ft_bytes))), dn qd vd_gap vd_odds vd_rain vd_lines qd_steps qd_lengths qd_starts qd_met qd_stumbles vd_stumbleCount qd_muds qd_cells vd_cellCount qd_tunes vd_tuneCount qd_changes vd_changeCount, (qd_tunes, .inl (cI, 10, .inl (fd_tunes)))]
set_option maxHeartbeats 4000000 in
set_option maxRecDepth 100000 in
/-- X5 readTune -/
theorem c_X5_readTune (l : Launch) (D : va_G) (G : ct_G) (cI cJ cB cZ cO : ClassId) (qr : Nat) (vr_numberPlace : Int32) (vr_fault : Int32) (vr_faultPlace : Int32) (qt : Nat) (qt_bytes : Nat) (ft_bytes : Nat → Int32) (vt_length : Int32) (vt_kind : Int32) (vt_from : Int32) (vt_upto : Int32) (vt_value : Int32) (qd : Nat) (vd_gap : Int32) (vd_odds : Int32) (vd_rain : Int32) (vd_lines : Int32) (qd_steps : Nat) (qd_lengths : Nat) (qd_starts : Nat) (qd_met : Nat) (qd_stumbles : Nat) (vd_stumbleCount : Int32) (qd_muds : Nat) (qd_cells : Nat) (vd_cellCount : Int32) (qd_tunes : Nat) (fd_tunes : Nat → Int32) (vd_tuneCount : Int32) (qd_changes : Nat) (vd_changeCount : Int32) (h_vt_length : 0 ≤ vt_length.toInt ∧ vt_length.toInt ≤ 1200) (h_vt_from : 0 ≤ vt_from.toInt ∧ vt_from.toInt ≤ 1200) (h_vt_upto : 0 ≤ vt_upto.toInt ∧ vt_upto.toInt ≤ 1200) (h_vd_gap : 0 ≤ vd_gap.toInt ∧ vd_gap.toInt ≤ 20) (h_vd_stumbleCount : 0 ≤ vd_stumbleCount.toInt ∧ vd_stumbleCount.toInt ≤ 8) (h_vd_cellCount : 0 ≤ vd_cellCount.toInt ∧ vd_cellCount.toInt ≤ 12) (h_vd_tuneCount : 0 ≤ vd_tuneCount.toInt ∧ vd_tuneCount.toInt ≤ 5) (h_vd_changeCount : 0 ≤ vd_changeCount.toInt ∧ vd_changeCount.toInt ≤ 40) (sz : Nat) : Met l yX5_readTune wsX5_readTune ({ frames := 6, cells := 0, slots := 0, locals := 128 }) (va_Pc [.ref qr, .ref qd] (ct_P D (ct_T cI cJ cB cZ cO) G (w_c_X5_readTune cI cJ cB cZ cO qr vr_numberPlace vr_fault vr_faultPlace qt qt_bytes ft_bytes vt_length vt_kind vt_from vt_upto vt_value qd vd_gap vd_odds vd_rain vd_lines qd_steps qd_lengths qd_starts qd_met qd_stumbles vd_stumbleCount qd_muds qd_cells vd_cellCount qd_tunes fd_tunes vd_tuneCount qd_changes vd_changeCount) sz)) (va_Qv (fun (u : Int32 × Int32 × Int32 × Int32 × Int32 × Int32 × Int32 × Int32 × (Nat → Int32)) => (0 ≤ u.2.2.2.2.1.toInt ∧ u.2.2.2.2.1.toInt ≤ 1200) ∧ (0 ≤ u.2.2.2.2.2.1.toInt ∧ u.2.2.2.2.2.1.toInt ≤ 1200) ∧ (0 ≤ u.2.2.2.2.2.2.2.1.toInt ∧ u.2.2.2.2.2.2.2.1.toInt ≤ 5)) (fun (u : Int32 × Int32 × Int32 × Int32 × Int32 × Int32 × Int32 × Int32 × (Nat → Int32)) t => ct_Q D (va_A (w_c_X5_readTune cI cJ cB cZ cO qr vr_numberPlace vr_fault vr_faultPlace qt qt_bytes ft_bytes vt_length vt_kind vt_from vt_upto vt_value qd vd_gap vd_odds vd_rain vd_lines qd_steps qd_lengths qd_starts qd_met qd_stumbles vd_stumbleCount qd_muds qd_cells vd_cellCount qd_tunes fd_tunes vd_tuneCount qd_changes vd_changeCount) sz) [(qr, .inr (5, [.ref qt, .int u.1, .int u.2.1, .int u.2.2.1])), (qt, .inr (8, [.ref qt_bytes, .int vt_length, .int u.2.2.2.1, .int u.2.2.2.2.1, .int u.2.2.2.2.2.1, .int u.2.2.2.2.2.2.1])), (qt_bytes, .inl (cB, 1200, .inl (ft_bytes))), dn qd vd_gap vd_odds vd_rain vd_lines qd_steps qd_lengths qd_starts qd_met qd_stumbles vd_stumbleCount qd_muds qd_cells vd_cellCount qd_tunes u.2.2.2.2.2.2.2.1 qd_changes vd_changeCount, (qd_tunes, .inl (cI, 10, .inl (u.2.2.2.2.2.2.2.2)))] t) (va_A (w_c_X5_readTune cI cJ cB cZ cO qr vr_numberPlace vr_fault vr_faultPlace qt qt_bytes ft_bytes vt_length vt_kind vt_from vt_upto vt_value qd vd_gap vd_odds vd_rain vd_lines qd_steps qd_lengths qd_starts qd_met qd_stumbles vd_stumbleCount qd_muds qd_cells vd_cellCount qd_tunes fd_tunes vd_tuneCount qd_changes vd_changeCount) sz)) 0 0 (va_A (w_c_X5_readTune cI cJ cB cZ cO qr vr_numberPlace vr_fault vr_faultPlace qt qt_bytes ft_bytes vt_length vt_kind vt_from vt_upto vt_value qd vd_gap vd_odds vd_rain vd_lines qd_steps qd_lengths qd_starts qd_met qd_stumbles vd_stumbleCount qd_muds qd_cells vd_cellCount qd_tunes fd_tunes vd_tuneCount qd_changes vd_changeCount) sz) := by
  refine Met.ofW (cc := cX5_readTune) (maxL := 3) (ret := none) (by decide) rfl ?_
  intro p e s m args below meth c s₁ B hml hv
  obtain ⟨rfl, hsz, hP, hE, hD0, hH⟩ := hv
  have hx := B.exec
  have hb := B.bytes
  have hr := B.returns
  have hts := atoms_spec (ws := wsX5_readTune) B.pre
  have hown : s.vm.findClass RX5 = some m.cls := findClass_of_methodNamed B.named
  have hlocks := B.notSynchronized
  have hK := hE.1
  have hi0 : ∀ w ∈ u_ws RX0 TX0 17, w ∈ wsX5_readTune := fun w h => List.mem_cons_of_mem _ (List.mem_append_left _ (List.mem_append_left _ (List.mem_append_right _ h)))
  subst hsz
  have hD := hD0.self (sz := s.heap.size)
  generalize hAe : va_A (w_c_X5_readTune cI cJ cB cZ cO qr vr_numberPlace vr_fault vr_faultPlace qt qt_bytes ft_bytes vt_length vt_kind vt_from vt_upto vt_value qd vd_gap vd_odds vd_rain vd_lines qd_steps qd_lengths qd_starts qd_met qd_stumbles vd_stumbleCount qd_muds qd_cells vd_cellCount qd_tunes fd_tunes vd_tuneCount qd_changes vd_changeCount) s.heap.size = A at hD hH ⊢
  have hA : ∀ q : Nat, s.heap.size ≤ q → A q := fun q h => by rw [← hAe]; exact Or.inr h
  have hS : va_S A s.heap s.heap [] := va_S.rf
  obtain ⟨hP, hD⟩ : ct_B D A s.heap [(qr, .inr (5, [.ref qt, .int vr_numberPlace, .int vr_fault, .int vr_faultPlace])), (qt, .inr (8, [.ref qt_bytes, .int vt_length, .int vt_kind, .int vt_from, .int vt_upto, .int vt_value])), (qt_bytes, .inl (cB, 1200, .inl (ft_bytes))), dn qd vd_gap vd_odds vd_rain vd_lines qd_steps qd_lengths qd_starts qd_met qd_stumbles vd_stumbleCount qd_muds qd_cells vd_cellCount qd_tunes vd_tuneCount qd_changes vd_changeCount, (qd_tunes, .inl (cI, 10, .inl (fd_tunes)))] := ⟨hP, hD⟩
  have hl := lv_entry ([.ref qr, .ref qd]) (n := 3) (Nat.le_of_ble_eq_true rfl)
  rw [lg_entry_eq]
  generalize (lg_sl ([.ref qr, .ref qd]) ++ List.replicate (3 - (lg_sl ([.ref qr, .ref qd])).length) Slot.unset).toArray = ls at hl ⊢
  have hl : lv_has ls 3 [(0, .ref qr), (1, .ref qd)] := hl
  obtain ⟨H, hHe⟩ : ∃ H : Heap, H = s.heap := ⟨_, rfl⟩
  rw [← hHe] at hP
  have hS : va_S A s.heap H [] := by rw [hHe]; exact va_S.rf
  refine ct_start hHe ?_
  refine lv_aload_n hx hb dX5_readTune_0 rfl (lv_at hl 0 rfl) ?_
  refine lv_aload_n hx hb dX5_readTune_1 rfl (lv_at hl 1 rfl) ?_
  refine va_get (D := D) (ci := 0) (v := .int vd_tuneCount) (C := RX0) (T := TX0) (N := 17) hx hb hts hi0 hown hK hP 3 rfl rfl 14 (by decide) (hts (.fieldLink RX5 169 "OverHill$Dance" "tuneCount" "I") (by decide +kernel)) (fun _ h9 => h9) rfl dX5_readTune_2 ?_
  refine lv_iconst (v := 5) hx hb dX5_readTune_5 (by decide) ?_
  refine ct_callv (D := D) (wr := [dn qd vd_gap vd_odds vd_rain vd_lines qd_steps qd_lengths qd_starts qd_met qd_stumbles vd_stumbleCount qd_muds qd_cells vd_cellCount qd_tunes vd_tuneCount qd_changes vd_changeCount, (qd_tunes, .inl (cI, 10, .inl (fd_tunes)))]) (va_runV (As := [.int vd_tuneCount, .int 5]) (rest := []) ⟨hx, hb, hml, hown, hts⟩ (c_X5_beginOneOf l D G cI cJ cB cZ cO qr vr_numberPlace vr_fault vr_faultPlace qt qt_bytes ft_bytes vt_length vt_kind vt_from vt_upto vt_value vd_tuneCount 5 h_vt_length h_vt_from h_vt_upto H.size) (cwV 2 hts gX5_readTune_X5_beginOneOf rfl rfl rfl (by decide +kernel) ⟨Nat.le_of_ble_eq_true rfl, Nat.le_of_ble_eq_true rfl⟩) (ct_preV (T := ct_T cI cJ cB cZ cO) (ci := 5) (q0 := 0) hE hH hP hD hS hA [0, 1, 2] (by decide) rfl rfl rfl) rfl rfl hl.1 rfl (lv_room (Nat.le_of_ble_eq_true rfl)) dX5_readTune_6 ⟨Nat.le_of_ble_eq_true rfl, Nat.le_of_ble_eq_true rfl⟩) hP hD hS hA [0, 1, 2] [3, 4] rfl rfl (by decide) (by decide) (fun u H locs hw hP hD hS => ?_)
  obtain ⟨y1, y2, y3, y4, y5, y6⟩ := u
  obtain ⟨hP, hD⟩ : ct_B D A H [dn qd vd_gap vd_odds vd_rain vd_lines qd_steps qd_lengths qd_starts qd_met qd_stumbles vd_stumbleCount qd_muds qd_cells vd_cellCount qd_tunes vd_tuneCount qd_changes vd_changeCount, (qd_tunes, .inl (cI, 10, .inl (fd_tunes))), (qr, .inr (5, [.ref qt, .int vr_numberPlace, .int y1, .int y2])), (qt, .inr (8, [.ref qt_bytes, .int vt_length, .int y3, .int y4, .int y5, .int y6])), (qt_bytes, .inl (cB, 1200, .inl (ft_bytes)))] := ⟨hP, hD⟩
  obtain ⟨hp0, hp1⟩ := hw
  have h_y4 : 0 ≤ y4.toInt ∧ y4.toInt ≤ 1200 := hp0
  have h_y5 : 0 ≤ y5.toInt ∧ y5.toInt ≤ 1200 := hp1
  clear hp0 hp1
  refine lv_aload_n hx hb dX5_readTune_9 rfl (lv_at hl 0 rfl) ?_
  refine lv_iconst (v := 1) hx hb dX5_readTune_10 (by decide) ?_
  refine lv_bipush (v := 30) hx hb dX5_readTune_11 (by decide) ?_
  refine ct_calli (D := D) (wr := [dn qd vd_gap vd_odds vd_rain vd_lines qd_steps qd_lengths qd_starts qd_met qd_stumbles vd_stumbleCount qd_muds qd_cells vd_cellCount qd_tunes vd_tuneCount qd_changes vd_changeCount, (qd_tunes, .inl (cI, 10, .inl (fd_tunes)))]) (va_runV (As := [.int 1, .int 30]) (rest := []) ⟨hx, hb, hml, hown, hts⟩ (c_X5_takeNumber l D G cI cJ cB cZ cO qr vr_numberPlace y1 y2 qt qt_bytes ft_bytes vt_length y3 y4 y5 y6 1 30 h_vt_length h_y4 h_y5 H.size) (cwV 2 hts gX5_readTune_X5_takeNumber rfl rfl rfl (by decide +kernel) ⟨Nat.le_of_ble_eq_true rfl, Nat.le_of_ble_eq_true rfl⟩) (ct_preV (T := ct_T cI cJ cB cZ cO) (ci := 5) (q0 := 2) hE hH hP hD hS hA [2, 3, 4] (by decide) rfl rfl rfl) rfl rfl hl.1 rfl (lv_room (Nat.le_of_ble_eq_true rfl)) dX5_readTune_13 ⟨Nat.le_of_ble_eq_true rfl, Nat.le_of_ble_eq_true rfl⟩) hP hD hS hA [2, 3, 4] [0, 1] rfl rfl (by decide) (by decide) (fun r7 u H locs hw hP hD hS => ?_)
  obtain ⟨y8, y9, y10, y11, y12, y13, y14⟩ := u
  obtain ⟨hP, hD⟩ : ct_B D A H [dn qd vd_gap vd_odds vd_rain vd_lines qd_steps qd_lengths qd_starts qd_met qd_stumbles vd_stumbleCount qd_muds qd_cells vd_cellCount qd_tunes vd_tuneCount qd_changes vd_changeCount, (qd_tunes, .inl (cI, 10, .inl (fd_tunes))), (qr, .inr (5, [.ref qt, .int y8, .int y9, .int y10])), (qt, .inr (8, [.ref qt_bytes, .int vt_length, .int y11, .int y12, .int y13, .int y14])), (qt_bytes, .inl (cB, 1200, .inl (ft_bytes)))] := ⟨hP, hD⟩
  have hk15 : (1 : Int32).toInt = 1 := by decide
  have hk16 : (30 : Int32).toInt = 30 := by decide
  obtain ⟨hz, hp0, hp1⟩ := hw
  have h_y12 : 0 ≤ y12.toInt ∧ y12.toInt ≤ 1200 := hp0
  have h_y13 : 0 ≤ y13.toInt ∧ y13.toInt ≤ 1200 := hp1
  clear hp0 hp1
  have h_r7 : r7.toInt = (1 : Int32).toInt ∨ ((1 : Int32).toInt ≤ r7.toInt ∧ r7.toInt ≤ (30 : Int32).toInt) := hz
  clear hz
  have hi_r7 : 1 ≤ r7.toInt ∧ r7.toInt ≤ 30 := by rcases h_r7 with h | h <;> omega
  clear h_r7
  refine lv_istore_n (lv' := [(2, .int r7), (0, .ref qr), (1, .ref qd)]) hx hb dX5_readTune_16 rfl hl (by decide) rfl (fun ls hl => ?_)
  refine lv_aload_n hx hb dX5_readTune_17 rfl (lv_at hl 1 rfl) ?_
  refine va_ldcS hx hb hown (hE.2.2.2 9 (by decide)) dX5_readTune_18 ?_
  refine ct_callv (D := D) (wr := [dn qd vd_gap vd_odds vd_rain vd_lines qd_steps qd_lengths qd_starts qd_met qd_stumbles vd_stumbleCount qd_muds qd_cells vd_cellCount qd_tunes vd_tuneCount qd_changes vd_changeCount, (qd_tunes, .inl (cI, 10, .inl (fd_tunes)))]) (va_runV (As := [.ref (G.1 9)]) (rest := []) ⟨hx, hb, hml, hown, hts⟩ (c_X5_takeWord l D G cI cJ cB cZ cO qr y8 y9 y10 qt qt_bytes ft_bytes vt_length y11 y12 y13 y14 9 h_vt_length h_y12 h_y13 (by decide) H.size) (cwV 1 hts gX5_readTune_X5_takeWord rfl rfl rfl (by decide +kernel) ⟨Nat.le_of_ble_eq_true rfl, Nat.le_of_ble_eq_true rfl⟩) (ct_preV (T := ct_T cI cJ cB cZ cO) (ci := 5) (q0 := 2) hE hH hP hD hS hA [2, 3, 4] (by decide) rfl rfl rfl) rfl rfl hl.1 rfl (lv_room (Nat.le_of_ble_eq_true rfl)) dX5_readTune_20 ⟨Nat.le_of_ble_eq_true rfl, Nat.le_of_ble_eq_true rfl⟩) hP hD hS hA [2, 3, 4] [0, 1] rfl rfl (by decide) (by decide) (fun u H locs hw hP hD hS => ?_)
  obtain ⟨y17, y18, y19, y20, y21, y22⟩ := u
  obtain ⟨hP, hD⟩ : ct_B D A H [dn qd vd_gap vd_odds vd_rain vd_lines qd_steps qd_lengths qd_starts qd_met qd_stumbles vd_stumbleCount qd_muds qd_cells vd_cellCount qd_tunes vd_tuneCount qd_changes vd_changeCount, (qd_tunes, .inl (cI, 10, .inl (fd_tunes))), (qr, .inr (5, [.ref qt, .int y8, .int y17, .int y18])), (qt, .inr (8, [.ref qt_bytes, .int vt_length, .int y19, .int y20, .int y21, .int y22])), (qt_bytes, .inl (cB, 1200, .inl (ft_bytes)))] := ⟨hP, hD⟩
  obtain ⟨hp0, hp1⟩ := hw
  have h_y20 : 0 ≤ y20.toInt ∧ y20.toInt ≤ 1200 := hp0
  have h_y21 : 0 ≤ y21.toInt ∧ y21.toInt ≤ 1200 := hp1
  clear hp0 hp1
  refine lv_aload_n hx hb dX5_readTune_23 rfl (lv_at hl 2 rfl) ?_
  refine lv_iload_n hx hb dX5_readTune_24 rfl (lv_at hl 0 rfl) ?_
  refine lv_aload_n hx hb dX5_readTune_25 rfl (lv_at hl 1 rfl) ?_
  refine lv_iconst (v := 0) hx hb dX5_readTune_26 (by decide) ?_
  refine lv_iload_n hx hb dX5_readTune_27 rfl (lv_at hl 0 rfl) ?_
  refine lv_iconst (v := 1) hx hb dX5_readTune_28 (by decide) ?_
  refine lv_isub hx hb dX5_readTune_29 ?_
  refine lv_topi (fun z23 ez23 => ?_)
  have fz23 : z23.toInt = r7.toInt - 1 := by rw [ez23]; exact tq_subt rfl (by decide) (by omega)
  refine ct_calli (D := D) (wr := [dn qd vd_gap vd_odds vd_rain vd_lines qd_steps qd_lengths qd_starts qd_met qd_stumbles vd_stumbleCount qd_muds qd_cells vd_cellCount qd_tunes vd_tuneCount qd_changes vd_changeCount, (qd_tunes, .inl (cI, 10, .inl (fd_tunes)))]) (va_runV (As := [.int 0, .int z23]) (rest := [.int r7, .ref qd]) ⟨hx, hb, hml, hown, hts⟩ (c_X5_takeNumber l D G cI cJ cB cZ cO qr y8 y17 y18 qt qt_bytes ft_bytes vt_length y19 y20 y21 y22 0 z23 h_vt_length h_y20 h_y21 H.size) (cwV 2 hts gX5_readTune_X5_takeNumber rfl rfl rfl (by decide +kernel) ⟨Nat.le_of_ble_eq_true rfl, Nat.le_of_ble_eq_true rfl⟩) (ct_preV (T := ct_T cI cJ cB cZ cO) (ci := 5) (q0 := 2) hE hH hP hD hS hA [2, 3, 4] (by decide) rfl rfl rfl) rfl rfl hl.1 rfl (lv_room (Nat.le_of_ble_eq_true rfl)) dX5_readTune_30 ⟨Nat.le_of_ble_eq_true rfl, Nat.le_of_ble_eq_true rfl⟩) hP hD hS hA [2, 3, 4] [0, 1] rfl rfl (by decide) (by decide) (fun r24 u H locs hw hP hD hS => ?_)
  obtain ⟨y25, y26, y27, y28, y29, y30, y31⟩ := u
  obtain ⟨hP, hD⟩ : ct_B D A H [dn qd vd_gap vd_odds vd_rain vd_lines qd_steps qd_lengths qd_starts qd_met qd_stumbles vd_stumbleCount qd_muds qd_cells vd_cellCount qd_tunes vd_tuneCount qd_changes vd_changeCount, (qd_tunes, .inl (cI, 10, .inl (fd_tunes))), (qr, .inr (5, [.ref qt, .int y25, .int y26, .int y27])), (qt, .inr (8, [.ref qt_bytes, .int vt_length, .int y28, .int y29, .int y30, .int y31])), (qt_bytes, .inl (cB, 1200, .inl (ft_bytes)))] := ⟨hP, hD⟩
  have hk32 : (0 : Int32).toInt = 0 := by decide
  obtain ⟨hz, hp0, hp1⟩ := hw
  have h_y29 : 0 ≤ y29.toInt ∧ y29.toInt ≤ 1200 := hp0
  have h_y30 : 0 ≤ y30.toInt ∧ y30.toInt ≤ 1200 := hp1
  clear hp0 hp1
  have h_r24 : r24.toInt = (0 : Int32).toInt ∨ ((0 : Int32).toInt ≤ r24.toInt ∧ r24.toInt ≤ z23.toInt) := hz
  clear hz
  have hi_r24 : 0 ≤ r24.toInt ∧ r24.toInt ≤ 29 := by rcases h_r24 with h | h <;> omega
  refine ct_callv (D := D) (wr := [(qr, .inr (5, [.ref qt, .int y25, .int y26, .int y27])), (qt, .inr (8, [.ref qt_bytes, .int vt_length, .int y28, .int y29, .int y30, .int y31])), (qt_bytes, .inl (cB, 1200, .inl (ft_bytes)))]) (va_runV (As := [.int r7, .int r24]) (rest := []) ⟨hx, hb, hml, hown, hts⟩ (c_X0_addTune l D G cI cJ cB cZ cO qd vd_gap vd_odds vd_rain vd_lines qd_steps qd_lengths qd_starts qd_met qd_stumbles vd_stumbleCount qd_muds qd_cells vd_cellCount qd_tunes fd_tunes vd_tuneCount qd_changes vd_changeCount r7 r24 h_vd_gap h_vd_stumbleCount h_vd_cellCount h_vd_tuneCount h_vd_changeCount H.size) (cwV 2 hts gX5_readTune_X0_addTune rfl rfl rfl (by decide +kernel) ⟨Nat.le_of_ble_eq_true rfl, Nat.le_of_ble_eq_true rfl⟩) (ct_preV (T := ct_T cI cJ cB cZ cO) (ci := 0) (q0 := 0) hE hH hP hD hS hA [0, 1] (by decide) rfl rfl rfl) rfl rfl hl.1 rfl (lv_room (Nat.le_of_ble_eq_true rfl)) dX5_readTune_33 ⟨Nat.le_of_ble_eq_true rfl, Nat.le_of_ble_eq_true rfl⟩) hP hD hS hA [0, 1] [2, 3, 4] rfl rfl (by decide) (by decide) (fun u H locs hw hP hD hS => ?_)
  obtain ⟨y33, g34⟩ := u
  obtain ⟨hP, hD⟩ : ct_B D A H [(qr, .inr (5, [.ref qt, .int y25, .int y26, .int y27])), (qt, .inr (8, [.ref qt_bytes, .int vt_length, .int y28, .int y29, .int y30, .int y31])), (qt_bytes, .inl (cB, 1200, .inl (ft_bytes))), dn qd vd_gap vd_odds vd_rain vd_lines qd_steps qd_lengths qd_starts qd_met qd_stumbles vd_stumbleCount qd_muds qd_cells vd_cellCount qd_tunes y33 qd_changes vd_changeCount, (qd_tunes, .inl (cI, 10, .inl (g34)))] := ⟨hP, hD⟩
  have hp0 := hw
  clear hw
  have h_y33 : 0 ≤ y33.toInt ∧ y33.toInt ≤ 5 := hp0
  clear hp0
  obtain ⟨hP9, hD9⟩ : ct_B D A H [(qr, .inr (5, [.ref qt, .int y25, .int y26, .int y27])), (qt, .inr (8, [.ref qt_bytes, .int vt_length, .int y28, .int y29, .int y30, .int y31])), (qt_bytes, .inl (cB, 1200, .inl (ft_bytes))), dn qd vd_gap vd_odds vd_rain vd_lines qd_steps qd_lengths qd_starts qd_met qd_stumbles vd_stumbleCount qd_muds qd_cells vd_cellCount qd_tunes y33 qd_changes vd_changeCount, (qd_tunes, .inl (cI, 10, .inl (g34)))] := ⟨hP.sub [0, 1, 2, 3, 4] rfl, hD.sub [0, 1, 2, 3, 4] (by decide) rfl⟩
  exact W.vret hx hb hr (fun t ht hW => ⟨⟨(y25, y26, y27, y28, y29, y30, y31, y33, g34), rfl, ⟨h_y29, h_y30, h_y33⟩, by rw [ht]; exact hP9, hD9⟩, hS.F ht⟩) hS.2.2 dX5_readTune_36
