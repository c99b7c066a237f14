abbrev w_c_X1_findStumbles (cI cJ cB cZ cO : ClassId) (qf : Nat) (qf_places : Nat) (qf_steps : Nat) (qf_stumbleIn : Nat) (ff_stumbleIn : Nat → Int32) (vf_gap : Int32) (vf_calmLength : Int32) (vf_calmStart : Int32) (qd : Nat) (vd_gap : Int32) (vd_odds : Int32) (vd_rain : Int32) (vd_lines : Int32) (qd_steps : Nat) (qd_lengths : Nat) (qd_starts : Nat) (qd_met : Nat) (qd_stumbles : Nat) (fd_stumbles : Nat → Int32) (vd_stumbleCount : Int32) (qd_muds : Nat) (qd_cells : Nat) (vd_cellCount : Int32) (qd_tunes : Nat) (vd_tuneCount : Int32) (qd_changes : Nat) (vd_changeCount : Int32) : va_W := [fo qf qf_places qf_steps qf_stumbleIn vf_gap vf_calmLength vf_calmStart, (qf_stumbleIn, .inl (cI, 200, .inl (ff_stumbleIn))), dn qd vd_gap vd_odds vd_rain vd_lines qd_steps qd_lengths qd_starts qd_met qd_stumbles vd_stumbleCount qd_muds qd_cells vd_cellCount qd_tunes vd_tuneCount qd_changes vd_changeCount, (qd_stumbles, .inl (cI, 32, .inl (fd_stumbles)))]
set_option maxHeartbeats 4000000 in
set_option maxRecDepth 100000 in
/-- X1 findStumbles -/
theorem c_X1_findStumbles (l : Launch) (D : va_G) (G : ct_G) (cI cJ cB cZ cO : ClassId) (qf : Nat) (qf_places : Nat) (qf_steps : Nat) (qf_stumbleIn : Nat) (ff_stumbleIn : Nat → Int32) (vf_gap : Int32) (vf_calmLength : Int32) (vf_calmStart : Int32) (qd : Nat) (vd_gap : Int32) (vd_odds : Int32) (vd_rain : Int32) (vd_lines : Int32) (qd_steps : Nat) (qd_lengths : Nat) (qd_starts : Nat) (qd_met : Nat) (qd_stumbles : Nat) (fd_stumbles : Nat → Int32) (vd_stumbleCount : Int32) (qd_muds : Nat) (qd_cells : Nat) (vd_cellCount : Int32) (qd_tunes : Nat) (vd_tuneCount : Int32) (qd_changes : Nat) (vd_changeCount : Int32) (a2 : Int32) (a3 : Int32) (h_ff_stumbleIn : ar_q ff_stumbleIn) (h_vf_gap : 0 ≤ vf_gap.toInt ∧ vf_gap.toInt ≤ 20) (h_vd_gap : 0 ≤ vd_gap.toInt ∧ vd_gap.toInt ≤ 20) (h_fd_stumbles : ar_ok [(-2147483648), 0, 0, (-2147483648)] [2147483647, 199, 5, 2147483647] fd_stumbles) (h_vd_stumbleCount : 0 ≤ vd_stumbleCount.toInt ∧ vd_stumbleCount.toInt ≤ 8) (h_vd_cellCount : 0 ≤ vd_cellCount.toInt ∧ vd_cellCount.toInt ≤ 12) (h_vd_tuneCount : 0 ≤ vd_tuneCount.toInt ∧ vd_tuneCount.toInt ≤ 5) (h_vd_changeCount : 0 ≤ vd_changeCount.toInt ∧ vd_changeCount.toInt ≤ 40) (sz : Nat) : Met l yX1_findStumbles wsX1_findStumbles ({ frames := 1, cells := 0, slots := 0, locals := 23 }) (va_Pc [.ref qf, .ref qd, .int a2, .int a3] (ct_P D (ct_T cI cJ cB cZ cO) G (w_c_X1_findStumbles cI cJ cB cZ cO qf qf_places qf_steps qf_stumbleIn ff_stumbleIn vf_gap vf_calmLength vf_calmStart qd vd_gap vd_odds vd_rain vd_lines qd_steps qd_lengths qd_starts qd_met qd_stumbles fd_stumbles vd_stumbleCount qd_muds qd_cells vd_cellCount qd_tunes vd_tuneCount qd_changes vd_changeCount) sz)) (va_Qv (fun (u : (Nat → Int32)) => (ar_q u)) (fun (u : (Nat → Int32)) t => ct_Q D (va_A (w_c_X1_findStumbles cI cJ cB cZ cO qf qf_places qf_steps qf_stumbleIn ff_stumbleIn vf_gap vf_calmLength vf_calmStart qd vd_gap vd_odds vd_rain vd_lines qd_steps qd_lengths qd_starts qd_met qd_stumbles fd_stumbles vd_stumbleCount qd_muds qd_cells vd_cellCount qd_tunes vd_tuneCount qd_changes vd_changeCount) sz) [fo qf qf_places qf_steps qf_stumbleIn vf_gap vf_calmLength vf_calmStart, (qf_stumbleIn, .inl (cI, 200, .inl (u))), dn qd vd_gap vd_odds vd_rain vd_lines qd_steps qd_lengths qd_starts qd_met qd_stumbles vd_stumbleCount qd_muds qd_cells vd_cellCount qd_tunes vd_tuneCount qd_changes vd_changeCount, (qd_stumbles, .inl (cI, 32, .inl (fd_stumbles)))] t) (va_A (w_c_X1_findStumbles cI cJ cB cZ cO qf qf_places qf_steps qf_stumbleIn ff_stumbleIn vf_gap vf_calmLength vf_calmStart qd vd_gap vd_odds vd_rain vd_lines qd_steps qd_lengths qd_starts qd_met qd_stumbles fd_stumbles vd_stumbleCount qd_muds qd_cells vd_cellCount qd_tunes vd_tuneCount qd_changes vd_changeCount) sz)) 0 0 (va_A (w_c_X1_findStumbles cI cJ cB cZ cO qf qf_places qf_steps qf_stumbleIn ff_stumbleIn vf_gap vf_calmLength vf_calmStart qd vd_gap vd_odds vd_rain vd_lines qd_steps qd_lengths qd_starts qd_met qd_stumbles fd_stumbles vd_stumbleCount qd_muds qd_cells vd_cellCount qd_tunes vd_tuneCount qd_changes vd_changeCount) sz) := by
  refine Met.ofW (cc := cX1_findStumbles) (maxL := 6) (ret := none) (by decide) rfl ?_
  intro p e s m args below meth c s₁ B hml hv
  obtain ⟨rfl, hsz, hP, hE, hD0, hH⟩ := hv
  have hx := B.exec
  have hb := B.bytes
  have hr := B.returns
  have hts := atoms_spec (ws := wsX1_findStumbles) B.pre
  have hown : s.vm.findClass RX1 = some m.cls := findClass_of_methodNamed B.named
  have hlocks := B.notSynchronized
  have hK := hE.1
  have hi0 : ∀ w ∈ u_ws RX0 TX0 17, w ∈ wsX1_findStumbles := fun w h => List.mem_cons_of_mem _ (List.mem_append_right _ h)
  have hi1 : ∀ w ∈ u_ws RX1 TX1 6, w ∈ wsX1_findStumbles := fun w h => List.mem_cons_of_mem _ (List.mem_append_left _ (List.mem_append_right _ h))
  subst hsz
  have hD := hD0.self (sz := s.heap.size)
  generalize hAe : va_A (w_c_X1_findStumbles cI cJ cB cZ cO qf qf_places qf_steps qf_stumbleIn ff_stumbleIn vf_gap vf_calmLength vf_calmStart qd vd_gap vd_odds vd_rain vd_lines qd_steps qd_lengths qd_starts qd_met qd_stumbles fd_stumbles vd_stumbleCount qd_muds qd_cells vd_cellCount qd_tunes vd_tuneCount qd_changes vd_changeCount) s.heap.size = A at hD hH ⊢
  have hA : ∀ q : Nat, s.heap.size ≤ q → A q := fun q h => by rw [← hAe]; exact Or.inr h
  have hS : va_S A s.heap s.heap [] := va_S.rf
  obtain ⟨hP, hD⟩ : ct_B D A s.heap [fo qf qf_places qf_steps qf_stumbleIn vf_gap vf_calmLength vf_calmStart, (qf_stumbleIn, .inl (cI, 200, .inl (ff_stumbleIn))), dn qd vd_gap vd_odds vd_rain vd_lines qd_steps qd_lengths qd_starts qd_met qd_stumbles vd_stumbleCount qd_muds qd_cells vd_cellCount qd_tunes vd_tuneCount qd_changes vd_changeCount, (qd_stumbles, .inl (cI, 32, .inl (fd_stumbles)))] := ⟨hP, hD⟩
  have hl := lv_entry ([.ref qf, .ref qd, .int a2, .int a3]) (n := 6) (Nat.le_of_ble_eq_true rfl)
  rw [lg_entry_eq]
  generalize (lg_sl ([.ref qf, .ref qd, .int a2, .int a3]) ++ List.replicate (6 - (lg_sl ([.ref qf, .ref qd, .int a2, .int a3])).length) Slot.unset).toArray = ls at hl ⊢
  have hl : lv_has ls 6 [(0, .ref qf), (1, .ref qd), (2, .int a2), (3, .int a3)] := hl
  obtain ⟨H, hHe⟩ : ∃ H : Heap, H = s.heap := ⟨_, rfl⟩
  rw [← hHe] at hP
  have hS : va_S A s.heap H [] := by rw [hHe]; exact va_S.rf
  refine ct_start hHe ?_
  refine lv_aload_n hx hb dX1_findStumbles_0 rfl (lv_at hl 0 rfl) ?_
  refine va_get (D := D) (ci := 1) (v := .ref qf_stumbleIn) (C := RX1) (T := TX1) (N := 6) hx hb hts hi1 hown hK hP 0 rfl rfl 2 (by decide) (hts (.fieldLink RX1 18 "OverHill$Floor" "stumbleIn" "[I") (by decide +kernel)) (fun _ h9 => h9) rfl dX1_findStumbles_1 ?_
  refine lv_iconst (v := (-1)) hx hb dX1_findStumbles_4 (by decide) ?_
  refine ct_callv (D := D) (wr := [fo qf qf_places qf_steps qf_stumbleIn vf_gap vf_calmLength vf_calmStart, dn qd vd_gap vd_odds vd_rain vd_lines qd_steps qd_lengths qd_starts qd_met qd_stumbles vd_stumbleCount qd_muds qd_cells vd_cellCount qd_tunes vd_tuneCount qd_changes vd_changeCount, (qd_stumbles, .inl (cI, 32, .inl (fd_stumbles)))]) (va_runS (As := [.ref qf_stumbleIn, .int (-1)]) (rest := []) ⟨hx, hb, hml, hown, hts⟩ (c_fill l D G cI cJ cB cZ cO qf_stumbleIn 200 ff_stumbleIn (-1) (by decide) H.size) (va_cwS 2 hts gX1_findStumbles_J7_fill_53178 rfl rfl rfl (by decide +kernel) ⟨Nat.le_of_ble_eq_true rfl, Nat.le_of_ble_eq_true rfl⟩) (ct_preS (T := ct_T cI cJ cB cZ cO) hE hH hP hD hS hA [1] (by decide) rfl) rfl rfl hl.1 rfl (lv_room (Nat.le_of_ble_eq_true rfl)) dX1_findStumbles_5 ⟨Nat.le_of_ble_eq_true rfl, Nat.le_of_ble_eq_true rfl⟩) hP hD hS hA [1] [0, 2, 3] rfl rfl (by decide) (by decide) (fun u H locs hw hP hD hS => ?_)
  obtain ⟨g1, rfl⟩ : ∃ z, z = u := ⟨_, rfl⟩
  obtain ⟨hP, hD⟩ : ct_B D A H [fo qf qf_places qf_steps qf_stumbleIn vf_gap vf_calmLength vf_calmStart, dn qd vd_gap vd_odds vd_rain vd_lines qd_steps qd_lengths qd_starts qd_met qd_stumbles vd_stumbleCount qd_muds qd_cells vd_cellCount qd_tunes vd_tuneCount qd_changes vd_changeCount, (qd_stumbles, .inl (cI, 32, .inl (fd_stumbles))), (qf_stumbleIn, .inl (cI, 200, .inl (g1)))] := ⟨hP, hD⟩
  have hp0 := hw
  have hp_2 : ∀ j : Nat, g1 j = (-1 : Int32) ∨ g1 j = ff_stumbleIn j := hp0
  have h_g1 : ar_q g1 := ar_q_or hp_2 h_ff_stumbleIn (by decide)
  refine lv_iconst (v := 0) hx hb dX1_findStumbles_8 (by decide) ?_
  refine lv_istore (lv' := [(4, .int 0), (0, .ref qf), (1, .ref qd), (2, .int a2), (3, .int a3)]) hx hb dX1_findStumbles_9 hl (by decide) rfl (fun ls hl => ?_)
  refine ct_loop (X := (Nat → Int32) × Int32) (fun x => (8 - x.2.toInt).toNat) (fun x H locs ls => (ar_q x.1) ∧ ((0 ≤ x.2.toInt ∧ x.2.toInt ≤ 8)) ∧ ct_B D A H [fo qf qf_places qf_steps qf_stumbleIn vf_gap vf_calmLength vf_calmStart, dn qd vd_gap vd_odds vd_rain vd_lines qd_steps qd_lengths qd_starts qd_met qd_stumbles vd_stumbleCount qd_muds qd_cells vd_cellCount qd_tunes vd_tuneCount qd_changes vd_changeCount, (qd_stumbles, .inl (cI, 32, .inl (fd_stumbles))), (qf_stumbleIn, .inl (cI, 200, .inl (x.1)))] ∧ va_S A s.heap H locs ∧ lv_has ls 6 [(4, .int x.2), (0, .ref qf), (1, .ref qd), (2, .int a2), (3, .int a3)]) 11 (g1, (0 : Int32)) ⟨h_g1, (show 0 ≤ (0 : Int32).toInt ∧ (0 : Int32).toInt ≤ 8 by decide), ⟨hP, hD⟩, hS, lv_sub hl [0, 1, 2, 3, 4] rfl⟩ (fun x ih171 H locs ls hI => ?_)
  obtain ⟨g169, x170⟩ := x
  obtain ⟨h_g169, h_x170, ⟨hP, hD⟩, hS, hl⟩ := hI
  have h_g169 : ar_q g169 := h_g169
  have h_x170 : (0 ≤ x170.toInt ∧ x170.toInt ≤ 8) := h_x170
  obtain ⟨hP, hD⟩ : ct_B D A H [fo qf qf_places qf_steps qf_stumbleIn vf_gap vf_calmLength vf_calmStart, dn qd vd_gap vd_odds vd_rain vd_lines qd_steps qd_lengths qd_starts qd_met qd_stumbles vd_stumbleCount qd_muds qd_cells vd_cellCount qd_tunes vd_tuneCount qd_changes vd_changeCount, (qd_stumbles, .inl (cI, 32, .inl (fd_stumbles))), (qf_stumbleIn, .inl (cI, 200, .inl (g169)))] := ⟨hP, hD⟩
  have hl : lv_has ls 6 [(4, .int x170), (0, .ref qf), (1, .ref qd), (2, .int a2), (3, .int a3)] := hl
  refine lv_iload hx hb dX1_findStumbles_11 (lv_at hl 0 rfl) ?_
  refine lv_aload_n hx hb dX1_findStumbles_13 rfl (lv_at hl 2 rfl) ?_
  refine va_get (D := D) (ci := 0) (v := .int vd_stumbleCount) (C := RX0) (T := TX0) (N := 17) hx hb hts hi0 hown hK hP 1 rfl rfl 9 (by decide) (hts (.fieldLink RX1 42 "OverHill$Dance" "stumbleCount" "I") (by decide +kernel)) (fun _ h9 => h9) rfl dX1_findStumbles_14 ?_
  refine lv_icmp_ge (tgt := 65) hx hb dX1_findStumbles_17 (by decide) (fun hc => ?_) (fun hc => ?_)
  · have hq172 : vd_stumbleCount.toInt ≤ x170.toInt := tq_le rfl rfl hc
    obtain ⟨hP9, hD9⟩ : ct_B D A H [fo qf qf_places qf_steps qf_stumbleIn vf_gap vf_calmLength vf_calmStart, (qf_stumbleIn, .inl (cI, 200, .inl (g169))), dn qd vd_gap vd_odds vd_rain vd_lines qd_steps qd_lengths qd_starts qd_met qd_stumbles vd_stumbleCount qd_muds qd_cells vd_cellCount qd_tunes vd_tuneCount qd_changes vd_changeCount, (qd_stumbles, .inl (cI, 32, .inl (fd_stumbles)))] := ⟨hP.sub [0, 3, 1, 2] rfl, hD.sub [0, 3, 1, 2] (by decide) rfl⟩
    exact W.vret hx hb hr (fun t ht hW => ⟨⟨g169, rfl, h_g169, by rw [ht]; exact hP9, hD9⟩, hS.F ht⟩) hS.2.2 dX1_findStumbles_65
  · have hq172 : x170.toInt < vd_stumbleCount.toInt := tq_nle rfl rfl hc
    refine lv_iload hx hb dX1_findStumbles_20 (lv_at hl 0 rfl) ?_
    refine lv_iconst (v := 4) hx hb dX1_findStumbles_22 (by decide) ?_
    refine lv_imul hx hb dX1_findStumbles_23 ?_
    refine lv_topi (fun z173 ez173 => ?_)
    have fz173 : z173.toInt = x170.toInt * 4 := by rw [ez173]; exact tq_mul rfl (by decide) (by omega)
    refine lv_istore (lv' := [(5, .int z173), (4, .int x170), (0, .ref qf), (1, .ref qd), (2, .int a2), (3, .int a3)]) hx hb dX1_findStumbles_24 hl (by decide) rfl (fun ls hl => ?_)
    refine lv_iload hx hb dX1_findStumbles_26 (lv_at hl 1 rfl) ?_
    refine lv_iload_n hx hb dX1_findStumbles_28 rfl (lv_at hl 5 rfl) ?_
    refine lv_icmp_eq (tgt := 59) hx hb dX1_findStumbles_29 (by decide) (fun hc => ?_) (fun hc => ?_)
    · have hq174 : x170.toInt = a3.toInt := tq_eq rfl rfl hc
      have hb175 := tq_lo a3
      obtain ⟨z176, ez176⟩ : ∃ z : Int32, z = x170 + 1 := ⟨_, rfl⟩
      have fz176 : z176.toInt = x170.toInt + 1 := by rw [ez176]; exact tq_add rfl (by decide) (by omega)
      refine lv_iinc (v := z176) (lv' := [(4, .int z176), (5, .int z173), (0, .ref qf), (1, .ref qd), (2, .int a2), (3, .int a3)]) hx hb dX1_findStumbles_59 hl (k := 1) rfl ez176.symm (by decide) rfl (fun ls hl => ?_)
      refine lv_goto (tgt := 11) hx hb dX1_findStumbles_62 (by decide) ?_
      exact ih171 (g169, z176) _ _ _ (show (8 - z176.toInt).toNat < (8 - x170.toInt).toNat by omega) ⟨h_g169, (show 0 ≤ z176.toInt ∧ z176.toInt ≤ 8 by omega), ⟨hP, hD⟩, hS, lv_sub hl [0, 2, 3, 4, 5] rfl⟩
    · have hq174 : x170.toInt ≠ a3.toInt := tq_ne rfl rfl hc
      have hb177 := tq_lo a3
      refine lv_aload_n hx hb dX1_findStumbles_32 rfl (lv_at hl 3 rfl) ?_
      refine va_get (D := D) (ci := 0) (v := .ref qd_stumbles) (C := RX0) (T := TX0) (N := 17) hx hb hts hi0 hown hK hP 1 rfl rfl 8 (by decide) (hts (.fieldLink RX1 45 "OverHill$Dance" "stumbles" "[I") (by decide +kernel)) (fun _ h9 => h9) rfl dX1_findStumbles_33 ?_
      refine lv_iload hx hb dX1_findStumbles_36 (lv_at hl 0 rfl) ?_
      refine va_iald (D := D) hx hb hK hP 2 0 rfl rfl (tq_in rfl (by omega)) dX1_findStumbles_38 ?_
      refine lv_topi (fun z178 ez178 => ?_)
      refine lv_iload_n hx hb dX1_findStumbles_39 rfl (lv_at hl 4 rfl) ?_
      refine lv_icmp_ne (tgt := 59) hx hb dX1_findStumbles_40 (by decide) (fun hc => ?_) (fun hc => ?_)
      · have hq179 : z178.toInt ≠ a2.toInt := tq_ne rfl rfl hc
        have hb180 := tq_lo z178
        have hb181 := tq_lo a2
        obtain ⟨z182, ez182⟩ : ∃ z : Int32, z = x170 + 1 := ⟨_, rfl⟩
        have fz182 : z182.toInt = x170.toInt + 1 := by rw [ez182]; exact tq_add rfl (by decide) (by omega)
        refine lv_iinc (v := z182) (lv' := [(4, .int z182), (5, .int z173), (0, .ref qf), (1, .ref qd), (2, .int a2), (3, .int a3)]) hx hb dX1_findStumbles_59 hl (k := 1) rfl ez182.symm (by decide) rfl (fun ls hl => ?_)
        refine lv_goto (tgt := 11) hx hb dX1_findStumbles_62 (by decide) ?_
        exact ih171 (g169, z182) _ _ _ (show (8 - z182.toInt).toNat < (8 - x170.toInt).toNat by omega) ⟨h_g169, (show 0 ≤ z182.toInt ∧ z182.toInt ≤ 8 by omega), ⟨hP, hD⟩, hS, lv_sub hl [0, 2, 3, 4, 5] rfl⟩
      · have hq179 : z178.toInt = a2.toInt := tq_eq rfl rfl hc
        have hb183 := tq_lo z178
        have hb184 := tq_lo a2
        refine lv_aload_n hx hb dX1_findStumbles_43 rfl (lv_at hl 2 rfl) ?_
        refine va_get (D := D) (ci := 1) (v := .ref qf_stumbleIn) (C := RX1) (T := TX1) (N := 6) hx hb hts hi1 hown hK hP 0 rfl rfl 2 (by decide) (hts (.fieldLink RX1 18 "OverHill$Floor" "stumbleIn" "[I") (by decide +kernel)) (fun _ h9 => h9) rfl dX1_findStumbles_44 ?_
        refine lv_aload_n hx hb dX1_findStumbles_47 rfl (lv_at hl 3 rfl) ?_
        refine va_get (D := D) (ci := 0) (v := .ref qd_stumbles) (C := RX0) (T := TX0) (N := 17) hx hb hts hi0 hown hK hP 1 rfl rfl 8 (by decide) (hts (.fieldLink RX1 45 "OverHill$Dance" "stumbles" "[I") (by decide +kernel)) (fun _ h9 => h9) rfl dX1_findStumbles_48 ?_
        refine lv_iload hx hb dX1_findStumbles_51 (lv_at hl 0 rfl) ?_
        refine lv_iconst (v := 1) hx hb dX1_findStumbles_53 (by decide) ?_
        refine lv_iadd hx hb dX1_findStumbles_54 ?_
        refine lv_topi (fun z185 ez185 => ?_)
        have fz185 : z185.toInt = z173.toInt + 1 := by rw [ez185]; exact tq_add rfl (by decide) (by omega)
        refine va_iald (D := D) hx hb hK hP 2 0 rfl rfl (tq_in rfl (by omega)) dX1_findStumbles_55 ?_
        refine lv_topi (fun z186 ez186 => ?_)
        have fz186 : 0 ≤ z186.toInt ∧ z186.toInt ≤ 199 := by rw [ez186]; exact ar_get h_fd_stumbles z185 1 (by omega) (show z185.toInt % 4 = 1 by omega) rfl
        refine lv_iload hx hb dX1_findStumbles_56 (lv_at hl 0 rfl) ?_
        refine va_iast (D := D) hx hb hK hP hD hS 3 0 rfl rfl (tq_in rfl (by omega)) dX1_findStumbles_58 (fun H locs hP hD hS => ?_)
        obtain ⟨g187, h_g187, hP, hD⟩ : ∃ g187 : Nat → Int32, ar_q g187 ∧ ct_B D A H [fo qf qf_places qf_steps qf_stumbleIn vf_gap vf_calmLength vf_calmStart, dn qd vd_gap vd_odds vd_rain vd_lines qd_steps qd_lengths qd_starts qd_met qd_stumbles vd_stumbleCount qd_muds qd_cells vd_cellCount qd_tunes vd_tuneCount qd_changes vd_changeCount, (qd_stumbles, .inl (cI, 32, .inl (fd_stumbles))), (qf_stumbleIn, .inl (cI, 200, .inl (g187)))] := ⟨_, ar_q_set h_g169 _ (show z173.toInt = -1 ∨ (0 ≤ z173.toInt ∧ z173.toInt ≤ 28 ∧ z173.toInt % 4 = 0) by omega), hP, hD⟩
        obtain ⟨z188, ez188⟩ : ∃ z : Int32, z = x170 + 1 := ⟨_, rfl⟩
        have fz188 : z188.toInt = x170.toInt + 1 := by rw [ez188]; exact tq_add rfl (by decide) (by omega)
        refine lv_iinc (v := z188) (lv' := [(4, .int z188), (5, .int z173), (0, .ref qf), (1, .ref qd), (2, .int a2), (3, .int a3)]) hx hb dX1_findStumbles_59 hl (k := 1) rfl ez188.symm (by decide) rfl (fun ls hl => ?_)
        refine lv_goto (tgt := 11) hx hb dX1_findStumbles_62 (by decide) ?_
        exact ih171 (g187, z188) _ _ _ (show (8 - z188.toInt).toNat < (8 - x170.toInt).toNat by omega) ⟨h_g187, (show 0 ≤ z188.toInt ∧ z188.toInt ≤ 8 by omega), ⟨hP, hD⟩, hS, lv_sub hl [0, 2, 3, 4, 5] rfl⟩
abbrev w_c_X1_laySide (cI cJ cB cZ cO : ClassId) (qf : Nat) (qf_places : Nat) (ff_places : Nat → Int32) (qf_steps : Nat) (ff_steps : Nat → Int32) (qf_stumbleIn : Nat) (ff_stumbleIn : Nat → Int32) (vf_gap : Int32) (vf_calmLength : Int32) (vf_calmStart : Int32) (qd : Nat) (vd_gap : Int32) (vd_odds : Int32) (vd_rain : Int32) (vd_lines : Int32) (qd_steps : Nat) (fd_steps : Nat → Int32) (qd_lengths : Nat) (fd_lengths : Nat → Int32) (qd_starts : Nat) (fd_starts : Nat → Int32) (qd_met : Nat) (qd_stumbles : Nat) (fd_stumbles : Nat → Int32) (vd_stumbleCount : Int32) (qd_muds : Nat) (fd_muds : Nat → Int32) (qd_cells : Nat) (vd_cellCount : Int32) (qd_tunes : Nat) (vd_tuneCount : Int32) (qd_changes : Nat) (vd_changeCount : Int32) : va_W := [fo qf qf_places qf_steps qf_stumbleIn vf_gap vf_calmLength vf_calmStart, (qf_places, .inl (cI, 400, .inl (ff_places))), (qf_steps, .inl (cI, 400, .inl (ff_steps))), (qf_stumbleIn, .inl (cI, 200, .inl (ff_stumbleIn))), dn qd vd_gap vd_odds vd_rain vd_lines qd_steps qd_lengths qd_starts qd_met qd_stumbles vd_stumbleCount qd_muds qd_cells vd_cellCount qd_tunes vd_tuneCount qd_changes vd_changeCount, (qd_steps, .inl (cI, 24, .inl (fd_steps))), (qd_lengths, .inl (cI, 2, .inl (fd_lengths))), (qd_starts, .inl (cI, 2, .inl (fd_starts))), (qd_stumbles, .inl (cI, 32, .inl (fd_stumbles))), (qd_muds, .inl (cI, 200, .inl (fd_muds)))]
set_option maxHeartbeats 4000000 in
set_option maxRecDepth 100000 in
/-- X1 laySide -/
theorem c_X1_laySide (l : Launch) (D : va_G) (G : ct_G) (cI cJ cB cZ cO : ClassId) (qf : Nat) (qf_places : Nat) (ff_places : Nat → Int32) (qf_steps : Nat) (ff_steps : Nat → Int32) (qf_stumbleIn : Nat) (ff_stumbleIn : Nat → Int32) (vf_gap : Int32) (vf_calmLength : Int32) (vf_calmStart : Int32) (qd : Nat) (vd_gap : Int32) (vd_odds : Int32) (vd_rain : Int32) (vd_lines : Int32) (qd_steps : Nat) (fd_steps : Nat → Int32) (qd_lengths : Nat) (fd_lengths : Nat → Int32) (qd_starts : Nat) (fd_starts : Nat → Int32) (qd_met : Nat) (qd_stumbles : Nat) (fd_stumbles : Nat → Int32) (vd_stumbleCount : Int32) (qd_muds : Nat) (fd_muds : Nat → Int32) (qd_cells : Nat) (vd_cellCount : Int32) (qd_tunes : Nat) (vd_tuneCount : Int32) (qd_changes : Nat) (vd_changeCount : Int32) (a2 : Int32) (h_ff_steps : ar_ok [(-1)] [5] ff_steps) (h_ff_stumbleIn : ar_q ff_stumbleIn) (h_vf_gap : 0 ≤ vf_gap.toInt ∧ vf_gap.toInt ≤ 20) (h_vd_gap : 0 ≤ vd_gap.toInt ∧ vd_gap.toInt ≤ 20) (h_fd_steps : ar_ok [0] [5] fd_steps) (h_fd_lengths : ar_ok [0] [12] fd_lengths) (h_fd_starts : ar_ok [0] [11] fd_starts) (h_fd_stumbles : ar_ok [(-2147483648), 0, 0, (-2147483648)] [2147483647, 199, 5, 2147483647] fd_stumbles) (h_vd_stumbleCount : 0 ≤ vd_stumbleCount.toInt ∧ vd_stumbleCount.toInt ≤ 8) (h_vd_cellCount : 0 ≤ vd_cellCount.toInt ∧ vd_cellCount.toInt ≤ 12) (h_vd_tuneCount : 0 ≤ vd_tuneCount.toInt ∧ vd_tuneCount.toInt ≤ 5) (h_vd_changeCount : 0 ≤ vd_changeCount.toInt ∧ vd_changeCount.toInt ≤ 40) (h_a2 : 0 ≤ a2.toInt ∧ a2.toInt ≤ 1) (sz : Nat) : Met l yX1_laySide wsX1_laySide ({ frames := 2, cells := 0, slots := 0, locals := 43 }) (va_Pc [.ref qf, .ref qd, .int a2] (ct_P D (ct_T cI cJ cB cZ cO) G (w_c_X1_laySide cI cJ cB cZ cO qf qf_places ff_places qf_steps ff_steps qf_stumbleIn ff_stumbleIn vf_gap vf_calmLength vf_calmStart qd vd_gap vd_odds vd_rain vd_lines qd_steps fd_steps qd_lengths fd_lengths qd_starts fd_starts qd_met qd_stumbles fd_stumbles vd_stumbleCount qd_muds fd_muds qd_cells vd_cellCount qd_tunes vd_tuneCount qd_changes vd_changeCount) sz)) (va_Qv (fun (u : (Nat → Int32) × (Nat → Int32)) => (ar_ok [(-1)] [5] u.2)) (fun (u : (Nat → Int32) × (Nat → Int32)) t => ct_Q D (va_A (w_c_X1_laySide cI cJ cB cZ cO qf qf_places ff_places qf_steps ff_steps qf_stumbleIn ff_stumbleIn vf_gap vf_calmLength vf_calmStart qd vd_gap vd_odds vd_rain vd_lines qd_steps fd_steps qd_lengths fd_lengths qd_starts fd_starts qd_met qd_stumbles fd_stumbles vd_stumbleCount qd_muds fd_muds qd_cells vd_cellCount qd_tunes vd_tuneCount qd_changes vd_changeCount) sz) [fo qf qf_places qf_steps qf_stumbleIn vf_gap vf_calmLength vf_calmStart, (qf_places, .inl (cI, 400, .inl (u.1))), (qf_steps, .inl (cI, 400, .inl (u.2))), (qf_stumbleIn, .inl (cI, 200, .inl (ff_stumbleIn))), dn qd vd_gap vd_odds vd_rain vd_lines qd_steps qd_lengths qd_starts qd_met qd_stumbles vd_stumbleCount qd_muds qd_cells vd_cellCount qd_tunes vd_tuneCount qd_changes vd_changeCount, (qd_steps, .inl (cI, 24, .inl (fd_steps))), (qd_lengths, .inl (cI, 2, .inl (fd_lengths))), (qd_starts, .inl (cI, 2, .inl (fd_starts))), (qd_stumbles, .inl (cI, 32, .inl (fd_stumbles))), (qd_muds, .inl (cI, 200, .inl (fd_muds)))] t) (va_A (w_c_X1_laySide cI cJ cB cZ cO qf qf_places ff_places qf_steps ff_steps qf_stumbleIn ff_stumbleIn vf_gap vf_calmLength vf_calmStart qd vd_gap vd_odds vd_rain vd_lines qd_steps fd_steps qd_lengths fd_lengths qd_starts fd_starts qd_met qd_stumbles fd_stumbles vd_stumbleCount qd_muds fd_muds qd_cells vd_cellCount qd_tunes vd_tuneCount qd_changes vd_changeCount) sz)) 0 0 (va_A (w_c_X1_laySide cI cJ cB cZ cO qf qf_places ff_places qf_steps ff_steps qf_stumbleIn ff_stumbleIn vf_gap vf_calmLength vf_calmStart qd vd_gap vd_odds vd_rain vd_lines qd_steps fd_steps qd_lengths fd_lengths qd_starts fd_starts qd_met qd_stumbles fd_stumbles vd_stumbleCount qd_muds fd_muds qd_cells vd_cellCount qd_tunes vd_tuneCount qd_changes vd_changeCount) sz) := by
  refine Met.ofW (cc := cX1_laySide) (maxL := 10) (ret := none) (by decide) rfl ?_
  intro p e s m args below meth c s₁ B hml hv
  obtain ⟨rfl, hsz, hP, hE, hD0, hH⟩ := hv
  have hx := B.exec
  have hb := B.bytes
  have hr := B.returns
  have hts := atoms_spec (ws := wsX1_laySide) B.pre
  have hown : s.vm.findClass RX1 = some m.cls := findClass_of_methodNamed B.named
  have hlocks := B.notSynchronized
  have hK := hE.1
  have hi0 : ∀ w ∈ u_ws RX0 TX0 17, w ∈ wsX1_laySide := fun w h => List.mem_cons_of_mem _ (List.mem_append_left _ (List.mem_append_right _ h))
  have hi1 : ∀ w ∈ u_ws RX1 TX1 6, w ∈ wsX1_laySide := fun w h => List.mem_cons_of_mem _ (List.mem_append_right _ h)
  subst hsz
  have hD := hD0.self (sz := s.heap.size)
  generalize hAe : va_A (w_c_X1_laySide cI cJ cB cZ cO qf qf_places ff_places qf_steps ff_steps qf_stumbleIn ff_stumbleIn vf_gap vf_calmLength vf_calmStart qd vd_gap vd_odds vd_rain vd_lines qd_steps fd_steps qd_lengths fd_lengths qd_starts fd_starts qd_met qd_stumbles fd_stumbles vd_stumbleCount qd_muds fd_muds qd_cells vd_cellCount qd_tunes vd_tuneCount qd_changes vd_changeCount) s.heap.size = A at hD hH ⊢
  have hA : ∀ q : Nat, s.heap.size ≤ q → A q := fun q h => by rw [← hAe]; exact Or.inr h
  have hS : va_S A s.heap s.heap [] := va_S.rf
  obtain ⟨hP, hD⟩ : ct_B D A s.heap [fo qf qf_places qf_steps qf_stumbleIn vf_gap vf_calmLength vf_calmStart, (qf_places, .inl (cI, 400, .inl (ff_places))), (qf_steps, .inl (cI, 400, .inl (ff_steps))), (qf_stumbleIn, .inl (cI, 200, .inl (ff_stumbleIn))), dn qd vd_gap vd_odds vd_rain vd_lines qd_steps qd_lengths qd_starts qd_met qd_stumbles vd_stumbleCount qd_muds qd_cells vd_cellCount qd_tunes vd_tuneCount qd_changes vd_changeCount, (qd_steps, .inl (cI, 24, .inl (fd_steps))), (qd_lengths, .inl (cI, 2, .inl (fd_lengths))), (qd_starts, .inl (cI, 2, .inl (fd_starts))), (qd_stumbles, .inl (cI, 32, .inl (fd_stumbles))), (qd_muds, .inl (cI, 200, .inl (fd_muds)))] := ⟨hP, hD⟩
  have hl := lv_entry ([.ref qf, .ref qd, .int a2]) (n := 10) (Nat.le_of_ble_eq_true rfl)
  rw [lg_entry_eq]
  generalize (lg_sl ([.ref qf, .ref qd, .int a2]) ++ List.replicate (10 - (lg_sl ([.ref qf, .ref qd, .int a2])).length) Slot.unset).toArray = ls at hl ⊢
  have hl : lv_has ls 10 [(0, .ref qf), (1, .ref qd), (2, .int a2)] := hl
  obtain ⟨H, hHe⟩ : ∃ H : Heap, H = s.heap := ⟨_, rfl⟩
  rw [← hHe] at hP
  have hS : va_S A s.heap H [] := by rw [hHe]; exact va_S.rf
  refine ct_start hHe ?_
  refine lv_aload_n hx hb dX1_laySide_0 rfl (lv_at hl 1 rfl) ?_
  refine va_get (D := D) (ci := 0) (v := .ref qd_lengths) (C := RX0) (T := TX0) (N := 17) hx hb hts hi0 hown hK hP 4 rfl rfl 5 (by decide) (hts (.fieldLink RX1 48 "OverHill$Dance" "lengths" "[I") (by decide +kernel)) (fun _ h9 => h9) rfl dX1_laySide_1 ?_
  refine lv_iload_n hx hb dX1_laySide_4 rfl (lv_at hl 2 rfl) ?_
  refine va_iald (D := D) hx hb hK hP 6 0 rfl rfl (tq_in rfl (by omega)) dX1_laySide_5 ?_
  refine lv_topi (fun z1 ez1 => ?_)
  have fz1 : 0 ≤ z1.toInt ∧ z1.toInt ≤ 12 := by rw [ez1]; exact ar_get h_fd_lengths a2 0 (by omega) (show a2.toInt % 1 = 0 by omega) rfl
  refine lv_istore_n (lv' := [(3, .int z1), (0, .ref qf), (1, .ref qd), (2, .int a2)]) hx hb dX1_laySide_6 rfl hl (by decide) rfl (fun ls hl => ?_)
  refine lv_aload_n hx hb dX1_laySide_7 rfl (lv_at hl 2 rfl) ?_
  refine va_get (D := D) (ci := 0) (v := .ref qd_starts) (C := RX0) (T := TX0) (N := 17) hx hb hts hi0 hown hK hP 4 rfl rfl 6 (by decide) (hts (.fieldLink RX1 51 "OverHill$Dance" "starts" "[I") (by decide +kernel)) (fun _ h9 => h9) rfl dX1_laySide_8 ?_
  refine lv_iload_n hx hb dX1_laySide_11 rfl (lv_at hl 3 rfl) ?_
  refine va_iald (D := D) hx hb hK hP 7 0 rfl rfl (tq_in rfl (by omega)) dX1_laySide_12 ?_
  refine lv_topi (fun z2 ez2 => ?_)
  have fz2 : 0 ≤ z2.toInt ∧ z2.toInt ≤ 11 := by rw [ez2]; exact ar_get h_fd_starts a2 0 (by omega) (show a2.toInt % 1 = 0 by omega) rfl
  refine lv_istore (lv' := [(4, .int z2), (3, .int z1), (0, .ref qf), (1, .ref qd), (2, .int a2)]) hx hb dX1_laySide_13 hl (by decide) rfl (fun ls hl => ?_)
  refine lv_iconst (v := 0) hx hb dX1_laySide_15 (by decide) ?_
  refine lv_istore (lv' := [(5, .int 0), (4, .int z2), (3, .int z1), (0, .ref qf), (1, .ref qd), (2, .int a2)]) hx hb dX1_laySide_16 hl (by decide) rfl (fun ls hl => ?_)
  refine ct_loop (X := (Nat → Int32) × (Nat → Int32) × Int32 × Int32) (fun x => (200 - x.2.2.2.toInt).toNat) (fun x H locs ls => (ar_ok [(-1)] [5] x.2.1) ∧ ((0 ≤ x.2.2.1.toInt ∧ x.2.2.1.toInt ≤ 11)) ∧ ((0 ≤ x.2.2.2.toInt ∧ x.2.2.2.toInt ≤ 200)) ∧ ct_B D A H [fo qf qf_places qf_steps qf_stumbleIn vf_gap vf_calmLength vf_calmStart, (qf_places, .inl (cI, 400, .inl (x.1))), (qf_steps, .inl (cI, 400, .inl (x.2.1))), (qf_stumbleIn, .inl (cI, 200, .inl (ff_stumbleIn))), dn qd vd_gap vd_odds vd_rain vd_lines qd_steps qd_lengths qd_starts qd_met qd_stumbles vd_stumbleCount qd_muds qd_cells vd_cellCount qd_tunes vd_tuneCount qd_changes vd_changeCount, (qd_steps, .inl (cI, 24, .inl (fd_steps))), (qd_lengths, .inl (cI, 2, .inl (fd_lengths))), (qd_starts, .inl (cI, 2, .inl (fd_starts))), (qd_stumbles, .inl (cI, 32, .inl (fd_stumbles))), (qd_muds, .inl (cI, 200, .inl (fd_muds)))] ∧ va_S A s.heap H locs ∧ lv_has ls 10 [(5, .int x.2.2.2), (4, .int x.2.2.1), (3, .int z1), (0, .ref qf), (1, .ref qd), (2, .int a2)]) 18 (ff_places, ff_steps, z2, (0 : Int32)) ⟨h_ff_steps, fz2, (show 0 ≤ (0 : Int32).toInt ∧ (0 : Int32).toInt ≤ 200 by decide), ⟨hP, hD⟩, hS, lv_sub hl [0, 1, 2, 3, 4, 5] rfl⟩ (fun x ih700 H locs ls hI => ?_)
  obtain ⟨g696, g697, x698, x699⟩ := x
  obtain ⟨h_g697, h_x698, h_x699, ⟨hP, hD⟩, hS, hl⟩ := hI
  have h_g697 : ar_ok [(-1)] [5] g697 := h_g697
  have h_x698 : (0 ≤ x698.toInt ∧ x698.toInt ≤ 11) := h_x698
  have h_x699 : (0 ≤ x699.toInt ∧ x699.toInt ≤ 200) := h_x699
  obtain ⟨hP, hD⟩ : ct_B D A H [fo qf qf_places qf_steps qf_stumbleIn vf_gap vf_calmLength vf_calmStart, (qf_places, .inl (cI, 400, .inl (g696))), (qf_steps, .inl (cI, 400, .inl (g697))), (qf_stumbleIn, .inl (cI, 200, .inl (ff_stumbleIn))), dn qd vd_gap vd_odds vd_rain vd_lines qd_steps qd_lengths qd_starts qd_met qd_stumbles vd_stumbleCount qd_muds qd_cells vd_cellCount qd_tunes vd_tuneCount qd_changes vd_changeCount, (qd_steps, .inl (cI, 24, .inl (fd_steps))), (qd_lengths, .inl (cI, 2, .inl (fd_lengths))), (qd_starts, .inl (cI, 2, .inl (fd_starts))), (qd_stumbles, .inl (cI, 32, .inl (fd_stumbles))), (qd_muds, .inl (cI, 200, .inl (fd_muds)))] := ⟨hP, hD⟩
  have hl : lv_has ls 10 [(5, .int x699), (4, .int x698), (3, .int z1), (0, .ref qf), (1, .ref qd), (2, .int a2)] := hl
  refine lv_iload hx hb dX1_laySide_18 (lv_at hl 0 rfl) ?_
  refine lv_sipush (v := 200) hx hb dX1_laySide_20 (by decide) ?_
  refine lv_icmp_ge (tgt := 167) hx hb dX1_laySide_23 (by decide) (fun hc => ?_) (fun hc => ?_)
  · have hq701 : 200 ≤ x699.toInt := tq_le (by decide) rfl hc
    obtain ⟨hP9, hD9⟩ : ct_B D A H [fo qf qf_places qf_steps qf_stumbleIn vf_gap vf_calmLength vf_calmStart, (qf_places, .inl (cI, 400, .inl (g696))), (qf_steps, .inl (cI, 400, .inl (g697))), (qf_stumbleIn, .inl (cI, 200, .inl (ff_stumbleIn))), dn qd vd_gap vd_odds vd_rain vd_lines qd_steps qd_lengths qd_starts qd_met qd_stumbles vd_stumbleCount qd_muds qd_cells vd_cellCount qd_tunes vd_tuneCount qd_changes vd_changeCount, (qd_steps, .inl (cI, 24, .inl (fd_steps))), (qd_lengths, .inl (cI, 2, .inl (fd_lengths))), (qd_starts, .inl (cI, 2, .inl (fd_starts))), (qd_stumbles, .inl (cI, 32, .inl (fd_stumbles))), (qd_muds, .inl (cI, 200, .inl (fd_muds)))] := ⟨hP.sub [0, 1, 2, 3, 4, 5, 6, 7, 8, 9] rfl, hD.sub [0, 1, 2, 3, 4, 5, 6, 7, 8, 9] (by decide) rfl⟩
    exact W.vret hx hb hr (fun t ht hW => ⟨⟨(g696, g697), rfl, h_g697, by rw [ht]; exact hP9, hD9⟩, hS.F ht⟩) hS.2.2 dX1_laySide_167
  · have hq701 : x699.toInt < 200 := tq_nle (by decide) rfl hc
    refine lv_iload_n hx hb dX1_laySide_26 rfl (lv_at hl 5 rfl) ?_
    refine lv_sipush (v := 200) hx hb dX1_laySide_27 (by decide) ?_
    refine lv_imul hx hb dX1_laySide_30 ?_
    refine lv_topi (fun z702 ez702 => ?_)
    have fz702 : z702.toInt = a2.toInt * 200 := by rw [ez702]; exact tq_mul rfl (by decide) (by omega)
    refine lv_iload hx hb dX1_laySide_31 (lv_at hl 0 rfl) ?_
    refine lv_iadd hx hb dX1_laySide_33 ?_
    refine lv_topi (fun z703 ez703 => ?_)
    have fz703 : z703.toInt = z702.toInt + x699.toInt := by rw [ez703]; exact tq_add rfl rfl (by omega)
    refine lv_istore (lv' := [(6, .int z703), (5, .int x699), (4, .int x698), (3, .int z1), (0, .ref qf), (1, .ref qd), (2, .int a2)]) hx hb dX1_laySide_34 hl (by decide) rfl (fun ls hl => ?_)
    refine lv_aload_n hx hb dX1_laySide_36 rfl (lv_at hl 4 rfl) ?_
    refine va_get (D := D) (ci := 1) (v := .ref qf_places) (C := RX1) (T := TX1) (N := 6) hx hb hts hi1 hown hK hP 0 rfl rfl 0 (by decide) (hts (.fieldLink RX1 9 "OverHill$Floor" "places" "[I") (by decide +kernel)) (fun _ h9 => h9) rfl dX1_laySide_37 ?_
    refine lv_iload hx hb dX1_laySide_40 (lv_at hl 0 rfl) ?_
    refine lv_iload_n hx hb dX1_laySide_42 rfl (lv_at hl 3 rfl) ?_
    refine lv_if_ne (tgt := 50) hx hb dX1_laySide_43 (by decide) (fun hc => ?_) (fun hc => ?_)
    · have hq704 : z1.toInt ≠ 0 := tq_ne rfl (by decide) hc
      refine lv_iload hx hb dX1_laySide_50 (lv_at hl 2 rfl) ?_
      refine va_iast (D := D) hx hb hK hP hD hS 1 0 rfl rfl (tq_in rfl (by omega)) dX1_laySide_52 (fun H locs hP hD hS => ?_)
      obtain ⟨g705, hP, hD⟩ : ∃ g705 : Nat → Int32, ct_B D A H [fo qf qf_places qf_steps qf_stumbleIn vf_gap vf_calmLength vf_calmStart, (qf_places, .inl (cI, 400, .inl (g705))), (qf_steps, .inl (cI, 400, .inl (g697))), (qf_stumbleIn, .inl (cI, 200, .inl (ff_stumbleIn))), dn qd vd_gap vd_odds vd_rain vd_lines qd_steps qd_lengths qd_starts qd_met qd_stumbles vd_stumbleCount qd_muds qd_cells vd_cellCount qd_tunes vd_tuneCount qd_changes vd_changeCount, (qd_steps, .inl (cI, 24, .inl (fd_steps))), (qd_lengths, .inl (cI, 2, .inl (fd_lengths))), (qd_starts, .inl (cI, 2, .inl (fd_starts))), (qd_stumbles, .inl (cI, 32, .inl (fd_stumbles))), (qd_muds, .inl (cI, 200, .inl (fd_muds)))] := ⟨_, hP, hD⟩
      refine lv_aload_n hx hb dX1_laySide_53 rfl (lv_at hl 4 rfl) ?_
      refine va_get (D := D) (ci := 1) (v := .ref qf_steps) (C := RX1) (T := TX1) (N := 6) hx hb hts hi1 hown hK hP 0 rfl rfl 1 (by decide) (hts (.fieldLink RX1 15 "OverHill$Floor" "steps" "[I") (by decide +kernel)) (fun _ h9 => h9) rfl dX1_laySide_54 ?_
      refine lv_iload hx hb dX1_laySide_57 (lv_at hl 0 rfl) ?_
      refine lv_iconst (v := (-1)) hx hb dX1_laySide_59 (by decide) ?_
      refine va_iast (D := D) hx hb hK hP hD hS 2 0 rfl rfl (tq_in rfl (by omega)) dX1_laySide_60 (fun H locs hP hD hS => ?_)
      obtain ⟨g706, h_g706, hP, hD⟩ : ∃ g706 : Nat → Int32, ar_ok [(-1)] [5] g706 ∧ ct_B D A H [fo qf qf_places qf_steps qf_stumbleIn vf_gap vf_calmLength vf_calmStart, (qf_places, .inl (cI, 400, .inl (g705))), (qf_steps, .inl (cI, 400, .inl (g706))), (qf_stumbleIn, .inl (cI, 200, .inl (ff_stumbleIn))), dn qd vd_gap vd_odds vd_rain vd_lines qd_steps qd_lengths qd_starts qd_met qd_stumbles vd_stumbleCount qd_muds qd_cells vd_cellCount qd_tunes vd_tuneCount qd_changes vd_changeCount, (qd_steps, .inl (cI, 24, .inl (fd_steps))), (qd_lengths, .inl (cI, 2, .inl (fd_lengths))), (qd_starts, .inl (cI, 2, .inl (fd_starts))), (qd_stumbles, .inl (cI, 32, .inl (fd_stumbles))), (qd_muds, .inl (cI, 200, .inl (fd_muds)))] := ⟨_, ar_set h_g697 z703 (-1 : Int32) 0 (by omega) (show z703.toInt % 1 = 0 by omega) rfl (show (-1) ≤ (-1 : Int32).toInt ∧ (-1 : Int32).toInt ≤ 5 by decide), hP, hD⟩
      refine lv_iload_n hx hb dX1_laySide_61 rfl (lv_at hl 3 rfl) ?_
      refine lv_if_le (tgt := 161) hx hb dX1_laySide_62 (by decide) (fun hc => ?_) (fun hc => ?_)
      · have hq707 : z1.toInt ≤ 0 := tq_le rfl (by decide) hc
        omega
      · have hq707 : 0 < z1.toInt := tq_nle rfl (by decide) hc
        refine lv_aload_n hx hb dX1_laySide_65 rfl (lv_at hl 5 rfl) ?_
        refine va_get (D := D) (ci := 0) (v := .ref qd_muds) (C := RX0) (T := TX0) (N := 17) hx hb hts hi0 hown hK hP 4 rfl rfl 10 (by decide) (hts (.fieldLink RX1 54 "OverHill$Dance" "muds" "[I") (by decide +kernel)) (fun _ h9 => h9) rfl dX1_laySide_66 ?_
        refine lv_iload hx hb dX1_laySide_69 (lv_at hl 1 rfl) ?_
        refine va_iald (D := D) hx hb hK hP 9 0 rfl rfl (tq_in rfl (by omega)) dX1_laySide_71 ?_
        refine lv_topi (fun z708 ez708 => ?_)
        refine lv_if_ne (tgt := 161) hx hb dX1_laySide_72 (by decide) (fun hc => ?_) (fun hc => ?_)
        · have hq709 : z708.toInt ≠ 0 := tq_ne rfl (by decide) hc
          have hb710 := tq_lo z708
          obtain ⟨z711, ez711⟩ : ∃ z : Int32, z = x699 + 1 := ⟨_, rfl⟩
          have fz711 : z711.toInt = x699.toInt + 1 := by rw [ez711]; exact tq_add rfl (by decide) (by omega)
          refine lv_iinc (v := z711) (lv' := [(5, .int z711), (6, .int z703), (4, .int x698), (3, .int z1), (0, .ref qf), (1, .ref qd), (2, .int a2)]) hx hb dX1_laySide_161 hl (k := 1) rfl ez711.symm (by decide) rfl (fun ls hl => ?_)
          refine lv_goto (tgt := 18) hx hb dX1_laySide_164 (by decide) ?_
          exact ih700 (g705, g706, x698, z711) _ _ _ (show (200 - z711.toInt).toNat < (200 - x699.toInt).toNat by omega) ⟨h_g706, h_x698, (show 0 ≤ z711.toInt ∧ z711.toInt ≤ 200 by omega), ⟨hP, hD⟩, hS, lv_sub hl [0, 2, 3, 4, 5, 6] rfl⟩
        · have hq709 : z708.toInt = 0 := tq_eq rfl (by decide) hc
          have hb712 := tq_lo z708
          refine lv_aload_n hx hb dX1_laySide_75 rfl (lv_at hl 4 rfl) ?_
          refine va_get (D := D) (ci := 1) (v := .ref qf_stumbleIn) (C := RX1) (T := TX1) (N := 6) hx hb hts hi1 hown hK hP 0 rfl rfl 2 (by decide) (hts (.fieldLink RX1 18 "OverHill$Floor" "stumbleIn" "[I") (by decide +kernel)) (fun _ h9 => h9) rfl dX1_laySide_76 ?_
          refine lv_iload hx hb dX1_laySide_79 (lv_at hl 1 rfl) ?_
          refine va_iald (D := D) hx hb hK hP 3 0 rfl rfl (tq_in rfl (by omega)) dX1_laySide_81 ?_
          refine lv_topi (fun z713 ez713 => ?_)
          have fz713 : z713.toInt = -1 ∨ (0 ≤ z713.toInt ∧ z713.toInt ≤ 28 ∧ z713.toInt % 4 = 0) := by rw [ez713]; exact h_ff_stumbleIn _
          refine lv_istore (lv' := [(7, .int z713), (6, .int z703), (5, .int x699), (4, .int x698), (3, .int z1), (0, .ref qf), (1, .ref qd), (2, .int a2)]) hx hb dX1_laySide_82 hl (by decide) rfl (fun ls hl => ?_)
          refine lv_iload hx hb dX1_laySide_84 (lv_at hl 0 rfl) ?_
          refine lv_iconst (v := (-1)) hx hb dX1_laySide_86 (by decide) ?_
          refine lv_icmp_ne (tgt := 94) hx hb dX1_laySide_87 (by decide) (fun hc => ?_) (fun hc => ?_)
          · have hq714 : z713.toInt ≠ (-1) := tq_ne rfl (by decide) hc
            refine lv_iconst (v := 0) hx hb dX1_laySide_94 (by decide) ?_
            refine lv_istore (lv' := [(8, .int 0), (7, .int z713), (6, .int z703), (5, .int x699), (4, .int x698), (3, .int z1), (0, .ref qf), (1, .ref qd), (2, .int a2)]) hx hb dX1_laySide_95 hl (by decide) rfl (fun ls hl => ?_)
            refine lv_aload_n hx hb dX1_laySide_97 rfl (lv_at hl 6 rfl) ?_
            refine va_get (D := D) (ci := 1) (v := .ref qf_steps) (C := RX1) (T := TX1) (N := 6) hx hb hts hi1 hown hK hP 0 rfl rfl 1 (by decide) (hts (.fieldLink RX1 15 "OverHill$Floor" "steps" "[I") (by decide +kernel)) (fun _ h9 => h9) rfl dX1_laySide_98 ?_
            refine lv_iload hx hb dX1_laySide_101 (lv_at hl 2 rfl) ?_
            refine lv_iload hx hb dX1_laySide_103 (lv_at hl 0 rfl) ?_
            refine lv_if_eq (tgt := 118) hx hb dX1_laySide_105 (by decide) (fun _ => ?_) (fun hc => absurd hc (by decide))
            refine lv_aload_n hx hb dX1_laySide_118 rfl (lv_at hl 7 rfl) ?_
            refine va_get (D := D) (ci := 0) (v := .ref qd_stumbles) (C := RX0) (T := TX0) (N := 17) hx hb hts hi0 hown hK hP 4 rfl rfl 8 (by decide) (hts (.fieldLink RX1 45 "OverHill$Dance" "stumbles" "[I") (by decide +kernel)) (fun _ h9 => h9) rfl dX1_laySide_119 ?_
            refine lv_iload hx hb dX1_laySide_122 (lv_at hl 1 rfl) ?_
            refine lv_iconst (v := 2) hx hb dX1_laySide_124 (by decide) ?_
            refine lv_iadd hx hb dX1_laySide_125 ?_
            refine lv_topi (fun z715 ez715 => ?_)
            have fz715 : z715.toInt = z713.toInt + 2 := by rw [ez715]; exact tq_add rfl (by decide) (by omega)
            refine va_iald (D := D) hx hb hK hP 8 0 rfl rfl (tq_in rfl (by omega)) dX1_laySide_126 ?_
            refine lv_topi (fun z716 ez716 => ?_)
            have fz716 : 0 ≤ z716.toInt ∧ z716.toInt ≤ 5 := by rw [ez716]; exact ar_get h_fd_stumbles z715 2 (by omega) (show z715.toInt % 4 = 2 by omega) rfl
            refine va_iast (D := D) hx hb hK hP hD hS 2 0 rfl rfl (tq_in rfl (by omega)) dX1_laySide_127 (fun H locs hP hD hS => ?_)
            obtain ⟨g717, h_g717, hP, hD⟩ : ∃ g717 : Nat → Int32, ar_ok [(-1)] [5] g717 ∧ ct_B D A H [fo qf qf_places qf_steps qf_stumbleIn vf_gap vf_calmLength vf_calmStart, (qf_places, .inl (cI, 400, .inl (g705))), (qf_steps, .inl (cI, 400, .inl (g717))), (qf_stumbleIn, .inl (cI, 200, .inl (ff_stumbleIn))), dn qd vd_gap vd_odds vd_rain vd_lines qd_steps qd_lengths qd_starts qd_met qd_stumbles vd_stumbleCount qd_muds qd_cells vd_cellCount qd_tunes vd_tuneCount qd_changes vd_changeCount, (qd_steps, .inl (cI, 24, .inl (fd_steps))), (qd_lengths, .inl (cI, 2, .inl (fd_lengths))), (qd_starts, .inl (cI, 2, .inl (fd_starts))), (qd_stumbles, .inl (cI, 32, .inl (fd_stumbles))), (qd_muds, .inl (cI, 200, .inl (fd_muds)))] := ⟨_, ar_set h_g706 z703 z716 0 (by omega) (show z703.toInt % 1 = 0 by omega) rfl (show (-1) ≤ z716.toInt ∧ z716.toInt ≤ 5 by omega), hP, hD⟩
            refine lv_iload hx hb dX1_laySide_128 (lv_at hl 0 rfl) ?_
            refine lv_if_eq (tgt := 137) hx hb dX1_laySide_130 (by decide) (fun _ => ?_) (fun hc => absurd hc (by decide))
            refine lv_aload_n hx hb dX1_laySide_137 rfl (lv_at hl 7 rfl) ?_
            refine va_get (D := D) (ci := 0) (v := .ref qd_stumbles) (C := RX0) (T := TX0) (N := 17) hx hb hts hi0 hown hK hP 4 rfl rfl 8 (by decide) (hts (.fieldLink RX1 45 "OverHill$Dance" "stumbles" "[I") (by decide +kernel)) (fun _ h9 => h9) rfl dX1_laySide_138 ?_
            refine lv_iload hx hb dX1_laySide_141 (lv_at hl 1 rfl) ?_
            refine lv_iconst (v := 3) hx hb dX1_laySide_143 (by decide) ?_
            refine lv_iadd hx hb dX1_laySide_144 ?_
            refine lv_topi (fun z718 ez718 => ?_)
            have fz718 : z718.toInt = z713.toInt + 3 := by rw [ez718]; exact tq_add rfl (by decide) (by omega)
            refine va_iald (D := D) hx hb hK hP 8 0 rfl rfl (tq_in rfl (by omega)) dX1_laySide_145 ?_
            refine lv_topi (fun z719 ez719 => ?_)
            refine lv_istore (lv' := [(9, .int z719), (8, .int 0), (7, .int z713), (6, .int z703), (5, .int x699), (4, .int x698), (3, .int z1), (0, .ref qf), (1, .ref qd), (2, .int a2)]) hx hb dX1_laySide_146 hl (by decide) rfl (fun ls hl => ?_)
            refine lv_iload hx hb dX1_laySide_148 (lv_at hl 5 rfl) ?_
            refine lv_iconst (v := 1) hx hb dX1_laySide_150 (by decide) ?_
            refine lv_iadd hx hb dX1_laySide_151 ?_
            refine lv_topi (fun z720 ez720 => ?_)
            have fz720 : z720.toInt = x698.toInt + 1 := by rw [ez720]; exact tq_add rfl (by decide) (by omega)
            refine lv_iload hx hb dX1_laySide_152 (lv_at hl 0 rfl) ?_
            refine lv_isub hx hb dX1_laySide_154 ?_
            refine lv_topi (fun z721 ez721 => ?_)
            refine lv_iload_n hx hb dX1_laySide_155 rfl (lv_at hl 6 rfl) ?_
            refine ct_calli (D := D) (wr := [fo qf qf_places qf_steps qf_stumbleIn vf_gap vf_calmLength vf_calmStart, (qf_places, .inl (cI, 400, .inl (g705))), (qf_steps, .inl (cI, 400, .inl (g717))), (qf_stumbleIn, .inl (cI, 200, .inl (ff_stumbleIn))), dn qd vd_gap vd_odds vd_rain vd_lines qd_steps qd_lengths qd_starts qd_met qd_stumbles vd_stumbleCount qd_muds qd_cells vd_cellCount qd_tunes vd_tuneCount qd_changes vd_changeCount, (qd_steps, .inl (cI, 24, .inl (fd_steps))), (qd_lengths, .inl (cI, 2, .inl (fd_lengths))), (qd_starts, .inl (cI, 2, .inl (fd_starts))), (qd_stumbles, .inl (cI, 32, .inl (fd_stumbles))), (qd_muds, .inl (cI, 200, .inl (fd_muds)))]) (va_runSN (As := [.int z721, .int z1]) (rest := []) ⟨hx, hb, hml, hown, hts⟩ (c_X11_wrap l D G cI cJ cB cZ cO z721 z1  H.size) ⟨va_cnB 2 hts gX1_laySide_X11_wrap_n61 rfl rfl rfl (hE.2.1 (RX1, 61, yX11_wrap, "OverHill") (List.mem_of_getElem? (i := 12) rfl)) (hts (.initialized RX11) (by decide +kernel)) (by decide +kernel) ⟨Nat.le_of_ble_eq_true rfl, Nat.le_of_ble_eq_true rfl⟩, (hts (.static yX11_wrap) (by decide +kernel)), trivial⟩ (ct_preS (T := ct_T cI cJ cB cZ cO) hE hH hP hD hS hA [] (by decide) rfl) rfl rfl hl.1 rfl (lv_room (Nat.le_of_ble_eq_true rfl)) dX1_laySide_156 ⟨Nat.le_of_ble_eq_true rfl, Nat.le_of_ble_eq_true rfl⟩) hP hD hS hA [] [0, 1, 2, 3, 4, 5, 6, 7, 8, 9] rfl rfl (by decide) (by decide) (fun r722 u H locs hw hP hD hS => ?_)
            obtain ⟨hP, hD⟩ : ct_B D A H [fo qf qf_places qf_steps qf_stumbleIn vf_gap vf_calmLength vf_calmStart, (qf_places, .inl (cI, 400, .inl (g705))), (qf_steps, .inl (cI, 400, .inl (g717))), (qf_stumbleIn, .inl (cI, 200, .inl (ff_stumbleIn))), dn qd vd_gap vd_odds vd_rain vd_lines qd_steps qd_lengths qd_starts qd_met qd_stumbles vd_stumbleCount qd_muds qd_cells vd_cellCount qd_tunes vd_tuneCount qd_changes vd_changeCount, (qd_steps, .inl (cI, 24, .inl (fd_steps))), (qd_lengths, .inl (cI, 2, .inl (fd_lengths))), (qd_starts, .inl (cI, 2, .inl (fd_starts))), (qd_stumbles, .inl (cI, 32, .inl (fd_stumbles))), (qd_muds, .inl (cI, 200, .inl (fd_muds)))] := ⟨hP, hD⟩
            obtain ⟨hz, hp0⟩ := hw
            have hp_723 : wr_ok z721.toInt z1.toInt r722.toInt := hp0
            have h_r722 : 0 ≤ r722.toInt ∧ (r722.toInt < z1.toInt ∨ r722.toInt = 0) := hz
            refine lv_istore (lv' := [(4, .int r722), (9, .int z719), (8, .int 0), (7, .int z713), (6, .int z703), (5, .int x699), (3, .int z1), (0, .ref qf), (1, .ref qd), (2, .int a2)]) hx hb dX1_laySide_159 hl (by decide) rfl (fun ls hl => ?_)
            obtain ⟨z724, ez724⟩ : ∃ z : Int32, z = x699 + 1 := ⟨_, rfl⟩
            have fz724 : z724.toInt = x699.toInt + 1 := by rw [ez724]; exact tq_add rfl (by decide) (by omega)
            refine lv_iinc (v := z724) (lv' := [(5, .int z724), (4, .int r722), (9, .int z719), (8, .int 0), (7, .int z713), (6, .int z703), (3, .int z1), (0, .ref qf), (1, .ref qd), (2, .int a2)]) hx hb dX1_laySide_161 hl (k := 5) rfl ez724.symm (by decide) rfl (fun ls hl => ?_)
            refine lv_goto (tgt := 18) hx hb dX1_laySide_164 (by decide) ?_
            exact ih700 (g705, g717, r722, z724) _ _ _ (show (200 - z724.toInt).toNat < (200 - x699.toInt).toNat by omega) ⟨h_g717, (show 0 ≤ r722.toInt ∧ r722.toInt ≤ 11 by omega), (show 0 ≤ z724.toInt ∧ z724.toInt ≤ 200 by omega), ⟨hP, hD⟩, hS, lv_sub hl [0, 1, 6, 7, 8, 9] rfl⟩
          · have hq714 : z713.toInt = (-1) := tq_eq rfl (by decide) hc
            refine lv_iconst (v := 1) hx hb dX1_laySide_90 (by decide) ?_
            refine lv_goto (tgt := 95) hx hb dX1_laySide_91 (by decide) ?_
            refine lv_istore (lv' := [(8, .int 1), (7, .int z713), (6, .int z703), (5, .int x699), (4, .int x698), (3, .int z1), (0, .ref qf), (1, .ref qd), (2, .int a2)]) hx hb dX1_laySide_95 hl (by decide) rfl (fun ls hl => ?_)
            refine lv_aload_n hx hb dX1_laySide_97 rfl (lv_at hl 6 rfl) ?_
            refine va_get (D := D) (ci := 1) (v := .ref qf_steps) (C := RX1) (T := TX1) (N := 6) hx hb hts hi1 hown hK hP 0 rfl rfl 1 (by decide) (hts (.fieldLink RX1 15 "OverHill$Floor" "steps" "[I") (by decide +kernel)) (fun _ h9 => h9) rfl dX1_laySide_98 ?_
            refine lv_iload hx hb dX1_laySide_101 (lv_at hl 2 rfl) ?_
            refine lv_iload hx hb dX1_laySide_103 (lv_at hl 0 rfl) ?_
            refine lv_if_eq (tgt := 118) hx hb dX1_laySide_105 (by decide) (fun hc => absurd hc (by decide)) (fun _ => ?_)
            refine lv_aload_n hx hb dX1_laySide_108 rfl (lv_at hl 7 rfl) ?_
            refine lv_iload_n hx hb dX1_laySide_109 rfl (lv_at hl 8 rfl) ?_
            refine lv_iload hx hb dX1_laySide_110 (lv_at hl 4 rfl) ?_
            refine ct_calli (D := D) (wr := [fo qf qf_places qf_steps qf_stumbleIn vf_gap vf_calmLength vf_calmStart, (qf_places, .inl (cI, 400, .inl (g705))), (qf_steps, .inl (cI, 400, .inl (g706))), (qf_stumbleIn, .inl (cI, 200, .inl (ff_stumbleIn))), (qd_lengths, .inl (cI, 2, .inl (fd_lengths))), (qd_starts, .inl (cI, 2, .inl (fd_starts))), (qd_stumbles, .inl (cI, 32, .inl (fd_stumbles))), (qd_muds, .inl (cI, 200, .inl (fd_muds)))]) (va_runV (As := [.int a2, .int x698]) (rest := [.int z703, .ref qf_steps]) ⟨hx, hb, hml, hown, hts⟩ (c_X0_stepAt l D G cI cJ cB cZ cO qd vd_gap vd_odds vd_rain vd_lines qd_steps fd_steps qd_lengths qd_starts qd_met qd_stumbles vd_stumbleCount qd_muds qd_cells vd_cellCount qd_tunes vd_tuneCount qd_changes vd_changeCount a2 x698 h_vd_gap h_fd_steps h_vd_stumbleCount h_vd_cellCount h_vd_tuneCount h_vd_changeCount h_a2 h_x698 H.size) (cwV 2 hts gX1_laySide_X0_stepAt rfl rfl rfl (by decide +kernel) ⟨Nat.le_of_ble_eq_true rfl, Nat.le_of_ble_eq_true rfl⟩) (ct_preV (T := ct_T cI cJ cB cZ cO) (ci := 0) (q0 := 4) hE hH hP hD hS hA [4, 5] (by decide) rfl rfl rfl) rfl rfl hl.1 rfl (lv_room (Nat.le_of_ble_eq_true rfl)) dX1_laySide_112 ⟨Nat.le_of_ble_eq_true rfl, Nat.le_of_ble_eq_true rfl⟩) hP hD hS hA [4, 5] [0, 1, 2, 3, 6, 7, 8, 9] rfl rfl (by decide) (by decide) (fun r725 u H locs hw hP hD hS => ?_)
            obtain ⟨hP, hD⟩ : ct_B D A H [fo qf qf_places qf_steps qf_stumbleIn vf_gap vf_calmLength vf_calmStart, (qf_places, .inl (cI, 400, .inl (g705))), (qf_steps, .inl (cI, 400, .inl (g706))), (qf_stumbleIn, .inl (cI, 200, .inl (ff_stumbleIn))), (qd_lengths, .inl (cI, 2, .inl (fd_lengths))), (qd_starts, .inl (cI, 2, .inl (fd_starts))), (qd_stumbles, .inl (cI, 32, .inl (fd_stumbles))), (qd_muds, .inl (cI, 200, .inl (fd_muds))), dn qd vd_gap vd_odds vd_rain vd_lines qd_steps qd_lengths qd_starts qd_met qd_stumbles vd_stumbleCount qd_muds qd_cells vd_cellCount qd_tunes vd_tuneCount qd_changes vd_changeCount, (qd_steps, .inl (cI, 24, .inl (fd_steps)))] := ⟨hP, hD⟩
            have hz := hw
            have h_r725 : 0 ≤ r725.toInt ∧ r725.toInt ≤ 5 := hz
            refine lv_goto (tgt := 127) hx hb dX1_laySide_115 (by decide) ?_
            refine va_iast (D := D) hx hb hK hP hD hS 2 0 rfl rfl (tq_in rfl (by omega)) dX1_laySide_127 (fun H locs hP hD hS => ?_)
            obtain ⟨g726, h_g726, hP, hD⟩ : ∃ g726 : Nat → Int32, ar_ok [(-1)] [5] g726 ∧ ct_B D A H [fo qf qf_places qf_steps qf_stumbleIn vf_gap vf_calmLength vf_calmStart, (qf_places, .inl (cI, 400, .inl (g705))), (qf_steps, .inl (cI, 400, .inl (g726))), (qf_stumbleIn, .inl (cI, 200, .inl (ff_stumbleIn))), (qd_lengths, .inl (cI, 2, .inl (fd_lengths))), (qd_starts, .inl (cI, 2, .inl (fd_starts))), (qd_stumbles, .inl (cI, 32, .inl (fd_stumbles))), (qd_muds, .inl (cI, 200, .inl (fd_muds))), dn qd vd_gap vd_odds vd_rain vd_lines qd_steps qd_lengths qd_starts qd_met qd_stumbles vd_stumbleCount qd_muds qd_cells vd_cellCount qd_tunes vd_tuneCount qd_changes vd_changeCount, (qd_steps, .inl (cI, 24, .inl (fd_steps)))] := ⟨_, ar_set h_g706 z703 r725 0 (by omega) (show z703.toInt % 1 = 0 by omega) rfl (show (-1) ≤ r725.toInt ∧ r725.toInt ≤ 5 by omega), hP, hD⟩
            refine lv_iload hx hb dX1_laySide_128 (lv_at hl 0 rfl) ?_
            refine lv_if_eq (tgt := 137) hx hb dX1_laySide_130 (by decide) (fun hc => absurd hc (by decide)) (fun _ => ?_)
            refine lv_iconst (v := 0) hx hb dX1_laySide_133 (by decide) ?_
            refine lv_goto (tgt := 146) hx hb dX1_laySide_134 (by decide) ?_
            refine lv_istore (lv' := [(9, .int 0), (8, .int 1), (7, .int z713), (6, .int z703), (5, .int x699), (4, .int x698), (3, .int z1), (0, .ref qf), (1, .ref qd), (2, .int a2)]) hx hb dX1_laySide_146 hl (by decide) rfl (fun ls hl => ?_)
            refine lv_iload hx hb dX1_laySide_148 (lv_at hl 5 rfl) ?_
            refine lv_iconst (v := 1) hx hb dX1_laySide_150 (by decide) ?_
            refine lv_iadd hx hb dX1_laySide_151 ?_
            refine lv_topi (fun z727 ez727 => ?_)
            have fz727 : z727.toInt = x698.toInt + 1 := by rw [ez727]; exact tq_add rfl (by decide) (by omega)
            refine lv_iload hx hb dX1_laySide_152 (lv_at hl 0 rfl) ?_
            refine lv_isub hx hb dX1_laySide_154 ?_
            refine lv_topi (fun z728 ez728 => ?_)
            have fz728 : z728.toInt = z727.toInt - 0 := by rw [ez728]; exact tq_subt rfl (by decide) (by omega)
            refine lv_iload_n hx hb dX1_laySide_155 rfl (lv_at hl 6 rfl) ?_
            refine ct_calli (D := D) (wr := [fo qf qf_places qf_steps qf_stumbleIn vf_gap vf_calmLength vf_calmStart, (qf_places, .inl (cI, 400, .inl (g705))), (qf_steps, .inl (cI, 400, .inl (g726))), (qf_stumbleIn, .inl (cI, 200, .inl (ff_stumbleIn))), (qd_lengths, .inl (cI, 2, .inl (fd_lengths))), (qd_starts, .inl (cI, 2, .inl (fd_starts))), (qd_stumbles, .inl (cI, 32, .inl (fd_stumbles))), (qd_muds, .inl (cI, 200, .inl (fd_muds))), dn qd vd_gap vd_odds vd_rain vd_lines qd_steps qd_lengths qd_starts qd_met qd_stumbles vd_stumbleCount qd_muds qd_cells vd_cellCount qd_tunes vd_tuneCount qd_changes vd_changeCount, (qd_steps, .inl (cI, 24, .inl (fd_steps)))]) (va_runSN (As := [.int z728, .int z1]) (rest := []) ⟨hx, hb, hml, hown, hts⟩ (c_X11_wrap l D G cI cJ cB cZ cO z728 z1  H.size) ⟨va_cnB 2 hts gX1_laySide_X11_wrap_n61 rfl rfl rfl (hE.2.1 (RX1, 61, yX11_wrap, "OverHill") (List.mem_of_getElem? (i := 12) rfl)) (hts (.initialized RX11) (by decide +kernel)) (by decide +kernel) ⟨Nat.le_of_ble_eq_true rfl, Nat.le_of_ble_eq_true rfl⟩, (hts (.static yX11_wrap) (by decide +kernel)), trivial⟩ (ct_preS (T := ct_T cI cJ cB cZ cO) hE hH hP hD hS hA [] (by decide) rfl) rfl rfl hl.1 rfl (lv_room (Nat.le_of_ble_eq_true rfl)) dX1_laySide_156 ⟨Nat.le_of_ble_eq_true rfl, Nat.le_of_ble_eq_true rfl⟩) hP hD hS hA [] [0, 1, 2, 3, 4, 5, 6, 7, 8, 9] rfl rfl (by decide) (by decide) (fun r729 u H locs hw hP hD hS => ?_)
            obtain ⟨hP, hD⟩ : ct_B D A H [fo qf qf_places qf_steps qf_stumbleIn vf_gap vf_calmLength vf_calmStart, (qf_places, .inl (cI, 400, .inl (g705))), (qf_steps, .inl (cI, 400, .inl (g726))), (qf_stumbleIn, .inl (cI, 200, .inl (ff_stumbleIn))), (qd_lengths, .inl (cI, 2, .inl (fd_lengths))), (qd_starts, .inl (cI, 2, .inl (fd_starts))), (qd_stumbles, .inl (cI, 32, .inl (fd_stumbles))), (qd_muds, .inl (cI, 200, .inl (fd_muds))), dn qd vd_gap vd_odds vd_rain vd_lines qd_steps qd_lengths qd_starts qd_met qd_stumbles vd_stumbleCount qd_muds qd_cells vd_cellCount qd_tunes vd_tuneCount qd_changes vd_changeCount, (qd_steps, .inl (cI, 24, .inl (fd_steps)))] := ⟨hP, hD⟩
            obtain ⟨hz, hp0⟩ := hw
            have hp_730 : wr_ok z728.toInt z1.toInt r729.toInt := hp0
            have h_r729 : 0 ≤ r729.toInt ∧ (r729.toInt < z1.toInt ∨ r729.toInt = 0) := hz
            refine lv_istore (lv' := [(4, .int r729), (9, .int 0), (8, .int 1), (7, .int z713), (6, .int z703), (5, .int x699), (3, .int z1), (0, .ref qf), (1, .ref qd), (2, .int a2)]) hx hb dX1_laySide_159 hl (by decide) rfl (fun ls hl => ?_)
            obtain ⟨z731, ez731⟩ : ∃ z : Int32, z = x699 + 1 := ⟨_, rfl⟩
            have fz731 : z731.toInt = x699.toInt + 1 := by rw [ez731]; exact tq_add rfl (by decide) (by omega)
            refine lv_iinc (v := z731) (lv' := [(5, .int z731), (4, .int r729), (9, .int 0), (8, .int 1), (7, .int z713), (6, .int z703), (3, .int z1), (0, .ref qf), (1, .ref qd), (2, .int a2)]) hx hb dX1_laySide_161 hl (k := 5) rfl ez731.symm (by decide) rfl (fun ls hl => ?_)
            refine lv_goto (tgt := 18) hx hb dX1_laySide_164 (by decide) ?_
            obtain ⟨hP9, hD9⟩ : ct_B D A H [fo qf qf_places qf_steps qf_stumbleIn vf_gap vf_calmLength vf_calmStart, (qf_places, .inl (cI, 400, .inl (g705))), (qf_steps, .inl (cI, 400, .inl (g726))), (qf_stumbleIn, .inl (cI, 200, .inl (ff_stumbleIn))), dn qd vd_gap vd_odds vd_rain vd_lines qd_steps qd_lengths qd_starts qd_met qd_stumbles vd_stumbleCount qd_muds qd_cells vd_cellCount qd_tunes vd_tuneCount qd_changes vd_changeCount, (qd_steps, .inl (cI, 24, .inl (fd_steps))), (qd_lengths, .inl (cI, 2, .inl (fd_lengths))), (qd_starts, .inl (cI, 2, .inl (fd_starts))), (qd_stumbles, .inl (cI, 32, .inl (fd_stumbles))), (qd_muds, .inl (cI, 200, .inl (fd_muds)))] := ⟨hP.sub [0, 1, 2, 3, 8, 9, 4, 5, 6, 7] rfl, hD.sub [0, 1, 2, 3, 8, 9, 4, 5, 6, 7] (by decide) rfl⟩
            exact ih700 (g705, g726, r729, z731) _ _ _ (show (200 - z731.toInt).toNat < (200 - x699.toInt).toNat by omega) ⟨h_g726, (show 0 ≤ r729.toInt ∧ r729.toInt ≤ 11 by omega), (show 0 ≤ z731.toInt ∧ z731.toInt ≤ 200 by omega), ⟨hP9, hD9⟩, hS, lv_sub hl [0, 1, 6, 7, 8, 9] rfl⟩
    · have hq704 : z1.toInt = 0 := tq_eq rfl (by decide) hc
      refine lv_iconst (v := (-1)) hx hb dX1_laySide_46 (by decide) ?_
      refine lv_goto (tgt := 52) hx hb dX1_laySide_47 (by decide) ?_
      refine va_iast (D := D) hx hb hK hP hD hS 1 0 rfl rfl (tq_in rfl (by omega)) dX1_laySide_52 (fun H locs hP hD hS => ?_)
      obtain ⟨g732, hP, hD⟩ : ∃ g732 : Nat → Int32, ct_B D A H [fo qf qf_places qf_steps qf_stumbleIn vf_gap vf_calmLength vf_calmStart, (qf_places, .inl (cI, 400, .inl (g732))), (qf_steps, .inl (cI, 400, .inl (g697))), (qf_stumbleIn, .inl (cI, 200, .inl (ff_stumbleIn))), dn qd vd_gap vd_odds vd_rain vd_lines qd_steps qd_lengths qd_starts qd_met qd_stumbles vd_stumbleCount qd_muds qd_cells vd_cellCount qd_tunes vd_tuneCount qd_changes vd_changeCount, (qd_steps, .inl (cI, 24, .inl (fd_steps))), (qd_lengths, .inl (cI, 2, .inl (fd_lengths))), (qd_starts, .inl (cI, 2, .inl (fd_starts))), (qd_stumbles, .inl (cI, 32, .inl (fd_stumbles))), (qd_muds, .inl (cI, 200, .inl (fd_muds)))] := ⟨_, hP, hD⟩
      refine lv_aload_n hx hb dX1_laySide_53 rfl (lv_at hl 4 rfl) ?_
      refine va_get (D := D) (ci := 1) (v := .ref qf_steps) (C := RX1) (T := TX1) (N := 6) hx hb hts hi1 hown hK hP 0 rfl rfl 1 (by decide) (hts (.fieldLink RX1 15 "OverHill$Floor" "steps" "[I") (by decide +kernel)) (fun _ h9 => h9) rfl dX1_laySide_54 ?_
      refine lv_iload hx hb dX1_laySide_57 (lv_at hl 0 rfl) ?_
      refine lv_iconst (v := (-1)) hx hb dX1_laySide_59 (by decide) ?_
      refine va_iast (D := D) hx hb hK hP hD hS 2 0 rfl rfl (tq_in rfl (by omega)) dX1_laySide_60 (fun H locs hP hD hS => ?_)
      obtain ⟨g733, h_g733, hP, hD⟩ : ∃ g733 : Nat → Int32, ar_ok [(-1)] [5] g733 ∧ ct_B D A H [fo qf qf_places qf_steps qf_stumbleIn vf_gap vf_calmLength vf_calmStart, (qf_places, .inl (cI, 400, .inl (g732))), (qf_steps, .inl (cI, 400, .inl (g733))), (qf_stumbleIn, .inl (cI, 200, .inl (ff_stumbleIn))), dn qd vd_gap vd_odds vd_rain vd_lines qd_steps qd_lengths qd_starts qd_met qd_stumbles vd_stumbleCount qd_muds qd_cells vd_cellCount qd_tunes vd_tuneCount qd_changes vd_changeCount, (qd_steps, .inl (cI, 24, .inl (fd_steps))), (qd_lengths, .inl (cI, 2, .inl (fd_lengths))), (qd_starts, .inl (cI, 2, .inl (fd_starts))), (qd_stumbles, .inl (cI, 32, .inl (fd_stumbles))), (qd_muds, .inl (cI, 200, .inl (fd_muds)))] := ⟨_, ar_set h_g697 z703 (-1 : Int32) 0 (by omega) (show z703.toInt % 1 = 0 by omega) rfl (show (-1) ≤ (-1 : Int32).toInt ∧ (-1 : Int32).toInt ≤ 5 by decide), hP, hD⟩
      refine lv_iload_n hx hb dX1_laySide_61 rfl (lv_at hl 3 rfl) ?_
      refine lv_if_le (tgt := 161) hx hb dX1_laySide_62 (by decide) (fun hc => ?_) (fun hc => ?_)
      · have hq734 : z1.toInt ≤ 0 := tq_le rfl (by decide) hc
        obtain ⟨z735, ez735⟩ : ∃ z : Int32, z = x699 + 1 := ⟨_, rfl⟩
        have fz735 : z735.toInt = x699.toInt + 1 := by rw [ez735]; exact tq_add rfl (by decide) (by omega)
        refine lv_iinc (v := z735) (lv' := [(5, .int z735), (6, .int z703), (4, .int x698), (3, .int z1), (0, .ref qf), (1, .ref qd), (2, .int a2)]) hx hb dX1_laySide_161 hl (k := 1) rfl ez735.symm (by decide) rfl (fun ls hl => ?_)
        refine lv_goto (tgt := 18) hx hb dX1_laySide_164 (by decide) ?_
        exact ih700 (g732, g733, x698, z735) _ _ _ (show (200 - z735.toInt).toNat < (200 - x699.toInt).toNat by omega) ⟨h_g733, h_x698, (show 0 ≤ z735.toInt ∧ z735.toInt ≤ 200 by omega), ⟨hP, hD⟩, hS, lv_sub hl [0, 2, 3, 4, 5, 6] rfl⟩
      · have hq734 : 0 < z1.toInt := tq_nle rfl (by decide) hc
        omega
abbrev w_c_X1_lay (cI cJ cB cZ cO : ClassId) (qf : Nat) (qf_places : Nat) (ff_places : Nat → Int32) (qf_steps : Nat) (ff_steps : Nat → Int32) (qf_stumbleIn : Nat) (ff_stumbleIn : Nat → Int32) (vf_gap : Int32) (vf_calmLength : Int32) (vf_calmStart : Int32) (qd : Nat) (vd_gap : Int32) (vd_odds : Int32) (vd_rain : Int32) (vd_lines : Int32) (qd_steps : Nat) (fd_steps : Nat → Int32) (qd_lengths : Nat) (fd_lengths : Nat → Int32) (qd_starts : Nat) (fd_starts : Nat → Int32) (qd_met : Nat) (qd_stumbles : Nat) (fd_stumbles : Nat → Int32) (vd_stumbleCount : Int32) (qd_muds : Nat) (fd_muds : Nat → Int32) (qd_cells : Nat) (vd_cellCount : Int32) (qd_tunes : Nat) (vd_tuneCount : Int32) (qd_changes : Nat) (vd_changeCount : Int32) : va_W := [fo qf qf_places qf_steps qf_stumbleIn vf_gap vf_calmLength vf_calmStart, (qf_places, .inl (cI, 400, .inl (ff_places))), (qf_steps, .inl (cI, 400, .inl (ff_steps))), (qf_stumbleIn, .inl (cI, 200, .inl (ff_stumbleIn))), dn qd vd_gap vd_odds vd_rain vd_lines qd_steps qd_lengths qd_starts qd_met qd_stumbles vd_stumbleCount qd_muds qd_cells vd_cellCount qd_tunes vd_tuneCount qd_changes vd_changeCount, (qd_steps, .inl (cI, 24, .inl (fd_steps))), (qd_lengths, .inl (cI, 2, .inl (fd_lengths))), (qd_starts, .inl (cI, 2, .inl (fd_starts))), (qd_stumbles, .inl (cI, 32, .inl (fd_stumbles))), (qd_muds, .inl (cI, 200, .inl (fd_muds)))]
set_option maxHeartbeats 4000000 in
set_option maxRecDepth 100000 in
/-- X1 lay -/
theorem c_X1_lay (l : Launch) (D : va_G) (G : ct_G) (cI cJ cB cZ cO : ClassId) (qf : Nat) (qf_places : Nat) (ff_places : Nat → Int32) (qf_steps : Nat) (ff_steps : Nat → Int32) (qf_stumbleIn : Nat) (ff_stumbleIn : Nat → Int32) (vf_gap : Int32) (vf_calmLength : Int32) (vf_calmStart : Int32) (qd : Nat) (vd_gap : Int32) (vd_odds : Int32) (vd_rain : Int32) (vd_lines : Int32) (qd_steps : Nat) (fd_steps : Nat → Int32) (qd_lengths : Nat) (fd_lengths : Nat → Int32) (qd_starts : Nat) (fd_starts : Nat → Int32) (qd_met : Nat) (qd_stumbles : Nat) (fd_stumbles : Nat → Int32) (vd_stumbleCount : Int32) (qd_muds : Nat) (fd_muds : Nat → Int32) (qd_cells : Nat) (vd_cellCount : Int32) (qd_tunes : Nat) (vd_tuneCount : Int32) (qd_changes : Nat) (vd_changeCount : Int32) (a2 : Int32) (h_ff_steps : ar_ok [(-1)] [5] ff_steps) (h_ff_stumbleIn : ar_q ff_stumbleIn) (h_vf_gap : 0 ≤ vf_gap.toInt ∧ vf_gap.toInt ≤ 20) (h_vd_gap : 0 ≤ vd_gap.toInt ∧ vd_gap.toInt ≤ 20) (h_fd_steps : ar_ok [0] [5] fd_steps) (h_fd_lengths : ar_ok [0] [12] fd_lengths) (h_fd_starts : ar_ok [0] [11] fd_starts) (h_fd_stumbles : ar_ok [(-2147483648), 0, 0, (-2147483648)] [2147483647, 199, 5, 2147483647] fd_stumbles) (h_vd_stumbleCount : 0 ≤ vd_stumbleCount.toInt ∧ vd_stumbleCount.toInt ≤ 8) (h_vd_cellCount : 0 ≤ vd_cellCount.toInt ∧ vd_cellCount.toInt ≤ 12) (h_vd_tuneCount : 0 ≤ vd_tuneCount.toInt ∧ vd_tuneCount.toInt ≤ 5) (h_vd_changeCount : 0 ≤ vd_changeCount.toInt ∧ vd_changeCount.toInt ≤ 40) (sz : Nat) : Met l yX1_lay wsX1_lay ({ frames := 3, cells := 0, slots := 0, locals := 72 }) (va_Pc [.ref qf, .ref qd, .int a2] (ct_P D (ct_T cI cJ cB cZ cO) G (w_c_X1_lay cI cJ cB cZ cO qf qf_places ff_places qf_steps ff_steps qf_stumbleIn ff_stumbleIn vf_gap vf_calmLength vf_calmStart qd vd_gap vd_odds vd_rain vd_lines qd_steps fd_steps qd_lengths fd_lengths qd_starts fd_starts qd_met qd_stumbles fd_stumbles vd_stumbleCount qd_muds fd_muds qd_cells vd_cellCount qd_tunes vd_tuneCount qd_changes vd_changeCount) sz)) (va_Qv (fun (u : Int32 × (Nat → Int32) × (Nat → Int32) × (Nat → Int32)) => (0 ≤ u.1.toInt ∧ u.1.toInt ≤ 20) ∧ (ar_ok [(-1)] [5] u.2.2.1) ∧ (ar_q u.2.2.2)) (fun (u : Int32 × (Nat → Int32) × (Nat → Int32) × (Nat → Int32)) t => ct_Q D (va_A (w_c_X1_lay cI cJ cB cZ cO qf qf_places ff_places qf_steps ff_steps qf_stumbleIn ff_stumbleIn vf_gap vf_calmLength vf_calmStart qd vd_gap vd_odds vd_rain vd_lines qd_steps fd_steps qd_lengths fd_lengths qd_starts fd_starts qd_met qd_stumbles fd_stumbles vd_stumbleCount qd_muds fd_muds qd_cells vd_cellCount qd_tunes vd_tuneCount qd_changes vd_changeCount) sz) [fo qf qf_places qf_steps qf_stumbleIn u.1 vf_calmLength vf_calmStart, (qf_places, .inl (cI, 400, .inl (u.2.1))), (qf_steps, .inl (cI, 400, .inl (u.2.2.1))), (qf_stumbleIn, .inl (cI, 200, .inl (u.2.2.2))), dn qd vd_gap vd_odds vd_rain vd_lines qd_steps qd_lengths qd_starts qd_met qd_stumbles vd_stumbleCount qd_muds qd_cells vd_cellCount qd_tunes vd_tuneCount qd_changes vd_changeCount, (qd_steps, .inl (cI, 24, .inl (fd_steps))), (qd_lengths, .inl (cI, 2, .inl (fd_lengths))), (qd_starts, .inl (cI, 2, .inl (fd_starts))), (qd_stumbles, .inl (cI, 32, .inl (fd_stumbles))), (qd_muds, .inl (cI, 200, .inl (fd_muds)))] t) (va_A (w_c_X1_lay cI cJ cB cZ cO qf qf_places ff_places qf_steps ff_steps qf_stumbleIn ff_stumbleIn vf_gap vf_calmLength vf_calmStart qd vd_gap vd_odds vd_rain vd_lines qd_steps fd_steps qd_lengths fd_lengths qd_starts fd_starts qd_met qd_stumbles fd_stumbles vd_stumbleCount qd_muds fd_muds qd_cells vd_cellCount qd_tunes vd_tuneCount qd_changes vd_changeCount) sz)) 0 0 (va_A (w_c_X1_lay cI cJ cB cZ cO qf qf_places ff_places qf_steps ff_steps qf_stumbleIn ff_stumbleIn vf_gap vf_calmLength vf_calmStart qd vd_gap vd_odds vd_rain vd_lines qd_steps fd_steps qd_lengths fd_lengths qd_starts fd_starts qd_met qd_stumbles fd_stumbles vd_stumbleCount qd_muds fd_muds qd_cells vd_cellCount qd_tunes vd_tuneCount qd_changes vd_changeCount) sz) := by
  refine Met.ofW (cc := cX1_lay) (maxL := 4) (ret := none) (by decide) rfl ?_
  intro p e s m args below meth c s₁ B hml hv
  obtain ⟨rfl, hsz, hP, hE, hD0, hH⟩ := hv
  have hx := B.exec
  have hb := B.bytes
  have hr := B.returns
  have hts := atoms_spec (ws := wsX1_lay) B.pre
  have hown : s.vm.findClass RX1 = some m.cls := findClass_of_methodNamed B.named
  have hlocks := B.notSynchronized
  have hK := hE.1
  have hi0 : ∀ w ∈ u_ws RX0 TX0 17, w ∈ wsX1_lay := fun w h => List.mem_cons_of_mem _ (List.mem_append_left _ (List.mem_append_right _ h))
  have hi1 : ∀ w ∈ u_ws RX1 TX1 6, w ∈ wsX1_lay := fun w h => List.mem_cons_of_mem _ (List.mem_append_right _ h)
  subst hsz
  have hD := hD0.self (sz := s.heap.size)
  generalize hAe : va_A (w_c_X1_lay cI cJ cB cZ cO qf qf_places ff_places qf_steps ff_steps qf_stumbleIn ff_stumbleIn vf_gap vf_calmLength vf_calmStart qd vd_gap vd_odds vd_rain vd_lines qd_steps fd_steps qd_lengths fd_lengths qd_starts fd_starts qd_met qd_stumbles fd_stumbles vd_stumbleCount qd_muds fd_muds qd_cells vd_cellCount qd_tunes vd_tuneCount qd_changes vd_changeCount) s.heap.size = A at hD hH ⊢
  have hA : ∀ q : Nat, s.heap.size ≤ q → A q := fun q h => by rw [← hAe]; exact Or.inr h
  have hS : va_S A s.heap s.heap [] := va_S.rf
  obtain ⟨hP, hD⟩ : ct_B D A s.heap [fo qf qf_places qf_steps qf_stumbleIn vf_gap vf_calmLength vf_calmStart, (qf_places, .inl (cI, 400, .inl (ff_places))), (qf_steps, .inl (cI, 400, .inl (ff_steps))), (qf_stumbleIn, .inl (cI, 200, .inl (ff_stumbleIn))), dn qd vd_gap vd_odds vd_rain vd_lines qd_steps qd_lengths qd_starts qd_met qd_stumbles vd_stumbleCount qd_muds qd_cells vd_cellCount qd_tunes vd_tuneCount qd_changes vd_changeCount, (qd_steps, .inl (cI, 24, .inl (fd_steps))), (qd_lengths, .inl (cI, 2, .inl (fd_lengths))), (qd_starts, .inl (cI, 2, .inl (fd_starts))), (qd_stumbles, .inl (cI, 32, .inl (fd_stumbles))), (qd_muds, .inl (cI, 200, .inl (fd_muds)))] := ⟨hP, hD⟩
  have hl := lv_entry ([.ref qf, .ref qd, .int a2]) (n := 4) (Nat.le_of_ble_eq_true rfl)
  rw [lg_entry_eq]
  generalize (lg_sl ([.ref qf, .ref qd, .int a2]) ++ List.replicate (4 - (lg_sl ([.ref qf, .ref qd, .int a2])).length) Slot.unset).toArray = ls at hl ⊢
  have hl : lv_has ls 4 [(0, .ref qf), (1, .ref qd), (2, .int a2)] := hl
  obtain ⟨H, hHe⟩ : ∃ H : Heap, H = s.heap := ⟨_, rfl⟩
  rw [← hHe] at hP
  have hS : va_S A s.heap H [] := by rw [hHe]; exact va_S.rf
  refine ct_start hHe ?_
  refine lv_aload_n hx hb dX1_lay_0 rfl (lv_at hl 0 rfl) ?_
  refine lv_aload_n hx hb dX1_lay_1 rfl (lv_at hl 1 rfl) ?_
  refine va_get (D := D) (ci := 0) (v := .int vd_gap) (C := RX0) (T := TX0) (N := 17) hx hb hts hi0 hown hK hP 4 rfl rfl 0 (by decide) (hts (.fieldLink RX1 21 "OverHill$Dance" "gap" "I") (by decide +kernel)) (fun _ h9 => h9) rfl dX1_lay_2 ?_
  refine va_put (D := D) (ci := 1) (v := .int vd_gap) (ty := .int) (C := RX1) (T := TX1) (N := 6) hx hb hts hi1 tyX1 tyX1_ok nmX1 hown hK hP hD hS 0 rfl rfl 3 (by decide) (hts (.fieldLink RX1 27 "OverHill$Floor" "gap" "I") (by decide +kernel)) (fun _ h9 => h9) rfl (by decide +kernel) rfl rfl (Nat.le_of_ble_eq_true rfl) dX1_lay_5 (fun H locs hP hD hS => ?_)
  obtain ⟨hP, hD⟩ : ct_B D A H [fo qf qf_places qf_steps qf_stumbleIn vd_gap vf_calmLength vf_calmStart, (qf_places, .inl (cI, 400, .inl (ff_places))), (qf_steps, .inl (cI, 400, .inl (ff_steps))), (qf_stumbleIn, .inl (cI, 200, .inl (ff_stumbleIn))), dn qd vd_gap vd_odds vd_rain vd_lines qd_steps qd_lengths qd_starts qd_met qd_stumbles vd_stumbleCount qd_muds qd_cells vd_cellCount qd_tunes vd_tuneCount qd_changes vd_changeCount, (qd_steps, .inl (cI, 24, .inl (fd_steps))), (qd_lengths, .inl (cI, 2, .inl (fd_lengths))), (qd_starts, .inl (cI, 2, .inl (fd_starts))), (qd_stumbles, .inl (cI, 32, .inl (fd_stumbles))), (qd_muds, .inl (cI, 200, .inl (fd_muds)))] := ⟨hP, hD⟩
  refine lv_iconst (v := 0) hx hb dX1_lay_8 (by decide) ?_
  refine lv_istore_n (lv' := [(3, .int 0), (0, .ref qf), (1, .ref qd), (2, .int a2)]) hx hb dX1_lay_9 rfl hl (by decide) rfl (fun ls hl => ?_)
  refine ct_loop (X := (Nat → Int32) × (Nat → Int32) × (Nat → Int32) × Int32) (fun x => (2 - x.2.2.2.toInt).toNat) (fun x H locs ls => (ar_ok [(-1)] [5] x.2.1) ∧ (ar_q x.2.2.1) ∧ ((0 ≤ x.2.2.2.toInt ∧ x.2.2.2.toInt ≤ 2)) ∧ ct_B D A H [fo qf qf_places qf_steps qf_stumbleIn vd_gap vf_calmLength vf_calmStart, (qf_places, .inl (cI, 400, .inl (x.1))), (qf_steps, .inl (cI, 400, .inl (x.2.1))), (qf_stumbleIn, .inl (cI, 200, .inl (x.2.2.1))), dn qd vd_gap vd_odds vd_rain vd_lines qd_steps qd_lengths qd_starts qd_met qd_stumbles vd_stumbleCount qd_muds qd_cells vd_cellCount qd_tunes vd_tuneCount qd_changes vd_changeCount, (qd_steps, .inl (cI, 24, .inl (fd_steps))), (qd_lengths, .inl (cI, 2, .inl (fd_lengths))), (qd_starts, .inl (cI, 2, .inl (fd_starts))), (qd_stumbles, .inl (cI, 32, .inl (fd_stumbles))), (qd_muds, .inl (cI, 200, .inl (fd_muds)))] ∧ va_S A s.heap H locs ∧ lv_has ls 4 [(3, .int x.2.2.2), (0, .ref qf), (1, .ref qd), (2, .int a2)]) 10 (ff_places, ff_steps, ff_stumbleIn, (0 : Int32)) ⟨h_ff_steps, h_ff_stumbleIn, (show 0 ≤ (0 : Int32).toInt ∧ (0 : Int32).toInt ≤ 2 by decide), ⟨hP, hD⟩, hS, lv_sub hl [0, 1, 2, 3] rfl⟩ (fun x ih35 H locs ls hI => ?_)
  obtain ⟨g31, g32, g33, x34⟩ := x
  obtain ⟨h_g32, h_g33, h_x34, ⟨hP, hD⟩, hS, hl⟩ := hI
  have h_g32 : ar_ok [(-1)] [5] g32 := h_g32
  have h_g33 : ar_q g33 := h_g33
  have h_x34 : (0 ≤ x34.toInt ∧ x34.toInt ≤ 2) := h_x34
  obtain ⟨hP, hD⟩ : ct_B D A H [fo qf qf_places qf_steps qf_stumbleIn vd_gap vf_calmLength vf_calmStart, (qf_places, .inl (cI, 400, .inl (g31))), (qf_steps, .inl (cI, 400, .inl (g32))), (qf_stumbleIn, .inl (cI, 200, .inl (g33))), dn qd vd_gap vd_odds vd_rain vd_lines qd_steps qd_lengths qd_starts qd_met qd_stumbles vd_stumbleCount qd_muds qd_cells vd_cellCount qd_tunes vd_tuneCount qd_changes vd_changeCount, (qd_steps, .inl (cI, 24, .inl (fd_steps))), (qd_lengths, .inl (cI, 2, .inl (fd_lengths))), (qd_starts, .inl (cI, 2, .inl (fd_starts))), (qd_stumbles, .inl (cI, 32, .inl (fd_stumbles))), (qd_muds, .inl (cI, 200, .inl (fd_muds)))] := ⟨hP, hD⟩
  have hl : lv_has ls 4 [(3, .int x34), (0, .ref qf), (1, .ref qd), (2, .int a2)] := hl
  refine lv_iload_n hx hb dX1_lay_10 rfl (lv_at hl 0 rfl) ?_
  refine lv_iconst (v := 2) hx hb dX1_lay_11 (by decide) ?_
  refine lv_icmp_ge (tgt := 34) hx hb dX1_lay_12 (by decide) (fun hc => ?_) (fun hc => ?_)
  · have hq36 : 2 ≤ x34.toInt := tq_le (by decide) rfl hc
    obtain ⟨hP9, hD9⟩ : ct_B D A H [fo qf qf_places qf_steps qf_stumbleIn vd_gap vf_calmLength vf_calmStart, (qf_places, .inl (cI, 400, .inl (g31))), (qf_steps, .inl (cI, 400, .inl (g32))), (qf_stumbleIn, .inl (cI, 200, .inl (g33))), dn qd vd_gap vd_odds vd_rain vd_lines qd_steps qd_lengths qd_starts qd_met qd_stumbles vd_stumbleCount qd_muds qd_cells vd_cellCount qd_tunes vd_tuneCount qd_changes vd_changeCount, (qd_steps, .inl (cI, 24, .inl (fd_steps))), (qd_lengths, .inl (cI, 2, .inl (fd_lengths))), (qd_starts, .inl (cI, 2, .inl (fd_starts))), (qd_stumbles, .inl (cI, 32, .inl (fd_stumbles))), (qd_muds, .inl (cI, 200, .inl (fd_muds)))] := ⟨hP.sub [0, 1, 2, 3, 4, 5, 6, 7, 8, 9] rfl, hD.sub [0, 1, 2, 3, 4, 5, 6, 7, 8, 9] (by decide) rfl⟩
    exact W.vret hx hb hr (fun t ht hW => ⟨⟨(vd_gap, g31, g32, g33), rfl, ⟨h_vd_gap, h_g32, h_g33⟩, by rw [ht]; exact hP9, hD9⟩, hS.F ht⟩) hS.2.2 dX1_lay_34
  · have hq36 : x34.toInt < 2 := tq_nle (by decide) rfl hc
    refine lv_aload_n hx hb dX1_lay_15 rfl (lv_at hl 1 rfl) ?_
    refine lv_aload_n hx hb dX1_lay_16 rfl (lv_at hl 2 rfl) ?_
    refine lv_iload_n hx hb dX1_lay_17 rfl (lv_at hl 0 rfl) ?_
    refine lv_iload_n hx hb dX1_lay_18 rfl (lv_at hl 3 rfl) ?_
    refine ct_callv (D := D) (wr := [(qf_places, .inl (cI, 400, .inl (g31))), (qf_steps, .inl (cI, 400, .inl (g32))), (qd_steps, .inl (cI, 24, .inl (fd_steps))), (qd_lengths, .inl (cI, 2, .inl (fd_lengths))), (qd_starts, .inl (cI, 2, .inl (fd_starts))), (qd_muds, .inl (cI, 200, .inl (fd_muds)))]) (va_runV (As := [.ref qd, .int x34, .int a2]) (rest := []) ⟨hx, hb, hml, hown, hts⟩ (c_X1_findStumbles l D G cI cJ cB cZ cO qf qf_places qf_steps qf_stumbleIn g33 vd_gap vf_calmLength vf_calmStart qd vd_gap vd_odds vd_rain vd_lines qd_steps qd_lengths qd_starts qd_met qd_stumbles fd_stumbles vd_stumbleCount qd_muds qd_cells vd_cellCount qd_tunes vd_tuneCount qd_changes vd_changeCount x34 a2 h_g33 h_vd_gap h_vd_gap h_fd_stumbles h_vd_stumbleCount h_vd_cellCount h_vd_tuneCount h_vd_changeCount H.size) (cwV 3 hts gX1_lay_X1_findStumbles rfl rfl rfl (by decide +kernel) ⟨Nat.le_of_ble_eq_true rfl, Nat.le_of_ble_eq_true rfl⟩) (ct_preV (T := ct_T cI cJ cB cZ cO) (ci := 1) (q0 := 0) hE hH hP hD hS hA [0, 3, 4, 8] (by decide) rfl rfl rfl) rfl rfl hl.1 rfl (lv_room (Nat.le_of_ble_eq_true rfl)) dX1_lay_19 ⟨Nat.le_of_ble_eq_true rfl, Nat.le_of_ble_eq_true rfl⟩) hP hD hS hA [0, 3, 4, 8] [1, 2, 5, 6, 7, 9] rfl rfl (by decide) (by decide) (fun u H locs hw hP hD hS => ?_)
    obtain ⟨g37, rfl⟩ : ∃ z, z = u := ⟨_, rfl⟩
    obtain ⟨hP, hD⟩ : ct_B D A H [(qf_places, .inl (cI, 400, .inl (g31))), (qf_steps, .inl (cI, 400, .inl (g32))), (qd_steps, .inl (cI, 24, .inl (fd_steps))), (qd_lengths, .inl (cI, 2, .inl (fd_lengths))), (qd_starts, .inl (cI, 2, .inl (fd_starts))), (qd_muds, .inl (cI, 200, .inl (fd_muds))), fo qf qf_places qf_steps qf_stumbleIn vd_gap vf_calmLength vf_calmStart, (qf_stumbleIn, .inl (cI, 200, .inl (g37))), dn qd vd_gap vd_odds vd_rain vd_lines qd_steps qd_lengths qd_starts qd_met qd_stumbles vd_stumbleCount qd_muds qd_cells vd_cellCount qd_tunes vd_tuneCount qd_changes vd_changeCount, (qd_stumbles, .inl (cI, 32, .inl (fd_stumbles)))] := ⟨hP, hD⟩
    have hp0 := hw
    have h_g37 : ar_q g37 := hp0
    refine lv_aload_n hx hb dX1_lay_22 rfl (lv_at hl 1 rfl) ?_
    refine lv_aload_n hx hb dX1_lay_23 rfl (lv_at hl 2 rfl) ?_
    refine lv_iload_n hx hb dX1_lay_24 rfl (lv_at hl 0 rfl) ?_
    refine ct_callv (D := D) (wr := []) (va_runV (As := [.ref qd, .int x34]) (rest := []) ⟨hx, hb, hml, hown, hts⟩ (c_X1_laySide l D G cI cJ cB cZ cO qf qf_places g31 qf_steps g32 qf_stumbleIn g37 vd_gap vf_calmLength vf_calmStart qd vd_gap vd_odds vd_rain vd_lines qd_steps fd_steps qd_lengths fd_lengths qd_starts fd_starts qd_met qd_stumbles fd_stumbles vd_stumbleCount qd_muds fd_muds qd_cells vd_cellCount qd_tunes vd_tuneCount qd_changes vd_changeCount x34 h_g32 h_g37 h_vd_gap h_vd_gap h_fd_steps h_fd_lengths h_fd_starts h_fd_stumbles h_vd_stumbleCount h_vd_cellCount h_vd_tuneCount h_vd_changeCount (by omega) H.size) (cwV 2 hts gX1_lay_X1_laySide rfl rfl rfl (by decide +kernel) ⟨Nat.le_of_ble_eq_true rfl, Nat.le_of_ble_eq_true rfl⟩) (ct_preV (T := ct_T cI cJ cB cZ cO) (ci := 1) (q0 := 6) hE hH hP hD hS hA [6, 0, 1, 7, 8, 2, 3, 4, 9, 5] (by decide) rfl rfl rfl) rfl rfl hl.1 rfl (lv_room (Nat.le_of_ble_eq_true rfl)) dX1_lay_25 ⟨Nat.le_of_ble_eq_true rfl, Nat.le_of_ble_eq_true rfl⟩) hP hD hS hA [6, 0, 1, 7, 8, 2, 3, 4, 9, 5] [] rfl rfl (by decide) (by decide) (fun u H locs hw hP hD hS => ?_)
    obtain ⟨g38, g39⟩ := u
    obtain ⟨hP, hD⟩ : ct_B D A H [fo qf qf_places qf_steps qf_stumbleIn vd_gap vf_calmLength vf_calmStart, (qf_places, .inl (cI, 400, .inl (g38))), (qf_steps, .inl (cI, 400, .inl (g39))), (qf_stumbleIn, .inl (cI, 200, .inl (g37))), dn qd vd_gap vd_odds vd_rain vd_lines qd_steps qd_lengths qd_starts qd_met qd_stumbles vd_stumbleCount qd_muds qd_cells vd_cellCount qd_tunes vd_tuneCount qd_changes vd_changeCount, (qd_steps, .inl (cI, 24, .inl (fd_steps))), (qd_lengths, .inl (cI, 2, .inl (fd_lengths))), (qd_starts, .inl (cI, 2, .inl (fd_starts))), (qd_stumbles, .inl (cI, 32, .inl (fd_stumbles))), (qd_muds, .inl (cI, 200, .inl (fd_muds)))] := ⟨hP, hD⟩
    have hp0 := hw
    have h_g39 : ar_ok [(-1)] [5] g39 := hp0
    obtain ⟨z40, ez40⟩ : ∃ z : Int32, z = x34 + 1 := ⟨_, rfl⟩
    have fz40 : z40.toInt = x34.toInt + 1 := by rw [ez40]; exact tq_add rfl (by decide) (by omega)
    refine lv_iinc (v := z40) (lv' := [(3, .int z40), (0, .ref qf), (1, .ref qd), (2, .int a2)]) hx hb dX1_lay_28 hl (k := 0) rfl ez40.symm (by decide) rfl (fun ls hl => ?_)
    refine lv_goto (tgt := 10) hx hb dX1_lay_31 (by decide) ?_
    exact ih35 (g38, g39, g37, z40) _ _ _ (show (2 - z40.toInt).toNat < (2 - x34.toInt).toNat by omega) ⟨h_g39, h_g37, (show 0 ≤ z40.toInt ∧ z40.toInt ≤ 2 by omega), ⟨hP, hD⟩, hS, lv_sub hl [0, 1, 2, 3] rfl⟩
abbrev w_c_X1_placeOf (cI cJ cB cZ cO : ClassId) (qf : Nat) (qf_places : Nat) (ff_places : Nat → Int32) (qf_steps : Nat) (qf_stumbleIn : Nat) (vf_gap : Int32) (vf_calmLength : Int32) (vf_calmStart : Int32) : va_W := [fo qf qf_places qf_steps qf_stumbleIn vf_gap vf_calmLength vf_calmStart, (qf_places, .inl (cI, 400, .inl (ff_places)))]
set_option maxHeartbeats 4000000 in
set_option maxRecDepth 100000 in
/-- X1 placeOf -/
theorem c_X1_placeOf (l : Launch) (D : va_G) (G : ct_G) (cI cJ cB cZ cO : ClassId) (qf : Nat) (qf_places : Nat) (ff_places : Nat → Int32) (qf_steps : Nat) (qf_stumbleIn : Nat) (vf_gap : Int32) (vf_calmLength : Int32) (vf_calmStart : Int32) (a1 : Int32) (a2 : Int32) (h_vf_gap : 0 ≤ vf_gap.toInt ∧ vf_gap.toInt ≤ 20) (h_a1 : 0 ≤ a1.toInt ∧ a1.toInt ≤ 1) (h_a2 : 0 ≤ a2.toInt ∧ a2.toInt ≤ 199) (sz : Nat) : Met l yX1_placeOf wsX1_placeOf ({ frames := 0, cells := 0, slots := 0, locals := 0 }) (va_Pc [.ref qf, .int a1, .int a2] (ct_P D (ct_T cI cJ cB cZ cO) G (w_c_X1_placeOf cI cJ cB cZ cO qf qf_places ff_places qf_steps qf_stumbleIn vf_gap vf_calmLength vf_calmStart) sz)) (va_Qi (fun (rz : Int32) (u : Unit) => True) (fun (u : Unit) t => ct_Q D (va_A (w_c_X1_placeOf cI cJ cB cZ cO qf qf_places ff_places qf_steps qf_stumbleIn vf_gap vf_calmLength vf_calmStart) sz) [fo qf qf_places qf_steps qf_stumbleIn vf_gap vf_calmLength vf_calmStart, (qf_places, .inl (cI, 400, .inl (ff_places)))] t) (va_A (w_c_X1_placeOf cI cJ cB cZ cO qf qf_places ff_places qf_steps qf_stumbleIn vf_gap vf_calmLength vf_calmStart) sz)) 0 0 (va_A (w_c_X1_placeOf cI cJ cB cZ cO qf qf_places ff_places qf_steps qf_stumbleIn vf_gap vf_calmLength vf_calmStart) sz) := by
  refine Met.ofW (cc := cX1_placeOf) (maxL := 3) (ret := (some .int)) (by decide) rfl ?_
  intro p e s m args below meth c s₁ B hml hv
  obtain ⟨rfl, hsz, hP, hE, hD0, hH⟩ := hv
  have hx := B.exec
  have hb := B.bytes
  have hr := B.returns
  have hts := atoms_spec (ws := wsX1_placeOf) B.pre
  have hown : s.vm.findClass RX1 = some m.cls := findClass_of_methodNamed B.named
  have hlocks := B.notSynchronized
  have hK := hE.1
  have hi1 : ∀ w ∈ u_ws RX1 TX1 6, w ∈ wsX1_placeOf := fun w h => List.mem_cons_of_mem _ (List.mem_append_right _ h)
  subst hsz
  have hD := hD0.self (sz := s.heap.size)
  generalize hAe : va_A (w_c_X1_placeOf cI cJ cB cZ cO qf qf_places ff_places qf_steps qf_stumbleIn vf_gap vf_calmLength vf_calmStart) s.heap.size = A at hD hH ⊢
  have hA : ∀ q : Nat, s.heap.size ≤ q → A q := fun q h => by rw [← hAe]; exact Or.inr h
  have hS : va_S A s.heap s.heap [] := va_S.rf
  obtain ⟨hP, hD⟩ : ct_B D A s.heap [fo qf qf_places qf_steps qf_stumbleIn vf_gap vf_calmLength vf_calmStart, (qf_places, .inl (cI, 400, .inl (ff_places)))] := ⟨hP, hD⟩
  have hl := lv_entry ([.ref qf, .int a1, .int a2]) (n := 3) (Nat.le_of_ble_eq_true rfl)
  rw [lg_entry_eq]
  generalize (lg_sl ([.ref qf, .int a1, .int a2]) ++ List.replicate (3 - (lg_sl ([.ref qf, .int a1, .int a2])).length) Slot.unset).toArray = ls at hl ⊢
  have hl : lv_has ls 3 [(0, .ref qf), (1, .int a1), (2, .int a2)] := hl
  obtain ⟨H, hHe⟩ : ∃ H : Heap, H = s.heap := ⟨_, rfl⟩
  rw [← hHe] at hP
  have hS : va_S A s.heap H [] := by rw [hHe]; exact va_S.rf
  refine ct_start hHe ?_
  refine lv_aload_n hx hb dX1_placeOf_0 rfl (lv_at hl 0 rfl) ?_
  refine va_get (D := D) (ci := 1) (v := .ref qf_places) (C := RX1) (T := TX1) (N := 6) hx hb hts hi1 hown hK hP 0 rfl rfl 0 (by decide) (hts (.fieldLink RX1 9 "OverHill$Floor" "places" "[I") (by decide +kernel)) (fun _ h9 => h9) rfl dX1_placeOf_1 ?_
  refine lv_iload_n hx hb dX1_placeOf_4 rfl (lv_at hl 1 rfl) ?_
  refine lv_sipush (v := 200) hx hb dX1_placeOf_5 (by decide) ?_
  refine lv_imul hx hb dX1_placeOf_8 ?_
  refine lv_topi (fun z1 ez1 => ?_)
  have fz1 : z1.toInt = a1.toInt * 200 := by rw [ez1]; exact tq_mul rfl (by decide) (by omega)
  refine lv_iload_n hx hb dX1_placeOf_9 rfl (lv_at hl 2 rfl) ?_
  refine lv_iadd hx hb dX1_placeOf_10 ?_
  refine lv_topi (fun z2 ez2 => ?_)
  have fz2 : z2.toInt = z1.toInt + a2.toInt := by rw [ez2]; exact tq_add rfl rfl (by omega)
  refine va_iald (D := D) hx hb hK hP 1 0 rfl rfl (tq_in rfl (by omega)) dX1_placeOf_11 ?_
  refine lv_topi (fun z3 ez3 => ?_)
  obtain ⟨hP9, hD9⟩ : ct_B D A H [fo qf qf_places qf_steps qf_stumbleIn vf_gap vf_calmLength vf_calmStart, (qf_places, .inl (cI, 400, .inl (ff_places)))] := ⟨hP.sub [0, 1] rfl, hD.sub [0, 1] (by decide) rfl⟩
  exact W.iret (v := z3) hx hb hr (fun t ht hW => ⟨⟨z3, (), rfl, trivial, by rw [ht]; exact hP9, hD9⟩, hS.F ht⟩) hS.2.2 dX1_placeOf_12
abbrev w_c_X1_stepOf (cI cJ cB cZ cO : ClassId) (qf : Nat) (qf_places : Nat) (qf_steps : Nat) (ff_steps : Nat → Int32) (qf_stumbleIn : Nat) (vf_gap : Int32) (vf_calmLength : Int32) (vf_calmStart : Int32) : va_W := [fo qf qf_places qf_steps qf_stumbleIn vf_gap vf_calmLength vf_calmStart, (qf_steps, .inl (cI, 400, .inl (ff_steps)))]
set_option maxHeartbeats 4000000 in
set_option maxRecDepth 100000 in
/-- X1 stepOf -/
theorem c_X1_stepOf (l : Launch) (D : va_G) (G : ct_G) (cI cJ cB cZ cO : ClassId) (qf : Nat) (qf_places : Nat) (qf_steps : Nat) (ff_steps : Nat → Int32) (qf_stumbleIn : Nat) (vf_gap : Int32) (vf_calmLength : Int32) (vf_calmStart : Int32) (a1 : Int32) (a2 : Int32) (h_ff_steps : ar_ok [(-1)] [5] ff_steps) (h_vf_gap : 0 ≤ vf_gap.toInt ∧ vf_gap.toInt ≤ 20) (h_a1 : 0 ≤ a1.toInt ∧ a1.toInt ≤ 1) (h_a2 : 0 ≤ a2.toInt ∧ a2.toInt ≤ 199) (sz : Nat) : Met l yX1_stepOf wsX1_stepOf ({ frames := 0, cells := 0, slots := 0, locals := 0 }) (va_Pc [.ref qf, .int a1, .int a2] (ct_P D (ct_T cI cJ cB cZ cO) G (w_c_X1_stepOf cI cJ cB cZ cO qf qf_places qf_steps ff_steps qf_stumbleIn vf_gap vf_calmLength vf_calmStart) sz)) (va_Qi (fun (rz : Int32) (u : Unit) => ((-1) ≤ rz.toInt ∧ rz.toInt ≤ 5)) (fun (u : Unit) t => ct_Q D (va_A (w_c_X1_stepOf cI cJ cB cZ cO qf qf_places qf_steps ff_steps qf_stumbleIn vf_gap vf_calmLength vf_calmStart) sz) [fo qf qf_places qf_steps qf_stumbleIn vf_gap vf_calmLength vf_calmStart, (qf_steps, .inl (cI, 400, .inl (ff_steps)))] t) (va_A (w_c_X1_stepOf cI cJ cB cZ cO qf qf_places qf_steps ff_steps qf_stumbleIn vf_gap vf_calmLength vf_calmStart) sz)) 0 0 (va_A (w_c_X1_stepOf cI cJ cB cZ cO qf qf_places qf_steps ff_steps qf_stumbleIn vf_gap vf_calmLength vf_calmStart) sz) := by
  refine Met.ofW (cc := cX1_stepOf) (maxL := 3) (ret := (some .int)) (by decide) rfl ?_
  intro p e s m args below meth c s₁ B hml hv
  obtain ⟨rfl, hsz, hP, hE, hD0, hH⟩ := hv
  have hx := B.exec
  have hb := B.bytes
  have hr := B.returns
  have hts := atoms_spec (ws := wsX1_stepOf) B.pre
  have hown : s.vm.findClass RX1 = some m.cls := findClass_of_methodNamed B.named
  have hlocks := B.notSynchronized
  have hK := hE.1
  have hi1 : ∀ w ∈ u_ws RX1 TX1 6, w ∈ wsX1_stepOf := fun w h => List.mem_cons_of_mem _ (List.mem_append_right _ h)
  subst hsz
  have hD := hD0.self (sz := s.heap.size)
  generalize hAe : va_A (w_c_X1_stepOf cI cJ cB cZ cO qf qf_places qf_steps ff_steps qf_stumbleIn vf_gap vf_calmLength vf_calmStart) s.heap.size = A at hD hH ⊢
  have hA : ∀ q : Nat, s.heap.size ≤ q → A q := fun q h => by rw [← hAe]; exact Or.inr h
  have hS : va_S A s.heap s.heap [] := va_S.rf
  obtain ⟨hP, hD⟩ : ct_B D A s.heap [fo qf qf_places qf_steps qf_stumbleIn vf_gap vf_calmLength vf_calmStart, (qf_steps, .inl (cI, 400, .inl (ff_steps)))] := ⟨hP, hD⟩
  have hl := lv_entry ([.ref qf, .int a1, .int a2]) (n := 3) (Nat.le_of_ble_eq_true rfl)
  rw [lg_entry_eq]
  generalize (lg_sl ([.ref qf, .int a1, .int a2]) ++ List.replicate (3 - (lg_sl ([.ref qf, .int a1, .int a2])).length) Slot.unset).toArray = ls at hl ⊢
  have hl : lv_has ls 3 [(0, .ref qf), (1, .int a1), (2, .int a2)] := hl
  obtain ⟨H, hHe⟩ : ∃ H : Heap, H = s.heap := ⟨_, rfl⟩
  rw [← hHe] at hP
  have hS : va_S A s.heap H [] := by rw [hHe]; exact va_S.rf
  refine ct_start hHe ?_
  refine lv_aload_n hx hb dX1_stepOf_0 rfl (lv_at hl 0 rfl) ?_
  refine va_get (D := D) (ci := 1) (v := .ref qf_steps) (C := RX1) (T := TX1) (N := 6) hx hb hts hi1 hown hK hP 0 rfl rfl 1 (by decide) (hts (.fieldLink RX1 15 "OverHill$Floor" "steps" "[I") (by decide +kernel)) (fun _ h9 => h9) rfl dX1_stepOf_1 ?_
  refine lv_iload_n hx hb dX1_stepOf_4 rfl (lv_at hl 1 rfl) ?_
  refine lv_sipush (v := 200) hx hb dX1_stepOf_5 (by decide) ?_
  refine lv_imul hx hb dX1_stepOf_8 ?_
  refine lv_topi (fun z1 ez1 => ?_)
  have fz1 : z1.toInt = a1.toInt * 200 := by rw [ez1]; exact tq_mul rfl (by decide) (by omega)
  refine lv_iload_n hx hb dX1_stepOf_9 rfl (lv_at hl 2 rfl) ?_
  refine lv_iadd hx hb dX1_stepOf_10 ?_
  refine lv_topi (fun z2 ez2 => ?_)
  have fz2 : z2.toInt = z1.toInt + a2.toInt := by rw [ez2]; exact tq_add rfl rfl (by omega)
  refine va_iald (D := D) hx hb hK hP 1 0 rfl rfl (tq_in rfl (by omega)) dX1_stepOf_11 ?_
  refine lv_topi (fun z3 ez3 => ?_)
  have fz3 : (-1) ≤ z3.toInt ∧ z3.toInt ≤ 5 := by rw [ez3]; exact ar_get h_ff_steps z2 0 (by omega) (show z2.toInt % 1 = 0 by omega) rfl
  obtain ⟨hP9, hD9⟩ : ct_B D A H [fo qf qf_places qf_steps qf_stumbleIn vf_gap vf_calmLength vf_calmStart, (qf_steps, .inl (cI, 400, .inl (ff_steps)))] := ⟨hP.sub [0, 1] rfl, hD.sub [0, 1] (by decide) rfl⟩
  exact W.iret (v := z3) hx hb hr (fun t ht hW => ⟨⟨z3, (), rfl, fz3, by rw [ht]; exact hP9, hD9⟩, hS.F ht⟩) hS.2.2 dX1_stepOf_12
abbrev w_c_X1_heardBy (cI cJ cB cZ cO : ClassId) (qf : Nat) (qf_places : Nat) (qf_steps : Nat) (ff_steps : Nat → Int32) (qf_stumbleIn : Nat) (vf_gap : Int32) (vf_calmLength : Int32) (vf_calmStart : Int32) : va_W := [fo qf qf_places qf_steps qf_stumbleIn vf_gap vf_calmLength vf_calmStart, (qf_steps, .inl (cI, 400, .inl (ff_steps)))]
set_option maxHeartbeats 4000000 in
set_option maxRecDepth 100000 in
/-- X1 heardBy -/
theorem c_X1_heardBy (l : Launch) (D : va_G) (G : ct_G) (cI cJ cB cZ cO : ClassId) (qf : Nat) (qf_places : Nat) (qf_steps : Nat) (ff_steps : Nat → Int32) (qf_stumbleIn : Nat) (vf_gap : Int32) (vf_calmLength : Int32) (vf_calmStart : Int32) (a1 : Int32) (a2 : Int32) (h_ff_steps : ar_ok [(-1)] [5] ff_steps) (h_vf_gap : 0 ≤ vf_gap.toInt ∧ vf_gap.toInt ≤ 20) (h_a1 : 0 ≤ a1.toInt ∧ a1.toInt ≤ 1) (h_a2 : 0 ≤ a2.toInt ∧ a2.toInt ≤ 199) (sz : Nat) : Met l yX1_heardBy wsX1_heardBy ({ frames := 1, cells := 0, slots := 0, locals := 22 }) (va_Pc [.ref qf, .int a1, .int a2] (ct_P D (ct_T cI cJ cB cZ cO) G (w_c_X1_heardBy cI cJ cB cZ cO qf qf_places qf_steps ff_steps qf_stumbleIn vf_gap vf_calmLength vf_calmStart) sz)) (va_Qi (fun (rz : Int32) (u : Unit) => ((-1) ≤ rz.toInt ∧ rz.toInt ≤ 5)) (fun (u : Unit) t => ct_Q D (va_A (w_c_X1_heardBy cI cJ cB cZ cO qf qf_places qf_steps ff_steps qf_stumbleIn vf_gap vf_calmLength vf_calmStart) sz) [fo qf qf_places qf_steps qf_stumbleIn vf_gap vf_calmLength vf_calmStart, (qf_steps, .inl (cI, 400, .inl (ff_steps)))] t) (va_A (w_c_X1_heardBy cI cJ cB cZ cO qf qf_places qf_steps ff_steps qf_stumbleIn vf_gap vf_calmLength vf_calmStart) sz)) 0 0 (va_A (w_c_X1_heardBy cI cJ cB cZ cO qf qf_places qf_steps ff_steps qf_stumbleIn vf_gap vf_calmLength vf_calmStart) sz) := by
  refine Met.ofW (cc := cX1_heardBy) (maxL := 3) (ret := (some .int)) (by decide) rfl ?_
  intro p e s m args below meth c s₁ B hml hv
  obtain ⟨rfl, hsz, hP, hE, hD0, hH⟩ := hv
  have hx := B.exec
  have hb := B.bytes
  have hr := B.returns
  have hts := atoms_spec (ws := wsX1_heardBy) B.pre
  have hown : s.vm.findClass RX1 = some m.cls := findClass_of_methodNamed B.named
  have hlocks := B.notSynchronized
  have hK := hE.1
  have hi1 : ∀ w ∈ u_ws RX1 TX1 6, w ∈ wsX1_heardBy := fun w h => List.mem_cons_of_mem _ (List.mem_append_right _ h)
  subst hsz
  have hD := hD0.self (sz := s.heap.size)
  generalize hAe : va_A (w_c_X1_heardBy cI cJ cB cZ cO qf qf_places qf_steps ff_steps qf_stumbleIn vf_gap vf_calmLength vf_calmStart) s.heap.size = A at hD hH ⊢
  have hA : ∀ q : Nat, s.heap.size ≤ q → A q := fun q h => by rw [← hAe]; exact Or.inr h
  have hS : va_S A s.heap s.heap [] := va_S.rf
  obtain ⟨hP, hD⟩ : ct_B D A s.heap [fo qf qf_places qf_steps qf_stumbleIn vf_gap vf_calmLength vf_calmStart, (qf_steps, .inl (cI, 400, .inl (ff_steps)))] := ⟨hP, hD⟩
  have hl := lv_entry ([.ref qf, .int a1, .int a2]) (n := 3) (Nat.le_of_ble_eq_true rfl)
  rw [lg_entry_eq]
  generalize (lg_sl ([.ref qf, .int a1, .int a2]) ++ List.replicate (3 - (lg_sl ([.ref qf, .int a1, .int a2])).length) Slot.unset).toArray = ls at hl ⊢
  have hl : lv_has ls 3 [(0, .ref qf), (1, .int a1), (2, .int a2)] := hl
  obtain ⟨H, hHe⟩ : ∃ H : Heap, H = s.heap := ⟨_, rfl⟩
  rw [← hHe] at hP
  have hS : va_S A s.heap H [] := by rw [hHe]; exact va_S.rf
  refine ct_start hHe ?_
  refine lv_iload_n hx hb dX1_heardBy_0 rfl (lv_at hl 2 rfl) ?_
  refine lv_aload_n hx hb dX1_heardBy_1 rfl (lv_at hl 0 rfl) ?_
  refine va_get (D := D) (ci := 1) (v := .int vf_gap) (C := RX1) (T := TX1) (N := 6) hx hb hts hi1 hown hK hP 0 rfl rfl 3 (by decide) (hts (.fieldLink RX1 27 "OverHill$Floor" "gap" "I") (by decide +kernel)) (fun _ h9 => h9) rfl dX1_heardBy_2 ?_
  refine lv_icmp_ge (tgt := 12) hx hb dX1_heardBy_5 (by decide) (fun hc => ?_) (fun hc => ?_)
  · have hq1 : vf_gap.toInt ≤ a2.toInt := tq_le rfl rfl hc
    refine lv_aload_n hx hb dX1_heardBy_12 rfl (lv_at hl 0 rfl) ?_
    refine lv_iconst (v := 1) hx hb dX1_heardBy_13 (by decide) ?_
    refine lv_iload_n hx hb dX1_heardBy_14 rfl (lv_at hl 1 rfl) ?_
    refine lv_isub hx hb dX1_heardBy_15 ?_
    refine lv_topi (fun z2 ez2 => ?_)
    have fz2 : z2.toInt = 1 - a1.toInt := by rw [ez2]; exact tq_subt (by decide) rfl (by omega)
    refine lv_iload_n hx hb dX1_heardBy_16 rfl (lv_at hl 2 rfl) ?_
    refine lv_aload_n hx hb dX1_heardBy_17 rfl (lv_at hl 0 rfl) ?_
    refine va_get (D := D) (ci := 1) (v := .int vf_gap) (C := RX1) (T := TX1) (N := 6) hx hb hts hi1 hown hK hP 0 rfl rfl 3 (by decide) (hts (.fieldLink RX1 27 "OverHill$Floor" "gap" "I") (by decide +kernel)) (fun _ h9 => h9) rfl dX1_heardBy_18 ?_
    refine lv_isub hx hb dX1_heardBy_21 ?_
    refine lv_topi (fun z3 ez3 => ?_)
    have fz3 : z3.toInt = a2.toInt - vf_gap.toInt := by rw [ez3]; exact tq_subt rfl rfl (by omega)
    refine ct_calli (D := D) (wr := []) (va_runV (As := [.int z2, .int z3]) (rest := []) ⟨hx, hb, hml, hown, hts⟩ (c_X1_stepOf l D G cI cJ cB cZ cO qf qf_places qf_steps ff_steps qf_stumbleIn vf_gap vf_calmLength vf_calmStart z2 z3 h_ff_steps h_vf_gap (by omega) (by omega) H.size) (cwV 2 hts gX1_heardBy_X1_stepOf rfl rfl rfl (by decide +kernel) ⟨Nat.le_of_ble_eq_true rfl, Nat.le_of_ble_eq_true rfl⟩) (ct_preV (T := ct_T cI cJ cB cZ cO) (ci := 1) (q0 := 0) hE hH hP hD hS hA [0, 1] (by decide) rfl rfl rfl) rfl rfl hl.1 rfl (lv_room (Nat.le_of_ble_eq_true rfl)) dX1_heardBy_22 ⟨Nat.le_of_ble_eq_true rfl, Nat.le_of_ble_eq_true rfl⟩) hP hD hS hA [0, 1] [] rfl rfl (by decide) (by decide) (fun r4 u H locs hw hP hD hS => ?_)
    obtain ⟨hP, hD⟩ : ct_B D A H [fo qf qf_places qf_steps qf_stumbleIn vf_gap vf_calmLength vf_calmStart, (qf_steps, .inl (cI, 400, .inl (ff_steps)))] := ⟨hP, hD⟩
    have hz := hw
    have h_r4 : (-1) ≤ r4.toInt ∧ r4.toInt ≤ 5 := hz
    obtain ⟨hP9, hD9⟩ : ct_B D A H [fo qf qf_places qf_steps qf_stumbleIn vf_gap vf_calmLength vf_calmStart, (qf_steps, .inl (cI, 400, .inl (ff_steps)))] := ⟨hP.sub [0, 1] rfl, hD.sub [0, 1] (by decide) rfl⟩
    exact W.iret (v := r4) hx hb hr (fun t ht hW => ⟨⟨r4, (), rfl, h_r4, by rw [ht]; exact hP9, hD9⟩, hS.F ht⟩) hS.2.2 dX1_heardBy_25
  · have hq1 : a2.toInt < vf_gap.toInt := tq_nle rfl rfl hc
    refine lv_iconst (v := (-1)) hx hb dX1_heardBy_8 (by decide) ?_
    refine lv_goto (tgt := 25) hx hb dX1_heardBy_9 (by decide) ?_
    obtain ⟨hP9, hD9⟩ : ct_B D A H [fo qf qf_places qf_steps qf_stumbleIn vf_gap vf_calmLength vf_calmStart, (qf_steps, .inl (cI, 400, .inl (ff_steps)))] := ⟨hP.sub [0, 1] rfl, hD.sub [0, 1] (by decide) rfl⟩
    exact W.iret (v := (-1)) hx hb hr (fun t ht hW => ⟨⟨(-1), (), rfl, (show (-1) ≤ (-1 : Int32).toInt ∧ (-1 : Int32).toInt ≤ 5 by decide), by rw [ht]; exact hP9, hD9⟩, hS.F ht⟩) hS.2.2 dX1_heardBy_25
abbrev w_c_X1_gapes (cI cJ cB cZ cO : ClassId) (qf : Nat) (qf_places : Nat) (qf_steps : Nat) (ff_steps : Nat → Int32) (qf_stumbleIn : Nat) (vf_gap : Int32) (vf_calmLength : Int32) (vf_calmStart : Int32) (qd : Nat) (vd_gap : Int32) (vd_odds : Int32) (vd_rain : Int32) (vd_lines : Int32) (qd_steps : Nat) (qd_lengths : Nat) (qd_starts : Nat) (qd_met : Nat) (fd_met : Nat → Int32) (qd_stumbles : Nat) (vd_stumbleCount : Int32) (qd_muds : Nat) (qd_cells : Nat) (vd_cellCount : Int32) (qd_tunes : Nat) (vd_tuneCount : Int32) (qd_changes : Nat) (vd_changeCount : Int32) : va_W := [fo qf qf_places qf_steps qf_stumbleIn vf_gap vf_calmLength vf_calmStart, (qf_steps, .inl (cI, 400, .inl (ff_steps))), dn qd vd_gap vd_odds vd_rain vd_lines qd_steps qd_lengths qd_starts qd_met qd_stumbles vd_stumbleCount qd_muds qd_cells vd_cellCount qd_tunes vd_tuneCount qd_changes vd_changeCount, (qd_met, .inl (cI, 6, .inl (fd_met)))]
set_option maxHeartbeats 4000000 in
set_option maxRecDepth 100000 in
/-- X1 gapes -/
theorem c_X1_gapes (l : Launch) (D : va_G) (G : ct_G) (cI cJ cB cZ cO : ClassId) (qf : Nat) (qf_places : Nat) (qf_steps : Nat) (ff_steps : Nat → Int32) (qf_stumbleIn : Nat) (vf_gap : Int32) (vf_calmLength : Int32) (vf_calmStart : Int32) (qd : Nat) (vd_gap : Int32) (vd_odds : Int32) (vd_rain : Int32) (vd_lines : Int32) (qd_steps : Nat) (qd_lengths : Nat) (qd_starts : Nat) (qd_met : Nat) (fd_met : Nat → Int32) (qd_stumbles : Nat) (vd_stumbleCount : Int32) (qd_muds : Nat) (qd_cells : Nat) (vd_cellCount : Int32) (qd_tunes : Nat) (vd_tuneCount : Int32) (qd_changes : Nat) (vd_changeCount : Int32) (a2 : Int32) (a3 : Int32) (h_ff_steps : ar_ok [(-1)] [5] ff_steps) (h_vf_gap : 0 ≤ vf_gap.toInt ∧ vf_gap.toInt ≤ 20) (h_vd_gap : 0 ≤ vd_gap.toInt ∧ vd_gap.toInt ≤ 20) (h_vd_stumbleCount : 0 ≤ vd_stumbleCount.toInt ∧ vd_stumbleCount.toInt ≤ 8) (h_vd_cellCount : 0 ≤ vd_cellCount.toInt ∧ vd_cellCount.toInt ≤ 12) (h_vd_tuneCount : 0 ≤ vd_tuneCount.toInt ∧ vd_tuneCount.toInt ≤ 5) (h_vd_changeCount : 0 ≤ vd_changeCount.toInt ∧ vd_changeCount.toInt ≤ 40) (h_a2 : 0 ≤ a2.toInt ∧ a2.toInt ≤ 1) (h_a3 : 0 ≤ a3.toInt ∧ a3.toInt ≤ 199) (sz : Nat) : Met l yX1_gapes wsX1_gapes ({ frames := 2, cells := 0, slots := 0, locals := 44 }) (va_Pc [.ref qf, .ref qd, .int a2, .int a3] (ct_P D (ct_T cI cJ cB cZ cO) G (w_c_X1_gapes cI cJ cB cZ cO qf qf_places qf_steps ff_steps qf_stumbleIn vf_gap vf_calmLength vf_calmStart qd vd_gap vd_odds vd_rain vd_lines qd_steps qd_lengths qd_starts qd_met fd_met qd_stumbles vd_stumbleCount qd_muds qd_cells vd_cellCount qd_tunes vd_tuneCount qd_changes vd_changeCount) sz)) (va_Qi (fun (rz : Int32) (u : Unit) => ((rz = 1 ∧ True) ∨ (rz = 0 ∧ True))) (fun (u : Unit) t => ct_Q D (va_A (w_c_X1_gapes cI cJ cB cZ cO qf qf_places qf_steps ff_steps qf_stumbleIn vf_gap vf_calmLength vf_calmStart qd vd_gap vd_odds vd_rain vd_lines qd_steps qd_lengths qd_starts qd_met fd_met qd_stumbles vd_stumbleCount qd_muds qd_cells vd_cellCount qd_tunes vd_tuneCount qd_changes vd_changeCount) sz) [fo qf qf_places qf_steps qf_stumbleIn vf_gap vf_calmLength vf_calmStart, (qf_steps, .inl (cI, 400, .inl (ff_steps))), dn qd vd_gap vd_odds vd_rain vd_lines qd_steps qd_lengths qd_starts qd_met qd_stumbles vd_stumbleCount qd_muds qd_cells vd_cellCount qd_tunes vd_tuneCount qd_changes vd_changeCount, (qd_met, .inl (cI, 6, .inl (fd_met)))] t) (va_A (w_c_X1_gapes cI cJ cB cZ cO qf qf_places qf_steps ff_steps qf_stumbleIn vf_gap vf_calmLength vf_calmStart qd vd_gap vd_odds vd_rain vd_lines qd_steps qd_lengths qd_starts qd_met fd_met qd_stumbles vd_stumbleCount qd_muds qd_cells vd_cellCount qd_tunes vd_tuneCount qd_changes vd_changeCount) sz)) 0 0 (va_A (w_c_X1_gapes cI cJ cB cZ cO qf qf_places qf_steps ff_steps qf_stumbleIn vf_gap vf_calmLength vf_calmStart qd vd_gap vd_odds vd_rain vd_lines qd_steps qd_lengths qd_starts qd_met fd_met qd_stumbles vd_stumbleCount qd_muds qd_cells vd_cellCount qd_tunes vd_tuneCount qd_changes vd_changeCount) sz) := by
  refine Met.ofW (cc := cX1_gapes) (maxL := 4) (ret := (some .boolean)) (by decide) rfl ?_
  intro p e s m args below meth c s₁ B hml hv
  obtain ⟨rfl, hsz, hP, hE, hD0, hH⟩ := hv
  have hx := B.exec
  have hb := B.bytes
  have hr := B.returns
  have hts := atoms_spec (ws := wsX1_gapes) B.pre
  have hown : s.vm.findClass RX1 = some m.cls := findClass_of_methodNamed B.named
  have hlocks := B.notSynchronized
  have hK := hE.1
  subst hsz
  have hD := hD0.self (sz := s.heap.size)
  generalize hAe : va_A (w_c_X1_gapes cI cJ cB cZ cO qf qf_places qf_steps ff_steps qf_stumbleIn vf_gap vf_calmLength vf_calmStart qd vd_gap vd_odds vd_rain vd_lines qd_steps qd_lengths qd_starts qd_met fd_met qd_stumbles vd_stumbleCount qd_muds qd_cells vd_cellCount qd_tunes vd_tuneCount qd_changes vd_changeCount) s.heap.size = A at hD hH ⊢
  have hA : ∀ q : Nat, s.heap.size ≤ q → A q := fun q h => by rw [← hAe]; exact Or.inr h
  have hS : va_S A s.heap s.heap [] := va_S.rf
  obtain ⟨hP, hD⟩ : ct_B D A s.heap [fo qf qf_places qf_steps qf_stumbleIn vf_gap vf_calmLength vf_calmStart, (qf_steps, .inl (cI, 400, .inl (ff_steps))), dn qd vd_gap vd_odds vd_rain vd_lines qd_steps qd_lengths qd_starts qd_met qd_stumbles vd_stumbleCount qd_muds qd_cells vd_cellCount qd_tunes vd_tuneCount qd_changes vd_changeCount, (qd_met, .inl (cI, 6, .inl (fd_met)))] := ⟨hP, hD⟩
  have hl := lv_entry ([.ref qf, .ref qd, .int a2, .int a3]) (n := 4) (Nat.le_of_ble_eq_true rfl)
  rw [lg_entry_eq]
  generalize (lg_sl ([.ref qf, .ref qd, .int a2, .int a3]) ++ List.replicate (4 - (lg_sl ([.ref qf, .ref qd, .int a2, .int a3])).length) Slot.unset).toArray = ls at hl ⊢
  have hl : lv_has ls 4 [(0, .ref qf), (1, .ref qd), (2, .int a2), (3, .int a3)] := hl
  obtain ⟨H, hHe⟩ : ∃ H : Heap, H = s.heap := ⟨_, rfl⟩
  rw [← hHe] at hP
  have hS : va_S A s.heap H [] := by rw [hHe]; exact va_S.rf
  refine ct_start hHe ?_
  refine lv_aload_n hx hb dX1_gapes_0 rfl (lv_at hl 1 rfl) ?_
  refine lv_aload_n hx hb dX1_gapes_1 rfl (lv_at hl 0 rfl) ?_
  refine lv_iload_n hx hb dX1_gapes_2 rfl (lv_at hl 2 rfl) ?_
  refine lv_iload_n hx hb dX1_gapes_3 rfl (lv_at hl 3 rfl) ?_
  refine ct_calli (D := D) (wr := [dn qd vd_gap vd_odds vd_rain vd_lines qd_steps qd_lengths qd_starts qd_met qd_stumbles vd_stumbleCount qd_muds qd_cells vd_cellCount qd_tunes vd_tuneCount qd_changes vd_changeCount, (qd_met, .inl (cI, 6, .inl (fd_met)))]) (va_runV (As := [.int a2, .int a3]) (rest := [.ref qd]) ⟨hx, hb, hml, hown, hts⟩ (c_X1_stepOf l D G cI cJ cB cZ cO qf qf_places qf_steps ff_steps qf_stumbleIn vf_gap vf_calmLength vf_calmStart a2 a3 h_ff_steps h_vf_gap h_a2 h_a3 H.size) (cwV 2 hts gX1_gapes_X1_stepOf rfl rfl rfl (by decide +kernel) ⟨Nat.le_of_ble_eq_true rfl, Nat.le_of_ble_eq_true rfl⟩) (ct_preV (T := ct_T cI cJ cB cZ cO) (ci := 1) (q0 := 0) hE hH hP hD hS hA [0, 1] (by decide) rfl rfl rfl) rfl rfl hl.1 rfl (lv_room (Nat.le_of_ble_eq_true rfl)) dX1_gapes_4 ⟨Nat.le_of_ble_eq_true rfl, Nat.le_of_ble_eq_true rfl⟩) hP hD hS hA [0, 1] [2, 3] rfl rfl (by decide) (by decide) (fun r1 u H locs hw hP hD hS => ?_)
  obtain ⟨hP, hD⟩ : ct_B D A H [dn qd vd_gap vd_odds vd_rain vd_lines qd_steps qd_lengths qd_starts qd_met qd_stumbles vd_stumbleCount qd_muds qd_cells vd_cellCount qd_tunes vd_tuneCount qd_changes vd_changeCount, (qd_met, .inl (cI, 6, .inl (fd_met))), fo qf qf_places qf_steps qf_stumbleIn vf_gap vf_calmLength vf_calmStart, (qf_steps, .inl (cI, 400, .inl (ff_steps)))] := ⟨hP, hD⟩
  have hz := hw
  have h_r1 : (-1) ≤ r1.toInt ∧ r1.toInt ≤ 5 := hz
  refine lv_aload_n hx hb dX1_gapes_7 rfl (lv_at hl 0 rfl) ?_
  refine lv_iload_n hx hb dX1_gapes_8 rfl (lv_at hl 2 rfl) ?_
  refine lv_iload_n hx hb dX1_gapes_9 rfl (lv_at hl 3 rfl) ?_
  refine ct_calli (D := D) (wr := [dn qd vd_gap vd_odds vd_rain vd_lines qd_steps qd_lengths qd_starts qd_met qd_stumbles vd_stumbleCount qd_muds qd_cells vd_cellCount qd_tunes vd_tuneCount qd_changes vd_changeCount, (qd_met, .inl (cI, 6, .inl (fd_met)))]) (va_runV (As := [.int a2, .int a3]) (rest := [.int r1, .ref qd]) ⟨hx, hb, hml, hown, hts⟩ (c_X1_heardBy l D G cI cJ cB cZ cO qf qf_places qf_steps ff_steps qf_stumbleIn vf_gap vf_calmLength vf_calmStart a2 a3 h_ff_steps h_vf_gap h_a2 h_a3 H.size) (cwV 2 hts gX1_gapes_X1_heardBy rfl rfl rfl (by decide +kernel) ⟨Nat.le_of_ble_eq_true rfl, Nat.le_of_ble_eq_true rfl⟩) (ct_preV (T := ct_T cI cJ cB cZ cO) (ci := 1) (q0 := 2) hE hH hP hD hS hA [2, 3] (by decide) rfl rfl rfl) rfl rfl hl.1 rfl (lv_room (Nat.le_of_ble_eq_true rfl)) dX1_gapes_10 ⟨Nat.le_of_ble_eq_true rfl, Nat.le_of_ble_eq_true rfl⟩) hP hD hS hA [2, 3] [0, 1] rfl rfl (by decide) (by decide) (fun r2 u H locs hw hP hD hS => ?_)
  obtain ⟨hP, hD⟩ : ct_B D A H [dn qd vd_gap vd_odds vd_rain vd_lines qd_steps qd_lengths qd_starts qd_met qd_stumbles vd_stumbleCount qd_muds qd_cells vd_cellCount qd_tunes vd_tuneCount qd_changes vd_changeCount, (qd_met, .inl (cI, 6, .inl (fd_met))), fo qf qf_places qf_steps qf_stumbleIn vf_gap vf_calmLength vf_calmStart, (qf_steps, .inl (cI, 400, .inl (ff_steps)))] := ⟨hP, hD⟩
  have hz := hw
  have h_r2 : (-1) ≤ r2.toInt ∧ r2.toInt ≤ 5 := hz
  refine ct_calli (D := D) (wr := [fo qf qf_places qf_steps qf_stumbleIn vf_gap vf_calmLength vf_calmStart, (qf_steps, .inl (cI, 400, .inl (ff_steps)))]) (va_runV (As := [.int r1, .int r2]) (rest := []) ⟨hx, hb, hml, hown, hts⟩ (c_X0_isHole l D G cI cJ cB cZ cO qd vd_gap vd_odds vd_rain vd_lines qd_steps qd_lengths qd_starts qd_met fd_met qd_stumbles vd_stumbleCount qd_muds qd_cells vd_cellCount qd_tunes vd_tuneCount qd_changes vd_changeCount r1 r2 h_vd_gap h_vd_stumbleCount h_vd_cellCount h_vd_tuneCount h_vd_changeCount h_r1 H.size) (cwV 2 hts gX1_gapes_X0_isHole rfl rfl rfl (by decide +kernel) ⟨Nat.le_of_ble_eq_true rfl, Nat.le_of_ble_eq_true rfl⟩) (ct_preV (T := ct_T cI cJ cB cZ cO) (ci := 0) (q0 := 0) hE hH hP hD hS hA [0, 1] (by decide) rfl rfl rfl) rfl rfl hl.1 rfl (lv_room (Nat.le_of_ble_eq_true rfl)) dX1_gapes_13 ⟨Nat.le_of_ble_eq_true rfl, Nat.le_of_ble_eq_true rfl⟩) hP hD hS hA [0, 1] [2, 3] rfl rfl (by decide) (by decide) (fun r3 u H locs hw hP hD hS => ?_)
  obtain ⟨hP, hD⟩ : ct_B D A H [fo qf qf_places qf_steps qf_stumbleIn vf_gap vf_calmLength vf_calmStart, (qf_steps, .inl (cI, 400, .inl (ff_steps))), dn qd vd_gap vd_odds vd_rain vd_lines qd_steps qd_lengths qd_starts qd_met qd_stumbles vd_stumbleCount qd_muds qd_cells vd_cellCount qd_tunes vd_tuneCount qd_changes vd_changeCount, (qd_met, .inl (cI, 6, .inl (fd_met)))] := ⟨hP, hD⟩
  have hz := hw
  rcases hz with ⟨hz, hz2⟩ | ⟨hz, hz2⟩
  · subst hz
    obtain ⟨hP9, hD9⟩ : ct_B D A H [fo qf qf_places qf_steps qf_stumbleIn vf_gap vf_calmLength vf_calmStart, (qf_steps, .inl (cI, 400, .inl (ff_steps))), dn qd vd_gap vd_odds vd_rain vd_lines qd_steps qd_lengths qd_starts qd_met qd_stumbles vd_stumbleCount qd_muds qd_cells vd_cellCount qd_tunes vd_tuneCount qd_changes vd_changeCount, (qd_met, .inl (cI, 6, .inl (fd_met)))] := ⟨hP.sub [0, 1, 2, 3] rfl, hD.sub [0, 1, 2, 3] (by decide) rfl⟩
    exact W.zret (v := 1) (ty := .boolean) hx hb hr rfl (fun t ht hW => ⟨⟨1, (), rfl, (Or.inl ⟨rfl, trivial⟩), by rw [ht]; exact hP9, hD9⟩, hS.F ht⟩) hS.2.2 dX1_gapes_16
  · subst hz
    obtain ⟨hP9, hD9⟩ : ct_B D A H [fo qf qf_places qf_steps qf_stumbleIn vf_gap vf_calmLength vf_calmStart, (qf_steps, .inl (cI, 400, .inl (ff_steps))), dn qd vd_gap vd_odds vd_rain vd_lines qd_steps qd_lengths qd_starts qd_met qd_stumbles vd_stumbleCount qd_muds qd_cells vd_cellCount qd_tunes vd_tuneCount qd_changes vd_changeCount, (qd_met, .inl (cI, 6, .inl (fd_met)))] := ⟨hP.sub [0, 1, 2, 3] rfl, hD.sub [0, 1, 2, 3] (by decide) rfl⟩
    exact W.zret (v := 0) (ty := .boolean) hx hb hr rfl (fun t ht hW => ⟨⟨0, (), rfl, (Or.inr (⟨rfl, trivial⟩)), by rw [ht]; exact hP9, hD9⟩, hS.F ht⟩) hS.2.2 dX1_gapes_16
abbrev w_c_X1_countHoles (cI cJ cB cZ cO : ClassId) (qf : Nat) (qf_places : Nat) (qf_steps : Nat) (ff_steps : Nat → Int32) (qf_stumbleIn : Nat) (vf_gap : Int32) (vf_calmLength : Int32) (vf_calmStart : Int32) (qd : Nat) (vd_gap : Int32) (vd_odds : Int32) (vd_rain : Int32) (vd_lines : Int32) (qd_steps : Nat) (qd_lengths : Nat) (qd_starts : Nat) (qd_met : Nat) (fd_met : Nat → Int32) (qd_stumbles : Nat) (vd_stumbleCount : Int32) (qd_muds : Nat) (qd_cells : Nat) (vd_cellCount : Int32) (qd_tunes : Nat) (vd_tuneCount : Int32) (qd_changes : Nat) (vd_changeCount : Int32) : va_W := [fo qf qf_places qf_steps qf_stumbleIn vf_gap vf_calmLength vf_calmStart, (qf_steps, .inl (cI, 400, .inl (ff_steps))), dn qd vd_gap vd_odds vd_rain vd_lines qd_steps qd_lengths qd_starts qd_met qd_stumbles vd_stumbleCount qd_muds qd_cells vd_cellCount qd_tunes vd_tuneCount qd_changes vd_changeCount, (qd_met, .inl (cI, 6, .inl (fd_met)))]
set_option maxHeartbeats 4000000 in
set_option maxRecDepth 100000 in
/-- X1 countHoles -/
theorem c_X1_countHoles (l : Launch) (D : va_G) (G : ct_G) (cI cJ cB cZ cO : ClassId) (qf : Nat) (qf_places : Nat) (qf_steps : Nat) (ff_steps : Nat → Int32) (qf_stumbleIn : Nat) (vf_gap : Int32) (vf_calmLength : Int32) (vf_calmStart : Int32) (qd : Nat) (vd_gap : Int32) (vd_odds : Int32) (vd_rain : Int32) (vd_lines : Int32) (qd_steps : Nat) (qd_lengths : Nat) (qd_starts : Nat) (qd_met : Nat) (fd_met : Nat → Int32) (qd_stumbles : Nat) (vd_stumbleCount : Int32) (qd_muds : Nat) (qd_cells : Nat) (vd_cellCount : Int32) (qd_tunes : Nat) (vd_tuneCount : Int32) (qd_changes : Nat) (vd_changeCount : Int32) (a2 : Int32) (a3 : Int32) (a4 : Int32) (h_ff_steps : ar_ok [(-1)] [5] ff_steps) (h_vf_gap : 0 ≤ vf_gap.toInt ∧ vf_gap.toInt ≤ 20) (h_vd_gap : 0 ≤ vd_gap.toInt ∧ vd_gap.toInt ≤ 20) (h_vd_stumbleCount : 0 ≤ vd_stumbleCount.toInt ∧ vd_stumbleCount.toInt ≤ 8) (h_vd_cellCount : 0 ≤ vd_cellCount.toInt ∧ vd_cellCount.toInt ≤ 12) (h_vd_tuneCount : 0 ≤ vd_tuneCount.toInt ∧ vd_tuneCount.toInt ≤ 5) (h_vd_changeCount : 0 ≤ vd_changeCount.toInt ∧ vd_changeCount.toInt ≤ 40) (h_a2 : 0 ≤ a2.toInt ∧ a2.toInt ≤ 1) (h_a3 : 0 ≤ a3.toInt ∧ a3.toInt ≤ 199) (h_a4 : 0 ≤ a4.toInt ∧ a4.toInt ≤ 199) (sz : Nat) : Met l yX1_countHoles wsX1_countHoles ({ frames := 3, cells := 0, slots := 0, locals := 67 }) (va_Pc [.ref qf, .ref qd, .int a2, .int a3, .int a4] (ct_P D (ct_T cI cJ cB cZ cO) G (w_c_X1_countHoles cI cJ cB cZ cO qf qf_places qf_steps ff_steps qf_stumbleIn vf_gap vf_calmLength vf_calmStart qd vd_gap vd_odds vd_rain vd_lines qd_steps qd_lengths qd_starts qd_met fd_met qd_stumbles vd_stumbleCount qd_muds qd_cells vd_cellCount qd_tunes vd_tuneCount qd_changes vd_changeCount) sz)) (va_Qi (fun (rz : Int32) (u : Unit) => True) (fun (u : Unit) t => ct_Q D (va_A (w_c_X1_countHoles cI cJ cB cZ cO qf qf_places qf_steps ff_steps qf_stumbleIn vf_gap vf_calmLength vf_calmStart qd vd_gap vd_odds vd_rain vd_lines qd_steps qd_lengths qd_starts qd_met fd_met qd_stumbles vd_stumbleCount qd_muds qd_cells vd_cellCount qd_tunes vd_tuneCount qd_changes vd_changeCount) sz) [fo qf qf_places qf_steps qf_stumbleIn vf_gap vf_calmLength vf_calmStart, (qf_steps, .inl (cI, 400, .inl (ff_steps))), dn qd vd_gap vd_odds vd_rain vd_lines qd_steps qd_lengths qd_starts qd_met qd_stumbles vd_stumbleCount qd_muds qd_cells vd_cellCount qd_tunes vd_tuneCount qd_changes vd_changeCount, (qd_met, .inl (cI, 6, .inl (fd_met)))] t) (va_A (w_c_X1_countHoles cI cJ cB cZ cO qf qf_places qf_steps ff_steps qf_stumbleIn vf_gap vf_calmLength vf_calmStart qd vd_gap vd_odds vd_rain vd_lines qd_steps qd_lengths qd_starts qd_met fd_met qd_stumbles vd_stumbleCount qd_muds qd_cells vd_cellCount qd_tunes vd_tuneCount qd_changes vd_changeCount) sz)) 0 0 (va_A (w_c_X1_countHoles cI cJ cB cZ cO qf qf_places qf_steps ff_steps qf_stumbleIn vf_gap vf_calmLength vf_calmStart qd vd_gap vd_odds vd_rain vd_lines qd_steps qd_lengths qd_starts qd_met fd_met qd_stumbles vd_stumbleCount qd_muds qd_cells vd_cellCount qd_tunes vd_tuneCount qd_changes vd_changeCount) sz) := by
  refine Met.ofW (cc := cX1_countHoles) (maxL := 7) (ret := (some .int)) (by decide) rfl ?_
  intro p e s m args below meth c s₁ B hml hv
  obtain ⟨rfl, hsz, hP, hE, hD0, hH⟩ := hv
  have hx := B.exec
  have hb := B.bytes
  have hr := B.returns
  have hts := atoms_spec (ws := wsX1_countHoles) B.pre
  have hown : s.vm.findClass RX1 = some m.cls := findClass_of_methodNamed B.named
  have hlocks := B.notSynchronized
  have hK := hE.1
  subst hsz
  have hD := hD0.self (sz := s.heap.size)
  generalize hAe : va_A (w_c_X1_countHoles cI cJ cB cZ cO qf qf_places qf_steps ff_steps qf_stumbleIn vf_gap vf_calmLength vf_calmStart qd vd_gap vd_odds vd_rain vd_lines qd_steps qd_lengths qd_starts qd_met fd_met qd_stumbles vd_stumbleCount qd_muds qd_cells vd_cellCount qd_tunes vd_tuneCount qd_changes vd_changeCount) s.heap.size = A at hD hH ⊢
  have hA : ∀ q : Nat, s.heap.size ≤ q → A q := fun q h => by rw [← hAe]; exact Or.inr h
  have hS : va_S A s.heap s.heap [] := va_S.rf
  obtain ⟨hP, hD⟩ : ct_B D A s.heap [fo qf qf_places qf_steps qf_stumbleIn vf_gap vf_calmLength vf_calmStart, (qf_steps, .inl (cI, 400, .inl (ff_steps))), dn qd vd_gap vd_odds vd_rain vd_lines qd_steps qd_lengths qd_starts qd_met qd_stumbles vd_stumbleCount qd_muds qd_cells vd_cellCount qd_tunes vd_tuneCount qd_changes vd_changeCount, (qd_met, .inl (cI, 6, .inl (fd_met)))] := ⟨hP, hD⟩
  have hl := lv_entry ([.ref qf, .ref qd, .int a2, .int a3, .int a4]) (n := 7) (Nat.le_of_ble_eq_true rfl)
  rw [lg_entry_eq]
  generalize (lg_sl ([.ref qf, .ref qd, .int a2, .int a3, .int a4]) ++ List.replicate (7 - (lg_sl ([.ref qf, .ref qd, .int a2, .int a3, .int a4])).length) Slot.unset).toArray = ls at hl ⊢
  have hl : lv_has ls 7 [(0, .ref qf), (1, .ref qd), (2, .int a2), (3, .int a3), (4, .int a4)] := hl
  obtain ⟨H, hHe⟩ : ∃ H : Heap, H = s.heap := ⟨_, rfl⟩
  rw [← hHe] at hP
  have hS : va_S A s.heap H [] := by rw [hHe]; exact va_S.rf
  refine ct_start hHe ?_
  refine lv_iconst (v := 0) hx hb dX1_countHoles_0 (by decide) ?_
  refine lv_istore (lv' := [(5, .int 0), (0, .ref qf), (1, .ref qd), (2, .int a2), (3, .int a3), (4, .int a4)]) hx hb dX1_countHoles_1 hl (by decide) rfl (fun ls hl => ?_)
  refine lv_iload_n hx hb dX1_countHoles_3 rfl (lv_at hl 4 rfl) ?_
  refine lv_istore (lv' := [(6, .int a3), (5, .int 0), (0, .ref qf), (1, .ref qd), (2, .int a2), (3, .int a3), (4, .int a4)]) hx hb dX1_countHoles_4 hl (by decide) rfl (fun ls hl => ?_)
  refine ct_loop (X := Int32 × Int32) (fun x => (200 - x.2.toInt).toNat) (fun x H locs ls => ((0 ≤ x.2.toInt ∧ x.2.toInt ≤ 200)) ∧ ct_B D A H [fo qf qf_places qf_steps qf_stumbleIn vf_gap vf_calmLength vf_calmStart, (qf_steps, .inl (cI, 400, .inl (ff_steps))), dn qd vd_gap vd_odds vd_rain vd_lines qd_steps qd_lengths qd_starts qd_met qd_stumbles vd_stumbleCount qd_muds qd_cells vd_cellCount qd_tunes vd_tuneCount qd_changes vd_changeCount, (qd_met, .inl (cI, 6, .inl (fd_met)))] ∧ va_S A s.heap H locs ∧ lv_has ls 7 [(6, .int x.2), (5, .int x.1), (0, .ref qf), (1, .ref qd), (2, .int a2), (3, .int a3), (4, .int a4)]) 6 ((0 : Int32), a3) ⟨(show 0 ≤ a3.toInt ∧ a3.toInt ≤ 200 by omega), ⟨hP, hD⟩, hS, lv_sub hl [0, 1, 2, 3, 4, 5, 6] rfl⟩ (fun x ih119 H locs ls hI => ?_)
  obtain ⟨x117, x118⟩ := x
  obtain ⟨h_x118, ⟨hP, hD⟩, hS, hl⟩ := hI
  have h_x118 : (0 ≤ x118.toInt ∧ x118.toInt ≤ 200) := h_x118
  obtain ⟨hP, hD⟩ : ct_B D A H [fo qf qf_places qf_steps qf_stumbleIn vf_gap vf_calmLength vf_calmStart, (qf_steps, .inl (cI, 400, .inl (ff_steps))), dn qd vd_gap vd_odds vd_rain vd_lines qd_steps qd_lengths qd_starts qd_met qd_stumbles vd_stumbleCount qd_muds qd_cells vd_cellCount qd_tunes vd_tuneCount qd_changes vd_changeCount, (qd_met, .inl (cI, 6, .inl (fd_met)))] := ⟨hP, hD⟩
  have hl : lv_has ls 7 [(6, .int x118), (5, .int x117), (0, .ref qf), (1, .ref qd), (2, .int a2), (3, .int a3), (4, .int a4)] := hl
  refine lv_iload hx hb dX1_countHoles_6 (lv_at hl 0 rfl) ?_
  refine lv_iload hx hb dX1_countHoles_8 (lv_at hl 6 rfl) ?_
  refine lv_icmp_gt (tgt := 33) hx hb dX1_countHoles_10 (by decide) (fun hc => ?_) (fun hc => ?_)
  · have hq120 : a4.toInt < x118.toInt := tq_lt rfl rfl hc
    refine lv_iload hx hb dX1_countHoles_33 (lv_at hl 1 rfl) ?_
    obtain ⟨hP9, hD9⟩ : ct_B D A H [fo qf qf_places qf_steps qf_stumbleIn vf_gap vf_calmLength vf_calmStart, (qf_steps, .inl (cI, 400, .inl (ff_steps))), dn qd vd_gap vd_odds vd_rain vd_lines qd_steps qd_lengths qd_starts qd_met qd_stumbles vd_stumbleCount qd_muds qd_cells vd_cellCount qd_tunes vd_tuneCount qd_changes vd_changeCount, (qd_met, .inl (cI, 6, .inl (fd_met)))] := ⟨hP.sub [0, 1, 2, 3] rfl, hD.sub [0, 1, 2, 3] (by decide) rfl⟩
    exact W.iret (v := x117) hx hb hr (fun t ht hW => ⟨⟨x117, (), rfl, trivial, by rw [ht]; exact hP9, hD9⟩, hS.F ht⟩) hS.2.2 dX1_countHoles_35
  · have hq120 : x118.toInt ≤ a4.toInt := tq_nlt rfl rfl hc
    refine lv_aload_n hx hb dX1_countHoles_13 rfl (lv_at hl 2 rfl) ?_
    refine lv_aload_n hx hb dX1_countHoles_14 rfl (lv_at hl 3 rfl) ?_
    refine lv_iload_n hx hb dX1_countHoles_15 rfl (lv_at hl 4 rfl) ?_
    refine lv_iload hx hb dX1_countHoles_16 (lv_at hl 0 rfl) ?_
    refine ct_calli (D := D) (wr := []) (va_runV (As := [.ref qd, .int a2, .int x118]) (rest := []) ⟨hx, hb, hml, hown, hts⟩ (c_X1_gapes l D G cI cJ cB cZ cO qf qf_places qf_steps ff_steps qf_stumbleIn vf_gap vf_calmLength vf_calmStart qd vd_gap vd_odds vd_rain vd_lines qd_steps qd_lengths qd_starts qd_met fd_met qd_stumbles vd_stumbleCount qd_muds qd_cells vd_cellCount qd_tunes vd_tuneCount qd_changes vd_changeCount a2 x118 h_ff_steps h_vf_gap h_vd_gap h_vd_stumbleCount h_vd_cellCount h_vd_tuneCount h_vd_changeCount h_a2 (by omega) H.size) (cwV 3 hts gX1_countHoles_X1_gapes rfl rfl rfl (by decide +kernel) ⟨Nat.le_of_ble_eq_true rfl, Nat.le_of_ble_eq_true rfl⟩) (ct_preV (T := ct_T cI cJ cB cZ cO) (ci := 1) (q0 := 0) hE hH hP hD hS hA [0, 1, 2, 3] (by decide) rfl rfl rfl) rfl rfl hl.1 rfl (lv_room (Nat.le_of_ble_eq_true rfl)) dX1_countHoles_18 ⟨Nat.le_of_ble_eq_true rfl, Nat.le_of_ble_eq_true rfl⟩) hP hD hS hA [0, 1, 2, 3] [] rfl rfl (by decide) (by decide) (fun r121 u H locs hw hP hD hS => ?_)
    obtain ⟨hP, hD⟩ : ct_B D A H [fo qf qf_places qf_steps qf_stumbleIn vf_gap vf_calmLength vf_calmStart, (qf_steps, .inl (cI, 400, .inl (ff_steps))), dn qd vd_gap vd_odds vd_rain vd_lines qd_steps qd_lengths qd_starts qd_met qd_stumbles vd_stumbleCount qd_muds qd_cells vd_cellCount qd_tunes vd_tuneCount qd_changes vd_changeCount, (qd_met, .inl (cI, 6, .inl (fd_met)))] := ⟨hP, hD⟩
    have hz := hw
    rcases hz with ⟨hz, hz2⟩ | ⟨hz, hz2⟩
    · subst hz
      refine lv_if_eq (tgt := 27) hx hb dX1_countHoles_21 (by decide) (fun hc => absurd hc (by decide)) (fun _ => ?_)
      obtain ⟨z122, ez122⟩ : ∃ z : Int32, z = x117 + 1 := ⟨_, rfl⟩
      refine lv_iinc (v := z122) (lv' := [(5, .int z122), (6, .int x118), (0, .ref qf), (1, .ref qd), (2, .int a2), (3, .int a3), (4, .int a4)]) hx hb dX1_countHoles_24 hl (k := 1) rfl ez122.symm (by decide) rfl (fun ls hl => ?_)
      obtain ⟨z123, ez123⟩ : ∃ z : Int32, z = x118 + 1 := ⟨_, rfl⟩
      have fz123 : z123.toInt = x118.toInt + 1 := by rw [ez123]; exact tq_add rfl (by decide) (by omega)
      refine lv_iinc (v := z123) (lv' := [(6, .int z123), (5, .int z122), (0, .ref qf), (1, .ref qd), (2, .int a2), (3, .int a3), (4, .int a4)]) hx hb dX1_countHoles_27 hl (k := 1) rfl ez123.symm (by decide) rfl (fun ls hl => ?_)
      refine lv_goto (tgt := 6) hx hb dX1_countHoles_30 (by decide) ?_
      exact ih119 (z122, z123) _ _ _ (show (200 - z123.toInt).toNat < (200 - x118.toInt).toNat by omega) ⟨(show 0 ≤ z123.toInt ∧ z123.toInt ≤ 200 by omega), ⟨hP, hD⟩, hS, lv_sub hl [0, 1, 2, 3, 4, 5, 6] rfl⟩
    · subst hz
      refine lv_if_eq (tgt := 27) hx hb dX1_countHoles_21 (by decide) (fun _ => ?_) (fun hc => absurd hc (by decide))
      obtain ⟨z124, ez124⟩ : ∃ z : Int32, z = x118 + 1 := ⟨_, rfl⟩
      have fz124 : z124.toInt = x118.toInt + 1 := by rw [ez124]; exact tq_add rfl (by decide) (by omega)
      refine lv_iinc (v := z124) (lv' := [(6, .int z124), (5, .int x117), (0, .ref qf), (1, .ref qd), (2, .int a2), (3, .int a3), (4, .int a4)]) hx hb dX1_countHoles_27 hl (k := 0) rfl ez124.symm (by decide) rfl (fun ls hl => ?_)
      refine lv_goto (tgt := 6) hx hb dX1_countHoles_30 (by decide) ?_
      exact ih119 (x117, z124) _ _ _ (show (200 - z124.toInt).toNat < (200 - x118.toInt).toNat by omega) ⟨(show 0 ≤ z124.toInt ∧ z124.toInt ≤ 200 by omega), ⟨hP, hD⟩, hS, lv_sub hl [0, 1, 2, 3, 4, 5, 6] rfl⟩
abbrev w_c_X1_countAllHoles (cI cJ cB cZ cO : ClassId) (qf : Nat) (qf_places : Nat) (qf_steps : Nat) (ff_steps : Nat → Int32) (qf_stumbleIn : Nat) (vf_gap : Int32) (vf_calmLength : Int32) (vf_calmStart : Int32) (qd : Nat) (vd_gap : Int32) (vd_odds : Int32) (vd_rain : Int32) (vd_lines : Int32) (qd_steps : Nat) (qd_lengths : Nat) (qd_starts : Nat) (qd_met : Nat) (fd_met : Nat → Int32) (qd_stumbles : Nat) (vd_stumbleCount : Int32) (qd_muds : Nat) (qd_cells : Nat) (vd_cellCount : Int32) (qd_tunes : Nat) (vd_tuneCount : Int32) (qd_changes : Nat) (vd_changeCount : Int32) : va_W := [fo qf qf_places qf_steps qf_stumbleIn vf_gap vf_calmLength vf_calmStart, (qf_steps, .inl (cI, 400, .inl (ff_steps))), dn qd vd_gap vd_odds vd_rain vd_lines qd_steps qd_lengths qd_starts qd_met qd_stumbles vd_stumbleCount qd_muds qd_cells vd_cellCount qd_tunes vd_tuneCount qd_changes vd_changeCount, (qd_met, .inl (cI, 6, .inl (fd_met)))]
set_option maxHeartbeats 4000000 in
set_option maxRecDepth 100000 in
/-- X1 countAllHoles -/
theorem c_X1_countAllHoles (l : Launch) (D : va_G) (G : ct_G) (cI cJ cB cZ cO : ClassId) (qf : Nat) (qf_places : Nat) (qf_steps : Nat) (ff_steps : Nat → Int32) (qf_stumbleIn : Nat) (vf_gap : Int32) (vf_calmLength : Int32) (vf_calmStart : Int32) (qd : Nat) (vd_gap : Int32) (vd_odds : Int32) (vd_rain : Int32) (vd_lines : Int32) (qd_steps : Nat) (qd_lengths : Nat) (qd_starts : Nat) (qd_met : Nat) (fd_met : Nat → Int32) (qd_stumbles : Nat) (vd_stumbleCount : Int32) (qd_muds : Nat) (qd_cells : Nat) (vd_cellCount : Int32) (qd_tunes : Nat) (vd_tuneCount : Int32) (qd_changes : Nat) (vd_changeCount : Int32) (h_ff_steps : ar_ok [(-1)] [5] ff_steps) (h_vf_gap : 0 ≤ vf_gap.toInt ∧ vf_gap.toInt ≤ 20) (h_vd_gap : 0 ≤ vd_gap.toInt ∧ vd_gap.toInt ≤ 20) (h_vd_stumbleCount : 0 ≤ vd_stumbleCount.toInt ∧ vd_stumbleCount.toInt ≤ 8) (h_vd_cellCount : 0 ≤ vd_cellCount.toInt ∧ vd_cellCount.toInt ≤ 12) (h_vd_tuneCount : 0 ≤ vd_tuneCount.toInt ∧ vd_tuneCount.toInt ≤ 5) (h_vd_changeCount : 0 ≤ vd_changeCount.toInt ∧ vd_changeCount.toInt ≤ 40) (sz : Nat) : Met l yX1_countAllHoles wsX1_countAllHoles ({ frames := 4, cells := 0, slots := 0, locals := 93 }) (va_Pc [.ref qf, .ref qd] (ct_P D (ct_T cI cJ cB cZ cO) G (w_c_X1_countAllHoles cI cJ cB cZ cO qf qf_places qf_steps ff_steps qf_stumbleIn vf_gap vf_calmLength vf_calmStart qd vd_gap vd_odds vd_rain vd_lines qd_steps qd_lengths qd_starts qd_met fd_met qd_stumbles vd_stumbleCount qd_muds qd_cells vd_cellCount qd_tunes vd_tuneCount qd_changes vd_changeCount) sz)) (va_Qi (fun (rz : Int32) (u : Unit) => True) (fun (u : Unit) t => ct_Q D (va_A (w_c_X1_countAllHoles cI cJ cB cZ cO qf qf_places qf_steps ff_steps qf_stumbleIn vf_gap vf_calmLength vf_calmStart qd vd_gap vd_odds vd_rain vd_lines qd_steps qd_lengths qd_starts qd_met fd_met qd_stumbles vd_stumbleCount qd_muds qd_cells vd_cellCount qd_tunes vd_tuneCount qd_changes vd_changeCount) sz) [fo qf qf_places qf_steps qf_stumbleIn vf_gap vf_calmLength vf_calmStart, (qf_steps, .inl (cI, 400, .inl (ff_steps))), dn qd vd_gap vd_odds vd_rain vd_lines qd_steps qd_lengths qd_starts qd_met qd_stumbles vd_stumbleCount qd_muds qd_cells vd_cellCount qd_tunes vd_tuneCount qd_changes vd_changeCount, (qd_met, .inl (cI, 6, .inl (fd_met)))] t) (va_A (w_c_X1_countAllHoles cI cJ cB cZ cO qf qf_places qf_steps ff_steps qf_stumbleIn vf_gap vf_calmLength vf_calmStart qd vd_gap vd_odds vd_rain vd_lines qd_steps qd_lengths qd_starts qd_met fd_met qd_stumbles vd_stumbleCount qd_muds qd_cells vd_cellCount qd_tunes vd_tuneCount qd_changes vd_changeCount) sz)) 0 0 (va_A (w_c_X1_countAllHoles cI cJ cB cZ cO qf qf_places qf_steps ff_steps qf_stumbleIn vf_gap vf_calmLength vf_calmStart qd vd_gap vd_odds vd_rain vd_lines qd_steps qd_lengths qd_starts qd_met fd_met qd_stumbles vd_stumbleCount qd_muds qd_cells vd_cellCount qd_tunes vd_tuneCount qd_changes vd_changeCount) sz) := by
  refine Met.ofW (cc := cX1_countAllHoles) (maxL := 2) (ret := (some .int)) (by decide) rfl ?_
  intro p e s m args below meth c s₁ B hml hv
  obtain ⟨rfl, hsz, hP, hE, hD0, hH⟩ := hv
  have hx := B.exec
  have hb := B.bytes
  have hr := B.returns
  have hts := atoms_spec (ws := wsX1_countAllHoles) B.pre
  have hown : s.vm.findClass RX1 = some m.cls := findClass_of_methodNamed B.named
  have hlocks := B.notSynchronized
  have hK := hE.1
  subst hsz
  have hD := hD0.self (sz := s.heap.size)
  generalize hAe : va_A (w_c_X1_countAllHoles cI cJ cB cZ cO qf qf_places qf_steps ff_steps qf_stumbleIn vf_gap vf_calmLength vf_calmStart qd vd_gap vd_odds vd_rain vd_lines qd_steps qd_lengths qd_starts qd_met fd_met qd_stumbles vd_stumbleCount qd_muds qd_cells vd_cellCount qd_tunes vd_tuneCount qd_changes vd_changeCount) s.heap.size = A at hD hH ⊢
  have hA : ∀ q : Nat, s.heap.size ≤ q → A q := fun q h => by rw [← hAe]; exact Or.inr h
  have hS : va_S A s.heap s.heap [] := va_S.rf
  obtain ⟨hP, hD⟩ : ct_B D A s.heap [fo qf qf_places qf_steps qf_stumbleIn vf_gap vf_calmLength vf_calmStart, (qf_steps, .inl (cI, 400, .inl (ff_steps))), dn qd vd_gap vd_odds vd_rain vd_lines qd_steps qd_lengths qd_starts qd_met qd_stumbles vd_stumbleCount qd_muds qd_cells vd_cellCount qd_tunes vd_tuneCount qd_changes vd_changeCount, (qd_met, .inl (cI, 6, .inl (fd_met)))] := ⟨hP, hD⟩
  have hl := lv_entry ([.ref qf, .ref qd]) (n := 2) (Nat.le_of_ble_eq_true rfl)
  rw [lg_entry_eq]
  generalize (lg_sl ([.ref qf, .ref qd]) ++ List.replicate (2 - (lg_sl ([.ref qf, .ref qd])).length) Slot.unset).toArray = ls at hl ⊢
  have hl : lv_has ls 2 [(0, .ref qf), (1, .ref qd)] := hl
  obtain ⟨H, hHe⟩ : ∃ H : Heap, H = s.heap := ⟨_, rfl⟩
  rw [← hHe] at hP
  have hS : va_S A s.heap H [] := by rw [hHe]; exact va_S.rf
  refine ct_start hHe ?_
  refine lv_aload_n hx hb dX1_countAllHoles_0 rfl (lv_at hl 0 rfl) ?_
  refine lv_aload_n hx hb dX1_countAllHoles_1 rfl (lv_at hl 1 rfl) ?_
  refine lv_iconst (v := 0) hx hb dX1_countAllHoles_2 (by decide) ?_
  refine lv_iconst (v := 0) hx hb dX1_countAllHoles_3 (by decide) ?_
  refine lv_sipush (v := 199) hx hb dX1_countAllHoles_4 (by decide) ?_
  refine ct_calli (D := D) (wr := []) (va_runV (As := [.ref qd, .int 0, .int 0, .int 199]) (rest := []) ⟨hx, hb, hml, hown, hts⟩ (c_X1_countHoles l D G cI cJ cB cZ cO qf qf_places qf_steps ff_steps qf_stumbleIn vf_gap vf_calmLength vf_calmStart qd vd_gap vd_odds vd_rain vd_lines qd_steps qd_lengths qd_starts qd_met fd_met qd_stumbles vd_stumbleCount qd_muds qd_cells vd_cellCount qd_tunes vd_tuneCount qd_changes vd_changeCount 0 0 199 h_ff_steps h_vf_gap h_vd_gap h_vd_stumbleCount h_vd_cellCount h_vd_tuneCount h_vd_changeCount (by decide) (by decide) (by decide) H.size) (cwV 4 hts gX1_countAllHoles_X1_countHoles rfl rfl rfl (by decide +kernel) ⟨Nat.le_of_ble_eq_true rfl, Nat.le_of_ble_eq_true rfl⟩) (ct_preV (T := ct_T cI cJ cB cZ cO) (ci := 1) (q0 := 0) hE hH hP hD hS hA [0, 1, 2, 3] (by decide) rfl rfl rfl) rfl rfl hl.1 rfl (lv_room (Nat.le_of_ble_eq_true rfl)) dX1_countAllHoles_7 ⟨Nat.le_of_ble_eq_true rfl, Nat.le_of_ble_eq_true rfl⟩) hP hD hS hA [0, 1, 2, 3] [] rfl rfl (by decide) (by decide) (fun r1 u H locs hw hP hD hS => ?_)
  obtain ⟨hP, hD⟩ : ct_B D A H [fo qf qf_places qf_steps qf_stumbleIn vf_gap vf_calmLength vf_calmStart, (qf_steps, .inl (cI, 400, .inl (ff_steps))), dn qd vd_gap vd_odds vd_rain vd_lines qd_steps qd_lengths qd_starts qd_met qd_stumbles vd_stumbleCount qd_muds qd_cells vd_cellCount qd_tunes vd_tuneCount qd_changes vd_changeCount, (qd_met, .inl (cI, 6, .inl (fd_met)))] := ⟨hP, hD⟩
  refine lv_aload_n hx hb dX1_countAllHoles_10 rfl (lv_at hl 0 rfl) ?_
  refine lv_aload_n hx hb dX1_countAllHoles_11 rfl (lv_at hl 1 rfl) ?_
  refine lv_iconst (v := 1) hx hb dX1_countAllHoles_12 (by decide) ?_
  refine lv_iconst (v := 0) hx hb dX1_countAllHoles_13 (by decide) ?_
  refine lv_sipush (v := 199) hx hb dX1_countAllHoles_14 (by decide) ?_
  refine ct_calli (D := D) (wr := []) (va_runV (As := [.ref qd, .int 1, .int 0, .int 199]) (rest := [.int r1]) ⟨hx, hb, hml, hown, hts⟩ (c_X1_countHoles l D G cI cJ cB cZ cO qf qf_places qf_steps ff_steps qf_stumbleIn vf_gap vf_calmLength vf_calmStart qd vd_gap vd_odds vd_rain vd_lines qd_steps qd_lengths qd_starts qd_met fd_met qd_stumbles vd_stumbleCount qd_muds qd_cells vd_cellCount qd_tunes vd_tuneCount qd_changes vd_changeCount 1 0 199 h_ff_steps h_vf_gap h_vd_gap h_vd_stumbleCount h_vd_cellCount h_vd_tuneCount h_vd_changeCount (by decide) (by decide) (by decide) H.size) (cwV 4 hts gX1_countAllHoles_X1_countHoles rfl rfl rfl (by decide +kernel) ⟨Nat.le_of_ble_eq_true rfl, Nat.le_of_ble_eq_true rfl⟩) (ct_preV (T := ct_T cI cJ cB cZ cO) (ci := 1) (q0 := 0) hE hH hP hD hS hA [0, 1, 2, 3] (by decide) rfl rfl rfl) rfl rfl hl.1 rfl (lv_room (Nat.le_of_ble_eq_true rfl)) dX1_countAllHoles_17 ⟨Nat.le_of_ble_eq_true rfl, Nat.le_of_ble_eq_true rfl⟩) hP hD hS hA [0, 1, 2, 3] [] rfl rfl (by decide) (by decide) (fun r2 u H locs hw hP hD hS => ?_)
  obtain ⟨hP, hD⟩ : ct_B D A H [fo qf qf_places qf_steps qf_stumbleIn vf_gap vf_calmLength vf_calmStart, (qf_steps, .inl (cI, 400, .inl (ff_steps))), dn qd vd_gap vd_odds vd_rain vd_lines qd_steps qd_lengths qd_starts qd_met qd_stumbles vd_stumbleCount qd_muds qd_cells vd_cellCount qd_tunes vd_tuneCount qd_changes vd_changeCount, (qd_met, .inl (cI, 6, .inl (fd_met)))] := ⟨hP, hD⟩
  refine lv_iadd hx hb dX1_countAllHoles_20 ?_
  refine lv_topi (fun z3 ez3 => ?_)
  obtain ⟨hP9, hD9⟩ : ct_B D A H [fo qf qf_places qf_steps qf_stumbleIn vf_gap vf_calmLength vf_calmStart, (qf_steps, .inl (cI, 400, .inl (ff_steps))), dn qd vd_gap vd_odds vd_rain vd_lines qd_steps qd_lengths qd_starts qd_met qd_stumbles vd_stumbleCount qd_muds qd_cells vd_cellCount qd_tunes vd_tuneCount qd_changes vd_changeCount, (qd_met, .inl (cI, 6, .inl (fd_met)))] := ⟨hP.sub [0, 1, 2, 3] rfl, hD.sub [0, 1, 2, 3] (by decide) rfl⟩
  exact W.iret (v := z3) hx hb hr (fun t ht hW => ⟨⟨z3, (), rfl, trivial, by rw [ht]; exact hP9, hD9⟩, hS.F ht⟩) hS.2.2 dX1_countAllHoles_21
abbrev w_c_X1_findCalm (cI cJ cB cZ cO : ClassId) (qf : Nat) (qf_places : Nat) (qf_steps : Nat) (ff_steps : Nat → Int32) (qf_stumbleIn : Nat) (vf_gap : Int32) (vf_calmLength : Int32) (vf_calmStart : Int32) (qd : Nat) (vd_gap : Int32) (vd_odds : Int32) (vd_rain : Int32) (vd_lines : Int32) (qd_steps : Nat) (qd_lengths : Nat) (qd_starts : Nat) (qd_met : Nat) (fd_met : Nat → Int32) (qd_stumbles : Nat) (vd_stumbleCount : Int32) (qd_muds : Nat) (qd_cells : Nat) (vd_cellCount : Int32) (qd_tunes : Nat) (vd_tuneCount : Int32) (qd_changes : Nat) (vd_changeCount : Int32) : va_W := [fo qf qf_places qf_steps qf_stumbleIn vf_gap vf_calmLength vf_calmStart, (qf_steps, .inl (cI, 400, .inl (ff_steps))), dn qd vd_gap vd_odds vd_rain vd_lines qd_steps qd_lengths qd_starts qd_met qd_stumbles vd_stumbleCount qd_muds qd_cells vd_cellCount qd_tunes vd_tuneCount qd_changes vd_changeCount, (qd_met, .inl (cI, 6, .inl (fd_met)))]
set_option maxHeartbeats 4000000 in
set_option maxRecDepth 100000 in
/-- X1 findCalm -/
theorem c_X1_findCalm (l : Launch) (D : va_G) (G : ct_G) (cI cJ cB cZ cO : ClassId) (qf : Nat) (qf_places : Nat) (qf_steps : Nat) (ff_steps : Nat → Int32) (qf_stumbleIn : Nat) (vf_gap : Int32) (vf_calmLength : Int32) (vf_calmStart : Int32) (qd : Nat) (vd_gap : Int32) (vd_odds : Int32) (vd_rain : Int32) (vd_lines : Int32) (qd_steps : Nat) (qd_lengths : Nat) (qd_starts : Nat) (qd_met : Nat) (fd_met : Nat → Int32) (qd_stumbles : Nat) (vd_stumbleCount : Int32) (qd_muds : Nat) (qd_cells : Nat) (vd_cellCount : Int32) (qd_tunes : Nat) (vd_tuneCount : Int32) (qd_changes : Nat) (vd_changeCount : Int32) (a2 : Int32) (a3 : Int32) (h_ff_steps : ar_ok [(-1)] [5] ff_steps) (h_vf_gap : 0 ≤ vf_gap.toInt ∧ vf_gap.toInt ≤ 20) (h_vd_gap : 0 ≤ vd_gap.toInt ∧ vd_gap.toInt ≤ 20) (h_vd_stumbleCount : 0 ≤ vd_stumbleCount.toInt ∧ vd_stumbleCount.toInt ≤ 8) (h_vd_cellCount : 0 ≤ vd_cellCount.toInt ∧ vd_cellCount.toInt ≤ 12) (h_vd_tuneCount : 0 ≤ vd_tuneCount.toInt ∧ vd_tuneCount.toInt ≤ 5) (h_vd_changeCount : 0 ≤ vd_changeCount.toInt ∧ vd_changeCount.toInt ≤ 40) (h_a2 : 0 ≤ a2.toInt ∧ a2.toInt ≤ 199) (h_a3 : 0 ≤ a3.toInt ∧ a3.toInt ≤ 199) (sz : Nat) : Met l yX1_findCalm wsX1_findCalm ({ frames := 3, cells := 0, slots := 0, locals := 67 }) (va_Pc [.ref qf, .ref qd, .int a2, .int a3] (ct_P D (ct_T cI cJ cB cZ cO) G (w_c_X1_findCalm cI cJ cB cZ cO qf qf_places qf_steps ff_steps qf_stumbleIn vf_gap vf_calmLength vf_calmStart qd vd_gap vd_odds vd_rain vd_lines qd_steps qd_lengths qd_starts qd_met fd_met qd_stumbles vd_stumbleCount qd_muds qd_cells vd_cellCount qd_tunes vd_tuneCount qd_changes vd_changeCount) sz)) (va_Qv (fun (u : Int32 × Int32) => True) (fun (u : Int32 × Int32) t => ct_Q D (va_A (w_c_X1_findCalm cI cJ cB cZ cO qf qf_places qf_steps ff_steps qf_stumbleIn vf_gap vf_calmLength vf_calmStart qd vd_gap vd_odds vd_rain vd_lines qd_steps qd_lengths qd_starts qd_met fd_met qd_stumbles vd_stumbleCount qd_muds qd_cells vd_cellCount qd_tunes vd_tuneCount qd_changes vd_changeCount) sz) [fo qf qf_places qf_steps qf_stumbleIn vf_gap u.1 u.2, (qf_steps, .inl (cI, 400, .inl (ff_steps))), dn qd vd_gap vd_odds vd_rain vd_lines qd_steps qd_lengths qd_starts qd_met qd_stumbles vd_stumbleCount qd_muds qd_cells vd_cellCount qd_tunes vd_tuneCount qd_changes vd_changeCount, (qd_met, .inl (cI, 6, .inl (fd_met)))] t) (va_A (w_c_X1_findCalm cI cJ cB cZ cO qf qf_places qf_steps ff_steps qf_stumbleIn vf_gap vf_calmLength vf_calmStart qd vd_gap vd_odds vd_rain vd_lines qd_steps qd_lengths qd_starts qd_met fd_met qd_stumbles vd_stumbleCount qd_muds qd_cells vd_cellCount qd_tunes vd_tuneCount qd_changes vd_changeCount) sz)) 0 0 (va_A (w_c_X1_findCalm cI cJ cB cZ cO qf qf_places qf_steps ff_steps qf_stumbleIn vf_gap vf_calmLength vf_calmStart qd vd_gap vd_odds vd_rain vd_lines qd_steps qd_lengths qd_starts qd_met fd_met qd_stumbles vd_stumbleCount qd_muds qd_cells vd_cellCount qd_tunes vd_tuneCount qd_changes vd_changeCount) sz) := by
  refine Met.ofW (cc := cX1_findCalm) (maxL := 6) (ret := none) (by decide) rfl ?_
  intro p e s m args below meth c s₁ B hml hv
  obtain ⟨rfl, hsz, hP, hE, hD0, hH⟩ := hv
  have hx := B.exec
  have hb := B.bytes
  have hr := B.returns
  have hts := atoms_spec (ws := wsX1_findCalm) B.pre
  have hown : s.vm.findClass RX1 = some m.cls := findClass_of_methodNamed B.named
  have hlocks := B.notSynchronized
  have hK := hE.1
  have hi1 : ∀ w ∈ u_ws RX1 TX1 6, w ∈ wsX1_findCalm := fun w h => List.mem_cons_of_mem _ (List.mem_append_left _ (List.mem_append_right _ h))
  subst hsz
  have hD := hD0.self (sz := s.heap.size)
  generalize hAe : va_A (w_c_X1_findCalm cI cJ cB cZ cO qf qf_places qf_steps ff_steps qf_stumbleIn vf_gap vf_calmLength vf_calmStart qd vd_gap vd_odds vd_rain vd_lines qd_steps qd_lengths qd_starts qd_met fd_met qd_stumbles vd_stumbleCount qd_muds qd_cells vd_cellCount qd_tunes vd_tuneCount qd_changes vd_changeCount) s.heap.size = A at hD hH ⊢
  have hA : ∀ q : Nat, s.heap.size ≤ q → A q := fun q h => by rw [← hAe]; exact Or.inr h
  have hS : va_S A s.heap s.heap [] := va_S.rf
  obtain ⟨hP, hD⟩ : ct_B D A s.heap [fo qf qf_places qf_steps qf_stumbleIn vf_gap vf_calmLength vf_calmStart, (qf_steps, .inl (cI, 400, .inl (ff_steps))), dn qd vd_gap vd_odds vd_rain vd_lines qd_steps qd_lengths qd_starts qd_met qd_stumbles vd_stumbleCount qd_muds qd_cells vd_cellCount qd_tunes vd_tuneCount qd_changes vd_changeCount, (qd_met, .inl (cI, 6, .inl (fd_met)))] := ⟨hP, hD⟩
  have hl := lv_entry ([.ref qf, .ref qd, .int a2, .int a3]) (n := 6) (Nat.le_of_ble_eq_true rfl)
  rw [lg_entry_eq]
  generalize (lg_sl ([.ref qf, .ref qd, .int a2, .int a3]) ++ List.replicate (6 - (lg_sl ([.ref qf, .ref qd, .int a2, .int a3])).length) Slot.unset).toArray = ls at hl ⊢
  have hl : lv_has ls 6 [(0, .ref qf), (1, .ref qd), (2, .int a2), (3, .int a3)] := hl
  obtain ⟨H, hHe⟩ : ∃ H : Heap, H = s.heap := ⟨_, rfl⟩
  rw [← hHe] at hP
  have hS : va_S A s.heap H [] := by rw [hHe]; exact va_S.rf
  refine ct_start hHe ?_
  refine lv_aload_n hx hb dX1_findCalm_0 rfl (lv_at hl 0 rfl) ?_
  refine lv_iconst (v := 0) hx hb dX1_findCalm_1 (by decide) ?_
  refine va_put (D := D) (ci := 1) (v := .int 0) (ty := .int) (C := RX1) (T := TX1) (N := 6) hx hb hts hi1 tyX1 tyX1_ok nmX1 hown hK hP hD hS 0 rfl rfl 4 (by decide) (hts (.fieldLink RX1 82 "OverHill$Floor" "calmLength" "I") (by decide +kernel)) (fun _ h9 => h9) rfl (by decide +kernel) rfl rfl (Nat.le_of_ble_eq_true rfl) dX1_findCalm_2 (fun H locs hP hD hS => ?_)
  obtain ⟨hP, hD⟩ : ct_B D A H [fo qf qf_places qf_steps qf_stumbleIn vf_gap 0 vf_calmStart, (qf_steps, .inl (cI, 400, .inl (ff_steps))), dn qd vd_gap vd_odds vd_rain vd_lines qd_steps qd_lengths qd_starts qd_met qd_stumbles vd_stumbleCount qd_muds qd_cells vd_cellCount qd_tunes vd_tuneCount qd_changes vd_changeCount, (qd_met, .inl (cI, 6, .inl (fd_met)))] := ⟨hP, hD⟩
  refine lv_aload_n hx hb dX1_findCalm_5 rfl (lv_at hl 0 rfl) ?_
  refine lv_iconst (v := (-1)) hx hb dX1_findCalm_6 (by decide) ?_
  refine va_put (D := D) (ci := 1) (v := .int (-1)) (ty := .int) (C := RX1) (T := TX1) (N := 6) hx hb hts hi1 tyX1 tyX1_ok nmX1 hown hK hP hD hS 0 rfl rfl 5 (by decide) (hts (.fieldLink RX1 85 "OverHill$Floor" "calmStart" "I") (by decide +kernel)) (fun _ h9 => h9) rfl (by decide +kernel) rfl rfl (Nat.le_of_ble_eq_true rfl) dX1_findCalm_7 (fun H locs hP hD hS => ?_)
  obtain ⟨hP, hD⟩ : ct_B D A H [fo qf qf_places qf_steps qf_stumbleIn vf_gap 0 (-1), (qf_steps, .inl (cI, 400, .inl (ff_steps))), dn qd vd_gap vd_odds vd_rain vd_lines qd_steps qd_lengths qd_starts qd_met qd_stumbles vd_stumbleCount qd_muds qd_cells vd_cellCount qd_tunes vd_tuneCount qd_changes vd_changeCount, (qd_met, .inl (cI, 6, .inl (fd_met)))] := ⟨hP, hD⟩
  refine lv_iload_n hx hb dX1_findCalm_10 rfl (lv_at hl 2 rfl) ?_
  refine lv_istore (lv' := [(4, .int a2), (0, .ref qf), (1, .ref qd), (2, .int a2), (3, .int a3)]) hx hb dX1_findCalm_11 hl (by decide) rfl (fun ls hl => ?_)
  refine lv_iload_n hx hb dX1_findCalm_13 rfl (lv_at hl 3 rfl) ?_
  refine lv_istore (lv' := [(5, .int a2), (4, .int a2), (0, .ref qf), (1, .ref qd), (2, .int a2), (3, .int a3)]) hx hb dX1_findCalm_14 hl (by decide) rfl (fun ls hl => ?_)
  refine ct_loop (X := Int32 × Int32 × Int32 × Int32) (fun x => (200 - x.2.2.2.toInt).toNat) (fun x H locs ls => (((-199) ≤ x.1.toInt ∧ x.1.toInt ≤ 200)) ∧ (((-1) ≤ x.2.1.toInt ∧ x.2.1.toInt ≤ 200)) ∧ ((0 ≤ x.2.2.1.toInt ∧ x.2.2.1.toInt ≤ 200)) ∧ ((0 ≤ x.2.2.2.toInt ∧ x.2.2.2.toInt ≤ 200)) ∧ ct_B D A H [fo qf qf_places qf_steps qf_stumbleIn vf_gap x.1 x.2.1, (qf_steps, .inl (cI, 400, .inl (ff_steps))), dn qd vd_gap vd_odds vd_rain vd_lines qd_steps qd_lengths qd_starts qd_met qd_stumbles vd_stumbleCount qd_muds qd_cells vd_cellCount qd_tunes vd_tuneCount qd_changes vd_changeCount, (qd_met, .inl (cI, 6, .inl (fd_met)))] ∧ va_S A s.heap H locs ∧ lv_has ls 6 [(5, .int x.2.2.2), (4, .int x.2.2.1), (0, .ref qf), (1, .ref qd), (2, .int a2), (3, .int a3)]) 16 ((0 : Int32), (-1 : Int32), a2, a2) ⟨(show (-199) ≤ (0 : Int32).toInt ∧ (0 : Int32).toInt ≤ 200 by decide), (show (-1) ≤ (-1 : Int32).toInt ∧ (-1 : Int32).toInt ≤ 200 by decide), (show 0 ≤ a2.toInt ∧ a2.toInt ≤ 200 by omega), (show 0 ≤ a2.toInt ∧ a2.toInt ≤ 200 by omega), ⟨hP, hD⟩, hS, lv_sub hl [0, 1, 2, 3, 4, 5] rfl⟩ (fun x ih73 H locs ls hI => ?_)
  obtain ⟨x69, x70, x71, x72⟩ := x
  obtain ⟨h_x69, h_x70, h_x71, h_x72, ⟨hP, hD⟩, hS, hl⟩ := hI
  have h_x69 : ((-199) ≤ x69.toInt ∧ x69.toInt ≤ 200) := h_x69
  have h_x70 : ((-1) ≤ x70.toInt ∧ x70.toInt ≤ 200) := h_x70
  have h_x71 : (0 ≤ x71.toInt ∧ x71.toInt ≤ 200) := h_x71
  have h_x72 : (0 ≤ x72.toInt ∧ x72.toInt ≤ 200) := h_x72
  obtain ⟨hP, hD⟩ : ct_B D A H [fo qf qf_places qf_steps qf_stumbleIn vf_gap x69 x70, (qf_steps, .inl (cI, 400, .inl (ff_steps))), dn qd vd_gap vd_odds vd_rain vd_lines qd_steps qd_lengths qd_starts qd_met qd_stumbles vd_stumbleCount qd_muds qd_cells vd_cellCount qd_tunes vd_tuneCount qd_changes vd_changeCount, (qd_met, .inl (cI, 6, .inl (fd_met)))] := ⟨hP, hD⟩
  have hl : lv_has ls 6 [(5, .int x72), (4, .int x71), (0, .ref qf), (1, .ref qd), (2, .int a2), (3, .int a3)] := hl
  refine lv_iload hx hb dX1_findCalm_16 (lv_at hl 0 rfl) ?_
  refine lv_iload_n hx hb dX1_findCalm_18 rfl (lv_at hl 5 rfl) ?_
  refine lv_icmp_gt (tgt := 90) hx hb dX1_findCalm_19 (by decide) (fun hc => ?_) (fun hc => ?_)
  · have hq74 : a3.toInt < x72.toInt := tq_lt rfl rfl hc
    obtain ⟨hP9, hD9⟩ : ct_B D A H [fo qf qf_places qf_steps qf_stumbleIn vf_gap x69 x70, (qf_steps, .inl (cI, 400, .inl (ff_steps))), dn qd vd_gap vd_odds vd_rain vd_lines qd_steps qd_lengths qd_starts qd_met qd_stumbles vd_stumbleCount qd_muds qd_cells vd_cellCount qd_tunes vd_tuneCount qd_changes vd_changeCount, (qd_met, .inl (cI, 6, .inl (fd_met)))] := ⟨hP.sub [0, 1, 2, 3] rfl, hD.sub [0, 1, 2, 3] (by decide) rfl⟩
    exact W.vret hx hb hr (fun t ht hW => ⟨⟨(x69, x70), rfl, trivial, by rw [ht]; exact hP9, hD9⟩, hS.F ht⟩) hS.2.2 dX1_findCalm_90
  · have hq74 : x72.toInt ≤ a3.toInt := tq_nlt rfl rfl hc
    refine lv_aload_n hx hb dX1_findCalm_22 rfl (lv_at hl 2 rfl) ?_
    refine lv_aload_n hx hb dX1_findCalm_23 rfl (lv_at hl 3 rfl) ?_
    refine lv_iconst (v := 0) hx hb dX1_findCalm_24 (by decide) ?_
    refine lv_iload hx hb dX1_findCalm_25 (lv_at hl 0 rfl) ?_
    refine ct_calli (D := D) (wr := []) (va_runV (As := [.ref qd, .int 0, .int x72]) (rest := []) ⟨hx, hb, hml, hown, hts⟩ (c_X1_gapes l D G cI cJ cB cZ cO qf qf_places qf_steps ff_steps qf_stumbleIn vf_gap x69 x70 qd vd_gap vd_odds vd_rain vd_lines qd_steps qd_lengths qd_starts qd_met fd_met qd_stumbles vd_stumbleCount qd_muds qd_cells vd_cellCount qd_tunes vd_tuneCount qd_changes vd_changeCount 0 x72 h_ff_steps h_vf_gap h_vd_gap h_vd_stumbleCount h_vd_cellCount h_vd_tuneCount h_vd_changeCount (by decide) (by omega) H.size) (cwV 3 hts gX1_findCalm_X1_gapes rfl rfl rfl (by decide +kernel) ⟨Nat.le_of_ble_eq_true rfl, Nat.le_of_ble_eq_true rfl⟩) (ct_preV (T := ct_T cI cJ cB cZ cO) (ci := 1) (q0 := 0) hE hH hP hD hS hA [0, 1, 2, 3] (by decide) rfl rfl rfl) rfl rfl hl.1 rfl (lv_room (Nat.le_of_ble_eq_true rfl)) dX1_findCalm_27 ⟨Nat.le_of_ble_eq_true rfl, Nat.le_of_ble_eq_true rfl⟩) hP hD hS hA [0, 1, 2, 3] [] rfl rfl (by decide) (by decide) (fun r75 u H locs hw hP hD hS => ?_)
    obtain ⟨hP, hD⟩ : ct_B D A H [fo qf qf_places qf_steps qf_stumbleIn vf_gap x69 x70, (qf_steps, .inl (cI, 400, .inl (ff_steps))), dn qd vd_gap vd_odds vd_rain vd_lines qd_steps qd_lengths qd_starts qd_met qd_stumbles vd_stumbleCount qd_muds qd_cells vd_cellCount qd_tunes vd_tuneCount qd_changes vd_changeCount, (qd_met, .inl (cI, 6, .inl (fd_met)))] := ⟨hP, hD⟩
    have hz := hw
    rcases hz with ⟨hz, hz2⟩ | ⟨hz, hz2⟩
    · subst hz
      refine lv_if_ne (tgt := 44) hx hb dX1_findCalm_30 (by decide) (fun _ => ?_) (fun hc => absurd hc (by decide))
      refine lv_iload hx hb dX1_findCalm_44 (lv_at hl 0 rfl) ?_
      refine lv_iconst (v := 1) hx hb dX1_findCalm_46 (by decide) ?_
      refine lv_iadd hx hb dX1_findCalm_47 ?_
      refine lv_topi (fun z76 ez76 => ?_)
      have fz76 : z76.toInt = x72.toInt + 1 := by rw [ez76]; exact tq_add rfl (by decide) (by omega)
      refine lv_istore (lv' := [(4, .int z76), (5, .int x72), (0, .ref qf), (1, .ref qd), (2, .int a2), (3, .int a3)]) hx hb dX1_findCalm_48 hl (by decide) rfl (fun ls hl => ?_)
      refine lv_goto (tgt := 84) hx hb dX1_findCalm_50 (by decide) ?_
      obtain ⟨z77, ez77⟩ : ∃ z : Int32, z = x72 + 1 := ⟨_, rfl⟩
      have fz77 : z77.toInt = x72.toInt + 1 := by rw [ez77]; exact tq_add rfl (by decide) (by omega)
      refine lv_iinc (v := z77) (lv' := [(5, .int z77), (4, .int z76), (0, .ref qf), (1, .ref qd), (2, .int a2), (3, .int a3)]) hx hb dX1_findCalm_84 hl (k := 1) rfl ez77.symm (by decide) rfl (fun ls hl => ?_)
      refine lv_goto (tgt := 16) hx hb dX1_findCalm_87 (by decide) ?_
      exact ih73 (x69, x70, z76, z77) _ _ _ (show (200 - z77.toInt).toNat < (200 - x72.toInt).toNat by omega) ⟨h_x69, h_x70, (show 0 ≤ z76.toInt ∧ z76.toInt ≤ 200 by omega), (show 0 ≤ z77.toInt ∧ z77.toInt ≤ 200 by omega), ⟨hP, hD⟩, hS, lv_sub hl [0, 1, 2, 3, 4, 5] rfl⟩
    · subst hz
      refine lv_if_ne (tgt := 44) hx hb dX1_findCalm_30 (by decide) (fun hc => absurd hc (by decide)) (fun _ => ?_)
      refine lv_aload_n hx hb dX1_findCalm_33 rfl (lv_at hl 2 rfl) ?_
      refine lv_aload_n hx hb dX1_findCalm_34 rfl (lv_at hl 3 rfl) ?_
      refine lv_iconst (v := 1) hx hb dX1_findCalm_35 (by decide) ?_
      refine lv_iload hx hb dX1_findCalm_36 (lv_at hl 0 rfl) ?_
      refine ct_calli (D := D) (wr := []) (va_runV (As := [.ref qd, .int 1, .int x72]) (rest := []) ⟨hx, hb, hml, hown, hts⟩ (c_X1_gapes l D G cI cJ cB cZ cO qf qf_places qf_steps ff_steps qf_stumbleIn vf_gap x69 x70 qd vd_gap vd_odds vd_rain vd_lines qd_steps qd_lengths qd_starts qd_met fd_met qd_stumbles vd_stumbleCount qd_muds qd_cells vd_cellCount qd_tunes vd_tuneCount qd_changes vd_changeCount 1 x72 h_ff_steps h_vf_gap h_vd_gap h_vd_stumbleCount h_vd_cellCount h_vd_tuneCount h_vd_changeCount (by decide) (by omega) H.size) (cwV 3 hts gX1_findCalm_X1_gapes rfl rfl rfl (by decide +kernel) ⟨Nat.le_of_ble_eq_true rfl, Nat.le_of_ble_eq_true rfl⟩) (ct_preV (T := ct_T cI cJ cB cZ cO) (ci := 1) (q0 := 0) hE hH hP hD hS hA [0, 1, 2, 3] (by decide) rfl rfl rfl) rfl rfl hl.1 rfl (lv_room (Nat.le_of_ble_eq_true rfl)) dX1_findCalm_38 ⟨Nat.le_of_ble_eq_true rfl, Nat.le_of_ble_eq_true rfl⟩) hP hD hS hA [0, 1, 2, 3] [] rfl rfl (by decide) (by decide) (fun r78 u H locs hw hP hD hS => ?_)
      obtain ⟨hP, hD⟩ : ct_B D A H [fo qf qf_places qf_steps qf_stumbleIn vf_gap x69 x70, (qf_steps, .inl (cI, 400, .inl (ff_steps))), dn qd vd_gap vd_odds vd_rain vd_lines qd_steps qd_lengths qd_starts qd_met qd_stumbles vd_stumbleCount qd_muds qd_cells vd_cellCount qd_tunes vd_tuneCount qd_changes vd_changeCount, (qd_met, .inl (cI, 6, .inl (fd_met)))] := ⟨hP, hD⟩
      have hz := hw
      rcases hz with ⟨hz, hz2⟩ | ⟨hz, hz2⟩
      · subst hz
        refine lv_if_eq (tgt := 53) hx hb dX1_findCalm_41 (by decide) (fun hc => absurd hc (by decide)) (fun _ => ?_)
        refine lv_iload hx hb dX1_findCalm_44 (lv_at hl 0 rfl) ?_
        refine lv_iconst (v := 1) hx hb dX1_findCalm_46 (by decide) ?_
        refine lv_iadd hx hb dX1_findCalm_47 ?_
        refine lv_topi (fun z79 ez79 => ?_)
        have fz79 : z79.toInt = x72.toInt + 1 := by rw [ez79]; exact tq_add rfl (by decide) (by omega)
        refine lv_istore (lv' := [(4, .int z79), (5, .int x72), (0, .ref qf), (1, .ref qd), (2, .int a2), (3, .int a3)]) hx hb dX1_findCalm_48 hl (by decide) rfl (fun ls hl => ?_)
        refine lv_goto (tgt := 84) hx hb dX1_findCalm_50 (by decide) ?_
        obtain ⟨z80, ez80⟩ : ∃ z : Int32, z = x72 + 1 := ⟨_, rfl⟩
        have fz80 : z80.toInt = x72.toInt + 1 := by rw [ez80]; exact tq_add rfl (by decide) (by omega)
        refine lv_iinc (v := z80) (lv' := [(5, .int z80), (4, .int z79), (0, .ref qf), (1, .ref qd), (2, .int a2), (3, .int a3)]) hx hb dX1_findCalm_84 hl (k := 1) rfl ez80.symm (by decide) rfl (fun ls hl => ?_)
        refine lv_goto (tgt := 16) hx hb dX1_findCalm_87 (by decide) ?_
        exact ih73 (x69, x70, z79, z80) _ _ _ (show (200 - z80.toInt).toNat < (200 - x72.toInt).toNat by omega) ⟨h_x69, h_x70, (show 0 ≤ z79.toInt ∧ z79.toInt ≤ 200 by omega), (show 0 ≤ z80.toInt ∧ z80.toInt ≤ 200 by omega), ⟨hP, hD⟩, hS, lv_sub hl [0, 1, 2, 3, 4, 5] rfl⟩
      · subst hz
        refine lv_if_eq (tgt := 53) hx hb dX1_findCalm_41 (by decide) (fun _ => ?_) (fun hc => absurd hc (by decide))
        refine lv_iload hx hb dX1_findCalm_53 (lv_at hl 0 rfl) ?_
        refine lv_iconst (v := 1) hx hb dX1_findCalm_55 (by decide) ?_
        refine lv_iadd hx hb dX1_findCalm_56 ?_
        refine lv_topi (fun z81 ez81 => ?_)
        have fz81 : z81.toInt = x72.toInt + 1 := by rw [ez81]; exact tq_add rfl (by decide) (by omega)
        refine lv_iload hx hb dX1_findCalm_57 (lv_at hl 1 rfl) ?_
        refine lv_isub hx hb dX1_findCalm_59 ?_
        refine lv_topi (fun z82 ez82 => ?_)
        have fz82 : z82.toInt = z81.toInt - x71.toInt := by rw [ez82]; exact tq_subt rfl rfl (by omega)
        refine lv_aload_n hx hb dX1_findCalm_60 rfl (lv_at hl 2 rfl) ?_
        refine va_get (D := D) (ci := 1) (v := .int x69) (C := RX1) (T := TX1) (N := 6) hx hb hts hi1 hown hK hP 0 rfl rfl 4 (by decide) (hts (.fieldLink RX1 82 "OverHill$Floor" "calmLength" "I") (by decide +kernel)) (fun _ h9 => h9) rfl dX1_findCalm_61 ?_
        refine lv_icmp_le (tgt := 84) hx hb dX1_findCalm_64 (by decide) (fun hc => ?_) (fun hc => ?_)
        · have hq83 : z82.toInt ≤ x69.toInt := tq_le rfl rfl hc
          obtain ⟨z84, ez84⟩ : ∃ z : Int32, z = x72 + 1 := ⟨_, rfl⟩
          have fz84 : z84.toInt = x72.toInt + 1 := by rw [ez84]; exact tq_add rfl (by decide) (by omega)
          refine lv_iinc (v := z84) (lv' := [(5, .int z84), (4, .int x71), (0, .ref qf), (1, .ref qd), (2, .int a2), (3, .int a3)]) hx hb dX1_findCalm_84 hl (k := 0) rfl ez84.symm (by decide) rfl (fun ls hl => ?_)
          refine lv_goto (tgt := 16) hx hb dX1_findCalm_87 (by decide) ?_
          exact ih73 (x69, x70, x71, z84) _ _ _ (show (200 - z84.toInt).toNat < (200 - x72.toInt).toNat by omega) ⟨h_x69, h_x70, h_x71, (show 0 ≤ z84.toInt ∧ z84.toInt ≤ 200 by omega), ⟨hP, hD⟩, hS, lv_sub hl [0, 1, 2, 3, 4, 5] rfl⟩
        · have hq83 : x69.toInt < z82.toInt := tq_nle rfl rfl hc
          refine lv_aload_n hx hb dX1_findCalm_67 rfl (lv_at hl 2 rfl) ?_
          refine lv_iload hx hb dX1_findCalm_68 (lv_at hl 0 rfl) ?_
          refine lv_iconst (v := 1) hx hb dX1_findCalm_70 (by decide) ?_
          refine lv_iadd hx hb dX1_findCalm_71 ?_
          refine lv_topi (fun z85 ez85 => ?_)
          have fz85 : z85.toInt = x72.toInt + 1 := by rw [ez85]; exact tq_add rfl (by decide) (by omega)
          refine lv_iload hx hb dX1_findCalm_72 (lv_at hl 1 rfl) ?_
          refine lv_isub hx hb dX1_findCalm_74 ?_
          refine lv_topi (fun z86 ez86 => ?_)
          have fz86 : z86.toInt = z85.toInt - x71.toInt := by rw [ez86]; exact tq_subt rfl rfl (by omega)
          refine va_put (D := D) (ci := 1) (v := .int z86) (ty := .int) (C := RX1) (T := TX1) (N := 6) hx hb hts hi1 tyX1 tyX1_ok nmX1 hown hK hP hD hS 0 rfl rfl 4 (by decide) (hts (.fieldLink RX1 82 "OverHill$Floor" "calmLength" "I") (by decide +kernel)) (fun _ h9 => h9) rfl (by decide +kernel) rfl rfl (Nat.le_of_ble_eq_true rfl) dX1_findCalm_75 (fun H locs hP hD hS => ?_)
          obtain ⟨hP, hD⟩ : ct_B D A H [fo qf qf_places qf_steps qf_stumbleIn vf_gap z86 x70, (qf_steps, .inl (cI, 400, .inl (ff_steps))), dn qd vd_gap vd_odds vd_rain vd_lines qd_steps qd_lengths qd_starts qd_met qd_stumbles vd_stumbleCount qd_muds qd_cells vd_cellCount qd_tunes vd_tuneCount qd_changes vd_changeCount, (qd_met, .inl (cI, 6, .inl (fd_met)))] := ⟨hP, hD⟩
          refine lv_aload_n hx hb dX1_findCalm_78 rfl (lv_at hl 2 rfl) ?_
          refine lv_iload hx hb dX1_findCalm_79 (lv_at hl 1 rfl) ?_
          refine va_put (D := D) (ci := 1) (v := .int x71) (ty := .int) (C := RX1) (T := TX1) (N := 6) hx hb hts hi1 tyX1 tyX1_ok nmX1 hown hK hP hD hS 0 rfl rfl 5 (by decide) (hts (.fieldLink RX1 85 "OverHill$Floor" "calmStart" "I") (by decide +kernel)) (fun _ h9 => h9) rfl (by decide +kernel) rfl rfl (Nat.le_of_ble_eq_true rfl) dX1_findCalm_81 (fun H locs hP hD hS => ?_)
          obtain ⟨hP, hD⟩ : ct_B D A H [fo qf qf_places qf_steps qf_stumbleIn vf_gap z86 x71, (qf_steps, .inl (cI, 400, .inl (ff_steps))), dn qd vd_gap vd_odds vd_rain vd_lines qd_steps qd_lengths qd_starts qd_met qd_stumbles vd_stumbleCount qd_muds qd_cells vd_cellCount qd_tunes vd_tuneCount qd_changes vd_changeCount, (qd_met, .inl (cI, 6, .inl (fd_met)))] := ⟨hP, hD⟩
          obtain ⟨z87, ez87⟩ : ∃ z : Int32, z = x72 + 1 := ⟨_, rfl⟩
          have fz87 : z87.toInt = x72.toInt + 1 := by rw [ez87]; exact tq_add rfl (by decide) (by omega)
          refine lv_iinc (v := z87) (lv' := [(5, .int z87), (4, .int x71), (0, .ref qf), (1, .ref qd), (2, .int a2), (3, .int a3)]) hx hb dX1_findCalm_84 hl (k := 0) rfl ez87.symm (by decide) rfl (fun ls hl => ?_)
          refine lv_goto (tgt := 16) hx hb dX1_findCalm_87 (by decide) ?_
          exact ih73 (z86, x71, x71, z87) _ _ _ (show (200 - z87.toInt).toNat < (200 - x72.toInt).toNat by omega) ⟨(show (-199) ≤ z86.toInt ∧ z86.toInt ≤ 200 by omega), (show (-1) ≤ x71.toInt ∧ x71.toInt ≤ 200 by omega), h_x71, (show 0 ≤ z87.toInt ∧ z87.toInt ≤ 200 by omega), ⟨hP, hD⟩, hS, lv_sub hl [0, 1, 2, 3, 4, 5] rfl⟩
