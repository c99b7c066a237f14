abbrev w_c_X12_plays (cI cJ cB cZ cO : ClassId) (qm : Nat) (vm_thrown : Int32) (qm_width : Nat) (qm_many : Nat) (qm_cells : Nat) (qm_moved : Nat) (qm_tape : Nat) (vm_taped : Int32) (vm_at : Int32) (vm_token : Int32) (vm_place : Int32) (vm_value : Int32) (vm_word : Int64) (vm_bad : Int32) (vm_badPlace : Int32) (vm_fault : Int32) (vm_faultPlace : Int32) (qm_lines : Nat) (fm_lines : Nat → Int32) (qm_has : Nat) (qm_round : Nat) (qm_meets : Nat) (fm_meets : Nat → Int32) (qm_stumble : Nat) (qm_isMud : Nat) (qm_cell : Nat) (qm_tune : Nat) (qm_change : Nat) (qm_isKept : Nat) (qm_steps : Nat) (qm_places : Nat) (qm_danced : Nat) (vm_runMost : Int32) (vm_runBegins : Int32) (qm_heardBy : Nat) (vm_fitMany : Int32) (vm_fitFirst : Int32) (vm_fitBeats : Int64) (vm_listenLeaves : Int32) (qm_there : Nat) (vm_metAt : Int32) (vm_metIn : Int32) (qm_wins : Nat) (fm_wins : Nat → Int32) (vm_nightHoles : Int32) (vm_nightFirst : Int32) (vm_nightMud : Int32) (vm_nightSlips : Int32) (vm_drawnNow : Int64) : va_W := [mo qm vm_thrown qm_width qm_many qm_cells qm_moved qm_tape vm_taped vm_at vm_token vm_place vm_value vm_word vm_bad vm_badPlace vm_fault vm_faultPlace qm_lines qm_has qm_round qm_meets qm_stumble qm_isMud qm_cell qm_tune qm_change qm_isKept qm_steps qm_places qm_danced vm_runMost vm_runBegins qm_heardBy vm_fitMany vm_fitFirst vm_fitBeats vm_listenLeaves qm_there vm_metAt vm_metIn qm_wins vm_nightHoles vm_nightFirst vm_nightMud vm_nightSlips vm_drawnNow, (qm_lines, .inl (cI, 5, .inl (fm_lines))), (qm_meets, .inl (cI, 30, .inl (fm_meets))), (qm_wins, .inl (cI, 24576, .inl (fm_wins)))]
set_option maxHeartbeats 4000000 in
set_option maxRecDepth 100000 in
/-- X12 plays -/
theorem c_X12_plays (l : Launch) (D : va_G) (G : ct_G) (cI cJ cB cZ cO : ClassId) (qm : Nat) (vm_thrown : Int32) (qm_width : Nat) (qm_many : Nat) (qm_cells : Nat) (qm_moved : Nat) (qm_tape : Nat) (vm_taped : Int32) (vm_at : Int32) (vm_token : Int32) (vm_place : Int32) (vm_value : Int32) (vm_word : Int64) (vm_bad : Int32) (vm_badPlace : Int32) (vm_fault : Int32) (vm_faultPlace : Int32) (qm_lines : Nat) (fm_lines : Nat → Int32) (qm_has : Nat) (qm_round : Nat) (qm_meets : Nat) (fm_meets : Nat → Int32) (qm_stumble : Nat) (qm_isMud : Nat) (qm_cell : Nat) (qm_tune : Nat) (qm_change : Nat) (qm_isKept : Nat) (qm_steps : Nat) (qm_places : Nat) (qm_danced : Nat) (vm_runMost : Int32) (vm_runBegins : Int32) (qm_heardBy : Nat) (vm_fitMany : Int32) (vm_fitFirst : Int32) (vm_fitBeats : Int64) (vm_listenLeaves : Int32) (qm_there : Nat) (vm_metAt : Int32) (vm_metIn : Int32) (qm_wins : Nat) (fm_wins : Nat → Int32) (vm_nightHoles : Int32) (vm_nightFirst : Int32) (vm_nightMud : Int32) (vm_nightSlips : Int32) (vm_drawnNow : Int64) (a1 : Int32) (h_vm_taped : 0 ≤ vm_taped.toInt ∧ vm_taped.toInt ≤ 1200) (h_vm_at : 0 ≤ vm_at.toInt ∧ vm_at.toInt ≤ 1200) (h_vm_value : 0 ≤ vm_value.toInt ∧ vm_value.toInt ≤ 1000009) (sz : Nat) : Met l yX12_plays wsX12_plays ({ frames := 15, cells := 0, slots := 0, locals := 356 }) (va_Pc [.ref qm, .int a1] (ct_P D (ct_T cI cJ cB cZ cO) G (w_c_X12_plays cI cJ cB cZ cO qm vm_thrown qm_width qm_many qm_cells qm_moved qm_tape vm_taped vm_at vm_token vm_place vm_value vm_word vm_bad vm_badPlace vm_fault vm_faultPlace qm_lines fm_lines qm_has qm_round qm_meets fm_meets qm_stumble qm_isMud qm_cell qm_tune qm_change qm_isKept qm_steps qm_places qm_danced vm_runMost vm_runBegins qm_heardBy vm_fitMany vm_fitFirst vm_fitBeats vm_listenLeaves qm_there vm_metAt vm_metIn qm_wins fm_wins vm_nightHoles vm_nightFirst vm_nightMud vm_nightSlips vm_drawnNow) sz)) (va_Qi (fun (rz : Int32) (u : Int32 × (Nat → Int32)) => ((-2) ≤ rz.toInt ∧ rz.toInt ≤ 5)) (fun (u : Int32 × (Nat → Int32)) t => ct_Q D (va_A (w_c_X12_plays cI cJ cB cZ cO qm vm_thrown qm_width qm_many qm_cells qm_moved qm_tape vm_taped vm_at vm_token vm_place vm_value vm_word vm_bad vm_badPlace vm_fault vm_faultPlace qm_lines fm_lines qm_has qm_round qm_meets fm_meets qm_stumble qm_isMud qm_cell qm_tune qm_change qm_isKept qm_steps qm_places qm_danced vm_runMost vm_runBegins qm_heardBy vm_fitMany vm_fitFirst vm_fitBeats vm_listenLeaves qm_there vm_metAt vm_metIn qm_wins fm_wins vm_nightHoles vm_nightFirst vm_nightMud vm_nightSlips vm_drawnNow) sz) [mo qm u.1 qm_width qm_many qm_cells qm_moved qm_tape vm_taped vm_at vm_token vm_place vm_value vm_word vm_bad vm_badPlace vm_fault vm_faultPlace qm_lines qm_has qm_round qm_meets qm_stumble qm_isMud qm_cell qm_tune qm_change qm_isKept qm_steps qm_places qm_danced vm_runMost vm_runBegins qm_heardBy vm_fitMany vm_fitFirst vm_fitBeats vm_listenLeaves qm_there vm_metAt vm_metIn qm_wins vm_nightHoles vm_nightFirst vm_nightMud vm_nightSlips vm_drawnNow, (qm_lines, .inl (cI, 5, .inl (fm_lines))), (qm_meets, .inl (cI, 30, .inl (fm_meets))), (qm_wins, .inl (cI, 24576, .inl (u.2)))] t) (va_A (w_c_X12_plays cI cJ cB cZ cO qm vm_thrown qm_width qm_many qm_cells qm_moved qm_tape vm_taped vm_at vm_token vm_place vm_value vm_word vm_bad vm_badPlace vm_fault vm_faultPlace qm_lines fm_lines qm_has qm_round qm_meets fm_meets qm_stumble qm_isMud qm_cell qm_tune qm_change qm_isKept qm_steps qm_places qm_danced vm_runMost vm_runBegins qm_heardBy vm_fitMany vm_fitFirst vm_fitBeats vm_listenLeaves qm_there vm_metAt vm_metIn qm_wins fm_wins vm_nightHoles vm_nightFirst vm_nightMud vm_nightSlips vm_drawnNow) sz)) 0 0 (va_A (w_c_X12_plays cI cJ cB cZ cO qm vm_thrown qm_width qm_many qm_cells qm_moved qm_tape vm_taped vm_at vm_token vm_place vm_value vm_word vm_bad vm_badPlace vm_fault vm_faultPlace qm_lines fm_lines qm_has qm_round qm_meets fm_meets qm_stumble qm_isMud qm_cell qm_tune qm_change qm_isKept qm_steps qm_places qm_danced vm_runMost vm_runBegins qm_heardBy vm_fitMany vm_fitFirst vm_fitBeats vm_listenLeaves qm_there vm_metAt vm_metIn qm_wins fm_wins vm_nightHoles vm_nightFirst vm_nightMud vm_nightSlips vm_drawnNow) sz) := by
  refine Met.ofW (cc := cX12_plays) (maxL := 4) (ret := (some .int)) (by decide) rfl ?_
  intro p e s m args below meth c s₁ B hml hv
  obtain ⟨rfl, hsz, hP, hE, hD0, hH⟩ := hv
  have hx := B.exec
  have hb := B.bytes
  have hr := B.returns
  have hts := atoms_spec (ws := wsX12_plays) B.pre
  have hown : s.vm.findClass RX12 = some m.cls := findClass_of_methodNamed B.named
  have hlocks := B.notSynchronized
  have hK := hE.1
  have hi12 : ∀ w ∈ u_ws RX12 TX12 45, w ∈ wsX12_plays := fun w h => List.mem_cons_of_mem _ (List.mem_append_right _ h)
  subst hsz
  have hD := hD0.self (sz := s.heap.size)
  generalize hAe : va_A (w_c_X12_plays cI cJ cB cZ cO qm vm_thrown qm_width qm_many qm_cells qm_moved qm_tape vm_taped vm_at vm_token vm_place vm_value vm_word vm_bad vm_badPlace vm_fault vm_faultPlace qm_lines fm_lines qm_has qm_round qm_meets fm_meets qm_stumble qm_isMud qm_cell qm_tune qm_change qm_isKept qm_steps qm_places qm_danced vm_runMost vm_runBegins qm_heardBy vm_fitMany vm_fitFirst vm_fitBeats vm_listenLeaves qm_there vm_metAt vm_metIn qm_wins fm_wins vm_nightHoles vm_nightFirst vm_nightMud vm_nightSlips vm_drawnNow) s.heap.size = A at hD hH ⊢
  have hA : ∀ q : Nat, s.heap.size ≤ q → A q := fun q h => by rw [← hAe]; exact Or.inr h
  have hS : va_S A s.heap s.heap [] := va_S.rf
  obtain ⟨hP, hD⟩ : ct_B D A s.heap [mo qm vm_thrown qm_width qm_many qm_cells qm_moved qm_tape vm_taped vm_at vm_token vm_place vm_value vm_word vm_bad vm_badPlace vm_fault vm_faultPlace qm_lines qm_has qm_round qm_meets qm_stumble qm_isMud qm_cell qm_tune qm_change qm_isKept qm_steps qm_places qm_danced vm_runMost vm_runBegins qm_heardBy vm_fitMany vm_fitFirst vm_fitBeats vm_listenLeaves qm_there vm_metAt vm_metIn qm_wins vm_nightHoles vm_nightFirst vm_nightMud vm_nightSlips vm_drawnNow, (qm_lines, .inl (cI, 5, .inl (fm_lines))), (qm_meets, .inl (cI, 30, .inl (fm_meets))), (qm_wins, .inl (cI, 24576, .inl (fm_wins)))] := ⟨hP, hD⟩
  have hl := lv_entry ([.ref qm, .int a1]) (n := 4) (Nat.le_of_ble_eq_true rfl)
  rw [lg_entry_eq]
  generalize (lg_sl ([.ref qm, .int a1]) ++ List.replicate (4 - (lg_sl ([.ref qm, .int a1])).length) Slot.unset).toArray = ls at hl ⊢
  have hl : lv_has ls 4 [(0, .ref qm), (1, .int a1)] := hl
  obtain ⟨H, hHe⟩ : ∃ H : Heap, H = s.heap := ⟨_, rfl⟩
  rw [← hHe] at hP
  have hS : va_S A s.heap H [] := by rw [hHe]; exact va_S.rf
  refine ct_start hHe ?_
  refine lv_aload_n hx hb dX12_plays_0 rfl (lv_at hl 0 rfl) ?_
  refine lv_iconst (v := 0) hx hb dX12_plays_1 (by decide) ?_
  refine va_put (D := D) (ci := 12) (v := .int 0) (ty := .int) (C := RX12) (T := TX12) (N := 45) hx hb hts hi12 tyX12 tyX12_ok nmX12 hown hK hP hD hS 0 rfl rfl 0 (by decide) (hts (.fieldLink RX12 80 "OverHillModel" "thrown" "I") (by decide +kernel)) (fun _ h9 => h9) rfl (by decide +kernel) rfl rfl (Nat.le_of_ble_eq_true rfl) dX12_plays_2 (fun H locs hP hD hS => ?_)
  obtain ⟨hP, hD⟩ : ct_B D A H [mo qm 0 qm_width qm_many qm_cells qm_moved qm_tape vm_taped vm_at vm_token vm_place vm_value vm_word vm_bad vm_badPlace vm_fault vm_faultPlace qm_lines qm_has qm_round qm_meets qm_stumble qm_isMud qm_cell qm_tune qm_change qm_isKept qm_steps qm_places qm_danced vm_runMost vm_runBegins qm_heardBy vm_fitMany vm_fitFirst vm_fitBeats vm_listenLeaves qm_there vm_metAt vm_metIn qm_wins vm_nightHoles vm_nightFirst vm_nightMud vm_nightSlips vm_drawnNow, (qm_lines, .inl (cI, 5, .inl (fm_lines))), (qm_meets, .inl (cI, 30, .inl (fm_meets))), (qm_wins, .inl (cI, 24576, .inl (fm_wins)))] := ⟨hP, hD⟩
  refine lv_aload_n hx hb dX12_plays_5 rfl (lv_at hl 0 rfl) ?_
  refine ct_calli (D := D) (wr := [(qm_meets, .inl (cI, 30, .inl (fm_meets))), (qm_wins, .inl (cI, 24576, .inl (fm_wins)))]) (va_runV (As := []) (rest := []) ⟨hx, hb, hml, hown, hts⟩ (c_X12_isDance l D G cI cJ cB cZ cO qm 0 qm_width qm_many qm_cells qm_moved qm_tape vm_taped vm_at vm_token vm_place vm_value vm_word vm_bad vm_badPlace vm_fault vm_faultPlace qm_lines fm_lines qm_has qm_round qm_meets qm_stumble qm_isMud qm_cell qm_tune qm_change qm_isKept qm_steps qm_places qm_danced vm_runMost vm_runBegins qm_heardBy vm_fitMany vm_fitFirst vm_fitBeats vm_listenLeaves qm_there vm_metAt vm_metIn qm_wins vm_nightHoles vm_nightFirst vm_nightMud vm_nightSlips vm_drawnNow h_vm_taped h_vm_at h_vm_value H.size) (cwV 0 hts gX12_plays_X12_isDance rfl rfl rfl (by decide +kernel) ⟨Nat.le_of_ble_eq_true rfl, Nat.le_of_ble_eq_true rfl⟩) (ct_preV (T := ct_T cI cJ cB cZ cO) (ci := 12) (q0 := 0) hE hH hP hD hS hA [0, 1] (by decide) rfl rfl rfl) rfl rfl hl.1 rfl (lv_room (Nat.le_of_ble_eq_true rfl)) dX12_plays_6 ⟨Nat.le_of_ble_eq_true rfl, Nat.le_of_ble_eq_true rfl⟩) hP hD hS hA [0, 1] [2, 3] rfl rfl (by decide) (by decide) (fun r1 u H locs hw hP hD hS => ?_)
  obtain ⟨hP, hD⟩ : ct_B D A H [(qm_meets, .inl (cI, 30, .inl (fm_meets))), (qm_wins, .inl (cI, 24576, .inl (fm_wins))), mo qm 0 qm_width qm_many qm_cells qm_moved qm_tape vm_taped vm_at vm_token vm_place vm_value vm_word vm_bad vm_badPlace vm_fault vm_faultPlace qm_lines qm_has qm_round qm_meets qm_stumble qm_isMud qm_cell qm_tune qm_change qm_isKept qm_steps qm_places qm_danced vm_runMost vm_runBegins qm_heardBy vm_fitMany vm_fitFirst vm_fitBeats vm_listenLeaves qm_there vm_metAt vm_metIn qm_wins vm_nightHoles vm_nightFirst vm_nightMud vm_nightSlips vm_drawnNow, (qm_lines, .inl (cI, 5, .inl (fm_lines)))] := ⟨hP, hD⟩
  have hz := hw
  clear hw
  rcases hz with ⟨hz, hz2⟩ | ⟨hz, hz2⟩
  · subst hz
    refine lv_if_eq (tgt := 20) hx hb dX12_plays_9 (by decide) (fun hc => absurd hc (by decide)) (fun _ => ?_)
    refine lv_iload_n hx hb dX12_plays_12 rfl (lv_at hl 1 rfl) ?_
    refine lv_i2l (v := _) hx hb dX12_plays_13 rfl ?_
    refine lv_topl (fun z2 ez2 => ?_)
    have fz2 : z2.toInt = a1.toInt := by rw [ez2]; exact tl_i rfl
    have hb3 := tq_lo a1
    refine ct_calli (D := D) (wr := [(qm_meets, .inl (cI, 30, .inl (fm_meets))), (qm_wins, .inl (cI, 24576, .inl (fm_wins))), mo qm 0 qm_width qm_many qm_cells qm_moved qm_tape vm_taped vm_at vm_token vm_place vm_value vm_word vm_bad vm_badPlace vm_fault vm_faultPlace qm_lines qm_has qm_round qm_meets qm_stumble qm_isMud qm_cell qm_tune qm_change qm_isKept qm_steps qm_places qm_danced vm_runMost vm_runBegins qm_heardBy vm_fitMany vm_fitFirst vm_fitBeats vm_listenLeaves qm_there vm_metAt vm_metIn qm_wins vm_nightHoles vm_nightFirst vm_nightMud vm_nightSlips vm_drawnNow, (qm_lines, .inl (cI, 5, .inl (fm_lines)))]) (va_runS (As := [.long z2]) (rest := []) ⟨hx, hb, hml, hown, hts⟩ (c_X12_isStep l D G cI cJ cB cZ cO z2  H.size) (va_cwS 1 hts gX12_plays_X12_isStep rfl rfl rfl (by decide +kernel) ⟨Nat.le_of_ble_eq_true rfl, Nat.le_of_ble_eq_true rfl⟩) (ct_preS (T := ct_T cI cJ cB cZ cO) hE hH hP hD hS hA [] (by decide) rfl) rfl rfl hl.1 rfl (lv_room (Nat.le_of_ble_eq_true rfl)) dX12_plays_14 ⟨Nat.le_of_ble_eq_true rfl, Nat.le_of_ble_eq_true rfl⟩) hP hD hS hA [] [0, 1, 2, 3] rfl rfl (by decide) (by decide) (fun r4 u H locs hw hP hD hS => ?_)
    obtain ⟨hP, hD⟩ : ct_B D A H [(qm_meets, .inl (cI, 30, .inl (fm_meets))), (qm_wins, .inl (cI, 24576, .inl (fm_wins))), mo qm 0 qm_width qm_many qm_cells qm_moved qm_tape vm_taped vm_at vm_token vm_place vm_value vm_word vm_bad vm_badPlace vm_fault vm_faultPlace qm_lines qm_has qm_round qm_meets qm_stumble qm_isMud qm_cell qm_tune qm_change qm_isKept qm_steps qm_places qm_danced vm_runMost vm_runBegins qm_heardBy vm_fitMany vm_fitFirst vm_fitBeats vm_listenLeaves qm_there vm_metAt vm_metIn qm_wins vm_nightHoles vm_nightFirst vm_nightMud vm_nightSlips vm_drawnNow, (qm_lines, .inl (cI, 5, .inl (fm_lines)))] := ⟨hP, hD⟩
    have hz := hw
    clear hw
    rcases hz with ⟨hz, hz2⟩ | ⟨hz, hz2⟩
    · subst hz
      have hz_5 : (0 ≤ z2.toInt ∧ z2.toInt ≤ 5) := hz2
      refine lv_if_ne (tgt := 23) hx hb dX12_plays_17 (by decide) (fun _ => ?_) (fun hc => absurd hc (by decide))
      refine lv_aload_n hx hb dX12_plays_23 rfl (lv_at hl 0 rfl) ?_
      refine ct_callv (D := D) (wr := [(qm_meets, .inl (cI, 30, .inl (fm_meets))), (qm_lines, .inl (cI, 5, .inl (fm_lines)))]) (va_runV (As := []) (rest := []) ⟨hx, hb, hml, hown, hts⟩ (c_X12_laysGame l D G cI cJ cB cZ cO qm 0 qm_width qm_many qm_cells qm_moved qm_tape vm_taped vm_at vm_token vm_place vm_value vm_word vm_bad vm_badPlace vm_fault vm_faultPlace qm_lines qm_has qm_round qm_meets qm_stumble qm_isMud qm_cell qm_tune qm_change qm_isKept qm_steps qm_places qm_danced vm_runMost vm_runBegins qm_heardBy vm_fitMany vm_fitFirst vm_fitBeats vm_listenLeaves qm_there vm_metAt vm_metIn qm_wins fm_wins vm_nightHoles vm_nightFirst vm_nightMud vm_nightSlips vm_drawnNow h_vm_taped h_vm_at h_vm_value H.size) (cwV 0 hts gX12_plays_X12_laysGame rfl rfl rfl (by decide +kernel) ⟨Nat.le_of_ble_eq_true rfl, Nat.le_of_ble_eq_true rfl⟩) (ct_preV (T := ct_T cI cJ cB cZ cO) (ci := 12) (q0 := 2) hE hH hP hD hS hA [2, 1] (by decide) rfl rfl rfl) rfl rfl hl.1 rfl (lv_room (Nat.le_of_ble_eq_true rfl)) dX12_plays_24 ⟨Nat.le_of_ble_eq_true rfl, Nat.le_of_ble_eq_true rfl⟩) hP hD hS hA [2, 1] [0, 3] rfl rfl (by decide) (by decide) (fun u H locs hw hP hD hS => ?_)
      obtain ⟨g6, rfl⟩ : ∃ z, z = u := ⟨_, rfl⟩
      obtain ⟨hP, hD⟩ : ct_B D A H [(qm_meets, .inl (cI, 30, .inl (fm_meets))), (qm_lines, .inl (cI, 5, .inl (fm_lines))), mo qm 0 qm_width qm_many qm_cells qm_moved qm_tape vm_taped vm_at vm_token vm_place vm_value vm_word vm_bad vm_badPlace vm_fault vm_faultPlace qm_lines qm_has qm_round qm_meets qm_stumble qm_isMud qm_cell qm_tune qm_change qm_isKept qm_steps qm_places qm_danced vm_runMost vm_runBegins qm_heardBy vm_fitMany vm_fitFirst vm_fitBeats vm_listenLeaves qm_there vm_metAt vm_metIn qm_wins vm_nightHoles vm_nightFirst vm_nightMud vm_nightSlips vm_drawnNow, (qm_wins, .inl (cI, 24576, .inl (g6)))] := ⟨hP, hD⟩
      rcases (show a1.toInt = 0 ∨ a1.toInt = 1 ∨ a1.toInt = 2 ∨ a1.toInt = 3 ∨ a1.toInt = 4 ∨ a1.toInt = 5 by omega) with hj | hj | hj | hj | hj | hj
      · have hj2 : a1 = 0 := tq_of hj (by decide)
        have hl : lv_has ls 4 [(0, .ref qm), (1, .int 0)] := by have h9 := hl; rw [hj2] at h9; exact h9
        refine lv_iconst (v := 1) hx hb dX12_plays_27 (by decide) ?_
        refine lv_iconst (v := 2) hx hb dX12_plays_28 (by decide) ?_
        refine lv_iload_n hx hb dX12_plays_29 rfl (lv_at hl 1 rfl) ?_
        refine lv_imul hx hb dX12_plays_30 ?_
        refine lv_topi (fun z7 ez7 => ?_)
        obtain rfl : z7 = 0 := ez7.trans (by decide)
        refine lv_ishl hx hb dX12_plays_31 ?_
        refine lv_topi (fun z8 ez8 => ?_)
        obtain rfl : z8 = 1 := ez8.trans (by decide)
        refine lv_istore_n (lv' := [(2, .int 1), (0, .ref qm), (1, .int 0)]) hx hb dX12_plays_32 rfl hl (by decide) rfl (fun ls hl => ?_)
        refine lv_iconst (v := 0) hx hb dX12_plays_33 (by decide) ?_
        refine lv_istore_n (lv' := [(3, .int 0), (2, .int 1), (0, .ref qm), (1, .int 0)]) hx hb dX12_plays_34 rfl hl (by decide) rfl (fun ls hl => ?_)
        refine ct_loop (X := (Nat → Int32) × Int32) (fun x => (6 - x.2.toInt).toNat) (fun x H locs ls => ((0 ≤ x.2.toInt ∧ x.2.toInt ≤ 6)) ∧ ct_B D A H [(qm_meets, .inl (cI, 30, .inl (fm_meets))), (qm_lines, .inl (cI, 5, .inl (fm_lines))), mo qm 0 qm_width qm_many qm_cells qm_moved qm_tape vm_taped vm_at vm_token vm_place vm_value vm_word vm_bad vm_badPlace vm_fault vm_faultPlace qm_lines qm_has qm_round qm_meets qm_stumble qm_isMud qm_cell qm_tune qm_change qm_isKept qm_steps qm_places qm_danced vm_runMost vm_runBegins qm_heardBy vm_fitMany vm_fitFirst vm_fitBeats vm_listenLeaves qm_there vm_metAt vm_metIn qm_wins vm_nightHoles vm_nightFirst vm_nightMud vm_nightSlips vm_drawnNow, (qm_wins, .inl (cI, 24576, .inl (x.1)))] ∧ va_S A s.heap H locs ∧ lv_has ls 4 [(3, .int x.2), (2, .int 1), (0, .ref qm), (1, .int 0)]) 35 (g6, (0 : Int32)) ⟨(show 0 ≤ (0 : Int32).toInt ∧ (0 : Int32).toInt ≤ 6 by decide), ⟨hP, hD⟩, hS, lv_sub hl [0, 1, 2, 3] rfl⟩ (fun x ih153 H locs ls hI => ?_)
        obtain ⟨g151, x152⟩ := x
        obtain ⟨h_x152, ⟨hP, hD⟩, hS, hl⟩ := hI
        change (0 ≤ x152.toInt ∧ x152.toInt ≤ 6) at h_x152
        obtain ⟨hP, hD⟩ : ct_B D A H [(qm_meets, .inl (cI, 30, .inl (fm_meets))), (qm_lines, .inl (cI, 5, .inl (fm_lines))), mo qm 0 qm_width qm_many qm_cells qm_moved qm_tape vm_taped vm_at vm_token vm_place vm_value vm_word vm_bad vm_badPlace vm_fault vm_faultPlace qm_lines qm_has qm_round qm_meets qm_stumble qm_isMud qm_cell qm_tune qm_change qm_isKept qm_steps qm_places qm_danced vm_runMost vm_runBegins qm_heardBy vm_fitMany vm_fitFirst vm_fitBeats vm_listenLeaves qm_there vm_metAt vm_metIn qm_wins vm_nightHoles vm_nightFirst vm_nightMud vm_nightSlips vm_drawnNow, (qm_wins, .inl (cI, 24576, .inl (g151)))] := ⟨hP, hD⟩
        have hl : lv_has ls 4 [(3, .int x152), (2, .int 1), (0, .ref qm), (1, .int 0)] := hl
        refine lv_iload_n hx hb dX12_plays_35 rfl (lv_at hl 0 rfl) ?_
        refine lv_bipush (v := 6) hx hb dX12_plays_36 (by decide) ?_
        refine lv_icmp_ge (tgt := 74) hx hb dX12_plays_38 (by decide) (fun hc => ?_) (fun hc => ?_)
        · have hq154 : 6 ≤ x152.toInt := tq_le (by decide) rfl hc
          refine lv_iconst (v := (-1)) hx hb dX12_plays_74 (by decide) ?_
          obtain ⟨hP9, hD9⟩ : ct_B D A H [mo qm 0 qm_width qm_many qm_cells qm_moved qm_tape vm_taped vm_at vm_token vm_place vm_value vm_word vm_bad vm_badPlace vm_fault vm_faultPlace qm_lines qm_has qm_round qm_meets qm_stumble qm_isMud qm_cell qm_tune qm_change qm_isKept qm_steps qm_places qm_danced vm_runMost vm_runBegins qm_heardBy vm_fitMany vm_fitFirst vm_fitBeats vm_listenLeaves qm_there vm_metAt vm_metIn qm_wins vm_nightHoles vm_nightFirst vm_nightMud vm_nightSlips vm_drawnNow, (qm_lines, .inl (cI, 5, .inl (fm_lines))), (qm_meets, .inl (cI, 30, .inl (fm_meets))), (qm_wins, .inl (cI, 24576, .inl (g151)))] := ⟨hP.sub [2, 1, 0, 3] rfl, hD.sub [2, 1, 0, 3] (by decide) rfl⟩
          exact W.iret (v := (-1)) hx hb hr (fun t ht hW => ⟨⟨(-1), ((0 : Int32), g151), rfl, (show (-2) ≤ (-1 : Int32).toInt ∧ (-1 : Int32).toInt ≤ 5 by decide), by rw [ht]; exact hP9, hD9⟩, hS.F ht⟩) hS.2.2 dX12_plays_75
        · have hq154 : x152.toInt < 6 := tq_nle (by decide) rfl hc
          rcases (show x152.toInt = 0 ∨ x152.toInt = 1 ∨ x152.toInt = 2 ∨ x152.toInt = 3 ∨ x152.toInt = 4 ∨ x152.toInt = 5 by omega) with hj | hj | hj | hj | hj | hj
          · have hj2 : x152 = 0 := tq_of hj (by decide)
            have hl : lv_has ls 4 [(3, .int 0), (2, .int 1), (0, .ref qm), (1, .int 0)] := by have h9 := hl; rw [hj2] at h9; exact h9
            refine lv_aload_n hx hb dX12_plays_41 rfl (lv_at hl 2 rfl) ?_
            refine lv_iload_n hx hb dX12_plays_42 rfl (lv_at hl 1 rfl) ?_
            refine lv_iload_n hx hb dX12_plays_43 rfl (lv_at hl 3 rfl) ?_
            refine lv_iload_n hx hb dX12_plays_44 rfl (lv_at hl 0 rfl) ?_
            refine ct_calli (D := D) (wr := [(qm_lines, .inl (cI, 5, .inl (fm_lines))), (qm_wins, .inl (cI, 24576, .inl (g151)))]) (va_runV (As := [.int 1, .int 0, .int 0]) (rest := []) ⟨hx, hb, hml, hown, hts⟩ (c_X12_isPlay l D G cI cJ cB cZ cO qm 0 qm_width qm_many qm_cells qm_moved qm_tape vm_taped vm_at vm_token vm_place vm_value vm_word vm_bad vm_badPlace vm_fault vm_faultPlace qm_lines qm_has qm_round qm_meets fm_meets qm_stumble qm_isMud qm_cell qm_tune qm_change qm_isKept qm_steps qm_places qm_danced vm_runMost vm_runBegins qm_heardBy vm_fitMany vm_fitFirst vm_fitBeats vm_listenLeaves qm_there vm_metAt vm_metIn qm_wins vm_nightHoles vm_nightFirst vm_nightMud vm_nightSlips vm_drawnNow 1 0 0 h_vm_taped h_vm_at h_vm_value (by decide) (by decide) H.size) (cwV 3 hts gX12_plays_X12_isPlay rfl rfl rfl (by decide +kernel) ⟨Nat.le_of_ble_eq_true rfl, Nat.le_of_ble_eq_true rfl⟩) (ct_preV (T := ct_T cI cJ cB cZ cO) (ci := 12) (q0 := 2) hE hH hP hD hS hA [2, 0] (by decide) rfl rfl rfl) rfl rfl hl.1 rfl (lv_room (Nat.le_of_ble_eq_true rfl)) dX12_plays_45 ⟨Nat.le_of_ble_eq_true rfl, Nat.le_of_ble_eq_true rfl⟩) hP hD hS hA [2, 0] [1, 3] rfl rfl (by decide) (by decide) (fun r155 u H locs hw hP hD hS => ?_)
            obtain ⟨hP, hD⟩ : ct_B D A H [(qm_lines, .inl (cI, 5, .inl (fm_lines))), (qm_wins, .inl (cI, 24576, .inl (g151))), mo qm 0 qm_width qm_many qm_cells qm_moved qm_tape vm_taped vm_at vm_token vm_place vm_value vm_word vm_bad vm_badPlace vm_fault vm_faultPlace qm_lines qm_has qm_round qm_meets qm_stumble qm_isMud qm_cell qm_tune qm_change qm_isKept qm_steps qm_places qm_danced vm_runMost vm_runBegins qm_heardBy vm_fitMany vm_fitFirst vm_fitBeats vm_listenLeaves qm_there vm_metAt vm_metIn qm_wins vm_nightHoles vm_nightFirst vm_nightMud vm_nightSlips vm_drawnNow, (qm_meets, .inl (cI, 30, .inl (fm_meets)))] := ⟨hP, hD⟩
            have hz := hw
            clear hw
            rcases hz with ⟨hz, hz2⟩ | ⟨hz, hz2⟩
            · subst hz
              have hz_156 : (pl (1 : Int32) (0 : Int32)) := hz2
              refine lv_if_eq (tgt := 68) hx hb dX12_plays_48 (by decide) (fun hc => absurd hc (by decide)) (fun _ => ?_)
              refine lv_aload_n hx hb dX12_plays_51 rfl (lv_at hl 2 rfl) ?_
              refine lv_iload_n hx hb dX12_plays_52 rfl (lv_at hl 1 rfl) ?_
              refine lv_iconst (v := 1) hx hb dX12_plays_53 (by decide) ?_
              refine lv_iconst (v := 2) hx hb dX12_plays_54 (by decide) ?_
              refine lv_iload_n hx hb dX12_plays_55 rfl (lv_at hl 0 rfl) ?_
              refine lv_imul hx hb dX12_plays_56 ?_
              refine lv_topi (fun z157 ez157 => ?_)
              obtain rfl : z157 = 0 := ez157.trans (by decide)
              refine lv_ishl hx hb dX12_plays_57 ?_
              refine lv_topi (fun z158 ez158 => ?_)
              obtain rfl : z158 = 1 := ez158.trans (by decide)
              refine lv_iadd hx hb dX12_plays_58 ?_
              refine lv_topi (fun z159 ez159 => ?_)
              obtain rfl : z159 = 2 := ez159.trans (by decide)
              refine lv_iload_n hx hb dX12_plays_59 rfl (lv_at hl 0 rfl) ?_
              refine ct_calli (D := D) (wr := [(qm_lines, .inl (cI, 5, .inl (fm_lines)))]) (va_runV (As := [.int 2, .int 0]) (rest := []) ⟨hx, hb, hml, hown, hts⟩ (c_X12_winsFrom l D G cI cJ cB cZ cO qm 0 qm_width qm_many qm_cells qm_moved qm_tape vm_taped vm_at vm_token vm_place vm_value vm_word vm_bad vm_badPlace vm_fault vm_faultPlace qm_lines qm_has qm_round qm_meets fm_meets qm_stumble qm_isMud qm_cell qm_tune qm_change qm_isKept qm_steps qm_places qm_danced vm_runMost vm_runBegins qm_heardBy vm_fitMany vm_fitFirst vm_fitBeats vm_listenLeaves qm_there vm_metAt vm_metIn qm_wins vm_nightHoles vm_nightFirst vm_nightMud vm_nightSlips vm_drawnNow h_vm_taped h_vm_at h_vm_value 12 g151 2 0 (by decide) (by unfold wn; decide +kernel) H.size) (cwV 2 hts gX12_plays_X12_winsFrom rfl rfl rfl (by decide +kernel) ⟨Nat.le_of_ble_eq_true rfl, Nat.le_of_ble_eq_true rfl⟩) (ct_preV (T := ct_T cI cJ cB cZ cO) (ci := 12) (q0 := 2) hE hH hP hD hS hA [2, 3, 1] (by decide) rfl rfl rfl) rfl rfl hl.1 rfl (lv_room (Nat.le_of_ble_eq_true rfl)) dX12_plays_60 ⟨Nat.le_of_ble_eq_true rfl, Nat.le_of_ble_eq_true rfl⟩) hP hD hS hA [2, 3, 1] [0] rfl rfl (by decide) (by decide) (fun r160 u H locs hw hP hD hS => ?_)
              obtain ⟨g161, rfl⟩ : ∃ z, z = u := ⟨_, rfl⟩
              obtain ⟨hP, hD⟩ : ct_B D A H [(qm_lines, .inl (cI, 5, .inl (fm_lines))), mo qm 0 qm_width qm_many qm_cells qm_moved qm_tape vm_taped vm_at vm_token vm_place vm_value vm_word vm_bad vm_badPlace vm_fault vm_faultPlace qm_lines qm_has qm_round qm_meets qm_stumble qm_isMud qm_cell qm_tune qm_change qm_isKept qm_steps qm_places qm_danced vm_runMost vm_runBegins qm_heardBy vm_fitMany vm_fitFirst vm_fitBeats vm_listenLeaves qm_there vm_metAt vm_metIn qm_wins vm_nightHoles vm_nightFirst vm_nightMud vm_nightSlips vm_drawnNow, (qm_meets, .inl (cI, 30, .inl (fm_meets))), (qm_wins, .inl (cI, 24576, .inl (g161)))] := ⟨hP, hD⟩
              have hz := hw
              clear hw
              rcases hz with ⟨hz, hz2⟩ | ⟨hz, hz2⟩
              · subst hz
                refine lv_if_ne (tgt := 68) hx hb dX12_plays_63 (by decide) (fun _ => ?_) (fun hc => absurd hc (by decide))
                refine lv_iinc (v := 1) (lv' := [(3, .int 1), (2, .int 1), (0, .ref qm), (1, .int 0)]) hx hb dX12_plays_68 hl (k := 0) rfl (by decide) (by decide) rfl (fun ls hl => ?_)
                refine lv_goto (tgt := 35) hx hb dX12_plays_71 (by decide) ?_
                have hk162 : (1 : Int32).toInt = 1 := by decide
                obtain ⟨hP9, hD9⟩ : ct_B D A H [(qm_meets, .inl (cI, 30, .inl (fm_meets))), (qm_lines, .inl (cI, 5, .inl (fm_lines))), mo qm 0 qm_width qm_many qm_cells qm_moved qm_tape vm_taped vm_at vm_token vm_place vm_value vm_word vm_bad vm_badPlace vm_fault vm_faultPlace qm_lines qm_has qm_round qm_meets qm_stumble qm_isMud qm_cell qm_tune qm_change qm_isKept qm_steps qm_places qm_danced vm_runMost vm_runBegins qm_heardBy vm_fitMany vm_fitFirst vm_fitBeats vm_listenLeaves qm_there vm_metAt vm_metIn qm_wins vm_nightHoles vm_nightFirst vm_nightMud vm_nightSlips vm_drawnNow, (qm_wins, .inl (cI, 24576, .inl (g161)))] := ⟨hP.sub [2, 0, 1, 3] rfl, hD.sub [2, 0, 1, 3] (by decide) rfl⟩
                exact ih153 (g161, (1 : Int32)) _ _ _ (show (6 - (1 : Int32).toInt).toNat < (6 - x152.toInt).toNat by omega) ⟨(show 0 ≤ (1 : Int32).toInt ∧ (1 : Int32).toInt ≤ 6 by decide), ⟨hP9, hD9⟩, hS, lv_sub hl [0, 1, 2, 3] rfl⟩
              · subst hz
                refine lv_if_ne (tgt := 68) hx hb dX12_plays_63 (by decide) (fun hc => absurd hc (by decide)) (fun _ => ?_)
                refine lv_iload_n hx hb dX12_plays_66 rfl (lv_at hl 0 rfl) ?_
                obtain ⟨hP9, hD9⟩ : ct_B D A H [mo qm 0 qm_width qm_many qm_cells qm_moved qm_tape vm_taped vm_at vm_token vm_place vm_value vm_word vm_bad vm_badPlace vm_fault vm_faultPlace qm_lines qm_has qm_round qm_meets qm_stumble qm_isMud qm_cell qm_tune qm_change qm_isKept qm_steps qm_places qm_danced vm_runMost vm_runBegins qm_heardBy vm_fitMany vm_fitFirst vm_fitBeats vm_listenLeaves qm_there vm_metAt vm_metIn qm_wins vm_nightHoles vm_nightFirst vm_nightMud vm_nightSlips vm_drawnNow, (qm_lines, .inl (cI, 5, .inl (fm_lines))), (qm_meets, .inl (cI, 30, .inl (fm_meets))), (qm_wins, .inl (cI, 24576, .inl (g161)))] := ⟨hP.sub [1, 0, 2, 3] rfl, hD.sub [1, 0, 2, 3] (by decide) rfl⟩
                exact W.iret (v := 0) hx hb hr (fun t ht hW => ⟨⟨0, ((0 : Int32), g161), rfl, (show (-2) ≤ (0 : Int32).toInt ∧ (0 : Int32).toInt ≤ 5 by decide), by rw [ht]; exact hP9, hD9⟩, hS.F ht⟩) hS.2.2 dX12_plays_67
            · subst hz
              refine lv_if_eq (tgt := 68) hx hb dX12_plays_48 (by decide) (fun _ => ?_) (fun hc => absurd hc (by decide))
              refine lv_iinc (v := 1) (lv' := [(3, .int 1), (2, .int 1), (0, .ref qm), (1, .int 0)]) hx hb dX12_plays_68 hl (k := 0) rfl (by decide) (by decide) rfl (fun ls hl => ?_)
              refine lv_goto (tgt := 35) hx hb dX12_plays_71 (by decide) ?_
              have hk163 : (1 : Int32).toInt = 1 := by decide
              obtain ⟨hP9, hD9⟩ : ct_B D A H [(qm_meets, .inl (cI, 30, .inl (fm_meets))), (qm_lines, .inl (cI, 5, .inl (fm_lines))), mo qm 0 qm_width qm_many qm_cells qm_moved qm_tape vm_taped vm_at vm_token vm_place vm_value vm_word vm_bad vm_badPlace vm_fault vm_faultPlace qm_lines qm_has qm_round qm_meets qm_stumble qm_isMud qm_cell qm_tune qm_change qm_isKept qm_steps qm_places qm_danced vm_runMost vm_runBegins qm_heardBy vm_fitMany vm_fitFirst vm_fitBeats vm_listenLeaves qm_there vm_metAt vm_metIn qm_wins vm_nightHoles vm_nightFirst vm_nightMud vm_nightSlips vm_drawnNow, (qm_wins, .inl (cI, 24576, .inl (g151)))] := ⟨hP.sub [3, 0, 2, 1] rfl, hD.sub [3, 0, 2, 1] (by decide) rfl⟩
              exact ih153 (g151, (1 : Int32)) _ _ _ (show (6 - (1 : Int32).toInt).toNat < (6 - x152.toInt).toNat by omega) ⟨(show 0 ≤ (1 : Int32).toInt ∧ (1 : Int32).toInt ≤ 6 by decide), ⟨hP9, hD9⟩, hS, lv_sub hl [0, 1, 2, 3] rfl⟩
          · have hj2 : x152 = 1 := tq_of hj (by decide)
            have hl : lv_has ls 4 [(3, .int 1), (2, .int 1), (0, .ref qm), (1, .int 0)] := by have h9 := hl; rw [hj2] at h9; exact h9
            refine lv_aload_n hx hb dX12_plays_41 rfl (lv_at hl 2 rfl) ?_
            refine lv_iload_n hx hb dX12_plays_42 rfl (lv_at hl 1 rfl) ?_
            refine lv_iload_n hx hb dX12_plays_43 rfl (lv_at hl 3 rfl) ?_
            refine lv_iload_n hx hb dX12_plays_44 rfl (lv_at hl 0 rfl) ?_
            refine ct_calli (D := D) (wr := [(qm_lines, .inl (cI, 5, .inl (fm_lines))), (qm_wins, .inl (cI, 24576, .inl (g151)))]) (va_runV (As := [.int 1, .int 0, .int 1]) (rest := []) ⟨hx, hb, hml, hown, hts⟩ (c_X12_isPlay l D G cI cJ cB cZ cO qm 0 qm_width qm_many qm_cells qm_moved qm_tape vm_taped vm_at vm_token vm_place vm_value vm_word vm_bad vm_badPlace vm_fault vm_faultPlace qm_lines qm_has qm_round qm_meets fm_meets qm_stumble qm_isMud qm_cell qm_tune qm_change qm_isKept qm_steps qm_places qm_danced vm_runMost vm_runBegins qm_heardBy vm_fitMany vm_fitFirst vm_fitBeats vm_listenLeaves qm_there vm_metAt vm_metIn qm_wins vm_nightHoles vm_nightFirst vm_nightMud vm_nightSlips vm_drawnNow 1 0 1 h_vm_taped h_vm_at h_vm_value (by decide) (by decide) H.size) (cwV 3 hts gX12_plays_X12_isPlay rfl rfl rfl (by decide +kernel) ⟨Nat.le_of_ble_eq_true rfl, Nat.le_of_ble_eq_true rfl⟩) (ct_preV (T := ct_T cI cJ cB cZ cO) (ci := 12) (q0 := 2) hE hH hP hD hS hA [2, 0] (by decide) rfl rfl rfl) rfl rfl hl.1 rfl (lv_room (Nat.le_of_ble_eq_true rfl)) dX12_plays_45 ⟨Nat.le_of_ble_eq_true rfl, Nat.le_of_ble_eq_true rfl⟩) hP hD hS hA [2, 0] [1, 3] rfl rfl (by decide) (by decide) (fun r164 u H locs hw hP hD hS => ?_)
            obtain ⟨hP, hD⟩ : ct_B D A H [(qm_lines, .inl (cI, 5, .inl (fm_lines))), (qm_wins, .inl (cI, 24576, .inl (g151))), mo qm 0 qm_width qm_many qm_cells qm_moved qm_tape vm_taped vm_at vm_token vm_place vm_value vm_word vm_bad vm_badPlace vm_fault vm_faultPlace qm_lines qm_has qm_round qm_meets qm_stumble qm_isMud qm_cell qm_tune qm_change qm_isKept qm_steps qm_places qm_danced vm_runMost vm_runBegins qm_heardBy vm_fitMany vm_fitFirst vm_fitBeats vm_listenLeaves qm_there vm_metAt vm_metIn qm_wins vm_nightHoles vm_nightFirst vm_nightMud vm_nightSlips vm_drawnNow, (qm_meets, .inl (cI, 30, .inl (fm_meets)))] := ⟨hP, hD⟩
            have hz := hw
            clear hw
            rcases hz with ⟨hz, hz2⟩ | ⟨hz, hz2⟩
            · subst hz
              have hz_165 : (pl (1 : Int32) (1 : Int32)) := hz2
              refine lv_if_eq (tgt := 68) hx hb dX12_plays_48 (by decide) (fun hc => absurd hc (by decide)) (fun _ => ?_)
              refine lv_aload_n hx hb dX12_plays_51 rfl (lv_at hl 2 rfl) ?_
              refine lv_iload_n hx hb dX12_plays_52 rfl (lv_at hl 1 rfl) ?_
              refine lv_iconst (v := 1) hx hb dX12_plays_53 (by decide) ?_
              refine lv_iconst (v := 2) hx hb dX12_plays_54 (by decide) ?_
              refine lv_iload_n hx hb dX12_plays_55 rfl (lv_at hl 0 rfl) ?_
              refine lv_imul hx hb dX12_plays_56 ?_
              refine lv_topi (fun z166 ez166 => ?_)
              obtain rfl : z166 = 2 := ez166.trans (by decide)
              refine lv_ishl hx hb dX12_plays_57 ?_
              refine lv_topi (fun z167 ez167 => ?_)
              obtain rfl : z167 = 4 := ez167.trans (by decide)
              refine lv_iadd hx hb dX12_plays_58 ?_
              refine lv_topi (fun z168 ez168 => ?_)
              obtain rfl : z168 = 5 := ez168.trans (by decide)
              refine lv_iload_n hx hb dX12_plays_59 rfl (lv_at hl 0 rfl) ?_
              refine ct_calli (D := D) (wr := [(qm_lines, .inl (cI, 5, .inl (fm_lines)))]) (va_runV (As := [.int 5, .int 1]) (rest := []) ⟨hx, hb, hml, hown, hts⟩ (c_X12_winsFrom l D G cI cJ cB cZ cO qm 0 qm_width qm_many qm_cells qm_moved qm_tape vm_taped vm_at vm_token vm_place vm_value vm_word vm_bad vm_badPlace vm_fault vm_faultPlace qm_lines qm_has qm_round qm_meets fm_meets qm_stumble qm_isMud qm_cell qm_tune qm_change qm_isKept qm_steps qm_places qm_danced vm_runMost vm_runBegins qm_heardBy vm_fitMany vm_fitFirst vm_fitBeats vm_listenLeaves qm_there vm_metAt vm_metIn qm_wins vm_nightHoles vm_nightFirst vm_nightMud vm_nightSlips vm_drawnNow h_vm_taped h_vm_at h_vm_value 12 g151 5 1 (by decide) (by unfold wn; decide +kernel) H.size) (cwV 2 hts gX12_plays_X12_winsFrom rfl rfl rfl (by decide +kernel) ⟨Nat.le_of_ble_eq_true rfl, Nat.le_of_ble_eq_true rfl⟩) (ct_preV (T := ct_T cI cJ cB cZ cO) (ci := 12) (q0 := 2) hE hH hP hD hS hA [2, 3, 1] (by decide) rfl rfl rfl) rfl rfl hl.1 rfl (lv_room (Nat.le_of_ble_eq_true rfl)) dX12_plays_60 ⟨Nat.le_of_ble_eq_true rfl, Nat.le_of_ble_eq_true rfl⟩) hP hD hS hA [2, 3, 1] [0] rfl rfl (by decide) (by decide) (fun r169 u H locs hw hP hD hS => ?_)
              obtain ⟨g170, rfl⟩ : ∃ z, z = u := ⟨_, rfl⟩
              obtain ⟨hP, hD⟩ : ct_B D A H [(qm_lines, .inl (cI, 5, .inl (fm_lines))), mo qm 0 qm_width qm_many qm_cells qm_moved qm_tape vm_taped vm_at vm_token vm_place vm_value vm_word vm_bad vm_badPlace vm_fault vm_faultPlace qm_lines qm_has qm_round qm_meets qm_stumble qm_isMud qm_cell qm_tune qm_change qm_isKept qm_steps qm_places qm_danced vm_runMost vm_runBegins qm_heardBy vm_fitMany vm_fitFirst vm_fitBeats vm_listenLeaves qm_there vm_metAt vm_metIn qm_wins vm_nightHoles vm_nightFirst vm_nightMud vm_nightSlips vm_drawnNow, (qm_meets, .inl (cI, 30, .inl (fm_meets))), (qm_wins, .inl (cI, 24576, .inl (g170)))] := ⟨hP, hD⟩
              have hz := hw
              clear hw
              rcases hz with ⟨hz, hz2⟩ | ⟨hz, hz2⟩
              · subst hz
                refine lv_if_ne (tgt := 68) hx hb dX12_plays_63 (by decide) (fun _ => ?_) (fun hc => absurd hc (by decide))
                refine lv_iinc (v := 2) (lv' := [(3, .int 2), (2, .int 1), (0, .ref qm), (1, .int 0)]) hx hb dX12_plays_68 hl (k := 0) rfl (by decide) (by decide) rfl (fun ls hl => ?_)
                refine lv_goto (tgt := 35) hx hb dX12_plays_71 (by decide) ?_
                have hk171 : (2 : Int32).toInt = 2 := by decide
                obtain ⟨hP9, hD9⟩ : ct_B D A H [(qm_meets, .inl (cI, 30, .inl (fm_meets))), (qm_lines, .inl (cI, 5, .inl (fm_lines))), mo qm 0 qm_width qm_many qm_cells qm_moved qm_tape vm_taped vm_at vm_token vm_place vm_value vm_word vm_bad vm_badPlace vm_fault vm_faultPlace qm_lines qm_has qm_round qm_meets qm_stumble qm_isMud qm_cell qm_tune qm_change qm_isKept qm_steps qm_places qm_danced vm_runMost vm_runBegins qm_heardBy vm_fitMany vm_fitFirst vm_fitBeats vm_listenLeaves qm_there vm_metAt vm_metIn qm_wins vm_nightHoles vm_nightFirst vm_nightMud vm_nightSlips vm_drawnNow, (qm_wins, .inl (cI, 24576, .inl (g170)))] := ⟨hP.sub [2, 0, 1, 3] rfl, hD.sub [2, 0, 1, 3] (by decide) rfl⟩
                exact ih153 (g170, (2 : Int32)) _ _ _ (show (6 - (2 : Int32).toInt).toNat < (6 - x152.toInt).toNat by omega) ⟨(show 0 ≤ (2 : Int32).toInt ∧ (2 : Int32).toInt ≤ 6 by decide), ⟨hP9, hD9⟩, hS, lv_sub hl [0, 1, 2, 3] rfl⟩
              · subst hz
                refine lv_if_ne (tgt := 68) hx hb dX12_plays_63 (by decide) (fun hc => absurd hc (by decide)) (fun _ => ?_)
                refine lv_iload_n hx hb dX12_plays_66 rfl (lv_at hl 0 rfl) ?_
                obtain ⟨hP9, hD9⟩ : ct_B D A H [mo qm 0 qm_width qm_many qm_cells qm_moved qm_tape vm_taped vm_at vm_token vm_place vm_value vm_word vm_bad vm_badPlace vm_fault vm_faultPlace qm_lines qm_has qm_round qm_meets qm_stumble qm_isMud qm_cell qm_tune qm_change qm_isKept qm_steps qm_places qm_danced vm_runMost vm_runBegins qm_heardBy vm_fitMany vm_fitFirst vm_fitBeats vm_listenLeaves qm_there vm_metAt vm_metIn qm_wins vm_nightHoles vm_nightFirst vm_nightMud vm_nightSlips vm_drawnNow, (qm_lines, .inl (cI, 5, .inl (fm_lines))), (qm_meets, .inl (cI, 30, .inl (fm_meets))), (qm_wins, .inl (cI, 24576, .inl (g170)))] := ⟨hP.sub [1, 0, 2, 3] rfl, hD.sub [1, 0, 2, 3] (by decide) rfl⟩
                exact W.iret (v := 1) hx hb hr (fun t ht hW => ⟨⟨1, ((0 : Int32), g170), rfl, (show (-2) ≤ (1 : Int32).toInt ∧ (1 : Int32).toInt ≤ 5 by decide), by rw [ht]; exact hP9, hD9⟩, hS.F ht⟩) hS.2.2 dX12_plays_67
            · subst hz
              refine lv_if_eq (tgt := 68) hx hb dX12_plays_48 (by decide) (fun _ => ?_) (fun hc => absurd hc (by decide))
              refine lv_iinc (v := 2) (lv' := [(3, .int 2), (2, .int 1), (0, .ref qm), (1, .int 0)]) hx hb dX12_plays_68 hl (k := 0) rfl (by decide) (by decide) rfl (fun ls hl => ?_)
              refine lv_goto (tgt := 35) hx hb dX12_plays_71 (by decide) ?_
              have hk172 : (2 : Int32).toInt = 2 := by decide
              obtain ⟨hP9, hD9⟩ : ct_B D A H [(qm_meets, .inl (cI, 30, .inl (fm_meets))), (qm_lines, .inl (cI, 5, .inl (fm_lines))), mo qm 0 qm_width qm_many qm_cells qm_moved qm_tape vm_taped vm_at vm_token vm_place vm_value vm_word vm_bad vm_badPlace vm_fault vm_faultPlace qm_lines qm_has qm_round qm_meets qm_stumble qm_isMud qm_cell qm_tune qm_change qm_isKept qm_steps qm_places qm_danced vm_runMost vm_runBegins qm_heardBy vm_fitMany vm_fitFirst vm_fitBeats vm_listenLeaves qm_there vm_metAt vm_metIn qm_wins vm_nightHoles vm_nightFirst vm_nightMud vm_nightSlips vm_drawnNow, (qm_wins, .inl (cI, 24576, .inl (g151)))] := ⟨hP.sub [3, 0, 2, 1] rfl, hD.sub [3, 0, 2, 1] (by decide) rfl⟩
              exact ih153 (g151, (2 : Int32)) _ _ _ (show (6 - (2 : Int32).toInt).toNat < (6 - x152.toInt).toNat by omega) ⟨(show 0 ≤ (2 : Int32).toInt ∧ (2 : Int32).toInt ≤ 6 by decide), ⟨hP9, hD9⟩, hS, lv_sub hl [0, 1, 2, 3] rfl⟩
          · have hj2 : x152 = 2 := tq_of hj (by decide)
            have hl : lv_has ls 4 [(3, .int 2), (2, .int 1), (0, .ref qm), (1, .int 0)] := by have h9 := hl; rw [hj2] at h9; exact h9
            refine lv_aload_n hx hb dX12_plays_41 rfl (lv_at hl 2 rfl) ?_
            refine lv_iload_n hx hb dX12_plays_42 rfl (lv_at hl 1 rfl) ?_
            refine lv_iload_n hx hb dX12_plays_43 rfl (lv_at hl 3 rfl) ?_
            refine lv_iload_n hx hb dX12_plays_44 rfl (lv_at hl 0 rfl) ?_
            refine ct_calli (D := D) (wr := [(qm_lines, .inl (cI, 5, .inl (fm_lines))), (qm_wins, .inl (cI, 24576, .inl (g151)))]) (va_runV (As := [.int 1, .int 0, .int 2]) (rest := []) ⟨hx, hb, hml, hown, hts⟩ (c_X12_isPlay l D G cI cJ cB cZ cO qm 0 qm_width qm_many qm_cells qm_moved qm_tape vm_taped vm_at vm_token vm_place vm_value vm_word vm_bad vm_badPlace vm_fault vm_faultPlace qm_lines qm_has qm_round qm_meets fm_meets qm_stumble qm_isMud qm_cell qm_tune qm_change qm_isKept qm_steps qm_places qm_danced vm_runMost vm_runBegins qm_heardBy vm_fitMany vm_fitFirst vm_fitBeats vm_listenLeaves qm_there vm_metAt vm_metIn qm_wins vm_nightHoles vm_nightFirst vm_nightMud vm_nightSlips vm_drawnNow 1 0 2 h_vm_taped h_vm_at h_vm_value (by decide) (by decide) H.size) (cwV 3 hts gX12_plays_X12_isPlay rfl rfl rfl (by decide +kernel) ⟨Nat.le_of_ble_eq_true rfl, Nat.le_of_ble_eq_true rfl⟩) (ct_preV (T := ct_T cI cJ cB cZ cO) (ci := 12) (q0 := 2) hE hH hP hD hS hA [2, 0] (by decide) rfl rfl rfl) rfl rfl hl.1 rfl (lv_room (Nat.le_of_ble_eq_true rfl)) dX12_plays_45 ⟨Nat.le_of_ble_eq_true rfl, Nat.le_of_ble_eq_true rfl⟩) hP hD hS hA [2, 0] [1, 3] rfl rfl (by decide) (by decide) (fun r173 u H locs hw hP hD hS => ?_)
            obtain ⟨hP, hD⟩ : ct_B D A H [(qm_lines, .inl (cI, 5, .inl (fm_lines))), (qm_wins, .inl (cI, 24576, .inl (g151))), mo qm 0 qm_width qm_many qm_cells qm_moved qm_tape vm_taped vm_at vm_token vm_place vm_value vm_word vm_bad vm_badPlace vm_fault vm_faultPlace qm_lines qm_has qm_round qm_meets qm_stumble qm_isMud qm_cell qm_tune qm_change qm_isKept qm_steps qm_places qm_danced vm_runMost vm_runBegins qm_heardBy vm_fitMany vm_fitFirst vm_fitBeats vm_listenLeaves qm_there vm_metAt vm_metIn qm_wins vm_nightHoles vm_nightFirst vm_nightMud vm_nightSlips vm_drawnNow, (qm_meets, .inl (cI, 30, .inl (fm_meets)))] := ⟨hP, hD⟩
            have hz := hw
            clear hw
            rcases hz with ⟨hz, hz2⟩ | ⟨hz, hz2⟩
            · subst hz
              have hz_174 : (pl (1 : Int32) (2 : Int32)) := hz2
              refine lv_if_eq (tgt := 68) hx hb dX12_plays_48 (by decide) (fun hc => absurd hc (by decide)) (fun _ => ?_)
              refine lv_aload_n hx hb dX12_plays_51 rfl (lv_at hl 2 rfl) ?_
              refine lv_iload_n hx hb dX12_plays_52 rfl (lv_at hl 1 rfl) ?_
              refine lv_iconst (v := 1) hx hb dX12_plays_53 (by decide) ?_
              refine lv_iconst (v := 2) hx hb dX12_plays_54 (by decide) ?_
              refine lv_iload_n hx hb dX12_plays_55 rfl (lv_at hl 0 rfl) ?_
              refine lv_imul hx hb dX12_plays_56 ?_
              refine lv_topi (fun z175 ez175 => ?_)
              obtain rfl : z175 = 4 := ez175.trans (by decide)
              refine lv_ishl hx hb dX12_plays_57 ?_
              refine lv_topi (fun z176 ez176 => ?_)
              obtain rfl : z176 = 16 := ez176.trans (by decide)
              refine lv_iadd hx hb dX12_plays_58 ?_
              refine lv_topi (fun z177 ez177 => ?_)
              obtain rfl : z177 = 17 := ez177.trans (by decide)
              refine lv_iload_n hx hb dX12_plays_59 rfl (lv_at hl 0 rfl) ?_
              refine ct_calli (D := D) (wr := [(qm_lines, .inl (cI, 5, .inl (fm_lines)))]) (va_runV (As := [.int 17, .int 2]) (rest := []) ⟨hx, hb, hml, hown, hts⟩ (c_X12_winsFrom l D G cI cJ cB cZ cO qm 0 qm_width qm_many qm_cells qm_moved qm_tape vm_taped vm_at vm_token vm_place vm_value vm_word vm_bad vm_badPlace vm_fault vm_faultPlace qm_lines qm_has qm_round qm_meets fm_meets qm_stumble qm_isMud qm_cell qm_tune qm_change qm_isKept qm_steps qm_places qm_danced vm_runMost vm_runBegins qm_heardBy vm_fitMany vm_fitFirst vm_fitBeats vm_listenLeaves qm_there vm_metAt vm_metIn qm_wins vm_nightHoles vm_nightFirst vm_nightMud vm_nightSlips vm_drawnNow h_vm_taped h_vm_at h_vm_value 12 g151 17 2 (by decide) (by unfold wn; decide +kernel) H.size) (cwV 2 hts gX12_plays_X12_winsFrom rfl rfl rfl (by decide +kernel) ⟨Nat.le_of_ble_eq_true rfl, Nat.le_of_ble_eq_true rfl⟩) (ct_preV (T := ct_T cI cJ cB cZ cO) (ci := 12) (q0 := 2) hE hH hP hD hS hA [2, 3, 1] (by decide) rfl rfl rfl) rfl rfl hl.1 rfl (lv_room (Nat.le_of_ble_eq_true rfl)) dX12_plays_60 ⟨Nat.le_of_ble_eq_true rfl, Nat.le_of_ble_eq_true rfl⟩) hP hD hS hA [2, 3, 1] [0] rfl rfl (by decide) (by decide) (fun r178 u H locs hw hP hD hS => ?_)
              obtain ⟨g179, rfl⟩ : ∃ z, z = u := ⟨_, rfl⟩
              obtain ⟨hP, hD⟩ : ct_B D A H [(qm_lines, .inl (cI, 5, .inl (fm_lines))), mo qm 0 qm_width qm_many qm_cells qm_moved qm_tape vm_taped vm_at vm_token vm_place vm_value vm_word vm_bad vm_badPlace vm_fault vm_faultPlace qm_lines qm_has qm_round qm_meets qm_stumble qm_isMud qm_cell qm_tune qm_change qm_isKept qm_steps qm_places qm_danced vm_runMost vm_runBegins qm_heardBy vm_fitMany vm_fitFirst vm_fitBeats vm_listenLeaves qm_there vm_metAt vm_metIn qm_wins vm_nightHoles vm_nightFirst vm_nightMud vm_nightSlips vm_drawnNow, (qm_meets, .inl (cI, 30, .inl (fm_meets))), (qm_wins, .inl (cI, 24576, .inl (g179)))] := ⟨hP, hD⟩
              have hz := hw
              clear hw
              rcases hz with ⟨hz, hz2⟩ | ⟨hz, hz2⟩
              · subst hz
                refine lv_if_ne (tgt := 68) hx hb dX12_plays_63 (by decide) (fun _ => ?_) (fun hc => absurd hc (by decide))
                refine lv_iinc (v := 3) (lv' := [(3, .int 3), (2, .int 1), (0, .ref qm), (1, .int 0)]) hx hb dX12_plays_68 hl (k := 0) rfl (by decide) (by decide) rfl (fun ls hl => ?_)
                refine lv_goto (tgt := 35) hx hb dX12_plays_71 (by decide) ?_
                have hk180 : (3 : Int32).toInt = 3 := by decide
                obtain ⟨hP9, hD9⟩ : ct_B D A H [(qm_meets, .inl (cI, 30, .inl (fm_meets))), (qm_lines, .inl (cI, 5, .inl (fm_lines))), mo qm 0 qm_width qm_many qm_cells qm_moved qm_tape vm_taped vm_at vm_token vm_place vm_value vm_word vm_bad vm_badPlace vm_fault vm_faultPlace qm_lines qm_has qm_round qm_meets qm_stumble qm_isMud qm_cell qm_tune qm_change qm_isKept qm_steps qm_places qm_danced vm_runMost vm_runBegins qm_heardBy vm_fitMany vm_fitFirst vm_fitBeats vm_listenLeaves qm_there vm_metAt vm_metIn qm_wins vm_nightHoles vm_nightFirst vm_nightMud vm_nightSlips vm_drawnNow, (qm_wins, .inl (cI, 24576, .inl (g179)))] := ⟨hP.sub [2, 0, 1, 3] rfl, hD.sub [2, 0, 1, 3] (by decide) rfl⟩
                exact ih153 (g179, (3 : Int32)) _ _ _ (show (6 - (3 : Int32).toInt).toNat < (6 - x152.toInt).toNat by omega) ⟨(show 0 ≤ (3 : Int32).toInt ∧ (3 : Int32).toInt ≤ 6 by decide), ⟨hP9, hD9⟩, hS, lv_sub hl [0, 1, 2, 3] rfl⟩
              · subst hz
                refine lv_if_ne (tgt := 68) hx hb dX12_plays_63 (by decide) (fun hc => absurd hc (by decide)) (fun _ => ?_)
                refine lv_iload_n hx hb dX12_plays_66 rfl (lv_at hl 0 rfl) ?_
                obtain ⟨hP9, hD9⟩ : ct_B D A H [mo qm 0 qm_width qm_many qm_cells qm_moved qm_tape vm_taped vm_at vm_token vm_place vm_value vm_word vm_bad vm_badPlace vm_fault vm_faultPlace qm_lines qm_has qm_round qm_meets qm_stumble qm_isMud qm_cell qm_tune qm_change qm_isKept qm_steps qm_places qm_danced vm_runMost vm_runBegins qm_heardBy vm_fitMany vm_fitFirst vm_fitBeats vm_listenLeaves qm_there vm_metAt vm_metIn qm_wins vm_nightHoles vm_nightFirst vm_nightMud vm_nightSlips vm_drawnNow, (qm_lines, .inl (cI, 5, .inl (fm_lines))), (qm_meets, .inl (cI, 30, .inl (fm_meets))), (qm_wins, .inl (cI, 24576, .inl (g179)))] := ⟨hP.sub [1, 0, 2, 3] rfl, hD.sub [1, 0, 2, 3] (by decide) rfl⟩
                exact W.iret (v := 2) hx hb hr (fun t ht hW => ⟨⟨2, ((0 : Int32), g179), rfl, (show (-2) ≤ (2 : Int32).toInt ∧ (2 : Int32).toInt ≤ 5 by decide), by rw [ht]; exact hP9, hD9⟩, hS.F ht⟩) hS.2.2 dX12_plays_67
            · subst hz
              refine lv_if_eq (tgt := 68) hx hb dX12_plays_48 (by decide) (fun _ => ?_) (fun hc => absurd hc (by decide))
              refine lv_iinc (v := 3) (lv' := [(3, .int 3), (2, .int 1), (0, .ref qm), (1, .int 0)]) hx hb dX12_plays_68 hl (k := 0) rfl (by decide) (by decide) rfl (fun ls hl => ?_)
              refine lv_goto (tgt := 35) hx hb dX12_plays_71 (by decide) ?_
              have hk181 : (3 : Int32).toInt = 3 := by decide
              obtain ⟨hP9, hD9⟩ : ct_B D A H [(qm_meets, .inl (cI, 30, .inl (fm_meets))), (qm_lines, .inl (cI, 5, .inl (fm_lines))), mo qm 0 qm_width qm_many qm_cells qm_moved qm_tape vm_taped vm_at vm_token vm_place vm_value vm_word vm_bad vm_badPlace vm_fault vm_faultPlace qm_lines qm_has qm_round qm_meets qm_stumble qm_isMud qm_cell qm_tune qm_change qm_isKept qm_steps qm_places qm_danced vm_runMost vm_runBegins qm_heardBy vm_fitMany vm_fitFirst vm_fitBeats vm_listenLeaves qm_there vm_metAt vm_metIn qm_wins vm_nightHoles vm_nightFirst vm_nightMud vm_nightSlips vm_drawnNow, (qm_wins, .inl (cI, 24576, .inl (g151)))] := ⟨hP.sub [3, 0, 2, 1] rfl, hD.sub [3, 0, 2, 1] (by decide) rfl⟩
              exact ih153 (g151, (3 : Int32)) _ _ _ (show (6 - (3 : Int32).toInt).toNat < (6 - x152.toInt).toNat by omega) ⟨(show 0 ≤ (3 : Int32).toInt ∧ (3 : Int32).toInt ≤ 6 by decide), ⟨hP9, hD9⟩, hS, lv_sub hl [0, 1, 2, 3] rfl⟩
          · have hj2 : x152 = 3 := tq_of hj (by decide)
            have hl : lv_has ls 4 [(3, .int 3), (2, .int 1), (0, .ref qm), (1, .int 0)] := by have h9 := hl; rw [hj2] at h9; exact h9
            refine lv_aload_n hx hb dX12_plays_41 rfl (lv_at hl 2 rfl) ?_
            refine lv_iload_n hx hb dX12_plays_42 rfl (lv_at hl 1 rfl) ?_
            refine lv_iload_n hx hb dX12_plays_43 rfl (lv_at hl 3 rfl) ?_
            refine lv_iload_n hx hb dX12_plays_44 rfl (lv_at hl 0 rfl) ?_
            refine ct_calli (D := D) (wr := [(qm_lines, .inl (cI, 5, .inl (fm_lines))), (qm_wins, .inl (cI, 24576, .inl (g151)))]) (va_runV (As := [.int 1, .int 0, .int 3]) (rest := []) ⟨hx, hb, hml, hown, hts⟩ (c_X12_isPlay l D G cI cJ cB cZ cO qm 0 qm_width qm_many qm_cells qm_moved qm_tape vm_taped vm_at vm_token vm_place vm_value vm_word vm_bad vm_badPlace vm_fault vm_faultPlace qm_lines qm_has qm_round qm_meets fm_meets qm_stumble qm_isMud qm_cell qm_tune qm_change qm_isKept qm_steps qm_places qm_danced vm_runMost vm_runBegins qm_heardBy vm_fitMany vm_fitFirst vm_fitBeats vm_listenLeaves qm_there vm_metAt vm_metIn qm_wins vm_nightHoles vm_nightFirst vm_nightMud vm_nightSlips vm_drawnNow 1 0 3 h_vm_taped h_vm_at h_vm_value (by decide) (by decide) H.size) (cwV 3 hts gX12_plays_X12_isPlay rfl rfl rfl (by decide +kernel) ⟨Nat.le_of_ble_eq_true rfl, Nat.le_of_ble_eq_true rfl⟩) (ct_preV (T := ct_T cI cJ cB cZ cO) (ci := 12) (q0 := 2) hE hH hP hD hS hA [2, 0] (by decide) rfl rfl rfl) rfl rfl hl.1 rfl (lv_room (Nat.le_of_ble_eq_true rfl)) dX12_plays_45 ⟨Nat.le_of_ble_eq_true rfl, Nat.le_of_ble_eq_true rfl⟩) hP hD hS hA [2, 0] [1, 3] rfl rfl (by decide) (by decide) (fun r182 u H locs hw hP hD hS => ?_)
            obtain ⟨hP, hD⟩ : ct_B D A H [(qm_lines, .inl (cI, 5, .inl (fm_lines))), (qm_wins, .inl (cI, 24576, .inl (g151))), mo qm 0 qm_width qm_many qm_cells qm_moved qm_tape vm_taped vm_at vm_token vm_place vm_value vm_word vm_bad vm_badPlace vm_fault vm_faultPlace qm_lines qm_has qm_round qm_meets qm_stumble qm_isMud qm_cell qm_tune qm_change qm_isKept qm_steps qm_places qm_danced vm_runMost vm_runBegins qm_heardBy vm_fitMany vm_fitFirst vm_fitBeats vm_listenLeaves qm_there vm_metAt vm_metIn qm_wins vm_nightHoles vm_nightFirst vm_nightMud vm_nightSlips vm_drawnNow, (qm_meets, .inl (cI, 30, .inl (fm_meets)))] := ⟨hP, hD⟩
            have hz := hw
            clear hw
            rcases hz with ⟨hz, hz2⟩ | ⟨hz, hz2⟩
            · subst hz
              have hz_183 : (pl (1 : Int32) (3 : Int32)) := hz2
              refine lv_if_eq (tgt := 68) hx hb dX12_plays_48 (by decide) (fun hc => absurd hc (by decide)) (fun _ => ?_)
              refine lv_aload_n hx hb dX12_plays_51 rfl (lv_at hl 2 rfl) ?_
              refine lv_iload_n hx hb dX12_plays_52 rfl (lv_at hl 1 rfl) ?_
              refine lv_iconst (v := 1) hx hb dX12_plays_53 (by decide) ?_
              refine lv_iconst (v := 2) hx hb dX12_plays_54 (by decide) ?_
              refine lv_iload_n hx hb dX12_plays_55 rfl (lv_at hl 0 rfl) ?_
              refine lv_imul hx hb dX12_plays_56 ?_
              refine lv_topi (fun z184 ez184 => ?_)
              obtain rfl : z184 = 6 := ez184.trans (by decide)
              refine lv_ishl hx hb dX12_plays_57 ?_
              refine lv_topi (fun z185 ez185 => ?_)
              obtain rfl : z185 = 64 := ez185.trans (by decide)
              refine lv_iadd hx hb dX12_plays_58 ?_
              refine lv_topi (fun z186 ez186 => ?_)
              obtain rfl : z186 = 65 := ez186.trans (by decide)
              refine lv_iload_n hx hb dX12_plays_59 rfl (lv_at hl 0 rfl) ?_
              refine ct_calli (D := D) (wr := [(qm_lines, .inl (cI, 5, .inl (fm_lines)))]) (va_runV (As := [.int 65, .int 3]) (rest := []) ⟨hx, hb, hml, hown, hts⟩ (c_X12_winsFrom l D G cI cJ cB cZ cO qm 0 qm_width qm_many qm_cells qm_moved qm_tape vm_taped vm_at vm_token vm_place vm_value vm_word vm_bad vm_badPlace vm_fault vm_faultPlace qm_lines qm_has qm_round qm_meets fm_meets qm_stumble qm_isMud qm_cell qm_tune qm_change qm_isKept qm_steps qm_places qm_danced vm_runMost vm_runBegins qm_heardBy vm_fitMany vm_fitFirst vm_fitBeats vm_listenLeaves qm_there vm_metAt vm_metIn qm_wins vm_nightHoles vm_nightFirst vm_nightMud vm_nightSlips vm_drawnNow h_vm_taped h_vm_at h_vm_value 12 g151 65 3 (by decide) (by unfold wn; decide +kernel) H.size) (cwV 2 hts gX12_plays_X12_winsFrom rfl rfl rfl (by decide +kernel) ⟨Nat.le_of_ble_eq_true rfl, Nat.le_of_ble_eq_true rfl⟩) (ct_preV (T := ct_T cI cJ cB cZ cO) (ci := 12) (q0 := 2) hE hH hP hD hS hA [2, 3, 1] (by decide) rfl rfl rfl) rfl rfl hl.1 rfl (lv_room (Nat.le_of_ble_eq_true rfl)) dX12_plays_60 ⟨Nat.le_of_ble_eq_true rfl, Nat.le_of_ble_eq_true rfl⟩) hP hD hS hA [2, 3, 1] [0] rfl rfl (by decide) (by decide) (fun r187 u H locs hw hP hD hS => ?_)
              obtain ⟨g188, rfl⟩ : ∃ z, z = u := ⟨_, rfl⟩
              obtain ⟨hP, hD⟩ : ct_B D A H [(qm_lines, .inl (cI, 5, .inl (fm_lines))), mo qm 0 qm_width qm_many qm_cells qm_moved qm_tape vm_taped vm_at vm_token vm_place vm_value vm_word vm_bad vm_badPlace vm_fault vm_faultPlace qm_lines qm_has qm_round qm_meets qm_stumble qm_isMud qm_cell qm_tune qm_change qm_isKept qm_steps qm_places qm_danced vm_runMost vm_runBegins qm_heardBy vm_fitMany vm_fitFirst vm_fitBeats vm_listenLeaves qm_there vm_metAt vm_metIn qm_wins vm_nightHoles vm_nightFirst vm_nightMud vm_nightSlips vm_drawnNow, (qm_meets, .inl (cI, 30, .inl (fm_meets))), (qm_wins, .inl (cI, 24576, .inl (g188)))] := ⟨hP, hD⟩
              have hz := hw
              clear hw
              rcases hz with ⟨hz, hz2⟩ | ⟨hz, hz2⟩
              · subst hz
                refine lv_if_ne (tgt := 68) hx hb dX12_plays_63 (by decide) (fun _ => ?_) (fun hc => absurd hc (by decide))
                refine lv_iinc (v := 4) (lv' := [(3, .int 4), (2, .int 1), (0, .ref qm), (1, .int 0)]) hx hb dX12_plays_68 hl (k := 0) rfl (by decide) (by decide) rfl (fun ls hl => ?_)
                refine lv_goto (tgt := 35) hx hb dX12_plays_71 (by decide) ?_
                have hk189 : (4 : Int32).toInt = 4 := by decide
                obtain ⟨hP9, hD9⟩ : ct_B D A H [(qm_meets, .inl (cI, 30, .inl (fm_meets))), (qm_lines, .inl (cI, 5, .inl (fm_lines))), mo qm 0 qm_width qm_many qm_cells qm_moved qm_tape vm_taped vm_at vm_token vm_place vm_value vm_word vm_bad vm_badPlace vm_fault vm_faultPlace qm_lines qm_has qm_round qm_meets qm_stumble qm_isMud qm_cell qm_tune qm_change qm_isKept qm_steps qm_places qm_danced vm_runMost vm_runBegins qm_heardBy vm_fitMany vm_fitFirst vm_fitBeats vm_listenLeaves qm_there vm_metAt vm_metIn qm_wins vm_nightHoles vm_nightFirst vm_nightMud vm_nightSlips vm_drawnNow, (qm_wins, .inl (cI, 24576, .inl (g188)))] := ⟨hP.sub [2, 0, 1, 3] rfl, hD.sub [2, 0, 1, 3] (by decide) rfl⟩
                exact ih153 (g188, (4 : Int32)) _ _ _ (show (6 - (4 : Int32).toInt).toNat < (6 - x152.toInt).toNat by omega) ⟨(show 0 ≤ (4 : Int32).toInt ∧ (4 : Int32).toInt ≤ 6 by decide), ⟨hP9, hD9⟩, hS, lv_sub hl [0, 1, 2, 3] rfl⟩
              · subst hz
                refine lv_if_ne (tgt := 68) hx hb dX12_plays_63 (by decide) (fun hc => absurd hc (by decide)) (fun _ => ?_)
                refine lv_iload_n hx hb dX12_plays_66 rfl (lv_at hl 0 rfl) ?_
                obtain ⟨hP9, hD9⟩ : ct_B D A H [mo qm 0 qm_width qm_many qm_cells qm_moved qm_tape vm_taped vm_at vm_token vm_place vm_value vm_word vm_bad vm_badPlace vm_fault vm_faultPlace qm_lines qm_has qm_round qm_meets qm_stumble qm_isMud qm_cell qm_tune qm_change qm_isKept qm_steps qm_places qm_danced vm_runMost vm_runBegins qm_heardBy vm_fitMany vm_fitFirst vm_fitBeats vm_listenLeaves qm_there vm_metAt vm_metIn qm_wins vm_nightHoles vm_nightFirst vm_nightMud vm_nightSlips vm_drawnNow, (qm_lines, .inl (cI, 5, .inl (fm_lines))), (qm_meets, .inl (cI, 30, .inl (fm_meets))), (qm_wins, .inl (cI, 24576, .inl (g188)))] := ⟨hP.sub [1, 0, 2, 3] rfl, hD.sub [1, 0, 2, 3] (by decide) rfl⟩
                exact W.iret (v := 3) hx hb hr (fun t ht hW => ⟨⟨3, ((0 : Int32), g188), rfl, (show (-2) ≤ (3 : Int32).toInt ∧ (3 : Int32).toInt ≤ 5 by decide), by rw [ht]; exact hP9, hD9⟩, hS.F ht⟩) hS.2.2 dX12_plays_67
            · subst hz
              refine lv_if_eq (tgt := 68) hx hb dX12_plays_48 (by decide) (fun _ => ?_) (fun hc => absurd hc (by decide))
              refine lv_iinc (v := 4) (lv' := [(3, .int 4), (2, .int 1), (0, .ref qm), (1, .int 0)]) hx hb dX12_plays_68 hl (k := 0) rfl (by decide) (by decide) rfl (fun ls hl => ?_)
              refine lv_goto (tgt := 35) hx hb dX12_plays_71 (by decide) ?_
              have hk190 : (4 : Int32).toInt = 4 := by decide
              obtain ⟨hP9, hD9⟩ : ct_B D A H [(qm_meets, .inl (cI, 30, .inl (fm_meets))), (qm_lines, .inl (cI, 5, .inl (fm_lines))), mo qm 0 qm_width qm_many qm_cells qm_moved qm_tape vm_taped vm_at vm_token vm_place vm_value vm_word vm_bad vm_badPlace vm_fault vm_faultPlace qm_lines qm_has qm_round qm_meets qm_stumble qm_isMud qm_cell qm_tune qm_change qm_isKept qm_steps qm_places qm_danced vm_runMost vm_runBegins qm_heardBy vm_fitMany vm_fitFirst vm_fitBeats vm_listenLeaves qm_there vm_metAt vm_metIn qm_wins vm_nightHoles vm_nightFirst vm_nightMud vm_nightSlips vm_drawnNow, (qm_wins, .inl (cI, 24576, .inl (g151)))] := ⟨hP.sub [3, 0, 2, 1] rfl, hD.sub [3, 0, 2, 1] (by decide) rfl⟩
              exact ih153 (g151, (4 : Int32)) _ _ _ (show (6 - (4 : Int32).toInt).toNat < (6 - x152.toInt).toNat by omega) ⟨(show 0 ≤ (4 : Int32).toInt ∧ (4 : Int32).toInt ≤ 6 by decide), ⟨hP9, hD9⟩, hS, lv_sub hl [0, 1, 2, 3] rfl⟩
          · have hj2 : x152 = 4 := tq_of hj (by decide)
            have hl : lv_has ls 4 [(3, .int 4), (2, .int 1), (0, .ref qm), (1, .int 0)] := by have h9 := hl; rw [hj2] at h9; exact h9
            refine lv_aload_n hx hb dX12_plays_41 rfl (lv_at hl 2 rfl) ?_
            refine lv_iload_n hx hb dX12_plays_42 rfl (lv_at hl 1 rfl) ?_
            refine lv_iload_n hx hb dX12_plays_43 rfl (lv_at hl 3 rfl) ?_
            refine lv_iload_n hx hb dX12_plays_44 rfl (lv_at hl 0 rfl) ?_
            refine ct_calli (D := D) (wr := [(qm_lines, .inl (cI, 5, .inl (fm_lines))), (qm_wins, .inl (cI, 24576, .inl (g151)))]) (va_runV (As := [.int 1, .int 0, .int 4]) (rest := []) ⟨hx, hb, hml, hown, hts⟩ (c_X12_isPlay l D G cI cJ cB cZ cO qm 0 qm_width qm_many qm_cells qm_moved qm_tape vm_taped vm_at vm_token vm_place vm_value vm_word vm_bad vm_badPlace vm_fault vm_faultPlace qm_lines qm_has qm_round qm_meets fm_meets qm_stumble qm_isMud qm_cell qm_tune qm_change qm_isKept qm_steps qm_places qm_danced vm_runMost vm_runBegins qm_heardBy vm_fitMany vm_fitFirst vm_fitBeats vm_listenLeaves qm_there vm_metAt vm_metIn qm_wins vm_nightHoles vm_nightFirst vm_nightMud vm_nightSlips vm_drawnNow 1 0 4 h_vm_taped h_vm_at h_vm_value (by decide) (by decide) H.size) (cwV 3 hts gX12_plays_X12_isPlay rfl rfl rfl (by decide +kernel) ⟨Nat.le_of_ble_eq_true rfl, Nat.le_of_ble_eq_true rfl⟩) (ct_preV (T := ct_T cI cJ cB cZ cO) (ci := 12) (q0 := 2) hE hH hP hD hS hA [2, 0] (by decide) rfl rfl rfl) rfl rfl hl.1 rfl (lv_room (Nat.le_of_ble_eq_true rfl)) dX12_plays_45 ⟨Nat.le_of_ble_eq_true rfl, Nat.le_of_ble_eq_true rfl⟩) hP hD hS hA [2, 0] [1, 3] rfl rfl (by decide) (by decide) (fun r191 u H locs hw hP hD hS => ?_)
            obtain ⟨hP, hD⟩ : ct_B D A H [(qm_lines, .inl (cI, 5, .inl (fm_lines))), (qm_wins, .inl (cI, 24576, .inl (g151))), mo qm 0 qm_width qm_many qm_cells qm_moved qm_tape vm_taped vm_at vm_token vm_place vm_value vm_word vm_bad vm_badPlace vm_fault vm_faultPlace qm_lines qm_has qm_round qm_meets qm_stumble qm_isMud qm_cell qm_tune qm_change qm_isKept qm_steps qm_places qm_danced vm_runMost vm_runBegins qm_heardBy vm_fitMany vm_fitFirst vm_fitBeats vm_listenLeaves qm_there vm_metAt vm_metIn qm_wins vm_nightHoles vm_nightFirst vm_nightMud vm_nightSlips vm_drawnNow, (qm_meets, .inl (cI, 30, .inl (fm_meets)))] := ⟨hP, hD⟩
            have hz := hw
            clear hw
            rcases hz with ⟨hz, hz2⟩ | ⟨hz, hz2⟩
            · subst hz
              have hz_192 : (pl (1 : Int32) (4 : Int32)) := hz2
              refine lv_if_eq (tgt := 68) hx hb dX12_plays_48 (by decide) (fun hc => absurd hc (by decide)) (fun _ => ?_)
              refine lv_aload_n hx hb dX12_plays_51 rfl (lv_at hl 2 rfl) ?_
              refine lv_iload_n hx hb dX12_plays_52 rfl (lv_at hl 1 rfl) ?_
              refine lv_iconst (v := 1) hx hb dX12_plays_53 (by decide) ?_
              refine lv_iconst (v := 2) hx hb dX12_plays_54 (by decide) ?_
              refine lv_iload_n hx hb dX12_plays_55 rfl (lv_at hl 0 rfl) ?_
              refine lv_imul hx hb dX12_plays_56 ?_
              refine lv_topi (fun z193 ez193 => ?_)
              obtain rfl : z193 = 8 := ez193.trans (by decide)
              refine lv_ishl hx hb dX12_plays_57 ?_
              refine lv_topi (fun z194 ez194 => ?_)
              obtain rfl : z194 = 256 := ez194.trans (by decide)
              refine lv_iadd hx hb dX12_plays_58 ?_
              refine lv_topi (fun z195 ez195 => ?_)
              obtain rfl : z195 = 257 := ez195.trans (by decide)
              refine lv_iload_n hx hb dX12_plays_59 rfl (lv_at hl 0 rfl) ?_
              refine ct_calli (D := D) (wr := [(qm_lines, .inl (cI, 5, .inl (fm_lines)))]) (va_runV (As := [.int 257, .int 4]) (rest := []) ⟨hx, hb, hml, hown, hts⟩ (c_X12_winsFrom l D G cI cJ cB cZ cO qm 0 qm_width qm_many qm_cells qm_moved qm_tape vm_taped vm_at vm_token vm_place vm_value vm_word vm_bad vm_badPlace vm_fault vm_faultPlace qm_lines qm_has qm_round qm_meets fm_meets qm_stumble qm_isMud qm_cell qm_tune qm_change qm_isKept qm_steps qm_places qm_danced vm_runMost vm_runBegins qm_heardBy vm_fitMany vm_fitFirst vm_fitBeats vm_listenLeaves qm_there vm_metAt vm_metIn qm_wins vm_nightHoles vm_nightFirst vm_nightMud vm_nightSlips vm_drawnNow h_vm_taped h_vm_at h_vm_value 12 g151 257 4 (by decide) (by unfold wn; decide +kernel) H.size) (cwV 2 hts gX12_plays_X12_winsFrom rfl rfl rfl (by decide +kernel) ⟨Nat.le_of_ble_eq_true rfl, Nat.le_of_ble_eq_true rfl⟩) (ct_preV (T := ct_T cI cJ cB cZ cO) (ci := 12) (q0 := 2) hE hH hP hD hS hA [2, 3, 1] (by decide) rfl rfl rfl) rfl rfl hl.1 rfl (lv_room (Nat.le_of_ble_eq_true rfl)) dX12_plays_60 ⟨Nat.le_of_ble_eq_true rfl, Nat.le_of_ble_eq_true rfl⟩) hP hD hS hA [2, 3, 1] [0] rfl rfl (by decide) (by decide) (fun r196 u H locs hw hP hD hS => ?_)
              obtain ⟨g197, rfl⟩ : ∃ z, z = u := ⟨_, rfl⟩
              obtain ⟨hP, hD⟩ : ct_B D A H [(qm_lines, .inl (cI, 5, .inl (fm_lines))), mo qm 0 qm_width qm_many qm_cells qm_moved qm_tape vm_taped vm_at vm_token vm_place vm_value vm_word vm_bad vm_badPlace vm_fault vm_faultPlace qm_lines qm_has qm_round qm_meets qm_stumble qm_isMud qm_cell qm_tune qm_change qm_isKept qm_steps qm_places qm_danced vm_runMost vm_runBegins qm_heardBy vm_fitMany vm_fitFirst vm_fitBeats vm_listenLeaves qm_there vm_metAt vm_metIn qm_wins vm_nightHoles vm_nightFirst vm_nightMud vm_nightSlips vm_drawnNow, (qm_meets, .inl (cI, 30, .inl (fm_meets))), (qm_wins, .inl (cI, 24576, .inl (g197)))] := ⟨hP, hD⟩
              have hz := hw
              clear hw
              rcases hz with ⟨hz, hz2⟩ | ⟨hz, hz2⟩
              · subst hz
                refine lv_if_ne (tgt := 68) hx hb dX12_plays_63 (by decide) (fun _ => ?_) (fun hc => absurd hc (by decide))
                refine lv_iinc (v := 5) (lv' := [(3, .int 5), (2, .int 1), (0, .ref qm), (1, .int 0)]) hx hb dX12_plays_68 hl (k := 0) rfl (by decide) (by decide) rfl (fun ls hl => ?_)
                refine lv_goto (tgt := 35) hx hb dX12_plays_71 (by decide) ?_
                have hk198 : (5 : Int32).toInt = 5 := by decide
                obtain ⟨hP9, hD9⟩ : ct_B D A H [(qm_meets, .inl (cI, 30, .inl (fm_meets))), (qm_lines, .inl (cI, 5, .inl (fm_lines))), mo qm 0 qm_width qm_many qm_cells qm_moved qm_tape vm_taped vm_at vm_token vm_place vm_value vm_word vm_bad vm_badPlace vm_fault vm_faultPlace qm_lines qm_has qm_round qm_meets qm_stumble qm_isMud qm_cell qm_tune qm_change qm_isKept qm_steps qm_places qm_danced vm_runMost vm_runBegins qm_heardBy vm_fitMany vm_fitFirst vm_fitBeats vm_listenLeaves qm_there vm_metAt vm_metIn qm_wins vm_nightHoles vm_nightFirst vm_nightMud vm_nightSlips vm_drawnNow, (qm_wins, .inl (cI, 24576, .inl (g197)))] := ⟨hP.sub [2, 0, 1, 3] rfl, hD.sub [2, 0, 1, 3] (by decide) rfl⟩
                exact ih153 (g197, (5 : Int32)) _ _ _ (show (6 - (5 : Int32).toInt).toNat < (6 - x152.toInt).toNat by omega) ⟨(show 0 ≤ (5 : Int32).toInt ∧ (5 : Int32).toInt ≤ 6 by decide), ⟨hP9, hD9⟩, hS, lv_sub hl [0, 1, 2, 3] rfl⟩
              · subst hz
                refine lv_if_ne (tgt := 68) hx hb dX12_plays_63 (by decide) (fun hc => absurd hc (by decide)) (fun _ => ?_)
                refine lv_iload_n hx hb dX12_plays_66 rfl (lv_at hl 0 rfl) ?_
                obtain ⟨hP9, hD9⟩ : ct_B D A H [mo qm 0 qm_width qm_many qm_cells qm_moved qm_tape vm_taped vm_at vm_token vm_place vm_value vm_word vm_bad vm_badPlace vm_fault vm_faultPlace qm_lines qm_has qm_round qm_meets qm_stumble qm_isMud qm_cell qm_tune qm_change qm_isKept qm_steps qm_places qm_danced vm_runMost vm_runBegins qm_heardBy vm_fitMany vm_fitFirst vm_fitBeats vm_listenLeaves qm_there vm_metAt vm_metIn qm_wins vm_nightHoles vm_nightFirst vm_nightMud vm_nightSlips vm_drawnNow, (qm_lines, .inl (cI, 5, .inl (fm_lines))), (qm_meets, .inl (cI, 30, .inl (fm_meets))), (qm_wins, .inl (cI, 24576, .inl (g197)))] := ⟨hP.sub [1, 0, 2, 3] rfl, hD.sub [1, 0, 2, 3] (by decide) rfl⟩
                exact W.iret (v := 4) hx hb hr (fun t ht hW => ⟨⟨4, ((0 : Int32), g197), rfl, (show (-2) ≤ (4 : Int32).toInt ∧ (4 : Int32).toInt ≤ 5 by decide), by rw [ht]; exact hP9, hD9⟩, hS.F ht⟩) hS.2.2 dX12_plays_67
            · subst hz
              refine lv_if_eq (tgt := 68) hx hb dX12_plays_48 (by decide) (fun _ => ?_) (fun hc => absurd hc (by decide))
              refine lv_iinc (v := 5) (lv' := [(3, .int 5), (2, .int 1), (0, .ref qm), (1, .int 0)]) hx hb dX12_plays_68 hl (k := 0) rfl (by decide) (by decide) rfl (fun ls hl => ?_)
              refine lv_goto (tgt := 35) hx hb dX12_plays_71 (by decide) ?_
              have hk199 : (5 : Int32).toInt = 5 := by decide
              obtain ⟨hP9, hD9⟩ : ct_B D A H [(qm_meets, .inl (cI, 30, .inl (fm_meets))), (qm_lines, .inl (cI, 5, .inl (fm_lines))), mo qm 0 qm_width qm_many qm_cells qm_moved qm_tape vm_taped vm_at vm_token vm_place vm_value vm_word vm_bad vm_badPlace vm_fault vm_faultPlace qm_lines qm_has qm_round qm_meets qm_stumble qm_isMud qm_cell qm_tune qm_change qm_isKept qm_steps qm_places qm_danced vm_runMost vm_runBegins qm_heardBy vm_fitMany vm_fitFirst vm_fitBeats vm_listenLeaves qm_there vm_metAt vm_metIn qm_wins vm_nightHoles vm_nightFirst vm_nightMud vm_nightSlips vm_drawnNow, (qm_wins, .inl (cI, 24576, .inl (g151)))] := ⟨hP.sub [3, 0, 2, 1] rfl, hD.sub [3, 0, 2, 1] (by decide) rfl⟩
              exact ih153 (g151, (5 : Int32)) _ _ _ (show (6 - (5 : Int32).toInt).toNat < (6 - x152.toInt).toNat by omega) ⟨(show 0 ≤ (5 : Int32).toInt ∧ (5 : Int32).toInt ≤ 6 by decide), ⟨hP9, hD9⟩, hS, lv_sub hl [0, 1, 2, 3] rfl⟩
          · have hj2 : x152 = 5 := tq_of hj (by decide)
            have hl : lv_has ls 4 [(3, .int 5), (2, .int 1), (0, .ref qm), (1, .int 0)] := by have h9 := hl; rw [hj2] at h9; exact h9
            refine lv_aload_n hx hb dX12_plays_41 rfl (lv_at hl 2 rfl) ?_
            refine lv_iload_n hx hb dX12_plays_42 rfl (lv_at hl 1 rfl) ?_
            refine lv_iload_n hx hb dX12_plays_43 rfl (lv_at hl 3 rfl) ?_
            refine lv_iload_n hx hb dX12_plays_44 rfl (lv_at hl 0 rfl) ?_
            refine ct_calli (D := D) (wr := [(qm_lines, .inl (cI, 5, .inl (fm_lines))), (qm_wins, .inl (cI, 24576, .inl (g151)))]) (va_runV (As := [.int 1, .int 0, .int 5]) (rest := []) ⟨hx, hb, hml, hown, hts⟩ (c_X12_isPlay l D G cI cJ cB cZ cO qm 0 qm_width qm_many qm_cells qm_moved qm_tape vm_taped vm_at vm_token vm_place vm_value vm_word vm_bad vm_badPlace vm_fault vm_faultPlace qm_lines qm_has qm_round qm_meets fm_meets qm_stumble qm_isMud qm_cell qm_tune qm_change qm_isKept qm_steps qm_places qm_danced vm_runMost vm_runBegins qm_heardBy vm_fitMany vm_fitFirst vm_fitBeats vm_listenLeaves qm_there vm_metAt vm_metIn qm_wins vm_nightHoles vm_nightFirst vm_nightMud vm_nightSlips vm_drawnNow 1 0 5 h_vm_taped h_vm_at h_vm_value (by decide) (by decide) H.size) (cwV 3 hts gX12_plays_X12_isPlay rfl rfl rfl (by decide +kernel) ⟨Nat.le_of_ble_eq_true rfl, Nat.le_of_ble_eq_true rfl⟩) (ct_preV (T := ct_T cI cJ cB cZ cO) (ci := 12) (q0 := 2) hE hH hP hD hS hA [2, 0] (by decide) rfl rfl rfl) rfl rfl hl.1 rfl (lv_room (Nat.le_of_ble_eq_true rfl)) dX12_plays_45 ⟨Nat.le_of_ble_eq_true rfl, Nat.le_of_ble_eq_true rfl⟩) hP hD hS hA [2, 0] [1, 3] rfl rfl (by decide) (by decide) (fun r200 u H locs hw hP hD hS => ?_)
            obtain ⟨hP, hD⟩ : ct_B D A H [(qm_lines, .inl (cI, 5, .inl (fm_lines))), (qm_wins, .inl (cI, 24576, .inl (g151))), mo qm 0 qm_width qm_many qm_cells qm_moved qm_tape vm_taped vm_at vm_token vm_place vm_value vm_word vm_bad vm_badPlace vm_fault vm_faultPlace qm_lines qm_has qm_round qm_meets qm_stumble qm_isMud qm_cell qm_tune qm_change qm_isKept qm_steps qm_places qm_danced vm_runMost vm_runBegins qm_heardBy vm_fitMany vm_fitFirst vm_fitBeats vm_listenLeaves qm_there vm_metAt vm_metIn qm_wins vm_nightHoles vm_nightFirst vm_nightMud vm_nightSlips vm_drawnNow, (qm_meets, .inl (cI, 30, .inl (fm_meets)))] := ⟨hP, hD⟩
            have hz := hw
            clear hw
            rcases hz with ⟨hz, hz2⟩ | ⟨hz, hz2⟩
            · subst hz
              have hz_201 : (pl (1 : Int32) (5 : Int32)) := hz2
              refine lv_if_eq (tgt := 68) hx hb dX12_plays_48 (by decide) (fun hc => absurd hc (by decide)) (fun _ => ?_)
              refine lv_aload_n hx hb dX12_plays_51 rfl (lv_at hl 2 rfl) ?_
              refine lv_iload_n hx hb dX12_plays_52 rfl (lv_at hl 1 rfl) ?_
              refine lv_iconst (v := 1) hx hb dX12_plays_53 (by decide) ?_
              refine lv_iconst (v := 2) hx hb dX12_plays_54 (by decide) ?_
              refine lv_iload_n hx hb dX12_plays_55 rfl (lv_at hl 0 rfl) ?_
              refine lv_imul hx hb dX12_plays_56 ?_
              refine lv_topi (fun z202 ez202 => ?_)
              obtain rfl : z202 = 10 := ez202.trans (by decide)
              refine lv_ishl hx hb dX12_plays_57 ?_
              refine lv_topi (fun z203 ez203 => ?_)
              obtain rfl : z203 = 1024 := ez203.trans (by decide)
              refine lv_iadd hx hb dX12_plays_58 ?_
              refine lv_topi (fun z204 ez204 => ?_)
              obtain rfl : z204 = 1025 := ez204.trans (by decide)
              refine lv_iload_n hx hb dX12_plays_59 rfl (lv_at hl 0 rfl) ?_
              refine ct_calli (D := D) (wr := [(qm_lines, .inl (cI, 5, .inl (fm_lines)))]) (va_runV (As := [.int 1025, .int 5]) (rest := []) ⟨hx, hb, hml, hown, hts⟩ (c_X12_winsFrom l D G cI cJ cB cZ cO qm 0 qm_width qm_many qm_cells qm_moved qm_tape vm_taped vm_at vm_token vm_place vm_value vm_word vm_bad vm_badPlace vm_fault vm_faultPlace qm_lines qm_has qm_round qm_meets fm_meets qm_stumble qm_isMud qm_cell qm_tune qm_change qm_isKept qm_steps qm_places qm_danced vm_runMost vm_runBegins qm_heardBy vm_fitMany vm_fitFirst vm_fitBeats vm_listenLeaves qm_there vm_metAt vm_metIn qm_wins vm_nightHoles vm_nightFirst vm_nightMud vm_nightSlips vm_drawnNow h_vm_taped h_vm_at h_vm_value 12 g151 1025 5 (by decide) (by unfold wn; decide +kernel) H.size) (cwV 2 hts gX12_plays_X12_winsFrom rfl rfl rfl (by decide +kernel) ⟨Nat.le_of_ble_eq_true rfl, Nat.le_of_ble_eq_true rfl⟩) (ct_preV (T := ct_T cI cJ cB cZ cO) (ci := 12) (q0 := 2) hE hH hP hD hS hA [2, 3, 1] (by decide) rfl rfl rfl) rfl rfl hl.1 rfl (lv_room (Nat.le_of_ble_eq_true rfl)) dX12_plays_60 ⟨Nat.le_of_ble_eq_true rfl, Nat.le_of_ble_eq_true rfl⟩) hP hD hS hA [2, 3, 1] [0] rfl rfl (by decide) (by decide) (fun r205 u H locs hw hP hD hS => ?_)
              obtain ⟨g206, rfl⟩ : ∃ z, z = u := ⟨_, rfl⟩
              obtain ⟨hP, hD⟩ : ct_B D A H [(qm_lines, .inl (cI, 5, .inl (fm_lines))), mo qm 0 qm_width qm_many qm_cells qm_moved qm_tape vm_taped vm_at vm_token vm_place vm_value vm_word vm_bad vm_badPlace vm_fault vm_faultPlace qm_lines qm_has qm_round qm_meets qm_stumble qm_isMud qm_cell qm_tune qm_change qm_isKept qm_steps qm_places qm_danced vm_runMost vm_runBegins qm_heardBy vm_fitMany vm_fitFirst vm_fitBeats vm_listenLeaves qm_there vm_metAt vm_metIn qm_wins vm_nightHoles vm_nightFirst vm_nightMud vm_nightSlips vm_drawnNow, (qm_meets, .inl (cI, 30, .inl (fm_meets))), (qm_wins, .inl (cI, 24576, .inl (g206)))] := ⟨hP, hD⟩
              have hz := hw
              clear hw
              rcases hz with ⟨hz, hz2⟩ | ⟨hz, hz2⟩
              · subst hz
                refine lv_if_ne (tgt := 68) hx hb dX12_plays_63 (by decide) (fun _ => ?_) (fun hc => absurd hc (by decide))
                refine lv_iinc (v := 6) (lv' := [(3, .int 6), (2, .int 1), (0, .ref qm), (1, .int 0)]) hx hb dX12_plays_68 hl (k := 0) rfl (by decide) (by decide) rfl (fun ls hl => ?_)
                refine lv_goto (tgt := 35) hx hb dX12_plays_71 (by decide) ?_
                have hk207 : (6 : Int32).toInt = 6 := by decide
                obtain ⟨hP9, hD9⟩ : ct_B D A H [(qm_meets, .inl (cI, 30, .inl (fm_meets))), (qm_lines, .inl (cI, 5, .inl (fm_lines))), mo qm 0 qm_width qm_many qm_cells qm_moved qm_tape vm_taped vm_at vm_token vm_place vm_value vm_word vm_bad vm_badPlace vm_fault vm_faultPlace qm_lines qm_has qm_round qm_meets qm_stumble qm_isMud qm_cell qm_tune qm_change qm_isKept qm_steps qm_places qm_danced vm_runMost vm_runBegins qm_heardBy vm_fitMany vm_fitFirst vm_fitBeats vm_listenLeaves qm_there vm_metAt vm_metIn qm_wins vm_nightHoles vm_nightFirst vm_nightMud vm_nightSlips vm_drawnNow, (qm_wins, .inl (cI, 24576, .inl (g206)))] := ⟨hP.sub [2, 0, 1, 3] rfl, hD.sub [2, 0, 1, 3] (by decide) rfl⟩
                exact ih153 (g206, (6 : Int32)) _ _ _ (show (6 - (6 : Int32).toInt).toNat < (6 - x152.toInt).toNat by omega) ⟨(show 0 ≤ (6 : Int32).toInt ∧ (6 : Int32).toInt ≤ 6 by decide), ⟨hP9, hD9⟩, hS, lv_sub hl [0, 1, 2, 3] rfl⟩
              · subst hz
                refine lv_if_ne (tgt := 68) hx hb dX12_plays_63 (by decide) (fun hc => absurd hc (by decide)) (fun _ => ?_)
                refine lv_iload_n hx hb dX12_plays_66 rfl (lv_at hl 0 rfl) ?_
                obtain ⟨hP9, hD9⟩ : ct_B D A H [mo qm 0 qm_width qm_many qm_cells qm_moved qm_tape vm_taped vm_at vm_token vm_place vm_value vm_word vm_bad vm_badPlace vm_fault vm_faultPlace qm_lines qm_has qm_round qm_meets qm_stumble qm_isMud qm_cell qm_tune qm_change qm_isKept qm_steps qm_places qm_danced vm_runMost vm_runBegins qm_heardBy vm_fitMany vm_fitFirst vm_fitBeats vm_listenLeaves qm_there vm_metAt vm_metIn qm_wins vm_nightHoles vm_nightFirst vm_nightMud vm_nightSlips vm_drawnNow, (qm_lines, .inl (cI, 5, .inl (fm_lines))), (qm_meets, .inl (cI, 30, .inl (fm_meets))), (qm_wins, .inl (cI, 24576, .inl (g206)))] := ⟨hP.sub [1, 0, 2, 3] rfl, hD.sub [1, 0, 2, 3] (by decide) rfl⟩
                exact W.iret (v := 5) hx hb hr (fun t ht hW => ⟨⟨5, ((0 : Int32), g206), rfl, (show (-2) ≤ (5 : Int32).toInt ∧ (5 : Int32).toInt ≤ 5 by decide), by rw [ht]; exact hP9, hD9⟩, hS.F ht⟩) hS.2.2 dX12_plays_67
            · subst hz
              refine lv_if_eq (tgt := 68) hx hb dX12_plays_48 (by decide) (fun _ => ?_) (fun hc => absurd hc (by decide))
              refine lv_iinc (v := 6) (lv' := [(3, .int 6), (2, .int 1), (0, .ref qm), (1, .int 0)]) hx hb dX12_plays_68 hl (k := 0) rfl (by decide) (by decide) rfl (fun ls hl => ?_)
              refine lv_goto (tgt := 35) hx hb dX12_plays_71 (by decide) ?_
              have hk208 : (6 : Int32).toInt = 6 := by decide
              obtain ⟨hP9, hD9⟩ : ct_B D A H [(qm_meets, .inl (cI, 30, .inl (fm_meets))), (qm_lines, .inl (cI, 5, .inl (fm_lines))), mo qm 0 qm_width qm_many qm_cells qm_moved qm_tape vm_taped vm_at vm_token vm_place vm_value vm_word vm_bad vm_badPlace vm_fault vm_faultPlace qm_lines qm_has qm_round qm_meets qm_stumble qm_isMud qm_cell qm_tune qm_change qm_isKept qm_steps qm_places qm_danced vm_runMost vm_runBegins qm_heardBy vm_fitMany vm_fitFirst vm_fitBeats vm_listenLeaves qm_there vm_metAt vm_metIn qm_wins vm_nightHoles vm_nightFirst vm_nightMud vm_nightSlips vm_drawnNow, (qm_wins, .inl (cI, 24576, .inl (g151)))] := ⟨hP.sub [3, 0, 2, 1] rfl, hD.sub [3, 0, 2, 1] (by decide) rfl⟩
              exact ih153 (g151, (6 : Int32)) _ _ _ (show (6 - (6 : Int32).toInt).toNat < (6 - x152.toInt).toNat by omega) ⟨(show 0 ≤ (6 : Int32).toInt ∧ (6 : Int32).toInt ≤ 6 by decide), ⟨hP9, hD9⟩, hS, lv_sub hl [0, 1, 2, 3] rfl⟩
      · have hj2 : a1 = 1 := tq_of hj (by decide)
        have hl : lv_has ls 4 [(0, .ref qm), (1, .int 1)] := by have h9 := hl; rw [hj2] at h9; exact h9
        refine lv_iconst (v := 1) hx hb dX12_plays_27 (by decide) ?_
        refine lv_iconst (v := 2) hx hb dX12_plays_28 (by decide) ?_
        refine lv_iload_n hx hb dX12_plays_29 rfl (lv_at hl 1 rfl) ?_
        refine lv_imul hx hb dX12_plays_30 ?_
        refine lv_topi (fun z209 ez209 => ?_)
        obtain rfl : z209 = 2 := ez209.trans (by decide)
        refine lv_ishl hx hb dX12_plays_31 ?_
        refine lv_topi (fun z210 ez210 => ?_)
        obtain rfl : z210 = 4 := ez210.trans (by decide)
        refine lv_istore_n (lv' := [(2, .int 4), (0, .ref qm), (1, .int 1)]) hx hb dX12_plays_32 rfl hl (by decide) rfl (fun ls hl => ?_)
        refine lv_iconst (v := 0) hx hb dX12_plays_33 (by decide) ?_
        refine lv_istore_n (lv' := [(3, .int 0), (2, .int 4), (0, .ref qm), (1, .int 1)]) hx hb dX12_plays_34 rfl hl (by decide) rfl (fun ls hl => ?_)
        refine ct_loop (X := (Nat → Int32) × Int32) (fun x => (6 - x.2.toInt).toNat) (fun x H locs ls => ((0 ≤ x.2.toInt ∧ x.2.toInt ≤ 6)) ∧ ct_B D A H [(qm_meets, .inl (cI, 30, .inl (fm_meets))), (qm_lines, .inl (cI, 5, .inl (fm_lines))), mo qm 0 qm_width qm_many qm_cells qm_moved qm_tape vm_taped vm_at vm_token vm_place vm_value vm_word vm_bad vm_badPlace vm_fault vm_faultPlace qm_lines qm_has qm_round qm_meets qm_stumble qm_isMud qm_cell qm_tune qm_change qm_isKept qm_steps qm_places qm_danced vm_runMost vm_runBegins qm_heardBy vm_fitMany vm_fitFirst vm_fitBeats vm_listenLeaves qm_there vm_metAt vm_metIn qm_wins vm_nightHoles vm_nightFirst vm_nightMud vm_nightSlips vm_drawnNow, (qm_wins, .inl (cI, 24576, .inl (x.1)))] ∧ va_S A s.heap H locs ∧ lv_has ls 4 [(3, .int x.2), (2, .int 4), (0, .ref qm), (1, .int 1)]) 35 (g6, (0 : Int32)) ⟨(show 0 ≤ (0 : Int32).toInt ∧ (0 : Int32).toInt ≤ 6 by decide), ⟨hP, hD⟩, hS, lv_sub hl [0, 1, 2, 3] rfl⟩ (fun x ih355 H locs ls hI => ?_)
        obtain ⟨g353, x354⟩ := x
        obtain ⟨h_x354, ⟨hP, hD⟩, hS, hl⟩ := hI
        change (0 ≤ x354.toInt ∧ x354.toInt ≤ 6) at h_x354
        obtain ⟨hP, hD⟩ : ct_B D A H [(qm_meets, .inl (cI, 30, .inl (fm_meets))), (qm_lines, .inl (cI, 5, .inl (fm_lines))), mo qm 0 qm_width qm_many qm_cells qm_moved qm_tape vm_taped vm_at vm_token vm_place vm_value vm_word vm_bad vm_badPlace vm_fault vm_faultPlace qm_lines qm_has qm_round qm_meets qm_stumble qm_isMud qm_cell qm_tune qm_change qm_isKept qm_steps qm_places qm_danced vm_runMost vm_runBegins qm_heardBy vm_fitMany vm_fitFirst vm_fitBeats vm_listenLeaves qm_there vm_metAt vm_metIn qm_wins vm_nightHoles vm_nightFirst vm_nightMud vm_nightSlips vm_drawnNow, (qm_wins, .inl (cI, 24576, .inl (g353)))] := ⟨hP, hD⟩
        have hl : lv_has ls 4 [(3, .int x354), (2, .int 4), (0, .ref qm), (1, .int 1)] := hl
        refine lv_iload_n hx hb dX12_plays_35 rfl (lv_at hl 0 rfl) ?_
        refine lv_bipush (v := 6) hx hb dX12_plays_36 (by decide) ?_
        refine lv_icmp_ge (tgt := 74) hx hb dX12_plays_38 (by decide) (fun hc => ?_) (fun hc => ?_)
        · have hq356 : 6 ≤ x354.toInt := tq_le (by decide) rfl hc
          refine lv_iconst (v := (-1)) hx hb dX12_plays_74 (by decide) ?_
          obtain ⟨hP9, hD9⟩ : ct_B D A H [mo qm 0 qm_width qm_many qm_cells qm_moved qm_tape vm_taped vm_at vm_token vm_place vm_value vm_word vm_bad vm_badPlace vm_fault vm_faultPlace qm_lines qm_has qm_round qm_meets qm_stumble qm_isMud qm_cell qm_tune qm_change qm_isKept qm_steps qm_places qm_danced vm_runMost vm_runBegins qm_heardBy vm_fitMany vm_fitFirst vm_fitBeats vm_listenLeaves qm_there vm_metAt vm_metIn qm_wins vm_nightHoles vm_nightFirst vm_nightMud vm_nightSlips vm_drawnNow, (qm_lines, .inl (cI, 5, .inl (fm_lines))), (qm_meets, .inl (cI, 30, .inl (fm_meets))), (qm_wins, .inl (cI, 24576, .inl (g353)))] := ⟨hP.sub [2, 1, 0, 3] rfl, hD.sub [2, 1, 0, 3] (by decide) rfl⟩
          exact W.iret (v := (-1)) hx hb hr (fun t ht hW => ⟨⟨(-1), ((0 : Int32), g353), rfl, (show (-2) ≤ (-1 : Int32).toInt ∧ (-1 : Int32).toInt ≤ 5 by decide), by rw [ht]; exact hP9, hD9⟩, hS.F ht⟩) hS.2.2 dX12_plays_75
        · have hq356 : x354.toInt < 6 := tq_nle (by decide) rfl hc
          rcases (show x354.toInt = 0 ∨ x354.toInt = 1 ∨ x354.toInt = 2 ∨ x354.toInt = 3 ∨ x354.toInt = 4 ∨ x354.toInt = 5 by omega) with hj | hj | hj | hj | hj | hj
          · have hj2 : x354 = 0 := tq_of hj (by decide)
            have hl : lv_has ls 4 [(3, .int 0), (2, .int 4), (0, .ref qm), (1, .int 1)] := by have h9 := hl; rw [hj2] at h9; exact h9
            refine lv_aload_n hx hb dX12_plays_41 rfl (lv_at hl 2 rfl) ?_
            refine lv_iload_n hx hb dX12_plays_42 rfl (lv_at hl 1 rfl) ?_
            refine lv_iload_n hx hb dX12_plays_43 rfl (lv_at hl 3 rfl) ?_
            refine lv_iload_n hx hb dX12_plays_44 rfl (lv_at hl 0 rfl) ?_
            refine ct_calli (D := D) (wr := [(qm_lines, .inl (cI, 5, .inl (fm_lines))), (qm_wins, .inl (cI, 24576, .inl (g353)))]) (va_runV (As := [.int 4, .int 1, .int 0]) (rest := []) ⟨hx, hb, hml, hown, hts⟩ (c_X12_isPlay l D G cI cJ cB cZ cO qm 0 qm_width qm_many qm_cells qm_moved qm_tape vm_taped vm_at vm_token vm_place vm_value vm_word vm_bad vm_badPlace vm_fault vm_faultPlace qm_lines qm_has qm_round qm_meets fm_meets qm_stumble qm_isMud qm_cell qm_tune qm_change qm_isKept qm_steps qm_places qm_danced vm_runMost vm_runBegins qm_heardBy vm_fitMany vm_fitFirst vm_fitBeats vm_listenLeaves qm_there vm_metAt vm_metIn qm_wins vm_nightHoles vm_nightFirst vm_nightMud vm_nightSlips vm_drawnNow 4 1 0 h_vm_taped h_vm_at h_vm_value (by decide) (by decide) H.size) (cwV 3 hts gX12_plays_X12_isPlay rfl rfl rfl (by decide +kernel) ⟨Nat.le_of_ble_eq_true rfl, Nat.le_of_ble_eq_true rfl⟩) (ct_preV (T := ct_T cI cJ cB cZ cO) (ci := 12) (q0 := 2) hE hH hP hD hS hA [2, 0] (by decide) rfl rfl rfl) rfl rfl hl.1 rfl (lv_room (Nat.le_of_ble_eq_true rfl)) dX12_plays_45 ⟨Nat.le_of_ble_eq_true rfl, Nat.le_of_ble_eq_true rfl⟩) hP hD hS hA [2, 0] [1, 3] rfl rfl (by decide) (by decide) (fun r357 u H locs hw hP hD hS => ?_)
            obtain ⟨hP, hD⟩ : ct_B D A H [(qm_lines, .inl (cI, 5, .inl (fm_lines))), (qm_wins, .inl (cI, 24576, .inl (g353))), mo qm 0 qm_width qm_many qm_cells qm_moved qm_tape vm_taped vm_at vm_token vm_place vm_value vm_word vm_bad vm_badPlace vm_fault vm_faultPlace qm_lines qm_has qm_round qm_meets qm_stumble qm_isMud qm_cell qm_tune qm_change qm_isKept qm_steps qm_places qm_danced vm_runMost vm_runBegins qm_heardBy vm_fitMany vm_fitFirst vm_fitBeats vm_listenLeaves qm_there vm_metAt vm_metIn qm_wins vm_nightHoles vm_nightFirst vm_nightMud vm_nightSlips vm_drawnNow, (qm_meets, .inl (cI, 30, .inl (fm_meets)))] := ⟨hP, hD⟩
            have hz := hw
            clear hw
            rcases hz with ⟨hz, hz2⟩ | ⟨hz, hz2⟩
            · subst hz
              have hz_358 : (pl (4 : Int32) (0 : Int32)) := hz2
              refine lv_if_eq (tgt := 68) hx hb dX12_plays_48 (by decide) (fun hc => absurd hc (by decide)) (fun _ => ?_)
              refine lv_aload_n hx hb dX12_plays_51 rfl (lv_at hl 2 rfl) ?_
              refine lv_iload_n hx hb dX12_plays_52 rfl (lv_at hl 1 rfl) ?_
              refine lv_iconst (v := 1) hx hb dX12_plays_53 (by decide) ?_
              refine lv_iconst (v := 2) hx hb dX12_plays_54 (by decide) ?_
              refine lv_iload_n hx hb dX12_plays_55 rfl (lv_at hl 0 rfl) ?_
              refine lv_imul hx hb dX12_plays_56 ?_
              refine lv_topi (fun z359 ez359 => ?_)
              obtain rfl : z359 = 0 := ez359.trans (by decide)
              refine lv_ishl hx hb dX12_plays_57 ?_
              refine lv_topi (fun z360 ez360 => ?_)
              obtain rfl : z360 = 1 := ez360.trans (by decide)
              refine lv_iadd hx hb dX12_plays_58 ?_
              refine lv_topi (fun z361 ez361 => ?_)
              obtain rfl : z361 = 5 := ez361.trans (by decide)
              refine lv_iload_n hx hb dX12_plays_59 rfl (lv_at hl 0 rfl) ?_
              refine ct_calli (D := D) (wr := [(qm_lines, .inl (cI, 5, .inl (fm_lines)))]) (va_runV (As := [.int 5, .int 0]) (rest := []) ⟨hx, hb, hml, hown, hts⟩ (c_X12_winsFrom l D G cI cJ cB cZ cO qm 0 qm_width qm_many qm_cells qm_moved qm_tape vm_taped vm_at vm_token vm_place vm_value vm_word vm_bad vm_badPlace vm_fault vm_faultPlace qm_lines qm_has qm_round qm_meets fm_meets qm_stumble qm_isMud qm_cell qm_tune qm_change qm_isKept qm_steps qm_places qm_danced vm_runMost vm_runBegins qm_heardBy vm_fitMany vm_fitFirst vm_fitBeats vm_listenLeaves qm_there vm_metAt vm_metIn qm_wins vm_nightHoles vm_nightFirst vm_nightMud vm_nightSlips vm_drawnNow h_vm_taped h_vm_at h_vm_value 12 g353 5 0 (by decide) (by unfold wn; decide +kernel) H.size) (cwV 2 hts gX12_plays_X12_winsFrom rfl rfl rfl (by decide +kernel) ⟨Nat.le_of_ble_eq_true rfl, Nat.le_of_ble_eq_true rfl⟩) (ct_preV (T := ct_T cI cJ cB cZ cO) (ci := 12) (q0 := 2) hE hH hP hD hS hA [2, 3, 1] (by decide) rfl rfl rfl) rfl rfl hl.1 rfl (lv_room (Nat.le_of_ble_eq_true rfl)) dX12_plays_60 ⟨Nat.le_of_ble_eq_true rfl, Nat.le_of_ble_eq_true rfl⟩) hP hD hS hA [2, 3, 1] [0] rfl rfl (by decide) (by decide) (fun r362 u H locs hw hP hD hS => ?_)
              obtain ⟨g363, rfl⟩ : ∃ z, z = u := ⟨_, rfl⟩
              obtain ⟨hP, hD⟩ : ct_B D A H [(qm_lines, .inl (cI, 5, .inl (fm_lines))), mo qm 0 qm_width qm_many qm_cells qm_moved qm_tape vm_taped vm_at vm_token vm_place vm_value vm_word vm_bad vm_badPlace vm_fault vm_faultPlace qm_lines qm_has qm_round qm_meets qm_stumble qm_isMud qm_cell qm_tune qm_change qm_isKept qm_steps qm_places qm_danced vm_runMost vm_runBegins qm_heardBy vm_fitMany vm_fitFirst vm_fitBeats vm_listenLeaves qm_there vm_metAt vm_metIn qm_wins vm_nightHoles vm_nightFirst vm_nightMud vm_nightSlips vm_drawnNow, (qm_meets, .inl (cI, 30, .inl (fm_meets))), (qm_wins, .inl (cI, 24576, .inl (g363)))] := ⟨hP, hD⟩
              have hz := hw
              clear hw
              rcases hz with ⟨hz, hz2⟩ | ⟨hz, hz2⟩
              · subst hz
                refine lv_if_ne (tgt := 68) hx hb dX12_plays_63 (by decide) (fun _ => ?_) (fun hc => absurd hc (by decide))
                refine lv_iinc (v := 1) (lv' := [(3, .int 1), (2, .int 4), (0, .ref qm), (1, .int 1)]) hx hb dX12_plays_68 hl (k := 0) rfl (by decide) (by decide) rfl (fun ls hl => ?_)
                refine lv_goto (tgt := 35) hx hb dX12_plays_71 (by decide) ?_
                have hk364 : (1 : Int32).toInt = 1 := by decide
                obtain ⟨hP9, hD9⟩ : ct_B D A H [(qm_meets, .inl (cI, 30, .inl (fm_meets))), (qm_lines, .inl (cI, 5, .inl (fm_lines))), mo qm 0 qm_width qm_many qm_cells qm_moved qm_tape vm_taped vm_at vm_token vm_place vm_value vm_word vm_bad vm_badPlace vm_fault vm_faultPlace qm_lines qm_has qm_round qm_meets qm_stumble qm_isMud qm_cell qm_tune qm_change qm_isKept qm_steps qm_places qm_danced vm_runMost vm_runBegins qm_heardBy vm_fitMany vm_fitFirst vm_fitBeats vm_listenLeaves qm_there vm_metAt vm_metIn qm_wins vm_nightHoles vm_nightFirst vm_nightMud vm_nightSlips vm_drawnNow, (qm_wins, .inl (cI, 24576, .inl (g363)))] := ⟨hP.sub [2, 0, 1, 3] rfl, hD.sub [2, 0, 1, 3] (by decide) rfl⟩
                exact ih355 (g363, (1 : Int32)) _ _ _ (show (6 - (1 : Int32).toInt).toNat < (6 - x354.toInt).toNat by omega) ⟨(show 0 ≤ (1 : Int32).toInt ∧ (1 : Int32).toInt ≤ 6 by decide), ⟨hP9, hD9⟩, hS, lv_sub hl [0, 1, 2, 3] rfl⟩
              · subst hz
                refine lv_if_ne (tgt := 68) hx hb dX12_plays_63 (by decide) (fun hc => absurd hc (by decide)) (fun _ => ?_)
                refine lv_iload_n hx hb dX12_plays_66 rfl (lv_at hl 0 rfl) ?_
                obtain ⟨hP9, hD9⟩ : ct_B D A H [mo qm 0 qm_width qm_many qm_cells qm_moved qm_tape vm_taped vm_at vm_token vm_place vm_value vm_word vm_bad vm_badPlace vm_fault vm_faultPlace qm_lines qm_has qm_round qm_meets qm_stumble qm_isMud qm_cell qm_tune qm_change qm_isKept qm_steps qm_places qm_danced vm_runMost vm_runBegins qm_heardBy vm_fitMany vm_fitFirst vm_fitBeats vm_listenLeaves qm_there vm_metAt vm_metIn qm_wins vm_nightHoles vm_nightFirst vm_nightMud vm_nightSlips vm_drawnNow, (qm_lines, .inl (cI, 5, .inl (fm_lines))), (qm_meets, .inl (cI, 30, .inl (fm_meets))), (qm_wins, .inl (cI, 24576, .inl (g363)))] := ⟨hP.sub [1, 0, 2, 3] rfl, hD.sub [1, 0, 2, 3] (by decide) rfl⟩
                exact W.iret (v := 0) hx hb hr (fun t ht hW => ⟨⟨0, ((0 : Int32), g363), rfl, (show (-2) ≤ (0 : Int32).toInt ∧ (0 : Int32).toInt ≤ 5 by decide), by rw [ht]; exact hP9, hD9⟩, hS.F ht⟩) hS.2.2 dX12_plays_67
            · subst hz
              refine lv_if_eq (tgt := 68) hx hb dX12_plays_48 (by decide) (fun _ => ?_) (fun hc => absurd hc (by decide))
              refine lv_iinc (v := 1) (lv' := [(3, .int 1), (2, .int 4), (0, .ref qm), (1, .int 1)]) hx hb dX12_plays_68 hl (k := 0) rfl (by decide) (by decide) rfl (fun ls hl => ?_)
              refine lv_goto (tgt := 35) hx hb dX12_plays_71 (by decide) ?_
              have hk365 : (1 : Int32).toInt = 1 := by decide
              obtain ⟨hP9, hD9⟩ : ct_B D A H [(qm_meets, .inl (cI, 30, .inl (fm_meets))), (qm_lines, .inl (cI, 5, .inl (fm_lines))), mo qm 0 qm_width qm_many qm_cells qm_moved qm_tape vm_taped vm_at vm_token vm_place vm_value vm_word vm_bad vm_badPlace vm_fault vm_faultPlace qm_lines qm_has qm_round qm_meets qm_stumble qm_isMud qm_cell qm_tune qm_change qm_isKept qm_steps qm_places qm_danced vm_runMost vm_runBegins qm_heardBy vm_fitMany vm_fitFirst vm_fitBeats vm_listenLeaves qm_there vm_metAt vm_metIn qm_wins vm_nightHoles vm_nightFirst vm_nightMud vm_nightSlips vm_drawnNow, (qm_wins, .inl (cI, 24576, .inl (g353)))] := ⟨hP.sub [3, 0, 2, 1] rfl, hD.sub [3, 0, 2, 1] (by decide) rfl⟩
              exact ih355 (g353, (1 : Int32)) _ _ _ (show (6 - (1 : Int32).toInt).toNat < (6 - x354.toInt).toNat by omega) ⟨(show 0 ≤ (1 : Int32).toInt ∧ (1 : Int32).toInt ≤ 6 by decide), ⟨hP9, hD9⟩, hS, lv_sub hl [0, 1, 2, 3] rfl⟩
          · have hj2 : x354 = 1 := tq_of hj (by decide)
            have hl : lv_has ls 4 [(3, .int 1), (2, .int 4), (0, .ref qm), (1, .int 1)] := by have h9 := hl; rw [hj2] at h9; exact h9
            refine lv_aload_n hx hb dX12_plays_41 rfl (lv_at hl 2 rfl) ?_
            refine lv_iload_n hx hb dX12_plays_42 rfl (lv_at hl 1 rfl) ?_
            refine lv_iload_n hx hb dX12_plays_43 rfl (lv_at hl 3 rfl) ?_
            refine lv_iload_n hx hb dX12_plays_44 rfl (lv_at hl 0 rfl) ?_
            refine ct_calli (D := D) (wr := [(qm_lines, .inl (cI, 5, .inl (fm_lines))), (qm_wins, .inl (cI, 24576, .inl (g353)))]) (va_runV (As := [.int 4, .int 1, .int 1]) (rest := []) ⟨hx, hb, hml, hown, hts⟩ (c_X12_isPlay l D G cI cJ cB cZ cO qm 0 qm_width qm_many qm_cells qm_moved qm_tape vm_taped vm_at vm_token vm_place vm_value vm_word vm_bad vm_badPlace vm_fault vm_faultPlace qm_lines qm_has qm_round qm_meets fm_meets qm_stumble qm_isMud qm_cell qm_tune qm_change qm_isKept qm_steps qm_places qm_danced vm_runMost vm_runBegins qm_heardBy vm_fitMany vm_fitFirst vm_fitBeats vm_listenLeaves qm_there vm_metAt vm_metIn qm_wins vm_nightHoles vm_nightFirst vm_nightMud vm_nightSlips vm_drawnNow 4 1 1 h_vm_taped h_vm_at h_vm_value (by decide) (by decide) H.size) (cwV 3 hts gX12_plays_X12_isPlay rfl rfl rfl (by decide +kernel) ⟨Nat.le_of_ble_eq_true rfl, Nat.le_of_ble_eq_true rfl⟩) (ct_preV (T := ct_T cI cJ cB cZ cO) (ci := 12) (q0 := 2) hE hH hP hD hS hA [2, 0] (by decide) rfl rfl rfl) rfl rfl hl.1 rfl (lv_room (Nat.le_of_ble_eq_true rfl)) dX12_plays_45 ⟨Nat.le_of_ble_eq_true rfl, Nat.le_of_ble_eq_true rfl⟩) hP hD hS hA [2, 0] [1, 3] rfl rfl (by decide) (by decide) (fun r366 u H locs hw hP hD hS => ?_)
            obtain ⟨hP, hD⟩ : ct_B D A H [(qm_lines, .inl (cI, 5, .inl (fm_lines))), (qm_wins, .inl (cI, 24576, .inl (g353))), mo qm 0 qm_width qm_many qm_cells qm_moved qm_tape vm_taped vm_at vm_token vm_place vm_value vm_word vm_bad vm_badPlace vm_fault vm_faultPlace qm_lines qm_has qm_round qm_meets qm_stumble qm_isMud qm_cell qm_tune qm_change qm_isKept qm_steps qm_places qm_danced vm_runMost vm_runBegins qm_heardBy vm_fitMany vm_fitFirst vm_fitBeats vm_listenLeaves qm_there vm_metAt vm_metIn qm_wins vm_nightHoles vm_nightFirst vm_nightMud vm_nightSlips vm_drawnNow, (qm_meets, .inl (cI, 30, .inl (fm_meets)))] := ⟨hP, hD⟩
            have hz := hw
            clear hw
            rcases hz with ⟨hz, hz2⟩ | ⟨hz, hz2⟩
            · subst hz
              have hz_367 : (pl (4 : Int32) (1 : Int32)) := hz2
              refine lv_if_eq (tgt := 68) hx hb dX12_plays_48 (by decide) (fun hc => absurd hc (by decide)) (fun _ => ?_)
              refine lv_aload_n hx hb dX12_plays_51 rfl (lv_at hl 2 rfl) ?_
              refine lv_iload_n hx hb dX12_plays_52 rfl (lv_at hl 1 rfl) ?_
              refine lv_iconst (v := 1) hx hb dX12_plays_53 (by decide) ?_
              refine lv_iconst (v := 2) hx hb dX12_plays_54 (by decide) ?_
              refine lv_iload_n hx hb dX12_plays_55 rfl (lv_at hl 0 rfl) ?_
              refine lv_imul hx hb dX12_plays_56 ?_
              refine lv_topi (fun z368 ez368 => ?_)
              obtain rfl : z368 = 2 := ez368.trans (by decide)
              refine lv_ishl hx hb dX12_plays_57 ?_
              refine lv_topi (fun z369 ez369 => ?_)
              obtain rfl : z369 = 4 := ez369.trans (by decide)
              refine lv_iadd hx hb dX12_plays_58 ?_
              refine lv_topi (fun z370 ez370 => ?_)
              obtain rfl : z370 = 8 := ez370.trans (by decide)
              refine lv_iload_n hx hb dX12_plays_59 rfl (lv_at hl 0 rfl) ?_
              refine ct_calli (D := D) (wr := [(qm_lines, .inl (cI, 5, .inl (fm_lines)))]) (va_runV (As := [.int 8, .int 1]) (rest := []) ⟨hx, hb, hml, hown, hts⟩ (c_X12_winsFrom l D G cI cJ cB cZ cO qm 0 qm_width qm_many qm_cells qm_moved qm_tape vm_taped vm_at vm_token vm_place vm_value vm_word vm_bad vm_badPlace vm_fault vm_faultPlace qm_lines qm_has qm_round qm_meets fm_meets qm_stumble qm_isMud qm_cell qm_tune qm_change qm_isKept qm_steps qm_places qm_danced vm_runMost vm_runBegins qm_heardBy vm_fitMany vm_fitFirst vm_fitBeats vm_listenLeaves qm_there vm_metAt vm_metIn qm_wins vm_nightHoles vm_nightFirst vm_nightMud vm_nightSlips vm_drawnNow h_vm_taped h_vm_at h_vm_value 12 g353 8 1 (by decide) (by unfold wn; decide +kernel) H.size) (cwV 2 hts gX12_plays_X12_winsFrom rfl rfl rfl (by decide +kernel) ⟨Nat.le_of_ble_eq_true rfl, Nat.le_of_ble_eq_true rfl⟩) (ct_preV (T := ct_T cI cJ cB cZ cO) (ci := 12) (q0 := 2) hE hH hP hD hS hA [2, 3, 1] (by decide) rfl rfl rfl) rfl rfl hl.1 rfl (lv_room (Nat.le_of_ble_eq_true rfl)) dX12_plays_60 ⟨Nat.le_of_ble_eq_true rfl, Nat.le_of_ble_eq_true rfl⟩) hP hD hS hA [2, 3, 1] [0] rfl rfl (by decide) (by decide) (fun r371 u H locs hw hP hD hS => ?_)
              obtain ⟨g372, rfl⟩ : ∃ z, z = u := ⟨_, rfl⟩
              obtain ⟨hP, hD⟩ : ct_B D A H [(qm_lines, .inl (cI, 5, .inl (fm_lines))), mo qm 0 qm_width qm_many qm_cells qm_moved qm_tape vm_taped vm_at vm_token vm_place vm_value vm_word vm_bad vm_badPlace vm_fault vm_faultPlace qm_lines qm_has qm_round qm_meets qm_stumble qm_isMud qm_cell qm_tune qm_change qm_isKept qm_steps qm_places qm_danced vm_runMost vm_runBegins qm_heardBy vm_fitMany vm_fitFirst vm_fitBeats vm_listenLeaves qm_there vm_metAt vm_metIn qm_wins vm_nightHoles vm_nightFirst vm_nightMud vm_nightSlips vm_drawnNow, (qm_meets, .inl (cI, 30, .inl (fm_meets))), (qm_wins, .inl (cI, 24576, .inl (g372)))] := ⟨hP, hD⟩
              have hz := hw
              clear hw
              rcases hz with ⟨hz, hz2⟩ | ⟨hz, hz2⟩
              · subst hz
                refine lv_if_ne (tgt := 68) hx hb dX12_plays_63 (by decide) (fun _ => ?_) (fun hc => absurd hc (by decide))
                refine lv_iinc (v := 2) (lv' := [(3, .int 2), (2, .int 4), (0, .ref qm), (1, .int 1)]) hx hb dX12_plays_68 hl (k := 0) rfl (by decide) (by decide) rfl (fun ls hl => ?_)
                refine lv_goto (tgt := 35) hx hb dX12_plays_71 (by decide) ?_
                have hk373 : (2 : Int32).toInt = 2 := by decide
                obtain ⟨hP9, hD9⟩ : ct_B D A H [(qm_meets, .inl (cI, 30, .inl (fm_meets))), (qm_lines, .inl (cI, 5, .inl (fm_lines))), mo qm 0 qm_width qm_many qm_cells qm_moved qm_tape vm_taped vm_at vm_token vm_place vm_value vm_word vm_bad vm_badPlace vm_fault vm_faultPlace qm_lines qm_has qm_round qm_meets qm_stumble qm_isMud qm_cell qm_tune qm_change qm_isKept qm_steps qm_places qm_danced vm_runMost vm_runBegins qm_heardBy vm_fitMany vm_fitFirst vm_fitBeats vm_listenLeaves qm_there vm_metAt vm_metIn qm_wins vm_nightHoles vm_nightFirst vm_nightMud vm_nightSlips vm_drawnNow, (qm_wins, .inl (cI, 24576, .inl (g372)))] := ⟨hP.sub [2, 0, 1, 3] rfl, hD.sub [2, 0, 1, 3] (by decide) rfl⟩
                exact ih355 (g372, (2 : Int32)) _ _ _ (show (6 - (2 : Int32).toInt).toNat < (6 - x354.toInt).toNat by omega) ⟨(show 0 ≤ (2 : Int32).toInt ∧ (2 : Int32).toInt ≤ 6 by decide), ⟨hP9, hD9⟩, hS, lv_sub hl [0, 1, 2, 3] rfl⟩
              · subst hz
                refine lv_if_ne (tgt := 68) hx hb dX12_plays_63 (by decide) (fun hc => absurd hc (by decide)) (fun _ => ?_)
                refine lv_iload_n hx hb dX12_plays_66 rfl (lv_at hl 0 rfl) ?_
                obtain ⟨hP9, hD9⟩ : ct_B D A H [mo qm 0 qm_width qm_many qm_cells qm_moved qm_tape vm_taped vm_at vm_token vm_place vm_value vm_word vm_bad vm_badPlace vm_fault vm_faultPlace qm_lines qm_has qm_round qm_meets qm_stumble qm_isMud qm_cell qm_tune qm_change qm_isKept qm_steps qm_places qm_danced vm_runMost vm_runBegins qm_heardBy vm_fitMany vm_fitFirst vm_fitBeats vm_listenLeaves qm_there vm_metAt vm_metIn qm_wins vm_nightHoles vm_nightFirst vm_nightMud vm_nightSlips vm_drawnNow, (qm_lines, .inl (cI, 5, .inl (fm_lines))), (qm_meets, .inl (cI, 30, .inl (fm_meets))), (qm_wins, .inl (cI, 24576, .inl (g372)))] := ⟨hP.sub [1, 0, 2, 3] rfl, hD.sub [1, 0, 2, 3] (by decide) rfl⟩
                exact W.iret (v := 1) hx hb hr (fun t ht hW => ⟨⟨1, ((0 : Int32), g372), rfl, (show (-2) ≤ (1 : Int32).toInt ∧ (1 : Int32).toInt ≤ 5 by decide), by rw [ht]; exact hP9, hD9⟩, hS.F ht⟩) hS.2.2 dX12_plays_67
            · subst hz
              refine lv_if_eq (tgt := 68) hx hb dX12_plays_48 (by decide) (fun _ => ?_) (fun hc => absurd hc (by decide))
              refine lv_iinc (v := 2) (lv' := [(3, .int 2), (2, .int 4), (0, .ref qm), (1, .int 1)]) hx hb dX12_plays_68 hl (k := 0) rfl (by decide) (by decide) rfl (fun ls hl => ?_)
              refine lv_goto (tgt := 35) hx hb dX12_plays_71 (by decide) ?_
              have hk374 : (2 : Int32).toInt = 2 := by decide
              obtain ⟨hP9, hD9⟩ : ct_B D A H [(qm_meets, .inl (cI, 30, .inl (fm_meets))), (qm_lines, .inl (cI, 5, .inl (fm_lines))), mo qm 0 qm_width qm_many qm_cells qm_moved qm_tape vm_taped vm_at vm_token vm_place vm_value vm_word vm_bad vm_badPlace vm_fault vm_faultPlace qm_lines qm_has qm_round qm_meets qm_stumble qm_isMud qm_cell qm_tune qm_change qm_isKept qm_steps qm_places qm_danced vm_runMost vm_runBegins qm_heardBy vm_fitMany vm_fitFirst vm_fitBeats vm_listenLeaves qm_there vm_metAt vm_metIn qm_wins vm_nightHoles vm_nightFirst vm_nightMud vm_nightSlips vm_drawnNow, (qm_wins, .inl (cI, 24576, .inl (g353)))] := ⟨hP.sub [3, 0, 2, 1] rfl, hD.sub [3, 0, 2, 1] (by decide) rfl⟩
              exact ih355 (g353, (2 : Int32)) _ _ _ (show (6 - (2 : Int32).toInt).toNat < (6 - x354.toInt).toNat by omega) ⟨(show 0 ≤ (2 : Int32).toInt ∧ (2 : Int32).toInt ≤ 6 by decide), ⟨hP9, hD9⟩, hS, lv_sub hl [0, 1, 2, 3] rfl⟩
          · have hj2 : x354 = 2 := tq_of hj (by decide)
            have hl : lv_has ls 4 [(3, .int 2), (2, .int 4), (0, .ref qm), (1, .int 1)] := by have h9 := hl; rw [hj2] at h9; exact h9
            refine lv_aload_n hx hb dX12_plays_41 rfl (lv_at hl 2 rfl) ?_
            refine lv_iload_n hx hb dX12_plays_42 rfl (lv_at hl 1 rfl) ?_
            refine lv_iload_n hx hb dX12_plays_43 rfl (lv_at hl 3 rfl) ?_
            refine lv_iload_n hx hb dX12_plays_44 rfl (lv_at hl 0 rfl) ?_
            refine ct_calli (D := D) (wr := [(qm_lines, .inl (cI, 5, .inl (fm_lines))), (qm_wins, .inl (cI, 24576, .inl (g353)))]) (va_runV (As := [.int 4, .int 1, .int 2]) (rest := []) ⟨hx, hb, hml, hown, hts⟩ (c_X12_isPlay l D G cI cJ cB cZ cO qm 0 qm_width qm_many qm_cells qm_moved qm_tape vm_taped vm_at vm_token vm_place vm_value vm_word vm_bad vm_badPlace vm_fault vm_faultPlace qm_lines qm_has qm_round qm_meets fm_meets qm_stumble qm_isMud qm_cell qm_tune qm_change qm_isKept qm_steps qm_places qm_danced vm_runMost vm_runBegins qm_heardBy vm_fitMany vm_fitFirst vm_fitBeats vm_listenLeaves qm_there vm_metAt vm_metIn qm_wins vm_nightHoles vm_nightFirst vm_nightMud vm_nightSlips vm_drawnNow 4 1 2 h_vm_taped h_vm_at h_vm_value (by decide) (by decide) H.size) (cwV 3 hts gX12_plays_X12_isPlay rfl rfl rfl (by decide +kernel) ⟨Nat.le_of_ble_eq_true rfl, Nat.le_of_ble_eq_true rfl⟩) (ct_preV (T := ct_T cI cJ cB cZ cO) (ci := 12) (q0 := 2) hE hH hP hD hS hA [2, 0] (by decide) rfl rfl rfl) rfl rfl hl.1 rfl (lv_room (Nat.le_of_ble_eq_true rfl)) dX12_plays_45 ⟨Nat.le_of_ble_eq_true rfl, Nat.le_of_ble_eq_true rfl⟩) hP hD hS hA [2, 0] [1, 3] rfl rfl (by decide) (by decide) (fun r375 u H locs hw hP hD hS => ?_)
            obtain ⟨hP, hD⟩ : ct_B D A H [(qm_lines, .inl (cI, 5, .inl (fm_lines))), (qm_wins, .inl (cI, 24576, .inl (g353))), mo qm 0 qm_width qm_many qm_cells qm_moved qm_tape vm_taped vm_at vm_token vm_place vm_value vm_word vm_bad vm_badPlace vm_fault vm_faultPlace qm_lines qm_has qm_round qm_meets qm_stumble qm_isMud qm_cell qm_tune qm_change qm_isKept qm_steps qm_places qm_danced vm_runMost vm_runBegins qm_heardBy vm_fitMany vm_fitFirst vm_fitBeats vm_listenLeaves qm_there vm_metAt vm_metIn qm_wins vm_nightHoles vm_nightFirst vm_nightMud vm_nightSlips vm_drawnNow, (qm_meets, .inl (cI, 30, .inl (fm_meets)))] := ⟨hP, hD⟩
            have hz := hw
            clear hw
            rcases hz with ⟨hz, hz2⟩ | ⟨hz, hz2⟩
            · subst hz
              have hz_376 : (pl (4 : Int32) (2 : Int32)) := hz2
              refine lv_if_eq (tgt := 68) hx hb dX12_plays_48 (by decide) (fun hc => absurd hc (by decide)) (fun _ => ?_)
              refine lv_aload_n hx hb dX12_plays_51 rfl (lv_at hl 2 rfl) ?_
              refine lv_iload_n hx hb dX12_plays_52 rfl (lv_at hl 1 rfl) ?_
              refine lv_iconst (v := 1) hx hb dX12_plays_53 (by decide) ?_
              refine lv_iconst (v := 2) hx hb dX12_plays_54 (by decide) ?_
              refine lv_iload_n hx hb dX12_plays_55 rfl (lv_at hl 0 rfl) ?_
              refine lv_imul hx hb dX12_plays_56 ?_
              refine lv_topi (fun z377 ez377 => ?_)
              obtain rfl : z377 = 4 := ez377.trans (by decide)
              refine lv_ishl hx hb dX12_plays_57 ?_
              refine lv_topi (fun z378 ez378 => ?_)
              obtain rfl : z378 = 16 := ez378.trans (by decide)
              refine lv_iadd hx hb dX12_plays_58 ?_
              refine lv_topi (fun z379 ez379 => ?_)
              obtain rfl : z379 = 20 := ez379.trans (by decide)
              refine lv_iload_n hx hb dX12_plays_59 rfl (lv_at hl 0 rfl) ?_
              refine ct_calli (D := D) (wr := [(qm_lines, .inl (cI, 5, .inl (fm_lines)))]) (va_runV (As := [.int 20, .int 2]) (rest := []) ⟨hx, hb, hml, hown, hts⟩ (c_X12_winsFrom l D G cI cJ cB cZ cO qm 0 qm_width qm_many qm_cells qm_moved qm_tape vm_taped vm_at vm_token vm_place vm_value vm_word vm_bad vm_badPlace vm_fault vm_faultPlace qm_lines qm_has qm_round qm_meets fm_meets qm_stumble qm_isMud qm_cell qm_tune qm_change qm_isKept qm_steps qm_places qm_danced vm_runMost vm_runBegins qm_heardBy vm_fitMany vm_fitFirst vm_fitBeats vm_listenLeaves qm_there vm_metAt vm_metIn qm_wins vm_nightHoles vm_nightFirst vm_nightMud vm_nightSlips vm_drawnNow h_vm_taped h_vm_at h_vm_value 12 g353 20 2 (by decide) (by unfold wn; decide +kernel) H.size) (cwV 2 hts gX12_plays_X12_winsFrom rfl rfl rfl (by decide +kernel) ⟨Nat.le_of_ble_eq_true rfl, Nat.le_of_ble_eq_true rfl⟩) (ct_preV (T := ct_T cI cJ cB cZ cO) (ci := 12) (q0 := 2) hE hH hP hD hS hA [2, 3, 1] (by decide) rfl rfl rfl) rfl rfl hl.1 rfl (lv_room (Nat.le_of_ble_eq_true rfl)) dX12_plays_60 ⟨Nat.le_of_ble_eq_true rfl, Nat.le_of_ble_eq_true rfl⟩) hP hD hS hA [2, 3, 1] [0] rfl rfl (by decide) (by decide) (fun r380 u H locs hw hP hD hS => ?_)
              obtain ⟨g381, rfl⟩ : ∃ z, z = u := ⟨_, rfl⟩
              obtain ⟨hP, hD⟩ : ct_B D A H [(qm_lines, .inl (cI, 5, .inl (fm_lines))), mo qm 0 qm_width qm_many qm_cells qm_moved qm_tape vm_taped vm_at vm_token vm_place vm_value vm_word vm_bad vm_badPlace vm_fault vm_faultPlace qm_lines qm_has qm_round qm_meets qm_stumble qm_isMud qm_cell qm_tune qm_change qm_isKept qm_steps qm_places qm_danced vm_runMost vm_runBegins qm_heardBy vm_fitMany vm_fitFirst vm_fitBeats vm_listenLeaves qm_there vm_metAt vm_metIn qm_wins vm_nightHoles vm_nightFirst vm_nightMud vm_nightSlips vm_drawnNow, (qm_meets, .inl (cI, 30, .inl (fm_meets))), (qm_wins, .inl (cI, 24576, .inl (g381)))] := ⟨hP, hD⟩
              have hz := hw
              clear hw
              rcases hz with ⟨hz, hz2⟩ | ⟨hz, hz2⟩
              · subst hz
                refine lv_if_ne (tgt := 68) hx hb dX12_plays_63 (by decide) (fun _ => ?_) (fun hc => absurd hc (by decide))
                refine lv_iinc (v := 3) (lv' := [(3, .int 3), (2, .int 4), (0, .ref qm), (1, .int 1)]) hx hb dX12_plays_68 hl (k := 0) rfl (by decide) (by decide) rfl (fun ls hl => ?_)
                refine lv_goto (tgt := 35) hx hb dX12_plays_71 (by decide) ?_
                have hk382 : (3 : Int32).toInt = 3 := by decide
                obtain ⟨hP9, hD9⟩ : ct_B D A H [(qm_meets, .inl (cI, 30, .inl (fm_meets))), (qm_lines, .inl (cI, 5, .inl (fm_lines))), mo qm 0 qm_width qm_many qm_cells qm_moved qm_tape vm_taped vm_at vm_token vm_place vm_value vm_word vm_bad vm_badPlace vm_fault vm_faultPlace qm_lines qm_has qm_round qm_meets qm_stumble qm_isMud qm_cell qm_tune qm_change qm_isKept qm_steps qm_places qm_danced vm_runMost vm_runBegins qm_heardBy vm_fitMany vm_fitFirst vm_fitBeats vm_listenLeaves qm_there vm_metAt vm_metIn qm_wins vm_nightHoles vm_nightFirst vm_nightMud vm_nightSlips vm_drawnNow, (qm_wins, .inl (cI, 24576, .inl (g381)))] := ⟨hP.sub [2, 0, 1, 3] rfl, hD.sub [2, 0, 1, 3] (by decide) rfl⟩
                exact ih355 (g381, (3 : Int32)) _ _ _ (show (6 - (3 : Int32).toInt).toNat < (6 - x354.toInt).toNat by omega) ⟨(show 0 ≤ (3 : Int32).toInt ∧ (3 : Int32).toInt ≤ 6 by decide), ⟨hP9, hD9⟩, hS, lv_sub hl [0, 1, 2, 3] rfl⟩
              · subst hz
                refine lv_if_ne (tgt := 68) hx hb dX12_plays_63 (by decide) (fun hc => absurd hc (by decide)) (fun _ => ?_)
                refine lv_iload_n hx hb dX12_plays_66 rfl (lv_at hl 0 rfl) ?_
                obtain ⟨hP9, hD9⟩ : ct_B D A H [mo qm 0 qm_width qm_many qm_cells qm_moved qm_tape vm_taped vm_at vm_token vm_place vm_value vm_word vm_bad vm_badPlace vm_fault vm_faultPlace qm_lines qm_has qm_round qm_meets qm_stumble qm_isMud qm_cell qm_tune qm_change qm_isKept qm_steps qm_places qm_danced vm_runMost vm_runBegins qm_heardBy vm_fitMany vm_fitFirst vm_fitBeats vm_listenLeaves qm_there vm_metAt vm_metIn qm_wins vm_nightHoles vm_nightFirst vm_nightMud vm_nightSlips vm_drawnNow, (qm_lines, .inl (cI, 5, .inl (fm_lines))), (qm_meets, .inl (cI, 30, .inl (fm_meets))), (qm_wins, .inl (cI, 24576, .inl (g381)))] := ⟨hP.sub [1, 0, 2, 3] rfl, hD.sub [1, 0, 2, 3] (by decide) rfl⟩
                exact W.iret (v := 2) hx hb hr (fun t ht hW => ⟨⟨2, ((0 : Int32), g381), rfl, (show (-2) ≤ (2 : Int32).toInt ∧ (2 : Int32).toInt ≤ 5 by decide), by rw [ht]; exact hP9, hD9⟩, hS.F ht⟩) hS.2.2 dX12_plays_67
            · subst hz
              refine lv_if_eq (tgt := 68) hx hb dX12_plays_48 (by decide) (fun _ => ?_) (fun hc => absurd hc (by decide))
              refine lv_iinc (v := 3) (lv' := [(3, .int 3), (2, .int 4), (0, .ref qm), (1, .int 1)]) hx hb dX12_plays_68 hl (k := 0) rfl (by decide) (by decide) rfl (fun ls hl => ?_)
              refine lv_goto (tgt := 35) hx hb dX12_plays_71 (by decide) ?_
              have hk383 : (3 : Int32).toInt = 3 := by decide
              obtain ⟨hP9, hD9⟩ : ct_B D A H [(qm_meets, .inl (cI, 30, .inl (fm_meets))), (qm_lines, .inl (cI, 5, .inl (fm_lines))), mo qm 0 qm_width qm_many qm_cells qm_moved qm_tape vm_taped vm_at vm_token vm_place vm_value vm_word vm_bad vm_badPlace vm_fault vm_faultPlace qm_lines qm_has qm_round qm_meets qm_stumble qm_isMud qm_cell qm_tune qm_change qm_isKept qm_steps qm_places qm_danced vm_runMost vm_runBegins qm_heardBy vm_fitMany vm_fitFirst vm_fitBeats vm_listenLeaves qm_there vm_metAt vm_metIn qm_wins vm_nightHoles vm_nightFirst vm_nightMud vm_nightSlips vm_drawnNow, (qm_wins, .inl (cI, 24576, .inl (g353)))] := ⟨hP.sub [3, 0, 2, 1] rfl, hD.sub [3, 0, 2, 1] (by decide) rfl⟩
              exact ih355 (g353, (3 : Int32)) _ _ _ (show (6 - (3 : Int32).toInt).toNat < (6 - x354.toInt).toNat by omega) ⟨(show 0 ≤ (3 : Int32).toInt ∧ (3 : Int32).toInt ≤ 6 by decide), ⟨hP9, hD9⟩, hS, lv_sub hl [0, 1, 2, 3] rfl⟩
          · have hj2 : x354 = 3 := tq_of hj (by decide)
            have hl : lv_has ls 4 [(3, .int 3), (2, .int 4), (0, .ref qm), (1, .int 1)] := by have h9 := hl; rw [hj2] at h9; exact h9
            refine lv_aload_n hx hb dX12_plays_41 rfl (lv_at hl 2 rfl) ?_
            refine lv_iload_n hx hb dX12_plays_42 rfl (lv_at hl 1 rfl) ?_
            refine lv_iload_n hx hb dX12_plays_43 rfl (lv_at hl 3 rfl) ?_
            refine lv_iload_n hx hb dX12_plays_44 rfl (lv_at hl 0 rfl) ?_
            refine ct_calli (D := D) (wr := [(qm_lines, .inl (cI, 5, .inl (fm_lines))), (qm_wins, .inl (cI, 24576, .inl (g353)))]) (va_runV (As := [.int 4, .int 1, .int 3]) (rest := []) ⟨hx, hb, hml, hown, hts⟩ (c_X12_isPlay l D G cI cJ cB cZ cO qm 0 qm_width qm_many qm_cells qm_moved qm_tape vm_taped vm_at vm_token vm_place vm_value vm_word vm_bad vm_badPlace vm_fault vm_faultPlace qm_lines qm_has qm_round qm_meets fm_meets qm_stumble qm_isMud qm_cell qm_tune qm_change qm_isKept qm_steps qm_places qm_danced vm_runMost vm_runBegins qm_heardBy vm_fitMany vm_fitFirst vm_fitBeats vm_listenLeaves qm_there vm_metAt vm_metIn qm_wins vm_nightHoles vm_nightFirst vm_nightMud vm_nightSlips vm_drawnNow 4 1 3 h_vm_taped h_vm_at h_vm_value (by decide) (by decide) H.size) (cwV 3 hts gX12_plays_X12_isPlay rfl rfl rfl (by decide +kernel) ⟨Nat.le_of_ble_eq_true rfl, Nat.le_of_ble_eq_true rfl⟩) (ct_preV (T := ct_T cI cJ cB cZ cO) (ci := 12) (q0 := 2) hE hH hP hD hS hA [2, 0] (by decide) rfl rfl rfl) rfl rfl hl.1 rfl (lv_room (Nat.le_of_ble_eq_true rfl)) dX12_plays_45 ⟨Nat.le_of_ble_eq_true rfl, Nat.le_of_ble_eq_true rfl⟩) hP hD hS hA [2, 0] [1, 3] rfl rfl (by decide) (by decide) (fun r384 u H locs hw hP hD hS => ?_)
            obtain ⟨hP, hD⟩ : ct_B D A H [(qm_lines, .inl (cI, 5, .inl (fm_lines))), (qm_wins, .inl (cI, 24576, .inl (g353))), mo qm 0 qm_width qm_many qm_cells qm_moved qm_tape vm_taped vm_at vm_token vm_place vm_value vm_word vm_bad vm_badPlace vm_fault vm_faultPlace qm_lines qm_has qm_round qm_meets qm_stumble qm_isMud qm_cell qm_tune qm_change qm_isKept qm_steps qm_places qm_danced vm_runMost vm_runBegins qm_heardBy vm_fitMany vm_fitFirst vm_fitBeats vm_listenLeaves qm_there vm_metAt vm_metIn qm_wins vm_nightHoles vm_nightFirst vm_nightMud vm_nightSlips vm_drawnNow, (qm_meets, .inl (cI, 30, .inl (fm_meets)))] := ⟨hP, hD⟩
            have hz := hw
            clear hw
            rcases hz with ⟨hz, hz2⟩ | ⟨hz, hz2⟩
            · subst hz
              have hz_385 : (pl (4 : Int32) (3 : Int32)) := hz2
              refine lv_if_eq (tgt := 68) hx hb dX12_plays_48 (by decide) (fun hc => absurd hc (by decide)) (fun _ => ?_)
              refine lv_aload_n hx hb dX12_plays_51 rfl (lv_at hl 2 rfl) ?_
              refine lv_iload_n hx hb dX12_plays_52 rfl (lv_at hl 1 rfl) ?_
              refine lv_iconst (v := 1) hx hb dX12_plays_53 (by decide) ?_
              refine lv_iconst (v := 2) hx hb dX12_plays_54 (by decide) ?_
              refine lv_iload_n hx hb dX12_plays_55 rfl (lv_at hl 0 rfl) ?_
              refine lv_imul hx hb dX12_plays_56 ?_
              refine lv_topi (fun z386 ez386 => ?_)
              obtain rfl : z386 = 6 := ez386.trans (by decide)
              refine lv_ishl hx hb dX12_plays_57 ?_
              refine lv_topi (fun z387 ez387 => ?_)
              obtain rfl : z387 = 64 := ez387.trans (by decide)
              refine lv_iadd hx hb dX12_plays_58 ?_
              refine lv_topi (fun z388 ez388 => ?_)
              obtain rfl : z388 = 68 := ez388.trans (by decide)
              refine lv_iload_n hx hb dX12_plays_59 rfl (lv_at hl 0 rfl) ?_
              refine ct_calli (D := D) (wr := [(qm_lines, .inl (cI, 5, .inl (fm_lines)))]) (va_runV (As := [.int 68, .int 3]) (rest := []) ⟨hx, hb, hml, hown, hts⟩ (c_X12_winsFrom l D G cI cJ cB cZ cO qm 0 qm_width qm_many qm_cells qm_moved qm_tape vm_taped vm_at vm_token vm_place vm_value vm_word vm_bad vm_badPlace vm_fault vm_faultPlace qm_lines qm_has qm_round qm_meets fm_meets qm_stumble qm_isMud qm_cell qm_tune qm_change qm_isKept qm_steps qm_places qm_danced vm_runMost vm_runBegins qm_heardBy vm_fitMany vm_fitFirst vm_fitBeats vm_listenLeaves qm_there vm_metAt vm_metIn qm_wins vm_nightHoles vm_nightFirst vm_nightMud vm_nightSlips vm_drawnNow h_vm_taped h_vm_at h_vm_value 12 g353 68 3 (by decide) (by unfold wn; decide +kernel) H.size) (cwV 2 hts gX12_plays_X12_winsFrom rfl rfl rfl (by decide +kernel) ⟨Nat.le_of_ble_eq_true rfl, Nat.le_of_ble_eq_true rfl⟩) (ct_preV (T := ct_T cI cJ cB cZ cO) (ci := 12) (q0 := 2) hE hH hP hD hS hA [2, 3, 1] (by decide) rfl rfl rfl) rfl rfl hl.1 rfl (lv_room (Nat.le_of_ble_eq_true rfl)) dX12_plays_60 ⟨Nat.le_of_ble_eq_true rfl, Nat.le_of_ble_eq_true rfl⟩) hP hD hS hA [2, 3, 1] [0] rfl rfl (by decide) (by decide) (fun r389 u H locs hw hP hD hS => ?_)
              obtain ⟨g390, rfl⟩ : ∃ z, z = u := ⟨_, rfl⟩
              obtain ⟨hP, hD⟩ : ct_B D A H [(qm_lines, .inl (cI, 5, .inl (fm_lines))), mo qm 0 qm_width qm_many qm_cells qm_moved qm_tape vm_taped vm_at vm_token vm_place vm_value vm_word vm_bad vm_badPlace vm_fault vm_faultPlace qm_lines qm_has qm_round qm_meets qm_stumble qm_isMud qm_cell qm_tune qm_change qm_isKept qm_steps qm_places qm_danced vm_runMost vm_runBegins qm_heardBy vm_fitMany vm_fitFirst vm_fitBeats vm_listenLeaves qm_there vm_metAt vm_metIn qm_wins vm_nightHoles vm_nightFirst vm_nightMud vm_nightSlips vm_drawnNow, (qm_meets, .inl (cI, 30, .inl (fm_meets))), (qm_wins, .inl (cI, 24576, .inl (g390)))] := ⟨hP, hD⟩
              have hz := hw
              clear hw
              rcases hz with ⟨hz, hz2⟩ | ⟨hz, hz2⟩
              · subst hz
                refine lv_if_ne (tgt := 68) hx hb dX12_plays_63 (by decide) (fun _ => ?_) (fun hc => absurd hc (by decide))
                refine lv_iinc (v := 4) (lv' := [(3, .int 4), (2, .int 4), (0, .ref qm), (1, .int 1)]) hx hb dX12_plays_68 hl (k := 0) rfl (by decide) (by decide) rfl (fun ls hl => ?_)
                refine lv_goto (tgt := 35) hx hb dX12_plays_71 (by decide) ?_
                have hk391 : (4 : Int32).toInt = 4 := by decide
                obtain ⟨hP9, hD9⟩ : ct_B D A H [(qm_meets, .inl (cI, 30, .inl (fm_meets))), (qm_lines, .inl (cI, 5, .inl (fm_lines))), mo qm 0 qm_width qm_many qm_cells qm_moved qm_tape vm_taped vm_at vm_token vm_place vm_value vm_word vm_bad vm_badPlace vm_fault vm_faultPlace qm_lines qm_has qm_round qm_meets qm_stumble qm_isMud qm_cell qm_tune qm_change qm_isKept qm_steps qm_places qm_danced vm_runMost vm_runBegins qm_heardBy vm_fitMany vm_fitFirst vm_fitBeats vm_listenLeaves qm_there vm_metAt vm_metIn qm_wins vm_nightHoles vm_nightFirst vm_nightMud vm_nightSlips vm_drawnNow, (qm_wins, .inl (cI, 24576, .inl (g390)))] := ⟨hP.sub [2, 0, 1, 3] rfl, hD.sub [2, 0, 1, 3] (by decide) rfl⟩
                exact ih355 (g390, (4 : Int32)) _ _ _ (show (6 - (4 : Int32).toInt).toNat < (6 - x354.toInt).toNat by omega) ⟨(show 0 ≤ (4 : Int32).toInt ∧ (4 : Int32).toInt ≤ 6 by decide), ⟨hP9, hD9⟩, hS, lv_sub hl [0, 1, 2, 3] rfl⟩
              · subst hz
                refine lv_if_ne (tgt := 68) hx hb dX12_plays_63 (by decide) (fun hc => absurd hc (by decide)) (fun _ => ?_)
                refine lv_iload_n hx hb dX12_plays_66 rfl (lv_at hl 0 rfl) ?_
                obtain ⟨hP9, hD9⟩ : ct_B D A H [mo qm 0 qm_width qm_many qm_cells qm_moved qm_tape vm_taped vm_at vm_token vm_place vm_value vm_word vm_bad vm_badPlace vm_fault vm_faultPlace qm_lines qm_has qm_round qm_meets qm_stumble qm_isMud qm_cell qm_tune qm_change qm_isKept qm_steps qm_places qm_danced vm_runMost vm_runBegins qm_heardBy vm_fitMany vm_fitFirst vm_fitBeats vm_listenLeaves qm_there vm_metAt vm_metIn qm_wins vm_nightHoles vm_nightFirst vm_nightMud vm_nightSlips vm_drawnNow, (qm_lines, .inl (cI, 5, .inl (fm_lines))), (qm_meets, .inl (cI, 30, .inl (fm_meets))), (qm_wins, .inl (cI, 24576, .inl (g390)))] := ⟨hP.sub [1, 0, 2, 3] rfl, hD.sub [1, 0, 2, 3] (by decide) rfl⟩
                exact W.iret (v := 3) hx hb hr (fun t ht hW => ⟨⟨3, ((0 : Int32), g390), rfl, (show (-2) ≤ (3 : Int32).toInt ∧ (3 : Int32).toInt ≤ 5 by decide), by rw [ht]; exact hP9, hD9⟩, hS.F ht⟩) hS.2.2 dX12_plays_67
            · subst hz
              refine lv_if_eq (tgt := 68) hx hb dX12_plays_48 (by decide) (fun _ => ?_) (fun hc => absurd hc (by decide))
              refine lv_iinc (v := 4) (lv' := [(3, .int 4), (2, .int 4), (0, .ref qm), (1, .int 1)]) hx hb dX12_plays_68 hl (k := 0) rfl (by decide) (by decide) rfl (fun ls hl => ?_)
              refine lv_goto (tgt := 35) hx hb dX12_plays_71 (by decide) ?_
              have hk392 : (4 : Int32).toInt = 4 := by decide
              obtain ⟨hP9, hD9⟩ : ct_B D A H [(qm_meets, .inl (cI, 30, .inl (fm_meets))), (qm_lines, .inl (cI, 5, .inl (fm_lines))), mo qm 0 qm_width qm_many qm_cells qm_moved qm_tape vm_taped vm_at vm_token vm_place vm_value vm_word vm_bad vm_badPlace vm_fault vm_faultPlace qm_lines qm_has qm_round qm_meets qm_stumble qm_isMud qm_cell qm_tune qm_change qm_isKept qm_steps qm_places qm_danced vm_runMost vm_runBegins qm_heardBy vm_fitMany vm_fitFirst vm_fitBeats vm_listenLeaves qm_there vm_metAt vm_metIn qm_wins vm_nightHoles vm_nightFirst vm_nightMud vm_nightSlips vm_drawnNow, (qm_wins, .inl (cI, 24576, .inl (g353)))] := ⟨hP.sub [3, 0, 2, 1] rfl, hD.sub [3, 0, 2, 1] (by decide) rfl⟩
              exact ih355 (g353, (4 : Int32)) _ _ _ (show (6 - (4 : Int32).toInt).toNat < (6 - x354.toInt).toNat by omega) ⟨(show 0 ≤ (4 : Int32).toInt ∧ (4 : Int32).toInt ≤ 6 by decide), ⟨hP9, hD9⟩, hS, lv_sub hl [0, 1, 2, 3] rfl⟩
          · have hj2 : x354 = 4 := tq_of hj (by decide)
            have hl : lv_has ls 4 [(3, .int 4), (2, .int 4), (0, .ref qm), (1, .int 1)] := by have h9 := hl; rw [hj2] at h9; exact h9
            refine lv_aload_n hx hb dX12_plays_41 rfl (lv_at hl 2 rfl) ?_
            refine lv_iload_n hx hb dX12_plays_42 rfl (lv_at hl 1 rfl) ?_
            refine lv_iload_n hx hb dX12_plays_43 rfl (lv_at hl 3 rfl) ?_
            refine lv_iload_n hx hb dX12_plays_44 rfl (lv_at hl 0 rfl) ?_
            refine ct_calli (D := D) (wr := [(qm_lines, .inl (cI, 5, .inl (fm_lines))), (qm_wins, .inl (cI, 24576, .inl (g353)))]) (va_runV (As := [.int 4, .int 1, .int 4]) (rest := []) ⟨hx, hb, hml, hown, hts⟩ (c_X12_isPlay l D G cI cJ cB cZ cO qm 0 qm_width qm_many qm_cells qm_moved qm_tape vm_taped vm_at vm_token vm_place vm_value vm_word vm_bad vm_badPlace vm_fault vm_faultPlace qm_lines qm_has qm_round qm_meets fm_meets qm_stumble qm_isMud qm_cell qm_tune qm_change qm_isKept qm_steps qm_places qm_danced vm_runMost vm_runBegins qm_heardBy vm_fitMany vm_fitFirst vm_fitBeats vm_listenLeaves qm_there vm_metAt vm_metIn qm_wins vm_nightHoles vm_nightFirst vm_nightMud vm_nightSlips vm_drawnNow 4 1 4 h_vm_taped h_vm_at h_vm_value (by decide) (by decide) H.size) (cwV 3 hts gX12_plays_X12_isPlay rfl rfl rfl (by decide +kernel) ⟨Nat.le_of_ble_eq_true rfl, Nat.le_of_ble_eq_true rfl⟩) (ct_preV (T := ct_T cI cJ cB cZ cO) (ci := 12) (q0 := 2) hE hH hP hD hS hA [2, 0] (by decide) rfl rfl rfl) rfl rfl hl.1 rfl (lv_room (Nat.le_of_ble_eq_true rfl)) dX12_plays_45 ⟨Nat.le_of_ble_eq_true rfl, Nat.le_of_ble_eq_true rfl⟩) hP hD hS hA [2, 0] [1, 3] rfl rfl (by decide) (by decide) (fun r393 u H locs hw hP hD hS => ?_)
            obtain ⟨hP, hD⟩ : ct_B D A H [(qm_lines, .inl (cI, 5, .inl (fm_lines))), (qm_wins, .inl (cI, 24576, .inl (g353))), mo qm 0 qm_width qm_many qm_cells qm_moved qm_tape vm_taped vm_at vm_token vm_place vm_value vm_word vm_bad vm_badPlace vm_fault vm_faultPlace qm_lines qm_has qm_round qm_meets qm_stumble qm_isMud qm_cell qm_tune qm_change qm_isKept qm_steps qm_places qm_danced vm_runMost vm_runBegins qm_heardBy vm_fitMany vm_fitFirst vm_fitBeats vm_listenLeaves qm_there vm_metAt vm_metIn qm_wins vm_nightHoles vm_nightFirst vm_nightMud vm_nightSlips vm_drawnNow, (qm_meets, .inl (cI, 30, .inl (fm_meets)))] := ⟨hP, hD⟩
            have hz := hw
            clear hw
            rcases hz with ⟨hz, hz2⟩ | ⟨hz, hz2⟩
            · subst hz
              have hz_394 : (pl (4 : Int32) (4 : Int32)) := hz2
              refine lv_if_eq (tgt := 68) hx hb dX12_plays_48 (by decide) (fun hc => absurd hc (by decide)) (fun _ => ?_)
              refine lv_aload_n hx hb dX12_plays_51 rfl (lv_at hl 2 rfl) ?_
              refine lv_iload_n hx hb dX12_plays_52 rfl (lv_at hl 1 rfl) ?_
              refine lv_iconst (v := 1) hx hb dX12_plays_53 (by decide) ?_
              refine lv_iconst (v := 2) hx hb dX12_plays_54 (by decide) ?_
              refine lv_iload_n hx hb dX12_plays_55 rfl (lv_at hl 0 rfl) ?_
              refine lv_imul hx hb dX12_plays_56 ?_
              refine lv_topi (fun z395 ez395 => ?_)
              obtain rfl : z395 = 8 := ez395.trans (by decide)
              refine lv_ishl hx hb dX12_plays_57 ?_
              refine lv_topi (fun z396 ez396 => ?_)
              obtain rfl : z396 = 256 := ez396.trans (by decide)
              refine lv_iadd hx hb dX12_plays_58 ?_
              refine lv_topi (fun z397 ez397 => ?_)
              obtain rfl : z397 = 260 := ez397.trans (by decide)
              refine lv_iload_n hx hb dX12_plays_59 rfl (lv_at hl 0 rfl) ?_
              refine ct_calli (D := D) (wr := [(qm_lines, .inl (cI, 5, .inl (fm_lines)))]) (va_runV (As := [.int 260, .int 4]) (rest := []) ⟨hx, hb, hml, hown, hts⟩ (c_X12_winsFrom l D G cI cJ cB cZ cO qm 0 qm_width qm_many qm_cells qm_moved qm_tape vm_taped vm_at vm_token vm_place vm_value vm_word vm_bad vm_badPlace vm_fault vm_faultPlace qm_lines qm_has qm_round qm_meets fm_meets qm_stumble qm_isMud qm_cell qm_tune qm_change qm_isKept qm_steps qm_places qm_danced vm_runMost vm_runBegins qm_heardBy vm_fitMany vm_fitFirst vm_fitBeats vm_listenLeaves qm_there vm_metAt vm_metIn qm_wins vm_nightHoles vm_nightFirst vm_nightMud vm_nightSlips vm_drawnNow h_vm_taped h_vm_at h_vm_value 12 g353 260 4 (by decide) (by unfold wn; decide +kernel) H.size) (cwV 2 hts gX12_plays_X12_winsFrom rfl rfl rfl (by decide +kernel) ⟨Nat.le_of_ble_eq_true rfl, Nat.le_of_ble_eq_true rfl⟩) (ct_preV (T := ct_T cI cJ cB cZ cO) (ci := 12) (q0 := 2) hE hH hP hD hS hA [2, 3, 1] (by decide) rfl rfl rfl) rfl rfl hl.1 rfl (lv_room (Nat.le_of_ble_eq_true rfl)) dX12_plays_60 ⟨Nat.le_of_ble_eq_true rfl, Nat.le_of_ble_eq_true rfl⟩) hP hD hS hA [2, 3, 1] [0] rfl rfl (by decide) (by decide) (fun r398 u H locs hw hP hD hS => ?_)
              obtain ⟨g399, rfl⟩ : ∃ z, z = u := ⟨_, rfl⟩
              obtain ⟨hP, hD⟩ : ct_B D A H [(qm_lines, .inl (cI, 5, .inl (fm_lines))), mo qm 0 qm_width qm_many qm_cells qm_moved qm_tape vm_taped vm_at vm_token vm_place vm_value vm_word vm_bad vm_badPlace vm_fault vm_faultPlace qm_lines qm_has qm_round qm_meets qm_stumble qm_isMud qm_cell qm_tune qm_change qm_isKept qm_steps qm_places qm_danced vm_runMost vm_runBegins qm_heardBy vm_fitMany vm_fitFirst vm_fitBeats vm_listenLeaves qm_there vm_metAt vm_metIn qm_wins vm_nightHoles vm_nightFirst vm_nightMud vm_nightSlips vm_drawnNow, (qm_meets, .inl (cI, 30, .inl (fm_meets))), (qm_wins, .inl (cI, 24576, .inl (g399)))] := ⟨hP, hD⟩
              have hz := hw
              clear hw
              rcases hz with ⟨hz, hz2⟩ | ⟨hz, hz2⟩
              · subst hz
                refine lv_if_ne (tgt := 68) hx hb dX12_plays_63 (by decide) (fun _ => ?_) (fun hc => absurd hc (by decide))
                refine lv_iinc (v := 5) (lv' := [(3, .int 5), (2, .int 4), (0, .ref qm), (1, .int 1)]) hx hb dX12_plays_68 hl (k := 0) rfl (by decide) (by decide) rfl (fun ls hl => ?_)
                refine lv_goto (tgt := 35) hx hb dX12_plays_71 (by decide) ?_
                have hk400 : (5 : Int32).toInt = 5 := by decide
                obtain ⟨hP9, hD9⟩ : ct_B D A H [(qm_meets, .inl (cI, 30, .inl (fm_meets))), (qm_lines, .inl (cI, 5, .inl (fm_lines))), mo qm 0 qm_width qm_many qm_cells qm_moved qm_tape vm_taped vm_at vm_token vm_place vm_value vm_word vm_bad vm_badPlace vm_fault vm_faultPlace qm_lines qm_has qm_round qm_meets qm_stumble qm_isMud qm_cell qm_tune qm_change qm_isKept qm_steps qm_places qm_danced vm_runMost vm_runBegins qm_heardBy vm_fitMany vm_fitFirst vm_fitBeats vm_listenLeaves qm_there vm_metAt vm_metIn qm_wins vm_nightHoles vm_nightFirst vm_nightMud vm_nightSlips vm_drawnNow, (qm_wins, .inl (cI, 24576, .inl (g399)))] := ⟨hP.sub [2, 0, 1, 3] rfl, hD.sub [2, 0, 1, 3] (by decide) rfl⟩
                exact ih355 (g399, (5 : Int32)) _ _ _ (show (6 - (5 : Int32).toInt).toNat < (6 - x354.toInt).toNat by omega) ⟨(show 0 ≤ (5 : Int32).toInt ∧ (5 : Int32).toInt ≤ 6 by decide), ⟨hP9, hD9⟩, hS, lv_sub hl [0, 1, 2, 3] rfl⟩
              · subst hz
                refine lv_if_ne (tgt := 68) hx hb dX12_plays_63 (by decide) (fun hc => absurd hc (by decide)) (fun _ => ?_)
                refine lv_iload_n hx hb dX12_plays_66 rfl (lv_at hl 0 rfl) ?_
                obtain ⟨hP9, hD9⟩ : ct_B D A H [mo qm 0 qm_width qm_many qm_cells qm_moved qm_tape vm_taped vm_at vm_token vm_place vm_value vm_word vm_bad vm_badPlace vm_fault vm_faultPlace qm_lines qm_has qm_round qm_meets qm_stumble qm_isMud qm_cell qm_tune qm_change qm_isKept qm_steps qm_places qm_danced vm_runMost vm_runBegins qm_heardBy vm_fitMany vm_fitFirst vm_fitBeats vm_listenLeaves qm_there vm_metAt vm_metIn qm_wins vm_nightHoles vm_nightFirst vm_nightMud vm_nightSlips vm_drawnNow, (qm_lines, .inl (cI, 5, .inl (fm_lines))), (qm_meets, .inl (cI, 30, .inl (fm_meets))), (qm_wins, .inl (cI, 24576, .inl (g399)))] := ⟨hP.sub [1, 0, 2, 3] rfl, hD.sub [1, 0, 2, 3] (by decide) rfl⟩
                exact W.iret (v := 4) hx hb hr (fun t ht hW => ⟨⟨4, ((0 : Int32), g399), rfl, (show (-2) ≤ (4 : Int32).toInt ∧ (4 : Int32).toInt ≤ 5 by decide), by rw [ht]; exact hP9, hD9⟩, hS.F ht⟩) hS.2.2 dX12_plays_67
            · subst hz
              refine lv_if_eq (tgt := 68) hx hb dX12_plays_48 (by decide) (fun _ => ?_) (fun hc => absurd hc (by decide))
              refine lv_iinc (v := 5) (lv' := [(3, .int 5), (2, .int 4), (0, .ref qm), (1, .int 1)]) hx hb dX12_plays_68 hl (k := 0) rfl (by decide) (by decide) rfl (fun ls hl => ?_)
              refine lv_goto (tgt := 35) hx hb dX12_plays_71 (by decide) ?_
              have hk401 : (5 : Int32).toInt = 5 := by decide
              obtain ⟨hP9, hD9⟩ : ct_B D A H [(qm_meets, .inl (cI, 30, .inl (fm_meets))), (qm_lines, .inl (cI, 5, .inl (fm_lines))), mo qm 0 qm_width qm_many qm_cells qm_moved qm_tape vm_taped vm_at vm_token vm_place vm_value vm_word vm_bad vm_badPlace vm_fault vm_faultPlace qm_lines qm_has qm_round qm_meets qm_stumble qm_isMud qm_cell qm_tune qm_change qm_isKept qm_steps qm_places qm_danced vm_runMost vm_runBegins qm_heardBy vm_fitMany vm_fitFirst vm_fitBeats vm_listenLeaves qm_there vm_metAt vm_metIn qm_wins vm_nightHoles vm_nightFirst vm_nightMud vm_nightSlips vm_drawnNow, (qm_wins, .inl (cI, 24576, .inl (g353)))] := ⟨hP.sub [3, 0, 2, 1] rfl, hD.sub [3, 0, 2, 1] (by decide) rfl⟩
              exact ih355 (g353, (5 : Int32)) _ _ _ (show (6 - (5 : Int32).toInt).toNat < (6 - x354.toInt).toNat by omega) ⟨(show 0 ≤ (5 : Int32).toInt ∧ (5 : Int32).toInt ≤ 6 by decide), ⟨hP9, hD9⟩, hS, lv_sub hl [0, 1, 2, 3] rfl⟩
          · have hj2 : x354 = 5 := tq_of hj (by decide)
            have hl : lv_has ls 4 [(3, .int 5), (2, .int 4), (0, .ref qm), (1, .int 1)] := by have h9 := hl; rw [hj2] at h9; exact h9
            refine lv_aload_n hx hb dX12_plays_41 rfl (lv_at hl 2 rfl) ?_
            refine lv_iload_n hx hb dX12_plays_42 rfl (lv_at hl 1 rfl) ?_
            refine lv_iload_n hx hb dX12_plays_43 rfl (lv_at hl 3 rfl) ?_
            refine lv_iload_n hx hb dX12_plays_44 rfl (lv_at hl 0 rfl) ?_
            refine ct_calli (D := D) (wr := [(qm_lines, .inl (cI, 5, .inl (fm_lines))), (qm_wins, .inl (cI, 24576, .inl (g353)))]) (va_runV (As := [.int 4, .int 1, .int 5]) (rest := []) ⟨hx, hb, hml, hown, hts⟩ (c_X12_isPlay l D G cI cJ cB cZ cO qm 0 qm_width qm_many qm_cells qm_moved qm_tape vm_taped vm_at vm_token vm_place vm_value vm_word vm_bad vm_badPlace vm_fault vm_faultPlace qm_lines qm_has qm_round qm_meets fm_meets qm_stumble qm_isMud qm_cell qm_tune qm_change qm_isKept qm_steps qm_places qm_danced vm_runMost vm_runBegins qm_heardBy vm_fitMany vm_fitFirst vm_fitBeats vm_listenLeaves qm_there vm_metAt vm_metIn qm_wins vm_nightHoles vm_nightFirst vm_nightMud vm_nightSlips vm_drawnNow 4 1 5 h_vm_taped h_vm_at h_vm_value (by decide) (by decide) H.size) (cwV 3 hts gX12_plays_X12_isPlay rfl rfl rfl (by decide +kernel) ⟨Nat.le_of_ble_eq_true rfl, Nat.le_of_ble_eq_true rfl⟩) (ct_preV (T := ct_T cI cJ cB cZ cO) (ci := 12) (q0 := 2) hE hH hP hD hS hA [2, 0] (by decide) rfl rfl rfl) rfl rfl hl.1 rfl (lv_room (Nat.le_of_ble_eq_true rfl)) dX12_plays_45 ⟨Nat.le_of_ble_eq_true rfl, Nat.le_of_ble_eq_true rfl⟩) hP hD hS hA [2, 0] [1, 3] rfl rfl (by decide) (by decide) (fun r402 u H locs hw hP hD hS => ?_)
            obtain ⟨hP, hD⟩ : ct_B D A H [(qm_lines, .inl (cI, 5, .inl (fm_lines))), (qm_wins, .inl (cI, 24576, .inl (g353))), mo qm 0 qm_width qm_many qm_cells qm_moved qm_tape vm_taped vm_at vm_token vm_place vm_value vm_word vm_bad vm_badPlace vm_fault vm_faultPlace qm_lines qm_has qm_round qm_meets qm_stumble qm_isMud qm_cell qm_tune qm_change qm_isKept qm_steps qm_places qm_danced vm_runMost vm_runBegins qm_heardBy vm_fitMany vm_fitFirst vm_fitBeats vm_listenLeaves qm_there vm_metAt vm_metIn qm_wins vm_nightHoles vm_nightFirst vm_nightMud vm_nightSlips vm_drawnNow, (qm_meets, .inl (cI, 30, .inl (fm_meets)))] := ⟨hP, hD⟩
            have hz := hw
            clear hw
            rcases hz with ⟨hz, hz2⟩ | ⟨hz, hz2⟩
            · subst hz
              have hz_403 : (pl (4 : Int32) (5 : Int32)) := hz2
              refine lv_if_eq (tgt := 68) hx hb dX12_plays_48 (by decide) (fun hc => absurd hc (by decide)) (fun _ => ?_)
              refine lv_aload_n hx hb dX12_plays_51 rfl (lv_at hl 2 rfl) ?_
              refine lv_iload_n hx hb dX12_plays_52 rfl (lv_at hl 1 rfl) ?_
              refine lv_iconst (v := 1) hx hb dX12_plays_53 (by decide) ?_
              refine lv_iconst (v := 2) hx hb dX12_plays_54 (by decide) ?_
              refine lv_iload_n hx hb dX12_plays_55 rfl (lv_at hl 0 rfl) ?_
              refine lv_imul hx hb dX12_plays_56 ?_
              refine lv_topi (fun z404 ez404 => ?_)
              obtain rfl : z404 = 10 := ez404.trans (by decide)
              refine lv_ishl hx hb dX12_plays_57 ?_
              refine lv_topi (fun z405 ez405 => ?_)
              obtain rfl : z405 = 1024 := ez405.trans (by decide)
              refine lv_iadd hx hb dX12_plays_58 ?_
              refine lv_topi (fun z406 ez406 => ?_)
              obtain rfl : z406 = 1028 := ez406.trans (by decide)
              refine lv_iload_n hx hb dX12_plays_59 rfl (lv_at hl 0 rfl) ?_
              refine ct_calli (D := D) (wr := [(qm_lines, .inl (cI, 5, .inl (fm_lines)))]) (va_runV (As := [.int 1028, .int 5]) (rest := []) ⟨hx, hb, hml, hown, hts⟩ (c_X12_winsFrom l D G cI cJ cB cZ cO qm 0 qm_width qm_many qm_cells qm_moved qm_tape vm_taped vm_at vm_token vm_place vm_value vm_word vm_bad vm_badPlace vm_fault vm_faultPlace qm_lines qm_has qm_round qm_meets fm_meets qm_stumble qm_isMud qm_cell qm_tune qm_change qm_isKept qm_steps qm_places qm_danced vm_runMost vm_runBegins qm_heardBy vm_fitMany vm_fitFirst vm_fitBeats vm_listenLeaves qm_there vm_metAt vm_metIn qm_wins vm_nightHoles vm_nightFirst vm_nightMud vm_nightSlips vm_drawnNow h_vm_taped h_vm_at h_vm_value 12 g353 1028 5 (by decide) (by unfold wn; decide +kernel) H.size) (cwV 2 hts gX12_plays_X12_winsFrom rfl rfl rfl (by decide +kernel) ⟨Nat.le_of_ble_eq_true rfl, Nat.le_of_ble_eq_true rfl⟩) (ct_preV (T := ct_T cI cJ cB cZ cO) (ci := 12) (q0 := 2) hE hH hP hD hS hA [2, 3, 1] (by decide) rfl rfl rfl) rfl rfl hl.1 rfl (lv_room (Nat.le_of_ble_eq_true rfl)) dX12_plays_60 ⟨Nat.le_of_ble_eq_true rfl, Nat.le_of_ble_eq_true rfl⟩) hP hD hS hA [2, 3, 1] [0] rfl rfl (by decide) (by decide) (fun r407 u H locs hw hP hD hS => ?_)
              obtain ⟨g408, rfl⟩ : ∃ z, z = u := ⟨_, rfl⟩
              obtain ⟨hP, hD⟩ : ct_B D A H [(qm_lines, .inl (cI, 5, .inl (fm_lines))), mo qm 0 qm_width qm_many qm_cells qm_moved qm_tape vm_taped vm_at vm_token vm_place vm_value vm_word vm_bad vm_badPlace vm_fault vm_faultPlace qm_lines qm_has qm_round qm_meets qm_stumble qm_isMud qm_cell qm_tune qm_change qm_isKept qm_steps qm_places qm_danced vm_runMost vm_runBegins qm_heardBy vm_fitMany vm_fitFirst vm_fitBeats vm_listenLeaves qm_there vm_metAt vm_metIn qm_wins vm_nightHoles vm_nightFirst vm_nightMud vm_nightSlips vm_drawnNow, (qm_meets, .inl (cI, 30, .inl (fm_meets))), (qm_wins, .inl (cI, 24576, .inl (g408)))] := ⟨hP, hD⟩
              have hz := hw
              clear hw
              rcases hz with ⟨hz, hz2⟩ | ⟨hz, hz2⟩
              · subst hz
                refine lv_if_ne (tgt := 68) hx hb dX12_plays_63 (by decide) (fun _ => ?_) (fun hc => absurd hc (by decide))
                refine lv_iinc (v := 6) (lv' := [(3, .int 6), (2, .int 4), (0, .ref qm), (1, .int 1)]) hx hb dX12_plays_68 hl (k := 0) rfl (by decide) (by decide) rfl (fun ls hl => ?_)
                refine lv_goto (tgt := 35) hx hb dX12_plays_71 (by decide) ?_
                have hk409 : (6 : Int32).toInt = 6 := by decide
                obtain ⟨hP9, hD9⟩ : ct_B D A H [(qm_meets, .inl (cI, 30, .inl (fm_meets))), (qm_lines, .inl (cI, 5, .inl (fm_lines))), mo qm 0 qm_width qm_many qm_cells qm_moved qm_tape vm_taped vm_at vm_token vm_place vm_value vm_word vm_bad vm_badPlace vm_fault vm_faultPlace qm_lines qm_has qm_round qm_meets qm_stumble qm_isMud qm_cell qm_tune qm_change qm_isKept qm_steps qm_places qm_danced vm_runMost vm_runBegins qm_heardBy vm_fitMany vm_fitFirst vm_fitBeats vm_listenLeaves qm_there vm_metAt vm_metIn qm_wins vm_nightHoles vm_nightFirst vm_nightMud vm_nightSlips vm_drawnNow, (qm_wins, .inl (cI, 24576, .inl (g408)))] := ⟨hP.sub [2, 0, 1, 3] rfl, hD.sub [2, 0, 1, 3] (by decide) rfl⟩
                exact ih355 (g408, (6 : Int32)) _ _ _ (show (6 - (6 : Int32).toInt).toNat < (6 - x354.toInt).toNat by omega) ⟨(show 0 ≤ (6 : Int32).toInt ∧ (6 : Int32).toInt ≤ 6 by decide), ⟨hP9, hD9⟩, hS, lv_sub hl [0, 1, 2, 3] rfl⟩
              · subst hz
                refine lv_if_ne (tgt := 68) hx hb dX12_plays_63 (by decide) (fun hc => absurd hc (by decide)) (fun _ => ?_)
                refine lv_iload_n hx hb dX12_plays_66 rfl (lv_at hl 0 rfl) ?_
                obtain ⟨hP9, hD9⟩ : ct_B D A H [mo qm 0 qm_width qm_many qm_cells qm_moved qm_tape vm_taped vm_at vm_token vm_place vm_value vm_word vm_bad vm_badPlace vm_fault vm_faultPlace qm_lines qm_has qm_round qm_meets qm_stumble qm_isMud qm_cell qm_tune qm_change qm_isKept qm_steps qm_places qm_danced vm_runMost vm_runBegins qm_heardBy vm_fitMany vm_fitFirst vm_fitBeats vm_listenLeaves qm_there vm_metAt vm_metIn qm_wins vm_nightHoles vm_nightFirst vm_nightMud vm_nightSlips vm_drawnNow, (qm_lines, .inl (cI, 5, .inl (fm_lines))), (qm_meets, .inl (cI, 30, .inl (fm_meets))), (qm_wins, .inl (cI, 24576, .inl (g408)))] := ⟨hP.sub [1, 0, 2, 3] rfl, hD.sub [1, 0, 2, 3] (by decide) rfl⟩
                exact W.iret (v := 5) hx hb hr (fun t ht hW => ⟨⟨5, ((0 : Int32), g408), rfl, (show (-2) ≤ (5 : Int32).toInt ∧ (5 : Int32).toInt ≤ 5 by decide), by rw [ht]; exact hP9, hD9⟩, hS.F ht⟩) hS.2.2 dX12_plays_67
            · subst hz
              refine lv_if_eq (tgt := 68) hx hb dX12_plays_48 (by decide) (fun _ => ?_) (fun hc => absurd hc (by decide))
              refine lv_iinc (v := 6) (lv' := [(3, .int 6), (2, .int 4), (0, .ref qm), (1, .int 1)]) hx hb dX12_plays_68 hl (k := 0) rfl (by decide) (by decide) rfl (fun ls hl => ?_)
              refine lv_goto (tgt := 35) hx hb dX12_plays_71 (by decide) ?_
              have hk410 : (6 : Int32).toInt = 6 := by decide
              obtain ⟨hP9, hD9⟩ : ct_B D A H [(qm_meets, .inl (cI, 30, .inl (fm_meets))), (qm_lines, .inl (cI, 5, .inl (fm_lines))), mo qm 0 qm_width qm_many qm_cells qm_moved qm_tape vm_taped vm_at vm_token vm_place vm_value vm_word vm_bad vm_badPlace vm_fault vm_faultPlace qm_lines qm_has qm_round qm_meets qm_stumble qm_isMud qm_cell qm_tune qm_change qm_isKept qm_steps qm_places qm_danced vm_runMost vm_runBegins qm_heardBy vm_fitMany vm_fitFirst vm_fitBeats vm_listenLeaves qm_there vm_metAt vm_metIn qm_wins vm_nightHoles vm_nightFirst vm_nightMud vm_nightSlips vm_drawnNow, (qm_wins, .inl (cI, 24576, .inl (g353)))] := ⟨hP.sub [3, 0, 2, 1] rfl, hD.sub [3, 0, 2, 1] (by decide) rfl⟩
              exact ih355 (g353, (6 : Int32)) _ _ _ (show (6 - (6 : Int32).toInt).toNat < (6 - x354.toInt).toNat by omega) ⟨(show 0 ≤ (6 : Int32).toInt ∧ (6 : Int32).toInt ≤ 6 by decide), ⟨hP9, hD9⟩, hS, lv_sub hl [0, 1, 2, 3] rfl⟩
      · have hj2 : a1 = 2 := tq_of hj (by decide)
        have hl : lv_has ls 4 [(0, .ref qm), (1, .int 2)] := by have h9 := hl; rw [hj2] at h9; exact h9
        refine lv_iconst (v := 1) hx hb dX12_plays_27 (by decide) ?_
        refine lv_iconst (v := 2) hx hb dX12_plays_28 (by decide) ?_
        refine lv_iload_n hx hb dX12_plays_29 rfl (lv_at hl 1 rfl) ?_
        refine lv_imul hx hb dX12_plays_30 ?_
        refine lv_topi (fun z411 ez411 => ?_)
        obtain rfl : z411 = 4 := ez411.trans (by decide)
        refine lv_ishl hx hb dX12_plays_31 ?_
        refine lv_topi (fun z412 ez412 => ?_)
        obtain rfl : z412 = 16 := ez412.trans (by decide)
        refine lv_istore_n (lv' := [(2, .int 16), (0, .ref qm), (1, .int 2)]) hx hb dX12_plays_32 rfl hl (by decide) rfl (fun ls hl => ?_)
        refine lv_iconst (v := 0) hx hb dX12_plays_33 (by decide) ?_
        refine lv_istore_n (lv' := [(3, .int 0), (2, .int 16), (0, .ref qm), (1, .int 2)]) hx hb dX12_plays_34 rfl hl (by decide) rfl (fun ls hl => ?_)
        refine ct_loop (X := (Nat → Int32) × Int32) (fun x => (6 - x.2.toInt).toNat) (fun x H locs ls => ((0 ≤ x.2.toInt ∧ x.2.toInt ≤ 6)) ∧ ct_B D A H [(qm_meets, .inl (cI, 30, .inl (fm_meets))), (qm_lines, .inl (cI, 5, .inl (fm_lines))), mo qm 0 qm_width qm_many qm_cells qm_moved qm_tape vm_taped vm_at vm_token vm_place vm_value vm_word vm_bad vm_badPlace vm_fault vm_faultPlace qm_lines qm_has qm_round qm_meets qm_stumble qm_isMud qm_cell qm_tune qm_change qm_isKept qm_steps qm_places qm_danced vm_runMost vm_runBegins qm_heardBy vm_fitMany vm_fitFirst vm_fitBeats vm_listenLeaves qm_there vm_metAt vm_metIn qm_wins vm_nightHoles vm_nightFirst vm_nightMud vm_nightSlips vm_drawnNow, (qm_wins, .inl (cI, 24576, .inl (x.1)))] ∧ va_S A s.heap H locs ∧ lv_has ls 4 [(3, .int x.2), (2, .int 16), (0, .ref qm), (1, .int 2)]) 35 (g6, (0 : Int32)) ⟨(show 0 ≤ (0 : Int32).toInt ∧ (0 : Int32).toInt ≤ 6 by decide), ⟨hP, hD⟩, hS, lv_sub hl [0, 1, 2, 3] rfl⟩ (fun x ih557 H locs ls hI => ?_)
        obtain ⟨g555, x556⟩ := x
        obtain ⟨h_x556, ⟨hP, hD⟩, hS, hl⟩ := hI
        change (0 ≤ x556.toInt ∧ x556.toInt ≤ 6) at h_x556
        obtain ⟨hP, hD⟩ : ct_B D A H [(qm_meets, .inl (cI, 30, .inl (fm_meets))), (qm_lines, .inl (cI, 5, .inl (fm_lines))), mo qm 0 qm_width qm_many qm_cells qm_moved qm_tape vm_taped vm_at vm_token vm_place vm_value vm_word vm_bad vm_badPlace vm_fault vm_faultPlace qm_lines qm_has qm_round qm_meets qm_stumble qm_isMud qm_cell qm_tune qm_change qm_isKept qm_steps qm_places qm_danced vm_runMost vm_runBegins qm_heardBy vm_fitMany vm_fitFirst vm_fitBeats vm_listenLeaves qm_there vm_metAt vm_metIn qm_wins vm_nightHoles vm_nightFirst vm_nightMud vm_nightSlips vm_drawnNow, (qm_wins, .inl (cI, 24576, .inl (g555)))] := ⟨hP, hD⟩
        have hl : lv_has ls 4 [(3, .int x556), (2, .int 16), (0, .ref qm), (1, .int 2)] := hl
        refine lv_iload_n hx hb dX12_plays_35 rfl (lv_at hl 0 rfl) ?_
        refine lv_bipush (v := 6) hx hb dX12_plays_36 (by decide) ?_
        refine lv_icmp_ge (tgt := 74) hx hb dX12_plays_38 (by decide) (fun hc => ?_) (fun hc => ?_)
        · have hq558 : 6 ≤ x556.toInt := tq_le (by decide) rfl hc
          refine lv_iconst (v := (-1)) hx hb dX12_plays_74 (by decide) ?_
          obtain ⟨hP9, hD9⟩ : ct_B D A H [mo qm 0 qm_width qm_many qm_cells qm_moved qm_tape vm_taped vm_at vm_token vm_place vm_value vm_word vm_bad vm_badPlace vm_fault vm_faultPlace qm_lines qm_has qm_round qm_meets qm_stumble qm_isMud qm_cell qm_tune qm_change qm_isKept qm_steps qm_places qm_danced vm_runMost vm_runBegins qm_heardBy vm_fitMany vm_fitFirst vm_fitBeats vm_listenLeaves qm_there vm_metAt vm_metIn qm_wins vm_nightHoles vm_nightFirst vm_nightMud vm_nightSlips vm_drawnNow, (qm_lines, .inl (cI, 5, .inl (fm_lines))), (qm_meets, .inl (cI, 30, .inl (fm_meets))), (qm_wins, .inl (cI, 24576, .inl (g555)))] := ⟨hP.sub [2, 1, 0, 3] rfl, hD.sub [2, 1, 0, 3] (by decide) rfl⟩
          exact W.iret (v := (-1)) hx hb hr (fun t ht hW => ⟨⟨(-1), ((0 : Int32), g555), rfl, (show (-2) ≤ (-1 : Int32).toInt ∧ (-1 : Int32).toInt ≤ 5 by decide), by rw [ht]; exact hP9, hD9⟩, hS.F ht⟩) hS.2.2 dX12_plays_75
        · have hq558 : x556.toInt < 6 := tq_nle (by decide) rfl hc
          rcases (show x556.toInt = 0 ∨ x556.toInt = 1 ∨ x556.toInt = 2 ∨ x556.toInt = 3 ∨ x556.toInt = 4 ∨ x556.toInt = 5 by omega) with hj | hj | hj | hj | hj | hj
          · have hj2 : x556 = 0 := tq_of hj (by decide)
            have hl : lv_has ls 4 [(3, .int 0), (2, .int 16), (0, .ref qm), (1, .int 2)] := by have h9 := hl; rw [hj2] at h9; exact h9
            refine lv_aload_n hx hb dX12_plays_41 rfl (lv_at hl 2 rfl) ?_
            refine lv_iload_n hx hb dX12_plays_42 rfl (lv_at hl 1 rfl) ?_
            refine lv_iload_n hx hb dX12_plays_43 rfl (lv_at hl 3 rfl) ?_
            refine lv_iload_n hx hb dX12_plays_44 rfl (lv_at hl 0 rfl) ?_
            refine ct_calli (D := D) (wr := [(qm_lines, .inl (cI, 5, .inl (fm_lines))), (qm_wins, .inl (cI, 24576, .inl (g555)))]) (va_runV (As := [.int 16, .int 2, .int 0]) (rest := []) ⟨hx, hb, hml, hown, hts⟩ (c_X12_isPlay l D G cI cJ cB cZ cO qm 0 qm_width qm_many qm_cells qm_moved qm_tape vm_taped vm_at vm_token vm_place vm_value vm_word vm_bad vm_badPlace vm_fault vm_faultPlace qm_lines qm_has qm_round qm_meets fm_meets qm_stumble qm_isMud qm_cell qm_tune qm_change qm_isKept qm_steps qm_places qm_danced vm_runMost vm_runBegins qm_heardBy vm_fitMany vm_fitFirst vm_fitBeats vm_listenLeaves qm_there vm_metAt vm_metIn qm_wins vm_nightHoles vm_nightFirst vm_nightMud vm_nightSlips vm_drawnNow 16 2 0 h_vm_taped h_vm_at h_vm_value (by decide) (by decide) H.size) (cwV 3 hts gX12_plays_X12_isPlay rfl rfl rfl (by decide +kernel) ⟨Nat.le_of_ble_eq_true rfl, Nat.le_of_ble_eq_true rfl⟩) (ct_preV (T := ct_T cI cJ cB cZ cO) (ci := 12) (q0 := 2) hE hH hP hD hS hA [2, 0] (by decide) rfl rfl rfl) rfl rfl hl.1 rfl (lv_room (Nat.le_of_ble_eq_true rfl)) dX12_plays_45 ⟨Nat.le_of_ble_eq_true rfl, Nat.le_of_ble_eq_true rfl⟩) hP hD hS hA [2, 0] [1, 3] rfl rfl (by decide) (by decide) (fun r559 u H locs hw hP hD hS => ?_)
            obtain ⟨hP, hD⟩ : ct_B D A H [(qm_lines, .inl (cI, 5, .inl (fm_lines))), (qm_wins, .inl (cI, 24576, .inl (g555))), mo qm 0 qm_width qm_many qm_cells qm_moved qm_tape vm_taped vm_at vm_token vm_place vm_value vm_word vm_bad vm_badPlace vm_fault vm_faultPlace qm_lines qm_has qm_round qm_meets qm_stumble qm_isMud qm_cell qm_tune qm_change qm_isKept qm_steps qm_places qm_danced vm_runMost vm_runBegins qm_heardBy vm_fitMany vm_fitFirst vm_fitBeats vm_listenLeaves qm_there vm_metAt vm_metIn qm_wins vm_nightHoles vm_nightFirst vm_nightMud vm_nightSlips vm_drawnNow, (qm_meets, .inl (cI, 30, .inl (fm_meets)))] := ⟨hP, hD⟩
            have hz := hw
            clear hw
            rcases hz with ⟨hz, hz2⟩ | ⟨hz, hz2⟩
            · subst hz
              have hz_560 : (pl (16 : Int32) (0 : Int32)) := hz2
              refine lv_if_eq (tgt := 68) hx hb dX12_plays_48 (by decide) (fun hc => absurd hc (by decide)) (fun _ => ?_)
              refine lv_aload_n hx hb dX12_plays_51 rfl (lv_at hl 2 rfl) ?_
              refine lv_iload_n hx hb dX12_plays_52 rfl (lv_at hl 1 rfl) ?_
              refine lv_iconst (v := 1) hx hb dX12_plays_53 (by decide) ?_
              refine lv_iconst (v := 2) hx hb dX12_plays_54 (by decide) ?_
              refine lv_iload_n hx hb dX12_plays_55 rfl (lv_at hl 0 rfl) ?_
              refine lv_imul hx hb dX12_plays_56 ?_
              refine lv_topi (fun z561 ez561 => ?_)
              obtain rfl : z561 = 0 := ez561.trans (by decide)
              refine lv_ishl hx hb dX12_plays_57 ?_
              refine lv_topi (fun z562 ez562 => ?_)
              obtain rfl : z562 = 1 := ez562.trans (by decide)
              refine lv_iadd hx hb dX12_plays_58 ?_
              refine lv_topi (fun z563 ez563 => ?_)
              obtain rfl : z563 = 17 := ez563.trans (by decide)
              refine lv_iload_n hx hb dX12_plays_59 rfl (lv_at hl 0 rfl) ?_
              refine ct_calli (D := D) (wr := [(qm_lines, .inl (cI, 5, .inl (fm_lines)))]) (va_runV (As := [.int 17, .int 0]) (rest := []) ⟨hx, hb, hml, hown, hts⟩ (c_X12_winsFrom l D G cI cJ cB cZ cO qm 0 qm_width qm_many qm_cells qm_moved qm_tape vm_taped vm_at vm_token vm_place vm_value vm_word vm_bad vm_badPlace vm_fault vm_faultPlace qm_lines qm_has qm_round qm_meets fm_meets qm_stumble qm_isMud qm_cell qm_tune qm_change qm_isKept qm_steps qm_places qm_danced vm_runMost vm_runBegins qm_heardBy vm_fitMany vm_fitFirst vm_fitBeats vm_listenLeaves qm_there vm_metAt vm_metIn qm_wins vm_nightHoles vm_nightFirst vm_nightMud vm_nightSlips vm_drawnNow h_vm_taped h_vm_at h_vm_value 12 g555 17 0 (by decide) (by unfold wn; decide +kernel) H.size) (cwV 2 hts gX12_plays_X12_winsFrom rfl rfl rfl (by decide +kernel) ⟨Nat.le_of_ble_eq_true rfl, Nat.le_of_ble_eq_true rfl⟩) (ct_preV (T := ct_T cI cJ cB cZ cO) (ci := 12) (q0 := 2) hE hH hP hD hS hA [2, 3, 1] (by decide) rfl rfl rfl) rfl rfl hl.1 rfl (lv_room (Nat.le_of_ble_eq_true rfl)) dX12_plays_60 ⟨Nat.le_of_ble_eq_true rfl, Nat.le_of_ble_eq_true rfl⟩) hP hD hS hA [2, 3, 1] [0] rfl rfl (by decide) (by decide) (fun r564 u H locs hw hP hD hS => ?_)
              obtain ⟨g565, rfl⟩ : ∃ z, z = u := ⟨_, rfl⟩
              obtain ⟨hP, hD⟩ : ct_B D A H [(qm_lines, .inl (cI, 5, .inl (fm_lines))), mo qm 0 qm_width qm_many qm_cells qm_moved qm_tape vm_taped vm_at vm_token vm_place vm_value vm_word vm_bad vm_badPlace vm_fault vm_faultPlace qm_lines qm_has qm_round qm_meets qm_stumble qm_isMud qm_cell qm_tune qm_change qm_isKept qm_steps qm_places qm_danced vm_runMost vm_runBegins qm_heardBy vm_fitMany vm_fitFirst vm_fitBeats vm_listenLeaves qm_there vm_metAt vm_metIn qm_wins vm_nightHoles vm_nightFirst vm_nightMud vm_nightSlips vm_drawnNow, (qm_meets, .inl (cI, 30, .inl (fm_meets))), (qm_wins, .inl (cI, 24576, .inl (g565)))] := ⟨hP, hD⟩
              have hz := hw
              clear hw
              rcases hz with ⟨hz, hz2⟩ | ⟨hz, hz2⟩
              · subst hz
                refine lv_if_ne (tgt := 68) hx hb dX12_plays_63 (by decide) (fun _ => ?_) (fun hc => absurd hc (by decide))
                refine lv_iinc (v := 1) (lv' := [(3, .int 1), (2, .int 16), (0, .ref qm), (1, .int 2)]) hx hb dX12_plays_68 hl (k := 0) rfl (by decide) (by decide) rfl (fun ls hl => ?_)
                refine lv_goto (tgt := 35) hx hb dX12_plays_71 (by decide) ?_
                have hk566 : (1 : Int32).toInt = 1 := by decide
                obtain ⟨hP9, hD9⟩ : ct_B D A H [(qm_meets, .inl (cI, 30, .inl (fm_meets))), (qm_lines, .inl (cI, 5, .inl (fm_lines))), mo qm 0 qm_width qm_many qm_cells qm_moved qm_tape vm_taped vm_at vm_token vm_place vm_value vm_word vm_bad vm_badPlace vm_fault vm_faultPlace qm_lines qm_has qm_round qm_meets qm_stumble qm_isMud qm_cell qm_tune qm_change qm_isKept qm_steps qm_places qm_danced vm_runMost vm_runBegins qm_heardBy vm_fitMany vm_fitFirst vm_fitBeats vm_listenLeaves qm_there vm_metAt vm_metIn qm_wins vm_nightHoles vm_nightFirst vm_nightMud vm_nightSlips vm_drawnNow, (qm_wins, .inl (cI, 24576, .inl (g565)))] := ⟨hP.sub [2, 0, 1, 3] rfl, hD.sub [2, 0, 1, 3] (by decide) rfl⟩
                exact ih557 (g565, (1 : Int32)) _ _ _ (show (6 - (1 : Int32).toInt).toNat < (6 - x556.toInt).toNat by omega) ⟨(show 0 ≤ (1 : Int32).toInt ∧ (1 : Int32).toInt ≤ 6 by decide), ⟨hP9, hD9⟩, hS, lv_sub hl [0, 1, 2, 3] rfl⟩
              · subst hz
                refine lv_if_ne (tgt := 68) hx hb dX12_plays_63 (by decide) (fun hc => absurd hc (by decide)) (fun _ => ?_)
                refine lv_iload_n hx hb dX12_plays_66 rfl (lv_at hl 0 rfl) ?_
                obtain ⟨hP9, hD9⟩ : ct_B D A H [mo qm 0 qm_width qm_many qm_cells qm_moved qm_tape vm_taped vm_at vm_token vm_place vm_value vm_word vm_bad vm_badPlace vm_fault vm_faultPlace qm_lines qm_has qm_round qm_meets qm_stumble qm_isMud qm_cell qm_tune qm_change qm_isKept qm_steps qm_places qm_danced vm_runMost vm_runBegins qm_heardBy vm_fitMany vm_fitFirst vm_fitBeats vm_listenLeaves qm_there vm_metAt vm_metIn qm_wins vm_nightHoles vm_nightFirst vm_nightMud vm_nightSlips vm_drawnNow, (qm_lines, .inl (cI, 5, .inl (fm_lines))), (qm_meets, .inl (cI, 30, .inl (fm_meets))), (qm_wins, .inl (cI, 24576, .inl (g565)))] := ⟨hP.sub [1, 0, 2, 3] rfl, hD.sub [1, 0, 2, 3] (by decide) rfl⟩
                exact W.iret (v := 0) hx hb hr (fun t ht hW => ⟨⟨0, ((0 : Int32), g565), rfl, (show (-2) ≤ (0 : Int32).toInt ∧ (0 : Int32).toInt ≤ 5 by decide), by rw [ht]; exact hP9, hD9⟩, hS.F ht⟩) hS.2.2 dX12_plays_67
            · subst hz
              refine lv_if_eq (tgt := 68) hx hb dX12_plays_48 (by decide) (fun _ => ?_) (fun hc => absurd hc (by decide))
              refine lv_iinc (v := 1) (lv' := [(3, .int 1), (2, .int 16), (0, .ref qm), (1, .int 2)]) hx hb dX12_plays_68 hl (k := 0) rfl (by decide) (by decide) rfl (fun ls hl => ?_)
              refine lv_goto (tgt := 35) hx hb dX12_plays_71 (by decide) ?_
              have hk567 : (1 : Int32).toInt = 1 := by decide
              obtain ⟨hP9, hD9⟩ : ct_B D A H [(qm_meets, .inl (cI, 30, .inl (fm_meets))), (qm_lines, .inl (cI, 5, .inl (fm_lines))), mo qm 0 qm_width qm_many qm_cells qm_moved qm_tape vm_taped vm_at vm_token vm_place vm_value vm_word vm_bad vm_badPlace vm_fault vm_faultPlace qm_lines qm_has qm_round qm_meets qm_stumble qm_isMud qm_cell qm_tune qm_change qm_isKept qm_steps qm_places qm_danced vm_runMost vm_runBegins qm_heardBy vm_fitMany vm_fitFirst vm_fitBeats vm_listenLeaves qm_there vm_metAt vm_metIn qm_wins vm_nightHoles vm_nightFirst vm_nightMud vm_nightSlips vm_drawnNow, (qm_wins, .inl (cI, 24576, .inl (g555)))] := ⟨hP.sub [3, 0, 2, 1] rfl, hD.sub [3, 0, 2, 1] (by decide) rfl⟩
              exact ih557 (g555, (1 : Int32)) _ _ _ (show (6 - (1 : Int32).toInt).toNat < (6 - x556.toInt).toNat by omega) ⟨(show 0 ≤ (1 : Int32).toInt ∧ (1 : Int32).toInt ≤ 6 by decide), ⟨hP9, hD9⟩, hS, lv_sub hl [0, 1, 2, 3] rfl⟩
          · have hj2 : x556 = 1 := tq_of hj (by decide)
            have hl : lv_has ls 4 [(3, .int 1), (2, .int 16), (0, .ref qm), (1, .int 2)] := by have h9 := hl; rw [hj2] at h9; exact h9
            refine lv_aload_n hx hb dX12_plays_41 rfl (lv_at hl 2 rfl) ?_
            refine lv_iload_n hx hb dX12_plays_42 rfl (lv_at hl 1 rfl) ?_
            refine lv_iload_n hx hb dX12_plays_43 rfl (lv_at hl 3 rfl) ?_
            refine lv_iload_n hx hb dX12_plays_44 rfl (lv_at hl 0 rfl) ?_
            refine ct_calli (D := D) (wr := [(qm_lines, .inl (cI, 5, .inl (fm_lines))), (qm_wins, .inl (cI, 24576, .inl (g555)))]) (va_runV (As := [.int 16, .int 2, .int 1]) (rest := []) ⟨hx, hb, hml, hown, hts⟩ (c_X12_isPlay l D G cI cJ cB cZ cO qm 0 qm_width qm_many qm_cells qm_moved qm_tape vm_taped vm_at vm_token vm_place vm_value vm_word vm_bad vm_badPlace vm_fault vm_faultPlace qm_lines qm_has qm_round qm_meets fm_meets qm_stumble qm_isMud qm_cell qm_tune qm_change qm_isKept qm_steps qm_places qm_danced vm_runMost vm_runBegins qm_heardBy vm_fitMany vm_fitFirst vm_fitBeats vm_listenLeaves qm_there vm_metAt vm_metIn qm_wins vm_nightHoles vm_nightFirst vm_nightMud vm_nightSlips vm_drawnNow 16 2 1 h_vm_taped h_vm_at h_vm_value (by decide) (by decide) H.size) (cwV 3 hts gX12_plays_X12_isPlay rfl rfl rfl (by decide +kernel) ⟨Nat.le_of_ble_eq_true rfl, Nat.le_of_ble_eq_true rfl⟩) (ct_preV (T := ct_T cI cJ cB cZ cO) (ci := 12) (q0 := 2) hE hH hP hD hS hA [2, 0] (by decide) rfl rfl rfl) rfl rfl hl.1 rfl (lv_room (Nat.le_of_ble_eq_true rfl)) dX12_plays_45 ⟨Nat.le_of_ble_eq_true rfl, Nat.le_of_ble_eq_true rfl⟩) hP hD hS hA [2, 0] [1, 3] rfl rfl (by decide) (by decide) (fun r568 u H locs hw hP hD hS => ?_)
            obtain ⟨hP, hD⟩ : ct_B D A H [(qm_lines, .inl (cI, 5, .inl (fm_lines))), (qm_wins, .inl (cI, 24576, .inl (g555))), mo qm 0 qm_width qm_many qm_cells qm_moved qm_tape vm_taped vm_at vm_token vm_place vm_value vm_word vm_bad vm_badPlace vm_fault vm_faultPlace qm_lines qm_has qm_round qm_meets qm_stumble qm_isMud qm_cell qm_tune qm_change qm_isKept qm_steps qm_places qm_danced vm_runMost vm_runBegins qm_heardBy vm_fitMany vm_fitFirst vm_fitBeats vm_listenLeaves qm_there vm_metAt vm_metIn qm_wins vm_nightHoles vm_nightFirst vm_nightMud vm_nightSlips vm_drawnNow, (qm_meets, .inl (cI, 30, .inl (fm_meets)))] := ⟨hP, hD⟩
            have hz := hw
            clear hw
            rcases hz with ⟨hz, hz2⟩ | ⟨hz, hz2⟩
            · subst hz
              have hz_569 : (pl (16 : Int32) (1 : Int32)) := hz2
              refine lv_if_eq (tgt := 68) hx hb dX12_plays_48 (by decide) (fun hc => absurd hc (by decide)) (fun _ => ?_)
              refine lv_aload_n hx hb dX12_plays_51 rfl (lv_at hl 2 rfl) ?_
              refine lv_iload_n hx hb dX12_plays_52 rfl (lv_at hl 1 rfl) ?_
              refine lv_iconst (v := 1) hx hb dX12_plays_53 (by decide) ?_
              refine lv_iconst (v := 2) hx hb dX12_plays_54 (by decide) ?_
              refine lv_iload_n hx hb dX12_plays_55 rfl (lv_at hl 0 rfl) ?_
              refine lv_imul hx hb dX12_plays_56 ?_
              refine lv_topi (fun z570 ez570 => ?_)
              obtain rfl : z570 = 2 := ez570.trans (by decide)
              refine lv_ishl hx hb dX12_plays_57 ?_
              refine lv_topi (fun z571 ez571 => ?_)
              obtain rfl : z571 = 4 := ez571.trans (by decide)
              refine lv_iadd hx hb dX12_plays_58 ?_
              refine lv_topi (fun z572 ez572 => ?_)
              obtain rfl : z572 = 20 := ez572.trans (by decide)
              refine lv_iload_n hx hb dX12_plays_59 rfl (lv_at hl 0 rfl) ?_
              refine ct_calli (D := D) (wr := [(qm_lines, .inl (cI, 5, .inl (fm_lines)))]) (va_runV (As := [.int 20, .int 1]) (rest := []) ⟨hx, hb, hml, hown, hts⟩ (c_X12_winsFrom l D G cI cJ cB cZ cO qm 0 qm_width qm_many qm_cells qm_moved qm_tape vm_taped vm_at vm_token vm_place vm_value vm_word vm_bad vm_badPlace vm_fault vm_faultPlace qm_lines qm_has qm_round qm_meets fm_meets qm_stumble qm_isMud qm_cell qm_tune qm_change qm_isKept qm_steps qm_places qm_danced vm_runMost vm_runBegins qm_heardBy vm_fitMany vm_fitFirst vm_fitBeats vm_listenLeaves qm_there vm_metAt vm_metIn qm_wins vm_nightHoles vm_nightFirst vm_nightMud vm_nightSlips vm_drawnNow h_vm_taped h_vm_at h_vm_value 12 g555 20 1 (by decide) (by unfold wn; decide +kernel) H.size) (cwV 2 hts gX12_plays_X12_winsFrom rfl rfl rfl (by decide +kernel) ⟨Nat.le_of_ble_eq_true rfl, Nat.le_of_ble_eq_true rfl⟩) (ct_preV (T := ct_T cI cJ cB cZ cO) (ci := 12) (q0 := 2) hE hH hP hD hS hA [2, 3, 1] (by decide) rfl rfl rfl) rfl rfl hl.1 rfl (lv_room (Nat.le_of_ble_eq_true rfl)) dX12_plays_60 ⟨Nat.le_of_ble_eq_true rfl, Nat.le_of_ble_eq_true rfl⟩) hP hD hS hA [2, 3, 1] [0] rfl rfl (by decide) (by decide) (fun r573 u H locs hw hP hD hS => ?_)
              obtain ⟨g574, rfl⟩ : ∃ z, z = u := ⟨_, rfl⟩
              obtain ⟨hP, hD⟩ : ct_B D A H [(qm_lines, .inl (cI, 5, .inl (fm_lines))), mo qm 0 qm_width qm_many qm_cells qm_moved qm_tape vm_taped vm_at vm_token vm_place vm_value vm_word vm_bad vm_badPlace vm_fault vm_faultPlace qm_lines qm_has qm_round qm_meets qm_stumble qm_isMud qm_cell qm_tune qm_change qm_isKept qm_steps qm_places qm_danced vm_runMost vm_runBegins qm_heardBy vm_fitMany vm_fitFirst vm_fitBeats vm_listenLeaves qm_there vm_metAt vm_metIn qm_wins vm_nightHoles vm_nightFirst vm_nightMud vm_nightSlips vm_drawnNow, (qm_meets, .inl (cI, 30, .inl (fm_meets))), (qm_wins, .inl (cI, 24576, .inl (g574)))] := ⟨hP, hD⟩
              have hz := hw
              clear hw
              rcases hz with ⟨hz, hz2⟩ | ⟨hz, hz2⟩
              · subst hz
                refine lv_if_ne (tgt := 68) hx hb dX12_plays_63 (by decide) (fun _ => ?_) (fun hc => absurd hc (by decide))
                refine lv_iinc (v := 2) (lv' := [(3, .int 2), (2, .int 16), (0, .ref qm), (1, .int 2)]) hx hb dX12_plays_68 hl (k := 0) rfl (by decide) (by decide) rfl (fun ls hl => ?_)
                refine lv_goto (tgt := 35) hx hb dX12_plays_71 (by decide) ?_
                have hk575 : (2 : Int32).toInt = 2 := by decide
                obtain ⟨hP9, hD9⟩ : ct_B D A H [(qm_meets, .inl (cI, 30, .inl (fm_meets))), (qm_lines, .inl (cI, 5, .inl (fm_lines))), mo qm 0 qm_width qm_many qm_cells qm_moved qm_tape vm_taped vm_at vm_token vm_place vm_value vm_word vm_bad vm_badPlace vm_fault vm_faultPlace qm_lines qm_has qm_round qm_meets qm_stumble qm_isMud qm_cell qm_tune qm_change qm_isKept qm_steps qm_places qm_danced vm_runMost vm_runBegins qm_heardBy vm_fitMany vm_fitFirst vm_fitBeats vm_listenLeaves qm_there vm_metAt vm_metIn qm_wins vm_nightHoles vm_nightFirst vm_nightMud vm_nightSlips vm_drawnNow, (qm_wins, .inl (cI, 24576, .inl (g574)))] := ⟨hP.sub [2, 0, 1, 3] rfl, hD.sub [2, 0, 1, 3] (by decide) rfl⟩
                exact ih557 (g574, (2 : Int32)) _ _ _ (show (6 - (2 : Int32).toInt).toNat < (6 - x556.toInt).toNat by omega) ⟨(show 0 ≤ (2 : Int32).toInt ∧ (2 : Int32).toInt ≤ 6 by decide), ⟨hP9, hD9⟩, hS, lv_sub hl [0, 1, 2, 3] rfl⟩
              · subst hz
                refine lv_if_ne (tgt := 68) hx hb dX12_plays_63 (by decide) (fun hc => absurd hc (by decide)) (fun _ => ?_)
                refine lv_iload_n hx hb dX12_plays_66 rfl (lv_at hl 0 rfl) ?_
                obtain ⟨hP9, hD9⟩ : ct_B D A H [mo qm 0 qm_width qm_many qm_cells qm_moved qm_tape vm_taped vm_at vm_token vm_place vm_value vm_word vm_bad vm_badPlace vm_fault vm_faultPlace qm_lines qm_has qm_round qm_meets qm_stumble qm_isMud qm_cell qm_tune qm_change qm_isKept qm_steps qm_places qm_danced vm_runMost vm_runBegins qm_heardBy vm_fitMany vm_fitFirst vm_fitBeats vm_listenLeaves qm_there vm_metAt vm_metIn qm_wins vm_nightHoles vm_nightFirst vm_nightMud vm_nightSlips vm_drawnNow, (qm_lines, .inl (cI, 5, .inl (fm_lines))), (qm_meets, .inl (cI, 30, .inl (fm_meets))), (qm_wins, .inl (cI, 24576, .inl (g574)))] := ⟨hP.sub [1, 0, 2, 3] rfl, hD.sub [1, 0, 2, 3] (by decide) rfl⟩
                exact W.iret (v := 1) hx hb hr (fun t ht hW => ⟨⟨1, ((0 : Int32), g574), rfl, (show (-2) ≤ (1 : Int32).toInt ∧ (1 : Int32).toInt ≤ 5 by decide), by rw [ht]; exact hP9, hD9⟩, hS.F ht⟩) hS.2.2 dX12_plays_67
            · subst hz
              refine lv_if_eq (tgt := 68) hx hb dX12_plays_48 (by decide) (fun _ => ?_) (fun hc => absurd hc (by decide))
              refine lv_iinc (v := 2) (lv' := [(3, .int 2), (2, .int 16), (0, .ref qm), (1, .int 2)]) hx hb dX12_plays_68 hl (k := 0) rfl (by decide) (by decide) rfl (fun ls hl => ?_)
              refine lv_goto (tgt := 35) hx hb dX12_plays_71 (by decide) ?_
              have hk576 : (2 : Int32).toInt = 2 := by decide
              obtain ⟨hP9, hD9⟩ : ct_B D A H [(qm_meets, .inl (cI, 30, .inl (fm_meets))), (qm_lines, .inl (cI, 5, .inl (fm_lines))), mo qm 0 qm_width qm_many qm_cells qm_moved qm_tape vm_taped vm_at vm_token vm_place vm_value vm_word vm_bad vm_badPlace vm_fault vm_faultPlace qm_lines qm_has qm_round qm_meets qm_stumble qm_isMud qm_cell qm_tune qm_change qm_isKept qm_steps qm_places qm_danced vm_runMost vm_runBegins qm_heardBy vm_fitMany vm_fitFirst vm_fitBeats vm_listenLeaves qm_there vm_metAt vm_metIn qm_wins vm_nightHoles vm_nightFirst vm_nightMud vm_nightSlips vm_drawnNow, (qm_wins, .inl (cI, 24576, .inl (g555)))] := ⟨hP.sub [3, 0, 2, 1] rfl, hD.sub [3, 0, 2, 1] (by decide) rfl⟩
              exact ih557 (g555, (2 : Int32)) _ _ _ (show (6 - (2 : Int32).toInt).toNat < (6 - x556.toInt).toNat by omega) ⟨(show 0 ≤ (2 : Int32).toInt ∧ (2 : Int32).toInt ≤ 6 by decide), ⟨hP9, hD9⟩, hS, lv_sub hl [0, 1, 2, 3] rfl⟩
          · have hj2 : x556 = 2 := tq_of hj (by decide)
            have hl : lv_has ls 4 [(3, .int 2), (2, .int 16), (0, .ref qm), (1, .int 2)] := by have h9 := hl; rw [hj2] at h9; exact h9
            refine lv_aload_n hx hb dX12_plays_41 rfl (lv_at hl 2 rfl) ?_
            refine lv_iload_n hx hb dX12_plays_42 rfl (lv_at hl 1 rfl) ?_
            refine lv_iload_n hx hb dX12_plays_43 rfl (lv_at hl 3 rfl) ?_
            refine lv_iload_n hx hb dX12_plays_44 rfl (lv_at hl 0 rfl) ?_
            refine ct_calli (D := D) (wr := [(qm_lines, .inl (cI, 5, .inl (fm_lines))), (qm_wins, .inl (cI, 24576, .inl (g555)))]) (va_runV (As := [.int 16, .int 2, .int 2]) (rest := []) ⟨hx, hb, hml, hown, hts⟩ (c_X12_isPlay l D G cI cJ cB cZ cO qm 0 qm_width qm_many qm_cells qm_moved qm_tape vm_taped vm_at vm_token vm_place vm_value vm_word vm_bad vm_badPlace vm_fault vm_faultPlace qm_lines qm_has qm_round qm_meets fm_meets qm_stumble qm_isMud qm_cell qm_tune qm_change qm_isKept qm_steps qm_places qm_danced vm_runMost vm_runBegins qm_heardBy vm_fitMany vm_fitFirst vm_fitBeats vm_listenLeaves qm_there vm_metAt vm_metIn qm_wins vm_nightHoles vm_nightFirst vm_nightMud vm_nightSlips vm_drawnNow 16 2 2 h_vm_taped h_vm_at h_vm_value (by decide) (by decide) H.size) (cwV 3 hts gX12_plays_X12_isPlay rfl rfl rfl (by decide +kernel) ⟨Nat.le_of_ble_eq_true rfl, Nat.le_of_ble_eq_true rfl⟩) (ct_preV (T := ct_T cI cJ cB cZ cO) (ci := 12) (q0 := 2) hE hH hP hD hS hA [2, 0] (by decide) rfl rfl rfl) rfl rfl hl.1 rfl (lv_room (Nat.le_of_ble_eq_true rfl)) dX12_plays_45 ⟨Nat.le_of_ble_eq_true rfl, Nat.le_of_ble_eq_true rfl⟩) hP hD hS hA [2, 0] [1, 3] rfl rfl (by decide) (by decide) (fun r577 u H locs hw hP hD hS => ?_)
            obtain ⟨hP, hD⟩ : ct_B D A H [(qm_lines, .inl (cI, 5, .inl (fm_lines))), (qm_wins, .inl (cI, 24576, .inl (g555))), mo qm 0 qm_width qm_many qm_cells qm_moved qm_tape vm_taped vm_at vm_token vm_place vm_value vm_word vm_bad vm_badPlace vm_fault vm_faultPlace qm_lines qm_has qm_round qm_meets qm_stumble qm_isMud qm_cell qm_tune qm_change qm_isKept qm_steps qm_places qm_danced vm_runMost vm_runBegins qm_heardBy vm_fitMany vm_fitFirst vm_fitBeats vm_listenLeaves qm_there vm_metAt vm_metIn qm_wins vm_nightHoles vm_nightFirst vm_nightMud vm_nightSlips vm_drawnNow, (qm_meets, .inl (cI, 30, .inl (fm_meets)))] := ⟨hP, hD⟩
            have hz := hw
            clear hw
            rcases hz with ⟨hz, hz2⟩ | ⟨hz, hz2⟩
            · subst hz
              have hz_578 : (pl (16 : Int32) (2 : Int32)) := hz2
              refine lv_if_eq (tgt := 68) hx hb dX12_plays_48 (by decide) (fun hc => absurd hc (by decide)) (fun _ => ?_)
              refine lv_aload_n hx hb dX12_plays_51 rfl (lv_at hl 2 rfl) ?_
              refine lv_iload_n hx hb dX12_plays_52 rfl (lv_at hl 1 rfl) ?_
              refine lv_iconst (v := 1) hx hb dX12_plays_53 (by decide) ?_
              refine lv_iconst (v := 2) hx hb dX12_plays_54 (by decide) ?_
              refine lv_iload_n hx hb dX12_plays_55 rfl (lv_at hl 0 rfl) ?_
              refine lv_imul hx hb dX12_plays_56 ?_
              refine lv_topi (fun z579 ez579 => ?_)
              obtain rfl : z579 = 4 := ez579.trans (by decide)
              refine lv_ishl hx hb dX12_plays_57 ?_
              refine lv_topi (fun z580 ez580 => ?_)
              obtain rfl : z580 = 16 := ez580.trans (by decide)
              refine lv_iadd hx hb dX12_plays_58 ?_
              refine lv_topi (fun z581 ez581 => ?_)
              obtain rfl : z581 = 32 := ez581.trans (by decide)
              refine lv_iload_n hx hb dX12_plays_59 rfl (lv_at hl 0 rfl) ?_
              refine ct_calli (D := D) (wr := [(qm_lines, .inl (cI, 5, .inl (fm_lines)))]) (va_runV (As := [.int 32, .int 2]) (rest := []) ⟨hx, hb, hml, hown, hts⟩ (c_X12_winsFrom l D G cI cJ cB cZ cO qm 0 qm_width qm_many qm_cells qm_moved qm_tape vm_taped vm_at vm_token vm_place vm_value vm_word vm_bad vm_badPlace vm_fault vm_faultPlace qm_lines qm_has qm_round qm_meets fm_meets qm_stumble qm_isMud qm_cell qm_tune qm_change qm_isKept qm_steps qm_places qm_danced vm_runMost vm_runBegins qm_heardBy vm_fitMany vm_fitFirst vm_fitBeats vm_listenLeaves qm_there vm_metAt vm_metIn qm_wins vm_nightHoles vm_nightFirst vm_nightMud vm_nightSlips vm_drawnNow h_vm_taped h_vm_at h_vm_value 12 g555 32 2 (by decide) (by unfold wn; decide +kernel) H.size) (cwV 2 hts gX12_plays_X12_winsFrom rfl rfl rfl (by decide +kernel) ⟨Nat.le_of_ble_eq_true rfl, Nat.le_of_ble_eq_true rfl⟩) (ct_preV (T := ct_T cI cJ cB cZ cO) (ci := 12) (q0 := 2) hE hH hP hD hS hA [2, 3, 1] (by decide) rfl rfl rfl) rfl rfl hl.1 rfl (lv_room (Nat.le_of_ble_eq_true rfl)) dX12_plays_60 ⟨Nat.le_of_ble_eq_true rfl, Nat.le_of_ble_eq_true rfl⟩) hP hD hS hA [2, 3, 1] [0] rfl rfl (by decide) (by decide) (fun r582 u H locs hw hP hD hS => ?_)
              obtain ⟨g583, rfl⟩ : ∃ z, z = u := ⟨_, rfl⟩
              obtain ⟨hP, hD⟩ : ct_B D A H [(qm_lines, .inl (cI, 5, .inl (fm_lines))), mo qm 0 qm_width qm_many qm_cells qm_moved qm_tape vm_taped vm_at vm_token vm_place vm_value vm_word vm_bad vm_badPlace vm_fault vm_faultPlace qm_lines qm_has qm_round qm_meets qm_stumble qm_isMud qm_cell qm_tune qm_change qm_isKept qm_steps qm_places qm_danced vm_runMost vm_runBegins qm_heardBy vm_fitMany vm_fitFirst vm_fitBeats vm_listenLeaves qm_there vm_metAt vm_metIn qm_wins vm_nightHoles vm_nightFirst vm_nightMud vm_nightSlips vm_drawnNow, (qm_meets, .inl (cI, 30, .inl (fm_meets))), (qm_wins, .inl (cI, 24576, .inl (g583)))] := ⟨hP, hD⟩
              have hz := hw
              clear hw
              rcases hz with ⟨hz, hz2⟩ | ⟨hz, hz2⟩
              · subst hz
                refine lv_if_ne (tgt := 68) hx hb dX12_plays_63 (by decide) (fun _ => ?_) (fun hc => absurd hc (by decide))
                refine lv_iinc (v := 3) (lv' := [(3, .int 3), (2, .int 16), (0, .ref qm), (1, .int 2)]) hx hb dX12_plays_68 hl (k := 0) rfl (by decide) (by decide) rfl (fun ls hl => ?_)
                refine lv_goto (tgt := 35) hx hb dX12_plays_71 (by decide) ?_
                have hk584 : (3 : Int32).toInt = 3 := by decide
                obtain ⟨hP9, hD9⟩ : ct_B D A H [(qm_meets, .inl (cI, 30, .inl (fm_meets))), (qm_lines, .inl (cI, 5, .inl (fm_lines))), mo qm 0 qm_width qm_many qm_cells qm_moved qm_tape vm_taped vm_at vm_token vm_place vm_value vm_word vm_bad vm_badPlace vm_fault vm_faultPlace qm_lines qm_has qm_round qm_meets qm_stumble qm_isMud qm_cell qm_tune qm_change qm_isKept qm_steps qm_places qm_danced vm_runMost vm_runBegins qm_heardBy vm_fitMany vm_fitFirst vm_fitBeats vm_listenLeaves qm_there vm_metAt vm_metIn qm_wins vm_nightHoles vm_nightFirst vm_nightMud vm_nightSlips vm_drawnNow, (qm_wins, .inl (cI, 24576, .inl (g583)))] := ⟨hP.sub [2, 0, 1, 3] rfl, hD.sub [2, 0, 1, 3] (by decide) rfl⟩
                exact ih557 (g583, (3 : Int32)) _ _ _ (show (6 - (3 : Int32).toInt).toNat < (6 - x556.toInt).toNat by omega) ⟨(show 0 ≤ (3 : Int32).toInt ∧ (3 : Int32).toInt ≤ 6 by decide), ⟨hP9, hD9⟩, hS, lv_sub hl [0, 1, 2, 3] rfl⟩
              · subst hz
                refine lv_if_ne (tgt := 68) hx hb dX12_plays_63 (by decide) (fun hc => absurd hc (by decide)) (fun _ => ?_)
                refine lv_iload_n hx hb dX12_plays_66 rfl (lv_at hl 0 rfl) ?_
                obtain ⟨hP9, hD9⟩ : ct_B D A H [mo qm 0 qm_width qm_many qm_cells qm_moved qm_tape vm_taped vm_at vm_token vm_place vm_value vm_word vm_bad vm_badPlace vm_fault vm_faultPlace qm_lines qm_has qm_round qm_meets qm_stumble qm_isMud qm_cell qm_tune qm_change qm_isKept qm_steps qm_places qm_danced vm_runMost vm_runBegins qm_heardBy vm_fitMany vm_fitFirst vm_fitBeats vm_listenLeaves qm_there vm_metAt vm_metIn qm_wins vm_nightHoles vm_nightFirst vm_nightMud vm_nightSlips vm_drawnNow, (qm_lines, .inl (cI, 5, .inl (fm_lines))), (qm_meets, .inl (cI, 30, .inl (fm_meets))), (qm_wins, .inl (cI, 24576, .inl (g583)))] := ⟨hP.sub [1, 0, 2, 3] rfl, hD.sub [1, 0, 2, 3] (by decide) rfl⟩
                exact W.iret (v := 2) hx hb hr (fun t ht hW => ⟨⟨2, ((0 : Int32), g583), rfl, (show (-2) ≤ (2 : Int32).toInt ∧ (2 : Int32).toInt ≤ 5 by decide), by rw [ht]; exact hP9, hD9⟩, hS.F ht⟩) hS.2.2 dX12_plays_67
            · subst hz
              refine lv_if_eq (tgt := 68) hx hb dX12_plays_48 (by decide) (fun _ => ?_) (fun hc => absurd hc (by decide))
              refine lv_iinc (v := 3) (lv' := [(3, .int 3), (2, .int 16), (0, .ref qm), (1, .int 2)]) hx hb dX12_plays_68 hl (k := 0) rfl (by decide) (by decide) rfl (fun ls hl => ?_)
              refine lv_goto (tgt := 35) hx hb dX12_plays_71 (by decide) ?_
              have hk585 : (3 : Int32).toInt = 3 := by decide
              obtain ⟨hP9, hD9⟩ : ct_B D A H [(qm_meets, .inl (cI, 30, .inl (fm_meets))), (qm_lines, .inl (cI, 5, .inl (fm_lines))), mo qm 0 qm_width qm_many qm_cells qm_moved qm_tape vm_taped vm_at vm_token vm_place vm_value vm_word vm_bad vm_badPlace vm_fault vm_faultPlace qm_lines qm_has qm_round qm_meets qm_stumble qm_isMud qm_cell qm_tune qm_change qm_isKept qm_steps qm_places qm_danced vm_runMost vm_runBegins qm_heardBy vm_fitMany vm_fitFirst vm_fitBeats vm_listenLeaves qm_there vm_metAt vm_metIn qm_wins vm_nightHoles vm_nightFirst vm_nightMud vm_nightSlips vm_drawnNow, (qm_wins, .inl (cI, 24576, .inl (g555)))] := ⟨hP.sub [3, 0, 2, 1] rfl, hD.sub [3, 0, 2, 1] (by decide) rfl⟩
              exact ih557 (g555, (3 : Int32)) _ _ _ (show (6 - (3 : Int32).toInt).toNat < (6 - x556.toInt).toNat by omega) ⟨(show 0 ≤ (3 : Int32).toInt ∧ (3 : Int32).toInt ≤ 6 by decide), ⟨hP9, hD9⟩, hS, lv_sub hl [0, 1, 2, 3] rfl⟩
          · have hj2 : x556 = 3 := tq_of hj (by decide)
            have hl : lv_has ls 4 [(3, .int 3), (2, .int 16), (0, .ref qm), (1, .int 2)] := by have h9 := hl; rw [hj2] at h9; exact h9
            refine lv_aload_n hx hb dX12_plays_41 rfl (lv_at hl 2 rfl) ?_
            refine lv_iload_n hx hb dX12_plays_42 rfl (lv_at hl 1 rfl) ?_
            refine lv_iload_n hx hb dX12_plays_43 rfl (lv_at hl 3 rfl) ?_
            refine lv_iload_n hx hb dX12_plays_44 rfl (lv_at hl 0 rfl) ?_
            refine ct_calli (D := D) (wr := [(qm_lines, .inl (cI, 5, .inl (fm_lines))), (qm_wins, .inl (cI, 24576, .inl (g555)))]) (va_runV (As := [.int 16, .int 2, .int 3]) (rest := []) ⟨hx, hb, hml, hown, hts⟩ (c_X12_isPlay l D G cI cJ cB cZ cO qm 0 qm_width qm_many qm_cells qm_moved qm_tape vm_taped vm_at vm_token vm_place vm_value vm_word vm_bad vm_badPlace vm_fault vm_faultPlace qm_lines qm_has qm_round qm_meets fm_meets qm_stumble qm_isMud qm_cell qm_tune qm_change qm_isKept qm_steps qm_places qm_danced vm_runMost vm_runBegins qm_heardBy vm_fitMany vm_fitFirst vm_fitBeats vm_listenLeaves qm_there vm_metAt vm_metIn qm_wins vm_nightHoles vm_nightFirst vm_nightMud vm_nightSlips vm_drawnNow 16 2 3 h_vm_taped h_vm_at h_vm_value (by decide) (by decide) H.size) (cwV 3 hts gX12_plays_X12_isPlay rfl rfl rfl (by decide +kernel) ⟨Nat.le_of_ble_eq_true rfl, Nat.le_of_ble_eq_true rfl⟩) (ct_preV (T := ct_T cI cJ cB cZ cO) (ci := 12) (q0 := 2) hE hH hP hD hS hA [2, 0] (by decide) rfl rfl rfl) rfl rfl hl.1 rfl (lv_room (Nat.le_of_ble_eq_true rfl)) dX12_plays_45 ⟨Nat.le_of_ble_eq_true rfl, Nat.le_of_ble_eq_true rfl⟩) hP hD hS hA [2, 0] [1, 3] rfl rfl (by decide) (by decide) (fun r586 u H locs hw hP hD hS => ?_)
            obtain ⟨hP, hD⟩ : ct_B D A H [(qm_lines, .inl (cI, 5, .inl (fm_lines))), (qm_wins, .inl (cI, 24576, .inl (g555))), mo qm 0 qm_width qm_many qm_cells qm_moved qm_tape vm_taped vm_at vm_token vm_place vm_value vm_word vm_bad vm_badPlace vm_fault vm_faultPlace qm_lines qm_has qm_round qm_meets qm_stumble qm_isMud qm_cell qm_tune qm_change qm_isKept qm_steps qm_places qm_danced vm_runMost vm_runBegins qm_heardBy vm_fitMany vm_fitFirst vm_fitBeats vm_listenLeaves qm_there vm_metAt vm_metIn qm_wins vm_nightHoles vm_nightFirst vm_nightMud vm_nightSlips vm_drawnNow, (qm_meets, .inl (cI, 30, .inl (fm_meets)))] := ⟨hP, hD⟩
            have hz := hw
            clear hw
            rcases hz with ⟨hz, hz2⟩ | ⟨hz, hz2⟩
            · subst hz
              have hz_587 : (pl (16 : Int32) (3 : Int32)) := hz2
              refine lv_if_eq (tgt := 68) hx hb dX12_plays_48 (by decide) (fun hc => absurd hc (by decide)) (fun _ => ?_)
              refine lv_aload_n hx hb dX12_plays_51 rfl (lv_at hl 2 rfl) ?_
              refine lv_iload_n hx hb dX12_plays_52 rfl (lv_at hl 1 rfl) ?_
              refine lv_iconst (v := 1) hx hb dX12_plays_53 (by decide) ?_
              refine lv_iconst (v := 2) hx hb dX12_plays_54 (by decide) ?_
              refine lv_iload_n hx hb dX12_plays_55 rfl (lv_at hl 0 rfl) ?_
              refine lv_imul hx hb dX12_plays_56 ?_
              refine lv_topi (fun z588 ez588 => ?_)
              obtain rfl : z588 = 6 := ez588.trans (by decide)
              refine lv_ishl hx hb dX12_plays_57 ?_
              refine lv_topi (fun z589 ez589 => ?_)
              obtain rfl : z589 = 64 := ez589.trans (by decide)
              refine lv_iadd hx hb dX12_plays_58 ?_
              refine lv_topi (fun z590 ez590 => ?_)
              obtain rfl : z590 = 80 := ez590.trans (by decide)
              refine lv_iload_n hx hb dX12_plays_59 rfl (lv_at hl 0 rfl) ?_
              refine ct_calli (D := D) (wr := [(qm_lines, .inl (cI, 5, .inl (fm_lines)))]) (va_runV (As := [.int 80, .int 3]) (rest := []) ⟨hx, hb, hml, hown, hts⟩ (c_X12_winsFrom l D G cI cJ cB cZ cO qm 0 qm_width qm_many qm_cells qm_moved qm_tape vm_taped vm_at vm_token vm_place vm_value vm_word vm_bad vm_badPlace vm_fault vm_faultPlace qm_lines qm_has qm_round qm_meets fm_meets qm_stumble qm_isMud qm_cell qm_tune qm_change qm_isKept qm_steps qm_places qm_danced vm_runMost vm_runBegins qm_heardBy vm_fitMany vm_fitFirst vm_fitBeats vm_listenLeaves qm_there vm_metAt vm_metIn qm_wins vm_nightHoles vm_nightFirst vm_nightMud vm_nightSlips vm_drawnNow h_vm_taped h_vm_at h_vm_value 12 g555 80 3 (by decide) (by unfold wn; decide +kernel) H.size) (cwV 2 hts gX12_plays_X12_winsFrom rfl rfl rfl (by decide +kernel) ⟨Nat.le_of_ble_eq_true rfl, Nat.le_of_ble_eq_true rfl⟩) (ct_preV (T := ct_T cI cJ cB cZ cO) (ci := 12) (q0 := 2) hE hH hP hD hS hA [2, 3, 1] (by decide) rfl rfl rfl) rfl rfl hl.1 rfl (lv_room (Nat.le_of_ble_eq_true rfl)) dX12_plays_60 ⟨Nat.le_of_ble_eq_true rfl, Nat.le_of_ble_eq_true rfl⟩) hP hD hS hA [2, 3, 1] [0] rfl rfl (by decide) (by decide) (fun r591 u H locs hw hP hD hS => ?_)
              obtain ⟨g592, rfl⟩ : ∃ z, z = u := ⟨_, rfl⟩
              obtain ⟨hP, hD⟩ : ct_B D A H [(qm_lines, .inl (cI, 5, .inl (fm_lines))), mo qm 0 qm_width qm_many qm_cells qm_moved qm_tape vm_taped vm_at vm_token vm_place vm_value vm_word vm_bad vm_badPlace vm_fault vm_faultPlace qm_lines qm_has qm_round qm_meets qm_stumble qm_isMud qm_cell qm_tune qm_change qm_isKept qm_steps qm_places qm_danced vm_runMost vm_runBegins qm_heardBy vm_fitMany vm_fitFirst vm_fitBeats vm_listenLeaves qm_there vm_metAt vm_metIn qm_wins vm_nightHoles vm_nightFirst vm_nightMud vm_nightSlips vm_drawnNow, (qm_meets, .inl (cI, 30, .inl (fm_meets))), (qm_wins, .inl (cI, 24576, .inl (g592)))] := ⟨hP, hD⟩
              have hz := hw
              clear hw
              rcases hz with ⟨hz, hz2⟩ | ⟨hz, hz2⟩
              · subst hz
                refine lv_if_ne (tgt := 68) hx hb dX12_plays_63 (by decide) (fun _ => ?_) (fun hc => absurd hc (by decide))
                refine lv_iinc (v := 4) (lv' := [(3, .int 4), (2, .int 16), (0, .ref qm), (1, .int 2)]) hx hb dX12_plays_68 hl (k := 0) rfl (by decide) (by decide) rfl (fun ls hl => ?_)
                refine lv_goto (tgt := 35) hx hb dX12_plays_71 (by decide) ?_
                have hk593 : (4 : Int32).toInt = 4 := by decide
                obtain ⟨hP9, hD9⟩ : ct_B D A H [(qm_meets, .inl (cI, 30, .inl (fm_meets))), (qm_lines, .inl (cI, 5, .inl (fm_lines))), mo qm 0 qm_width qm_many qm_cells qm_moved qm_tape vm_taped vm_at vm_token vm_place vm_value vm_word vm_bad vm_badPlace vm_fault vm_faultPlace qm_lines qm_has qm_round qm_meets qm_stumble qm_isMud qm_cell qm_tune qm_change qm_isKept qm_steps qm_places qm_danced vm_runMost vm_runBegins qm_heardBy vm_fitMany vm_fitFirst vm_fitBeats vm_listenLeaves qm_there vm_metAt vm_metIn qm_wins vm_nightHoles vm_nightFirst vm_nightMud vm_nightSlips vm_drawnNow, (qm_wins, .inl (cI, 24576, .inl (g592)))] := ⟨hP.sub [2, 0, 1, 3] rfl, hD.sub [2, 0, 1, 3] (by decide) rfl⟩
                exact ih557 (g592, (4 : Int32)) _ _ _ (show (6 - (4 : Int32).toInt).toNat < (6 - x556.toInt).toNat by omega) ⟨(show 0 ≤ (4 : Int32).toInt ∧ (4 : Int32).toInt ≤ 6 by decide), ⟨hP9, hD9⟩, hS, lv_sub hl [0, 1, 2, 3] rfl⟩
              · subst hz
                refine lv_if_ne (tgt := 68) hx hb dX12_plays_63 (by decide) (fun hc => absurd hc (by decide)) (fun _ => ?_)
                refine lv_iload_n hx hb dX12_plays_66 rfl (lv_at hl 0 rfl) ?_
                obtain ⟨hP9, hD9⟩ : ct_B D A H [mo qm 0 qm_width qm_many qm_cells qm_moved qm_tape vm_taped vm_at vm_token vm_place vm_value vm_word vm_bad vm_badPlace vm_fault vm_faultPlace qm_lines qm_has qm_round qm_meets qm_stumble qm_isMud qm_cell qm_tune qm_change qm_isKept qm_steps qm_places qm_danced vm_runMost vm_runBegins qm_heardBy vm_fitMany vm_fitFirst vm_fitBeats vm_listenLeaves qm_there vm_metAt vm_metIn qm_wins vm_nightHoles vm_nightFirst vm_nightMud vm_nightSlips vm_drawnNow, (qm_lines, .inl (cI, 5, .inl (fm_lines))), (qm_meets, .inl (cI, 30, .inl (fm_meets))), (qm_wins, .inl (cI, 24576, .inl (g592)))] := ⟨hP.sub [1, 0, 2, 3] rfl, hD.sub [1, 0, 2, 3] (by decide) rfl⟩
                exact W.iret (v := 3) hx hb hr (fun t ht hW => ⟨⟨3, ((0 : Int32), g592), rfl, (show (-2) ≤ (3 : Int32).toInt ∧ (3 : Int32).toInt ≤ 5 by decide), by rw [ht]; exact hP9, hD9⟩, hS.F ht⟩) hS.2.2 dX12_plays_67
            · subst hz
              refine lv_if_eq (tgt := 68) hx hb dX12_plays_48 (by decide) (fun _ => ?_) (fun hc => absurd hc (by decide))
              refine lv_iinc (v := 4) (lv' := [(3, .int 4), (2, .int 16), (0, .ref qm), (1, .int 2)]) hx hb dX12_plays_68 hl (k := 0) rfl (by decide) (by decide) rfl (fun ls hl => ?_)
              refine lv_goto (tgt := 35) hx hb dX12_plays_71 (by decide) ?_
              have hk594 : (4 : Int32).toInt = 4 := by decide
              obtain ⟨hP9, hD9⟩ : ct_B D A H [(qm_meets, .inl (cI, 30, .inl (fm_meets))), (qm_lines, .inl (cI, 5, .inl (fm_lines))), mo qm 0 qm_width qm_many qm_cells qm_moved qm_tape vm_taped vm_at vm_token vm_place vm_value vm_word vm_bad vm_badPlace vm_fault vm_faultPlace qm_lines qm_has qm_round qm_meets qm_stumble qm_isMud qm_cell qm_tune qm_change qm_isKept qm_steps qm_places qm_danced vm_runMost vm_runBegins qm_heardBy vm_fitMany vm_fitFirst vm_fitBeats vm_listenLeaves qm_there vm_metAt vm_metIn qm_wins vm_nightHoles vm_nightFirst vm_nightMud vm_nightSlips vm_drawnNow, (qm_wins, .inl (cI, 24576, .inl (g555)))] := ⟨hP.sub [3, 0, 2, 1] rfl, hD.sub [3, 0, 2, 1] (by decide) rfl⟩
              exact ih557 (g555, (4 : Int32)) _ _ _ (show (6 - (4 : Int32).toInt).toNat < (6 - x556.toInt).toNat by omega) ⟨(show 0 ≤ (4 : Int32).toInt ∧ (4 : Int32).toInt ≤ 6 by decide), ⟨hP9, hD9⟩, hS, lv_sub hl [0, 1, 2, 3] rfl⟩
          · have hj2 : x556 = 4 := tq_of hj (by decide)
            have hl : lv_has ls 4 [(3, .int 4), (2, .int 16), (0, .ref qm), (1, .int 2)] := by have h9 := hl; rw [hj2] at h9; exact h9
            refine lv_aload_n hx hb dX12_plays_41 rfl (lv_at hl 2 rfl) ?_
            refine lv_iload_n hx hb dX12_plays_42 rfl (lv_at hl 1 rfl) ?_
            refine lv_iload_n hx hb dX12_plays_43 rfl (lv_at hl 3 rfl) ?_
            refine lv_iload_n hx hb dX12_plays_44 rfl (lv_at hl 0 rfl) ?_
            refine ct_calli (D := D) (wr := [(qm_lines, .inl (cI, 5, .inl (fm_lines))), (qm_wins, .inl (cI, 24576, .inl (g555)))]) (va_runV (As := [.int 16, .int 2, .int 4]) (rest := []) ⟨hx, hb, hml, hown, hts⟩ (c_X12_isPlay l D G cI cJ cB cZ cO qm 0 qm_width qm_many qm_cells qm_moved qm_tape vm_taped vm_at vm_token vm_place vm_value vm_word vm_bad vm_badPlace vm_fault vm_faultPlace qm_lines qm_has qm_round qm_meets fm_meets qm_stumble qm_isMud qm_cell qm_tune qm_change qm_isKept qm_steps qm_places qm_danced vm_runMost vm_runBegins qm_heardBy vm_fitMany vm_fitFirst vm_fitBeats vm_listenLeaves qm_there vm_metAt vm_metIn qm_wins vm_nightHoles vm_nightFirst vm_nightMud vm_nightSlips vm_drawnNow 16 2 4 h_vm_taped h_vm_at h_vm_value (by decide) (by decide) H.size) (cwV 3 hts gX12_plays_X12_isPlay rfl rfl rfl (by decide +kernel) ⟨Nat.le_of_ble_eq_true rfl, Nat.le_of_ble_eq_true rfl⟩) (ct_preV (T := ct_T cI cJ cB cZ cO) (ci := 12) (q0 := 2) hE hH hP hD hS hA [2, 0] (by decide) rfl rfl rfl) rfl rfl hl.1 rfl (lv_room (Nat.le_of_ble_eq_true rfl)) dX12_plays_45 ⟨Nat.le_of_ble_eq_true rfl, Nat.le_of_ble_eq_true rfl⟩) hP hD hS hA [2, 0] [1, 3] rfl rfl (by decide) (by decide) (fun r595 u H locs hw hP hD hS => ?_)
            obtain ⟨hP, hD⟩ : ct_B D A H [(qm_lines, .inl (cI, 5, .inl (fm_lines))), (qm_wins, .inl (cI, 24576, .inl (g555))), mo qm 0 qm_width qm_many qm_cells qm_moved qm_tape vm_taped vm_at vm_token vm_place vm_value vm_word vm_bad vm_badPlace vm_fault vm_faultPlace qm_lines qm_has qm_round qm_meets qm_stumble qm_isMud qm_cell qm_tune qm_change qm_isKept qm_steps qm_places qm_danced vm_runMost vm_runBegins qm_heardBy vm_fitMany vm_fitFirst vm_fitBeats vm_listenLeaves qm_there vm_metAt vm_metIn qm_wins vm_nightHoles vm_nightFirst vm_nightMud vm_nightSlips vm_drawnNow, (qm_meets, .inl (cI, 30, .inl (fm_meets)))] := ⟨hP, hD⟩
            have hz := hw
            clear hw
            rcases hz with ⟨hz, hz2⟩ | ⟨hz, hz2⟩
            · subst hz
              have hz_596 : (pl (16 : Int32) (4 : Int32)) := hz2
              refine lv_if_eq (tgt := 68) hx hb dX12_plays_48 (by decide) (fun hc => absurd hc (by decide)) (fun _ => ?_)
              refine lv_aload_n hx hb dX12_plays_51 rfl (lv_at hl 2 rfl) ?_
              refine lv_iload_n hx hb dX12_plays_52 rfl (lv_at hl 1 rfl) ?_
              refine lv_iconst (v := 1) hx hb dX12_plays_53 (by decide) ?_
              refine lv_iconst (v := 2) hx hb dX12_plays_54 (by decide) ?_
              refine lv_iload_n hx hb dX12_plays_55 rfl (lv_at hl 0 rfl) ?_
              refine lv_imul hx hb dX12_plays_56 ?_
              refine lv_topi (fun z597 ez597 => ?_)
              obtain rfl : z597 = 8 := ez597.trans (by decide)
              refine lv_ishl hx hb dX12_plays_57 ?_
              refine lv_topi (fun z598 ez598 => ?_)
              obtain rfl : z598 = 256 := ez598.trans (by decide)
              refine lv_iadd hx hb dX12_plays_58 ?_
              refine lv_topi (fun z599 ez599 => ?_)
              obtain rfl : z599 = 272 := ez599.trans (by decide)
              refine lv_iload_n hx hb dX12_plays_59 rfl (lv_at hl 0 rfl) ?_
              refine ct_calli (D := D) (wr := [(qm_lines, .inl (cI, 5, .inl (fm_lines)))]) (va_runV (As := [.int 272, .int 4]) (rest := []) ⟨hx, hb, hml, hown, hts⟩ (c_X12_winsFrom l D G cI cJ cB cZ cO qm 0 qm_width qm_many qm_cells qm_moved qm_tape vm_taped vm_at vm_token vm_place vm_value vm_word vm_bad vm_badPlace vm_fault vm_faultPlace qm_lines qm_has qm_round qm_meets fm_meets qm_stumble qm_isMud qm_cell qm_tune qm_change qm_isKept qm_steps qm_places qm_danced vm_runMost vm_runBegins qm_heardBy vm_fitMany vm_fitFirst vm_fitBeats vm_listenLeaves qm_there vm_metAt vm_metIn qm_wins vm_nightHoles vm_nightFirst vm_nightMud vm_nightSlips vm_drawnNow h_vm_taped h_vm_at h_vm_value 12 g555 272 4 (by decide) (by unfold wn; decide +kernel) H.size) (cwV 2 hts gX12_plays_X12_winsFrom rfl rfl rfl (by decide +kernel) ⟨Nat.le_of_ble_eq_true rfl, Nat.le_of_ble_eq_true rfl⟩) (ct_preV (T := ct_T cI cJ cB cZ cO) (ci := 12) (q0 := 2) hE hH hP hD hS hA [2, 3, 1] (by decide) rfl rfl rfl) rfl rfl hl.1 rfl (lv_room (Nat.le_of_ble_eq_true rfl)) dX12_plays_60 ⟨Nat.le_of_ble_eq_true rfl, Nat.le_of_ble_eq_true rfl⟩) hP hD hS hA [2, 3, 1] [0] rfl rfl (by decide) (by decide) (fun r600 u H locs hw hP hD hS => ?_)
              obtain ⟨g601, rfl⟩ : ∃ z, z = u := ⟨_, rfl⟩
              obtain ⟨hP, hD⟩ : ct_B D A H [(qm_lines, .inl (cI, 5, .inl (fm_lines))), mo qm 0 qm_width qm_many qm_cells qm_moved qm_tape vm_taped vm_at vm_token vm_place vm_value vm_word vm_bad vm_badPlace vm_fault vm_faultPlace qm_lines qm_has qm_round qm_meets qm_stumble qm_isMud qm_cell qm_tune qm_change qm_isKept qm_steps qm_places qm_danced vm_runMost vm_runBegins qm_heardBy vm_fitMany vm_fitFirst vm_fitBeats vm_listenLeaves qm_there vm_metAt vm_metIn qm_wins vm_nightHoles vm_nightFirst vm_nightMud vm_nightSlips vm_drawnNow, (qm_meets, .inl (cI, 30, .inl (fm_meets))), (qm_wins, .inl (cI, 24576, .inl (g601)))] := ⟨hP, hD⟩
              have hz := hw
              clear hw
              rcases hz with ⟨hz, hz2⟩ | ⟨hz, hz2⟩
              · subst hz
                refine lv_if_ne (tgt := 68) hx hb dX12_plays_63 (by decide) (fun _ => ?_) (fun hc => absurd hc (by decide))
                refine lv_iinc (v := 5) (lv' := [(3, .int 5), (2, .int 16), (0, .ref qm), (1, .int 2)]) hx hb dX12_plays_68 hl (k := 0) rfl (by decide) (by decide) rfl (fun ls hl => ?_)
                refine lv_goto (tgt := 35) hx hb dX12_plays_71 (by decide) ?_
                have hk602 : (5 : Int32).toInt = 5 := by decide
                obtain ⟨hP9, hD9⟩ : ct_B D A H [(qm_meets, .inl (cI, 30, .inl (fm_meets))), (qm_lines, .inl (cI, 5, .inl (fm_lines))), mo qm 0 qm_width qm_many qm_cells qm_moved qm_tape vm_taped vm_at vm_token vm_place vm_value vm_word vm_bad vm_badPlace vm_fault vm_faultPlace qm_lines qm_has qm_round qm_meets qm_stumble qm_isMud qm_cell qm_tune qm_change qm_isKept qm_steps qm_places qm_danced vm_runMost vm_runBegins qm_heardBy vm_fitMany vm_fitFirst vm_fitBeats vm_listenLeaves qm_there vm_metAt vm_metIn qm_wins vm_nightHoles vm_nightFirst vm_nightMud vm_nightSlips vm_drawnNow, (qm_wins, .inl (cI, 24576, .inl (g601)))] := ⟨hP.sub [2, 0, 1, 3] rfl, hD.sub [2, 0, 1, 3] (by decide) rfl⟩
                exact ih557 (g601, (5 : Int32)) _ _ _ (show (6 - (5 : Int32).toInt).toNat < (6 - x556.toInt).toNat by omega) ⟨(show 0 ≤ (5 : Int32).toInt ∧ (5 : Int32).toInt ≤ 6 by decide), ⟨hP9, hD9⟩, hS, lv_sub hl [0, 1, 2, 3] rfl⟩
              · subst hz
                refine lv_if_ne (tgt := 68) hx hb dX12_plays_63 (by decide) (fun hc => absurd hc (by decide)) (fun _ => ?_)
                refine lv_iload_n hx hb dX12_plays_66 rfl (lv_at hl 0 rfl) ?_
                obtain ⟨hP9, hD9⟩ : ct_B D A H [mo qm 0 qm_width qm_many qm_cells qm_moved qm_tape vm_taped vm_at vm_token vm_place vm_value vm_word vm_bad vm_badPlace vm_fault vm_faultPlace qm_lines qm_has qm_round qm_meets qm_stumble qm_isMud qm_cell qm_tune qm_change qm_isKept qm_steps qm_places qm_danced vm_runMost vm_runBegins qm_heardBy vm_fitMany vm_fitFirst vm_fitBeats vm_listenLeaves qm_there vm_metAt vm_metIn qm_wins vm_nightHoles vm_nightFirst vm_nightMud vm_nightSlips vm_drawnNow, (qm_lines, .inl (cI, 5, .inl (fm_lines))), (qm_meets, .inl (cI, 30, .inl (fm_meets))), (qm_wins, .inl (cI, 24576, .inl (g601)))] := ⟨hP.sub [1, 0, 2, 3] rfl, hD.sub [1, 0, 2, 3] (by decide) rfl⟩
                exact W.iret (v := 4) hx hb hr (fun t ht hW => ⟨⟨4, ((0 : Int32), g601), rfl, (show (-2) ≤ (4 : Int32).toInt ∧ (4 : Int32).toInt ≤ 5 by decide), by rw [ht]; exact hP9, hD9⟩, hS.F ht⟩) hS.2.2 dX12_plays_67
            · subst hz
              refine lv_if_eq (tgt := 68) hx hb dX12_plays_48 (by decide) (fun _ => ?_) (fun hc => absurd hc (by decide))
              refine lv_iinc (v := 5) (lv' := [(3, .int 5), (2, .int 16), (0, .ref qm), (1, .int 2)]) hx hb dX12_plays_68 hl (k := 0) rfl (by decide) (by decide) rfl (fun ls hl => ?_)
              refine lv_goto (tgt := 35) hx hb dX12_plays_71 (by decide) ?_
              have hk603 : (5 : Int32).toInt = 5 := by decide
              obtain ⟨hP9, hD9⟩ : ct_B D A H [(qm_meets, .inl (cI, 30, .inl (fm_meets))), (qm_lines, .inl (cI, 5, .inl (fm_lines))), mo qm 0 qm_width qm_many qm_cells qm_moved qm_tape vm_taped vm_at vm_token vm_place vm_value vm_word vm_bad vm_badPlace vm_fault vm_faultPlace qm_lines qm_has qm_round qm_meets qm_stumble qm_isMud qm_cell qm_tune qm_change qm_isKept qm_steps qm_places qm_danced vm_runMost vm_runBegins qm_heardBy vm_fitMany vm_fitFirst vm_fitBeats vm_listenLeaves qm_there vm_metAt vm_metIn qm_wins vm_nightHoles vm_nightFirst vm_nightMud vm_nightSlips vm_drawnNow, (qm_wins, .inl (cI, 24576, .inl (g555)))] := ⟨hP.sub [3, 0, 2, 1] rfl, hD.sub [3, 0, 2, 1] (by decide) rfl⟩
              exact ih557 (g555, (5 : Int32)) _ _ _ (show (6 - (5 : Int32).toInt).toNat < (6 - x556.toInt).toNat by omega) ⟨(show 0 ≤ (5 : Int32).toInt ∧ (5 : Int32).toInt ≤ 6 by decide), ⟨hP9, hD9⟩, hS, lv_sub hl [0, 1, 2, 3] rfl⟩
          · have hj2 : x556 = 5 := tq_of hj (by decide)
            have hl : lv_has ls 4 [(3, .int 5), (2, .int 16), (0, .ref qm), (1, .int 2)] := by have h9 := hl; rw [hj2] at h9; exact h9
            refine lv_aload_n hx hb dX12_plays_41 rfl (lv_at hl 2 rfl) ?_
            refine lv_iload_n hx hb dX12_plays_42 rfl (lv_at hl 1 rfl) ?_
            refine lv_iload_n hx hb dX12_plays_43 rfl (lv_at hl 3 rfl) ?_
            refine lv_iload_n hx hb dX12_plays_44 rfl (lv_at hl 0 rfl) ?_
            refine ct_calli (D := D) (wr := [(qm_lines, .inl (cI, 5, .inl (fm_lines))), (qm_wins, .inl (cI, 24576, .inl (g555)))]) (va_runV (As := [.int 16, .int 2, .int 5]) (rest := []) ⟨hx, hb, hml, hown, hts⟩ (c_X12_isPlay l D G cI cJ cB cZ cO qm 0 qm_width qm_many qm_cells qm_moved qm_tape vm_taped vm_at vm_token vm_place vm_value vm_word vm_bad vm_badPlace vm_fault vm_faultPlace qm_lines qm_has qm_round qm_meets fm_meets qm_stumble qm_isMud qm_cell qm_tune qm_change qm_isKept qm_steps qm_places qm_danced vm_runMost vm_runBegins qm_heardBy vm_fitMany vm_fitFirst vm_fitBeats vm_listenLeaves qm_there vm_metAt vm_metIn qm_wins vm_nightHoles vm_nightFirst vm_nightMud vm_nightSlips vm_drawnNow 16 2 5 h_vm_taped h_vm_at h_vm_value (by decide) (by decide) H.size) (cwV 3 hts gX12_plays_X12_isPlay rfl rfl rfl (by decide +kernel) ⟨Nat.le_of_ble_eq_true rfl, Nat.le_of_ble_eq_true rfl⟩) (ct_preV (T := ct_T cI cJ cB cZ cO) (ci := 12) (q0 := 2) hE hH hP hD hS hA [2, 0] (by decide) rfl rfl rfl) rfl rfl hl.1 rfl (lv_room (Nat.le_of_ble_eq_true rfl)) dX12_plays_45 ⟨Nat.le_of_ble_eq_true rfl, Nat.le_of_ble_eq_true rfl⟩) hP hD hS hA [2, 0] [1, 3] rfl rfl (by decide) (by decide) (fun r604 u H locs hw hP hD hS => ?_)
            obtain ⟨hP, hD⟩ : ct_B D A H [(qm_lines, .inl (cI, 5, .inl (fm_lines))), (qm_wins, .inl (cI, 24576, .inl (g555))), mo qm 0 qm_width qm_many qm_cells qm_moved qm_tape vm_taped vm_at vm_token vm_place vm_value vm_word vm_bad vm_badPlace vm_fault vm_faultPlace qm_lines qm_has qm_round qm_meets qm_stumble qm_isMud qm_cell qm_tune qm_change qm_isKept qm_steps qm_places qm_danced vm_runMost vm_runBegins qm_heardBy vm_fitMany vm_fitFirst vm_fitBeats vm_listenLeaves qm_there vm_metAt vm_metIn qm_wins vm_nightHoles vm_nightFirst vm_nightMud vm_nightSlips vm_drawnNow, (qm_meets, .inl (cI, 30, .inl (fm_meets)))] := ⟨hP, hD⟩
            have hz := hw
            clear hw
            rcases hz with ⟨hz, hz2⟩ | ⟨hz, hz2⟩
            · subst hz
              have hz_605 : (pl (16 : Int32) (5 : Int32)) := hz2
              refine lv_if_eq (tgt := 68) hx hb dX12_plays_48 (by decide) (fun hc => absurd hc (by decide)) (fun _ => ?_)
              refine lv_aload_n hx hb dX12_plays_51 rfl (lv_at hl 2 rfl) ?_
              refine lv_iload_n hx hb dX12_plays_52 rfl (lv_at hl 1 rfl) ?_
              refine lv_iconst (v := 1) hx hb dX12_plays_53 (by decide) ?_
              refine lv_iconst (v := 2) hx hb dX12_plays_54 (by decide) ?_
              refine lv_iload_n hx hb dX12_plays_55 rfl (lv_at hl 0 rfl) ?_
              refine lv_imul hx hb dX12_plays_56 ?_
              refine lv_topi (fun z606 ez606 => ?_)
              obtain rfl : z606 = 10 := ez606.trans (by decide)
              refine lv_ishl hx hb dX12_plays_57 ?_
              refine lv_topi (fun z607 ez607 => ?_)
              obtain rfl : z607 = 1024 := ez607.trans (by decide)
              refine lv_iadd hx hb dX12_plays_58 ?_
              refine lv_topi (fun z608 ez608 => ?_)
              obtain rfl : z608 = 1040 := ez608.trans (by decide)
              refine lv_iload_n hx hb dX12_plays_59 rfl (lv_at hl 0 rfl) ?_
              refine ct_calli (D := D) (wr := [(qm_lines, .inl (cI, 5, .inl (fm_lines)))]) (va_runV (As := [.int 1040, .int 5]) (rest := []) ⟨hx, hb, hml, hown, hts⟩ (c_X12_winsFrom l D G cI cJ cB cZ cO qm 0 qm_width qm_many qm_cells qm_moved qm_tape vm_taped vm_at vm_token vm_place vm_value vm_word vm_bad vm_badPlace vm_fault vm_faultPlace qm_lines qm_has qm_round qm_meets fm_meets qm_stumble qm_isMud qm_cell qm_tune qm_change qm_isKept qm_steps qm_places qm_danced vm_runMost vm_runBegins qm_heardBy vm_fitMany vm_fitFirst vm_fitBeats vm_listenLeaves qm_there vm_metAt vm_metIn qm_wins vm_nightHoles vm_nightFirst vm_nightMud vm_nightSlips vm_drawnNow h_vm_taped h_vm_at h_vm_value 12 g555 1040 5 (by decide) (by unfold wn; decide +kernel) H.size) (cwV 2 hts gX12_plays_X12_winsFrom rfl rfl rfl (by decide +kernel) ⟨Nat.le_of_ble_eq_true rfl, Nat.le_of_ble_eq_true rfl⟩) (ct_preV (T := ct_T cI cJ cB cZ cO) (ci := 12) (q0 := 2) hE hH hP hD hS hA [2, 3, 1] (by decide) rfl rfl rfl) rfl rfl hl.1 rfl (lv_room (Nat.le_of_ble_eq_true rfl)) dX12_plays_60 ⟨Nat.le_of_ble_eq_true rfl, Nat.le_of_ble_eq_true rfl⟩) hP hD hS hA [2, 3, 1] [0] rfl rfl (by decide) (by decide) (fun r609 u H locs hw hP hD hS => ?_)
              obtain ⟨g610, rfl⟩ : ∃ z, z = u := ⟨_, rfl⟩
              obtain ⟨hP, hD⟩ : ct_B D A H [(qm_lines, .inl (cI, 5, .inl (fm_lines))), mo qm 0 qm_width qm_many qm_cells qm_moved qm_tape vm_taped vm_at vm_token vm_place vm_value vm_word vm_bad vm_badPlace vm_fault vm_faultPlace qm_lines qm_has qm_round qm_meets qm_stumble qm_isMud qm_cell qm_tune qm_change qm_isKept qm_steps qm_places qm_danced vm_runMost vm_runBegins qm_heardBy vm_fitMany vm_fitFirst vm_fitBeats vm_listenLeaves qm_there vm_metAt vm_metIn qm_wins vm_nightHoles vm_nightFirst vm_nightMud vm_nightSlips vm_drawnNow, (qm_meets, .inl (cI, 30, .inl (fm_meets))), (qm_wins, .inl (cI, 24576, .inl (g610)))] := ⟨hP, hD⟩
              have hz := hw
              clear hw
              rcases hz with ⟨hz, hz2⟩ | ⟨hz, hz2⟩
              · subst hz
                refine lv_if_ne (tgt := 68) hx hb dX12_plays_63 (by decide) (fun _ => ?_) (fun hc => absurd hc (by decide))
                refine lv_iinc (v := 6) (lv' := [(3, .int 6), (2, .int 16), (0, .ref qm), (1, .int 2)]) hx hb dX12_plays_68 hl (k := 0) rfl (by decide) (by decide) rfl (fun ls hl => ?_)
                refine lv_goto (tgt := 35) hx hb dX12_plays_71 (by decide) ?_
                have hk611 : (6 : Int32).toInt = 6 := by decide
                obtain ⟨hP9, hD9⟩ : ct_B D A H [(qm_meets, .inl (cI, 30, .inl (fm_meets))), (qm_lines, .inl (cI, 5, .inl (fm_lines))), mo qm 0 qm_width qm_many qm_cells qm_moved qm_tape vm_taped vm_at vm_token vm_place vm_value vm_word vm_bad vm_badPlace vm_fault vm_faultPlace qm_lines qm_has qm_round qm_meets qm_stumble qm_isMud qm_cell qm_tune qm_change qm_isKept qm_steps qm_places qm_danced vm_runMost vm_runBegins qm_heardBy vm_fitMany vm_fitFirst vm_fitBeats vm_listenLeaves qm_there vm_metAt vm_metIn qm_wins vm_nightHoles vm_nightFirst vm_nightMud vm_nightSlips vm_drawnNow, (qm_wins, .inl (cI, 24576, .inl (g610)))] := ⟨hP.sub [2, 0, 1, 3] rfl, hD.sub [2, 0, 1, 3] (by decide) rfl⟩
                exact ih557 (g610, (6 : Int32)) _ _ _ (show (6 - (6 : Int32).toInt).toNat < (6 - x556.toInt).toNat by omega) ⟨(show 0 ≤ (6 : Int32).toInt ∧ (6 : Int32).toInt ≤ 6 by decide), ⟨hP9, hD9⟩, hS, lv_sub hl [0, 1, 2, 3] rfl⟩
              · subst hz
                refine lv_if_ne (tgt := 68) hx hb dX12_plays_63 (by decide) (fun hc => absurd hc (by decide)) (fun _ => ?_)
                refine lv_iload_n hx hb dX12_plays_66 rfl (lv_at hl 0 rfl) ?_
                obtain ⟨hP9, hD9⟩ : ct_B D A H [mo qm 0 qm_width qm_many qm_cells qm_moved qm_tape vm_taped vm_at vm_token vm_place vm_value vm_word vm_bad vm_badPlace vm_fault vm_faultPlace qm_lines qm_has qm_round qm_meets qm_stumble qm_isMud qm_cell qm_tune qm_change qm_isKept qm_steps qm_places qm_danced vm_runMost vm_runBegins qm_heardBy vm_fitMany vm_fitFirst vm_fitBeats vm_listenLeaves qm_there vm_metAt vm_metIn qm_wins vm_nightHoles vm_nightFirst vm_nightMud vm_nightSlips vm_drawnNow, (qm_lines, .inl (cI, 5, .inl (fm_lines))), (qm_meets, .inl (cI, 30, .inl (fm_meets))), (qm_wins, .inl (cI, 24576, .inl (g610)))] := ⟨hP.sub [1, 0, 2, 3] rfl, hD.sub [1, 0, 2, 3] (by decide) rfl⟩
                exact W.iret (v := 5) hx hb hr (fun t ht hW => ⟨⟨5, ((0 : Int32), g610), rfl, (show (-2) ≤ (5 : Int32).toInt ∧ (5 : Int32).toInt ≤ 5 by decide), by rw [ht]; exact hP9, hD9⟩, hS.F ht⟩) hS.2.2 dX12_plays_67
            · subst hz
              refine lv_if_eq (tgt := 68) hx hb dX12_plays_48 (by decide) (fun _ => ?_) (fun hc => absurd hc (by decide))
              refine lv_iinc (v := 6) (lv' := [(3, .int 6), (2, .int 16), (0, .ref qm), (1, .int 2)]) hx hb dX12_plays_68 hl (k := 0) rfl (by decide) (by decide) rfl (fun ls hl => ?_)
              refine lv_goto (tgt := 35) hx hb dX12_plays_71 (by decide) ?_
              have hk612 : (6 : Int32).toInt = 6 := by decide
              obtain ⟨hP9, hD9⟩ : ct_B D A H [(qm_meets, .inl (cI, 30, .inl (fm_meets))), (qm_lines, .inl (cI, 5, .inl (fm_lines))), mo qm 0 qm_width qm_many qm_cells qm_moved qm_tape vm_taped vm_at vm_token vm_place vm_value vm_word vm_bad vm_badPlace vm_fault vm_faultPlace qm_lines qm_has qm_round qm_meets qm_stumble qm_isMud qm_cell qm_tune qm_change qm_isKept qm_steps qm_places qm_danced vm_runMost vm_runBegins qm_heardBy vm_fitMany vm_fitFirst vm_fitBeats vm_listenLeaves qm_there vm_metAt vm_metIn qm_wins vm_nightHoles vm_nightFirst vm_nightMud vm_nightSlips vm_drawnNow, (qm_wins, .inl (cI, 24576, .inl (g555)))] := ⟨hP.sub [3, 0, 2, 1] rfl, hD.sub [3, 0, 2, 1] (by decide) rfl⟩
              exact ih557 (g555, (6 : Int32)) _ _ _ (show (6 - (6 : Int32).toInt).toNat < (6 - x556.toInt).toNat by omega) ⟨(show 0 ≤ (6 : Int32).toInt ∧ (6 : Int32).toInt ≤ 6 by decide), ⟨hP9, hD9⟩, hS, lv_sub hl [0, 1, 2, 3] rfl⟩
      · have hj2 : a1 = 3 := tq_of hj (by decide)
        have hl : lv_has ls 4 [(0, .ref qm), (1, .int 3)] := by have h9 := hl; rw [hj2] at h9; exact h9
        refine lv_iconst (v := 1) hx hb dX12_plays_27 (by decide) ?_
        refine lv_iconst (v := 2) hx hb dX12_plays_28 (by decide) ?_
        refine lv_iload_n hx hb dX12_plays_29 rfl (lv_at hl 1 rfl) ?_
        refine lv_imul hx hb dX12_plays_30 ?_
        refine lv_topi (fun z613 ez613 => ?_)
        obtain rfl : z613 = 6 := ez613.trans (by decide)
        refine lv_ishl hx hb dX12_plays_31 ?_
        refine lv_topi (fun z614 ez614 => ?_)
        obtain rfl : z614 = 64 := ez614.trans (by decide)
        refine lv_istore_n (lv' := [(2, .int 64), (0, .ref qm), (1, .int 3)]) hx hb dX12_plays_32 rfl hl (by decide) rfl (fun ls hl => ?_)
        refine lv_iconst (v := 0) hx hb dX12_plays_33 (by decide) ?_
        refine lv_istore_n (lv' := [(3, .int 0), (2, .int 64), (0, .ref qm), (1, .int 3)]) hx hb dX12_plays_34 rfl hl (by decide) rfl (fun ls hl => ?_)
        refine ct_loop (X := (Nat → Int32) × Int32) (fun x => (6 - x.2.toInt).toNat) (fun x H locs ls => ((0 ≤ x.2.toInt ∧ x.2.toInt ≤ 6)) ∧ ct_B D A H [(qm_meets, .inl (cI, 30, .inl (fm_meets))), (qm_lines, .inl (cI, 5, .inl (fm_lines))), mo qm 0 qm_width qm_many qm_cells qm_moved qm_tape vm_taped vm_at vm_token vm_place vm_value vm_word vm_bad vm_badPlace vm_fault vm_faultPlace qm_lines qm_has qm_round qm_meets qm_stumble qm_isMud qm_cell qm_tune qm_change qm_isKept qm_steps qm_places qm_danced vm_runMost vm_runBegins qm_heardBy vm_fitMany vm_fitFirst vm_fitBeats vm_listenLeaves qm_there vm_metAt vm_metIn qm_wins vm_nightHoles vm_nightFirst vm_nightMud vm_nightSlips vm_drawnNow, (qm_wins, .inl (cI, 24576, .inl (x.1)))] ∧ va_S A s.heap H locs ∧ lv_has ls 4 [(3, .int x.2), (2, .int 64), (0, .ref qm), (1, .int 3)]) 35 (g6, (0 : Int32)) ⟨(show 0 ≤ (0 : Int32).toInt ∧ (0 : Int32).toInt ≤ 6 by decide), ⟨hP, hD⟩, hS, lv_sub hl [0, 1, 2, 3] rfl⟩ (fun x ih759 H locs ls hI => ?_)
        obtain ⟨g757, x758⟩ := x
        obtain ⟨h_x758, ⟨hP, hD⟩, hS, hl⟩ := hI
        change (0 ≤ x758.toInt ∧ x758.toInt ≤ 6) at h_x758
        obtain ⟨hP, hD⟩ : ct_B D A H [(qm_meets, .inl (cI, 30, .inl (fm_meets))), (qm_lines, .inl (cI, 5, .inl (fm_lines))), mo qm 0 qm_width qm_many qm_cells qm_moved qm_tape vm_taped vm_at vm_token vm_place vm_value vm_word vm_bad vm_badPlace vm_fault vm_faultPlace qm_lines qm_has qm_round qm_meets qm_stumble qm_isMud qm_cell qm_tune qm_change qm_isKept qm_steps qm_places qm_danced vm_runMost vm_runBegins qm_heardBy vm_fitMany vm_fitFirst vm_fitBeats vm_listenLeaves qm_there vm_metAt vm_metIn qm_wins vm_nightHoles vm_nightFirst vm_nightMud vm_nightSlips vm_drawnNow, (qm_wins, .inl (cI, 24576, .inl (g757)))] := ⟨hP, hD⟩
        have hl : lv_has ls 4 [(3, .int x758), (2, .int 64), (0, .ref qm), (1, .int 3)] := hl
        refine lv_iload_n hx hb dX12_plays_35 rfl (lv_at hl 0 rfl) ?_
        refine lv_bipush (v := 6) hx hb dX12_plays_36 (by decide) ?_
        refine lv_icmp_ge (tgt := 74) hx hb dX12_plays_38 (by decide) (fun hc => ?_) (fun hc => ?_)
        · have hq760 : 6 ≤ x758.toInt := tq_le (by decide) rfl hc
          refine lv_iconst (v := (-1)) hx hb dX12_plays_74 (by decide) ?_
          obtain ⟨hP9, hD9⟩ : ct_B D A H [mo qm 0 qm_width qm_many qm_cells qm_moved qm_tape vm_taped vm_at vm_token vm_place vm_value vm_word vm_bad vm_badPlace vm_fault vm_faultPlace qm_lines qm_has qm_round qm_meets qm_stumble qm_isMud qm_cell qm_tune qm_change qm_isKept qm_steps qm_places qm_danced vm_runMost vm_runBegins qm_heardBy vm_fitMany vm_fitFirst vm_fitBeats vm_listenLeaves qm_there vm_metAt vm_metIn qm_wins vm_nightHoles vm_nightFirst vm_nightMud vm_nightSlips vm_drawnNow, (qm_lines, .inl (cI, 5, .inl (fm_lines))), (qm_meets, .inl (cI, 30, .inl (fm_meets))), (qm_wins, .inl (cI, 24576, .inl (g757)))] := ⟨hP.sub [2, 1, 0, 3] rfl, hD.sub [2, 1, 0, 3] (by decide) rfl⟩
          exact W.iret (v := (-1)) hx hb hr (fun t ht hW => ⟨⟨(-1), ((0 : Int32), g757), rfl, (show (-2) ≤ (-1 : Int32).toInt ∧ (-1 : Int32).toInt ≤ 5 by decide), by rw [ht]; exact hP9, hD9⟩, hS.F ht⟩) hS.2.2 dX12_plays_75
        · have hq760 : x758.toInt < 6 := tq_nle (by decide) rfl hc
          rcases (show x758.toInt = 0 ∨ x758.toInt = 1 ∨ x758.toInt = 2 ∨ x758.toInt = 3 ∨ x758.toInt = 4 ∨ x758.toInt = 5 by omega) with hj | hj | hj | hj | hj | hj
          · have hj2 : x758 = 0 := tq_of hj (by decide)
            have hl : lv_has ls 4 [(3, .int 0), (2, .int 64), (0, .ref qm), (1, .int 3)] := by have h9 := hl; rw [hj2] at h9; exact h9
            refine lv_aload_n hx hb dX12_plays_41 rfl (lv_at hl 2 rfl) ?_
            refine lv_iload_n hx hb dX12_plays_42 rfl (lv_at hl 1 rfl) ?_
            refine lv_iload_n hx hb dX12_plays_43 rfl (lv_at hl 3 rfl) ?_
            refine lv_iload_n hx hb dX12_plays_44 rfl (lv_at hl 0 rfl) ?_
            refine ct_calli (D := D) (wr := [(qm_lines, .inl (cI, 5, .inl (fm_lines))), (qm_wins, .inl (cI, 24576, .inl (g757)))]) (va_runV (As := [.int 64, .int 3, .int 0]) (rest := []) ⟨hx, hb, hml, hown, hts⟩ (c_X12_isPlay l D G cI cJ cB cZ cO qm 0 qm_width qm_many qm_cells qm_moved qm_tape vm_taped vm_at vm_token vm_place vm_value vm_word vm_bad vm_badPlace vm_fault vm_faultPlace qm_lines qm_has qm_round qm_meets fm_meets qm_stumble qm_isMud qm_cell qm_tune qm_change qm_isKept qm_steps qm_places qm_danced vm_runMost vm_runBegins qm_heardBy vm_fitMany vm_fitFirst vm_fitBeats vm_listenLeaves qm_there vm_metAt vm_metIn qm_wins vm_nightHoles vm_nightFirst vm_nightMud vm_nightSlips vm_drawnNow 64 3 0 h_vm_taped h_vm_at h_vm_value (by decide) (by decide) H.size) (cwV 3 hts gX12_plays_X12_isPlay rfl rfl rfl (by decide +kernel) ⟨Nat.le_of_ble_eq_true rfl, Nat.le_of_ble_eq_true rfl⟩) (ct_preV (T := ct_T cI cJ cB cZ cO) (ci := 12) (q0 := 2) hE hH hP hD hS hA [2, 0] (by decide) rfl rfl rfl) rfl rfl hl.1 rfl (lv_room (Nat.le_of_ble_eq_true rfl)) dX12_plays_45 ⟨Nat.le_of_ble_eq_true rfl, Nat.le_of_ble_eq_true rfl⟩) hP hD hS hA [2, 0] [1, 3] rfl rfl (by decide) (by decide) (fun r761 u H locs hw hP hD hS => ?_)
            obtain ⟨hP, hD⟩ : ct_B D A H [(qm_lines, .inl (cI, 5, .inl (fm_lines))), (qm_wins, .inl (cI, 24576, .inl (g757))), mo qm 0 qm_width qm_many qm_cells qm_moved qm_tape vm_taped vm_at vm_token vm_place vm_value vm_word vm_bad vm_badPlace vm_fault vm_faultPlace qm_lines qm_has qm_round qm_meets qm_stumble qm_isMud qm_cell qm_tune qm_change qm_isKept qm_steps qm_places qm_danced vm_runMost vm_runBegins qm_heardBy vm_fitMany vm_fitFirst vm_fitBeats vm_listenLeaves qm_there vm_metAt vm_metIn qm_wins vm_nightHoles vm_nightFirst vm_nightMud vm_nightSlips vm_drawnNow, (qm_meets, .inl (cI, 30, .inl (fm_meets)))] := ⟨hP, hD⟩
            have hz := hw
            clear hw
            rcases hz with ⟨hz, hz2⟩ | ⟨hz, hz2⟩
            · subst hz
              have hz_762 : (pl (64 : Int32) (0 : Int32)) := hz2
              refine lv_if_eq (tgt := 68) hx hb dX12_plays_48 (by decide) (fun hc => absurd hc (by decide)) (fun _ => ?_)
              refine lv_aload_n hx hb dX12_plays_51 rfl (lv_at hl 2 rfl) ?_
              refine lv_iload_n hx hb dX12_plays_52 rfl (lv_at hl 1 rfl) ?_
              refine lv_iconst (v := 1) hx hb dX12_plays_53 (by decide) ?_
              refine lv_iconst (v := 2) hx hb dX12_plays_54 (by decide) ?_
              refine lv_iload_n hx hb dX12_plays_55 rfl (lv_at hl 0 rfl) ?_
              refine lv_imul hx hb dX12_plays_56 ?_
              refine lv_topi (fun z763 ez763 => ?_)
              obtain rfl : z763 = 0 := ez763.trans (by decide)
              refine lv_ishl hx hb dX12_plays_57 ?_
              refine lv_topi (fun z764 ez764 => ?_)
              obtain rfl : z764 = 1 := ez764.trans (by decide)
              refine lv_iadd hx hb dX12_plays_58 ?_
              refine lv_topi (fun z765 ez765 => ?_)
              obtain rfl : z765 = 65 := ez765.trans (by decide)
              refine lv_iload_n hx hb dX12_plays_59 rfl (lv_at hl 0 rfl) ?_
              refine ct_calli (D := D) (wr := [(qm_lines, .inl (cI, 5, .inl (fm_lines)))]) (va_runV (As := [.int 65, .int 0]) (rest := []) ⟨hx, hb, hml, hown, hts⟩ (c_X12_winsFrom l D G cI cJ cB cZ cO qm 0 qm_width qm_many qm_cells qm_moved qm_tape vm_taped vm_at vm_token vm_place vm_value vm_word vm_bad vm_badPlace vm_fault vm_faultPlace qm_lines qm_has qm_round qm_meets fm_meets qm_stumble qm_isMud qm_cell qm_tune qm_change qm_isKept qm_steps qm_places qm_danced vm_runMost vm_runBegins qm_heardBy vm_fitMany vm_fitFirst vm_fitBeats vm_listenLeaves qm_there vm_metAt vm_metIn qm_wins vm_nightHoles vm_nightFirst vm_nightMud vm_nightSlips vm_drawnNow h_vm_taped h_vm_at h_vm_value 12 g757 65 0 (by decide) (by unfold wn; decide +kernel) H.size) (cwV 2 hts gX12_plays_X12_winsFrom rfl rfl rfl (by decide +kernel) ⟨Nat.le_of_ble_eq_true rfl, Nat.le_of_ble_eq_true rfl⟩) (ct_preV (T := ct_T cI cJ cB cZ cO) (ci := 12) (q0 := 2) hE hH hP hD hS hA [2, 3, 1] (by decide) rfl rfl rfl) rfl rfl hl.1 rfl (lv_room (Nat.le_of_ble_eq_true rfl)) dX12_plays_60 ⟨Nat.le_of_ble_eq_true rfl, Nat.le_of_ble_eq_true rfl⟩) hP hD hS hA [2, 3, 1] [0] rfl rfl (by decide) (by decide) (fun r766 u H locs hw hP hD hS => ?_)
              obtain ⟨g767, rfl⟩ : ∃ z, z = u := ⟨_, rfl⟩
              obtain ⟨hP, hD⟩ : ct_B D A H [(qm_lines, .inl (cI, 5, .inl (fm_lines))), mo qm 0 qm_width qm_many qm_cells qm_moved qm_tape vm_taped vm_at vm_token vm_place vm_value vm_word vm_bad vm_badPlace vm_fault vm_faultPlace qm_lines qm_has qm_round qm_meets qm_stumble qm_isMud qm_cell qm_tune qm_change qm_isKept qm_steps qm_places qm_danced vm_runMost vm_runBegins qm_heardBy vm_fitMany vm_fitFirst vm_fitBeats vm_listenLeaves qm_there vm_metAt vm_metIn qm_wins vm_nightHoles vm_nightFirst vm_nightMud vm_nightSlips vm_drawnNow, (qm_meets, .inl (cI, 30, .inl (fm_meets))), (qm_wins, .inl (cI, 24576, .inl (g767)))] := ⟨hP, hD⟩
              have hz := hw
              clear hw
              rcases hz with ⟨hz, hz2⟩ | ⟨hz, hz2⟩
              · subst hz
                refine lv_if_ne (tgt := 68) hx hb dX12_plays_63 (by decide) (fun _ => ?_) (fun hc => absurd hc (by decide))
                refine lv_iinc (v := 1) (lv' := [(3, .int 1), (2, .int 64), (0, .ref qm), (1, .int 3)]) hx hb dX12_plays_68 hl (k := 0) rfl (by decide) (by decide) rfl (fun ls hl => ?_)
                refine lv_goto (tgt := 35) hx hb dX12_plays_71 (by decide) ?_
                have hk768 : (1 : Int32).toInt = 1 := by decide
                obtain ⟨hP9, hD9⟩ : ct_B D A H [(qm_meets, .inl (cI, 30, .inl (fm_meets))), (qm_lines, .inl (cI, 5, .inl (fm_lines))), mo qm 0 qm_width qm_many qm_cells qm_moved qm_tape vm_taped vm_at vm_token vm_place vm_value vm_word vm_bad vm_badPlace vm_fault vm_faultPlace qm_lines qm_has qm_round qm_meets qm_stumble qm_isMud qm_cell qm_tune qm_change qm_isKept qm_steps qm_places qm_danced vm_runMost vm_runBegins qm_heardBy vm_fitMany vm_fitFirst vm_fitBeats vm_listenLeaves qm_there vm_metAt vm_metIn qm_wins vm_nightHoles vm_nightFirst vm_nightMud vm_nightSlips vm_drawnNow, (qm_wins, .inl (cI, 24576, .inl (g767)))] := ⟨hP.sub [2, 0, 1, 3] rfl, hD.sub [2, 0, 1, 3] (by decide) rfl⟩
                exact ih759 (g767, (1 : Int32)) _ _ _ (show (6 - (1 : Int32).toInt).toNat < (6 - x758.toInt).toNat by omega) ⟨(show 0 ≤ (1 : Int32).toInt ∧ (1 : Int32).toInt ≤ 6 by decide), ⟨hP9, hD9⟩, hS, lv_sub hl [0, 1, 2, 3] rfl⟩
              · subst hz
                refine lv_if_ne (tgt := 68) hx hb dX12_plays_63 (by decide) (fun hc => absurd hc (by decide)) (fun _ => ?_)
                refine lv_iload_n hx hb dX12_plays_66 rfl (lv_at hl 0 rfl) ?_
                obtain ⟨hP9, hD9⟩ : ct_B D A H [mo qm 0 qm_width qm_many qm_cells qm_moved qm_tape vm_taped vm_at vm_token vm_place vm_value vm_word vm_bad vm_badPlace vm_fault vm_faultPlace qm_lines qm_has qm_round qm_meets qm_stumble qm_isMud qm_cell qm_tune qm_change qm_isKept qm_steps qm_places qm_danced vm_runMost vm_runBegins qm_heardBy vm_fitMany vm_fitFirst vm_fitBeats vm_listenLeaves qm_there vm_metAt vm_metIn qm_wins vm_nightHoles vm_nightFirst vm_nightMud vm_nightSlips vm_drawnNow, (qm_lines, .inl (cI, 5, .inl (fm_lines))), (qm_meets, .inl (cI, 30, .inl (fm_meets))), (qm_wins, .inl (cI, 24576, .inl (g767)))] := ⟨hP.sub [1, 0, 2, 3] rfl, hD.sub [1, 0, 2, 3] (by decide) rfl⟩
                exact W.iret (v := 0) hx hb hr (fun t ht hW => ⟨⟨0, ((0 : Int32), g767), rfl, (show (-2) ≤ (0 : Int32).toInt ∧ (0 : Int32).toInt ≤ 5 by decide), by rw [ht]; exact hP9, hD9⟩, hS.F ht⟩) hS.2.2 dX12_plays_67
            · subst hz
              refine lv_if_eq (tgt := 68) hx hb dX12_plays_48 (by decide) (fun _ => ?_) (fun hc => absurd hc (by decide))
              refine lv_iinc (v := 1) (lv' := [(3, .int 1), (2, .int 64), (0, .ref qm), (1, .int 3)]) hx hb dX12_plays_68 hl (k := 0) rfl (by decide) (by decide) rfl (fun ls hl => ?_)
              refine lv_goto (tgt := 35) hx hb dX12_plays_71 (by decide) ?_
              have hk769 : (1 : Int32).toInt = 1 := by decide
              obtain ⟨hP9, hD9⟩ : ct_B D A H [(qm_meets, .inl (cI, 30, .inl (fm_meets))), (qm_lines, .inl (cI, 5, .inl (fm_lines))), mo qm 0 qm_width qm_many qm_cells qm_moved qm_tape vm_taped vm_at vm_token vm_place vm_value vm_word vm_bad vm_badPlace vm_fault vm_faultPlace qm_lines qm_has qm_round qm_meets qm_stumble qm_isMud qm_cell qm_tune qm_change qm_isKept qm_steps qm_places qm_danced vm_runMost vm_runBegins qm_heardBy vm_fitMany vm_fitFirst vm_fitBeats vm_listenLeaves qm_there vm_metAt vm_metIn qm_wins vm_nightHoles vm_nightFirst vm_nightMud vm_nightSlips vm_drawnNow, (qm_wins, .inl (cI, 24576, .inl (g757)))] := ⟨hP.sub [3, 0, 2, 1] rfl, hD.sub [3, 0, 2, 1] (by decide) rfl⟩
              exact ih759 (g757, (1 : Int32)) _ _ _ (show (6 - (1 : Int32).toInt).toNat < (6 - x758.toInt).toNat by omega) ⟨(show 0 ≤ (1 : Int32).toInt ∧ (1 : Int32).toInt ≤ 6 by decide), ⟨hP9, hD9⟩, hS, lv_sub hl [0, 1, 2, 3] rfl⟩
          · have hj2 : x758 = 1 := tq_of hj (by decide)
            have hl : lv_has ls 4 [(3, .int 1), (2, .int 64), (0, .ref qm), (1, .int 3)] := by have h9 := hl; rw [hj2] at h9; exact h9
            refine lv_aload_n hx hb dX12_plays_41 rfl (lv_at hl 2 rfl) ?_
            refine lv_iload_n hx hb dX12_plays_42 rfl (lv_at hl 1 rfl) ?_
            refine lv_iload_n hx hb dX12_plays_43 rfl (lv_at hl 3 rfl) ?_
            refine lv_iload_n hx hb dX12_plays_44 rfl (lv_at hl 0 rfl) ?_
            refine ct_calli (D := D) (wr := [(qm_lines, .inl (cI, 5, .inl (fm_lines))), (qm_wins, .inl (cI, 24576, .inl (g757)))]) (va_runV (As := [.int 64, .int 3, .int 1]) (rest := []) ⟨hx, hb, hml, hown, hts⟩ (c_X12_isPlay l D G cI cJ cB cZ cO qm 0 qm_width qm_many qm_cells qm_moved qm_tape vm_taped vm_at vm_token vm_place vm_value vm_word vm_bad vm_badPlace vm_fault vm_faultPlace qm_lines qm_has qm_round qm_meets fm_meets qm_stumble qm_isMud qm_cell qm_tune qm_change qm_isKept qm_steps qm_places qm_danced vm_runMost vm_runBegins qm_heardBy vm_fitMany vm_fitFirst vm_fitBeats vm_listenLeaves qm_there vm_metAt vm_metIn qm_wins vm_nightHoles vm_nightFirst vm_nightMud vm_nightSlips vm_drawnNow 64 3 1 h_vm_taped h_vm_at h_vm_value (by decide) (by decide) H.size) (cwV 3 hts gX12_plays_X12_isPlay rfl rfl rfl (by decide +kernel) ⟨Nat.le_of_ble_eq_true rfl, Nat.le_of_ble_eq_true rfl⟩) (ct_preV (T := ct_T cI cJ cB cZ cO) (ci := 12) (q0 := 2) hE hH hP hD hS hA [2, 0] (by decide) rfl rfl rfl) rfl rfl hl.1 rfl (lv_room (Nat.le_of_ble_eq_true rfl)) dX12_plays_45 ⟨Nat.le_of_ble_eq_true rfl, Nat.le_of_ble_eq_true rfl⟩) hP hD hS hA [2, 0] [1, 3] rfl rfl (by decide) (by decide) (fun r770 u H locs hw hP hD hS => ?_)
            obtain ⟨hP, hD⟩ : ct_B D A H [(qm_lines, .inl (cI, 5, .inl (fm_lines))), (qm_wins, .inl (cI, 24576, .inl (g757))), mo qm 0 qm_width qm_many qm_cells qm_moved qm_tape vm_taped vm_at vm_token vm_place vm_value vm_word vm_bad vm_badPlace vm_fault vm_faultPlace qm_lines qm_has qm_round qm_meets qm_stumble qm_isMud qm_cell qm_tune qm_change qm_isKept qm_steps qm_places qm_danced vm_runMost vm_runBegins qm_heardBy vm_fitMany vm_fitFirst vm_fitBeats vm_listenLeaves qm_there vm_metAt vm_metIn qm_wins vm_nightHoles vm_nightFirst vm_nightMud vm_nightSlips vm_drawnNow, (qm_meets, .inl (cI, 30, .inl (fm_meets)))] := ⟨hP, hD⟩
            have hz := hw
            clear hw
            rcases hz with ⟨hz, hz2⟩ | ⟨hz, hz2⟩
            · subst hz
              have hz_771 : (pl (64 : Int32) (1 : Int32)) := hz2
              refine lv_if_eq (tgt := 68) hx hb dX12_plays_48 (by decide) (fun hc => absurd hc (by decide)) (fun _ => ?_)
              refine lv_aload_n hx hb dX12_plays_51 rfl (lv_at hl 2 rfl) ?_
              refine lv_iload_n hx hb dX12_plays_52 rfl (lv_at hl 1 rfl) ?_
              refine lv_iconst (v := 1) hx hb dX12_plays_53 (by decide) ?_
              refine lv_iconst (v := 2) hx hb dX12_plays_54 (by decide) ?_
              refine lv_iload_n hx hb dX12_plays_55 rfl (lv_at hl 0 rfl) ?_
              refine lv_imul hx hb dX12_plays_56 ?_
              refine lv_topi (fun z772 ez772 => ?_)
              obtain rfl : z772 = 2 := ez772.trans (by decide)
              refine lv_ishl hx hb dX12_plays_57 ?_
              refine lv_topi (fun z773 ez773 => ?_)
              obtain rfl : z773 = 4 := ez773.trans (by decide)
              refine lv_iadd hx hb dX12_plays_58 ?_
              refine lv_topi (fun z774 ez774 => ?_)
              obtain rfl : z774 = 68 := ez774.trans (by decide)
              refine lv_iload_n hx hb dX12_plays_59 rfl (lv_at hl 0 rfl) ?_
              refine ct_calli (D := D) (wr := [(qm_lines, .inl (cI, 5, .inl (fm_lines)))]) (va_runV (As := [.int 68, .int 1]) (rest := []) ⟨hx, hb, hml, hown, hts⟩ (c_X12_winsFrom l D G cI cJ cB cZ cO qm 0 qm_width qm_many qm_cells qm_moved qm_tape vm_taped vm_at vm_token vm_place vm_value vm_word vm_bad vm_badPlace vm_fault vm_faultPlace qm_lines qm_has qm_round qm_meets fm_meets qm_stumble qm_isMud qm_cell qm_tune qm_change qm_isKept qm_steps qm_places qm_danced vm_runMost vm_runBegins qm_heardBy vm_fitMany vm_fitFirst vm_fitBeats vm_listenLeaves qm_there vm_metAt vm_metIn qm_wins vm_nightHoles vm_nightFirst vm_nightMud vm_nightSlips vm_drawnNow h_vm_taped h_vm_at h_vm_value 12 g757 68 1 (by decide) (by unfold wn; decide +kernel) H.size) (cwV 2 hts gX12_plays_X12_winsFrom rfl rfl rfl (by decide +kernel) ⟨Nat.le_of_ble_eq_true rfl, Nat.le_of_ble_eq_true rfl⟩) (ct_preV (T := ct_T cI cJ cB cZ cO) (ci := 12) (q0 := 2) hE hH hP hD hS hA [2, 3, 1] (by decide) rfl rfl rfl) rfl rfl hl.1 rfl (lv_room (Nat.le_of_ble_eq_true rfl)) dX12_plays_60 ⟨Nat.le_of_ble_eq_true rfl, Nat.le_of_ble_eq_true rfl⟩) hP hD hS hA [2, 3, 1] [0] rfl rfl (by decide) (by decide) (fun r775 u H locs hw hP hD hS => ?_)
              obtain ⟨g776, rfl⟩ : ∃ z, z = u := ⟨_, rfl⟩
              obtain ⟨hP, hD⟩ : ct_B D A H [(qm_lines, .inl (cI, 5, .inl (fm_lines))), mo qm 0 qm_width qm_many qm_cells qm_moved qm_tape vm_taped vm_at vm_token vm_place vm_value vm_word vm_bad vm_badPlace vm_fault vm_faultPlace qm_lines qm_has qm_round qm_meets qm_stumble qm_isMud qm_cell qm_tune qm_change qm_isKept qm_steps qm_places qm_danced vm_runMost vm_runBegins qm_heardBy vm_fitMany vm_fitFirst vm_fitBeats vm_listenLeaves qm_there vm_metAt vm_metIn qm_wins vm_nightHoles vm_nightFirst vm_nightMud vm_nightSlips vm_drawnNow, (qm_meets, .inl (cI, 30, .inl (fm_meets))), (qm_wins, .inl (cI, 24576, .inl (g776)))] := ⟨hP, hD⟩
              have hz := hw
              clear hw
              rcases hz with ⟨hz, hz2⟩ | ⟨hz, hz2⟩
              · subst hz
                refine lv_if_ne (tgt := 68) hx hb dX12_plays_63 (by decide) (fun _ => ?_) (fun hc => absurd hc (by decide))
                refine lv_iinc (v := 2) (lv' := [(3, .int 2), (2, .int 64), (0, .ref qm), (1, .int 3)]) hx hb dX12_plays_68 hl (k := 0) rfl (by decide) (by decide) rfl (fun ls hl => ?_)
                refine lv_goto (tgt := 35) hx hb dX12_plays_71 (by decide) ?_
                have hk777 : (2 : Int32).toInt = 2 := by decide
                obtain ⟨hP9, hD9⟩ : ct_B D A H [(qm_meets, .inl (cI, 30, .inl (fm_meets))), (qm_lines, .inl (cI, 5, .inl (fm_lines))), mo qm 0 qm_width qm_many qm_cells qm_moved qm_tape vm_taped vm_at vm_token vm_place vm_value vm_word vm_bad vm_badPlace vm_fault vm_faultPlace qm_lines qm_has qm_round qm_meets qm_stumble qm_isMud qm_cell qm_tune qm_change qm_isKept qm_steps qm_places qm_danced vm_runMost vm_runBegins qm_heardBy vm_fitMany vm_fitFirst vm_fitBeats vm_listenLeaves qm_there vm_metAt vm_metIn qm_wins vm_nightHoles vm_nightFirst vm_nightMud vm_nightSlips vm_drawnNow, (qm_wins, .inl (cI, 24576, .inl (g776)))] := ⟨hP.sub [2, 0, 1, 3] rfl, hD.sub [2, 0, 1, 3] (by decide) rfl⟩
                exact ih759 (g776, (2 : Int32)) _ _ _ (show (6 - (2 : Int32).toInt).toNat < (6 - x758.toInt).toNat by omega) ⟨(show 0 ≤ (2 : Int32).toInt ∧ (2 : Int32).toInt ≤ 6 by decide), ⟨hP9, hD9⟩, hS, lv_sub hl [0, 1, 2, 3] rfl⟩
              · subst hz
                refine lv_if_ne (tgt := 68) hx hb dX12_plays_63 (by decide) (fun hc => absurd hc (by decide)) (fun _ => ?_)
                refine lv_iload_n hx hb dX12_plays_66 rfl (lv_at hl 0 rfl) ?_
                obtain ⟨hP9, hD9⟩ : ct_B D A H [mo qm 0 qm_width qm_many qm_cells qm_moved qm_tape vm_taped vm_at vm_token vm_place vm_value vm_word vm_bad vm_badPlace vm_fault vm_faultPlace qm_lines qm_has qm_round qm_meets qm_stumble qm_isMud qm_cell qm_tune qm_change qm_isKept qm_steps qm_places qm_danced vm_runMost vm_runBegins qm_heardBy vm_fitMany vm_fitFirst vm_fitBeats vm_listenLeaves qm_there vm_metAt vm_metIn qm_wins vm_nightHoles vm_nightFirst vm_nightMud vm_nightSlips vm_drawnNow, (qm_lines, .inl (cI, 5, .inl (fm_lines))), (qm_meets, .inl (cI, 30, .inl (fm_meets))), (qm_wins, .inl (cI, 24576, .inl (g776)))] := ⟨hP.sub [1, 0, 2, 3] rfl, hD.sub [1, 0, 2, 3] (by decide) rfl⟩
                exact W.iret (v := 1) hx hb hr (fun t ht hW => ⟨⟨1, ((0 : Int32), g776), rfl, (show (-2) ≤ (1 : Int32).toInt ∧ (1 : Int32).toInt ≤ 5 by decide), by rw [ht]; exact hP9, hD9⟩, hS.F ht⟩) hS.2.2 dX12_plays_67
            · subst hz
              refine lv_if_eq (tgt := 68) hx hb dX12_plays_48 (by decide) (fun _ => ?_) (fun hc => absurd hc (by decide))
              refine lv_iinc (v := 2) (lv' := [(3, .int 2), (2, .int 64), (0, .ref qm), (1, .int 3)]) hx hb dX12_plays_68 hl (k := 0) rfl (by decide) (by decide) rfl (fun ls hl => ?_)
              refine lv_goto (tgt := 35) hx hb dX12_plays_71 (by decide) ?_
              have hk778 : (2 : Int32).toInt = 2 := by decide
              obtain ⟨hP9, hD9⟩ : ct_B D A H [(qm_meets, .inl (cI, 30, .inl (fm_meets))), (qm_lines, .inl (cI, 5, .inl (fm_lines))), mo qm 0 qm_width qm_many qm_cells qm_moved qm_tape vm_taped vm_at vm_token vm_place vm_value vm_word vm_bad vm_badPlace vm_fault vm_faultPlace qm_lines qm_has qm_round qm_meets qm_stumble qm_isMud qm_cell qm_tune qm_change qm_isKept qm_steps qm_places qm_danced vm_runMost vm_runBegins qm_heardBy vm_fitMany vm_fitFirst vm_fitBeats vm_listenLeaves qm_there vm_metAt vm_metIn qm_wins vm_nightHoles vm_nightFirst vm_nightMud vm_nightSlips vm_drawnNow, (qm_wins, .inl (cI, 24576, .inl (g757)))] := ⟨hP.sub [3, 0, 2, 1] rfl, hD.sub [3, 0, 2, 1] (by decide) rfl⟩
              exact ih759 (g757, (2 : Int32)) _ _ _ (show (6 - (2 : Int32).toInt).toNat < (6 - x758.toInt).toNat by omega) ⟨(show 0 ≤ (2 : Int32).toInt ∧ (2 : Int32).toInt ≤ 6 by decide), ⟨hP9, hD9⟩, hS, lv_sub hl [0, 1, 2, 3] rfl⟩
          · have hj2 : x758 = 2 := tq_of hj (by decide)
            have hl : lv_has ls 4 [(3, .int 2), (2, .int 64), (0, .ref qm), (1, .int 3)] := by have h9 := hl; rw [hj2] at h9; exact h9
            refine lv_aload_n hx hb dX12_plays_41 rfl (lv_at hl 2 rfl) ?_
            refine lv_iload_n hx hb dX12_plays_42 rfl (lv_at hl 1 rfl) ?_
            refine lv_iload_n hx hb dX12_plays_43 rfl (lv_at hl 3 rfl) ?_
            refine lv_iload_n hx hb dX12_plays_44 rfl (lv_at hl 0 rfl) ?_
            refine ct_calli (D := D) (wr := [(qm_lines, .inl (cI, 5, .inl (fm_lines))), (qm_wins, .inl (cI, 24576, .inl (g757)))]) (va_runV (As := [.int 64, .int 3, .int 2]) (rest := []) ⟨hx, hb, hml, hown, hts⟩ (c_X12_isPlay l D G cI cJ cB cZ cO qm 0 qm_width qm_many qm_cells qm_moved qm_tape vm_taped vm_at vm_token vm_place vm_value vm_word vm_bad vm_badPlace vm_fault vm_faultPlace qm_lines qm_has qm_round qm_meets fm_meets qm_stumble qm_isMud qm_cell qm_tune qm_change qm_isKept qm_steps qm_places qm_danced vm_runMost vm_runBegins qm_heardBy vm_fitMany vm_fitFirst vm_fitBeats vm_listenLeaves qm_there vm_metAt vm_metIn qm_wins vm_nightHoles vm_nightFirst vm_nightMud vm_nightSlips vm_drawnNow 64 3 2 h_vm_taped h_vm_at h_vm_value (by decide) (by decide) H.size) (cwV 3 hts gX12_plays_X12_isPlay rfl rfl rfl (by decide +kernel) ⟨Nat.le_of_ble_eq_true rfl, Nat.le_of_ble_eq_true rfl⟩) (ct_preV (T := ct_T cI cJ cB cZ cO) (ci := 12) (q0 := 2) hE hH hP hD hS hA [2, 0] (by decide) rfl rfl rfl) rfl rfl hl.1 rfl (lv_room (Nat.le_of_ble_eq_true rfl)) dX12_plays_45 ⟨Nat.le_of_ble_eq_true rfl, Nat.le_of_ble_eq_true rfl⟩) hP hD hS hA [2, 0] [1, 3] rfl rfl (by decide) (by decide) (fun r779 u H locs hw hP hD hS => ?_)
            obtain ⟨hP, hD⟩ : ct_B D A H [(qm_lines, .inl (cI, 5, .inl (fm_lines))), (qm_wins, .inl (cI, 24576, .inl (g757))), mo qm 0 qm_width qm_many qm_cells qm_moved qm_tape vm_taped vm_at vm_token vm_place vm_value vm_word vm_bad vm_badPlace vm_fault vm_faultPlace qm_lines qm_has qm_round qm_meets qm_stumble qm_isMud qm_cell qm_tune qm_change qm_isKept qm_steps qm_places qm_danced vm_runMost vm_runBegins qm_heardBy vm_fitMany vm_fitFirst vm_fitBeats vm_listenLeaves qm_there vm_metAt vm_metIn qm_wins vm_nightHoles vm_nightFirst vm_nightMud vm_nightSlips vm_drawnNow, (qm_meets, .inl (cI, 30, .inl (fm_meets)))] := ⟨hP, hD⟩
            have hz := hw
            clear hw
            rcases hz with ⟨hz, hz2⟩ | ⟨hz, hz2⟩
            · subst hz
              have hz_780 : (pl (64 : Int32) (2 : Int32)) := hz2
              refine lv_if_eq (tgt := 68) hx hb dX12_plays_48 (by decide) (fun hc => absurd hc (by decide)) (fun _ => ?_)
              refine lv_aload_n hx hb dX12_plays_51 rfl (lv_at hl 2 rfl) ?_
              refine lv_iload_n hx hb dX12_plays_52 rfl (lv_at hl 1 rfl) ?_
              refine lv_iconst (v := 1) hx hb dX12_plays_53 (by decide) ?_
              refine lv_iconst (v := 2) hx hb dX12_plays_54 (by decide) ?_
              refine lv_iload_n hx hb dX12_plays_55 rfl (lv_at hl 0 rfl) ?_
              refine lv_imul hx hb dX12_plays_56 ?_
              refine lv_topi (fun z781 ez781 => ?_)
              obtain rfl : z781 = 4 := ez781.trans (by decide)
              refine lv_ishl hx hb dX12_plays_57 ?_
              refine lv_topi (fun z782 ez782 => ?_)
              obtain rfl : z782 = 16 := ez782.trans (by decide)
              refine lv_iadd hx hb dX12_plays_58 ?_
              refine lv_topi (fun z783 ez783 => ?_)
              obtain rfl : z783 = 80 := ez783.trans (by decide)
              refine lv_iload_n hx hb dX12_plays_59 rfl (lv_at hl 0 rfl) ?_
              refine ct_calli (D := D) (wr := [(qm_lines, .inl (cI, 5, .inl (fm_lines)))]) (va_runV (As := [.int 80, .int 2]) (rest := []) ⟨hx, hb, hml, hown, hts⟩ (c_X12_winsFrom l D G cI cJ cB cZ cO qm 0 qm_width qm_many qm_cells qm_moved qm_tape vm_taped vm_at vm_token vm_place vm_value vm_word vm_bad vm_badPlace vm_fault vm_faultPlace qm_lines qm_has qm_round qm_meets fm_meets qm_stumble qm_isMud qm_cell qm_tune qm_change qm_isKept qm_steps qm_places qm_danced vm_runMost vm_runBegins qm_heardBy vm_fitMany vm_fitFirst vm_fitBeats vm_listenLeaves qm_there vm_metAt vm_metIn qm_wins vm_nightHoles vm_nightFirst vm_nightMud vm_nightSlips vm_drawnNow h_vm_taped h_vm_at h_vm_value 12 g757 80 2 (by decide) (by unfold wn; decide +kernel) H.size) (cwV 2 hts gX12_plays_X12_winsFrom rfl rfl rfl (by decide +kernel) ⟨Nat.le_of_ble_eq_true rfl, Nat.le_of_ble_eq_true rfl⟩) (ct_preV (T := ct_T cI cJ cB cZ cO) (ci := 12) (q0 := 2) hE hH hP hD hS hA [2, 3, 1] (by decide) rfl rfl rfl) rfl rfl hl.1 rfl (lv_room (Nat.le_of_ble_eq_true rfl)) dX12_plays_60 ⟨Nat.le_of_ble_eq_true rfl, Nat.le_of_ble_eq_true rfl⟩) hP hD hS hA [2, 3, 1] [0] rfl rfl (by decide) (by decide) (fun r784 u H locs hw hP hD hS => ?_)
              obtain ⟨g785, rfl⟩ : ∃ z, z = u := ⟨_, rfl⟩
              obtain ⟨hP, hD⟩ : ct_B D A H [(qm_lines, .inl (cI, 5, .inl (fm_lines))), mo qm 0 qm_width qm_many qm_cells qm_moved qm_tape vm_taped vm_at vm_token vm_place vm_value vm_word vm_bad vm_badPlace vm_fault vm_faultPlace qm_lines qm_has qm_round qm_meets qm_stumble qm_isMud qm_cell qm_tune qm_change qm_isKept qm_steps qm_places qm_danced vm_runMost vm_runBegins qm_heardBy vm_fitMany vm_fitFirst vm_fitBeats vm_listenLeaves qm_there vm_metAt vm_metIn qm_wins vm_nightHoles vm_nightFirst vm_nightMud vm_nightSlips vm_drawnNow, (qm_meets, .inl (cI, 30, .inl (fm_meets))), (qm_wins, .inl (cI, 24576, .inl (g785)))] := ⟨hP, hD⟩
              have hz := hw
              clear hw
              rcases hz with ⟨hz, hz2⟩ | ⟨hz, hz2⟩
              · subst hz
                refine lv_if_ne (tgt := 68) hx hb dX12_plays_63 (by decide) (fun _ => ?_) (fun hc => absurd hc (by decide))
                refine lv_iinc (v := 3) (lv' := [(3, .int 3), (2, .int 64), (0, .ref qm), (1, .int 3)]) hx hb dX12_plays_68 hl (k := 0) rfl (by decide) (by decide) rfl (fun ls hl => ?_)
                refine lv_goto (tgt := 35) hx hb dX12_plays_71 (by decide) ?_
                have hk786 : (3 : Int32).toInt = 3 := by decide
                obtain ⟨hP9, hD9⟩ : ct_B D A H [(qm_meets, .inl (cI, 30, .inl (fm_meets))), (qm_lines, .inl (cI, 5, .inl (fm_lines))), mo qm 0 qm_width qm_many qm_cells qm_moved qm_tape vm_taped vm_at vm_token vm_place vm_value vm_word vm_bad vm_badPlace vm_fault vm_faultPlace qm_lines qm_has qm_round qm_meets qm_stumble qm_isMud qm_cell qm_tune qm_change qm_isKept qm_steps qm_places qm_danced vm_runMost vm_runBegins qm_heardBy vm_fitMany vm_fitFirst vm_fitBeats vm_listenLeaves qm_there vm_metAt vm_metIn qm_wins vm_nightHoles vm_nightFirst vm_nightMud vm_nightSlips vm_drawnNow, (qm_wins, .inl (cI, 24576, .inl (g785)))] := ⟨hP.sub [2, 0, 1, 3] rfl, hD.sub [2, 0, 1, 3] (by decide) rfl⟩
                exact ih759 (g785, (3 : Int32)) _ _ _ (show (6 - (3 : Int32).toInt).toNat < (6 - x758.toInt).toNat by omega) ⟨(show 0 ≤ (3 : Int32).toInt ∧ (3 : Int32).toInt ≤ 6 by decide), ⟨hP9, hD9⟩, hS, lv_sub hl [0, 1, 2, 3] rfl⟩
              · subst hz
                refine lv_if_ne (tgt := 68) hx hb dX12_plays_63 (by decide) (fun hc => absurd hc (by decide)) (fun _ => ?_)
                refine lv_iload_n hx hb dX12_plays_66 rfl (lv_at hl 0 rfl) ?_
                obtain ⟨hP9, hD9⟩ : ct_B D A H [mo qm 0 qm_width qm_many qm_cells qm_moved qm_tape vm_taped vm_at vm_token vm_place vm_value vm_word vm_bad vm_badPlace vm_fault vm_faultPlace qm_lines qm_has qm_round qm_meets qm_stumble qm_isMud qm_cell qm_tune qm_change qm_isKept qm_steps qm_places qm_danced vm_runMost vm_runBegins qm_heardBy vm_fitMany vm_fitFirst vm_fitBeats vm_listenLeaves qm_there vm_metAt vm_metIn qm_wins vm_nightHoles vm_nightFirst vm_nightMud vm_nightSlips vm_drawnNow, (qm_lines, .inl (cI, 5, .inl (fm_lines))), (qm_meets, .inl (cI, 30, .inl (fm_meets))), (qm_wins, .inl (cI, 24576, .inl (g785)))] := ⟨hP.sub [1, 0, 2, 3] rfl, hD.sub [1, 0, 2, 3] (by decide) rfl⟩
                exact W.iret (v := 2) hx hb hr (fun t ht hW => ⟨⟨2, ((0 : Int32), g785), rfl, (show (-2) ≤ (2 : Int32).toInt ∧ (2 : Int32).toInt ≤ 5 by decide), by rw [ht]; exact hP9, hD9⟩, hS.F ht⟩) hS.2.2 dX12_plays_67
            · subst hz
              refine lv_if_eq (tgt := 68) hx hb dX12_plays_48 (by decide) (fun _ => ?_) (fun hc => absurd hc (by decide))
              refine lv_iinc (v := 3) (lv' := [(3, .int 3), (2, .int 64), (0, .ref qm), (1, .int 3)]) hx hb dX12_plays_68 hl (k := 0) rfl (by decide) (by decide) rfl (fun ls hl => ?_)
              refine lv_goto (tgt := 35) hx hb dX12_plays_71 (by decide) ?_
              have hk787 : (3 : Int32).toInt = 3 := by decide
              obtain ⟨hP9, hD9⟩ : ct_B D A H [(qm_meets, .inl (cI, 30, .inl (fm_meets))), (qm_lines, .inl (cI, 5, .inl (fm_lines))), mo qm 0 qm_width qm_many qm_cells qm_moved qm_tape vm_taped vm_at vm_token vm_place vm_value vm_word vm_bad vm_badPlace vm_fault vm_faultPlace qm_lines qm_has qm_round qm_meets qm_stumble qm_isMud qm_cell qm_tune qm_change qm_isKept qm_steps qm_places qm_danced vm_runMost vm_runBegins qm_heardBy vm_fitMany vm_fitFirst vm_fitBeats vm_listenLeaves qm_there vm_metAt vm_metIn qm_wins vm_nightHoles vm_nightFirst vm_nightMud vm_nightSlips vm_drawnNow, (qm_wins, .inl (cI, 24576, .inl (g757)))] := ⟨hP.sub [3, 0, 2, 1] rfl, hD.sub [3, 0, 2, 1] (by decide) rfl⟩
              exact ih759 (g757, (3 : Int32)) _ _ _ (show (6 - (3 : Int32).toInt).toNat < (6 - x758.toInt).toNat by omega) ⟨(show 0 ≤ (3 : Int32).toInt ∧ (3 : Int32).toInt ≤ 6 by decide), ⟨hP9, hD9⟩, hS, lv_sub hl [0, 1, 2, 3] rfl⟩
          · have hj2 : x758 = 3 := tq_of hj (by decide)
            have hl : lv_has ls 4 [(3, .int 3), (2, .int 64), (0, .ref qm), (1, .int 3)] := by have h9 := hl; rw [hj2] at h9; exact h9
            refine lv_aload_n hx hb dX12_plays_41 rfl (lv_at hl 2 rfl) ?_
            refine lv_iload_n hx hb dX12_plays_42 rfl (lv_at hl 1 rfl) ?_
            refine lv_iload_n hx hb dX12_plays_43 rfl (lv_at hl 3 rfl) ?_
            refine lv_iload_n hx hb dX12_plays_44 rfl (lv_at hl 0 rfl) ?_
            refine ct_calli (D := D) (wr := [(qm_lines, .inl (cI, 5, .inl (fm_lines))), (qm_wins, .inl (cI, 24576, .inl (g757)))]) (va_runV (As := [.int 64, .int 3, .int 3]) (rest := []) ⟨hx, hb, hml, hown, hts⟩ (c_X12_isPlay l D G cI cJ cB cZ cO qm 0 qm_width qm_many qm_cells qm_moved qm_tape vm_taped vm_at vm_token vm_place vm_value vm_word vm_bad vm_badPlace vm_fault vm_faultPlace qm_lines qm_has qm_round qm_meets fm_meets qm_stumble qm_isMud qm_cell qm_tune qm_change qm_isKept qm_steps qm_places qm_danced vm_runMost vm_runBegins qm_heardBy vm_fitMany vm_fitFirst vm_fitBeats vm_listenLeaves qm_there vm_metAt vm_metIn qm_wins vm_nightHoles vm_nightFirst vm_nightMud vm_nightSlips vm_drawnNow 64 3 3 h_vm_taped h_vm_at h_vm_value (by decide) (by decide) H.size) (cwV 3 hts gX12_plays_X12_isPlay rfl rfl rfl (by decide +kernel) ⟨Nat.le_of_ble_eq_true rfl, Nat.le_of_ble_eq_true rfl⟩) (ct_preV (T := ct_T cI cJ cB cZ cO) (ci := 12) (q0 := 2) hE hH hP hD hS hA [2, 0] (by decide) rfl rfl rfl) rfl rfl hl.1 rfl (lv_room (Nat.le_of_ble_eq_true rfl)) dX12_plays_45 ⟨Nat.le_of_ble_eq_true rfl, Nat.le_of_ble_eq_true rfl⟩) hP hD hS hA [2, 0] [1, 3] rfl rfl (by decide) (by decide) (fun r788 u H locs hw hP hD hS => ?_)
            obtain ⟨hP, hD⟩ : ct_B D A H [(qm_lines, .inl (cI, 5, .inl (fm_lines))), (qm_wins, .inl (cI, 24576, .inl (g757))), mo qm 0 qm_width qm_many qm_cells qm_moved qm_tape vm_taped vm_at vm_token vm_place vm_value vm_word vm_bad vm_badPlace vm_fault vm_faultPlace qm_lines qm_has qm_round qm_meets qm_stumble qm_isMud qm_cell qm_tune qm_change qm_isKept qm_steps qm_places qm_danced vm_runMost vm_runBegins qm_heardBy vm_fitMany vm_fitFirst vm_fitBeats vm_listenLeaves qm_there vm_metAt vm_metIn qm_wins vm_nightHoles vm_nightFirst vm_nightMud vm_nightSlips vm_drawnNow, (qm_meets, .inl (cI, 30, .inl (fm_meets)))] := ⟨hP, hD⟩
            have hz := hw
            clear hw
            rcases hz with ⟨hz, hz2⟩ | ⟨hz, hz2⟩
            · subst hz
              have hz_789 : (pl (64 : Int32) (3 : Int32)) := hz2
              refine lv_if_eq (tgt := 68) hx hb dX12_plays_48 (by decide) (fun hc => absurd hc (by decide)) (fun _ => ?_)
              refine lv_aload_n hx hb dX12_plays_51 rfl (lv_at hl 2 rfl) ?_
              refine lv_iload_n hx hb dX12_plays_52 rfl (lv_at hl 1 rfl) ?_
              refine lv_iconst (v := 1) hx hb dX12_plays_53 (by decide) ?_
              refine lv_iconst (v := 2) hx hb dX12_plays_54 (by decide) ?_
              refine lv_iload_n hx hb dX12_plays_55 rfl (lv_at hl 0 rfl) ?_
              refine lv_imul hx hb dX12_plays_56 ?_
              refine lv_topi (fun z790 ez790 => ?_)
              obtain rfl : z790 = 6 := ez790.trans (by decide)
              refine lv_ishl hx hb dX12_plays_57 ?_
              refine lv_topi (fun z791 ez791 => ?_)
              obtain rfl : z791 = 64 := ez791.trans (by decide)
              refine lv_iadd hx hb dX12_plays_58 ?_
              refine lv_topi (fun z792 ez792 => ?_)
              obtain rfl : z792 = 128 := ez792.trans (by decide)
              refine lv_iload_n hx hb dX12_plays_59 rfl (lv_at hl 0 rfl) ?_
              refine ct_calli (D := D) (wr := [(qm_lines, .inl (cI, 5, .inl (fm_lines)))]) (va_runV (As := [.int 128, .int 3]) (rest := []) ⟨hx, hb, hml, hown, hts⟩ (c_X12_winsFrom l D G cI cJ cB cZ cO qm 0 qm_width qm_many qm_cells qm_moved qm_tape vm_taped vm_at vm_token vm_place vm_value vm_word vm_bad vm_badPlace vm_fault vm_faultPlace qm_lines qm_has qm_round qm_meets fm_meets qm_stumble qm_isMud qm_cell qm_tune qm_change qm_isKept qm_steps qm_places qm_danced vm_runMost vm_runBegins qm_heardBy vm_fitMany vm_fitFirst vm_fitBeats vm_listenLeaves qm_there vm_metAt vm_metIn qm_wins vm_nightHoles vm_nightFirst vm_nightMud vm_nightSlips vm_drawnNow h_vm_taped h_vm_at h_vm_value 12 g757 128 3 (by decide) (by unfold wn; decide +kernel) H.size) (cwV 2 hts gX12_plays_X12_winsFrom rfl rfl rfl (by decide +kernel) ⟨Nat.le_of_ble_eq_true rfl, Nat.le_of_ble_eq_true rfl⟩) (ct_preV (T := ct_T cI cJ cB cZ cO) (ci := 12) (q0 := 2) hE hH hP hD hS hA [2, 3, 1] (by decide) rfl rfl rfl) rfl rfl hl.1 rfl (lv_room (Nat.le_of_ble_eq_true rfl)) dX12_plays_60 ⟨Nat.le_of_ble_eq_true rfl, Nat.le_of_ble_eq_true rfl⟩) hP hD hS hA [2, 3, 1] [0] rfl rfl (by decide) (by decide) (fun r793 u H locs hw hP hD hS => ?_)
              obtain ⟨g794, rfl⟩ : ∃ z, z = u := ⟨_, rfl⟩
              obtain ⟨hP, hD⟩ : ct_B D A H [(qm_lines, .inl (cI, 5, .inl (fm_lines))), mo qm 0 qm_width qm_many qm_cells qm_moved qm_tape vm_taped vm_at vm_token vm_place vm_value vm_word vm_bad vm_badPlace vm_fault vm_faultPlace qm_lines qm_has qm_round qm_meets qm_stumble qm_isMud qm_cell qm_tune qm_change qm_isKept qm_steps qm_places qm_danced vm_runMost vm_runBegins qm_heardBy vm_fitMany vm_fitFirst vm_fitBeats vm_listenLeaves qm_there vm_metAt vm_metIn qm_wins vm_nightHoles vm_nightFirst vm_nightMud vm_nightSlips vm_drawnNow, (qm_meets, .inl (cI, 30, .inl (fm_meets))), (qm_wins, .inl (cI, 24576, .inl (g794)))] := ⟨hP, hD⟩
              have hz := hw
              clear hw
              rcases hz with ⟨hz, hz2⟩ | ⟨hz, hz2⟩
              · subst hz
                refine lv_if_ne (tgt := 68) hx hb dX12_plays_63 (by decide) (fun _ => ?_) (fun hc => absurd hc (by decide))
                refine lv_iinc (v := 4) (lv' := [(3, .int 4), (2, .int 64), (0, .ref qm), (1, .int 3)]) hx hb dX12_plays_68 hl (k := 0) rfl (by decide) (by decide) rfl (fun ls hl => ?_)
                refine lv_goto (tgt := 35) hx hb dX12_plays_71 (by decide) ?_
                have hk795 : (4 : Int32).toInt = 4 := by decide
                obtain ⟨hP9, hD9⟩ : ct_B D A H [(qm_meets, .inl (cI, 30, .inl (fm_meets))), (qm_lines, .inl (cI, 5, .inl (fm_lines))), mo qm 0 qm_width qm_many qm_cells qm_moved qm_tape vm_taped vm_at vm_token vm_place vm_value vm_word vm_bad vm_badPlace vm_fault vm_faultPlace qm_lines qm_has qm_round qm_meets qm_stumble qm_isMud qm_cell qm_tune qm_change qm_isKept qm_steps qm_places qm_danced vm_runMost vm_runBegins qm_heardBy vm_fitMany vm_fitFirst vm_fitBeats vm_listenLeaves qm_there vm_metAt vm_metIn qm_wins vm_nightHoles vm_nightFirst vm_nightMud vm_nightSlips vm_drawnNow, (qm_wins, .inl (cI, 24576, .inl (g794)))] := ⟨hP.sub [2, 0, 1, 3] rfl, hD.sub [2, 0, 1, 3] (by decide) rfl⟩
                exact ih759 (g794, (4 : Int32)) _ _ _ (show (6 - (4 : Int32).toInt).toNat < (6 - x758.toInt).toNat by omega) ⟨(show 0 ≤ (4 : Int32).toInt ∧ (4 : Int32).toInt ≤ 6 by decide), ⟨hP9, hD9⟩, hS, lv_sub hl [0, 1, 2, 3] rfl⟩
              · subst hz
                refine lv_if_ne (tgt := 68) hx hb dX12_plays_63 (by decide) (fun hc => absurd hc (by decide)) (fun _ => ?_)
                refine lv_iload_n hx hb dX12_plays_66 rfl (lv_at hl 0 rfl) ?_
                obtain ⟨hP9, hD9⟩ : ct_B D A H [mo qm 0 qm_width qm_many qm_cells qm_moved qm_tape vm_taped vm_at vm_token vm_place vm_value vm_word vm_bad vm_badPlace vm_fault vm_faultPlace qm_lines qm_has qm_round qm_meets qm_stumble qm_isMud qm_cell qm_tune qm_change qm_isKept qm_steps qm_places qm_danced vm_runMost vm_runBegins qm_heardBy vm_fitMany vm_fitFirst vm_fitBeats vm_listenLeaves qm_there vm_metAt vm_metIn qm_wins vm_nightHoles vm_nightFirst vm_nightMud vm_nightSlips vm_drawnNow, (qm_lines, .inl (cI, 5, .inl (fm_lines))), (qm_meets, .inl (cI, 30, .inl (fm_meets))), (qm_wins, .inl (cI, 24576, .inl (g794)))] := ⟨hP.sub [1, 0, 2, 3] rfl, hD.sub [1, 0, 2, 3] (by decide) rfl⟩
                exact W.iret (v := 3) hx hb hr (fun t ht hW => ⟨⟨3, ((0 : Int32), g794), rfl, (show (-2) ≤ (3 : Int32).toInt ∧ (3 : Int32).toInt ≤ 5 by decide), by rw [ht]; exact hP9, hD9⟩, hS.F ht⟩) hS.2.2 dX12_plays_67
            · subst hz
              refine lv_if_eq (tgt := 68) hx hb dX12_plays_48 (by decide) (fun _ => ?_) (fun hc => absurd hc (by decide))
              refine lv_iinc (v := 4) (lv' := [(3, .int 4), (2, .int 64), (0, .ref qm), (1, .int 3)]) hx hb dX12_plays_68 hl (k := 0) rfl (by decide) (by decide) rfl (fun ls hl => ?_)
              refine lv_goto (tgt := 35) hx hb dX12_plays_71 (by decide) ?_
              have hk796 : (4 : Int32).toInt = 4 := by decide
              obtain ⟨hP9, hD9⟩ : ct_B D A H [(qm_meets, .inl (cI, 30, .inl (fm_meets))), (qm_lines, .inl (cI, 5, .inl (fm_lines))), mo qm 0 qm_width qm_many qm_cells qm_moved qm_tape vm_taped vm_at vm_token vm_place vm_value vm_word vm_bad vm_badPlace vm_fault vm_faultPlace qm_lines qm_has qm_round qm_meets qm_stumble qm_isMud qm_cell qm_tune qm_change qm_isKept qm_steps qm_places qm_danced vm_runMost vm_runBegins qm_heardBy vm_fitMany vm_fitFirst vm_fitBeats vm_listenLeaves qm_there vm_metAt vm_metIn qm_wins vm_nightHoles vm_nightFirst vm_nightMud vm_nightSlips vm_drawnNow, (qm_wins, .inl (cI, 24576, .inl (g757)))] := ⟨hP.sub [3, 0, 2, 1] rfl, hD.sub [3, 0, 2, 1] (by decide) rfl⟩
              exact ih759 (g757, (4 : Int32)) _ _ _ (show (6 - (4 : Int32).toInt).toNat < (6 - x758.toInt).toNat by omega) ⟨(show 0 ≤ (4 : Int32).toInt ∧ (4 : Int32).toInt ≤ 6 by decide), ⟨hP9, hD9⟩, hS, lv_sub hl [0, 1, 2, 3] rfl⟩
          · have hj2 : x758 = 4 := tq_of hj (by decide)
            have hl : lv_has ls 4 [(3, .int 4), (2, .int 64), (0, .ref qm), (1, .int 3)] := by have h9 := hl; rw [hj2] at h9; exact h9
            refine lv_aload_n hx hb dX12_plays_41 rfl (lv_at hl 2 rfl) ?_
            refine lv_iload_n hx hb dX12_plays_42 rfl (lv_at hl 1 rfl) ?_
            refine lv_iload_n hx hb dX12_plays_43 rfl (lv_at hl 3 rfl) ?_
            refine lv_iload_n hx hb dX12_plays_44 rfl (lv_at hl 0 rfl) ?_
            refine ct_calli (D := D) (wr := [(qm_lines, .inl (cI, 5, .inl (fm_lines))), (qm_wins, .inl (cI, 24576, .inl (g757)))]) (va_runV (As := [.int 64, .int 3, .int 4]) (rest := []) ⟨hx, hb, hml, hown, hts⟩ (c_X12_isPlay l D G cI cJ cB cZ cO qm 0 qm_width qm_many qm_cells qm_moved qm_tape vm_taped vm_at vm_token vm_place vm_value vm_word vm_bad vm_badPlace vm_fault vm_faultPlace qm_lines qm_has qm_round qm_meets fm_meets qm_stumble qm_isMud qm_cell qm_tune qm_change qm_isKept qm_steps qm_places qm_danced vm_runMost vm_runBegins qm_heardBy vm_fitMany vm_fitFirst vm_fitBeats vm_listenLeaves qm_there vm_metAt vm_metIn qm_wins vm_nightHoles vm_nightFirst vm_nightMud vm_nightSlips vm_drawnNow 64 3 4 h_vm_taped h_vm_at h_vm_value (by decide) (by decide) H.size) (cwV 3 hts gX12_plays_X12_isPlay rfl rfl rfl (by decide +kernel) ⟨Nat.le_of_ble_eq_true rfl, Nat.le_of_ble_eq_true rfl⟩) (ct_preV (T := ct_T cI cJ cB cZ cO) (ci := 12) (q0 := 2) hE hH hP hD hS hA [2, 0] (by decide) rfl rfl rfl) rfl rfl hl.1 rfl (lv_room (Nat.le_of_ble_eq_true rfl)) dX12_plays_45 ⟨Nat.le_of_ble_eq_true rfl, Nat.le_of_ble_eq_true rfl⟩) hP hD hS hA [2, 0] [1, 3] rfl rfl (by decide) (by decide) (fun r797 u H locs hw hP hD hS => ?_)
            obtain ⟨hP, hD⟩ : ct_B D A H [(qm_lines, .inl (cI, 5, .inl (fm_lines))), (qm_wins, .inl (cI, 24576, .inl (g757))), mo qm 0 qm_width qm_many qm_cells qm_moved qm_tape vm_taped vm_at vm_token vm_place vm_value vm_word vm_bad vm_badPlace vm_fault vm_faultPlace qm_lines qm_has qm_round qm_meets qm_stumble qm_isMud qm_cell qm_tune qm_change qm_isKept qm_steps qm_places qm_danced vm_runMost vm_runBegins qm_heardBy vm_fitMany vm_fitFirst vm_fitBeats vm_listenLeaves qm_there vm_metAt vm_metIn qm_wins vm_nightHoles vm_nightFirst vm_nightMud vm_nightSlips vm_drawnNow, (qm_meets, .inl (cI, 30, .inl (fm_meets)))] := ⟨hP, hD⟩
            have hz := hw
            clear hw
            rcases hz with ⟨hz, hz2⟩ | ⟨hz, hz2⟩
            · subst hz
              have hz_798 : (pl (64 : Int32) (4 : Int32)) := hz2
              refine lv_if_eq (tgt := 68) hx hb dX12_plays_48 (by decide) (fun hc => absurd hc (by decide)) (fun _ => ?_)
              refine lv_aload_n hx hb dX12_plays_51 rfl (lv_at hl 2 rfl) ?_
              refine lv_iload_n hx hb dX12_plays_52 rfl (lv_at hl 1 rfl) ?_
              refine lv_iconst (v := 1) hx hb dX12_plays_53 (by decide) ?_
              refine lv_iconst (v := 2) hx hb dX12_plays_54 (by decide) ?_
              refine lv_iload_n hx hb dX12_plays_55 rfl (lv_at hl 0 rfl) ?_
              refine lv_imul hx hb dX12_plays_56 ?_
              refine lv_topi (fun z799 ez799 => ?_)
              obtain rfl : z799 = 8 := ez799.trans (by decide)
              refine lv_ishl hx hb dX12_plays_57 ?_
              refine lv_topi (fun z800 ez800 => ?_)
              obtain rfl : z800 = 256 := ez800.trans (by decide)
              refine lv_iadd hx hb dX12_plays_58 ?_
              refine lv_topi (fun z801 ez801 => ?_)
              obtain rfl : z801 = 320 := ez801.trans (by decide)
              refine lv_iload_n hx hb dX12_plays_59 rfl (lv_at hl 0 rfl) ?_
              refine ct_calli (D := D) (wr := [(qm_lines, .inl (cI, 5, .inl (fm_lines)))]) (va_runV (As := [.int 320, .int 4]) (rest := []) ⟨hx, hb, hml, hown, hts⟩ (c_X12_winsFrom l D G cI cJ cB cZ cO qm 0 qm_width qm_many qm_cells qm_moved qm_tape vm_taped vm_at vm_token vm_place vm_value vm_word vm_bad vm_badPlace vm_fault vm_faultPlace qm_lines qm_has qm_round qm_meets fm_meets qm_stumble qm_isMud qm_cell qm_tune qm_change qm_isKept qm_steps qm_places qm_danced vm_runMost vm_runBegins qm_heardBy vm_fitMany vm_fitFirst vm_fitBeats vm_listenLeaves qm_there vm_metAt vm_metIn qm_wins vm_nightHoles vm_nightFirst vm_nightMud vm_nightSlips vm_drawnNow h_vm_taped h_vm_at h_vm_value 12 g757 320 4 (by decide) (by unfold wn; decide +kernel) H.size) (cwV 2 hts gX12_plays_X12_winsFrom rfl rfl rfl (by decide +kernel) ⟨Nat.le_of_ble_eq_true rfl, Nat.le_of_ble_eq_true rfl⟩) (ct_preV (T := ct_T cI cJ cB cZ cO) (ci := 12) (q0 := 2) hE hH hP hD hS hA [2, 3, 1] (by decide) rfl rfl rfl) rfl rfl hl.1 rfl (lv_room (Nat.le_of_ble_eq_true rfl)) dX12_plays_60 ⟨Nat.le_of_ble_eq_true rfl, Nat.le_of_ble_eq_true rfl⟩) hP hD hS hA [2, 3, 1] [0] rfl rfl (by decide) (by decide) (fun r802 u H locs hw hP hD hS => ?_)
              obtain ⟨g803, rfl⟩ : ∃ z, z = u := ⟨_, rfl⟩
              obtain ⟨hP, hD⟩ : ct_B D A H [(qm_lines, .inl (cI, 5, .inl (fm_lines))), mo qm 0 qm_width qm_many qm_cells qm_moved qm_tape vm_taped vm_at vm_token vm_place vm_value vm_word vm_bad vm_badPlace vm_fault vm_faultPlace qm_lines qm_has qm_round qm_meets qm_stumble qm_isMud qm_cell qm_tune qm_change qm_isKept qm_steps qm_places qm_danced vm_runMost vm_runBegins qm_heardBy vm_fitMany vm_fitFirst vm_fitBeats vm_listenLeaves qm_there vm_metAt vm_metIn qm_wins vm_nightHoles vm_nightFirst vm_nightMud vm_nightSlips vm_drawnNow, (qm_meets, .inl (cI, 30, .inl (fm_meets))), (qm_wins, .inl (cI, 24576, .inl (g803)))] := ⟨hP, hD⟩
              have hz := hw
              clear hw
              rcases hz with ⟨hz, hz2⟩ | ⟨hz, hz2⟩
              · subst hz
                refine lv_if_ne (tgt := 68) hx hb dX12_plays_63 (by decide) (fun _ => ?_) (fun hc => absurd hc (by decide))
                refine lv_iinc (v := 5) (lv' := [(3, .int 5), (2, .int 64), (0, .ref qm), (1, .int 3)]) hx hb dX12_plays_68 hl (k := 0) rfl (by decide) (by decide) rfl (fun ls hl => ?_)
                refine lv_goto (tgt := 35) hx hb dX12_plays_71 (by decide) ?_
                have hk804 : (5 : Int32).toInt = 5 := by decide
                obtain ⟨hP9, hD9⟩ : ct_B D A H [(qm_meets, .inl (cI, 30, .inl (fm_meets))), (qm_lines, .inl (cI, 5, .inl (fm_lines))), mo qm 0 qm_width qm_many qm_cells qm_moved qm_tape vm_taped vm_at vm_token vm_place vm_value vm_word vm_bad vm_badPlace vm_fault vm_faultPlace qm_lines qm_has qm_round qm_meets qm_stumble qm_isMud qm_cell qm_tune qm_change qm_isKept qm_steps qm_places qm_danced vm_runMost vm_runBegins qm_heardBy vm_fitMany vm_fitFirst vm_fitBeats vm_listenLeaves qm_there vm_metAt vm_metIn qm_wins vm_nightHoles vm_nightFirst vm_nightMud vm_nightSlips vm_drawnNow, (qm_wins, .inl (cI, 24576, .inl (g803)))] := ⟨hP.sub [2, 0, 1, 3] rfl, hD.sub [2, 0, 1, 3] (by decide) rfl⟩
                exact ih759 (g803, (5 : Int32)) _ _ _ (show (6 - (5 : Int32).toInt).toNat < (6 - x758.toInt).toNat by omega) ⟨(show 0 ≤ (5 : Int32).toInt ∧ (5 : Int32).toInt ≤ 6 by decide), ⟨hP9, hD9⟩, hS, lv_sub hl [0, 1, 2, 3] rfl⟩
              · subst hz
                refine lv_if_ne (tgt := 68) hx hb dX12_plays_63 (by decide) (fun hc => absurd hc (by decide)) (fun _ => ?_)
                refine lv_iload_n hx hb dX12_plays_66 rfl (lv_at hl 0 rfl) ?_
                obtain ⟨hP9, hD9⟩ : ct_B D A H [mo qm 0 qm_width qm_many qm_cells qm_moved qm_tape vm_taped vm_at vm_token vm_place vm_value vm_word vm_bad vm_badPlace vm_fault vm_faultPlace qm_lines qm_has qm_round qm_meets qm_stumble qm_isMud qm_cell qm_tune qm_change qm_isKept qm_steps qm_places qm_danced vm_runMost vm_runBegins qm_heardBy vm_fitMany vm_fitFirst vm_fitBeats vm_listenLeaves qm_there vm_metAt vm_metIn qm_wins vm_nightHoles vm_nightFirst vm_nightMud vm_nightSlips vm_drawnNow, (qm_lines, .inl (cI, 5, .inl (fm_lines))), (qm_meets, .inl (cI, 30, .inl (fm_meets))), (qm_wins, .inl (cI, 24576, .inl (g803)))] := ⟨hP.sub [1, 0, 2, 3] rfl, hD.sub [1, 0, 2, 3] (by decide) rfl⟩
                exact W.iret (v := 4) hx hb hr (fun t ht hW => ⟨⟨4, ((0 : Int32), g803), rfl, (show (-2) ≤ (4 : Int32).toInt ∧ (4 : Int32).toInt ≤ 5 by decide), by rw [ht]; exact hP9, hD9⟩, hS.F ht⟩) hS.2.2 dX12_plays_67
            · subst hz
              refine lv_if_eq (tgt := 68) hx hb dX12_plays_48 (by decide) (fun _ => ?_) (fun hc => absurd hc (by decide))
              refine lv_iinc (v := 5) (lv' := [(3, .int 5), (2, .int 64), (0, .ref qm), (1, .int 3)]) hx hb dX12_plays_68 hl (k := 0) rfl (by decide) (by decide) rfl (fun ls hl => ?_)
              refine lv_goto (tgt := 35) hx hb dX12_plays_71 (by decide) ?_
              have hk805 : (5 : Int32).toInt = 5 := by decide
              obtain ⟨hP9, hD9⟩ : ct_B D A H [(qm_meets, .inl (cI, 30, .inl (fm_meets))), (qm_lines, .inl (cI, 5, .inl (fm_lines))), mo qm 0 qm_width qm_many qm_cells qm_moved qm_tape vm_taped vm_at vm_token vm_place vm_value vm_word vm_bad vm_badPlace vm_fault vm_faultPlace qm_lines qm_has qm_round qm_meets qm_stumble qm_isMud qm_cell qm_tune qm_change qm_isKept qm_steps qm_places qm_danced vm_runMost vm_runBegins qm_heardBy vm_fitMany vm_fitFirst vm_fitBeats vm_listenLeaves qm_there vm_metAt vm_metIn qm_wins vm_nightHoles vm_nightFirst vm_nightMud vm_nightSlips vm_drawnNow, (qm_wins, .inl (cI, 24576, .inl (g757)))] := ⟨hP.sub [3, 0, 2, 1] rfl, hD.sub [3, 0, 2, 1] (by decide) rfl⟩
              exact ih759 (g757, (5 : Int32)) _ _ _ (show (6 - (5 : Int32).toInt).toNat < (6 - x758.toInt).toNat by omega) ⟨(show 0 ≤ (5 : Int32).toInt ∧ (5 : Int32).toInt ≤ 6 by decide), ⟨hP9, hD9⟩, hS, lv_sub hl [0, 1, 2, 3] rfl⟩
          · have hj2 : x758 = 5 := tq_of hj (by decide)
            have hl : lv_has ls 4 [(3, .int 5), (2, .int 64), (0, .ref qm), (1, .int 3)] := by have h9 := hl; rw [hj2] at h9; exact h9
            refine lv_aload_n hx hb dX12_plays_41 rfl (lv_at hl 2 rfl) ?_
            refine lv_iload_n hx hb dX12_plays_42 rfl (lv_at hl 1 rfl) ?_
            refine lv_iload_n hx hb dX12_plays_43 rfl (lv_at hl 3 rfl) ?_
            refine lv_iload_n hx hb dX12_plays_44 rfl (lv_at hl 0 rfl) ?_
            refine ct_calli (D := D) (wr := [(qm_lines, .inl (cI, 5, .inl (fm_lines))), (qm_wins, .inl (cI, 24576, .inl (g757)))]) (va_runV (As := [.int 64, .int 3, .int 5]) (rest := []) ⟨hx, hb, hml, hown, hts⟩ (c_X12_isPlay l D G cI cJ cB cZ cO qm 0 qm_width qm_many qm_cells qm_moved qm_tape vm_taped vm_at vm_token vm_place vm_value vm_word vm_bad vm_badPlace vm_fault vm_faultPlace qm_lines qm_has qm_round qm_meets fm_meets qm_stumble qm_isMud qm_cell qm_tune qm_change qm_isKept qm_steps qm_places qm_danced vm_runMost vm_runBegins qm_heardBy vm_fitMany vm_fitFirst vm_fitBeats vm_listenLeaves qm_there vm_metAt vm_metIn qm_wins vm_nightHoles vm_nightFirst vm_nightMud vm_nightSlips vm_drawnNow 64 3 5 h_vm_taped h_vm_at h_vm_value (by decide) (by decide) H.size) (cwV 3 hts gX12_plays_X12_isPlay rfl rfl rfl (by decide +kernel) ⟨Nat.le_of_ble_eq_true rfl, Nat.le_of_ble_eq_true rfl⟩) (ct_preV (T := ct_T cI cJ cB cZ cO) (ci := 12) (q0 := 2) hE hH hP hD hS hA [2, 0] (by decide) rfl rfl rfl) rfl rfl hl.1 rfl (lv_room (Nat.le_of_ble_eq_true rfl)) dX12_plays_45 ⟨Nat.le_of_ble_eq_true rfl, Nat.le_of_ble_eq_true rfl⟩) hP hD hS hA [2, 0] [1, 3] rfl rfl (by decide) (by decide) (fun r806 u H locs hw hP hD hS => ?_)
            obtain ⟨hP, hD⟩ : ct_B D A H [(qm_lines, .inl (cI, 5, .inl (fm_lines))), (qm_wins, .inl (cI, 24576, .inl (g757))), mo qm 0 qm_width qm_many qm_cells qm_moved qm_tape vm_taped vm_at vm_token vm_place vm_value vm_word vm_bad vm_badPlace vm_fault vm_faultPlace qm_lines qm_has qm_round qm_meets qm_stumble qm_isMud qm_cell qm_tune qm_change qm_isKept qm_steps qm_places qm_danced vm_runMost vm_runBegins qm_heardBy vm_fitMany vm_fitFirst vm_fitBeats vm_listenLeaves qm_there vm_metAt vm_metIn qm_wins vm_nightHoles vm_nightFirst vm_nightMud vm_nightSlips vm_drawnNow, (qm_meets, .inl (cI, 30, .inl (fm_meets)))] := ⟨hP, hD⟩
            have hz := hw
            clear hw
            rcases hz with ⟨hz, hz2⟩ | ⟨hz, hz2⟩
            · subst hz
              have hz_807 : (pl (64 : Int32) (5 : Int32)) := hz2
              refine lv_if_eq (tgt := 68) hx hb dX12_plays_48 (by decide) (fun hc => absurd hc (by decide)) (fun _ => ?_)
              refine lv_aload_n hx hb dX12_plays_51 rfl (lv_at hl 2 rfl) ?_
              refine lv_iload_n hx hb dX12_plays_52 rfl (lv_at hl 1 rfl) ?_
              refine lv_iconst (v := 1) hx hb dX12_plays_53 (by decide) ?_
              refine lv_iconst (v := 2) hx hb dX12_plays_54 (by decide) ?_
              refine lv_iload_n hx hb dX12_plays_55 rfl (lv_at hl 0 rfl) ?_
              refine lv_imul hx hb dX12_plays_56 ?_
              refine lv_topi (fun z808 ez808 => ?_)
              obtain rfl : z808 = 10 := ez808.trans (by decide)
              refine lv_ishl hx hb dX12_plays_57 ?_
              refine lv_topi (fun z809 ez809 => ?_)
              obtain rfl : z809 = 1024 := ez809.trans (by decide)
              refine lv_iadd hx hb dX12_plays_58 ?_
              refine lv_topi (fun z810 ez810 => ?_)
              obtain rfl : z810 = 1088 := ez810.trans (by decide)
              refine lv_iload_n hx hb dX12_plays_59 rfl (lv_at hl 0 rfl) ?_
              refine ct_calli (D := D) (wr := [(qm_lines, .inl (cI, 5, .inl (fm_lines)))]) (va_runV (As := [.int 1088, .int 5]) (rest := []) ⟨hx, hb, hml, hown, hts⟩ (c_X12_winsFrom l D G cI cJ cB cZ cO qm 0 qm_width qm_many qm_cells qm_moved qm_tape vm_taped vm_at vm_token vm_place vm_value vm_word vm_bad vm_badPlace vm_fault vm_faultPlace qm_lines qm_has qm_round qm_meets fm_meets qm_stumble qm_isMud qm_cell qm_tune qm_change qm_isKept qm_steps qm_places qm_danced vm_runMost vm_runBegins qm_heardBy vm_fitMany vm_fitFirst vm_fitBeats vm_listenLeaves qm_there vm_metAt vm_metIn qm_wins vm_nightHoles vm_nightFirst vm_nightMud vm_nightSlips vm_drawnNow h_vm_taped h_vm_at h_vm_value 12 g757 1088 5 (by decide) (by unfold wn; decide +kernel) H.size) (cwV 2 hts gX12_plays_X12_winsFrom rfl rfl rfl (by decide +kernel) ⟨Nat.le_of_ble_eq_true rfl, Nat.le_of_ble_eq_true rfl⟩) (ct_preV (T := ct_T cI cJ cB cZ cO) (ci := 12) (q0 := 2) hE hH hP hD hS hA [2, 3, 1] (by decide) rfl rfl rfl) rfl rfl hl.1 rfl (lv_room (Nat.le_of_ble_eq_true rfl)) dX12_plays_60 ⟨Nat.le_of_ble_eq_true rfl, Nat.le_of_ble_eq_true rfl⟩) hP hD hS hA [2, 3, 1] [0] rfl rfl (by decide) (by decide) (fun r811 u H locs hw hP hD hS => ?_)
              obtain ⟨g812, rfl⟩ : ∃ z, z = u := ⟨_, rfl⟩
              obtain ⟨hP, hD⟩ : ct_B D A H [(qm_lines, .inl (cI, 5, .inl (fm_lines))), mo qm 0 qm_width qm_many qm_cells qm_moved qm_tape vm_taped vm_at vm_token vm_place vm_value vm_word vm_bad vm_badPlace vm_fault vm_faultPlace qm_lines qm_has qm_round qm_meets qm_stumble qm_isMud qm_cell qm_tune qm_change qm_isKept qm_steps qm_places qm_danced vm_runMost vm_runBegins qm_heardBy vm_fitMany vm_fitFirst vm_fitBeats vm_listenLeaves qm_there vm_metAt vm_metIn qm_wins vm_nightHoles vm_nightFirst vm_nightMud vm_nightSlips vm_drawnNow, (qm_meets, .inl (cI, 30, .inl (fm_meets))), (qm_wins, .inl (cI, 24576, .inl (g812)))] := ⟨hP, hD⟩
              have hz := hw
              clear hw
              rcases hz with ⟨hz, hz2⟩ | ⟨hz, hz2⟩
              · subst hz
                refine lv_if_ne (tgt := 68) hx hb dX12_plays_63 (by decide) (fun _ => ?_) (fun hc => absurd hc (by decide))
                refine lv_iinc (v := 6) (lv' := [(3, .int 6), (2, .int 64), (0, .ref qm), (1, .int 3)]) hx hb dX12_plays_68 hl (k := 0) rfl (by decide) (by decide) rfl (fun ls hl => ?_)
                refine lv_goto (tgt := 35) hx hb dX12_plays_71 (by decide) ?_
                have hk813 : (6 : Int32).toInt = 6 := by decide
                obtain ⟨hP9, hD9⟩ : ct_B D A H [(qm_meets, .inl (cI, 30, .inl (fm_meets))), (qm_lines, .inl (cI, 5, .inl (fm_lines))), mo qm 0 qm_width qm_many qm_cells qm_moved qm_tape vm_taped vm_at vm_token vm_place vm_value vm_word vm_bad vm_badPlace vm_fault vm_faultPlace qm_lines qm_has qm_round qm_meets qm_stumble qm_isMud qm_cell qm_tune qm_change qm_isKept qm_steps qm_places qm_danced vm_runMost vm_runBegins qm_heardBy vm_fitMany vm_fitFirst vm_fitBeats vm_listenLeaves qm_there vm_metAt vm_metIn qm_wins vm_nightHoles vm_nightFirst vm_nightMud vm_nightSlips vm_drawnNow, (qm_wins, .inl (cI, 24576, .inl (g812)))] := ⟨hP.sub [2, 0, 1, 3] rfl, hD.sub [2, 0, 1, 3] (by decide) rfl⟩
                exact ih759 (g812, (6 : Int32)) _ _ _ (show (6 - (6 : Int32).toInt).toNat < (6 - x758.toInt).toNat by omega) ⟨(show 0 ≤ (6 : Int32).toInt ∧ (6 : Int32).toInt ≤ 6 by decide), ⟨hP9, hD9⟩, hS, lv_sub hl [0, 1, 2, 3] rfl⟩
              · subst hz
                refine lv_if_ne (tgt := 68) hx hb dX12_plays_63 (by decide) (fun hc => absurd hc (by decide)) (fun _ => ?_)
                refine lv_iload_n hx hb dX12_plays_66 rfl (lv_at hl 0 rfl) ?_
                obtain ⟨hP9, hD9⟩ : ct_B D A H [mo qm 0 qm_width qm_many qm_cells qm_moved qm_tape vm_taped vm_at vm_token vm_place vm_value vm_word vm_bad vm_badPlace vm_fault vm_faultPlace qm_lines qm_has qm_round qm_meets qm_stumble qm_isMud qm_cell qm_tune qm_change qm_isKept qm_steps qm_places qm_danced vm_runMost vm_runBegins qm_heardBy vm_fitMany vm_fitFirst vm_fitBeats vm_listenLeaves qm_there vm_metAt vm_metIn qm_wins vm_nightHoles vm_nightFirst vm_nightMud vm_nightSlips vm_drawnNow, (qm_lines, .inl (cI, 5, .inl (fm_lines))), (qm_meets, .inl (cI, 30, .inl (fm_meets))), (qm_wins, .inl (cI, 24576, .inl (g812)))] := ⟨hP.sub [1, 0, 2, 3] rfl, hD.sub [1, 0, 2, 3] (by decide) rfl⟩
                exact W.iret (v := 5) hx hb hr (fun t ht hW => ⟨⟨5, ((0 : Int32), g812), rfl, (show (-2) ≤ (5 : Int32).toInt ∧ (5 : Int32).toInt ≤ 5 by decide), by rw [ht]; exact hP9, hD9⟩, hS.F ht⟩) hS.2.2 dX12_plays_67
            · subst hz
              refine lv_if_eq (tgt := 68) hx hb dX12_plays_48 (by decide) (fun _ => ?_) (fun hc => absurd hc (by decide))
              refine lv_iinc (v := 6) (lv' := [(3, .int 6), (2, .int 64), (0, .ref qm), (1, .int 3)]) hx hb dX12_plays_68 hl (k := 0) rfl (by decide) (by decide) rfl (fun ls hl => ?_)
              refine lv_goto (tgt := 35) hx hb dX12_plays_71 (by decide) ?_
              have hk814 : (6 : Int32).toInt = 6 := by decide
              obtain ⟨hP9, hD9⟩ : ct_B D A H [(qm_meets, .inl (cI, 30, .inl (fm_meets))), (qm_lines, .inl (cI, 5, .inl (fm_lines))), mo qm 0 qm_width qm_many qm_cells qm_moved qm_tape vm_taped vm_at vm_token vm_place vm_value vm_word vm_bad vm_badPlace vm_fault vm_faultPlace qm_lines qm_has qm_round qm_meets qm_stumble qm_isMud qm_cell qm_tune qm_change qm_isKept qm_steps qm_places qm_danced vm_runMost vm_runBegins qm_heardBy vm_fitMany vm_fitFirst vm_fitBeats vm_listenLeaves qm_there vm_metAt vm_metIn qm_wins vm_nightHoles vm_nightFirst vm_nightMud vm_nightSlips vm_drawnNow, (qm_wins, .inl (cI, 24576, .inl (g757)))] := ⟨hP.sub [3, 0, 2, 1] rfl, hD.sub [3, 0, 2, 1] (by decide) rfl⟩
              exact ih759 (g757, (6 : Int32)) _ _ _ (show (6 - (6 : Int32).toInt).toNat < (6 - x758.toInt).toNat by omega) ⟨(show 0 ≤ (6 : Int32).toInt ∧ (6 : Int32).toInt ≤ 6 by decide), ⟨hP9, hD9⟩, hS, lv_sub hl [0, 1, 2, 3] rfl⟩
      · have hj2 : a1 = 4 := tq_of hj (by decide)
        have hl : lv_has ls 4 [(0, .ref qm), (1, .int 4)] := by have h9 := hl; rw [hj2] at h9; exact h9
        refine lv_iconst (v := 1) hx hb dX12_plays_27 (by decide) ?_
        refine lv_iconst (v := 2) hx hb dX12_plays_28 (by decide) ?_
        refine lv_iload_n hx hb dX12_plays_29 rfl (lv_at hl 1 rfl) ?_
        refine lv_imul hx hb dX12_plays_30 ?_
        refine lv_topi (fun z815 ez815 => ?_)
        obtain rfl : z815 = 8 := ez815.trans (by decide)
        refine lv_ishl hx hb dX12_plays_31 ?_
        refine lv_topi (fun z816 ez816 => ?_)
        obtain rfl : z816 = 256 := ez816.trans (by decide)
        refine lv_istore_n (lv' := [(2, .int 256), (0, .ref qm), (1, .int 4)]) hx hb dX12_plays_32 rfl hl (by decide) rfl (fun ls hl => ?_)
        refine lv_iconst (v := 0) hx hb dX12_plays_33 (by decide) ?_
        refine lv_istore_n (lv' := [(3, .int 0), (2, .int 256), (0, .ref qm), (1, .int 4)]) hx hb dX12_plays_34 rfl hl (by decide) rfl (fun ls hl => ?_)
        refine ct_loop (X := (Nat → Int32) × Int32) (fun x => (6 - x.2.toInt).toNat) (fun x H locs ls => ((0 ≤ x.2.toInt ∧ x.2.toInt ≤ 6)) ∧ ct_B D A H [(qm_meets, .inl (cI, 30, .inl (fm_meets))), (qm_lines, .inl (cI, 5, .inl (fm_lines))), mo qm 0 qm_width qm_many qm_cells qm_moved qm_tape vm_taped vm_at vm_token vm_place vm_value vm_word vm_bad vm_badPlace vm_fault vm_faultPlace qm_lines qm_has qm_round qm_meets qm_stumble qm_isMud qm_cell qm_tune qm_change qm_isKept qm_steps qm_places qm_danced vm_runMost vm_runBegins qm_heardBy vm_fitMany vm_fitFirst vm_fitBeats vm_listenLeaves qm_there vm_metAt vm_metIn qm_wins vm_nightHoles vm_nightFirst vm_nightMud vm_nightSlips vm_drawnNow, (qm_wins, .inl (cI, 24576, .inl (x.1)))] ∧ va_S A s.heap H locs ∧ lv_has ls 4 [(3, .int x.2), (2, .int 256), (0, .ref qm), (1, .int 4)]) 35 (g6, (0 : Int32)) ⟨(show 0 ≤ (0 : Int32).toInt ∧ (0 : Int32).toInt ≤ 6 by decide), ⟨hP, hD⟩, hS, lv_sub hl [0, 1, 2, 3] rfl⟩ (fun x ih961 H locs ls hI => ?_)
        obtain ⟨g959, x960⟩ := x
        obtain ⟨h_x960, ⟨hP, hD⟩, hS, hl⟩ := hI
        change (0 ≤ x960.toInt ∧ x960.toInt ≤ 6) at h_x960
        obtain ⟨hP, hD⟩ : ct_B D A H [(qm_meets, .inl (cI, 30, .inl (fm_meets))), (qm_lines, .inl (cI, 5, .inl (fm_lines))), mo qm 0 qm_width qm_many qm_cells qm_moved qm_tape vm_taped vm_at vm_token vm_place vm_value vm_word vm_bad vm_badPlace vm_fault vm_faultPlace qm_lines qm_has qm_round qm_meets qm_stumble qm_isMud qm_cell qm_tune qm_change qm_isKept qm_steps qm_places qm_danced vm_runMost vm_runBegins qm_heardBy vm_fitMany vm_fitFirst vm_fitBeats vm_listenLeaves qm_there vm_metAt vm_metIn qm_wins vm_nightHoles vm_nightFirst vm_nightMud vm_nightSlips vm_drawnNow, (qm_wins, .inl (cI, 24576, .inl (g959)))] := ⟨hP, hD⟩
        have hl : lv_has ls 4 [(3, .int x960), (2, .int 256), (0, .ref qm), (1, .int 4)] := hl
        refine lv_iload_n hx hb dX12_plays_35 rfl (lv_at hl 0 rfl) ?_
        refine lv_bipush (v := 6) hx hb dX12_plays_36 (by decide) ?_
        refine lv_icmp_ge (tgt := 74) hx hb dX12_plays_38 (by decide) (fun hc => ?_) (fun hc => ?_)
        · have hq962 : 6 ≤ x960.toInt := tq_le (by decide) rfl hc
          refine lv_iconst (v := (-1)) hx hb dX12_plays_74 (by decide) ?_
          obtain ⟨hP9, hD9⟩ : ct_B D A H [mo qm 0 qm_width qm_many qm_cells qm_moved qm_tape vm_taped vm_at vm_token vm_place vm_value vm_word vm_bad vm_badPlace vm_fault vm_faultPlace qm_lines qm_has qm_round qm_meets qm_stumble qm_isMud qm_cell qm_tune qm_change qm_isKept qm_steps qm_places qm_danced vm_runMost vm_runBegins qm_heardBy vm_fitMany vm_fitFirst vm_fitBeats vm_listenLeaves qm_there vm_metAt vm_metIn qm_wins vm_nightHoles vm_nightFirst vm_nightMud vm_nightSlips vm_drawnNow, (qm_lines, .inl (cI, 5, .inl (fm_lines))), (qm_meets, .inl (cI, 30, .inl (fm_meets))), (qm_wins, .inl (cI, 24576, .inl (g959)))] := ⟨hP.sub [2, 1, 0, 3] rfl, hD.sub [2, 1, 0, 3] (by decide) rfl⟩
          exact W.iret (v := (-1)) hx hb hr (fun t ht hW => ⟨⟨(-1), ((0 : Int32), g959), rfl, (show (-2) ≤ (-1 : Int32).toInt ∧ (-1 : Int32).toInt ≤ 5 by decide), by rw [ht]; exact hP9, hD9⟩, hS.F ht⟩) hS.2.2 dX12_plays_75
        · have hq962 : x960.toInt < 6 := tq_nle (by decide) rfl hc
          rcases (show x960.toInt = 0 ∨ x960.toInt = 1 ∨ x960.toInt = 2 ∨ x960.toInt = 3 ∨ x960.toInt = 4 ∨ x960.toInt = 5 by omega) with hj | hj | hj | hj | hj | hj
          · have hj2 : x960 = 0 := tq_of hj (by decide)
            have hl : lv_has ls 4 [(3, .int 0), (2, .int 256), (0, .ref qm), (1, .int 4)] := by have h9 := hl; rw [hj2] at h9; exact h9
            refine lv_aload_n hx hb dX12_plays_41 rfl (lv_at hl 2 rfl) ?_
            refine lv_iload_n hx hb dX12_plays_42 rfl (lv_at hl 1 rfl) ?_
            refine lv_iload_n hx hb dX12_plays_43 rfl (lv_at hl 3 rfl) ?_
            refine lv_iload_n hx hb dX12_plays_44 rfl (lv_at hl 0 rfl) ?_
            refine ct_calli (D := D) (wr := [(qm_lines, .inl (cI, 5, .inl (fm_lines))), (qm_wins, .inl (cI, 24576, .inl (g959)))]) (va_runV (As := [.int 256, .int 4, .int 0]) (rest := []) ⟨hx, hb, hml, hown, hts⟩ (c_X12_isPlay l D G cI cJ cB cZ cO qm 0 qm_width qm_many qm_cells qm_moved qm_tape vm_taped vm_at vm_token vm_place vm_value vm_word vm_bad vm_badPlace vm_fault vm_faultPlace qm_lines qm_has qm_round qm_meets fm_meets qm_stumble qm_isMud qm_cell qm_tune qm_change qm_isKept qm_steps qm_places qm_danced vm_runMost vm_runBegins qm_heardBy vm_fitMany vm_fitFirst vm_fitBeats vm_listenLeaves qm_there vm_metAt vm_metIn qm_wins vm_nightHoles vm_nightFirst vm_nightMud vm_nightSlips vm_drawnNow 256 4 0 h_vm_taped h_vm_at h_vm_value (by decide) (by decide) H.size) (cwV 3 hts gX12_plays_X12_isPlay rfl rfl rfl (by decide +kernel) ⟨Nat.le_of_ble_eq_true rfl, Nat.le_of_ble_eq_true rfl⟩) (ct_preV (T := ct_T cI cJ cB cZ cO) (ci := 12) (q0 := 2) hE hH hP hD hS hA [2, 0] (by decide) rfl rfl rfl) rfl rfl hl.1 rfl (lv_room (Nat.le_of_ble_eq_true rfl)) dX12_plays_45 ⟨Nat.le_of_ble_eq_true rfl, Nat.le_of_ble_eq_true rfl⟩) hP hD hS hA [2, 0] [1, 3] rfl rfl (by decide) (by decide) (fun r963 u H locs hw hP hD hS => ?_)
            obtain ⟨hP, hD⟩ : ct_B D A H [(qm_lines, .inl (cI, 5, .inl (fm_lines))), (qm_wins, .inl (cI, 24576, .inl (g959))), mo qm 0 qm_width qm_many qm_cells qm_moved qm_tape vm_taped vm_at vm_token vm_place vm_value vm_word vm_bad vm_badPlace vm_fault vm_faultPlace qm_lines qm_has qm_round qm_meets qm_stumble qm_isMud qm_cell qm_tune qm_change qm_isKept qm_steps qm_places qm_danced vm_runMost vm_runBegins qm_heardBy vm_fitMany vm_fitFirst vm_fitBeats vm_listenLeaves qm_there vm_metAt vm_metIn qm_wins vm_nightHoles vm_nightFirst vm_nightMud vm_nightSlips vm_drawnNow, (qm_meets, .inl (cI, 30, .inl (fm_meets)))] := ⟨hP, hD⟩
            have hz := hw
            clear hw
            rcases hz with ⟨hz, hz2⟩ | ⟨hz, hz2⟩
            · subst hz
              have hz_964 : (pl (256 : Int32) (0 : Int32)) := hz2
              refine lv_if_eq (tgt := 68) hx hb dX12_plays_48 (by decide) (fun hc => absurd hc (by decide)) (fun _ => ?_)
              refine lv_aload_n hx hb dX12_plays_51 rfl (lv_at hl 2 rfl) ?_
              refine lv_iload_n hx hb dX12_plays_52 rfl (lv_at hl 1 rfl) ?_
              refine lv_iconst (v := 1) hx hb dX12_plays_53 (by decide) ?_
              refine lv_iconst (v := 2) hx hb dX12_plays_54 (by decide) ?_
              refine lv_iload_n hx hb dX12_plays_55 rfl (lv_at hl 0 rfl) ?_
              refine lv_imul hx hb dX12_plays_56 ?_
              refine lv_topi (fun z965 ez965 => ?_)
              obtain rfl : z965 = 0 := ez965.trans (by decide)
              refine lv_ishl hx hb dX12_plays_57 ?_
              refine lv_topi (fun z966 ez966 => ?_)
              obtain rfl : z966 = 1 := ez966.trans (by decide)
              refine lv_iadd hx hb dX12_plays_58 ?_
              refine lv_topi (fun z967 ez967 => ?_)
              obtain rfl : z967 = 257 := ez967.trans (by decide)
              refine lv_iload_n hx hb dX12_plays_59 rfl (lv_at hl 0 rfl) ?_
              refine ct_calli (D := D) (wr := [(qm_lines, .inl (cI, 5, .inl (fm_lines)))]) (va_runV (As := [.int 257, .int 0]) (rest := []) ⟨hx, hb, hml, hown, hts⟩ (c_X12_winsFrom l D G cI cJ cB cZ cO qm 0 qm_width qm_many qm_cells qm_moved qm_tape vm_taped vm_at vm_token vm_place vm_value vm_word vm_bad vm_badPlace vm_fault vm_faultPlace qm_lines qm_has qm_round qm_meets fm_meets qm_stumble qm_isMud qm_cell qm_tune qm_change qm_isKept qm_steps qm_places qm_danced vm_runMost vm_runBegins qm_heardBy vm_fitMany vm_fitFirst vm_fitBeats vm_listenLeaves qm_there vm_metAt vm_metIn qm_wins vm_nightHoles vm_nightFirst vm_nightMud vm_nightSlips vm_drawnNow h_vm_taped h_vm_at h_vm_value 12 g959 257 0 (by decide) (by unfold wn; decide +kernel) H.size) (cwV 2 hts gX12_plays_X12_winsFrom rfl rfl rfl (by decide +kernel) ⟨Nat.le_of_ble_eq_true rfl, Nat.le_of_ble_eq_true rfl⟩) (ct_preV (T := ct_T cI cJ cB cZ cO) (ci := 12) (q0 := 2) hE hH hP hD hS hA [2, 3, 1] (by decide) rfl rfl rfl) rfl rfl hl.1 rfl (lv_room (Nat.le_of_ble_eq_true rfl)) dX12_plays_60 ⟨Nat.le_of_ble_eq_true rfl, Nat.le_of_ble_eq_true rfl⟩) hP hD hS hA [2, 3, 1] [0] rfl rfl (by decide) (by decide) (fun r968 u H locs hw hP hD hS => ?_)
              obtain ⟨g969, rfl⟩ : ∃ z, z = u := ⟨_, rfl⟩
              obtain ⟨hP, hD⟩ : ct_B D A H [(qm_lines, .inl (cI, 5, .inl (fm_lines))), mo qm 0 qm_width qm_many qm_cells qm_moved qm_tape vm_taped vm_at vm_token vm_place vm_value vm_word vm_bad vm_badPlace vm_fault vm_faultPlace qm_lines qm_has qm_round qm_meets qm_stumble qm_isMud qm_cell qm_tune qm_change qm_isKept qm_steps qm_places qm_danced vm_runMost vm_runBegins qm_heardBy vm_fitMany vm_fitFirst vm_fitBeats vm_listenLeaves qm_there vm_metAt vm_metIn qm_wins vm_nightHoles vm_nightFirst vm_nightMud vm_nightSlips vm_drawnNow, (qm_meets, .inl (cI, 30, .inl (fm_meets))), (qm_wins, .inl (cI, 24576, .inl (g969)))] := ⟨hP, hD⟩
              have hz := hw
              clear hw
              rcases hz with ⟨hz, hz2⟩ | ⟨hz, hz2⟩
              · subst hz
                refine lv_if_ne (tgt := 68) hx hb dX12_plays_63 (by decide) (fun _ => ?_) (fun hc => absurd hc (by decide))
                refine lv_iinc (v := 1) (lv' := [(3, .int 1), (2, .int 256), (0, .ref qm), (1, .int 4)]) hx hb dX12_plays_68 hl (k := 0) rfl (by decide) (by decide) rfl (fun ls hl => ?_)
                refine lv_goto (tgt := 35) hx hb dX12_plays_71 (by decide) ?_
                have hk970 : (1 : Int32).toInt = 1 := by decide
                obtain ⟨hP9, hD9⟩ : ct_B D A H [(qm_meets, .inl (cI, 30, .inl (fm_meets))), (qm_lines, .inl (cI, 5, .inl (fm_lines))), mo qm 0 qm_width qm_many qm_cells qm_moved qm_tape vm_taped vm_at vm_token vm_place vm_value vm_word vm_bad vm_badPlace vm_fault vm_faultPlace qm_lines qm_has qm_round qm_meets qm_stumble qm_isMud qm_cell qm_tune qm_change qm_isKept qm_steps qm_places qm_danced vm_runMost vm_runBegins qm_heardBy vm_fitMany vm_fitFirst vm_fitBeats vm_listenLeaves qm_there vm_metAt vm_metIn qm_wins vm_nightHoles vm_nightFirst vm_nightMud vm_nightSlips vm_drawnNow, (qm_wins, .inl (cI, 24576, .inl (g969)))] := ⟨hP.sub [2, 0, 1, 3] rfl, hD.sub [2, 0, 1, 3] (by decide) rfl⟩
                exact ih961 (g969, (1 : Int32)) _ _ _ (show (6 - (1 : Int32).toInt).toNat < (6 - x960.toInt).toNat by omega) ⟨(show 0 ≤ (1 : Int32).toInt ∧ (1 : Int32).toInt ≤ 6 by decide), ⟨hP9, hD9⟩, hS, lv_sub hl [0, 1, 2, 3] rfl⟩
              · subst hz
                refine lv_if_ne (tgt := 68) hx hb dX12_plays_63 (by decide) (fun hc => absurd hc (by decide)) (fun _ => ?_)
                refine lv_iload_n hx hb dX12_plays_66 rfl (lv_at hl 0 rfl) ?_
                obtain ⟨hP9, hD9⟩ : ct_B D A H [mo qm 0 qm_width qm_many qm_cells qm_moved qm_tape vm_taped vm_at vm_token vm_place vm_value vm_word vm_bad vm_badPlace vm_fault vm_faultPlace qm_lines qm_has qm_round qm_meets qm_stumble qm_isMud qm_cell qm_tune qm_change qm_isKept qm_steps qm_places qm_danced vm_runMost vm_runBegins qm_heardBy vm_fitMany vm_fitFirst vm_fitBeats vm_listenLeaves qm_there vm_metAt vm_metIn qm_wins vm_nightHoles vm_nightFirst vm_nightMud vm_nightSlips vm_drawnNow, (qm_lines, .inl (cI, 5, .inl (fm_lines))), (qm_meets, .inl (cI, 30, .inl (fm_meets))), (qm_wins, .inl (cI, 24576, .inl (g969)))] := ⟨hP.sub [1, 0, 2, 3] rfl, hD.sub [1, 0, 2, 3] (by decide) rfl⟩
                exact W.iret (v := 0) hx hb hr (fun t ht hW => ⟨⟨0, ((0 : Int32), g969), rfl, (show (-2) ≤ (0 : Int32).toInt ∧ (0 : Int32).toInt ≤ 5 by decide), by rw [ht]; exact hP9, hD9⟩, hS.F ht⟩) hS.2.2 dX12_plays_67
            · subst hz
              refine lv_if_eq (tgt := 68) hx hb dX12_plays_48 (by decide) (fun _ => ?_) (fun hc => absurd hc (by decide))
              refine lv_iinc (v := 1) (lv' := [(3, .int 1), (2, .int 256), (0, .ref qm), (1, .int 4)]) hx hb dX12_plays_68 hl (k := 0) rfl (by decide) (by decide) rfl (fun ls hl => ?_)
              refine lv_goto (tgt := 35) hx hb dX12_plays_71 (by decide) ?_
              have hk971 : (1 : Int32).toInt = 1 := by decide
              obtain ⟨hP9, hD9⟩ : ct_B D A H [(qm_meets, .inl (cI, 30, .inl (fm_meets))), (qm_lines, .inl (cI, 5, .inl (fm_lines))), mo qm 0 qm_width qm_many qm_cells qm_moved qm_tape vm_taped vm_at vm_token vm_place vm_value vm_word vm_bad vm_badPlace vm_fault vm_faultPlace qm_lines qm_has qm_round qm_meets qm_stumble qm_isMud qm_cell qm_tune qm_change qm_isKept qm_steps qm_places qm_danced vm_runMost vm_runBegins qm_heardBy vm_fitMany vm_fitFirst vm_fitBeats vm_listenLeaves qm_there vm_metAt vm_metIn qm_wins vm_nightHoles vm_nightFirst vm_nightMud vm_nightSlips vm_drawnNow, (qm_wins, .inl (cI, 24576, .inl (g959)))] := ⟨hP.sub [3, 0, 2, 1] rfl, hD.sub [3, 0, 2, 1] (by decide) rfl⟩
              exact ih961 (g959, (1 : Int32)) _ _ _ (show (6 - (1 : Int32).toInt).toNat < (6 - x960.toInt).toNat by omega) ⟨(show 0 ≤ (1 : Int32).toInt ∧ (1 : Int32).toInt ≤ 6 by decide), ⟨hP9, hD9⟩, hS, lv_sub hl [0, 1, 2, 3] rfl⟩
          · have hj2 : x960 = 1 := tq_of hj (by decide)
            have hl : lv_has ls 4 [(3, .int 1), (2, .int 256), (0, .ref qm), (1, .int 4)] := by have h9 := hl; rw [hj2] at h9; exact h9
            refine lv_aload_n hx hb dX12_plays_41 rfl (lv_at hl 2 rfl) ?_
            refine lv_iload_n hx hb dX12_plays_42 rfl (lv_at hl 1 rfl) ?_
            refine lv_iload_n hx hb dX12_plays_43 rfl (lv_at hl 3 rfl) ?_
            refine lv_iload_n hx hb dX12_plays_44 rfl (lv_at hl 0 rfl) ?_
            refine ct_calli (D := D) (wr := [(qm_lines, .inl (cI, 5, .inl (fm_lines))), (qm_wins, .inl (cI, 24576, .inl (g959)))]) (va_runV (As := [.int 256, .int 4, .int 1]) (rest := []) ⟨hx, hb, hml, hown, hts⟩ (c_X12_isPlay l D G cI cJ cB cZ cO qm 0 qm_width qm_many qm_cells qm_moved qm_tape vm_taped vm_at vm_token vm_place vm_value vm_word vm_bad vm_badPlace vm_fault vm_faultPlace qm_lines qm_has qm_round qm_meets fm_meets qm_stumble qm_isMud qm_cell qm_tune qm_change qm_isKept qm_steps qm_places qm_danced vm_runMost vm_runBegins qm_heardBy vm_fitMany vm_fitFirst vm_fitBeats vm_listenLeaves qm_there vm_metAt vm_metIn qm_wins vm_nightHoles vm_nightFirst vm_nightMud vm_nightSlips vm_drawnNow 256 4 1 h_vm_taped h_vm_at h_vm_value (by decide) (by decide) H.size) (cwV 3 hts gX12_plays_X12_isPlay rfl rfl rfl (by decide +kernel) ⟨Nat.le_of_ble_eq_true rfl, Nat.le_of_ble_eq_true rfl⟩) (ct_preV (T := ct_T cI cJ cB cZ cO) (ci := 12) (q0 := 2) hE hH hP hD hS hA [2, 0] (by decide) rfl rfl rfl) rfl rfl hl.1 rfl (lv_room (Nat.le_of_ble_eq_true rfl)) dX12_plays_45 ⟨Nat.le_of_ble_eq_true rfl, Nat.le_of_ble_eq_true rfl⟩) hP hD hS hA [2, 0] [1, 3] rfl rfl (by decide) (by decide) (fun r972 u H locs hw hP hD hS => ?_)
            obtain ⟨hP, hD⟩ : ct_B D A H [(qm_lines, .inl (cI, 5, .inl (fm_lines))), (qm_wins, .inl (cI, 24576, .inl (g959))), mo qm 0 qm_width qm_many qm_cells qm_moved qm_tape vm_taped vm_at vm_token vm_place vm_value vm_word vm_bad vm_badPlace vm_fault vm_faultPlace qm_lines qm_has qm_round qm_meets qm_stumble qm_isMud qm_cell qm_tune qm_change qm_isKept qm_steps qm_places qm_danced vm_runMost vm_runBegins qm_heardBy vm_fitMany vm_fitFirst vm_fitBeats vm_listenLeaves qm_there vm_metAt vm_metIn qm_wins vm_nightHoles vm_nightFirst vm_nightMud vm_nightSlips vm_drawnNow, (qm_meets, .inl (cI, 30, .inl (fm_meets)))] := ⟨hP, hD⟩
            have hz := hw
            clear hw
            rcases hz with ⟨hz, hz2⟩ | ⟨hz, hz2⟩
            · subst hz
              have hz_973 : (pl (256 : Int32) (1 : Int32)) := hz2
              refine lv_if_eq (tgt := 68) hx hb dX12_plays_48 (by decide) (fun hc => absurd hc (by decide)) (fun _ => ?_)
              refine lv_aload_n hx hb dX12_plays_51 rfl (lv_at hl 2 rfl) ?_
              refine lv_iload_n hx hb dX12_plays_52 rfl (lv_at hl 1 rfl) ?_
              refine lv_iconst (v := 1) hx hb dX12_plays_53 (by decide) ?_
              refine lv_iconst (v := 2) hx hb dX12_plays_54 (by decide) ?_
              refine lv_iload_n hx hb dX12_plays_55 rfl (lv_at hl 0 rfl) ?_
              refine lv_imul hx hb dX12_plays_56 ?_
              refine lv_topi (fun z974 ez974 => ?_)
              obtain rfl : z974 = 2 := ez974.trans (by decide)
              refine lv_ishl hx hb dX12_plays_57 ?_
              refine lv_topi (fun z975 ez975 => ?_)
              obtain rfl : z975 = 4 := ez975.trans (by decide)
              refine lv_iadd hx hb dX12_plays_58 ?_
              refine lv_topi (fun z976 ez976 => ?_)
              obtain rfl : z976 = 260 := ez976.trans (by decide)
              refine lv_iload_n hx hb dX12_plays_59 rfl (lv_at hl 0 rfl) ?_
              refine ct_calli (D := D) (wr := [(qm_lines, .inl (cI, 5, .inl (fm_lines)))]) (va_runV (As := [.int 260, .int 1]) (rest := []) ⟨hx, hb, hml, hown, hts⟩ (c_X12_winsFrom l D G cI cJ cB cZ cO qm 0 qm_width qm_many qm_cells qm_moved qm_tape vm_taped vm_at vm_token vm_place vm_value vm_word vm_bad vm_badPlace vm_fault vm_faultPlace qm_lines qm_has qm_round qm_meets fm_meets qm_stumble qm_isMud qm_cell qm_tune qm_change qm_isKept qm_steps qm_places qm_danced vm_runMost vm_runBegins qm_heardBy vm_fitMany vm_fitFirst vm_fitBeats vm_listenLeaves qm_there vm_metAt vm_metIn qm_wins vm_nightHoles vm_nightFirst vm_nightMud vm_nightSlips vm_drawnNow h_vm_taped h_vm_at h_vm_value 12 g959 260 1 (by decide) (by unfold wn; decide +kernel) H.size) (cwV 2 hts gX12_plays_X12_winsFrom rfl rfl rfl (by decide +kernel) ⟨Nat.le_of_ble_eq_true rfl, Nat.le_of_ble_eq_true rfl⟩) (ct_preV (T := ct_T cI cJ cB cZ cO) (ci := 12) (q0 := 2) hE hH hP hD hS hA [2, 3, 1] (by decide) rfl rfl rfl) rfl rfl hl.1 rfl (lv_room (Nat.le_of_ble_eq_true rfl)) dX12_plays_60 ⟨Nat.le_of_ble_eq_true rfl, Nat.le_of_ble_eq_true rfl⟩) hP hD hS hA [2, 3, 1] [0] rfl rfl (by decide) (by decide) (fun r977 u H locs hw hP hD hS => ?_)
              obtain ⟨g978, rfl⟩ : ∃ z, z = u := ⟨_, rfl⟩
              obtain ⟨hP, hD⟩ : ct_B D A H [(qm_lines, .inl (cI, 5, .inl (fm_lines))), mo qm 0 qm_width qm_many qm_cells qm_moved qm_tape vm_taped vm_at vm_token vm_place vm_value vm_word vm_bad vm_badPlace vm_fault vm_faultPlace qm_lines qm_has qm_round qm_meets qm_stumble qm_isMud qm_cell qm_tune qm_change qm_isKept qm_steps qm_places qm_danced vm_runMost vm_runBegins qm_heardBy vm_fitMany vm_fitFirst vm_fitBeats vm_listenLeaves qm_there vm_metAt vm_metIn qm_wins vm_nightHoles vm_nightFirst vm_nightMud vm_nightSlips vm_drawnNow, (qm_meets, .inl (cI, 30, .inl (fm_meets))), (qm_wins, .inl (cI, 24576, .inl (g978)))] := ⟨hP, hD⟩
              have hz := hw
              clear hw
              rcases hz with ⟨hz, hz2⟩ | ⟨hz, hz2⟩
              · subst hz
                refine lv_if_ne (tgt := 68) hx hb dX12_plays_63 (by decide) (fun _ => ?_) (fun hc => absurd hc (by decide))
                refine lv_iinc (v := 2) (lv' := [(3, .int 2), (2, .int 256), (0, .ref qm), (1, .int 4)]) hx hb dX12_plays_68 hl (k := 0) rfl (by decide) (by decide) rfl (fun ls hl => ?_)
                refine lv_goto (tgt := 35) hx hb dX12_plays_71 (by decide) ?_
                have hk979 : (2 : Int32).toInt = 2 := by decide
                obtain ⟨hP9, hD9⟩ : ct_B D A H [(qm_meets, .inl (cI, 30, .inl (fm_meets))), (qm_lines, .inl (cI, 5, .inl (fm_lines))), mo qm 0 qm_width qm_many qm_cells qm_moved qm_tape vm_taped vm_at vm_token vm_place vm_value vm_word vm_bad vm_badPlace vm_fault vm_faultPlace qm_lines qm_has qm_round qm_meets qm_stumble qm_isMud qm_cell qm_tune qm_change qm_isKept qm_steps qm_places qm_danced vm_runMost vm_runBegins qm_heardBy vm_fitMany vm_fitFirst vm_fitBeats vm_listenLeaves qm_there vm_metAt vm_metIn qm_wins vm_nightHoles vm_nightFirst vm_nightMud vm_nightSlips vm_drawnNow, (qm_wins, .inl (cI, 24576, .inl (g978)))] := ⟨hP.sub [2, 0, 1, 3] rfl, hD.sub [2, 0, 1, 3] (by decide) rfl⟩
                exact ih961 (g978, (2 : Int32)) _ _ _ (show (6 - (2 : Int32).toInt).toNat < (6 - x960.toInt).toNat by omega) ⟨(show 0 ≤ (2 : Int32).toInt ∧ (2 : Int32).toInt ≤ 6 by decide), ⟨hP9, hD9⟩, hS, lv_sub hl [0, 1, 2, 3] rfl⟩
              · subst hz
                refine lv_if_ne (tgt := 68) hx hb dX12_plays_63 (by decide) (fun hc => absurd hc (by decide)) (fun _ => ?_)
                refine lv_iload_n hx hb dX12_plays_66 rfl (lv_at hl 0 rfl) ?_
                obtain ⟨hP9, hD9⟩ : ct_B D A H [mo qm 0 qm_width qm_many qm_cells qm_moved qm_tape vm_taped vm_at vm_token vm_place vm_value vm_word vm_bad vm_badPlace vm_fault vm_faultPlace qm_lines qm_has qm_round qm_meets qm_stumble qm_isMud qm_cell qm_tune qm_change qm_isKept qm_steps qm_places qm_danced vm_runMost vm_runBegins qm_heardBy vm_fitMany vm_fitFirst vm_fitBeats vm_listenLeaves qm_there vm_metAt vm_metIn qm_wins vm_nightHoles vm_nightFirst vm_nightMud vm_nightSlips vm_drawnNow, (qm_lines, .inl (cI, 5, .inl (fm_lines))), (qm_meets, .inl (cI, 30, .inl (fm_meets))), (qm_wins, .inl (cI, 24576, .inl (g978)))] := ⟨hP.sub [1, 0, 2, 3] rfl, hD.sub [1, 0, 2, 3] (by decide) rfl⟩
                exact W.iret (v := 1) hx hb hr (fun t ht hW => ⟨⟨1, ((0 : Int32), g978), rfl, (show (-2) ≤ (1 : Int32).toInt ∧ (1 : Int32).toInt ≤ 5 by decide), by rw [ht]; exact hP9, hD9⟩, hS.F ht⟩) hS.2.2 dX12_plays_67
            · subst hz
              refine lv_if_eq (tgt := 68) hx hb dX12_plays_48 (by decide) (fun _ => ?_) (fun hc => absurd hc (by decide))
              refine lv_iinc (v := 2) (lv' := [(3, .int 2), (2, .int 256), (0, .ref qm), (1, .int 4)]) hx hb dX12_plays_68 hl (k := 0) rfl (by decide) (by decide) rfl (fun ls hl => ?_)
              refine lv_goto (tgt := 35) hx hb dX12_plays_71 (by decide) ?_
              have hk980 : (2 : Int32).toInt = 2 := by decide
              obtain ⟨hP9, hD9⟩ : ct_B D A H [(qm_meets, .inl (cI, 30, .inl (fm_meets))), (qm_lines, .inl (cI, 5, .inl (fm_lines))), mo qm 0 qm_width qm_many qm_cells qm_moved qm_tape vm_taped vm_at vm_token vm_place vm_value vm_word vm_bad vm_badPlace vm_fault vm_faultPlace qm_lines qm_has qm_round qm_meets qm_stumble qm_isMud qm_cell qm_tune qm_change qm_isKept qm_steps qm_places qm_danced vm_runMost vm_runBegins qm_heardBy vm_fitMany vm_fitFirst vm_fitBeats vm_listenLeaves qm_there vm_metAt vm_metIn qm_wins vm_nightHoles vm_nightFirst vm_nightMud vm_nightSlips vm_drawnNow, (qm_wins, .inl (cI, 24576, .inl (g959)))] := ⟨hP.sub [3, 0, 2, 1] rfl, hD.sub [3, 0, 2, 1] (by decide) rfl⟩
              exact ih961 (g959, (2 : Int32)) _ _ _ (show (6 - (2 : Int32).toInt).toNat < (6 - x960.toInt).toNat by omega) ⟨(show 0 ≤ (2 : Int32).toInt ∧ (2 : Int32).toInt ≤ 6 by decide), ⟨hP9, hD9⟩, hS, lv_sub hl [0, 1, 2, 3] rfl⟩
          · have hj2 : x960 = 2 := tq_of hj (by decide)
            have hl : lv_has ls 4 [(3, .int 2), (2, .int 256), (0, .ref qm), (1, .int 4)] := by have h9 := hl; rw [hj2] at h9; exact h9
            refine lv_aload_n hx hb dX12_plays_41 rfl (lv_at hl 2 rfl) ?_
            refine lv_iload_n hx hb dX12_plays_42 rfl (lv_at hl 1 rfl) ?_
            refine lv_iload_n hx hb dX12_plays_43 rfl (lv_at hl 3 rfl) ?_
            refine lv_iload_n hx hb dX12_plays_44 rfl (lv_at hl 0 rfl) ?_
            refine ct_calli (D := D) (wr := [(qm_lines, .inl (cI, 5, .inl (fm_lines))), (qm_wins, .inl (cI, 24576, .inl (g959)))]) (va_runV (As := [.int 256, .int 4, .int 2]) (rest := []) ⟨hx, hb, hml, hown, hts⟩ (c_X12_isPlay l D G cI cJ cB cZ cO qm 0 qm_width qm_many qm_cells qm_moved qm_tape vm_taped vm_at vm_token vm_place vm_value vm_word vm_bad vm_badPlace vm_fault vm_faultPlace qm_lines qm_has qm_round qm_meets fm_meets qm_stumble qm_isMud qm_cell qm_tune qm_change qm_isKept qm_steps qm_places qm_danced vm_runMost vm_runBegins qm_heardBy vm_fitMany vm_fitFirst vm_fitBeats vm_listenLeaves qm_there vm_metAt vm_metIn qm_wins vm_nightHoles vm_nightFirst vm_nightMud vm_nightSlips vm_drawnNow 256 4 2 h_vm_taped h_vm_at h_vm_value (by decide) (by decide) H.size) (cwV 3 hts gX12_plays_X12_isPlay rfl rfl rfl (by decide +kernel) ⟨Nat.le_of_ble_eq_true rfl, Nat.le_of_ble_eq_true rfl⟩) (ct_preV (T := ct_T cI cJ cB cZ cO) (ci := 12) (q0 := 2) hE hH hP hD hS hA [2, 0] (by decide) rfl rfl rfl) rfl rfl hl.1 rfl (lv_room (Nat.le_of_ble_eq_true rfl)) dX12_plays_45 ⟨Nat.le_of_ble_eq_true rfl, Nat.le_of_ble_eq_true rfl⟩) hP hD hS hA [2, 0] [1, 3] rfl rfl (by decide) (by decide) (fun r981 u H locs hw hP hD hS => ?_)
            obtain ⟨hP, hD⟩ : ct_B D A H [(qm_lines, .inl (cI, 5, .inl (fm_lines))), (qm_wins, .inl (cI, 24576, .inl (g959))), mo qm 0 qm_width qm_many qm_cells qm_moved qm_tape vm_taped vm_at vm_token vm_place vm_value vm_word vm_bad vm_badPlace vm_fault vm_faultPlace qm_lines qm_has qm_round qm_meets qm_stumble qm_isMud qm_cell qm_tune qm_change qm_isKept qm_steps qm_places qm_danced vm_runMost vm_runBegins qm_heardBy vm_fitMany vm_fitFirst vm_fitBeats vm_listenLeaves qm_there vm_metAt vm_metIn qm_wins vm_nightHoles vm_nightFirst vm_nightMud vm_nightSlips vm_drawnNow, (qm_meets, .inl (cI, 30, .inl (fm_meets)))] := ⟨hP, hD⟩
            have hz := hw
            clear hw
            rcases hz with ⟨hz, hz2⟩ | ⟨hz, hz2⟩
            · subst hz
              have hz_982 : (pl (256 : Int32) (2 : Int32)) := hz2
              refine lv_if_eq (tgt := 68) hx hb dX12_plays_48 (by decide) (fun hc => absurd hc (by decide)) (fun _ => ?_)
              refine lv_aload_n hx hb dX12_plays_51 rfl (lv_at hl 2 rfl) ?_
              refine lv_iload_n hx hb dX12_plays_52 rfl (lv_at hl 1 rfl) ?_
              refine lv_iconst (v := 1) hx hb dX12_plays_53 (by decide) ?_
              refine lv_iconst (v := 2) hx hb dX12_plays_54 (by decide) ?_
              refine lv_iload_n hx hb dX12_plays_55 rfl (lv_at hl 0 rfl) ?_
              refine lv_imul hx hb dX12_plays_56 ?_
              refine lv_topi (fun z983 ez983 => ?_)
              obtain rfl : z983 = 4 := ez983.trans (by decide)
              refine lv_ishl hx hb dX12_plays_57 ?_
              refine lv_topi (fun z984 ez984 => ?_)
              obtain rfl : z984 = 16 := ez984.trans (by decide)
              refine lv_iadd hx hb dX12_plays_58 ?_
              refine lv_topi (fun z985 ez985 => ?_)
              obtain rfl : z985 = 272 := ez985.trans (by decide)
              refine lv_iload_n hx hb dX12_plays_59 rfl (lv_at hl 0 rfl) ?_
              refine ct_calli (D := D) (wr := [(qm_lines, .inl (cI, 5, .inl (fm_lines)))]) (va_runV (As := [.int 272, .int 2]) (rest := []) ⟨hx, hb, hml, hown, hts⟩ (c_X12_winsFrom l D G cI cJ cB cZ cO qm 0 qm_width qm_many qm_cells qm_moved qm_tape vm_taped vm_at vm_token vm_place vm_value vm_word vm_bad vm_badPlace vm_fault vm_faultPlace qm_lines qm_has qm_round qm_meets fm_meets qm_stumble qm_isMud qm_cell qm_tune qm_change qm_isKept qm_steps qm_places qm_danced vm_runMost vm_runBegins qm_heardBy vm_fitMany vm_fitFirst vm_fitBeats vm_listenLeaves qm_there vm_metAt vm_metIn qm_wins vm_nightHoles vm_nightFirst vm_nightMud vm_nightSlips vm_drawnNow h_vm_taped h_vm_at h_vm_value 12 g959 272 2 (by decide) (by unfold wn; decide +kernel) H.size) (cwV 2 hts gX12_plays_X12_winsFrom rfl rfl rfl (by decide +kernel) ⟨Nat.le_of_ble_eq_true rfl, Nat.le_of_ble_eq_true rfl⟩) (ct_preV (T := ct_T cI cJ cB cZ cO) (ci := 12) (q0 := 2) hE hH hP hD hS hA [2, 3, 1] (by decide) rfl rfl rfl) rfl rfl hl.1 rfl (lv_room (Nat.le_of_ble_eq_true rfl)) dX12_plays_60 ⟨Nat.le_of_ble_eq_true rfl, Nat.le_of_ble_eq_true rfl⟩) hP hD hS hA [2, 3, 1] [0] rfl rfl (by decide) (by decide) (fun r986 u H locs hw hP hD hS => ?_)
              obtain ⟨g987, rfl⟩ : ∃ z, z = u := ⟨_, rfl⟩
              obtain ⟨hP, hD⟩ : ct_B D A H [(qm_lines, .inl (cI, 5, .inl (fm_lines))), mo qm 0 qm_width qm_many qm_cells qm_moved qm_tape vm_taped vm_at vm_token vm_place vm_value vm_word vm_bad vm_badPlace vm_fault vm_faultPlace qm_lines qm_has qm_round qm_meets qm_stumble qm_isMud qm_cell qm_tune qm_change qm_isKept qm_steps qm_places qm_danced vm_runMost vm_runBegins qm_heardBy vm_fitMany vm_fitFirst vm_fitBeats vm_listenLeaves qm_there vm_metAt vm_metIn qm_wins vm_nightHoles vm_nightFirst vm_nightMud vm_nightSlips vm_drawnNow, (qm_meets, .inl (cI, 30, .inl (fm_meets))), (qm_wins, .inl (cI, 24576, .inl (g987)))] := ⟨hP, hD⟩
              have hz := hw
              clear hw
              rcases hz with ⟨hz, hz2⟩ | ⟨hz, hz2⟩
              · subst hz
                refine lv_if_ne (tgt := 68) hx hb dX12_plays_63 (by decide) (fun _ => ?_) (fun hc => absurd hc (by decide))
                refine lv_iinc (v := 3) (lv' := [(3, .int 3), (2, .int 256), (0, .ref qm), (1, .int 4)]) hx hb dX12_plays_68 hl (k := 0) rfl (by decide) (by decide) rfl (fun ls hl => ?_)
                refine lv_goto (tgt := 35) hx hb dX12_plays_71 (by decide) ?_
                have hk988 : (3 : Int32).toInt = 3 := by decide
                obtain ⟨hP9, hD9⟩ : ct_B D A H [(qm_meets, .inl (cI, 30, .inl (fm_meets))), (qm_lines, .inl (cI, 5, .inl (fm_lines))), mo qm 0 qm_width qm_many qm_cells qm_moved qm_tape vm_taped vm_at vm_token vm_place vm_value vm_word vm_bad vm_badPlace vm_fault vm_faultPlace qm_lines qm_has qm_round qm_meets qm_stumble qm_isMud qm_cell qm_tune qm_change qm_isKept qm_steps qm_places qm_danced vm_runMost vm_runBegins qm_heardBy vm_fitMany vm_fitFirst vm_fitBeats vm_listenLeaves qm_there vm_metAt vm_metIn qm_wins vm_nightHoles vm_nightFirst vm_nightMud vm_nightSlips vm_drawnNow, (qm_wins, .inl (cI, 24576, .inl (g987)))] := ⟨hP.sub [2, 0, 1, 3] rfl, hD.sub [2, 0, 1, 3] (by decide) rfl⟩
                exact ih961 (g987, (3 : Int32)) _ _ _ (show (6 - (3 : Int32).toInt).toNat < (6 - x960.toInt).toNat by omega) ⟨(show 0 ≤ (3 : Int32).toInt ∧ (3 : Int32).toInt ≤ 6 by decide), ⟨hP9, hD9⟩, hS, lv_sub hl [0, 1, 2, 3] rfl⟩
              · subst hz
                refine lv_if_ne (tgt := 68) hx hb dX12_plays_63 (by decide) (fun hc => absurd hc (by decide)) (fun _ => ?_)
                refine lv_iload_n hx hb dX12_plays_66 rfl (lv_at hl 0 rfl) ?_
                obtain ⟨hP9, hD9⟩ : ct_B D A H [mo qm 0 qm_width qm_many qm_cells qm_moved qm_tape vm_taped vm_at vm_token vm_place vm_value vm_word vm_bad vm_badPlace vm_fault vm_faultPlace qm_lines qm_has qm_round qm_meets qm_stumble qm_isMud qm_cell qm_tune qm_change qm_isKept qm_steps qm_places qm_danced vm_runMost vm_runBegins qm_heardBy vm_fitMany vm_fitFirst vm_fitBeats vm_listenLeaves qm_there vm_metAt vm_metIn qm_wins vm_nightHoles vm_nightFirst vm_nightMud vm_nightSlips vm_drawnNow, (qm_lines, .inl (cI, 5, .inl (fm_lines))), (qm_meets, .inl (cI, 30, .inl (fm_meets))), (qm_wins, .inl (cI, 24576, .inl (g987)))] := ⟨hP.sub [1, 0, 2, 3] rfl, hD.sub [1, 0, 2, 3] (by decide) rfl⟩
                exact W.iret (v := 2) hx hb hr (fun t ht hW => ⟨⟨2, ((0 : Int32), g987), rfl, (show (-2) ≤ (2 : Int32).toInt ∧ (2 : Int32).toInt ≤ 5 by decide), by rw [ht]; exact hP9, hD9⟩, hS.F ht⟩) hS.2.2 dX12_plays_67
            · subst hz
              refine lv_if_eq (tgt := 68) hx hb dX12_plays_48 (by decide) (fun _ => ?_) (fun hc => absurd hc (by decide))
              refine lv_iinc (v := 3) (lv' := [(3, .int 3), (2, .int 256), (0, .ref qm), (1, .int 4)]) hx hb dX12_plays_68 hl (k := 0) rfl (by decide) (by decide) rfl (fun ls hl => ?_)
              refine lv_goto (tgt := 35) hx hb dX12_plays_71 (by decide) ?_
              have hk989 : (3 : Int32).toInt = 3 := by decide
              obtain ⟨hP9, hD9⟩ : ct_B D A H [(qm_meets, .inl (cI, 30, .inl (fm_meets))), (qm_lines, .inl (cI, 5, .inl (fm_lines))), mo qm 0 qm_width qm_many qm_cells qm_moved qm_tape vm_taped vm_at vm_token vm_place vm_value vm_word vm_bad vm_badPlace vm_fault vm_faultPlace qm_lines qm_has qm_round qm_meets qm_stumble qm_isMud qm_cell qm_tune qm_change qm_isKept qm_steps qm_places qm_danced vm_runMost vm_runBegins qm_heardBy vm_fitMany vm_fitFirst vm_fitBeats vm_listenLeaves qm_there vm_metAt vm_metIn qm_wins vm_nightHoles vm_nightFirst vm_nightMud vm_nightSlips vm_drawnNow, (qm_wins, .inl (cI, 24576, .inl (g959)))] := ⟨hP.sub [3, 0, 2, 1] rfl, hD.sub [3, 0, 2, 1] (by decide) rfl⟩
              exact ih961 (g959, (3 : Int32)) _ _ _ (show (6 - (3 : Int32).toInt).toNat < (6 - x960.toInt).toNat by omega) ⟨(show 0 ≤ (3 : Int32).toInt ∧ (3 : Int32).toInt ≤ 6 by decide), ⟨hP9, hD9⟩, hS, lv_sub hl [0, 1, 2, 3] rfl⟩
          · have hj2 : x960 = 3 := tq_of hj (by decide)
            have hl : lv_has ls 4 [(3, .int 3), (2, .int 256), (0, .ref qm), (1, .int 4)] := by have h9 := hl; rw [hj2] at h9; exact h9
            refine lv_aload_n hx hb dX12_plays_41 rfl (lv_at hl 2 rfl) ?_
            refine lv_iload_n hx hb dX12_plays_42 rfl (lv_at hl 1 rfl) ?_
            refine lv_iload_n hx hb dX12_plays_43 rfl (lv_at hl 3 rfl) ?_
            refine lv_iload_n hx hb dX12_plays_44 rfl (lv_at hl 0 rfl) ?_
            refine ct_calli (D := D) (wr := [(qm_lines, .inl (cI, 5, .inl (fm_lines))), (qm_wins, .inl (cI, 24576, .inl (g959)))]) (va_runV (As := [.int 256, .int 4, .int 3]) (rest := []) ⟨hx, hb, hml, hown, hts⟩ (c_X12_isPlay l D G cI cJ cB cZ cO qm 0 qm_width qm_many qm_cells qm_moved qm_tape vm_taped vm_at vm_token vm_place vm_value vm_word vm_bad vm_badPlace vm_fault vm_faultPlace qm_lines qm_has qm_round qm_meets fm_meets qm_stumble qm_isMud qm_cell qm_tune qm_change qm_isKept qm_steps qm_places qm_danced vm_runMost vm_runBegins qm_heardBy vm_fitMany vm_fitFirst vm_fitBeats vm_listenLeaves qm_there vm_metAt vm_metIn qm_wins vm_nightHoles vm_nightFirst vm_nightMud vm_nightSlips vm_drawnNow 256 4 3 h_vm_taped h_vm_at h_vm_value (by decide) (by decide) H.size) (cwV 3 hts gX12_plays_X12_isPlay rfl rfl rfl (by decide +kernel) ⟨Nat.le_of_ble_eq_true rfl, Nat.le_of_ble_eq_true rfl⟩) (ct_preV (T := ct_T cI cJ cB cZ cO) (ci := 12) (q0 := 2) hE hH hP hD hS hA [2, 0] (by decide) rfl rfl rfl) rfl rfl hl.1 rfl (lv_room (Nat.le_of_ble_eq_true rfl)) dX12_plays_45 ⟨Nat.le_of_ble_eq_true rfl, Nat.le_of_ble_eq_true rfl⟩) hP hD hS hA [2, 0] [1, 3] rfl rfl (by decide) (by decide) (fun r990 u H locs hw hP hD hS => ?_)
            obtain ⟨hP, hD⟩ : ct_B D A H [(qm_lines, .inl (cI, 5, .inl (fm_lines))), (qm_wins, .inl (cI, 24576, .inl (g959))), mo qm 0 qm_width qm_many qm_cells qm_moved qm_tape vm_taped vm_at vm_token vm_place vm_value vm_word vm_bad vm_badPlace vm_fault vm_faultPlace qm_lines qm_has qm_round qm_meets qm_stumble qm_isMud qm_cell qm_tune qm_change qm_isKept qm_steps qm_places qm_danced vm_runMost vm_runBegins qm_heardBy vm_fitMany vm_fitFirst vm_fitBeats vm_listenLeaves qm_there vm_metAt vm_metIn qm_wins vm_nightHoles vm_nightFirst vm_nightMud vm_nightSlips vm_drawnNow, (qm_meets, .inl (cI, 30, .inl (fm_meets)))] := ⟨hP, hD⟩
            have hz := hw
            clear hw
            rcases hz with ⟨hz, hz2⟩ | ⟨hz, hz2⟩
            · subst hz
              have hz_991 : (pl (256 : Int32) (3 : Int32)) := hz2
              refine lv_if_eq (tgt := 68) hx hb dX12_plays_48 (by decide) (fun hc => absurd hc (by decide)) (fun _ => ?_)
              refine lv_aload_n hx hb dX12_plays_51 rfl (lv_at hl 2 rfl) ?_
              refine lv_iload_n hx hb dX12_plays_52 rfl (lv_at hl 1 rfl) ?_
              refine lv_iconst (v := 1) hx hb dX12_plays_53 (by decide) ?_
              refine lv_iconst (v := 2) hx hb dX12_plays_54 (by decide) ?_
              refine lv_iload_n hx hb dX12_plays_55 rfl (lv_at hl 0 rfl) ?_
              refine lv_imul hx hb dX12_plays_56 ?_
              refine lv_topi (fun z992 ez992 => ?_)
              obtain rfl : z992 = 6 := ez992.trans (by decide)
              refine lv_ishl hx hb dX12_plays_57 ?_
              refine lv_topi (fun z993 ez993 => ?_)
              obtain rfl : z993 = 64 := ez993.trans (by decide)
              refine lv_iadd hx hb dX12_plays_58 ?_
              refine lv_topi (fun z994 ez994 => ?_)
              obtain rfl : z994 = 320 := ez994.trans (by decide)
              refine lv_iload_n hx hb dX12_plays_59 rfl (lv_at hl 0 rfl) ?_
              refine ct_calli (D := D) (wr := [(qm_lines, .inl (cI, 5, .inl (fm_lines)))]) (va_runV (As := [.int 320, .int 3]) (rest := []) ⟨hx, hb, hml, hown, hts⟩ (c_X12_winsFrom l D G cI cJ cB cZ cO qm 0 qm_width qm_many qm_cells qm_moved qm_tape vm_taped vm_at vm_token vm_place vm_value vm_word vm_bad vm_badPlace vm_fault vm_faultPlace qm_lines qm_has qm_round qm_meets fm_meets qm_stumble qm_isMud qm_cell qm_tune qm_change qm_isKept qm_steps qm_places qm_danced vm_runMost vm_runBegins qm_heardBy vm_fitMany vm_fitFirst vm_fitBeats vm_listenLeaves qm_there vm_metAt vm_metIn qm_wins vm_nightHoles vm_nightFirst vm_nightMud vm_nightSlips vm_drawnNow h_vm_taped h_vm_at h_vm_value 12 g959 320 3 (by decide) (by unfold wn; decide +kernel) H.size) (cwV 2 hts gX12_plays_X12_winsFrom rfl rfl rfl (by decide +kernel) ⟨Nat.le_of_ble_eq_true rfl, Nat.le_of_ble_eq_true rfl⟩) (ct_preV (T := ct_T cI cJ cB cZ cO) (ci := 12) (q0 := 2) hE hH hP hD hS hA [2, 3, 1] (by decide) rfl rfl rfl) rfl rfl hl.1 rfl (lv_room (Nat.le_of_ble_eq_true rfl)) dX12_plays_60 ⟨Nat.le_of_ble_eq_true rfl, Nat.le_of_ble_eq_true rfl⟩) hP hD hS hA [2, 3, 1] [0] rfl rfl (by decide) (by decide) (fun r995 u H locs hw hP hD hS => ?_)
              obtain ⟨g996, rfl⟩ : ∃ z, z = u := ⟨_, rfl⟩
              obtain ⟨hP, hD⟩ : ct_B D A H [(qm_lines, .inl (cI, 5, .inl (fm_lines))), mo qm 0 qm_width qm_many qm_cells qm_moved qm_tape vm_taped vm_at vm_token vm_place vm_value vm_word vm_bad vm_badPlace vm_fault vm_faultPlace qm_lines qm_has qm_round qm_meets qm_stumble qm_isMud qm_cell qm_tune qm_change qm_isKept qm_steps qm_places qm_danced vm_runMost vm_runBegins qm_heardBy vm_fitMany vm_fitFirst vm_fitBeats vm_listenLeaves qm_there vm_metAt vm_metIn qm_wins vm_nightHoles vm_nightFirst vm_nightMud vm_nightSlips vm_drawnNow, (qm_meets, .inl (cI, 30, .inl (fm_meets))), (qm_wins, .inl (cI, 24576, .inl (g996)))] := ⟨hP, hD⟩
              have hz := hw
              clear hw
              rcases hz with ⟨hz, hz2⟩ | ⟨hz, hz2⟩
              · subst hz
                refine lv_if_ne (tgt := 68) hx hb dX12_plays_63 (by decide) (fun _ => ?_) (fun hc => absurd hc (by decide))
                refine lv_iinc (v := 4) (lv' := [(3, .int 4), (2, .int 256), (0, .ref qm), (1, .int 4)]) hx hb dX12_plays_68 hl (k := 0) rfl (by decide) (by decide) rfl (fun ls hl => ?_)
                refine lv_goto (tgt := 35) hx hb dX12_plays_71 (by decide) ?_
                have hk997 : (4 : Int32).toInt = 4 := by decide
                obtain ⟨hP9, hD9⟩ : ct_B D A H [(qm_meets, .inl (cI, 30, .inl (fm_meets))), (qm_lines, .inl (cI, 5, .inl (fm_lines))), mo qm 0 qm_width qm_many qm_cells qm_moved qm_tape vm_taped vm_at vm_token vm_place vm_value vm_word vm_bad vm_badPlace vm_fault vm_faultPlace qm_lines qm_has qm_round qm_meets qm_stumble qm_isMud qm_cell qm_tune qm_change qm_isKept qm_steps qm_places qm_danced vm_runMost vm_runBegins qm_heardBy vm_fitMany vm_fitFirst vm_fitBeats vm_listenLeaves qm_there vm_metAt vm_metIn qm_wins vm_nightHoles vm_nightFirst vm_nightMud vm_nightSlips vm_drawnNow, (qm_wins, .inl (cI, 24576, .inl (g996)))] := ⟨hP.sub [2, 0, 1, 3] rfl, hD.sub [2, 0, 1, 3] (by decide) rfl⟩
                exact ih961 (g996, (4 : Int32)) _ _ _ (show (6 - (4 : Int32).toInt).toNat < (6 - x960.toInt).toNat by omega) ⟨(show 0 ≤ (4 : Int32).toInt ∧ (4 : Int32).toInt ≤ 6 by decide), ⟨hP9, hD9⟩, hS, lv_sub hl [0, 1, 2, 3] rfl⟩
              · subst hz
                refine lv_if_ne (tgt := 68) hx hb dX12_plays_63 (by decide) (fun hc => absurd hc (by decide)) (fun _ => ?_)
                refine lv_iload_n hx hb dX12_plays_66 rfl (lv_at hl 0 rfl) ?_
                obtain ⟨hP9, hD9⟩ : ct_B D A H [mo qm 0 qm_width qm_many qm_cells qm_moved qm_tape vm_taped vm_at vm_token vm_place vm_value vm_word vm_bad vm_badPlace vm_fault vm_faultPlace qm_lines qm_has qm_round qm_meets qm_stumble qm_isMud qm_cell qm_tune qm_change qm_isKept qm_steps qm_places qm_danced vm_runMost vm_runBegins qm_heardBy vm_fitMany vm_fitFirst vm_fitBeats vm_listenLeaves qm_there vm_metAt vm_metIn qm_wins vm_nightHoles vm_nightFirst vm_nightMud vm_nightSlips vm_drawnNow, (qm_lines, .inl (cI, 5, .inl (fm_lines))), (qm_meets, .inl (cI, 30, .inl (fm_meets))), (qm_wins, .inl (cI, 24576, .inl (g996)))] := ⟨hP.sub [1, 0, 2, 3] rfl, hD.sub [1, 0, 2, 3] (by decide) rfl⟩
                exact W.iret (v := 3) hx hb hr (fun t ht hW => ⟨⟨3, ((0 : Int32), g996), rfl, (show (-2) ≤ (3 : Int32).toInt ∧ (3 : Int32).toInt ≤ 5 by decide), by rw [ht]; exact hP9, hD9⟩, hS.F ht⟩) hS.2.2 dX12_plays_67
            · subst hz
              refine lv_if_eq (tgt := 68) hx hb dX12_plays_48 (by decide) (fun _ => ?_) (fun hc => absurd hc (by decide))
              refine lv_iinc (v := 4) (lv' := [(3, .int 4), (2, .int 256), (0, .ref qm), (1, .int 4)]) hx hb dX12_plays_68 hl (k := 0) rfl (by decide) (by decide) rfl (fun ls hl => ?_)
              refine lv_goto (tgt := 35) hx hb dX12_plays_71 (by decide) ?_
              have hk998 : (4 : Int32).toInt = 4 := by decide
              obtain ⟨hP9, hD9⟩ : ct_B D A H [(qm_meets, .inl (cI, 30, .inl (fm_meets))), (qm_lines, .inl (cI, 5, .inl (fm_lines))), mo qm 0 qm_width qm_many qm_cells qm_moved qm_tape vm_taped vm_at vm_token vm_place vm_value vm_word vm_bad vm_badPlace vm_fault vm_faultPlace qm_lines qm_has qm_round qm_meets qm_stumble qm_isMud qm_cell qm_tune qm_change qm_isKept qm_steps qm_places qm_danced vm_runMost vm_runBegins qm_heardBy vm_fitMany vm_fitFirst vm_fitBeats vm_listenLeaves qm_there vm_metAt vm_metIn qm_wins vm_nightHoles vm_nightFirst vm_nightMud vm_nightSlips vm_drawnNow, (qm_wins, .inl (cI, 24576, .inl (g959)))] := ⟨hP.sub [3, 0, 2, 1] rfl, hD.sub [3, 0, 2, 1] (by decide) rfl⟩
              exact ih961 (g959, (4 : Int32)) _ _ _ (show (6 - (4 : Int32).toInt).toNat < (6 - x960.toInt).toNat by omega) ⟨(show 0 ≤ (4 : Int32).toInt ∧ (4 : Int32).toInt ≤ 6 by decide), ⟨hP9, hD9⟩, hS, lv_sub hl [0, 1, 2, 3] rfl⟩
          · have hj2 : x960 = 4 := tq_of hj (by decide)
            have hl : lv_has ls 4 [(3, .int 4), (2, .int 256), (0, .ref qm), (1, .int 4)] := by have h9 := hl; rw [hj2] at h9; exact h9
            refine lv_aload_n hx hb dX12_plays_41 rfl (lv_at hl 2 rfl) ?_
            refine lv_iload_n hx hb dX12_plays_42 rfl (lv_at hl 1 rfl) ?_
            refine lv_iload_n hx hb dX12_plays_43 rfl (lv_at hl 3 rfl) ?_
            refine lv_iload_n hx hb dX12_plays_44 rfl (lv_at hl 0 rfl) ?_
            refine ct_calli (D := D) (wr := [(qm_lines, .inl (cI, 5, .inl (fm_lines))), (qm_wins, .inl (cI, 24576, .inl (g959)))]) (va_runV (As := [.int 256, .int 4, .int 4]) (rest := []) ⟨hx, hb, hml, hown, hts⟩ (c_X12_isPlay l D G cI cJ cB cZ cO qm 0 qm_width qm_many qm_cells qm_moved qm_tape vm_taped vm_at vm_token vm_place vm_value vm_word vm_bad vm_badPlace vm_fault vm_faultPlace qm_lines qm_has qm_round qm_meets fm_meets qm_stumble qm_isMud qm_cell qm_tune qm_change qm_isKept qm_steps qm_places qm_danced vm_runMost vm_runBegins qm_heardBy vm_fitMany vm_fitFirst vm_fitBeats vm_listenLeaves qm_there vm_metAt vm_metIn qm_wins vm_nightHoles vm_nightFirst vm_nightMud vm_nightSlips vm_drawnNow 256 4 4 h_vm_taped h_vm_at h_vm_value (by decide) (by decide) H.size) (cwV 3 hts gX12_plays_X12_isPlay rfl rfl rfl (by decide +kernel) ⟨Nat.le_of_ble_eq_true rfl, Nat.le_of_ble_eq_true rfl⟩) (ct_preV (T := ct_T cI cJ cB cZ cO) (ci := 12) (q0 := 2) hE hH hP hD hS hA [2, 0] (by decide) rfl rfl rfl) rfl rfl hl.1 rfl (lv_room (Nat.le_of_ble_eq_true rfl)) dX12_plays_45 ⟨Nat.le_of_ble_eq_true rfl, Nat.le_of_ble_eq_true rfl⟩) hP hD hS hA [2, 0] [1, 3] rfl rfl (by decide) (by decide) (fun r999 u H locs hw hP hD hS => ?_)
            obtain ⟨hP, hD⟩ : ct_B D A H [(qm_lines, .inl (cI, 5, .inl (fm_lines))), (qm_wins, .inl (cI, 24576, .inl (g959))), mo qm 0 qm_width qm_many qm_cells qm_moved qm_tape vm_taped vm_at vm_token vm_place vm_value vm_word vm_bad vm_badPlace vm_fault vm_faultPlace qm_lines qm_has qm_round qm_meets qm_stumble qm_isMud qm_cell qm_tune qm_change qm_isKept qm_steps qm_places qm_danced vm_runMost vm_runBegins qm_heardBy vm_fitMany vm_fitFirst vm_fitBeats vm_listenLeaves qm_there vm_metAt vm_metIn qm_wins vm_nightHoles vm_nightFirst vm_nightMud vm_nightSlips vm_drawnNow, (qm_meets, .inl (cI, 30, .inl (fm_meets)))] := ⟨hP, hD⟩
            have hz := hw
            clear hw
            rcases hz with ⟨hz, hz2⟩ | ⟨hz, hz2⟩
            · subst hz
              have hz_1000 : (pl (256 : Int32) (4 : Int32)) := hz2
              refine lv_if_eq (tgt := 68) hx hb dX12_plays_48 (by decide) (fun hc => absurd hc (by decide)) (fun _ => ?_)
              refine lv_aload_n hx hb dX12_plays_51 rfl (lv_at hl 2 rfl) ?_
              refine lv_iload_n hx hb dX12_plays_52 rfl (lv_at hl 1 rfl) ?_
              refine lv_iconst (v := 1) hx hb dX12_plays_53 (by decide) ?_
              refine lv_iconst (v := 2) hx hb dX12_plays_54 (by decide) ?_
              refine lv_iload_n hx hb dX12_plays_55 rfl (lv_at hl 0 rfl) ?_
              refine lv_imul hx hb dX12_plays_56 ?_
              refine lv_topi (fun z1001 ez1001 => ?_)
              obtain rfl : z1001 = 8 := ez1001.trans (by decide)
              refine lv_ishl hx hb dX12_plays_57 ?_
              refine lv_topi (fun z1002 ez1002 => ?_)
              obtain rfl : z1002 = 256 := ez1002.trans (by decide)
              refine lv_iadd hx hb dX12_plays_58 ?_
              refine lv_topi (fun z1003 ez1003 => ?_)
              obtain rfl : z1003 = 512 := ez1003.trans (by decide)
              refine lv_iload_n hx hb dX12_plays_59 rfl (lv_at hl 0 rfl) ?_
              refine ct_calli (D := D) (wr := [(qm_lines, .inl (cI, 5, .inl (fm_lines)))]) (va_runV (As := [.int 512, .int 4]) (rest := []) ⟨hx, hb, hml, hown, hts⟩ (c_X12_winsFrom l D G cI cJ cB cZ cO qm 0 qm_width qm_many qm_cells qm_moved qm_tape vm_taped vm_at vm_token vm_place vm_value vm_word vm_bad vm_badPlace vm_fault vm_faultPlace qm_lines qm_has qm_round qm_meets fm_meets qm_stumble qm_isMud qm_cell qm_tune qm_change qm_isKept qm_steps qm_places qm_danced vm_runMost vm_runBegins qm_heardBy vm_fitMany vm_fitFirst vm_fitBeats vm_listenLeaves qm_there vm_metAt vm_metIn qm_wins vm_nightHoles vm_nightFirst vm_nightMud vm_nightSlips vm_drawnNow h_vm_taped h_vm_at h_vm_value 12 g959 512 4 (by decide) (by unfold wn; decide +kernel) H.size) (cwV 2 hts gX12_plays_X12_winsFrom rfl rfl rfl (by decide +kernel) ⟨Nat.le_of_ble_eq_true rfl, Nat.le_of_ble_eq_true rfl⟩) (ct_preV (T := ct_T cI cJ cB cZ cO) (ci := 12) (q0 := 2) hE hH hP hD hS hA [2, 3, 1] (by decide) rfl rfl rfl) rfl rfl hl.1 rfl (lv_room (Nat.le_of_ble_eq_true rfl)) dX12_plays_60 ⟨Nat.le_of_ble_eq_true rfl, Nat.le_of_ble_eq_true rfl⟩) hP hD hS hA [2, 3, 1] [0] rfl rfl (by decide) (by decide) (fun r1004 u H locs hw hP hD hS => ?_)
              obtain ⟨g1005, rfl⟩ : ∃ z, z = u := ⟨_, rfl⟩
              obtain ⟨hP, hD⟩ : ct_B D A H [(qm_lines, .inl (cI, 5, .inl (fm_lines))), mo qm 0 qm_width qm_many qm_cells qm_moved qm_tape vm_taped vm_at vm_token vm_place vm_value vm_word vm_bad vm_badPlace vm_fault vm_faultPlace qm_lines qm_has qm_round qm_meets qm_stumble qm_isMud qm_cell qm_tune qm_change qm_isKept qm_steps qm_places qm_danced vm_runMost vm_runBegins qm_heardBy vm_fitMany vm_fitFirst vm_fitBeats vm_listenLeaves qm_there vm_metAt vm_metIn qm_wins vm_nightHoles vm_nightFirst vm_nightMud vm_nightSlips vm_drawnNow, (qm_meets, .inl (cI, 30, .inl (fm_meets))), (qm_wins, .inl (cI, 24576, .inl (g1005)))] := ⟨hP, hD⟩
              have hz := hw
              clear hw
              rcases hz with ⟨hz, hz2⟩ | ⟨hz, hz2⟩
              · subst hz
                refine lv_if_ne (tgt := 68) hx hb dX12_plays_63 (by decide) (fun _ => ?_) (fun hc => absurd hc (by decide))
                refine lv_iinc (v := 5) (lv' := [(3, .int 5), (2, .int 256), (0, .ref qm), (1, .int 4)]) hx hb dX12_plays_68 hl (k := 0) rfl (by decide) (by decide) rfl (fun ls hl => ?_)
                refine lv_goto (tgt := 35) hx hb dX12_plays_71 (by decide) ?_
                have hk1006 : (5 : Int32).toInt = 5 := by decide
                obtain ⟨hP9, hD9⟩ : ct_B D A H [(qm_meets, .inl (cI, 30, .inl (fm_meets))), (qm_lines, .inl (cI, 5, .inl (fm_lines))), mo qm 0 qm_width qm_many qm_cells qm_moved qm_tape vm_taped vm_at vm_token vm_place vm_value vm_word vm_bad vm_badPlace vm_fault vm_faultPlace qm_lines qm_has qm_round qm_meets qm_stumble qm_isMud qm_cell qm_tune qm_change qm_isKept qm_steps qm_places qm_danced vm_runMost vm_runBegins qm_heardBy vm_fitMany vm_fitFirst vm_fitBeats vm_listenLeaves qm_there vm_metAt vm_metIn qm_wins vm_nightHoles vm_nightFirst vm_nightMud vm_nightSlips vm_drawnNow, (qm_wins, .inl (cI, 24576, .inl (g1005)))] := ⟨hP.sub [2, 0, 1, 3] rfl, hD.sub [2, 0, 1, 3] (by decide) rfl⟩
                exact ih961 (g1005, (5 : Int32)) _ _ _ (show (6 - (5 : Int32).toInt).toNat < (6 - x960.toInt).toNat by omega) ⟨(show 0 ≤ (5 : Int32).toInt ∧ (5 : Int32).toInt ≤ 6 by decide), ⟨hP9, hD9⟩, hS, lv_sub hl [0, 1, 2, 3] rfl⟩
              · subst hz
                refine lv_if_ne (tgt := 68) hx hb dX12_plays_63 (by decide) (fun hc => absurd hc (by decide)) (fun _ => ?_)
                refine lv_iload_n hx hb dX12_plays_66 rfl (lv_at hl 0 rfl) ?_
                obtain ⟨hP9, hD9⟩ : ct_B D A H [mo qm 0 qm_width qm_many qm_cells qm_moved qm_tape vm_taped vm_at vm_token vm_place vm_value vm_word vm_bad vm_badPlace vm_fault vm_faultPlace qm_lines qm_has qm_round qm_meets qm_stumble qm_isMud qm_cell qm_tune qm_change qm_isKept qm_steps qm_places qm_danced vm_runMost vm_runBegins qm_heardBy vm_fitMany vm_fitFirst vm_fitBeats vm_listenLeaves qm_there vm_metAt vm_metIn qm_wins vm_nightHoles vm_nightFirst vm_nightMud vm_nightSlips vm_drawnNow, (qm_lines, .inl (cI, 5, .inl (fm_lines))), (qm_meets, .inl (cI, 30, .inl (fm_meets))), (qm_wins, .inl (cI, 24576, .inl (g1005)))] := ⟨hP.sub [1, 0, 2, 3] rfl, hD.sub [1, 0, 2, 3] (by decide) rfl⟩
                exact W.iret (v := 4) hx hb hr (fun t ht hW => ⟨⟨4, ((0 : Int32), g1005), rfl, (show (-2) ≤ (4 : Int32).toInt ∧ (4 : Int32).toInt ≤ 5 by decide), by rw [ht]; exact hP9, hD9⟩, hS.F ht⟩) hS.2.2 dX12_plays_67
            · subst hz
              refine lv_if_eq (tgt := 68) hx hb dX12_plays_48 (by decide) (fun _ => ?_) (fun hc => absurd hc (by decide))
              refine lv_iinc (v := 5) (lv' := [(3, .int 5), (2, .int 256), (0, .ref qm), (1, .int 4)]) hx hb dX12_plays_68 hl (k := 0) rfl (by decide) (by decide) rfl (fun ls hl => ?_)
              refine lv_goto (tgt := 35) hx hb dX12_plays_71 (by decide) ?_
              have hk1007 : (5 : Int32).toInt = 5 := by decide
              obtain ⟨hP9, hD9⟩ : ct_B D A H [(qm_meets, .inl (cI, 30, .inl (fm_meets))), (qm_lines, .inl (cI, 5, .inl (fm_lines))), mo qm 0 qm_width qm_many qm_cells qm_moved qm_tape vm_taped vm_at vm_token vm_place vm_value vm_word vm_bad vm_badPlace vm_fault vm_faultPlace qm_lines qm_has qm_round qm_meets qm_stumble qm_isMud qm_cell qm_tune qm_change qm_isKept qm_steps qm_places qm_danced vm_runMost vm_runBegins qm_heardBy vm_fitMany vm_fitFirst vm_fitBeats vm_listenLeaves qm_there vm_metAt vm_metIn qm_wins vm_nightHoles vm_nightFirst vm_nightMud vm_nightSlips vm_drawnNow, (qm_wins, .inl (cI, 24576, .inl (g959)))] := ⟨hP.sub [3, 0, 2, 1] rfl, hD.sub [3, 0, 2, 1] (by decide) rfl⟩
              exact ih961 (g959, (5 : Int32)) _ _ _ (show (6 - (5 : Int32).toInt).toNat < (6 - x960.toInt).toNat by omega) ⟨(show 0 ≤ (5 : Int32).toInt ∧ (5 : Int32).toInt ≤ 6 by decide), ⟨hP9, hD9⟩, hS, lv_sub hl [0, 1, 2, 3] rfl⟩
          · have hj2 : x960 = 5 := tq_of hj (by decide)
            have hl : lv_has ls 4 [(3, .int 5), (2, .int 256), (0, .ref qm), (1, .int 4)] := by have h9 := hl; rw [hj2] at h9; exact h9
            refine lv_aload_n hx hb dX12_plays_41 rfl (lv_at hl 2 rfl) ?_
            refine lv_iload_n hx hb dX12_plays_42 rfl (lv_at hl 1 rfl) ?_
            refine lv_iload_n hx hb dX12_plays_43 rfl (lv_at hl 3 rfl) ?_
            refine lv_iload_n hx hb dX12_plays_44 rfl (lv_at hl 0 rfl) ?_
            refine ct_calli (D := D) (wr := [(qm_lines, .inl (cI, 5, .inl (fm_lines))), (qm_wins, .inl (cI, 24576, .inl (g959)))]) (va_runV (As := [.int 256, .int 4, .int 5]) (rest := []) ⟨hx, hb, hml, hown, hts⟩ (c_X12_isPlay l D G cI cJ cB cZ cO qm 0 qm_width qm_many qm_cells qm_moved qm_tape vm_taped vm_at vm_token vm_place vm_value vm_word vm_bad vm_badPlace vm_fault vm_faultPlace qm_lines qm_has qm_round qm_meets fm_meets qm_stumble qm_isMud qm_cell qm_tune qm_change qm_isKept qm_steps qm_places qm_danced vm_runMost vm_runBegins qm_heardBy vm_fitMany vm_fitFirst vm_fitBeats vm_listenLeaves qm_there vm_metAt vm_metIn qm_wins vm_nightHoles vm_nightFirst vm_nightMud vm_nightSlips vm_drawnNow 256 4 5 h_vm_taped h_vm_at h_vm_value (by decide) (by decide) H.size) (cwV 3 hts gX12_plays_X12_isPlay rfl rfl rfl (by decide +kernel) ⟨Nat.le_of_ble_eq_true rfl, Nat.le_of_ble_eq_true rfl⟩) (ct_preV (T := ct_T cI cJ cB cZ cO) (ci := 12) (q0 := 2) hE hH hP hD hS hA [2, 0] (by decide) rfl rfl rfl) rfl rfl hl.1 rfl (lv_room (Nat.le_of_ble_eq_true rfl)) dX12_plays_45 ⟨Nat.le_of_ble_eq_true rfl, Nat.le_of_ble_eq_true rfl⟩) hP hD hS hA [2, 0] [1, 3] rfl rfl (by decide) (by decide) (fun r1008 u H locs hw hP hD hS => ?_)
            obtain ⟨hP, hD⟩ : ct_B D A H [(qm_lines, .inl (cI, 5, .inl (fm_lines))), (qm_wins, .inl (cI, 24576, .inl (g959))), mo qm 0 qm_width qm_many qm_cells qm_moved qm_tape vm_taped vm_at vm_token vm_place vm_value vm_word vm_bad vm_badPlace vm_fault vm_faultPlace qm_lines qm_has qm_round qm_meets qm_stumble qm_isMud qm_cell qm_tune qm_change qm_isKept qm_steps qm_places qm_danced vm_runMost vm_runBegins qm_heardBy vm_fitMany vm_fitFirst vm_fitBeats vm_listenLeaves qm_there vm_metAt vm_metIn qm_wins vm_nightHoles vm_nightFirst vm_nightMud vm_nightSlips vm_drawnNow, (qm_meets, .inl (cI, 30, .inl (fm_meets)))] := ⟨hP, hD⟩
            have hz := hw
            clear hw
            rcases hz with ⟨hz, hz2⟩ | ⟨hz, hz2⟩
            · subst hz
              have hz_1009 : (pl (256 : Int32) (5 : Int32)) := hz2
              refine lv_if_eq (tgt := 68) hx hb dX12_plays_48 (by decide) (fun hc => absurd hc (by decide)) (fun _ => ?_)
              refine lv_aload_n hx hb dX12_plays_51 rfl (lv_at hl 2 rfl) ?_
              refine lv_iload_n hx hb dX12_plays_52 rfl (lv_at hl 1 rfl) ?_
              refine lv_iconst (v := 1) hx hb dX12_plays_53 (by decide) ?_
              refine lv_iconst (v := 2) hx hb dX12_plays_54 (by decide) ?_
              refine lv_iload_n hx hb dX12_plays_55 rfl (lv_at hl 0 rfl) ?_
              refine lv_imul hx hb dX12_plays_56 ?_
              refine lv_topi (fun z1010 ez1010 => ?_)
              obtain rfl : z1010 = 10 := ez1010.trans (by decide)
              refine lv_ishl hx hb dX12_plays_57 ?_
              refine lv_topi (fun z1011 ez1011 => ?_)
              obtain rfl : z1011 = 1024 := ez1011.trans (by decide)
              refine lv_iadd hx hb dX12_plays_58 ?_
              refine lv_topi (fun z1012 ez1012 => ?_)
              obtain rfl : z1012 = 1280 := ez1012.trans (by decide)
              refine lv_iload_n hx hb dX12_plays_59 rfl (lv_at hl 0 rfl) ?_
              refine ct_calli (D := D) (wr := [(qm_lines, .inl (cI, 5, .inl (fm_lines)))]) (va_runV (As := [.int 1280, .int 5]) (rest := []) ⟨hx, hb, hml, hown, hts⟩ (c_X12_winsFrom l D G cI cJ cB cZ cO qm 0 qm_width qm_many qm_cells qm_moved qm_tape vm_taped vm_at vm_token vm_place vm_value vm_word vm_bad vm_badPlace vm_fault vm_faultPlace qm_lines qm_has qm_round qm_meets fm_meets qm_stumble qm_isMud qm_cell qm_tune qm_change qm_isKept qm_steps qm_places qm_danced vm_runMost vm_runBegins qm_heardBy vm_fitMany vm_fitFirst vm_fitBeats vm_listenLeaves qm_there vm_metAt vm_metIn qm_wins vm_nightHoles vm_nightFirst vm_nightMud vm_nightSlips vm_drawnNow h_vm_taped h_vm_at h_vm_value 12 g959 1280 5 (by decide) (by unfold wn; decide +kernel) H.size) (cwV 2 hts gX12_plays_X12_winsFrom rfl rfl rfl (by decide +kernel) ⟨Nat.le_of_ble_eq_true rfl, Nat.le_of_ble_eq_true rfl⟩) (ct_preV (T := ct_T cI cJ cB cZ cO) (ci := 12) (q0 := 2) hE hH hP hD hS hA [2, 3, 1] (by decide) rfl rfl rfl) rfl rfl hl.1 rfl (lv_room (Nat.le_of_ble_eq_true rfl)) dX12_plays_60 ⟨Nat.le_of_ble_eq_true rfl, Nat.le_of_ble_eq_true rfl⟩) hP hD hS hA [2, 3, 1] [0] rfl rfl (by decide) (by decide) (fun r1013 u H locs hw hP hD hS => ?_)
              obtain ⟨g1014, rfl⟩ : ∃ z, z = u := ⟨_, rfl⟩
              obtain ⟨hP, hD⟩ : ct_B D A H [(qm_lines, .inl (cI, 5, .inl (fm_lines))), mo qm 0 qm_width qm_many qm_cells qm_moved qm_tape vm_taped vm_at vm_token vm_place vm_value vm_word vm_bad vm_badPlace vm_fault vm_faultPlace qm_lines qm_has qm_round qm_meets qm_stumble qm_isMud qm_cell qm_tune qm_change qm_isKept qm_steps qm_places qm_danced vm_runMost vm_runBegins qm_heardBy vm_fitMany vm_fitFirst vm_fitBeats vm_listenLeaves qm_there vm_metAt vm_metIn qm_wins vm_nightHoles vm_nightFirst vm_nightMud vm_nightSlips vm_drawnNow, (qm_meets, .inl (cI, 30, .inl (fm_meets))), (qm_wins, .inl (cI, 24576, .inl (g1014)))] := ⟨hP, hD⟩
              have hz := hw
              clear hw
              rcases hz with ⟨hz, hz2⟩ | ⟨hz, hz2⟩
              · subst hz
                refine lv_if_ne (tgt := 68) hx hb dX12_plays_63 (by decide) (fun _ => ?_) (fun hc => absurd hc (by decide))
                refine lv_iinc (v := 6) (lv' := [(3, .int 6), (2, .int 256), (0, .ref qm), (1, .int 4)]) hx hb dX12_plays_68 hl (k := 0) rfl (by decide) (by decide) rfl (fun ls hl => ?_)
                refine lv_goto (tgt := 35) hx hb dX12_plays_71 (by decide) ?_
                have hk1015 : (6 : Int32).toInt = 6 := by decide
                obtain ⟨hP9, hD9⟩ : ct_B D A H [(qm_meets, .inl (cI, 30, .inl (fm_meets))), (qm_lines, .inl (cI, 5, .inl (fm_lines))), mo qm 0 qm_width qm_many qm_cells qm_moved qm_tape vm_taped vm_at vm_token vm_place vm_value vm_word vm_bad vm_badPlace vm_fault vm_faultPlace qm_lines qm_has qm_round qm_meets qm_stumble qm_isMud qm_cell qm_tune qm_change qm_isKept qm_steps qm_places qm_danced vm_runMost vm_runBegins qm_heardBy vm_fitMany vm_fitFirst vm_fitBeats vm_listenLeaves qm_there vm_metAt vm_metIn qm_wins vm_nightHoles vm_nightFirst vm_nightMud vm_nightSlips vm_drawnNow, (qm_wins, .inl (cI, 24576, .inl (g1014)))] := ⟨hP.sub [2, 0, 1, 3] rfl, hD.sub [2, 0, 1, 3] (by decide) rfl⟩
                exact ih961 (g1014, (6 : Int32)) _ _ _ (show (6 - (6 : Int32).toInt).toNat < (6 - x960.toInt).toNat by omega) ⟨(show 0 ≤ (6 : Int32).toInt ∧ (6 : Int32).toInt ≤ 6 by decide), ⟨hP9, hD9⟩, hS, lv_sub hl [0, 1, 2, 3] rfl⟩
              · subst hz
                refine lv_if_ne (tgt := 68) hx hb dX12_plays_63 (by decide) (fun hc => absurd hc (by decide)) (fun _ => ?_)
                refine lv_iload_n hx hb dX12_plays_66 rfl (lv_at hl 0 rfl) ?_
                obtain ⟨hP9, hD9⟩ : ct_B D A H [mo qm 0 qm_width qm_many qm_cells qm_moved qm_tape vm_taped vm_at vm_token vm_place vm_value vm_word vm_bad vm_badPlace vm_fault vm_faultPlace qm_lines qm_has qm_round qm_meets qm_stumble qm_isMud qm_cell qm_tune qm_change qm_isKept qm_steps qm_places qm_danced vm_runMost vm_runBegins qm_heardBy vm_fitMany vm_fitFirst vm_fitBeats vm_listenLeaves qm_there vm_metAt vm_metIn qm_wins vm_nightHoles vm_nightFirst vm_nightMud vm_nightSlips vm_drawnNow, (qm_lines, .inl (cI, 5, .inl (fm_lines))), (qm_meets, .inl (cI, 30, .inl (fm_meets))), (qm_wins, .inl (cI, 24576, .inl (g1014)))] := ⟨hP.sub [1, 0, 2, 3] rfl, hD.sub [1, 0, 2, 3] (by decide) rfl⟩
                exact W.iret (v := 5) hx hb hr (fun t ht hW => ⟨⟨5, ((0 : Int32), g1014), rfl, (show (-2) ≤ (5 : Int32).toInt ∧ (5 : Int32).toInt ≤ 5 by decide), by rw [ht]; exact hP9, hD9⟩, hS.F ht⟩) hS.2.2 dX12_plays_67
            · subst hz
              refine lv_if_eq (tgt := 68) hx hb dX12_plays_48 (by decide) (fun _ => ?_) (fun hc => absurd hc (by decide))
              refine lv_iinc (v := 6) (lv' := [(3, .int 6), (2, .int 256), (0, .ref qm), (1, .int 4)]) hx hb dX12_plays_68 hl (k := 0) rfl (by decide) (by decide) rfl (fun ls hl => ?_)
              refine lv_goto (tgt := 35) hx hb dX12_plays_71 (by decide) ?_
              have hk1016 : (6 : Int32).toInt = 6 := by decide
              obtain ⟨hP9, hD9⟩ : ct_B D A H [(qm_meets, .inl (cI, 30, .inl (fm_meets))), (qm_lines, .inl (cI, 5, .inl (fm_lines))), mo qm 0 qm_width qm_many qm_cells qm_moved qm_tape vm_taped vm_at vm_token vm_place vm_value vm_word vm_bad vm_badPlace vm_fault vm_faultPlace qm_lines qm_has qm_round qm_meets qm_stumble qm_isMud qm_cell qm_tune qm_change qm_isKept qm_steps qm_places qm_danced vm_runMost vm_runBegins qm_heardBy vm_fitMany vm_fitFirst vm_fitBeats vm_listenLeaves qm_there vm_metAt vm_metIn qm_wins vm_nightHoles vm_nightFirst vm_nightMud vm_nightSlips vm_drawnNow, (qm_wins, .inl (cI, 24576, .inl (g959)))] := ⟨hP.sub [3, 0, 2, 1] rfl, hD.sub [3, 0, 2, 1] (by decide) rfl⟩
              exact ih961 (g959, (6 : Int32)) _ _ _ (show (6 - (6 : Int32).toInt).toNat < (6 - x960.toInt).toNat by omega) ⟨(show 0 ≤ (6 : Int32).toInt ∧ (6 : Int32).toInt ≤ 6 by decide), ⟨hP9, hD9⟩, hS, lv_sub hl [0, 1, 2, 3] rfl⟩
      · have hj2 : a1 = 5 := tq_of hj (by decide)
        have hl : lv_has ls 4 [(0, .ref qm), (1, .int 5)] := by have h9 := hl; rw [hj2] at h9; exact h9
        refine lv_iconst (v := 1) hx hb dX12_plays_27 (by decide) ?_
        refine lv_iconst (v := 2) hx hb dX12_plays_28 (by decide) ?_
        refine lv_iload_n hx hb dX12_plays_29 rfl (lv_at hl 1 rfl) ?_
        refine lv_imul hx hb dX12_plays_30 ?_
        refine lv_topi (fun z1017 ez1017 => ?_)
        obtain rfl : z1017 = 10 := ez1017.trans (by decide)
        refine lv_ishl hx hb dX12_plays_31 ?_
        refine lv_topi (fun z1018 ez1018 => ?_)
        obtain rfl : z1018 = 1024 := ez1018.trans (by decide)
        refine lv_istore_n (lv' := [(2, .int 1024), (0, .ref qm), (1, .int 5)]) hx hb dX12_plays_32 rfl hl (by decide) rfl (fun ls hl => ?_)
        refine lv_iconst (v := 0) hx hb dX12_plays_33 (by decide) ?_
        refine lv_istore_n (lv' := [(3, .int 0), (2, .int 1024), (0, .ref qm), (1, .int 5)]) hx hb dX12_plays_34 rfl hl (by decide) rfl (fun ls hl => ?_)
        refine ct_loop (X := (Nat → Int32) × Int32) (fun x => (6 - x.2.toInt).toNat) (fun x H locs ls => ((0 ≤ x.2.toInt ∧ x.2.toInt ≤ 6)) ∧ ct_B D A H [(qm_meets, .inl (cI, 30, .inl (fm_meets))), (qm_lines, .inl (cI, 5, .inl (fm_lines))), mo qm 0 qm_width qm_many qm_cells qm_moved qm_tape vm_taped vm_at vm_token vm_place vm_value vm_word vm_bad vm_badPlace vm_fault vm_faultPlace qm_lines qm_has qm_round qm_meets qm_stumble qm_isMud qm_cell qm_tune qm_change qm_isKept qm_steps qm_places qm_danced vm_runMost vm_runBegins qm_heardBy vm_fitMany vm_fitFirst vm_fitBeats vm_listenLeaves qm_there vm_metAt vm_metIn qm_wins vm_nightHoles vm_nightFirst vm_nightMud vm_nightSlips vm_drawnNow, (qm_wins, .inl (cI, 24576, .inl (x.1)))] ∧ va_S A s.heap H locs ∧ lv_has ls 4 [(3, .int x.2), (2, .int 1024), (0, .ref qm), (1, .int 5)]) 35 (g6, (0 : Int32)) ⟨(show 0 ≤ (0 : Int32).toInt ∧ (0 : Int32).toInt ≤ 6 by decide), ⟨hP, hD⟩, hS, lv_sub hl [0, 1, 2, 3] rfl⟩ (fun x ih1163 H locs ls hI => ?_)
        obtain ⟨g1161, x1162⟩ := x
        obtain ⟨h_x1162, ⟨hP, hD⟩, hS, hl⟩ := hI
        change (0 ≤ x1162.toInt ∧ x1162.toInt ≤ 6) at h_x1162
        obtain ⟨hP, hD⟩ : ct_B D A H [(qm_meets, .inl (cI, 30, .inl (fm_meets))), (qm_lines, .inl (cI, 5, .inl (fm_lines))), mo qm 0 qm_width qm_many qm_cells qm_moved qm_tape vm_taped vm_at vm_token vm_place vm_value vm_word vm_bad vm_badPlace vm_fault vm_faultPlace qm_lines qm_has qm_round qm_meets qm_stumble qm_isMud qm_cell qm_tune qm_change qm_isKept qm_steps qm_places qm_danced vm_runMost vm_runBegins qm_heardBy vm_fitMany vm_fitFirst vm_fitBeats vm_listenLeaves qm_there vm_metAt vm_metIn qm_wins vm_nightHoles vm_nightFirst vm_nightMud vm_nightSlips vm_drawnNow, (qm_wins, .inl (cI, 24576, .inl (g1161)))] := ⟨hP, hD⟩
        have hl : lv_has ls 4 [(3, .int x1162), (2, .int 1024), (0, .ref qm), (1, .int 5)] := hl
        refine lv_iload_n hx hb dX12_plays_35 rfl (lv_at hl 0 rfl) ?_
        refine lv_bipush (v := 6) hx hb dX12_plays_36 (by decide) ?_
        refine lv_icmp_ge (tgt := 74) hx hb dX12_plays_38 (by decide) (fun hc => ?_) (fun hc => ?_)
        · have hq1164 : 6 ≤ x1162.toInt := tq_le (by decide) rfl hc
          refine lv_iconst (v := (-1)) hx hb dX12_plays_74 (by decide) ?_
          obtain ⟨hP9, hD9⟩ : ct_B D A H [mo qm 0 qm_width qm_many qm_cells qm_moved qm_tape vm_taped vm_at vm_token vm_place vm_value vm_word vm_bad vm_badPlace vm_fault vm_faultPlace qm_lines qm_has qm_round qm_meets qm_stumble qm_isMud qm_cell qm_tune qm_change qm_isKept qm_steps qm_places qm_danced vm_runMost vm_runBegins qm_heardBy vm_fitMany vm_fitFirst vm_fitBeats vm_listenLeaves qm_there vm_metAt vm_metIn qm_wins vm_nightHoles vm_nightFirst vm_nightMud vm_nightSlips vm_drawnNow, (qm_lines, .inl (cI, 5, .inl (fm_lines))), (qm_meets, .inl (cI, 30, .inl (fm_meets))), (qm_wins, .inl (cI, 24576, .inl (g1161)))] := ⟨hP.sub [2, 1, 0, 3] rfl, hD.sub [2, 1, 0, 3] (by decide) rfl⟩
          exact W.iret (v := (-1)) hx hb hr (fun t ht hW => ⟨⟨(-1), ((0 : Int32), g1161), rfl, (show (-2) ≤ (-1 : Int32).toInt ∧ (-1 : Int32).toInt ≤ 5 by decide), by rw [ht]; exact hP9, hD9⟩, hS.F ht⟩) hS.2.2 dX12_plays_75
        · have hq1164 : x1162.toInt < 6 := tq_nle (by decide) rfl hc
          rcases (show x1162.toInt = 0 ∨ x1162.toInt = 1 ∨ x1162.toInt = 2 ∨ x1162.toInt = 3 ∨ x1162.toInt = 4 ∨ x1162.toInt = 5 by omega) with hj | hj | hj | hj | hj | hj
          · have hj2 : x1162 = 0 := tq_of hj (by decide)
            have hl : lv_has ls 4 [(3, .int 0), (2, .int 1024), (0, .ref qm), (1, .int 5)] := by have h9 := hl; rw [hj2] at h9; exact h9
            refine lv_aload_n hx hb dX12_plays_41 rfl (lv_at hl 2 rfl) ?_
            refine lv_iload_n hx hb dX12_plays_42 rfl (lv_at hl 1 rfl) ?_
            refine lv_iload_n hx hb dX12_plays_43 rfl (lv_at hl 3 rfl) ?_
            refine lv_iload_n hx hb dX12_plays_44 rfl (lv_at hl 0 rfl) ?_
            refine ct_calli (D := D) (wr := [(qm_lines, .inl (cI, 5, .inl (fm_lines))), (qm_wins, .inl (cI, 24576, .inl (g1161)))]) (va_runV (As := [.int 1024, .int 5, .int 0]) (rest := []) ⟨hx, hb, hml, hown, hts⟩ (c_X12_isPlay l D G cI cJ cB cZ cO qm 0 qm_width qm_many qm_cells qm_moved qm_tape vm_taped vm_at vm_token vm_place vm_value vm_word vm_bad vm_badPlace vm_fault vm_faultPlace qm_lines qm_has qm_round qm_meets fm_meets qm_stumble qm_isMud qm_cell qm_tune qm_change qm_isKept qm_steps qm_places qm_danced vm_runMost vm_runBegins qm_heardBy vm_fitMany vm_fitFirst vm_fitBeats vm_listenLeaves qm_there vm_metAt vm_metIn qm_wins vm_nightHoles vm_nightFirst vm_nightMud vm_nightSlips vm_drawnNow 1024 5 0 h_vm_taped h_vm_at h_vm_value (by decide) (by decide) H.size) (cwV 3 hts gX12_plays_X12_isPlay rfl rfl rfl (by decide +kernel) ⟨Nat.le_of_ble_eq_true rfl, Nat.le_of_ble_eq_true rfl⟩) (ct_preV (T := ct_T cI cJ cB cZ cO) (ci := 12) (q0 := 2) hE hH hP hD hS hA [2, 0] (by decide) rfl rfl rfl) rfl rfl hl.1 rfl (lv_room (Nat.le_of_ble_eq_true rfl)) dX12_plays_45 ⟨Nat.le_of_ble_eq_true rfl, Nat.le_of_ble_eq_true rfl⟩) hP hD hS hA [2, 0] [1, 3] rfl rfl (by decide) (by decide) (fun r1165 u H locs hw hP hD hS => ?_)
            obtain ⟨hP, hD⟩ : ct_B D A H [(qm_lines, .inl (cI, 5, .inl (fm_lines))), (qm_wins, .inl (cI, 24576, .inl (g1161))), mo qm 0 qm_width qm_many qm_cells qm_moved qm_tape vm_taped vm_at vm_token vm_place vm_value vm_word vm_bad vm_badPlace vm_fault vm_faultPlace qm_lines qm_has qm_round qm_meets qm_stumble qm_isMud qm_cell qm_tune qm_change qm_isKept qm_steps qm_places qm_danced vm_runMost vm_runBegins qm_heardBy vm_fitMany vm_fitFirst vm_fitBeats vm_listenLeaves qm_there vm_metAt vm_metIn qm_wins vm_nightHoles vm_nightFirst vm_nightMud vm_nightSlips vm_drawnNow, (qm_meets, .inl (cI, 30, .inl (fm_meets)))] := ⟨hP, hD⟩
            have hz := hw
            clear hw
            rcases hz with ⟨hz, hz2⟩ | ⟨hz, hz2⟩
            · subst hz
              have hz_1166 : (pl (1024 : Int32) (0 : Int32)) := hz2
              refine lv_if_eq (tgt := 68) hx hb dX12_plays_48 (by decide) (fun hc => absurd hc (by decide)) (fun _ => ?_)
              refine lv_aload_n hx hb dX12_plays_51 rfl (lv_at hl 2 rfl) ?_
              refine lv_iload_n hx hb dX12_plays_52 rfl (lv_at hl 1 rfl) ?_
              refine lv_iconst (v := 1) hx hb dX12_plays_53 (by decide) ?_
              refine lv_iconst (v := 2) hx hb dX12_plays_54 (by decide) ?_
              refine lv_iload_n hx hb dX12_plays_55 rfl (lv_at hl 0 rfl) ?_
              refine lv_imul hx hb dX12_plays_56 ?_
              refine lv_topi (fun z1167 ez1167 => ?_)
              obtain rfl : z1167 = 0 := ez1167.trans (by decide)
              refine lv_ishl hx hb dX12_plays_57 ?_
              refine lv_topi (fun z1168 ez1168 => ?_)
              obtain rfl : z1168 = 1 := ez1168.trans (by decide)
              refine lv_iadd hx hb dX12_plays_58 ?_
              refine lv_topi (fun z1169 ez1169 => ?_)
              obtain rfl : z1169 = 1025 := ez1169.trans (by decide)
              refine lv_iload_n hx hb dX12_plays_59 rfl (lv_at hl 0 rfl) ?_
              refine ct_calli (D := D) (wr := [(qm_lines, .inl (cI, 5, .inl (fm_lines)))]) (va_runV (As := [.int 1025, .int 0]) (rest := []) ⟨hx, hb, hml, hown, hts⟩ (c_X12_winsFrom l D G cI cJ cB cZ cO qm 0 qm_width qm_many qm_cells qm_moved qm_tape vm_taped vm_at vm_token vm_place vm_value vm_word vm_bad vm_badPlace vm_fault vm_faultPlace qm_lines qm_has qm_round qm_meets fm_meets qm_stumble qm_isMud qm_cell qm_tune qm_change qm_isKept qm_steps qm_places qm_danced vm_runMost vm_runBegins qm_heardBy vm_fitMany vm_fitFirst vm_fitBeats vm_listenLeaves qm_there vm_metAt vm_metIn qm_wins vm_nightHoles vm_nightFirst vm_nightMud vm_nightSlips vm_drawnNow h_vm_taped h_vm_at h_vm_value 12 g1161 1025 0 (by decide) (by unfold wn; decide +kernel) H.size) (cwV 2 hts gX12_plays_X12_winsFrom rfl rfl rfl (by decide +kernel) ⟨Nat.le_of_ble_eq_true rfl, Nat.le_of_ble_eq_true rfl⟩) (ct_preV (T := ct_T cI cJ cB cZ cO) (ci := 12) (q0 := 2) hE hH hP hD hS hA [2, 3, 1] (by decide) rfl rfl rfl) rfl rfl hl.1 rfl (lv_room (Nat.le_of_ble_eq_true rfl)) dX12_plays_60 ⟨Nat.le_of_ble_eq_true rfl, Nat.le_of_ble_eq_true rfl⟩) hP hD hS hA [2, 3, 1] [0] rfl rfl (by decide) (by decide) (fun r1170 u H locs hw hP hD hS => ?_)
              obtain ⟨g1171, rfl⟩ : ∃ z, z = u := ⟨_, rfl⟩
              obtain ⟨hP, hD⟩ : ct_B D A H [(qm_lines, .inl (cI, 5, .inl (fm_lines))), mo qm 0 qm_width qm_many qm_cells qm_moved qm_tape vm_taped vm_at vm_token vm_place vm_value vm_word vm_bad vm_badPlace vm_fault vm_faultPlace qm_lines qm_has qm_round qm_meets qm_stumble qm_isMud qm_cell qm_tune qm_change qm_isKept qm_steps qm_places qm_danced vm_runMost vm_runBegins qm_heardBy vm_fitMany vm_fitFirst vm_fitBeats vm_listenLeaves qm_there vm_metAt vm_metIn qm_wins vm_nightHoles vm_nightFirst vm_nightMud vm_nightSlips vm_drawnNow, (qm_meets, .inl (cI, 30, .inl (fm_meets))), (qm_wins, .inl (cI, 24576, .inl (g1171)))] := ⟨hP, hD⟩
              have hz := hw
              clear hw
              rcases hz with ⟨hz, hz2⟩ | ⟨hz, hz2⟩
              · subst hz
                refine lv_if_ne (tgt := 68) hx hb dX12_plays_63 (by decide) (fun _ => ?_) (fun hc => absurd hc (by decide))
                refine lv_iinc (v := 1) (lv' := [(3, .int 1), (2, .int 1024), (0, .ref qm), (1, .int 5)]) hx hb dX12_plays_68 hl (k := 0) rfl (by decide) (by decide) rfl (fun ls hl => ?_)
                refine lv_goto (tgt := 35) hx hb dX12_plays_71 (by decide) ?_
                have hk1172 : (1 : Int32).toInt = 1 := by decide
                obtain ⟨hP9, hD9⟩ : ct_B D A H [(qm_meets, .inl (cI, 30, .inl (fm_meets))), (qm_lines, .inl (cI, 5, .inl (fm_lines))), mo qm 0 qm_width qm_many qm_cells qm_moved qm_tape vm_taped vm_at vm_token vm_place vm_value vm_word vm_bad vm_badPlace vm_fault vm_faultPlace qm_lines qm_has qm_round qm_meets qm_stumble qm_isMud qm_cell qm_tune qm_change qm_isKept qm_steps qm_places qm_danced vm_runMost vm_runBegins qm_heardBy vm_fitMany vm_fitFirst vm_fitBeats vm_listenLeaves qm_there vm_metAt vm_metIn qm_wins vm_nightHoles vm_nightFirst vm_nightMud vm_nightSlips vm_drawnNow, (qm_wins, .inl (cI, 24576, .inl (g1171)))] := ⟨hP.sub [2, 0, 1, 3] rfl, hD.sub [2, 0, 1, 3] (by decide) rfl⟩
                exact ih1163 (g1171, (1 : Int32)) _ _ _ (show (6 - (1 : Int32).toInt).toNat < (6 - x1162.toInt).toNat by omega) ⟨(show 0 ≤ (1 : Int32).toInt ∧ (1 : Int32).toInt ≤ 6 by decide), ⟨hP9, hD9⟩, hS, lv_sub hl [0, 1, 2, 3] rfl⟩
              · subst hz
                refine lv_if_ne (tgt := 68) hx hb dX12_plays_63 (by decide) (fun hc => absurd hc (by decide)) (fun _ => ?_)
                refine lv_iload_n hx hb dX12_plays_66 rfl (lv_at hl 0 rfl) ?_
                obtain ⟨hP9, hD9⟩ : ct_B D A H [mo qm 0 qm_width qm_many qm_cells qm_moved qm_tape vm_taped vm_at vm_token vm_place vm_value vm_word vm_bad vm_badPlace vm_fault vm_faultPlace qm_lines qm_has qm_round qm_meets qm_stumble qm_isMud qm_cell qm_tune qm_change qm_isKept qm_steps qm_places qm_danced vm_runMost vm_runBegins qm_heardBy vm_fitMany vm_fitFirst vm_fitBeats vm_listenLeaves qm_there vm_metAt vm_metIn qm_wins vm_nightHoles vm_nightFirst vm_nightMud vm_nightSlips vm_drawnNow, (qm_lines, .inl (cI, 5, .inl (fm_lines))), (qm_meets, .inl (cI, 30, .inl (fm_meets))), (qm_wins, .inl (cI, 24576, .inl (g1171)))] := ⟨hP.sub [1, 0, 2, 3] rfl, hD.sub [1, 0, 2, 3] (by decide) rfl⟩
                exact W.iret (v := 0) hx hb hr (fun t ht hW => ⟨⟨0, ((0 : Int32), g1171), rfl, (show (-2) ≤ (0 : Int32).toInt ∧ (0 : Int32).toInt ≤ 5 by decide), by rw [ht]; exact hP9, hD9⟩, hS.F ht⟩) hS.2.2 dX12_plays_67
            · subst hz
              refine lv_if_eq (tgt := 68) hx hb dX12_plays_48 (by decide) (fun _ => ?_) (fun hc => absurd hc (by decide))
              refine lv_iinc (v := 1) (lv' := [(3, .int 1), (2, .int 1024), (0, .ref qm), (1, .int 5)]) hx hb dX12_plays_68 hl (k := 0) rfl (by decide) (by decide) rfl (fun ls hl => ?_)
              refine lv_goto (tgt := 35) hx hb dX12_plays_71 (by decide) ?_
              have hk1173 : (1 : Int32).toInt = 1 := by decide
              obtain ⟨hP9, hD9⟩ : ct_B D A H [(qm_meets, .inl (cI, 30, .inl (fm_meets))), (qm_lines, .inl (cI, 5, .inl (fm_lines))), mo qm 0 qm_width qm_many qm_cells qm_moved qm_tape vm_taped vm_at vm_token vm_place vm_value vm_word vm_bad vm_badPlace vm_fault vm_faultPlace qm_lines qm_has qm_round qm_meets qm_stumble qm_isMud qm_cell qm_tune qm_change qm_isKept qm_steps qm_places qm_danced vm_runMost vm_runBegins qm_heardBy vm_fitMany vm_fitFirst vm_fitBeats vm_listenLeaves qm_there vm_metAt vm_metIn qm_wins vm_nightHoles vm_nightFirst vm_nightMud vm_nightSlips vm_drawnNow, (qm_wins, .inl (cI, 24576, .inl (g1161)))] := ⟨hP.sub [3, 0, 2, 1] rfl, hD.sub [3, 0, 2, 1] (by decide) rfl⟩
              exact ih1163 (g1161, (1 : Int32)) _ _ _ (show (6 - (1 : Int32).toInt).toNat < (6 - x1162.toInt).toNat by omega) ⟨(show 0 ≤ (1 : Int32).toInt ∧ (1 : Int32).toInt ≤ 6 by decide), ⟨hP9, hD9⟩, hS, lv_sub hl [0, 1, 2, 3] rfl⟩
          · have hj2 : x1162 = 1 := tq_of hj (by decide)
            have hl : lv_has ls 4 [(3, .int 1), (2, .int 1024), (0, .ref qm), (1, .int 5)] := by have h9 := hl; rw [hj2] at h9; exact h9
            refine lv_aload_n hx hb dX12_plays_41 rfl (lv_at hl 2 rfl) ?_
            refine lv_iload_n hx hb dX12_plays_42 rfl (lv_at hl 1 rfl) ?_
            refine lv_iload_n hx hb dX12_plays_43 rfl (lv_at hl 3 rfl) ?_
            refine lv_iload_n hx hb dX12_plays_44 rfl (lv_at hl 0 rfl) ?_
            refine ct_calli (D := D) (wr := [(qm_lines, .inl (cI, 5, .inl (fm_lines))), (qm_wins, .inl (cI, 24576, .inl (g1161)))]) (va_runV (As := [.int 1024, .int 5, .int 1]) (rest := []) ⟨hx, hb, hml, hown, hts⟩ (c_X12_isPlay l D G cI cJ cB cZ cO qm 0 qm_width qm_many qm_cells qm_moved qm_tape vm_taped vm_at vm_token vm_place vm_value vm_word vm_bad vm_badPlace vm_fault vm_faultPlace qm_lines qm_has qm_round qm_meets fm_meets qm_stumble qm_isMud qm_cell qm_tune qm_change qm_isKept qm_steps qm_places qm_danced vm_runMost vm_runBegins qm_heardBy vm_fitMany vm_fitFirst vm_fitBeats vm_listenLeaves qm_there vm_metAt vm_metIn qm_wins vm_nightHoles vm_nightFirst vm_nightMud vm_nightSlips vm_drawnNow 1024 5 1 h_vm_taped h_vm_at h_vm_value (by decide) (by decide) H.size) (cwV 3 hts gX12_plays_X12_isPlay rfl rfl rfl (by decide +kernel) ⟨Nat.le_of_ble_eq_true rfl, Nat.le_of_ble_eq_true rfl⟩) (ct_preV (T := ct_T cI cJ cB cZ cO) (ci := 12) (q0 := 2) hE hH hP hD hS hA [2, 0] (by decide) rfl rfl rfl) rfl rfl hl.1 rfl (lv_room (Nat.le_of_ble_eq_true rfl)) dX12_plays_45 ⟨Nat.le_of_ble_eq_true rfl, Nat.le_of_ble_eq_true rfl⟩) hP hD hS hA [2, 0] [1, 3] rfl rfl (by decide) (by decide) (fun r1174 u H locs hw hP hD hS => ?_)
            obtain ⟨hP, hD⟩ : ct_B D A H [(qm_lines, .inl (cI, 5, .inl (fm_lines))), (qm_wins, .inl (cI, 24576, .inl (g1161))), mo qm 0 qm_width qm_many qm_cells qm_moved qm_tape vm_taped vm_at vm_token vm_place vm_value vm_word vm_bad vm_badPlace vm_fault vm_faultPlace qm_lines qm_has qm_round qm_meets qm_stumble qm_isMud qm_cell qm_tune qm_change qm_isKept qm_steps qm_places qm_danced vm_runMost vm_runBegins qm_heardBy vm_fitMany vm_fitFirst vm_fitBeats vm_listenLeaves qm_there vm_metAt vm_metIn qm_wins vm_nightHoles vm_nightFirst vm_nightMud vm_nightSlips vm_drawnNow, (qm_meets, .inl (cI, 30, .inl (fm_meets)))] := ⟨hP, hD⟩
            have hz := hw
            clear hw
            rcases hz with ⟨hz, hz2⟩ | ⟨hz, hz2⟩
            · subst hz
              have hz_1175 : (pl (1024 : Int32) (1 : Int32)) := hz2
              refine lv_if_eq (tgt := 68) hx hb dX12_plays_48 (by decide) (fun hc => absurd hc (by decide)) (fun _ => ?_)
              refine lv_aload_n hx hb dX12_plays_51 rfl (lv_at hl 2 rfl) ?_
              refine lv_iload_n hx hb dX12_plays_52 rfl (lv_at hl 1 rfl) ?_
              refine lv_iconst (v := 1) hx hb dX12_plays_53 (by decide) ?_
              refine lv_iconst (v := 2) hx hb dX12_plays_54 (by decide) ?_
              refine lv_iload_n hx hb dX12_plays_55 rfl (lv_at hl 0 rfl) ?_
              refine lv_imul hx hb dX12_plays_56 ?_
              refine lv_topi (fun z1176 ez1176 => ?_)
              obtain rfl : z1176 = 2 := ez1176.trans (by decide)
              refine lv_ishl hx hb dX12_plays_57 ?_
              refine lv_topi (fun z1177 ez1177 => ?_)
              obtain rfl : z1177 = 4 := ez1177.trans (by decide)
              refine lv_iadd hx hb dX12_plays_58 ?_
              refine lv_topi (fun z1178 ez1178 => ?_)
              obtain rfl : z1178 = 1028 := ez1178.trans (by decide)
              refine lv_iload_n hx hb dX12_plays_59 rfl (lv_at hl 0 rfl) ?_
              refine ct_calli (D := D) (wr := [(qm_lines, .inl (cI, 5, .inl (fm_lines)))]) (va_runV (As := [.int 1028, .int 1]) (rest := []) ⟨hx, hb, hml, hown, hts⟩ (c_X12_winsFrom l D G cI cJ cB cZ cO qm 0 qm_width qm_many qm_cells qm_moved qm_tape vm_taped vm_at vm_token vm_place vm_value vm_word vm_bad vm_badPlace vm_fault vm_faultPlace qm_lines qm_has qm_round qm_meets fm_meets qm_stumble qm_isMud qm_cell qm_tune qm_change qm_isKept qm_steps qm_places qm_danced vm_runMost vm_runBegins qm_heardBy vm_fitMany vm_fitFirst vm_fitBeats vm_listenLeaves qm_there vm_metAt vm_metIn qm_wins vm_nightHoles vm_nightFirst vm_nightMud vm_nightSlips vm_drawnNow h_vm_taped h_vm_at h_vm_value 12 g1161 1028 1 (by decide) (by unfold wn; decide +kernel) H.size) (cwV 2 hts gX12_plays_X12_winsFrom rfl rfl rfl (by decide +kernel) ⟨Nat.le_of_ble_eq_true rfl, Nat.le_of_ble_eq_true rfl⟩) (ct_preV (T := ct_T cI cJ cB cZ cO) (ci := 12) (q0 := 2) hE hH hP hD hS hA [2, 3, 1] (by decide) rfl rfl rfl) rfl rfl hl.1 rfl (lv_room (Nat.le_of_ble_eq_true rfl)) dX12_plays_60 ⟨Nat.le_of_ble_eq_true rfl, Nat.le_of_ble_eq_true rfl⟩) hP hD hS hA [2, 3, 1] [0] rfl rfl (by decide) (by decide) (fun r1179 u H locs hw hP hD hS => ?_)
              obtain ⟨g1180, rfl⟩ : ∃ z, z = u := ⟨_, rfl⟩
              obtain ⟨hP, hD⟩ : ct_B D A H [(qm_lines, .inl (cI, 5, .inl (fm_lines))), mo qm 0 qm_width qm_many qm_cells qm_moved qm_tape vm_taped vm_at vm_token vm_place vm_value vm_word vm_bad vm_badPlace vm_fault vm_faultPlace qm_lines qm_has qm_round qm_meets qm_stumble qm_isMud qm_cell qm_tune qm_change qm_isKept qm_steps qm_places qm_danced vm_runMost vm_runBegins qm_heardBy vm_fitMany vm_fitFirst vm_fitBeats vm_listenLeaves qm_there vm_metAt vm_metIn qm_wins vm_nightHoles vm_nightFirst vm_nightMud vm_nightSlips vm_drawnNow, (qm_meets, .inl (cI, 30, .inl (fm_meets))), (qm_wins, .inl (cI, 24576, .inl (g1180)))] := ⟨hP, hD⟩
              have hz := hw
              clear hw
              rcases hz with ⟨hz, hz2⟩ | ⟨hz, hz2⟩
              · subst hz
                refine lv_if_ne (tgt := 68) hx hb dX12_plays_63 (by decide) (fun _ => ?_) (fun hc => absurd hc (by decide))
                refine lv_iinc (v := 2) (lv' := [(3, .int 2), (2, .int 1024), (0, .ref qm), (1, .int 5)]) hx hb dX12_plays_68 hl (k := 0) rfl (by decide) (by decide) rfl (fun ls hl => ?_)
                refine lv_goto (tgt := 35) hx hb dX12_plays_71 (by decide) ?_
                have hk1181 : (2 : Int32).toInt = 2 := by decide
                obtain ⟨hP9, hD9⟩ : ct_B D A H [(qm_meets, .inl (cI, 30, .inl (fm_meets))), (qm_lines, .inl (cI, 5, .inl (fm_lines))), mo qm 0 qm_width qm_many qm_cells qm_moved qm_tape vm_taped vm_at vm_token vm_place vm_value vm_word vm_bad vm_badPlace vm_fault vm_faultPlace qm_lines qm_has qm_round qm_meets qm_stumble qm_isMud qm_cell qm_tune qm_change qm_isKept qm_steps qm_places qm_danced vm_runMost vm_runBegins qm_heardBy vm_fitMany vm_fitFirst vm_fitBeats vm_listenLeaves qm_there vm_metAt vm_metIn qm_wins vm_nightHoles vm_nightFirst vm_nightMud vm_nightSlips vm_drawnNow, (qm_wins, .inl (cI, 24576, .inl (g1180)))] := ⟨hP.sub [2, 0, 1, 3] rfl, hD.sub [2, 0, 1, 3] (by decide) rfl⟩
                exact ih1163 (g1180, (2 : Int32)) _ _ _ (show (6 - (2 : Int32).toInt).toNat < (6 - x1162.toInt).toNat by omega) ⟨(show 0 ≤ (2 : Int32).toInt ∧ (2 : Int32).toInt ≤ 6 by decide), ⟨hP9, hD9⟩, hS, lv_sub hl [0, 1, 2, 3] rfl⟩
              · subst hz
                refine lv_if_ne (tgt := 68) hx hb dX12_plays_63 (by decide) (fun hc => absurd hc (by decide)) (fun _ => ?_)
                refine lv_iload_n hx hb dX12_plays_66 rfl (lv_at hl 0 rfl) ?_
                obtain ⟨hP9, hD9⟩ : ct_B D A H [mo qm 0 qm_width qm_many qm_cells qm_moved qm_tape vm_taped vm_at vm_token vm_place vm_value vm_word vm_bad vm_badPlace vm_fault vm_faultPlace qm_lines qm_has qm_round qm_meets qm_stumble qm_isMud qm_cell qm_tune qm_change qm_isKept qm_steps qm_places qm_danced vm_runMost vm_runBegins qm_heardBy vm_fitMany vm_fitFirst vm_fitBeats vm_listenLeaves qm_there vm_metAt vm_metIn qm_wins vm_nightHoles vm_nightFirst vm_nightMud vm_nightSlips vm_drawnNow, (qm_lines, .inl (cI, 5, .inl (fm_lines))), (qm_meets, .inl (cI, 30, .inl (fm_meets))), (qm_wins, .inl (cI, 24576, .inl (g1180)))] := ⟨hP.sub [1, 0, 2, 3] rfl, hD.sub [1, 0, 2, 3] (by decide) rfl⟩
                exact W.iret (v := 1) hx hb hr (fun t ht hW => ⟨⟨1, ((0 : Int32), g1180), rfl, (show (-2) ≤ (1 : Int32).toInt ∧ (1 : Int32).toInt ≤ 5 by decide), by rw [ht]; exact hP9, hD9⟩, hS.F ht⟩) hS.2.2 dX12_plays_67
            · subst hz
              refine lv_if_eq (tgt := 68) hx hb dX12_plays_48 (by decide) (fun _ => ?_) (fun hc => absurd hc (by decide))
              refine lv_iinc (v := 2) (lv' := [(3, .int 2), (2, .int 1024), (0, .ref qm), (1, .int 5)]) hx hb dX12_plays_68 hl (k := 0) rfl (by decide) (by decide) rfl (fun ls hl => ?_)
              refine lv_goto (tgt := 35) hx hb dX12_plays_71 (by decide) ?_
              have hk1182 : (2 : Int32).toInt = 2 := by decide
              obtain ⟨hP9, hD9⟩ : ct_B D A H [(qm_meets, .inl (cI, 30, .inl (fm_meets))), (qm_lines, .inl (cI, 5, .inl (fm_lines))), mo qm 0 qm_width qm_many qm_cells qm_moved qm_tape vm_taped vm_at vm_token vm_place vm_value vm_word vm_bad vm_badPlace vm_fault vm_faultPlace qm_lines qm_has qm_round qm_meets qm_stumble qm_isMud qm_cell qm_tune qm_change qm_isKept qm_steps qm_places qm_danced vm_runMost vm_runBegins qm_heardBy vm_fitMany vm_fitFirst vm_fitBeats vm_listenLeaves qm_there vm_metAt vm_metIn qm_wins vm_nightHoles vm_nightFirst vm_nightMud vm_nightSlips vm_drawnNow, (qm_wins, .inl (cI, 24576, .inl (g1161)))] := ⟨hP.sub [3, 0, 2, 1] rfl, hD.sub [3, 0, 2, 1] (by decide) rfl⟩
              exact ih1163 (g1161, (2 : Int32)) _ _ _ (show (6 - (2 : Int32).toInt).toNat < (6 - x1162.toInt).toNat by omega) ⟨(show 0 ≤ (2 : Int32).toInt ∧ (2 : Int32).toInt ≤ 6 by decide), ⟨hP9, hD9⟩, hS, lv_sub hl [0, 1, 2, 3] rfl⟩
          · have hj2 : x1162 = 2 := tq_of hj (by decide)
            have hl : lv_has ls 4 [(3, .int 2), (2, .int 1024), (0, .ref qm), (1, .int 5)] := by have h9 := hl; rw [hj2] at h9; exact h9
            refine lv_aload_n hx hb dX12_plays_41 rfl (lv_at hl 2 rfl) ?_
            refine lv_iload_n hx hb dX12_plays_42 rfl (lv_at hl 1 rfl) ?_
            refine lv_iload_n hx hb dX12_plays_43 rfl (lv_at hl 3 rfl) ?_
            refine lv_iload_n hx hb dX12_plays_44 rfl (lv_at hl 0 rfl) ?_
            refine ct_calli (D := D) (wr := [(qm_lines, .inl (cI, 5, .inl (fm_lines))), (qm_wins, .inl (cI, 24576, .inl (g1161)))]) (va_runV (As := [.int 1024, .int 5, .int 2]) (rest := []) ⟨hx, hb, hml, hown, hts⟩ (c_X12_isPlay l D G cI cJ cB cZ cO qm 0 qm_width qm_many qm_cells qm_moved qm_tape vm_taped vm_at vm_token vm_place vm_value vm_word vm_bad vm_badPlace vm_fault vm_faultPlace qm_lines qm_has qm_round qm_meets fm_meets qm_stumble qm_isMud qm_cell qm_tune qm_change qm_isKept qm_steps qm_places qm_danced vm_runMost vm_runBegins qm_heardBy vm_fitMany vm_fitFirst vm_fitBeats vm_listenLeaves qm_there vm_metAt vm_metIn qm_wins vm_nightHoles vm_nightFirst vm_nightMud vm_nightSlips vm_drawnNow 1024 5 2 h_vm_taped h_vm_at h_vm_value (by decide) (by decide) H.size) (cwV 3 hts gX12_plays_X12_isPlay rfl rfl rfl (by decide +kernel) ⟨Nat.le_of_ble_eq_true rfl, Nat.le_of_ble_eq_true rfl⟩) (ct_preV (T := ct_T cI cJ cB cZ cO) (ci := 12) (q0 := 2) hE hH hP hD hS hA [2, 0] (by decide) rfl rfl rfl) rfl rfl hl.1 rfl (lv_room (Nat.le_of_ble_eq_true rfl)) dX12_plays_45 ⟨Nat.le_of_ble_eq_true rfl, Nat.le_of_ble_eq_true rfl⟩) hP hD hS hA [2, 0] [1, 3] rfl rfl (by decide) (by decide) (fun r1183 u H locs hw hP hD hS => ?_)
            obtain ⟨hP, hD⟩ : ct_B D A H [(qm_lines, .inl (cI, 5, .inl (fm_lines))), (qm_wins, .inl (cI, 24576, .inl (g1161))), mo qm 0 qm_width qm_many qm_cells qm_moved qm_tape vm_taped vm_at vm_token vm_place vm_value vm_word vm_bad vm_badPlace vm_fault vm_faultPlace qm_lines qm_has qm_round qm_meets qm_stumble qm_isMud qm_cell qm_tune qm_change qm_isKept qm_steps qm_places qm_danced vm_runMost vm_runBegins qm_heardBy vm_fitMany vm_fitFirst vm_fitBeats vm_listenLeaves qm_there vm_metAt vm_metIn qm_wins vm_nightHoles vm_nightFirst vm_nightMud vm_nightSlips vm_drawnNow, (qm_meets, .inl (cI, 30, .inl (fm_meets)))] := ⟨hP, hD⟩
            have hz := hw
            clear hw
            rcases hz with ⟨hz, hz2⟩ | ⟨hz, hz2⟩
            · subst hz
              have hz_1184 : (pl (1024 : Int32) (2 : Int32)) := hz2
              refine lv_if_eq (tgt := 68) hx hb dX12_plays_48 (by decide) (fun hc => absurd hc (by decide)) (fun _ => ?_)
              refine lv_aload_n hx hb dX12_plays_51 rfl (lv_at hl 2 rfl) ?_
              refine lv_iload_n hx hb dX12_plays_52 rfl (lv_at hl 1 rfl) ?_
              refine lv_iconst (v := 1) hx hb dX12_plays_53 (by decide) ?_
              refine lv_iconst (v := 2) hx hb dX12_plays_54 (by decide) ?_
              refine lv_iload_n hx hb dX12_plays_55 rfl (lv_at hl 0 rfl) ?_
              refine lv_imul hx hb dX12_plays_56 ?_
              refine lv_topi (fun z1185 ez1185 => ?_)
              obtain rfl : z1185 = 4 := ez1185.trans (by decide)
              refine lv_ishl hx hb dX12_plays_57 ?_
              refine lv_topi (fun z1186 ez1186 => ?_)
              obtain rfl : z1186 = 16 := ez1186.trans (by decide)
              refine lv_iadd hx hb dX12_plays_58 ?_
              refine lv_topi (fun z1187 ez1187 => ?_)
              obtain rfl : z1187 = 1040 := ez1187.trans (by decide)
              refine lv_iload_n hx hb dX12_plays_59 rfl (lv_at hl 0 rfl) ?_
              refine ct_calli (D := D) (wr := [(qm_lines, .inl (cI, 5, .inl (fm_lines)))]) (va_runV (As := [.int 1040, .int 2]) (rest := []) ⟨hx, hb, hml, hown, hts⟩ (c_X12_winsFrom l D G cI cJ cB cZ cO qm 0 qm_width qm_many qm_cells qm_moved qm_tape vm_taped vm_at vm_token vm_place vm_value vm_word vm_bad vm_badPlace vm_fault vm_faultPlace qm_lines qm_has qm_round qm_meets fm_meets qm_stumble qm_isMud qm_cell qm_tune qm_change qm_isKept qm_steps qm_places qm_danced vm_runMost vm_runBegins qm_heardBy vm_fitMany vm_fitFirst vm_fitBeats vm_listenLeaves qm_there vm_metAt vm_metIn qm_wins vm_nightHoles vm_nightFirst vm_nightMud vm_nightSlips vm_drawnNow h_vm_taped h_vm_at h_vm_value 12 g1161 1040 2 (by decide) (by unfold wn; decide +kernel) H.size) (cwV 2 hts gX12_plays_X12_winsFrom rfl rfl rfl (by decide +kernel) ⟨Nat.le_of_ble_eq_true rfl, Nat.le_of_ble_eq_true rfl⟩) (ct_preV (T := ct_T cI cJ cB cZ cO) (ci := 12) (q0 := 2) hE hH hP hD hS hA [2, 3, 1] (by decide) rfl rfl rfl) rfl rfl hl.1 rfl (lv_room (Nat.le_of_ble_eq_true rfl)) dX12_plays_60 ⟨Nat.le_of_ble_eq_true rfl, Nat.le_of_ble_eq_true rfl⟩) hP hD hS hA [2, 3, 1] [0] rfl rfl (by decide) (by decide) (fun r1188 u H locs hw hP hD hS => ?_)
              obtain ⟨g1189, rfl⟩ : ∃ z, z = u := ⟨_, rfl⟩
              obtain ⟨hP, hD⟩ : ct_B D A H [(qm_lines, .inl (cI, 5, .inl (fm_lines))), mo qm 0 qm_width qm_many qm_cells qm_moved qm_tape vm_taped vm_at vm_token vm_place vm_value vm_word vm_bad vm_badPlace vm_fault vm_faultPlace qm_lines qm_has qm_round qm_meets qm_stumble qm_isMud qm_cell qm_tune qm_change qm_isKept qm_steps qm_places qm_danced vm_runMost vm_runBegins qm_heardBy vm_fitMany vm_fitFirst vm_fitBeats vm_listenLeaves qm_there vm_metAt vm_metIn qm_wins vm_nightHoles vm_nightFirst vm_nightMud vm_nightSlips vm_drawnNow, (qm_meets, .inl (cI, 30, .inl (fm_meets))), (qm_wins, .inl (cI, 24576, .inl (g1189)))] := ⟨hP, hD⟩
              have hz := hw
              clear hw
              rcases hz with ⟨hz, hz2⟩ | ⟨hz, hz2⟩
              · subst hz
                refine lv_if_ne (tgt := 68) hx hb dX12_plays_63 (by decide) (fun _ => ?_) (fun hc => absurd hc (by decide))
                refine lv_iinc (v := 3) (lv' := [(3, .int 3), (2, .int 1024), (0, .ref qm), (1, .int 5)]) hx hb dX12_plays_68 hl (k := 0) rfl (by decide) (by decide) rfl (fun ls hl => ?_)
                refine lv_goto (tgt := 35) hx hb dX12_plays_71 (by decide) ?_
                have hk1190 : (3 : Int32).toInt = 3 := by decide
                obtain ⟨hP9, hD9⟩ : ct_B D A H [(qm_meets, .inl (cI, 30, .inl (fm_meets))), (qm_lines, .inl (cI, 5, .inl (fm_lines))), mo qm 0 qm_width qm_many qm_cells qm_moved qm_tape vm_taped vm_at vm_token vm_place vm_value vm_word vm_bad vm_badPlace vm_fault vm_faultPlace qm_lines qm_has qm_round qm_meets qm_stumble qm_isMud qm_cell qm_tune qm_change qm_isKept qm_steps qm_places qm_danced vm_runMost vm_runBegins qm_heardBy vm_fitMany vm_fitFirst vm_fitBeats vm_listenLeaves qm_there vm_metAt vm_metIn qm_wins vm_nightHoles vm_nightFirst vm_nightMud vm_nightSlips vm_drawnNow, (qm_wins, .inl (cI, 24576, .inl (g1189)))] := ⟨hP.sub [2, 0, 1, 3] rfl, hD.sub [2, 0, 1, 3] (by decide) rfl⟩
                exact ih1163 (g1189, (3 : Int32)) _ _ _ (show (6 - (3 : Int32).toInt).toNat < (6 - x1162.toInt).toNat by omega) ⟨(show 0 ≤ (3 : Int32).toInt ∧ (3 : Int32).toInt ≤ 6 by decide), ⟨hP9, hD9⟩, hS, lv_sub hl [0, 1, 2, 3] rfl⟩
              · subst hz
                refine lv_if_ne (tgt := 68) hx hb dX12_plays_63 (by decide) (fun hc => absurd hc (by decide)) (fun _ => ?_)
                refine lv_iload_n hx hb dX12_plays_66 rfl (lv_at hl 0 rfl) ?_
                obtain ⟨hP9, hD9⟩ : ct_B D A H [mo qm 0 qm_width qm_many qm_cells qm_moved qm_tape vm_taped vm_at vm_token vm_place vm_value vm_word vm_bad vm_badPlace vm_fault vm_faultPlace qm_lines qm_has qm_round qm_meets qm_stumble qm_isMud qm_cell qm_tune qm_change qm_isKept qm_steps qm_places qm_danced vm_runMost vm_runBegins qm_heardBy vm_fitMany vm_fitFirst vm_fitBeats vm_listenLeaves qm_there vm_metAt vm_metIn qm_wins vm_nightHoles vm_nightFirst vm_nightMud vm_nightSlips vm_drawnNow, (qm_lines, .inl (cI, 5, .inl (fm_lines))), (qm_meets, .inl (cI, 30, .inl (fm_meets))), (qm_wins, .inl (cI, 24576, .inl (g1189)))] := ⟨hP.sub [1, 0, 2, 3] rfl, hD.sub [1, 0, 2, 3] (by decide) rfl⟩
                exact W.iret (v := 2) hx hb hr (fun t ht hW => ⟨⟨2, ((0 : Int32), g1189), rfl, (show (-2) ≤ (2 : Int32).toInt ∧ (2 : Int32).toInt ≤ 5 by decide), by rw [ht]; exact hP9, hD9⟩, hS.F ht⟩) hS.2.2 dX12_plays_67
            · subst hz
              refine lv_if_eq (tgt := 68) hx hb dX12_plays_48 (by decide) (fun _ => ?_) (fun hc => absurd hc (by decide))
              refine lv_iinc (v := 3) (lv' := [(3, .int 3), (2, .int 1024), (0, .ref qm), (1, .int 5)]) hx hb dX12_plays_68 hl (k := 0) rfl (by decide) (by decide) rfl (fun ls hl => ?_)
              refine lv_goto (tgt := 35) hx hb dX12_plays_71 (by decide) ?_
              have hk1191 : (3 : Int32).toInt = 3 := by decide
              obtain ⟨hP9, hD9⟩ : ct_B D A H [(qm_meets, .inl (cI, 30, .inl (fm_meets))), (qm_lines, .inl (cI, 5, .inl (fm_lines))), mo qm 0 qm_width qm_many qm_cells qm_moved qm_tape vm_taped vm_at vm_token vm_place vm_value vm_word vm_bad vm_badPlace vm_fault vm_faultPlace qm_lines qm_has qm_round qm_meets qm_stumble qm_isMud qm_cell qm_tune qm_change qm_isKept qm_steps qm_places qm_danced vm_runMost vm_runBegins qm_heardBy vm_fitMany vm_fitFirst vm_fitBeats vm_listenLeaves qm_there vm_metAt vm_metIn qm_wins vm_nightHoles vm_nightFirst vm_nightMud vm_nightSlips vm_drawnNow, (qm_wins, .inl (cI, 24576, .inl (g1161)))] := ⟨hP.sub [3, 0, 2, 1] rfl, hD.sub [3, 0, 2, 1] (by decide) rfl⟩
              exact ih1163 (g1161, (3 : Int32)) _ _ _ (show (6 - (3 : Int32).toInt).toNat < (6 - x1162.toInt).toNat by omega) ⟨(show 0 ≤ (3 : Int32).toInt ∧ (3 : Int32).toInt ≤ 6 by decide), ⟨hP9, hD9⟩, hS, lv_sub hl [0, 1, 2, 3] rfl⟩
          · have hj2 : x1162 = 3 := tq_of hj (by decide)
            have hl : lv_has ls 4 [(3, .int 3), (2, .int 1024), (0, .ref qm), (1, .int 5)] := by have h9 := hl; rw [hj2] at h9; exact h9
            refine lv_aload_n hx hb dX12_plays_41 rfl (lv_at hl 2 rfl) ?_
            refine lv_iload_n hx hb dX12_plays_42 rfl (lv_at hl 1 rfl) ?_
            refine lv_iload_n hx hb dX12_plays_43 rfl (lv_at hl 3 rfl) ?_
            refine lv_iload_n hx hb dX12_plays_44 rfl (lv_at hl 0 rfl) ?_
            refine ct_calli (D := D) (wr := [(qm_lines, .inl (cI, 5, .inl (fm_lines))), (qm_wins, .inl (cI, 24576, .inl (g1161)))]) (va_runV (As := [.int 1024, .int 5, .int 3]) (rest := []) ⟨hx, hb, hml, hown, hts⟩ (c_X12_isPlay l D G cI cJ cB cZ cO qm 0 qm_width qm_many qm_cells qm_moved qm_tape vm_taped vm_at vm_token vm_place vm_value vm_word vm_bad vm_badPlace vm_fault vm_faultPlace qm_lines qm_has qm_round qm_meets fm_meets qm_stumble qm_isMud qm_cell qm_tune qm_change qm_isKept qm_steps qm_places qm_danced vm_runMost vm_runBegins qm_heardBy vm_fitMany vm_fitFirst vm_fitBeats vm_listenLeaves qm_there vm_metAt vm_metIn qm_wins vm_nightHoles vm_nightFirst vm_nightMud vm_nightSlips vm_drawnNow 1024 5 3 h_vm_taped h_vm_at h_vm_value (by decide) (by decide) H.size) (cwV 3 hts gX12_plays_X12_isPlay rfl rfl rfl (by decide +kernel) ⟨Nat.le_of_ble_eq_true rfl, Nat.le_of_ble_eq_true rfl⟩) (ct_preV (T := ct_T cI cJ cB cZ cO) (ci := 12) (q0 := 2) hE hH hP hD hS hA [2, 0] (by decide) rfl rfl rfl) rfl rfl hl.1 rfl (lv_room (Nat.le_of_ble_eq_true rfl)) dX12_plays_45 ⟨Nat.le_of_ble_eq_true rfl, Nat.le_of_ble_eq_true rfl⟩) hP hD hS hA [2, 0] [1, 3] rfl rfl (by decide) (by decide) (fun r1192 u H locs hw hP hD hS => ?_)
            obtain ⟨hP, hD⟩ : ct_B D A H [(qm_lines, .inl (cI, 5, .inl (fm_lines))), (qm_wins, .inl (cI, 24576, .inl (g1161))), mo qm 0 qm_width qm_many qm_cells qm_moved qm_tape vm_taped vm_at vm_token vm_place vm_value vm_word vm_bad vm_badPlace vm_fault vm_faultPlace qm_lines qm_has qm_round qm_meets qm_stumble qm_isMud qm_cell qm_tune qm_change qm_isKept qm_steps qm_places qm_danced vm_runMost vm_runBegins qm_heardBy vm_fitMany vm_fitFirst vm_fitBeats vm_listenLeaves qm_there vm_metAt vm_metIn qm_wins vm_nightHoles vm_nightFirst vm_nightMud vm_nightSlips vm_drawnNow, (qm_meets, .inl (cI, 30, .inl (fm_meets)))] := ⟨hP, hD⟩
            have hz := hw
            clear hw
            rcases hz with ⟨hz, hz2⟩ | ⟨hz, hz2⟩
            · subst hz
              have hz_1193 : (pl (1024 : Int32) (3 : Int32)) := hz2
              refine lv_if_eq (tgt := 68) hx hb dX12_plays_48 (by decide) (fun hc => absurd hc (by decide)) (fun _ => ?_)
              refine lv_aload_n hx hb dX12_plays_51 rfl (lv_at hl 2 rfl) ?_
              refine lv_iload_n hx hb dX12_plays_52 rfl (lv_at hl 1 rfl) ?_
              refine lv_iconst (v := 1) hx hb dX12_plays_53 (by decide) ?_
              refine lv_iconst (v := 2) hx hb dX12_plays_54 (by decide) ?_
              refine lv_iload_n hx hb dX12_plays_55 rfl (lv_at hl 0 rfl) ?_
              refine lv_imul hx hb dX12_plays_56 ?_
              refine lv_topi (fun z1194 ez1194 => ?_)
              obtain rfl : z1194 = 6 := ez1194.trans (by decide)
              refine lv_ishl hx hb dX12_plays_57 ?_
              refine lv_topi (fun z1195 ez1195 => ?_)
              obtain rfl : z1195 = 64 := ez1195.trans (by decide)
              refine lv_iadd hx hb dX12_plays_58 ?_
              refine lv_topi (fun z1196 ez1196 => ?_)
              obtain rfl : z1196 = 1088 := ez1196.trans (by decide)
              refine lv_iload_n hx hb dX12_plays_59 rfl (lv_at hl 0 rfl) ?_
              refine ct_calli (D := D) (wr := [(qm_lines, .inl (cI, 5, .inl (fm_lines)))]) (va_runV (As := [.int 1088, .int 3]) (rest := []) ⟨hx, hb, hml, hown, hts⟩ (c_X12_winsFrom l D G cI cJ cB cZ cO qm 0 qm_width qm_many qm_cells qm_moved qm_tape vm_taped vm_at vm_token vm_place vm_value vm_word vm_bad vm_badPlace vm_fault vm_faultPlace qm_lines qm_has qm_round qm_meets fm_meets qm_stumble qm_isMud qm_cell qm_tune qm_change qm_isKept qm_steps qm_places qm_danced vm_runMost vm_runBegins qm_heardBy vm_fitMany vm_fitFirst vm_fitBeats vm_listenLeaves qm_there vm_metAt vm_metIn qm_wins vm_nightHoles vm_nightFirst vm_nightMud vm_nightSlips vm_drawnNow h_vm_taped h_vm_at h_vm_value 12 g1161 1088 3 (by decide) (by unfold wn; decide +kernel) H.size) (cwV 2 hts gX12_plays_X12_winsFrom rfl rfl rfl (by decide +kernel) ⟨Nat.le_of_ble_eq_true rfl, Nat.le_of_ble_eq_true rfl⟩) (ct_preV (T := ct_T cI cJ cB cZ cO) (ci := 12) (q0 := 2) hE hH hP hD hS hA [2, 3, 1] (by decide) rfl rfl rfl) rfl rfl hl.1 rfl (lv_room (Nat.le_of_ble_eq_true rfl)) dX12_plays_60 ⟨Nat.le_of_ble_eq_true rfl, Nat.le_of_ble_eq_true rfl⟩) hP hD hS hA [2, 3, 1] [0] rfl rfl (by decide) (by decide) (fun r1197 u H locs hw hP hD hS => ?_)
              obtain ⟨g1198, rfl⟩ : ∃ z, z = u := ⟨_, rfl⟩
              obtain ⟨hP, hD⟩ : ct_B D A H [(qm_lines, .inl (cI, 5, .inl (fm_lines))), mo qm 0 qm_width qm_many qm_cells qm_moved qm_tape vm_taped vm_at vm_token vm_place vm_value vm_word vm_bad vm_badPlace vm_fault vm_faultPlace qm_lines qm_has qm_round qm_meets qm_stumble qm_isMud qm_cell qm_tune qm_change qm_isKept qm_steps qm_places qm_danced vm_runMost vm_runBegins qm_heardBy vm_fitMany vm_fitFirst vm_fitBeats vm_listenLeaves qm_there vm_metAt vm_metIn qm_wins vm_nightHoles vm_nightFirst vm_nightMud vm_nightSlips vm_drawnNow, (qm_meets, .inl (cI, 30, .inl (fm_meets))), (qm_wins, .inl (cI, 24576, .inl (g1198)))] := ⟨hP, hD⟩
              have hz := hw
              clear hw
              rcases hz with ⟨hz, hz2⟩ | ⟨hz, hz2⟩
              · subst hz
                refine lv_if_ne (tgt := 68) hx hb dX12_plays_63 (by decide) (fun _ => ?_) (fun hc => absurd hc (by decide))
                refine lv_iinc (v := 4) (lv' := [(3, .int 4), (2, .int 1024), (0, .ref qm), (1, .int 5)]) hx hb dX12_plays_68 hl (k := 0) rfl (by decide) (by decide) rfl (fun ls hl => ?_)
                refine lv_goto (tgt := 35) hx hb dX12_plays_71 (by decide) ?_
                have hk1199 : (4 : Int32).toInt = 4 := by decide
                obtain ⟨hP9, hD9⟩ : ct_B D A H [(qm_meets, .inl (cI, 30, .inl (fm_meets))), (qm_lines, .inl (cI, 5, .inl (fm_lines))), mo qm 0 qm_width qm_many qm_cells qm_moved qm_tape vm_taped vm_at vm_token vm_place vm_value vm_word vm_bad vm_badPlace vm_fault vm_faultPlace qm_lines qm_has qm_round qm_meets qm_stumble qm_isMud qm_cell qm_tune qm_change qm_isKept qm_steps qm_places qm_danced vm_runMost vm_runBegins qm_heardBy vm_fitMany vm_fitFirst vm_fitBeats vm_listenLeaves qm_there vm_metAt vm_metIn qm_wins vm_nightHoles vm_nightFirst vm_nightMud vm_nightSlips vm_drawnNow, (qm_wins, .inl (cI, 24576, .inl (g1198)))] := ⟨hP.sub [2, 0, 1, 3] rfl, hD.sub [2, 0, 1, 3] (by decide) rfl⟩
                exact ih1163 (g1198, (4 : Int32)) _ _ _ (show (6 - (4 : Int32).toInt).toNat < (6 - x1162.toInt).toNat by omega) ⟨(show 0 ≤ (4 : Int32).toInt ∧ (4 : Int32).toInt ≤ 6 by decide), ⟨hP9, hD9⟩, hS, lv_sub hl [0, 1, 2, 3] rfl⟩
              · subst hz
                refine lv_if_ne (tgt := 68) hx hb dX12_plays_63 (by decide) (fun hc => absurd hc (by decide)) (fun _ => ?_)
                refine lv_iload_n hx hb dX12_plays_66 rfl (lv_at hl 0 rfl) ?_
                obtain ⟨hP9, hD9⟩ : ct_B D A H [mo qm 0 qm_width qm_many qm_cells qm_moved qm_tape vm_taped vm_at vm_token vm_place vm_value vm_word vm_bad vm_badPlace vm_fault vm_faultPlace qm_lines qm_has qm_round qm_meets qm_stumble qm_isMud qm_cell qm_tune qm_change qm_isKept qm_steps qm_places qm_danced vm_runMost vm_runBegins qm_heardBy vm_fitMany vm_fitFirst vm_fitBeats vm_listenLeaves qm_there vm_metAt vm_metIn qm_wins vm_nightHoles vm_nightFirst vm_nightMud vm_nightSlips vm_drawnNow, (qm_lines, .inl (cI, 5, .inl (fm_lines))), (qm_meets, .inl (cI, 30, .inl (fm_meets))), (qm_wins, .inl (cI, 24576, .inl (g1198)))] := ⟨hP.sub [1, 0, 2, 3] rfl, hD.sub [1, 0, 2, 3] (by decide) rfl⟩
                exact W.iret (v := 3) hx hb hr (fun t ht hW => ⟨⟨3, ((0 : Int32), g1198), rfl, (show (-2) ≤ (3 : Int32).toInt ∧ (3 : Int32).toInt ≤ 5 by decide), by rw [ht]; exact hP9, hD9⟩, hS.F ht⟩) hS.2.2 dX12_plays_67
            · subst hz
              refine lv_if_eq (tgt := 68) hx hb dX12_plays_48 (by decide) (fun _ => ?_) (fun hc => absurd hc (by decide))
              refine lv_iinc (v := 4) (lv' := [(3, .int 4), (2, .int 1024), (0, .ref qm), (1, .int 5)]) hx hb dX12_plays_68 hl (k := 0) rfl (by decide) (by decide) rfl (fun ls hl => ?_)
              refine lv_goto (tgt := 35) hx hb dX12_plays_71 (by decide) ?_
              have hk1200 : (4 : Int32).toInt = 4 := by decide
              obtain ⟨hP9, hD9⟩ : ct_B D A H [(qm_meets, .inl (cI, 30, .inl (fm_meets))), (qm_lines, .inl (cI, 5, .inl (fm_lines))), mo qm 0 qm_width qm_many qm_cells qm_moved qm_tape vm_taped vm_at vm_token vm_place vm_value vm_word vm_bad vm_badPlace vm_fault vm_faultPlace qm_lines qm_has qm_round qm_meets qm_stumble qm_isMud qm_cell qm_tune qm_change qm_isKept qm_steps qm_places qm_danced vm_runMost vm_runBegins qm_heardBy vm_fitMany vm_fitFirst vm_fitBeats vm_listenLeaves qm_there vm_metAt vm_metIn qm_wins vm_nightHoles vm_nightFirst vm_nightMud vm_nightSlips vm_drawnNow, (qm_wins, .inl (cI, 24576, .inl (g1161)))] := ⟨hP.sub [3, 0, 2, 1] rfl, hD.sub [3, 0, 2, 1] (by decide) rfl⟩
              exact ih1163 (g1161, (4 : Int32)) _ _ _ (show (6 - (4 : Int32).toInt).toNat < (6 - x1162.toInt).toNat by omega) ⟨(show 0 ≤ (4 : Int32).toInt ∧ (4 : Int32).toInt ≤ 6 by decide), ⟨hP9, hD9⟩, hS, lv_sub hl [0, 1, 2, 3] rfl⟩
          · have hj2 : x1162 = 4 := tq_of hj (by decide)
            have hl : lv_has ls 4 [(3, .int 4), (2, .int 1024), (0, .ref qm), (1, .int 5)] := by have h9 := hl; rw [hj2] at h9; exact h9
            refine lv_aload_n hx hb dX12_plays_41 rfl (lv_at hl 2 rfl) ?_
            refine lv_iload_n hx hb dX12_plays_42 rfl (lv_at hl 1 rfl) ?_
            refine lv_iload_n hx hb dX12_plays_43 rfl (lv_at hl 3 rfl) ?_
            refine lv_iload_n hx hb dX12_plays_44 rfl (lv_at hl 0 rfl) ?_
            refine ct_calli (D := D) (wr := [(qm_lines, .inl (cI, 5, .inl (fm_lines))), (qm_wins, .inl (cI, 24576, .inl (g1161)))]) (va_runV (As := [.int 1024, .int 5, .int 4]) (rest := []) ⟨hx, hb, hml, hown, hts⟩ (c_X12_isPlay l D G cI cJ cB cZ cO qm 0 qm_width qm_many qm_cells qm_moved qm_tape vm_taped vm_at vm_token vm_place vm_value vm_word vm_bad vm_badPlace vm_fault vm_faultPlace qm_lines qm_has qm_round qm_meets fm_meets qm_stumble qm_isMud qm_cell qm_tune qm_change qm_isKept qm_steps qm_places qm_danced vm_runMost vm_runBegins qm_heardBy vm_fitMany vm_fitFirst vm_fitBeats vm_listenLeaves qm_there vm_metAt vm_metIn qm_wins vm_nightHoles vm_nightFirst vm_nightMud vm_nightSlips vm_drawnNow 1024 5 4 h_vm_taped h_vm_at h_vm_value (by decide) (by decide) H.size) (cwV 3 hts gX12_plays_X12_isPlay rfl rfl rfl (by decide +kernel) ⟨Nat.le_of_ble_eq_true rfl, Nat.le_of_ble_eq_true rfl⟩) (ct_preV (T := ct_T cI cJ cB cZ cO) (ci := 12) (q0 := 2) hE hH hP hD hS hA [2, 0] (by decide) rfl rfl rfl) rfl rfl hl.1 rfl (lv_room (Nat.le_of_ble_eq_true rfl)) dX12_plays_45 ⟨Nat.le_of_ble_eq_true rfl, Nat.le_of_ble_eq_true rfl⟩) hP hD hS hA [2, 0] [1, 3] rfl rfl (by decide) (by decide) (fun r1201 u H locs hw hP hD hS => ?_)
            obtain ⟨hP, hD⟩ : ct_B D A H [(qm_lines, .inl (cI, 5, .inl (fm_lines))), (qm_wins, .inl (cI, 24576, .inl (g1161))), mo qm 0 qm_width qm_many qm_cells qm_moved qm_tape vm_taped vm_at vm_token vm_place vm_value vm_word vm_bad vm_badPlace vm_fault vm_faultPlace qm_lines qm_has qm_round qm_meets qm_stumble qm_isMud qm_cell qm_tune qm_change qm_isKept qm_steps qm_places qm_danced vm_runMost vm_runBegins qm_heardBy vm_fitMany vm_fitFirst vm_fitBeats vm_listenLeaves qm_there vm_metAt vm_metIn qm_wins vm_nightHoles vm_nightFirst vm_nightMud vm_nightSlips vm_drawnNow, (qm_meets, .inl (cI, 30, .inl (fm_meets)))] := ⟨hP, hD⟩
            have hz := hw
            clear hw
            rcases hz with ⟨hz, hz2⟩ | ⟨hz, hz2⟩
            · subst hz
              have hz_1202 : (pl (1024 : Int32) (4 : Int32)) := hz2
              refine lv_if_eq (tgt := 68) hx hb dX12_plays_48 (by decide) (fun hc => absurd hc (by decide)) (fun _ => ?_)
              refine lv_aload_n hx hb dX12_plays_51 rfl (lv_at hl 2 rfl) ?_
              refine lv_iload_n hx hb dX12_plays_52 rfl (lv_at hl 1 rfl) ?_
              refine lv_iconst (v := 1) hx hb dX12_plays_53 (by decide) ?_
              refine lv_iconst (v := 2) hx hb dX12_plays_54 (by decide) ?_
              refine lv_iload_n hx hb dX12_plays_55 rfl (lv_at hl 0 rfl) ?_
              refine lv_imul hx hb dX12_plays_56 ?_
              refine lv_topi (fun z1203 ez1203 => ?_)
              obtain rfl : z1203 = 8 := ez1203.trans (by decide)
              refine lv_ishl hx hb dX12_plays_57 ?_
              refine lv_topi (fun z1204 ez1204 => ?_)
              obtain rfl : z1204 = 256 := ez1204.trans (by decide)
              refine lv_iadd hx hb dX12_plays_58 ?_
              refine lv_topi (fun z1205 ez1205 => ?_)
              obtain rfl : z1205 = 1280 := ez1205.trans (by decide)
              refine lv_iload_n hx hb dX12_plays_59 rfl (lv_at hl 0 rfl) ?_
              refine ct_calli (D := D) (wr := [(qm_lines, .inl (cI, 5, .inl (fm_lines)))]) (va_runV (As := [.int 1280, .int 4]) (rest := []) ⟨hx, hb, hml, hown, hts⟩ (c_X12_winsFrom l D G cI cJ cB cZ cO qm 0 qm_width qm_many qm_cells qm_moved qm_tape vm_taped vm_at vm_token vm_place vm_value vm_word vm_bad vm_badPlace vm_fault vm_faultPlace qm_lines qm_has qm_round qm_meets fm_meets qm_stumble qm_isMud qm_cell qm_tune qm_change qm_isKept qm_steps qm_places qm_danced vm_runMost vm_runBegins qm_heardBy vm_fitMany vm_fitFirst vm_fitBeats vm_listenLeaves qm_there vm_metAt vm_metIn qm_wins vm_nightHoles vm_nightFirst vm_nightMud vm_nightSlips vm_drawnNow h_vm_taped h_vm_at h_vm_value 12 g1161 1280 4 (by decide) (by unfold wn; decide +kernel) H.size) (cwV 2 hts gX12_plays_X12_winsFrom rfl rfl rfl (by decide +kernel) ⟨Nat.le_of_ble_eq_true rfl, Nat.le_of_ble_eq_true rfl⟩) (ct_preV (T := ct_T cI cJ cB cZ cO) (ci := 12) (q0 := 2) hE hH hP hD hS hA [2, 3, 1] (by decide) rfl rfl rfl) rfl rfl hl.1 rfl (lv_room (Nat.le_of_ble_eq_true rfl)) dX12_plays_60 ⟨Nat.le_of_ble_eq_true rfl, Nat.le_of_ble_eq_true rfl⟩) hP hD hS hA [2, 3, 1] [0] rfl rfl (by decide) (by decide) (fun r1206 u H locs hw hP hD hS => ?_)
              obtain ⟨g1207, rfl⟩ : ∃ z, z = u := ⟨_, rfl⟩
              obtain ⟨hP, hD⟩ : ct_B D A H [(qm_lines, .inl (cI, 5, .inl (fm_lines))), mo qm 0 qm_width qm_many qm_cells qm_moved qm_tape vm_taped vm_at vm_token vm_place vm_value vm_word vm_bad vm_badPlace vm_fault vm_faultPlace qm_lines qm_has qm_round qm_meets qm_stumble qm_isMud qm_cell qm_tune qm_change qm_isKept qm_steps qm_places qm_danced vm_runMost vm_runBegins qm_heardBy vm_fitMany vm_fitFirst vm_fitBeats vm_listenLeaves qm_there vm_metAt vm_metIn qm_wins vm_nightHoles vm_nightFirst vm_nightMud vm_nightSlips vm_drawnNow, (qm_meets, .inl (cI, 30, .inl (fm_meets))), (qm_wins, .inl (cI, 24576, .inl (g1207)))] := ⟨hP, hD⟩
              have hz := hw
              clear hw
              rcases hz with ⟨hz, hz2⟩ | ⟨hz, hz2⟩
              · subst hz
                refine lv_if_ne (tgt := 68) hx hb dX12_plays_63 (by decide) (fun _ => ?_) (fun hc => absurd hc (by decide))
                refine lv_iinc (v := 5) (lv' := [(3, .int 5), (2, .int 1024), (0, .ref qm), (1, .int 5)]) hx hb dX12_plays_68 hl (k := 0) rfl (by decide) (by decide) rfl (fun ls hl => ?_)
                refine lv_goto (tgt := 35) hx hb dX12_plays_71 (by decide) ?_
                have hk1208 : (5 : Int32).toInt = 5 := by decide
                obtain ⟨hP9, hD9⟩ : ct_B D A H [(qm_meets, .inl (cI, 30, .inl (fm_meets))), (qm_lines, .inl (cI, 5, .inl (fm_lines))), mo qm 0 qm_width qm_many qm_cells qm_moved qm_tape vm_taped vm_at vm_token vm_place vm_value vm_word vm_bad vm_badPlace vm_fault vm_faultPlace qm_lines qm_has qm_round qm_meets qm_stumble qm_isMud qm_cell qm_tune qm_change qm_isKept qm_steps qm_places qm_danced vm_runMost vm_runBegins qm_heardBy vm_fitMany vm_fitFirst vm_fitBeats vm_listenLeaves qm_there vm_metAt vm_metIn qm_wins vm_nightHoles vm_nightFirst vm_nightMud vm_nightSlips vm_drawnNow, (qm_wins, .inl (cI, 24576, .inl (g1207)))] := ⟨hP.sub [2, 0, 1, 3] rfl, hD.sub [2, 0, 1, 3] (by decide) rfl⟩
                exact ih1163 (g1207, (5 : Int32)) _ _ _ (show (6 - (5 : Int32).toInt).toNat < (6 - x1162.toInt).toNat by omega) ⟨(show 0 ≤ (5 : Int32).toInt ∧ (5 : Int32).toInt ≤ 6 by decide), ⟨hP9, hD9⟩, hS, lv_sub hl [0, 1, 2, 3] rfl⟩
              · subst hz
                refine lv_if_ne (tgt := 68) hx hb dX12_plays_63 (by decide) (fun hc => absurd hc (by decide)) (fun _ => ?_)
                refine lv_iload_n hx hb dX12_plays_66 rfl (lv_at hl 0 rfl) ?_
                obtain ⟨hP9, hD9⟩ : ct_B D A H [mo qm 0 qm_width qm_many qm_cells qm_moved qm_tape vm_taped vm_at vm_token vm_place vm_value vm_word vm_bad vm_badPlace vm_fault vm_faultPlace qm_lines qm_has qm_round qm_meets qm_stumble qm_isMud qm_cell qm_tune qm_change qm_isKept qm_steps qm_places qm_danced vm_runMost vm_runBegins qm_heardBy vm_fitMany vm_fitFirst vm_fitBeats vm_listenLeaves qm_there vm_metAt vm_metIn qm_wins vm_nightHoles vm_nightFirst vm_nightMud vm_nightSlips vm_drawnNow, (qm_lines, .inl (cI, 5, .inl (fm_lines))), (qm_meets, .inl (cI, 30, .inl (fm_meets))), (qm_wins, .inl (cI, 24576, .inl (g1207)))] := ⟨hP.sub [1, 0, 2, 3] rfl, hD.sub [1, 0, 2, 3] (by decide) rfl⟩
                exact W.iret (v := 4) hx hb hr (fun t ht hW => ⟨⟨4, ((0 : Int32), g1207), rfl, (show (-2) ≤ (4 : Int32).toInt ∧ (4 : Int32).toInt ≤ 5 by decide), by rw [ht]; exact hP9, hD9⟩, hS.F ht⟩) hS.2.2 dX12_plays_67
            · subst hz
              refine lv_if_eq (tgt := 68) hx hb dX12_plays_48 (by decide) (fun _ => ?_) (fun hc => absurd hc (by decide))
              refine lv_iinc (v := 5) (lv' := [(3, .int 5), (2, .int 1024), (0, .ref qm), (1, .int 5)]) hx hb dX12_plays_68 hl (k := 0) rfl (by decide) (by decide) rfl (fun ls hl => ?_)
              refine lv_goto (tgt := 35) hx hb dX12_plays_71 (by decide) ?_
              have hk1209 : (5 : Int32).toInt = 5 := by decide
              obtain ⟨hP9, hD9⟩ : ct_B D A H [(qm_meets, .inl (cI, 30, .inl (fm_meets))), (qm_lines, .inl (cI, 5, .inl (fm_lines))), mo qm 0 qm_width qm_many qm_cells qm_moved qm_tape vm_taped vm_at vm_token vm_place vm_value vm_word vm_bad vm_badPlace vm_fault vm_faultPlace qm_lines qm_has qm_round qm_meets qm_stumble qm_isMud qm_cell qm_tune qm_change qm_isKept qm_steps qm_places qm_danced vm_runMost vm_runBegins qm_heardBy vm_fitMany vm_fitFirst vm_fitBeats vm_listenLeaves qm_there vm_metAt vm_metIn qm_wins vm_nightHoles vm_nightFirst vm_nightMud vm_nightSlips vm_drawnNow, (qm_wins, .inl (cI, 24576, .inl (g1161)))] := ⟨hP.sub [3, 0, 2, 1] rfl, hD.sub [3, 0, 2, 1] (by decide) rfl⟩
              exact ih1163 (g1161, (5 : Int32)) _ _ _ (show (6 - (5 : Int32).toInt).toNat < (6 - x1162.toInt).toNat by omega) ⟨(show 0 ≤ (5 : Int32).toInt ∧ (5 : Int32).toInt ≤ 6 by decide), ⟨hP9, hD9⟩, hS, lv_sub hl [0, 1, 2, 3] rfl⟩
          · have hj2 : x1162 = 5 := tq_of hj (by decide)
            have hl : lv_has ls 4 [(3, .int 5), (2, .int 1024), (0, .ref qm), (1, .int 5)] := by have h9 := hl; rw [hj2] at h9; exact h9
            refine lv_aload_n hx hb dX12_plays_41 rfl (lv_at hl 2 rfl) ?_
            refine lv_iload_n hx hb dX12_plays_42 rfl (lv_at hl 1 rfl) ?_
            refine lv_iload_n hx hb dX12_plays_43 rfl (lv_at hl 3 rfl) ?_
            refine lv_iload_n hx hb dX12_plays_44 rfl (lv_at hl 0 rfl) ?_
            refine ct_calli (D := D) (wr := [(qm_lines, .inl (cI, 5, .inl (fm_lines))), (qm_wins, .inl (cI, 24576, .inl (g1161)))]) (va_runV (As := [.int 1024, .int 5, .int 5]) (rest := []) ⟨hx, hb, hml, hown, hts⟩ (c_X12_isPlay l D G cI cJ cB cZ cO qm 0 qm_width qm_many qm_cells qm_moved qm_tape vm_taped vm_at vm_token vm_place vm_value vm_word vm_bad vm_badPlace vm_fault vm_faultPlace qm_lines qm_has qm_round qm_meets fm_meets qm_stumble qm_isMud qm_cell qm_tune qm_change qm_isKept qm_steps qm_places qm_danced vm_runMost vm_runBegins qm_heardBy vm_fitMany vm_fitFirst vm_fitBeats vm_listenLeaves qm_there vm_metAt vm_metIn qm_wins vm_nightHoles vm_nightFirst vm_nightMud vm_nightSlips vm_drawnNow 1024 5 5 h_vm_taped h_vm_at h_vm_value (by decide) (by decide) H.size) (cwV 3 hts gX12_plays_X12_isPlay rfl rfl rfl (by decide +kernel) ⟨Nat.le_of_ble_eq_true rfl, Nat.le_of_ble_eq_true rfl⟩) (ct_preV (T := ct_T cI cJ cB cZ cO) (ci := 12) (q0 := 2) hE hH hP hD hS hA [2, 0] (by decide) rfl rfl rfl) rfl rfl hl.1 rfl (lv_room (Nat.le_of_ble_eq_true rfl)) dX12_plays_45 ⟨Nat.le_of_ble_eq_true rfl, Nat.le_of_ble_eq_true rfl⟩) hP hD hS hA [2, 0] [1, 3] rfl rfl (by decide) (by decide) (fun r1210 u H locs hw hP hD hS => ?_)
            obtain ⟨hP, hD⟩ : ct_B D A H [(qm_lines, .inl (cI, 5, .inl (fm_lines))), (qm_wins, .inl (cI, 24576, .inl (g1161))), mo qm 0 qm_width qm_many qm_cells qm_moved qm_tape vm_taped vm_at vm_token vm_place vm_value vm_word vm_bad vm_badPlace vm_fault vm_faultPlace qm_lines qm_has qm_round qm_meets qm_stumble qm_isMud qm_cell qm_tune qm_change qm_isKept qm_steps qm_places qm_danced vm_runMost vm_runBegins qm_heardBy vm_fitMany vm_fitFirst vm_fitBeats vm_listenLeaves qm_there vm_metAt vm_metIn qm_wins vm_nightHoles vm_nightFirst vm_nightMud vm_nightSlips vm_drawnNow, (qm_meets, .inl (cI, 30, .inl (fm_meets)))] := ⟨hP, hD⟩
            have hz := hw
            clear hw
            rcases hz with ⟨hz, hz2⟩ | ⟨hz, hz2⟩
            · subst hz
              have hz_1211 : (pl (1024 : Int32) (5 : Int32)) := hz2
              refine lv_if_eq (tgt := 68) hx hb dX12_plays_48 (by decide) (fun hc => absurd hc (by decide)) (fun _ => ?_)
              refine lv_aload_n hx hb dX12_plays_51 rfl (lv_at hl 2 rfl) ?_
              refine lv_iload_n hx hb dX12_plays_52 rfl (lv_at hl 1 rfl) ?_
              refine lv_iconst (v := 1) hx hb dX12_plays_53 (by decide) ?_
              refine lv_iconst (v := 2) hx hb dX12_plays_54 (by decide) ?_
              refine lv_iload_n hx hb dX12_plays_55 rfl (lv_at hl 0 rfl) ?_
              refine lv_imul hx hb dX12_plays_56 ?_
              refine lv_topi (fun z1212 ez1212 => ?_)
              obtain rfl : z1212 = 10 := ez1212.trans (by decide)
              refine lv_ishl hx hb dX12_plays_57 ?_
              refine lv_topi (fun z1213 ez1213 => ?_)
              obtain rfl : z1213 = 1024 := ez1213.trans (by decide)
              refine lv_iadd hx hb dX12_plays_58 ?_
              refine lv_topi (fun z1214 ez1214 => ?_)
              obtain rfl : z1214 = 2048 := ez1214.trans (by decide)
              refine lv_iload_n hx hb dX12_plays_59 rfl (lv_at hl 0 rfl) ?_
              refine ct_calli (D := D) (wr := [(qm_lines, .inl (cI, 5, .inl (fm_lines)))]) (va_runV (As := [.int 2048, .int 5]) (rest := []) ⟨hx, hb, hml, hown, hts⟩ (c_X12_winsFrom l D G cI cJ cB cZ cO qm 0 qm_width qm_many qm_cells qm_moved qm_tape vm_taped vm_at vm_token vm_place vm_value vm_word vm_bad vm_badPlace vm_fault vm_faultPlace qm_lines qm_has qm_round qm_meets fm_meets qm_stumble qm_isMud qm_cell qm_tune qm_change qm_isKept qm_steps qm_places qm_danced vm_runMost vm_runBegins qm_heardBy vm_fitMany vm_fitFirst vm_fitBeats vm_listenLeaves qm_there vm_metAt vm_metIn qm_wins vm_nightHoles vm_nightFirst vm_nightMud vm_nightSlips vm_drawnNow h_vm_taped h_vm_at h_vm_value 12 g1161 2048 5 (by decide) (by unfold wn; decide +kernel) H.size) (cwV 2 hts gX12_plays_X12_winsFrom rfl rfl rfl (by decide +kernel) ⟨Nat.le_of_ble_eq_true rfl, Nat.le_of_ble_eq_true rfl⟩) (ct_preV (T := ct_T cI cJ cB cZ cO) (ci := 12) (q0 := 2) hE hH hP hD hS hA [2, 3, 1] (by decide) rfl rfl rfl) rfl rfl hl.1 rfl (lv_room (Nat.le_of_ble_eq_true rfl)) dX12_plays_60 ⟨Nat.le_of_ble_eq_true rfl, Nat.le_of_ble_eq_true rfl⟩) hP hD hS hA [2, 3, 1] [0] rfl rfl (by decide) (by decide) (fun r1215 u H locs hw hP hD hS => ?_)
              obtain ⟨g1216, rfl⟩ : ∃ z, z = u := ⟨_, rfl⟩
              obtain ⟨hP, hD⟩ : ct_B D A H [(qm_lines, .inl (cI, 5, .inl (fm_lines))), mo qm 0 qm_width qm_many qm_cells qm_moved qm_tape vm_taped vm_at vm_token vm_place vm_value vm_word vm_bad vm_badPlace vm_fault vm_faultPlace qm_lines qm_has qm_round qm_meets qm_stumble qm_isMud qm_cell qm_tune qm_change qm_isKept qm_steps qm_places qm_danced vm_runMost vm_runBegins qm_heardBy vm_fitMany vm_fitFirst vm_fitBeats vm_listenLeaves qm_there vm_metAt vm_metIn qm_wins vm_nightHoles vm_nightFirst vm_nightMud vm_nightSlips vm_drawnNow, (qm_meets, .inl (cI, 30, .inl (fm_meets))), (qm_wins, .inl (cI, 24576, .inl (g1216)))] := ⟨hP, hD⟩
              have hz := hw
              clear hw
              rcases hz with ⟨hz, hz2⟩ | ⟨hz, hz2⟩
              · subst hz
                refine lv_if_ne (tgt := 68) hx hb dX12_plays_63 (by decide) (fun _ => ?_) (fun hc => absurd hc (by decide))
                refine lv_iinc (v := 6) (lv' := [(3, .int 6), (2, .int 1024), (0, .ref qm), (1, .int 5)]) hx hb dX12_plays_68 hl (k := 0) rfl (by decide) (by decide) rfl (fun ls hl => ?_)
                refine lv_goto (tgt := 35) hx hb dX12_plays_71 (by decide) ?_
                have hk1217 : (6 : Int32).toInt = 6 := by decide
                obtain ⟨hP9, hD9⟩ : ct_B D A H [(qm_meets, .inl (cI, 30, .inl (fm_meets))), (qm_lines, .inl (cI, 5, .inl (fm_lines))), mo qm 0 qm_width qm_many qm_cells qm_moved qm_tape vm_taped vm_at vm_token vm_place vm_value vm_word vm_bad vm_badPlace vm_fault vm_faultPlace qm_lines qm_has qm_round qm_meets qm_stumble qm_isMud qm_cell qm_tune qm_change qm_isKept qm_steps qm_places qm_danced vm_runMost vm_runBegins qm_heardBy vm_fitMany vm_fitFirst vm_fitBeats vm_listenLeaves qm_there vm_metAt vm_metIn qm_wins vm_nightHoles vm_nightFirst vm_nightMud vm_nightSlips vm_drawnNow, (qm_wins, .inl (cI, 24576, .inl (g1216)))] := ⟨hP.sub [2, 0, 1, 3] rfl, hD.sub [2, 0, 1, 3] (by decide) rfl⟩
                exact ih1163 (g1216, (6 : Int32)) _ _ _ (show (6 - (6 : Int32).toInt).toNat < (6 - x1162.toInt).toNat by omega) ⟨(show 0 ≤ (6 : Int32).toInt ∧ (6 : Int32).toInt ≤ 6 by decide), ⟨hP9, hD9⟩, hS, lv_sub hl [0, 1, 2, 3] rfl⟩
              · subst hz
                refine lv_if_ne (tgt := 68) hx hb dX12_plays_63 (by decide) (fun hc => absurd hc (by decide)) (fun _ => ?_)
                refine lv_iload_n hx hb dX12_plays_66 rfl (lv_at hl 0 rfl) ?_
                obtain ⟨hP9, hD9⟩ : ct_B D A H [mo qm 0 qm_width qm_many qm_cells qm_moved qm_tape vm_taped vm_at vm_token vm_place vm_value vm_word vm_bad vm_badPlace vm_fault vm_faultPlace qm_lines qm_has qm_round qm_meets qm_stumble qm_isMud qm_cell qm_tune qm_change qm_isKept qm_steps qm_places qm_danced vm_runMost vm_runBegins qm_heardBy vm_fitMany vm_fitFirst vm_fitBeats vm_listenLeaves qm_there vm_metAt vm_metIn qm_wins vm_nightHoles vm_nightFirst vm_nightMud vm_nightSlips vm_drawnNow, (qm_lines, .inl (cI, 5, .inl (fm_lines))), (qm_meets, .inl (cI, 30, .inl (fm_meets))), (qm_wins, .inl (cI, 24576, .inl (g1216)))] := ⟨hP.sub [1, 0, 2, 3] rfl, hD.sub [1, 0, 2, 3] (by decide) rfl⟩
                exact W.iret (v := 5) hx hb hr (fun t ht hW => ⟨⟨5, ((0 : Int32), g1216), rfl, (show (-2) ≤ (5 : Int32).toInt ∧ (5 : Int32).toInt ≤ 5 by decide), by rw [ht]; exact hP9, hD9⟩, hS.F ht⟩) hS.2.2 dX12_plays_67
            · subst hz
              refine lv_if_eq (tgt := 68) hx hb dX12_plays_48 (by decide) (fun _ => ?_) (fun hc => absurd hc (by decide))
              refine lv_iinc (v := 6) (lv' := [(3, .int 6), (2, .int 1024), (0, .ref qm), (1, .int 5)]) hx hb dX12_plays_68 hl (k := 0) rfl (by decide) (by decide) rfl (fun ls hl => ?_)
              refine lv_goto (tgt := 35) hx hb dX12_plays_71 (by decide) ?_
              have hk1218 : (6 : Int32).toInt = 6 := by decide
              obtain ⟨hP9, hD9⟩ : ct_B D A H [(qm_meets, .inl (cI, 30, .inl (fm_meets))), (qm_lines, .inl (cI, 5, .inl (fm_lines))), mo qm 0 qm_width qm_many qm_cells qm_moved qm_tape vm_taped vm_at vm_token vm_place vm_value vm_word vm_bad vm_badPlace vm_fault vm_faultPlace qm_lines qm_has qm_round qm_meets qm_stumble qm_isMud qm_cell qm_tune qm_change qm_isKept qm_steps qm_places qm_danced vm_runMost vm_runBegins qm_heardBy vm_fitMany vm_fitFirst vm_fitBeats vm_listenLeaves qm_there vm_metAt vm_metIn qm_wins vm_nightHoles vm_nightFirst vm_nightMud vm_nightSlips vm_drawnNow, (qm_wins, .inl (cI, 24576, .inl (g1161)))] := ⟨hP.sub [3, 0, 2, 1] rfl, hD.sub [3, 0, 2, 1] (by decide) rfl⟩
              exact ih1163 (g1161, (6 : Int32)) _ _ _ (show (6 - (6 : Int32).toInt).toNat < (6 - x1162.toInt).toNat by omega) ⟨(show 0 ≤ (6 : Int32).toInt ∧ (6 : Int32).toInt ≤ 6 by decide), ⟨hP9, hD9⟩, hS, lv_sub hl [0, 1, 2, 3] rfl⟩
    · subst hz
      have hz_1219 : ¬ (0 ≤ z2.toInt ∧ z2.toInt ≤ 5) := hz2
      refine lv_if_ne (tgt := 23) hx hb dX12_plays_17 (by decide) (fun hc => absurd hc (by decide)) (fun _ => ?_)
      refine lv_bipush (v := (-2)) hx hb dX12_plays_20 (by decide) ?_
      obtain ⟨hP9, hD9⟩ : ct_B D A H [mo qm 0 qm_width qm_many qm_cells qm_moved qm_tape vm_taped vm_at vm_token vm_place vm_value vm_word vm_bad vm_badPlace vm_fault vm_faultPlace qm_lines qm_has qm_round qm_meets qm_stumble qm_isMud qm_cell qm_tune qm_change qm_isKept qm_steps qm_places qm_danced vm_runMost vm_runBegins qm_heardBy vm_fitMany vm_fitFirst vm_fitBeats vm_listenLeaves qm_there vm_metAt vm_metIn qm_wins vm_nightHoles vm_nightFirst vm_nightMud vm_nightSlips vm_drawnNow, (qm_lines, .inl (cI, 5, .inl (fm_lines))), (qm_meets, .inl (cI, 30, .inl (fm_meets))), (qm_wins, .inl (cI, 24576, .inl (fm_wins)))] := ⟨hP.sub [2, 3, 0, 1] rfl, hD.sub [2, 3, 0, 1] (by decide) rfl⟩
      exact W.iret (v := (-2)) hx hb hr (fun t ht hW => ⟨⟨(-2), ((0 : Int32), fm_wins), rfl, (show (-2) ≤ (-2 : Int32).toInt ∧ (-2 : Int32).toInt ≤ 5 by decide), by rw [ht]; exact hP9, hD9⟩, hS.F ht⟩) hS.2.2 dX12_plays_22
  · subst hz
    refine lv_if_eq (tgt := 20) hx hb dX12_plays_9 (by decide) (fun _ => ?_) (fun hc => absurd hc (by decide))
    refine lv_bipush (v := (-2)) hx hb dX12_plays_20 (by decide) ?_
    obtain ⟨hP9, hD9⟩ : ct_B D A H [mo qm 0 qm_width qm_many qm_cells qm_moved qm_tape vm_taped vm_at vm_token vm_place vm_value vm_word vm_bad vm_badPlace vm_fault vm_faultPlace qm_lines qm_has qm_round qm_meets qm_stumble qm_isMud qm_cell qm_tune qm_change qm_isKept qm_steps qm_places qm_danced vm_runMost vm_runBegins qm_heardBy vm_fitMany vm_fitFirst vm_fitBeats vm_listenLeaves qm_there vm_metAt vm_metIn qm_wins vm_nightHoles vm_nightFirst vm_nightMud vm_nightSlips vm_drawnNow, (qm_lines, .inl (cI, 5, .inl (fm_lines))), (qm_meets, .inl (cI, 30, .inl (fm_meets))), (qm_wins, .inl (cI, 24576, .inl (fm_wins)))] := ⟨hP.sub [2, 3, 0, 1] rfl, hD.sub [2, 3, 0, 1] (by decide) rfl⟩
    exact W.iret (v := (-2)) hx hb hr (fun t ht hW => ⟨⟨(-2), ((0 : Int32), fm_wins), rfl, (show (-2) ≤ (-2 : Int32).toInt ∧ (-2 : Int32).toInt ≤ 5 by decide), by rw [ht]; exact hP9, hD9⟩, hS.F ht⟩) hS.2.2 dX12_plays_22
