abbrev w_c_X12_plays (cI cJ cB cZ cO : ClassId) (qm : Nat) (vm_thrown : Int32) (qm_width : Nat) (qm_many : Nat) (qm_cells : Nat) (qm_moved : Nat) (qm_tape : Nat) (vm_taped : Int32) (vm_at : Int32) (vm_token : Int32) (vm_place : Int32) (vm_value : Int32) (vm_word : Int64) (vm_bad : Int32) (vm_badPlace : Int32) (vm_fault : Int32) (vm_faultPlace : Int32) (qm_lines : Nat) (fm_lines : Nat → Int32) (qm_has : Nat) (qm_round : Nat) (qm_meets : Nat) (fm_meets : Nat → Int32) (qm_stumble : Nat) (qm_isMud : Nat) (qm_cell : Nat) (qm_tune : Nat) (qm_change : Nat) (qm_isKept : Nat) (qm_steps : Nat) (qm_places : Nat) (qm_danced : Nat) (vm_runMost : Int32) (vm_runBegins : Int32) (qm_heardBy : Nat) (vm_fitMany : Int32) (vm_fitFirst : Int32) (vm_fitBeats : Int64) (vm_listenLeaves : Int32) (qm_there : Nat) (vm_metAt : Int32) (vm_metIn : Int32) (qm_wins : Nat) (fm_wins : Nat → Int32) (vm_nightHoles : Int32) (vm_nightFirst : Int32) (vm_nightMud : Int32) (vm_nightSlips : Int32) (vm_drawnNow : Int64) : va_W := [mo qm vm_thrown qm_width qm_many qm_cells qm_moved qm_tape vm_taped vm_at vm_token vm_place vm_value vm_word vm_bad vm_badPlace vm_fault vm_faultPlace qm_lines qm_has qm_round qm_meets qm_stumble qm_isMud qm_cell qm_tune qm_change qm_isKept qm_steps qm_places qm_danced vm_runMost vm_runBegins qm_heardBy vm_fitMany vm_fitFirst vm_fitBeats vm_listenLeaves qm_there vm_metAt vm_metIn qm_wins vm_nightHoles vm_nightFirst vm_nightMud vm_nightSlips vm_drawnNow, (qm_lines, .inl (cI, 5, .inl (fm_lines))), (qm_meets, .inl (cI, 30, .inl (fm_meets))), (qm_wins, .inl (cI, 24576, .inl (fm_wins)))]
set_option maxHeartbeats 4000000 in
set_option maxRecDepth 100000 in
/-- X12 plays -/
theorem c_X12_plays (l : Launch) (D : va_G) (G : ct_G) (cI cJ cB cZ cO : ClassId) (qm : Nat) (vm_thrown : Int32) (qm_width : Nat) (qm_many : Nat) (qm_cells : Nat) (qm_moved : Nat) (qm_tape : Nat) (vm_taped : Int32) (vm_at : Int32) (vm_token : Int32) (vm_place : Int32) (vm_value : Int32) (vm_word : Int64) (vm_bad : Int32) (vm_badPlace : Int32) (vm_fault : Int32) (vm_faultPlace : Int32) (qm_lines : Nat) (fm_lines : Nat → Int32) (qm_has : Nat) (qm_round : Nat) (qm_meets : Nat) (fm_meets : Nat → Int32) (qm_stumble : Nat) (qm_isMud : Nat) (qm_cell : Nat) (qm_tune : Nat) (qm_change : Nat) (qm_isKept : Nat) (qm_steps : Nat) (qm_places : Nat) (qm_danced : Nat) (vm_runMost : Int32) (vm_runBegins : Int32) (qm_heardBy : Nat) (vm_fitMany : Int32) (vm_fitFirst : Int32) (vm_fitBeats : Int64) (vm_listenLeaves : Int32) (qm_there : Nat) (vm_metAt : Int32) (vm_metIn : Int32) (qm_wins : Nat) (fm_wins : Nat → Int32) (vm_nightHoles : Int32) (vm_nightFirst : Int32) (vm_nightMud : Int32) (vm_nightSlips : Int32) (vm_drawnNow : Int64) (a1 : Int32) (h_vm_taped : 0 ≤ vm_taped.toInt ∧ vm_taped.toInt ≤ 1200) (h_vm_at : 0 ≤ vm_at.toInt ∧ vm_at.toInt ≤ 1200) (h_vm_value : 0 ≤ vm_value.toInt ∧ vm_value.toInt ≤ 1000009) (sz : Nat) : Met l yX12_plays wsX12_plays ({ frames := 15, cells := 0, slots := 0, locals := 356 }) (va_Pc [.ref qm, .int a1] (ct_P D (ct_T cI cJ cB cZ cO) G (w_c_X12_plays cI cJ cB cZ cO qm vm_thrown qm_width qm_many qm_cells qm_moved qm_tape vm_taped vm_at vm_token vm_place vm_value vm_word vm_bad vm_badPlace vm_fault vm_faultPlace qm_lines fm_lines qm_has qm_round qm_meets fm_meets qm_stumble qm_isMud qm_cell qm_tune qm_change qm_isKept qm_steps qm_places qm_danced vm_runMost vm_runBegins qm_heardBy vm_fitMany vm_fitFirst vm_fitBeats vm_listenLeaves qm_there vm_metAt vm_metIn qm_wins fm_wins vm_nightHoles vm_nightFirst vm_nightMud vm_nightSlips vm_drawnNow) sz)) (va_Qi (fun (rz : Int32) (u : Int32 × (Nat → Int32)) => ((-2) ≤ rz.toInt ∧ rz.toInt ≤ 5)) (fun (u : Int32 × (Nat → Int32)) t => ct_Q D (va_A (w_c_X12_plays cI cJ cB cZ cO qm vm_thrown qm_width qm_many qm_cells qm_moved qm_tape vm_taped vm_at vm_token vm_place vm_value vm_word vm_bad vm_badPlace vm_fault vm_faultPlace qm_lines fm_lines qm_has qm_round qm_meets fm_meets qm_stumble qm_isMud qm_cell qm_tune qm_change qm_isKept qm_steps qm_places qm_danced vm_runMost vm_runBegins qm_heardBy vm_fitMany vm_fitFirst vm_fitBeats vm_listenLeaves qm_there vm_metAt vm_metIn qm_wins fm_wins vm_nightHoles vm_nightFirst vm_nightMud vm_nightSlips vm_drawnNow) sz) [mo qm u.1 qm_width qm_many qm_cells qm_moved qm_tape vm_taped vm_at vm_token vm_place vm_value vm_word vm_bad vm_badPlace vm_fault vm_faultPlace qm_lines qm_has qm_round qm_meets qm_stumble qm_isMud qm_cell qm_tune qm_change qm_isKept qm_steps qm_places qm_danced vm_runMost vm_runBegins qm_heardBy vm_fitMany vm_fitFirst vm_fitBeats vm_listenLeaves qm_there vm_metAt vm_metIn qm_wins vm_nightHoles vm_nightFirst vm_nightMud vm_nightSlips vm_drawnNow, (qm_lines, .inl (cI, 5, .inl (fm_lines))), (qm_meets, .inl (cI, 30, .inl (fm_meets))), (qm_wins, .inl (cI, 24576, .inl (u.2)))] t) (va_A (w_c_X12_plays cI cJ cB cZ cO qm vm_thrown qm_width qm_many qm_cells qm_moved qm_tape vm_taped vm_at vm_token vm_place vm_value vm_word vm_bad vm_badPlace vm_fault vm_faultPlace qm_lines fm_lines qm_has qm_round qm_meets fm_meets qm_stumble qm_isMud qm_cell qm_tune qm_change qm_isKept qm_steps qm_places qm_danced vm_runMost vm_runBegins qm_heardBy vm_fitMany vm_fitFirst vm_fitBeats vm_listenLeaves qm_there vm_metAt vm_metIn qm_wins fm_wins vm_nightHoles vm_nightFirst vm_nightMud vm_nightSlips vm_drawnNow) sz)) 0 0 (va_A (w_c_X12_plays cI cJ cB cZ cO qm vm_thrown qm_width qm_many qm_cells qm_moved qm_tape vm_taped vm_at vm_token vm_place vm_value vm_word vm_bad vm_badPlace vm_fault vm_faultPlace qm_lines fm_lines qm_has qm_round qm_meets fm_meets qm_stumble qm_isMud qm_cell qm_tune qm_change qm_isKept qm_steps qm_places qm_danced vm_runMost vm_runBegins qm_heardBy vm_fitMany vm_fitFirst vm_fitBeats vm_listenLeaves qm_there vm_metAt vm_metIn qm_wins fm_wins vm_nightHoles vm_nightFirst vm_nightMud vm_nightSlips vm_drawnNow) sz) := by
  refine Met.ofW (cc := cX12_plays) (maxL := 4) (ret := (some .int)) (by decide) rfl ?_
  intro p e s m args below meth c s₁ B hml hv
  obtain ⟨rfl, hsz, hP, hE, hD0, hH⟩ := hv
  have hx := B.exec
  have hb := B.bytes
  have hr := B.returns
  have hts := atoms_spec (ws := wsX12_plays) B.pre
  have hown : s.vm.findClass RX12 = some m.cls := findClass_of_methodNamed B.named
  have hlocks := B.notSynchronized
  have hK := hE.1
  have hi12 : ∀ w ∈ u_ws RX12 TX12 45, w ∈ wsX12_plays := fun w h => List.mem_cons_of_mem _ (List.mem_append_right _ h)
  subst hsz
  have hD := hD0.self (sz := s.heap.size)
  generalize hAe : va_A (w_c_X12_plays cI cJ cB cZ cO qm vm_thrown qm_width qm_many qm_cells qm_moved qm_tape vm_taped vm_at vm_token vm_place vm_value vm_word vm_bad vm_badPlace vm_fault vm_faultPlace qm_lines fm_lines qm_has qm_round qm_meets fm_meets qm_stumble qm_isMud qm_cell qm_tune qm_change qm_isKept qm_steps qm_places qm_danced vm_runMost vm_runBegins qm_heardBy vm_fitMany vm_fitFirst vm_fitBeats vm_listenLeaves qm_there vm_metAt vm_metIn qm_wins fm_wins vm_nightHoles vm_nightFirst vm_nightMud vm_nightSlips vm_drawnNow) s.heap.size = A at hD hH ⊢
  have hA : ∀ q : Nat, s.heap.size ≤ q → A q := fun q h => by rw [← hAe]; exact Or.inr h
  have hS : va_S A s.heap s.heap [] := va_S.rf
  obtain ⟨hP, hD⟩ : ct_B D A s.heap [mo qm vm_thrown qm_width qm_many qm_cells qm_moved qm_tape vm_taped vm_at vm_token vm_place vm_value vm_word vm_bad vm_badPlace vm_fault vm_faultPlace qm_lines qm_has qm_round qm_meets qm_stumble qm_isMud qm_cell qm_tune qm_change qm_isKept qm_steps qm_places qm_danced vm_runMost vm_runBegins qm_heardBy vm_fitMany vm_fitFirst vm_fitBeats vm_listenLeaves qm_there vm_metAt vm_metIn qm_wins vm_nightHoles vm_nightFirst vm_nightMud vm_nightSlips vm_drawnNow, (qm_lines, .inl (cI, 5, .inl (fm_lines))), (qm_meets, .inl (cI, 30, .inl (fm_meets))), (qm_wins, .inl (cI, 24576, .inl (fm_wins)))] := ⟨hP, hD⟩
  have hl := lv_entry ([.ref qm, .int a1]) (n := 4) (Nat.le_of_ble_eq_true rfl)
  rw [lg_entry_eq]
  generalize (lg_sl ([.ref qm, .int a1]) ++ List.replicate (4 - (lg_sl ([.ref qm, .int a1])).length) Slot.unset).toArray = ls at hl ⊢
  have hl : lv_has ls 4 [(0, .ref qm), (1, .int a1)] := hl
  obtain ⟨H, hHe⟩ : ∃ H : Heap, H = s.heap := ⟨_, rfl⟩
  rw [← hHe] at hP
  have hS : va_S A s.heap H [] := by rw [hHe]; exact va_S.rf
  refine ct_start hHe ?_
  refine lv_aload_n hx hb dX12_plays_0 rfl (lv_at hl 0 rfl) ?_
  refine lv_iconst (v := 0) hx hb dX12_plays_1 (by decide) ?_
  refine va_put (D := D) (ci := 12) (v := .int 0) (ty := .int) (C := RX12) (T := TX12) (N := 45) hx hb hts hi12 tyX12 tyX12_ok nmX12 hown hK hP hD hS 0 rfl rfl 0 (by decide) (hts (.fieldLink RX12 80 "OverHillModel" "thrown" "I") (by decide +kernel)) (fun _ h9 => h9) rfl (by decide +kernel) rfl rfl (Nat.le_of_ble_eq_true rfl) dX12_plays_2 (fun H locs hP hD hS => ?_)
  obtain ⟨hP, hD⟩ : ct_B D A H [mo qm 0 qm_width qm_many qm_cells qm_moved qm_tape vm_taped vm_at vm_token vm_place vm_value vm_word vm_bad vm_badPlace vm_fault vm_faultPlace qm_lines qm_has qm_round qm_meets qm_stumble qm_isMud qm_cell qm_tune qm_change qm_isKept qm_steps qm_places qm_danced vm_runMost vm_runBegins qm_heardBy vm_fitMany vm_fitFirst vm_fitBeats vm_listenLeaves qm_there vm_metAt vm_metIn qm_wins vm_nightHoles vm_nightFirst vm_nightMud vm_nightSlips vm_drawnNow, (qm_lines, .inl (cI, 5, .inl (fm_lines))), (qm_meets, .inl (cI, 30, .inl (fm_meets))), (qm_wins, .inl (cI, 24576, .inl (fm_wins)))] := ⟨hP, hD⟩
  refine lv_aload_n hx hb dX12_plays_5 rfl (lv_at hl 0 rfl) ?_
  refine ct_calli (D := D) (wr := [(qm_meets, .inl (cI, 30, .inl (fm_meets))), (qm_wins, .inl (cI, 24576, .inl (fm_wins)))]) (va_runV (As := []) (rest := []) ⟨hx, hb, hml, hown, hts⟩ (c_X12_isDance l D G cI cJ cB cZ cO qm 0 qm_width qm_many qm_cells qm_moved qm_tape vm_taped vm_at vm_token vm_place vm_value vm_word vm_bad vm_badPlace vm_fault vm_faultPlace qm_lines fm_lines qm_has qm_round qm_meets qm_stumble qm_isMud qm_cell qm_tune qm_change qm_isKept qm_steps qm_places qm_danced vm_runMost vm_runBegins qm_heardBy vm_fitMany vm_fitFirst vm_fitBeats vm_listenLeaves qm_there vm_metAt vm_metIn qm_wins vm_nightHoles vm_nightFirst vm_nightMud vm_nightSlips vm_drawnNow h_vm_taped h_vm_at h_vm_value H.size) (cwV 0 hts gX12_plays_X12_isDance rfl rfl rfl (by decide +kernel) ⟨Nat.le_of_ble_eq_true rfl, Nat.le_of_ble_eq_true rfl⟩) (ct_preV (T := ct_T cI cJ cB cZ cO) (ci := 12) (q0 := 0) hE hH hP hD hS hA [0, 1] (by decide) rfl rfl rfl) rfl rfl hl.1 rfl (lv_room (Nat.le_of_ble_eq_true rfl)) dX12_plays_6 ⟨Nat.le_of_ble_eq_true rfl, Nat.le_of_ble_eq_true rfl⟩) hP hD hS hA [0, 1] [2, 3] rfl rfl (by decide) (by decide) (fun r1 u H locs hw hP hD hS => ?_)
  obtain ⟨hP, hD⟩ : ct_B D A H [(qm_meets, .inl (cI, 30, .inl (fm_meets))), (qm_wins, .inl (cI, 24576, .inl (fm_wins))), mo qm 0 qm_width qm_many qm_cells qm_moved qm_tape vm_taped vm_at vm_token vm_place vm_value vm_word vm_bad vm_badPlace vm_fault vm_faultPlace qm_lines qm_has qm_round qm_meets qm_stumble qm_isMud qm_cell qm_tune qm_change qm_isKept qm_steps qm_places qm_danced vm_runMost vm_runBegins qm_heardBy vm_fitMany vm_fitFirst vm_fitBeats vm_listenLeaves qm_there vm_metAt vm_metIn qm_wins vm_nightHoles vm_nightFirst vm_nightMud vm_nightSlips vm_drawnNow, (qm_lines, .inl (cI, 5, .inl (fm_lines)))] := ⟨hP, hD⟩
  have hz := hw
  rcases hz with ⟨hz, hz2⟩ | ⟨hz, hz2⟩
  · subst hz
    refine lv_if_eq (tgt := 20) hx hb dX12_plays_9 (by decide) (fun hc => absurd hc (by decide)) (fun _ => ?_)
    refine lv_iload_n hx hb dX12_plays_12 rfl (lv_at hl 1 rfl) ?_
    refine lv_i2l (v := _) hx hb dX12_plays_13 rfl ?_
    refine lv_topl (fun z2 ez2 => ?_)
    have fz2 : z2.toInt = a1.toInt := by rw [ez2]; exact tl_i rfl
    refine ct_calli (D := D) (wr := [(qm_meets, .inl (cI, 30, .inl (fm_meets))), (qm_wins, .inl (cI, 24576, .inl (fm_wins))), mo qm 0 qm_width qm_many qm_cells qm_moved qm_tape vm_taped vm_at vm_token vm_place vm_value vm_word vm_bad vm_badPlace vm_fault vm_faultPlace qm_lines qm_has qm_round qm_meets qm_stumble qm_isMud qm_cell qm_tune qm_change qm_isKept qm_steps qm_places qm_danced vm_runMost vm_runBegins qm_heardBy vm_fitMany vm_fitFirst vm_fitBeats vm_listenLeaves qm_there vm_metAt vm_metIn qm_wins vm_nightHoles vm_nightFirst vm_nightMud vm_nightSlips vm_drawnNow, (qm_lines, .inl (cI, 5, .inl (fm_lines)))]) (va_runS (As := [.long z2]) (rest := []) ⟨hx, hb, hml, hown, hts⟩ (c_X12_isStep l D G cI cJ cB cZ cO z2  H.size) (va_cwS 1 hts gX12_plays_X12_isStep rfl rfl rfl (by decide +kernel) ⟨Nat.le_of_ble_eq_true rfl, Nat.le_of_ble_eq_true rfl⟩) (ct_preS (T := ct_T cI cJ cB cZ cO) hE hH hP hD hS hA [] (by decide) rfl) rfl rfl hl.1 rfl (lv_room (Nat.le_of_ble_eq_true rfl)) dX12_plays_14 ⟨Nat.le_of_ble_eq_true rfl, Nat.le_of_ble_eq_true rfl⟩) hP hD hS hA [] [0, 1, 2, 3] rfl rfl (by decide) (by decide) (fun r3 u H locs hw hP hD hS => ?_)
    obtain ⟨hP, hD⟩ : ct_B D A H [(qm_meets, .inl (cI, 30, .inl (fm_meets))), (qm_wins, .inl (cI, 24576, .inl (fm_wins))), mo qm 0 qm_width qm_many qm_cells qm_moved qm_tape vm_taped vm_at vm_token vm_place vm_value vm_word vm_bad vm_badPlace vm_fault vm_faultPlace qm_lines qm_has qm_round qm_meets qm_stumble qm_isMud qm_cell qm_tune qm_change qm_isKept qm_steps qm_places qm_danced vm_runMost vm_runBegins qm_heardBy vm_fitMany vm_fitFirst vm_fitBeats vm_listenLeaves qm_there vm_metAt vm_metIn qm_wins vm_nightHoles vm_nightFirst vm_nightMud vm_nightSlips vm_drawnNow, (qm_lines, .inl (cI, 5, .inl (fm_lines)))] := ⟨hP, hD⟩
    have hz := hw
    rcases hz with ⟨hz, hz2⟩ | ⟨hz, hz2⟩
    · subst hz
      have hz_4 : (0 ≤ z2.toInt ∧ z2.toInt ≤ 5) := hz2
      refine lv_if_ne (tgt := 23) hx hb dX12_plays_17 (by decide) (fun _ => ?_) (fun hc => absurd hc (by decide))
      refine lv_aload_n hx hb dX12_plays_23 rfl (lv_at hl 0 rfl) ?_
      refine ct_callv (D := D) (wr := [(qm_meets, .inl (cI, 30, .inl (fm_meets))), (qm_lines, .inl (cI, 5, .inl (fm_lines)))]) (va_runV (As := []) (rest := []) ⟨hx, hb, hml, hown, hts⟩ (c_X12_laysGame l D G cI cJ cB cZ cO qm 0 qm_width qm_many qm_cells qm_moved qm_tape vm_taped vm_at vm_token vm_place vm_value vm_word vm_bad vm_badPlace vm_fault vm_faultPlace qm_lines qm_has qm_round qm_meets qm_stumble qm_isMud qm_cell qm_tune qm_change qm_isKept qm_steps qm_places qm_danced vm_runMost vm_runBegins qm_heardBy vm_fitMany vm_fitFirst vm_fitBeats vm_listenLeaves qm_there vm_metAt vm_metIn qm_wins fm_wins vm_nightHoles vm_nightFirst vm_nightMud vm_nightSlips vm_drawnNow h_vm_taped h_vm_at h_vm_value H.size) (cwV 0 hts gX12_plays_X12_laysGame rfl rfl rfl (by decide +kernel) ⟨Nat.le_of_ble_eq_true rfl, Nat.le_of_ble_eq_true rfl⟩) (ct_preV (T := ct_T cI cJ cB cZ cO) (ci := 12) (q0 := 2) hE hH hP hD hS hA [2, 1] (by decide) rfl rfl rfl) rfl rfl hl.1 rfl (lv_room (Nat.le_of_ble_eq_true rfl)) dX12_plays_24 ⟨Nat.le_of_ble_eq_true rfl, Nat.le_of_ble_eq_true rfl⟩) hP hD hS hA [2, 1] [0, 3] rfl rfl (by decide) (by decide) (fun u H locs hw hP hD hS => ?_)
      obtain ⟨g5, rfl⟩ : ∃ z, z = u := ⟨_, rfl⟩
      obtain ⟨hP, hD⟩ : ct_B D A H [(qm_meets, .inl (cI, 30, .inl (fm_meets))), (qm_lines, .inl (cI, 5, .inl (fm_lines))), mo qm 0 qm_width qm_many qm_cells qm_moved qm_tape vm_taped vm_at vm_token vm_place vm_value vm_word vm_bad vm_badPlace vm_fault vm_faultPlace qm_lines qm_has qm_round qm_meets qm_stumble qm_isMud qm_cell qm_tune qm_change qm_isKept qm_steps qm_places qm_danced vm_runMost vm_runBegins qm_heardBy vm_fitMany vm_fitFirst vm_fitBeats vm_listenLeaves qm_there vm_metAt vm_metIn qm_wins vm_nightHoles vm_nightFirst vm_nightMud vm_nightSlips vm_drawnNow, (qm_wins, .inl (cI, 24576, .inl (g5)))] := ⟨hP, hD⟩
      rcases (show a1.toInt = 0 ∨ a1.toInt = 1 ∨ a1.toInt = 2 ∨ a1.toInt = 3 ∨ a1.toInt = 4 ∨ a1.toInt = 5 by omega) with hj | hj | hj | hj | hj | hj
      · have hj2 : a1 = 0 := tq_of hj (by decide)
        have hl : lv_has ls 4 [(0, .ref qm), (1, .int 0)] := by have h9 := hl; rw [hj2] at h9; exact h9
        refine lv_iconst (v := 1) hx hb dX12_plays_27 (by decide) ?_
        refine lv_iconst (v := 2) hx hb dX12_plays_28 (by decide) ?_
        refine lv_iload_n hx hb dX12_plays_29 rfl (lv_at hl 1 rfl) ?_
        refine lv_imul hx hb dX12_plays_30 ?_
        refine lv_topi (fun z6 ez6 => ?_)
        obtain rfl : z6 = 0 := ez6.trans (by decide)
        refine lv_ishl hx hb dX12_plays_31 ?_
        refine lv_topi (fun z7 ez7 => ?_)
        obtain rfl : z7 = 1 := ez7.trans (by decide)
        refine lv_istore_n (lv' := [(2, .int 1), (0, .ref qm), (1, .int 0)]) hx hb dX12_plays_32 rfl hl (by decide) rfl (fun ls hl => ?_)
        refine lv_iconst (v := 0) hx hb dX12_plays_33 (by decide) ?_
        refine lv_istore_n (lv' := [(3, .int 0), (2, .int 1), (0, .ref qm), (1, .int 0)]) hx hb dX12_plays_34 rfl hl (by decide) rfl (fun ls hl => ?_)
        refine ct_loop (X := (Nat → Int32) × Int32) (fun x => (6 - x.2.toInt).toNat) (fun x H locs ls => ((0 ≤ x.2.toInt ∧ x.2.toInt ≤ 6)) ∧ ct_B D A H [(qm_meets, .inl (cI, 30, .inl (fm_meets))), (qm_lines, .inl (cI, 5, .inl (fm_lines))), mo qm 0 qm_width qm_many qm_cells qm_moved qm_tape vm_taped vm_at vm_token vm_place vm_value vm_word vm_bad vm_badPlace vm_fault vm_faultPlace qm_lines qm_has qm_round qm_meets qm_stumble qm_isMud qm_cell qm_tune qm_change qm_isKept qm_steps qm_places qm_danced vm_runMost vm_runBegins qm_heardBy vm_fitMany vm_fitFirst vm_fitBeats vm_listenLeaves qm_there vm_metAt vm_metIn qm_wins vm_nightHoles vm_nightFirst vm_nightMud vm_nightSlips vm_drawnNow, (qm_wins, .inl (cI, 24576, .inl (x.1)))] ∧ va_S A s.heap H locs ∧ lv_has ls 4 [(3, .int x.2), (2, .int 1), (0, .ref qm), (1, .int 0)]) 35 (g5, (0 : Int32)) ⟨(show 0 ≤ (0 : Int32).toInt ∧ (0 : Int32).toInt ≤ 6 by decide), ⟨hP, hD⟩, hS, lv_sub hl [0, 1, 2, 3] rfl⟩ (fun x ih152 H locs ls hI => ?_)
        obtain ⟨g150, x151⟩ := x
        obtain ⟨h_x151, ⟨hP, hD⟩, hS, hl⟩ := hI
        have h_x151 : (0 ≤ x151.toInt ∧ x151.toInt ≤ 6) := h_x151
        obtain ⟨hP, hD⟩ : ct_B D A H [(qm_meets, .inl (cI, 30, .inl (fm_meets))), (qm_lines, .inl (cI, 5, .inl (fm_lines))), mo qm 0 qm_width qm_many qm_cells qm_moved qm_tape vm_taped vm_at vm_token vm_place vm_value vm_word vm_bad vm_badPlace vm_fault vm_faultPlace qm_lines qm_has qm_round qm_meets qm_stumble qm_isMud qm_cell qm_tune qm_change qm_isKept qm_steps qm_places qm_danced vm_runMost vm_runBegins qm_heardBy vm_fitMany vm_fitFirst vm_fitBeats vm_listenLeaves qm_there vm_metAt vm_metIn qm_wins vm_nightHoles vm_nightFirst vm_nightMud vm_nightSlips vm_drawnNow, (qm_wins, .inl (cI, 24576, .inl (g150)))] := ⟨hP, hD⟩
        have hl : lv_has ls 4 [(3, .int x151), (2, .int 1), (0, .ref qm), (1, .int 0)] := hl
        refine lv_iload_n hx hb dX12_plays_35 rfl (lv_at hl 0 rfl) ?_
        refine lv_bipush (v := 6) hx hb dX12_plays_36 (by decide) ?_
        refine lv_icmp_ge (tgt := 74) hx hb dX12_plays_38 (by decide) (fun hc => ?_) (fun hc => ?_)
        · have hq153 : 6 ≤ x151.toInt := tq_le (by decide) rfl hc
          refine lv_iconst (v := (-1)) hx hb dX12_plays_74 (by decide) ?_
          obtain ⟨hP9, hD9⟩ : ct_B D A H [mo qm 0 qm_width qm_many qm_cells qm_moved qm_tape vm_taped vm_at vm_token vm_place vm_value vm_word vm_bad vm_badPlace vm_fault vm_faultPlace qm_lines qm_has qm_round qm_meets qm_stumble qm_isMud qm_cell qm_tune qm_change qm_isKept qm_steps qm_places qm_danced vm_runMost vm_runBegins qm_heardBy vm_fitMany vm_fitFirst vm_fitBeats vm_listenLeaves qm_there vm_metAt vm_metIn qm_wins vm_nightHoles vm_nightFirst vm_nightMud vm_nightSlips vm_drawnNow, (qm_lines, .inl (cI, 5, .inl (fm_lines))), (qm_meets, .inl (cI, 30, .inl (fm_meets))), (qm_wins, .inl (cI, 24576, .inl (g150)))] := ⟨hP.sub [2, 1, 0, 3] rfl, hD.sub [2, 1, 0, 3] (by decide) rfl⟩
          exact W.iret (v := (-1)) hx hb hr (fun t ht hW => ⟨⟨(-1), ((0 : Int32), g150), rfl, (show (-2) ≤ (-1 : Int32).toInt ∧ (-1 : Int32).toInt ≤ 5 by decide), by rw [ht]; exact hP9, hD9⟩, hS.F ht⟩) hS.2.2 dX12_plays_75
        · have hq153 : x151.toInt < 6 := tq_nle (by decide) rfl hc
          rcases (show x151.toInt = 0 ∨ x151.toInt = 1 ∨ x151.toInt = 2 ∨ x151.toInt = 3 ∨ x151.toInt = 4 ∨ x151.toInt = 5 by omega) with hj | hj | hj | hj | hj | hj
          · have hj2 : x151 = 0 := tq_of hj (by decide)
            have hl : lv_has ls 4 [(3, .int 0), (2, .int 1), (0, .ref qm), (1, .int 0)] := by have h9 := hl; rw [hj2] at h9; exact h9
            refine lv_aload_n hx hb dX12_plays_41 rfl (lv_at hl 2 rfl) ?_
            refine lv_iload_n hx hb dX12_plays_42 rfl (lv_at hl 1 rfl) ?_
            refine lv_iload_n hx hb dX12_plays_43 rfl (lv_at hl 3 rfl) ?_
            refine lv_iload_n hx hb dX12_plays_44 rfl (lv_at hl 0 rfl) ?_
            refine ct_calli (D := D) (wr := [(qm_lines, .inl (cI, 5, .inl (fm_lines))), (qm_wins, .inl (cI, 24576, .inl (g150)))]) (va_runV (As := [.int 1, .int 0, .int 0]) (rest := []) ⟨hx, hb, hml, hown, hts⟩ (c_X12_isPlay l D G cI cJ cB cZ cO qm 0 qm_width qm_many qm_cells qm_moved qm_tape vm_taped vm_at vm_token vm_place vm_value vm_word vm_bad vm_badPlace vm_fault vm_faultPlace qm_lines qm_has qm_round qm_meets fm_meets qm_stumble qm_isMud qm_cell qm_tune qm_change qm_isKept qm_steps qm_places qm_danced vm_runMost vm_runBegins qm_heardBy vm_fitMany vm_fitFirst vm_fitBeats vm_listenLeaves qm_there vm_metAt vm_metIn qm_wins vm_nightHoles vm_nightFirst vm_nightMud vm_nightSlips vm_drawnNow 1 0 0 h_vm_taped h_vm_at h_vm_value (by decide) (by decide) H.size) (cwV 3 hts gX12_plays_X12_isPlay rfl rfl rfl (by decide +kernel) ⟨Nat.le_of_ble_eq_true rfl, Nat.le_of_ble_eq_true rfl⟩) (ct_preV (T := ct_T cI cJ cB cZ cO) (ci := 12) (q0 := 2) hE hH hP hD hS hA [2, 0] (by decide) rfl rfl rfl) rfl rfl hl.1 rfl (lv_room (Nat.le_of_ble_eq_true rfl)) dX12_plays_45 ⟨Nat.le_of_ble_eq_true rfl, Nat.le_of_ble_eq_true rfl⟩) hP hD hS hA [2, 0] [1, 3] rfl rfl (by decide) (by decide) (fun r154 u H locs hw hP hD hS => ?_)
            obtain ⟨hP, hD⟩ : ct_B D A H [(qm_lines, .inl (cI, 5, .inl (fm_lines))), (qm_wins, .inl (cI, 24576, .inl (g150))), mo qm 0 qm_width qm_many qm_cells qm_moved qm_tape vm_taped vm_at vm_token vm_place vm_value vm_word vm_bad vm_badPlace vm_fault vm_faultPlace qm_lines qm_has qm_round qm_meets qm_stumble qm_isMud qm_cell qm_tune qm_change qm_isKept qm_steps qm_places qm_danced vm_runMost vm_runBegins qm_heardBy vm_fitMany vm_fitFirst vm_fitBeats vm_listenLeaves qm_there vm_metAt vm_metIn qm_wins vm_nightHoles vm_nightFirst vm_nightMud vm_nightSlips vm_drawnNow, (qm_meets, .inl (cI, 30, .inl (fm_meets)))] := ⟨hP, hD⟩
            have hz := hw
            rcases hz with ⟨hz, hz2⟩ | ⟨hz, hz2⟩
            · subst hz
              have hz_155 : (pl (1 : Int32) (0 : Int32)) := hz2
              refine lv_if_eq (tgt := 68) hx hb dX12_plays_48 (by decide) (fun hc => absurd hc (by decide)) (fun _ => ?_)
              refine lv_aload_n hx hb dX12_plays_51 rfl (lv_at hl 2 rfl) ?_
              refine lv_iload_n hx hb dX12_plays_52 rfl (lv_at hl 1 rfl) ?_
              refine lv_iconst (v := 1) hx hb dX12_plays_53 (by decide) ?_
              refine lv_iconst (v := 2) hx hb dX12_plays_54 (by decide) ?_
              refine lv_iload_n hx hb dX12_plays_55 rfl (lv_at hl 0 rfl) ?_
              refine lv_imul hx hb dX12_plays_56 ?_
              refine lv_topi (fun z156 ez156 => ?_)
              obtain rfl : z156 = 0 := ez156.trans (by decide)
              refine lv_ishl hx hb dX12_plays_57 ?_
              refine lv_topi (fun z157 ez157 => ?_)
              obtain rfl : z157 = 1 := ez157.trans (by decide)
              refine lv_iadd hx hb dX12_plays_58 ?_
              refine lv_topi (fun z158 ez158 => ?_)
              obtain rfl : z158 = 2 := ez158.trans (by decide)
              refine lv_iload_n hx hb dX12_plays_59 rfl (lv_at hl 0 rfl) ?_
              refine ct_calli (D := D) (wr := [(qm_lines, .inl (cI, 5, .inl (fm_lines)))]) (va_runV (As := [.int 2, .int 0]) (rest := []) ⟨hx, hb, hml, hown, hts⟩ (c_X12_winsFrom l D G cI cJ cB cZ cO qm 0 qm_width qm_many qm_cells qm_moved qm_tape vm_taped vm_at vm_token vm_place vm_value vm_word vm_bad vm_badPlace vm_fault vm_faultPlace qm_lines qm_has qm_round qm_meets fm_meets qm_stumble qm_isMud qm_cell qm_tune qm_change qm_isKept qm_steps qm_places qm_danced vm_runMost vm_runBegins qm_heardBy vm_fitMany vm_fitFirst vm_fitBeats vm_listenLeaves qm_there vm_metAt vm_metIn qm_wins vm_nightHoles vm_nightFirst vm_nightMud vm_nightSlips vm_drawnNow h_vm_taped h_vm_at h_vm_value 12 g150 2 0 (by decide) (by unfold wn; decide) H.size) (cwV 2 hts gX12_plays_X12_winsFrom rfl rfl rfl (by decide +kernel) ⟨Nat.le_of_ble_eq_true rfl, Nat.le_of_ble_eq_true rfl⟩) (ct_preV (T := ct_T cI cJ cB cZ cO) (ci := 12) (q0 := 2) hE hH hP hD hS hA [2, 3, 1] (by decide) rfl rfl rfl) rfl rfl hl.1 rfl (lv_room (Nat.le_of_ble_eq_true rfl)) dX12_plays_60 ⟨Nat.le_of_ble_eq_true rfl, Nat.le_of_ble_eq_true rfl⟩) hP hD hS hA [2, 3, 1] [0] rfl rfl (by decide) (by decide) (fun r159 u H locs hw hP hD hS => ?_)
              obtain ⟨g160, rfl⟩ : ∃ z, z = u := ⟨_, rfl⟩
              obtain ⟨hP, hD⟩ : ct_B D A H [(qm_lines, .inl (cI, 5, .inl (fm_lines))), mo qm 0 qm_width qm_many qm_cells qm_moved qm_tape vm_taped vm_at vm_token vm_place vm_value vm_word vm_bad vm_badPlace vm_fault vm_faultPlace qm_lines qm_has qm_round qm_meets qm_stumble qm_isMud qm_cell qm_tune qm_change qm_isKept qm_steps qm_places qm_danced vm_runMost vm_runBegins qm_heardBy vm_fitMany vm_fitFirst vm_fitBeats vm_listenLeaves qm_there vm_metAt vm_metIn qm_wins vm_nightHoles vm_nightFirst vm_nightMud vm_nightSlips vm_drawnNow, (qm_meets, .inl (cI, 30, .inl (fm_meets))), (qm_wins, .inl (cI, 24576, .inl (g160)))] := ⟨hP, hD⟩
              have hz := hw
              rcases hz with ⟨hz, hz2⟩ | ⟨hz, hz2⟩
              · subst hz
                refine lv_if_ne (tgt := 68) hx hb dX12_plays_63 (by decide) (fun _ => ?_) (fun hc => absurd hc (by decide))
                refine lv_iinc (v := 1) (lv' := [(3, .int 1), (2, .int 1), (0, .ref qm), (1, .int 0)]) hx hb dX12_plays_68 hl (k := 0) rfl (by decide) (by decide) rfl (fun ls hl => ?_)
                refine lv_goto (tgt := 35) hx hb dX12_plays_71 (by decide) ?_
                have hk161 : (1 : Int32).toInt = 1 := by decide
                obtain ⟨hP9, hD9⟩ : ct_B D A H [(qm_meets, .inl (cI, 30, .inl (fm_meets))), (qm_lines, .inl (cI, 5, .inl (fm_lines))), mo qm 0 qm_width qm_many qm_cells qm_moved qm_tape vm_taped vm_at vm_token vm_place vm_value vm_word vm_bad vm_badPlace vm_fault vm_faultPlace qm_lines qm_has qm_round qm_meets qm_stumble qm_isMud qm_cell qm_tune qm_change qm_isKept qm_steps qm_places qm_danced vm_runMost vm_runBegins qm_heardBy vm_fitMany vm_fitFirst vm_fitBeats vm_listenLeaves qm_there vm_metAt vm_metIn qm_wins vm_nightHoles vm_nightFirst vm_nightMud vm_nightSlips vm_drawnNow, (qm_wins, .inl (cI, 24576, .inl (g160)))] := ⟨hP.sub [2, 0, 1, 3] rfl, hD.sub [2, 0, 1, 3] (by decide) rfl⟩
                exact ih152 (g160, (1 : Int32)) _ _ _ (show (6 - (1 : Int32).toInt).toNat < (6 - x151.toInt).toNat by omega) ⟨(show 0 ≤ (1 : Int32).toInt ∧ (1 : Int32).toInt ≤ 6 by decide), ⟨hP9, hD9⟩, hS, lv_sub hl [0, 1, 2, 3] rfl⟩
              · subst hz
                refine lv_if_ne (tgt := 68) hx hb dX12_plays_63 (by decide) (fun hc => absurd hc (by decide)) (fun _ => ?_)
                refine lv_iload_n hx hb dX12_plays_66 rfl (lv_at hl 0 rfl) ?_
                obtain ⟨hP9, hD9⟩ : ct_B D A H [mo qm 0 qm_width qm_many qm_cells qm_moved qm_tape vm_taped vm_at vm_token vm_place vm_value vm_word vm_bad vm_badPlace vm_fault vm_faultPlace qm_lines qm_has qm_round qm_meets qm_stumble qm_isMud qm_cell qm_tune qm_change qm_isKept qm_steps qm_places qm_danced vm_runMost vm_runBegins qm_heardBy vm_fitMany vm_fitFirst vm_fitBeats vm_listenLeaves qm_there vm_metAt vm_metIn qm_wins vm_nightHoles vm_nightFirst vm_nightMud vm_nightSlips vm_drawnNow, (qm_lines, .inl (cI, 5, .inl (fm_lines))), (qm_meets, .inl (cI, 30, .inl (fm_meets))), (qm_wins, .inl (cI, 24576, .inl (g160)))] := ⟨hP.sub [1, 0, 2, 3] rfl, hD.sub [1, 0, 2, 3] (by decide) rfl⟩
                exact W.iret (v := 0) hx hb hr (fun t ht hW => ⟨⟨0, ((0 : Int32), g160), rfl, (show (-2) ≤ (0 : Int32).toInt ∧ (0 : Int32).toInt ≤ 5 by decide), by rw [ht]; exact hP9, hD9⟩, hS.F ht⟩) hS.2.2 dX12_plays_67
            · subst hz
              refine lv_if_eq (tgt := 68) hx hb dX12_plays_48 (by decide) (fun _ => ?_) (fun hc => absurd hc (by decide))
              refine lv_iinc (v := 1) (lv' := [(3, .int 1), (2, .int 1), (0, .ref qm), (1, .int 0)]) hx hb dX12_plays_68 hl (k := 0) rfl (by decide) (by decide) rfl (fun ls hl => ?_)
              refine lv_goto (tgt := 35) hx hb dX12_plays_71 (by decide) ?_
              have hk162 : (1 : Int32).toInt = 1 := by decide
              obtain ⟨hP9, hD9⟩ : ct_B D A H [(qm_meets, .inl (cI, 30, .inl (fm_meets))), (qm_lines, .inl (cI, 5, .inl (fm_lines))), mo qm 0 qm_width qm_many qm_cells qm_moved qm_tape vm_taped vm_at vm_token vm_place vm_value vm_word vm_bad vm_badPlace vm_fault vm_faultPlace qm_lines qm_has qm_round qm_meets qm_stumble qm_isMud qm_cell qm_tune qm_change qm_isKept qm_steps qm_places qm_danced vm_runMost vm_runBegins qm_heardBy vm_fitMany vm_fitFirst vm_fitBeats vm_listenLeaves qm_there vm_metAt vm_metIn qm_wins vm_nightHoles vm_nightFirst vm_nightMud vm_nightSlips vm_drawnNow, (qm_wins, .inl (cI, 24576, .inl (g150)))] := ⟨hP.sub [3, 0, 2, 1] rfl, hD.sub [3, 0, 2, 1] (by decide) rfl⟩
              exact ih152 (g150, (1 : Int32)) _ _ _ (show (6 - (1 : Int32).toInt).toNat < (6 - x151.toInt).toNat by omega) ⟨(show 0 ≤ (1 : Int32).toInt ∧ (1 : Int32).toInt ≤ 6 by decide), ⟨hP9, hD9⟩, hS, lv_sub hl [0, 1, 2, 3] rfl⟩
          · have hj2 : x151 = 1 := tq_of hj (by decide)
            have hl : lv_has ls 4 [(3, .int 1), (2, .int 1), (0, .ref qm), (1, .int 0)] := by have h9 := hl; rw [hj2] at h9; exact h9
            refine lv_aload_n hx hb dX12_plays_41 rfl (lv_at hl 2 rfl) ?_
            refine lv_iload_n hx hb dX12_plays_42 rfl (lv_at hl 1 rfl) ?_
            refine lv_iload_n hx hb dX12_plays_43 rfl (lv_at hl 3 rfl) ?_
            refine lv_iload_n hx hb dX12_plays_44 rfl (lv_at hl 0 rfl) ?_
            refine ct_calli (D := D) (wr := [(qm_lines, .inl (cI, 5, .inl (fm_lines))), (qm_wins, .inl (cI, 24576, .inl (g150)))]) (va_runV (As := [.int 1, .int 0, .int 1]) (rest := []) ⟨hx, hb, hml, hown, hts⟩ (c_X12_isPlay l D G cI cJ cB cZ cO qm 0 qm_width qm_many qm_cells qm_moved qm_tape vm_taped vm_at vm_token vm_place vm_value vm_word vm_bad vm_badPlace vm_fault vm_faultPlace qm_lines qm_has qm_round qm_meets fm_meets qm_stumble qm_isMud qm_cell qm_tune qm_change qm_isKept qm_steps qm_places qm_danced vm_runMost vm_runBegins qm_heardBy vm_fitMany vm_fitFirst vm_fitBeats vm_listenLeaves qm_there vm_metAt vm_metIn qm_wins vm_nightHoles vm_nightFirst vm_nightMud vm_nightSlips vm_drawnNow 1 0 1 h_vm_taped h_vm_at h_vm_value (by decide) (by decide) H.size) (cwV 3 hts gX12_plays_X12_isPlay rfl rfl rfl (by decide +kernel) ⟨Nat.le_of_ble_eq_true rfl, Nat.le_of_ble_eq_true rfl⟩) (ct_preV (T := ct_T cI cJ cB cZ cO) (ci := 12) (q0 := 2) hE hH hP hD hS hA [2, 0] (by decide) rfl rfl rfl) rfl rfl hl.1 rfl (lv_room (Nat.le_of_ble_eq_true rfl)) dX12_plays_45 ⟨Nat.le_of_ble_eq_true rfl, Nat.le_of_ble_eq_true rfl⟩) hP hD hS hA [2, 0] [1, 3] rfl rfl (by decide) (by decide) (fun r163 u H locs hw hP hD hS => ?_)
            obtain ⟨hP, hD⟩ : ct_B D A H [(qm_lines, .inl (cI, 5, .inl (fm_lines))), (qm_wins, .inl (cI, 24576, .inl (g150))), mo qm 0 qm_width qm_many qm_cells qm_moved qm_tape vm_taped vm_at vm_token vm_place vm_value vm_word vm_bad vm_badPlace vm_fault vm_faultPlace qm_lines qm_has qm_round qm_meets qm_stumble qm_isMud qm_cell qm_tune qm_change qm_isKept qm_steps qm_places qm_danced vm_runMost vm_runBegins qm_heardBy vm_fitMany vm_fitFirst vm_fitBeats vm_listenLeaves qm_there vm_metAt vm_metIn qm_wins vm_nightHoles vm_nightFirst vm_nightMud vm_nightSlips vm_drawnNow, (qm_meets, .inl (cI, 30, .inl (fm_meets)))] := ⟨hP, hD⟩
            have hz := hw
            rcases hz with ⟨hz, hz2⟩ | ⟨hz, hz2⟩
            · subst hz
              have hz_164 : (pl (1 : Int32) (1 : Int32)) := hz2
              refine lv_if_eq (tgt := 68) hx hb dX12_plays_48 (by decide) (fun hc => absurd hc (by decide)) (fun _ => ?_)
              refine lv_aload_n hx hb dX12_plays_51 rfl (lv_at hl 2 rfl) ?_
              refine lv_iload_n hx hb dX12_plays_52 rfl (lv_at hl 1 rfl) ?_
              refine lv_iconst (v := 1) hx hb dX12_plays_53 (by decide) ?_
              refine lv_iconst (v := 2) hx hb dX12_plays_54 (by decide) ?_
              refine lv_iload_n hx hb dX12_plays_55 rfl (lv_at hl 0 rfl) ?_
              refine lv_imul hx hb dX12_plays_56 ?_
              refine lv_topi (fun z165 ez165 => ?_)
              obtain rfl : z165 = 2 := ez165.trans (by decide)
              refine lv_ishl hx hb dX12_plays_57 ?_
              refine lv_topi (fun z166 ez166 => ?_)
              obtain rfl : z166 = 4 := ez166.trans (by decide)
              refine lv_iadd hx hb dX12_plays_58 ?_
              refine lv_topi (fun z167 ez167 => ?_)
              obtain rfl : z167 = 5 := ez167.trans (by decide)
              refine lv_iload_n hx hb dX12_plays_59 rfl (lv_at hl 0 rfl) ?_
              refine ct_calli (D := D) (wr := [(qm_lines, .inl (cI, 5, .inl (fm_lines)))]) (va_runV (As := [.int 5, .int 1]) (rest := []) ⟨hx, hb, hml, hown, hts⟩ (c_X12_winsFrom l D G cI cJ cB cZ cO qm 0 qm_width qm_many qm_cells qm_moved qm_tape vm_taped vm_at vm_token vm_place vm_value vm_word vm_bad vm_badPlace vm_fault vm_faultPlace qm_lines qm_has qm_round qm_meets fm_meets qm_stumble qm_isMud qm_cell qm_tune qm_change qm_isKept qm_steps qm_places qm_danced vm_runMost vm_runBegins qm_heardBy vm_fitMany vm_fitFirst vm_fitBeats vm_listenLeaves qm_there vm_metAt vm_metIn qm_wins vm_nightHoles vm_nightFirst vm_nightMud vm_nightSlips vm_drawnNow h_vm_taped h_vm_at h_vm_value 12 g150 5 1 (by decide) (by unfold wn; decide) H.size) (cwV 2 hts gX12_plays_X12_winsFrom rfl rfl rfl (by decide +kernel) ⟨Nat.le_of_ble_eq_true rfl, Nat.le_of_ble_eq_true rfl⟩) (ct_preV (T := ct_T cI cJ cB cZ cO) (ci := 12) (q0 := 2) hE hH hP hD hS hA [2, 3, 1] (by decide) rfl rfl rfl) rfl rfl hl.1 rfl (lv_room (Nat.le_of_ble_eq_true rfl)) dX12_plays_60 ⟨Nat.le_of_ble_eq_true rfl, Nat.le_of_ble_eq_true rfl⟩) hP hD hS hA [2, 3, 1] [0] rfl rfl (by decide) (by decide) (fun r168 u H locs hw hP hD hS => ?_)
              obtain ⟨g169, rfl⟩ : ∃ z, z = u := ⟨_, rfl⟩
              obtain ⟨hP, hD⟩ : ct_B D A H [(qm_lines, .inl (cI, 5, .inl (fm_lines))), mo qm 0 qm_width qm_many qm_cells qm_moved qm_tape vm_taped vm_at vm_token vm_place vm_value vm_word vm_bad vm_badPlace vm_fault vm_faultPlace qm_lines qm_has qm_round qm_meets qm_stumble qm_isMud qm_cell qm_tune qm_change qm_isKept qm_steps qm_places qm_danced vm_runMost vm_runBegins qm_heardBy vm_fitMany vm_fitFirst vm_fitBeats vm_listenLeaves qm_there vm_metAt vm_metIn qm_wins vm_nightHoles vm_nightFirst vm_nightMud vm_nightSlips vm_drawnNow, (qm_meets, .inl (cI, 30, .inl (fm_meets))), (qm_wins, .inl (cI, 24576, .inl (g169)))] := ⟨hP, hD⟩
              have hz := hw
              rcases hz with ⟨hz, hz2⟩ | ⟨hz, hz2⟩
              · subst hz
                refine lv_if_ne (tgt := 68) hx hb dX12_plays_63 (by decide) (fun _ => ?_) (fun hc => absurd hc (by decide))
                refine lv_iinc (v := 2) (lv' := [(3, .int 2), (2, .int 1), (0, .ref qm), (1, .int 0)]) hx hb dX12_plays_68 hl (k := 0) rfl (by decide) (by decide) rfl (fun ls hl => ?_)
                refine lv_goto (tgt := 35) hx hb dX12_plays_71 (by decide) ?_
                have hk170 : (2 : Int32).toInt = 2 := by decide
                obtain ⟨hP9, hD9⟩ : ct_B D A H [(qm_meets, .inl (cI, 30, .inl (fm_meets))), (qm_lines, .inl (cI, 5, .inl (fm_lines))), mo qm 0 qm_width qm_many qm_cells qm_moved qm_tape vm_taped vm_at vm_token vm_place vm_value vm_word vm_bad vm_badPlace vm_fault vm_faultPlace qm_lines qm_has qm_round qm_meets qm_stumble qm_isMud qm_cell qm_tune qm_change qm_isKept qm_steps qm_places qm_danced vm_runMost vm_runBegins qm_heardBy vm_fitMany vm_fitFirst vm_fitBeats vm_listenLeaves qm_there vm_metAt vm_metIn qm_wins vm_nightHoles vm_nightFirst vm_nightMud vm_nightSlips vm_drawnNow, (qm_wins, .inl (cI, 24576, .inl (g169)))] := ⟨hP.sub [2, 0, 1, 3] rfl, hD.sub [2, 0, 1, 3] (by decide) rfl⟩
                exact ih152 (g169, (2 : Int32)) _ _ _ (show (6 - (2 : Int32).toInt).toNat < (6 - x151.toInt).toNat by omega) ⟨(show 0 ≤ (2 : Int32).toInt ∧ (2 : Int32).toInt ≤ 6 by decide), ⟨hP9, hD9⟩, hS, lv_sub hl [0, 1, 2, 3] rfl⟩
              · subst hz
                refine lv_if_ne (tgt := 68) hx hb dX12_plays_63 (by decide) (fun hc => absurd hc (by decide)) (fun _ => ?_)
                refine lv_iload_n hx hb dX12_plays_66 rfl (lv_at hl 0 rfl) ?_
                obtain ⟨hP9, hD9⟩ : ct_B D A H [mo qm 0 qm_width qm_many qm_cells qm_moved qm_tape vm_taped vm_at vm_token vm_place vm_value vm_word vm_bad vm_badPlace vm_fault vm_faultPlace qm_lines qm_has qm_round qm_meets qm_stumble qm_isMud qm_cell qm_tune qm_change qm_isKept qm_steps qm_places qm_danced vm_runMost vm_runBegins qm_heardBy vm_fitMany vm_fitFirst vm_fitBeats vm_listenLeaves qm_there vm_metAt vm_metIn qm_wins vm_nightHoles vm_nightFirst vm_nightMud vm_nightSlips vm_drawnNow, (qm_lines, .inl (cI, 5, .inl (fm_lines))), (qm_meets, .inl (cI, 30, .inl (fm_meets))), (qm_wins, .inl (cI, 24576, .inl (g169)))] := ⟨hP.sub [1, 0, 2, 3] rfl, hD.sub [1, 0, 2, 3] (by decide) rfl⟩
                exact W.iret (v := 1) hx hb hr (fun t ht hW => ⟨⟨1, ((0 : Int32), g169), rfl, (show (-2) ≤ (1 : Int32).toInt ∧ (1 : Int32).toInt ≤ 5 by decide), by rw [ht]; exact hP9, hD9⟩, hS.F ht⟩) hS.2.2 dX12_plays_67
            · subst hz
              refine lv_if_eq (tgt := 68) hx hb dX12_plays_48 (by decide) (fun _ => ?_) (fun hc => absurd hc (by decide))
              refine lv_iinc (v := 2) (lv' := [(3, .int 2), (2, .int 1), (0, .ref qm), (1, .int 0)]) hx hb dX12_plays_68 hl (k := 0) rfl (by decide) (by decide) rfl (fun ls hl => ?_)
              refine lv_goto (tgt := 35) hx hb dX12_plays_71 (by decide) ?_
              have hk171 : (2 : Int32).toInt = 2 := by decide
              obtain ⟨hP9, hD9⟩ : ct_B D A H [(qm_meets, .inl (cI, 30, .inl (fm_meets))), (qm_lines, .inl (cI, 5, .inl (fm_lines))), mo qm 0 qm_width qm_many qm_cells qm_moved qm_tape vm_taped vm_at vm_token vm_place vm_value vm_word vm_bad vm_badPlace vm_fault vm_faultPlace qm_lines qm_has qm_round qm_meets qm_stumble qm_isMud qm_cell qm_tune qm_change qm_isKept qm_steps qm_places qm_danced vm_runMost vm_runBegins qm_heardBy vm_fitMany vm_fitFirst vm_fitBeats vm_listenLeaves qm_there vm_metAt vm_metIn qm_wins vm_nightHoles vm_nightFirst vm_nightMud vm_nightSlips vm_drawnNow, (qm_wins, .inl (cI, 24576, .inl (g150)))] := ⟨hP.sub [3, 0, 2, 1] rfl, hD.sub [3, 0, 2, 1] (by decide) rfl⟩
              exact ih152 (g150, (2 : Int32)) _ _ _ (show (6 - (2 : Int32).toInt).toNat < (6 - x151.toInt).toNat by omega) ⟨(show 0 ≤ (2 : Int32).toInt ∧ (2 : Int32).toInt ≤ 6 by decide), ⟨hP9, hD9⟩, hS, lv_sub hl [0, 1, 2, 3] rfl⟩
          · have hj2 : x151 = 2 := tq_of hj (by decide)
            have hl : lv_has ls 4 [(3, .int 2), (2, .int 1), (0, .ref qm), (1, .int 0)] := by have h9 := hl; rw [hj2] at h9; exact h9
            refine lv_aload_n hx hb dX12_plays_41 rfl (lv_at hl 2 rfl) ?_
            refine lv_iload_n hx hb dX12_plays_42 rfl (lv_at hl 1 rfl) ?_
            refine lv_iload_n hx hb dX12_plays_43 rfl (lv_at hl 3 rfl) ?_
            refine lv_iload_n hx hb dX12_plays_44 rfl (lv_at hl 0 rfl) ?_
            refine ct_calli (D := D) (wr := [(qm_lines, .inl (cI, 5, .inl (fm_lines))), (qm_wins, .inl (cI, 24576, .inl (g150)))]) (va_runV (As := [.int 1, .int 0, .int 2]) (rest := []) ⟨hx, hb, hml, hown, hts⟩ (c_X12_isPlay l D G cI cJ cB cZ cO qm 0 qm_width qm_many qm_cells qm_moved qm_tape vm_taped vm_at vm_token vm_place vm_value vm_word vm_bad vm_badPlace vm_fault vm_faultPlace qm_lines qm_has qm_round qm_meets fm_meets qm_stumble qm_isMud qm_cell qm_tune qm_change qm_isKept qm_steps qm_places qm_danced vm_runMost vm_runBegins qm_heardBy vm_fitMany vm_fitFirst vm_fitBeats vm_listenLeaves qm_there vm_metAt vm_metIn qm_wins vm_nightHoles vm_nightFirst vm_nightMud vm_nightSlips vm_drawnNow 1 0 2 h_vm_taped h_vm_at h_vm_value (by decide) (by decide) H.size) (cwV 3 hts gX12_plays_X12_isPlay rfl rfl rfl (by decide +kernel) ⟨Nat.le_of_ble_eq_true rfl, Nat.le_of_ble_eq_true rfl⟩) (ct_preV (T := ct_T cI cJ cB cZ cO) (ci := 12) (q0 := 2) hE hH hP hD hS hA [2, 0] (by decide) rfl rfl rfl) rfl rfl hl.1 rfl (lv_room (Nat.le_of_ble_eq_true rfl)) dX12_plays_45 ⟨Nat.le_of_ble_eq_true rfl, Nat.le_of_ble_eq_true rfl⟩) hP hD hS hA [2, 0] [1, 3] rfl rfl (by decide) (by decide) (fun r172 u H locs hw hP hD hS => ?_)
            obtain ⟨hP, hD⟩ : ct_B D A H [(qm_lines, .inl (cI, 5, .inl (fm_lines))), (qm_wins, .inl (cI, 24576, .inl (g150))), mo qm 0 qm_width qm_many qm_cells qm_moved qm_tape vm_taped vm_at vm_token vm_place vm_value vm_word vm_bad vm_badPlace vm_fault vm_faultPlace qm_lines qm_has qm_round qm_meets qm_stumble qm_isMud qm_cell qm_tune qm_change qm_isKept qm_steps qm_places qm_danced vm_runMost vm_runBegins qm_heardBy vm_fitMany vm_fitFirst vm_fitBeats vm_listenLeaves qm_there vm_metAt vm_metIn qm_wins vm_nightHoles vm_nightFirst vm_nightMud vm_nightSlips vm_drawnNow, (qm_meets, .inl (cI, 30, .inl (fm_meets)))] := ⟨hP, hD⟩
            have hz := hw
            rcases hz with ⟨hz, hz2⟩ | ⟨hz, hz2⟩
            · subst hz
              have hz_173 : (pl (1 : Int32) (2 : Int32)) := hz2
              refine lv_if_eq (tgt := 68) hx hb dX12_plays_48 (by decide) (fun hc => absurd hc (by decide)) (fun _ => ?_)
              refine lv_aload_n hx hb dX12_plays_51 rfl (lv_at hl 2 rfl) ?_
              refine lv_iload_n hx hb dX12_plays_52 rfl (lv_at hl 1 rfl) ?_
              refine lv_iconst (v := 1) hx hb dX12_plays_53 (by decide) ?_
              refine lv_iconst (v := 2) hx hb dX12_plays_54 (by decide) ?_
              refine lv_iload_n hx hb dX12_plays_55 rfl (lv_at hl 0 rfl) ?_
              refine lv_imul hx hb dX12_plays_56 ?_
              refine lv_topi (fun z174 ez174 => ?_)
              obtain rfl : z174 = 4 := ez174.trans (by decide)
              refine lv_ishl hx hb dX12_plays_57 ?_
              refine lv_topi (fun z175 ez175 => ?_)
              obtain rfl : z175 = 16 := ez175.trans (by decide)
              refine lv_iadd hx hb dX12_plays_58 ?_
              refine lv_topi (fun z176 ez176 => ?_)
              obtain rfl : z176 = 17 := ez176.trans (by decide)
              refine lv_iload_n hx hb dX12_plays_59 rfl (lv_at hl 0 rfl) ?_
              refine ct_calli (D := D) (wr := [(qm_lines, .inl (cI, 5, .inl (fm_lines)))]) (va_runV (As := [.int 17, .int 2]) (rest := []) ⟨hx, hb, hml, hown, hts⟩ (c_X12_winsFrom l D G cI cJ cB cZ cO qm 0 qm_width qm_many qm_cells qm_moved qm_tape vm_taped vm_at vm_token vm_place vm_value vm_word vm_bad vm_badPlace vm_fault vm_faultPlace qm_lines qm_has qm_round qm_meets fm_meets qm_stumble qm_isMud qm_cell qm_tune qm_change qm_isKept qm_steps qm_places qm_danced vm_runMost vm_runBegins qm_heardBy vm_fitMany vm_fitFirst vm_fitBeats vm_listenLeaves qm_there vm_metAt vm_metIn qm_wins vm_nightHoles vm_nightFirst vm_nightMud vm_nightSlips vm_drawnNow h_vm_taped h_vm_at h_vm_value 12 g150 17 2 (by decide) (by unfold wn; decide) H.size) (cwV 2 hts gX12_plays_X12_winsFrom rfl rfl rfl (by decide +kernel) ⟨Nat.le_of_ble_eq_true rfl, Nat.le_of_ble_eq_true rfl⟩) (ct_preV (T := ct_T cI cJ cB cZ cO) (ci := 12) (q0 := 2) hE hH hP hD hS hA [2, 3, 1] (by decide) rfl rfl rfl) rfl rfl hl.1 rfl (lv_room (Nat.le_of_ble_eq_true rfl)) dX12_plays_60 ⟨Nat.le_of_ble_eq_true rfl, Nat.le_of_ble_eq_true rfl⟩) hP hD hS hA [2, 3, 1] [0] rfl rfl (by decide) (by decide) (fun r177 u H locs hw hP hD hS => ?_)
              obtain ⟨g178, rfl⟩ : ∃ z, z = u := ⟨_, rfl⟩
              obtain ⟨hP, hD⟩ : ct_B D A H [(qm_lines, .inl (cI, 5, .inl (fm_lines))), mo qm 0 qm_width qm_many qm_cells qm_moved qm_tape vm_taped vm_at vm_token vm_place vm_value vm_word vm_bad vm_badPlace vm_fault vm_faultPlace qm_lines qm_has qm_round qm_meets qm_stumble qm_isMud qm_cell qm_tune qm_change qm_isKept qm_steps qm_places qm_danced vm_runMost vm_runBegins qm_heardBy vm_fitMany vm_fitFirst vm_fitBeats vm_listenLeaves qm_there vm_metAt vm_metIn qm_wins vm_nightHoles vm_nightFirst vm_nightMud vm_nightSlips vm_drawnNow, (qm_meets, .inl (cI, 30, .inl (fm_meets))), (qm_wins, .inl (cI, 24576, .inl (g178)))] := ⟨hP, hD⟩
              have hz := hw
              rcases hz with ⟨hz, hz2⟩ | ⟨hz, hz2⟩
              · subst hz
                refine lv_if_ne (tgt := 68) hx hb dX12_plays_63 (by decide) (fun _ => ?_) (fun hc => absurd hc (by decide))
                refine lv_iinc (v := 3) (lv' := [(3, .int 3), (2, .int 1), (0, .ref qm), (1, .int 0)]) hx hb dX12_plays_68 hl (k := 0) rfl (by decide) (by decide) rfl (fun ls hl => ?_)
                refine lv_goto (tgt := 35) hx hb dX12_plays_71 (by decide) ?_
                have hk179 : (3 : Int32).toInt = 3 := by decide
                obtain ⟨hP9, hD9⟩ : ct_B D A H [(qm_meets, .inl (cI, 30, .inl (fm_meets))), (qm_lines, .inl (cI, 5, .inl (fm_lines))), mo qm 0 qm_width qm_many qm_cells qm_moved qm_tape vm_taped vm_at vm_token vm_place vm_value vm_word vm_bad vm_badPlace vm_fault vm_faultPlace qm_lines qm_has qm_round qm_meets qm_stumble qm_isMud qm_cell qm_tune qm_change qm_isKept qm_steps qm_places qm_danced vm_runMost vm_runBegins qm_heardBy vm_fitMany vm_fitFirst vm_fitBeats vm_listenLeaves qm_there vm_metAt vm_metIn qm_wins vm_nightHoles vm_nightFirst vm_nightMud vm_nightSlips vm_drawnNow, (qm_wins, .inl (cI, 24576, .inl (g178)))] := ⟨hP.sub [2, 0, 1, 3] rfl, hD.sub [2, 0, 1, 3] (by decide) rfl⟩
                exact ih152 (g178, (3 : Int32)) _ _ _ (show (6 - (3 : Int32).toInt).toNat < (6 - x151.toInt).toNat by omega) ⟨(show 0 ≤ (3 : Int32).toInt ∧ (3 : Int32).toInt ≤ 6 by decide), ⟨hP9, hD9⟩, hS, lv_sub hl [0, 1, 2, 3] rfl⟩
              · subst hz
                refine lv_if_ne (tgt := 68) hx hb dX12_plays_63 (by decide) (fun hc => absurd hc (by decide)) (fun _ => ?_)
                refine lv_iload_n hx hb dX12_plays_66 rfl (lv_at hl 0 rfl) ?_
                obtain ⟨hP9, hD9⟩ : ct_B D A H [mo qm 0 qm_width qm_many qm_cells qm_moved qm_tape vm_taped vm_at vm_token vm_place vm_value vm_word vm_bad vm_badPlace vm_fault vm_faultPlace qm_lines qm_has qm_round qm_meets qm_stumble qm_isMud qm_cell qm_tune qm_change qm_isKept qm_steps qm_places qm_danced vm_runMost vm_runBegins qm_heardBy vm_fitMany vm_fitFirst vm_fitBeats vm_listenLeaves qm_there vm_metAt vm_metIn qm_wins vm_nightHoles vm_nightFirst vm_nightMud vm_nightSlips vm_drawnNow, (qm_lines, .inl (cI, 5, .inl (fm_lines))), (qm_meets, .inl (cI, 30, .inl (fm_meets))), (qm_wins, .inl (cI, 24576, .inl (g178)))] := ⟨hP.sub [1, 0, 2, 3] rfl, hD.sub [1, 0, 2, 3] (by decide) rfl⟩
                exact W.iret (v := 2) hx hb hr (fun t ht hW => ⟨⟨2, ((0 : Int32), g178), rfl, (show (-2) ≤ (2 : Int32).toInt ∧ (2 : Int32).toInt ≤ 5 by decide), by rw [ht]; exact hP9, hD9⟩, hS.F ht⟩) hS.2.2 dX12_plays_67
            · subst hz
              refine lv_if_eq (tgt := 68) hx hb dX12_plays_48 (by decide) (fun _ => ?_) (fun hc => absurd hc (by decide))
              refine lv_iinc (v := 3) (lv' := [(3, .int 3), (2, .int 1), (0, .ref qm), (1, .int 0)]) hx hb dX12_plays_68 hl (k := 0) rfl (by decide) (by decide) rfl (fun ls hl => ?_)
              refine lv_goto (tgt := 35) hx hb dX12_plays_71 (by decide) ?_
              have hk180 : (3 : Int32).toInt = 3 := by decide
              obtain ⟨hP9, hD9⟩ : ct_B D A H [(qm_meets, .inl (cI, 30, .inl (fm_meets))), (qm_lines, .inl (cI, 5, .inl (fm_lines))), mo qm 0 qm_width qm_many qm_cells qm_moved qm_tape vm_taped vm_at vm_token vm_place vm_value vm_word vm_bad vm_badPlace vm_fault vm_faultPlace qm_lines qm_has qm_round qm_meets qm_stumble qm_isMud qm_cell qm_tune qm_change qm_isKept qm_steps qm_places qm_danced vm_runMost vm_runBegins qm_heardBy vm_fitMany vm_fitFirst vm_fitBeats vm_listenLeaves qm_there vm_metAt vm_metIn qm_wins vm_nightHoles vm_nightFirst vm_nightMud vm_nightSlips vm_drawnNow, (qm_wins, .inl (cI, 24576, .inl (g150)))] := ⟨hP.sub [3, 0, 2, 1] rfl, hD.sub [3, 0, 2, 1] (by decide) rfl⟩
              exact ih152 (g150, (3 : Int32)) _ _ _ (show (6 - (3 : Int32).toInt).toNat < (6 - x151.toInt).toNat by omega) ⟨(show 0 ≤ (3 : Int32).toInt ∧ (3 : Int32).toInt ≤ 6 by decide), ⟨hP9, hD9⟩, hS, lv_sub hl [0, 1, 2, 3] rfl⟩
          · have hj2 : x151 = 3 := tq_of hj (by decide)
            have hl : lv_has ls 4 [(3, .int 3), (2, .int 1), (0, .ref qm), (1, .int 0)] := by have h9 := hl; rw [hj2] at h9; exact h9
            refine lv_aload_n hx hb dX12_plays_41 rfl (lv_at hl 2 rfl) ?_
            refine lv_iload_n hx hb dX12_plays_42 rfl (lv_at hl 1 rfl) ?_
            refine lv_iload_n hx hb dX12_plays_43 rfl (lv_at hl 3 rfl) ?_
            refine lv_iload_n hx hb dX12_plays_44 rfl (lv_at hl 0 rfl) ?_
            refine ct_calli (D := D) (wr := [(qm_lines, .inl (cI, 5, .inl (fm_lines))), (qm_wins, .inl (cI, 24576, .inl (g150)))]) (va_runV (As := [.int 1, .int 0, .int 3]) (rest := []) ⟨hx, hb, hml, hown, hts⟩ (c_X12_isPlay l D G cI cJ cB cZ cO qm 0 qm_width qm_many qm_cells qm_moved qm_tape vm_taped vm_at vm_token vm_place vm_value vm_word vm_bad vm_badPlace vm_fault vm_faultPlace qm_lines qm_has qm_round qm_meets fm_meets qm_stumble qm_isMud qm_cell qm_tune qm_change qm_isKept qm_steps qm_places qm_danced vm_runMost vm_runBegins qm_heardBy vm_fitMany vm_fitFirst vm_fitBeats vm_listenLeaves qm_there vm_metAt vm_metIn qm_wins vm_nightHoles vm_nightFirst vm_nightMud vm_nightSlips vm_drawnNow 1 0 3 h_vm_taped h_vm_at h_vm_value (by decide) (by decide) H.size) (cwV 3 hts gX12_plays_X12_isPlay rfl rfl rfl (by decide +kernel) ⟨Nat.le_of_ble_eq_true rfl, Nat.le_of_ble_eq_true rfl⟩) (ct_preV (T := ct_T cI cJ cB cZ cO) (ci := 12) (q0 := 2) hE hH hP hD hS hA [2, 0] (by decide) rfl rfl rfl) rfl rfl hl.1 rfl (lv_room (Nat.le_of_ble_eq_true rfl)) dX12_plays_45 ⟨Nat.le_of_ble_eq_true rfl, Nat.le_of_ble_eq_true rfl⟩) hP hD hS hA [2, 0] [1, 3] rfl rfl (by decide) (by decide) (fun r181 u H locs hw hP hD hS => ?_)
            obtain ⟨hP, hD⟩ : ct_B D A H [(qm_lines, .inl (cI, 5, .inl (fm_lines))), (qm_wins, .inl (cI, 24576, .inl (g150))), mo qm 0 qm_width qm_many qm_cells qm_moved qm_tape vm_taped vm_at vm_token vm_place vm_value vm_word vm_bad vm_badPlace vm_fault vm_faultPlace qm_lines qm_has qm_round qm_meets qm_stumble qm_isMud qm_cell qm_tune qm_change qm_isKept qm_steps qm_places qm_danced vm_runMost vm_runBegins qm_heardBy vm_fitMany vm_fitFirst vm_fitBeats vm_listenLeaves qm_there vm_metAt vm_metIn qm_wins vm_nightHoles vm_nightFirst vm_nightMud vm_nightSlips vm_drawnNow, (qm_meets, .inl (cI, 30, .inl (fm_meets)))] := ⟨hP, hD⟩
            have hz := hw
            rcases hz with ⟨hz, hz2⟩ | ⟨hz, hz2⟩
            · subst hz
              have hz_182 : (pl (1 : Int32) (3 : Int32)) := hz2
              refine lv_if_eq (tgt := 68) hx hb dX12_plays_48 (by decide) (fun hc => absurd hc (by decide)) (fun _ => ?_)
              refine lv_aload_n hx hb dX12_plays_51 rfl (lv_at hl 2 rfl) ?_
              refine lv_iload_n hx hb dX12_plays_52 rfl (lv_at hl 1 rfl) ?_
              refine lv_iconst (v := 1) hx hb dX12_plays_53 (by decide) ?_
              refine lv_iconst (v := 2) hx hb dX12_plays_54 (by decide) ?_
              refine lv_iload_n hx hb dX12_plays_55 rfl (lv_at hl 0 rfl) ?_
              refine lv_imul hx hb dX12_plays_56 ?_
              refine lv_topi (fun z183 ez183 => ?_)
              obtain rfl : z183 = 6 := ez183.trans (by decide)
              refine lv_ishl hx hb dX12_plays_57 ?_
              refine lv_topi (fun z184 ez184 => ?_)
              obtain rfl : z184 = 64 := ez184.trans (by decide)
              refine lv_iadd hx hb dX12_plays_58 ?_
              refine lv_topi (fun z185 ez185 => ?_)
              obtain rfl : z185 = 65 := ez185.trans (by decide)
              refine lv_iload_n hx hb dX12_plays_59 rfl (lv_at hl 0 rfl) ?_
              refine ct_calli (D := D) (wr := [(qm_lines, .inl (cI, 5, .inl (fm_lines)))]) (va_runV (As := [.int 65, .int 3]) (rest := []) ⟨hx, hb, hml, hown, hts⟩ (c_X12_winsFrom l D G cI cJ cB cZ cO qm 0 qm_width qm_many qm_cells qm_moved qm_tape vm_taped vm_at vm_token vm_place vm_value vm_word vm_bad vm_badPlace vm_fault vm_faultPlace qm_lines qm_has qm_round qm_meets fm_meets qm_stumble qm_isMud qm_cell qm_tune qm_change qm_isKept qm_steps qm_places qm_danced vm_runMost vm_runBegins qm_heardBy vm_fitMany vm_fitFirst vm_fitBeats vm_listenLeaves qm_there vm_metAt vm_metIn qm_wins vm_nightHoles vm_nightFirst vm_nightMud vm_nightSlips vm_drawnNow h_vm_taped h_vm_at h_vm_value 12 g150 65 3 (by decide) (by unfold wn; decide) H.size) (cwV 2 hts gX12_plays_X12_winsFrom rfl rfl rfl (by decide +kernel) ⟨Nat.le_of_ble_eq_true rfl, Nat.le_of_ble_eq_true rfl⟩) (ct_preV (T := ct_T cI cJ cB cZ cO) (ci := 12) (q0 := 2) hE hH hP hD hS hA [2, 3, 1] (by decide) rfl rfl rfl) rfl rfl hl.1 rfl (lv_room (Nat.le_of_ble_eq_true rfl)) dX12_plays_60 ⟨Nat.le_of_ble_eq_true rfl, Nat.le_of_ble_eq_true rfl⟩) hP hD hS hA [2, 3, 1] [0] rfl rfl (by decide) (by decide) (fun r186 u H locs hw hP hD hS => ?_)
              obtain ⟨g187, rfl⟩ : ∃ z, z = u := ⟨_, rfl⟩
              obtain ⟨hP, hD⟩ : ct_B D A H [(qm_lines, .inl (cI, 5, .inl (fm_lines))), mo qm 0 qm_width qm_many qm_cells qm_moved qm_tape vm_taped vm_at vm_token vm_place vm_value vm_word vm_bad vm_badPlace vm_fault vm_faultPlace qm_lines qm_has qm_round qm_meets qm_stumble qm_isMud qm_cell qm_tune qm_change qm_isKept qm_steps qm_places qm_danced vm_runMost vm_runBegins qm_heardBy vm_fitMany vm_fitFirst vm_fitBeats vm_listenLeaves qm_there vm_metAt vm_metIn qm_wins vm_nightHoles vm_nightFirst vm_nightMud vm_nightSlips vm_drawnNow, (qm_meets, .inl (cI, 30, .inl (fm_meets))), (qm_wins, .inl (cI, 24576, .inl (g187)))] := ⟨hP, hD⟩
              have hz := hw
              rcases hz with ⟨hz, hz2⟩ | ⟨hz, hz2⟩
              · subst hz
                refine lv_if_ne (tgt := 68) hx hb dX12_plays_63 (by decide) (fun _ => ?_) (fun hc => absurd hc (by decide))
                refine lv_iinc (v := 4) (lv' := [(3, .int 4), (2, .int 1), (0, .ref qm), (1, .int 0)]) hx hb dX12_plays_68 hl (k := 0) rfl (by decide) (by decide) rfl (fun ls hl => ?_)
                refine lv_goto (tgt := 35) hx hb dX12_plays_71 (by decide) ?_
                have hk188 : (4 : Int32).toInt = 4 := by decide
                obtain ⟨hP9, hD9⟩ : ct_B D A H [(qm_meets, .inl (cI, 30, .inl (fm_meets))), (qm_lines, .inl (cI, 5, .inl (fm_lines))), mo qm 0 qm_width qm_many qm_cells qm_moved qm_tape vm_taped vm_at vm_token vm_place vm_value vm_word vm_bad vm_badPlace vm_fault vm_faultPlace qm_lines qm_has qm_round qm_meets qm_stumble qm_isMud qm_cell qm_tune qm_change qm_isKept qm_steps qm_places qm_danced vm_runMost vm_runBegins qm_heardBy vm_fitMany vm_fitFirst vm_fitBeats vm_listenLeaves qm_there vm_metAt vm_metIn qm_wins vm_nightHoles vm_nightFirst vm_nightMud vm_nightSlips vm_drawnNow, (qm_wins, .inl (cI, 24576, .inl (g187)))] := ⟨hP.sub [2, 0, 1, 3] rfl, hD.sub [2, 0, 1, 3] (by decide) rfl⟩
                exact ih152 (g187, (4 : Int32)) _ _ _ (show (6 - (4 : Int32).toInt).toNat < (6 - x151.toInt).toNat by omega) ⟨(show 0 ≤ (4 : Int32).toInt ∧ (4 : Int32).toInt ≤ 6 by decide), ⟨hP9, hD9⟩, hS, lv_sub hl [0, 1, 2, 3] rfl⟩
              · subst hz
                refine lv_if_ne (tgt := 68) hx hb dX12_plays_63 (by decide) (fun hc => absurd hc (by decide)) (fun _ => ?_)
                refine lv_iload_n hx hb dX12_plays_66 rfl (lv_at hl 0 rfl) ?_
                obtain ⟨hP9, hD9⟩ : ct_B D A H [mo qm 0 qm_width qm_many qm_cells qm_moved qm_tape vm_taped vm_at vm_token vm_place vm_value vm_word vm_bad vm_badPlace vm_fault vm_faultPlace qm_lines qm_has qm_round qm_meets qm_stumble qm_isMud qm_cell qm_tune qm_change qm_isKept qm_steps qm_places qm_danced vm_runMost vm_runBegins qm_heardBy vm_fitMany vm_fitFirst vm_fitBeats vm_listenLeaves qm_there vm_metAt vm_metIn qm_wins vm_nightHoles vm_nightFirst vm_nightMud vm_nightSlips vm_drawnNow, (qm_lines, .inl (cI, 5, .inl (fm_lines))), (qm_meets, .inl (cI, 30, .inl (fm_meets))), (qm_wins, .inl (cI, 24576, .inl (g187)))] := ⟨hP.sub [1, 0, 2, 3] rfl, hD.sub [1, 0, 2, 3] (by decide) rfl⟩
                exact W.iret (v := 3) hx hb hr (fun t ht hW => ⟨⟨3, ((0 : Int32), g187), rfl, (show (-2) ≤ (3 : Int32).toInt ∧ (3 : Int32).toInt ≤ 5 by decide), by rw [ht]; exact hP9, hD9⟩, hS.F ht⟩) hS.2.2 dX12_plays_67
            · subst hz
              refine lv_if_eq (tgt := 68) hx hb dX12_plays_48 (by decide) (fun _ => ?_) (fun hc => absurd hc (by decide))
              refine lv_iinc (v := 4) (lv' := [(3, .int 4), (2, .int 1), (0, .ref qm), (1, .int 0)]) hx hb dX12_plays_68 hl (k := 0) rfl (by decide) (by decide) rfl (fun ls hl => ?_)
              refine lv_goto (tgt := 35) hx hb dX12_plays_71 (by decide) ?_
              have hk189 : (4 : Int32).toInt = 4 := by decide
              obtain ⟨hP9, hD9⟩ : ct_B D A H [(qm_meets, .inl (cI, 30, .inl (fm_meets))), (qm_lines, .inl (cI, 5, .inl (fm_lines))), mo qm 0 qm_width qm_many qm_cells qm_moved qm_tape vm_taped vm_at vm_token vm_place vm_value vm_word vm_bad vm_badPlace vm_fault vm_faultPlace qm_lines qm_has qm_round qm_meets qm_stumble qm_isMud qm_cell qm_tune qm_change qm_isKept qm_steps qm_places qm_danced vm_runMost vm_runBegins qm_heardBy vm_fitMany vm_fitFirst vm_fitBeats vm_listenLeaves qm_there vm_metAt vm_metIn qm_wins vm_nightHoles vm_nightFirst vm_nightMud vm_nightSlips vm_drawnNow, (qm_wins, .inl (cI, 24576, .inl (g150)))] := ⟨hP.sub [3, 0, 2, 1] rfl, hD.sub [3, 0, 2, 1] (by decide) rfl⟩
              exact ih152 (g150, (4 : Int32)) _ _ _ (show (6 - (4 : Int32).toInt).toNat < (6 - x151.toInt).toNat by omega) ⟨(show 0 ≤ (4 : Int32).toInt ∧ (4 : Int32).toInt ≤ 6 by decide), ⟨hP9, hD9⟩, hS, lv_sub hl [0, 1, 2, 3] rfl⟩
          · have hj2 : x151 = 4 := tq_of hj (by decide)
            have hl : lv_has ls 4 [(3, .int 4), (2, .int 1), (0, .ref qm), (1, .int 0)] := by have h9 := hl; rw [hj2] at h9; exact h9
            refine lv_aload_n hx hb dX12_plays_41 rfl (lv_at hl 2 rfl) ?_
            refine lv_iload_n hx hb dX12_plays_42 rfl (lv_at hl 1 rfl) ?_
            refine lv_iload_n hx hb dX12_plays_43 rfl (lv_at hl 3 rfl) ?_
            refine lv_iload_n hx hb dX12_plays_44 rfl (lv_at hl 0 rfl) ?_
            refine ct_calli (D := D) (wr := [(qm_lines, .inl (cI, 5, .inl (fm_lines))), (qm_wins, .inl (cI, 24576, .inl (g150)))]) (va_runV (As := [.int 1, .int 0, .int 4]) (rest := []) ⟨hx, hb, hml, hown, hts⟩ (c_X12_isPlay l D G cI cJ cB cZ cO qm 0 qm_width qm_many qm_cells qm_moved qm_tape vm_taped vm_at vm_token vm_place vm_value vm_word vm_bad vm_badPlace vm_fault vm_faultPlace qm_lines qm_has qm_round qm_meets fm_meets qm_stumble qm_isMud qm_cell qm_tune qm_change qm_isKept qm_steps qm_places qm_danced vm_runMost vm_runBegins qm_heardBy vm_fitMany vm_fitFirst vm_fitBeats vm_listenLeaves qm_there vm_metAt vm_metIn qm_wins vm_nightHoles vm_nightFirst vm_nightMud vm_nightSlips vm_drawnNow 1 0 4 h_vm_taped h_vm_at h_vm_value (by decide) (by decide) H.size) (cwV 3 hts gX12_plays_X12_isPlay rfl rfl rfl (by decide +kernel) ⟨Nat.le_of_ble_eq_true rfl, Nat.le_of_ble_eq_true rfl⟩) (ct_preV (T := ct_T cI cJ cB cZ cO) (ci := 12) (q0 := 2) hE hH hP hD hS hA [2, 0] (by decide) rfl rfl rfl) rfl rfl hl.1 rfl (lv_room (Nat.le_of_ble_eq_true rfl)) dX12_plays_45 ⟨Nat.le_of_ble_eq_true rfl, Nat.le_of_ble_eq_true rfl⟩) hP hD hS hA [2, 0] [1, 3] rfl rfl (by decide) (by decide) (fun r190 u H locs hw hP hD hS => ?_)
            obtain ⟨hP, hD⟩ : ct_B D A H [(qm_lines, .inl (cI, 5, .inl (fm_lines))), (qm_wins, .inl (cI, 24576, .inl (g150))), mo qm 0 qm_width qm_many qm_cells qm_moved qm_tape vm_taped vm_at vm_token vm_place vm_value vm_word vm_bad vm_badPlace vm_fault vm_faultPlace qm_lines qm_has qm_round qm_meets qm_stumble qm_isMud qm_cell qm_tune qm_change qm_isKept qm_steps qm_places qm_danced vm_runMost vm_runBegins qm_heardBy vm_fitMany vm_fitFirst vm_fitBeats vm_listenLeaves qm_there vm_metAt vm_metIn qm_wins vm_nightHoles vm_nightFirst vm_nightMud vm_nightSlips vm_drawnNow, (qm_meets, .inl (cI, 30, .inl (fm_meets)))] := ⟨hP, hD⟩
            have hz := hw
            rcases hz with ⟨hz, hz2⟩ | ⟨hz, hz2⟩
            · subst hz
              have hz_191 : (pl (1 : Int32) (4 : Int32)) := hz2
              refine lv_if_eq (tgt := 68) hx hb dX12_plays_48 (by decide) (fun hc => absurd hc (by decide)) (fun _ => ?_)
              refine lv_aload_n hx hb dX12_plays_51 rfl (lv_at hl 2 rfl) ?_
              refine lv_iload_n hx hb dX12_plays_52 rfl (lv_at hl 1 rfl) ?_
              refine lv_iconst (v := 1) hx hb dX12_plays_53 (by decide) ?_
              refine lv_iconst (v := 2) hx hb dX12_plays_54 (by decide) ?_
              refine lv_iload_n hx hb dX12_plays_55 rfl (lv_at hl 0 rfl) ?_
              refine lv_imul hx hb dX12_plays_56 ?_
              refine lv_topi (fun z192 ez192 => ?_)
              obtain rfl : z192 = 8 := ez192.trans (by decide)
              refine lv_ishl hx hb dX12_plays_57 ?_
              refine lv_topi (fun z193 ez193 => ?_)
              obtain rfl : z193 = 256 := ez193.trans (by decide)
              refine lv_iadd hx hb dX12_plays_58 ?_
              refine lv_topi (fun z194 ez194 => ?_)
              obtain rfl : z194 = 257 := ez194.trans (by decide)
              refine lv_iload_n hx hb dX12_plays_59 rfl (lv_at hl 0 rfl) ?_
              refine ct_calli (D := D) (wr := [(qm_lines, .inl (cI, 5, .inl (fm_lines)))]) (va_runV (As := [.int 257, .int 4]) (rest := []) ⟨hx, hb, hml, hown, hts⟩ (c_X12_winsFrom l D G cI cJ cB cZ cO qm 0 qm_width qm_many qm_cells qm_moved qm_tape vm_taped vm_at vm_token vm_place vm_value vm_word vm_bad vm_badPlace vm_fault vm_faultPlace qm_lines qm_has qm_round qm_meets fm_meets qm_stumble qm_isMud qm_cell qm_tune qm_change qm_isKept qm_steps qm_places qm_danced vm_runMost vm_runBegins qm_heardBy vm_fitMany vm_fitFirst vm_fitBeats vm_listenLeaves qm_there vm_metAt vm_metIn qm_wins vm_nightHoles vm_nightFirst vm_nightMud vm_nightSlips vm_drawnNow h_vm_taped h_vm_at h_vm_value 12 g150 257 4 (by decide) (by unfold wn; decide) H.size) (cwV 2 hts gX12_plays_X12_winsFrom rfl rfl rfl (by decide +kernel) ⟨Nat.le_of_ble_eq_true rfl, Nat.le_of_ble_eq_true rfl⟩) (ct_preV (T := ct_T cI cJ cB cZ cO) (ci := 12) (q0 := 2) hE hH hP hD hS hA [2, 3, 1] (by decide) rfl rfl rfl) rfl rfl hl.1 rfl (lv_room (Nat.le_of_ble_eq_true rfl)) dX12_plays_60 ⟨Nat.le_of_ble_eq_true rfl, Nat.le_of_ble_eq_true rfl⟩) hP hD hS hA [2, 3, 1] [0] rfl rfl (by decide) (by decide) (fun r195 u H locs hw hP hD hS => ?_)
              obtain ⟨g196, rfl⟩ : ∃ z, z = u := ⟨_, rfl⟩
              obtain ⟨hP, hD⟩ : ct_B D A H [(qm_lines, .inl (cI, 5, .inl (fm_lines))), mo qm 0 qm_width qm_many qm_cells qm_moved qm_tape vm_taped vm_at vm_token vm_place vm_value vm_word vm_bad vm_badPlace vm_fault vm_faultPlace qm_lines qm_has qm_round qm_meets qm_stumble qm_isMud qm_cell qm_tune qm_change qm_isKept qm_steps qm_places qm_danced vm_runMost vm_runBegins qm_heardBy vm_fitMany vm_fitFirst vm_fitBeats vm_listenLeaves qm_there vm_metAt vm_metIn qm_wins vm_nightHoles vm_nightFirst vm_nightMud vm_nightSlips vm_drawnNow, (qm_meets, .inl (cI, 30, .inl (fm_meets))), (qm_wins, .inl (cI, 24576, .inl (g196)))] := ⟨hP, hD⟩
              have hz := hw
              rcases hz with ⟨hz, hz2⟩ | ⟨hz, hz2⟩
              · subst hz
                refine lv_if_ne (tgt := 68) hx hb dX12_plays_63 (by decide) (fun _ => ?_) (fun hc => absurd hc (by decide))
                refine lv_iinc (v := 5) (lv' := [(3, .int 5), (2, .int 1), (0, .ref qm), (1, .int 0)]) hx hb dX12_plays_68 hl (k := 0) rfl (by decide) (by decide) rfl (fun ls hl => ?_)
                refine lv_goto (tgt := 35) hx hb dX12_plays_71 (by decide) ?_
                have hk197 : (5 : Int32).toInt = 5 := by decide
                obtain ⟨hP9, hD9⟩ : ct_B D A H [(qm_meets, .inl (cI, 30, .inl (fm_meets))), (qm_lines, .inl (cI, 5, .inl (fm_lines))), mo qm 0 qm_width qm_many qm_cells qm_moved qm_tape vm_taped vm_at vm_token vm_place vm_value vm_word vm_bad vm_badPlace vm_fault vm_faultPlace qm_lines qm_has qm_round qm_meets qm_stumble qm_isMud qm_cell qm_tune qm_change qm_isKept qm_steps qm_places qm_danced vm_runMost vm_runBegins qm_heardBy vm_fitMany vm_fitFirst vm_fitBeats vm_listenLeaves qm_there vm_metAt vm_metIn qm_wins vm_nightHoles vm_nightFirst vm_nightMud vm_nightSlips vm_drawnNow, (qm_wins, .inl (cI, 24576, .inl (g196)))] := ⟨hP.sub [2, 0, 1, 3] rfl, hD.sub [2, 0, 1, 3] (by decide) rfl⟩
                exact ih152 (g196, (5 : Int32)) _ _ _ (show (6 - (5 : Int32).toInt).toNat < (6 - x151.toInt).toNat by omega) ⟨(show 0 ≤ (5 : Int32).toInt ∧ (5 : Int32).toInt ≤ 6 by decide), ⟨hP9, hD9⟩, hS, lv_sub hl [0, 1, 2, 3] rfl⟩
              · subst hz
                refine lv_if_ne (tgt := 68) hx hb dX12_plays_63 (by decide) (fun hc => absurd hc (by decide)) (fun _ => ?_)
                refine lv_iload_n hx hb dX12_plays_66 rfl (lv_at hl 0 rfl) ?_
                obtain ⟨hP9, hD9⟩ : ct_B D A H [mo qm 0 qm_width qm_many qm_cells qm_moved qm_tape vm_taped vm_at vm_token vm_place vm_value vm_word vm_bad vm_badPlace vm_fault vm_faultPlace qm_lines qm_has qm_round qm_meets qm_stumble qm_isMud qm_cell qm_tune qm_change qm_isKept qm_steps qm_places qm_danced vm_runMost vm_runBegins qm_heardBy vm_fitMany vm_fitFirst vm_fitBeats vm_listenLeaves qm_there vm_metAt vm_metIn qm_wins vm_nightHoles vm_nightFirst vm_nightMud vm_nightSlips vm_drawnNow, (qm_lines, .inl (cI, 5, .inl (fm_lines))), (qm_meets, .inl (cI, 30, .inl (fm_meets))), (qm_wins, .inl (cI, 24576, .inl (g196)))] := ⟨hP.sub [1, 0, 2, 3] rfl, hD.sub [1, 0, 2, 3] (by decide) rfl⟩
                exact W.iret (v := 4) hx hb hr (fun t ht hW => ⟨⟨4, ((0 : Int32), g196), rfl, (show (-2) ≤ (4 : Int32).toInt ∧ (4 : Int32).toInt ≤ 5 by decide), by rw [ht]; exact hP9, hD9⟩, hS.F ht⟩) hS.2.2 dX12_plays_67
            · subst hz
              refine lv_if_eq (tgt := 68) hx hb dX12_plays_48 (by decide) (fun _ => ?_) (fun hc => absurd hc (by decide))
              refine lv_iinc (v := 5) (lv' := [(3, .int 5), (2, .int 1), (0, .ref qm), (1, .int 0)]) hx hb dX12_plays_68 hl (k := 0) rfl (by decide) (by decide) rfl (fun ls hl => ?_)
              refine lv_goto (tgt := 35) hx hb dX12_plays_71 (by decide) ?_
              have hk198 : (5 : Int32).toInt = 5 := by decide
              obtain ⟨hP9, hD9⟩ : ct_B D A H [(qm_meets, .inl (cI, 30, .inl (fm_meets))), (qm_lines, .inl (cI, 5, .inl (fm_lines))), mo qm 0 qm_width qm_many qm_cells qm_moved qm_tape vm_taped vm_at vm_token vm_place vm_value vm_word vm_bad vm_badPlace vm_fault vm_faultPlace qm_lines qm_has qm_round qm_meets qm_stumble qm_isMud qm_cell qm_tune qm_change qm_isKept qm_steps qm_places qm_danced vm_runMost vm_runBegins qm_heardBy vm_fitMany vm_fitFirst vm_fitBeats vm_listenLeaves qm_there vm_metAt vm_metIn qm_wins vm_nightHoles vm_nightFirst vm_nightMud vm_nightSlips vm_drawnNow, (qm_wins, .inl (cI, 24576, .inl (g150)))] := ⟨hP.sub [3, 0, 2, 1] rfl, hD.sub [3, 0, 2, 1] (by decide) rfl⟩
              exact ih152 (g150, (5 : Int32)) _ _ _ (show (6 - (5 : Int32).toInt).toNat < (6 - x151.toInt).toNat by omega) ⟨(show 0 ≤ (5 : Int32).toInt ∧ (5 : Int32).toInt ≤ 6 by decide), ⟨hP9, hD9⟩, hS, lv_sub hl [0, 1, 2, 3] rfl⟩
          · have hj2 : x151 = 5 := tq_of hj (by decide)
            have hl : lv_has ls 4 [(3, .int 5), (2, .int 1), (0, .ref qm), (1, .int 0)] := by have h9 := hl; rw [hj2] at h9; exact h9
            refine lv_aload_n hx hb dX12_plays_41 rfl (lv_at hl 2 rfl) ?_
            refine lv_iload_n hx hb dX12_plays_42 rfl (lv_at hl 1 rfl) ?_
            refine lv_iload_n hx hb dX12_plays_43 rfl (lv_at hl 3 rfl) ?_
            refine lv_iload_n hx hb dX12_plays_44 rfl (lv_at hl 0 rfl) ?_
            refine ct_calli (D := D) (wr := [(qm_lines, .inl (cI, 5, .inl (fm_lines))), (qm_wins, .inl (cI, 24576, .inl (g150)))]) (va_runV (As := [.int 1, .int 0, .int 5]) (rest := []) ⟨hx, hb, hml, hown, hts⟩ (c_X12_isPlay l D G cI cJ cB cZ cO qm 0 qm_width qm_many qm_cells qm_moved qm_tape vm_taped vm_at vm_token vm_place vm_value vm_word vm_bad vm_badPlace vm_fault vm_faultPlace qm_lines qm_has qm_round qm_meets fm_meets qm_stumble qm_isMud qm_cell qm_tune qm_change qm_isKept qm_steps qm_places qm_danced vm_runMost vm_runBegins qm_heardBy vm_fitMany vm_fitFirst vm_fitBeats vm_listenLeaves qm_there vm_metAt vm_metIn qm_wins vm_nightHoles vm_nightFirst vm_nightMud vm_nightSlips vm_drawnNow 1 0 5 h_vm_taped h_vm_at h_vm_value (by decide) (by decide) H.size) (cwV 3 hts gX12_plays_X12_isPlay rfl rfl rfl (by decide +kernel) ⟨Nat.le_of_ble_eq_true rfl, Nat.le_of_ble_eq_true rfl⟩) (ct_preV (T := ct_T cI cJ cB cZ cO) (ci := 12) (q0 := 2) hE hH hP hD hS hA [2, 0] (by decide) rfl rfl rfl) rfl rfl hl.1 rfl (lv_room (Nat.le_of_ble_eq_true rfl)) dX12_plays_45 ⟨Nat.le_of_ble_eq_true rfl, Nat.le_of_ble_eq_true rfl⟩) hP hD hS hA [2, 0] [1, 3] rfl rfl (by decide) (by decide) (fun r199 u H locs hw hP hD hS => ?_)
            obtain ⟨hP, hD⟩ : ct_B D A H [(qm_lines, .inl (cI, 5, .inl (fm_lines))), (qm_wins, .inl (cI, 24576, .inl (g150))), mo qm 0 qm_width qm_many qm_cells qm_moved qm_tape vm_taped vm_at vm_token vm_place vm_value vm_word vm_bad vm_badPlace vm_fault vm_faultPlace qm_lines qm_has qm_round qm_meets qm_stumble qm_isMud qm_cell qm_tune qm_change qm_isKept qm_steps qm_places qm_danced vm_runMost vm_runBegins qm_heardBy vm_fitMany vm_fitFirst vm_fitBeats vm_listenLeaves qm_there vm_metAt vm_metIn qm_wins vm_nightHoles vm_nightFirst vm_nightMud vm_nightSlips vm_drawnNow, (qm_meets, .inl (cI, 30, .inl (fm_meets)))] := ⟨hP, hD⟩
            have hz := hw
            rcases hz with ⟨hz, hz2⟩ | ⟨hz, hz2⟩
            · subst hz
              have hz_200 : (pl (1 : Int32) (5 : Int32)) := hz2
              refine lv_if_eq (tgt := 68) hx hb dX12_plays_48 (by decide) (fun hc => absurd hc (by decide)) (fun _ => ?_)
              refine lv_aload_n hx hb dX12_plays_51 rfl (lv_at hl 2 rfl) ?_
              refine lv_iload_n hx hb dX12_plays_52 rfl (lv_at hl 1 rfl) ?_
              refine lv_iconst (v := 1) hx hb dX12_plays_53 (by decide) ?_
              refine lv_iconst (v := 2) hx hb dX12_plays_54 (by decide) ?_
              refine lv_iload_n hx hb dX12_plays_55 rfl (lv_at hl 0 rfl) ?_
              refine lv_imul hx hb dX12_plays_56 ?_
              refine lv_topi (fun z201 ez201 => ?_)
              obtain rfl : z201 = 10 := ez201.trans (by decide)
              refine lv_ishl hx hb dX12_plays_57 ?_
              refine lv_topi (fun z202 ez202 => ?_)
              obtain rfl : z202 = 1024 := ez202.trans (by decide)
              refine lv_iadd hx hb dX12_plays_58 ?_
              refine lv_topi (fun z203 ez203 => ?_)
              obtain rfl : z203 = 1025 := ez203.trans (by decide)
              refine lv_iload_n hx hb dX12_plays_59 rfl (lv_at hl 0 rfl) ?_
              refine ct_calli (D := D) (wr := [(qm_lines, .inl (cI, 5, .inl (fm_lines)))]) (va_runV (As := [.int 1025, .int 5]) (rest := []) ⟨hx, hb, hml, hown, hts⟩ (c_X12_winsFrom l D G cI cJ cB cZ cO qm 0 qm_width qm_many qm_cells qm_moved qm_tape vm_taped vm_at vm_token vm_place vm_value vm_word vm_bad vm_badPlace vm_fault vm_faultPlace qm_lines qm_has qm_round qm_meets fm_meets qm_stumble qm_isMud qm_cell qm_tune qm_change qm_isKept qm_steps qm_places qm_danced vm_runMost vm_runBegins qm_heardBy vm_fitMany vm_fitFirst vm_fitBeats vm_listenLeaves qm_there vm_metAt vm_metIn qm_wins vm_nightHoles vm_nightFirst vm_nightMud vm_nightSlips vm_drawnNow h_vm_taped h_vm_at h_vm_value 12 g150 1025 5 (by decide) (by unfold wn; decide) H.size) (cwV 2 hts gX12_plays_X12_winsFrom rfl rfl rfl (by decide +kernel) ⟨Nat.le_of_ble_eq_true rfl, Nat.le_of_ble_eq_true rfl⟩) (ct_preV (T := ct_T cI cJ cB cZ cO) (ci := 12) (q0 := 2) hE hH hP hD hS hA [2, 3, 1] (by decide) rfl rfl rfl) rfl rfl hl.1 rfl (lv_room (Nat.le_of_ble_eq_true rfl)) dX12_plays_60 ⟨Nat.le_of_ble_eq_true rfl, Nat.le_of_ble_eq_true rfl⟩) hP hD hS hA [2, 3, 1] [0] rfl rfl (by decide) (by decide) (fun r204 u H locs hw hP hD hS => ?_)
              obtain ⟨g205, rfl⟩ : ∃ z, z = u := ⟨_, rfl⟩
              obtain ⟨hP, hD⟩ : ct_B D A H [(qm_lines, .inl (cI, 5, .inl (fm_lines))), mo qm 0 qm_width qm_many qm_cells qm_moved qm_tape vm_taped vm_at vm_token vm_place vm_value vm_word vm_bad vm_badPlace vm_fault vm_faultPlace qm_lines qm_has qm_round qm_meets qm_stumble qm_isMud qm_cell qm_tune qm_change qm_isKept qm_steps qm_places qm_danced vm_runMost vm_runBegins qm_heardBy vm_fitMany vm_fitFirst vm_fitBeats vm_listenLeaves qm_there vm_metAt vm_metIn qm_wins vm_nightHoles vm_nightFirst vm_nightMud vm_nightSlips vm_drawnNow, (qm_meets, .inl (cI, 30, .inl (fm_meets))), (qm_wins, .inl (cI, 24576, .inl (g205)))] := ⟨hP, hD⟩
              have hz := hw
              rcases hz with ⟨hz, hz2⟩ | ⟨hz, hz2⟩
              · subst hz
                refine lv_if_ne (tgt := 68) hx hb dX12_plays_63 (by decide) (fun _ => ?_) (fun hc => absurd hc (by decide))
                refine lv_iinc (v := 6) (lv' := [(3, .int 6), (2, .int 1), (0, .ref qm), (1, .int 0)]) hx hb dX12_plays_68 hl (k := 0) rfl (by decide) (by decide) rfl (fun ls hl => ?_)
                refine lv_goto (tgt := 35) hx hb dX12_plays_71 (by decide) ?_
                have hk206 : (6 : Int32).toInt = 6 := by decide
                obtain ⟨hP9, hD9⟩ : ct_B D A H [(qm_meets, .inl (cI, 30, .inl (fm_meets))), (qm_lines, .inl (cI, 5, .inl (fm_lines))), mo qm 0 qm_width qm_many qm_cells qm_moved qm_tape vm_taped vm_at vm_token vm_place vm_value vm_word vm_bad vm_badPlace vm_fault vm_faultPlace qm_lines qm_has qm_round qm_meets qm_stumble qm_isMud qm_cell qm_tune qm_change qm_isKept qm_steps qm_places qm_danced vm_runMost vm_runBegins qm_heardBy vm_fitMany vm_fitFirst vm_fitBeats vm_listenLeaves qm_there vm_metAt vm_metIn qm_wins vm_nightHoles vm_nightFirst vm_nightMud vm_nightSlips vm_drawnNow, (qm_wins, .inl (cI, 24576, .inl (g205)))] := ⟨hP.sub [2, 0, 1, 3] rfl, hD.sub [2, 0, 1, 3] (by decide) rfl⟩
                exact ih152 (g205, (6 : Int32)) _ _ _ (show (6 - (6 : Int32).toInt).toNat < (6 - x151.toInt).toNat by omega) ⟨(show 0 ≤ (6 : Int32).toInt ∧ (6 : Int32).toInt ≤ 6 by decide), ⟨hP9, hD9⟩, hS, lv_sub hl [0, 1, 2, 3] rfl⟩
              · subst hz
                refine lv_if_ne (tgt := 68) hx hb dX12_plays_63 (by decide) (fun hc => absurd hc (by decide)) (fun _ => ?_)
                refine lv_iload_n hx hb dX12_plays_66 rfl (lv_at hl 0 rfl) ?_
                obtain ⟨hP9, hD9⟩ : ct_B D A H [mo qm 0 qm_width qm_many qm_cells qm_moved qm_tape vm_taped vm_at vm_token vm_place vm_value vm_word vm_bad vm_badPlace vm_fault vm_faultPlace qm_lines qm_has qm_round qm_meets qm_stumble qm_isMud qm_cell qm_tune qm_change qm_isKept qm_steps qm_places qm_danced vm_runMost vm_runBegins qm_heardBy vm_fitMany vm_fitFirst vm_fitBeats vm_listenLeaves qm_there vm_metAt vm_metIn qm_wins vm_nightHoles vm_nightFirst vm_nightMud vm_nightSlips vm_drawnNow, (qm_lines, .inl (cI, 5, .inl (fm_lines))), (qm_meets, .inl (cI, 30, .inl (fm_meets))), (qm_wins, .inl (cI, 24576, .inl (g205)))] := ⟨hP.sub [1, 0, 2, 3] rfl, hD.sub [1, 0, 2, 3] (by decide) rfl⟩
                exact W.iret (v := 5) hx hb hr (fun t ht hW => ⟨⟨5, ((0 : Int32), g205), rfl, (show (-2) ≤ (5 : Int32).toInt ∧ (5 : Int32).toInt ≤ 5 by decide), by rw [ht]; exact hP9, hD9⟩, hS.F ht⟩) hS.2.2 dX12_plays_67
            · subst hz
              refine lv_if_eq (tgt := 68) hx hb dX12_plays_48 (by decide) (fun _ => ?_) (fun hc => absurd hc (by decide))
              refine lv_iinc (v := 6) (lv' := [(3, .int 6), (2, .int 1), (0, .ref qm), (1, .int 0)]) hx hb dX12_plays_68 hl (k := 0) rfl (by decide) (by decide) rfl (fun ls hl => ?_)
              refine lv_goto (tgt := 35) hx hb dX12_plays_71 (by decide) ?_
              have hk207 : (6 : Int32).toInt = 6 := by decide
              obtain ⟨hP9, hD9⟩ : ct_B D A H [(qm_meets, .inl (cI, 30, .inl (fm_meets))), (qm_lines, .inl (cI, 5, .inl (fm_lines))), mo qm 0 qm_width qm_many qm_cells qm_moved qm_tape vm_taped vm_at vm_token vm_place vm_value vm_word vm_bad vm_badPlace vm_fault vm_faultPlace qm_lines qm_has qm_round qm_meets qm_stumble qm_isMud qm_cell qm_tune qm_change qm_isKept qm_steps qm_places qm_danced vm_runMost vm_runBegins qm_heardBy vm_fitMany vm_fitFirst vm_fitBeats vm_listenLeaves qm_there vm_metAt vm_metIn qm_wins vm_nightHoles vm_nightFirst vm_nightMud vm_nightSlips vm_drawnNow, (qm_wins, .inl (cI, 24576, .inl (g150)))] := ⟨hP.sub [3, 0, 2, 1] rfl, hD.sub [3, 0, 2, 1] (by decide) rfl⟩
              exact ih152 (g150, (6 : Int32)) _ _ _ (show (6 - (6 : Int32).toInt).toNat < (6 - x151.toInt).toNat by omega) ⟨(show 0 ≤ (6 : Int32).toInt ∧ (6 : Int32).toInt ≤ 6 by decide), ⟨hP9, hD9⟩, hS, lv_sub hl [0, 1, 2, 3] rfl⟩
      · have hj2 : a1 = 1 := tq_of hj (by decide)
        have hl : lv_has ls 4 [(0, .ref qm), (1, .int 1)] := by have h9 := hl; rw [hj2] at h9; exact h9
        refine lv_iconst (v := 1) hx hb dX12_plays_27 (by decide) ?_
        refine lv_iconst (v := 2) hx hb dX12_plays_28 (by decide) ?_
        refine lv_iload_n hx hb dX12_plays_29 rfl (lv_at hl 1 rfl) ?_
        refine lv_imul hx hb dX12_plays_30 ?_
        refine lv_topi (fun z208 ez208 => ?_)
        obtain rfl : z208 = 2 := ez208.trans (by decide)
        refine lv_ishl hx hb dX12_plays_31 ?_
        refine lv_topi (fun z209 ez209 => ?_)
        obtain rfl : z209 = 4 := ez209.trans (by decide)
        refine lv_istore_n (lv' := [(2, .int 4), (0, .ref qm), (1, .int 1)]) hx hb dX12_plays_32 rfl hl (by decide) rfl (fun ls hl => ?_)
        refine lv_iconst (v := 0) hx hb dX12_plays_33 (by decide) ?_
        refine lv_istore_n (lv' := [(3, .int 0), (2, .int 4), (0, .ref qm), (1, .int 1)]) hx hb dX12_plays_34 rfl hl (by decide) rfl (fun ls hl => ?_)
        refine ct_loop (X := (Nat → Int32) × Int32) (fun x => (6 - x.2.toInt).toNat) (fun x H locs ls => ((0 ≤ x.2.toInt ∧ x.2.toInt ≤ 6)) ∧ ct_B D A H [(qm_meets, .inl (cI, 30, .inl (fm_meets))), (qm_lines, .inl (cI, 5, .inl (fm_lines))), mo qm 0 qm_width qm_many qm_cells qm_moved qm_tape vm_taped vm_at vm_token vm_place vm_value vm_word vm_bad vm_badPlace vm_fault vm_faultPlace qm_lines qm_has qm_round qm_meets qm_stumble qm_isMud qm_cell qm_tune qm_change qm_isKept qm_steps qm_places qm_danced vm_runMost vm_runBegins qm_heardBy vm_fitMany vm_fitFirst vm_fitBeats vm_listenLeaves qm_there vm_metAt vm_metIn qm_wins vm_nightHoles vm_nightFirst vm_nightMud vm_nightSlips vm_drawnNow, (qm_wins, .inl (cI, 24576, .inl (x.1)))] ∧ va_S A s.heap H locs ∧ lv_has ls 4 [(3, .int x.2), (2, .int 4), (0, .ref qm), (1, .int 1)]) 35 (g5, (0 : Int32)) ⟨(show 0 ≤ (0 : Int32).toInt ∧ (0 : Int32).toInt ≤ 6 by decide), ⟨hP, hD⟩, hS, lv_sub hl [0, 1, 2, 3] rfl⟩ (fun x ih354 H locs ls hI => ?_)
        obtain ⟨g352, x353⟩ := x
        obtain ⟨h_x353, ⟨hP, hD⟩, hS, hl⟩ := hI
        have h_x353 : (0 ≤ x353.toInt ∧ x353.toInt ≤ 6) := h_x353
        obtain ⟨hP, hD⟩ : ct_B D A H [(qm_meets, .inl (cI, 30, .inl (fm_meets))), (qm_lines, .inl (cI, 5, .inl (fm_lines))), mo qm 0 qm_width qm_many qm_cells qm_moved qm_tape vm_taped vm_at vm_token vm_place vm_value vm_word vm_bad vm_badPlace vm_fault vm_faultPlace qm_lines qm_has qm_round qm_meets qm_stumble qm_isMud qm_cell qm_tune qm_change qm_isKept qm_steps qm_places qm_danced vm_runMost vm_runBegins qm_heardBy vm_fitMany vm_fitFirst vm_fitBeats vm_listenLeaves qm_there vm_metAt vm_metIn qm_wins vm_nightHoles vm_nightFirst vm_nightMud vm_nightSlips vm_drawnNow, (qm_wins, .inl (cI, 24576, .inl (g352)))] := ⟨hP, hD⟩
        have hl : lv_has ls 4 [(3, .int x353), (2, .int 4), (0, .ref qm), (1, .int 1)] := hl
        refine lv_iload_n hx hb dX12_plays_35 rfl (lv_at hl 0 rfl) ?_
        refine lv_bipush (v := 6) hx hb dX12_plays_36 (by decide) ?_
        refine lv_icmp_ge (tgt := 74) hx hb dX12_plays_38 (by decide) (fun hc => ?_) (fun hc => ?_)
        · have hq355 : 6 ≤ x353.toInt := tq_le (by decide) rfl hc
          refine lv_iconst (v := (-1)) hx hb dX12_plays_74 (by decide) ?_
          obtain ⟨hP9, hD9⟩ : ct_B D A H [mo qm 0 qm_width qm_many qm_cells qm_moved qm_tape vm_taped vm_at vm_token vm_place vm_value vm_word vm_bad vm_badPlace vm_fault vm_faultPlace qm_lines qm_has qm_round qm_meets qm_stumble qm_isMud qm_cell qm_tune qm_change qm_isKept qm_steps qm_places qm_danced vm_runMost vm_runBegins qm_heardBy vm_fitMany vm_fitFirst vm_fitBeats vm_listenLeaves qm_there vm_metAt vm_metIn qm_wins vm_nightHoles vm_nightFirst vm_nightMud vm_nightSlips vm_drawnNow, (qm_lines, .inl (cI, 5, .inl (fm_lines))), (qm_meets, .inl (cI, 30, .inl (fm_meets))), (qm_wins, .inl (cI, 24576, .inl (g352)))] := ⟨hP.sub [2, 1, 0, 3] rfl, hD.sub [2, 1, 0, 3] (by decide) rfl⟩
          exact W.iret (v := (-1)) hx hb hr (fun t ht hW => ⟨⟨(-1), ((0 : Int32), g352), rfl, (show (-2) ≤ (-1 : Int32).toInt ∧ (-1 : Int32).toInt ≤ 5 by decide), by rw [ht]; exact hP9, hD9⟩, hS.F ht⟩) hS.2.2 dX12_plays_75
        · have hq355 : x353.toInt < 6 := tq_nle (by decide) rfl hc
          rcases (show x353.toInt = 0 ∨ x353.toInt = 1 ∨ x353.toInt = 2 ∨ x353.toInt = 3 ∨ x353.toInt = 4 ∨ x353.toInt = 5 by omega) with hj | hj | hj | hj | hj | hj
          · have hj2 : x353 = 0 := tq_of hj (by decide)
            have hl : lv_has ls 4 [(3, .int 0), (2, .int 4), (0, .ref qm), (1, .int 1)] := by have h9 := hl; rw [hj2] at h9; exact h9
            refine lv_aload_n hx hb dX12_plays_41 rfl (lv_at hl 2 rfl) ?_
            refine lv_iload_n hx hb dX12_plays_42 rfl (lv_at hl 1 rfl) ?_
            refine lv_iload_n hx hb dX12_plays_43 rfl (lv_at hl 3 rfl) ?_
            refine lv_iload_n hx hb dX12_plays_44 rfl (lv_at hl 0 rfl) ?_
            refine ct_calli (D := D) (wr := [(qm_lines, .inl (cI, 5, .inl (fm_lines))), (qm_wins, .inl (cI, 24576, .inl (g352)))]) (va_runV (As := [.int 4, .int 1, .int 0]) (rest := []) ⟨hx, hb, hml, hown, hts⟩ (c_X12_isPlay l D G cI cJ cB cZ cO qm 0 qm_width qm_many qm_cells qm_moved qm_tape vm_taped vm_at vm_token vm_place vm_value vm_word vm_bad vm_badPlace vm_fault vm_faultPlace qm_lines qm_has qm_round qm_meets fm_meets qm_stumble qm_isMud qm_cell qm_tune qm_change qm_isKept qm_steps qm_places qm_danced vm_runMost vm_runBegins qm_heardBy vm_fitMany vm_fitFirst vm_fitBeats vm_listenLeaves qm_there vm_metAt vm_metIn qm_wins vm_nightHoles vm_nightFirst vm_nightMud vm_nightSlips vm_drawnNow 4 1 0 h_vm_taped h_vm_at h_vm_value (by decide) (by decide) H.size) (cwV 3 hts gX12_plays_X12_isPlay rfl rfl rfl (by decide +kernel) ⟨Nat.le_of_ble_eq_true rfl, Nat.le_of_ble_eq_true rfl⟩) (ct_preV (T := ct_T cI cJ cB cZ cO) (ci := 12) (q0 := 2) hE hH hP hD hS hA [2, 0] (by decide) rfl rfl rfl) rfl rfl hl.1 rfl (lv_room (Nat.le_of_ble_eq_true rfl)) dX12_plays_45 ⟨Nat.le_of_ble_eq_true rfl, Nat.le_of_ble_eq_true rfl⟩) hP hD hS hA [2, 0] [1, 3] rfl rfl (by decide) (by decide) (fun r356 u H locs hw hP hD hS => ?_)
            obtain ⟨hP, hD⟩ : ct_B D A H [(qm_lines, .inl (cI, 5, .inl (fm_lines))), (qm_wins, .inl (cI, 24576, .inl (g352))), mo qm 0 qm_width qm_many qm_cells qm_moved qm_tape vm_taped vm_at vm_token vm_place vm_value vm_word vm_bad vm_badPlace vm_fault vm_faultPlace qm_lines qm_has qm_round qm_meets qm_stumble qm_isMud qm_cell qm_tune qm_change qm_isKept qm_steps qm_places qm_danced vm_runMost vm_runBegins qm_heardBy vm_fitMany vm_fitFirst vm_fitBeats vm_listenLeaves qm_there vm_metAt vm_metIn qm_wins vm_nightHoles vm_nightFirst vm_nightMud vm_nightSlips vm_drawnNow, (qm_meets, .inl (cI, 30, .inl (fm_meets)))] := ⟨hP, hD⟩
            have hz := hw
            rcases hz with ⟨hz, hz2⟩ | ⟨hz, hz2⟩
            · subst hz
              have hz_357 : (pl (4 : Int32) (0 : Int32)) := hz2
              refine lv_if_eq (tgt := 68) hx hb dX12_plays_48 (by decide) (fun hc => absurd hc (by decide)) (fun _ => ?_)
              refine lv_aload_n hx hb dX12_plays_51 rfl (lv_at hl 2 rfl) ?_
              refine lv_iload_n hx hb dX12_plays_52 rfl (lv_at hl 1 rfl) ?_
              refine lv_iconst (v := 1) hx hb dX12_plays_53 (by decide) ?_
              refine lv_iconst (v := 2) hx hb dX12_plays_54 (by decide) ?_
              refine lv_iload_n hx hb dX12_plays_55 rfl (lv_at hl 0 rfl) ?_
              refine lv_imul hx hb dX12_plays_56 ?_
              refine lv_topi (fun z358 ez358 => ?_)
              obtain rfl : z358 = 0 := ez358.trans (by decide)
              refine lv_ishl hx hb dX12_plays_57 ?_
              refine lv_topi (fun z359 ez359 => ?_)
              obtain rfl : z359 = 1 := ez359.trans (by decide)
              refine lv_iadd hx hb dX12_plays_58 ?_
              refine lv_topi (fun z360 ez360 => ?_)
              obtain rfl : z360 = 5 := ez360.trans (by decide)
              refine lv_iload_n hx hb dX12_plays_59 rfl (lv_at hl 0 rfl) ?_
              refine ct_calli (D := D) (wr := [(qm_lines, .inl (cI, 5, .inl (fm_lines)))]) (va_runV (As := [.int 5, .int 0]) (rest := []) ⟨hx, hb, hml, hown, hts⟩ (c_X12_winsFrom l D G cI cJ cB cZ cO qm 0 qm_width qm_many qm_cells qm_moved qm_tape vm_taped vm_at vm_token vm_place vm_value vm_word vm_bad vm_badPlace vm_fault vm_faultPlace qm_lines qm_has qm_round qm_meets fm_meets qm_stumble qm_isMud qm_cell qm_tune qm_change qm_isKept qm_steps qm_places qm_danced vm_runMost vm_runBegins qm_heardBy vm_fitMany vm_fitFirst vm_fitBeats vm_listenLeaves qm_there vm_metAt vm_metIn qm_wins vm_nightHoles vm_nightFirst vm_nightMud vm_nightSlips vm_drawnNow h_vm_taped h_vm_at h_vm_value 12 g352 5 0 (by decide) (by unfold wn; decide) H.size) (cwV 2 hts gX12_plays_X12_winsFrom rfl rfl rfl (by decide +kernel) ⟨Nat.le_of_ble_eq_true rfl, Nat.le_of_ble_eq_true rfl⟩) (ct_preV (T := ct_T cI cJ cB cZ cO) (ci := 12) (q0 := 2) hE hH hP hD hS hA [2, 3, 1] (by decide) rfl rfl rfl) rfl rfl hl.1 rfl (lv_room (Nat.le_of_ble_eq_true rfl)) dX12_plays_60 ⟨Nat.le_of_ble_eq_true rfl, Nat.le_of_ble_eq_true rfl⟩) hP hD hS hA [2, 3, 1] [0] rfl rfl (by decide) (by decide) (fun r361 u H locs hw hP hD hS => ?_)
              obtain ⟨g362, rfl⟩ : ∃ z, z = u := ⟨_, rfl⟩
              obtain ⟨hP, hD⟩ : ct_B D A H [(qm_lines, .inl (cI, 5, .inl (fm_lines))), mo qm 0 qm_width qm_many qm_cells qm_moved qm_tape vm_taped vm_at vm_token vm_place vm_value vm_word vm_bad vm_badPlace vm_fault vm_faultPlace qm_lines qm_has qm_round qm_meets qm_stumble qm_isMud qm_cell qm_tune qm_change qm_isKept qm_steps qm_places qm_danced vm_runMost vm_runBegins qm_heardBy vm_fitMany vm_fitFirst vm_fitBeats vm_listenLeaves qm_there vm_metAt vm_metIn qm_wins vm_nightHoles vm_nightFirst vm_nightMud vm_nightSlips vm_drawnNow, (qm_meets, .inl (cI, 30, .inl (fm_meets))), (qm_wins, .inl (cI, 24576, .inl (g362)))] := ⟨hP, hD⟩
              have hz := hw
              rcases hz with ⟨hz, hz2⟩ | ⟨hz, hz2⟩
              · subst hz
                refine lv_if_ne (tgt := 68) hx hb dX12_plays_63 (by decide) (fun _ => ?_) (fun hc => absurd hc (by decide))
                refine lv_iinc (v := 1) (lv' := [(3, .int 1), (2, .int 4), (0, .ref qm), (1, .int 1)]) hx hb dX12_plays_68 hl (k := 0) rfl (by decide) (by decide) rfl (fun ls hl => ?_)
                refine lv_goto (tgt := 35) hx hb dX12_plays_71 (by decide) ?_
                have hk363 : (1 : Int32).toInt = 1 := by decide
                obtain ⟨hP9, hD9⟩ : ct_B D A H [(qm_meets, .inl (cI, 30, .inl (fm_meets))), (qm_lines, .inl (cI, 5, .inl (fm_lines))), mo qm 0 qm_width qm_many qm_cells qm_moved qm_tape vm_taped vm_at vm_token vm_place vm_value vm_word vm_bad vm_badPlace vm_fault vm_faultPlace qm_lines qm_has qm_round qm_meets qm_stumble qm_isMud qm_cell qm_tune qm_change qm_isKept qm_steps qm_places qm_danced vm_runMost vm_runBegins qm_heardBy vm_fitMany vm_fitFirst vm_fitBeats vm_listenLeaves qm_there vm_metAt vm_metIn qm_wins vm_nightHoles vm_nightFirst vm_nightMud vm_nightSlips vm_drawnNow, (qm_wins, .inl (cI, 24576, .inl (g362)))] := ⟨hP.sub [2, 0, 1, 3] rfl, hD.sub [2, 0, 1, 3] (by decide) rfl⟩
                exact ih354 (g362, (1 : Int32)) _ _ _ (show (6 - (1 : Int32).toInt).toNat < (6 - x353.toInt).toNat by omega) ⟨(show 0 ≤ (1 : Int32).toInt ∧ (1 : Int32).toInt ≤ 6 by decide), ⟨hP9, hD9⟩, hS, lv_sub hl [0, 1, 2, 3] rfl⟩
              · subst hz
                refine lv_if_ne (tgt := 68) hx hb dX12_plays_63 (by decide) (fun hc => absurd hc (by decide)) (fun _ => ?_)
                refine lv_iload_n hx hb dX12_plays_66 rfl (lv_at hl 0 rfl) ?_
                obtain ⟨hP9, hD9⟩ : ct_B D A H [mo qm 0 qm_width qm_many qm_cells qm_moved qm_tape vm_taped vm_at vm_token vm_place vm_value vm_word vm_bad vm_badPlace vm_fault vm_faultPlace qm_lines qm_has qm_round qm_meets qm_stumble qm_isMud qm_cell qm_tune qm_change qm_isKept qm_steps qm_places qm_danced vm_runMost vm_runBegins qm_heardBy vm_fitMany vm_fitFirst vm_fitBeats vm_listenLeaves qm_there vm_metAt vm_metIn qm_wins vm_nightHoles vm_nightFirst vm_nightMud vm_nightSlips vm_drawnNow, (qm_lines, .inl (cI, 5, .inl (fm_lines))), (qm_meets, .inl (cI, 30, .inl (fm_meets))), (qm_wins, .inl (cI, 24576, .inl (g362)))] := ⟨hP.sub [1, 0, 2, 3] rfl, hD.sub [1, 0, 2, 3] (by decide) rfl⟩
                exact W.iret (v := 0) hx hb hr (fun t ht hW => ⟨⟨0, ((0 : Int32), g362), rfl, (show (-2) ≤ (0 : Int32).toInt ∧ (0 : Int32).toInt ≤ 5 by decide), by rw [ht]; exact hP9, hD9⟩, hS.F ht⟩) hS.2.2 dX12_plays_67
            · subst hz
              refine lv_if_eq (tgt := 68) hx hb dX12_plays_48 (by decide) (fun _ => ?_) (fun hc => absurd hc (by decide))
              refine lv_iinc (v := 1) (lv' := [(3, .int 1), (2, .int 4), (0, .ref qm), (1, .int 1)]) hx hb dX12_plays_68 hl (k := 0) rfl (by decide) (by decide) rfl (fun ls hl => ?_)
              refine lv_goto (tgt := 35) hx hb dX12_plays_71 (by decide) ?_
              have hk364 : (1 : Int32).toInt = 1 := by decide
              obtain ⟨hP9, hD9⟩ : ct_B D A H [(qm_meets, .inl (cI, 30, .inl (fm_meets))), (qm_lines, .inl (cI, 5, .inl (fm_lines))), mo qm 0 qm_width qm_many qm_cells qm_moved qm_tape vm_taped vm_at vm_token vm_place vm_value vm_word vm_bad vm_badPlace vm_fault vm_faultPlace qm_lines qm_has qm_round qm_meets qm_stumble qm_isMud qm_cell qm_tune qm_change qm_isKept qm_steps qm_places qm_danced vm_runMost vm_runBegins qm_heardBy vm_fitMany vm_fitFirst vm_fitBeats vm_listenLeaves qm_there vm_metAt vm_metIn qm_wins vm_nightHoles vm_nightFirst vm_nightMud vm_nightSlips vm_drawnNow, (qm_wins, .inl (cI, 24576, .inl (g352)))] := ⟨hP.sub [3, 0, 2, 1] rfl, hD.sub [3, 0, 2, 1] (by decide) rfl⟩
              exact ih354 (g352, (1 : Int32)) _ _ _ (show (6 - (1 : Int32).toInt).toNat < (6 - x353.toInt).toNat by omega) ⟨(show 0 ≤ (1 : Int32).toInt ∧ (1 : Int32).toInt ≤ 6 by decide), ⟨hP9, hD9⟩, hS, lv_sub hl [0, 1, 2, 3] rfl⟩
          · have hj2 : x353 = 1 := tq_of hj (by decide)
            have hl : lv_has ls 4 [(3, .int 1), (2, .int 4), (0, .ref qm), (1, .int 1)] := by have h9 := hl; rw [hj2] at h9; exact h9
            refine lv_aload_n hx hb dX12_plays_41 rfl (lv_at hl 2 rfl) ?_
            refine lv_iload_n hx hb dX12_plays_42 rfl (lv_at hl 1 rfl) ?_
            refine lv_iload_n hx hb dX12_plays_43 rfl (lv_at hl 3 rfl) ?_
            refine lv_iload_n hx hb dX12_plays_44 rfl (lv_at hl 0 rfl) ?_
            refine ct_calli (D := D) (wr := [(qm_lines, .inl (cI, 5, .inl (fm_lines))), (qm_wins, .inl (cI, 24576, .inl (g352)))]) (va_runV (As := [.int 4, .int 1, .int 1]) (rest := []) ⟨hx, hb, hml, hown, hts⟩ (c_X12_isPlay l D G cI cJ cB cZ cO qm 0 qm_width qm_many qm_cells qm_moved qm_tape vm_taped vm_at vm_token vm_place vm_value vm_word vm_bad vm_badPlace vm_fault vm_faultPlace qm_lines qm_has qm_round qm_meets fm_meets qm_stumble qm_isMud qm_cell qm_tune qm_change qm_isKept qm_steps qm_places qm_danced vm_runMost vm_runBegins qm_heardBy vm_fitMany vm_fitFirst vm_fitBeats vm_listenLeaves qm_there vm_metAt vm_metIn qm_wins vm_nightHoles vm_nightFirst vm_nightMud vm_nightSlips vm_drawnNow 4 1 1 h_vm_taped h_vm_at h_vm_value (by decide) (by decide) H.size) (cwV 3 hts gX12_plays_X12_isPlay rfl rfl rfl (by decide +kernel) ⟨Nat.le_of_ble_eq_true rfl, Nat.le_of_ble_eq_true rfl⟩) (ct_preV (T := ct_T cI cJ cB cZ cO) (ci := 12) (q0 := 2) hE hH hP hD hS hA [2, 0] (by decide) rfl rfl rfl) rfl rfl hl.1 rfl (lv_room (Nat.le_of_ble_eq_true rfl)) dX12_plays_45 ⟨Nat.le_of_ble_eq_true rfl, Nat.le_of_ble_eq_true rfl⟩) hP hD hS hA [2, 0] [1, 3] rfl rfl (by decide) (by decide) (fun r365 u H locs hw hP hD hS => ?_)
            obtain ⟨hP, hD⟩ : ct_B D A H [(qm_lines, .inl (cI, 5, .inl (fm_lines))), (qm_wins, .inl (cI, 24576, .inl (g352))), mo qm 0 qm_width qm_many qm_cells qm_moved qm_tape vm_taped vm_at vm_token vm_place vm_value vm_word vm_bad vm_badPlace vm_fault vm_faultPlace qm_lines qm_has qm_round qm_meets qm_stumble qm_isMud qm_cell qm_tune qm_change qm_isKept qm_steps qm_places qm_danced vm_runMost vm_runBegins qm_heardBy vm_fitMany vm_fitFirst vm_fitBeats vm_listenLeaves qm_there vm_metAt vm_metIn qm_wins vm_nightHoles vm_nightFirst vm_nightMud vm_nightSlips vm_drawnNow, (qm_meets, .inl (cI, 30, .inl (fm_meets)))] := ⟨hP, hD⟩
            have hz := hw
            rcases hz with ⟨hz, hz2⟩ | ⟨hz, hz2⟩
            · subst hz
              have hz_366 : (pl (4 : Int32) (1 : Int32)) := hz2
              refine lv_if_eq (tgt := 68) hx hb dX12_plays_48 (by decide) (fun hc => absurd hc (by decide)) (fun _ => ?_)
              refine lv_aload_n hx hb dX12_plays_51 rfl (lv_at hl 2 rfl) ?_
              refine lv_iload_n hx hb dX12_plays_52 rfl (lv_at hl 1 rfl) ?_
              refine lv_iconst (v := 1) hx hb dX12_plays_53 (by decide) ?_
              refine lv_iconst (v := 2) hx hb dX12_plays_54 (by decide) ?_
              refine lv_iload_n hx hb dX12_plays_55 rfl (lv_at hl 0 rfl) ?_
              refine lv_imul hx hb dX12_plays_56 ?_
              refine lv_topi (fun z367 ez367 => ?_)
              obtain rfl : z367 = 2 := ez367.trans (by decide)
              refine lv_ishl hx hb dX12_plays_57 ?_
              refine lv_topi (fun z368 ez368 => ?_)
              obtain rfl : z368 = 4 := ez368.trans (by decide)
              refine lv_iadd hx hb dX12_plays_58 ?_
              refine lv_topi (fun z369 ez369 => ?_)
              obtain rfl : z369 = 8 := ez369.trans (by decide)
              refine lv_iload_n hx hb dX12_plays_59 rfl (lv_at hl 0 rfl) ?_
              refine ct_calli (D := D) (wr := [(qm_lines, .inl (cI, 5, .inl (fm_lines)))]) (va_runV (As := [.int 8, .int 1]) (rest := []) ⟨hx, hb, hml, hown, hts⟩ (c_X12_winsFrom l D G cI cJ cB cZ cO qm 0 qm_width qm_many qm_cells qm_moved qm_tape vm_taped vm_at vm_token vm_place vm_value vm_word vm_bad vm_badPlace vm_fault vm_faultPlace qm_lines qm_has qm_round qm_meets fm_meets qm_stumble qm_isMud qm_cell qm_tune qm_change qm_isKept qm_steps qm_places qm_danced vm_runMost vm_runBegins qm_heardBy vm_fitMany vm_fitFirst vm_fitBeats vm_listenLeaves qm_there vm_metAt vm_metIn qm_wins vm_nightHoles vm_nightFirst vm_nightMud vm_nightSlips vm_drawnNow h_vm_taped h_vm_at h_vm_value 12 g352 8 1 (by decide) (by unfold wn; decide) H.size) (cwV 2 hts gX12_plays_X12_winsFrom rfl rfl rfl (by decide +kernel) ⟨Nat.le_of_ble_eq_true rfl, Nat.le_of_ble_eq_true rfl⟩) (ct_preV (T := ct_T cI cJ cB cZ cO) (ci := 12) (q0 := 2) hE hH hP hD hS hA [2, 3, 1] (by decide) rfl rfl rfl) rfl rfl hl.1 rfl (lv_room (Nat.le_of_ble_eq_true rfl)) dX12_plays_60 ⟨Nat.le_of_ble_eq_true rfl, Nat.le_of_ble_eq_true rfl⟩) hP hD hS hA [2, 3, 1] [0] rfl rfl (by decide) (by decide) (fun r370 u H locs hw hP hD hS => ?_)
              obtain ⟨g371, rfl⟩ : ∃ z, z = u := ⟨_, rfl⟩
              obtain ⟨hP, hD⟩ : ct_B D A H [(qm_lines, .inl (cI, 5, .inl (fm_lines))), mo qm 0 qm_width qm_many qm_cells qm_moved qm_tape vm_taped vm_at vm_token vm_place vm_value vm_word vm_bad vm_badPlace vm_fault vm_faultPlace qm_lines qm_has qm_round qm_meets qm_stumble qm_isMud qm_cell qm_tune qm_change qm_isKept qm_steps qm_places qm_danced vm_runMost vm_runBegins qm_heardBy vm_fitMany vm_fitFirst vm_fitBeats vm_listenLeaves qm_there vm_metAt vm_metIn qm_wins vm_nightHoles vm_nightFirst vm_nightMud vm_nightSlips vm_drawnNow, (qm_meets, .inl (cI, 30, .inl (fm_meets))), (qm_wins, .inl (cI, 24576, .inl (g371)))] := ⟨hP, hD⟩
              have hz := hw
              rcases hz with ⟨hz, hz2⟩ | ⟨hz, hz2⟩
              · subst hz
                refine lv_if_ne (tgt := 68) hx hb dX12_plays_63 (by decide) (fun _ => ?_) (fun hc => absurd hc (by decide))
                refine lv_iinc (v := 2) (lv' := [(3, .int 2), (2, .int 4), (0, .ref qm), (1, .int 1)]) hx hb dX12_plays_68 hl (k := 0) rfl (by decide) (by decide) rfl (fun ls hl => ?_)
                refine lv_goto (tgt := 35) hx hb dX12_plays_71 (by decide) ?_
                have hk372 : (2 : Int32).toInt = 2 := by decide
                obtain ⟨hP9, hD9⟩ : ct_B D A H [(qm_meets, .inl (cI, 30, .inl (fm_meets))), (qm_lines, .inl (cI, 5, .inl (fm_lines))), mo qm 0 qm_width qm_many qm_cells qm_moved qm_tape vm_taped vm_at vm_token vm_place vm_value vm_word vm_bad vm_badPlace vm_fault vm_faultPlace qm_lines qm_has qm_round qm_meets qm_stumble qm_isMud qm_cell qm_tune qm_change qm_isKept qm_steps qm_places qm_danced vm_runMost vm_runBegins qm_heardBy vm_fitMany vm_fitFirst vm_fitBeats vm_listenLeaves qm_there vm_metAt vm_metIn qm_wins vm_nightHoles vm_nightFirst vm_nightMud vm_nightSlips vm_drawnNow, (qm_wins, .inl (cI, 24576, .inl (g371)))] := ⟨hP.sub [2, 0, 1, 3] rfl, hD.sub [2, 0, 1, 3] (by decide) rfl⟩
                exact ih354 (g371, (2 : Int32)) _ _ _ (show (6 - (2 : Int32).toInt).toNat < (6 - x353.toInt).toNat by omega) ⟨(show 0 ≤ (2 : Int32).toInt ∧ (2 : Int32).toInt ≤ 6 by decide), ⟨hP9, hD9⟩, hS, lv_sub hl [0, 1, 2, 3] rfl⟩
              · subst hz
                refine lv_if_ne (tgt := 68) hx hb dX12_plays_63 (by decide) (fun hc => absurd hc (by decide)) (fun _ => ?_)
                refine lv_iload_n hx hb dX12_plays_66 rfl (lv_at hl 0 rfl) ?_
                obtain ⟨hP9, hD9⟩ : ct_B D A H [mo qm 0 qm_width qm_many qm_cells qm_moved qm_tape vm_taped vm_at vm_token vm_place vm_value vm_word vm_bad vm_badPlace vm_fault vm_faultPlace qm_lines qm_has qm_round qm_meets qm_stumble qm_isMud qm_cell qm_tune qm_change qm_isKept qm_steps qm_places qm_danced vm_runMost vm_runBegins qm_heardBy vm_fitMany vm_fitFirst vm_fitBeats vm_listenLeaves qm_there vm_metAt vm_metIn qm_wins vm_nightHoles vm_nightFirst vm_nightMud vm_nightSlips vm_drawnNow, (qm_lines, .inl (cI, 5, .inl (fm_lines))), (qm_meets, .inl (cI, 30, .inl (fm_meets))), (qm_wins, .inl (cI, 24576, .inl (g371)))] := ⟨hP.sub [1, 0, 2, 3] rfl, hD.sub [1, 0, 2, 3] (by decide) rfl⟩
                exact W.iret (v := 1) hx hb hr (fun t ht hW => ⟨⟨1, ((0 : Int32), g371), rfl, (show (-2) ≤ (1 : Int32).toInt ∧ (1 : Int32).toInt ≤ 5 by decide), by rw [ht]; exact hP9, hD9⟩, hS.F ht⟩) hS.2.2 dX12_plays_67
            · subst hz
              refine lv_if_eq (tgt := 68) hx hb dX12_plays_48 (by decide) (fun _ => ?_) (fun hc => absurd hc (by decide))
              refine lv_iinc (v := 2) (lv' := [(3, .int 2), (2, .int 4), (0, .ref qm), (1, .int 1)]) hx hb dX12_plays_68 hl (k := 0) rfl (by decide) (by decide) rfl (fun ls hl => ?_)
              refine lv_goto (tgt := 35) hx hb dX12_plays_71 (by decide) ?_
              have hk373 : (2 : Int32).toInt = 2 := by decide
              obtain ⟨hP9, hD9⟩ : ct_B D A H [(qm_meets, .inl (cI, 30, .inl (fm_meets))), (qm_lines, .inl (cI, 5, .inl (fm_lines))), mo qm 0 qm_width qm_many qm_cells qm_moved qm_tape vm_taped vm_at vm_token vm_place vm_value vm_word vm_bad vm_badPlace vm_fault vm_faultPlace qm_lines qm_has qm_round qm_meets qm_stumble qm_isMud qm_cell qm_tune qm_change qm_isKept qm_steps qm_places qm_danced vm_runMost vm_runBegins qm_heardBy vm_fitMany vm_fitFirst vm_fitBeats vm_listenLeaves qm_there vm_metAt vm_metIn qm_wins vm_nightHoles vm_nightFirst vm_nightMud vm_nightSlips vm_drawnNow, (qm_wins, .inl (cI, 24576, .inl (g352)))] := ⟨hP.sub [3, 0, 2, 1] rfl, hD.sub [3, 0, 2, 1] (by decide) rfl⟩
              exact ih354 (g352, (2 : Int32)) _ _ _ (show (6 - (2 : Int32).toInt).toNat < (6 - x353.toInt).toNat by omega) ⟨(show 0 ≤ (2 : Int32).toInt ∧ (2 : Int32).toInt ≤ 6 by decide), ⟨hP9, hD9⟩, hS, lv_sub hl [0, 1, 2, 3] rfl⟩
          · have hj2 : x353 = 2 := tq_of hj (by decide)
            have hl : lv_has ls 4 [(3, .int 2), (2, .int 4), (0, .ref qm), (1, .int 1)] := by have h9 := hl; rw [hj2] at h9; exact h9
            refine lv_aload_n hx hb dX12_plays_41 rfl (lv_at hl 2 rfl) ?_
            refine lv_iload_n hx hb dX12_plays_42 rfl (lv_at hl 1 rfl) ?_
            refine lv_iload_n hx hb dX12_plays_43 rfl (lv_at hl 3 rfl) ?_
            refine lv_iload_n hx hb dX12_plays_44 rfl (lv_at hl 0 rfl) ?_
            refine ct_calli (D := D) (wr := [(qm_lines, .inl (cI, 5, .inl (fm_lines))), (qm_wins, .inl (cI, 24576, .inl (g352)))]) (va_runV (As := [.int 4, .int 1, .int 2]) (rest := []) ⟨hx, hb, hml, hown, hts⟩ (c_X12_isPlay l D G cI cJ cB cZ cO qm 0 qm_width qm_many qm_cells qm_moved qm_tape vm_taped vm_at vm_token vm_place vm_value vm_word vm_bad vm_badPlace vm_fault vm_faultPlace qm_lines qm_has qm_round qm_meets fm_meets qm_stumble qm_isMud qm_cell qm_tune qm_change qm_isKept qm_steps qm_places qm_danced vm_runMost vm_runBegins qm_heardBy vm_fitMany vm_fitFirst vm_fitBeats vm_listenLeaves qm_there vm_metAt vm_metIn qm_wins vm_nightHoles vm_nightFirst vm_nightMud vm_nightSlips vm_drawnNow 4 1 2 h_vm_taped h_vm_at h_vm_value (by decide) (by decide) H.size) (cwV 3 hts gX12_plays_X12_isPlay rfl rfl rfl (by decide +kernel) ⟨Nat.le_of_ble_eq_true rfl, Nat.le_of_ble_eq_true rfl⟩) (ct_preV (T := ct_T cI cJ cB cZ cO) (ci := 12) (q0 := 2) hE hH hP hD hS hA [2, 0] (by decide) rfl rfl rfl) rfl rfl hl.1 rfl (lv_room (Nat.le_of_ble_eq_true rfl)) dX12_plays_45 ⟨Nat.le_of_ble_eq_true rfl, Nat.le_of_ble_eq_true rfl⟩) hP hD hS hA [2, 0] [1, 3] rfl rfl (by decide) (by decide) (fun r374 u H locs hw hP hD hS => ?_)
            obtain ⟨hP, hD⟩ : ct_B D A H [(qm_lines, .inl (cI, 5, .inl (fm_lines))), (qm_wins, .inl (cI, 24576, .inl (g352))), mo qm 0 qm_width qm_many qm_cells qm_moved qm_tape vm_taped vm_at vm_token vm_place vm_value vm_word vm_bad vm_badPlace vm_fault vm_faultPlace qm_lines qm_has qm_round qm_meets qm_stumble qm_isMud qm_cell qm_tune qm_change qm_isKept qm_steps qm_places qm_danced vm_runMost vm_runBegins qm_heardBy vm_fitMany vm_fitFirst vm_fitBeats vm_listenLeaves qm_there vm_metAt vm_metIn qm_wins vm_nightHoles vm_nightFirst vm_nightMud vm_nightSlips vm_drawnNow, (qm_meets, .inl (cI, 30, .inl (fm_meets)))] := ⟨hP, hD⟩
            have hz := hw
            rcases hz with ⟨hz, hz2⟩ | ⟨hz, hz2⟩
            · subst hz
              have hz_375 : (pl (4 : Int32) (2 : Int32)) := hz2
              refine lv_if_eq (tgt := 68) hx hb dX12_plays_48 (by decide) (fun hc => absurd hc (by decide)) (fun _ => ?_)
              refine lv_aload_n hx hb dX12_plays_51 rfl (lv_at hl 2 rfl) ?_
              refine lv_iload_n hx hb dX12_plays_52 rfl (lv_at hl 1 rfl) ?_
              refine lv_iconst (v := 1) hx hb dX12_plays_53 (by decide) ?_
              refine lv_iconst (v := 2) hx hb dX12_plays_54 (by decide) ?_
              refine lv_iload_n hx hb dX12_plays_55 rfl (lv_at hl 0 rfl) ?_
              refine lv_imul hx hb dX12_plays_56 ?_
              refine lv_topi (fun z376 ez376 => ?_)
              obtain rfl : z376 = 4 := ez376.trans (by decide)
              refine lv_ishl hx hb dX12_plays_57 ?_
              refine lv_topi (fun z377 ez377 => ?_)
              obtain rfl : z377 = 16 := ez377.trans (by decide)
              refine lv_iadd hx hb dX12_plays_58 ?_
              refine lv_topi (fun z378 ez378 => ?_)
              obtain rfl : z378 = 20 := ez378.trans (by decide)
              refine lv_iload_n hx hb dX12_plays_59 rfl (lv_at hl 0 rfl) ?_
              refine ct_calli (D := D) (wr := [(qm_lines, .inl (cI, 5, .inl (fm_lines)))]) (va_runV (As := [.int 20, .int 2]) (rest := []) ⟨hx, hb, hml, hown, hts⟩ (c_X12_winsFrom l D G cI cJ cB cZ cO qm 0 qm_width qm_many qm_cells qm_moved qm_tape vm_taped vm_at vm_token vm_place vm_value vm_word vm_bad vm_badPlace vm_fault vm_faultPlace qm_lines qm_has qm_round qm_meets fm_meets qm_stumble qm_isMud qm_cell qm_tune qm_change qm_isKept qm_steps qm_places qm_danced vm_runMost vm_runBegins qm_heardBy vm_fitMany vm_fitFirst vm_fitBeats vm_listenLeaves qm_there vm_metAt vm_metIn qm_wins vm_nightHoles vm_nightFirst vm_nightMud vm_nightSlips vm_drawnNow h_vm_taped h_vm_at h_vm_value 12 g352 20 2 (by decide) (by unfold wn; decide) H.size) (cwV 2 hts gX12_plays_X12_winsFrom rfl rfl rfl (by decide +kernel) ⟨Nat.le_of_ble_eq_true rfl, Nat.le_of_ble_eq_true rfl⟩) (ct_preV (T := ct_T cI cJ cB cZ cO) (ci := 12) (q0 := 2) hE hH hP hD hS hA [2, 3, 1] (by decide) rfl rfl rfl) rfl rfl hl.1 rfl (lv_room (Nat.le_of_ble_eq_true rfl)) dX12_plays_60 ⟨Nat.le_of_ble_eq_true rfl, Nat.le_of_ble_eq_true rfl⟩) hP hD hS hA [2, 3, 1] [0] rfl rfl (by decide) (by decide) (fun r379 u H locs hw hP hD hS => ?_)
              obtain ⟨g380, rfl⟩ : ∃ z, z = u := ⟨_, rfl⟩
              obtain ⟨hP, hD⟩ : ct_B D A H [(qm_lines, .inl (cI, 5, .inl (fm_lines))), mo qm 0 qm_width qm_many qm_cells qm_moved qm_tape vm_taped vm_at vm_token vm_place vm_value vm_word vm_bad vm_badPlace vm_fault vm_faultPlace qm_lines qm_has qm_round qm_meets qm_stumble qm_isMud qm_cell qm_tune qm_change qm_isKept qm_steps qm_places qm_danced vm_runMost vm_runBegins qm_heardBy vm_fitMany vm_fitFirst vm_fitBeats vm_listenLeaves qm_there vm_metAt vm_metIn qm_wins vm_nightHoles vm_nightFirst vm_nightMud vm_nightSlips vm_drawnNow, (qm_meets, .inl (cI, 30, .inl (fm_meets))), (qm_wins, .inl (cI, 24576, .inl (g380)))] := ⟨hP, hD⟩
              have hz := hw
              rcases hz with ⟨hz, hz2⟩ | ⟨hz, hz2⟩
              · subst hz
                refine lv_if_ne (tgt := 68) hx hb dX12_plays_63 (by decide) (fun _ => ?_) (fun hc => absurd hc (by decide))
                refine lv_iinc (v := 3) (lv' := [(3, .int 3), (2, .int 4), (0, .ref qm), (1, .int 1)]) hx hb dX12_plays_68 hl (k := 0) rfl (by decide) (by decide) rfl (fun ls hl => ?_)
                refine lv_goto (tgt := 35) hx hb dX12_plays_71 (by decide) ?_
                have hk381 : (3 : Int32).toInt = 3 := by decide
                obtain ⟨hP9, hD9⟩ : ct_B D A H [(qm_meets, .inl (cI, 30, .inl (fm_meets))), (qm_lines, .inl (cI, 5, .inl (fm_lines))), mo qm 0 qm_width qm_many qm_cells qm_moved qm_tape vm_taped vm_at vm_token vm_place vm_value vm_word vm_bad vm_badPlace vm_fault vm_faultPlace qm_lines qm_has qm_round qm_meets qm_stumble qm_isMud qm_cell qm_tune qm_change qm_isKept qm_steps qm_places qm_danced vm_runMost vm_runBegins qm_heardBy vm_fitMany vm_fitFirst vm_fitBeats vm_listenLeaves qm_there vm_metAt vm_metIn qm_wins vm_nightHoles vm_nightFirst vm_nightMud vm_nightSlips vm_drawnNow, (qm_wins, .inl (cI, 24576, .inl (g380)))] := ⟨hP.sub [2, 0, 1, 3] rfl, hD.sub [2, 0, 1, 3] (by decide) rfl⟩
                exact ih354 (g380, (3 : Int32)) _ _ _ (show (6 - (3 : Int32).toInt).toNat < (6 - x353.toInt).toNat by omega) ⟨(show 0 ≤ (3 : Int32).toInt ∧ (3 : Int32).toInt ≤ 6 by decide), ⟨hP9, hD9⟩, hS, lv_sub hl [0, 1, 2, 3] rfl⟩
              · subst hz
                refine lv_if_ne (tgt := 68) hx hb dX12_plays_63 (by decide) (fun hc => absurd hc (by decide)) (fun _ => ?_)
                refine lv_iload_n hx hb dX12_plays_66 rfl (lv_at hl 0 rfl) ?_
                obtain ⟨hP9, hD9⟩ : ct_B D A H [mo qm 0 qm_width qm_many qm_cells qm_moved qm_tape vm_taped vm_at vm_token vm_place vm_value vm_word vm_bad vm_badPlace vm_fault vm_faultPlace qm_lines qm_has qm_round qm_meets qm_stumble qm_isMud qm_cell qm_tune qm_change qm_isKept qm_steps qm_places qm_danced vm_runMost vm_runBegins qm_heardBy vm_fitMany vm_fitFirst vm_fitBeats vm_listenLeaves qm_there vm_metAt vm_metIn qm_wins vm_nightHoles vm_nightFirst vm_nightMud vm_nightSlips vm_drawnNow, (qm_lines, .inl (cI, 5, .inl (fm_lines))), (qm_meets, .inl (cI, 30, .inl (fm_meets))), (qm_wins, .inl (cI, 24576, .inl (g380)))] := ⟨hP.sub [1, 0, 2, 3] rfl, hD.sub [1, 0, 2, 3] (by decide) rfl⟩
                exact W.iret (v := 2) hx hb hr (fun t ht hW => ⟨⟨2, ((0 : Int32), g380), rfl, (show (-2) ≤ (2 : Int32).toInt ∧ (2 : Int32).toInt ≤ 5 by decide), by rw [ht]; exact hP9, hD9⟩, hS.F ht⟩) hS.2.2 dX12_plays_67
            · subst hz
              refine lv_if_eq (tgt := 68) hx hb dX12_plays_48 (by decide) (fun _ => ?_) (fun hc => absurd hc (by decide))
              refine lv_iinc (v := 3) (lv' := [(3, .int 3), (2, .int 4), (0, .ref qm), (1, .int 1)]) hx hb dX12_plays_68 hl (k := 0) rfl (by decide) (by decide) rfl (fun ls hl => ?_)
              refine lv_goto (tgt := 35) hx hb dX12_plays_71 (by decide) ?_
              have hk382 : (3 : Int32).toInt = 3 := by decide
              obtain ⟨hP9, hD9⟩ : ct_B D A H [(qm_meets, .inl (cI, 30, .inl (fm_meets))), (qm_lines, .inl (cI, 5, .inl (fm_lines))), mo qm 0 qm_width qm_many qm_cells qm_moved qm_tape vm_taped vm_at vm_token vm_place vm_value vm_word vm_bad vm_badPlace vm_fault vm_faultPlace qm_lines qm_has qm_round qm_meets qm_stumble qm_isMud qm_cell qm_tune qm_change qm_isKept qm_steps qm_places qm_danced vm_runMost vm_runBegins qm_heardBy vm_fitMany vm_fitFirst vm_fitBeats vm_listenLeaves qm_there vm_metAt vm_metIn qm_wins vm_nightHoles vm_nightFirst vm_nightMud vm_nightSlips vm_drawnNow, (qm_wins, .inl (cI, 24576, .inl (g352)))] := ⟨hP.sub [3, 0, 2, 1] rfl, hD.sub [3, 0, 2, 1] (by decide) rfl⟩
              exact ih354 (g352, (3 : Int32)) _ _ _ (show (6 - (3 : Int32).toInt).toNat < (6 - x353.toInt).toNat by omega) ⟨(show 0 ≤ (3 : Int32).toInt ∧ (3 : Int32).toInt ≤ 6 by decide), ⟨hP9, hD9⟩, hS, lv_sub hl [0, 1, 2, 3] rfl⟩
          · have hj2 : x353 = 3 := tq_of hj (by decide)
            have hl : lv_has ls 4 [(3, .int 3), (2, .int 4), (0, .ref qm), (1, .int 1)] := by have h9 := hl; rw [hj2] at h9; exact h9
            refine lv_aload_n hx hb dX12_plays_41 rfl (lv_at hl 2 rfl) ?_
            refine lv_iload_n hx hb dX12_plays_42 rfl (lv_at hl 1 rfl) ?_
            refine lv_iload_n hx hb dX12_plays_43 rfl (lv_at hl 3 rfl) ?_
            refine lv_iload_n hx hb dX12_plays_44 rfl (lv_at hl 0 rfl) ?_
            refine ct_calli (D := D) (wr := [(qm_lines, .inl (cI, 5, .inl (fm_lines))), (qm_wins, .inl (cI, 24576, .inl (g352)))]) (va_runV (As := [.int 4, .int 1, .int 3]) (rest := []) ⟨hx, hb, hml, hown, hts⟩ (c_X12_isPlay l D G cI cJ cB cZ cO qm 0 qm_width qm_many qm_cells qm_moved qm_tape vm_taped vm_at vm_token vm_place vm_value vm_word vm_bad vm_badPlace vm_fault vm_faultPlace qm_lines qm_has qm_round qm_meets fm_meets qm_stumble qm_isMud qm_cell qm_tune qm_change qm_isKept qm_steps qm_places qm_danced vm_runMost vm_runBegins qm_heardBy vm_fitMany vm_fitFirst vm_fitBeats vm_listenLeaves qm_there vm_metAt vm_metIn qm_wins vm_nightHoles vm_nightFirst vm_nightMud vm_nightSlips vm_drawnNow 4 1 3 h_vm_taped h_vm_at h_vm_value (by decide) (by decide) H.size) (cwV 3 hts gX12_plays_X12_isPlay rfl rfl rfl (by decide +kernel) ⟨Nat.le_of_ble_eq_true rfl, Nat.le_of_ble_eq_true rfl⟩) (ct_preV (T := ct_T cI cJ cB cZ cO) (ci := 12) (q0 := 2) hE hH hP hD hS hA [2, 0] (by decide) rfl rfl rfl) rfl rfl hl.1 rfl (lv_room (Nat.le_of_ble_eq_true rfl)) dX12_plays_45 ⟨Nat.le_of_ble_eq_true rfl, Nat.le_of_ble_eq_true rfl⟩) hP hD hS hA [2, 0] [1, 3] rfl rfl (by decide) (by decide) (fun r383 u H locs hw hP hD hS => ?_)
            obtain ⟨hP, hD⟩ : ct_B D A H [(qm_lines, .inl (cI, 5, .inl (fm_lines))), (qm_wins, .inl (cI, 24576, .inl (g352))), mo qm 0 qm_width qm_many qm_cells qm_moved qm_tape vm_taped vm_at vm_token vm_place vm_value vm_word vm_bad vm_badPlace vm_fault vm_faultPlace qm_lines qm_has qm_round qm_meets qm_stumble qm_isMud qm_cell qm_tune qm_change qm_isKept qm_steps qm_places qm_danced vm_runMost vm_runBegins qm_heardBy vm_fitMany vm_fitFirst vm_fitBeats vm_listenLeaves qm_there vm_metAt vm_metIn qm_wins vm_nightHoles vm_nightFirst vm_nightMud vm_nightSlips vm_drawnNow, (qm_meets, .inl (cI, 30, .inl (fm_meets)))] := ⟨hP, hD⟩
            have hz := hw
            rcases hz with ⟨hz, hz2⟩ | ⟨hz, hz2⟩
            · subst hz
              have hz_384 : (pl (4 : Int32) (3 : Int32)) := hz2
              refine lv_if_eq (tgt := 68) hx hb dX12_plays_48 (by decide) (fun hc => absurd hc (by decide)) (fun _ => ?_)
              refine lv_aload_n hx hb dX12_plays_51 rfl (lv_at hl 2 rfl) ?_
              refine lv_iload_n hx hb dX12_plays_52 rfl (lv_at hl 1 rfl) ?_
              refine lv_iconst (v := 1) hx hb dX12_plays_53 (by decide) ?_
              refine lv_iconst (v := 2) hx hb dX12_plays_54 (by decide) ?_
              refine lv_iload_n hx hb dX12_plays_55 rfl (lv_at hl 0 rfl) ?_
              refine lv_imul hx hb dX12_plays_56 ?_
              refine lv_topi (fun z385 ez385 => ?_)
              obtain rfl : z385 = 6 := ez385.trans (by decide)
              refine lv_ishl hx hb dX12_plays_57 ?_
              refine lv_topi (fun z386 ez386 => ?_)
              obtain rfl : z386 = 64 := ez386.trans (by decide)
              refine lv_iadd hx hb dX12_plays_58 ?_
              refine lv_topi (fun z387 ez387 => ?_)
              obtain rfl : z387 = 68 := ez387.trans (by decide)
              refine lv_iload_n hx hb dX12_plays_59 rfl (lv_at hl 0 rfl) ?_
              refine ct_calli (D := D) (wr := [(qm_lines, .inl (cI, 5, .inl (fm_lines)))]) (va_runV (As := [.int 68, .int 3]) (rest := []) ⟨hx, hb, hml, hown, hts⟩ (c_X12_winsFrom l D G cI cJ cB cZ cO qm 0 qm_width qm_many qm_cells qm_moved qm_tape vm_taped vm_at vm_token vm_place vm_value vm_word vm_bad vm_badPlace vm_fault vm_faultPlace qm_lines qm_has qm_round qm_meets fm_meets qm_stumble qm_isMud qm_cell qm_tune qm_change qm_isKept qm_steps qm_places qm_danced vm_runMost vm_runBegins qm_heardBy vm_fitMany vm_fitFirst vm_fitBeats vm_listenLeaves qm_there vm_metAt vm_metIn qm_wins vm_nightHoles vm_nightFirst vm_nightMud vm_nightSlips vm_drawnNow h_vm_taped h_vm_at h_vm_value 12 g352 68 3 (by decide) (by unfold wn; decide) H.size) (cwV 2 hts gX12_plays_X12_winsFrom rfl rfl rfl (by decide +kernel) ⟨Nat.le_of_ble_eq_true rfl, Nat.le_of_ble_eq_true rfl⟩) (ct_preV (T := ct_T cI cJ cB cZ cO) (ci := 12) (q0 := 2) hE hH hP hD hS hA [2, 3, 1] (by decide) rfl rfl rfl) rfl rfl hl.1 rfl (lv_room (Nat.le_of_ble_eq_true rfl)) dX12_plays_60 ⟨Nat.le_of_ble_eq_true rfl, Nat.le_of_ble_eq_true rfl⟩) hP hD hS hA [2, 3, 1] [0] rfl rfl (by decide) (by decide) (fun r388 u H locs hw hP hD hS => ?_)
              obtain ⟨g389, rfl⟩ : ∃ z, z = u := ⟨_, rfl⟩
              obtain ⟨hP, hD⟩ : ct_B D A H [(qm_lines, .inl (cI, 5, .inl (fm_lines))), mo qm 0 qm_width qm_many qm_cells qm_moved qm_tape vm_taped vm_at vm_token vm_place vm_value vm_word vm_bad vm_badPlace vm_fault vm_faultPlace qm_lines qm_has qm_round qm_meets qm_stumble qm_isMud qm_cell qm_tune qm_change qm_isKept qm_steps qm_places qm_danced vm_runMost vm_runBegins qm_heardBy vm_fitMany vm_fitFirst vm_fitBeats vm_listenLeaves qm_there vm_metAt vm_metIn qm_wins vm_nightHoles vm_nightFirst vm_nightMud vm_nightSlips vm_drawnNow, (qm_meets, .inl (cI, 30, .inl (fm_meets))), (qm_wins, .inl (cI, 24576, .inl (g389)))] := ⟨hP, hD⟩
              have hz := hw
              rcases hz with ⟨hz, hz2⟩ | ⟨hz, hz2⟩
              · subst hz
                refine lv_if_ne (tgt := 68) hx hb dX12_plays_63 (by decide) (fun _ => ?_) (fun hc => absurd hc (by decide))
                refine lv_iinc (v := 4) (lv' := [(3, .int 4), (2, .int 4), (0, .ref qm), (1, .int 1)]) hx hb dX12_plays_68 hl (k := 0) rfl (by decide) (by decide) rfl (fun ls hl => ?_)
                refine lv_goto (tgt := 35) hx hb dX12_plays_71 (by decide) ?_
                have hk390 : (4 : Int32).toInt = 4 := by decide
                obtain ⟨hP9, hD9⟩ : ct_B D A H [(qm_meets, .inl (cI, 30, .inl (fm_meets))), (qm_lines, .inl (cI, 5, .inl (fm_lines))), mo qm 0 qm_width qm_many qm_cells qm_moved qm_tape vm_taped vm_at vm_token vm_place vm_value vm_word vm_bad vm_badPlace vm_fault vm_faultPlace qm_lines qm_has qm_round qm_meets qm_stumble qm_isMud qm_cell qm_tune qm_change qm_isKept qm_steps qm_places qm_danced vm_runMost vm_runBegins qm_heardBy vm_fitMany vm_fitFirst vm_fitBeats vm_listenLeaves qm_there vm_metAt vm_metIn qm_wins vm_nightHoles vm_nightFirst vm_nightMud vm_nightSlips vm_drawnNow, (qm_wins, .inl (cI, 24576, .inl (g389)))] := ⟨hP.sub [2, 0, 1, 3] rfl, hD.sub [2, 0, 1, 3] (by decide) rfl⟩
                exact ih354 (g389, (4 : Int32)) _ _ _ (show (6 - (4 : Int32).toInt).toNat < (6 - x353.toInt).toNat by omega) ⟨(show 0 ≤ (4 : Int32).toInt ∧ (4 : Int32).toInt ≤ 6 by decide), ⟨hP9, hD9⟩, hS, lv_sub hl [0, 1, 2, 3] rfl⟩
              · subst hz
                refine lv_if_ne (tgt := 68) hx hb dX12_plays_63 (by decide) (fun hc => absurd hc (by decide)) (fun _ => ?_)
                refine lv_iload_n hx hb dX12_plays_66 rfl (lv_at hl 0 rfl) ?_
                obtain ⟨hP9, hD9⟩ : ct_B D A H [mo qm 0 qm_width qm_many qm_cells qm_moved qm_tape vm_taped vm_at vm_token vm_place vm_value vm_word vm_bad vm_badPlace vm_fault vm_faultPlace qm_lines qm_has qm_round qm_meets qm_stumble qm_isMud qm_cell qm_tune qm_change qm_isKept qm_steps qm_places qm_danced vm_runMost vm_runBegins qm_heardBy vm_fitMany vm_fitFirst vm_fitBeats vm_listenLeaves qm_there vm_metAt vm_metIn qm_wins vm_nightHoles vm_nightFirst vm_nightMud vm_nightSlips vm_drawnNow, (qm_lines, .inl (cI, 5, .inl (fm_lines))), (qm_meets, .inl (cI, 30, .inl (fm_meets))), (qm_wins, .inl (cI, 24576, .inl (g389)))] := ⟨hP.sub [1, 0, 2, 3] rfl, hD.sub [1, 0, 2, 3] (by decide) rfl⟩
                exact W.iret (v := 3) hx hb hr (fun t ht hW => ⟨⟨3, ((0 : Int32), g389), rfl, (show (-2) ≤ (3 : Int32).toInt ∧ (3 : Int32).toInt ≤ 5 by decide), by rw [ht]; exact hP9, hD9⟩, hS.F ht⟩) hS.2.2 dX12_plays_67
            · subst hz
              refine lv_if_eq (tgt := 68) hx hb dX12_plays_48 (by decide) (fun _ => ?_) (fun hc => absurd hc (by decide))
              refine lv_iinc (v := 4) (lv' := [(3, .int 4), (2, .int 4), (0, .ref qm), (1, .int 1)]) hx hb dX12_plays_68 hl (k := 0) rfl (by decide) (by decide) rfl (fun ls hl => ?_)
              refine lv_goto (tgt := 35) hx hb dX12_plays_71 (by decide) ?_
              have hk391 : (4 : Int32).toInt = 4 := by decide
              obtain ⟨hP9, hD9⟩ : ct_B D A H [(qm_meets, .inl (cI, 30, .inl (fm_meets))), (qm_lines, .inl (cI, 5, .inl (fm_lines))), mo qm 0 qm_width qm_many qm_cells qm_moved qm_tape vm_taped vm_at vm_token vm_place vm_value vm_word vm_bad vm_badPlace vm_fault vm_faultPlace qm_lines qm_has qm_round qm_meets qm_stumble qm_isMud qm_cell qm_tune qm_change qm_isKept qm_steps qm_places qm_danced vm_runMost vm_runBegins qm_heardBy vm_fitMany vm_fitFirst vm_fitBeats vm_listenLeaves qm_there vm_metAt vm_metIn qm_wins vm_nightHoles vm_nightFirst vm_nightMud vm_nightSlips vm_drawnNow, (qm_wins, .inl (cI, 24576, .inl (g352)))] := ⟨hP.sub [3, 0, 2, 1] rfl, hD.sub [3, 0, 2, 1] (by decide) rfl⟩
              exact ih354 (g352, (4 : Int32)) _ _ _ (show (6 - (4 : Int32).toInt).toNat < (6 - x353.toInt).toNat by omega) ⟨(show 0 ≤ (4 : Int32).toInt ∧ (4 : Int32).toInt ≤ 6 by decide), ⟨hP9, hD9⟩, hS, lv_sub hl [0, 1, 2, 3] rfl⟩
          · have hj2 : x353 = 4 := tq_of hj (by decide)
            have hl : lv_has ls 4 [(3, .int 4), (2, .int 4), (0, .ref qm), (1, .int 1)] := by have h9 := hl; rw [hj2] at h9; exact h9
            refine lv_aload_n hx hb dX12_plays_41 rfl (lv_at hl 2 rfl) ?_
            refine lv_iload_n hx hb dX12_plays_42 rfl (lv_at hl 1 rfl) ?_
            refine lv_iload_n hx hb dX12_plays_43 rfl (lv_at hl 3 rfl) ?_
            refine lv_iload_n hx hb dX12_plays_44 rfl (lv_at hl 0 rfl) ?_
            refine ct_calli (D := D) (wr := [(qm_lines, .inl (cI, 5, .inl (fm_lines))), (qm_wins, .inl (cI, 24576, .inl (g352)))]) (va_runV (As := [.int 4, .int 1, .int 4]) (rest := []) ⟨hx, hb, hml, hown, hts⟩ (c_X12_isPlay l D G cI cJ cB cZ cO qm 0 qm_width qm_many qm_cells qm_moved qm_tape vm_taped vm_at vm_token vm_place vm_value vm_word vm_bad vm_badPlace vm_fault vm_faultPlace qm_lines qm_has qm_round qm_meets fm_meets qm_stumble qm_isMud qm_cell qm_tune qm_change qm_isKept qm_steps qm_places qm_danced vm_runMost vm_runBegins qm_heardBy vm_fitMany vm_fitFirst vm_fitBeats vm_listenLeaves qm_there vm_metAt vm_metIn qm_wins vm_nightHoles vm_nightFirst vm_nightMud vm_nightSlips vm_drawnNow 4 1 4 h_vm_taped h_vm_at h_vm_value (by decide) (by decide) H.size) (cwV 3 hts gX12_plays_X12_isPlay rfl rfl rfl (by decide +kernel) ⟨Nat.le_of_ble_eq_true rfl, Nat.le_of_ble_eq_true rfl⟩) (ct_preV (T := ct_T cI cJ cB cZ cO) (ci := 12) (q0 := 2) hE hH hP hD hS hA [2, 0] (by decide) rfl rfl rfl) rfl rfl hl.1 rfl (lv_room (Nat.le_of_ble_eq_true rfl)) dX12_plays_45 ⟨Nat.le_of_ble_eq_true rfl, Nat.le_of_ble_eq_true rfl⟩) hP hD hS hA [2, 0] [1, 3] rfl rfl (by decide) (by decide) (fun r392 u H locs hw hP hD hS => ?_)
            obtain ⟨hP, hD⟩ : ct_B D A H [(qm_lines, .inl (cI, 5, .inl (fm_lines))), (qm_wins, .inl (cI, 24576, .inl (g352))), mo qm 0 qm_width qm_many qm_cells qm_moved qm_tape vm_taped vm_at vm_token vm_place vm_value vm_word vm_bad vm_badPlace vm_fault vm_faultPlace qm_lines qm_has qm_round qm_meets qm_stumble qm_isMud qm_cell qm_tune qm_change qm_isKept qm_steps qm_places qm_danced vm_runMost vm_runBegins qm_heardBy vm_fitMany vm_fitFirst vm_fitBeats vm_listenLeaves qm_there vm_metAt vm_metIn qm_wins vm_nightHoles vm_nightFirst vm_nightMud vm_nightSlips vm_drawnNow, (qm_meets, .inl (cI, 30, .inl (fm_meets)))] := ⟨hP, hD⟩
            have hz := hw
            rcases hz with ⟨hz, hz2⟩ | ⟨hz, hz2⟩
            · subst hz
              have hz_393 : (pl (4 : Int32) (4 : Int32)) := hz2
              refine lv_if_eq (tgt := 68) hx hb dX12_plays_48 (by decide) (fun hc => absurd hc (by decide)) (fun _ => ?_)
              refine lv_aload_n hx hb dX12_plays_51 rfl (lv_at hl 2 rfl) ?_
              refine lv_iload_n hx hb dX12_plays_52 rfl (lv_at hl 1 rfl) ?_
              refine lv_iconst (v := 1) hx hb dX12_plays_53 (by decide) ?_
              refine lv_iconst (v := 2) hx hb dX12_plays_54 (by decide) ?_
              refine lv_iload_n hx hb dX12_plays_55 rfl (lv_at hl 0 rfl) ?_
              refine lv_imul hx hb dX12_plays_56 ?_
              refine lv_topi (fun z394 ez394 => ?_)
              obtain rfl : z394 = 8 := ez394.trans (by decide)
              refine lv_ishl hx hb dX12_plays_57 ?_
              refine lv_topi (fun z395 ez395 => ?_)
              obtain rfl : z395 = 256 := ez395.trans (by decide)
              refine lv_iadd hx hb dX12_plays_58 ?_
              refine lv_topi (fun z396 ez396 => ?_)
              obtain rfl : z396 = 260 := ez396.trans (by decide)
              refine lv_iload_n hx hb dX12_plays_59 rfl (lv_at hl 0 rfl) ?_
              refine ct_calli (D := D) (wr := [(qm_lines, .inl (cI, 5, .inl (fm_lines)))]) (va_runV (As := [.int 260, .int 4]) (rest := []) ⟨hx, hb, hml, hown, hts⟩ (c_X12_winsFrom l D G cI cJ cB cZ cO qm 0 qm_width qm_many qm_cells qm_moved qm_tape vm_taped vm_at vm_token vm_place vm_value vm_word vm_bad vm_badPlace vm_fault vm_faultPlace qm_lines qm_has qm_round qm_meets fm_meets qm_stumble qm_isMud qm_cell qm_tune qm_change qm_isKept qm_steps qm_places qm_danced vm_runMost vm_runBegins qm_heardBy vm_fitMany vm_fitFirst vm_fitBeats vm_listenLeaves qm_there vm_metAt vm_metIn qm_wins vm_nightHoles vm_nightFirst vm_nightMud vm_nightSlips vm_drawnNow h_vm_taped h_vm_at h_vm_value 12 g352 260 4 (by decide) (by unfold wn; decide) H.size) (cwV 2 hts gX12_plays_X12_winsFrom rfl rfl rfl (by decide +kernel) ⟨Nat.le_of_ble_eq_true rfl, Nat.le_of_ble_eq_true rfl⟩) (ct_preV (T := ct_T cI cJ cB cZ cO) (ci := 12) (q0 := 2) hE hH hP hD hS hA [2, 3, 1] (by decide) rfl rfl rfl) rfl rfl hl.1 rfl (lv_room (Nat.le_of_ble_eq_true rfl)) dX12_plays_60 ⟨Nat.le_of_ble_eq_true rfl, Nat.le_of_ble_eq_true rfl⟩) hP hD hS hA [2, 3, 1] [0] rfl rfl (by decide) (by decide) (fun r397 u H locs hw hP hD hS => ?_)
              obtain ⟨g398, rfl⟩ : ∃ z, z = u := ⟨_, rfl⟩
              obtain ⟨hP, hD⟩ : ct_B D A H [(qm_lines, .inl (cI, 5, .inl (fm_lines))), mo qm 0 qm_width qm_many qm_cells qm_moved qm_tape vm_taped vm_at vm_token vm_place vm_value vm_word vm_bad vm_badPlace vm_fault vm_faultPlace qm_lines qm_has qm_round qm_meets qm_stumble qm_isMud qm_cell qm_tune qm_change qm_isKept qm_steps qm_places qm_danced vm_runMost vm_runBegins qm_heardBy vm_fitMany vm_fitFirst vm_fitBeats vm_listenLeaves qm_there vm_metAt vm_metIn qm_wins vm_nightHoles vm_nightFirst vm_nightMud vm_nightSlips vm_drawnNow, (qm_meets, .inl (cI, 30, .inl (fm_meets))), (qm_wins, .inl (cI, 24576, .inl (g398)))] := ⟨hP, hD⟩
              have hz := hw
              rcases hz with ⟨hz, hz2⟩ | ⟨hz, hz2⟩
              · subst hz
                refine lv_if_ne (tgt := 68) hx hb dX12_plays_63 (by decide) (fun _ => ?_) (fun hc => absurd hc (by decide))
                refine lv_iinc (v := 5) (lv' := [(3, .int 5), (2, .int 4), (0, .ref qm), (1, .int 1)]) hx hb dX12_plays_68 hl (k := 0) rfl (by decide) (by decide) rfl (fun ls hl => ?_)
                refine lv_goto (tgt := 35) hx hb dX12_plays_71 (by decide) ?_
                have hk399 : (5 : Int32).toInt = 5 := by decide
                obtain ⟨hP9, hD9⟩ : ct_B D A H [(qm_meets, .inl (cI, 30, .inl (fm_meets))), (qm_lines, .inl (cI, 5, .inl (fm_lines))), mo qm 0 qm_width qm_many qm_cells qm_moved qm_tape vm_taped vm_at vm_token vm_place vm_value vm_word vm_bad vm_badPlace vm_fault vm_faultPlace qm_lines qm_has qm_round qm_meets qm_stumble qm_isMud qm_cell qm_tune qm_change qm_isKept qm_steps qm_places qm_danced vm_runMost vm_runBegins qm_heardBy vm_fitMany vm_fitFirst vm_fitBeats vm_listenLeaves qm_there vm_metAt vm_metIn qm_wins vm_nightHoles vm_nightFirst vm_nightMud vm_nightSlips vm_drawnNow, (qm_wins, .inl (cI, 24576, .inl (g398)))] := ⟨hP.sub [2, 0, 1, 3] rfl, hD.sub [2, 0, 1, 3] (by decide) rfl⟩
                exact ih354 (g398, (5 : Int32)) _ _ _ (show (6 - (5 : Int32).toInt).toNat < (6 - x353.toInt).toNat by omega) ⟨(show 0 ≤ (5 : Int32).toInt ∧ (5 : Int32).toInt ≤ 6 by decide), ⟨hP9, hD9⟩, hS, lv_sub hl [0, 1, 2, 3] rfl⟩
              · subst hz
                refine lv_if_ne (tgt := 68) hx hb dX12_plays_63 (by decide) (fun hc => absurd hc (by decide)) (fun _ => ?_)
                refine lv_iload_n hx hb dX12_plays_66 rfl (lv_at hl 0 rfl) ?_
                obtain ⟨hP9, hD9⟩ : ct_B D A H [mo qm 0 qm_width qm_many qm_cells qm_moved qm_tape vm_taped vm_at vm_token vm_place vm_value vm_word vm_bad vm_badPlace vm_fault vm_faultPlace qm_lines qm_has qm_round qm_meets qm_stumble qm_isMud qm_cell qm_tune qm_change qm_isKept qm_steps qm_places qm_danced vm_runMost vm_runBegins qm_heardBy vm_fitMany vm_fitFirst vm_fitBeats vm_listenLeaves qm_there vm_metAt vm_metIn qm_wins vm_nightHoles vm_nightFirst vm_nightMud vm_nightSlips vm_drawnNow, (qm_lines, .inl (cI, 5, .inl (fm_lines))), (qm_meets, .inl (cI, 30, .inl (fm_meets))), (qm_wins, .inl (cI, 24576, .inl (g398)))] := ⟨hP.sub [1, 0, 2, 3] rfl, hD.sub [1, 0, 2, 3] (by decide) rfl⟩
                exact W.iret (v := 4) hx hb hr (fun t ht hW => ⟨⟨4, ((0 : Int32), g398), rfl, (show (-2) ≤ (4 : Int32).toInt ∧ (4 : Int32).toInt ≤ 5 by decide), by rw [ht]; exact hP9, hD9⟩, hS.F ht⟩) hS.2.2 dX12_plays_67
            · subst hz
              refine lv_if_eq (tgt := 68) hx hb dX12_plays_48 (by decide) (fun _ => ?_) (fun hc => absurd hc (by decide))
              refine lv_iinc (v := 5) (lv' := [(3, .int 5), (2, .int 4), (0, .ref qm), (1, .int 1)]) hx hb dX12_plays_68 hl (k := 0) rfl (by decide) (by decide) rfl (fun ls hl => ?_)
              refine lv_goto (tgt := 35) hx hb dX12_plays_71 (by decide) ?_
              have hk400 : (5 : Int32).toInt = 5 := by decide
              obtain ⟨hP9, hD9⟩ : ct_B D A H [(qm_meets, .inl (cI, 30, .inl (fm_meets))), (qm_lines, .inl (cI, 5, .inl (fm_lines))), mo qm 0 qm_width qm_many qm_cells qm_moved qm_tape vm_taped vm_at vm_token vm_place vm_value vm_word vm_bad vm_badPlace vm_fault vm_faultPlace qm_lines qm_has qm_round qm_meets qm_stumble qm_isMud qm_cell qm_tune qm_change qm_isKept qm_steps qm_places qm_danced vm_runMost vm_runBegins qm_heardBy vm_fitMany vm_fitFirst vm_fitBeats vm_listenLeaves qm_there vm_metAt vm_metIn qm_wins vm_nightHoles vm_nightFirst vm_nightMud vm_nightSlips vm_drawnNow, (qm_wins, .inl (cI, 24576, .inl (g352)))] := ⟨hP.sub [3, 0, 2, 1] rfl, hD.sub [3, 0, 2, 1] (by decide) rfl⟩
              exact ih354 (g352, (5 : Int32)) _ _ _ (show (6 - (5 : Int32).toInt).toNat < (6 - x353.toInt).toNat by omega) ⟨(show 0 ≤ (5 : Int32).toInt ∧ (5 : Int32).toInt ≤ 6 by decide), ⟨hP9, hD9⟩, hS, lv_sub hl [0, 1, 2, 3] rfl⟩
          · have hj2 : x353 = 5 := tq_of hj (by decide)
            have hl : lv_has ls 4 [(3, .int 5), (2, .int 4), (0, .ref qm), (1, .int 1)] := by have h9 := hl; rw [hj2] at h9; exact h9
            refine lv_aload_n hx hb dX12_plays_41 rfl (lv_at hl 2 rfl) ?_
            refine lv_iload_n hx hb dX12_plays_42 rfl (lv_at hl 1 rfl) ?_
            refine lv_iload_n hx hb dX12_plays_43 rfl (lv_at hl 3 rfl) ?_
            refine lv_iload_n hx hb dX12_plays_44 rfl (lv_at hl 0 rfl) ?_
            refine ct_calli (D := D) (wr := [(qm_lines, .inl (cI, 5, .inl (fm_lines))), (qm_wins, .inl (cI, 24576, .inl (g352)))]) (va_runV (As := [.int 4, .int 1, .int 5]) (rest := []) ⟨hx, hb, hml, hown, hts⟩ (c_X12_isPlay l D G cI cJ cB cZ cO qm 0 qm_width qm_many qm_cells qm_moved qm_tape vm_taped vm_at vm_token vm_place vm_value vm_word vm_bad vm_badPlace vm_fault vm_faultPlace qm_lines qm_has qm_round qm_meets fm_meets qm_stumble qm_isMud qm_cell qm_tune qm_change qm_isKept qm_steps qm_places qm_danced vm_runMost vm_runBegins qm_heardBy vm_fitMany vm_fitFirst vm_fitBeats vm_listenLeaves qm_there vm_metAt vm_metIn qm_wins vm_nightHoles vm_nightFirst vm_nightMud vm_nightSlips vm_drawnNow 4 1 5 h_vm_taped h_vm_at h_vm_value (by decide) (by decide) H.size) (cwV 3 hts gX12_plays_X12_isPlay rfl rfl rfl (by decide +kernel) ⟨Nat.le_of_ble_eq_true rfl, Nat.le_of_ble_eq_true rfl⟩) (ct_preV (T := ct_T cI cJ cB cZ cO) (ci := 12) (q0 := 2) hE hH hP hD hS hA [2, 0] (by decide) rfl rfl rfl) rfl rfl hl.1 rfl (lv_room (Nat.le_of_ble_eq_true rfl)) dX12_plays_45 ⟨Nat.le_of_ble_eq_true rfl, Nat.le_of_ble_eq_true rfl⟩) hP hD hS hA [2, 0] [1, 3] rfl rfl (by decide) (by decide) (fun r401 u H locs hw hP hD hS => ?_)
            obtain ⟨hP, hD⟩ : ct_B D A H [(qm_lines, .inl (cI, 5, .inl (fm_lines))), (qm_wins, .inl (cI, 24576, .inl (g352))), mo qm 0 qm_width qm_many qm_cells qm_moved qm_tape vm_taped vm_at vm_token vm_place vm_value vm_word vm_bad vm_badPlace vm_fault vm_faultPlace qm_lines qm_has qm_round qm_meets qm_stumble qm_isMud qm_cell qm_tune qm_change qm_isKept qm_steps qm_places qm_danced vm_runMost vm_runBegins qm_heardBy vm_fitMany vm_fitFirst vm_fitBeats vm_listenLeaves qm_there vm_metAt vm_metIn qm_wins vm_nightHoles vm_nightFirst vm_nightMud vm_nightSlips vm_drawnNow, (qm_meets, .inl (cI, 30, .inl (fm_meets)))] := ⟨hP, hD⟩
            have hz := hw
            rcases hz with ⟨hz, hz2⟩ | ⟨hz, hz2⟩
            · subst hz
              have hz_402 : (pl (4 : Int32) (5 : Int32)) := hz2
              refine lv_if_eq (tgt := 68) hx hb dX12_plays_48 (by decide) (fun hc => absurd hc (by decide)) (fun _ => ?_)
              refine lv_aload_n hx hb dX12_plays_51 rfl (lv_at hl 2 rfl) ?_
              refine lv_iload_n hx hb dX12_plays_52 rfl (lv_at hl 1 rfl) ?_
              refine lv_iconst (v := 1) hx hb dX12_plays_53 (by decide) ?_
              refine lv_iconst (v := 2) hx hb dX12_plays_54 (by decide) ?_
              refine lv_iload_n hx hb dX12_plays_55 rfl (lv_at hl 0 rfl) ?_
              refine lv_imul hx hb dX12_plays_56 ?_
              refine lv_topi (fun z403 ez403 => ?_)
              obtain rfl : z403 = 10 := ez403.trans (by decide)
              refine lv_ishl hx hb dX12_plays_57 ?_
              refine lv_topi (fun z404 ez404 => ?_)
              obtain rfl : z404 = 1024 := ez404.trans (by decide)
              refine lv_iadd hx hb dX12_plays_58 ?_
              refine lv_topi (fun z405 ez405 => ?_)
              obtain rfl : z405 = 1028 := ez405.trans (by decide)
              refine lv_iload_n hx hb dX12_plays_59 rfl (lv_at hl 0 rfl) ?_
              refine ct_calli (D := D) (wr := [(qm_lines, .inl (cI, 5, .inl (fm_lines)))]) (va_runV (As := [.int 1028, .int 5]) (rest := []) ⟨hx, hb, hml, hown, hts⟩ (c_X12_winsFrom l D G cI cJ cB cZ cO qm 0 qm_width qm_many qm_cells qm_moved qm_tape vm_taped vm_at vm_token vm_place vm_value vm_word vm_bad vm_badPlace vm_fault vm_faultPlace qm_lines qm_has qm_round qm_meets fm_meets qm_stumble qm_isMud qm_cell qm_tune qm_change qm_isKept qm_steps qm_places qm_danced vm_runMost vm_runBegins qm_heardBy vm_fitMany vm_fitFirst vm_fitBeats vm_listenLeaves qm_there vm_metAt vm_metIn qm_wins vm_nightHoles vm_nightFirst vm_nightMud vm_nightSlips vm_drawnNow h_vm_taped h_vm_at h_vm_value 12 g352 1028 5 (by decide) (by unfold wn; decide) H.size) (cwV 2 hts gX12_plays_X12_winsFrom rfl rfl rfl (by decide +kernel) ⟨Nat.le_of_ble_eq_true rfl, Nat.le_of_ble_eq_true rfl⟩) (ct_preV (T := ct_T cI cJ cB cZ cO) (ci := 12) (q0 := 2) hE hH hP hD hS hA [2, 3, 1] (by decide) rfl rfl rfl) rfl rfl hl.1 rfl (lv_room (Nat.le_of_ble_eq_true rfl)) dX12_plays_60 ⟨Nat.le_of_ble_eq_true rfl, Nat.le_of_ble_eq_true rfl⟩) hP hD hS hA [2, 3, 1] [0] rfl rfl (by decide) (by decide) (fun r406 u H locs hw hP hD hS => ?_)
              obtain ⟨g407, rfl⟩ : ∃ z, z = u := ⟨_, rfl⟩
              obtain ⟨hP, hD⟩ : ct_B D A H [(qm_lines, .inl (cI, 5, .inl (fm_lines))), mo qm 0 qm_width qm_many qm_cells qm_moved qm_tape vm_taped vm_at vm_token vm_place vm_value vm_word vm_bad vm_badPlace vm_fault vm_faultPlace qm_lines qm_has qm_round qm_meets qm_stumble qm_isMud qm_cell qm_tune qm_change qm_isKept qm_steps qm_places qm_danced vm_runMost vm_runBegins qm_heardBy vm_fitMany vm_fitFirst vm_fitBeats vm_listenLeaves qm_there vm_metAt vm_metIn qm_wins vm_nightHoles vm_nightFirst vm_nightMud vm_nightSlips vm_drawnNow, (qm_meets, .inl (cI, 30, .inl (fm_meets))), (qm_wins, .inl (cI, 24576, .inl (g407)))] := ⟨hP, hD⟩
              have hz := hw
              rcases hz with ⟨hz, hz2⟩ | ⟨hz, hz2⟩
              · subst hz
                refine lv_if_ne (tgt := 68) hx hb dX12_plays_63 (by decide) (fun _ => ?_) (fun hc => absurd hc (by decide))
                refine lv_iinc (v := 6) (lv' := [(3, .int 6), (2, .int 4), (0, .ref qm), (1, .int 1)]) hx hb dX12_plays_68 hl (k := 0) rfl (by decide) (by decide) rfl (fun ls hl => ?_)
                refine lv_goto (tgt := 35) hx hb dX12_plays_71 (by decide) ?_
                have hk408 : (6 : Int32).toInt = 6 := by decide
                obtain ⟨hP9, hD9⟩ : ct_B D A H [(qm_meets, .inl (cI, 30, .inl (fm_meets))), (qm_lines, .inl (cI, 5, .inl (fm_lines))), mo qm 0 qm_width qm_many qm_cells qm_moved qm_tape vm_taped vm_at vm_token vm_place vm_value vm_word vm_bad vm_badPlace vm_fault vm_faultPlace qm_lines qm_has qm_round qm_meets qm_stumble qm_isMud qm_cell qm_tune qm_change qm_isKept qm_steps qm_places qm_danced vm_runMost vm_runBegins qm_heardBy vm_fitMany vm_fitFirst vm_fitBeats vm_listenLeaves qm_there vm_metAt vm_metIn qm_wins vm_nightHoles vm_nightFirst vm_nightMud vm_nightSlips vm_drawnNow, (qm_wins, .inl (cI, 24576, .inl (g407)))] := ⟨hP.sub [2, 0, 1, 3] rfl, hD.sub [2, 0, 1, 3] (by decide) rfl⟩
                exact ih354 (g407, (6 : Int32)) _ _ _ (show (6 - (6 : Int32).toInt).toNat < (6 - x353.toInt).toNat by omega) ⟨(show 0 ≤ (6 : Int32).toInt ∧ (6 : Int32).toInt ≤ 6 by decide), ⟨hP9, hD9⟩, hS, lv_sub hl [0, 1, 2, 3] rfl⟩
              · subst hz
                refine lv_if_ne (tgt := 68) hx hb dX12_plays_63 (by decide) (fun hc => absurd hc (by decide)) (fun _ => ?_)
                refine lv_iload_n hx hb dX12_plays_66 rfl (lv_at hl 0 rfl) ?_
                obtain ⟨hP9, hD9⟩ : ct_B D A H [mo qm 0 qm_width qm_many qm_cells qm_moved qm_tape vm_taped vm_at vm_token vm_place vm_value vm_word vm_bad vm_badPlace vm_fault vm_faultPlace qm_lines qm_has qm_round qm_meets qm_stumble qm_isMud qm_cell qm_tune qm_change qm_isKept qm_steps qm_places qm_danced vm_runMost vm_runBegins qm_heardBy vm_fitMany vm_fitFirst vm_fitBeats vm_listenLeaves qm_there vm_metAt vm_metIn qm_wins vm_nightHoles vm_nightFirst vm_nightMud vm_nightSlips vm_drawnNow, (qm_lines, .inl (cI, 5, .inl (fm_lines))), (qm_meets, .inl (cI, 30, .inl (fm_meets))), (qm_wins, .inl (cI, 24576, .inl (g407)))] := ⟨hP.sub [1, 0, 2, 3] rfl, hD.sub [1, 0, 2, 3] (by decide) rfl⟩
                exact W.iret (v := 5) hx hb hr (fun t ht hW => ⟨⟨5, ((0 : Int32), g407), rfl, (show (-2) ≤ (5 : Int32).toInt ∧ (5 : Int32).toInt ≤ 5 by decide), by rw [ht]; exact hP9, hD9⟩, hS.F ht⟩) hS.2.2 dX12_plays_67
            · subst hz
              refine lv_if_eq (tgt := 68) hx hb dX12_plays_48 (by decide) (fun _ => ?_) (fun hc => absurd hc (by decide))
              refine lv_iinc (v := 6) (lv' := [(3, .int 6), (2, .int 4), (0, .ref qm), (1, .int 1)]) hx hb dX12_plays_68 hl (k := 0) rfl (by decide) (by decide) rfl (fun ls hl => ?_)
              refine lv_goto (tgt := 35) hx hb dX12_plays_71 (by decide) ?_
              have hk409 : (6 : Int32).toInt = 6 := by decide
              obtain ⟨hP9, hD9⟩ : ct_B D A H [(qm_meets, .inl (cI, 30, .inl (fm_meets))), (qm_lines, .inl (cI, 5, .inl (fm_lines))), mo qm 0 qm_width qm_many qm_cells qm_moved qm_tape vm_taped vm_at vm_token vm_place vm_value vm_word vm_bad vm_badPlace vm_fault vm_faultPlace qm_lines qm_has qm_round qm_meets qm_stumble qm_isMud qm_cell qm_tune qm_change qm_isKept qm_steps qm_places qm_danced vm_runMost vm_runBegins qm_heardBy vm_fitMany vm_fitFirst vm_fitBeats vm_listenLeaves qm_there vm_metAt vm_metIn qm_wins vm_nightHoles vm_nightFirst vm_nightMud vm_nightSlips vm_drawnNow, (qm_wins, .inl (cI, 24576, .inl (g352)))] := ⟨hP.sub [3, 0, 2, 1] rfl, hD.sub [3, 0, 2, 1] (by decide) rfl⟩
              exact ih354 (g352, (6 : Int32)) _ _ _ (show (6 - (6 : Int32).toInt).toNat < (6 - x353.toInt).toNat by omega) ⟨(show 0 ≤ (6 : Int32).toInt ∧ (6 : Int32).toInt ≤ 6 by decide), ⟨hP9, hD9⟩, hS, lv_sub hl [0, 1, 2, 3] rfl⟩
      · have hj2 : a1 = 2 := tq_of hj (by decide)
        have hl : lv_has ls 4 [(0, .ref qm), (1, .int 2)] := by have h9 := hl; rw [hj2] at h9; exact h9
        refine lv_iconst (v := 1) hx hb dX12_plays_27 (by decide) ?_
        refine lv_iconst (v := 2) hx hb dX12_plays_28 (by decide) ?_
        refine lv_iload_n hx hb dX12_plays_29 rfl (lv_at hl 1 rfl) ?_
        refine lv_imul hx hb dX12_plays_30 ?_
        refine lv_topi (fun z410 ez410 => ?_)
        obtain rfl : z410 = 4 := ez410.trans (by decide)
        refine lv_ishl hx hb dX12_plays_31 ?_
        refine lv_topi (fun z411 ez411 => ?_)
        obtain rfl : z411 = 16 := ez411.trans (by decide)
        refine lv_istore_n (lv' := [(2, .int 16), (0, .ref qm), (1, .int 2)]) hx hb dX12_plays_32 rfl hl (by decide) rfl (fun ls hl => ?_)
        refine lv_iconst (v := 0) hx hb dX12_plays_33 (by decide) ?_
        refine lv_istore_n (lv' := [(3, .int 0), (2, .int 16), (0, .ref qm), (1, .int 2)]) hx hb dX12_plays_34 rfl hl (by decide) rfl (fun ls hl => ?_)
        refine ct_loop (X := (Nat → Int32) × Int32) (fun x => (6 - x.2.toInt).toNat) (fun x H locs ls => ((0 ≤ x.2.toInt ∧ x.2.toInt ≤ 6)) ∧ ct_B D A H [(qm_meets, .inl (cI, 30, .inl (fm_meets))), (qm_lines, .inl (cI, 5, .inl (fm_lines))), mo qm 0 qm_width qm_many qm_cells qm_moved qm_tape vm_taped vm_at vm_token vm_place vm_value vm_word vm_bad vm_badPlace vm_fault vm_faultPlace qm_lines qm_has qm_round qm_meets qm_stumble qm_isMud qm_cell qm_tune qm_change qm_isKept qm_steps qm_places qm_danced vm_runMost vm_runBegins qm_heardBy vm_fitMany vm_fitFirst vm_fitBeats vm_listenLeaves qm_there vm_metAt vm_metIn qm_wins vm_nightHoles vm_nightFirst vm_nightMud vm_nightSlips vm_drawnNow, (qm_wins, .inl (cI, 24576, .inl (x.1)))] ∧ va_S A s.heap H locs ∧ lv_has ls 4 [(3, .int x.2), (2, .int 16), (0, .ref qm), (1, .int 2)]) 35 (g5, (0 : Int32)) ⟨(show 0 ≤ (0 : Int32).toInt ∧ (0 : Int32).toInt ≤ 6 by decide), ⟨hP, hD⟩, hS, lv_sub hl [0, 1, 2, 3] rfl⟩ (fun x ih556 H locs ls hI => ?_)
        obtain ⟨g554, x555⟩ := x
        obtain ⟨h_x555, ⟨hP, hD⟩, hS, hl⟩ := hI
        have h_x555 : (0 ≤ x555.toInt ∧ x555.toInt ≤ 6) := h_x555
        obtain ⟨hP, hD⟩ : ct_B D A H [(qm_meets, .inl (cI, 30, .inl (fm_meets))), (qm_lines, .inl (cI, 5, .inl (fm_lines))), mo qm 0 qm_width qm_many qm_cells qm_moved qm_tape vm_taped vm_at vm_token vm_place vm_value vm_word vm_bad vm_badPlace vm_fault vm_faultPlace qm_lines qm_has qm_round qm_meets qm_stumble qm_isMud qm_cell qm_tune qm_change qm_isKept qm_steps qm_places qm_danced vm_runMost vm_runBegins qm_heardBy vm_fitMany vm_fitFirst vm_fitBeats vm_listenLeaves qm_there vm_metAt vm_metIn qm_wins vm_nightHoles vm_nightFirst vm_nightMud vm_nightSlips vm_drawnNow, (qm_wins, .inl (cI, 24576, .inl (g554)))] := ⟨hP, hD⟩
        have hl : lv_has ls 4 [(3, .int x555), (2, .int 16), (0, .ref qm), (1, .int 2)] := hl
        refine lv_iload_n hx hb dX12_plays_35 rfl (lv_at hl 0 rfl) ?_
        refine lv_bipush (v := 6) hx hb dX12_plays_36 (by decide) ?_
        refine lv_icmp_ge (tgt := 74) hx hb dX12_plays_38 (by decide) (fun hc => ?_) (fun hc => ?_)
        · have hq557 : 6 ≤ x555.toInt := tq_le (by decide) rfl hc
          refine lv_iconst (v := (-1)) hx hb dX12_plays_74 (by decide) ?_
          obtain ⟨hP9, hD9⟩ : ct_B D A H [mo qm 0 qm_width qm_many qm_cells qm_moved qm_tape vm_taped vm_at vm_token vm_place vm_value vm_word vm_bad vm_badPlace vm_fault vm_faultPlace qm_lines qm_has qm_round qm_meets qm_stumble qm_isMud qm_cell qm_tune qm_change qm_isKept qm_steps qm_places qm_danced vm_runMost vm_runBegins qm_heardBy vm_fitMany vm_fitFirst vm_fitBeats vm_listenLeaves qm_there vm_metAt vm_metIn qm_wins vm_nightHoles vm_nightFirst vm_nightMud vm_nightSlips vm_drawnNow, (qm_lines, .inl (cI, 5, .inl (fm_lines))), (qm_meets, .inl (cI, 30, .inl (fm_meets))), (qm_wins, .inl (cI, 24576, .inl (g554)))] := ⟨hP.sub [2, 1, 0, 3] rfl, hD.sub [2, 1, 0, 3] (by decide) rfl⟩
          exact W.iret (v := (-1)) hx hb hr (fun t ht hW => ⟨⟨(-1), ((0 : Int32), g554), rfl, (show (-2) ≤ (-1 : Int32).toInt ∧ (-1 : Int32).toInt ≤ 5 by decide), by rw [ht]; exact hP9, hD9⟩, hS.F ht⟩) hS.2.2 dX12_plays_75
        · have hq557 : x555.toInt < 6 := tq_nle (by decide) rfl hc
          rcases (show x555.toInt = 0 ∨ x555.toInt = 1 ∨ x555.toInt = 2 ∨ x555.toInt = 3 ∨ x555.toInt = 4 ∨ x555.toInt = 5 by omega) with hj | hj | hj | hj | hj | hj
          · have hj2 : x555 = 0 := tq_of hj (by decide)
            have hl : lv_has ls 4 [(3, .int 0), (2, .int 16), (0, .ref qm), (1, .int 2)] := by have h9 := hl; rw [hj2] at h9; exact h9
            refine lv_aload_n hx hb dX12_plays_41 rfl (lv_at hl 2 rfl) ?_
            refine lv_iload_n hx hb dX12_plays_42 rfl (lv_at hl 1 rfl) ?_
            refine lv_iload_n hx hb dX12_plays_43 rfl (lv_at hl 3 rfl) ?_
            refine lv_iload_n hx hb dX12_plays_44 rfl (lv_at hl 0 rfl) ?_
            refine ct_calli (D := D) (wr := [(qm_lines, .inl (cI, 5, .inl (fm_lines))), (qm_wins, .inl (cI, 24576, .inl (g554)))]) (va_runV (As := [.int 16, .int 2, .int 0]) (rest := []) ⟨hx, hb, hml, hown, hts⟩ (c_X12_isPlay l D G cI cJ cB cZ cO qm 0 qm_width qm_many qm_cells qm_moved qm_tape vm_taped vm_at vm_token vm_place vm_value vm_word vm_bad vm_badPlace vm_fault vm_faultPlace qm_lines qm_has qm_round qm_meets fm_meets qm_stumble qm_isMud qm_cell qm_tune qm_change qm_isKept qm_steps qm_places qm_danced vm_runMost vm_runBegins qm_heardBy vm_fitMany vm_fitFirst vm_fitBeats vm_listenLeaves qm_there vm_metAt vm_metIn qm_wins vm_nightHoles vm_nightFirst vm_nightMud vm_nightSlips vm_drawnNow 16 2 0 h_vm_taped h_vm_at h_vm_value (by decide) (by decide) H.size) (cwV 3 hts gX12_plays_X12_isPlay rfl rfl rfl (by decide +kernel) ⟨Nat.le_of_ble_eq_true rfl, Nat.le_of_ble_eq_true rfl⟩) (ct_preV (T := ct_T cI cJ cB cZ cO) (ci := 12) (q0 := 2) hE hH hP hD hS hA [2, 0] (by decide) rfl rfl rfl) rfl rfl hl.1 rfl (lv_room (Nat.le_of_ble_eq_true rfl)) dX12_plays_45 ⟨Nat.le_of_ble_eq_true rfl, Nat.le_of_ble_eq_true rfl⟩) hP hD hS hA [2, 0] [1, 3] rfl rfl (by decide) (by decide) (fun r558 u H locs hw hP hD hS => ?_)
            obtain ⟨hP, hD⟩ : ct_B D A H [(qm_lines, .inl (cI, 5, .inl (fm_lines))), (qm_wins, .inl (cI, 24576, .inl (g554))), mo qm 0 qm_width qm_many qm_cells qm_moved qm_tape vm_taped vm_at vm_token vm_place vm_value vm_word vm_bad vm_badPlace vm_fault vm_faultPlace qm_lines qm_has qm_round qm_meets qm_stumble qm_isMud qm_cell qm_tune qm_change qm_isKept qm_steps qm_places qm_danced vm_runMost vm_runBegins qm_heardBy vm_fitMany vm_fitFirst vm_fitBeats vm_listenLeaves qm_there vm_metAt vm_metIn qm_wins vm_nightHoles vm_nightFirst vm_nightMud vm_nightSlips vm_drawnNow, (qm_meets, .inl (cI, 30, .inl (fm_meets)))] := ⟨hP, hD⟩
            have hz := hw
            rcases hz with ⟨hz, hz2⟩ | ⟨hz, hz2⟩
            · subst hz
              have hz_559 : (pl (16 : Int32) (0 : Int32)) := hz2
              refine lv_if_eq (tgt := 68) hx hb dX12_plays_48 (by decide) (fun hc => absurd hc (by decide)) (fun _ => ?_)
              refine lv_aload_n hx hb dX12_plays_51 rfl (lv_at hl 2 rfl) ?_
              refine lv_iload_n hx hb dX12_plays_52 rfl (lv_at hl 1 rfl) ?_
              refine lv_iconst (v := 1) hx hb dX12_plays_53 (by decide) ?_
              refine lv_iconst (v := 2) hx hb dX12_plays_54 (by decide) ?_
              refine lv_iload_n hx hb dX12_plays_55 rfl (lv_at hl 0 rfl) ?_
              refine lv_imul hx hb dX12_plays_56 ?_
              refine lv_topi (fun z560 ez560 => ?_)
              obtain rfl : z560 = 0 := ez560.trans (by decide)
              refine lv_ishl hx hb dX12_plays_57 ?_
              refine lv_topi (fun z561 ez561 => ?_)
              obtain rfl : z561 = 1 := ez561.trans (by decide)
              refine lv_iadd hx hb dX12_plays_58 ?_
              refine lv_topi (fun z562 ez562 => ?_)
              obtain rfl : z562 = 17 := ez562.trans (by decide)
              refine lv_iload_n hx hb dX12_plays_59 rfl (lv_at hl 0 rfl) ?_
              refine ct_calli (D := D) (wr := [(qm_lines, .inl (cI, 5, .inl (fm_lines)))]) (va_runV (As := [.int 17, .int 0]) (rest := []) ⟨hx, hb, hml, hown, hts⟩ (c_X12_winsFrom l D G cI cJ cB cZ cO qm 0 qm_width qm_many qm_cells qm_moved qm_tape vm_taped vm_at vm_token vm_place vm_value vm_word vm_bad vm_badPlace vm_fault vm_faultPlace qm_lines qm_has qm_round qm_meets fm_meets qm_stumble qm_isMud qm_cell qm_tune qm_change qm_isKept qm_steps qm_places qm_danced vm_runMost vm_runBegins qm_heardBy vm_fitMany vm_fitFirst vm_fitBeats vm_listenLeaves qm_there vm_metAt vm_metIn qm_wins vm_nightHoles vm_nightFirst vm_nightMud vm_nightSlips vm_drawnNow h_vm_taped h_vm_at h_vm_value 12 g554 17 0 (by decide) (by unfold wn; decide) H.size) (cwV 2 hts gX12_plays_X12_winsFrom rfl rfl rfl (by decide +kernel) ⟨Nat.le_of_ble_eq_true rfl, Nat.le_of_ble_eq_true rfl⟩) (ct_preV (T := ct_T cI cJ cB cZ cO) (ci := 12) (q0 := 2) hE hH hP hD hS hA [2, 3, 1] (by decide) rfl rfl rfl) rfl rfl hl.1 rfl (lv_room (Nat.le_of_ble_eq_true rfl)) dX12_plays_60 ⟨Nat.le_of_ble_eq_true rfl, Nat.le_of_ble_eq_true rfl⟩) hP hD hS hA [2, 3, 1] [0] rfl rfl (by decide) (by decide) (fun r563 u H locs hw hP hD hS => ?_)
              obtain ⟨g564, rfl⟩ : ∃ z, z = u := ⟨_, rfl⟩
              obtain ⟨hP, hD⟩ : ct_B D A H [(qm_lines, .inl (cI, 5, .inl (fm_lines))), mo qm 0 qm_width qm_many qm_cells qm_moved qm_tape vm_taped vm_at vm_token vm_place vm_value vm_word vm_bad vm_badPlace vm_fault vm_faultPlace qm_lines qm_has qm_round qm_meets qm_stumble qm_isMud qm_cell qm_tune qm_change qm_isKept qm_steps qm_places qm_danced vm_runMost vm_runBegins qm_heardBy vm_fitMany vm_fitFirst vm_fitBeats vm_listenLeaves qm_there vm_metAt vm_metIn qm_wins vm_nightHoles vm_nightFirst vm_nightMud vm_nightSlips vm_drawnNow, (qm_meets, .inl (cI, 30, .inl (fm_meets))), (qm_wins, .inl (cI, 24576, .inl (g564)))] := ⟨hP, hD⟩
              have hz := hw
              rcases hz with ⟨hz, hz2⟩ | ⟨hz, hz2⟩
              · subst hz
                refine lv_if_ne (tgt := 68) hx hb dX12_plays_63 (by decide) (fun _ => ?_) (fun hc => absurd hc (by decide))
                refine lv_iinc (v := 1) (lv' := [(3, .int 1), (2, .int 16), (0, .ref qm), (1, .int 2)]) hx hb dX12_plays_68 hl (k := 0) rfl (by decide) (by decide) rfl (fun ls hl => ?_)
                refine lv_goto (tgt := 35) hx hb dX12_plays_71 (by decide) ?_
                have hk565 : (1 : Int32).toInt = 1 := by decide
                obtain ⟨hP9, hD9⟩ : ct_B D A H [(qm_meets, .inl (cI, 30, .inl (fm_meets))), (qm_lines, .inl (cI, 5, .inl (fm_lines))), mo qm 0 qm_width qm_many qm_cells qm_moved qm_tape vm_taped vm_at vm_token vm_place vm_value vm_word vm_bad vm_badPlace vm_fault vm_faultPlace qm_lines qm_has qm_round qm_meets qm_stumble qm_isMud qm_cell qm_tune qm_change qm_isKept qm_steps qm_places qm_danced vm_runMost vm_runBegins qm_heardBy vm_fitMany vm_fitFirst vm_fitBeats vm_listenLeaves qm_there vm_metAt vm_metIn qm_wins vm_nightHoles vm_nightFirst vm_nightMud vm_nightSlips vm_drawnNow, (qm_wins, .inl (cI, 24576, .inl (g564)))] := ⟨hP.sub [2, 0, 1, 3] rfl, hD.sub [2, 0, 1, 3] (by decide) rfl⟩
                exact ih556 (g564, (1 : Int32)) _ _ _ (show (6 - (1 : Int32).toInt).toNat < (6 - x555.toInt).toNat by omega) ⟨(show 0 ≤ (1 : Int32).toInt ∧ (1 : Int32).toInt ≤ 6 by decide), ⟨hP9, hD9⟩, hS, lv_sub hl [0, 1, 2, 3] rfl⟩
              · subst hz
                refine lv_if_ne (tgt := 68) hx hb dX12_plays_63 (by decide) (fun hc => absurd hc (by decide)) (fun _ => ?_)
                refine lv_iload_n hx hb dX12_plays_66 rfl (lv_at hl 0 rfl) ?_
                obtain ⟨hP9, hD9⟩ : ct_B D A H [mo qm 0 qm_width qm_many qm_cells qm_moved qm_tape vm_taped vm_at vm_token vm_place vm_value vm_word vm_bad vm_badPlace vm_fault vm_faultPlace qm_lines qm_has qm_round qm_meets qm_stumble qm_isMud qm_cell qm_tune qm_change qm_isKept qm_steps qm_places qm_danced vm_runMost vm_runBegins qm_heardBy vm_fitMany vm_fitFirst vm_fitBeats vm_listenLeaves qm_there vm_metAt vm_metIn qm_wins vm_nightHoles vm_nightFirst vm_nightMud vm_nightSlips vm_drawnNow, (qm_lines, .inl (cI, 5, .inl (fm_lines))), (qm_meets, .inl (cI, 30, .inl (fm_meets))), (qm_wins, .inl (cI, 24576, .inl (g564)))] := ⟨hP.sub [1, 0, 2, 3] rfl, hD.sub [1, 0, 2, 3] (by decide) rfl⟩
                exact W.iret (v := 0) hx hb hr (fun t ht hW => ⟨⟨0, ((0 : Int32), g564), rfl, (show (-2) ≤ (0 : Int32).toInt ∧ (0 : Int32).toInt ≤ 5 by decide), by rw [ht]; exact hP9, hD9⟩, hS.F ht⟩) hS.2.2 dX12_plays_67
            · subst hz
              refine lv_if_eq (tgt := 68) hx hb dX12_plays_48 (by decide) (fun _ => ?_) (fun hc => absurd hc (by decide))
              refine lv_iinc (v := 1) (lv' := [(3, .int 1), (2, .int 16), (0, .ref qm), (1, .int 2)]) hx hb dX12_plays_68 hl (k := 0) rfl (by decide) (by decide) rfl (fun ls hl => ?_)
              refine lv_goto (tgt := 35) hx hb dX12_plays_71 (by decide) ?_
              have hk566 : (1 : Int32).toInt = 1 := by decide
              obtain ⟨hP9, hD9⟩ : ct_B D A H [(qm_meets, .inl (cI, 30, .inl (fm_meets))), (qm_lines, .inl (cI, 5, .inl (fm_lines))), mo qm 0 qm_width qm_many qm_cells qm_moved qm_tape vm_taped vm_at vm_token vm_place vm_value vm_word vm_bad vm_badPlace vm_fault vm_faultPlace qm_lines qm_has qm_round qm_meets qm_stumble qm_isMud qm_cell qm_tune qm_change qm_isKept qm_steps qm_places qm_danced vm_runMost vm_runBegins qm_heardBy vm_fitMany vm_fitFirst vm_fitBeats vm_listenLeaves qm_there vm_metAt vm_metIn qm_wins vm_nightHoles vm_nightFirst vm_nightMud vm_nightSlips vm_drawnNow, (qm_wins, .inl (cI, 24576, .inl (g554)))] := ⟨hP.sub [3, 0, 2, 1] rfl, hD.sub [3, 0, 2, 1] (by decide) rfl⟩
              exact ih556 (g554, (1 : Int32)) _ _ _ (show (6 - (1 : Int32).toInt).toNat < (6 - x555.toInt).toNat by omega) ⟨(show 0 ≤ (1 : Int32).toInt ∧ (1 : Int32).toInt ≤ 6 by decide), ⟨hP9, hD9⟩, hS, lv_sub hl [0, 1, 2, 3] rfl⟩
          · have hj2 : x555 = 1 := tq_of hj (by decide)
            have hl : lv_has ls 4 [(3, .int 1), (2, .int 16), (0, .ref qm), (1, .int 2)] := by have h9 := hl; rw [hj2] at h9; exact h9
            refine lv_aload_n hx hb dX12_plays_41 rfl (lv_at hl 2 rfl) ?_
            refine lv_iload_n hx hb dX12_plays_42 rfl (lv_at hl 1 rfl) ?_
            refine lv_iload_n hx hb dX12_plays_43 rfl (lv_at hl 3 rfl) ?_
            refine lv_iload_n hx hb dX12_plays_44 rfl (lv_at hl 0 rfl) ?_
            refine ct_calli (D := D) (wr := [(qm_lines, .inl (cI, 5, .inl (fm_lines))), (qm_wins, .inl (cI, 24576, .inl (g554)))]) (va_runV (As := [.int 16, .int 2, .int 1]) (rest := []) ⟨hx, hb, hml, hown, hts⟩ (c_X12_isPlay l D G cI cJ cB cZ cO qm 0 qm_width qm_many qm_cells qm_moved qm_tape vm_taped vm_at vm_token vm_place vm_value vm_word vm_bad vm_badPlace vm_fault vm_faultPlace qm_lines qm_has qm_round qm_meets fm_meets qm_stumble qm_isMud qm_cell qm_tune qm_change qm_isKept qm_steps qm_places qm_danced vm_runMost vm_runBegins qm_heardBy vm_fitMany vm_fitFirst vm_fitBeats vm_listenLeaves qm_there vm_metAt vm_metIn qm_wins vm_nightHoles vm_nightFirst vm_nightMud vm_nightSlips vm_drawnNow 16 2 1 h_vm_taped h_vm_at h_vm_value (by decide) (by decide) H.size) (cwV 3 hts gX12_plays_X12_isPlay rfl rfl rfl (by decide +kernel) ⟨Nat.le_of_ble_eq_true rfl, Nat.le_of_ble_eq_true rfl⟩) (ct_preV (T := ct_T cI cJ cB cZ cO) (ci := 12) (q0 := 2) hE hH hP hD hS hA [2, 0] (by decide) rfl rfl rfl) rfl rfl hl.1 rfl (lv_room (Nat.le_of_ble_eq_true rfl)) dX12_plays_45 ⟨Nat.le_of_ble_eq_true rfl, Nat.le_of_ble_eq_true rfl⟩) hP hD hS hA [2, 0] [1, 3] rfl rfl (by decide) (by decide) (fun r567 u H locs hw hP hD hS => ?_)
            obtain ⟨hP, hD⟩ : ct_B D A H [(qm_lines, .inl (cI, 5, .inl (fm_lines))), (qm_wins, .inl (cI, 24576, .inl (g554))), mo qm 0 qm_width qm_many qm_cells qm_moved qm_tape vm_taped vm_at vm_token vm_place vm_value vm_word vm_bad vm_badPlace vm_fault vm_faultPlace qm_lines qm_has qm_round qm_meets qm_stumble qm_isMud qm_cell qm_tune qm_change qm_isKept qm_steps qm_places qm_danced vm_runMost vm_runBegins qm_heardBy vm_fitMany vm_fitFirst vm_fitBeats vm_listenLeaves qm_there vm_metAt vm_metIn qm_wins vm_nightHoles vm_nightFirst vm_nightMud vm_nightSlips vm_drawnNow, (qm_meets, .inl (cI, 30, .inl (fm_meets)))] := ⟨hP, hD⟩
            have hz := hw
            rcases hz with ⟨hz, hz2⟩ | ⟨hz, hz2⟩
            · subst hz
              have hz_568 : (pl (16 : Int32) (1 : Int32)) := hz2
              refine lv_if_eq (tgt := 68) hx hb dX12_plays_48 (by decide) (fun hc => absurd hc (by decide)) (fun _ => ?_)
              refine lv_aload_n hx hb dX12_plays_51 rfl (lv_at hl 2 rfl) ?_
              refine lv_iload_n hx hb dX12_plays_52 rfl (lv_at hl 1 rfl) ?_
              refine lv_iconst (v := 1) hx hb dX12_plays_53 (by decide) ?_
              refine lv_iconst (v := 2) hx hb dX12_plays_54 (by decide) ?_
              refine lv_iload_n hx hb dX12_plays_55 rfl (lv_at hl 0 rfl) ?_
              refine lv_imul hx hb dX12_plays_56 ?_
              refine lv_topi (fun z569 ez569 => ?_)
              obtain rfl : z569 = 2 := ez569.trans (by decide)
              refine lv_ishl hx hb dX12_plays_57 ?_
              refine lv_topi (fun z570 ez570 => ?_)
              obtain rfl : z570 = 4 := ez570.trans (by decide)
              refine lv_iadd hx hb dX12_plays_58 ?_
              refine lv_topi (fun z571 ez571 => ?_)
              obtain rfl : z571 = 20 := ez571.trans (by decide)
              refine lv_iload_n hx hb dX12_plays_59 rfl (lv_at hl 0 rfl) ?_
              refine ct_calli (D := D) (wr := [(qm_lines, .inl (cI, 5, .inl (fm_lines)))]) (va_runV (As := [.int 20, .int 1]) (rest := []) ⟨hx, hb, hml, hown, hts⟩ (c_X12_winsFrom l D G cI cJ cB cZ cO qm 0 qm_width qm_many qm_cells qm_moved qm_tape vm_taped vm_at vm_token vm_place vm_value vm_word vm_bad vm_badPlace vm_fault vm_faultPlace qm_lines qm_has qm_round qm_meets fm_meets qm_stumble qm_isMud qm_cell qm_tune qm_change qm_isKept qm_steps qm_places qm_danced vm_runMost vm_runBegins qm_heardBy vm_fitMany vm_fitFirst vm_fitBeats vm_listenLeaves qm_there vm_metAt vm_metIn qm_wins vm_nightHoles vm_nightFirst vm_nightMud vm_nightSlips vm_drawnNow h_vm_taped h_vm_at h_vm_value 12 g554 20 1 (by decide) (by unfold wn; decide) H.size) (cwV 2 hts gX12_plays_X12_winsFrom rfl rfl rfl (by decide +kernel) ⟨Nat.le_of_ble_eq_true rfl, Nat.le_of_ble_eq_true rfl⟩) (ct_preV (T := ct_T cI cJ cB cZ cO) (ci := 12) (q0 := 2) hE hH hP hD hS hA [2, 3, 1] (by decide) rfl rfl rfl) rfl rfl hl.1 rfl (lv_room (Nat.le_of_ble_eq_true rfl)) dX12_plays_60 ⟨Nat.le_of_ble_eq_true rfl, Nat.le_of_ble_eq_true rfl⟩) hP hD hS hA [2, 3, 1] [0] rfl rfl (by decide) (by decide) (fun r572 u H locs hw hP hD hS => ?_)
              obtain ⟨g573, rfl⟩ : ∃ z, z = u := ⟨_, rfl⟩
              obtain ⟨hP, hD⟩ : ct_B D A H [(qm_lines, .inl (cI, 5, .inl (fm_lines))), mo qm 0 qm_width qm_many qm_cells qm_moved qm_tape vm_taped vm_at vm_token vm_place vm_value vm_word vm_bad vm_badPlace vm_fault vm_faultPlace qm_lines qm_has qm_round qm_meets qm_stumble qm_isMud qm_cell qm_tune qm_change qm_isKept qm_steps qm_places qm_danced vm_runMost vm_runBegins qm_heardBy vm_fitMany vm_fitFirst vm_fitBeats vm_listenLeaves qm_there vm_metAt vm_metIn qm_wins vm_nightHoles vm_nightFirst vm_nightMud vm_nightSlips vm_drawnNow, (qm_meets, .inl (cI, 30, .inl (fm_meets))), (qm_wins, .inl (cI, 24576, .inl (g573)))] := ⟨hP, hD⟩
              have hz := hw
              rcases hz with ⟨hz, hz2⟩ | ⟨hz, hz2⟩
              · subst hz
                refine lv_if_ne (tgt := 68) hx hb dX12_plays_63 (by decide) (fun _ => ?_) (fun hc => absurd hc (by decide))
                refine lv_iinc (v := 2) (lv' := [(3, .int 2), (2, .int 16), (0, .ref qm), (1, .int 2)]) hx hb dX12_plays_68 hl (k := 0) rfl (by decide) (by decide) rfl (fun ls hl => ?_)
                refine lv_goto (tgt := 35) hx hb dX12_plays_71 (by decide) ?_
                have hk574 : (2 : Int32).toInt = 2 := by decide
                obtain ⟨hP9, hD9⟩ : ct_B D A H [(qm_meets, .inl (cI, 30, .inl (fm_meets))), (qm_lines, .inl (cI, 5, .inl (fm_lines))), mo qm 0 qm_width qm_many qm_cells qm_moved qm_tape vm_taped vm_at vm_token vm_place vm_value vm_word vm_bad vm_badPlace vm_fault vm_faultPlace qm_lines qm_has qm_round qm_meets qm_stumble qm_isMud qm_cell qm_tune qm_change qm_isKept qm_steps qm_places qm_danced vm_runMost vm_runBegins qm_heardBy vm_fitMany vm_fitFirst vm_fitBeats vm_listenLeaves qm_there vm_metAt vm_metIn qm_wins vm_nightHoles vm_nightFirst vm_nightMud vm_nightSlips vm_drawnNow, (qm_wins, .inl (cI, 24576, .inl (g573)))] := ⟨hP.sub [2, 0, 1, 3] rfl, hD.sub [2, 0, 1, 3] (by decide) rfl⟩
                exact ih556 (g573, (2 : Int32)) _ _ _ (show (6 - (2 : Int32).toInt).toNat < (6 - x555.toInt).toNat by omega) ⟨(show 0 ≤ (2 : Int32).toInt ∧ (2 : Int32).toInt ≤ 6 by decide), ⟨hP9, hD9⟩, hS, lv_sub hl [0, 1, 2, 3] rfl⟩
              · subst hz
                refine lv_if_ne (tgt := 68) hx hb dX12_plays_63 (by decide) (fun hc => absurd hc (by decide)) (fun _ => ?_)
                refine lv_iload_n hx hb dX12_plays_66 rfl (lv_at hl 0 rfl) ?_
                obtain ⟨hP9, hD9⟩ : ct_B D A H [mo qm 0 qm_width qm_many qm_cells qm_moved qm_tape vm_taped vm_at vm_token vm_place vm_value vm_word vm_bad vm_badPlace vm_fault vm_faultPlace qm_lines qm_has qm_round qm_meets qm_stumble qm_isMud qm_cell qm_tune qm_change qm_isKept qm_steps qm_places qm_danced vm_runMost vm_runBegins qm_heardBy vm_fitMany vm_fitFirst vm_fitBeats vm_listenLeaves qm_there vm_metAt vm_metIn qm_wins vm_nightHoles vm_nightFirst vm_nightMud vm_nightSlips vm_drawnNow, (qm_lines, .inl (cI, 5, .inl (fm_lines))), (qm_meets, .inl (cI, 30, .inl (fm_meets))), (qm_wins, .inl (cI, 24576, .inl (g573)))] := ⟨hP.sub [1, 0, 2, 3] rfl, hD.sub [1, 0, 2, 3] (by decide) rfl⟩
                exact W.iret (v := 1) hx hb hr (fun t ht hW => ⟨⟨1, ((0 : Int32), g573), rfl, (show (-2) ≤ (1 : Int32).toInt ∧ (1 : Int32).toInt ≤ 5 by decide), by rw [ht]; exact hP9, hD9⟩, hS.F ht⟩) hS.2.2 dX12_plays_67
            · subst hz
              refine lv_if_eq (tgt := 68) hx hb dX12_plays_48 (by decide) (fun _ => ?_) (fun hc => absurd hc (by decide))
              refine lv_iinc (v := 2) (lv' := [(3, .int 2), (2, .int 16), (0, .ref qm), (1, .int 2)]) hx hb dX12_plays_68 hl (k := 0) rfl (by decide) (by decide) rfl (fun ls hl => ?_)
              refine lv_goto (tgt := 35) hx hb dX12_plays_71 (by decide) ?_
              have hk575 : (2 : Int32).toInt = 2 := by decide
              obtain ⟨hP9, hD9⟩ : ct_B D A H [(qm_meets, .inl (cI, 30, .inl (fm_meets))), (qm_lines, .inl (cI, 5, .inl (fm_lines))), mo qm 0 qm_width qm_many qm_cells qm_moved qm_tape vm_taped vm_at vm_token vm_place vm_value vm_word vm_bad vm_badPlace vm_fault vm_faultPlace qm_lines qm_has qm_round qm_meets qm_stumble qm_isMud qm_cell qm_tune qm_change qm_isKept qm_steps qm_places qm_danced vm_runMost vm_runBegins qm_heardBy vm_fitMany vm_fitFirst vm_fitBeats vm_listenLeaves qm_there vm_metAt vm_metIn qm_wins vm_nightHoles vm_nightFirst vm_nightMud vm_nightSlips vm_drawnNow, (qm_wins, .inl (cI, 24576, .inl (g554)))] := ⟨hP.sub [3, 0, 2, 1] rfl, hD.sub [3, 0, 2, 1] (by decide) rfl⟩
              exact ih556 (g554, (2 : Int32)) _ _ _ (show (6 - (2 : Int32).toInt).toNat < (6 - x555.toInt).toNat by omega) ⟨(show 0 ≤ (2 : Int32).toInt ∧ (2 : Int32).toInt ≤ 6 by decide), ⟨hP9, hD9⟩, hS, lv_sub hl [0, 1, 2, 3] rfl⟩
          · have hj2 : x555 = 2 := tq_of hj (by decide)
            have hl : lv_has ls 4 [(3, .int 2), (2, .int 16), (0, .ref qm), (1, .int 2)] := by have h9 := hl; rw [hj2] at h9; exact h9
            refine lv_aload_n hx hb dX12_plays_41 rfl (lv_at hl 2 rfl) ?_
            refine lv_iload_n hx hb dX12_plays_42 rfl (lv_at hl 1 rfl) ?_
            refine lv_iload_n hx hb dX12_plays_43 rfl (lv_at hl 3 rfl) ?_
            refine lv_iload_n hx hb dX12_plays_44 rfl (lv_at hl 0 rfl) ?_
            refine ct_calli (D := D) (wr := [(qm_lines, .inl (cI, 5, .inl (fm_lines))), (qm_wins, .inl (cI, 24576, .inl (g554)))]) (va_runV (As := [.int 16, .int 2, .int 2]) (rest := []) ⟨hx, hb, hml, hown, hts⟩ (c_X12_isPlay l D G cI cJ cB cZ cO qm 0 qm_width qm_many qm_cells qm_moved qm_tape vm_taped vm_at vm_token vm_place vm_value vm_word vm_bad vm_badPlace vm_fault vm_faultPlace qm_lines qm_has qm_round qm_meets fm_meets qm_stumble qm_isMud qm_cell qm_tune qm_change qm_isKept qm_steps qm_places qm_danced vm_runMost vm_runBegins qm_heardBy vm_fitMany vm_fitFirst vm_fitBeats vm_listenLeaves qm_there vm_metAt vm_metIn qm_wins vm_nightHoles vm_nightFirst vm_nightMud vm_nightSlips vm_drawnNow 16 2 2 h_vm_taped h_vm_at h_vm_value (by decide) (by decide) H.size) (cwV 3 hts gX12_plays_X12_isPlay rfl rfl rfl (by decide +kernel) ⟨Nat.le_of_ble_eq_true rfl, Nat.le_of_ble_eq_true rfl⟩) (ct_preV (T := ct_T cI cJ cB cZ cO) (ci := 12) (q0 := 2) hE hH hP hD hS hA [2, 0] (by decide) rfl rfl rfl) rfl rfl hl.1 rfl (lv_room (Nat.le_of_ble_eq_true rfl)) dX12_plays_45 ⟨Nat.le_of_ble_eq_true rfl, Nat.le_of_ble_eq_true rfl⟩) hP hD hS hA [2, 0] [1, 3] rfl rfl (by decide) (by decide) (fun r576 u H locs hw hP hD hS => ?_)
            obtain ⟨hP, hD⟩ : ct_B D A H [(qm_lines, .inl (cI, 5, .inl (fm_lines))), (qm_wins, .inl (cI, 24576, .inl (g554))), mo qm 0 qm_width qm_many qm_cells qm_moved qm_tape vm_taped vm_at vm_token vm_place vm_value vm_word vm_bad vm_badPlace vm_fault vm_faultPlace qm_lines qm_has qm_round qm_meets qm_stumble qm_isMud qm_cell qm_tune qm_change qm_isKept qm_steps qm_places qm_danced vm_runMost vm_runBegins qm_heardBy vm_fitMany vm_fitFirst vm_fitBeats vm_listenLeaves qm_there vm_metAt vm_metIn qm_wins vm_nightHoles vm_nightFirst vm_nightMud vm_nightSlips vm_drawnNow, (qm_meets, .inl (cI, 30, .inl (fm_meets)))] := ⟨hP, hD⟩
            have hz := hw
            rcases hz with ⟨hz, hz2⟩ | ⟨hz, hz2⟩
            · subst hz
              have hz_577 : (pl (16 : Int32) (2 : Int32)) := hz2
              refine lv_if_eq (tgt := 68) hx hb dX12_plays_48 (by decide) (fun hc => absurd hc (by decide)) (fun _ => ?_)
              refine lv_aload_n hx hb dX12_plays_51 rfl (lv_at hl 2 rfl) ?_
              refine lv_iload_n hx hb dX12_plays_52 rfl (lv_at hl 1 rfl) ?_
              refine lv_iconst (v := 1) hx hb dX12_plays_53 (by decide) ?_
              refine lv_iconst (v := 2) hx hb dX12_plays_54 (by decide) ?_
              refine lv_iload_n hx hb dX12_plays_55 rfl (lv_at hl 0 rfl) ?_
              refine lv_imul hx hb dX12_plays_56 ?_
              refine lv_topi (fun z578 ez578 => ?_)
              obtain rfl : z578 = 4 := ez578.trans (by decide)
              refine lv_ishl hx hb dX12_plays_57 ?_
              refine lv_topi (fun z579 ez579 => ?_)
              obtain rfl : z579 = 16 := ez579.trans (by decide)
              refine lv_iadd hx hb dX12_plays_58 ?_
              refine lv_topi (fun z580 ez580 => ?_)
              obtain rfl : z580 = 32 := ez580.trans (by decide)
              refine lv_iload_n hx hb dX12_plays_59 rfl (lv_at hl 0 rfl) ?_
              refine ct_calli (D := D) (wr := [(qm_lines, .inl (cI, 5, .inl (fm_lines)))]) (va_runV (As := [.int 32, .int 2]) (rest := []) ⟨hx, hb, hml, hown, hts⟩ (c_X12_winsFrom l D G cI cJ cB cZ cO qm 0 qm_width qm_many qm_cells qm_moved qm_tape vm_taped vm_at vm_token vm_place vm_value vm_word vm_bad vm_badPlace vm_fault vm_faultPlace qm_lines qm_has qm_round qm_meets fm_meets qm_stumble qm_isMud qm_cell qm_tune qm_change qm_isKept qm_steps qm_places qm_danced vm_runMost vm_runBegins qm_heardBy vm_fitMany vm_fitFirst vm_fitBeats vm_listenLeaves qm_there vm_metAt vm_metIn qm_wins vm_nightHoles vm_nightFirst vm_nightMud vm_nightSlips vm_drawnNow h_vm_taped h_vm_at h_vm_value 12 g554 32 2 (by decide) (by unfold wn; decide) H.size) (cwV 2 hts gX12_plays_X12_winsFrom rfl rfl rfl (by decide +kernel) ⟨Nat.le_of_ble_eq_true rfl, Nat.le_of_ble_eq_true rfl⟩) (ct_preV (T := ct_T cI cJ cB cZ cO) (ci := 12) (q0 := 2) hE hH hP hD hS hA [2, 3, 1] (by decide) rfl rfl rfl) rfl rfl hl.1 rfl (lv_room (Nat.le_of_ble_eq_true rfl)) dX12_plays_60 ⟨Nat.le_of_ble_eq_true rfl, Nat.le_of_ble_eq_true rfl⟩) hP hD hS hA [2, 3, 1] [0] rfl rfl (by decide) (by decide) (fun r581 u H locs hw hP hD hS => ?_)
              obtain ⟨g582, rfl⟩ : ∃ z, z = u := ⟨_, rfl⟩
              obtain ⟨hP, hD⟩ : ct_B D A H [(qm_lines, .inl (cI, 5, .inl (fm_lines))), mo qm 0 qm_width qm_many qm_cells qm_moved qm_tape vm_taped vm_at vm_token vm_place vm_value vm_word vm_bad vm_badPlace vm_fault vm_faultPlace qm_lines qm_has qm_round qm_meets qm_stumble qm_isMud qm_cell qm_tune qm_change qm_isKept qm_steps qm_places qm_danced vm_runMost vm_runBegins qm_heardBy vm_fitMany vm_fitFirst vm_fitBeats vm_listenLeaves qm_there vm_metAt vm_metIn qm_wins vm_nightHoles vm_nightFirst vm_nightMud vm_nightSlips vm_drawnNow, (qm_meets, .inl (cI, 30, .inl (fm_meets))), (qm_wins, .inl (cI, 24576, .inl (g582)))] := ⟨hP, hD⟩
              have hz := hw
              rcases hz with ⟨hz, hz2⟩ | ⟨hz, hz2⟩
              · subst hz
                refine lv_if_ne (tgt := 68) hx hb dX12_plays_63 (by decide) (fun _ => ?_) (fun hc => absurd hc (by decide))
                refine lv_iinc (v := 3) (lv' := [(3, .int 3), (2, .int 16), (0, .ref qm), (1, .int 2)]) hx hb dX12_plays_68 hl (k := 0) rfl (by decide) (by decide) rfl (fun ls hl => ?_)
                refine lv_goto (tgt := 35) hx hb dX12_plays_71 (by decide) ?_
                have hk583 : (3 : Int32).toInt = 3 := by decide
                obtain ⟨hP9, hD9⟩ : ct_B D A H [(qm_meets, .inl (cI, 30, .inl (fm_meets))), (qm_lines, .inl (cI, 5, .inl (fm_lines))), mo qm 0 qm_width qm_many qm_cells qm_moved qm_tape vm_taped vm_at vm_token vm_place vm_value vm_word vm_bad vm_badPlace vm_fault vm_faultPlace qm_lines qm_has qm_round qm_meets qm_stumble qm_isMud qm_cell qm_tune qm_change qm_isKept qm_steps qm_places qm_danced vm_runMost vm_runBegins qm_heardBy vm_fitMany vm_fitFirst vm_fitBeats vm_listenLeaves qm_there vm_metAt vm_metIn qm_wins vm_nightHoles vm_nightFirst vm_nightMud vm_nightSlips vm_drawnNow, (qm_wins, .inl (cI, 24576, .inl (g582)))] := ⟨hP.sub [2, 0, 1, 3] rfl, hD.sub [2, 0, 1, 3] (by decide) rfl⟩
                exact ih556 (g582, (3 : Int32)) _ _ _ (show (6 - (3 : Int32).toInt).toNat < (6 - x555.toInt).toNat by omega) ⟨(show 0 ≤ (3 : Int32).toInt ∧ (3 : Int32).toInt ≤ 6 by decide), ⟨hP9, hD9⟩, hS, lv_sub hl [0, 1, 2, 3] rfl⟩
              · subst hz
                refine lv_if_ne (tgt := 68) hx hb dX12_plays_63 (by decide) (fun hc => absurd hc (by decide)) (fun _ => ?_)
                refine lv_iload_n hx hb dX12_plays_66 rfl (lv_at hl 0 rfl) ?_
                obtain ⟨hP9, hD9⟩ : ct_B D A H [mo qm 0 qm_width qm_many qm_cells qm_moved qm_tape vm_taped vm_at vm_token vm_place vm_value vm_word vm_bad vm_badPlace vm_fault vm_faultPlace qm_lines qm_has qm_round qm_meets qm_stumble qm_isMud qm_cell qm_tune qm_change qm_isKept qm_steps qm_places qm_danced vm_runMost vm_runBegins qm_heardBy vm_fitMany vm_fitFirst vm_fitBeats vm_listenLeaves qm_there vm_metAt vm_metIn qm_wins vm_nightHoles vm_nightFirst vm_nightMud vm_nightSlips vm_drawnNow, (qm_lines, .inl (cI, 5, .inl (fm_lines))), (qm_meets, .inl (cI, 30, .inl (fm_meets))), (qm_wins, .inl (cI, 24576, .inl (g582)))] := ⟨hP.sub [1, 0, 2, 3] rfl, hD.sub [1, 0, 2, 3] (by decide) rfl⟩
                exact W.iret (v := 2) hx hb hr (fun t ht hW => ⟨⟨2, ((0 : Int32), g582), rfl, (show (-2) ≤ (2 : Int32).toInt ∧ (2 : Int32).toInt ≤ 5 by decide), by rw [ht]; exact hP9, hD9⟩, hS.F ht⟩) hS.2.2 dX12_plays_67
            · subst hz
              refine lv_if_eq (tgt := 68) hx hb dX12_plays_48 (by decide) (fun _ => ?_) (fun hc => absurd hc (by decide))
              refine lv_iinc (v := 3) (lv' := [(3, .int 3), (2, .int 16), (0, .ref qm), (1, .int 2)]) hx hb dX12_plays_68 hl (k := 0) rfl (by decide) (by decide) rfl (fun ls hl => ?_)
              refine lv_goto (tgt := 35) hx hb dX12_plays_71 (by decide) ?_
              have hk584 : (3 : Int32).toInt = 3 := by decide
              obtain ⟨hP9, hD9⟩ : ct_B D A H [(qm_meets, .inl (cI, 30, .inl (fm_meets))), (qm_lines, .inl (cI, 5, .inl (fm_lines))), mo qm 0 qm_width qm_many qm_cells qm_moved qm_tape vm_taped vm_at vm_token vm_place vm_value vm_word vm_bad vm_badPlace vm_fault vm_faultPlace qm_lines qm_has qm_round qm_meets qm_stumble qm_isMud qm_cell qm_tune qm_change qm_isKept qm_steps qm_places qm_danced vm_runMost vm_runBegins qm_heardBy vm_fitMany vm_fitFirst vm_fitBeats vm_listenLeaves qm_there vm_metAt vm_metIn qm_wins vm_nightHoles vm_nightFirst vm_nightMud vm_nightSlips vm_drawnNow, (qm_wins, .inl (cI, 24576, .inl (g554)))] := ⟨hP.sub [3, 0, 2, 1] rfl, hD.sub [3, 0, 2, 1] (by decide) rfl⟩
              exact ih556 (g554, (3 : Int32)) _ _ _ (show (6 - (3 : Int32).toInt).toNat < (6 - x555.toInt).toNat by omega) ⟨(show 0 ≤ (3 : Int32).toInt ∧ (3 : Int32).toInt ≤ 6 by decide), ⟨hP9, hD9⟩, hS, lv_sub hl [0, 1, 2, 3] rfl⟩
          · have hj2 : x555 = 3 := tq_of hj (by decide)
            have hl : lv_has ls 4 [(3, .int 3), (2, .int 16), (0, .ref qm), (1, .int 2)] := by have h9 := hl; rw [hj2] at h9; exact h9
            refine lv_aload_n hx hb dX12_plays_41 rfl (lv_at hl 2 rfl) ?_
            refine lv_iload_n hx hb dX12_plays_42 rfl (lv_at hl 1 rfl) ?_
            refine lv_iload_n hx hb dX12_plays_43 rfl (lv_at hl 3 rfl) ?_
            refine lv_iload_n hx hb dX12_plays_44 rfl (lv_at hl 0 rfl) ?_
            refine ct_calli (D := D) (wr := [(qm_lines, .inl (cI, 5, .inl (fm_lines))), (qm_wins, .inl (cI, 24576, .inl (g554)))]) (va_runV (As := [.int 16, .int 2, .int 3]) (rest := []) ⟨hx, hb, hml, hown, hts⟩ (c_X12_isPlay l D G cI cJ cB cZ cO qm 0 qm_width qm_many qm_cells qm_moved qm_tape vm_taped vm_at vm_token vm_place vm_value vm_word vm_bad vm_badPlace vm_fault vm_faultPlace qm_lines qm_has qm_round qm_meets fm_meets qm_stumble qm_isMud qm_cell qm_tune qm_change qm_isKept qm_steps qm_places qm_danced vm_runMost vm_runBegins qm_heardBy vm_fitMany vm_fitFirst vm_fitBeats vm_listenLeaves qm_there vm_metAt vm_metIn qm_wins vm_nightHoles vm_nightFirst vm_nightMud vm_nightSlips vm_drawnNow 16 2 3 h_vm_taped h_vm_at h_vm_value (by decide) (by decide) H.size) (cwV 3 hts gX12_plays_X12_isPlay rfl rfl rfl (by decide +kernel) ⟨Nat.le_of_ble_eq_true rfl, Nat.le_of_ble_eq_true rfl⟩) (ct_preV (T := ct_T cI cJ cB cZ cO) (ci := 12) (q0 := 2) hE hH hP hD hS hA [2, 0] (by decide) rfl rfl rfl) rfl rfl hl.1 rfl (lv_room (Nat.le_of_ble_eq_true rfl)) dX12_plays_45 ⟨Nat.le_of_ble_eq_true rfl, Nat.le_of_ble_eq_true rfl⟩) hP hD hS hA [2, 0] [1, 3] rfl rfl (by decide) (by decide) (fun r585 u H locs hw hP hD hS => ?_)
            obtain ⟨hP, hD⟩ : ct_B D A H [(qm_lines, .inl (cI, 5, .inl (fm_lines))), (qm_wins, .inl (cI, 24576, .inl (g554))), mo qm 0 qm_width qm_many qm_cells qm_moved qm_tape vm_taped vm_at vm_token vm_place vm_value vm_word vm_bad vm_badPlace vm_fault vm_faultPlace qm_lines qm_has qm_round qm_meets qm_stumble qm_isMud qm_cell qm_tune qm_change qm_isKept qm_steps qm_places qm_danced vm_runMost vm_runBegins qm_heardBy vm_fitMany vm_fitFirst vm_fitBeats vm_listenLeaves qm_there vm_metAt vm_metIn qm_wins vm_nightHoles vm_nightFirst vm_nightMud vm_nightSlips vm_drawnNow, (qm_meets, .inl (cI, 30, .inl (fm_meets)))] := ⟨hP, hD⟩
            have hz := hw
            rcases hz with ⟨hz, hz2⟩ | ⟨hz, hz2⟩
            · subst hz
              have hz_586 : (pl (16 : Int32) (3 : Int32)) := hz2
              refine lv_if_eq (tgt := 68) hx hb dX12_plays_48 (by decide) (fun hc => absurd hc (by decide)) (fun _ => ?_)
              refine lv_aload_n hx hb dX12_plays_51 rfl (lv_at hl 2 rfl) ?_
              refine lv_iload_n hx hb dX12_plays_52 rfl (lv_at hl 1 rfl) ?_
              refine lv_iconst (v := 1) hx hb dX12_plays_53 (by decide) ?_
              refine lv_iconst (v := 2) hx hb dX12_plays_54 (by decide) ?_
              refine lv_iload_n hx hb dX12_plays_55 rfl (lv_at hl 0 rfl) ?_
              refine lv_imul hx hb dX12_plays_56 ?_
              refine lv_topi (fun z587 ez587 => ?_)
              obtain rfl : z587 = 6 := ez587.trans (by decide)
              refine lv_ishl hx hb dX12_plays_57 ?_
              refine lv_topi (fun z588 ez588 => ?_)
              obtain rfl : z588 = 64 := ez588.trans (by decide)
              refine lv_iadd hx hb dX12_plays_58 ?_
              refine lv_topi (fun z589 ez589 => ?_)
              obtain rfl : z589 = 80 := ez589.trans (by decide)
              refine lv_iload_n hx hb dX12_plays_59 rfl (lv_at hl 0 rfl) ?_
              refine ct_calli (D := D) (wr := [(qm_lines, .inl (cI, 5, .inl (fm_lines)))]) (va_runV (As := [.int 80, .int 3]) (rest := []) ⟨hx, hb, hml, hown, hts⟩ (c_X12_winsFrom l D G cI cJ cB cZ cO qm 0 qm_width qm_many qm_cells qm_moved qm_tape vm_taped vm_at vm_token vm_place vm_value vm_word vm_bad vm_badPlace vm_fault vm_faultPlace qm_lines qm_has qm_round qm_meets fm_meets qm_stumble qm_isMud qm_cell qm_tune qm_change qm_isKept qm_steps qm_places qm_danced vm_runMost vm_runBegins qm_heardBy vm_fitMany vm_fitFirst vm_fitBeats vm_listenLeaves qm_there vm_metAt vm_metIn qm_wins vm_nightHoles vm_nightFirst vm_nightMud vm_nightSlips vm_drawnNow h_vm_taped h_vm_at h_vm_value 12 g554 80 3 (by decide) (by unfold wn; decide) H.size) (cwV 2 hts gX12_plays_X12_winsFrom rfl rfl rfl (by decide +kernel) ⟨Nat.le_of_ble_eq_true rfl, Nat.le_of_ble_eq_true rfl⟩) (ct_preV (T := ct_T cI cJ cB cZ cO) (ci := 12) (q0 := 2) hE hH hP hD hS hA [2, 3, 1] (by decide) rfl rfl rfl) rfl rfl hl.1 rfl (lv_room (Nat.le_of_ble_eq_true rfl)) dX12_plays_60 ⟨Nat.le_of_ble_eq_true rfl, Nat.le_of_ble_eq_true rfl⟩) hP hD hS hA [2, 3, 1] [0] rfl rfl (by decide) (by decide) (fun r590 u H locs hw hP hD hS => ?_)
              obtain ⟨g591, rfl⟩ : ∃ z, z = u := ⟨_, rfl⟩
              obtain ⟨hP, hD⟩ : ct_B D A H [(qm_lines, .inl (cI, 5, .inl (fm_lines))), mo qm 0 qm_width qm_many qm_cells qm_moved qm_tape vm_taped vm_at vm_token vm_place vm_value vm_word vm_bad vm_badPlace vm_fault vm_faultPlace qm_lines qm_has qm_round qm_meets qm_stumble qm_isMud qm_cell qm_tune qm_change qm_isKept qm_steps qm_places qm_danced vm_runMost vm_runBegins qm_heardBy vm_fitMany vm_fitFirst vm_fitBeats vm_listenLeaves qm_there vm_metAt vm_metIn qm_wins vm_nightHoles vm_nightFirst vm_nightMud vm_nightSlips vm_drawnNow, (qm_meets, .inl (cI, 30, .inl (fm_meets))), (qm_wins, .inl (cI, 24576, .inl (g591)))] := ⟨hP, hD⟩
              have hz := hw
              rcases hz with ⟨hz, hz2⟩ | ⟨hz, hz2⟩
              · subst hz
                refine lv_if_ne (tgt := 68) hx hb dX12_plays_63 (by decide) (fun _ => ?_) (fun hc => absurd hc (by decide))
                refine lv_iinc (v := 4) (lv' := [(3, .int 4), (2, .int 16), (0, .ref qm), (1, .int 2)]) hx hb dX12_plays_68 hl (k := 0) rfl (by decide) (by decide) rfl (fun ls hl => ?_)
                refine lv_goto (tgt := 35) hx hb dX12_plays_71 (by decide) ?_
                have hk592 : (4 : Int32).toInt = 4 := by decide
                obtain ⟨hP9, hD9⟩ : ct_B D A H [(qm_meets, .inl (cI, 30, .inl (fm_meets))), (qm_lines, .inl (cI, 5, .inl (fm_lines))), mo qm 0 qm_width qm_many qm_cells qm_moved qm_tape vm_taped vm_at vm_token vm_place vm_value vm_word vm_bad vm_badPlace vm_fault vm_faultPlace qm_lines qm_has qm_round qm_meets qm_stumble qm_isMud qm_cell qm_tune qm_change qm_isKept qm_steps qm_places qm_danced vm_runMost vm_runBegins qm_heardBy vm_fitMany vm_fitFirst vm_fitBeats vm_listenLeaves qm_there vm_metAt vm_metIn qm_wins vm_nightHoles vm_nightFirst vm_nightMud vm_nightSlips vm_drawnNow, (qm_wins, .inl (cI, 24576, .inl (g591)))] := ⟨hP.sub [2, 0, 1, 3] rfl, hD.sub [2, 0, 1, 3] (by decide) rfl⟩
                exact ih556 (g591, (4 : Int32)) _ _ _ (show (6 - (4 : Int32).toInt).toNat < (6 - x555.toInt).toNat by omega) ⟨(show 0 ≤ (4 : Int32).toInt ∧ (4 : Int32).toInt ≤ 6 by decide), ⟨hP9, hD9⟩, hS, lv_sub hl [0, 1, 2, 3] rfl⟩
              · subst hz
                refine lv_if_ne (tgt := 68) hx hb dX12_plays_63 (by decide) (fun hc => absurd hc (by decide)) (fun _ => ?_)
                refine lv_iload_n hx hb dX12_plays_66 rfl (lv_at hl 0 rfl) ?_
                obtain ⟨hP9, hD9⟩ : ct_B D A H [mo qm 0 qm_width qm_many qm_cells qm_moved qm_tape vm_taped vm_at vm_token vm_place vm_value vm_word vm_bad vm_badPlace vm_fault vm_faultPlace qm_lines qm_has qm_round qm_meets qm_stumble qm_isMud qm_cell qm_tune qm_change qm_isKept qm_steps qm_places qm_danced vm_runMost vm_runBegins qm_heardBy vm_fitMany vm_fitFirst vm_fitBeats vm_listenLeaves qm_there vm_metAt vm_metIn qm_wins vm_nightHoles vm_nightFirst vm_nightMud vm_nightSlips vm_drawnNow, (qm_lines, .inl (cI, 5, .inl (fm_lines))), (qm_meets, .inl (cI, 30, .inl (fm_meets))), (qm_wins, .inl (cI, 24576, .inl (g591)))] := ⟨hP.sub [1, 0, 2, 3] rfl, hD.sub [1, 0, 2, 3] (by decide) rfl⟩
                exact W.iret (v := 3) hx hb hr (fun t ht hW => ⟨⟨3, ((0 : Int32), g591), rfl, (show (-2) ≤ (3 : Int32).toInt ∧ (3 : Int32).toInt ≤ 5 by decide), by rw [ht]; exact hP9, hD9⟩, hS.F ht⟩) hS.2.2 dX12_plays_67
            · subst hz
              refine lv_if_eq (tgt := 68) hx hb dX12_plays_48 (by decide) (fun _ => ?_) (fun hc => absurd hc (by decide))
              refine lv_iinc (v := 4) (lv' := [(3, .int 4), (2, .int 16), (0, .ref qm), (1, .int 2)]) hx hb dX12_plays_68 hl (k := 0) rfl (by decide) (by decide) rfl (fun ls hl => ?_)
              refine lv_goto (tgt := 35) hx hb dX12_plays_71 (by decide) ?_
              have hk593 : (4 : Int32).toInt = 4 := by decide
              obtain ⟨hP9, hD9⟩ : ct_B D A H [(qm_meets, .inl (cI, 30, .inl (fm_meets))), (qm_lines, .inl (cI, 5, .inl (fm_lines))), mo qm 0 qm_width qm_many qm_cells qm_moved qm_tape vm_taped vm_at vm_token vm_place vm_value vm_word vm_bad vm_badPlace vm_fault vm_faultPlace qm_lines qm_has qm_round qm_meets qm_stumble qm_isMud qm_cell qm_tune qm_change qm_isKept qm_steps qm_places qm_danced vm_runMost vm_runBegins qm_heardBy vm_fitMany vm_fitFirst vm_fitBeats vm_listenLeaves qm_there vm_metAt vm_metIn qm_wins vm_nightHoles vm_nightFirst vm_nightMud vm_nightSlips vm_drawnNow, (qm_wins, .inl (cI, 24576, .inl (g554)))] := ⟨hP.sub [3, 0, 2, 1] rfl, hD.sub [3, 0, 2, 1] (by decide) rfl⟩
              exact ih556 (g554, (4 : Int32)) _ _ _ (show (6 - (4 : Int32).toInt).toNat < (6 - x555.toInt).toNat by omega) ⟨(show 0 ≤ (4 : Int32).toInt ∧ (4 : Int32).toInt ≤ 6 by decide), ⟨hP9, hD9⟩, hS, lv_sub hl [0, 1, 2, 3] rfl⟩
          · have hj2 : x555 = 4 := tq_of hj (by decide)
            have hl : lv_has ls 4 [(3, .int 4), (2, .int 16), (0, .ref qm), (1, .int 2)] := by have h9 := hl; rw [hj2] at h9; exact h9
            refine lv_aload_n hx hb dX12_plays_41 rfl (lv_at hl 2 rfl) ?_
            refine lv_iload_n hx hb dX12_plays_42 rfl (lv_at hl 1 rfl) ?_
            refine lv_iload_n hx hb dX12_plays_43 rfl (lv_at hl 3 rfl) ?_
            refine lv_iload_n hx hb dX12_plays_44 rfl (lv_at hl 0 rfl) ?_
            refine ct_calli (D := D) (wr := [(qm_lines, .inl (cI, 5, .inl (fm_lines))), (qm_wins, .inl (cI, 24576, .inl (g554)))]) (va_runV (As := [.int 16, .int 2, .int 4]) (rest := []) ⟨hx, hb, hml, hown, hts⟩ (c_X12_isPlay l D G cI cJ cB cZ cO qm 0 qm_width qm_many qm_cells qm_moved qm_tape vm_taped vm_at vm_token vm_place vm_value vm_word vm_bad vm_badPlace vm_fault vm_faultPlace qm_lines qm_has qm_round qm_meets fm_meets qm_stumble qm_isMud qm_cell qm_tune qm_change qm_isKept qm_steps qm_places qm_danced vm_runMost vm_runBegins qm_heardBy vm_fitMany vm_fitFirst vm_fitBeats vm_listenLeaves qm_there vm_metAt vm_metIn qm_wins vm_nightHoles vm_nightFirst vm_nightMud vm_nightSlips vm_drawnNow 16 2 4 h_vm_taped h_vm_at h_vm_value (by decide) (by decide) H.size) (cwV 3 hts gX12_plays_X12_isPlay rfl rfl rfl (by decide +kernel) ⟨Nat.le_of_ble_eq_true rfl, Nat.le_of_ble_eq_true rfl⟩) (ct_preV (T := ct_T cI cJ cB cZ cO) (ci := 12) (q0 := 2) hE hH hP hD hS hA [2, 0] (by decide) rfl rfl rfl) rfl rfl hl.1 rfl (lv_room (Nat.le_of_ble_eq_true rfl)) dX12_plays_45 ⟨Nat.le_of_ble_eq_true rfl, Nat.le_of_ble_eq_true rfl⟩) hP hD hS hA [2, 0] [1, 3] rfl rfl (by decide) (by decide) (fun r594 u H locs hw hP hD hS => ?_)
            obtain ⟨hP, hD⟩ : ct_B D A H [(qm_lines, .inl (cI, 5, .inl (fm_lines))), (qm_wins, .inl (cI, 24576, .inl (g554))), mo qm 0 qm_width qm_many qm_cells qm_moved qm_tape vm_taped vm_at vm_token vm_place vm_value vm_word vm_bad vm_badPlace vm_fault vm_faultPlace qm_lines qm_has qm_round qm_meets qm_stumble qm_isMud qm_cell qm_tune qm_change qm_isKept qm_steps qm_places qm_danced vm_runMost vm_runBegins qm_heardBy vm_fitMany vm_fitFirst vm_fitBeats vm_listenLeaves qm_there vm_metAt vm_metIn qm_wins vm_nightHoles vm_nightFirst vm_nightMud vm_nightSlips vm_drawnNow, (qm_meets, .inl (cI, 30, .inl (fm_meets)))] := ⟨hP, hD⟩
            have hz := hw
            rcases hz with ⟨hz, hz2⟩ | ⟨hz, hz2⟩
            · subst hz
              have hz_595 : (pl (16 : Int32) (4 : Int32)) := hz2
              refine lv_if_eq (tgt := 68) hx hb dX12_plays_48 (by decide) (fun hc => absurd hc (by decide)) (fun _ => ?_)
              refine lv_aload_n hx hb dX12_plays_51 rfl (lv_at hl 2 rfl) ?_
              refine lv_iload_n hx hb dX12_plays_52 rfl (lv_at hl 1 rfl) ?_
              refine lv_iconst (v := 1) hx hb dX12_plays_53 (by decide) ?_
              refine lv_iconst (v := 2) hx hb dX12_plays_54 (by decide) ?_
              refine lv_iload_n hx hb dX12_plays_55 rfl (lv_at hl 0 rfl) ?_
              refine lv_imul hx hb dX12_plays_56 ?_
              refine lv_topi (fun z596 ez596 => ?_)
              obtain rfl : z596 = 8 := ez596.trans (by decide)
              refine lv_ishl hx hb dX12_plays_57 ?_
              refine lv_topi (fun z597 ez597 => ?_)
              obtain rfl : z597 = 256 := ez597.trans (by decide)
              refine lv_iadd hx hb dX12_plays_58 ?_
              refine lv_topi (fun z598 ez598 => ?_)
              obtain rfl : z598 = 272 := ez598.trans (by decide)
              refine lv_iload_n hx hb dX12_plays_59 rfl (lv_at hl 0 rfl) ?_
              refine ct_calli (D := D) (wr := [(qm_lines, .inl (cI, 5, .inl (fm_lines)))]) (va_runV (As := [.int 272, .int 4]) (rest := []) ⟨hx, hb, hml, hown, hts⟩ (c_X12_winsFrom l D G cI cJ cB cZ cO qm 0 qm_width qm_many qm_cells qm_moved qm_tape vm_taped vm_at vm_token vm_place vm_value vm_word vm_bad vm_badPlace vm_fault vm_faultPlace qm_lines qm_has qm_round qm_meets fm_meets qm_stumble qm_isMud qm_cell qm_tune qm_change qm_isKept qm_steps qm_places qm_danced vm_runMost vm_runBegins qm_heardBy vm_fitMany vm_fitFirst vm_fitBeats vm_listenLeaves qm_there vm_metAt vm_metIn qm_wins vm_nightHoles vm_nightFirst vm_nightMud vm_nightSlips vm_drawnNow h_vm_taped h_vm_at h_vm_value 12 g554 272 4 (by decide) (by unfold wn; decide) H.size) (cwV 2 hts gX12_plays_X12_winsFrom rfl rfl rfl (by decide +kernel) ⟨Nat.le_of_ble_eq_true rfl, Nat.le_of_ble_eq_true rfl⟩) (ct_preV (T := ct_T cI cJ cB cZ cO) (ci := 12) (q0 := 2) hE hH hP hD hS hA [2, 3, 1] (by decide) rfl rfl rfl) rfl rfl hl.1 rfl (lv_room (Nat.le_of_ble_eq_true rfl)) dX12_plays_60 ⟨Nat.le_of_ble_eq_true rfl, Nat.le_of_ble_eq_true rfl⟩) hP hD hS hA [2, 3, 1] [0] rfl rfl (by decide) (by decide) (fun r599 u H locs hw hP hD hS => ?_)
              obtain ⟨g600, rfl⟩ : ∃ z, z = u := ⟨_, rfl⟩
              obtain ⟨hP, hD⟩ : ct_B D A H [(qm_lines, .inl (cI, 5, .inl (fm_lines))), mo qm 0 qm_width qm_many qm_cells qm_moved qm_tape vm_taped vm_at vm_token vm_place vm_value vm_word vm_bad vm_badPlace vm_fault vm_faultPlace qm_lines qm_has qm_round qm_meets qm_stumble qm_isMud qm_cell qm_tune qm_change qm_isKept qm_steps qm_places qm_danced vm_runMost vm_runBegins qm_heardBy vm_fitMany vm_fitFirst vm_fitBeats vm_listenLeaves qm_there vm_metAt vm_metIn qm_wins vm_nightHoles vm_nightFirst vm_nightMud vm_nightSlips vm_drawnNow, (qm_meets, .inl (cI, 30, .inl (fm_meets))), (qm_wins, .inl (cI, 24576, .inl (g600)))] := ⟨hP, hD⟩
              have hz := hw
              rcases hz with ⟨hz, hz2⟩ | ⟨hz, hz2⟩
              · subst hz
                refine lv_if_ne (tgt := 68) hx hb dX12_plays_63 (by decide) (fun _ => ?_) (fun hc => absurd hc (by decide))
                refine lv_iinc (v := 5) (lv' := [(3, .int 5), (2, .int 16), (0, .ref qm), (1, .int 2)]) hx hb dX12_plays_68 hl (k := 0) rfl (by decide) (by decide) rfl (fun ls hl => ?_)
                refine lv_goto (tgt := 35) hx hb dX12_plays_71 (by decide) ?_
                have hk601 : (5 : Int32).toInt = 5 := by decide
                obtain ⟨hP9, hD9⟩ : ct_B D A H [(qm_meets, .inl (cI, 30, .inl (fm_meets))), (qm_lines, .inl (cI, 5, .inl (fm_lines))), mo qm 0 qm_width qm_many qm_cells qm_moved qm_tape vm_taped vm_at vm_token vm_place vm_value vm_word vm_bad vm_badPlace vm_fault vm_faultPlace qm_lines qm_has qm_round qm_meets qm_stumble qm_isMud qm_cell qm_tune qm_change qm_isKept qm_steps qm_places qm_danced vm_runMost vm_runBegins qm_heardBy vm_fitMany vm_fitFirst vm_fitBeats vm_listenLeaves qm_there vm_metAt vm_metIn qm_wins vm_nightHoles vm_nightFirst vm_nightMud vm_nightSlips vm_drawnNow, (qm_wins, .inl (cI, 24576, .inl (g600)))] := ⟨hP.sub [2, 0, 1, 3] rfl, hD.sub [2, 0, 1, 3] (by decide) rfl⟩
                exact ih556 (g600, (5 : Int32)) _ _ _ (show (6 - (5 : Int32).toInt).toNat < (6 - x555.toInt).toNat by omega) ⟨(show 0 ≤ (5 : Int32).toInt ∧ (5 : Int32).toInt ≤ 6 by decide), ⟨hP9, hD9⟩, hS, lv_sub hl [0, 1, 2, 3] rfl⟩
              · subst hz
                refine lv_if_ne (tgt := 68) hx hb dX12_plays_63 (by decide) (fun hc => absurd hc (by decide)) (fun _ => ?_)
                refine lv_iload_n hx hb dX12_plays_66 rfl (lv_at hl 0 rfl) ?_
                obtain ⟨hP9, hD9⟩ : ct_B D A H [mo qm 0 qm_width qm_many qm_cells qm_moved qm_tape vm_taped vm_at vm_token vm_place vm_value vm_word vm_bad vm_badPlace vm_fault vm_faultPlace qm_lines qm_has qm_round qm_meets qm_stumble qm_isMud qm_cell qm_tune qm_change qm_isKept qm_steps qm_places qm_danced vm_runMost vm_runBegins qm_heardBy vm_fitMany vm_fitFirst vm_fitBeats vm_listenLeaves qm_there vm_metAt vm_metIn qm_wins vm_nightHoles vm_nightFirst vm_nightMud vm_nightSlips vm_drawnNow, (qm_lines, .inl (cI, 5, .inl (fm_lines))), (qm_meets, .inl (cI, 30, .inl (fm_meets))), (qm_wins, .inl (cI, 24576, .inl (g600)))] := ⟨hP.sub [1, 0, 2, 3] rfl, hD.sub [1, 0, 2, 3] (by decide) rfl⟩
                exact W.iret (v := 4) hx hb hr (fun t ht hW => ⟨⟨4, ((0 : Int32), g600), rfl, (show (-2) ≤ (4 : Int32).toInt ∧ (4 : Int32).toInt ≤ 5 by decide), by rw [ht]; exact hP9, hD9⟩, hS.F ht⟩) hS.2.2 dX12_plays_67
            · subst hz
              refine lv_if_eq (tgt := 68) hx hb dX12_plays_48 (by decide) (fun _ => ?_) (fun hc => absurd hc (by decide))
              refine lv_iinc (v := 5) (lv' := [(3, .int 5), (2, .int 16), (0, .ref qm), (1, .int 2)]) hx hb dX12_plays_68 hl (k := 0) rfl (by decide) (by decide) rfl (fun ls hl => ?_)
              refine lv_goto (tgt := 35) hx hb dX12_plays_71 (by decide) ?_
              have hk602 : (5 : Int32).toInt = 5 := by decide
              obtain ⟨hP9, hD9⟩ : ct_B D A H [(qm_meets, .inl (cI, 30, .inl (fm_meets))), (qm_lines, .inl (cI, 5, .inl (fm_lines))), mo qm 0 qm_width qm_many qm_cells qm_moved qm_tape vm_taped vm_at vm_token vm_place vm_value vm_word vm_bad vm_badPlace vm_fault vm_faultPlace qm_lines qm_has qm_round qm_meets qm_stumble qm_isMud qm_cell qm_tune qm_change qm_isKept qm_steps qm_places qm_danced vm_runMost vm_runBegins qm_heardBy vm_fitMany vm_fitFirst vm_fitBeats vm_listenLeaves qm_there vm_metAt vm_metIn qm_wins vm_nightHoles vm_nightFirst vm_nightMud vm_nightSlips vm_drawnNow, (qm_wins, .inl (cI, 24576, .inl (g554)))] := ⟨hP.sub [3, 0, 2, 1] rfl, hD.sub [3, 0, 2, 1] (by decide) rfl⟩
              exact ih556 (g554, (5 : Int32)) _ _ _ (show (6 - (5 : Int32).toInt).toNat < (6 - x555.toInt).toNat by omega) ⟨(show 0 ≤ (5 : Int32).toInt ∧ (5 : Int32).toInt ≤ 6 by decide), ⟨hP9, hD9⟩, hS, lv_sub hl [0, 1, 2, 3] rfl⟩
          · have hj2 : x555 = 5 := tq_of hj (by decide)
            have hl : lv_has ls 4 [(3, .int 5), (2, .int 16), (0, .ref qm), (1, .int 2)] := by have h9 := hl; rw [hj2] at h9; exact h9
            refine lv_aload_n hx hb dX12_plays_41 rfl (lv_at hl 2 rfl) ?_
            refine lv_iload_n hx hb dX12_plays_42 rfl (lv_at hl 1 rfl) ?_
            refine lv_iload_n hx hb dX12_plays_43 rfl (lv_at hl 3 rfl) ?_
            refine lv_iload_n hx hb dX12_plays_44 rfl (lv_at hl 0 rfl) ?_
            refine ct_calli (D := D) (wr := [(qm_lines, .inl (cI, 5, .inl (fm_lines))), (qm_wins, .inl (cI, 24576, .inl (g554)))]) (va_runV (As := [.int 16, .int 2, .int 5]) (rest := []) ⟨hx, hb, hml, hown, hts⟩ (c_X12_isPlay l D G cI cJ cB cZ cO qm 0 qm_width qm_many qm_cells qm_moved qm_tape vm_taped vm_at vm_token vm_place vm_value vm_word vm_bad vm_badPlace vm_fault vm_faultPlace qm_lines qm_has qm_round qm_meets fm_meets qm_stumble qm_isMud qm_cell qm_tune qm_change qm_isKept qm_steps qm_places qm_danced vm_runMost vm_runBegins qm_heardBy vm_fitMany vm_fitFirst vm_fitBeats vm_listenLeaves qm_there vm_metAt vm_metIn qm_wins vm_nightHoles vm_nightFirst vm_nightMud vm_nightSlips vm_drawnNow 16 2 5 h_vm_taped h_vm_at h_vm_value (by decide) (by decide) H.size) (cwV 3 hts gX12_plays_X12_isPlay rfl rfl rfl (by decide +kernel) ⟨Nat.le_of_ble_eq_true rfl, Nat.le_of_ble_eq_true rfl⟩) (ct_preV (T := ct_T cI cJ cB cZ cO) (ci := 12) (q0 := 2) hE hH hP hD hS hA [2, 0] (by decide) rfl rfl rfl) rfl rfl hl.1 rfl (lv_room (Nat.le_of_ble_eq_true rfl)) dX12_plays_45 ⟨Nat.le_of_ble_eq_true rfl, Nat.le_of_ble_eq_true rfl⟩) hP hD hS hA [2, 0] [1, 3] rfl rfl (by decide) (by decide) (fun r603 u H locs hw hP hD hS => ?_)
            obtain ⟨hP, hD⟩ : ct_B D A H [(qm_lines, .inl (cI, 5, .inl (fm_lines))), (qm_wins, .inl (cI, 24576, .inl (g554))), mo qm 0 qm_width qm_many qm_cells qm_moved qm_tape vm_taped vm_at vm_token vm_place vm_value vm_word vm_bad vm_badPlace vm_fault vm_faultPlace qm_lines qm_has qm_round qm_meets qm_stumble qm_isMud qm_cell qm_tune qm_change qm_isKept qm_steps qm_places qm_danced vm_runMost vm_runBegins qm_heardBy vm_fitMany vm_fitFirst vm_fitBeats vm_listenLeaves qm_there vm_metAt vm_metIn qm_wins vm_nightHoles vm_nightFirst vm_nightMud vm_nightSlips vm_drawnNow, (qm_meets, .inl (cI, 30, .inl (fm_meets)))] := ⟨hP, hD⟩
            have hz := hw
            rcases hz with ⟨hz, hz2⟩ | ⟨hz, hz2⟩
            · subst hz
              have hz_604 : (pl (16 : Int32) (5 : Int32)) := hz2
              refine lv_if_eq (tgt := 68) hx hb dX12_plays_48 (by decide) (fun hc => absurd hc (by decide)) (fun _ => ?_)
              refine lv_aload_n hx hb dX12_plays_51 rfl (lv_at hl 2 rfl) ?_
              refine lv_iload_n hx hb dX12_plays_52 rfl (lv_at hl 1 rfl) ?_
              refine lv_iconst (v := 1) hx hb dX12_plays_53 (by decide) ?_
              refine lv_iconst (v := 2) hx hb dX12_plays_54 (by decide) ?_
              refine lv_iload_n hx hb dX12_plays_55 rfl (lv_at hl 0 rfl) ?_
              refine lv_imul hx hb dX12_plays_56 ?_
              refine lv_topi (fun z605 ez605 => ?_)
              obtain rfl : z605 = 10 := ez605.trans (by decide)
              refine lv_ishl hx hb dX12_plays_57 ?_
              refine lv_topi (fun z606 ez606 => ?_)
              obtain rfl : z606 = 1024 := ez606.trans (by decide)
              refine lv_iadd hx hb dX12_plays_58 ?_
              refine lv_topi (fun z607 ez607 => ?_)
              obtain rfl : z607 = 1040 := ez607.trans (by decide)
              refine lv_iload_n hx hb dX12_plays_59 rfl (lv_at hl 0 rfl) ?_
              refine ct_calli (D := D) (wr := [(qm_lines, .inl (cI, 5, .inl (fm_lines)))]) (va_runV (As := [.int 1040, .int 5]) (rest := []) ⟨hx, hb, hml, hown, hts⟩ (c_X12_winsFrom l D G cI cJ cB cZ cO qm 0 qm_width qm_many qm_cells qm_moved qm_tape vm_taped vm_at vm_token vm_place vm_value vm_word vm_bad vm_badPlace vm_fault vm_faultPlace qm_lines qm_has qm_round qm_meets fm_meets qm_stumble qm_isMud qm_cell qm_tune qm_change qm_isKept qm_steps qm_places qm_danced vm_runMost vm_runBegins qm_heardBy vm_fitMany vm_fitFirst vm_fitBeats vm_listenLeaves qm_there vm_metAt vm_metIn qm_wins vm_nightHoles vm_nightFirst vm_nightMud vm_nightSlips vm_drawnNow h_vm_taped h_vm_at h_vm_value 12 g554 1040 5 (by decide) (by unfold wn; decide) H.size) (cwV 2 hts gX12_plays_X12_winsFrom rfl rfl rfl (by decide +kernel) ⟨Nat.le_of_ble_eq_true rfl, Nat.le_of_ble_eq_true rfl⟩) (ct_preV (T := ct_T cI cJ cB cZ cO) (ci := 12) (q0 := 2) hE hH hP hD hS hA [2, 3, 1] (by decide) rfl rfl rfl) rfl rfl hl.1 rfl (lv_room (Nat.le_of_ble_eq_true rfl)) dX12_plays_60 ⟨Nat.le_of_ble_eq_true rfl, Nat.le_of_ble_eq_true rfl⟩) hP hD hS hA [2, 3, 1] [0] rfl rfl (by decide) (by decide) (fun r608 u H locs hw hP hD hS => ?_)
              obtain ⟨g609, rfl⟩ : ∃ z, z = u := ⟨_, rfl⟩
              obtain ⟨hP, hD⟩ : ct_B D A H [(qm_lines, .inl (cI, 5, .inl (fm_lines))), mo qm 0 qm_width qm_many qm_cells qm_moved qm_tape vm_taped vm_at vm_token vm_place vm_value vm_word vm_bad vm_badPlace vm_fault vm_faultPlace qm_lines qm_has qm_round qm_meets qm_stumble qm_isMud qm_cell qm_tune qm_change qm_isKept qm_steps qm_places qm_danced vm_runMost vm_runBegins qm_heardBy vm_fitMany vm_fitFirst vm_fitBeats vm_listenLeaves qm_there vm_metAt vm_metIn qm_wins vm_nightHoles vm_nightFirst vm_nightMud vm_nightSlips vm_drawnNow, (qm_meets, .inl (cI, 30, .inl (fm_meets))), (qm_wins, .inl (cI, 24576, .inl (g609)))] := ⟨hP, hD⟩
              have hz := hw
              rcases hz with ⟨hz, hz2⟩ | ⟨hz, hz2⟩
              · subst hz
                refine lv_if_ne (tgt := 68) hx hb dX12_plays_63 (by decide) (fun _ => ?_) (fun hc => absurd hc (by decide))
                refine lv_iinc (v := 6) (lv' := [(3, .int 6), (2, .int 16), (0, .ref qm), (1, .int 2)]) hx hb dX12_plays_68 hl (k := 0) rfl (by decide) (by decide) rfl (fun ls hl => ?_)
                refine lv_goto (tgt := 35) hx hb dX12_plays_71 (by decide) ?_
                have hk610 : (6 : Int32).toInt = 6 := by decide
                obtain ⟨hP9, hD9⟩ : ct_B D A H [(qm_meets, .inl (cI, 30, .inl (fm_meets))), (qm_lines, .inl (cI, 5, .inl (fm_lines))), mo qm 0 qm_width qm_many qm_cells qm_moved qm_tape vm_taped vm_at vm_token vm_place vm_value vm_word vm_bad vm_badPlace vm_fault vm_faultPlace qm_lines qm_has qm_round qm_meets qm_stumble qm_isMud qm_cell qm_tune qm_change qm_isKept qm_steps qm_places qm_danced vm_runMost vm_runBegins qm_heardBy vm_fitMany vm_fitFirst vm_fitBeats vm_listenLeaves qm_there vm_metAt vm_metIn qm_wins vm_nightHoles vm_nightFirst vm_nightMud vm_nightSlips vm_drawnNow, (qm_wins, .inl (cI, 24576, .inl (g609)))] := ⟨hP.sub [2, 0, 1, 3] rfl, hD.sub [2, 0, 1, 3] (by decide) rfl⟩
                exact ih556 (g609, (6 : Int32)) _ _ _ (show (6 - (6 : Int32).toInt).toNat < (6 - x555.toInt).toNat by omega) ⟨(show 0 ≤ (6 : Int32).toInt ∧ (6 : Int32).toInt ≤ 6 by decide), ⟨hP9, hD9⟩, hS, lv_sub hl [0, 1, 2, 3] rfl⟩
              · subst hz
                refine lv_if_ne (tgt := 68) hx hb dX12_plays_63 (by decide) (fun hc => absurd hc (by decide)) (fun _ => ?_)
                refine lv_iload_n hx hb dX12_plays_66 rfl (lv_at hl 0 rfl) ?_
                obtain ⟨hP9, hD9⟩ : ct_B D A H [mo qm 0 qm_width qm_many qm_cells qm_moved qm_tape vm_taped vm_at vm_token vm_place vm_value vm_word vm_bad vm_badPlace vm_fault vm_faultPlace qm_lines qm_has qm_round qm_meets qm_stumble qm_isMud qm_cell qm_tune qm_change qm_isKept qm_steps qm_places qm_danced vm_runMost vm_runBegins qm_heardBy vm_fitMany vm_fitFirst vm_fitBeats vm_listenLeaves qm_there vm_metAt vm_metIn qm_wins vm_nightHoles vm_nightFirst vm_nightMud vm_nightSlips vm_drawnNow, (qm_lines, .inl (cI, 5, .inl (fm_lines))), (qm_meets, .inl (cI, 30, .inl (fm_meets))), (qm_wins, .inl (cI, 24576, .inl (g609)))] := ⟨hP.sub [1, 0, 2, 3] rfl, hD.sub [1, 0, 2, 3] (by decide) rfl⟩
                exact W.iret (v := 5) hx hb hr (fun t ht hW => ⟨⟨5, ((0 : Int32), g609), rfl, (show (-2) ≤ (5 : Int32).toInt ∧ (5 : Int32).toInt ≤ 5 by decide), by rw [ht]; exact hP9, hD9⟩, hS.F ht⟩) hS.2.2 dX12_plays_67
            · subst hz
              refine lv_if_eq (tgt := 68) hx hb dX12_plays_48 (by decide) (fun _ => ?_) (fun hc => absurd hc (by decide))
              refine lv_iinc (v := 6) (lv' := [(3, .int 6), (2, .int 16), (0, .ref qm), (1, .int 2)]) hx hb dX12_plays_68 hl (k := 0) rfl (by decide) (by decide) rfl (fun ls hl => ?_)
              refine lv_goto (tgt := 35) hx hb dX12_plays_71 (by decide) ?_
              have hk611 : (6 : Int32).toInt = 6 := by decide
              obtain ⟨hP9, hD9⟩ : ct_B D A H [(qm_meets, .inl (cI, 30, .inl (fm_meets))), (qm_lines, .inl (cI, 5, .inl (fm_lines))), mo qm 0 qm_width qm_many qm_cells qm_moved qm_tape vm_taped vm_at vm_token vm_place vm_value vm_word vm_bad vm_badPlace vm_fault vm_faultPlace qm_lines qm_has qm_round qm_meets qm_stumble qm_isMud qm_cell qm_tune qm_change qm_isKept qm_steps qm_places qm_danced vm_runMost vm_runBegins qm_heardBy vm_fitMany vm_fitFirst vm_fitBeats vm_listenLeaves qm_there vm_metAt vm_metIn qm_wins vm_nightHoles vm_nightFirst vm_nightMud vm_nightSlips vm_drawnNow, (qm_wins, .inl (cI, 24576, .inl (g554)))] := ⟨hP.sub [3, 0, 2, 1] rfl, hD.sub [3, 0, 2, 1] (by decide) rfl⟩
              exact ih556 (g554, (6 : Int32)) _ _ _ (show (6 - (6 : Int32).toInt).toNat < (6 - x555.toInt).toNat by omega) ⟨(show 0 ≤ (6 : Int32).toInt ∧ (6 : Int32).toInt ≤ 6 by decide), ⟨hP9, hD9⟩, hS, lv_sub hl [0, 1, 2, 3] rfl⟩
      · have hj2 : a1 = 3 := tq_of hj (by decide)
        have hl : lv_has ls 4 [(0, .ref qm), (1, .int 3)] := by have h9 := hl; rw [hj2] at h9; exact h9
        refine lv_iconst (v := 1) hx hb dX12_plays_27 (by decide) ?_
        refine lv_iconst (v := 2) hx hb dX12_plays_28 (by decide) ?_
        refine lv_iload_n hx hb dX12_plays_29 rfl (lv_at hl 1 rfl) ?_
        refine lv_imul hx hb dX12_plays_30 ?_
        refine lv_topi (fun z612 ez612 => ?_)
        obtain rfl : z612 = 6 := ez612.trans (by decide)
        refine lv_ishl hx hb dX12_plays_31 ?_
        refine lv_topi (fun z613 ez613 => ?_)
        obtain rfl : z613 = 64 := ez613.trans (by decide)
        refine lv_istore_n (lv' := [(2, .int 64), (0, .ref qm), (1, .int 3)]) hx hb dX12_plays_32 rfl hl (by decide) rfl (fun ls hl => ?_)
        refine lv_iconst (v := 0) hx hb dX12_plays_33 (by decide) ?_
        refine lv_istore_n (lv' := [(3, .int 0), (2, .int 64), (0, .ref qm), (1, .int 3)]) hx hb dX12_plays_34 rfl hl (by decide) rfl (fun ls hl => ?_)
        refine ct_loop (X := (Nat → Int32) × Int32) (fun x => (6 - x.2.toInt).toNat) (fun x H locs ls => ((0 ≤ x.2.toInt ∧ x.2.toInt ≤ 6)) ∧ ct_B D A H [(qm_meets, .inl (cI, 30, .inl (fm_meets))), (qm_lines, .inl (cI, 5, .inl (fm_lines))), mo qm 0 qm_width qm_many qm_cells qm_moved qm_tape vm_taped vm_at vm_token vm_place vm_value vm_word vm_bad vm_badPlace vm_fault vm_faultPlace qm_lines qm_has qm_round qm_meets qm_stumble qm_isMud qm_cell qm_tune qm_change qm_isKept qm_steps qm_places qm_danced vm_runMost vm_runBegins qm_heardBy vm_fitMany vm_fitFirst vm_fitBeats vm_listenLeaves qm_there vm_metAt vm_metIn qm_wins vm_nightHoles vm_nightFirst vm_nightMud vm_nightSlips vm_drawnNow, (qm_wins, .inl (cI, 24576, .inl (x.1)))] ∧ va_S A s.heap H locs ∧ lv_has ls 4 [(3, .int x.2), (2, .int 64), (0, .ref qm), (1, .int 3)]) 35 (g5, (0 : Int32)) ⟨(show 0 ≤ (0 : Int32).toInt ∧ (0 : Int32).toInt ≤ 6 by decide), ⟨hP, hD⟩, hS, lv_sub hl [0, 1, 2, 3] rfl⟩ (fun x ih758 H locs ls hI => ?_)
        obtain ⟨g756, x757⟩ := x
        obtain ⟨h_x757, ⟨hP, hD⟩, hS, hl⟩ := hI
        have h_x757 : (0 ≤ x757.toInt ∧ x757.toInt ≤ 6) := h_x757
        obtain ⟨hP, hD⟩ : ct_B D A H [(qm_meets, .inl (cI, 30, .inl (fm_meets))), (qm_lines, .inl (cI, 5, .inl (fm_lines))), mo qm 0 qm_width qm_many qm_cells qm_moved qm_tape vm_taped vm_at vm_token vm_place vm_value vm_word vm_bad vm_badPlace vm_fault vm_faultPlace qm_lines qm_has qm_round qm_meets qm_stumble qm_isMud qm_cell qm_tune qm_change qm_isKept qm_steps qm_places qm_danced vm_runMost vm_runBegins qm_heardBy vm_fitMany vm_fitFirst vm_fitBeats vm_listenLeaves qm_there vm_metAt vm_metIn qm_wins vm_nightHoles vm_nightFirst vm_nightMud vm_nightSlips vm_drawnNow, (qm_wins, .inl (cI, 24576, .inl (g756)))] := ⟨hP, hD⟩
        have hl : lv_has ls 4 [(3, .int x757), (2, .int 64), (0, .ref qm), (1, .int 3)] := hl
        refine lv_iload_n hx hb dX12_plays_35 rfl (lv_at hl 0 rfl) ?_
        refine lv_bipush (v := 6) hx hb dX12_plays_36 (by decide) ?_
        refine lv_icmp_ge (tgt := 74) hx hb dX12_plays_38 (by decide) (fun hc => ?_) (fun hc => ?_)
        · have hq759 : 6 ≤ x757.toInt := tq_le (by decide) rfl hc
          refine lv_iconst (v := (-1)) hx hb dX12_plays_74 (by decide) ?_
          obtain ⟨hP9, hD9⟩ : ct_B D A H [mo qm 0 qm_width qm_many qm_cells qm_moved qm_tape vm_taped vm_at vm_token vm_place vm_value vm_word vm_bad vm_badPlace vm_fault vm_faultPlace qm_lines qm_has qm_round qm_meets qm_stumble qm_isMud qm_cell qm_tune qm_change qm_isKept qm_steps qm_places qm_danced vm_runMost vm_runBegins qm_heardBy vm_fitMany vm_fitFirst vm_fitBeats vm_listenLeaves qm_there vm_metAt vm_metIn qm_wins vm_nightHoles vm_nightFirst vm_nightMud vm_nightSlips vm_drawnNow, (qm_lines, .inl (cI, 5, .inl (fm_lines))), (qm_meets, .inl (cI, 30, .inl (fm_meets))), (qm_wins, .inl (cI, 24576, .inl (g756)))] := ⟨hP.sub [2, 1, 0, 3] rfl, hD.sub [2, 1, 0, 3] (by decide) rfl⟩
          exact W.iret (v := (-1)) hx hb hr (fun t ht hW => ⟨⟨(-1), ((0 : Int32), g756), rfl, (show (-2) ≤ (-1 : Int32).toInt ∧ (-1 : Int32).toInt ≤ 5 by decide), by rw [ht]; exact hP9, hD9⟩, hS.F ht⟩) hS.2.2 dX12_plays_75
        · have hq759 : x757.toInt < 6 := tq_nle (by decide) rfl hc
          rcases (show x757.toInt = 0 ∨ x757.toInt = 1 ∨ x757.toInt = 2 ∨ x757.toInt = 3 ∨ x757.toInt = 4 ∨ x757.toInt = 5 by omega) with hj | hj | hj | hj | hj | hj
          · have hj2 : x757 = 0 := tq_of hj (by decide)
            have hl : lv_has ls 4 [(3, .int 0), (2, .int 64), (0, .ref qm), (1, .int 3)] := by have h9 := hl; rw [hj2] at h9; exact h9
            refine lv_aload_n hx hb dX12_plays_41 rfl (lv_at hl 2 rfl) ?_
            refine lv_iload_n hx hb dX12_plays_42 rfl (lv_at hl 1 rfl) ?_
            refine lv_iload_n hx hb dX12_plays_43 rfl (lv_at hl 3 rfl) ?_
            refine lv_iload_n hx hb dX12_plays_44 rfl (lv_at hl 0 rfl) ?_
            refine ct_calli (D := D) (wr := [(qm_lines, .inl (cI, 5, .inl (fm_lines))), (qm_wins, .inl (cI, 24576, .inl (g756)))]) (va_runV (As := [.int 64, .int 3, .int 0]) (rest := []) ⟨hx, hb, hml, hown, hts⟩ (c_X12_isPlay l D G cI cJ cB cZ cO qm 0 qm_width qm_many qm_cells qm_moved qm_tape vm_taped vm_at vm_token vm_place vm_value vm_word vm_bad vm_badPlace vm_fault vm_faultPlace qm_lines qm_has qm_round qm_meets fm_meets qm_stumble qm_isMud qm_cell qm_tune qm_change qm_isKept qm_steps qm_places qm_danced vm_runMost vm_runBegins qm_heardBy vm_fitMany vm_fitFirst vm_fitBeats vm_listenLeaves qm_there vm_metAt vm_metIn qm_wins vm_nightHoles vm_nightFirst vm_nightMud vm_nightSlips vm_drawnNow 64 3 0 h_vm_taped h_vm_at h_vm_value (by decide) (by decide) H.size) (cwV 3 hts gX12_plays_X12_isPlay rfl rfl rfl (by decide +kernel) ⟨Nat.le_of_ble_eq_true rfl, Nat.le_of_ble_eq_true rfl⟩) (ct_preV (T := ct_T cI cJ cB cZ cO) (ci := 12) (q0 := 2) hE hH hP hD hS hA [2, 0] (by decide) rfl rfl rfl) rfl rfl hl.1 rfl (lv_room (Nat.le_of_ble_eq_true rfl)) dX12_plays_45 ⟨Nat.le_of_ble_eq_true rfl, Nat.le_of_ble_eq_true rfl⟩) hP hD hS hA [2, 0] [1, 3] rfl rfl (by decide) (by decide) (fun r760 u H locs hw hP hD hS => ?_)
            obtain ⟨hP, hD⟩ : ct_B D A H [(qm_lines, .inl (cI, 5, .inl (fm_lines))), (qm_wins, .inl (cI, 24576, .inl (g756))), mo qm 0 qm_width qm_many qm_cells qm_moved qm_tape vm_taped vm_at vm_token vm_place vm_value vm_word vm_bad vm_badPlace vm_fault vm_faultPlace qm_lines qm_has qm_round qm_meets qm_stumble qm_isMud qm_cell qm_tune qm_change qm_isKept qm_steps qm_places qm_danced vm_runMost vm_runBegins qm_heardBy vm_fitMany vm_fitFirst vm_fitBeats vm_listenLeaves qm_there vm_metAt vm_metIn qm_wins vm_nightHoles vm_nightFirst vm_nightMud vm_nightSlips vm_drawnNow, (qm_meets, .inl (cI, 30, .inl (fm_meets)))] := ⟨hP, hD⟩
            have hz := hw
            rcases hz with ⟨hz, hz2⟩ | ⟨hz, hz2⟩
            · subst hz
              have hz_761 : (pl (64 : Int32) (0 : Int32)) := hz2
              refine lv_if_eq (tgt := 68) hx hb dX12_plays_48 (by decide) (fun hc => absurd hc (by decide)) (fun _ => ?_)
              refine lv_aload_n hx hb dX12_plays_51 rfl (lv_at hl 2 rfl) ?_
              refine lv_iload_n hx hb dX12_plays_52 rfl (lv_at hl 1 rfl) ?_
              refine lv_iconst (v := 1) hx hb dX12_plays_53 (by decide) ?_
              refine lv_iconst (v := 2) hx hb dX12_plays_54 (by decide) ?_
              refine lv_iload_n hx hb dX12_plays_55 rfl (lv_at hl 0 rfl) ?_
              refine lv_imul hx hb dX12_plays_56 ?_
              refine lv_topi (fun z762 ez762 => ?_)
              obtain rfl : z762 = 0 := ez762.trans (by decide)
              refine lv_ishl hx hb dX12_plays_57 ?_
              refine lv_topi (fun z763 ez763 => ?_)
              obtain rfl : z763 = 1 := ez763.trans (by decide)
              refine lv_iadd hx hb dX12_plays_58 ?_
              refine lv_topi (fun z764 ez764 => ?_)
              obtain rfl : z764 = 65 := ez764.trans (by decide)
              refine lv_iload_n hx hb dX12_plays_59 rfl (lv_at hl 0 rfl) ?_
              refine ct_calli (D := D) (wr := [(qm_lines, .inl (cI, 5, .inl (fm_lines)))]) (va_runV (As := [.int 65, .int 0]) (rest := []) ⟨hx, hb, hml, hown, hts⟩ (c_X12_winsFrom l D G cI cJ cB cZ cO qm 0 qm_width qm_many qm_cells qm_moved qm_tape vm_taped vm_at vm_token vm_place vm_value vm_word vm_bad vm_badPlace vm_fault vm_faultPlace qm_lines qm_has qm_round qm_meets fm_meets qm_stumble qm_isMud qm_cell qm_tune qm_change qm_isKept qm_steps qm_places qm_danced vm_runMost vm_runBegins qm_heardBy vm_fitMany vm_fitFirst vm_fitBeats vm_listenLeaves qm_there vm_metAt vm_metIn qm_wins vm_nightHoles vm_nightFirst vm_nightMud vm_nightSlips vm_drawnNow h_vm_taped h_vm_at h_vm_value 12 g756 65 0 (by decide) (by unfold wn; decide) H.size) (cwV 2 hts gX12_plays_X12_winsFrom rfl rfl rfl (by decide +kernel) ⟨Nat.le_of_ble_eq_true rfl, Nat.le_of_ble_eq_true rfl⟩) (ct_preV (T := ct_T cI cJ cB cZ cO) (ci := 12) (q0 := 2) hE hH hP hD hS hA [2, 3, 1] (by decide) rfl rfl rfl) rfl rfl hl.1 rfl (lv_room (Nat.le_of_ble_eq_true rfl)) dX12_plays_60 ⟨Nat.le_of_ble_eq_true rfl, Nat.le_of_ble_eq_true rfl⟩) hP hD hS hA [2, 3, 1] [0] rfl rfl (by decide) (by decide) (fun r765 u H locs hw hP hD hS => ?_)
              obtain ⟨g766, rfl⟩ : ∃ z, z = u := ⟨_, rfl⟩
              obtain ⟨hP, hD⟩ : ct_B D A H [(qm_lines, .inl (cI, 5, .inl (fm_lines))), mo qm 0 qm_width qm_many qm_cells qm_moved qm_tape vm_taped vm_at vm_token vm_place vm_value vm_word vm_bad vm_badPlace vm_fault vm_faultPlace qm_lines qm_has qm_round qm_meets qm_stumble qm_isMud qm_cell qm_tune qm_change qm_isKept qm_steps qm_places qm_danced vm_runMost vm_runBegins qm_heardBy vm_fitMany vm_fitFirst vm_fitBeats vm_listenLeaves qm_there vm_metAt vm_metIn qm_wins vm_nightHoles vm_nightFirst vm_nightMud vm_nightSlips vm_drawnNow, (qm_meets, .inl (cI, 30, .inl (fm_meets))), (qm_wins, .inl (cI, 24576, .inl (g766)))] := ⟨hP, hD⟩
              have hz := hw
              rcases hz with ⟨hz, hz2⟩ | ⟨hz, hz2⟩
              · subst hz
                refine lv_if_ne (tgt := 68) hx hb dX12_plays_63 (by decide) (fun _ => ?_) (fun hc => absurd hc (by decide))
                refine lv_iinc (v := 1) (lv' := [(3, .int 1), (2, .int 64), (0, .ref qm), (1, .int 3)]) hx hb dX12_plays_68 hl (k := 0) rfl (by decide) (by decide) rfl (fun ls hl => ?_)
                refine lv_goto (tgt := 35) hx hb dX12_plays_71 (by decide) ?_
                have hk767 : (1 : Int32).toInt = 1 := by decide
                obtain ⟨hP9, hD9⟩ : ct_B D A H [(qm_meets, .inl (cI, 30, .inl (fm_meets))), (qm_lines, .inl (cI, 5, .inl (fm_lines))), mo qm 0 qm_width qm_many qm_cells qm_moved qm_tape vm_taped vm_at vm_token vm_place vm_value vm_word vm_bad vm_badPlace vm_fault vm_faultPlace qm_lines qm_has qm_round qm_meets qm_stumble qm_isMud qm_cell qm_tune qm_change qm_isKept qm_steps qm_places qm_danced vm_runMost vm_runBegins qm_heardBy vm_fitMany vm_fitFirst vm_fitBeats vm_listenLeaves qm_there vm_metAt vm_metIn qm_wins vm_nightHoles vm_nightFirst vm_nightMud vm_nightSlips vm_drawnNow, (qm_wins, .inl (cI, 24576, .inl (g766)))] := ⟨hP.sub [2, 0, 1, 3] rfl, hD.sub [2, 0, 1, 3] (by decide) rfl⟩
                exact ih758 (g766, (1 : Int32)) _ _ _ (show (6 - (1 : Int32).toInt).toNat < (6 - x757.toInt).toNat by omega) ⟨(show 0 ≤ (1 : Int32).toInt ∧ (1 : Int32).toInt ≤ 6 by decide), ⟨hP9, hD9⟩, hS, lv_sub hl [0, 1, 2, 3] rfl⟩
              · subst hz
                refine lv_if_ne (tgt := 68) hx hb dX12_plays_63 (by decide) (fun hc => absurd hc (by decide)) (fun _ => ?_)
                refine lv_iload_n hx hb dX12_plays_66 rfl (lv_at hl 0 rfl) ?_
                obtain ⟨hP9, hD9⟩ : ct_B D A H [mo qm 0 qm_width qm_many qm_cells qm_moved qm_tape vm_taped vm_at vm_token vm_place vm_value vm_word vm_bad vm_badPlace vm_fault vm_faultPlace qm_lines qm_has qm_round qm_meets qm_stumble qm_isMud qm_cell qm_tune qm_change qm_isKept qm_steps qm_places qm_danced vm_runMost vm_runBegins qm_heardBy vm_fitMany vm_fitFirst vm_fitBeats vm_listenLeaves qm_there vm_metAt vm_metIn qm_wins vm_nightHoles vm_nightFirst vm_nightMud vm_nightSlips vm_drawnNow, (qm_lines, .inl (cI, 5, .inl (fm_lines))), (qm_meets, .inl (cI, 30, .inl (fm_meets))), (qm_wins, .inl (cI, 24576, .inl (g766)))] := ⟨hP.sub [1, 0, 2, 3] rfl, hD.sub [1, 0, 2, 3] (by decide) rfl⟩
                exact W.iret (v := 0) hx hb hr (fun t ht hW => ⟨⟨0, ((0 : Int32), g766), rfl, (show (-2) ≤ (0 : Int32).toInt ∧ (0 : Int32).toInt ≤ 5 by decide), by rw [ht]; exact hP9, hD9⟩, hS.F ht⟩) hS.2.2 dX12_plays_67
            · subst hz
              refine lv_if_eq (tgt := 68) hx hb dX12_plays_48 (by decide) (fun _ => ?_) (fun hc => absurd hc (by decide))
              refine lv_iinc (v := 1) (lv' := [(3, .int 1), (2, .int 64), (0, .ref qm), (1, .int 3)]) hx hb dX12_plays_68 hl (k := 0) rfl (by decide) (by decide) rfl (fun ls hl => ?_)
              refine lv_goto (tgt := 35) hx hb dX12_plays_71 (by decide) ?_
              have hk768 : (1 : Int32).toInt = 1 := by decide
              obtain ⟨hP9, hD9⟩ : ct_B D A H [(qm_meets, .inl (cI, 30, .inl (fm_meets))), (qm_lines, .inl (cI, 5, .inl (fm_lines))), mo qm 0 qm_width qm_many qm_cells qm_moved qm_tape vm_taped vm_at vm_token vm_place vm_value vm_word vm_bad vm_badPlace vm_fault vm_faultPlace qm_lines qm_has qm_round qm_meets qm_stumble qm_isMud qm_cell qm_tune qm_change qm_isKept qm_steps qm_places qm_danced vm_runMost vm_runBegins qm_heardBy vm_fitMany vm_fitFirst vm_fitBeats vm_listenLeaves qm_there vm_metAt vm_metIn qm_wins vm_nightHoles vm_nightFirst vm_nightMud vm_nightSlips vm_drawnNow, (qm_wins, .inl (cI, 24576, .inl (g756)))] := ⟨hP.sub [3, 0, 2, 1] rfl, hD.sub [3, 0, 2, 1] (by decide) rfl⟩
              exact ih758 (g756, (1 : Int32)) _ _ _ (show (6 - (1 : Int32).toInt).toNat < (6 - x757.toInt).toNat by omega) ⟨(show 0 ≤ (1 : Int32).toInt ∧ (1 : Int32).toInt ≤ 6 by decide), ⟨hP9, hD9⟩, hS, lv_sub hl [0, 1, 2, 3] rfl⟩
          · have hj2 : x757 = 1 := tq_of hj (by decide)
            have hl : lv_has ls 4 [(3, .int 1), (2, .int 64), (0, .ref qm), (1, .int 3)] := by have h9 := hl; rw [hj2] at h9; exact h9
            refine lv_aload_n hx hb dX12_plays_41 rfl (lv_at hl 2 rfl) ?_
            refine lv_iload_n hx hb dX12_plays_42 rfl (lv_at hl 1 rfl) ?_
            refine lv_iload_n hx hb dX12_plays_43 rfl (lv_at hl 3 rfl) ?_
            refine lv_iload_n hx hb dX12_plays_44 rfl (lv_at hl 0 rfl) ?_
            refine ct_calli (D := D) (wr := [(qm_lines, .inl (cI, 5, .inl (fm_lines))), (qm_wins, .inl (cI, 24576, .inl (g756)))]) (va_runV (As := [.int 64, .int 3, .int 1]) (rest := []) ⟨hx, hb, hml, hown, hts⟩ (c_X12_isPlay l D G cI cJ cB cZ cO qm 0 qm_width qm_many qm_cells qm_moved qm_tape vm_taped vm_at vm_token vm_place vm_value vm_word vm_bad vm_badPlace vm_fault vm_faultPlace qm_lines qm_has qm_round qm_meets fm_meets qm_stumble qm_isMud qm_cell qm_tune qm_change qm_isKept qm_steps qm_places qm_danced vm_runMost vm_runBegins qm_heardBy vm_fitMany vm_fitFirst vm_fitBeats vm_listenLeaves qm_there vm_metAt vm_metIn qm_wins vm_nightHoles vm_nightFirst vm_nightMud vm_nightSlips vm_drawnNow 64 3 1 h_vm_taped h_vm_at h_vm_value (by decide) (by decide) H.size) (cwV 3 hts gX12_plays_X12_isPlay rfl rfl rfl (by decide +kernel) ⟨Nat.le_of_ble_eq_true rfl, Nat.le_of_ble_eq_true rfl⟩) (ct_preV (T := ct_T cI cJ cB cZ cO) (ci := 12) (q0 := 2) hE hH hP hD hS hA [2, 0] (by decide) rfl rfl rfl) rfl rfl hl.1 rfl (lv_room (Nat.le_of_ble_eq_true rfl)) dX12_plays_45 ⟨Nat.le_of_ble_eq_true rfl, Nat.le_of_ble_eq_true rfl⟩) hP hD hS hA [2, 0] [1, 3] rfl rfl (by decide) (by decide) (fun r769 u H locs hw hP hD hS => ?_)
            obtain ⟨hP, hD⟩ : ct_B D A H [(qm_lines, .inl (cI, 5, .inl (fm_lines))), (qm_wins, .inl (cI, 24576, .inl (g756))), mo qm 0 qm_width qm_many qm_cells qm_moved qm_tape vm_taped vm_at vm_token vm_place vm_value vm_word vm_bad vm_badPlace vm_fault vm_faultPlace qm_lines qm_has qm_round qm_meets qm_stumble qm_isMud qm_cell qm_tune qm_change qm_isKept qm_steps qm_places qm_danced vm_runMost vm_runBegins qm_heardBy vm_fitMany vm_fitFirst vm_fitBeats vm_listenLeaves qm_there vm_metAt vm_metIn qm_wins vm_nightHoles vm_nightFirst vm_nightMud vm_nightSlips vm_drawnNow, (qm_meets, .inl (cI, 30, .inl (fm_meets)))] := ⟨hP, hD⟩
            have hz := hw
            rcases hz with ⟨hz, hz2⟩ | ⟨hz, hz2⟩
            · subst hz
              have hz_770 : (pl (64 : Int32) (1 : Int32)) := hz2
              refine lv_if_eq (tgt := 68) hx hb dX12_plays_48 (by decide) (fun hc => absurd hc (by decide)) (fun _ => ?_)
              refine lv_aload_n hx hb dX12_plays_51 rfl (lv_at hl 2 rfl) ?_
              refine lv_iload_n hx hb dX12_plays_52 rfl (lv_at hl 1 rfl) ?_
              refine lv_iconst (v := 1) hx hb dX12_plays_53 (by decide) ?_
              refine lv_iconst (v := 2) hx hb dX12_plays_54 (by decide) ?_
              refine lv_iload_n hx hb dX12_plays_55 rfl (lv_at hl 0 rfl) ?_
              refine lv_imul hx hb dX12_plays_56 ?_
              refine lv_topi (fun z771 ez771 => ?_)
              obtain rfl : z771 = 2 := ez771.trans (by decide)
              refine lv_ishl hx hb dX12_plays_57 ?_
              refine lv_topi (fun z772 ez772 => ?_)
              obtain rfl : z772 = 4 := ez772.trans (by decide)
              refine lv_iadd hx hb dX12_plays_58 ?_
              refine lv_topi (fun z773 ez773 => ?_)
              obtain rfl : z773 = 68 := ez773.trans (by decide)
              refine lv_iload_n hx hb dX12_plays_59 rfl (lv_at hl 0 rfl) ?_
              refine ct_calli (D := D) (wr := [(qm_lines, .inl (cI, 5, .inl (fm_lines)))]) (va_runV (As := [.int 68, .int 1]) (rest := []) ⟨hx, hb, hml, hown, hts⟩ (c_X12_winsFrom l D G cI cJ cB cZ cO qm 0 qm_width qm_many qm_cells qm_moved qm_tape vm_taped vm_at vm_token vm_place vm_value vm_word vm_bad vm_badPlace vm_fault vm_faultPlace qm_lines qm_has qm_round qm_meets fm_meets qm_stumble qm_isMud qm_cell qm_tune qm_change qm_isKept qm_steps qm_places qm_danced vm_runMost vm_runBegins qm_heardBy vm_fitMany vm_fitFirst vm_fitBeats vm_listenLeaves qm_there vm_metAt vm_metIn qm_wins vm_nightHoles vm_nightFirst vm_nightMud vm_nightSlips vm_drawnNow h_vm_taped h_vm_at h_vm_value 12 g756 68 1 (by decide) (by unfold wn; decide) H.size) (cwV 2 hts gX12_plays_X12_winsFrom rfl rfl rfl (by decide +kernel) ⟨Nat.le_of_ble_eq_true rfl, Nat.le_of_ble_eq_true rfl⟩) (ct_preV (T := ct_T cI cJ cB cZ cO) (ci := 12) (q0 := 2) hE hH hP hD hS hA [2, 3, 1] (by decide) rfl rfl rfl) rfl rfl hl.1 rfl (lv_room (Nat.le_of_ble_eq_true rfl)) dX12_plays_60 ⟨Nat.le_of_ble_eq_true rfl, Nat.le_of_ble_eq_true rfl⟩) hP hD hS hA [2, 3, 1] [0] rfl rfl (by decide) (by decide) (fun r774 u H locs hw hP hD hS => ?_)
              obtain ⟨g775, rfl⟩ : ∃ z, z = u := ⟨_, rfl⟩
              obtain ⟨hP, hD⟩ : ct_B D A H [(qm_lines, .inl (cI, 5, .inl (fm_lines))), mo qm 0 qm_width qm_many qm_cells qm_moved qm_tape vm_taped vm_at vm_token vm_place vm_value vm_word vm_bad vm_badPlace vm_fault vm_faultPlace qm_lines qm_has qm_round qm_meets qm_stumble qm_isMud qm_cell qm_tune qm_change qm_isKept qm_steps qm_places qm_danced vm_runMost vm_runBegins qm_heardBy vm_fitMany vm_fitFirst vm_fitBeats vm_listenLeaves qm_there vm_metAt vm_metIn qm_wins vm_nightHoles vm_nightFirst vm_nightMud vm_nightSlips vm_drawnNow, (qm_meets, .inl (cI, 30, .inl (fm_meets))), (qm_wins, .inl (cI, 24576, .inl (g775)))] := ⟨hP, hD⟩
              have hz := hw
              rcases hz with ⟨hz, hz2⟩ | ⟨hz, hz2⟩
              · subst hz
                refine lv_if_ne (tgt := 68) hx hb dX12_plays_63 (by decide) (fun _ => ?_) (fun hc => absurd hc (by decide))
                refine lv_iinc (v := 2) (lv' := [(3, .int 2), (2, .int 64), (0, .ref qm), (1, .int 3)]) hx hb dX12_plays_68 hl (k := 0) rfl (by decide) (by decide) rfl (fun ls hl => ?_)
                refine lv_goto (tgt := 35) hx hb dX12_plays_71 (by decide) ?_
                have hk776 : (2 : Int32).toInt = 2 := by decide
                obtain ⟨hP9, hD9⟩ : ct_B D A H [(qm_meets, .inl (cI, 30, .inl (fm_meets))), (qm_lines, .inl (cI, 5, .inl (fm_lines))), mo qm 0 qm_width qm_many qm_cells qm_moved qm_tape vm_taped vm_at vm_token vm_place vm_value vm_word vm_bad vm_badPlace vm_fault vm_faultPlace qm_lines qm_has qm_round qm_meets qm_stumble qm_isMud qm_cell qm_tune qm_change qm_isKept qm_steps qm_places qm_danced vm_runMost vm_runBegins qm_heardBy vm_fitMany vm_fitFirst vm_fitBeats vm_listenLeaves qm_there vm_metAt vm_metIn qm_wins vm_nightHoles vm_nightFirst vm_nightMud vm_nightSlips vm_drawnNow, (qm_wins, .inl (cI, 24576, .inl (g775)))] := ⟨hP.sub [2, 0, 1, 3] rfl, hD.sub [2, 0, 1, 3] (by decide) rfl⟩
                exact ih758 (g775, (2 : Int32)) _ _ _ (show (6 - (2 : Int32).toInt).toNat < (6 - x757.toInt).toNat by omega) ⟨(show 0 ≤ (2 : Int32).toInt ∧ (2 : Int32).toInt ≤ 6 by decide), ⟨hP9, hD9⟩, hS, lv_sub hl [0, 1, 2, 3] rfl⟩
              · subst hz
                refine lv_if_ne (tgt := 68) hx hb dX12_plays_63 (by decide) (fun hc => absurd hc (by decide)) (fun _ => ?_)
                refine lv_iload_n hx hb dX12_plays_66 rfl (lv_at hl 0 rfl) ?_
                obtain ⟨hP9, hD9⟩ : ct_B D A H [mo qm 0 qm_width qm_many qm_cells qm_moved qm_tape vm_taped vm_at vm_token vm_place vm_value vm_word vm_bad vm_badPlace vm_fault vm_faultPlace qm_lines qm_has qm_round qm_meets qm_stumble qm_isMud qm_cell qm_tune qm_change qm_isKept qm_steps qm_places qm_danced vm_runMost vm_runBegins qm_heardBy vm_fitMany vm_fitFirst vm_fitBeats vm_listenLeaves qm_there vm_metAt vm_metIn qm_wins vm_nightHoles vm_nightFirst vm_nightMud vm_nightSlips vm_drawnNow, (qm_lines, .inl (cI, 5, .inl (fm_lines))), (qm_meets, .inl (cI, 30, .inl (fm_meets))), (qm_wins, .inl (cI, 24576, .inl (g775)))] := ⟨hP.sub [1, 0, 2, 3] rfl, hD.sub [1, 0, 2, 3] (by decide) rfl⟩
                exact W.iret (v := 1) hx hb hr (fun t ht hW => ⟨⟨1, ((0 : Int32), g775), rfl, (show (-2) ≤ (1 : Int32).toInt ∧ (1 : Int32).toInt ≤ 5 by decide), by rw [ht]; exact hP9, hD9⟩, hS.F ht⟩) hS.2.2 dX12_plays_67
            · subst hz
              refine lv_if_eq (tgt := 68) hx hb dX12_plays_48 (by decide) (fun _ => ?_) (fun hc => absurd hc (by decide))
              refine lv_iinc (v := 2) (lv' := [(3, .int 2), (2, .int 64), (0, .ref qm), (1, .int 3)]) hx hb dX12_plays_68 hl (k := 0) rfl (by decide) (by decide) rfl (fun ls hl => ?_)
              refine lv_goto (tgt := 35) hx hb dX12_plays_71 (by decide) ?_
              have hk777 : (2 : Int32).toInt = 2 := by decide
              obtain ⟨hP9, hD9⟩ : ct_B D A H [(qm_meets, .inl (cI, 30, .inl (fm_meets))), (qm_lines, .inl (cI, 5, .inl (fm_lines))), mo qm 0 qm_width qm_many qm_cells qm_moved qm_tape vm_taped vm_at vm_token vm_place vm_value vm_word vm_bad vm_badPlace vm_fault vm_faultPlace qm_lines qm_has qm_round qm_meets qm_stumble qm_isMud qm_cell qm_tune qm_change qm_isKept qm_steps qm_places qm_danced vm_runMost vm_runBegins qm_heardBy vm_fitMany vm_fitFirst vm_fitBeats vm_listenLeaves qm_there vm_metAt vm_metIn qm_wins vm_nightHoles vm_nightFirst vm_nightMud vm_nightSlips vm_drawnNow, (qm_wins, .inl (cI, 24576, .inl (g756)))] := ⟨hP.sub [3, 0, 2, 1] rfl, hD.sub [3, 0, 2, 1] (by decide) rfl⟩
              exact ih758 (g756, (2 : Int32)) _ _ _ (show (6 - (2 : Int32).toInt).toNat < (6 - x757.toInt).toNat by omega) ⟨(show 0 ≤ (2 : Int32).toInt ∧ (2 : Int32).toInt ≤ 6 by decide), ⟨hP9, hD9⟩, hS, lv_sub hl [0, 1, 2, 3] rfl⟩
          · have hj2 : x757 = 2 := tq_of hj (by decide)
            have hl : lv_has ls 4 [(3, .int 2), (2, .int 64), (0, .ref qm), (1, .int 3)] := by have h9 := hl; rw [hj2] at h9; exact h9
            refine lv_aload_n hx hb dX12_plays_41 rfl (lv_at hl 2 rfl) ?_
            refine lv_iload_n hx hb dX12_plays_42 rfl (lv_at hl 1 rfl) ?_
            refine lv_iload_n hx hb dX12_plays_43 rfl (lv_at hl 3 rfl) ?_
            refine lv_iload_n hx hb dX12_plays_44 rfl (lv_at hl 0 rfl) ?_
            refine ct_calli (D := D) (wr := [(qm_lines, .inl (cI, 5, .inl (fm_lines))), (qm_wins, .inl (cI, 24576, .inl (g756)))]) (va_runV (As := [.int 64, .int 3, .int 2]) (rest := []) ⟨hx, hb, hml, hown, hts⟩ (c_X12_isPlay l D G cI cJ cB cZ cO qm 0 qm_width qm_many qm_cells qm_moved qm_tape vm_taped vm_at vm_token vm_place vm_value vm_word vm_bad vm_badPlace vm_fault vm_faultPlace qm_lines qm_has qm_round qm_meets fm_meets qm_stumble qm_isMud qm_cell qm_tune qm_change qm_isKept qm_steps qm_places qm_danced vm_runMost vm_runBegins qm_heardBy vm_fitMany vm_fitFirst vm_fitBeats vm_listenLeaves qm_there vm_metAt vm_metIn qm_wins vm_nightHoles vm_nightFirst vm_nightMud vm_nightSlips vm_drawnNow 64 3 2 h_vm_taped h_vm_at h_vm_value (by decide) (by decide) H.size) (cwV 3 hts gX12_plays_X12_isPlay rfl rfl rfl (by decide +kernel) ⟨Nat.le_of_ble_eq_true rfl, Nat.le_of_ble_eq_true rfl⟩) (ct_preV (T := ct_T cI cJ cB cZ cO) (ci := 12) (q0 := 2) hE hH hP hD hS hA [2, 0] (by decide) rfl rfl rfl) rfl rfl hl.1 rfl (lv_room (Nat.le_of_ble_eq_true rfl)) dX12_plays_45 ⟨Nat.le_of_ble_eq_true rfl, Nat.le_of_ble_eq_true rfl⟩) hP hD hS hA [2, 0] [1, 3] rfl rfl (by decide) (by decide) (fun r778 u H locs hw hP hD hS => ?_)
            obtain ⟨hP, hD⟩ : ct_B D A H [(qm_lines, .inl (cI, 5, .inl (fm_lines))), (qm_wins, .inl (cI, 24576, .inl (g756))), mo qm 0 qm_width qm_many qm_cells qm_moved qm_tape vm_taped vm_at vm_token vm_place vm_value vm_word vm_bad vm_badPlace vm_fault vm_faultPlace qm_lines qm_has qm_round qm_meets qm_stumble qm_isMud qm_cell qm_tune qm_change qm_isKept qm_steps qm_places qm_danced vm_runMost vm_runBegins qm_heardBy vm_fitMany vm_fitFirst vm_fitBeats vm_listenLeaves qm_there vm_metAt vm_metIn qm_wins vm_nightHoles vm_nightFirst vm_nightMud vm_nightSlips vm_drawnNow, (qm_meets, .inl (cI, 30, .inl (fm_meets)))] := ⟨hP, hD⟩
            have hz := hw
            rcases hz with ⟨hz, hz2⟩ | ⟨hz, hz2⟩
            · subst hz
              have hz_779 : (pl (64 : Int32) (2 : Int32)) := hz2
              refine lv_if_eq (tgt := 68) hx hb dX12_plays_48 (by decide) (fun hc => absurd hc (by decide)) (fun _ => ?_)
              refine lv_aload_n hx hb dX12_plays_51 rfl (lv_at hl 2 rfl) ?_
              refine lv_iload_n hx hb dX12_plays_52 rfl (lv_at hl 1 rfl) ?_
              refine lv_iconst (v := 1) hx hb dX12_plays_53 (by decide) ?_
              refine lv_iconst (v := 2) hx hb dX12_plays_54 (by decide) ?_
              refine lv_iload_n hx hb dX12_plays_55 rfl (lv_at hl 0 rfl) ?_
              refine lv_imul hx hb dX12_plays_56 ?_
              refine lv_topi (fun z780 ez780 => ?_)
              obtain rfl : z780 = 4 := ez780.trans (by decide)
              refine lv_ishl hx hb dX12_plays_57 ?_
              refine lv_topi (fun z781 ez781 => ?_)
              obtain rfl : z781 = 16 := ez781.trans (by decide)
              refine lv_iadd hx hb dX12_plays_58 ?_
              refine lv_topi (fun z782 ez782 => ?_)
              obtain rfl : z782 = 80 := ez782.trans (by decide)
              refine lv_iload_n hx hb dX12_plays_59 rfl (lv_at hl 0 rfl) ?_
              refine ct_calli (D := D) (wr := [(qm_lines, .inl (cI, 5, .inl (fm_lines)))]) (va_runV (As := [.int 80, .int 2]) (rest := []) ⟨hx, hb, hml, hown, hts⟩ (c_X12_winsFrom l D G cI cJ cB cZ cO qm 0 qm_width qm_many qm_cells qm_moved qm_tape vm_taped vm_at vm_token vm_place vm_value vm_word vm_bad vm_badPlace vm_fault vm_faultPlace qm_lines qm_has qm_round qm_meets fm_meets qm_stumble qm_isMud qm_cell qm_tune qm_change qm_isKept qm_steps qm_places qm_danced vm_runMost vm_runBegins qm_heardBy vm_fitMany vm_fitFirst vm_fitBeats vm_listenLeaves qm_there vm_metAt vm_metIn qm_wins vm_nightHoles vm_nightFirst vm_nightMud vm_nightSlips vm_drawnNow h_vm_taped h_vm_at h_vm_value 12 g756 80 2 (by decide) (by unfold wn; decide) H.size) (cwV 2 hts gX12_plays_X12_winsFrom rfl rfl rfl (by decide +kernel) ⟨Nat.le_of_ble_eq_true rfl, Nat.le_of_ble_eq_true rfl⟩) (ct_preV (T := ct_T cI cJ cB cZ cO) (ci := 12) (q0 := 2) hE hH hP hD hS hA [2, 3, 1] (by decide) rfl rfl rfl) rfl rfl hl.1 rfl (lv_room (Nat.le_of_ble_eq_true rfl)) dX12_plays_60 ⟨Nat.le_of_ble_eq_true rfl, Nat.le_of_ble_eq_true rfl⟩) hP hD hS hA [2, 3, 1] [0] rfl rfl (by decide) (by decide) (fun r783 u H locs hw hP hD hS => ?_)
              obtain ⟨g784, rfl⟩ : ∃ z, z = u := ⟨_, rfl⟩
              obtain ⟨hP, hD⟩ : ct_B D A H [(qm_lines, .inl (cI, 5, .inl (fm_lines))), mo qm 0 qm_width qm_many qm_cells qm_moved qm_tape vm_taped vm_at vm_token vm_place vm_value vm_word vm_bad vm_badPlace vm_fault vm_faultPlace qm_lines qm_has qm_round qm_meets qm_stumble qm_isMud qm_cell qm_tune qm_change qm_isKept qm_steps qm_places qm_danced vm_runMost vm_runBegins qm_heardBy vm_fitMany vm_fitFirst vm_fitBeats vm_listenLeaves qm_there vm_metAt vm_metIn qm_wins vm_nightHoles vm_nightFirst vm_nightMud vm_nightSlips vm_drawnNow, (qm_meets, .inl (cI, 30, .inl (fm_meets))), (qm_wins, .inl (cI, 24576, .inl (g784)))] := ⟨hP, hD⟩
              have hz := hw
              rcases hz with ⟨hz, hz2⟩ | ⟨hz, hz2⟩
              · subst hz
                refine lv_if_ne (tgt := 68) hx hb dX12_plays_63 (by decide) (fun _ => ?_) (fun hc => absurd hc (by decide))
                refine lv_iinc (v := 3) (lv' := [(3, .int 3), (2, .int 64), (0, .ref qm), (1, .int 3)]) hx hb dX12_plays_68 hl (k := 0) rfl (by decide) (by decide) rfl (fun ls hl => ?_)
                refine lv_goto (tgt := 35) hx hb dX12_plays_71 (by decide) ?_
                have hk785 : (3 : Int32).toInt = 3 := by decide
                obtain ⟨hP9, hD9⟩ : ct_B D A H [(qm_meets, .inl (cI, 30, .inl (fm_meets))), (qm_lines, .inl (cI, 5, .inl (fm_lines))), mo qm 0 qm_width qm_many qm_cells qm_moved qm_tape vm_taped vm_at vm_token vm_place vm_value vm_word vm_bad vm_badPlace vm_fault vm_faultPlace qm_lines qm_has qm_round qm_meets qm_stumble qm_isMud qm_cell qm_tune qm_change qm_isKept qm_steps qm_places qm_danced vm_runMost vm_runBegins qm_heardBy vm_fitMany vm_fitFirst vm_fitBeats vm_listenLeaves qm_there vm_metAt vm_metIn qm_wins vm_nightHoles vm_nightFirst vm_nightMud vm_nightSlips vm_drawnNow, (qm_wins, .inl (cI, 24576, .inl (g784)))] := ⟨hP.sub [2, 0, 1, 3] rfl, hD.sub [2, 0, 1, 3] (by decide) rfl⟩
                exact ih758 (g784, (3 : Int32)) _ _ _ (show (6 - (3 : Int32).toInt).toNat < (6 - x757.toInt).toNat by omega) ⟨(show 0 ≤ (3 : Int32).toInt ∧ (3 : Int32).toInt ≤ 6 by decide), ⟨hP9, hD9⟩, hS, lv_sub hl [0, 1, 2, 3] rfl⟩
              · subst hz
                refine lv_if_ne (tgt := 68) hx hb dX12_plays_63 (by decide) (fun hc => absurd hc (by decide)) (fun _ => ?_)
                refine lv_iload_n hx hb dX12_plays_66 rfl (lv_at hl 0 rfl) ?_
                obtain ⟨hP9, hD9⟩ : ct_B D A H [mo qm 0 qm_width qm_many qm_cells qm_moved qm_tape vm_taped vm_at vm_token vm_place vm_value vm_word vm_bad vm_badPlace vm_fault vm_faultPlace qm_lines qm_has qm_round qm_meets qm_stumble qm_isMud qm_cell qm_tune qm_change qm_isKept qm_steps qm_places qm_danced vm_runMost vm_runBegins qm_heardBy vm_fitMany vm_fitFirst vm_fitBeats vm_listenLeaves qm_there vm_metAt vm_metIn qm_wins vm_nightHoles vm_nightFirst vm_nightMud vm_nightSlips vm_drawnNow, (qm_lines, .inl (cI, 5, .inl (fm_lines))), (qm_meets, .inl (cI, 30, .inl (fm_meets))), (qm_wins, .inl (cI, 24576, .inl (g784)))] := ⟨hP.sub [1, 0, 2, 3] rfl, hD.sub [1, 0, 2, 3] (by decide) rfl⟩
                exact W.iret (v := 2) hx hb hr (fun t ht hW => ⟨⟨2, ((0 : Int32), g784), rfl, (show (-2) ≤ (2 : Int32).toInt ∧ (2 : Int32).toInt ≤ 5 by decide), by rw [ht]; exact hP9, hD9⟩, hS.F ht⟩) hS.2.2 dX12_plays_67
            · subst hz
              refine lv_if_eq (tgt := 68) hx hb dX12_plays_48 (by decide) (fun _ => ?_) (fun hc => absurd hc (by decide))
              refine lv_iinc (v := 3) (lv' := [(3, .int 3), (2, .int 64), (0, .ref qm), (1, .int 3)]) hx hb dX12_plays_68 hl (k := 0) rfl (by decide) (by decide) rfl (fun ls hl => ?_)
              refine lv_goto (tgt := 35) hx hb dX12_plays_71 (by decide) ?_
              have hk786 : (3 : Int32).toInt = 3 := by decide
              obtain ⟨hP9, hD9⟩ : ct_B D A H [(qm_meets, .inl (cI, 30, .inl (fm_meets))), (qm_lines, .inl (cI, 5, .inl (fm_lines))), mo qm 0 qm_width qm_many qm_cells qm_moved qm_tape vm_taped vm_at vm_token vm_place vm_value vm_word vm_bad vm_badPlace vm_fault vm_faultPlace qm_lines qm_has qm_round qm_meets qm_stumble qm_isMud qm_cell qm_tune qm_change qm_isKept qm_steps qm_places qm_danced vm_runMost vm_runBegins qm_heardBy vm_fitMany vm_fitFirst vm_fitBeats vm_listenLeaves qm_there vm_metAt vm_metIn qm_wins vm_nightHoles vm_nightFirst vm_nightMud vm_nightSlips vm_drawnNow, (qm_wins, .inl (cI, 24576, .inl (g756)))] := ⟨hP.sub [3, 0, 2, 1] rfl, hD.sub [3, 0, 2, 1] (by decide) rfl⟩
              exact ih758 (g756, (3 : Int32)) _ _ _ (show (6 - (3 : Int32).toInt).toNat < (6 - x757.toInt).toNat by omega) ⟨(show 0 ≤ (3 : Int32).toInt ∧ (3 : Int32).toInt ≤ 6 by decide), ⟨hP9, hD9⟩, hS, lv_sub hl [0, 1, 2, 3] rfl⟩
          · have hj2 : x757 = 3 := tq_of hj (by decide)
            have hl : lv_has ls 4 [(3, .int 3), (2, .int 64), (0, .ref qm), (1, .int 3)] := by have h9 := hl; rw [hj2] at h9; exact h9
            refine lv_aload_n hx hb dX12_plays_41 rfl (lv_at hl 2 rfl) ?_
            refine lv_iload_n hx hb dX12_plays_42 rfl (lv_at hl 1 rfl) ?_
            refine lv_iload_n hx hb dX12_plays_43 rfl (lv_at hl 3 rfl) ?_
            refine lv_iload_n hx hb dX12_plays_44 rfl (lv_at hl 0 rfl) ?_
            refine ct_calli (D := D) (wr := [(qm_lines, .inl (cI, 5, .inl (fm_lines))), (qm_wins, .inl (cI, 24576, .inl (g756)))]) (va_runV (As := [.int 64, .int 3, .int 3]) (rest := []) ⟨hx, hb, hml, hown, hts⟩ (c_X12_isPlay l D G cI cJ cB cZ cO qm 0 qm_width qm_many qm_cells qm_moved qm_tape vm_taped vm_at vm_token vm_place vm_value vm_word vm_bad vm_badPlace vm_fault vm_faultPlace qm_lines qm_has qm_round qm_meets fm_meets qm_stumble qm_isMud qm_cell qm_tune qm_change qm_isKept qm_steps qm_places qm_danced vm_runMost vm_runBegins qm_heardBy vm_fitMany vm_fitFirst vm_fitBeats vm_listenLeaves qm_there vm_metAt vm_metIn qm_wins vm_nightHoles vm_nightFirst vm_nightMud vm_nightSlips vm_drawnNow 64 3 3 h_vm_taped h_vm_at h_vm_value (by decide) (by decide) H.size) (cwV 3 hts gX12_plays_X12_isPlay rfl rfl rfl (by decide +kernel) ⟨Nat.le_of_ble_eq_true rfl, Nat.le_of_ble_eq_true rfl⟩) (ct_preV (T := ct_T cI cJ cB cZ cO) (ci := 12) (q0 := 2) hE hH hP hD hS hA [2, 0] (by decide) rfl rfl rfl) rfl rfl hl.1 rfl (lv_room (Nat.le_of_ble_eq_true rfl)) dX12_plays_45 ⟨Nat.le_of_ble_eq_true rfl, Nat.le_of_ble_eq_true rfl⟩) hP hD hS hA [2, 0] [1, 3] rfl rfl (by decide) (by decide) (fun r787 u H locs hw hP hD hS => ?_)
            obtain ⟨hP, hD⟩ : ct_B D A H [(qm_lines, .inl (cI, 5, .inl (fm_lines))), (qm_wins, .inl (cI, 24576, .inl (g756))), mo qm 0 qm_width qm_many qm_cells qm_moved qm_tape vm_taped vm_at vm_token vm_place vm_value vm_word vm_bad vm_badPlace vm_fault vm_faultPlace qm_lines qm_has qm_round qm_meets qm_stumble qm_isMud qm_cell qm_tune qm_change qm_isKept qm_steps qm_places qm_danced vm_runMost vm_runBegins qm_heardBy vm_fitMany vm_fitFirst vm_fitBeats vm_listenLeaves qm_there vm_metAt vm_metIn qm_wins vm_nightHoles vm_nightFirst vm_nightMud vm_nightSlips vm_drawnNow, (qm_meets, .inl (cI, 30, .inl (fm_meets)))] := ⟨hP, hD⟩
            have hz := hw
            rcases hz with ⟨hz, hz2⟩ | ⟨hz, hz2⟩
            · subst hz
              have hz_788 : (pl (64 : Int32) (3 : Int32)) := hz2
              refine lv_if_eq (tgt := 68) hx hb dX12_plays_48 (by decide) (fun hc => absurd hc (by decide)) (fun _ => ?_)
              refine lv_aload_n hx hb dX12_plays_51 rfl (lv_at hl 2 rfl) ?_
              refine lv_iload_n hx hb dX12_plays_52 rfl (lv_at hl 1 rfl) ?_
              refine lv_iconst (v := 1) hx hb dX12_plays_53 (by decide) ?_
              refine lv_iconst (v := 2) hx hb dX12_plays_54 (by decide) ?_
              refine lv_iload_n hx hb dX12_plays_55 rfl (lv_at hl 0 rfl) ?_
              refine lv_imul hx hb dX12_plays_56 ?_
              refine lv_topi (fun z789 ez789 => ?_)
              obtain rfl : z789 = 6 := ez789.trans (by decide)
              refine lv_ishl hx hb dX12_plays_57 ?_
              refine lv_topi (fun z790 ez790 => ?_)
              obtain rfl : z790 = 64 := ez790.trans (by decide)
              refine lv_iadd hx hb dX12_plays_58 ?_
              refine lv_topi (fun z791 ez791 => ?_)
              obtain rfl : z791 = 128 := ez791.trans (by decide)
              refine lv_iload_n hx hb dX12_plays_59 rfl (lv_at hl 0 rfl) ?_
              refine ct_calli (D := D) (wr := [(qm_lines, .inl (cI, 5, .inl (fm_lines)))]) (va_runV (As := [.int 128, .int 3]) (rest := []) ⟨hx, hb, hml, hown, hts⟩ (c_X12_winsFrom l D G cI cJ cB cZ cO qm 0 qm_width qm_many qm_cells qm_moved qm_tape vm_taped vm_at vm_token vm_place vm_value vm_word vm_bad vm_badPlace vm_fault vm_faultPlace qm_lines qm_has qm_round qm_meets fm_meets qm_stumble qm_isMud qm_cell qm_tune qm_change qm_isKept qm_steps qm_places qm_danced vm_runMost vm_runBegins qm_heardBy vm_fitMany vm_fitFirst vm_fitBeats vm_listenLeaves qm_there vm_metAt vm_metIn qm_wins vm_nightHoles vm_nightFirst vm_nightMud vm_nightSlips vm_drawnNow h_vm_taped h_vm_at h_vm_value 12 g756 128 3 (by decide) (by unfold wn; decide) H.size) (cwV 2 hts gX12_plays_X12_winsFrom rfl rfl rfl (by decide +kernel) ⟨Nat.le_of_ble_eq_true rfl, Nat.le_of_ble_eq_true rfl⟩) (ct_preV (T := ct_T cI cJ cB cZ cO) (ci := 12) (q0 := 2) hE hH hP hD hS hA [2, 3, 1] (by decide) rfl rfl rfl) rfl rfl hl.1 rfl (lv_room (Nat.le_of_ble_eq_true rfl)) dX12_plays_60 ⟨Nat.le_of_ble_eq_true rfl, Nat.le_of_ble_eq_true rfl⟩) hP hD hS hA [2, 3, 1] [0] rfl rfl (by decide) (by decide) (fun r792 u H locs hw hP hD hS => ?_)
              obtain ⟨g793, rfl⟩ : ∃ z, z = u := ⟨_, rfl⟩
              obtain ⟨hP, hD⟩ : ct_B D A H [(qm_lines, .inl (cI, 5, .inl (fm_lines))), mo qm 0 qm_width qm_many qm_cells qm_moved qm_tape vm_taped vm_at vm_token vm_place vm_value vm_word vm_bad vm_badPlace vm_fault vm_faultPlace qm_lines qm_has qm_round qm_meets qm_stumble qm_isMud qm_cell qm_tune qm_change qm_isKept qm_steps qm_places qm_danced vm_runMost vm_runBegins qm_heardBy vm_fitMany vm_fitFirst vm_fitBeats vm_listenLeaves qm_there vm_metAt vm_metIn qm_wins vm_nightHoles vm_nightFirst vm_nightMud vm_nightSlips vm_drawnNow, (qm_meets, .inl (cI, 30, .inl (fm_meets))), (qm_wins, .inl (cI, 24576, .inl (g793)))] := ⟨hP, hD⟩
              have hz := hw
              rcases hz with ⟨hz, hz2⟩ | ⟨hz, hz2⟩
              · subst hz
                refine lv_if_ne (tgt := 68) hx hb dX12_plays_63 (by decide) (fun _ => ?_) (fun hc => absurd hc (by decide))
                refine lv_iinc (v := 4) (lv' := [(3, .int 4), (2, .int 64), (0, .ref qm), (1, .int 3)]) hx hb dX12_plays_68 hl (k := 0) rfl (by decide) (by decide) rfl (fun ls hl => ?_)
                refine lv_goto (tgt := 35) hx hb dX12_plays_71 (by decide) ?_
                have hk794 : (4 : Int32).toInt = 4 := by decide
                obtain ⟨hP9, hD9⟩ : ct_B D A H [(qm_meets, .inl (cI, 30, .inl (fm_meets))), (qm_lines, .inl (cI, 5, .inl (fm_lines))), mo qm 0 qm_width qm_many qm_cells qm_moved qm_tape vm_taped vm_at vm_token vm_place vm_value vm_word vm_bad vm_badPlace vm_fault vm_faultPlace qm_lines qm_has qm_round qm_meets qm_stumble qm_isMud qm_cell qm_tune qm_change qm_isKept qm_steps qm_places qm_danced vm_runMost vm_runBegins qm_heardBy vm_fitMany vm_fitFirst vm_fitBeats vm_listenLeaves qm_there vm_metAt vm_metIn qm_wins vm_nightHoles vm_nightFirst vm_nightMud vm_nightSlips vm_drawnNow, (qm_wins, .inl (cI, 24576, .inl (g793)))] := ⟨hP.sub [2, 0, 1, 3] rfl, hD.sub [2, 0, 1, 3] (by decide) rfl⟩
                exact ih758 (g793, (4 : Int32)) _ _ _ (show (6 - (4 : Int32).toInt).toNat < (6 - x757.toInt).toNat by omega) ⟨(show 0 ≤ (4 : Int32).toInt ∧ (4 : Int32).toInt ≤ 6 by decide), ⟨hP9, hD9⟩, hS, lv_sub hl [0, 1, 2, 3] rfl⟩
              · subst hz
                refine lv_if_ne (tgt := 68) hx hb dX12_plays_63 (by decide) (fun hc => absurd hc (by decide)) (fun _ => ?_)
                refine lv_iload_n hx hb dX12_plays_66 rfl (lv_at hl 0 rfl) ?_
                obtain ⟨hP9, hD9⟩ : ct_B D A H [mo qm 0 qm_width qm_many qm_cells qm_moved qm_tape vm_taped vm_at vm_token vm_place vm_value vm_word vm_bad vm_badPlace vm_fault vm_faultPlace qm_lines qm_has qm_round qm_meets qm_stumble qm_isMud qm_cell qm_tune qm_change qm_isKept qm_steps qm_places qm_danced vm_runMost vm_runBegins qm_heardBy vm_fitMany vm_fitFirst vm_fitBeats vm_listenLeaves qm_there vm_metAt vm_metIn qm_wins vm_nightHoles vm_nightFirst vm_nightMud vm_nightSlips vm_drawnNow, (qm_lines, .inl (cI, 5, .inl (fm_lines))), (qm_meets, .inl (cI, 30, .inl (fm_meets))), (qm_wins, .inl (cI, 24576, .inl (g793)))] := ⟨hP.sub [1, 0, 2, 3] rfl, hD.sub [1, 0, 2, 3] (by decide) rfl⟩
                exact W.iret (v := 3) hx hb hr (fun t ht hW => ⟨⟨3, ((0 : Int32), g793), rfl, (show (-2) ≤ (3 : Int32).toInt ∧ (3 : Int32).toInt ≤ 5 by decide), by rw [ht]; exact hP9, hD9⟩, hS.F ht⟩) hS.2.2 dX12_plays_67
            · subst hz
              refine lv_if_eq (tgt := 68) hx hb dX12_plays_48 (by decide) (fun _ => ?_) (fun hc => absurd hc (by decide))
              refine lv_iinc (v := 4) (lv' := [(3, .int 4), (2, .int 64), (0, .ref qm), (1, .int 3)]) hx hb dX12_plays_68 hl (k := 0) rfl (by decide) (by decide) rfl (fun ls hl => ?_)
              refine lv_goto (tgt := 35) hx hb dX12_plays_71 (by decide) ?_
              have hk795 : (4 : Int32).toInt = 4 := by decide
              obtain ⟨hP9, hD9⟩ : ct_B D A H [(qm_meets, .inl (cI, 30, .inl (fm_meets))), (qm_lines, .inl (cI, 5, .inl (fm_lines))), mo qm 0 qm_width qm_many qm_cells qm_moved qm_tape vm_taped vm_at vm_token vm_place vm_value vm_word vm_bad vm_badPlace vm_fault vm_faultPlace qm_lines qm_has qm_round qm_meets qm_stumble qm_isMud qm_cell qm_tune qm_change qm_isKept qm_steps qm_places qm_danced vm_runMost vm_runBegins qm_heardBy vm_fitMany vm_fitFirst vm_fitBeats vm_listenLeaves qm_there vm_metAt vm_metIn qm_wins vm_nightHoles vm_nightFirst vm_nightMud vm_nightSlips vm_drawnNow, (qm_wins, .inl (cI, 24576, .inl (g756)))] := ⟨hP.sub [3, 0, 2, 1] rfl, hD.sub [3, 0, 2, 1] (by decide) rfl⟩
              exact ih758 (g756, (4 : Int32)) _ _ _ (show (6 - (4 : Int32).toInt).toNat < (6 - x757.toInt).toNat by omega) ⟨(show 0 ≤ (4 : Int32).toInt ∧ (4 : Int32).toInt ≤ 6 by decide), ⟨hP9, hD9⟩, hS, lv_sub hl [0, 1, 2, 3] rfl⟩
          · have hj2 : x757 = 4 := tq_of hj (by decide)
            have hl : lv_has ls 4 [(3, .int 4), (2, .int 64), (0, .ref qm), (1, .int 3)] := by have h9 := hl; rw [hj2] at h9; exact h9
            refine lv_aload_n hx hb dX12_plays_41 rfl (lv_at hl 2 rfl) ?_
            refine lv_iload_n hx hb dX12_plays_42 rfl (lv_at hl 1 rfl) ?_
            refine lv_iload_n hx hb dX12_plays_43 rfl (lv_at hl 3 rfl) ?_
            refine lv_iload_n hx hb dX12_plays_44 rfl (lv_at hl 0 rfl) ?_
            refine ct_calli (D := D) (wr := [(qm_lines, .inl (cI, 5, .inl (fm_lines))), (qm_wins, .inl (cI, 24576, .inl (g756)))]) (va_runV (As := [.int 64, .int 3, .int 4]) (rest := []) ⟨hx, hb, hml, hown, hts⟩ (c_X12_isPlay l D G cI cJ cB cZ cO qm 0 qm_width qm_many qm_cells qm_moved qm_tape vm_taped vm_at vm_token vm_place vm_value vm_word vm_bad vm_badPlace vm_fault vm_faultPlace qm_lines qm_has qm_round qm_meets fm_meets qm_stumble qm_isMud qm_cell qm_tune qm_change qm_isKept qm_steps qm_places qm_danced vm_runMost vm_runBegins qm_heardBy vm_fitMany vm_fitFirst vm_fitBeats vm_listenLeaves qm_there vm_metAt vm_metIn qm_wins vm_nightHoles vm_nightFirst vm_nightMud vm_nightSlips vm_drawnNow 64 3 4 h_vm_taped h_vm_at h_vm_value (by decide) (by decide) H.size) (cwV 3 hts gX12_plays_X12_isPlay rfl rfl rfl (by decide +kernel) ⟨Nat.le_of_ble_eq_true rfl, Nat.le_of_ble_eq_true rfl⟩) (ct_preV (T := ct_T cI cJ cB cZ cO) (ci := 12) (q0 := 2) hE hH hP hD hS hA [2, 0] (by decide) rfl rfl rfl) rfl rfl hl.1 rfl (lv_room (Nat.le_of_ble_eq_true rfl)) dX12_plays_45 ⟨Nat.le_of_ble_eq_true rfl, Nat.le_of_ble_eq_true rfl⟩) hP hD hS hA [2, 0] [1, 3] rfl rfl (by decide) (by decide) (fun r796 u H locs hw hP hD hS => ?_)
            obtain ⟨hP, hD⟩ : ct_B D A H [(qm_lines, .inl (cI, 5, .inl (fm_lines))), (qm_wins, .inl (cI, 24576, .inl (g756))), mo qm 0 qm_width qm_many qm_cells qm_moved qm_tape vm_taped vm_at vm_token vm_place vm_value vm_word vm_bad vm_badPlace vm_fault vm_faultPlace qm_lines qm_has qm_round qm_meets qm_stumble qm_isMud qm_cell qm_tune qm_change qm_isKept qm_steps qm_places qm_danced vm_runMost vm_runBegins qm_heardBy vm_fitMany vm_fitFirst vm_fitBeats vm_listenLeaves qm_there vm_metAt vm_metIn qm_wins vm_nightHoles vm_nightFirst vm_nightMud vm_nightSlips vm_drawnNow, (qm_meets, .inl (cI, 30, .inl (fm_meets)))] := ⟨hP, hD⟩
            have hz := hw
            rcases hz with ⟨hz, hz2⟩ | ⟨hz, hz2⟩
            · subst hz
              have hz_797 : (pl (64 : Int32) (4 : Int32)) := hz2
              refine lv_if_eq (tgt := 68) hx hb dX12_plays_48 (by decide) (fun hc => absurd hc (by decide)) (fun _ => ?_)
              refine lv_aload_n hx hb dX12_plays_51 rfl (lv_at hl 2 rfl) ?_
              refine lv_iload_n hx hb dX12_plays_52 rfl (lv_at hl 1 rfl) ?_
              refine lv_iconst (v := 1) hx hb dX12_plays_53 (by decide) ?_
              refine lv_iconst (v := 2) hx hb dX12_plays_54 (by decide) ?_
              refine lv_iload_n hx hb dX12_plays_55 rfl (lv_at hl 0 rfl) ?_
              refine lv_imul hx hb dX12_plays_56 ?_
              refine lv_topi (fun z798 ez798 => ?_)
              obtain rfl : z798 = 8 := ez798.trans (by decide)
              refine lv_ishl hx hb dX12_plays_57 ?_
              refine lv_topi (fun z799 ez799 => ?_)
              obtain rfl : z799 = 256 := ez799.trans (by decide)
              refine lv_iadd hx hb dX12_plays_58 ?_
              refine lv_topi (fun z800 ez800 => ?_)
              obtain rfl : z800 = 320 := ez800.trans (by decide)
              refine lv_iload_n hx hb dX12_plays_59 rfl (lv_at hl 0 rfl) ?_
              refine ct_calli (D := D) (wr := [(qm_lines, .inl (cI, 5, .inl (fm_lines)))]) (va_runV (As := [.int 320, .int 4]) (rest := []) ⟨hx, hb, hml, hown, hts⟩ (c_X12_winsFrom l D G cI cJ cB cZ cO qm 0 qm_width qm_many qm_cells qm_moved qm_tape vm_taped vm_at vm_token vm_place vm_value vm_word vm_bad vm_badPlace vm_fault vm_faultPlace qm_lines qm_has qm_round qm_meets fm_meets qm_stumble qm_isMud qm_cell qm_tune qm_change qm_isKept qm_steps qm_places qm_danced vm_runMost vm_runBegins qm_heardBy vm_fitMany vm_fitFirst vm_fitBeats vm_listenLeaves qm_there vm_metAt vm_metIn qm_wins vm_nightHoles vm_nightFirst vm_nightMud vm_nightSlips vm_drawnNow h_vm_taped h_vm_at h_vm_value 12 g756 320 4 (by decide) (by unfold wn; decide) H.size) (cwV 2 hts gX12_plays_X12_winsFrom rfl rfl rfl (by decide +kernel) ⟨Nat.le_of_ble_eq_true rfl, Nat.le_of_ble_eq_true rfl⟩) (ct_preV (T := ct_T cI cJ cB cZ cO) (ci := 12) (q0 := 2) hE hH hP hD hS hA [2, 3, 1] (by decide) rfl rfl rfl) rfl rfl hl.1 rfl (lv_room (Nat.le_of_ble_eq_true rfl)) dX12_plays_60 ⟨Nat.le_of_ble_eq_true rfl, Nat.le_of_ble_eq_true rfl⟩) hP hD hS hA [2, 3, 1] [0] rfl rfl (by decide) (by decide) (fun r801 u H locs hw hP hD hS => ?_)
              obtain ⟨g802, rfl⟩ : ∃ z, z = u := ⟨_, rfl⟩
              obtain ⟨hP, hD⟩ : ct_B D A H [(qm_lines, .inl (cI, 5, .inl (fm_lines))), mo qm 0 qm_width qm_many qm_cells qm_moved qm_tape vm_taped vm_at vm_token vm_place vm_value vm_word vm_bad vm_badPlace vm_fault vm_faultPlace qm_lines qm_has qm_round qm_meets qm_stumble qm_isMud qm_cell qm_tune qm_change qm_isKept qm_steps qm_places qm_danced vm_runMost vm_runBegins qm_heardBy vm_fitMany vm_fitFirst vm_fitBeats vm_listenLeaves qm_there vm_metAt vm_metIn qm_wins vm_nightHoles vm_nightFirst vm_nightMud vm_nightSlips vm_drawnNow, (qm_meets, .inl (cI, 30, .inl (fm_meets))), (qm_wins, .inl (cI, 24576, .inl (g802)))] := ⟨hP, hD⟩
              have hz := hw
              rcases hz with ⟨hz, hz2⟩ | ⟨hz, hz2⟩
              · subst hz
                refine lv_if_ne (tgt := 68) hx hb dX12_plays_63 (by decide) (fun _ => ?_) (fun hc => absurd hc (by decide))
                refine lv_iinc (v := 5) (lv' := [(3, .int 5), (2, .int 64), (0, .ref qm), (1, .int 3)]) hx hb dX12_plays_68 hl (k := 0) rfl (by decide) (by decide) rfl (fun ls hl => ?_)
                refine lv_goto (tgt := 35) hx hb dX12_plays_71 (by decide) ?_
                have hk803 : (5 : Int32).toInt = 5 := by decide
                obtain ⟨hP9, hD9⟩ : ct_B D A H [(qm_meets, .inl (cI, 30, .inl (fm_meets))), (qm_lines, .inl (cI, 5, .inl (fm_lines))), mo qm 0 qm_width qm_many qm_cells qm_moved qm_tape vm_taped vm_at vm_token vm_place vm_value vm_word vm_bad vm_badPlace vm_fault vm_faultPlace qm_lines qm_has qm_round qm_meets qm_stumble qm_isMud qm_cell qm_tune qm_change qm_isKept qm_steps qm_places qm_danced vm_runMost vm_runBegins qm_heardBy vm_fitMany vm_fitFirst vm_fitBeats vm_listenLeaves qm_there vm_metAt vm_metIn qm_wins vm_nightHoles vm_nightFirst vm_nightMud vm_nightSlips vm_drawnNow, (qm_wins, .inl (cI, 24576, .inl (g802)))] := ⟨hP.sub [2, 0, 1, 3] rfl, hD.sub [2, 0, 1, 3] (by decide) rfl⟩
                exact ih758 (g802, (5 : Int32)) _ _ _ (show (6 - (5 : Int32).toInt).toNat < (6 - x757.toInt).toNat by omega) ⟨(show 0 ≤ (5 : Int32).toInt ∧ (5 : Int32).toInt ≤ 6 by decide), ⟨hP9, hD9⟩, hS, lv_sub hl [0, 1, 2, 3] rfl⟩
              · subst hz
                refine lv_if_ne (tgt := 68) hx hb dX12_plays_63 (by decide) (fun hc => absurd hc (by decide)) (fun _ => ?_)
                refine lv_iload_n hx hb dX12_plays_66 rfl (lv_at hl 0 rfl) ?_
                obtain ⟨hP9, hD9⟩ : ct_B D A H [mo qm 0 qm_width qm_many qm_cells qm_moved qm_tape vm_taped vm_at vm_token vm_place vm_value vm_word vm_bad vm_badPlace vm_fault vm_faultPlace qm_lines qm_has qm_round qm_meets qm_stumble qm_isMud qm_cell qm_tune qm_change qm_isKept qm_steps qm_places qm_danced vm_runMost vm_runBegins qm_heardBy vm_fitMany vm_fitFirst vm_fitBeats vm_listenLeaves qm_there vm_metAt vm_metIn qm_wins vm_nightHoles vm_nightFirst vm_nightMud vm_nightSlips vm_drawnNow, (qm_lines, .inl (cI, 5, .inl (fm_lines))), (qm_meets, .inl (cI, 30, .inl (fm_meets))), (qm_wins, .inl (cI, 24576, .inl (g802)))] := ⟨hP.sub [1, 0, 2, 3] rfl, hD.sub [1, 0, 2, 3] (by decide) rfl⟩
                exact W.iret (v := 4) hx hb hr (fun t ht hW => ⟨⟨4, ((0 : Int32), g802), rfl, (show (-2) ≤ (4 : Int32).toInt ∧ (4 : Int32).toInt ≤ 5 by decide), by rw [ht]; exact hP9, hD9⟩, hS.F ht⟩) hS.2.2 dX12_plays_67
            · subst hz
              refine lv_if_eq (tgt := 68) hx hb dX12_plays_48 (by decide) (fun _ => ?_) (fun hc => absurd hc (by decide))
              refine lv_iinc (v := 5) (lv' := [(3, .int 5), (2, .int 64), (0, .ref qm), (1, .int 3)]) hx hb dX12_plays_68 hl (k := 0) rfl (by decide) (by decide) rfl (fun ls hl => ?_)
              refine lv_goto (tgt := 35) hx hb dX12_plays_71 (by decide) ?_
              have hk804 : (5 : Int32).toInt = 5 := by decide
              obtain ⟨hP9, hD9⟩ : ct_B D A H [(qm_meets, .inl (cI, 30, .inl (fm_meets))), (qm_lines, .inl (cI, 5, .inl (fm_lines))), mo qm 0 qm_width qm_many qm_cells qm_moved qm_tape vm_taped vm_at vm_token vm_place vm_value vm_word vm_bad vm_badPlace vm_fault vm_faultPlace qm_lines qm_has qm_round qm_meets qm_stumble qm_isMud qm_cell qm_tune qm_change qm_isKept qm_steps qm_places qm_danced vm_runMost vm_runBegins qm_heardBy vm_fitMany vm_fitFirst vm_fitBeats vm_listenLeaves qm_there vm_metAt vm_metIn qm_wins vm_nightHoles vm_nightFirst vm_nightMud vm_nightSlips vm_drawnNow, (qm_wins, .inl (cI, 24576, .inl (g756)))] := ⟨hP.sub [3, 0, 2, 1] rfl, hD.sub [3, 0, 2, 1] (by decide) rfl⟩
              exact ih758 (g756, (5 : Int32)) _ _ _ (show (6 - (5 : Int32).toInt).toNat < (6 - x757.toInt).toNat by omega) ⟨(show 0 ≤ (5 : Int32).toInt ∧ (5 : Int32).toInt ≤ 6 by decide), ⟨hP9, hD9⟩, hS, lv_sub hl [0, 1, 2, 3] rfl⟩
          · have hj2 : x757 = 5 := tq_of hj (by decide)
            have hl : lv_has ls 4 [(3, .int 5), (2, .int 64), (0, .ref qm), (1, .int 3)] := by have h9 := hl; rw [hj2] at h9; exact h9
            refine lv_aload_n hx hb dX12_plays_41 rfl (lv_at hl 2 rfl) ?_
            refine lv_iload_n hx hb dX12_plays_42 rfl (lv_at hl 1 rfl) ?_
            refine lv_iload_n hx hb dX12_plays_43 rfl (lv_at hl 3 rfl) ?_
            refine lv_iload_n hx hb dX12_plays_44 rfl (lv_at hl 0 rfl) ?_
            refine ct_calli (D := D) (wr := [(qm_lines, .inl (cI, 5, .inl (fm_lines))), (qm_wins, .inl (cI, 24576, .inl (g756)))]) (va_runV (As := [.int 64, .int 3, .int 5]) (rest := []) ⟨hx, hb, hml, hown, hts⟩ (c_X12_isPlay l D G cI cJ cB cZ cO qm 0 qm_width qm_many qm_cells qm_moved qm_tape vm_taped vm_at vm_token vm_place vm_value vm_word vm_bad vm_badPlace vm_fault vm_faultPlace qm_lines qm_has qm_round qm_meets fm_meets qm_stumble qm_isMud qm_cell qm_tune qm_change qm_isKept qm_steps qm_places qm_danced vm_runMost vm_runBegins qm_heardBy vm_fitMany vm_fitFirst vm_fitBeats vm_listenLeaves qm_there vm_metAt vm_metIn qm_wins vm_nightHoles vm_nightFirst vm_nightMud vm_nightSlips vm_drawnNow 64 3 5 h_vm_taped h_vm_at h_vm_value (by decide) (by decide) H.size) (cwV 3 hts gX12_plays_X12_isPlay rfl rfl rfl (by decide +kernel) ⟨Nat.le_of_ble_eq_true rfl, Nat.le_of_ble_eq_true rfl⟩) (ct_preV (T := ct_T cI cJ cB cZ cO) (ci := 12) (q0 := 2) hE hH hP hD hS hA [2, 0] (by decide) rfl rfl rfl) rfl rfl hl.1 rfl (lv_room (Nat.le_of_ble_eq_true rfl)) dX12_plays_45 ⟨Nat.le_of_ble_eq_true rfl, Nat.le_of_ble_eq_true rfl⟩) hP hD hS hA [2, 0] [1, 3] rfl rfl (by decide) (by decide) (fun r805 u H locs hw hP hD hS => ?_)
            obtain ⟨hP, hD⟩ : ct_B D A H [(qm_lines, .inl (cI, 5, .inl (fm_lines))), (qm_wins, .inl (cI, 24576, .inl (g756))), mo qm 0 qm_width qm_many qm_cells qm_moved qm_tape vm_taped vm_at vm_token vm_place vm_value vm_word vm_bad vm_badPlace vm_fault vm_faultPlace qm_lines qm_has qm_round qm_meets qm_stumble qm_isMud qm_cell qm_tune qm_change qm_isKept qm_steps qm_places qm_danced vm_runMost vm_runBegins qm_heardBy vm_fitMany vm_fitFirst vm_fitBeats vm_listenLeaves qm_there vm_metAt vm_metIn qm_wins vm_nightHoles vm_nightFirst vm_nightMud vm_nightSlips vm_drawnNow, (qm_meets, .inl (cI, 30, .inl (fm_meets)))] := ⟨hP, hD⟩
            have hz := hw
            rcases hz with ⟨hz, hz2⟩ | ⟨hz, hz2⟩
            · subst hz
              have hz_806 : (pl (64 : Int32) (5 : Int32)) := hz2
              refine lv_if_eq (tgt := 68) hx hb dX12_plays_48 (by decide) (fun hc => absurd hc (by decide)) (fun _ => ?_)
              refine lv_aload_n hx hb dX12_plays_51 rfl (lv_at hl 2 rfl) ?_
              refine lv_iload_n hx hb dX12_plays_52 rfl (lv_at hl 1 rfl) ?_
              refine lv_iconst (v := 1) hx hb dX12_plays_53 (by decide) ?_
              refine lv_iconst (v := 2) hx hb dX12_plays_54 (by decide) ?_
              refine lv_iload_n hx hb dX12_plays_55 rfl (lv_at hl 0 rfl) ?_
              refine lv_imul hx hb dX12_plays_56 ?_
              refine lv_topi (fun z807 ez807 => ?_)
              obtain rfl : z807 = 10 := ez807.trans (by decide)
              refine lv_ishl hx hb dX12_plays_57 ?_
              refine lv_topi (fun z808 ez808 => ?_)
              obtain rfl : z808 = 1024 := ez808.trans (by decide)
              refine lv_iadd hx hb dX12_plays_58 ?_
              refine lv_topi (fun z809 ez809 => ?_)
              obtain rfl : z809 = 1088 := ez809.trans (by decide)
              refine lv_iload_n hx hb dX12_plays_59 rfl (lv_at hl 0 rfl) ?_
              refine ct_calli (D := D) (wr := [(qm_lines, .inl (cI, 5, .inl (fm_lines)))]) (va_runV (As := [.int 1088, .int 5]) (rest := []) ⟨hx, hb, hml, hown, hts⟩ (c_X12_winsFrom l D G cI cJ cB cZ cO qm 0 qm_width qm_many qm_cells qm_moved qm_tape vm_taped vm_at vm_token vm_place vm_value vm_word vm_bad vm_badPlace vm_fault vm_faultPlace qm_lines qm_has qm_round qm_meets fm_meets qm_stumble qm_isMud qm_cell qm_tune qm_change qm_isKept qm_steps qm_places qm_danced vm_runMost vm_runBegins qm_heardBy vm_fitMany vm_fitFirst vm_fitBeats vm_listenLeaves qm_there vm_metAt vm_metIn qm_wins vm_nightHoles vm_nightFirst vm_nightMud vm_nightSlips vm_drawnNow h_vm_taped h_vm_at h_vm_value 12 g756 1088 5 (by decide) (by unfold wn; decide) H.size) (cwV 2 hts gX12_plays_X12_winsFrom rfl rfl rfl (by decide +kernel) ⟨Nat.le_of_ble_eq_true rfl, Nat.le_of_ble_eq_true rfl⟩) (ct_preV (T := ct_T cI cJ cB cZ cO) (ci := 12) (q0 := 2) hE hH hP hD hS hA [2, 3, 1] (by decide) rfl rfl rfl) rfl rfl hl.1 rfl (lv_room (Nat.le_of_ble_eq_true rfl)) dX12_plays_60 ⟨Nat.le_of_ble_eq_true rfl, Nat.le_of_ble_eq_true rfl⟩) hP hD hS hA [2, 3, 1] [0] rfl rfl (by decide) (by decide) (fun r810 u H locs hw hP hD hS => ?_)
              obtain ⟨g811, rfl⟩ : ∃ z, z = u := ⟨_, rfl⟩
              obtain ⟨hP, hD⟩ : ct_B D A H [(qm_lines, .inl (cI, 5, .inl (fm_lines))), mo qm 0 qm_width qm_many qm_cells qm_moved qm_tape vm_taped vm_at vm_token vm_place vm_value vm_word vm_bad vm_badPlace vm_fault vm_faultPlace qm_lines qm_has qm_round qm_meets qm_stumble qm_isMud qm_cell qm_tune qm_change qm_isKept qm_steps qm_places qm_danced vm_runMost vm_runBegins qm_heardBy vm_fitMany vm_fitFirst vm_fitBeats vm_listenLeaves qm_there vm_metAt vm_metIn qm_wins vm_nightHoles vm_nightFirst vm_nightMud vm_nightSlips vm_drawnNow, (qm_meets, .inl (cI, 30, .inl (fm_meets))), (qm_wins, .inl (cI, 24576, .inl (g811)))] := ⟨hP, hD⟩
              have hz := hw
              rcases hz with ⟨hz, hz2⟩ | ⟨hz, hz2⟩
              · subst hz
                refine lv_if_ne (tgt := 68) hx hb dX12_plays_63 (by decide) (fun _ => ?_) (fun hc => absurd hc (by decide))
                refine lv_iinc (v := 6) (lv' := [(3, .int 6), (2, .int 64), (0, .ref qm), (1, .int 3)]) hx hb dX12_plays_68 hl (k := 0) rfl (by decide) (by decide) rfl (fun ls hl => ?_)
                refine lv_goto (tgt := 35) hx hb dX12_plays_71 (by decide) ?_
                have hk812 : (6 : Int32).toInt = 6 := by decide
                obtain ⟨hP9, hD9⟩ : ct_B D A H [(qm_meets, .inl (cI, 30, .inl (fm_meets))), (qm_lines, .inl (cI, 5, .inl (fm_lines))), mo qm 0 qm_width qm_many qm_cells qm_moved qm_tape vm_taped vm_at vm_token vm_place vm_value vm_word vm_bad vm_badPlace vm_fault vm_faultPlace qm_lines qm_has qm_round qm_meets qm_stumble qm_isMud qm_cell qm_tune qm_change qm_isKept qm_steps qm_places qm_danced vm_runMost vm_runBegins qm_heardBy vm_fitMany vm_fitFirst vm_fitBeats vm_listenLeaves qm_there vm_metAt vm_metIn qm_wins vm_nightHoles vm_nightFirst vm_nightMud vm_nightSlips vm_drawnNow, (qm_wins, .inl (cI, 24576, .inl (g811)))] := ⟨hP.sub [2, 0, 1, 3] rfl, hD.sub [2, 0, 1, 3] (by decide) rfl⟩
                exact ih758 (g811, (6 : Int32)) _ _ _ (show (6 - (6 : Int32).toInt).toNat < (6 - x757.toInt).toNat by omega) ⟨(show 0 ≤ (6 : Int32).toInt ∧ (6 : Int32).toInt ≤ 6 by decide), ⟨hP9, hD9⟩, hS, lv_sub hl [0, 1, 2, 3] rfl⟩
              · subst hz
                refine lv_if_ne (tgt := 68) hx hb dX12_plays_63 (by decide) (fun hc => absurd hc (by decide)) (fun _ => ?_)
                refine lv_iload_n hx hb dX12_plays_66 rfl (lv_at hl 0 rfl) ?_
                obtain ⟨hP9, hD9⟩ : ct_B D A H [mo qm 0 qm_width qm_many qm_cells qm_moved qm_tape vm_taped vm_at vm_token vm_place vm_value vm_word vm_bad vm_badPlace vm_fault vm_faultPlace qm_lines qm_has qm_round qm_meets qm_stumble qm_isMud qm_cell qm_tune qm_change qm_isKept qm_steps qm_places qm_danced vm_runMost vm_runBegins qm_heardBy vm_fitMany vm_fitFirst vm_fitBeats vm_listenLeaves qm_there vm_metAt vm_metIn qm_wins vm_nightHoles vm_nightFirst vm_nightMud vm_nightSlips vm_drawnNow, (qm_lines, .inl (cI, 5, .inl (fm_lines))), (qm_meets, .inl (cI, 30, .inl (fm_meets))), (qm_wins, .inl (cI, 24576, .inl (g811)))] := ⟨hP.sub [1, 0, 2, 3] rfl, hD.sub [1, 0, 2, 3] (by decide) rfl⟩
                exact W.iret (v := 5) hx hb hr (fun t ht hW => ⟨⟨5, ((0 : Int32), g811), rfl, (show (-2) ≤ (5 : Int32).toInt ∧ (5 : Int32).toInt ≤ 5 by decide), by rw [ht]; exact hP9, hD9⟩, hS.F ht⟩) hS.2.2 dX12_plays_67
            · subst hz
              refine lv_if_eq (tgt := 68) hx hb dX12_plays_48 (by decide) (fun _ => ?_) (fun hc => absurd hc (by decide))
              refine lv_iinc (v := 6) (lv' := [(3, .int 6), (2, .int 64), (0, .ref qm), (1, .int 3)]) hx hb dX12_plays_68 hl (k := 0) rfl (by decide) (by decide) rfl (fun ls hl => ?_)
              refine lv_goto (tgt := 35) hx hb dX12_plays_71 (by decide) ?_
              have hk813 : (6 : Int32).toInt = 6 := by decide
              obtain ⟨hP9, hD9⟩ : ct_B D A H [(qm_meets, .inl (cI, 30, .inl (fm_meets))), (qm_lines, .inl (cI, 5, .inl (fm_lines))), mo qm 0 qm_width qm_many qm_cells qm_moved qm_tape vm_taped vm_at vm_token vm_place vm_value vm_word vm_bad vm_badPlace vm_fault vm_faultPlace qm_lines qm_has qm_round qm_meets qm_stumble qm_isMud qm_cell qm_tune qm_change qm_isKept qm_steps qm_places qm_danced vm_runMost vm_runBegins qm_heardBy vm_fitMany vm_fitFirst vm_fitBeats vm_listenLeaves qm_there vm_metAt vm_metIn qm_wins vm_nightHoles vm_nightFirst vm_nightMud vm_nightSlips vm_drawnNow, (qm_wins, .inl (cI, 24576, .inl (g756)))] := ⟨hP.sub [3, 0, 2, 1] rfl, hD.sub [3, 0, 2, 1] (by decide) rfl⟩
              exact ih758 (g756, (6 : Int32)) _ _ _ (show (6 - (6 : Int32).toInt).toNat < (6 - x757.toInt).toNat by omega) ⟨(show 0 ≤ (6 : Int32).toInt ∧ (6 : Int32).toInt ≤ 6 by decide), ⟨hP9, hD9⟩, hS, lv_sub hl [0, 1, 2, 3] rfl⟩
      · have hj2 : a1 = 4 := tq_of hj (by decide)
        have hl : lv_has ls 4 [(0, .ref qm), (1, .int 4)] := by have h9 := hl; rw [hj2] at h9; exact h9
        refine lv_iconst (v := 1) hx hb dX12_plays_27 (by decide) ?_
        refine lv_iconst (v := 2) hx hb dX12_plays_28 (by decide) ?_
        refine lv_iload_n hx hb dX12_plays_29 rfl (lv_at hl 1 rfl) ?_
        refine lv_imul hx hb dX12_plays_30 ?_
        refine lv_topi (fun z814 ez814 => ?_)
        obtain rfl : z814 = 8 := ez814.trans (by decide)
        refine lv_ishl hx hb dX12_plays_31 ?_
        refine lv_topi (fun z815 ez815 => ?_)
        obtain rfl : z815 = 256 := ez815.trans (by decide)
        refine lv_istore_n (lv' := [(2, .int 256), (0, .ref qm), (1, .int 4)]) hx hb dX12_plays_32 rfl hl (by decide) rfl (fun ls hl => ?_)
        refine lv_iconst (v := 0) hx hb dX12_plays_33 (by decide) ?_
        refine lv_istore_n (lv' := [(3, .int 0), (2, .int 256), (0, .ref qm), (1, .int 4)]) hx hb dX12_plays_34 rfl hl (by decide) rfl (fun ls hl => ?_)
        refine ct_loop (X := (Nat → Int32) × Int32) (fun x => (6 - x.2.toInt).toNat) (fun x H locs ls => ((0 ≤ x.2.toInt ∧ x.2.toInt ≤ 6)) ∧ ct_B D A H [(qm_meets, .inl (cI, 30, .inl (fm_meets))), (qm_lines, .inl (cI, 5, .inl (fm_lines))), mo qm 0 qm_width qm_many qm_cells qm_moved qm_tape vm_taped vm_at vm_token vm_place vm_value vm_word vm_bad vm_badPlace vm_fault vm_faultPlace qm_lines qm_has qm_round qm_meets qm_stumble qm_isMud qm_cell qm_tune qm_change qm_isKept qm_steps qm_places qm_danced vm_runMost vm_runBegins qm_heardBy vm_fitMany vm_fitFirst vm_fitBeats vm_listenLeaves qm_there vm_metAt vm_metIn qm_wins vm_nightHoles vm_nightFirst vm_nightMud vm_nightSlips vm_drawnNow, (qm_wins, .inl (cI, 24576, .inl (x.1)))] ∧ va_S A s.heap H locs ∧ lv_has ls 4 [(3, .int x.2), (2, .int 256), (0, .ref qm), (1, .int 4)]) 35 (g5, (0 : Int32)) ⟨(show 0 ≤ (0 : Int32).toInt ∧ (0 : Int32).toInt ≤ 6 by decide), ⟨hP, hD⟩, hS, lv_sub hl [0, 1, 2, 3] rfl⟩ (fun x ih960 H locs ls hI => ?_)
        obtain ⟨g958, x959⟩ := x
        obtain ⟨h_x959, ⟨hP, hD⟩, hS, hl⟩ := hI
        have h_x959 : (0 ≤ x959.toInt ∧ x959.toInt ≤ 6) := h_x959
        obtain ⟨hP, hD⟩ : ct_B D A H [(qm_meets, .inl (cI, 30, .inl (fm_meets))), (qm_lines, .inl (cI, 5, .inl (fm_lines))), mo qm 0 qm_width qm_many qm_cells qm_moved qm_tape vm_taped vm_at vm_token vm_place vm_value vm_word vm_bad vm_badPlace vm_fault vm_faultPlace qm_lines qm_has qm_round qm_meets qm_stumble qm_isMud qm_cell qm_tune qm_change qm_isKept qm_steps qm_places qm_danced vm_runMost vm_runBegins qm_heardBy vm_fitMany vm_fitFirst vm_fitBeats vm_listenLeaves qm_there vm_metAt vm_metIn qm_wins vm_nightHoles vm_nightFirst vm_nightMud vm_nightSlips vm_drawnNow, (qm_wins, .inl (cI, 24576, .inl (g958)))] := ⟨hP, hD⟩
        have hl : lv_has ls 4 [(3, .int x959), (2, .int 256), (0, .ref qm), (1, .int 4)] := hl
        refine lv_iload_n hx hb dX12_plays_35 rfl (lv_at hl 0 rfl) ?_
        refine lv_bipush (v := 6) hx hb dX12_plays_36 (by decide) ?_
        refine lv_icmp_ge (tgt := 74) hx hb dX12_plays_38 (by decide) (fun hc => ?_) (fun hc => ?_)
        · have hq961 : 6 ≤ x959.toInt := tq_le (by decide) rfl hc
          refine lv_iconst (v := (-1)) hx hb dX12_plays_74 (by decide) ?_
          obtain ⟨hP9, hD9⟩ : ct_B D A H [mo qm 0 qm_width qm_many qm_cells qm_moved qm_tape vm_taped vm_at vm_token vm_place vm_value vm_word vm_bad vm_badPlace vm_fault vm_faultPlace qm_lines qm_has qm_round qm_meets qm_stumble qm_isMud qm_cell qm_tune qm_change qm_isKept qm_steps qm_places qm_danced vm_runMost vm_runBegins qm_heardBy vm_fitMany vm_fitFirst vm_fitBeats vm_listenLeaves qm_there vm_metAt vm_metIn qm_wins vm_nightHoles vm_nightFirst vm_nightMud vm_nightSlips vm_drawnNow, (qm_lines, .inl (cI, 5, .inl (fm_lines))), (qm_meets, .inl (cI, 30, .inl (fm_meets))), (qm_wins, .inl (cI, 24576, .inl (g958)))] := ⟨hP.sub [2, 1, 0, 3] rfl, hD.sub [2, 1, 0, 3] (by decide) rfl⟩
          exact W.iret (v := (-1)) hx hb hr (fun t ht hW => ⟨⟨(-1), ((0 : Int32), g958), rfl, (show (-2) ≤ (-1 : Int32).toInt ∧ (-1 : Int32).toInt ≤ 5 by decide), by rw [ht]; exact hP9, hD9⟩, hS.F ht⟩) hS.2.2 dX12_plays_75
        · have hq961 : x959.toInt < 6 := tq_nle (by decide) rfl hc
          rcases (show x959.toInt = 0 ∨ x959.toInt = 1 ∨ x959.toInt = 2 ∨ x959.toInt = 3 ∨ x959.toInt = 4 ∨ x959.toInt = 5 by omega) with hj | hj | hj | hj | hj | hj
          · have hj2 : x959 = 0 := tq_of hj (by decide)
            have hl : lv_has ls 4 [(3, .int 0), (2, .int 256), (0, .ref qm), (1, .int 4)] := by have h9 := hl; rw [hj2] at h9; exact h9
            refine lv_aload_n hx hb dX12_plays_41 rfl (lv_at hl 2 rfl) ?_
            refine lv_iload_n hx hb dX12_plays_42 rfl (lv_at hl 1 rfl) ?_
            refine lv_iload_n hx hb dX12_plays_43 rfl (lv_at hl 3 rfl) ?_
            refine lv_iload_n hx hb dX12_plays_44 rfl (lv_at hl 0 rfl) ?_
            refine ct_calli (D := D) (wr := [(qm_lines, .inl (cI, 5, .inl (fm_lines))), (qm_wins, .inl (cI, 24576, .inl (g958)))]) (va_runV (As := [.int 256, .int 4, .int 0]) (rest := []) ⟨hx, hb, hml, hown, hts⟩ (c_X12_isPlay l D G cI cJ cB cZ cO qm 0 qm_width qm_many qm_cells qm_moved qm_tape vm_taped vm_at vm_token vm_place vm_value vm_word vm_bad vm_badPlace vm_fault vm_faultPlace qm_lines qm_has qm_round qm_meets fm_meets qm_stumble qm_isMud qm_cell qm_tune qm_change qm_isKept qm_steps qm_places qm_danced vm_runMost vm_runBegins qm_heardBy vm_fitMany vm_fitFirst vm_fitBeats vm_listenLeaves qm_there vm_metAt vm_metIn qm_wins vm_nightHoles vm_nightFirst vm_nightMud vm_nightSlips vm_drawnNow 256 4 0 h_vm_taped h_vm_at h_vm_value (by decide) (by decide) H.size) (cwV 3 hts gX12_plays_X12_isPlay rfl rfl rfl (by decide +kernel) ⟨Nat.le_of_ble_eq_true rfl, Nat.le_of_ble_eq_true rfl⟩) (ct_preV (T := ct_T cI cJ cB cZ cO) (ci := 12) (q0 := 2) hE hH hP hD hS hA [2, 0] (by decide) rfl rfl rfl) rfl rfl hl.1 rfl (lv_room (Nat.le_of_ble_eq_true rfl)) dX12_plays_45 ⟨Nat.le_of_ble_eq_true rfl, Nat.le_of_ble_eq_true rfl⟩) hP hD hS hA [2, 0] [1, 3] rfl rfl (by decide) (by decide) (fun r962 u H locs hw hP hD hS => ?_)
            obtain ⟨hP, hD⟩ : ct_B D A H [(qm_lines, .inl (cI, 5, .inl (fm_lines))), (qm_wins, .inl (cI, 24576, .inl (g958))), mo qm 0 qm_width qm_many qm_cells qm_moved qm_tape vm_taped vm_at vm_token vm_place vm_value vm_word vm_bad vm_badPlace vm_fault vm_faultPlace qm_lines qm_has qm_round qm_meets qm_stumble qm_isMud qm_cell qm_tune qm_change qm_isKept qm_steps qm_places qm_danced vm_runMost vm_runBegins qm_heardBy vm_fitMany vm_fitFirst vm_fitBeats vm_listenLeaves qm_there vm_metAt vm_metIn qm_wins vm_nightHoles vm_nightFirst vm_nightMud vm_nightSlips vm_drawnNow, (qm_meets, .inl (cI, 30, .inl (fm_meets)))] := ⟨hP, hD⟩
            have hz := hw
            rcases hz with ⟨hz, hz2⟩ | ⟨hz, hz2⟩
            · subst hz
              have hz_963 : (pl (256 : Int32) (0 : Int32)) := hz2
              refine lv_if_eq (tgt := 68) hx hb dX12_plays_48 (by decide) (fun hc => absurd hc (by decide)) (fun _ => ?_)
              refine lv_aload_n hx hb dX12_plays_51 rfl (lv_at hl 2 rfl) ?_
              refine lv_iload_n hx hb dX12_plays_52 rfl (lv_at hl 1 rfl) ?_
              refine lv_iconst (v := 1) hx hb dX12_plays_53 (by decide) ?_
              refine lv_iconst (v := 2) hx hb dX12_plays_54 (by decide) ?_
              refine lv_iload_n hx hb dX12_plays_55 rfl (lv_at hl 0 rfl) ?_
              refine lv_imul hx hb dX12_plays_56 ?_
              refine lv_topi (fun z964 ez964 => ?_)
              obtain rfl : z964 = 0 := ez964.trans (by decide)
              refine lv_ishl hx hb dX12_plays_57 ?_
              refine lv_topi (fun z965 ez965 => ?_)
              obtain rfl : z965 = 1 := ez965.trans (by decide)
              refine lv_iadd hx hb dX12_plays_58 ?_
              refine lv_topi (fun z966 ez966 => ?_)
              obtain rfl : z966 = 257 := ez966.trans (by decide)
              refine lv_iload_n hx hb dX12_plays_59 rfl (lv_at hl 0 rfl) ?_
              refine ct_calli (D := D) (wr := [(qm_lines, .inl (cI, 5, .inl (fm_lines)))]) (va_runV (As := [.int 257, .int 0]) (rest := []) ⟨hx, hb, hml, hown, hts⟩ (c_X12_winsFrom l D G cI cJ cB cZ cO qm 0 qm_width qm_many qm_cells qm_moved qm_tape vm_taped vm_at vm_token vm_place vm_value vm_word vm_bad vm_badPlace vm_fault vm_faultPlace qm_lines qm_has qm_round qm_meets fm_meets qm_stumble qm_isMud qm_cell qm_tune qm_change qm_isKept qm_steps qm_places qm_danced vm_runMost vm_runBegins qm_heardBy vm_fitMany vm_fitFirst vm_fitBeats vm_listenLeaves qm_there vm_metAt vm_metIn qm_wins vm_nightHoles vm_nightFirst vm_nightMud vm_nightSlips vm_drawnNow h_vm_taped h_vm_at h_vm_value 12 g958 257 0 (by decide) (by unfold wn; decide) H.size) (cwV 2 hts gX12_plays_X12_winsFrom rfl rfl rfl (by decide +kernel) ⟨Nat.le_of_ble_eq_true rfl, Nat.le_of_ble_eq_true rfl⟩) (ct_preV (T := ct_T cI cJ cB cZ cO) (ci := 12) (q0 := 2) hE hH hP hD hS hA [2, 3, 1] (by decide) rfl rfl rfl) rfl rfl hl.1 rfl (lv_room (Nat.le_of_ble_eq_true rfl)) dX12_plays_60 ⟨Nat.le_of_ble_eq_true rfl, Nat.le_of_ble_eq_true rfl⟩) hP hD hS hA [2, 3, 1] [0] rfl rfl (by decide) (by decide) (fun r967 u H locs hw hP hD hS => ?_)
              obtain ⟨g968, rfl⟩ : ∃ z, z = u := ⟨_, rfl⟩
              obtain ⟨hP, hD⟩ : ct_B D A H [(qm_lines, .inl (cI, 5, .inl (fm_lines))), mo qm 0 qm_width qm_many qm_cells qm_moved qm_tape vm_taped vm_at vm_token vm_place vm_value vm_word vm_bad vm_badPlace vm_fault vm_faultPlace qm_lines qm_has qm_round qm_meets qm_stumble qm_isMud qm_cell qm_tune qm_change qm_isKept qm_steps qm_places qm_danced vm_runMost vm_runBegins qm_heardBy vm_fitMany vm_fitFirst vm_fitBeats vm_listenLeaves qm_there vm_metAt vm_metIn qm_wins vm_nightHoles vm_nightFirst vm_nightMud vm_nightSlips vm_drawnNow, (qm_meets, .inl (cI, 30, .inl (fm_meets))), (qm_wins, .inl (cI, 24576, .inl (g968)))] := ⟨hP, hD⟩
              have hz := hw
              rcases hz with ⟨hz, hz2⟩ | ⟨hz, hz2⟩
              · subst hz
                refine lv_if_ne (tgt := 68) hx hb dX12_plays_63 (by decide) (fun _ => ?_) (fun hc => absurd hc (by decide))
                refine lv_iinc (v := 1) (lv' := [(3, .int 1), (2, .int 256), (0, .ref qm), (1, .int 4)]) hx hb dX12_plays_68 hl (k := 0) rfl (by decide) (by decide) rfl (fun ls hl => ?_)
                refine lv_goto (tgt := 35) hx hb dX12_plays_71 (by decide) ?_
                have hk969 : (1 : Int32).toInt = 1 := by decide
                obtain ⟨hP9, hD9⟩ : ct_B D A H [(qm_meets, .inl (cI, 30, .inl (fm_meets))), (qm_lines, .inl (cI, 5, .inl (fm_lines))), mo qm 0 qm_width qm_many qm_cells qm_moved qm_tape vm_taped vm_at vm_token vm_place vm_value vm_word vm_bad vm_badPlace vm_fault vm_faultPlace qm_lines qm_has qm_round qm_meets qm_stumble qm_isMud qm_cell qm_tune qm_change qm_isKept qm_steps qm_places qm_danced vm_runMost vm_runBegins qm_heardBy vm_fitMany vm_fitFirst vm_fitBeats vm_listenLeaves qm_there vm_metAt vm_metIn qm_wins vm_nightHoles vm_nightFirst vm_nightMud vm_nightSlips vm_drawnNow, (qm_wins, .inl (cI, 24576, .inl (g968)))] := ⟨hP.sub [2, 0, 1, 3] rfl, hD.sub [2, 0, 1, 3] (by decide) rfl⟩
                exact ih960 (g968, (1 : Int32)) _ _ _ (show (6 - (1 : Int32).toInt).toNat < (6 - x959.toInt).toNat by omega) ⟨(show 0 ≤ (1 : Int32).toInt ∧ (1 : Int32).toInt ≤ 6 by decide), ⟨hP9, hD9⟩, hS, lv_sub hl [0, 1, 2, 3] rfl⟩
              · subst hz
                refine lv_if_ne (tgt := 68) hx hb dX12_plays_63 (by decide) (fun hc => absurd hc (by decide)) (fun _ => ?_)
                refine lv_iload_n hx hb dX12_plays_66 rfl (lv_at hl 0 rfl) ?_
                obtain ⟨hP9, hD9⟩ : ct_B D A H [mo qm 0 qm_width qm_many qm_cells qm_moved qm_tape vm_taped vm_at vm_token vm_place vm_value vm_word vm_bad vm_badPlace vm_fault vm_faultPlace qm_lines qm_has qm_round qm_meets qm_stumble qm_isMud qm_cell qm_tune qm_change qm_isKept qm_steps qm_places qm_danced vm_runMost vm_runBegins qm_heardBy vm_fitMany vm_fitFirst vm_fitBeats vm_listenLeaves qm_there vm_metAt vm_metIn qm_wins vm_nightHoles vm_nightFirst vm_nightMud vm_nightSlips vm_drawnNow, (qm_lines, .inl (cI, 5, .inl (fm_lines))), (qm_meets, .inl (cI, 30, .inl (fm_meets))), (qm_wins, .inl (cI, 24576, .inl (g968)))] := ⟨hP.sub [1, 0, 2, 3] rfl, hD.sub [1, 0, 2, 3] (by decide) rfl⟩
                exact W.iret (v := 0) hx hb hr (fun t ht hW => ⟨⟨0, ((0 : Int32), g968), rfl, (show (-2) ≤ (0 : Int32).toInt ∧ (0 : Int32).toInt ≤ 5 by decide), by rw [ht]; exact hP9, hD9⟩, hS.F ht⟩) hS.2.2 dX12_plays_67
            · subst hz
              refine lv_if_eq (tgt := 68) hx hb dX12_plays_48 (by decide) (fun _ => ?_) (fun hc => absurd hc (by decide))
              refine lv_iinc (v := 1) (lv' := [(3, .int 1), (2, .int 256), (0, .ref qm), (1, .int 4)]) hx hb dX12_plays_68 hl (k := 0) rfl (by decide) (by decide) rfl (fun ls hl => ?_)
              refine lv_goto (tgt := 35) hx hb dX12_plays_71 (by decide) ?_
              have hk970 : (1 : Int32).toInt = 1 := by decide
              obtain ⟨hP9, hD9⟩ : ct_B D A H [(qm_meets, .inl (cI, 30, .inl (fm_meets))), (qm_lines, .inl (cI, 5, .inl (fm_lines))), mo qm 0 qm_width qm_many qm_cells qm_moved qm_tape vm_taped vm_at vm_token vm_place vm_value vm_word vm_bad vm_badPlace vm_fault vm_faultPlace qm_lines qm_has qm_round qm_meets qm_stumble qm_isMud qm_cell qm_tune qm_change qm_isKept qm_steps qm_places qm_danced vm_runMost vm_runBegins qm_heardBy vm_fitMany vm_fitFirst vm_fitBeats vm_listenLeaves qm_there vm_metAt vm_metIn qm_wins vm_nightHoles vm_nightFirst vm_nightMud vm_nightSlips vm_drawnNow, (qm_wins, .inl (cI, 24576, .inl (g958)))] := ⟨hP.sub [3, 0, 2, 1] rfl, hD.sub [3, 0, 2, 1] (by decide) rfl⟩
              exact ih960 (g958, (1 : Int32)) _ _ _ (show (6 - (1 : Int32).toInt).toNat < (6 - x959.toInt).toNat by omega) ⟨(show 0 ≤ (1 : Int32).toInt ∧ (1 : Int32).toInt ≤ 6 by decide), ⟨hP9, hD9⟩, hS, lv_sub hl [0, 1, 2, 3] rfl⟩
          · have hj2 : x959 = 1 := tq_of hj (by decide)
            have hl : lv_has ls 4 [(3, .int 1), (2, .int 256), (0, .ref qm), (1, .int 4)] := by have h9 := hl; rw [hj2] at h9; exact h9
            refine lv_aload_n hx hb dX12_plays_41 rfl (lv_at hl 2 rfl) ?_
            refine lv_iload_n hx hb dX12_plays_42 rfl (lv_at hl 1 rfl) ?_
            refine lv_iload_n hx hb dX12_plays_43 rfl (lv_at hl 3 rfl) ?_
            refine lv_iload_n hx hb dX12_plays_44 rfl (lv_at hl 0 rfl) ?_
            refine ct_calli (D := D) (wr := [(qm_lines, .inl (cI, 5, .inl (fm_lines))), (qm_wins, .inl (cI, 24576, .inl (g958)))]) (va_runV (As := [.int 256, .int 4, .int 1]) (rest := []) ⟨hx, hb, hml, hown, hts⟩ (c_X12_isPlay l D G cI cJ cB cZ cO qm 0 qm_width qm_many qm_cells qm_moved qm_tape vm_taped vm_at vm_token vm_place vm_value vm_word vm_bad vm_badPlace vm_fault vm_faultPlace qm_lines qm_has qm_round qm_meets fm_meets qm_stumble qm_isMud qm_cell qm_tune qm_change qm_isKept qm_steps qm_places qm_danced vm_runMost vm_runBegins qm_heardBy vm_fitMany vm_fitFirst vm_fitBeats vm_listenLeaves qm_there vm_metAt vm_metIn qm_wins vm_nightHoles vm_nightFirst vm_nightMud vm_nightSlips vm_drawnNow 256 4 1 h_vm_taped h_vm_at h_vm_value (by decide) (by decide) H.size) (cwV 3 hts gX12_plays_X12_isPlay rfl rfl rfl (by decide +kernel) ⟨Nat.le_of_ble_eq_true rfl, Nat.le_of_ble_eq_true rfl⟩) (ct_preV (T := ct_T cI cJ cB cZ cO) (ci := 12) (q0 := 2) hE hH hP hD hS hA [2, 0] (by decide) rfl rfl rfl) rfl rfl hl.1 rfl (lv_room (Nat.le_of_ble_eq_true rfl)) dX12_plays_45 ⟨Nat.le_of_ble_eq_true rfl, Nat.le_of_ble_eq_true rfl⟩) hP hD hS hA [2, 0] [1, 3] rfl rfl (by decide) (by decide) (fun r971 u H locs hw hP hD hS => ?_)
            obtain ⟨hP, hD⟩ : ct_B D A H [(qm_lines, .inl (cI, 5, .inl (fm_lines))), (qm_wins, .inl (cI, 24576, .inl (g958))), mo qm 0 qm_width qm_many qm_cells qm_moved qm_tape vm_taped vm_at vm_token vm_place vm_value vm_word vm_bad vm_badPlace vm_fault vm_faultPlace qm_lines qm_has qm_round qm_meets qm_stumble qm_isMud qm_cell qm_tune qm_change qm_isKept qm_steps qm_places qm_danced vm_runMost vm_runBegins qm_heardBy vm_fitMany vm_fitFirst vm_fitBeats vm_listenLeaves qm_there vm_metAt vm_metIn qm_wins vm_nightHoles vm_nightFirst vm_nightMud vm_nightSlips vm_drawnNow, (qm_meets, .inl (cI, 30, .inl (fm_meets)))] := ⟨hP, hD⟩
            have hz := hw
            rcases hz with ⟨hz, hz2⟩ | ⟨hz, hz2⟩
            · subst hz
              have hz_972 : (pl (256 : Int32) (1 : Int32)) := hz2
              refine lv_if_eq (tgt := 68) hx hb dX12_plays_48 (by decide) (fun hc => absurd hc (by decide)) (fun _ => ?_)
              refine lv_aload_n hx hb dX12_plays_51 rfl (lv_at hl 2 rfl) ?_
              refine lv_iload_n hx hb dX12_plays_52 rfl (lv_at hl 1 rfl) ?_
              refine lv_iconst (v := 1) hx hb dX12_plays_53 (by decide) ?_
              refine lv_iconst (v := 2) hx hb dX12_plays_54 (by decide) ?_
              refine lv_iload_n hx hb dX12_plays_55 rfl (lv_at hl 0 rfl) ?_
              refine lv_imul hx hb dX12_plays_56 ?_
              refine lv_topi (fun z973 ez973 => ?_)
              obtain rfl : z973 = 2 := ez973.trans (by decide)
              refine lv_ishl hx hb dX12_plays_57 ?_
              refine lv_topi (fun z974 ez974 => ?_)
              obtain rfl : z974 = 4 := ez974.trans (by decide)
              refine lv_iadd hx hb dX12_plays_58 ?_
              refine lv_topi (fun z975 ez975 => ?_)
              obtain rfl : z975 = 260 := ez975.trans (by decide)
              refine lv_iload_n hx hb dX12_plays_59 rfl (lv_at hl 0 rfl) ?_
              refine ct_calli (D := D) (wr := [(qm_lines, .inl (cI, 5, .inl (fm_lines)))]) (va_runV (As := [.int 260, .int 1]) (rest := []) ⟨hx, hb, hml, hown, hts⟩ (c_X12_winsFrom l D G cI cJ cB cZ cO qm 0 qm_width qm_many qm_cells qm_moved qm_tape vm_taped vm_at vm_token vm_place vm_value vm_word vm_bad vm_badPlace vm_fault vm_faultPlace qm_lines qm_has qm_round qm_meets fm_meets qm_stumble qm_isMud qm_cell qm_tune qm_change qm_isKept qm_steps qm_places qm_danced vm_runMost vm_runBegins qm_heardBy vm_fitMany vm_fitFirst vm_fitBeats vm_listenLeaves qm_there vm_metAt vm_metIn qm_wins vm_nightHoles vm_nightFirst vm_nightMud vm_nightSlips vm_drawnNow h_vm_taped h_vm_at h_vm_value 12 g958 260 1 (by decide) (by unfold wn; decide) H.size) (cwV 2 hts gX12_plays_X12_winsFrom rfl rfl rfl (by decide +kernel) ⟨Nat.le_of_ble_eq_true rfl, Nat.le_of_ble_eq_true rfl⟩) (ct_preV (T := ct_T cI cJ cB cZ cO) (ci := 12) (q0 := 2) hE hH hP hD hS hA [2, 3, 1] (by decide) rfl rfl rfl) rfl rfl hl.1 rfl (lv_room (Nat.le_of_ble_eq_true rfl)) dX12_plays_60 ⟨Nat.le_of_ble_eq_true rfl, Nat.le_of_ble_eq_true rfl⟩) hP hD hS hA [2, 3, 1] [0] rfl rfl (by decide) (by decide) (fun r976 u H locs hw hP hD hS => ?_)
              obtain ⟨g977, rfl⟩ : ∃ z, z = u := ⟨_, rfl⟩
              obtain ⟨hP, hD⟩ : ct_B D A H [(qm_lines, .inl (cI, 5, .inl (fm_lines))), mo qm 0 qm_width qm_many qm_cells qm_moved qm_tape vm_taped vm_at vm_token vm_place vm_value vm_word vm_bad vm_badPlace vm_fault vm_faultPlace qm_lines qm_has qm_round qm_meets qm_stumble qm_isMud qm_cell qm_tune qm_change qm_isKept qm_steps qm_places qm_danced vm_runMost vm_runBegins qm_heardBy vm_fitMany vm_fitFirst vm_fitBeats vm_listenLeaves qm_there vm_metAt vm_metIn qm_wins vm_nightHoles vm_nightFirst vm_nightMud vm_nightSlips vm_drawnNow, (qm_meets, .inl (cI, 30, .inl (fm_meets))), (qm_wins, .inl (cI, 24576, .inl (g977)))] := ⟨hP, hD⟩
              have hz := hw
              rcases hz with ⟨hz, hz2⟩ | ⟨hz, hz2⟩
              · subst hz
                refine lv_if_ne (tgt := 68) hx hb dX12_plays_63 (by decide) (fun _ => ?_) (fun hc => absurd hc (by decide))
                refine lv_iinc (v := 2) (lv' := [(3, .int 2), (2, .int 256), (0, .ref qm), (1, .int 4)]) hx hb dX12_plays_68 hl (k := 0) rfl (by decide) (by decide) rfl (fun ls hl => ?_)
                refine lv_goto (tgt := 35) hx hb dX12_plays_71 (by decide) ?_
                have hk978 : (2 : Int32).toInt = 2 := by decide
                obtain ⟨hP9, hD9⟩ : ct_B D A H [(qm_meets, .inl (cI, 30, .inl (fm_meets))), (qm_lines, .inl (cI, 5, .inl (fm_lines))), mo qm 0 qm_width qm_many qm_cells qm_moved qm_tape vm_taped vm_at vm_token vm_place vm_value vm_word vm_bad vm_badPlace vm_fault vm_faultPlace qm_lines qm_has qm_round qm_meets qm_stumble qm_isMud qm_cell qm_tune qm_change qm_isKept qm_steps qm_places qm_danced vm_runMost vm_runBegins qm_heardBy vm_fitMany vm_fitFirst vm_fitBeats vm_listenLeaves qm_there vm_metAt vm_metIn qm_wins vm_nightHoles vm_nightFirst vm_nightMud vm_nightSlips vm_drawnNow, (qm_wins, .inl (cI, 24576, .inl (g977)))] := ⟨hP.sub [2, 0, 1, 3] rfl, hD.sub [2, 0, 1, 3] (by decide) rfl⟩
                exact ih960 (g977, (2 : Int32)) _ _ _ (show (6 - (2 : Int32).toInt).toNat < (6 - x959.toInt).toNat by omega) ⟨(show 0 ≤ (2 : Int32).toInt ∧ (2 : Int32).toInt ≤ 6 by decide), ⟨hP9, hD9⟩, hS, lv_sub hl [0, 1, 2, 3] rfl⟩
              · subst hz
                refine lv_if_ne (tgt := 68) hx hb dX12_plays_63 (by decide) (fun hc => absurd hc (by decide)) (fun _ => ?_)
                refine lv_iload_n hx hb dX12_plays_66 rfl (lv_at hl 0 rfl) ?_
                obtain ⟨hP9, hD9⟩ : ct_B D A H [mo qm 0 qm_width qm_many qm_cells qm_moved qm_tape vm_taped vm_at vm_token vm_place vm_value vm_word vm_bad vm_badPlace vm_fault vm_faultPlace qm_lines qm_has qm_round qm_meets qm_stumble qm_isMud qm_cell qm_tune qm_change qm_isKept qm_steps qm_places qm_danced vm_runMost vm_runBegins qm_heardBy vm_fitMany vm_fitFirst vm_fitBeats vm_listenLeaves qm_there vm_metAt vm_metIn qm_wins vm_nightHoles vm_nightFirst vm_nightMud vm_nightSlips vm_drawnNow, (qm_lines, .inl (cI, 5, .inl (fm_lines))), (qm_meets, .inl (cI, 30, .inl (fm_meets))), (qm_wins, .inl (cI, 24576, .inl (g977)))] := ⟨hP.sub [1, 0, 2, 3] rfl, hD.sub [1, 0, 2, 3] (by decide) rfl⟩
                exact W.iret (v := 1) hx hb hr (fun t ht hW => ⟨⟨1, ((0 : Int32), g977), rfl, (show (-2) ≤ (1 : Int32).toInt ∧ (1 : Int32).toInt ≤ 5 by decide), by rw [ht]; exact hP9, hD9⟩, hS.F ht⟩) hS.2.2 dX12_plays_67
            · subst hz
              refine lv_if_eq (tgt := 68) hx hb dX12_plays_48 (by decide) (fun _ => ?_) (fun hc => absurd hc (by decide))
              refine lv_iinc (v := 2) (lv' := [(3, .int 2), (2, .int 256), (0, .ref qm), (1, .int 4)]) hx hb dX12_plays_68 hl (k := 0) rfl (by decide) (by decide) rfl (fun ls hl => ?_)
              refine lv_goto (tgt := 35) hx hb dX12_plays_71 (by decide) ?_
              have hk979 : (2 : Int32).toInt = 2 := by decide
              obtain ⟨hP9, hD9⟩ : ct_B D A H [(qm_meets, .inl (cI, 30, .inl (fm_meets))), (qm_lines, .inl (cI, 5, .inl (fm_lines))), mo qm 0 qm_width qm_many qm_cells qm_moved qm_tape vm_taped vm_at vm_token vm_place vm_value vm_word vm_bad vm_badPlace vm_fault vm_faultPlace qm_lines qm_has qm_round qm_meets qm_stumble qm_isMud qm_cell qm_tune qm_change qm_isKept qm_steps qm_places qm_danced vm_runMost vm_runBegins qm_heardBy vm_fitMany vm_fitFirst vm_fitBeats vm_listenLeaves qm_there vm_metAt vm_metIn qm_wins vm_nightHoles vm_nightFirst vm_nightMud vm_nightSlips vm_drawnNow, (qm_wins, .inl (cI, 24576, .inl (g958)))] := ⟨hP.sub [3, 0, 2, 1] rfl, hD.sub [3, 0, 2, 1] (by decide) rfl⟩
              exact ih960 (g958, (2 : Int32)) _ _ _ (show (6 - (2 : Int32).toInt).toNat < (6 - x959.toInt).toNat by omega) ⟨(show 0 ≤ (2 : Int32).toInt ∧ (2 : Int32).toInt ≤ 6 by decide), ⟨hP9, hD9⟩, hS, lv_sub hl [0, 1, 2, 3] rfl⟩
          · have hj2 : x959 = 2 := tq_of hj (by decide)
            have hl : lv_has ls 4 [(3, .int 2), (2, .int 256), (0, .ref qm), (1, .int 4)] := by have h9 := hl; rw [hj2] at h9; exact h9
            refine lv_aload_n hx hb dX12_plays_41 rfl (lv_at hl 2 rfl) ?_
            refine lv_iload_n hx hb dX12_plays_42 rfl (lv_at hl 1 rfl) ?_
            refine lv_iload_n hx hb dX12_plays_43 rfl (lv_at hl 3 rfl) ?_
            refine lv_iload_n hx hb dX12_plays_44 rfl (lv_at hl 0 rfl) ?_
            refine ct_calli (D := D) (wr := [(qm_lines, .inl (cI, 5, .inl (fm_lines))), (qm_wins, .inl (cI, 24576, .inl (g958)))]) (va_runV (As := [.int 256, .int 4, .int 2]) (rest := []) ⟨hx, hb, hml, hown, hts⟩ (c_X12_isPlay l D G cI cJ cB cZ cO qm 0 qm_width qm_many qm_cells qm_moved qm_tape vm_taped vm_at vm_token vm_place vm_value vm_word vm_bad vm_badPlace vm_fault vm_faultPlace qm_lines qm_has qm_round qm_meets fm_meets qm_stumble qm_isMud qm_cell qm_tune qm_change qm_isKept qm_steps qm_places qm_danced vm_runMost vm_runBegins qm_heardBy vm_fitMany vm_fitFirst vm_fitBeats vm_listenLeaves qm_there vm_metAt vm_metIn qm_wins vm_nightHoles vm_nightFirst vm_nightMud vm_nightSlips vm_drawnNow 256 4 2 h_vm_taped h_vm_at h_vm_value (by decide) (by decide) H.size) (cwV 3 hts gX12_plays_X12_isPlay rfl rfl rfl (by decide +kernel) ⟨Nat.le_of_ble_eq_true rfl, Nat.le_of_ble_eq_true rfl⟩) (ct_preV (T := ct_T cI cJ cB cZ cO) (ci := 12) (q0 := 2) hE hH hP hD hS hA [2, 0] (by decide) rfl rfl rfl) rfl rfl hl.1 rfl (lv_room (Nat.le_of_ble_eq_true rfl)) dX12_plays_45 ⟨Nat.le_of_ble_eq_true rfl, Nat.le_of_ble_eq_true rfl⟩) hP hD hS hA [2, 0] [1, 3] rfl rfl (by decide) (by decide) (fun r980 u H locs hw hP hD hS => ?_)
            obtain ⟨hP, hD⟩ : ct_B D A H [(qm_lines, .inl (cI, 5, .inl (fm_lines))), (qm_wins, .inl (cI, 24576, .inl (g958))), mo qm 0 qm_width qm_many qm_cells qm_moved qm_tape vm_taped vm_at vm_token vm_place vm_value vm_word vm_bad vm_badPlace vm_fault vm_faultPlace qm_lines qm_has qm_round qm_meets qm_stumble qm_isMud qm_cell qm_tune qm_change qm_isKept qm_steps qm_places qm_danced vm_runMost vm_runBegins qm_heardBy vm_fitMany vm_fitFirst vm_fitBeats vm_listenLeaves qm_there vm_metAt vm_metIn qm_wins vm_nightHoles vm_nightFirst vm_nightMud vm_nightSlips vm_drawnNow, (qm_meets, .inl (cI, 30, .inl (fm_meets)))] := ⟨hP, hD⟩
            have hz := hw
            rcases hz with ⟨hz, hz2⟩ | ⟨hz, hz2⟩
            · subst hz
              have hz_981 : (pl (256 : Int32) (2 : Int32)) := hz2
              refine lv_if_eq (tgt := 68) hx hb dX12_plays_48 (by decide) (fun hc => absurd hc (by decide)) (fun _ => ?_)
              refine lv_aload_n hx hb dX12_plays_51 rfl (lv_at hl 2 rfl) ?_
              refine lv_iload_n hx hb dX12_plays_52 rfl (lv_at hl 1 rfl) ?_
              refine lv_iconst (v := 1) hx hb dX12_plays_53 (by decide) ?_
              refine lv_iconst (v := 2) hx hb dX12_plays_54 (by decide) ?_
              refine lv_iload_n hx hb dX12_plays_55 rfl (lv_at hl 0 rfl) ?_
              refine lv_imul hx hb dX12_plays_56 ?_
              refine lv_topi (fun z982 ez982 => ?_)
              obtain rfl : z982 = 4 := ez982.trans (by decide)
              refine lv_ishl hx hb dX12_plays_57 ?_
              refine lv_topi (fun z983 ez983 => ?_)
              obtain rfl : z983 = 16 := ez983.trans (by decide)
              refine lv_iadd hx hb dX12_plays_58 ?_
              refine lv_topi (fun z984 ez984 => ?_)
              obtain rfl : z984 = 272 := ez984.trans (by decide)
              refine lv_iload_n hx hb dX12_plays_59 rfl (lv_at hl 0 rfl) ?_
              refine ct_calli (D := D) (wr := [(qm_lines, .inl (cI, 5, .inl (fm_lines)))]) (va_runV (As := [.int 272, .int 2]) (rest := []) ⟨hx, hb, hml, hown, hts⟩ (c_X12_winsFrom l D G cI cJ cB cZ cO qm 0 qm_width qm_many qm_cells qm_moved qm_tape vm_taped vm_at vm_token vm_place vm_value vm_word vm_bad vm_badPlace vm_fault vm_faultPlace qm_lines qm_has qm_round qm_meets fm_meets qm_stumble qm_isMud qm_cell qm_tune qm_change qm_isKept qm_steps qm_places qm_danced vm_runMost vm_runBegins qm_heardBy vm_fitMany vm_fitFirst vm_fitBeats vm_listenLeaves qm_there vm_metAt vm_metIn qm_wins vm_nightHoles vm_nightFirst vm_nightMud vm_nightSlips vm_drawnNow h_vm_taped h_vm_at h_vm_value 12 g958 272 2 (by decide) (by unfold wn; decide) H.size) (cwV 2 hts gX12_plays_X12_winsFrom rfl rfl rfl (by decide +kernel) ⟨Nat.le_of_ble_eq_true rfl, Nat.le_of_ble_eq_true rfl⟩) (ct_preV (T := ct_T cI cJ cB cZ cO) (ci := 12) (q0 := 2) hE hH hP hD hS hA [2, 3, 1] (by decide) rfl rfl rfl) rfl rfl hl.1 rfl (lv_room (Nat.le_of_ble_eq_true rfl)) dX12_plays_60 ⟨Nat.le_of_ble_eq_true rfl, Nat.le_of_ble_eq_true rfl⟩) hP hD hS hA [2, 3, 1] [0] rfl rfl (by decide) (by decide) (fun r985 u H locs hw hP hD hS => ?_)
              obtain ⟨g986, rfl⟩ : ∃ z, z = u := ⟨_, rfl⟩
              obtain ⟨hP, hD⟩ : ct_B D A H [(qm_lines, .inl (cI, 5, .inl (fm_lines))), mo qm 0 qm_width qm_many qm_cells qm_moved qm_tape vm_taped vm_at vm_token vm_place vm_value vm_word vm_bad vm_badPlace vm_fault vm_faultPlace qm_lines qm_has qm_round qm_meets qm_stumble qm_isMud qm_cell qm_tune qm_change qm_isKept qm_steps qm_places qm_danced vm_runMost vm_runBegins qm_heardBy vm_fitMany vm_fitFirst vm_fitBeats vm_listenLeaves qm_there vm_metAt vm_metIn qm_wins vm_nightHoles vm_nightFirst vm_nightMud vm_nightSlips vm_drawnNow, (qm_meets, .inl (cI, 30, .inl (fm_meets))), (qm_wins, .inl (cI, 24576, .inl (g986)))] := ⟨hP, hD⟩
              have hz := hw
              rcases hz with ⟨hz, hz2⟩ | ⟨hz, hz2⟩
              · subst hz
                refine lv_if_ne (tgt := 68) hx hb dX12_plays_63 (by decide) (fun _ => ?_) (fun hc => absurd hc (by decide))
                refine lv_iinc (v := 3) (lv' := [(3, .int 3), (2, .int 256), (0, .ref qm), (1, .int 4)]) hx hb dX12_plays_68 hl (k := 0) rfl (by decide) (by decide) rfl (fun ls hl => ?_)
                refine lv_goto (tgt := 35) hx hb dX12_plays_71 (by decide) ?_
                have hk987 : (3 : Int32).toInt = 3 := by decide
                obtain ⟨hP9, hD9⟩ : ct_B D A H [(qm_meets, .inl (cI, 30, .inl (fm_meets))), (qm_lines, .inl (cI, 5, .inl (fm_lines))), mo qm 0 qm_width qm_many qm_cells qm_moved qm_tape vm_taped vm_at vm_token vm_place vm_value vm_word vm_bad vm_badPlace vm_fault vm_faultPlace qm_lines qm_has qm_round qm_meets qm_stumble qm_isMud qm_cell qm_tune qm_change qm_isKept qm_steps qm_places qm_danced vm_runMost vm_runBegins qm_heardBy vm_fitMany vm_fitFirst vm_fitBeats vm_listenLeaves qm_there vm_metAt vm_metIn qm_wins vm_nightHoles vm_nightFirst vm_nightMud vm_nightSlips vm_drawnNow, (qm_wins, .inl (cI, 24576, .inl (g986)))] := ⟨hP.sub [2, 0, 1, 3] rfl, hD.sub [2, 0, 1, 3] (by decide) rfl⟩
                exact ih960 (g986, (3 : Int32)) _ _ _ (show (6 - (3 : Int32).toInt).toNat < (6 - x959.toInt).toNat by omega) ⟨(show 0 ≤ (3 : Int32).toInt ∧ (3 : Int32).toInt ≤ 6 by decide), ⟨hP9, hD9⟩, hS, lv_sub hl [0, 1, 2, 3] rfl⟩
              · subst hz
                refine lv_if_ne (tgt := 68) hx hb dX12_plays_63 (by decide) (fun hc => absurd hc (by decide)) (fun _ => ?_)
                refine lv_iload_n hx hb dX12_plays_66 rfl (lv_at hl 0 rfl) ?_
                obtain ⟨hP9, hD9⟩ : ct_B D A H [mo qm 0 qm_width qm_many qm_cells qm_moved qm_tape vm_taped vm_at vm_token vm_place vm_value vm_word vm_bad vm_badPlace vm_fault vm_faultPlace qm_lines qm_has qm_round qm_meets qm_stumble qm_isMud qm_cell qm_tune qm_change qm_isKept qm_steps qm_places qm_danced vm_runMost vm_runBegins qm_heardBy vm_fitMany vm_fitFirst vm_fitBeats vm_listenLeaves qm_there vm_metAt vm_metIn qm_wins vm_nightHoles vm_nightFirst vm_nightMud vm_nightSlips vm_drawnNow, (qm_lines, .inl (cI, 5, .inl (fm_lines))), (qm_meets, .inl (cI, 30, .inl (fm_meets))), (qm_wins, .inl (cI, 24576, .inl (g986)))] := ⟨hP.sub [1, 0, 2, 3] rfl, hD.sub [1, 0, 2, 3] (by decide) rfl⟩
                exact W.iret (v := 2) hx hb hr (fun t ht hW => ⟨⟨2, ((0 : Int32), g986), rfl, (show (-2) ≤ (2 : Int32).toInt ∧ (2 : Int32).toInt ≤ 5 by decide), by rw [ht]; exact hP9, hD9⟩, hS.F ht⟩) hS.2.2 dX12_plays_67
            · subst hz
              refine lv_if_eq (tgt := 68) hx hb dX12_plays_48 (by decide) (fun _ => ?_) (fun hc => absurd hc (by decide))
              refine lv_iinc (v := 3) (lv' := [(3, .int 3), (2, .int 256), (0, .ref qm), (1, .int 4)]) hx hb dX12_plays_68 hl (k := 0) rfl (by decide) (by decide) rfl (fun ls hl => ?_)
              refine lv_goto (tgt := 35) hx hb dX12_plays_71 (by decide) ?_
              have hk988 : (3 : Int32).toInt = 3 := by decide
              obtain ⟨hP9, hD9⟩ : ct_B D A H [(qm_meets, .inl (cI, 30, .inl (fm_meets))), (qm_lines, .inl (cI, 5, .inl (fm_lines))), mo qm 0 qm_width qm_many qm_cells qm_moved qm_tape vm_taped vm_at vm_token vm_place vm_value vm_word vm_bad vm_badPlace vm_fault vm_faultPlace qm_lines qm_has qm_round qm_meets qm_stumble qm_isMud qm_cell qm_tune qm_change qm_isKept qm_steps qm_places qm_danced vm_runMost vm_runBegins qm_heardBy vm_fitMany vm_fitFirst vm_fitBeats vm_listenLeaves qm_there vm_metAt vm_metIn qm_wins vm_nightHoles vm_nightFirst vm_nightMud vm_nightSlips vm_drawnNow, (qm_wins, .inl (cI, 24576, .inl (g958)))] := ⟨hP.sub [3, 0, 2, 1] rfl, hD.sub [3, 0, 2, 1] (by decide) rfl⟩
              exact ih960 (g958, (3 : Int32)) _ _ _ (show (6 - (3 : Int32).toInt).toNat < (6 - x959.toInt).toNat by omega) ⟨(show 0 ≤ (3 : Int32).toInt ∧ (3 : Int32).toInt ≤ 6 by decide), ⟨hP9, hD9⟩, hS, lv_sub hl [0, 1, 2, 3] rfl⟩
          · have hj2 : x959 = 3 := tq_of hj (by decide)
            have hl : lv_has ls 4 [(3, .int 3), (2, .int 256), (0, .ref qm), (1, .int 4)] := by have h9 := hl; rw [hj2] at h9; exact h9
            refine lv_aload_n hx hb dX12_plays_41 rfl (lv_at hl 2 rfl) ?_
            refine lv_iload_n hx hb dX12_plays_42 rfl (lv_at hl 1 rfl) ?_
            refine lv_iload_n hx hb dX12_plays_43 rfl (lv_at hl 3 rfl) ?_
            refine lv_iload_n hx hb dX12_plays_44 rfl (lv_at hl 0 rfl) ?_
            refine ct_calli (D := D) (wr := [(qm_lines, .inl (cI, 5, .inl (fm_lines))), (qm_wins, .inl (cI, 24576, .inl (g958)))]) (va_runV (As := [.int 256, .int 4, .int 3]) (rest := []) ⟨hx, hb, hml, hown, hts⟩ (c_X12_isPlay l D G cI cJ cB cZ cO qm 0 qm_width qm_many qm_cells qm_moved qm_tape vm_taped vm_at vm_token vm_place vm_value vm_word vm_bad vm_badPlace vm_fault vm_faultPlace qm_lines qm_has qm_round qm_meets fm_meets qm_stumble qm_isMud qm_cell qm_tune qm_change qm_isKept qm_steps qm_places qm_danced vm_runMost vm_runBegins qm_heardBy vm_fitMany vm_fitFirst vm_fitBeats vm_listenLeaves qm_there vm_metAt vm_metIn qm_wins vm_nightHoles vm_nightFirst vm_nightMud vm_nightSlips vm_drawnNow 256 4 3 h_vm_taped h_vm_at h_vm_value (by decide) (by decide) H.size) (cwV 3 hts gX12_plays_X12_isPlay rfl rfl rfl (by decide +kernel) ⟨Nat.le_of_ble_eq_true rfl, Nat.le_of_ble_eq_true rfl⟩) (ct_preV (T := ct_T cI cJ cB cZ cO) (ci := 12) (q0 := 2) hE hH hP hD hS hA [2, 0] (by decide) rfl rfl rfl) rfl rfl hl.1 rfl (lv_room (Nat.le_of_ble_eq_true rfl)) dX12_plays_45 ⟨Nat.le_of_ble_eq_true rfl, Nat.le_of_ble_eq_true rfl⟩) hP hD hS hA [2, 0] [1, 3] rfl rfl (by decide) (by decide) (fun r989 u H locs hw hP hD hS => ?_)
            obtain ⟨hP, hD⟩ : ct_B D A H [(qm_lines, .inl (cI, 5, .inl (fm_lines))), (qm_wins, .inl (cI, 24576, .inl (g958))), mo qm 0 qm_width qm_many qm_cells qm_moved qm_tape vm_taped vm_at vm_token vm_place vm_value vm_word vm_bad vm_badPlace vm_fault vm_faultPlace qm_lines qm_has qm_round qm_meets qm_stumble qm_isMud qm_cell qm_tune qm_change qm_isKept qm_steps qm_places qm_danced vm_runMost vm_runBegins qm_heardBy vm_fitMany vm_fitFirst vm_fitBeats vm_listenLeaves qm_there vm_metAt vm_metIn qm_wins vm_nightHoles vm_nightFirst vm_nightMud vm_nightSlips vm_drawnNow, (qm_meets, .inl (cI, 30, .inl (fm_meets)))] := ⟨hP, hD⟩
            have hz := hw
            rcases hz with ⟨hz, hz2⟩ | ⟨hz, hz2⟩
            · subst hz
              have hz_990 : (pl (256 : Int32) (3 : Int32)) := hz2
              refine lv_if_eq (tgt := 68) hx hb dX12_plays_48 (by decide) (fun hc => absurd hc (by decide)) (fun _ => ?_)
              refine lv_aload_n hx hb dX12_plays_51 rfl (lv_at hl 2 rfl) ?_
              refine lv_iload_n hx hb dX12_plays_52 rfl (lv_at hl 1 rfl) ?_
              refine lv_iconst (v := 1) hx hb dX12_plays_53 (by decide) ?_
              refine lv_iconst (v := 2) hx hb dX12_plays_54 (by decide) ?_
              refine lv_iload_n hx hb dX12_plays_55 rfl (lv_at hl 0 rfl) ?_
              refine lv_imul hx hb dX12_plays_56 ?_
              refine lv_topi (fun z991 ez991 => ?_)
              obtain rfl : z991 = 6 := ez991.trans (by decide)
              refine lv_ishl hx hb dX12_plays_57 ?_
              refine lv_topi (fun z992 ez992 => ?_)
              obtain rfl : z992 = 64 := ez992.trans (by decide)
              refine lv_iadd hx hb dX12_plays_58 ?_
              refine lv_topi (fun z993 ez993 => ?_)
              obtain rfl : z993 = 320 := ez993.trans (by decide)
              refine lv_iload_n hx hb dX12_plays_59 rfl (lv_at hl 0 rfl) ?_
              refine ct_calli (D := D) (wr := [(qm_lines, .inl (cI, 5, .inl (fm_lines)))]) (va_runV (As := [.int 320, .int 3]) (rest := []) ⟨hx, hb, hml, hown, hts⟩ (c_X12_winsFrom l D G cI cJ cB cZ cO qm 0 qm_width qm_many qm_cells qm_moved qm_tape vm_taped vm_at vm_token vm_place vm_value vm_word vm_bad vm_badPlace vm_fault vm_faultPlace qm_lines qm_has qm_round qm_meets fm_meets qm_stumble qm_isMud qm_cell qm_tune qm_change qm_isKept qm_steps qm_places qm_danced vm_runMost vm_runBegins qm_heardBy vm_fitMany vm_fitFirst vm_fitBeats vm_listenLeaves qm_there vm_metAt vm_metIn qm_wins vm_nightHoles vm_nightFirst vm_nightMud vm_nightSlips vm_drawnNow h_vm_taped h_vm_at h_vm_value 12 g958 320 3 (by decide) (by unfold wn; decide) H.size) (cwV 2 hts gX12_plays_X12_winsFrom rfl rfl rfl (by decide +kernel) ⟨Nat.le_of_ble_eq_true rfl, Nat.le_of_ble_eq_true rfl⟩) (ct_preV (T := ct_T cI cJ cB cZ cO) (ci := 12) (q0 := 2) hE hH hP hD hS hA [2, 3, 1] (by decide) rfl rfl rfl) rfl rfl hl.1 rfl (lv_room (Nat.le_of_ble_eq_true rfl)) dX12_plays_60 ⟨Nat.le_of_ble_eq_true rfl, Nat.le_of_ble_eq_true rfl⟩) hP hD hS hA [2, 3, 1] [0] rfl rfl (by decide) (by decide) (fun r994 u H locs hw hP hD hS => ?_)
              obtain ⟨g995, rfl⟩ : ∃ z, z = u := ⟨_, rfl⟩
              obtain ⟨hP, hD⟩ : ct_B D A H [(qm_lines, .inl (cI, 5, .inl (fm_lines))), mo qm 0 qm_width qm_many qm_cells qm_moved qm_tape vm_taped vm_at vm_token vm_place vm_value vm_word vm_bad vm_badPlace vm_fault vm_faultPlace qm_lines qm_has qm_round qm_meets qm_stumble qm_isMud qm_cell qm_tune qm_change qm_isKept qm_steps qm_places qm_danced vm_runMost vm_runBegins qm_heardBy vm_fitMany vm_fitFirst vm_fitBeats vm_listenLeaves qm_there vm_metAt vm_metIn qm_wins vm_nightHoles vm_nightFirst vm_nightMud vm_nightSlips vm_drawnNow, (qm_meets, .inl (cI, 30, .inl (fm_meets))), (qm_wins, .inl (cI, 24576, .inl (g995)))] := ⟨hP, hD⟩
              have hz := hw
              rcases hz with ⟨hz, hz2⟩ | ⟨hz, hz2⟩
              · subst hz
                refine lv_if_ne (tgt := 68) hx hb dX12_plays_63 (by decide) (fun _ => ?_) (fun hc => absurd hc (by decide))
                refine lv_iinc (v := 4) (lv' := [(3, .int 4), (2, .int 256), (0, .ref qm), (1, .int 4)]) hx hb dX12_plays_68 hl (k := 0) rfl (by decide) (by decide) rfl (fun ls hl => ?_)
                refine lv_goto (tgt := 35) hx hb dX12_plays_71 (by decide) ?_
                have hk996 : (4 : Int32).toInt = 4 := by decide
                obtain ⟨hP9, hD9⟩ : ct_B D A H [(qm_meets, .inl (cI, 30, .inl (fm_meets))), (qm_lines, .inl (cI, 5, .inl (fm_lines))), mo qm 0 qm_width qm_many qm_cells qm_moved qm_tape vm_taped vm_at vm_token vm_place vm_value vm_word vm_bad vm_badPlace vm_fault vm_faultPlace qm_lines qm_has qm_round qm_meets qm_stumble qm_isMud qm_cell qm_tune qm_change qm_isKept qm_steps qm_places qm_danced vm_runMost vm_runBegins qm_heardBy vm_fitMany vm_fitFirst vm_fitBeats vm_listenLeaves qm_there vm_metAt vm_metIn qm_wins vm_nightHoles vm_nightFirst vm_nightMud vm_nightSlips vm_drawnNow, (qm_wins, .inl (cI, 24576, .inl (g995)))] := ⟨hP.sub [2, 0, 1, 3] rfl, hD.sub [2, 0, 1, 3] (by decide) rfl⟩
                exact ih960 (g995, (4 : Int32)) _ _ _ (show (6 - (4 : Int32).toInt).toNat < (6 - x959.toInt).toNat by omega) ⟨(show 0 ≤ (4 : Int32).toInt ∧ (4 : Int32).toInt ≤ 6 by decide), ⟨hP9, hD9⟩, hS, lv_sub hl [0, 1, 2, 3] rfl⟩
              · subst hz
                refine lv_if_ne (tgt := 68) hx hb dX12_plays_63 (by decide) (fun hc => absurd hc (by decide)) (fun _ => ?_)
                refine lv_iload_n hx hb dX12_plays_66 rfl (lv_at hl 0 rfl) ?_
                obtain ⟨hP9, hD9⟩ : ct_B D A H [mo qm 0 qm_width qm_many qm_cells qm_moved qm_tape vm_taped vm_at vm_token vm_place vm_value vm_word vm_bad vm_badPlace vm_fault vm_faultPlace qm_lines qm_has qm_round qm_meets qm_stumble qm_isMud qm_cell qm_tune qm_change qm_isKept qm_steps qm_places qm_danced vm_runMost vm_runBegins qm_heardBy vm_fitMany vm_fitFirst vm_fitBeats vm_listenLeaves qm_there vm_metAt vm_metIn qm_wins vm_nightHoles vm_nightFirst vm_nightMud vm_nightSlips vm_drawnNow, (qm_lines, .inl (cI, 5, .inl (fm_lines))), (qm_meets, .inl (cI, 30, .inl (fm_meets))), (qm_wins, .inl (cI, 24576, .inl (g995)))] := ⟨hP.sub [1, 0, 2, 3] rfl, hD.sub [1, 0, 2, 3] (by decide) rfl⟩
                exact W.iret (v := 3) hx hb hr (fun t ht hW => ⟨⟨3, ((0 : Int32), g995), rfl, (show (-2) ≤ (3 : Int32).toInt ∧ (3 : Int32).toInt ≤ 5 by decide), by rw [ht]; exact hP9, hD9⟩, hS.F ht⟩) hS.2.2 dX12_plays_67
            · subst hz
              refine lv_if_eq (tgt := 68) hx hb dX12_plays_48 (by decide) (fun _ => ?_) (fun hc => absurd hc (by decide))
              refine lv_iinc (v := 4) (lv' := [(3, .int 4), (2, .int 256), (0, .ref qm), (1, .int 4)]) hx hb dX12_plays_68 hl (k := 0) rfl (by decide) (by decide) rfl (fun ls hl => ?_)
              refine lv_goto (tgt := 35) hx hb dX12_plays_71 (by decide) ?_
              have hk997 : (4 : Int32).toInt = 4 := by decide
              obtain ⟨hP9, hD9⟩ : ct_B D A H [(qm_meets, .inl (cI, 30, .inl (fm_meets))), (qm_lines, .inl (cI, 5, .inl (fm_lines))), mo qm 0 qm_width qm_many qm_cells qm_moved qm_tape vm_taped vm_at vm_token vm_place vm_value vm_word vm_bad vm_badPlace vm_fault vm_faultPlace qm_lines qm_has qm_round qm_meets qm_stumble qm_isMud qm_cell qm_tune qm_change qm_isKept qm_steps qm_places qm_danced vm_runMost vm_runBegins qm_heardBy vm_fitMany vm_fitFirst vm_fitBeats vm_listenLeaves qm_there vm_metAt vm_metIn qm_wins vm_nightHoles vm_nightFirst vm_nightMud vm_nightSlips vm_drawnNow, (qm_wins, .inl (cI, 24576, .inl (g958)))] := ⟨hP.sub [3, 0, 2, 1] rfl, hD.sub [3, 0, 2, 1] (by decide) rfl⟩
              exact ih960 (g958, (4 : Int32)) _ _ _ (show (6 - (4 : Int32).toInt).toNat < (6 - x959.toInt).toNat by omega) ⟨(show 0 ≤ (4 : Int32).toInt ∧ (4 : Int32).toInt ≤ 6 by decide), ⟨hP9, hD9⟩, hS, lv_sub hl [0, 1, 2, 3] rfl⟩
          · have hj2 : x959 = 4 := tq_of hj (by decide)
            have hl : lv_has ls 4 [(3, .int 4), (2, .int 256), (0, .ref qm), (1, .int 4)] := by have h9 := hl; rw [hj2] at h9; exact h9
            refine lv_aload_n hx hb dX12_plays_41 rfl (lv_at hl 2 rfl) ?_
            refine lv_iload_n hx hb dX12_plays_42 rfl (lv_at hl 1 rfl) ?_
            refine lv_iload_n hx hb dX12_plays_43 rfl (lv_at hl 3 rfl) ?_
            refine lv_iload_n hx hb dX12_plays_44 rfl (lv_at hl 0 rfl) ?_
            refine ct_calli (D := D) (wr := [(qm_lines, .inl (cI, 5, .inl (fm_lines))), (qm_wins, .inl (cI, 24576, .inl (g958)))]) (va_runV (As := [.int 256, .int 4, .int 4]) (rest := []) ⟨hx, hb, hml, hown, hts⟩ (c_X12_isPlay l D G cI cJ cB cZ cO qm 0 qm_width qm_many qm_cells qm_moved qm_tape vm_taped vm_at vm_token vm_place vm_value vm_word vm_bad vm_badPlace vm_fault vm_faultPlace qm_lines qm_has qm_round qm_meets fm_meets qm_stumble qm_isMud qm_cell qm_tune qm_change qm_isKept qm_steps qm_places qm_danced vm_runMost vm_runBegins qm_heardBy vm_fitMany vm_fitFirst vm_fitBeats vm_listenLeaves qm_there vm_metAt vm_metIn qm_wins vm_nightHoles vm_nightFirst vm_nightMud vm_nightSlips vm_drawnNow 256 4 4 h_vm_taped h_vm_at h_vm_value (by decide) (by decide) H.size) (cwV 3 hts gX12_plays_X12_isPlay rfl rfl rfl (by decide +kernel) ⟨Nat.le_of_ble_eq_true rfl, Nat.le_of_ble_eq_true rfl⟩) (ct_preV (T := ct_T cI cJ cB cZ cO) (ci := 12) (q0 := 2) hE hH hP hD hS hA [2, 0] (by decide) rfl rfl rfl) rfl rfl hl.1 rfl (lv_room (Nat.le_of_ble_eq_true rfl)) dX12_plays_45 ⟨Nat.le_of_ble_eq_true rfl, Nat.le_of_ble_eq_true rfl⟩) hP hD hS hA [2, 0] [1, 3] rfl rfl (by decide) (by decide) (fun r998 u H locs hw hP hD hS => ?_)
            obtain ⟨hP, hD⟩ : ct_B D A H [(qm_lines, .inl (cI, 5, .inl (fm_lines))), (qm_wins, .inl (cI, 24576, .inl (g958))), mo qm 0 qm_width qm_many qm_cells qm_moved qm_tape vm_taped vm_at vm_token vm_place vm_value vm_word vm_bad vm_badPlace vm_fault vm_faultPlace qm_lines qm_has qm_round qm_meets qm_stumble qm_isMud qm_cell qm_tune qm_change qm_isKept qm_steps qm_places qm_danced vm_runMost vm_runBegins qm_heardBy vm_fitMany vm_fitFirst vm_fitBeats vm_listenLeaves qm_there vm_metAt vm_metIn qm_wins vm_nightHoles vm_nightFirst vm_nightMud vm_nightSlips vm_drawnNow, (qm_meets, .inl (cI, 30, .inl (fm_meets)))] := ⟨hP, hD⟩
            have hz := hw
            rcases hz with ⟨hz, hz2⟩ | ⟨hz, hz2⟩
            · subst hz
              have hz_999 : (pl (256 : Int32) (4 : Int32)) := hz2
              refine lv_if_eq (tgt := 68) hx hb dX12_plays_48 (by decide) (fun hc => absurd hc (by decide)) (fun _ => ?_)
              refine lv_aload_n hx hb dX12_plays_51 rfl (lv_at hl 2 rfl) ?_
              refine lv_iload_n hx hb dX12_plays_52 rfl (lv_at hl 1 rfl) ?_
              refine lv_iconst (v := 1) hx hb dX12_plays_53 (by decide) ?_
              refine lv_iconst (v := 2) hx hb dX12_plays_54 (by decide) ?_
              refine lv_iload_n hx hb dX12_plays_55 rfl (lv_at hl 0 rfl) ?_
              refine lv_imul hx hb dX12_plays_56 ?_
              refine lv_topi (fun z1000 ez1000 => ?_)
              obtain rfl : z1000 = 8 := ez1000.trans (by decide)
              refine lv_ishl hx hb dX12_plays_57 ?_
              refine lv_topi (fun z1001 ez1001 => ?_)
              obtain rfl : z1001 = 256 := ez1001.trans (by decide)
              refine lv_iadd hx hb dX12_plays_58 ?_
              refine lv_topi (fun z1002 ez1002 => ?_)
              obtain rfl : z1002 = 512 := ez1002.trans (by decide)
              refine lv_iload_n hx hb dX12_plays_59 rfl (lv_at hl 0 rfl) ?_
              refine ct_calli (D := D) (wr := [(qm_lines, .inl (cI, 5, .inl (fm_lines)))]) (va_runV (As := [.int 512, .int 4]) (rest := []) ⟨hx, hb, hml, hown, hts⟩ (c_X12_winsFrom l D G cI cJ cB cZ cO qm 0 qm_width qm_many qm_cells qm_moved qm_tape vm_taped vm_at vm_token vm_place vm_value vm_word vm_bad vm_badPlace vm_fault vm_faultPlace qm_lines qm_has qm_round qm_meets fm_meets qm_stumble qm_isMud qm_cell qm_tune qm_change qm_isKept qm_steps qm_places qm_danced vm_runMost vm_runBegins qm_heardBy vm_fitMany vm_fitFirst vm_fitBeats vm_listenLeaves qm_there vm_metAt vm_metIn qm_wins vm_nightHoles vm_nightFirst vm_nightMud vm_nightSlips vm_drawnNow h_vm_taped h_vm_at h_vm_value 12 g958 512 4 (by decide) (by unfold wn; decide) H.size) (cwV 2 hts gX12_plays_X12_winsFrom rfl rfl rfl (by decide +kernel) ⟨Nat.le_of_ble_eq_true rfl, Nat.le_of_ble_eq_true rfl⟩) (ct_preV (T := ct_T cI cJ cB cZ cO) (ci := 12) (q0 := 2) hE hH hP hD hS hA [2, 3, 1] (by decide) rfl rfl rfl) rfl rfl hl.1 rfl (lv_room (Nat.le_of_ble_eq_true rfl)) dX12_plays_60 ⟨Nat.le_of_ble_eq_true rfl, Nat.le_of_ble_eq_true rfl⟩) hP hD hS hA [2, 3, 1] [0] rfl rfl (by decide) (by decide) (fun r1003 u H locs hw hP hD hS => ?_)
              obtain ⟨g1004, rfl⟩ : ∃ z, z = u := ⟨_, rfl⟩
              obtain ⟨hP, hD⟩ : ct_B D A H [(qm_lines, .inl (cI, 5, .inl (fm_lines))), mo qm 0 qm_width qm_many qm_cells qm_moved qm_tape vm_taped vm_at vm_token vm_place vm_value vm_word vm_bad vm_badPlace vm_fault vm_faultPlace qm_lines qm_has qm_round qm_meets qm_stumble qm_isMud qm_cell qm_tune qm_change qm_isKept qm_steps qm_places qm_danced vm_runMost vm_runBegins qm_heardBy vm_fitMany vm_fitFirst vm_fitBeats vm_listenLeaves qm_there vm_metAt vm_metIn qm_wins vm_nightHoles vm_nightFirst vm_nightMud vm_nightSlips vm_drawnNow, (qm_meets, .inl (cI, 30, .inl (fm_meets))), (qm_wins, .inl (cI, 24576, .inl (g1004)))] := ⟨hP, hD⟩
              have hz := hw
              rcases hz with ⟨hz, hz2⟩ | ⟨hz, hz2⟩
              · subst hz
                refine lv_if_ne (tgt := 68) hx hb dX12_plays_63 (by decide) (fun _ => ?_) (fun hc => absurd hc (by decide))
                refine lv_iinc (v := 5) (lv' := [(3, .int 5), (2, .int 256), (0, .ref qm), (1, .int 4)]) hx hb dX12_plays_68 hl (k := 0) rfl (by decide) (by decide) rfl (fun ls hl => ?_)
                refine lv_goto (tgt := 35) hx hb dX12_plays_71 (by decide) ?_
                have hk1005 : (5 : Int32).toInt = 5 := by decide
                obtain ⟨hP9, hD9⟩ : ct_B D A H [(qm_meets, .inl (cI, 30, .inl (fm_meets))), (qm_lines, .inl (cI, 5, .inl (fm_lines))), mo qm 0 qm_width qm_many qm_cells qm_moved qm_tape vm_taped vm_at vm_token vm_place vm_value vm_word vm_bad vm_badPlace vm_fault vm_faultPlace qm_lines qm_has qm_round qm_meets qm_stumble qm_isMud qm_cell qm_tune qm_change qm_isKept qm_steps qm_places qm_danced vm_runMost vm_runBegins qm_heardBy vm_fitMany vm_fitFirst vm_fitBeats vm_listenLeaves qm_there vm_metAt vm_metIn qm_wins vm_nightHoles vm_nightFirst vm_nightMud vm_nightSlips vm_drawnNow, (qm_wins, .inl (cI, 24576, .inl (g1004)))] := ⟨hP.sub [2, 0, 1, 3] rfl, hD.sub [2, 0, 1, 3] (by decide) rfl⟩
                exact ih960 (g1004, (5 : Int32)) _ _ _ (show (6 - (5 : Int32).toInt).toNat < (6 - x959.toInt).toNat by omega) ⟨(show 0 ≤ (5 : Int32).toInt ∧ (5 : Int32).toInt ≤ 6 by decide), ⟨hP9, hD9⟩, hS, lv_sub hl [0, 1, 2, 3] rfl⟩
              · subst hz
                refine lv_if_ne (tgt := 68) hx hb dX12_plays_63 (by decide) (fun hc => absurd hc (by decide)) (fun _ => ?_)
                refine lv_iload_n hx hb dX12_plays_66 rfl (lv_at hl 0 rfl) ?_
                obtain ⟨hP9, hD9⟩ : ct_B D A H [mo qm 0 qm_width qm_many qm_cells qm_moved qm_tape vm_taped vm_at vm_token vm_place vm_value vm_word vm_bad vm_badPlace vm_fault vm_faultPlace qm_lines qm_has qm_round qm_meets qm_stumble qm_isMud qm_cell qm_tune qm_change qm_isKept qm_steps qm_places qm_danced vm_runMost vm_runBegins qm_heardBy vm_fitMany vm_fitFirst vm_fitBeats vm_listenLeaves qm_there vm_metAt vm_metIn qm_wins vm_nightHoles vm_nightFirst vm_nightMud vm_nightSlips vm_drawnNow, (qm_lines, .inl (cI, 5, .inl (fm_lines))), (qm_meets, .inl (cI, 30, .inl (fm_meets))), (qm_wins, .inl (cI, 24576, .inl (g1004)))] := ⟨hP.sub [1, 0, 2, 3] rfl, hD.sub [1, 0, 2, 3] (by decide) rfl⟩
                exact W.iret (v := 4) hx hb hr (fun t ht hW => ⟨⟨4, ((0 : Int32), g1004), rfl, (show (-2) ≤ (4 : Int32).toInt ∧ (4 : Int32).toInt ≤ 5 by decide), by rw [ht]; exact hP9, hD9⟩, hS.F ht⟩) hS.2.2 dX12_plays_67
            · subst hz
              refine lv_if_eq (tgt := 68) hx hb dX12_plays_48 (by decide) (fun _ => ?_) (fun hc => absurd hc (by decide))
              refine lv_iinc (v := 5) (lv' := [(3, .int 5), (2, .int 256), (0, .ref qm), (1, .int 4)]) hx hb dX12_plays_68 hl (k := 0) rfl (by decide) (by decide) rfl (fun ls hl => ?_)
              refine lv_goto (tgt := 35) hx hb dX12_plays_71 (by decide) ?_
              have hk1006 : (5 : Int32).toInt = 5 := by decide
              obtain ⟨hP9, hD9⟩ : ct_B D A H [(qm_meets, .inl (cI, 30, .inl (fm_meets))), (qm_lines, .inl (cI, 5, .inl (fm_lines))), mo qm 0 qm_width qm_many qm_cells qm_moved qm_tape vm_taped vm_at vm_token vm_place vm_value vm_word vm_bad vm_badPlace vm_fault vm_faultPlace qm_lines qm_has qm_round qm_meets qm_stumble qm_isMud qm_cell qm_tune qm_change qm_isKept qm_steps qm_places qm_danced vm_runMost vm_runBegins qm_heardBy vm_fitMany vm_fitFirst vm_fitBeats vm_listenLeaves qm_there vm_metAt vm_metIn qm_wins vm_nightHoles vm_nightFirst vm_nightMud vm_nightSlips vm_drawnNow, (qm_wins, .inl (cI, 24576, .inl (g958)))] := ⟨hP.sub [3, 0, 2, 1] rfl, hD.sub [3, 0, 2, 1] (by decide) rfl⟩
              exact ih960 (g958, (5 : Int32)) _ _ _ (show (6 - (5 : Int32).toInt).toNat < (6 - x959.toInt).toNat by omega) ⟨(show 0 ≤ (5 : Int32).toInt ∧ (5 : Int32).toInt ≤ 6 by decide), ⟨hP9, hD9⟩, hS, lv_sub hl [0, 1, 2, 3] rfl⟩
          · have hj2 : x959 = 5 := tq_of hj (by decide)
            have hl : lv_has ls 4 [(3, .int 5), (2, .int 256), (0, .ref qm), (1, .int 4)] := by have h9 := hl; rw [hj2] at h9; exact h9
            refine lv_aload_n hx hb dX12_plays_41 rfl (lv_at hl 2 rfl) ?_
            refine lv_iload_n hx hb dX12_plays_42 rfl (lv_at hl 1 rfl) ?_
            refine lv_iload_n hx hb dX12_plays_43 rfl (lv_at hl 3 rfl) ?_
            refine lv_iload_n hx hb dX12_plays_44 rfl (lv_at hl 0 rfl) ?_
            refine ct_calli (D := D) (wr := [(qm_lines, .inl (cI, 5, .inl (fm_lines))), (qm_wins, .inl (cI, 24576, .inl (g958)))]) (va_runV (As := [.int 256, .int 4, .int 5]) (rest := []) ⟨hx, hb, hml, hown, hts⟩ (c_X12_isPlay l D G cI cJ cB cZ cO qm 0 qm_width qm_many qm_cells qm_moved qm_tape vm_taped vm_at vm_token vm_place vm_value vm_word vm_bad vm_badPlace vm_fault vm_faultPlace qm_lines qm_has qm_round qm_meets fm_meets qm_stumble qm_isMud qm_cell qm_tune qm_change qm_isKept qm_steps qm_places qm_danced vm_runMost vm_runBegins qm_heardBy vm_fitMany vm_fitFirst vm_fitBeats vm_listenLeaves qm_there vm_metAt vm_metIn qm_wins vm_nightHoles vm_nightFirst vm_nightMud vm_nightSlips vm_drawnNow 256 4 5 h_vm_taped h_vm_at h_vm_value (by decide) (by decide) H.size) (cwV 3 hts gX12_plays_X12_isPlay rfl rfl rfl (by decide +kernel) ⟨Nat.le_of_ble_eq_true rfl, Nat.le_of_ble_eq_true rfl⟩) (ct_preV (T := ct_T cI cJ cB cZ cO) (ci := 12) (q0 := 2) hE hH hP hD hS hA [2, 0] (by decide) rfl rfl rfl) rfl rfl hl.1 rfl (lv_room (Nat.le_of_ble_eq_true rfl)) dX12_plays_45 ⟨Nat.le_of_ble_eq_true rfl, Nat.le_of_ble_eq_true rfl⟩) hP hD hS hA [2, 0] [1, 3] rfl rfl (by decide) (by decide) (fun r1007 u H locs hw hP hD hS => ?_)
            obtain ⟨hP, hD⟩ : ct_B D A H [(qm_lines, .inl (cI, 5, .inl (fm_lines))), (qm_wins, .inl (cI, 24576, .inl (g958))), mo qm 0 qm_width qm_many qm_cells qm_moved qm_tape vm_taped vm_at vm_token vm_place vm_value vm_word vm_bad vm_badPlace vm_fault vm_faultPlace qm_lines qm_has qm_round qm_meets qm_stumble qm_isMud qm_cell qm_tune qm_change qm_isKept qm_steps qm_places qm_danced vm_runMost vm_runBegins qm_heardBy vm_fitMany vm_fitFirst vm_fitBeats vm_listenLeaves qm_there vm_metAt vm_metIn qm_wins vm_nightHoles vm_nightFirst vm_nightMud vm_nightSlips vm_drawnNow, (qm_meets, .inl (cI, 30, .inl (fm_meets)))] := ⟨hP, hD⟩
            have hz := hw
            rcases hz with ⟨hz, hz2⟩ | ⟨hz, hz2⟩
            · subst hz
              have hz_1008 : (pl (256 : Int32) (5 : Int32)) := hz2
              refine lv_if_eq (tgt := 68) hx hb dX12_plays_48 (by decide) (fun hc => absurd hc (by decide)) (fun _ => ?_)
              refine lv_aload_n hx hb dX12_plays_51 rfl (lv_at hl 2 rfl) ?_
              refine lv_iload_n hx hb dX12_plays_52 rfl (lv_at hl 1 rfl) ?_
              refine lv_iconst (v := 1) hx hb dX12_plays_53 (by decide) ?_
              refine lv_iconst (v := 2) hx hb dX12_plays_54 (by decide) ?_
              refine lv_iload_n hx hb dX12_plays_55 rfl (lv_at hl 0 rfl) ?_
              refine lv_imul hx hb dX12_plays_56 ?_
              refine lv_topi (fun z1009 ez1009 => ?_)
              obtain rfl : z1009 = 10 := ez1009.trans (by decide)
              refine lv_ishl hx hb dX12_plays_57 ?_
              refine lv_topi (fun z1010 ez1010 => ?_)
              obtain rfl : z1010 = 1024 := ez1010.trans (by decide)
              refine lv_iadd hx hb dX12_plays_58 ?_
              refine lv_topi (fun z1011 ez1011 => ?_)
              obtain rfl : z1011 = 1280 := ez1011.trans (by decide)
              refine lv_iload_n hx hb dX12_plays_59 rfl (lv_at hl 0 rfl) ?_
              refine ct_calli (D := D) (wr := [(qm_lines, .inl (cI, 5, .inl (fm_lines)))]) (va_runV (As := [.int 1280, .int 5]) (rest := []) ⟨hx, hb, hml, hown, hts⟩ (c_X12_winsFrom l D G cI cJ cB cZ cO qm 0 qm_width qm_many qm_cells qm_moved qm_tape vm_taped vm_at vm_token vm_place vm_value vm_word vm_bad vm_badPlace vm_fault vm_faultPlace qm_lines qm_has qm_round qm_meets fm_meets qm_stumble qm_isMud qm_cell qm_tune qm_change qm_isKept qm_steps qm_places qm_danced vm_runMost vm_runBegins qm_heardBy vm_fitMany vm_fitFirst vm_fitBeats vm_listenLeaves qm_there vm_metAt vm_metIn qm_wins vm_nightHoles vm_nightFirst vm_nightMud vm_nightSlips vm_drawnNow h_vm_taped h_vm_at h_vm_value 12 g958 1280 5 (by decide) (by unfold wn; decide) H.size) (cwV 2 hts gX12_plays_X12_winsFrom rfl rfl rfl (by decide +kernel) ⟨Nat.le_of_ble_eq_true rfl, Nat.le_of_ble_eq_true rfl⟩) (ct_preV (T := ct_T cI cJ cB cZ cO) (ci := 12) (q0 := 2) hE hH hP hD hS hA [2, 3, 1] (by decide) rfl rfl rfl) rfl rfl hl.1 rfl (lv_room (Nat.le_of_ble_eq_true rfl)) dX12_plays_60 ⟨Nat.le_of_ble_eq_true rfl, Nat.le_of_ble_eq_true rfl⟩) hP hD hS hA [2, 3, 1] [0] rfl rfl (by decide) (by decide) (fun r1012 u H locs hw hP hD hS => ?_)
              obtain ⟨g1013, rfl⟩ : ∃ z, z = u := ⟨_, rfl⟩
              obtain ⟨hP, hD⟩ : ct_B D A H [(qm_lines, .inl (cI, 5, .inl (fm_lines))), mo qm 0 qm_width qm_many qm_cells qm_moved qm_tape vm_taped vm_at vm_token vm_place vm_value vm_word vm_bad vm_badPlace vm_fault vm_faultPlace qm_lines qm_has qm_round qm_meets qm_stumble qm_isMud qm_cell qm_tune qm_change qm_isKept qm_steps qm_places qm_danced vm_runMost vm_runBegins qm_heardBy vm_fitMany vm_fitFirst vm_fitBeats vm_listenLeaves qm_there vm_metAt vm_metIn qm_wins vm_nightHoles vm_nightFirst vm_nightMud vm_nightSlips vm_drawnNow, (qm_meets, .inl (cI, 30, .inl (fm_meets))), (qm_wins, .inl (cI, 24576, .inl (g1013)))] := ⟨hP, hD⟩
              have hz := hw
              rcases hz with ⟨hz, hz2⟩ | ⟨hz, hz2⟩
              · subst hz
                refine lv_if_ne (tgt := 68) hx hb dX12_plays_63 (by decide) (fun _ => ?_) (fun hc => absurd hc (by decide))
                refine lv_iinc (v := 6) (lv' := [(3, .int 6), (2, .int 256), (0, .ref qm), (1, .int 4)]) hx hb dX12_plays_68 hl (k := 0) rfl (by decide) (by decide) rfl (fun ls hl => ?_)
                refine lv_goto (tgt := 35) hx hb dX12_plays_71 (by decide) ?_
                have hk1014 : (6 : Int32).toInt = 6 := by decide
                obtain ⟨hP9, hD9⟩ : ct_B D A H [(qm_meets, .inl (cI, 30, .inl (fm_meets))), (qm_lines, .inl (cI, 5, .inl (fm_lines))), mo qm 0 qm_width qm_many qm_cells qm_moved qm_tape vm_taped vm_at vm_token vm_place vm_value vm_word vm_bad vm_badPlace vm_fault vm_faultPlace qm_lines qm_has qm_round qm_meets qm_stumble qm_isMud qm_cell qm_tune qm_change qm_isKept qm_steps qm_places qm_danced vm_runMost vm_runBegins qm_heardBy vm_fitMany vm_fitFirst vm_fitBeats vm_listenLeaves qm_there vm_metAt vm_metIn qm_wins vm_nightHoles vm_nightFirst vm_nightMud vm_nightSlips vm_drawnNow, (qm_wins, .inl (cI, 24576, .inl (g1013)))] := ⟨hP.sub [2, 0, 1, 3] rfl, hD.sub [2, 0, 1, 3] (by decide) rfl⟩
                exact ih960 (g1013, (6 : Int32)) _ _ _ (show (6 - (6 : Int32).toInt).toNat < (6 - x959.toInt).toNat by omega) ⟨(show 0 ≤ (6 : Int32).toInt ∧ (6 : Int32).toInt ≤ 6 by decide), ⟨hP9, hD9⟩, hS, lv_sub hl [0, 1, 2, 3] rfl⟩
              · subst hz
                refine lv_if_ne (tgt := 68) hx hb dX12_plays_63 (by decide) (fun hc => absurd hc (by decide)) (fun _ => ?_)
                refine lv_iload_n hx hb dX12_plays_66 rfl (lv_at hl 0 rfl) ?_
                obtain ⟨hP9, hD9⟩ : ct_B D A H [mo qm 0 qm_width qm_many qm_cells qm_moved qm_tape vm_taped vm_at vm_token vm_place vm_value vm_word vm_bad vm_badPlace vm_fault vm_faultPlace qm_lines qm_has qm_round qm_meets qm_stumble qm_isMud qm_cell qm_tune qm_change qm_isKept qm_steps qm_places qm_danced vm_runMost vm_runBegins qm_heardBy vm_fitMany vm_fitFirst vm_fitBeats vm_listenLeaves qm_there vm_metAt vm_metIn qm_wins vm_nightHoles vm_nightFirst vm_nightMud vm_nightSlips vm_drawnNow, (qm_lines, .inl (cI, 5, .inl (fm_lines))), (qm_meets, .inl (cI, 30, .inl (fm_meets))), (qm_wins, .inl (cI, 24576, .inl (g1013)))] := ⟨hP.sub [1, 0, 2, 3] rfl, hD.sub [1, 0, 2, 3] (by decide) rfl⟩
                exact W.iret (v := 5) hx hb hr (fun t ht hW => ⟨⟨5, ((0 : Int32), g1013), rfl, (show (-2) ≤ (5 : Int32).toInt ∧ (5 : Int32).toInt ≤ 5 by decide), by rw [ht]; exact hP9, hD9⟩, hS.F ht⟩) hS.2.2 dX12_plays_67
            · subst hz
              refine lv_if_eq (tgt := 68) hx hb dX12_plays_48 (by decide) (fun _ => ?_) (fun hc => absurd hc (by decide))
              refine lv_iinc (v := 6) (lv' := [(3, .int 6), (2, .int 256), (0, .ref qm), (1, .int 4)]) hx hb dX12_plays_68 hl (k := 0) rfl (by decide) (by decide) rfl (fun ls hl => ?_)
              refine lv_goto (tgt := 35) hx hb dX12_plays_71 (by decide) ?_
              have hk1015 : (6 : Int32).toInt = 6 := by decide
              obtain ⟨hP9, hD9⟩ : ct_B D A H [(qm_meets, .inl (cI, 30, .inl (fm_meets))), (qm_lines, .inl (cI, 5, .inl (fm_lines))), mo qm 0 qm_width qm_many qm_cells qm_moved qm_tape vm_taped vm_at vm_token vm_place vm_value vm_word vm_bad vm_badPlace vm_fault vm_faultPlace qm_lines qm_has qm_round qm_meets qm_stumble qm_isMud qm_cell qm_tune qm_change qm_isKept qm_steps qm_places qm_danced vm_runMost vm_runBegins qm_heardBy vm_fitMany vm_fitFirst vm_fitBeats vm_listenLeaves qm_there vm_metAt vm_metIn qm_wins vm_nightHoles vm_nightFirst vm_nightMud vm_nightSlips vm_drawnNow, (qm_wins, .inl (cI, 24576, .inl (g958)))] := ⟨hP.sub [3, 0, 2, 1] rfl, hD.sub [3, 0, 2, 1] (by decide) rfl⟩
              exact ih960 (g958, (6 : Int32)) _ _ _ (show (6 - (6 : Int32).toInt).toNat < (6 - x959.toInt).toNat by omega) ⟨(show 0 ≤ (6 : Int32).toInt ∧ (6 : Int32).toInt ≤ 6 by decide), ⟨hP9, hD9⟩, hS, lv_sub hl [0, 1, 2, 3] rfl⟩
      · have hj2 : a1 = 5 := tq_of hj (by decide)
        have hl : lv_has ls 4 [(0, .ref qm), (1, .int 5)] := by have h9 := hl; rw [hj2] at h9; exact h9
        refine lv_iconst (v := 1) hx hb dX12_plays_27 (by decide) ?_
        refine lv_iconst (v := 2) hx hb dX12_plays_28 (by decide) ?_
        refine lv_iload_n hx hb dX12_plays_29 rfl (lv_at hl 1 rfl) ?_
        refine lv_imul hx hb dX12_plays_30 ?_
        refine lv_topi (fun z1016 ez1016 => ?_)
        obtain rfl : z1016 = 10 := ez1016.trans (by decide)
        refine lv_ishl hx hb dX12_plays_31 ?_
        refine lv_topi (fun z1017 ez1017 => ?_)
        obtain rfl : z1017 = 1024 := ez1017.trans (by decide)
        refine lv_istore_n (lv' := [(2, .int 1024), (0, .ref qm), (1, .int 5)]) hx hb dX12_plays_32 rfl hl (by decide) rfl (fun ls hl => ?_)
        refine lv_iconst (v := 0) hx hb dX12_plays_33 (by decide) ?_
        refine lv_istore_n (lv' := [(3, .int 0), (2, .int 1024), (0, .ref qm), (1, .int 5)]) hx hb dX12_plays_34 rfl hl (by decide) rfl (fun ls hl => ?_)
        refine ct_loop (X := (Nat → Int32) × Int32) (fun x => (6 - x.2.toInt).toNat) (fun x H locs ls => ((0 ≤ x.2.toInt ∧ x.2.toInt ≤ 6)) ∧ ct_B D A H [(qm_meets, .inl (cI, 30, .inl (fm_meets))), (qm_lines, .inl (cI, 5, .inl (fm_lines))), mo qm 0 qm_width qm_many qm_cells qm_moved qm_tape vm_taped vm_at vm_token vm_place vm_value vm_word vm_bad vm_badPlace vm_fault vm_faultPlace qm_lines qm_has qm_round qm_meets qm_stumble qm_isMud qm_cell qm_tune qm_change qm_isKept qm_steps qm_places qm_danced vm_runMost vm_runBegins qm_heardBy vm_fitMany vm_fitFirst vm_fitBeats vm_listenLeaves qm_there vm_metAt vm_metIn qm_wins vm_nightHoles vm_nightFirst vm_nightMud vm_nightSlips vm_drawnNow, (qm_wins, .inl (cI, 24576, .inl (x.1)))] ∧ va_S A s.heap H locs ∧ lv_has ls 4 [(3, .int x.2), (2, .int 1024), (0, .ref qm), (1, .int 5)]) 35 (g5, (0 : Int32)) ⟨(show 0 ≤ (0 : Int32).toInt ∧ (0 : Int32).toInt ≤ 6 by decide), ⟨hP, hD⟩, hS, lv_sub hl [0, 1, 2, 3] rfl⟩ (fun x ih1162 H locs ls hI => ?_)
        obtain ⟨g1160, x1161⟩ := x
        obtain ⟨h_x1161, ⟨hP, hD⟩, hS, hl⟩ := hI
        have h_x1161 : (0 ≤ x1161.toInt ∧ x1161.toInt ≤ 6) := h_x1161
        obtain ⟨hP, hD⟩ : ct_B D A H [(qm_meets, .inl (cI, 30, .inl (fm_meets))), (qm_lines, .inl (cI, 5, .inl (fm_lines))), mo qm 0 qm_width qm_many qm_cells qm_moved qm_tape vm_taped vm_at vm_token vm_place vm_value vm_word vm_bad vm_badPlace vm_fault vm_faultPlace qm_lines qm_has qm_round qm_meets qm_stumble qm_isMud qm_cell qm_tune qm_change qm_isKept qm_steps qm_places qm_danced vm_runMost vm_runBegins qm_heardBy vm_fitMany vm_fitFirst vm_fitBeats vm_listenLeaves qm_there vm_metAt vm_metIn qm_wins vm_nightHoles vm_nightFirst vm_nightMud vm_nightSlips vm_drawnNow, (qm_wins, .inl (cI, 24576, .inl (g1160)))] := ⟨hP, hD⟩
        have hl : lv_has ls 4 [(3, .int x1161), (2, .int 1024), (0, .ref qm), (1, .int 5)] := hl
        refine lv_iload_n hx hb dX12_plays_35 rfl (lv_at hl 0 rfl) ?_
        refine lv_bipush (v := 6) hx hb dX12_plays_36 (by decide) ?_
        refine lv_icmp_ge (tgt := 74) hx hb dX12_plays_38 (by decide) (fun hc => ?_) (fun hc => ?_)
        · have hq1163 : 6 ≤ x1161.toInt := tq_le (by decide) rfl hc
          refine lv_iconst (v := (-1)) hx hb dX12_plays_74 (by decide) ?_
          obtain ⟨hP9, hD9⟩ : ct_B D A H [mo qm 0 qm_width qm_many qm_cells qm_moved qm_tape vm_taped vm_at vm_token vm_place vm_value vm_word vm_bad vm_badPlace vm_fault vm_faultPlace qm_lines qm_has qm_round qm_meets qm_stumble qm_isMud qm_cell qm_tune qm_change qm_isKept qm_steps qm_places qm_danced vm_runMost vm_runBegins qm_heardBy vm_fitMany vm_fitFirst vm_fitBeats vm_listenLeaves qm_there vm_metAt vm_metIn qm_wins vm_nightHoles vm_nightFirst vm_nightMud vm_nightSlips vm_drawnNow, (qm_lines, .inl (cI, 5, .inl (fm_lines))), (qm_meets, .inl (cI, 30, .inl (fm_meets))), (qm_wins, .inl (cI, 24576, .inl (g1160)))] := ⟨hP.sub [2, 1, 0, 3] rfl, hD.sub [2, 1, 0, 3] (by decide) rfl⟩
          exact W.iret (v := (-1)) hx hb hr (fun t ht hW => ⟨⟨(-1), ((0 : Int32), g1160), rfl, (show (-2) ≤ (-1 : Int32).toInt ∧ (-1 : Int32).toInt ≤ 5 by decide), by rw [ht]; exact hP9, hD9⟩, hS.F ht⟩) hS.2.2 dX12_plays_75
        · have hq1163 : x1161.toInt < 6 := tq_nle (by decide) rfl hc
          rcases (show x1161.toInt = 0 ∨ x1161.toInt = 1 ∨ x1161.toInt = 2 ∨ x1161.toInt = 3 ∨ x1161.toInt = 4 ∨ x1161.toInt = 5 by omega) with hj | hj | hj | hj | hj | hj
          · have hj2 : x1161 = 0 := tq_of hj (by decide)
            have hl : lv_has ls 4 [(3, .int 0), (2, .int 1024), (0, .ref qm), (1, .int 5)] := by have h9 := hl; rw [hj2] at h9; exact h9
            refine lv_aload_n hx hb dX12_plays_41 rfl (lv_at hl 2 rfl) ?_
            refine lv_iload_n hx hb dX12_plays_42 rfl (lv_at hl 1 rfl) ?_
            refine lv_iload_n hx hb dX12_plays_43 rfl (lv_at hl 3 rfl) ?_
            refine lv_iload_n hx hb dX12_plays_44 rfl (lv_at hl 0 rfl) ?_
            refine ct_calli (D := D) (wr := [(qm_lines, .inl (cI, 5, .inl (fm_lines))), (qm_wins, .inl (cI, 24576, .inl (g1160)))]) (va_runV (As := [.int 1024, .int 5, .int 0]) (rest := []) ⟨hx, hb, hml, hown, hts⟩ (c_X12_isPlay l D G cI cJ cB cZ cO qm 0 qm_width qm_many qm_cells qm_moved qm_tape vm_taped vm_at vm_token vm_place vm_value vm_word vm_bad vm_badPlace vm_fault vm_faultPlace qm_lines qm_has qm_round qm_meets fm_meets qm_stumble qm_isMud qm_cell qm_tune qm_change qm_isKept qm_steps qm_places qm_danced vm_runMost vm_runBegins qm_heardBy vm_fitMany vm_fitFirst vm_fitBeats vm_listenLeaves qm_there vm_metAt vm_metIn qm_wins vm_nightHoles vm_nightFirst vm_nightMud vm_nightSlips vm_drawnNow 1024 5 0 h_vm_taped h_vm_at h_vm_value (by decide) (by decide) H.size) (cwV 3 hts gX12_plays_X12_isPlay rfl rfl rfl (by decide +kernel) ⟨Nat.le_of_ble_eq_true rfl, Nat.le_of_ble_eq_true rfl⟩) (ct_preV (T := ct_T cI cJ cB cZ cO) (ci := 12) (q0 := 2) hE hH hP hD hS hA [2, 0] (by decide) rfl rfl rfl) rfl rfl hl.1 rfl (lv_room (Nat.le_of_ble_eq_true rfl)) dX12_plays_45 ⟨Nat.le_of_ble_eq_true rfl, Nat.le_of_ble_eq_true rfl⟩) hP hD hS hA [2, 0] [1, 3] rfl rfl (by decide) (by decide) (fun r1164 u H locs hw hP hD hS => ?_)
            obtain ⟨hP, hD⟩ : ct_B D A H [(qm_lines, .inl (cI, 5, .inl (fm_lines))), (qm_wins, .inl (cI, 24576, .inl (g1160))), mo qm 0 qm_width qm_many qm_cells qm_moved qm_tape vm_taped vm_at vm_token vm_place vm_value vm_word vm_bad vm_badPlace vm_fault vm_faultPlace qm_lines qm_has qm_round qm_meets qm_stumble qm_isMud qm_cell qm_tune qm_change qm_isKept qm_steps qm_places qm_danced vm_runMost vm_runBegins qm_heardBy vm_fitMany vm_fitFirst vm_fitBeats vm_listenLeaves qm_there vm_metAt vm_metIn qm_wins vm_nightHoles vm_nightFirst vm_nightMud vm_nightSlips vm_drawnNow, (qm_meets, .inl (cI, 30, .inl (fm_meets)))] := ⟨hP, hD⟩
            have hz := hw
            rcases hz with ⟨hz, hz2⟩ | ⟨hz, hz2⟩
            · subst hz
              have hz_1165 : (pl (1024 : Int32) (0 : Int32)) := hz2
              refine lv_if_eq (tgt := 68) hx hb dX12_plays_48 (by decide) (fun hc => absurd hc (by decide)) (fun _ => ?_)
              refine lv_aload_n hx hb dX12_plays_51 rfl (lv_at hl 2 rfl) ?_
              refine lv_iload_n hx hb dX12_plays_52 rfl (lv_at hl 1 rfl) ?_
              refine lv_iconst (v := 1) hx hb dX12_plays_53 (by decide) ?_
              refine lv_iconst (v := 2) hx hb dX12_plays_54 (by decide) ?_
              refine lv_iload_n hx hb dX12_plays_55 rfl (lv_at hl 0 rfl) ?_
              refine lv_imul hx hb dX12_plays_56 ?_
              refine lv_topi (fun z1166 ez1166 => ?_)
              obtain rfl : z1166 = 0 := ez1166.trans (by decide)
              refine lv_ishl hx hb dX12_plays_57 ?_
              refine lv_topi (fun z1167 ez1167 => ?_)
              obtain rfl : z1167 = 1 := ez1167.trans (by decide)
              refine lv_iadd hx hb dX12_plays_58 ?_
              refine lv_topi (fun z1168 ez1168 => ?_)
              obtain rfl : z1168 = 1025 := ez1168.trans (by decide)
              refine lv_iload_n hx hb dX12_plays_59 rfl (lv_at hl 0 rfl) ?_
              refine ct_calli (D := D) (wr := [(qm_lines, .inl (cI, 5, .inl (fm_lines)))]) (va_runV (As := [.int 1025, .int 0]) (rest := []) ⟨hx, hb, hml, hown, hts⟩ (c_X12_winsFrom l D G cI cJ cB cZ cO qm 0 qm_width qm_many qm_cells qm_moved qm_tape vm_taped vm_at vm_token vm_place vm_value vm_word vm_bad vm_badPlace vm_fault vm_faultPlace qm_lines qm_has qm_round qm_meets fm_meets qm_stumble qm_isMud qm_cell qm_tune qm_change qm_isKept qm_steps qm_places qm_danced vm_runMost vm_runBegins qm_heardBy vm_fitMany vm_fitFirst vm_fitBeats vm_listenLeaves qm_there vm_metAt vm_metIn qm_wins vm_nightHoles vm_nightFirst vm_nightMud vm_nightSlips vm_drawnNow h_vm_taped h_vm_at h_vm_value 12 g1160 1025 0 (by decide) (by unfold wn; decide) H.size) (cwV 2 hts gX12_plays_X12_winsFrom rfl rfl rfl (by decide +kernel) ⟨Nat.le_of_ble_eq_true rfl, Nat.le_of_ble_eq_true rfl⟩) (ct_preV (T := ct_T cI cJ cB cZ cO) (ci := 12) (q0 := 2) hE hH hP hD hS hA [2, 3, 1] (by decide) rfl rfl rfl) rfl rfl hl.1 rfl (lv_room (Nat.le_of_ble_eq_true rfl)) dX12_plays_60 ⟨Nat.le_of_ble_eq_true rfl, Nat.le_of_ble_eq_true rfl⟩) hP hD hS hA [2, 3, 1] [0] rfl rfl (by decide) (by decide) (fun r1169 u H locs hw hP hD hS => ?_)
              obtain ⟨g1170, rfl⟩ : ∃ z, z = u := ⟨_, rfl⟩
              obtain ⟨hP, hD⟩ : ct_B D A H [(qm_lines, .inl (cI, 5, .inl (fm_lines))), mo qm 0 qm_width qm_many qm_cells qm_moved qm_tape vm_taped vm_at vm_token vm_place vm_value vm_word vm_bad vm_badPlace vm_fault vm_faultPlace qm_lines qm_has qm_round qm_meets qm_stumble qm_isMud qm_cell qm_tune qm_change qm_isKept qm_steps qm_places qm_danced vm_runMost vm_runBegins qm_heardBy vm_fitMany vm_fitFirst vm_fitBeats vm_listenLeaves qm_there vm_metAt vm_metIn qm_wins vm_nightHoles vm_nightFirst vm_nightMud vm_nightSlips vm_drawnNow, (qm_meets, .inl (cI, 30, .inl (fm_meets))), (qm_wins, .inl (cI, 24576, .inl (g1170)))] := ⟨hP, hD⟩
              have hz := hw
              rcases hz with ⟨hz, hz2⟩ | ⟨hz, hz2⟩
              · subst hz
                refine lv_if_ne (tgt := 68) hx hb dX12_plays_63 (by decide) (fun _ => ?_) (fun hc => absurd hc (by decide))
                refine lv_iinc (v := 1) (lv' := [(3, .int 1), (2, .int 1024), (0, .ref qm), (1, .int 5)]) hx hb dX12_plays_68 hl (k := 0) rfl (by decide) (by decide) rfl (fun ls hl => ?_)
                refine lv_goto (tgt := 35) hx hb dX12_plays_71 (by decide) ?_
                have hk1171 : (1 : Int32).toInt = 1 := by decide
                obtain ⟨hP9, hD9⟩ : ct_B D A H [(qm_meets, .inl (cI, 30, .inl (fm_meets))), (qm_lines, .inl (cI, 5, .inl (fm_lines))), mo qm 0 qm_width qm_many qm_cells qm_moved qm_tape vm_taped vm_at vm_token vm_place vm_value vm_word vm_bad vm_badPlace vm_fault vm_faultPlace qm_lines qm_has qm_round qm_meets qm_stumble qm_isMud qm_cell qm_tune qm_change qm_isKept qm_steps qm_places qm_danced vm_runMost vm_runBegins qm_heardBy vm_fitMany vm_fitFirst vm_fitBeats vm_listenLeaves qm_there vm_metAt vm_metIn qm_wins vm_nightHoles vm_nightFirst vm_nightMud vm_nightSlips vm_drawnNow, (qm_wins, .inl (cI, 24576, .inl (g1170)))] := ⟨hP.sub [2, 0, 1, 3] rfl, hD.sub [2, 0, 1, 3] (by decide) rfl⟩
                exact ih1162 (g1170, (1 : Int32)) _ _ _ (show (6 - (1 : Int32).toInt).toNat < (6 - x1161.toInt).toNat by omega) ⟨(show 0 ≤ (1 : Int32).toInt ∧ (1 : Int32).toInt ≤ 6 by decide), ⟨hP9, hD9⟩, hS, lv_sub hl [0, 1, 2, 3] rfl⟩
              · subst hz
                refine lv_if_ne (tgt := 68) hx hb dX12_plays_63 (by decide) (fun hc => absurd hc (by decide)) (fun _ => ?_)
                refine lv_iload_n hx hb dX12_plays_66 rfl (lv_at hl 0 rfl) ?_
                obtain ⟨hP9, hD9⟩ : ct_B D A H [mo qm 0 qm_width qm_many qm_cells qm_moved qm_tape vm_taped vm_at vm_token vm_place vm_value vm_word vm_bad vm_badPlace vm_fault vm_faultPlace qm_lines qm_has qm_round qm_meets qm_stumble qm_isMud qm_cell qm_tune qm_change qm_isKept qm_steps qm_places qm_danced vm_runMost vm_runBegins qm_heardBy vm_fitMany vm_fitFirst vm_fitBeats vm_listenLeaves qm_there vm_metAt vm_metIn qm_wins vm_nightHoles vm_nightFirst vm_nightMud vm_nightSlips vm_drawnNow, (qm_lines, .inl (cI, 5, .inl (fm_lines))), (qm_meets, .inl (cI, 30, .inl (fm_meets))), (qm_wins, .inl (cI, 24576, .inl (g1170)))] := ⟨hP.sub [1, 0, 2, 3] rfl, hD.sub [1, 0, 2, 3] (by decide) rfl⟩
                exact W.iret (v := 0) hx hb hr (fun t ht hW => ⟨⟨0, ((0 : Int32), g1170), rfl, (show (-2) ≤ (0 : Int32).toInt ∧ (0 : Int32).toInt ≤ 5 by decide), by rw [ht]; exact hP9, hD9⟩, hS.F ht⟩) hS.2.2 dX12_plays_67
            · subst hz
              refine lv_if_eq (tgt := 68) hx hb dX12_plays_48 (by decide) (fun _ => ?_) (fun hc => absurd hc (by decide))
              refine lv_iinc (v := 1) (lv' := [(3, .int 1), (2, .int 1024), (0, .ref qm), (1, .int 5)]) hx hb dX12_plays_68 hl (k := 0) rfl (by decide) (by decide) rfl (fun ls hl => ?_)
              refine lv_goto (tgt := 35) hx hb dX12_plays_71 (by decide) ?_
              have hk1172 : (1 : Int32).toInt = 1 := by decide
              obtain ⟨hP9, hD9⟩ : ct_B D A H [(qm_meets, .inl (cI, 30, .inl (fm_meets))), (qm_lines, .inl (cI, 5, .inl (fm_lines))), mo qm 0 qm_width qm_many qm_cells qm_moved qm_tape vm_taped vm_at vm_token vm_place vm_value vm_word vm_bad vm_badPlace vm_fault vm_faultPlace qm_lines qm_has qm_round qm_meets qm_stumble qm_isMud qm_cell qm_tune qm_change qm_isKept qm_steps qm_places qm_danced vm_runMost vm_runBegins qm_heardBy vm_fitMany vm_fitFirst vm_fitBeats vm_listenLeaves qm_there vm_metAt vm_metIn qm_wins vm_nightHoles vm_nightFirst vm_nightMud vm_nightSlips vm_drawnNow, (qm_wins, .inl (cI, 24576, .inl (g1160)))] := ⟨hP.sub [3, 0, 2, 1] rfl, hD.sub [3, 0, 2, 1] (by decide) rfl⟩
              exact ih1162 (g1160, (1 : Int32)) _ _ _ (show (6 - (1 : Int32).toInt).toNat < (6 - x1161.toInt).toNat by omega) ⟨(show 0 ≤ (1 : Int32).toInt ∧ (1 : Int32).toInt ≤ 6 by decide), ⟨hP9, hD9⟩, hS, lv_sub hl [0, 1, 2, 3] rfl⟩
          · have hj2 : x1161 = 1 := tq_of hj (by decide)
            have hl : lv_has ls 4 [(3, .int 1), (2, .int 1024), (0, .ref qm), (1, .int 5)] := by have h9 := hl; rw [hj2] at h9; exact h9
            refine lv_aload_n hx hb dX12_plays_41 rfl (lv_at hl 2 rfl) ?_
            refine lv_iload_n hx hb dX12_plays_42 rfl (lv_at hl 1 rfl) ?_
            refine lv_iload_n hx hb dX12_plays_43 rfl (lv_at hl 3 rfl) ?_
            refine lv_iload_n hx hb dX12_plays_44 rfl (lv_at hl 0 rfl) ?_
            refine ct_calli (D := D) (wr := [(qm_lines, .inl (cI, 5, .inl (fm_lines))), (qm_wins, .inl (cI, 24576, .inl (g1160)))]) (va_runV (As := [.int 1024, .int 5, .int 1]) (rest := []) ⟨hx, hb, hml, hown, hts⟩ (c_X12_isPlay l D G cI cJ cB cZ cO qm 0 qm_width qm_many qm_cells qm_moved qm_tape vm_taped vm_at vm_token vm_place vm_value vm_word vm_bad vm_badPlace vm_fault vm_faultPlace qm_lines qm_has qm_round qm_meets fm_meets qm_stumble qm_isMud qm_cell qm_tune qm_change qm_isKept qm_steps qm_places qm_danced vm_runMost vm_runBegins qm_heardBy vm_fitMany vm_fitFirst vm_fitBeats vm_listenLeaves qm_there vm_metAt vm_metIn qm_wins vm_nightHoles vm_nightFirst vm_nightMud vm_nightSlips vm_drawnNow 1024 5 1 h_vm_taped h_vm_at h_vm_value (by decide) (by decide) H.size) (cwV 3 hts gX12_plays_X12_isPlay rfl rfl rfl (by decide +kernel) ⟨Nat.le_of_ble_eq_true rfl, Nat.le_of_ble_eq_true rfl⟩) (ct_preV (T := ct_T cI cJ cB cZ cO) (ci := 12) (q0 := 2) hE hH hP hD hS hA [2, 0] (by decide) rfl rfl rfl) rfl rfl hl.1 rfl (lv_room (Nat.le_of_ble_eq_true rfl)) dX12_plays_45 ⟨Nat.le_of_ble_eq_true rfl, Nat.le_of_ble_eq_true rfl⟩) hP hD hS hA [2, 0] [1, 3] rfl rfl (by decide) (by decide) (fun r1173 u H locs hw hP hD hS => ?_)
            obtain ⟨hP, hD⟩ : ct_B D A H [(qm_lines, .inl (cI, 5, .inl (fm_lines))), (qm_wins, .inl (cI, 24576, .inl (g1160))), mo qm 0 qm_width qm_many qm_cells qm_moved qm_tape vm_taped vm_at vm_token vm_place vm_value vm_word vm_bad vm_badPlace vm_fault vm_faultPlace qm_lines qm_has qm_round qm_meets qm_stumble qm_isMud qm_cell qm_tune qm_change qm_isKept qm_steps qm_places qm_danced vm_runMost vm_runBegins qm_heardBy vm_fitMany vm_fitFirst vm_fitBeats vm_listenLeaves qm_there vm_metAt vm_metIn qm_wins vm_nightHoles vm_nightFirst vm_nightMud vm_nightSlips vm_drawnNow, (qm_meets, .inl (cI, 30, .inl (fm_meets)))] := ⟨hP, hD⟩
            have hz := hw
            rcases hz with ⟨hz, hz2⟩ | ⟨hz, hz2⟩
            · subst hz
              have hz_1174 : (pl (1024 : Int32) (1 : Int32)) := hz2
              refine lv_if_eq (tgt := 68) hx hb dX12_plays_48 (by decide) (fun hc => absurd hc (by decide)) (fun _ => ?_)
              refine lv_aload_n hx hb dX12_plays_51 rfl (lv_at hl 2 rfl) ?_
              refine lv_iload_n hx hb dX12_plays_52 rfl (lv_at hl 1 rfl) ?_
              refine lv_iconst (v := 1) hx hb dX12_plays_53 (by decide) ?_
              refine lv_iconst (v := 2) hx hb dX12_plays_54 (by decide) ?_
              refine lv_iload_n hx hb dX12_plays_55 rfl (lv_at hl 0 rfl) ?_
              refine lv_imul hx hb dX12_plays_56 ?_
              refine lv_topi (fun z1175 ez1175 => ?_)
              obtain rfl : z1175 = 2 := ez1175.trans (by decide)
              refine lv_ishl hx hb dX12_plays_57 ?_
              refine lv_topi (fun z1176 ez1176 => ?_)
              obtain rfl : z1176 = 4 := ez1176.trans (by decide)
              refine lv_iadd hx hb dX12_plays_58 ?_
              refine lv_topi (fun z1177 ez1177 => ?_)
              obtain rfl : z1177 = 1028 := ez1177.trans (by decide)
              refine lv_iload_n hx hb dX12_plays_59 rfl (lv_at hl 0 rfl) ?_
              refine ct_calli (D := D) (wr := [(qm_lines, .inl (cI, 5, .inl (fm_lines)))]) (va_runV (As := [.int 1028, .int 1]) (rest := []) ⟨hx, hb, hml, hown, hts⟩ (c_X12_winsFrom l D G cI cJ cB cZ cO qm 0 qm_width qm_many qm_cells qm_moved qm_tape vm_taped vm_at vm_token vm_place vm_value vm_word vm_bad vm_badPlace vm_fault vm_faultPlace qm_lines qm_has qm_round qm_meets fm_meets qm_stumble qm_isMud qm_cell qm_tune qm_change qm_isKept qm_steps qm_places qm_danced vm_runMost vm_runBegins qm_heardBy vm_fitMany vm_fitFirst vm_fitBeats vm_listenLeaves qm_there vm_metAt vm_metIn qm_wins vm_nightHoles vm_nightFirst vm_nightMud vm_nightSlips vm_drawnNow h_vm_taped h_vm_at h_vm_value 12 g1160 1028 1 (by decide) (by unfold wn; decide) H.size) (cwV 2 hts gX12_plays_X12_winsFrom rfl rfl rfl (by decide +kernel) ⟨Nat.le_of_ble_eq_true rfl, Nat.le_of_ble_eq_true rfl⟩) (ct_preV (T := ct_T cI cJ cB cZ cO) (ci := 12) (q0 := 2) hE hH hP hD hS hA [2, 3, 1] (by decide) rfl rfl rfl) rfl rfl hl.1 rfl (lv_room (Nat.le_of_ble_eq_true rfl)) dX12_plays_60 ⟨Nat.le_of_ble_eq_true rfl, Nat.le_of_ble_eq_true rfl⟩) hP hD hS hA [2, 3, 1] [0] rfl rfl (by decide) (by decide) (fun r1178 u H locs hw hP hD hS => ?_)
              obtain ⟨g1179, rfl⟩ : ∃ z, z = u := ⟨_, rfl⟩
              obtain ⟨hP, hD⟩ : ct_B D A H [(qm_lines, .inl (cI, 5, .inl (fm_lines))), mo qm 0 qm_width qm_many qm_cells qm_moved qm_tape vm_taped vm_at vm_token vm_place vm_value vm_word vm_bad vm_badPlace vm_fault vm_faultPlace qm_lines qm_has qm_round qm_meets qm_stumble qm_isMud qm_cell qm_tune qm_change qm_isKept qm_steps qm_places qm_danced vm_runMost vm_runBegins qm_heardBy vm_fitMany vm_fitFirst vm_fitBeats vm_listenLeaves qm_there vm_metAt vm_metIn qm_wins vm_nightHoles vm_nightFirst vm_nightMud vm_nightSlips vm_drawnNow, (qm_meets, .inl (cI, 30, .inl (fm_meets))), (qm_wins, .inl (cI, 24576, .inl (g1179)))] := ⟨hP, hD⟩
              have hz := hw
              rcases hz with ⟨hz, hz2⟩ | ⟨hz, hz2⟩
              · subst hz
                refine lv_if_ne (tgt := 68) hx hb dX12_plays_63 (by decide) (fun _ => ?_) (fun hc => absurd hc (by decide))
                refine lv_iinc (v := 2) (lv' := [(3, .int 2), (2, .int 1024), (0, .ref qm), (1, .int 5)]) hx hb dX12_plays_68 hl (k := 0) rfl (by decide) (by decide) rfl (fun ls hl => ?_)
                refine lv_goto (tgt := 35) hx hb dX12_plays_71 (by decide) ?_
                have hk1180 : (2 : Int32).toInt = 2 := by decide
                obtain ⟨hP9, hD9⟩ : ct_B D A H [(qm_meets, .inl (cI, 30, .inl (fm_meets))), (qm_lines, .inl (cI, 5, .inl (fm_lines))), mo qm 0 qm_width qm_many qm_cells qm_moved qm_tape vm_taped vm_at vm_token vm_place vm_value vm_word vm_bad vm_badPlace vm_fault vm_faultPlace qm_lines qm_has qm_round qm_meets qm_stumble qm_isMud qm_cell qm_tune qm_change qm_isKept qm_steps qm_places qm_danced vm_runMost vm_runBegins qm_heardBy vm_fitMany vm_fitFirst vm_fitBeats vm_listenLeaves qm_there vm_metAt vm_metIn qm_wins vm_nightHoles vm_nightFirst vm_nightMud vm_nightSlips vm_drawnNow, (qm_wins, .inl (cI, 24576, .inl (g1179)))] := ⟨hP.sub [2, 0, 1, 3] rfl, hD.sub [2, 0, 1, 3] (by decide) rfl⟩
                exact ih1162 (g1179, (2 : Int32)) _ _ _ (show (6 - (2 : Int32).toInt).toNat < (6 - x1161.toInt).toNat by omega) ⟨(show 0 ≤ (2 : Int32).toInt ∧ (2 : Int32).toInt ≤ 6 by decide), ⟨hP9, hD9⟩, hS, lv_sub hl [0, 1, 2, 3] rfl⟩
              · subst hz
                refine lv_if_ne (tgt := 68) hx hb dX12_plays_63 (by decide) (fun hc => absurd hc (by decide)) (fun _ => ?_)
                refine lv_iload_n hx hb dX12_plays_66 rfl (lv_at hl 0 rfl) ?_
                obtain ⟨hP9, hD9⟩ : ct_B D A H [mo qm 0 qm_width qm_many qm_cells qm_moved qm_tape vm_taped vm_at vm_token vm_place vm_value vm_word vm_bad vm_badPlace vm_fault vm_faultPlace qm_lines qm_has qm_round qm_meets qm_stumble qm_isMud qm_cell qm_tune qm_change qm_isKept qm_steps qm_places qm_danced vm_runMost vm_runBegins qm_heardBy vm_fitMany vm_fitFirst vm_fitBeats vm_listenLeaves qm_there vm_metAt vm_metIn qm_wins vm_nightHoles vm_nightFirst vm_nightMud vm_nightSlips vm_drawnNow, (qm_lines, .inl (cI, 5, .inl (fm_lines))), (qm_meets, .inl (cI, 30, .inl (fm_meets))), (qm_wins, .inl (cI, 24576, .inl (g1179)))] := ⟨hP.sub [1, 0, 2, 3] rfl, hD.sub [1, 0, 2, 3] (by decide) rfl⟩
                exact W.iret (v := 1) hx hb hr (fun t ht hW => ⟨⟨1, ((0 : Int32), g1179), rfl, (show (-2) ≤ (1 : Int32).toInt ∧ (1 : Int32).toInt ≤ 5 by decide), by rw [ht]; exact hP9, hD9⟩, hS.F ht⟩) hS.2.2 dX12_plays_67
            · subst hz
              refine lv_if_eq (tgt := 68) hx hb dX12_plays_48 (by decide) (fun _ => ?_) (fun hc => absurd hc (by decide))
              refine lv_iinc (v := 2) (lv' := [(3, .int 2), (2, .int 1024), (0, .ref qm), (1, .int 5)]) hx hb dX12_plays_68 hl (k := 0) rfl (by decide) (by decide) rfl (fun ls hl => ?_)
              refine lv_goto (tgt := 35) hx hb dX12_plays_71 (by decide) ?_
              have hk1181 : (2 : Int32).toInt = 2 := by decide
              obtain ⟨hP9, hD9⟩ : ct_B D A H [(qm_meets, .inl (cI, 30, .inl (fm_meets))), (qm_lines, .inl (cI, 5, .inl (fm_lines))), mo qm 0 qm_width qm_many qm_cells qm_moved qm_tape vm_taped vm_at vm_token vm_place vm_value vm_word vm_bad vm_badPlace vm_fault vm_faultPlace qm_lines qm_has qm_round qm_meets qm_stumble qm_isMud qm_cell qm_tune qm_change qm_isKept qm_steps qm_places qm_danced vm_runMost vm_runBegins qm_heardBy vm_fitMany vm_fitFirst vm_fitBeats vm_listenLeaves qm_there vm_metAt vm_metIn qm_wins vm_nightHoles vm_nightFirst vm_nightMud vm_nightSlips vm_drawnNow, (qm_wins, .inl (cI, 24576, .inl (g1160)))] := ⟨hP.sub [3, 0, 2, 1] rfl, hD.sub [3, 0, 2, 1] (by decide) rfl⟩
              exact ih1162 (g1160, (2 : Int32)) _ _ _ (show (6 - (2 : Int32).toInt).toNat < (6 - x1161.toInt).toNat by omega) ⟨(show 0 ≤ (2 : Int32).toInt ∧ (2 : Int32).toInt ≤ 6 by decide), ⟨hP9, hD9⟩, hS, lv_sub hl [0, 1, 2, 3] rfl⟩
          · have hj2 : x1161 = 2 := tq_of hj (by decide)
            have hl : lv_has ls 4 [(3, .int 2), (2, .int 1024), (0, .ref qm), (1, .int 5)] := by have h9 := hl; rw [hj2] at h9; exact h9
            refine lv_aload_n hx hb dX12_plays_41 rfl (lv_at hl 2 rfl) ?_
            refine lv_iload_n hx hb dX12_plays_42 rfl (lv_at hl 1 rfl) ?_
            refine lv_iload_n hx hb dX12_plays_43 rfl (lv_at hl 3 rfl) ?_
            refine lv_iload_n hx hb dX12_plays_44 rfl (lv_at hl 0 rfl) ?_
            refine ct_calli (D := D) (wr := [(qm_lines, .inl (cI, 5, .inl (fm_lines))), (qm_wins, .inl (cI, 24576, .inl (g1160)))]) (va_runV (As := [.int 1024, .int 5, .int 2]) (rest := []) ⟨hx, hb, hml, hown, hts⟩ (c_X12_isPlay l D G cI cJ cB cZ cO qm 0 qm_width qm_many qm_cells qm_moved qm_tape vm_taped vm_at vm_token vm_place vm_value vm_word vm_bad vm_badPlace vm_fault vm_faultPlace qm_lines qm_has qm_round qm_meets fm_meets qm_stumble qm_isMud qm_cell qm_tune qm_change qm_isKept qm_steps qm_places qm_danced vm_runMost vm_runBegins qm_heardBy vm_fitMany vm_fitFirst vm_fitBeats vm_listenLeaves qm_there vm_metAt vm_metIn qm_wins vm_nightHoles vm_nightFirst vm_nightMud vm_nightSlips vm_drawnNow 1024 5 2 h_vm_taped h_vm_at h_vm_value (by decide) (by decide) H.size) (cwV 3 hts gX12_plays_X12_isPlay rfl rfl rfl (by decide +kernel) ⟨Nat.le_of_ble_eq_true rfl, Nat.le_of_ble_eq_true rfl⟩) (ct_preV (T := ct_T cI cJ cB cZ cO) (ci := 12) (q0 := 2) hE hH hP hD hS hA [2, 0] (by decide) rfl rfl rfl) rfl rfl hl.1 rfl (lv_room (Nat.le_of_ble_eq_true rfl)) dX12_plays_45 ⟨Nat.le_of_ble_eq_true rfl, Nat.le_of_ble_eq_true rfl⟩) hP hD hS hA [2, 0] [1, 3] rfl rfl (by decide) (by decide) (fun r1182 u H locs hw hP hD hS => ?_)
            obtain ⟨hP, hD⟩ : ct_B D A H [(qm_lines, .inl (cI, 5, .inl (fm_lines))), (qm_wins, .inl (cI, 24576, .inl (g1160))), mo qm 0 qm_width qm_many qm_cells qm_moved qm_tape vm_taped vm_at vm_token vm_place vm_value vm_word vm_bad vm_badPlace vm_fault vm_faultPlace qm_lines qm_has qm_round qm_meets qm_stumble qm_isMud qm_cell qm_tune qm_change qm_isKept qm_steps qm_places qm_danced vm_runMost vm_runBegins qm_heardBy vm_fitMany vm_fitFirst vm_fitBeats vm_listenLeaves qm_there vm_metAt vm_metIn qm_wins vm_nightHoles vm_nightFirst vm_nightMud vm_nightSlips vm_drawnNow, (qm_meets, .inl (cI, 30, .inl (fm_meets)))] := ⟨hP, hD⟩
            have hz := hw
            rcases hz with ⟨hz, hz2⟩ | ⟨hz, hz2⟩
            · subst hz
              have hz_1183 : (pl (1024 : Int32) (2 : Int32)) := hz2
              refine lv_if_eq (tgt := 68) hx hb dX12_plays_48 (by decide) (fun hc => absurd hc (by decide)) (fun _ => ?_)
              refine lv_aload_n hx hb dX12_plays_51 rfl (lv_at hl 2 rfl) ?_
              refine lv_iload_n hx hb dX12_plays_52 rfl (lv_at hl 1 rfl) ?_
              refine lv_iconst (v := 1) hx hb dX12_plays_53 (by decide) ?_
              refine lv_iconst (v := 2) hx hb dX12_plays_54 (by decide) ?_
              refine lv_iload_n hx hb dX12_plays_55 rfl (lv_at hl 0 rfl) ?_
              refine lv_imul hx hb dX12_plays_56 ?_
              refine lv_topi (fun z1184 ez1184 => ?_)
              obtain rfl : z1184 = 4 := ez1184.trans (by decide)
              refine lv_ishl hx hb dX12_plays_57 ?_
              refine lv_topi (fun z1185 ez1185 => ?_)
              obtain rfl : z1185 = 16 := ez1185.trans (by decide)
              refine lv_iadd hx hb dX12_plays_58 ?_
              refine lv_topi (fun z1186 ez1186 => ?_)
              obtain rfl : z1186 = 1040 := ez1186.trans (by decide)
              refine lv_iload_n hx hb dX12_plays_59 rfl (lv_at hl 0 rfl) ?_
              refine ct_calli (D := D) (wr := [(qm_lines, .inl (cI, 5, .inl (fm_lines)))]) (va_runV (As := [.int 1040, .int 2]) (rest := []) ⟨hx, hb, hml, hown, hts⟩ (c_X12_winsFrom l D G cI cJ cB cZ cO qm 0 qm_width qm_many qm_cells qm_moved qm_tape vm_taped vm_at vm_token vm_place vm_value vm_word vm_bad vm_badPlace vm_fault vm_faultPlace qm_lines qm_has qm_round qm_meets fm_meets qm_stumble qm_isMud qm_cell qm_tune qm_change qm_isKept qm_steps qm_places qm_danced vm_runMost vm_runBegins qm_heardBy vm_fitMany vm_fitFirst vm_fitBeats vm_listenLeaves qm_there vm_metAt vm_metIn qm_wins vm_nightHoles vm_nightFirst vm_nightMud vm_nightSlips vm_drawnNow h_vm_taped h_vm_at h_vm_value 12 g1160 1040 2 (by decide) (by unfold wn; decide) H.size) (cwV 2 hts gX12_plays_X12_winsFrom rfl rfl rfl (by decide +kernel) ⟨Nat.le_of_ble_eq_true rfl, Nat.le_of_ble_eq_true rfl⟩) (ct_preV (T := ct_T cI cJ cB cZ cO) (ci := 12) (q0 := 2) hE hH hP hD hS hA [2, 3, 1] (by decide) rfl rfl rfl) rfl rfl hl.1 rfl (lv_room (Nat.le_of_ble_eq_true rfl)) dX12_plays_60 ⟨Nat.le_of_ble_eq_true rfl, Nat.le_of_ble_eq_true rfl⟩) hP hD hS hA [2, 3, 1] [0] rfl rfl (by decide) (by decide) (fun r1187 u H locs hw hP hD hS => ?_)
              obtain ⟨g1188, rfl⟩ : ∃ z, z = u := ⟨_, rfl⟩
              obtain ⟨hP, hD⟩ : ct_B D A H [(qm_lines, .inl (cI, 5, .inl (fm_lines))), mo qm 0 qm_width qm_many qm_cells qm_moved qm_tape vm_taped vm_at vm_token vm_place vm_value vm_word vm_bad vm_badPlace vm_fault vm_faultPlace qm_lines qm_has qm_round qm_meets qm_stumble qm_isMud qm_cell qm_tune qm_change qm_isKept qm_steps qm_places qm_danced vm_runMost vm_runBegins qm_heardBy vm_fitMany vm_fitFirst vm_fitBeats vm_listenLeaves qm_there vm_metAt vm_metIn qm_wins vm_nightHoles vm_nightFirst vm_nightMud vm_nightSlips vm_drawnNow, (qm_meets, .inl (cI, 30, .inl (fm_meets))), (qm_wins, .inl (cI, 24576, .inl (g1188)))] := ⟨hP, hD⟩
              have hz := hw
              rcases hz with ⟨hz, hz2⟩ | ⟨hz, hz2⟩
              · subst hz
                refine lv_if_ne (tgt := 68) hx hb dX12_plays_63 (by decide) (fun _ => ?_) (fun hc => absurd hc (by decide))
                refine lv_iinc (v := 3) (lv' := [(3, .int 3), (2, .int 1024), (0, .ref qm), (1, .int 5)]) hx hb dX12_plays_68 hl (k := 0) rfl (by decide) (by decide) rfl (fun ls hl => ?_)
                refine lv_goto (tgt := 35) hx hb dX12_plays_71 (by decide) ?_
                have hk1189 : (3 : Int32).toInt = 3 := by decide
                obtain ⟨hP9, hD9⟩ : ct_B D A H [(qm_meets, .inl (cI, 30, .inl (fm_meets))), (qm_lines, .inl (cI, 5, .inl (fm_lines))), mo qm 0 qm_width qm_many qm_cells qm_moved qm_tape vm_taped vm_at vm_token vm_place vm_value vm_word vm_bad vm_badPlace vm_fault vm_faultPlace qm_lines qm_has qm_round qm_meets qm_stumble qm_isMud qm_cell qm_tune qm_change qm_isKept qm_steps qm_places qm_danced vm_runMost vm_runBegins qm_heardBy vm_fitMany vm_fitFirst vm_fitBeats vm_listenLeaves qm_there vm_metAt vm_metIn qm_wins vm_nightHoles vm_nightFirst vm_nightMud vm_nightSlips vm_drawnNow, (qm_wins, .inl (cI, 24576, .inl (g1188)))] := ⟨hP.sub [2, 0, 1, 3] rfl, hD.sub [2, 0, 1, 3] (by decide) rfl⟩
                exact ih1162 (g1188, (3 : Int32)) _ _ _ (show (6 - (3 : Int32).toInt).toNat < (6 - x1161.toInt).toNat by omega) ⟨(show 0 ≤ (3 : Int32).toInt ∧ (3 : Int32).toInt ≤ 6 by decide), ⟨hP9, hD9⟩, hS, lv_sub hl [0, 1, 2, 3] rfl⟩
              · subst hz
                refine lv_if_ne (tgt := 68) hx hb dX12_plays_63 (by decide) (fun hc => absurd hc (by decide)) (fun _ => ?_)
                refine lv_iload_n hx hb dX12_plays_66 rfl (lv_at hl 0 rfl) ?_
                obtain ⟨hP9, hD9⟩ : ct_B D A H [mo qm 0 qm_width qm_many qm_cells qm_moved qm_tape vm_taped vm_at vm_token vm_place vm_value vm_word vm_bad vm_badPlace vm_fault vm_faultPlace qm_lines qm_has qm_round qm_meets qm_stumble qm_isMud qm_cell qm_tune qm_change qm_isKept qm_steps qm_places qm_danced vm_runMost vm_runBegins qm_heardBy vm_fitMany vm_fitFirst vm_fitBeats vm_listenLeaves qm_there vm_metAt vm_metIn qm_wins vm_nightHoles vm_nightFirst vm_nightMud vm_nightSlips vm_drawnNow, (qm_lines, .inl (cI, 5, .inl (fm_lines))), (qm_meets, .inl (cI, 30, .inl (fm_meets))), (qm_wins, .inl (cI, 24576, .inl (g1188)))] := ⟨hP.sub [1, 0, 2, 3] rfl, hD.sub [1, 0, 2, 3] (by decide) rfl⟩
                exact W.iret (v := 2) hx hb hr (fun t ht hW => ⟨⟨2, ((0 : Int32), g1188), rfl, (show (-2) ≤ (2 : Int32).toInt ∧ (2 : Int32).toInt ≤ 5 by decide), by rw [ht]; exact hP9, hD9⟩, hS.F ht⟩) hS.2.2 dX12_plays_67
            · subst hz
              refine lv_if_eq (tgt := 68) hx hb dX12_plays_48 (by decide) (fun _ => ?_) (fun hc => absurd hc (by decide))
              refine lv_iinc (v := 3) (lv' := [(3, .int 3), (2, .int 1024), (0, .ref qm), (1, .int 5)]) hx hb dX12_plays_68 hl (k := 0) rfl (by decide) (by decide) rfl (fun ls hl => ?_)
              refine lv_goto (tgt := 35) hx hb dX12_plays_71 (by decide) ?_
              have hk1190 : (3 : Int32).toInt = 3 := by decide
              obtain ⟨hP9, hD9⟩ : ct_B D A H [(qm_meets, .inl (cI, 30, .inl (fm_meets))), (qm_lines, .inl (cI, 5, .inl (fm_lines))), mo qm 0 qm_width qm_many qm_cells qm_moved qm_tape vm_taped vm_at vm_token vm_place vm_value vm_word vm_bad vm_badPlace vm_fault vm_faultPlace qm_lines qm_has qm_round qm_meets qm_stumble qm_isMud qm_cell qm_tune qm_change qm_isKept qm_steps qm_places qm_danced vm_runMost vm_runBegins qm_heardBy vm_fitMany vm_fitFirst vm_fitBeats vm_listenLeaves qm_there vm_metAt vm_metIn qm_wins vm_nightHoles vm_nightFirst vm_nightMud vm_nightSlips vm_drawnNow, (qm_wins, .inl (cI, 24576, .inl (g1160)))] := ⟨hP.sub [3, 0, 2, 1] rfl, hD.sub [3, 0, 2, 1] (by decide) rfl⟩
              exact ih1162 (g1160, (3 : Int32)) _ _ _ (show (6 - (3 : Int32).toInt).toNat < (6 - x1161.toInt).toNat by omega) ⟨(show 0 ≤ (3 : Int32).toInt ∧ (3 : Int32).toInt ≤ 6 by decide), ⟨hP9, hD9⟩, hS, lv_sub hl [0, 1, 2, 3] rfl⟩
          · have hj2 : x1161 = 3 := tq_of hj (by decide)
            have hl : lv_has ls 4 [(3, .int 3), (2, .int 1024), (0, .ref qm), (1, .int 5)] := by have h9 := hl; rw [hj2] at h9; exact h9
            refine lv_aload_n hx hb dX12_plays_41 rfl (lv_at hl 2 rfl) ?_
            refine lv_iload_n hx hb dX12_plays_42 rfl (lv_at hl 1 rfl) ?_
            refine lv_iload_n hx hb dX12_plays_43 rfl (lv_at hl 3 rfl) ?_
            refine lv_iload_n hx hb dX12_plays_44 rfl (lv_at hl 0 rfl) ?_
            refine ct_calli (D := D) (wr := [(qm_lines, .inl (cI, 5, .inl (fm_lines))), (qm_wins, .inl (cI, 24576, .inl (g1160)))]) (va_runV (As := [.int 1024, .int 5, .int 3]) (rest := []) ⟨hx, hb, hml, hown, hts⟩ (c_X12_isPlay l D G cI cJ cB cZ cO qm 0 qm_width qm_many qm_cells qm_moved qm_tape vm_taped vm_at vm_token vm_place vm_value vm_word vm_bad vm_badPlace vm_fault vm_faultPlace qm_lines qm_has qm_round qm_meets fm_meets qm_stumble qm_isMud qm_cell qm_tune qm_change qm_isKept qm_steps qm_places qm_danced vm_runMost vm_runBegins qm_heardBy vm_fitMany vm_fitFirst vm_fitBeats vm_listenLeaves qm_there vm_metAt vm_metIn qm_wins vm_nightHoles vm_nightFirst vm_nightMud vm_nightSlips vm_drawnNow 1024 5 3 h_vm_taped h_vm_at h_vm_value (by decide) (by decide) H.size) (cwV 3 hts gX12_plays_X12_isPlay rfl rfl rfl (by decide +kernel) ⟨Nat.le_of_ble_eq_true rfl, Nat.le_of_ble_eq_true rfl⟩) (ct_preV (T := ct_T cI cJ cB cZ cO) (ci := 12) (q0 := 2) hE hH hP hD hS hA [2, 0] (by decide) rfl rfl rfl) rfl rfl hl.1 rfl (lv_room (Nat.le_of_ble_eq_true rfl)) dX12_plays_45 ⟨Nat.le_of_ble_eq_true rfl, Nat.le_of_ble_eq_true rfl⟩) hP hD hS hA [2, 0] [1, 3] rfl rfl (by decide) (by decide) (fun r1191 u H locs hw hP hD hS => ?_)
            obtain ⟨hP, hD⟩ : ct_B D A H [(qm_lines, .inl (cI, 5, .inl (fm_lines))), (qm_wins, .inl (cI, 24576, .inl (g1160))), mo qm 0 qm_width qm_many qm_cells qm_moved qm_tape vm_taped vm_at vm_token vm_place vm_value vm_word vm_bad vm_badPlace vm_fault vm_faultPlace qm_lines qm_has qm_round qm_meets qm_stumble qm_isMud qm_cell qm_tune qm_change qm_isKept qm_steps qm_places qm_danced vm_runMost vm_runBegins qm_heardBy vm_fitMany vm_fitFirst vm_fitBeats vm_listenLeaves qm_there vm_metAt vm_metIn qm_wins vm_nightHoles vm_nightFirst vm_nightMud vm_nightSlips vm_drawnNow, (qm_meets, .inl (cI, 30, .inl (fm_meets)))] := ⟨hP, hD⟩
            have hz := hw
            rcases hz with ⟨hz, hz2⟩ | ⟨hz, hz2⟩
            · subst hz
              have hz_1192 : (pl (1024 : Int32) (3 : Int32)) := hz2
              refine lv_if_eq (tgt := 68) hx hb dX12_plays_48 (by decide) (fun hc => absurd hc (by decide)) (fun _ => ?_)
              refine lv_aload_n hx hb dX12_plays_51 rfl (lv_at hl 2 rfl) ?_
              refine lv_iload_n hx hb dX12_plays_52 rfl (lv_at hl 1 rfl) ?_
              refine lv_iconst (v := 1) hx hb dX12_plays_53 (by decide) ?_
              refine lv_iconst (v := 2) hx hb dX12_plays_54 (by decide) ?_
              refine lv_iload_n hx hb dX12_plays_55 rfl (lv_at hl 0 rfl) ?_
              refine lv_imul hx hb dX12_plays_56 ?_
              refine lv_topi (fun z1193 ez1193 => ?_)
              obtain rfl : z1193 = 6 := ez1193.trans (by decide)
              refine lv_ishl hx hb dX12_plays_57 ?_
              refine lv_topi (fun z1194 ez1194 => ?_)
              obtain rfl : z1194 = 64 := ez1194.trans (by decide)
              refine lv_iadd hx hb dX12_plays_58 ?_
              refine lv_topi (fun z1195 ez1195 => ?_)
              obtain rfl : z1195 = 1088 := ez1195.trans (by decide)
              refine lv_iload_n hx hb dX12_plays_59 rfl (lv_at hl 0 rfl) ?_
              refine ct_calli (D := D) (wr := [(qm_lines, .inl (cI, 5, .inl (fm_lines)))]) (va_runV (As := [.int 1088, .int 3]) (rest := []) ⟨hx, hb, hml, hown, hts⟩ (c_X12_winsFrom l D G cI cJ cB cZ cO qm 0 qm_width qm_many qm_cells qm_moved qm_tape vm_taped vm_at vm_token vm_place vm_value vm_word vm_bad vm_badPlace vm_fault vm_faultPlace qm_lines qm_has qm_round qm_meets fm_meets qm_stumble qm_isMud qm_cell qm_tune qm_change qm_isKept qm_steps qm_places qm_danced vm_runMost vm_runBegins qm_heardBy vm_fitMany vm_fitFirst vm_fitBeats vm_listenLeaves qm_there vm_metAt vm_metIn qm_wins vm_nightHoles vm_nightFirst vm_nightMud vm_nightSlips vm_drawnNow h_vm_taped h_vm_at h_vm_value 12 g1160 1088 3 (by decide) (by unfold wn; decide) H.size) (cwV 2 hts gX12_plays_X12_winsFrom rfl rfl rfl (by decide +kernel) ⟨Nat.le_of_ble_eq_true rfl, Nat.le_of_ble_eq_true rfl⟩) (ct_preV (T := ct_T cI cJ cB cZ cO) (ci := 12) (q0 := 2) hE hH hP hD hS hA [2, 3, 1] (by decide) rfl rfl rfl) rfl rfl hl.1 rfl (lv_room (Nat.le_of_ble_eq_true rfl)) dX12_plays_60 ⟨Nat.le_of_ble_eq_true rfl, Nat.le_of_ble_eq_true rfl⟩) hP hD hS hA [2, 3, 1] [0] rfl rfl (by decide) (by decide) (fun r1196 u H locs hw hP hD hS => ?_)
              obtain ⟨g1197, rfl⟩ : ∃ z, z = u := ⟨_, rfl⟩
              obtain ⟨hP, hD⟩ : ct_B D A H [(qm_lines, .inl (cI, 5, .inl (fm_lines))), mo qm 0 qm_width qm_many qm_cells qm_moved qm_tape vm_taped vm_at vm_token vm_place vm_value vm_word vm_bad vm_badPlace vm_fault vm_faultPlace qm_lines qm_has qm_round qm_meets qm_stumble qm_isMud qm_cell qm_tune qm_change qm_isKept qm_steps qm_places qm_danced vm_runMost vm_runBegins qm_heardBy vm_fitMany vm_fitFirst vm_fitBeats vm_listenLeaves qm_there vm_metAt vm_metIn qm_wins vm_nightHoles vm_nightFirst vm_nightMud vm_nightSlips vm_drawnNow, (qm_meets, .inl (cI, 30, .inl (fm_meets))), (qm_wins, .inl (cI, 24576, .inl (g1197)))] := ⟨hP, hD⟩
              have hz := hw
              rcases hz with ⟨hz, hz2⟩ | ⟨hz, hz2⟩
              · subst hz
                refine lv_if_ne (tgt := 68) hx hb dX12_plays_63 (by decide) (fun _ => ?_) (fun hc => absurd hc (by decide))
                refine lv_iinc (v := 4) (lv' := [(3, .int 4), (2, .int 1024), (0, .ref qm), (1, .int 5)]) hx hb dX12_plays_68 hl (k := 0) rfl (by decide) (by decide) rfl (fun ls hl => ?_)
                refine lv_goto (tgt := 35) hx hb dX12_plays_71 (by decide) ?_
                have hk1198 : (4 : Int32).toInt = 4 := by decide
                obtain ⟨hP9, hD9⟩ : ct_B D A H [(qm_meets, .inl (cI, 30, .inl (fm_meets))), (qm_lines, .inl (cI, 5, .inl (fm_lines))), mo qm 0 qm_width qm_many qm_cells qm_moved qm_tape vm_taped vm_at vm_token vm_place vm_value vm_word vm_bad vm_badPlace vm_fault vm_faultPlace qm_lines qm_has qm_round qm_meets qm_stumble qm_isMud qm_cell qm_tune qm_change qm_isKept qm_steps qm_places qm_danced vm_runMost vm_runBegins qm_heardBy vm_fitMany vm_fitFirst vm_fitBeats vm_listenLeaves qm_there vm_metAt vm_metIn qm_wins vm_nightHoles vm_nightFirst vm_nightMud vm_nightSlips vm_drawnNow, (qm_wins, .inl (cI, 24576, .inl (g1197)))] := ⟨hP.sub [2, 0, 1, 3] rfl, hD.sub [2, 0, 1, 3] (by decide) rfl⟩
                exact ih1162 (g1197, (4 : Int32)) _ _ _ (show (6 - (4 : Int32).toInt).toNat < (6 - x1161.toInt).toNat by omega) ⟨(show 0 ≤ (4 : Int32).toInt ∧ (4 : Int32).toInt ≤ 6 by decide), ⟨hP9, hD9⟩, hS, lv_sub hl [0, 1, 2, 3] rfl⟩
              · subst hz
                refine lv_if_ne (tgt := 68) hx hb dX12_plays_63 (by decide) (fun hc => absurd hc (by decide)) (fun _ => ?_)
                refine lv_iload_n hx hb dX12_plays_66 rfl (lv_at hl 0 rfl) ?_
                obtain ⟨hP9, hD9⟩ : ct_B D A H [mo qm 0 qm_width qm_many qm_cells qm_moved qm_tape vm_taped vm_at vm_token vm_place vm_value vm_word vm_bad vm_badPlace vm_fault vm_faultPlace qm_lines qm_has qm_round qm_meets qm_stumble qm_isMud qm_cell qm_tune qm_change qm_isKept qm_steps qm_places qm_danced vm_runMost vm_runBegins qm_heardBy vm_fitMany vm_fitFirst vm_fitBeats vm_listenLeaves qm_there vm_metAt vm_metIn qm_wins vm_nightHoles vm_nightFirst vm_nightMud vm_nightSlips vm_drawnNow, (qm_lines, .inl (cI, 5, .inl (fm_lines))), (qm_meets, .inl (cI, 30, .inl (fm_meets))), (qm_wins, .inl (cI, 24576, .inl (g1197)))] := ⟨hP.sub [1, 0, 2, 3] rfl, hD.sub [1, 0, 2, 3] (by decide) rfl⟩
                exact W.iret (v := 3) hx hb hr (fun t ht hW => ⟨⟨3, ((0 : Int32), g1197), rfl, (show (-2) ≤ (3 : Int32).toInt ∧ (3 : Int32).toInt ≤ 5 by decide), by rw [ht]; exact hP9, hD9⟩, hS.F ht⟩) hS.2.2 dX12_plays_67
            · subst hz
              refine lv_if_eq (tgt := 68) hx hb dX12_plays_48 (by decide) (fun _ => ?_) (fun hc => absurd hc (by decide))
              refine lv_iinc (v := 4) (lv' := [(3, .int 4), (2, .int 1024), (0, .ref qm), (1, .int 5)]) hx hb dX12_plays_68 hl (k := 0) rfl (by decide) (by decide) rfl (fun ls hl => ?_)
              refine lv_goto (tgt := 35) hx hb dX12_plays_71 (by decide) ?_
              have hk1199 : (4 : Int32).toInt = 4 := by decide
              obtain ⟨hP9, hD9⟩ : ct_B D A H [(qm_meets, .inl (cI, 30, .inl (fm_meets))), (qm_lines, .inl (cI, 5, .inl (fm_lines))), mo qm 0 qm_width qm_many qm_cells qm_moved qm_tape vm_taped vm_at vm_token vm_place vm_value vm_word vm_bad vm_badPlace vm_fault vm_faultPlace qm_lines qm_has qm_round qm_meets qm_stumble qm_isMud qm_cell qm_tune qm_change qm_isKept qm_steps qm_places qm_danced vm_runMost vm_runBegins qm_heardBy vm_fitMany vm_fitFirst vm_fitBeats vm_listenLeaves qm_there vm_metAt vm_metIn qm_wins vm_nightHoles vm_nightFirst vm_nightMud vm_nightSlips vm_drawnNow, (qm_wins, .inl (cI, 24576, .inl (g1160)))] := ⟨hP.sub [3, 0, 2, 1] rfl, hD.sub [3, 0, 2, 1] (by decide) rfl⟩
              exact ih1162 (g1160, (4 : Int32)) _ _ _ (show (6 - (4 : Int32).toInt).toNat < (6 - x1161.toInt).toNat by omega) ⟨(show 0 ≤ (4 : Int32).toInt ∧ (4 : Int32).toInt ≤ 6 by decide), ⟨hP9, hD9⟩, hS, lv_sub hl [0, 1, 2, 3] rfl⟩
          · have hj2 : x1161 = 4 := tq_of hj (by decide)
            have hl : lv_has ls 4 [(3, .int 4), (2, .int 1024), (0, .ref qm), (1, .int 5)] := by have h9 := hl; rw [hj2] at h9; exact h9
            refine lv_aload_n hx hb dX12_plays_41 rfl (lv_at hl 2 rfl) ?_
            refine lv_iload_n hx hb dX12_plays_42 rfl (lv_at hl 1 rfl) ?_
            refine lv_iload_n hx hb dX12_plays_43 rfl (lv_at hl 3 rfl) ?_
            refine lv_iload_n hx hb dX12_plays_44 rfl (lv_at hl 0 rfl) ?_
            refine ct_calli (D := D) (wr := [(qm_lines, .inl (cI, 5, .inl (fm_lines))), (qm_wins, .inl (cI, 24576, .inl (g1160)))]) (va_runV (As := [.int 1024, .int 5, .int 4]) (rest := []) ⟨hx, hb, hml, hown, hts⟩ (c_X12_isPlay l D G cI cJ cB cZ cO qm 0 qm_width qm_many qm_cells qm_moved qm_tape vm_taped vm_at vm_token vm_place vm_value vm_word vm_bad vm_badPlace vm_fault vm_faultPlace qm_lines qm_has qm_round qm_meets fm_meets qm_stumble qm_isMud qm_cell qm_tune qm_change qm_isKept qm_steps qm_places qm_danced vm_runMost vm_runBegins qm_heardBy vm_fitMany vm_fitFirst vm_fitBeats vm_listenLeaves qm_there vm_metAt vm_metIn qm_wins vm_nightHoles vm_nightFirst vm_nightMud vm_nightSlips vm_drawnNow 1024 5 4 h_vm_taped h_vm_at h_vm_value (by decide) (by decide) H.size) (cwV 3 hts gX12_plays_X12_isPlay rfl rfl rfl (by decide +kernel) ⟨Nat.le_of_ble_eq_true rfl, Nat.le_of_ble_eq_true rfl⟩) (ct_preV (T := ct_T cI cJ cB cZ cO) (ci := 12) (q0 := 2) hE hH hP hD hS hA [2, 0] (by decide) rfl rfl rfl) rfl rfl hl.1 rfl (lv_room (Nat.le_of_ble_eq_true rfl)) dX12_plays_45 ⟨Nat.le_of_ble_eq_true rfl, Nat.le_of_ble_eq_true rfl⟩) hP hD hS hA [2, 0] [1, 3] rfl rfl (by decide) (by decide) (fun r1200 u H locs hw hP hD hS => ?_)
            obtain ⟨hP, hD⟩ : ct_B D A H [(qm_lines, .inl (cI, 5, .inl (fm_lines))), (qm_wins, .inl (cI, 24576, .inl (g1160))), mo qm 0 qm_width qm_many qm_cells qm_moved qm_tape vm_taped vm_at vm_token vm_place vm_value vm_word vm_bad vm_badPlace vm_fault vm_faultPlace qm_lines qm_has qm_round qm_meets qm_stumble qm_isMud qm_cell qm_tune qm_change qm_isKept qm_steps qm_places qm_danced vm_runMost vm_runBegins qm_heardBy vm_fitMany vm_fitFirst vm_fitBeats vm_listenLeaves qm_there vm_metAt vm_metIn qm_wins vm_nightHoles vm_nightFirst vm_nightMud vm_nightSlips vm_drawnNow, (qm_meets, .inl (cI, 30, .inl (fm_meets)))] := ⟨hP, hD⟩
            have hz := hw
            rcases hz with ⟨hz, hz2⟩ | ⟨hz, hz2⟩
            · subst hz
              have hz_1201 : (pl (1024 : Int32) (4 : Int32)) := hz2
              refine lv_if_eq (tgt := 68) hx hb dX12_plays_48 (by decide) (fun hc => absurd hc (by decide)) (fun _ => ?_)
              refine lv_aload_n hx hb dX12_plays_51 rfl (lv_at hl 2 rfl) ?_
              refine lv_iload_n hx hb dX12_plays_52 rfl (lv_at hl 1 rfl) ?_
              refine lv_iconst (v := 1) hx hb dX12_plays_53 (by decide) ?_
              refine lv_iconst (v := 2) hx hb dX12_plays_54 (by decide) ?_
              refine lv_iload_n hx hb dX12_plays_55 rfl (lv_at hl 0 rfl) ?_
              refine lv_imul hx hb dX12_plays_56 ?_
              refine lv_topi (fun z1202 ez1202 => ?_)
              obtain rfl : z1202 = 8 := ez1202.trans (by decide)
              refine lv_ishl hx hb dX12_plays_57 ?_
              refine lv_topi (fun z1203 ez1203 => ?_)
              obtain rfl : z1203 = 256 := ez1203.trans (by decide)
              refine lv_iadd hx hb dX12_plays_58 ?_
              refine lv_topi (fun z1204 ez1204 => ?_)
              obtain rfl : z1204 = 1280 := ez1204.trans (by decide)
              refine lv_iload_n hx hb dX12_plays_59 rfl (lv_at hl 0 rfl) ?_
              refine ct_calli (D := D) (wr := [(qm_lines, .inl (cI, 5, .inl (fm_lines)))]) (va_runV (As := [.int 1280, .int 4]) (rest := []) ⟨hx, hb, hml, hown, hts⟩ (c_X12_winsFrom l D G cI cJ cB cZ cO qm 0 qm_width qm_many qm_cells qm_moved qm_tape vm_taped vm_at vm_token vm_place vm_value vm_word vm_bad vm_badPlace vm_fault vm_faultPlace qm_lines qm_has qm_round qm_meets fm_meets qm_stumble qm_isMud qm_cell qm_tune qm_change qm_isKept qm_steps qm_places qm_danced vm_runMost vm_runBegins qm_heardBy vm_fitMany vm_fitFirst vm_fitBeats vm_listenLeaves qm_there vm_metAt vm_metIn qm_wins vm_nightHoles vm_nightFirst vm_nightMud vm_nightSlips vm_drawnNow h_vm_taped h_vm_at h_vm_value 12 g1160 1280 4 (by decide) (by unfold wn; decide) H.size) (cwV 2 hts gX12_plays_X12_winsFrom rfl rfl rfl (by decide +kernel) ⟨Nat.le_of_ble_eq_true rfl, Nat.le_of_ble_eq_true rfl⟩) (ct_preV (T := ct_T cI cJ cB cZ cO) (ci := 12) (q0 := 2) hE hH hP hD hS hA [2, 3, 1] (by decide) rfl rfl rfl) rfl rfl hl.1 rfl (lv_room (Nat.le_of_ble_eq_true rfl)) dX12_plays_60 ⟨Nat.le_of_ble_eq_true rfl, Nat.le_of_ble_eq_true rfl⟩) hP hD hS hA [2, 3, 1] [0] rfl rfl (by decide) (by decide) (fun r1205 u H locs hw hP hD hS => ?_)
              obtain ⟨g1206, rfl⟩ : ∃ z, z = u := ⟨_, rfl⟩
              obtain ⟨hP, hD⟩ : ct_B D A H [(qm_lines, .inl (cI, 5, .inl (fm_lines))), mo qm 0 qm_width qm_many qm_cells qm_moved qm_tape vm_taped vm_at vm_token vm_place vm_value vm_word vm_bad vm_badPlace vm_fault vm_faultPlace qm_lines qm_has qm_round qm_meets qm_stumble qm_isMud qm_cell qm_tune qm_change qm_isKept qm_steps qm_places qm_danced vm_runMost vm_runBegins qm_heardBy vm_fitMany vm_fitFirst vm_fitBeats vm_listenLeaves qm_there vm_metAt vm_metIn qm_wins vm_nightHoles vm_nightFirst vm_nightMud vm_nightSlips vm_drawnNow, (qm_meets, .inl (cI, 30, .inl (fm_meets))), (qm_wins, .inl (cI, 24576, .inl (g1206)))] := ⟨hP, hD⟩
              have hz := hw
              rcases hz with ⟨hz, hz2⟩ | ⟨hz, hz2⟩
              · subst hz
                refine lv_if_ne (tgt := 68) hx hb dX12_plays_63 (by decide) (fun _ => ?_) (fun hc => absurd hc (by decide))
                refine lv_iinc (v := 5) (lv' := [(3, .int 5), (2, .int 1024), (0, .ref qm), (1, .int 5)]) hx hb dX12_plays_68 hl (k := 0) rfl (by decide) (by decide) rfl (fun ls hl => ?_)
                refine lv_goto (tgt := 35) hx hb dX12_plays_71 (by decide) ?_
                have hk1207 : (5 : Int32).toInt = 5 := by decide
                obtain ⟨hP9, hD9⟩ : ct_B D A H [(qm_meets, .inl (cI, 30, .inl (fm_meets))), (qm_lines, .inl (cI, 5, .inl (fm_lines))), mo qm 0 qm_width qm_many qm_cells qm_moved qm_tape vm_taped vm_at vm_token vm_place vm_value vm_word vm_bad vm_badPlace vm_fault vm_faultPlace qm_lines qm_has qm_round qm_meets qm_stumble qm_isMud qm_cell qm_tune qm_change qm_isKept qm_steps qm_places qm_danced vm_runMost vm_runBegins qm_heardBy vm_fitMany vm_fitFirst vm_fitBeats vm_listenLeaves qm_there vm_metAt vm_metIn qm_wins vm_nightHoles vm_nightFirst vm_nightMud vm_nightSlips vm_drawnNow, (qm_wins, .inl (cI, 24576, .inl (g1206)))] := ⟨hP.sub [2, 0, 1, 3] rfl, hD.sub [2, 0, 1, 3] (by decide) rfl⟩
                exact ih1162 (g1206, (5 : Int32)) _ _ _ (show (6 - (5 : Int32).toInt).toNat < (6 - x1161.toInt).toNat by omega) ⟨(show 0 ≤ (5 : Int32).toInt ∧ (5 : Int32).toInt ≤ 6 by decide), ⟨hP9, hD9⟩, hS, lv_sub hl [0, 1, 2, 3] rfl⟩
              · subst hz
                refine lv_if_ne (tgt := 68) hx hb dX12_plays_63 (by decide) (fun hc => absurd hc (by decide)) (fun _ => ?_)
                refine lv_iload_n hx hb dX12_plays_66 rfl (lv_at hl 0 rfl) ?_
                obtain ⟨hP9, hD9⟩ : ct_B D A H [mo qm 0 qm_width qm_many qm_cells qm_moved qm_tape vm_taped vm_at vm_token vm_place vm_value vm_word vm_bad vm_badPlace vm_fault vm_faultPlace qm_lines qm_has qm_round qm_meets qm_stumble qm_isMud qm_cell qm_tune qm_change qm_isKept qm_steps qm_places qm_danced vm_runMost vm_runBegins qm_heardBy vm_fitMany vm_fitFirst vm_fitBeats vm_listenLeaves qm_there vm_metAt vm_metIn qm_wins vm_nightHoles vm_nightFirst vm_nightMud vm_nightSlips vm_drawnNow, (qm_lines, .inl (cI, 5, .inl (fm_lines))), (qm_meets, .inl (cI, 30, .inl (fm_meets))), (qm_wins, .inl (cI, 24576, .inl (g1206)))] := ⟨hP.sub [1, 0, 2, 3] rfl, hD.sub [1, 0, 2, 3] (by decide) rfl⟩
                exact W.iret (v := 4) hx hb hr (fun t ht hW => ⟨⟨4, ((0 : Int32), g1206), rfl, (show (-2) ≤ (4 : Int32).toInt ∧ (4 : Int32).toInt ≤ 5 by decide), by rw [ht]; exact hP9, hD9⟩, hS.F ht⟩) hS.2.2 dX12_plays_67
            · subst hz
              refine lv_if_eq (tgt := 68) hx hb dX12_plays_48 (by decide) (fun _ => ?_) (fun hc => absurd hc (by decide))
              refine lv_iinc (v := 5) (lv' := [(3, .int 5), (2, .int 1024), (0, .ref qm), (1, .int 5)]) hx hb dX12_plays_68 hl (k := 0) rfl (by decide) (by decide) rfl (fun ls hl => ?_)
              refine lv_goto (tgt := 35) hx hb dX12_plays_71 (by decide) ?_
              have hk1208 : (5 : Int32).toInt = 5 := by decide
              obtain ⟨hP9, hD9⟩ : ct_B D A H [(qm_meets, .inl (cI, 30, .inl (fm_meets))), (qm_lines, .inl (cI, 5, .inl (fm_lines))), mo qm 0 qm_width qm_many qm_cells qm_moved qm_tape vm_taped vm_at vm_token vm_place vm_value vm_word vm_bad vm_badPlace vm_fault vm_faultPlace qm_lines qm_has qm_round qm_meets qm_stumble qm_isMud qm_cell qm_tune qm_change qm_isKept qm_steps qm_places qm_danced vm_runMost vm_runBegins qm_heardBy vm_fitMany vm_fitFirst vm_fitBeats vm_listenLeaves qm_there vm_metAt vm_metIn qm_wins vm_nightHoles vm_nightFirst vm_nightMud vm_nightSlips vm_drawnNow, (qm_wins, .inl (cI, 24576, .inl (g1160)))] := ⟨hP.sub [3, 0, 2, 1] rfl, hD.sub [3, 0, 2, 1] (by decide) rfl⟩
              exact ih1162 (g1160, (5 : Int32)) _ _ _ (show (6 - (5 : Int32).toInt).toNat < (6 - x1161.toInt).toNat by omega) ⟨(show 0 ≤ (5 : Int32).toInt ∧ (5 : Int32).toInt ≤ 6 by decide), ⟨hP9, hD9⟩, hS, lv_sub hl [0, 1, 2, 3] rfl⟩
          · have hj2 : x1161 = 5 := tq_of hj (by decide)
            have hl : lv_has ls 4 [(3, .int 5), (2, .int 1024), (0, .ref qm), (1, .int 5)] := by have h9 := hl; rw [hj2] at h9; exact h9
            refine lv_aload_n hx hb dX12_plays_41 rfl (lv_at hl 2 rfl) ?_
            refine lv_iload_n hx hb dX12_plays_42 rfl (lv_at hl 1 rfl) ?_
            refine lv_iload_n hx hb dX12_plays_43 rfl (lv_at hl 3 rfl) ?_
            refine lv_iload_n hx hb dX12_plays_44 rfl (lv_at hl 0 rfl) ?_
            refine ct_calli (D := D) (wr := [(qm_lines, .inl (cI, 5, .inl (fm_lines))), (qm_wins, .inl (cI, 24576, .inl (g1160)))]) (va_runV (As := [.int 1024, .int 5, .int 5]) (rest := []) ⟨hx, hb, hml, hown, hts⟩ (c_X12_isPlay l D G cI cJ cB cZ cO qm 0 qm_width qm_many qm_cells qm_moved qm_tape vm_taped vm_at vm_token vm_place vm_value vm_word vm_bad vm_badPlace vm_fault vm_faultPlace qm_lines qm_has qm_round qm_meets fm_meets qm_stumble qm_isMud qm_cell qm_tune qm_change qm_isKept qm_steps qm_places qm_danced vm_runMost vm_runBegins qm_heardBy vm_fitMany vm_fitFirst vm_fitBeats vm_listenLeaves qm_there vm_metAt vm_metIn qm_wins vm_nightHoles vm_nightFirst vm_nightMud vm_nightSlips vm_drawnNow 1024 5 5 h_vm_taped h_vm_at h_vm_value (by decide) (by decide) H.size) (cwV 3 hts gX12_plays_X12_isPlay rfl rfl rfl (by decide +kernel) ⟨Nat.le_of_ble_eq_true rfl, Nat.le_of_ble_eq_true rfl⟩) (ct_preV (T := ct_T cI cJ cB cZ cO) (ci := 12) (q0 := 2) hE hH hP hD hS hA [2, 0] (by decide) rfl rfl rfl) rfl rfl hl.1 rfl (lv_room (Nat.le_of_ble_eq_true rfl)) dX12_plays_45 ⟨Nat.le_of_ble_eq_true rfl, Nat.le_of_ble_eq_true rfl⟩) hP hD hS hA [2, 0] [1, 3] rfl rfl (by decide) (by decide) (fun r1209 u H locs hw hP hD hS => ?_)
            obtain ⟨hP, hD⟩ : ct_B D A H [(qm_lines, .inl (cI, 5, .inl (fm_lines))), (qm_wins, .inl (cI, 24576, .inl (g1160))), mo qm 0 qm_width qm_many qm_cells qm_moved qm_tape vm_taped vm_at vm_token vm_place vm_value vm_word vm_bad vm_badPlace vm_fault vm_faultPlace qm_lines qm_has qm_round qm_meets qm_stumble qm_isMud qm_cell qm_tune qm_change qm_isKept qm_steps qm_places qm_danced vm_runMost vm_runBegins qm_heardBy vm_fitMany vm_fitFirst vm_fitBeats vm_listenLeaves qm_there vm_metAt vm_metIn qm_wins vm_nightHoles vm_nightFirst vm_nightMud vm_nightSlips vm_drawnNow, (qm_meets, .inl (cI, 30, .inl (fm_meets)))] := ⟨hP, hD⟩
            have hz := hw
            rcases hz with ⟨hz, hz2⟩ | ⟨hz, hz2⟩
            · subst hz
              have hz_1210 : (pl (1024 : Int32) (5 : Int32)) := hz2
              refine lv_if_eq (tgt := 68) hx hb dX12_plays_48 (by decide) (fun hc => absurd hc (by decide)) (fun _ => ?_)
              refine lv_aload_n hx hb dX12_plays_51 rfl (lv_at hl 2 rfl) ?_
              refine lv_iload_n hx hb dX12_plays_52 rfl (lv_at hl 1 rfl) ?_
              refine lv_iconst (v := 1) hx hb dX12_plays_53 (by decide) ?_
              refine lv_iconst (v := 2) hx hb dX12_plays_54 (by decide) ?_
              refine lv_iload_n hx hb dX12_plays_55 rfl (lv_at hl 0 rfl) ?_
              refine lv_imul hx hb dX12_plays_56 ?_
              refine lv_topi (fun z1211 ez1211 => ?_)
              obtain rfl : z1211 = 10 := ez1211.trans (by decide)
              refine lv_ishl hx hb dX12_plays_57 ?_
              refine lv_topi (fun z1212 ez1212 => ?_)
              obtain rfl : z1212 = 1024 := ez1212.trans (by decide)
              refine lv_iadd hx hb dX12_plays_58 ?_
              refine lv_topi (fun z1213 ez1213 => ?_)
              obtain rfl : z1213 = 2048 := ez1213.trans (by decide)
              refine lv_iload_n hx hb dX12_plays_59 rfl (lv_at hl 0 rfl) ?_
              refine ct_calli (D := D) (wr := [(qm_lines, .inl (cI, 5, .inl (fm_lines)))]) (va_runV (As := [.int 2048, .int 5]) (rest := []) ⟨hx, hb, hml, hown, hts⟩ (c_X12_winsFrom l D G cI cJ cB cZ cO qm 0 qm_width qm_many qm_cells qm_moved qm_tape vm_taped vm_at vm_token vm_place vm_value vm_word vm_bad vm_badPlace vm_fault vm_faultPlace qm_lines qm_has qm_round qm_meets fm_meets qm_stumble qm_isMud qm_cell qm_tune qm_change qm_isKept qm_steps qm_places qm_danced vm_runMost vm_runBegins qm_heardBy vm_fitMany vm_fitFirst vm_fitBeats vm_listenLeaves qm_there vm_metAt vm_metIn qm_wins vm_nightHoles vm_nightFirst vm_nightMud vm_nightSlips vm_drawnNow h_vm_taped h_vm_at h_vm_value 12 g1160 2048 5 (by decide) (by unfold wn; decide) H.size) (cwV 2 hts gX12_plays_X12_winsFrom rfl rfl rfl (by decide +kernel) ⟨Nat.le_of_ble_eq_true rfl, Nat.le_of_ble_eq_true rfl⟩) (ct_preV (T := ct_T cI cJ cB cZ cO) (ci := 12) (q0 := 2) hE hH hP hD hS hA [2, 3, 1] (by decide) rfl rfl rfl) rfl rfl hl.1 rfl (lv_room (Nat.le_of_ble_eq_true rfl)) dX12_plays_60 ⟨Nat.le_of_ble_eq_true rfl, Nat.le_of_ble_eq_true rfl⟩) hP hD hS hA [2, 3, 1] [0] rfl rfl (by decide) (by decide) (fun r1214 u H locs hw hP hD hS => ?_)
              obtain ⟨g1215, rfl⟩ : ∃ z, z = u := ⟨_, rfl⟩
              obtain ⟨hP, hD⟩ : ct_B D A H [(qm_lines, .inl (cI, 5, .inl (fm_lines))), mo qm 0 qm_width qm_many qm_cells qm_moved qm_tape vm_taped vm_at vm_token vm_place vm_value vm_word vm_bad vm_badPlace vm_fault vm_faultPlace qm_lines qm_has qm_round qm_meets qm_stumble qm_isMud qm_cell qm_tune qm_change qm_isKept qm_steps qm_places qm_danced vm_runMost vm_runBegins qm_heardBy vm_fitMany vm_fitFirst vm_fitBeats vm_listenLeaves qm_there vm_metAt vm_metIn qm_wins vm_nightHoles vm_nightFirst vm_nightMud vm_nightSlips vm_drawnNow, (qm_meets, .inl (cI, 30, .inl (fm_meets))), (qm_wins, .inl (cI, 24576, .inl (g1215)))] := ⟨hP, hD⟩
              have hz := hw
              rcases hz with ⟨hz, hz2⟩ | ⟨hz, hz2⟩
              · subst hz
                refine lv_if_ne (tgt := 68) hx hb dX12_plays_63 (by decide) (fun _ => ?_) (fun hc => absurd hc (by decide))
                refine lv_iinc (v := 6) (lv' := [(3, .int 6), (2, .int 1024), (0, .ref qm), (1, .int 5)]) hx hb dX12_plays_68 hl (k := 0) rfl (by decide) (by decide) rfl (fun ls hl => ?_)
                refine lv_goto (tgt := 35) hx hb dX12_plays_71 (by decide) ?_
                have hk1216 : (6 : Int32).toInt = 6 := by decide
                obtain ⟨hP9, hD9⟩ : ct_B D A H [(qm_meets, .inl (cI, 30, .inl (fm_meets))), (qm_lines, .inl (cI, 5, .inl (fm_lines))), mo qm 0 qm_width qm_many qm_cells qm_moved qm_tape vm_taped vm_at vm_token vm_place vm_value vm_word vm_bad vm_badPlace vm_fault vm_faultPlace qm_lines qm_has qm_round qm_meets qm_stumble qm_isMud qm_cell qm_tune qm_change qm_isKept qm_steps qm_places qm_danced vm_runMost vm_runBegins qm_heardBy vm_fitMany vm_fitFirst vm_fitBeats vm_listenLeaves qm_there vm_metAt vm_metIn qm_wins vm_nightHoles vm_nightFirst vm_nightMud vm_nightSlips vm_drawnNow, (qm_wins, .inl (cI, 24576, .inl (g1215)))] := ⟨hP.sub [2, 0, 1, 3] rfl, hD.sub [2, 0, 1, 3] (by decide) rfl⟩
                exact ih1162 (g1215, (6 : Int32)) _ _ _ (show (6 - (6 : Int32).toInt).toNat < (6 - x1161.toInt).toNat by omega) ⟨(show 0 ≤ (6 : Int32).toInt ∧ (6 : Int32).toInt ≤ 6 by decide), ⟨hP9, hD9⟩, hS, lv_sub hl [0, 1, 2, 3] rfl⟩
              · subst hz
                refine lv_if_ne (tgt := 68) hx hb dX12_plays_63 (by decide) (fun hc => absurd hc (by decide)) (fun _ => ?_)
                refine lv_iload_n hx hb dX12_plays_66 rfl (lv_at hl 0 rfl) ?_
                obtain ⟨hP9, hD9⟩ : ct_B D A H [mo qm 0 qm_width qm_many qm_cells qm_moved qm_tape vm_taped vm_at vm_token vm_place vm_value vm_word vm_bad vm_badPlace vm_fault vm_faultPlace qm_lines qm_has qm_round qm_meets qm_stumble qm_isMud qm_cell qm_tune qm_change qm_isKept qm_steps qm_places qm_danced vm_runMost vm_runBegins qm_heardBy vm_fitMany vm_fitFirst vm_fitBeats vm_listenLeaves qm_there vm_metAt vm_metIn qm_wins vm_nightHoles vm_nightFirst vm_nightMud vm_nightSlips vm_drawnNow, (qm_lines, .inl (cI, 5, .inl (fm_lines))), (qm_meets, .inl (cI, 30, .inl (fm_meets))), (qm_wins, .inl (cI, 24576, .inl (g1215)))] := ⟨hP.sub [1, 0, 2, 3] rfl, hD.sub [1, 0, 2, 3] (by decide) rfl⟩
                exact W.iret (v := 5) hx hb hr (fun t ht hW => ⟨⟨5, ((0 : Int32), g1215), rfl, (show (-2) ≤ (5 : Int32).toInt ∧ (5 : Int32).toInt ≤ 5 by decide), by rw [ht]; exact hP9, hD9⟩, hS.F ht⟩) hS.2.2 dX12_plays_67
            · subst hz
              refine lv_if_eq (tgt := 68) hx hb dX12_plays_48 (by decide) (fun _ => ?_) (fun hc => absurd hc (by decide))
              refine lv_iinc (v := 6) (lv' := [(3, .int 6), (2, .int 1024), (0, .ref qm), (1, .int 5)]) hx hb dX12_plays_68 hl (k := 0) rfl (by decide) (by decide) rfl (fun ls hl => ?_)
              refine lv_goto (tgt := 35) hx hb dX12_plays_71 (by decide) ?_
              have hk1217 : (6 : Int32).toInt = 6 := by decide
              obtain ⟨hP9, hD9⟩ : ct_B D A H [(qm_meets, .inl (cI, 30, .inl (fm_meets))), (qm_lines, .inl (cI, 5, .inl (fm_lines))), mo qm 0 qm_width qm_many qm_cells qm_moved qm_tape vm_taped vm_at vm_token vm_place vm_value vm_word vm_bad vm_badPlace vm_fault vm_faultPlace qm_lines qm_has qm_round qm_meets qm_stumble qm_isMud qm_cell qm_tune qm_change qm_isKept qm_steps qm_places qm_danced vm_runMost vm_runBegins qm_heardBy vm_fitMany vm_fitFirst vm_fitBeats vm_listenLeaves qm_there vm_metAt vm_metIn qm_wins vm_nightHoles vm_nightFirst vm_nightMud vm_nightSlips vm_drawnNow, (qm_wins, .inl (cI, 24576, .inl (g1160)))] := ⟨hP.sub [3, 0, 2, 1] rfl, hD.sub [3, 0, 2, 1] (by decide) rfl⟩
              exact ih1162 (g1160, (6 : Int32)) _ _ _ (show (6 - (6 : Int32).toInt).toNat < (6 - x1161.toInt).toNat by omega) ⟨(show 0 ≤ (6 : Int32).toInt ∧ (6 : Int32).toInt ≤ 6 by decide), ⟨hP9, hD9⟩, hS, lv_sub hl [0, 1, 2, 3] rfl⟩
    · subst hz
      have hz_1218 : ¬ (0 ≤ z2.toInt ∧ z2.toInt ≤ 5) := hz2
      refine lv_if_ne (tgt := 23) hx hb dX12_plays_17 (by decide) (fun hc => absurd hc (by decide)) (fun _ => ?_)
      refine lv_bipush (v := (-2)) hx hb dX12_plays_20 (by decide) ?_
      obtain ⟨hP9, hD9⟩ : ct_B D A H [mo qm 0 qm_width qm_many qm_cells qm_moved qm_tape vm_taped vm_at vm_token vm_place vm_value vm_word vm_bad vm_badPlace vm_fault vm_faultPlace qm_lines qm_has qm_round qm_meets qm_stumble qm_isMud qm_cell qm_tune qm_change qm_isKept qm_steps qm_places qm_danced vm_runMost vm_runBegins qm_heardBy vm_fitMany vm_fitFirst vm_fitBeats vm_listenLeaves qm_there vm_metAt vm_metIn qm_wins vm_nightHoles vm_nightFirst vm_nightMud vm_nightSlips vm_drawnNow, (qm_lines, .inl (cI, 5, .inl (fm_lines))), (qm_meets, .inl (cI, 30, .inl (fm_meets))), (qm_wins, .inl (cI, 24576, .inl (fm_wins)))] := ⟨hP.sub [2, 3, 0, 1] rfl, hD.sub [2, 3, 0, 1] (by decide) rfl⟩
      exact W.iret (v := (-2)) hx hb hr (fun t ht hW => ⟨⟨(-2), ((0 : Int32), fm_wins), rfl, (show (-2) ≤ (-2 : Int32).toInt ∧ (-2 : Int32).toInt ≤ 5 by decide), by rw [ht]; exact hP9, hD9⟩, hS.F ht⟩) hS.2.2 dX12_plays_22
  · subst hz
    refine lv_if_eq (tgt := 20) hx hb dX12_plays_9 (by decide) (fun _ => ?_) (fun hc => absurd hc (by decide))
    refine lv_bipush (v := (-2)) hx hb dX12_plays_20 (by decide) ?_
    obtain ⟨hP9, hD9⟩ : ct_B D A H [mo qm 0 qm_width qm_many qm_cells qm_moved qm_tape vm_taped vm_at vm_token vm_place vm_value vm_word vm_bad vm_badPlace vm_fault vm_faultPlace qm_lines qm_has qm_round qm_meets qm_stumble qm_isMud qm_cell qm_tune qm_change qm_isKept qm_steps qm_places qm_danced vm_runMost vm_runBegins qm_heardBy vm_fitMany vm_fitFirst vm_fitBeats vm_listenLeaves qm_there vm_metAt vm_metIn qm_wins vm_nightHoles vm_nightFirst vm_nightMud vm_nightSlips vm_drawnNow, (qm_lines, .inl (cI, 5, .inl (fm_lines))), (qm_meets, .inl (cI, 30, .inl (fm_meets))), (qm_wins, .inl (cI, 24576, .inl (fm_wins)))] := ⟨hP.sub [2, 3, 0, 1] rfl, hD.sub [2, 3, 0, 1] (by decide) rfl⟩
    exact W.iret (v := (-2)) hx hb hr (fun t ht hW => ⟨⟨(-2), ((0 : Int32), fm_wins), rfl, (show (-2) ≤ (-2 : Int32).toInt ∧ (-2 : Int32).toInt ≤ 5 by decide), by rw [ht]; exact hP9, hD9⟩, hS.F ht⟩) hS.2.2 dX12_plays_22
