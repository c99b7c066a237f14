abbrev w_c_X12_isSet (cI cJ cB cZ cO : ClassId) (qm : Nat) (vm_thrown : Int32) (qm_width : Nat) (qm_many : Nat) (qm_cells : Nat) (qm_moved : Nat) (qm_tape : Nat) (vm_taped : Int32) (vm_at : Int32) (vm_token : Int32) (vm_place : Int32) (vm_value : Int32) (vm_word : Int64) (vm_bad : Int32) (vm_badPlace : Int32) (vm_fault : Int32) (vm_faultPlace : Int32) (qm_lines : Nat) (fm_lines : Nat → Int32) (qm_has : Nat) (fm_has : Nat → Int32) (qm_round : Nat) (qm_meets : Nat) (qm_stumble : Nat) (qm_isMud : Nat) (qm_cell : Nat) (qm_tune : Nat) (qm_change : Nat) (qm_isKept : Nat) (qm_steps : Nat) (qm_places : Nat) (qm_danced : Nat) (vm_runMost : Int32) (vm_runBegins : Int32) (qm_heardBy : Nat) (vm_fitMany : Int32) (vm_fitFirst : Int32) (vm_fitBeats : Int64) (vm_listenLeaves : Int32) (qm_there : Nat) (vm_metAt : Int32) (vm_metIn : Int32) (qm_wins : Nat) (vm_nightHoles : Int32) (vm_nightFirst : Int32) (vm_nightMud : Int32) (vm_nightSlips : Int32) (vm_drawnNow : Int64) : va_W := [mo qm vm_thrown qm_width qm_many qm_cells qm_moved qm_tape vm_taped vm_at vm_token vm_place vm_value vm_word vm_bad vm_badPlace vm_fault vm_faultPlace qm_lines qm_has qm_round qm_meets qm_stumble qm_isMud qm_cell qm_tune qm_change qm_isKept qm_steps qm_places qm_danced vm_runMost vm_runBegins qm_heardBy vm_fitMany vm_fitFirst vm_fitBeats vm_listenLeaves qm_there vm_metAt vm_metIn qm_wins vm_nightHoles vm_nightFirst vm_nightMud vm_nightSlips vm_drawnNow, (qm_lines, .inl (cI, 5, .inl (fm_lines))), (qm_has, .inl (cI, 55, .inl (fm_has)))]
set_option maxHeartbeats 4000000 in
set_option maxRecDepth 100000 in
/-- X12 isSet -/
theorem c_X12_isSet (l : Launch) (D : va_G) (G : ct_G) (cI cJ cB cZ cO : ClassId) (qm : Nat) (vm_thrown : Int32) (qm_width : Nat) (qm_many : Nat) (qm_cells : Nat) (qm_moved : Nat) (qm_tape : Nat) (vm_taped : Int32) (vm_at : Int32) (vm_token : Int32) (vm_place : Int32) (vm_value : Int32) (vm_word : Int64) (vm_bad : Int32) (vm_badPlace : Int32) (vm_fault : Int32) (vm_faultPlace : Int32) (qm_lines : Nat) (fm_lines : Nat → Int32) (qm_has : Nat) (fm_has : Nat → Int32) (qm_round : Nat) (qm_meets : Nat) (qm_stumble : Nat) (qm_isMud : Nat) (qm_cell : Nat) (qm_tune : Nat) (qm_change : Nat) (qm_isKept : Nat) (qm_steps : Nat) (qm_places : Nat) (qm_danced : Nat) (vm_runMost : Int32) (vm_runBegins : Int32) (qm_heardBy : Nat) (vm_fitMany : Int32) (vm_fitFirst : Int32) (vm_fitBeats : Int64) (vm_listenLeaves : Int32) (qm_there : Nat) (vm_metAt : Int32) (vm_metIn : Int32) (qm_wins : Nat) (vm_nightHoles : Int32) (vm_nightFirst : Int32) (vm_nightMud : Int32) (vm_nightSlips : Int32) (vm_drawnNow : Int64) (a1 : Int32) (h_vm_taped : 0 ≤ vm_taped.toInt ∧ vm_taped.toInt ≤ 1200) (h_vm_at : 0 ≤ vm_at.toInt ∧ vm_at.toInt ≤ 1200) (h_vm_value : 0 ≤ vm_value.toInt ∧ vm_value.toInt ≤ 1000009) (h_fm_has : ar_ok [0, (-2147483648), (-2147483648), 0, 0, 0, 0, 0, 0, 0, 0] [20, 2147483647, 2147483647, 12, 12, 11, 11, 8, 12, 5, 40] fm_has) (sz : Nat) : Met l yX12_isSet wsX12_isSet ({ frames := 1, cells := 0, slots := 0, locals := 25 }) (va_Pc [.ref qm, .int a1] (ct_P D (ct_T cI cJ cB cZ cO) G (w_c_X12_isSet cI cJ cB cZ cO qm vm_thrown qm_width qm_many qm_cells qm_moved qm_tape vm_taped vm_at vm_token vm_place vm_value vm_word vm_bad vm_badPlace vm_fault vm_faultPlace qm_lines fm_lines qm_has fm_has qm_round qm_meets qm_stumble qm_isMud qm_cell qm_tune qm_change qm_isKept qm_steps qm_places qm_danced vm_runMost vm_runBegins qm_heardBy vm_fitMany vm_fitFirst vm_fitBeats vm_listenLeaves qm_there vm_metAt vm_metIn qm_wins vm_nightHoles vm_nightFirst vm_nightMud vm_nightSlips vm_drawnNow) sz)) (va_Qi (fun (rz : Int32) (u : Unit) => ((rz = 1 ∧ True) ∨ (rz = 0 ∧ True))) (fun (u : Unit) t => ct_Q D (va_A (w_c_X12_isSet cI cJ cB cZ cO qm vm_thrown qm_width qm_many qm_cells qm_moved qm_tape vm_taped vm_at vm_token vm_place vm_value vm_word vm_bad vm_badPlace vm_fault vm_faultPlace qm_lines fm_lines qm_has fm_has qm_round qm_meets qm_stumble qm_isMud qm_cell qm_tune qm_change qm_isKept qm_steps qm_places qm_danced vm_runMost vm_runBegins qm_heardBy vm_fitMany vm_fitFirst vm_fitBeats vm_listenLeaves qm_there vm_metAt vm_metIn qm_wins vm_nightHoles vm_nightFirst vm_nightMud vm_nightSlips vm_drawnNow) sz) [mo qm vm_thrown qm_width qm_many qm_cells qm_moved qm_tape vm_taped vm_at vm_token vm_place vm_value vm_word vm_bad vm_badPlace vm_fault vm_faultPlace qm_lines qm_has qm_round qm_meets qm_stumble qm_isMud qm_cell qm_tune qm_change qm_isKept qm_steps qm_places qm_danced vm_runMost vm_runBegins qm_heardBy vm_fitMany vm_fitFirst vm_fitBeats vm_listenLeaves qm_there vm_metAt vm_metIn qm_wins vm_nightHoles vm_nightFirst vm_nightMud vm_nightSlips vm_drawnNow, (qm_lines, .inl (cI, 5, .inl (fm_lines))), (qm_has, .inl (cI, 55, .inl (fm_has)))] t) (va_A (w_c_X12_isSet cI cJ cB cZ cO qm vm_thrown qm_width qm_many qm_cells qm_moved qm_tape vm_taped vm_at vm_token vm_place vm_value vm_word vm_bad vm_badPlace vm_fault vm_faultPlace qm_lines fm_lines qm_has fm_has qm_round qm_meets qm_stumble qm_isMud qm_cell qm_tune qm_change qm_isKept qm_steps qm_places qm_danced vm_runMost vm_runBegins qm_heardBy vm_fitMany vm_fitFirst vm_fitBeats vm_listenLeaves qm_there vm_metAt vm_metIn qm_wins vm_nightHoles vm_nightFirst vm_nightMud vm_nightSlips vm_drawnNow) sz)) 0 0 (va_A (w_c_X12_isSet cI cJ cB cZ cO qm vm_thrown qm_width qm_many qm_cells qm_moved qm_tape vm_taped vm_at vm_token vm_place vm_value vm_word vm_bad vm_badPlace vm_fault vm_faultPlace qm_lines fm_lines qm_has fm_has qm_round qm_meets qm_stumble qm_isMud qm_cell qm_tune qm_change qm_isKept qm_steps qm_places qm_danced vm_runMost vm_runBegins qm_heardBy vm_fitMany vm_fitFirst vm_fitBeats vm_listenLeaves qm_there vm_metAt vm_metIn qm_wins vm_nightHoles vm_nightFirst vm_nightMud vm_nightSlips vm_drawnNow) sz) := by
  refine Met.ofW (cc := cX12_isSet) (maxL := 2) (ret := (some .boolean)) (by decide) rfl ?_
  intro p e s m args below meth c s₁ B hml hv
  obtain ⟨rfl, hsz, hP, hE, hD0, hH⟩ := hv
  have hx := B.exec
  have hb := B.bytes
  have hr := B.returns
  have hts := atoms_spec (ws := wsX12_isSet) B.pre
  have hown : s.vm.findClass RX12 = some m.cls := findClass_of_methodNamed B.named
  have hlocks := B.notSynchronized
  have hK := hE.1
  have hi12 : ∀ w ∈ u_ws RX12 TX12 45, w ∈ wsX12_isSet := fun w h => List.mem_cons_of_mem _ (List.mem_append_right _ h)
  subst hsz
  have hD := hD0.self (sz := s.heap.size)
  generalize hAe : va_A (w_c_X12_isSet cI cJ cB cZ cO qm vm_thrown qm_width qm_many qm_cells qm_moved qm_tape vm_taped vm_at vm_token vm_place vm_value vm_word vm_bad vm_badPlace vm_fault vm_faultPlace qm_lines fm_lines qm_has fm_has qm_round qm_meets qm_stumble qm_isMud qm_cell qm_tune qm_change qm_isKept qm_steps qm_places qm_danced vm_runMost vm_runBegins qm_heardBy vm_fitMany vm_fitFirst vm_fitBeats vm_listenLeaves qm_there vm_metAt vm_metIn qm_wins vm_nightHoles vm_nightFirst vm_nightMud vm_nightSlips vm_drawnNow) s.heap.size = A at hD hH ⊢
  have hA : ∀ q : Nat, s.heap.size ≤ q → A q := fun q h => by rw [← hAe]; exact Or.inr h
  have hS : va_S A s.heap s.heap [] := va_S.rf
  obtain ⟨hP, hD⟩ : ct_B D A s.heap [mo qm vm_thrown qm_width qm_many qm_cells qm_moved qm_tape vm_taped vm_at vm_token vm_place vm_value vm_word vm_bad vm_badPlace vm_fault vm_faultPlace qm_lines qm_has qm_round qm_meets qm_stumble qm_isMud qm_cell qm_tune qm_change qm_isKept qm_steps qm_places qm_danced vm_runMost vm_runBegins qm_heardBy vm_fitMany vm_fitFirst vm_fitBeats vm_listenLeaves qm_there vm_metAt vm_metIn qm_wins vm_nightHoles vm_nightFirst vm_nightMud vm_nightSlips vm_drawnNow, (qm_lines, .inl (cI, 5, .inl (fm_lines))), (qm_has, .inl (cI, 55, .inl (fm_has)))] := ⟨hP, hD⟩
  have hl := lv_entry ([.ref qm, .int a1]) (n := 2) (Nat.le_of_ble_eq_true rfl)
  rw [lg_entry_eq]
  generalize (lg_sl ([.ref qm, .int a1]) ++ List.replicate (2 - (lg_sl ([.ref qm, .int a1])).length) Slot.unset).toArray = ls at hl ⊢
  have hl : lv_has ls 2 [(0, .ref qm), (1, .int a1)] := hl
  obtain ⟨H, hHe⟩ : ∃ H : Heap, H = s.heap := ⟨_, rfl⟩
  rw [← hHe] at hP
  have hS : va_S A s.heap H [] := by rw [hHe]; exact va_S.rf
  refine ct_start hHe ?_
  refine lv_aload_n hx hb dX12_isSet_0 rfl (lv_at hl 0 rfl) ?_
  refine ct_calli (D := D) (wr := [(qm_has, .inl (cI, 55, .inl (fm_has)))]) (va_runV (As := []) (rest := []) ⟨hx, hb, hml, hown, hts⟩ (c_X12_isDance l D G cI cJ cB cZ cO qm vm_thrown qm_width qm_many qm_cells qm_moved qm_tape vm_taped vm_at vm_token vm_place vm_value vm_word vm_bad vm_badPlace vm_fault vm_faultPlace qm_lines fm_lines qm_has qm_round qm_meets qm_stumble qm_isMud qm_cell qm_tune qm_change qm_isKept qm_steps qm_places qm_danced vm_runMost vm_runBegins qm_heardBy vm_fitMany vm_fitFirst vm_fitBeats vm_listenLeaves qm_there vm_metAt vm_metIn qm_wins vm_nightHoles vm_nightFirst vm_nightMud vm_nightSlips vm_drawnNow h_vm_taped h_vm_at h_vm_value H.size) (cwV 0 hts gX12_isSet_X12_isDance rfl rfl rfl (by decide +kernel) ⟨Nat.le_of_ble_eq_true rfl, Nat.le_of_ble_eq_true rfl⟩) (ct_preV (T := ct_T cI cJ cB cZ cO) (ci := 12) (q0 := 0) hE hH hP hD hS hA [0, 1] (by decide) rfl rfl rfl) rfl rfl hl.1 rfl (lv_room (Nat.le_of_ble_eq_true rfl)) dX12_isSet_1 ⟨Nat.le_of_ble_eq_true rfl, Nat.le_of_ble_eq_true rfl⟩) hP hD hS hA [0, 1] [2] rfl rfl (by decide) (by decide) (fun r1 u H locs hw hP hD hS => ?_)
  obtain ⟨hP, hD⟩ : ct_B D A H [(qm_has, .inl (cI, 55, .inl (fm_has))), mo qm vm_thrown qm_width qm_many qm_cells qm_moved qm_tape vm_taped vm_at vm_token vm_place vm_value vm_word vm_bad vm_badPlace vm_fault vm_faultPlace qm_lines qm_has qm_round qm_meets qm_stumble qm_isMud qm_cell qm_tune qm_change qm_isKept qm_steps qm_places qm_danced vm_runMost vm_runBegins qm_heardBy vm_fitMany vm_fitFirst vm_fitBeats vm_listenLeaves qm_there vm_metAt vm_metIn qm_wins vm_nightHoles vm_nightFirst vm_nightMud vm_nightSlips vm_drawnNow, (qm_lines, .inl (cI, 5, .inl (fm_lines)))] := ⟨hP, hD⟩
  have hz := hw
  rcases hz with ⟨hz, hz2⟩ | ⟨hz, hz2⟩
  · subst hz
    refine lv_if_eq (tgt := 32) hx hb dX12_isSet_4 (by decide) (fun hc => absurd hc (by decide)) (fun _ => ?_)
    refine lv_iload_n hx hb dX12_isSet_7 rfl (lv_at hl 1 rfl) ?_
    refine lv_i2l (v := _) hx hb dX12_isSet_8 rfl ?_
    refine lv_topl (fun z2 ez2 => ?_)
    have fz2 : z2.toInt = a1.toInt := by rw [ez2]; exact tl_i rfl
    refine lv_lconst (v := 0) hx hb dX12_isSet_9 (by decide) ?_
    refine lv_iconst (v := 1) hx hb dX12_isSet_10 (by decide) ?_
    refine lv_aload_n hx hb dX12_isSet_11 rfl (lv_at hl 0 rfl) ?_
    refine va_get (D := D) (ci := 12) (v := .ref qm_has) (C := RX12) (T := TX12) (N := 45) hx hb hts hi12 hown hK hP 1 rfl rfl 17 (by decide) (hts (.fieldLink RX12 34 "OverHillModel" "has" "[I") (by decide +kernel)) (fun _ h9 => h9) rfl dX12_isSet_12 ?_
    refine lv_bipush (v := 9) hx hb dX12_isSet_15 (by decide) ?_
    refine va_iald (D := D) hx hb hK hP 0 0 rfl rfl (tq_in (a := 9) (by decide) (by omega)) dX12_isSet_17 ?_
    refine lv_topi (fun z3 ez3 => ?_)
    have fz3 : 0 ≤ z3.toInt ∧ z3.toInt ≤ 5 := by rw [ez3]; exact ar_get h_fm_has (9 : Int32) 9 (by decide) (by decide) rfl
    refine lv_ishl hx hb dX12_isSet_18 ?_
    refine lv_topi (fun z4 ez4 => ?_)
    have fz4 : 1 ≤ z4.toInt ∧ z4.toInt ≤ 32 := by rw [ez4]; exact tq_shl5 rfl (by omega)
    refine lv_iconst (v := 1) hx hb dX12_isSet_19 (by decide) ?_
    refine lv_isub hx hb dX12_isSet_20 ?_
    refine lv_topi (fun z5 ez5 => ?_)
    have fz5 : z5.toInt = z4.toInt - 1 := by rw [ez5]; exact tq_subt rfl (by decide) (by omega)
    refine lv_i2l (v := _) hx hb dX12_isSet_21 rfl ?_
    refine lv_topl (fun z6 ez6 => ?_)
    have fz6 : z6.toInt = z5.toInt := by rw [ez6]; exact tl_i rfl
    refine ct_calli (D := D) (wr := [(qm_has, .inl (cI, 55, .inl (fm_has))), mo qm vm_thrown qm_width qm_many qm_cells qm_moved qm_tape vm_taped vm_at vm_token vm_place vm_value vm_word vm_bad vm_badPlace vm_fault vm_faultPlace qm_lines qm_has qm_round qm_meets qm_stumble qm_isMud qm_cell qm_tune qm_change qm_isKept qm_steps qm_places qm_danced vm_runMost vm_runBegins qm_heardBy vm_fitMany vm_fitFirst vm_fitBeats vm_listenLeaves qm_there vm_metAt vm_metIn qm_wins vm_nightHoles vm_nightFirst vm_nightMud vm_nightSlips vm_drawnNow, (qm_lines, .inl (cI, 5, .inl (fm_lines)))]) (va_runS (As := [.long z2, .long 0, .long z6]) (rest := []) ⟨hx, hb, hml, hown, hts⟩ (c_X12_in l D G cI cJ cB cZ cO z2 0 z6  H.size) (va_cwS 3 hts gX12_isSet_X12_in rfl rfl rfl (by decide +kernel) ⟨Nat.le_of_ble_eq_true rfl, Nat.le_of_ble_eq_true rfl⟩) (ct_preS (T := ct_T cI cJ cB cZ cO) hE hH hP hD hS hA [] (by decide) rfl) rfl rfl hl.1 rfl (lv_room (Nat.le_of_ble_eq_true rfl)) dX12_isSet_22 ⟨Nat.le_of_ble_eq_true rfl, Nat.le_of_ble_eq_true rfl⟩) hP hD hS hA [] [0, 1, 2] rfl rfl (by decide) (by decide) (fun r7 u H locs hw hP hD hS => ?_)
    obtain ⟨hP, hD⟩ : ct_B D A H [(qm_has, .inl (cI, 55, .inl (fm_has))), mo qm vm_thrown qm_width qm_many qm_cells qm_moved qm_tape vm_taped vm_at vm_token vm_place vm_value vm_word vm_bad vm_badPlace vm_fault vm_faultPlace qm_lines qm_has qm_round qm_meets qm_stumble qm_isMud qm_cell qm_tune qm_change qm_isKept qm_steps qm_places qm_danced vm_runMost vm_runBegins qm_heardBy vm_fitMany vm_fitFirst vm_fitBeats vm_listenLeaves qm_there vm_metAt vm_metIn qm_wins vm_nightHoles vm_nightFirst vm_nightMud vm_nightSlips vm_drawnNow, (qm_lines, .inl (cI, 5, .inl (fm_lines)))] := ⟨hP, hD⟩
    have hk8 : (0 : Int64).toInt = 0 := by decide
    have hz := hw
    rcases hz with ⟨hz, hz2⟩ | ⟨hz, hz2⟩
    · subst hz
      have hz_9 : ((0 : Int64).toInt ≤ z2.toInt ∧ z2.toInt ≤ z6.toInt) := hz2
      refine lv_if_eq (tgt := 32) hx hb dX12_isSet_25 (by decide) (fun hc => absurd hc (by decide)) (fun _ => ?_)
      refine lv_iconst (v := 1) hx hb dX12_isSet_28 (by decide) ?_
      refine lv_goto (tgt := 33) hx hb dX12_isSet_29 (by decide) ?_
      obtain ⟨hP9, hD9⟩ : ct_B D A H [mo qm vm_thrown qm_width qm_many qm_cells qm_moved qm_tape vm_taped vm_at vm_token vm_place vm_value vm_word vm_bad vm_badPlace vm_fault vm_faultPlace qm_lines qm_has qm_round qm_meets qm_stumble qm_isMud qm_cell qm_tune qm_change qm_isKept qm_steps qm_places qm_danced vm_runMost vm_runBegins qm_heardBy vm_fitMany vm_fitFirst vm_fitBeats vm_listenLeaves qm_there vm_metAt vm_metIn qm_wins vm_nightHoles vm_nightFirst vm_nightMud vm_nightSlips vm_drawnNow, (qm_lines, .inl (cI, 5, .inl (fm_lines))), (qm_has, .inl (cI, 55, .inl (fm_has)))] := ⟨hP.sub [1, 2, 0] rfl, hD.sub [1, 2, 0] (by decide) rfl⟩
      exact W.zret (v := 1) (ty := .boolean) hx hb hr rfl (fun t ht hW => ⟨⟨1, (), rfl, (Or.inl ⟨rfl, trivial⟩), by rw [ht]; exact hP9, hD9⟩, hS.F ht⟩) hS.2.2 dX12_isSet_33
    · subst hz
      have hz_10 : ¬ ((0 : Int64).toInt ≤ z2.toInt ∧ z2.toInt ≤ z6.toInt) := hz2
      refine lv_if_eq (tgt := 32) hx hb dX12_isSet_25 (by decide) (fun _ => ?_) (fun hc => absurd hc (by decide))
      refine lv_iconst (v := 0) hx hb dX12_isSet_32 (by decide) ?_
      obtain ⟨hP9, hD9⟩ : ct_B D A H [mo qm vm_thrown qm_width qm_many qm_cells qm_moved qm_tape vm_taped vm_at vm_token vm_place vm_value vm_word vm_bad vm_badPlace vm_fault vm_faultPlace qm_lines qm_has qm_round qm_meets qm_stumble qm_isMud qm_cell qm_tune qm_change qm_isKept qm_steps qm_places qm_danced vm_runMost vm_runBegins qm_heardBy vm_fitMany vm_fitFirst vm_fitBeats vm_listenLeaves qm_there vm_metAt vm_metIn qm_wins vm_nightHoles vm_nightFirst vm_nightMud vm_nightSlips vm_drawnNow, (qm_lines, .inl (cI, 5, .inl (fm_lines))), (qm_has, .inl (cI, 55, .inl (fm_has)))] := ⟨hP.sub [1, 2, 0] rfl, hD.sub [1, 2, 0] (by decide) rfl⟩
      exact W.zret (v := 0) (ty := .boolean) hx hb hr rfl (fun t ht hW => ⟨⟨0, (), rfl, (Or.inr (⟨rfl, trivial⟩)), by rw [ht]; exact hP9, hD9⟩, hS.F ht⟩) hS.2.2 dX12_isSet_33
  · subst hz
    refine lv_if_eq (tgt := 32) hx hb dX12_isSet_4 (by decide) (fun _ => ?_) (fun hc => absurd hc (by decide))
    refine lv_iconst (v := 0) hx hb dX12_isSet_32 (by decide) ?_
    obtain ⟨hP9, hD9⟩ : ct_B D A H [mo qm vm_thrown qm_width qm_many qm_cells qm_moved qm_tape vm_taped vm_at vm_token vm_place vm_value vm_word vm_bad vm_badPlace vm_fault vm_faultPlace qm_lines qm_has qm_round qm_meets qm_stumble qm_isMud qm_cell qm_tune qm_change qm_isKept qm_steps qm_places qm_danced vm_runMost vm_runBegins qm_heardBy vm_fitMany vm_fitFirst vm_fitBeats vm_listenLeaves qm_there vm_metAt vm_metIn qm_wins vm_nightHoles vm_nightFirst vm_nightMud vm_nightSlips vm_drawnNow, (qm_lines, .inl (cI, 5, .inl (fm_lines))), (qm_has, .inl (cI, 55, .inl (fm_has)))] := ⟨hP.sub [1, 2, 0] rfl, hD.sub [1, 2, 0] (by decide) rfl⟩
    exact W.zret (v := 0) (ty := .boolean) hx hb hr rfl (fun t ht hW => ⟨⟨0, (), rfl, (Or.inr (⟨rfl, trivial⟩)), by rw [ht]; exact hP9, hD9⟩, hS.F ht⟩) hS.2.2 dX12_isSet_33
abbrev w_c_X12_againOf (cI cJ cB cZ cO : ClassId) (qm : Nat) (vm_thrown : Int32) (qm_width : Nat) (qm_many : Nat) (qm_cells : Nat) (qm_moved : Nat) (qm_tape : Nat) (vm_taped : Int32) (vm_at : Int32) (vm_token : Int32) (vm_place : Int32) (vm_value : Int32) (vm_word : Int64) (vm_bad : Int32) (vm_badPlace : Int32) (vm_fault : Int32) (vm_faultPlace : Int32) (qm_lines : Nat) (qm_has : Nat) (fm_has : Nat → Int32) (qm_round : Nat) (qm_meets : Nat) (qm_stumble : Nat) (qm_isMud : Nat) (qm_cell : Nat) (qm_tune : Nat) (fm_tune : Nat → Int32) (qm_change : Nat) (qm_isKept : Nat) (qm_steps : Nat) (qm_places : Nat) (qm_danced : Nat) (vm_runMost : Int32) (vm_runBegins : Int32) (qm_heardBy : Nat) (vm_fitMany : Int32) (vm_fitFirst : Int32) (vm_fitBeats : Int64) (vm_listenLeaves : Int32) (qm_there : Nat) (vm_metAt : Int32) (vm_metIn : Int32) (qm_wins : Nat) (vm_nightHoles : Int32) (vm_nightFirst : Int32) (vm_nightMud : Int32) (vm_nightSlips : Int32) (vm_drawnNow : Int64) : va_W := [mo qm vm_thrown qm_width qm_many qm_cells qm_moved qm_tape vm_taped vm_at vm_token vm_place vm_value vm_word vm_bad vm_badPlace vm_fault vm_faultPlace qm_lines qm_has qm_round qm_meets qm_stumble qm_isMud qm_cell qm_tune qm_change qm_isKept qm_steps qm_places qm_danced vm_runMost vm_runBegins qm_heardBy vm_fitMany vm_fitFirst vm_fitBeats vm_listenLeaves qm_there vm_metAt vm_metIn qm_wins vm_nightHoles vm_nightFirst vm_nightMud vm_nightSlips vm_drawnNow, (qm_has, .inl (cI, 55, .inl (fm_has))), (qm_tune, .inl (cI, 50, .inl (fm_tune)))]
set_option maxHeartbeats 4000000 in
set_option maxRecDepth 100000 in
/-- X12 againOf -/
theorem c_X12_againOf (l : Launch) (D : va_G) (G : ct_G) (cI cJ cB cZ cO : ClassId) (qm : Nat) (vm_thrown : Int32) (qm_width : Nat) (qm_many : Nat) (qm_cells : Nat) (qm_moved : Nat) (qm_tape : Nat) (vm_taped : Int32) (vm_at : Int32) (vm_token : Int32) (vm_place : Int32) (vm_value : Int32) (vm_word : Int64) (vm_bad : Int32) (vm_badPlace : Int32) (vm_fault : Int32) (vm_faultPlace : Int32) (qm_lines : Nat) (qm_has : Nat) (fm_has : Nat → Int32) (qm_round : Nat) (qm_meets : Nat) (qm_stumble : Nat) (qm_isMud : Nat) (qm_cell : Nat) (qm_tune : Nat) (fm_tune : Nat → Int32) (qm_change : Nat) (qm_isKept : Nat) (qm_steps : Nat) (qm_places : Nat) (qm_danced : Nat) (vm_runMost : Int32) (vm_runBegins : Int32) (qm_heardBy : Nat) (vm_fitMany : Int32) (vm_fitFirst : Int32) (vm_fitBeats : Int64) (vm_listenLeaves : Int32) (qm_there : Nat) (vm_metAt : Int32) (vm_metIn : Int32) (qm_wins : Nat) (vm_nightHoles : Int32) (vm_nightFirst : Int32) (vm_nightMud : Int32) (vm_nightSlips : Int32) (vm_drawnNow : Int64) (a1 : Int32) (h_vm_taped : 0 ≤ vm_taped.toInt ∧ vm_taped.toInt ≤ 1200) (h_vm_at : 0 ≤ vm_at.toInt ∧ vm_at.toInt ≤ 1200) (h_vm_value : 0 ≤ vm_value.toInt ∧ vm_value.toInt ≤ 1000009) (h_fm_has : ar_ok [0, (-2147483648), (-2147483648), 0, 0, 0, 0, 0, 0, 0, 0] [20, 2147483647, 2147483647, 12, 12, 11, 11, 8, 12, 5, 40] fm_has) (h_rft : rf_t fm_has fm_tune) (sz : Nat) : Met l yX12_againOf wsX12_againOf ({ frames := 131, cells := 0, slots := 0, locals := 3013 }) (va_Pc [.ref qm, .int a1] (ct_P D (ct_T cI cJ cB cZ cO) G (w_c_X12_againOf cI cJ cB cZ cO qm vm_thrown qm_width qm_many qm_cells qm_moved qm_tape vm_taped vm_at vm_token vm_place vm_value vm_word vm_bad vm_badPlace vm_fault vm_faultPlace qm_lines qm_has fm_has qm_round qm_meets qm_stumble qm_isMud qm_cell qm_tune fm_tune qm_change qm_isKept qm_steps qm_places qm_danced vm_runMost vm_runBegins qm_heardBy vm_fitMany vm_fitFirst vm_fitBeats vm_listenLeaves qm_there vm_metAt vm_metIn qm_wins vm_nightHoles vm_nightFirst vm_nightMud vm_nightSlips vm_drawnNow) sz)) (va_Ql (fun (rz : Int64) (u : Unit) => True) (fun (u : Unit) t => ct_Q D (va_A (w_c_X12_againOf cI cJ cB cZ cO qm vm_thrown qm_width qm_many qm_cells qm_moved qm_tape vm_taped vm_at vm_token vm_place vm_value vm_word vm_bad vm_badPlace vm_fault vm_faultPlace qm_lines qm_has fm_has qm_round qm_meets qm_stumble qm_isMud qm_cell qm_tune fm_tune qm_change qm_isKept qm_steps qm_places qm_danced vm_runMost vm_runBegins qm_heardBy vm_fitMany vm_fitFirst vm_fitBeats vm_listenLeaves qm_there vm_metAt vm_metIn qm_wins vm_nightHoles vm_nightFirst vm_nightMud vm_nightSlips vm_drawnNow) sz) [mo qm vm_thrown qm_width qm_many qm_cells qm_moved qm_tape vm_taped vm_at vm_token vm_place vm_value vm_word vm_bad vm_badPlace vm_fault vm_faultPlace qm_lines qm_has qm_round qm_meets qm_stumble qm_isMud qm_cell qm_tune qm_change qm_isKept qm_steps qm_places qm_danced vm_runMost vm_runBegins qm_heardBy vm_fitMany vm_fitFirst vm_fitBeats vm_listenLeaves qm_there vm_metAt vm_metIn qm_wins vm_nightHoles vm_nightFirst vm_nightMud vm_nightSlips vm_drawnNow, (qm_has, .inl (cI, 55, .inl (fm_has))), (qm_tune, .inl (cI, 50, .inl (fm_tune)))] t) (va_A (w_c_X12_againOf cI cJ cB cZ cO qm vm_thrown qm_width qm_many qm_cells qm_moved qm_tape vm_taped vm_at vm_token vm_place vm_value vm_word vm_bad vm_badPlace vm_fault vm_faultPlace qm_lines qm_has fm_has qm_round qm_meets qm_stumble qm_isMud qm_cell qm_tune fm_tune qm_change qm_isKept qm_steps qm_places qm_danced vm_runMost vm_runBegins qm_heardBy vm_fitMany vm_fitFirst vm_fitBeats vm_listenLeaves qm_there vm_metAt vm_metIn qm_wins vm_nightHoles vm_nightFirst vm_nightMud vm_nightSlips vm_drawnNow) sz)) 0 0 (va_A (w_c_X12_againOf cI cJ cB cZ cO qm vm_thrown qm_width qm_many qm_cells qm_moved qm_tape vm_taped vm_at vm_token vm_place vm_value vm_word vm_bad vm_badPlace vm_fault vm_faultPlace qm_lines qm_has fm_has qm_round qm_meets qm_stumble qm_isMud qm_cell qm_tune fm_tune qm_change qm_isKept qm_steps qm_places qm_danced vm_runMost vm_runBegins qm_heardBy vm_fitMany vm_fitFirst vm_fitBeats vm_listenLeaves qm_there vm_metAt vm_metIn qm_wins vm_nightHoles vm_nightFirst vm_nightMud vm_nightSlips vm_drawnNow) sz) := by
  refine Met.ofW (cc := cX12_againOf) (maxL := 5) (ret := (some .long)) (by decide) rfl ?_
  intro p e s m args below meth c s₁ B hml hv
  obtain ⟨rfl, hsz, hP, hE, hD0, hH⟩ := hv
  have hx := B.exec
  have hb := B.bytes
  have hr := B.returns
  have hts := atoms_spec (ws := wsX12_againOf) B.pre
  have hown : s.vm.findClass RX12 = some m.cls := findClass_of_methodNamed B.named
  have hlocks := B.notSynchronized
  have hK := hE.1
  have hi12 : ∀ w ∈ u_ws RX12 TX12 45, w ∈ wsX12_againOf := fun w h => List.mem_cons_of_mem _ (List.mem_append_right _ h)
  subst hsz
  have hD := hD0.self (sz := s.heap.size)
  generalize hAe : va_A (w_c_X12_againOf cI cJ cB cZ cO qm vm_thrown qm_width qm_many qm_cells qm_moved qm_tape vm_taped vm_at vm_token vm_place vm_value vm_word vm_bad vm_badPlace vm_fault vm_faultPlace qm_lines qm_has fm_has qm_round qm_meets qm_stumble qm_isMud qm_cell qm_tune fm_tune qm_change qm_isKept qm_steps qm_places qm_danced vm_runMost vm_runBegins qm_heardBy vm_fitMany vm_fitFirst vm_fitBeats vm_listenLeaves qm_there vm_metAt vm_metIn qm_wins vm_nightHoles vm_nightFirst vm_nightMud vm_nightSlips vm_drawnNow) s.heap.size = A at hD hH ⊢
  have hA : ∀ q : Nat, s.heap.size ≤ q → A q := fun q h => by rw [← hAe]; exact Or.inr h
  have hS : va_S A s.heap s.heap [] := va_S.rf
  obtain ⟨hP, hD⟩ : ct_B D A s.heap [mo qm vm_thrown qm_width qm_many qm_cells qm_moved qm_tape vm_taped vm_at vm_token vm_place vm_value vm_word vm_bad vm_badPlace vm_fault vm_faultPlace qm_lines qm_has qm_round qm_meets qm_stumble qm_isMud qm_cell qm_tune qm_change qm_isKept qm_steps qm_places qm_danced vm_runMost vm_runBegins qm_heardBy vm_fitMany vm_fitFirst vm_fitBeats vm_listenLeaves qm_there vm_metAt vm_metIn qm_wins vm_nightHoles vm_nightFirst vm_nightMud vm_nightSlips vm_drawnNow, (qm_has, .inl (cI, 55, .inl (fm_has))), (qm_tune, .inl (cI, 50, .inl (fm_tune)))] := ⟨hP, hD⟩
  have hl := lv_entry ([.ref qm, .int a1]) (n := 5) (Nat.le_of_ble_eq_true rfl)
  rw [lg_entry_eq]
  generalize (lg_sl ([.ref qm, .int a1]) ++ List.replicate (5 - (lg_sl ([.ref qm, .int a1])).length) Slot.unset).toArray = ls at hl ⊢
  have hl : lv_has ls 5 [(0, .ref qm), (1, .int a1)] := hl
  obtain ⟨H, hHe⟩ : ∃ H : Heap, H = s.heap := ⟨_, rfl⟩
  rw [← hHe] at hP
  have hS : va_S A s.heap H [] := by rw [hHe]; exact va_S.rf
  refine ct_start hHe ?_
  refine lv_lconst (v := 1) hx hb dX12_againOf_0 (by decide) ?_
  refine lv_lstore_n (lv' := [(2, .long 1), (0, .ref qm), (1, .int a1)]) hx hb dX12_againOf_1 rfl hl (by decide) rfl (fun ls hl => ?_)
  refine lv_iconst (v := 0) hx hb dX12_againOf_2 (by decide) ?_
  refine lv_istore (lv' := [(4, .int 0), (2, .long 1), (0, .ref qm), (1, .int a1)]) hx hb dX12_againOf_3 hl (by decide) rfl (fun ls hl => ?_)
  refine ct_loop (X := Int64 × Int32) (fun x => (5 - x.2.toInt).toNat) (fun x H locs ls => ((0 ≤ x.2.toInt ∧ x.2.toInt ≤ 5)) ∧ ct_B D A H [mo qm vm_thrown qm_width qm_many qm_cells qm_moved qm_tape vm_taped vm_at vm_token vm_place vm_value vm_word vm_bad vm_badPlace vm_fault vm_faultPlace qm_lines qm_has qm_round qm_meets qm_stumble qm_isMud qm_cell qm_tune qm_change qm_isKept qm_steps qm_places qm_danced vm_runMost vm_runBegins qm_heardBy vm_fitMany vm_fitFirst vm_fitBeats vm_listenLeaves qm_there vm_metAt vm_metIn qm_wins vm_nightHoles vm_nightFirst vm_nightMud vm_nightSlips vm_drawnNow, (qm_has, .inl (cI, 55, .inl (fm_has))), (qm_tune, .inl (cI, 50, .inl (fm_tune)))] ∧ va_S A s.heap H locs ∧ lv_has ls 5 [(4, .int x.2), (2, .long x.1), (0, .ref qm), (1, .int a1)]) 5 ((1 : Int64), (0 : Int32)) ⟨(show 0 ≤ (0 : Int32).toInt ∧ (0 : Int32).toInt ≤ 5 by decide), ⟨hP, hD⟩, hS, lv_sub hl [0, 1, 2, 3] rfl⟩ (fun x ih132 H locs ls hI => ?_)
  obtain ⟨x130, x131⟩ := x
  obtain ⟨h_x131, ⟨hP, hD⟩, hS, hl⟩ := hI
  have h_x131 : (0 ≤ x131.toInt ∧ x131.toInt ≤ 5) := h_x131
  obtain ⟨hP, hD⟩ : ct_B D A H [mo qm vm_thrown qm_width qm_many qm_cells qm_moved qm_tape vm_taped vm_at vm_token vm_place vm_value vm_word vm_bad vm_badPlace vm_fault vm_faultPlace qm_lines qm_has qm_round qm_meets qm_stumble qm_isMud qm_cell qm_tune qm_change qm_isKept qm_steps qm_places qm_danced vm_runMost vm_runBegins qm_heardBy vm_fitMany vm_fitFirst vm_fitBeats vm_listenLeaves qm_there vm_metAt vm_metIn qm_wins vm_nightHoles vm_nightFirst vm_nightMud vm_nightSlips vm_drawnNow, (qm_has, .inl (cI, 55, .inl (fm_has))), (qm_tune, .inl (cI, 50, .inl (fm_tune)))] := ⟨hP, hD⟩
  have hl : lv_has ls 5 [(4, .int x131), (2, .long x130), (0, .ref qm), (1, .int a1)] := hl
  refine lv_iload hx hb dX12_againOf_5 (lv_at hl 0 rfl) ?_
  refine lv_aload_n hx hb dX12_againOf_7 rfl (lv_at hl 2 rfl) ?_
  refine va_get (D := D) (ci := 12) (v := .ref qm_has) (C := RX12) (T := TX12) (N := 45) hx hb hts hi12 hown hK hP 0 rfl rfl 17 (by decide) (hts (.fieldLink RX12 34 "OverHillModel" "has" "[I") (by decide +kernel)) (fun _ h9 => h9) rfl dX12_againOf_8 ?_
  refine lv_bipush (v := 9) hx hb dX12_againOf_11 (by decide) ?_
  refine va_iald (D := D) hx hb hK hP 1 0 rfl rfl (tq_in (a := 9) (by decide) (by omega)) dX12_againOf_13 ?_
  refine lv_topi (fun z133 ez133 => ?_)
  have fz133 : 0 ≤ z133.toInt ∧ z133.toInt ≤ 5 := by rw [ez133]; exact ar_get h_fm_has (9 : Int32) 9 (by decide) (by decide) rfl
  have gz133 : z133.toInt = (fm_has 9).toInt := by rw [ez133]; rfl
  refine lv_icmp_ge (tgt := 60) hx hb dX12_againOf_14 (by decide) (fun hc => ?_) (fun hc => ?_)
  · have hq134 : z133.toInt ≤ x131.toInt := tq_le rfl rfl hc
    refine lv_lload_n hx hb dX12_againOf_60 rfl (lv_at hl 1 rfl) ?_
    obtain ⟨hP9, hD9⟩ : ct_B D A H [mo qm vm_thrown qm_width qm_many qm_cells qm_moved qm_tape vm_taped vm_at vm_token vm_place vm_value vm_word vm_bad vm_badPlace vm_fault vm_faultPlace qm_lines qm_has qm_round qm_meets qm_stumble qm_isMud qm_cell qm_tune qm_change qm_isKept qm_steps qm_places qm_danced vm_runMost vm_runBegins qm_heardBy vm_fitMany vm_fitFirst vm_fitBeats vm_listenLeaves qm_there vm_metAt vm_metIn qm_wins vm_nightHoles vm_nightFirst vm_nightMud vm_nightSlips vm_drawnNow, (qm_has, .inl (cI, 55, .inl (fm_has))), (qm_tune, .inl (cI, 50, .inl (fm_tune)))] := ⟨hP.sub [0, 1, 2] rfl, hD.sub [0, 1, 2] (by decide) rfl⟩
    exact W.lret (v := x130) hx hb hr (fun t ht hW => ⟨⟨x130, (), rfl, trivial, by rw [ht]; exact hP9, hD9⟩, hS.F ht⟩) hS.2.2 dX12_againOf_61
  · have hq134 : x131.toInt < z133.toInt := tq_nle rfl rfl hc
    refine lv_iload_n hx hb dX12_againOf_17 rfl (lv_at hl 3 rfl) ?_
    refine lv_iload hx hb dX12_againOf_18 (lv_at hl 0 rfl) ?_
    refine ct_calli (D := D) (wr := [mo qm vm_thrown qm_width qm_many qm_cells qm_moved qm_tape vm_taped vm_at vm_token vm_place vm_value vm_word vm_bad vm_badPlace vm_fault vm_faultPlace qm_lines qm_has qm_round qm_meets qm_stumble qm_isMud qm_cell qm_tune qm_change qm_isKept qm_steps qm_places qm_danced vm_runMost vm_runBegins qm_heardBy vm_fitMany vm_fitFirst vm_fitBeats vm_listenLeaves qm_there vm_metAt vm_metIn qm_wins vm_nightHoles vm_nightFirst vm_nightMud vm_nightSlips vm_drawnNow, (qm_has, .inl (cI, 55, .inl (fm_has))), (qm_tune, .inl (cI, 50, .inl (fm_tune)))]) (va_runS (As := [.int a1, .int x131]) (rest := []) ⟨hx, hb, hml, hown, hts⟩ (c_X12_isBit l D G cI cJ cB cZ cO a1 x131  H.size) (va_cwS 2 hts gX12_againOf_X12_isBit rfl rfl rfl (by decide +kernel) ⟨Nat.le_of_ble_eq_true rfl, Nat.le_of_ble_eq_true rfl⟩) (ct_preS (T := ct_T cI cJ cB cZ cO) hE hH hP hD hS hA [] (by decide) rfl) rfl rfl hl.1 rfl (lv_room (Nat.le_of_ble_eq_true rfl)) dX12_againOf_20 ⟨Nat.le_of_ble_eq_true rfl, Nat.le_of_ble_eq_true rfl⟩) hP hD hS hA [] [0, 1, 2] rfl rfl (by decide) (by decide) (fun r135 u H locs hw hP hD hS => ?_)
    obtain ⟨hP, hD⟩ : ct_B D A H [mo qm vm_thrown qm_width qm_many qm_cells qm_moved qm_tape vm_taped vm_at vm_token vm_place vm_value vm_word vm_bad vm_badPlace vm_fault vm_faultPlace qm_lines qm_has qm_round qm_meets qm_stumble qm_isMud qm_cell qm_tune qm_change qm_isKept qm_steps qm_places qm_danced vm_runMost vm_runBegins qm_heardBy vm_fitMany vm_fitFirst vm_fitBeats vm_listenLeaves qm_there vm_metAt vm_metIn qm_wins vm_nightHoles vm_nightFirst vm_nightMud vm_nightSlips vm_drawnNow, (qm_has, .inl (cI, 55, .inl (fm_has))), (qm_tune, .inl (cI, 50, .inl (fm_tune)))] := ⟨hP, hD⟩
    have hz := hw
    rcases hz with ⟨hz, hz2⟩ | ⟨hz, hz2⟩
    · subst hz
      have hz_136 : (bt a1 x131) := hz2
      refine lv_if_eq (tgt := 54) hx hb dX12_againOf_23 (by decide) (fun hc => absurd hc (by decide)) (fun _ => ?_)
      refine lv_lload_n hx hb dX12_againOf_26 rfl (lv_at hl 1 rfl) ?_
      refine lv_lload_n hx hb dX12_againOf_27 rfl (lv_at hl 1 rfl) ?_
      refine lv_aload_n hx hb dX12_againOf_28 rfl (lv_at hl 2 rfl) ?_
      refine va_get (D := D) (ci := 12) (v := .ref qm_tune) (C := RX12) (T := TX12) (N := 45) hx hb hts hi12 hown hK hP 0 rfl rfl 23 (by decide) (hts (.fieldLink RX12 53 "OverHillModel" "tune" "[I") (by decide +kernel)) (fun _ h9 => h9) rfl dX12_againOf_29 ?_
      refine lv_iconst (v := 2) hx hb dX12_againOf_32 (by decide) ?_
      refine lv_iload hx hb dX12_againOf_33 (lv_at hl 0 rfl) ?_
      refine lv_imul hx hb dX12_againOf_35 ?_
      refine lv_topi (fun z137 ez137 => ?_)
      have fz137 : z137.toInt = 2 * x131.toInt := by rw [ez137]; exact tq_mul (by decide) rfl (by omega)
      refine va_iald (D := D) hx hb hK hP 2 0 rfl rfl (tq_in rfl (by omega)) dX12_againOf_36 ?_
      refine lv_topi (fun z138 ez138 => ?_)
      have hz138 : 1 ≤ z138.toInt ∧ z138.toInt ≤ 30 := by rw [ez138]; exact rf_tune h_rft x131.toInt (by omega) (by omega) (by omega)
      refine lv_i2l (v := _) hx hb dX12_againOf_37 rfl ?_
      refine lv_topl (fun z139 ez139 => ?_)
      have fz139 : z139.toInt = z138.toInt := by rw [ez139]; exact tl_i rfl
      refine ct_calll (D := D) (wr := [mo qm vm_thrown qm_width qm_many qm_cells qm_moved qm_tape vm_taped vm_at vm_token vm_place vm_value vm_word vm_bad vm_badPlace vm_fault vm_faultPlace qm_lines qm_has qm_round qm_meets qm_stumble qm_isMud qm_cell qm_tune qm_change qm_isKept qm_steps qm_places qm_danced vm_runMost vm_runBegins qm_heardBy vm_fitMany vm_fitFirst vm_fitBeats vm_listenLeaves qm_there vm_metAt vm_metIn qm_wins vm_nightHoles vm_nightFirst vm_nightMud vm_nightSlips vm_drawnNow, (qm_has, .inl (cI, 55, .inl (fm_has))), (qm_tune, .inl (cI, 50, .inl (fm_tune)))]) (va_runS (As := [.long x130, .long z139]) (rest := [.long x130]) ⟨hx, hb, hml, hown, hts⟩ (c_X12_commonLong l D G cI cJ cB cZ cO 130 x130 z139 (cl_top (by omega)) H.size) (va_cwS 2 hts gX12_againOf_X12_commonLong rfl rfl rfl (by decide +kernel) ⟨Nat.le_of_ble_eq_true rfl, Nat.le_of_ble_eq_true rfl⟩) (ct_preS (T := ct_T cI cJ cB cZ cO) hE hH hP hD hS hA [] (by decide) rfl) rfl rfl hl.1 rfl (lv_room (Nat.le_of_ble_eq_true rfl)) dX12_againOf_38 ⟨Nat.le_of_ble_eq_true rfl, Nat.le_of_ble_eq_true rfl⟩) hP hD hS hA [] [0, 1, 2] rfl rfl (by decide) (by decide) (fun r140 u H locs hw hP hD hS => ?_)
      obtain ⟨hP, hD⟩ : ct_B D A H [mo qm vm_thrown qm_width qm_many qm_cells qm_moved qm_tape vm_taped vm_at vm_token vm_place vm_value vm_word vm_bad vm_badPlace vm_fault vm_faultPlace qm_lines qm_has qm_round qm_meets qm_stumble qm_isMud qm_cell qm_tune qm_change qm_isKept qm_steps qm_places qm_danced vm_runMost vm_runBegins qm_heardBy vm_fitMany vm_fitFirst vm_fitBeats vm_listenLeaves qm_there vm_metAt vm_metIn qm_wins vm_nightHoles vm_nightFirst vm_nightMud vm_nightSlips vm_drawnNow, (qm_has, .inl (cI, 55, .inl (fm_has))), (qm_tune, .inl (cI, 50, .inl (fm_tune)))] := ⟨hP, hD⟩
      have hp0 := hw
      have hp_141 : r140.toInt ≠ 0 := hp0
      refine lv_ldiv hx hb dX12_againOf_41 (tl_nz (by omega)) ?_
      refine lv_topl (fun z142 ez142 => ?_)
      refine lv_aload_n hx hb dX12_againOf_42 rfl (lv_at hl 2 rfl) ?_
      refine va_get (D := D) (ci := 12) (v := .ref qm_tune) (C := RX12) (T := TX12) (N := 45) hx hb hts hi12 hown hK hP 0 rfl rfl 23 (by decide) (hts (.fieldLink RX12 53 "OverHillModel" "tune" "[I") (by decide +kernel)) (fun _ h9 => h9) rfl dX12_againOf_43 ?_
      refine lv_iconst (v := 2) hx hb dX12_againOf_46 (by decide) ?_
      refine lv_iload hx hb dX12_againOf_47 (lv_at hl 0 rfl) ?_
      refine lv_imul hx hb dX12_againOf_49 ?_
      refine lv_topi (fun z143 ez143 => ?_)
      have fz143 : z143.toInt = 2 * x131.toInt := by rw [ez143]; exact tq_mul (by decide) rfl (by omega)
      refine va_iald (D := D) hx hb hK hP 2 0 rfl rfl (tq_in rfl (by omega)) dX12_againOf_50 ?_
      refine lv_topi (fun z144 ez144 => ?_)
      have hz144 : 1 ≤ z144.toInt ∧ z144.toInt ≤ 30 := by rw [ez144]; exact rf_tune h_rft x131.toInt (by omega) (by omega) (by omega)
      refine lv_i2l (v := _) hx hb dX12_againOf_51 rfl ?_
      refine lv_topl (fun z145 ez145 => ?_)
      have fz145 : z145.toInt = z144.toInt := by rw [ez145]; exact tl_i rfl
      refine lv_lmul hx hb dX12_againOf_52 ?_
      refine lv_topl (fun z146 ez146 => ?_)
      refine lv_lstore_n (lv' := [(2, .long z146), (4, .int x131), (0, .ref qm), (1, .int a1)]) hx hb dX12_againOf_53 rfl hl (by decide) rfl (fun ls hl => ?_)
      obtain ⟨z147, ez147⟩ : ∃ z : Int32, z = x131 + 1 := ⟨_, rfl⟩
      have fz147 : z147.toInt = x131.toInt + 1 := by rw [ez147]; exact tq_add rfl (by decide) (by omega)
      refine lv_iinc (v := z147) (lv' := [(4, .int z147), (2, .long z146), (0, .ref qm), (1, .int a1)]) hx hb dX12_againOf_54 hl (k := 1) rfl ez147.symm (by decide) rfl (fun ls hl => ?_)
      refine lv_goto (tgt := 5) hx hb dX12_againOf_57 (by decide) ?_
      exact ih132 (z146, z147) _ _ _ (show (5 - z147.toInt).toNat < (5 - x131.toInt).toNat by omega) ⟨(show 0 ≤ z147.toInt ∧ z147.toInt ≤ 5 by omega), ⟨hP, hD⟩, hS, lv_sub hl [0, 1, 2, 3] rfl⟩
    · subst hz
      have hz_148 : ¬ (bt a1 x131) := hz2
      refine lv_if_eq (tgt := 54) hx hb dX12_againOf_23 (by decide) (fun _ => ?_) (fun hc => absurd hc (by decide))
      obtain ⟨z149, ez149⟩ : ∃ z : Int32, z = x131 + 1 := ⟨_, rfl⟩
      have fz149 : z149.toInt = x131.toInt + 1 := by rw [ez149]; exact tq_add rfl (by decide) (by omega)
      refine lv_iinc (v := z149) (lv' := [(4, .int z149), (2, .long x130), (0, .ref qm), (1, .int a1)]) hx hb dX12_againOf_54 hl (k := 0) rfl ez149.symm (by decide) rfl (fun ls hl => ?_)
      refine lv_goto (tgt := 5) hx hb dX12_againOf_57 (by decide) ?_
      exact ih132 (x130, z149) _ _ _ (show (5 - z149.toInt).toNat < (5 - x131.toInt).toNat by omega) ⟨(show 0 ≤ z149.toInt ∧ z149.toInt ≤ 5 by omega), ⟨hP, hD⟩, hS, lv_sub hl [0, 1, 2, 3] rfl⟩
abbrev w_c_X12_togetherOf (cI cJ cB cZ cO : ClassId) (qm : Nat) (vm_thrown : Int32) (qm_width : Nat) (qm_many : Nat) (qm_cells : Nat) (qm_moved : Nat) (qm_tape : Nat) (vm_taped : Int32) (vm_at : Int32) (vm_token : Int32) (vm_place : Int32) (vm_value : Int32) (vm_word : Int64) (vm_bad : Int32) (vm_badPlace : Int32) (vm_fault : Int32) (vm_faultPlace : Int32) (qm_lines : Nat) (qm_has : Nat) (fm_has : Nat → Int32) (qm_round : Nat) (qm_meets : Nat) (qm_stumble : Nat) (qm_isMud : Nat) (qm_cell : Nat) (qm_tune : Nat) (fm_tune : Nat → Int32) (qm_change : Nat) (qm_isKept : Nat) (qm_steps : Nat) (qm_places : Nat) (qm_danced : Nat) (vm_runMost : Int32) (vm_runBegins : Int32) (qm_heardBy : Nat) (vm_fitMany : Int32) (vm_fitFirst : Int32) (vm_fitBeats : Int64) (vm_listenLeaves : Int32) (qm_there : Nat) (vm_metAt : Int32) (vm_metIn : Int32) (qm_wins : Nat) (vm_nightHoles : Int32) (vm_nightFirst : Int32) (vm_nightMud : Int32) (vm_nightSlips : Int32) (vm_drawnNow : Int64) : va_W := [mo qm vm_thrown qm_width qm_many qm_cells qm_moved qm_tape vm_taped vm_at vm_token vm_place vm_value vm_word vm_bad vm_badPlace vm_fault vm_faultPlace qm_lines qm_has qm_round qm_meets qm_stumble qm_isMud qm_cell qm_tune qm_change qm_isKept qm_steps qm_places qm_danced vm_runMost vm_runBegins qm_heardBy vm_fitMany vm_fitFirst vm_fitBeats vm_listenLeaves qm_there vm_metAt vm_metIn qm_wins vm_nightHoles vm_nightFirst vm_nightMud vm_nightSlips vm_drawnNow, (qm_has, .inl (cI, 55, .inl (fm_has))), (qm_tune, .inl (cI, 50, .inl (fm_tune)))]
set_option maxHeartbeats 4000000 in
set_option maxRecDepth 100000 in
/-- X12 togetherOf -/
theorem c_X12_togetherOf (l : Launch) (D : va_G) (G : ct_G) (cI cJ cB cZ cO : ClassId) (qm : Nat) (vm_thrown : Int32) (qm_width : Nat) (qm_many : Nat) (qm_cells : Nat) (qm_moved : Nat) (qm_tape : Nat) (vm_taped : Int32) (vm_at : Int32) (vm_token : Int32) (vm_place : Int32) (vm_value : Int32) (vm_word : Int64) (vm_bad : Int32) (vm_badPlace : Int32) (vm_fault : Int32) (vm_faultPlace : Int32) (qm_lines : Nat) (qm_has : Nat) (fm_has : Nat → Int32) (qm_round : Nat) (qm_meets : Nat) (qm_stumble : Nat) (qm_isMud : Nat) (qm_cell : Nat) (qm_tune : Nat) (fm_tune : Nat → Int32) (qm_change : Nat) (qm_isKept : Nat) (qm_steps : Nat) (qm_places : Nat) (qm_danced : Nat) (vm_runMost : Int32) (vm_runBegins : Int32) (qm_heardBy : Nat) (vm_fitMany : Int32) (vm_fitFirst : Int32) (vm_fitBeats : Int64) (vm_listenLeaves : Int32) (qm_there : Nat) (vm_metAt : Int32) (vm_metIn : Int32) (qm_wins : Nat) (vm_nightHoles : Int32) (vm_nightFirst : Int32) (vm_nightMud : Int32) (vm_nightSlips : Int32) (vm_drawnNow : Int64) (a1 : Int32) (a2 : Int32) (h_vm_taped : 0 ≤ vm_taped.toInt ∧ vm_taped.toInt ≤ 1200) (h_vm_at : 0 ≤ vm_at.toInt ∧ vm_at.toInt ≤ 1200) (h_vm_value : 0 ≤ vm_value.toInt ∧ vm_value.toInt ≤ 1000009) (h_fm_has : ar_ok [0, (-2147483648), (-2147483648), 0, 0, 0, 0, 0, 0, 0, 0] [20, 2147483647, 2147483647, 12, 12, 11, 11, 8, 12, 5, 40] fm_has) (h_rft : rf_t fm_has fm_tune) (sz : Nat) : Met l yX12_togetherOf wsX12_togetherOf ({ frames := 131, cells := 0, slots := 0, locals := 3013 }) (va_Pc [.ref qm, .int a1, .int a2] (ct_P D (ct_T cI cJ cB cZ cO) G (w_c_X12_togetherOf cI cJ cB cZ cO qm vm_thrown qm_width qm_many qm_cells qm_moved qm_tape vm_taped vm_at vm_token vm_place vm_value vm_word vm_bad vm_badPlace vm_fault vm_faultPlace qm_lines qm_has fm_has qm_round qm_meets qm_stumble qm_isMud qm_cell qm_tune fm_tune qm_change qm_isKept qm_steps qm_places qm_danced vm_runMost vm_runBegins qm_heardBy vm_fitMany vm_fitFirst vm_fitBeats vm_listenLeaves qm_there vm_metAt vm_metIn qm_wins vm_nightHoles vm_nightFirst vm_nightMud vm_nightSlips vm_drawnNow) sz)) (va_Ql (fun (rz : Int64) (u : Unit) => True) (fun (u : Unit) t => ct_Q D (va_A (w_c_X12_togetherOf cI cJ cB cZ cO qm vm_thrown qm_width qm_many qm_cells qm_moved qm_tape vm_taped vm_at vm_token vm_place vm_value vm_word vm_bad vm_badPlace vm_fault vm_faultPlace qm_lines qm_has fm_has qm_round qm_meets qm_stumble qm_isMud qm_cell qm_tune fm_tune qm_change qm_isKept qm_steps qm_places qm_danced vm_runMost vm_runBegins qm_heardBy vm_fitMany vm_fitFirst vm_fitBeats vm_listenLeaves qm_there vm_metAt vm_metIn qm_wins vm_nightHoles vm_nightFirst vm_nightMud vm_nightSlips vm_drawnNow) sz) [mo qm vm_thrown qm_width qm_many qm_cells qm_moved qm_tape vm_taped vm_at vm_token vm_place vm_value vm_word vm_bad vm_badPlace vm_fault vm_faultPlace qm_lines qm_has qm_round qm_meets qm_stumble qm_isMud qm_cell qm_tune qm_change qm_isKept qm_steps qm_places qm_danced vm_runMost vm_runBegins qm_heardBy vm_fitMany vm_fitFirst vm_fitBeats vm_listenLeaves qm_there vm_metAt vm_metIn qm_wins vm_nightHoles vm_nightFirst vm_nightMud vm_nightSlips vm_drawnNow, (qm_has, .inl (cI, 55, .inl (fm_has))), (qm_tune, .inl (cI, 50, .inl (fm_tune)))] t) (va_A (w_c_X12_togetherOf cI cJ cB cZ cO qm vm_thrown qm_width qm_many qm_cells qm_moved qm_tape vm_taped vm_at vm_token vm_place vm_value vm_word vm_bad vm_badPlace vm_fault vm_faultPlace qm_lines qm_has fm_has qm_round qm_meets qm_stumble qm_isMud qm_cell qm_tune fm_tune qm_change qm_isKept qm_steps qm_places qm_danced vm_runMost vm_runBegins qm_heardBy vm_fitMany vm_fitFirst vm_fitBeats vm_listenLeaves qm_there vm_metAt vm_metIn qm_wins vm_nightHoles vm_nightFirst vm_nightMud vm_nightSlips vm_drawnNow) sz)) 0 0 (va_A (w_c_X12_togetherOf cI cJ cB cZ cO qm vm_thrown qm_width qm_many qm_cells qm_moved qm_tape vm_taped vm_at vm_token vm_place vm_value vm_word vm_bad vm_badPlace vm_fault vm_faultPlace qm_lines qm_has fm_has qm_round qm_meets qm_stumble qm_isMud qm_cell qm_tune fm_tune qm_change qm_isKept qm_steps qm_places qm_danced vm_runMost vm_runBegins qm_heardBy vm_fitMany vm_fitFirst vm_fitBeats vm_listenLeaves qm_there vm_metAt vm_metIn qm_wins vm_nightHoles vm_nightFirst vm_nightMud vm_nightSlips vm_drawnNow) sz) := by
  refine Met.ofW (cc := cX12_togetherOf) (maxL := 9) (ret := (some .long)) (by decide) rfl ?_
  intro p e s m args below meth c s₁ B hml hv
  obtain ⟨rfl, hsz, hP, hE, hD0, hH⟩ := hv
  have hx := B.exec
  have hb := B.bytes
  have hr := B.returns
  have hts := atoms_spec (ws := wsX12_togetherOf) B.pre
  have hown : s.vm.findClass RX12 = some m.cls := findClass_of_methodNamed B.named
  have hlocks := B.notSynchronized
  have hK := hE.1
  have hi12 : ∀ w ∈ u_ws RX12 TX12 45, w ∈ wsX12_togetherOf := fun w h => List.mem_cons_of_mem _ (List.mem_append_right _ h)
  subst hsz
  have hD := hD0.self (sz := s.heap.size)
  generalize hAe : va_A (w_c_X12_togetherOf cI cJ cB cZ cO qm vm_thrown qm_width qm_many qm_cells qm_moved qm_tape vm_taped vm_at vm_token vm_place vm_value vm_word vm_bad vm_badPlace vm_fault vm_faultPlace qm_lines qm_has fm_has qm_round qm_meets qm_stumble qm_isMud qm_cell qm_tune fm_tune qm_change qm_isKept qm_steps qm_places qm_danced vm_runMost vm_runBegins qm_heardBy vm_fitMany vm_fitFirst vm_fitBeats vm_listenLeaves qm_there vm_metAt vm_metIn qm_wins vm_nightHoles vm_nightFirst vm_nightMud vm_nightSlips vm_drawnNow) s.heap.size = A at hD hH ⊢
  have hA : ∀ q : Nat, s.heap.size ≤ q → A q := fun q h => by rw [← hAe]; exact Or.inr h
  have hS : va_S A s.heap s.heap [] := va_S.rf
  obtain ⟨hP, hD⟩ : ct_B D A s.heap [mo qm vm_thrown qm_width qm_many qm_cells qm_moved qm_tape vm_taped vm_at vm_token vm_place vm_value vm_word vm_bad vm_badPlace vm_fault vm_faultPlace qm_lines qm_has qm_round qm_meets qm_stumble qm_isMud qm_cell qm_tune qm_change qm_isKept qm_steps qm_places qm_danced vm_runMost vm_runBegins qm_heardBy vm_fitMany vm_fitFirst vm_fitBeats vm_listenLeaves qm_there vm_metAt vm_metIn qm_wins vm_nightHoles vm_nightFirst vm_nightMud vm_nightSlips vm_drawnNow, (qm_has, .inl (cI, 55, .inl (fm_has))), (qm_tune, .inl (cI, 50, .inl (fm_tune)))] := ⟨hP, hD⟩
  have hl := lv_entry ([.ref qm, .int a1, .int a2]) (n := 9) (Nat.le_of_ble_eq_true rfl)
  rw [lg_entry_eq]
  generalize (lg_sl ([.ref qm, .int a1, .int a2]) ++ List.replicate (9 - (lg_sl ([.ref qm, .int a1, .int a2])).length) Slot.unset).toArray = ls at hl ⊢
  have hl : lv_has ls 9 [(0, .ref qm), (1, .int a1), (2, .int a2)] := hl
  obtain ⟨H, hHe⟩ : ∃ H : Heap, H = s.heap := ⟨_, rfl⟩
  rw [← hHe] at hP
  have hS : va_S A s.heap H [] := by rw [hHe]; exact va_S.rf
  refine ct_start hHe ?_
  refine lv_iload_n hx hb dX12_togetherOf_0 rfl (lv_at hl 2 rfl) ?_
  refine lv_i2l (v := _) hx hb dX12_togetherOf_1 rfl ?_
  refine lv_topl (fun z1 ez1 => ?_)
  have fz1 : z1.toInt = a2.toInt := by rw [ez1]; exact tl_i rfl
  refine lv_lstore_n (lv' := [(3, .long z1), (0, .ref qm), (1, .int a1), (2, .int a2)]) hx hb dX12_togetherOf_2 rfl hl (by decide) rfl (fun ls hl => ?_)
  refine lv_lconst (v := 1) hx hb dX12_togetherOf_3 (by decide) ?_
  refine lv_lstore (lv' := [(5, .long 1), (3, .long z1), (0, .ref qm), (1, .int a1), (2, .int a2)]) hx hb dX12_togetherOf_4 hl (by decide) rfl (fun ls hl => ?_)
  refine lv_iconst (v := 0) hx hb dX12_togetherOf_6 (by decide) ?_
  refine lv_istore (lv' := [(7, .int 0), (5, .long 1), (3, .long z1), (0, .ref qm), (1, .int a1), (2, .int a2)]) hx hb dX12_togetherOf_7 hl (by decide) rfl (fun ls hl => ?_)
  refine ct_loop (X := Int64 × Int64 × Int32) (fun x => (5 - x.2.2.toInt).toNat) (fun x H locs ls => ((0 ≤ x.2.2.toInt ∧ x.2.2.toInt ≤ 5)) ∧ ct_B D A H [mo qm vm_thrown qm_width qm_many qm_cells qm_moved qm_tape vm_taped vm_at vm_token vm_place vm_value vm_word vm_bad vm_badPlace vm_fault vm_faultPlace qm_lines qm_has qm_round qm_meets qm_stumble qm_isMud qm_cell qm_tune qm_change qm_isKept qm_steps qm_places qm_danced vm_runMost vm_runBegins qm_heardBy vm_fitMany vm_fitFirst vm_fitBeats vm_listenLeaves qm_there vm_metAt vm_metIn qm_wins vm_nightHoles vm_nightFirst vm_nightMud vm_nightSlips vm_drawnNow, (qm_has, .inl (cI, 55, .inl (fm_has))), (qm_tune, .inl (cI, 50, .inl (fm_tune)))] ∧ va_S A s.heap H locs ∧ lv_has ls 9 [(7, .int x.2.2), (5, .long x.2.1), (3, .long x.1), (0, .ref qm), (1, .int a1), (2, .int a2)]) 9 (z1, (1 : Int64), (0 : Int32)) ⟨(show 0 ≤ (0 : Int32).toInt ∧ (0 : Int32).toInt ≤ 5 by decide), ⟨hP, hD⟩, hS, lv_sub hl [0, 1, 2, 3, 4, 5] rfl⟩ (fun x ih4416 H locs ls hI => ?_)
  obtain ⟨x4413, x4414, x4415⟩ := x
  obtain ⟨h_x4415, ⟨hP, hD⟩, hS, hl⟩ := hI
  have h_x4415 : (0 ≤ x4415.toInt ∧ x4415.toInt ≤ 5) := h_x4415
  obtain ⟨hP, hD⟩ : ct_B D A H [mo qm vm_thrown qm_width qm_many qm_cells qm_moved qm_tape vm_taped vm_at vm_token vm_place vm_value vm_word vm_bad vm_badPlace vm_fault vm_faultPlace qm_lines qm_has qm_round qm_meets qm_stumble qm_isMud qm_cell qm_tune qm_change qm_isKept qm_steps qm_places qm_danced vm_runMost vm_runBegins qm_heardBy vm_fitMany vm_fitFirst vm_fitBeats vm_listenLeaves qm_there vm_metAt vm_metIn qm_wins vm_nightHoles vm_nightFirst vm_nightMud vm_nightSlips vm_drawnNow, (qm_has, .inl (cI, 55, .inl (fm_has))), (qm_tune, .inl (cI, 50, .inl (fm_tune)))] := ⟨hP, hD⟩
  have hl : lv_has ls 9 [(7, .int x4415), (5, .long x4414), (3, .long x4413), (0, .ref qm), (1, .int a1), (2, .int a2)] := hl
  refine lv_iload hx hb dX12_togetherOf_9 (lv_at hl 0 rfl) ?_
  refine lv_aload_n hx hb dX12_togetherOf_11 rfl (lv_at hl 3 rfl) ?_
  refine va_get (D := D) (ci := 12) (v := .ref qm_has) (C := RX12) (T := TX12) (N := 45) hx hb hts hi12 hown hK hP 0 rfl rfl 17 (by decide) (hts (.fieldLink RX12 34 "OverHillModel" "has" "[I") (by decide +kernel)) (fun _ h9 => h9) rfl dX12_togetherOf_12 ?_
  refine lv_bipush (v := 9) hx hb dX12_togetherOf_15 (by decide) ?_
  refine va_iald (D := D) hx hb hK hP 1 0 rfl rfl (tq_in (a := 9) (by decide) (by omega)) dX12_togetherOf_17 ?_
  refine lv_topi (fun z4417 ez4417 => ?_)
  have fz4417 : 0 ≤ z4417.toInt ∧ z4417.toInt ≤ 5 := by rw [ez4417]; exact ar_get h_fm_has (9 : Int32) 9 (by decide) (by decide) rfl
  have gz4417 : z4417.toInt = (fm_has 9).toInt := by rw [ez4417]; rfl
  refine lv_icmp_ge (tgt := 158) hx hb dX12_togetherOf_18 (by decide) (fun hc => ?_) (fun hc => ?_)
  · have hq4418 : z4417.toInt ≤ x4415.toInt := tq_le rfl rfl hc
    refine lv_lload_n hx hb dX12_togetherOf_158 rfl (lv_at hl 2 rfl) ?_
    obtain ⟨hP9, hD9⟩ : ct_B D A H [mo qm vm_thrown qm_width qm_many qm_cells qm_moved qm_tape vm_taped vm_at vm_token vm_place vm_value vm_word vm_bad vm_badPlace vm_fault vm_faultPlace qm_lines qm_has qm_round qm_meets qm_stumble qm_isMud qm_cell qm_tune qm_change qm_isKept qm_steps qm_places qm_danced vm_runMost vm_runBegins qm_heardBy vm_fitMany vm_fitFirst vm_fitBeats vm_listenLeaves qm_there vm_metAt vm_metIn qm_wins vm_nightHoles vm_nightFirst vm_nightMud vm_nightSlips vm_drawnNow, (qm_has, .inl (cI, 55, .inl (fm_has))), (qm_tune, .inl (cI, 50, .inl (fm_tune)))] := ⟨hP.sub [0, 1, 2] rfl, hD.sub [0, 1, 2] (by decide) rfl⟩
    exact W.lret (v := x4413) hx hb hr (fun t ht hW => ⟨⟨x4413, (), rfl, trivial, by rw [ht]; exact hP9, hD9⟩, hS.F ht⟩) hS.2.2 dX12_togetherOf_159
  · have hq4418 : x4415.toInt < z4417.toInt := tq_nle rfl rfl hc
    refine lv_iload_n hx hb dX12_togetherOf_21 rfl (lv_at hl 4 rfl) ?_
    refine lv_iload hx hb dX12_togetherOf_22 (lv_at hl 0 rfl) ?_
    refine ct_calli (D := D) (wr := [mo qm vm_thrown qm_width qm_many qm_cells qm_moved qm_tape vm_taped vm_at vm_token vm_place vm_value vm_word vm_bad vm_badPlace vm_fault vm_faultPlace qm_lines qm_has qm_round qm_meets qm_stumble qm_isMud qm_cell qm_tune qm_change qm_isKept qm_steps qm_places qm_danced vm_runMost vm_runBegins qm_heardBy vm_fitMany vm_fitFirst vm_fitBeats vm_listenLeaves qm_there vm_metAt vm_metIn qm_wins vm_nightHoles vm_nightFirst vm_nightMud vm_nightSlips vm_drawnNow, (qm_has, .inl (cI, 55, .inl (fm_has))), (qm_tune, .inl (cI, 50, .inl (fm_tune)))]) (va_runS (As := [.int a1, .int x4415]) (rest := []) ⟨hx, hb, hml, hown, hts⟩ (c_X12_isBit l D G cI cJ cB cZ cO a1 x4415  H.size) (va_cwS 2 hts gX12_togetherOf_X12_isBit rfl rfl rfl (by decide +kernel) ⟨Nat.le_of_ble_eq_true rfl, Nat.le_of_ble_eq_true rfl⟩) (ct_preS (T := ct_T cI cJ cB cZ cO) hE hH hP hD hS hA [] (by decide) rfl) rfl rfl hl.1 rfl (lv_room (Nat.le_of_ble_eq_true rfl)) dX12_togetherOf_24 ⟨Nat.le_of_ble_eq_true rfl, Nat.le_of_ble_eq_true rfl⟩) hP hD hS hA [] [0, 1, 2] rfl rfl (by decide) (by decide) (fun r4419 u H locs hw hP hD hS => ?_)
    obtain ⟨hP, hD⟩ : ct_B D A H [mo qm vm_thrown qm_width qm_many qm_cells qm_moved qm_tape vm_taped vm_at vm_token vm_place vm_value vm_word vm_bad vm_badPlace vm_fault vm_faultPlace qm_lines qm_has qm_round qm_meets qm_stumble qm_isMud qm_cell qm_tune qm_change qm_isKept qm_steps qm_places qm_danced vm_runMost vm_runBegins qm_heardBy vm_fitMany vm_fitFirst vm_fitBeats vm_listenLeaves qm_there vm_metAt vm_metIn qm_wins vm_nightHoles vm_nightFirst vm_nightMud vm_nightSlips vm_drawnNow, (qm_has, .inl (cI, 55, .inl (fm_has))), (qm_tune, .inl (cI, 50, .inl (fm_tune)))] := ⟨hP, hD⟩
    have hz := hw
    rcases hz with ⟨hz, hz2⟩ | ⟨hz, hz2⟩
    · subst hz
      have hz_4420 : (bt a1 x4415) := hz2
      refine lv_if_ne (tgt := 33) hx hb dX12_togetherOf_27 (by decide) (fun _ => ?_) (fun hc => absurd hc (by decide))
      refine lv_iconst (v := 0) hx hb dX12_togetherOf_33 (by decide) ?_
      refine lv_istore (lv' := [(8, .int 0), (7, .int x4415), (5, .long x4414), (3, .long x4413), (0, .ref qm), (1, .int a1), (2, .int a2)]) hx hb dX12_togetherOf_34 hl (by decide) rfl (fun ls hl => ?_)
      refine ct_loop (X := Int64 × Int32) (fun x => (30 - x.2.toInt).toNat) (fun x H locs ls => ((0 ≤ x.2.toInt ∧ x.2.toInt ≤ 30)) ∧ ct_B D A H [mo qm vm_thrown qm_width qm_many qm_cells qm_moved qm_tape vm_taped vm_at vm_token vm_place vm_value vm_word vm_bad vm_badPlace vm_fault vm_faultPlace qm_lines qm_has qm_round qm_meets qm_stumble qm_isMud qm_cell qm_tune qm_change qm_isKept qm_steps qm_places qm_danced vm_runMost vm_runBegins qm_heardBy vm_fitMany vm_fitFirst vm_fitBeats vm_listenLeaves qm_there vm_metAt vm_metIn qm_wins vm_nightHoles vm_nightFirst vm_nightMud vm_nightSlips vm_drawnNow, (qm_has, .inl (cI, 55, .inl (fm_has))), (qm_tune, .inl (cI, 50, .inl (fm_tune)))] ∧ va_S A s.heap H locs ∧ lv_has ls 9 [(8, .int x.2), (7, .int x4415), (5, .long x4414), (3, .long x.1), (0, .ref qm), (1, .int a1), (2, .int a2)]) 36 (x4413, (0 : Int32)) ⟨(show 0 ≤ (0 : Int32).toInt ∧ (0 : Int32).toInt ≤ 30 by decide), ⟨hP, hD⟩, hS, lv_sub hl [0, 1, 2, 3, 4, 5, 6] rfl⟩ (fun x ih4960 H locs ls hI => ?_)
      obtain ⟨x4958, x4959⟩ := x
      obtain ⟨h_x4959, ⟨hP, hD⟩, hS, hl⟩ := hI
      have h_x4959 : (0 ≤ x4959.toInt ∧ x4959.toInt ≤ 30) := h_x4959
      obtain ⟨hP, hD⟩ : ct_B D A H [mo qm vm_thrown qm_width qm_many qm_cells qm_moved qm_tape vm_taped vm_at vm_token vm_place vm_value vm_word vm_bad vm_badPlace vm_fault vm_faultPlace qm_lines qm_has qm_round qm_meets qm_stumble qm_isMud qm_cell qm_tune qm_change qm_isKept qm_steps qm_places qm_danced vm_runMost vm_runBegins qm_heardBy vm_fitMany vm_fitFirst vm_fitBeats vm_listenLeaves qm_there vm_metAt vm_metIn qm_wins vm_nightHoles vm_nightFirst vm_nightMud vm_nightSlips vm_drawnNow, (qm_has, .inl (cI, 55, .inl (fm_has))), (qm_tune, .inl (cI, 50, .inl (fm_tune)))] := ⟨hP, hD⟩
      have hl : lv_has ls 9 [(8, .int x4959), (7, .int x4415), (5, .long x4414), (3, .long x4958), (0, .ref qm), (1, .int a1), (2, .int a2)] := hl
      refine lv_lload_n hx hb dX12_togetherOf_36 rfl (lv_at hl 3 rfl) ?_
      refine lv_aload_n hx hb dX12_togetherOf_37 rfl (lv_at hl 4 rfl) ?_
      refine va_get (D := D) (ci := 12) (v := .ref qm_tune) (C := RX12) (T := TX12) (N := 45) hx hb hts hi12 hown hK hP 0 rfl rfl 23 (by decide) (hts (.fieldLink RX12 53 "OverHillModel" "tune" "[I") (by decide +kernel)) (fun _ h9 => h9) rfl dX12_togetherOf_38 ?_
      refine lv_iconst (v := 2) hx hb dX12_togetherOf_41 (by decide) ?_
      refine lv_iload hx hb dX12_togetherOf_42 (lv_at hl 1 rfl) ?_
      refine lv_imul hx hb dX12_togetherOf_44 ?_
      refine lv_topi (fun z4961 ez4961 => ?_)
      have fz4961 : z4961.toInt = 2 * x4415.toInt := by rw [ez4961]; exact tq_mul (by decide) rfl (by omega)
      refine va_iald (D := D) hx hb hK hP 2 0 rfl rfl (tq_in rfl (by omega)) dX12_togetherOf_45 ?_
      refine lv_topi (fun z4962 ez4962 => ?_)
      have hz4962 : 1 ≤ z4962.toInt ∧ z4962.toInt ≤ 30 := by rw [ez4962]; exact rf_tune h_rft x4415.toInt (by omega) (by omega) (by omega)
      refine lv_i2l (v := _) hx hb dX12_togetherOf_46 rfl ?_
      refine lv_topl (fun z4963 ez4963 => ?_)
      have fz4963 : z4963.toInt = z4962.toInt := by rw [ez4963]; exact tl_i rfl
      refine lv_lrem hx hb dX12_togetherOf_47 (tl_nz (by omega)) ?_
      refine lv_topl (fun z4964 ez4964 => ?_)
      refine lv_aload_n hx hb dX12_togetherOf_48 rfl (lv_at hl 4 rfl) ?_
      refine va_get (D := D) (ci := 12) (v := .ref qm_tune) (C := RX12) (T := TX12) (N := 45) hx hb hts hi12 hown hK hP 0 rfl rfl 23 (by decide) (hts (.fieldLink RX12 53 "OverHillModel" "tune" "[I") (by decide +kernel)) (fun _ h9 => h9) rfl dX12_togetherOf_49 ?_
      refine lv_iconst (v := 2) hx hb dX12_togetherOf_52 (by decide) ?_
      refine lv_iload hx hb dX12_togetherOf_53 (lv_at hl 1 rfl) ?_
      refine lv_imul hx hb dX12_togetherOf_55 ?_
      refine lv_topi (fun z4965 ez4965 => ?_)
      have fz4965 : z4965.toInt = 2 * x4415.toInt := by rw [ez4965]; exact tq_mul (by decide) rfl (by omega)
      refine lv_iconst (v := 1) hx hb dX12_togetherOf_56 (by decide) ?_
      refine lv_iadd hx hb dX12_togetherOf_57 ?_
      refine lv_topi (fun z4966 ez4966 => ?_)
      have fz4966 : z4966.toInt = z4965.toInt + 1 := by rw [ez4966]; exact tq_add rfl (by decide) (by omega)
      refine va_iald (D := D) hx hb hK hP 2 0 rfl rfl (tq_in rfl (by omega)) dX12_togetherOf_58 ?_
      refine lv_topi (fun z4967 ez4967 => ?_)
      refine lv_i2l (v := _) hx hb dX12_togetherOf_59 rfl ?_
      refine lv_topl (fun z4968 ez4968 => ?_)
      have fz4968 : z4968.toInt = z4967.toInt := by rw [ez4968]; exact tl_i rfl
      refine W.lcmp hx hb dX12_togetherOf_60 ?_
      refine lv_if_eq (tgt := 89) hx hb dX12_togetherOf_61 (by decide) (fun hc => ?_) (fun hc => ?_)
      · have hq4969 : z4964.toInt = z4968.toInt := tl_eq rfl rfl ((lg_cmp_eq _ _).mp hc)
        refine lv_lload_n hx hb dX12_togetherOf_89 rfl (lv_at hl 3 rfl) ?_
        refine lv_aload_n hx hb dX12_togetherOf_90 rfl (lv_at hl 4 rfl) ?_
        refine va_get (D := D) (ci := 12) (v := .ref qm_tune) (C := RX12) (T := TX12) (N := 45) hx hb hts hi12 hown hK hP 0 rfl rfl 23 (by decide) (hts (.fieldLink RX12 53 "OverHillModel" "tune" "[I") (by decide +kernel)) (fun _ h9 => h9) rfl dX12_togetherOf_91 ?_
        refine lv_iconst (v := 2) hx hb dX12_togetherOf_94 (by decide) ?_
        refine lv_iload hx hb dX12_togetherOf_95 (lv_at hl 1 rfl) ?_
        refine lv_imul hx hb dX12_togetherOf_97 ?_
        refine lv_topi (fun z4970 ez4970 => ?_)
        have fz4970 : z4970.toInt = 2 * x4415.toInt := by rw [ez4970]; exact tq_mul (by decide) rfl (by omega)
        refine va_iald (D := D) hx hb hK hP 2 0 rfl rfl (tq_in rfl (by omega)) dX12_togetherOf_98 ?_
        refine lv_topi (fun z4971 ez4971 => ?_)
        have hz4971 : 1 ≤ z4971.toInt ∧ z4971.toInt ≤ 30 := by rw [ez4971]; exact rf_tune h_rft x4415.toInt (by omega) (by omega) (by omega)
        refine lv_i2l (v := _) hx hb dX12_togetherOf_99 rfl ?_
        refine lv_topl (fun z4972 ez4972 => ?_)
        have fz4972 : z4972.toInt = z4971.toInt := by rw [ez4972]; exact tl_i rfl
        refine lv_lrem hx hb dX12_togetherOf_100 (tl_nz (by omega)) ?_
        refine lv_topl (fun z4973 ez4973 => ?_)
        refine lv_aload_n hx hb dX12_togetherOf_101 rfl (lv_at hl 4 rfl) ?_
        refine va_get (D := D) (ci := 12) (v := .ref qm_tune) (C := RX12) (T := TX12) (N := 45) hx hb hts hi12 hown hK hP 0 rfl rfl 23 (by decide) (hts (.fieldLink RX12 53 "OverHillModel" "tune" "[I") (by decide +kernel)) (fun _ h9 => h9) rfl dX12_togetherOf_102 ?_
        refine lv_iconst (v := 2) hx hb dX12_togetherOf_105 (by decide) ?_
        refine lv_iload hx hb dX12_togetherOf_106 (lv_at hl 1 rfl) ?_
        refine lv_imul hx hb dX12_togetherOf_108 ?_
        refine lv_topi (fun z4974 ez4974 => ?_)
        have fz4974 : z4974.toInt = 2 * x4415.toInt := by rw [ez4974]; exact tq_mul (by decide) rfl (by omega)
        refine lv_iconst (v := 1) hx hb dX12_togetherOf_109 (by decide) ?_
        refine lv_iadd hx hb dX12_togetherOf_110 ?_
        refine lv_topi (fun z4975 ez4975 => ?_)
        have fz4975 : z4975.toInt = z4974.toInt + 1 := by rw [ez4975]; exact tq_add rfl (by decide) (by omega)
        refine va_iald (D := D) hx hb hK hP 2 0 rfl rfl (tq_in rfl (by omega)) dX12_togetherOf_111 ?_
        refine lv_topi (fun z4976 ez4976 => ?_)
        refine lv_i2l (v := _) hx hb dX12_togetherOf_112 rfl ?_
        refine lv_topl (fun z4977 ez4977 => ?_)
        have fz4977 : z4977.toInt = z4976.toInt := by rw [ez4977]; exact tl_i rfl
        refine W.lcmp hx hb dX12_togetherOf_113 ?_
        refine lv_if_eq (tgt := 121) hx hb dX12_togetherOf_114 (by decide) (fun hc => ?_) (fun hc => ?_)
        · have hq4978 : z4973.toInt = z4977.toInt := tl_eq rfl rfl ((lg_cmp_eq _ _).mp hc)
          refine lv_lload hx hb dX12_togetherOf_121 (lv_at hl 2 rfl) ?_
          refine lv_lload hx hb dX12_togetherOf_123 (lv_at hl 2 rfl) ?_
          refine lv_aload_n hx hb dX12_togetherOf_125 rfl (lv_at hl 4 rfl) ?_
          refine va_get (D := D) (ci := 12) (v := .ref qm_tune) (C := RX12) (T := TX12) (N := 45) hx hb hts hi12 hown hK hP 0 rfl rfl 23 (by decide) (hts (.fieldLink RX12 53 "OverHillModel" "tune" "[I") (by decide +kernel)) (fun _ h9 => h9) rfl dX12_togetherOf_126 ?_
          refine lv_iconst (v := 2) hx hb dX12_togetherOf_129 (by decide) ?_
          refine lv_iload hx hb dX12_togetherOf_130 (lv_at hl 1 rfl) ?_
          refine lv_imul hx hb dX12_togetherOf_132 ?_
          refine lv_topi (fun z4979 ez4979 => ?_)
          have fz4979 : z4979.toInt = 2 * x4415.toInt := by rw [ez4979]; exact tq_mul (by decide) rfl (by omega)
          refine va_iald (D := D) hx hb hK hP 2 0 rfl rfl (tq_in rfl (by omega)) dX12_togetherOf_133 ?_
          refine lv_topi (fun z4980 ez4980 => ?_)
          have hz4980 : 1 ≤ z4980.toInt ∧ z4980.toInt ≤ 30 := by rw [ez4980]; exact rf_tune h_rft x4415.toInt (by omega) (by omega) (by omega)
          refine lv_i2l (v := _) hx hb dX12_togetherOf_134 rfl ?_
          refine lv_topl (fun z4981 ez4981 => ?_)
          have fz4981 : z4981.toInt = z4980.toInt := by rw [ez4981]; exact tl_i rfl
          refine ct_calll (D := D) (wr := [mo qm vm_thrown qm_width qm_many qm_cells qm_moved qm_tape vm_taped vm_at vm_token vm_place vm_value vm_word vm_bad vm_badPlace vm_fault vm_faultPlace qm_lines qm_has qm_round qm_meets qm_stumble qm_isMud qm_cell qm_tune qm_change qm_isKept qm_steps qm_places qm_danced vm_runMost vm_runBegins qm_heardBy vm_fitMany vm_fitFirst vm_fitBeats vm_listenLeaves qm_there vm_metAt vm_metIn qm_wins vm_nightHoles vm_nightFirst vm_nightMud vm_nightSlips vm_drawnNow, (qm_has, .inl (cI, 55, .inl (fm_has))), (qm_tune, .inl (cI, 50, .inl (fm_tune)))]) (va_runS (As := [.long x4414, .long z4981]) (rest := [.long x4414]) ⟨hx, hb, hml, hown, hts⟩ (c_X12_commonLong l D G cI cJ cB cZ cO 130 x4414 z4981 (cl_top (by omega)) H.size) (va_cwS 2 hts gX12_togetherOf_X12_commonLong rfl rfl rfl (by decide +kernel) ⟨Nat.le_of_ble_eq_true rfl, Nat.le_of_ble_eq_true rfl⟩) (ct_preS (T := ct_T cI cJ cB cZ cO) hE hH hP hD hS hA [] (by decide) rfl) rfl rfl hl.1 rfl (lv_room (Nat.le_of_ble_eq_true rfl)) dX12_togetherOf_135 ⟨Nat.le_of_ble_eq_true rfl, Nat.le_of_ble_eq_true rfl⟩) hP hD hS hA [] [0, 1, 2] rfl rfl (by decide) (by decide) (fun r4982 u H locs hw hP hD hS => ?_)
          obtain ⟨hP, hD⟩ : ct_B D A H [mo qm vm_thrown qm_width qm_many qm_cells qm_moved qm_tape vm_taped vm_at vm_token vm_place vm_value vm_word vm_bad vm_badPlace vm_fault vm_faultPlace qm_lines qm_has qm_round qm_meets qm_stumble qm_isMud qm_cell qm_tune qm_change qm_isKept qm_steps qm_places qm_danced vm_runMost vm_runBegins qm_heardBy vm_fitMany vm_fitFirst vm_fitBeats vm_listenLeaves qm_there vm_metAt vm_metIn qm_wins vm_nightHoles vm_nightFirst vm_nightMud vm_nightSlips vm_drawnNow, (qm_has, .inl (cI, 55, .inl (fm_has))), (qm_tune, .inl (cI, 50, .inl (fm_tune)))] := ⟨hP, hD⟩
          have hp0 := hw
          have hp_4983 : r4982.toInt ≠ 0 := hp0
          refine lv_ldiv hx hb dX12_togetherOf_138 (tl_nz (by omega)) ?_
          refine lv_topl (fun z4984 ez4984 => ?_)
          refine lv_aload_n hx hb dX12_togetherOf_139 rfl (lv_at hl 4 rfl) ?_
          refine va_get (D := D) (ci := 12) (v := .ref qm_tune) (C := RX12) (T := TX12) (N := 45) hx hb hts hi12 hown hK hP 0 rfl rfl 23 (by decide) (hts (.fieldLink RX12 53 "OverHillModel" "tune" "[I") (by decide +kernel)) (fun _ h9 => h9) rfl dX12_togetherOf_140 ?_
          refine lv_iconst (v := 2) hx hb dX12_togetherOf_143 (by decide) ?_
          refine lv_iload hx hb dX12_togetherOf_144 (lv_at hl 1 rfl) ?_
          refine lv_imul hx hb dX12_togetherOf_146 ?_
          refine lv_topi (fun z4985 ez4985 => ?_)
          have fz4985 : z4985.toInt = 2 * x4415.toInt := by rw [ez4985]; exact tq_mul (by decide) rfl (by omega)
          refine va_iald (D := D) hx hb hK hP 2 0 rfl rfl (tq_in rfl (by omega)) dX12_togetherOf_147 ?_
          refine lv_topi (fun z4986 ez4986 => ?_)
          have hz4986 : 1 ≤ z4986.toInt ∧ z4986.toInt ≤ 30 := by rw [ez4986]; exact rf_tune h_rft x4415.toInt (by omega) (by omega) (by omega)
          refine lv_i2l (v := _) hx hb dX12_togetherOf_148 rfl ?_
          refine lv_topl (fun z4987 ez4987 => ?_)
          have fz4987 : z4987.toInt = z4986.toInt := by rw [ez4987]; exact tl_i rfl
          refine lv_lmul hx hb dX12_togetherOf_149 ?_
          refine lv_topl (fun z4988 ez4988 => ?_)
          refine lv_lstore (lv' := [(5, .long z4988), (8, .int x4959), (7, .int x4415), (3, .long x4958), (0, .ref qm), (1, .int a1), (2, .int a2)]) hx hb dX12_togetherOf_150 hl (by decide) rfl (fun ls hl => ?_)
          obtain ⟨z4989, ez4989⟩ : ∃ z : Int32, z = x4415 + 1 := ⟨_, rfl⟩
          have fz4989 : z4989.toInt = x4415.toInt + 1 := by rw [ez4989]; exact tq_add rfl (by decide) (by omega)
          refine lv_iinc (v := z4989) (lv' := [(7, .int z4989), (5, .long z4988), (8, .int x4959), (3, .long x4958), (0, .ref qm), (1, .int a1), (2, .int a2)]) hx hb dX12_togetherOf_152 hl (k := 2) rfl ez4989.symm (by decide) rfl (fun ls hl => ?_)
          refine lv_goto (tgt := 9) hx hb dX12_togetherOf_155 (by decide) ?_
          exact ih4416 (x4958, z4988, z4989) _ _ _ (show (5 - z4989.toInt).toNat < (5 - x4415.toInt).toNat by omega) ⟨(show 0 ≤ z4989.toInt ∧ z4989.toInt ≤ 5 by omega), ⟨hP, hD⟩, hS, lv_sub hl [0, 1, 3, 4, 5, 6] rfl⟩
        · have hq4978 : z4973.toInt ≠ z4977.toInt := tl_ne rfl rfl (fun z => hc ((lg_cmp_eq _ _).mpr z))
          refine lv_ldc2 (v := (-1)) hx hb hown (hts (.constantLong RX12 124 (-1)) (by decide +kernel)) dX12_togetherOf_117 ?_
          obtain ⟨hP9, hD9⟩ : ct_B D A H [mo qm vm_thrown qm_width qm_many qm_cells qm_moved qm_tape vm_taped vm_at vm_token vm_place vm_value vm_word vm_bad vm_badPlace vm_fault vm_faultPlace qm_lines qm_has qm_round qm_meets qm_stumble qm_isMud qm_cell qm_tune qm_change qm_isKept qm_steps qm_places qm_danced vm_runMost vm_runBegins qm_heardBy vm_fitMany vm_fitFirst vm_fitBeats vm_listenLeaves qm_there vm_metAt vm_metIn qm_wins vm_nightHoles vm_nightFirst vm_nightMud vm_nightSlips vm_drawnNow, (qm_has, .inl (cI, 55, .inl (fm_has))), (qm_tune, .inl (cI, 50, .inl (fm_tune)))] := ⟨hP.sub [0, 1, 2] rfl, hD.sub [0, 1, 2] (by decide) rfl⟩
          exact W.lret (v := (-1)) hx hb hr (fun t ht hW => ⟨⟨(-1), (), rfl, trivial, by rw [ht]; exact hP9, hD9⟩, hS.F ht⟩) hS.2.2 dX12_togetherOf_120
      · have hq4969 : z4964.toInt ≠ z4968.toInt := tl_ne rfl rfl (fun z => hc ((lg_cmp_eq _ _).mpr z))
        refine lv_iload hx hb dX12_togetherOf_64 (lv_at hl 0 rfl) ?_
        refine lv_aload_n hx hb dX12_togetherOf_66 rfl (lv_at hl 4 rfl) ?_
        refine va_get (D := D) (ci := 12) (v := .ref qm_tune) (C := RX12) (T := TX12) (N := 45) hx hb hts hi12 hown hK hP 0 rfl rfl 23 (by decide) (hts (.fieldLink RX12 53 "OverHillModel" "tune" "[I") (by decide +kernel)) (fun _ h9 => h9) rfl dX12_togetherOf_67 ?_
        refine lv_iconst (v := 2) hx hb dX12_togetherOf_70 (by decide) ?_
        refine lv_iload hx hb dX12_togetherOf_71 (lv_at hl 1 rfl) ?_
        refine lv_imul hx hb dX12_togetherOf_73 ?_
        refine lv_topi (fun z4990 ez4990 => ?_)
        have fz4990 : z4990.toInt = 2 * x4415.toInt := by rw [ez4990]; exact tq_mul (by decide) rfl (by omega)
        refine va_iald (D := D) hx hb hK hP 2 0 rfl rfl (tq_in rfl (by omega)) dX12_togetherOf_74 ?_
        refine lv_topi (fun z4991 ez4991 => ?_)
        have hz4991 : 1 ≤ z4991.toInt ∧ z4991.toInt ≤ 30 := by rw [ez4991]; exact rf_tune h_rft x4415.toInt (by omega) (by omega) (by omega)
        refine lv_icmp_ge (tgt := 89) hx hb dX12_togetherOf_75 (by decide) (fun hc => ?_) (fun hc => ?_)
        · have hq4992 : z4991.toInt ≤ x4959.toInt := tq_le rfl rfl hc
          refine lv_lload_n hx hb dX12_togetherOf_89 rfl (lv_at hl 3 rfl) ?_
          refine lv_aload_n hx hb dX12_togetherOf_90 rfl (lv_at hl 4 rfl) ?_
          refine va_get (D := D) (ci := 12) (v := .ref qm_tune) (C := RX12) (T := TX12) (N := 45) hx hb hts hi12 hown hK hP 0 rfl rfl 23 (by decide) (hts (.fieldLink RX12 53 "OverHillModel" "tune" "[I") (by decide +kernel)) (fun _ h9 => h9) rfl dX12_togetherOf_91 ?_
          refine lv_iconst (v := 2) hx hb dX12_togetherOf_94 (by decide) ?_
          refine lv_iload hx hb dX12_togetherOf_95 (lv_at hl 1 rfl) ?_
          refine lv_imul hx hb dX12_togetherOf_97 ?_
          refine lv_topi (fun z4993 ez4993 => ?_)
          have fz4993 : z4993.toInt = 2 * x4415.toInt := by rw [ez4993]; exact tq_mul (by decide) rfl (by omega)
          refine va_iald (D := D) hx hb hK hP 2 0 rfl rfl (tq_in rfl (by omega)) dX12_togetherOf_98 ?_
          refine lv_topi (fun z4994 ez4994 => ?_)
          have hz4994 : 1 ≤ z4994.toInt ∧ z4994.toInt ≤ 30 := by rw [ez4994]; exact rf_tune h_rft x4415.toInt (by omega) (by omega) (by omega)
          refine lv_i2l (v := _) hx hb dX12_togetherOf_99 rfl ?_
          refine lv_topl (fun z4995 ez4995 => ?_)
          have fz4995 : z4995.toInt = z4994.toInt := by rw [ez4995]; exact tl_i rfl
          refine lv_lrem hx hb dX12_togetherOf_100 (tl_nz (by omega)) ?_
          refine lv_topl (fun z4996 ez4996 => ?_)
          refine lv_aload_n hx hb dX12_togetherOf_101 rfl (lv_at hl 4 rfl) ?_
          refine va_get (D := D) (ci := 12) (v := .ref qm_tune) (C := RX12) (T := TX12) (N := 45) hx hb hts hi12 hown hK hP 0 rfl rfl 23 (by decide) (hts (.fieldLink RX12 53 "OverHillModel" "tune" "[I") (by decide +kernel)) (fun _ h9 => h9) rfl dX12_togetherOf_102 ?_
          refine lv_iconst (v := 2) hx hb dX12_togetherOf_105 (by decide) ?_
          refine lv_iload hx hb dX12_togetherOf_106 (lv_at hl 1 rfl) ?_
          refine lv_imul hx hb dX12_togetherOf_108 ?_
          refine lv_topi (fun z4997 ez4997 => ?_)
          have fz4997 : z4997.toInt = 2 * x4415.toInt := by rw [ez4997]; exact tq_mul (by decide) rfl (by omega)
          refine lv_iconst (v := 1) hx hb dX12_togetherOf_109 (by decide) ?_
          refine lv_iadd hx hb dX12_togetherOf_110 ?_
          refine lv_topi (fun z4998 ez4998 => ?_)
          have fz4998 : z4998.toInt = z4997.toInt + 1 := by rw [ez4998]; exact tq_add rfl (by decide) (by omega)
          refine va_iald (D := D) hx hb hK hP 2 0 rfl rfl (tq_in rfl (by omega)) dX12_togetherOf_111 ?_
          refine lv_topi (fun z4999 ez4999 => ?_)
          refine lv_i2l (v := _) hx hb dX12_togetherOf_112 rfl ?_
          refine lv_topl (fun z5000 ez5000 => ?_)
          have fz5000 : z5000.toInt = z4999.toInt := by rw [ez5000]; exact tl_i rfl
          refine W.lcmp hx hb dX12_togetherOf_113 ?_
          refine lv_if_eq (tgt := 121) hx hb dX12_togetherOf_114 (by decide) (fun hc => ?_) (fun hc => ?_)
          · have hq5001 : z4996.toInt = z5000.toInt := tl_eq rfl rfl ((lg_cmp_eq _ _).mp hc)
            refine lv_lload hx hb dX12_togetherOf_121 (lv_at hl 2 rfl) ?_
            refine lv_lload hx hb dX12_togetherOf_123 (lv_at hl 2 rfl) ?_
            refine lv_aload_n hx hb dX12_togetherOf_125 rfl (lv_at hl 4 rfl) ?_
            refine va_get (D := D) (ci := 12) (v := .ref qm_tune) (C := RX12) (T := TX12) (N := 45) hx hb hts hi12 hown hK hP 0 rfl rfl 23 (by decide) (hts (.fieldLink RX12 53 "OverHillModel" "tune" "[I") (by decide +kernel)) (fun _ h9 => h9) rfl dX12_togetherOf_126 ?_
            refine lv_iconst (v := 2) hx hb dX12_togetherOf_129 (by decide) ?_
            refine lv_iload hx hb dX12_togetherOf_130 (lv_at hl 1 rfl) ?_
            refine lv_imul hx hb dX12_togetherOf_132 ?_
            refine lv_topi (fun z5002 ez5002 => ?_)
            have fz5002 : z5002.toInt = 2 * x4415.toInt := by rw [ez5002]; exact tq_mul (by decide) rfl (by omega)
            refine va_iald (D := D) hx hb hK hP 2 0 rfl rfl (tq_in rfl (by omega)) dX12_togetherOf_133 ?_
            refine lv_topi (fun z5003 ez5003 => ?_)
            have hz5003 : 1 ≤ z5003.toInt ∧ z5003.toInt ≤ 30 := by rw [ez5003]; exact rf_tune h_rft x4415.toInt (by omega) (by omega) (by omega)
            refine lv_i2l (v := _) hx hb dX12_togetherOf_134 rfl ?_
            refine lv_topl (fun z5004 ez5004 => ?_)
            have fz5004 : z5004.toInt = z5003.toInt := by rw [ez5004]; exact tl_i rfl
            refine ct_calll (D := D) (wr := [mo qm vm_thrown qm_width qm_many qm_cells qm_moved qm_tape vm_taped vm_at vm_token vm_place vm_value vm_word vm_bad vm_badPlace vm_fault vm_faultPlace qm_lines qm_has qm_round qm_meets qm_stumble qm_isMud qm_cell qm_tune qm_change qm_isKept qm_steps qm_places qm_danced vm_runMost vm_runBegins qm_heardBy vm_fitMany vm_fitFirst vm_fitBeats vm_listenLeaves qm_there vm_metAt vm_metIn qm_wins vm_nightHoles vm_nightFirst vm_nightMud vm_nightSlips vm_drawnNow, (qm_has, .inl (cI, 55, .inl (fm_has))), (qm_tune, .inl (cI, 50, .inl (fm_tune)))]) (va_runS (As := [.long x4414, .long z5004]) (rest := [.long x4414]) ⟨hx, hb, hml, hown, hts⟩ (c_X12_commonLong l D G cI cJ cB cZ cO 130 x4414 z5004 (cl_top (by omega)) H.size) (va_cwS 2 hts gX12_togetherOf_X12_commonLong rfl rfl rfl (by decide +kernel) ⟨Nat.le_of_ble_eq_true rfl, Nat.le_of_ble_eq_true rfl⟩) (ct_preS (T := ct_T cI cJ cB cZ cO) hE hH hP hD hS hA [] (by decide) rfl) rfl rfl hl.1 rfl (lv_room (Nat.le_of_ble_eq_true rfl)) dX12_togetherOf_135 ⟨Nat.le_of_ble_eq_true rfl, Nat.le_of_ble_eq_true rfl⟩) hP hD hS hA [] [0, 1, 2] rfl rfl (by decide) (by decide) (fun r5005 u H locs hw hP hD hS => ?_)
            obtain ⟨hP, hD⟩ : ct_B D A H [mo qm vm_thrown qm_width qm_many qm_cells qm_moved qm_tape vm_taped vm_at vm_token vm_place vm_value vm_word vm_bad vm_badPlace vm_fault vm_faultPlace qm_lines qm_has qm_round qm_meets qm_stumble qm_isMud qm_cell qm_tune qm_change qm_isKept qm_steps qm_places qm_danced vm_runMost vm_runBegins qm_heardBy vm_fitMany vm_fitFirst vm_fitBeats vm_listenLeaves qm_there vm_metAt vm_metIn qm_wins vm_nightHoles vm_nightFirst vm_nightMud vm_nightSlips vm_drawnNow, (qm_has, .inl (cI, 55, .inl (fm_has))), (qm_tune, .inl (cI, 50, .inl (fm_tune)))] := ⟨hP, hD⟩
            have hp0 := hw
            have hp_5006 : r5005.toInt ≠ 0 := hp0
            refine lv_ldiv hx hb dX12_togetherOf_138 (tl_nz (by omega)) ?_
            refine lv_topl (fun z5007 ez5007 => ?_)
            refine lv_aload_n hx hb dX12_togetherOf_139 rfl (lv_at hl 4 rfl) ?_
            refine va_get (D := D) (ci := 12) (v := .ref qm_tune) (C := RX12) (T := TX12) (N := 45) hx hb hts hi12 hown hK hP 0 rfl rfl 23 (by decide) (hts (.fieldLink RX12 53 "OverHillModel" "tune" "[I") (by decide +kernel)) (fun _ h9 => h9) rfl dX12_togetherOf_140 ?_
            refine lv_iconst (v := 2) hx hb dX12_togetherOf_143 (by decide) ?_
            refine lv_iload hx hb dX12_togetherOf_144 (lv_at hl 1 rfl) ?_
            refine lv_imul hx hb dX12_togetherOf_146 ?_
            refine lv_topi (fun z5008 ez5008 => ?_)
            have fz5008 : z5008.toInt = 2 * x4415.toInt := by rw [ez5008]; exact tq_mul (by decide) rfl (by omega)
            refine va_iald (D := D) hx hb hK hP 2 0 rfl rfl (tq_in rfl (by omega)) dX12_togetherOf_147 ?_
            refine lv_topi (fun z5009 ez5009 => ?_)
            have hz5009 : 1 ≤ z5009.toInt ∧ z5009.toInt ≤ 30 := by rw [ez5009]; exact rf_tune h_rft x4415.toInt (by omega) (by omega) (by omega)
            refine lv_i2l (v := _) hx hb dX12_togetherOf_148 rfl ?_
            refine lv_topl (fun z5010 ez5010 => ?_)
            have fz5010 : z5010.toInt = z5009.toInt := by rw [ez5010]; exact tl_i rfl
            refine lv_lmul hx hb dX12_togetherOf_149 ?_
            refine lv_topl (fun z5011 ez5011 => ?_)
            refine lv_lstore (lv' := [(5, .long z5011), (8, .int x4959), (7, .int x4415), (3, .long x4958), (0, .ref qm), (1, .int a1), (2, .int a2)]) hx hb dX12_togetherOf_150 hl (by decide) rfl (fun ls hl => ?_)
            obtain ⟨z5012, ez5012⟩ : ∃ z : Int32, z = x4415 + 1 := ⟨_, rfl⟩
            have fz5012 : z5012.toInt = x4415.toInt + 1 := by rw [ez5012]; exact tq_add rfl (by decide) (by omega)
            refine lv_iinc (v := z5012) (lv' := [(7, .int z5012), (5, .long z5011), (8, .int x4959), (3, .long x4958), (0, .ref qm), (1, .int a1), (2, .int a2)]) hx hb dX12_togetherOf_152 hl (k := 2) rfl ez5012.symm (by decide) rfl (fun ls hl => ?_)
            refine lv_goto (tgt := 9) hx hb dX12_togetherOf_155 (by decide) ?_
            exact ih4416 (x4958, z5011, z5012) _ _ _ (show (5 - z5012.toInt).toNat < (5 - x4415.toInt).toNat by omega) ⟨(show 0 ≤ z5012.toInt ∧ z5012.toInt ≤ 5 by omega), ⟨hP, hD⟩, hS, lv_sub hl [0, 1, 3, 4, 5, 6] rfl⟩
          · have hq5001 : z4996.toInt ≠ z5000.toInt := tl_ne rfl rfl (fun z => hc ((lg_cmp_eq _ _).mpr z))
            refine lv_ldc2 (v := (-1)) hx hb hown (hts (.constantLong RX12 124 (-1)) (by decide +kernel)) dX12_togetherOf_117 ?_
            obtain ⟨hP9, hD9⟩ : ct_B D A H [mo qm vm_thrown qm_width qm_many qm_cells qm_moved qm_tape vm_taped vm_at vm_token vm_place vm_value vm_word vm_bad vm_badPlace vm_fault vm_faultPlace qm_lines qm_has qm_round qm_meets qm_stumble qm_isMud qm_cell qm_tune qm_change qm_isKept qm_steps qm_places qm_danced vm_runMost vm_runBegins qm_heardBy vm_fitMany vm_fitFirst vm_fitBeats vm_listenLeaves qm_there vm_metAt vm_metIn qm_wins vm_nightHoles vm_nightFirst vm_nightMud vm_nightSlips vm_drawnNow, (qm_has, .inl (cI, 55, .inl (fm_has))), (qm_tune, .inl (cI, 50, .inl (fm_tune)))] := ⟨hP.sub [0, 1, 2] rfl, hD.sub [0, 1, 2] (by decide) rfl⟩
            exact W.lret (v := (-1)) hx hb hr (fun t ht hW => ⟨⟨(-1), (), rfl, trivial, by rw [ht]; exact hP9, hD9⟩, hS.F ht⟩) hS.2.2 dX12_togetherOf_120
        · have hq4992 : x4959.toInt < z4991.toInt := tq_nle rfl rfl hc
          refine lv_lload_n hx hb dX12_togetherOf_78 rfl (lv_at hl 3 rfl) ?_
          refine lv_lload hx hb dX12_togetherOf_79 (lv_at hl 2 rfl) ?_
          refine lv_ladd hx hb dX12_togetherOf_81 ?_
          refine lv_topl (fun z5013 ez5013 => ?_)
          refine lv_lstore_n (lv' := [(3, .long z5013), (8, .int x4959), (7, .int x4415), (5, .long x4414), (0, .ref qm), (1, .int a1), (2, .int a2)]) hx hb dX12_togetherOf_82 rfl hl (by decide) rfl (fun ls hl => ?_)
          obtain ⟨z5014, ez5014⟩ : ∃ z : Int32, z = x4959 + 1 := ⟨_, rfl⟩
          have fz5014 : z5014.toInt = x4959.toInt + 1 := by rw [ez5014]; exact tq_add rfl (by decide) (by omega)
          refine lv_iinc (v := z5014) (lv' := [(8, .int z5014), (3, .long z5013), (7, .int x4415), (5, .long x4414), (0, .ref qm), (1, .int a1), (2, .int a2)]) hx hb dX12_togetherOf_83 hl (k := 1) rfl ez5014.symm (by decide) rfl (fun ls hl => ?_)
          refine lv_goto (tgt := 36) hx hb dX12_togetherOf_86 (by decide) ?_
          exact ih4960 (z5013, z5014) _ _ _ (show (30 - z5014.toInt).toNat < (30 - x4959.toInt).toNat by omega) ⟨(show 0 ≤ z5014.toInt ∧ z5014.toInt ≤ 30 by omega), ⟨hP, hD⟩, hS, lv_sub hl [0, 2, 3, 1, 4, 5, 6] rfl⟩
    · subst hz
      have hz_5015 : ¬ (bt a1 x4415) := hz2
      refine lv_if_ne (tgt := 33) hx hb dX12_togetherOf_27 (by decide) (fun hc => absurd hc (by decide)) (fun _ => ?_)
      refine lv_goto (tgt := 152) hx hb dX12_togetherOf_30 (by decide) ?_
      obtain ⟨z5016, ez5016⟩ : ∃ z : Int32, z = x4415 + 1 := ⟨_, rfl⟩
      have fz5016 : z5016.toInt = x4415.toInt + 1 := by rw [ez5016]; exact tq_add rfl (by decide) (by omega)
      refine lv_iinc (v := z5016) (lv' := [(7, .int z5016), (5, .long x4414), (3, .long x4413), (0, .ref qm), (1, .int a1), (2, .int a2)]) hx hb dX12_togetherOf_152 hl (k := 0) rfl ez5016.symm (by decide) rfl (fun ls hl => ?_)
      refine lv_goto (tgt := 9) hx hb dX12_togetherOf_155 (by decide) ?_
      exact ih4416 (x4413, x4414, z5016) _ _ _ (show (5 - z5016.toInt).toNat < (5 - x4415.toInt).toNat by omega) ⟨(show 0 ≤ z5016.toInt ∧ z5016.toInt ≤ 5 by omega), ⟨hP, hD⟩, hS, lv_sub hl [0, 1, 2, 3, 4, 5] rfl⟩
abbrev w_c_X12_together (cI cJ cB cZ cO : ClassId) (qm : Nat) (vm_thrown : Int32) (qm_width : Nat) (qm_many : Nat) (qm_cells : Nat) (qm_moved : Nat) (qm_tape : Nat) (vm_taped : Int32) (vm_at : Int32) (vm_token : Int32) (vm_place : Int32) (vm_value : Int32) (vm_word : Int64) (vm_bad : Int32) (vm_badPlace : Int32) (vm_fault : Int32) (vm_faultPlace : Int32) (qm_lines : Nat) (fm_lines : Nat → Int32) (qm_has : Nat) (fm_has : Nat → Int32) (qm_round : Nat) (qm_meets : Nat) (qm_stumble : Nat) (qm_isMud : Nat) (qm_cell : Nat) (qm_tune : Nat) (fm_tune : Nat → Int32) (qm_change : Nat) (qm_isKept : Nat) (qm_steps : Nat) (qm_places : Nat) (qm_danced : Nat) (vm_runMost : Int32) (vm_runBegins : Int32) (qm_heardBy : Nat) (vm_fitMany : Int32) (vm_fitFirst : Int32) (vm_fitBeats : Int64) (vm_listenLeaves : Int32) (qm_there : Nat) (vm_metAt : Int32) (vm_metIn : Int32) (qm_wins : Nat) (vm_nightHoles : Int32) (vm_nightFirst : Int32) (vm_nightMud : Int32) (vm_nightSlips : Int32) (vm_drawnNow : Int64) : va_W := [mo qm vm_thrown qm_width qm_many qm_cells qm_moved qm_tape vm_taped vm_at vm_token vm_place vm_value vm_word vm_bad vm_badPlace vm_fault vm_faultPlace qm_lines qm_has qm_round qm_meets qm_stumble qm_isMud qm_cell qm_tune qm_change qm_isKept qm_steps qm_places qm_danced vm_runMost vm_runBegins qm_heardBy vm_fitMany vm_fitFirst vm_fitBeats vm_listenLeaves qm_there vm_metAt vm_metIn qm_wins vm_nightHoles vm_nightFirst vm_nightMud vm_nightSlips vm_drawnNow, (qm_lines, .inl (cI, 5, .inl (fm_lines))), (qm_has, .inl (cI, 55, .inl (fm_has))), (qm_tune, .inl (cI, 50, .inl (fm_tune)))]
set_option maxHeartbeats 4000000 in
set_option maxRecDepth 100000 in
/-- X12 together -/
theorem c_X12_together (l : Launch) (D : va_G) (G : ct_G) (cI cJ cB cZ cO : ClassId) (qm : Nat) (vm_thrown : Int32) (qm_width : Nat) (qm_many : Nat) (qm_cells : Nat) (qm_moved : Nat) (qm_tape : Nat) (vm_taped : Int32) (vm_at : Int32) (vm_token : Int32) (vm_place : Int32) (vm_value : Int32) (vm_word : Int64) (vm_bad : Int32) (vm_badPlace : Int32) (vm_fault : Int32) (vm_faultPlace : Int32) (qm_lines : Nat) (fm_lines : Nat → Int32) (qm_has : Nat) (fm_has : Nat → Int32) (qm_round : Nat) (qm_meets : Nat) (qm_stumble : Nat) (qm_isMud : Nat) (qm_cell : Nat) (qm_tune : Nat) (fm_tune : Nat → Int32) (qm_change : Nat) (qm_isKept : Nat) (qm_steps : Nat) (qm_places : Nat) (qm_danced : Nat) (vm_runMost : Int32) (vm_runBegins : Int32) (qm_heardBy : Nat) (vm_fitMany : Int32) (vm_fitFirst : Int32) (vm_fitBeats : Int64) (vm_listenLeaves : Int32) (qm_there : Nat) (vm_metAt : Int32) (vm_metIn : Int32) (qm_wins : Nat) (vm_nightHoles : Int32) (vm_nightFirst : Int32) (vm_nightMud : Int32) (vm_nightSlips : Int32) (vm_drawnNow : Int64) (a1 : Int32) (a2 : Int32) (h_vm_taped : 0 ≤ vm_taped.toInt ∧ vm_taped.toInt ≤ 1200) (h_vm_at : 0 ≤ vm_at.toInt ∧ vm_at.toInt ≤ 1200) (h_vm_value : 0 ≤ vm_value.toInt ∧ vm_value.toInt ≤ 1000009) (h_fm_has : ar_ok [0, (-2147483648), (-2147483648), 0, 0, 0, 0, 0, 0, 0, 0] [20, 2147483647, 2147483647, 12, 12, 11, 11, 8, 12, 5, 40] fm_has) (h_rft : rf_t fm_has fm_tune) (sz : Nat) : Met l yX12_together wsX12_together ({ frames := 132, cells := 0, slots := 0, locals := 3041 }) (va_Pc [.ref qm, .int a1, .int a2] (ct_P D (ct_T cI cJ cB cZ cO) G (w_c_X12_together cI cJ cB cZ cO qm vm_thrown qm_width qm_many qm_cells qm_moved qm_tape vm_taped vm_at vm_token vm_place vm_value vm_word vm_bad vm_badPlace vm_fault vm_faultPlace qm_lines fm_lines qm_has fm_has qm_round qm_meets qm_stumble qm_isMud qm_cell qm_tune fm_tune qm_change qm_isKept qm_steps qm_places qm_danced vm_runMost vm_runBegins qm_heardBy vm_fitMany vm_fitFirst vm_fitBeats vm_listenLeaves qm_there vm_metAt vm_metIn qm_wins vm_nightHoles vm_nightFirst vm_nightMud vm_nightSlips vm_drawnNow) sz)) (va_Ql (fun (rz : Int64) (u : Int32) => True) (fun (u : Int32) t => ct_Q D (va_A (w_c_X12_together cI cJ cB cZ cO qm vm_thrown qm_width qm_many qm_cells qm_moved qm_tape vm_taped vm_at vm_token vm_place vm_value vm_word vm_bad vm_badPlace vm_fault vm_faultPlace qm_lines fm_lines qm_has fm_has qm_round qm_meets qm_stumble qm_isMud qm_cell qm_tune fm_tune qm_change qm_isKept qm_steps qm_places qm_danced vm_runMost vm_runBegins qm_heardBy vm_fitMany vm_fitFirst vm_fitBeats vm_listenLeaves qm_there vm_metAt vm_metIn qm_wins vm_nightHoles vm_nightFirst vm_nightMud vm_nightSlips vm_drawnNow) sz) [mo qm u qm_width qm_many qm_cells qm_moved qm_tape vm_taped vm_at vm_token vm_place vm_value vm_word vm_bad vm_badPlace vm_fault vm_faultPlace qm_lines qm_has qm_round qm_meets qm_stumble qm_isMud qm_cell qm_tune qm_change qm_isKept qm_steps qm_places qm_danced vm_runMost vm_runBegins qm_heardBy vm_fitMany vm_fitFirst vm_fitBeats vm_listenLeaves qm_there vm_metAt vm_metIn qm_wins vm_nightHoles vm_nightFirst vm_nightMud vm_nightSlips vm_drawnNow, (qm_lines, .inl (cI, 5, .inl (fm_lines))), (qm_has, .inl (cI, 55, .inl (fm_has))), (qm_tune, .inl (cI, 50, .inl (fm_tune)))] t) (va_A (w_c_X12_together cI cJ cB cZ cO qm vm_thrown qm_width qm_many qm_cells qm_moved qm_tape vm_taped vm_at vm_token vm_place vm_value vm_word vm_bad vm_badPlace vm_fault vm_faultPlace qm_lines fm_lines qm_has fm_has qm_round qm_meets qm_stumble qm_isMud qm_cell qm_tune fm_tune qm_change qm_isKept qm_steps qm_places qm_danced vm_runMost vm_runBegins qm_heardBy vm_fitMany vm_fitFirst vm_fitBeats vm_listenLeaves qm_there vm_metAt vm_metIn qm_wins vm_nightHoles vm_nightFirst vm_nightMud vm_nightSlips vm_drawnNow) sz)) 0 0 (va_A (w_c_X12_together cI cJ cB cZ cO qm vm_thrown qm_width qm_many qm_cells qm_moved qm_tape vm_taped vm_at vm_token vm_place vm_value vm_word vm_bad vm_badPlace vm_fault vm_faultPlace qm_lines fm_lines qm_has fm_has qm_round qm_meets qm_stumble qm_isMud qm_cell qm_tune fm_tune qm_change qm_isKept qm_steps qm_places qm_danced vm_runMost vm_runBegins qm_heardBy vm_fitMany vm_fitFirst vm_fitBeats vm_listenLeaves qm_there vm_metAt vm_metIn qm_wins vm_nightHoles vm_nightFirst vm_nightMud vm_nightSlips vm_drawnNow) sz) := by
  refine Met.ofW (cc := cX12_together) (maxL := 3) (ret := (some .long)) (by decide) rfl ?_
  intro p e s m args below meth c s₁ B hml hv
  obtain ⟨rfl, hsz, hP, hE, hD0, hH⟩ := hv
  have hx := B.exec
  have hb := B.bytes
  have hr := B.returns
  have hts := atoms_spec (ws := wsX12_together) B.pre
  have hown : s.vm.findClass RX12 = some m.cls := findClass_of_methodNamed B.named
  have hlocks := B.notSynchronized
  have hK := hE.1
  have hi12 : ∀ w ∈ u_ws RX12 TX12 45, w ∈ wsX12_together := fun w h => List.mem_cons_of_mem _ (List.mem_append_right _ h)
  subst hsz
  have hD := hD0.self (sz := s.heap.size)
  generalize hAe : va_A (w_c_X12_together cI cJ cB cZ cO qm vm_thrown qm_width qm_many qm_cells qm_moved qm_tape vm_taped vm_at vm_token vm_place vm_value vm_word vm_bad vm_badPlace vm_fault vm_faultPlace qm_lines fm_lines qm_has fm_has qm_round qm_meets qm_stumble qm_isMud qm_cell qm_tune fm_tune qm_change qm_isKept qm_steps qm_places qm_danced vm_runMost vm_runBegins qm_heardBy vm_fitMany vm_fitFirst vm_fitBeats vm_listenLeaves qm_there vm_metAt vm_metIn qm_wins vm_nightHoles vm_nightFirst vm_nightMud vm_nightSlips vm_drawnNow) s.heap.size = A at hD hH ⊢
  have hA : ∀ q : Nat, s.heap.size ≤ q → A q := fun q h => by rw [← hAe]; exact Or.inr h
  have hS : va_S A s.heap s.heap [] := va_S.rf
  obtain ⟨hP, hD⟩ : ct_B D A s.heap [mo qm vm_thrown qm_width qm_many qm_cells qm_moved qm_tape vm_taped vm_at vm_token vm_place vm_value vm_word vm_bad vm_badPlace vm_fault vm_faultPlace qm_lines qm_has qm_round qm_meets qm_stumble qm_isMud qm_cell qm_tune qm_change qm_isKept qm_steps qm_places qm_danced vm_runMost vm_runBegins qm_heardBy vm_fitMany vm_fitFirst vm_fitBeats vm_listenLeaves qm_there vm_metAt vm_metIn qm_wins vm_nightHoles vm_nightFirst vm_nightMud vm_nightSlips vm_drawnNow, (qm_lines, .inl (cI, 5, .inl (fm_lines))), (qm_has, .inl (cI, 55, .inl (fm_has))), (qm_tune, .inl (cI, 50, .inl (fm_tune)))] := ⟨hP, hD⟩
  have hl := lv_entry ([.ref qm, .int a1, .int a2]) (n := 3) (Nat.le_of_ble_eq_true rfl)
  rw [lg_entry_eq]
  generalize (lg_sl ([.ref qm, .int a1, .int a2]) ++ List.replicate (3 - (lg_sl ([.ref qm, .int a1, .int a2])).length) Slot.unset).toArray = ls at hl ⊢
  have hl : lv_has ls 3 [(0, .ref qm), (1, .int a1), (2, .int a2)] := hl
  obtain ⟨H, hHe⟩ : ∃ H : Heap, H = s.heap := ⟨_, rfl⟩
  rw [← hHe] at hP
  have hS : va_S A s.heap H [] := by rw [hHe]; exact va_S.rf
  refine ct_start hHe ?_
  refine lv_aload_n hx hb dX12_together_0 rfl (lv_at hl 0 rfl) ?_
  refine lv_iconst (v := 0) hx hb dX12_together_1 (by decide) ?_
  refine va_put (D := D) (ci := 12) (v := .int 0) (ty := .int) (C := RX12) (T := TX12) (N := 45) hx hb hts hi12 tyX12 tyX12_ok nmX12 hown hK hP hD hS 0 rfl rfl 0 (by decide) (hts (.fieldLink RX12 80 "OverHillModel" "thrown" "I") (by decide +kernel)) (fun _ h9 => h9) rfl (by decide +kernel) rfl rfl (Nat.le_of_ble_eq_true rfl) dX12_together_2 (fun H locs hP hD hS => ?_)
  obtain ⟨hP, hD⟩ : ct_B D A H [mo qm 0 qm_width qm_many qm_cells qm_moved qm_tape vm_taped vm_at vm_token vm_place vm_value vm_word vm_bad vm_badPlace vm_fault vm_faultPlace qm_lines qm_has qm_round qm_meets qm_stumble qm_isMud qm_cell qm_tune qm_change qm_isKept qm_steps qm_places qm_danced vm_runMost vm_runBegins qm_heardBy vm_fitMany vm_fitFirst vm_fitBeats vm_listenLeaves qm_there vm_metAt vm_metIn qm_wins vm_nightHoles vm_nightFirst vm_nightMud vm_nightSlips vm_drawnNow, (qm_lines, .inl (cI, 5, .inl (fm_lines))), (qm_has, .inl (cI, 55, .inl (fm_has))), (qm_tune, .inl (cI, 50, .inl (fm_tune)))] := ⟨hP, hD⟩
  refine lv_aload_n hx hb dX12_together_5 rfl (lv_at hl 0 rfl) ?_
  refine lv_iload_n hx hb dX12_together_6 rfl (lv_at hl 1 rfl) ?_
  refine ct_calli (D := D) (wr := [(qm_tune, .inl (cI, 50, .inl (fm_tune)))]) (va_runV (As := [.int a1]) (rest := []) ⟨hx, hb, hml, hown, hts⟩ (c_X12_isSet l D G cI cJ cB cZ cO qm 0 qm_width qm_many qm_cells qm_moved qm_tape vm_taped vm_at vm_token vm_place vm_value vm_word vm_bad vm_badPlace vm_fault vm_faultPlace qm_lines fm_lines qm_has fm_has qm_round qm_meets qm_stumble qm_isMud qm_cell qm_tune qm_change qm_isKept qm_steps qm_places qm_danced vm_runMost vm_runBegins qm_heardBy vm_fitMany vm_fitFirst vm_fitBeats vm_listenLeaves qm_there vm_metAt vm_metIn qm_wins vm_nightHoles vm_nightFirst vm_nightMud vm_nightSlips vm_drawnNow a1 h_vm_taped h_vm_at h_vm_value h_fm_has H.size) (cwV 1 hts gX12_together_X12_isSet rfl rfl rfl (by decide +kernel) ⟨Nat.le_of_ble_eq_true rfl, Nat.le_of_ble_eq_true rfl⟩) (ct_preV (T := ct_T cI cJ cB cZ cO) (ci := 12) (q0 := 0) hE hH hP hD hS hA [0, 1, 2] (by decide) rfl rfl rfl) rfl rfl hl.1 rfl (lv_room (Nat.le_of_ble_eq_true rfl)) dX12_together_7 ⟨Nat.le_of_ble_eq_true rfl, Nat.le_of_ble_eq_true rfl⟩) hP hD hS hA [0, 1, 2] [3] rfl rfl (by decide) (by decide) (fun r1 u H locs hw hP hD hS => ?_)
  obtain ⟨hP, hD⟩ : ct_B D A H [(qm_tune, .inl (cI, 50, .inl (fm_tune))), mo qm 0 qm_width qm_many qm_cells qm_moved qm_tape vm_taped vm_at vm_token vm_place vm_value vm_word vm_bad vm_badPlace vm_fault vm_faultPlace qm_lines qm_has qm_round qm_meets qm_stumble qm_isMud qm_cell qm_tune qm_change qm_isKept qm_steps qm_places qm_danced vm_runMost vm_runBegins qm_heardBy vm_fitMany vm_fitFirst vm_fitBeats vm_listenLeaves qm_there vm_metAt vm_metIn qm_wins vm_nightHoles vm_nightFirst vm_nightMud vm_nightSlips vm_drawnNow, (qm_lines, .inl (cI, 5, .inl (fm_lines))), (qm_has, .inl (cI, 55, .inl (fm_has)))] := ⟨hP, hD⟩
  have hz := hw
  rcases hz with ⟨hz, hz2⟩ | ⟨hz, hz2⟩
  · subst hz
    refine lv_if_eq (tgt := 30) hx hb dX12_together_10 (by decide) (fun hc => absurd hc (by decide)) (fun _ => ?_)
    refine lv_iload_n hx hb dX12_together_13 rfl (lv_at hl 2 rfl) ?_
    refine lv_i2l (v := _) hx hb dX12_together_14 rfl ?_
    refine lv_topl (fun z2 ez2 => ?_)
    have fz2 : z2.toInt = a2.toInt := by rw [ez2]; exact tl_i rfl
    refine ct_calli (D := D) (wr := [(qm_tune, .inl (cI, 50, .inl (fm_tune))), mo qm 0 qm_width qm_many qm_cells qm_moved qm_tape vm_taped vm_at vm_token vm_place vm_value vm_word vm_bad vm_badPlace vm_fault vm_faultPlace qm_lines qm_has qm_round qm_meets qm_stumble qm_isMud qm_cell qm_tune qm_change qm_isKept qm_steps qm_places qm_danced vm_runMost vm_runBegins qm_heardBy vm_fitMany vm_fitFirst vm_fitBeats vm_listenLeaves qm_there vm_metAt vm_metIn qm_wins vm_nightHoles vm_nightFirst vm_nightMud vm_nightSlips vm_drawnNow, (qm_lines, .inl (cI, 5, .inl (fm_lines))), (qm_has, .inl (cI, 55, .inl (fm_has)))]) (va_runS (As := [.long z2]) (rest := []) ⟨hx, hb, hml, hown, hts⟩ (c_X12_isBeat l D G cI cJ cB cZ cO z2  H.size) (va_cwS 1 hts gX12_together_X12_isBeat rfl rfl rfl (by decide +kernel) ⟨Nat.le_of_ble_eq_true rfl, Nat.le_of_ble_eq_true rfl⟩) (ct_preS (T := ct_T cI cJ cB cZ cO) hE hH hP hD hS hA [] (by decide) rfl) rfl rfl hl.1 rfl (lv_room (Nat.le_of_ble_eq_true rfl)) dX12_together_15 ⟨Nat.le_of_ble_eq_true rfl, Nat.le_of_ble_eq_true rfl⟩) hP hD hS hA [] [0, 1, 2, 3] rfl rfl (by decide) (by decide) (fun r3 u H locs hw hP hD hS => ?_)
    obtain ⟨hP, hD⟩ : ct_B D A H [(qm_tune, .inl (cI, 50, .inl (fm_tune))), mo qm 0 qm_width qm_many qm_cells qm_moved qm_tape vm_taped vm_at vm_token vm_place vm_value vm_word vm_bad vm_badPlace vm_fault vm_faultPlace qm_lines qm_has qm_round qm_meets qm_stumble qm_isMud qm_cell qm_tune qm_change qm_isKept qm_steps qm_places qm_danced vm_runMost vm_runBegins qm_heardBy vm_fitMany vm_fitFirst vm_fitBeats vm_listenLeaves qm_there vm_metAt vm_metIn qm_wins vm_nightHoles vm_nightFirst vm_nightMud vm_nightSlips vm_drawnNow, (qm_lines, .inl (cI, 5, .inl (fm_lines))), (qm_has, .inl (cI, 55, .inl (fm_has)))] := ⟨hP, hD⟩
    have hz := hw
    rcases hz with ⟨hz, hz2⟩ | ⟨hz, hz2⟩
    · subst hz
      have hz_4 : (0 ≤ z2.toInt ∧ z2.toInt ≤ 199) := hz2
      refine lv_if_eq (tgt := 30) hx hb dX12_together_18 (by decide) (fun hc => absurd hc (by decide)) (fun _ => ?_)
      refine lv_aload_n hx hb dX12_together_21 rfl (lv_at hl 0 rfl) ?_
      refine lv_iload_n hx hb dX12_together_22 rfl (lv_at hl 1 rfl) ?_
      refine lv_iload_n hx hb dX12_together_23 rfl (lv_at hl 2 rfl) ?_
      refine ct_calll (D := D) (wr := [(qm_lines, .inl (cI, 5, .inl (fm_lines)))]) (va_runV (As := [.int a1, .int a2]) (rest := []) ⟨hx, hb, hml, hown, hts⟩ (c_X12_togetherOf l D G cI cJ cB cZ cO qm 0 qm_width qm_many qm_cells qm_moved qm_tape vm_taped vm_at vm_token vm_place vm_value vm_word vm_bad vm_badPlace vm_fault vm_faultPlace qm_lines qm_has fm_has qm_round qm_meets qm_stumble qm_isMud qm_cell qm_tune fm_tune qm_change qm_isKept qm_steps qm_places qm_danced vm_runMost vm_runBegins qm_heardBy vm_fitMany vm_fitFirst vm_fitBeats vm_listenLeaves qm_there vm_metAt vm_metIn qm_wins vm_nightHoles vm_nightFirst vm_nightMud vm_nightSlips vm_drawnNow a1 a2 h_vm_taped h_vm_at h_vm_value h_fm_has h_rft H.size) (cwV 2 hts gX12_together_X12_togetherOf rfl rfl rfl (by decide +kernel) ⟨Nat.le_of_ble_eq_true rfl, Nat.le_of_ble_eq_true rfl⟩) (ct_preV (T := ct_T cI cJ cB cZ cO) (ci := 12) (q0 := 1) hE hH hP hD hS hA [1, 3, 0] (by decide) rfl rfl rfl) rfl rfl hl.1 rfl (lv_room (Nat.le_of_ble_eq_true rfl)) dX12_together_24 ⟨Nat.le_of_ble_eq_true rfl, Nat.le_of_ble_eq_true rfl⟩) hP hD hS hA [1, 3, 0] [2] rfl rfl (by decide) (by decide) (fun r5 u H locs hw hP hD hS => ?_)
      obtain ⟨hP, hD⟩ : ct_B D A H [(qm_lines, .inl (cI, 5, .inl (fm_lines))), mo qm 0 qm_width qm_many qm_cells qm_moved qm_tape vm_taped vm_at vm_token vm_place vm_value vm_word vm_bad vm_badPlace vm_fault vm_faultPlace qm_lines qm_has qm_round qm_meets qm_stumble qm_isMud qm_cell qm_tune qm_change qm_isKept qm_steps qm_places qm_danced vm_runMost vm_runBegins qm_heardBy vm_fitMany vm_fitFirst vm_fitBeats vm_listenLeaves qm_there vm_metAt vm_metIn qm_wins vm_nightHoles vm_nightFirst vm_nightMud vm_nightSlips vm_drawnNow, (qm_has, .inl (cI, 55, .inl (fm_has))), (qm_tune, .inl (cI, 50, .inl (fm_tune)))] := ⟨hP, hD⟩
      refine lv_goto (tgt := 33) hx hb dX12_together_27 (by decide) ?_
      obtain ⟨hP9, hD9⟩ : ct_B D A H [mo qm 0 qm_width qm_many qm_cells qm_moved qm_tape vm_taped vm_at vm_token vm_place vm_value vm_word vm_bad vm_badPlace vm_fault vm_faultPlace qm_lines qm_has qm_round qm_meets qm_stumble qm_isMud qm_cell qm_tune qm_change qm_isKept qm_steps qm_places qm_danced vm_runMost vm_runBegins qm_heardBy vm_fitMany vm_fitFirst vm_fitBeats vm_listenLeaves qm_there vm_metAt vm_metIn qm_wins vm_nightHoles vm_nightFirst vm_nightMud vm_nightSlips vm_drawnNow, (qm_lines, .inl (cI, 5, .inl (fm_lines))), (qm_has, .inl (cI, 55, .inl (fm_has))), (qm_tune, .inl (cI, 50, .inl (fm_tune)))] := ⟨hP.sub [1, 0, 2, 3] rfl, hD.sub [1, 0, 2, 3] (by decide) rfl⟩
      exact W.lret (v := r5) hx hb hr (fun t ht hW => ⟨⟨r5, (0 : Int32), rfl, trivial, by rw [ht]; exact hP9, hD9⟩, hS.F ht⟩) hS.2.2 dX12_together_33
    · subst hz
      have hz_6 : ¬ (0 ≤ z2.toInt ∧ z2.toInt ≤ 199) := hz2
      refine lv_if_eq (tgt := 30) hx hb dX12_together_18 (by decide) (fun _ => ?_) (fun hc => absurd hc (by decide))
      refine lv_ldc2 (v := (-2)) hx hb hown (hts (.constantLong RX12 398 (-2)) (by decide +kernel)) dX12_together_30 ?_
      obtain ⟨hP9, hD9⟩ : ct_B D A H [mo qm 0 qm_width qm_many qm_cells qm_moved qm_tape vm_taped vm_at vm_token vm_place vm_value vm_word vm_bad vm_badPlace vm_fault vm_faultPlace qm_lines qm_has qm_round qm_meets qm_stumble qm_isMud qm_cell qm_tune qm_change qm_isKept qm_steps qm_places qm_danced vm_runMost vm_runBegins qm_heardBy vm_fitMany vm_fitFirst vm_fitBeats vm_listenLeaves qm_there vm_metAt vm_metIn qm_wins vm_nightHoles vm_nightFirst vm_nightMud vm_nightSlips vm_drawnNow, (qm_lines, .inl (cI, 5, .inl (fm_lines))), (qm_has, .inl (cI, 55, .inl (fm_has))), (qm_tune, .inl (cI, 50, .inl (fm_tune)))] := ⟨hP.sub [1, 2, 3, 0] rfl, hD.sub [1, 2, 3, 0] (by decide) rfl⟩
      exact W.lret (v := (-2)) hx hb hr (fun t ht hW => ⟨⟨(-2), (0 : Int32), rfl, trivial, by rw [ht]; exact hP9, hD9⟩, hS.F ht⟩) hS.2.2 dX12_together_33
  · subst hz
    refine lv_if_eq (tgt := 30) hx hb dX12_together_10 (by decide) (fun _ => ?_) (fun hc => absurd hc (by decide))
    refine lv_ldc2 (v := (-2)) hx hb hown (hts (.constantLong RX12 398 (-2)) (by decide +kernel)) dX12_together_30 ?_
    obtain ⟨hP9, hD9⟩ : ct_B D A H [mo qm 0 qm_width qm_many qm_cells qm_moved qm_tape vm_taped vm_at vm_token vm_place vm_value vm_word vm_bad vm_badPlace vm_fault vm_faultPlace qm_lines qm_has qm_round qm_meets qm_stumble qm_isMud qm_cell qm_tune qm_change qm_isKept qm_steps qm_places qm_danced vm_runMost vm_runBegins qm_heardBy vm_fitMany vm_fitFirst vm_fitBeats vm_listenLeaves qm_there vm_metAt vm_metIn qm_wins vm_nightHoles vm_nightFirst vm_nightMud vm_nightSlips vm_drawnNow, (qm_lines, .inl (cI, 5, .inl (fm_lines))), (qm_has, .inl (cI, 55, .inl (fm_has))), (qm_tune, .inl (cI, 50, .inl (fm_tune)))] := ⟨hP.sub [1, 2, 3, 0] rfl, hD.sub [1, 2, 3, 0] (by decide) rfl⟩
    exact W.lret (v := (-2)) hx hb hr (fun t ht hW => ⟨⟨(-2), (0 : Int32), rfl, trivial, by rw [ht]; exact hP9, hD9⟩, hS.F ht⟩) hS.2.2 dX12_together_33
abbrev w_c_X12_again (cI cJ cB cZ cO : ClassId) (qm : Nat) (vm_thrown : Int32) (qm_width : Nat) (qm_many : Nat) (qm_cells : Nat) (qm_moved : Nat) (qm_tape : Nat) (vm_taped : Int32) (vm_at : Int32) (vm_token : Int32) (vm_place : Int32) (vm_value : Int32) (vm_word : Int64) (vm_bad : Int32) (vm_badPlace : Int32) (vm_fault : Int32) (vm_faultPlace : Int32) (qm_lines : Nat) (fm_lines : Nat → Int32) (qm_has : Nat) (fm_has : Nat → Int32) (qm_round : Nat) (qm_meets : Nat) (qm_stumble : Nat) (qm_isMud : Nat) (qm_cell : Nat) (qm_tune : Nat) (fm_tune : Nat → Int32) (qm_change : Nat) (qm_isKept : Nat) (qm_steps : Nat) (qm_places : Nat) (qm_danced : Nat) (vm_runMost : Int32) (vm_runBegins : Int32) (qm_heardBy : Nat) (vm_fitMany : Int32) (vm_fitFirst : Int32) (vm_fitBeats : Int64) (vm_listenLeaves : Int32) (qm_there : Nat) (vm_metAt : Int32) (vm_metIn : Int32) (qm_wins : Nat) (vm_nightHoles : Int32) (vm_nightFirst : Int32) (vm_nightMud : Int32) (vm_nightSlips : Int32) (vm_drawnNow : Int64) : va_W := [mo qm vm_thrown qm_width qm_many qm_cells qm_moved qm_tape vm_taped vm_at vm_token vm_place vm_value vm_word vm_bad vm_badPlace vm_fault vm_faultPlace qm_lines qm_has qm_round qm_meets qm_stumble qm_isMud qm_cell qm_tune qm_change qm_isKept qm_steps qm_places qm_danced vm_runMost vm_runBegins qm_heardBy vm_fitMany vm_fitFirst vm_fitBeats vm_listenLeaves qm_there vm_metAt vm_metIn qm_wins vm_nightHoles vm_nightFirst vm_nightMud vm_nightSlips vm_drawnNow, (qm_lines, .inl (cI, 5, .inl (fm_lines))), (qm_has, .inl (cI, 55, .inl (fm_has))), (qm_tune, .inl (cI, 50, .inl (fm_tune)))]
set_option maxHeartbeats 4000000 in
set_option maxRecDepth 100000 in
/-- X12 again -/
theorem c_X12_again (l : Launch) (D : va_G) (G : ct_G) (cI cJ cB cZ cO : ClassId) (qm : Nat) (vm_thrown : Int32) (qm_width : Nat) (qm_many : Nat) (qm_cells : Nat) (qm_moved : Nat) (qm_tape : Nat) (vm_taped : Int32) (vm_at : Int32) (vm_token : Int32) (vm_place : Int32) (vm_value : Int32) (vm_word : Int64) (vm_bad : Int32) (vm_badPlace : Int32) (vm_fault : Int32) (vm_faultPlace : Int32) (qm_lines : Nat) (fm_lines : Nat → Int32) (qm_has : Nat) (fm_has : Nat → Int32) (qm_round : Nat) (qm_meets : Nat) (qm_stumble : Nat) (qm_isMud : Nat) (qm_cell : Nat) (qm_tune : Nat) (fm_tune : Nat → Int32) (qm_change : Nat) (qm_isKept : Nat) (qm_steps : Nat) (qm_places : Nat) (qm_danced : Nat) (vm_runMost : Int32) (vm_runBegins : Int32) (qm_heardBy : Nat) (vm_fitMany : Int32) (vm_fitFirst : Int32) (vm_fitBeats : Int64) (vm_listenLeaves : Int32) (qm_there : Nat) (vm_metAt : Int32) (vm_metIn : Int32) (qm_wins : Nat) (vm_nightHoles : Int32) (vm_nightFirst : Int32) (vm_nightMud : Int32) (vm_nightSlips : Int32) (vm_drawnNow : Int64) (a1 : Int32) (h_vm_taped : 0 ≤ vm_taped.toInt ∧ vm_taped.toInt ≤ 1200) (h_vm_at : 0 ≤ vm_at.toInt ∧ vm_at.toInt ≤ 1200) (h_vm_value : 0 ≤ vm_value.toInt ∧ vm_value.toInt ≤ 1000009) (h_fm_has : ar_ok [0, (-2147483648), (-2147483648), 0, 0, 0, 0, 0, 0, 0, 0] [20, 2147483647, 2147483647, 12, 12, 11, 11, 8, 12, 5, 40] fm_has) (h_rft : rf_t fm_has fm_tune) (sz : Nat) : Met l yX12_again wsX12_again ({ frames := 132, cells := 0, slots := 0, locals := 3037 }) (va_Pc [.ref qm, .int a1] (ct_P D (ct_T cI cJ cB cZ cO) G (w_c_X12_again cI cJ cB cZ cO qm vm_thrown qm_width qm_many qm_cells qm_moved qm_tape vm_taped vm_at vm_token vm_place vm_value vm_word vm_bad vm_badPlace vm_fault vm_faultPlace qm_lines fm_lines qm_has fm_has qm_round qm_meets qm_stumble qm_isMud qm_cell qm_tune fm_tune qm_change qm_isKept qm_steps qm_places qm_danced vm_runMost vm_runBegins qm_heardBy vm_fitMany vm_fitFirst vm_fitBeats vm_listenLeaves qm_there vm_metAt vm_metIn qm_wins vm_nightHoles vm_nightFirst vm_nightMud vm_nightSlips vm_drawnNow) sz)) (va_Ql (fun (rz : Int64) (u : Int32) => True) (fun (u : Int32) t => ct_Q D (va_A (w_c_X12_again cI cJ cB cZ cO qm vm_thrown qm_width qm_many qm_cells qm_moved qm_tape vm_taped vm_at vm_token vm_place vm_value vm_word vm_bad vm_badPlace vm_fault vm_faultPlace qm_lines fm_lines qm_has fm_has qm_round qm_meets qm_stumble qm_isMud qm_cell qm_tune fm_tune qm_change qm_isKept qm_steps qm_places qm_danced vm_runMost vm_runBegins qm_heardBy vm_fitMany vm_fitFirst vm_fitBeats vm_listenLeaves qm_there vm_metAt vm_metIn qm_wins vm_nightHoles vm_nightFirst vm_nightMud vm_nightSlips vm_drawnNow) sz) [mo qm u qm_width qm_many qm_cells qm_moved qm_tape vm_taped vm_at vm_token vm_place vm_value vm_word vm_bad vm_badPlace vm_fault vm_faultPlace qm_lines qm_has qm_round qm_meets qm_stumble qm_isMud qm_cell qm_tune qm_change qm_isKept qm_steps qm_places qm_danced vm_runMost vm_runBegins qm_heardBy vm_fitMany vm_fitFirst vm_fitBeats vm_listenLeaves qm_there vm_metAt vm_metIn qm_wins vm_nightHoles vm_nightFirst vm_nightMud vm_nightSlips vm_drawnNow, (qm_lines, .inl (cI, 5, .inl (fm_lines))), (qm_has, .inl (cI, 55, .inl (fm_has))), (qm_tune, .inl (cI, 50, .inl (fm_tune)))] t) (va_A (w_c_X12_again cI cJ cB cZ cO qm vm_thrown qm_width qm_many qm_cells qm_moved qm_tape vm_taped vm_at vm_token vm_place vm_value vm_word vm_bad vm_badPlace vm_fault vm_faultPlace qm_lines fm_lines qm_has fm_has qm_round qm_meets qm_stumble qm_isMud qm_cell qm_tune fm_tune qm_change qm_isKept qm_steps qm_places qm_danced vm_runMost vm_runBegins qm_heardBy vm_fitMany vm_fitFirst vm_fitBeats vm_listenLeaves qm_there vm_metAt vm_metIn qm_wins vm_nightHoles vm_nightFirst vm_nightMud vm_nightSlips vm_drawnNow) sz)) 0 0 (va_A (w_c_X12_again cI cJ cB cZ cO qm vm_thrown qm_width qm_many qm_cells qm_moved qm_tape vm_taped vm_at vm_token vm_place vm_value vm_word vm_bad vm_badPlace vm_fault vm_faultPlace qm_lines fm_lines qm_has fm_has qm_round qm_meets qm_stumble qm_isMud qm_cell qm_tune fm_tune qm_change qm_isKept qm_steps qm_places qm_danced vm_runMost vm_runBegins qm_heardBy vm_fitMany vm_fitFirst vm_fitBeats vm_listenLeaves qm_there vm_metAt vm_metIn qm_wins vm_nightHoles vm_nightFirst vm_nightMud vm_nightSlips vm_drawnNow) sz) := by
  refine Met.ofW (cc := cX12_again) (maxL := 2) (ret := (some .long)) (by decide) rfl ?_
  intro p e s m args below meth c s₁ B hml hv
  obtain ⟨rfl, hsz, hP, hE, hD0, hH⟩ := hv
  have hx := B.exec
  have hb := B.bytes
  have hr := B.returns
  have hts := atoms_spec (ws := wsX12_again) B.pre
  have hown : s.vm.findClass RX12 = some m.cls := findClass_of_methodNamed B.named
  have hlocks := B.notSynchronized
  have hK := hE.1
  have hi12 : ∀ w ∈ u_ws RX12 TX12 45, w ∈ wsX12_again := fun w h => List.mem_cons_of_mem _ (List.mem_append_right _ h)
  subst hsz
  have hD := hD0.self (sz := s.heap.size)
  generalize hAe : va_A (w_c_X12_again cI cJ cB cZ cO qm vm_thrown qm_width qm_many qm_cells qm_moved qm_tape vm_taped vm_at vm_token vm_place vm_value vm_word vm_bad vm_badPlace vm_fault vm_faultPlace qm_lines fm_lines qm_has fm_has qm_round qm_meets qm_stumble qm_isMud qm_cell qm_tune fm_tune qm_change qm_isKept qm_steps qm_places qm_danced vm_runMost vm_runBegins qm_heardBy vm_fitMany vm_fitFirst vm_fitBeats vm_listenLeaves qm_there vm_metAt vm_metIn qm_wins vm_nightHoles vm_nightFirst vm_nightMud vm_nightSlips vm_drawnNow) s.heap.size = A at hD hH ⊢
  have hA : ∀ q : Nat, s.heap.size ≤ q → A q := fun q h => by rw [← hAe]; exact Or.inr h
  have hS : va_S A s.heap s.heap [] := va_S.rf
  obtain ⟨hP, hD⟩ : ct_B D A s.heap [mo qm vm_thrown qm_width qm_many qm_cells qm_moved qm_tape vm_taped vm_at vm_token vm_place vm_value vm_word vm_bad vm_badPlace vm_fault vm_faultPlace qm_lines qm_has qm_round qm_meets qm_stumble qm_isMud qm_cell qm_tune qm_change qm_isKept qm_steps qm_places qm_danced vm_runMost vm_runBegins qm_heardBy vm_fitMany vm_fitFirst vm_fitBeats vm_listenLeaves qm_there vm_metAt vm_metIn qm_wins vm_nightHoles vm_nightFirst vm_nightMud vm_nightSlips vm_drawnNow, (qm_lines, .inl (cI, 5, .inl (fm_lines))), (qm_has, .inl (cI, 55, .inl (fm_has))), (qm_tune, .inl (cI, 50, .inl (fm_tune)))] := ⟨hP, hD⟩
  have hl := lv_entry ([.ref qm, .int a1]) (n := 2) (Nat.le_of_ble_eq_true rfl)
  rw [lg_entry_eq]
  generalize (lg_sl ([.ref qm, .int a1]) ++ List.replicate (2 - (lg_sl ([.ref qm, .int a1])).length) Slot.unset).toArray = ls at hl ⊢
  have hl : lv_has ls 2 [(0, .ref qm), (1, .int a1)] := hl
  obtain ⟨H, hHe⟩ : ∃ H : Heap, H = s.heap := ⟨_, rfl⟩
  rw [← hHe] at hP
  have hS : va_S A s.heap H [] := by rw [hHe]; exact va_S.rf
  refine ct_start hHe ?_
  refine lv_aload_n hx hb dX12_again_0 rfl (lv_at hl 0 rfl) ?_
  refine lv_iconst (v := 0) hx hb dX12_again_1 (by decide) ?_
  refine va_put (D := D) (ci := 12) (v := .int 0) (ty := .int) (C := RX12) (T := TX12) (N := 45) hx hb hts hi12 tyX12 tyX12_ok nmX12 hown hK hP hD hS 0 rfl rfl 0 (by decide) (hts (.fieldLink RX12 80 "OverHillModel" "thrown" "I") (by decide +kernel)) (fun _ h9 => h9) rfl (by decide +kernel) rfl rfl (Nat.le_of_ble_eq_true rfl) dX12_again_2 (fun H locs hP hD hS => ?_)
  obtain ⟨hP, hD⟩ : ct_B D A H [mo qm 0 qm_width qm_many qm_cells qm_moved qm_tape vm_taped vm_at vm_token vm_place vm_value vm_word vm_bad vm_badPlace vm_fault vm_faultPlace qm_lines qm_has qm_round qm_meets qm_stumble qm_isMud qm_cell qm_tune qm_change qm_isKept qm_steps qm_places qm_danced vm_runMost vm_runBegins qm_heardBy vm_fitMany vm_fitFirst vm_fitBeats vm_listenLeaves qm_there vm_metAt vm_metIn qm_wins vm_nightHoles vm_nightFirst vm_nightMud vm_nightSlips vm_drawnNow, (qm_lines, .inl (cI, 5, .inl (fm_lines))), (qm_has, .inl (cI, 55, .inl (fm_has))), (qm_tune, .inl (cI, 50, .inl (fm_tune)))] := ⟨hP, hD⟩
  refine lv_aload_n hx hb dX12_again_5 rfl (lv_at hl 0 rfl) ?_
  refine lv_iload_n hx hb dX12_again_6 rfl (lv_at hl 1 rfl) ?_
  refine ct_calli (D := D) (wr := [(qm_tune, .inl (cI, 50, .inl (fm_tune)))]) (va_runV (As := [.int a1]) (rest := []) ⟨hx, hb, hml, hown, hts⟩ (c_X12_isSet l D G cI cJ cB cZ cO qm 0 qm_width qm_many qm_cells qm_moved qm_tape vm_taped vm_at vm_token vm_place vm_value vm_word vm_bad vm_badPlace vm_fault vm_faultPlace qm_lines fm_lines qm_has fm_has qm_round qm_meets qm_stumble qm_isMud qm_cell qm_tune qm_change qm_isKept qm_steps qm_places qm_danced vm_runMost vm_runBegins qm_heardBy vm_fitMany vm_fitFirst vm_fitBeats vm_listenLeaves qm_there vm_metAt vm_metIn qm_wins vm_nightHoles vm_nightFirst vm_nightMud vm_nightSlips vm_drawnNow a1 h_vm_taped h_vm_at h_vm_value h_fm_has H.size) (cwV 1 hts gX12_again_X12_isSet rfl rfl rfl (by decide +kernel) ⟨Nat.le_of_ble_eq_true rfl, Nat.le_of_ble_eq_true rfl⟩) (ct_preV (T := ct_T cI cJ cB cZ cO) (ci := 12) (q0 := 0) hE hH hP hD hS hA [0, 1, 2] (by decide) rfl rfl rfl) rfl rfl hl.1 rfl (lv_room (Nat.le_of_ble_eq_true rfl)) dX12_again_7 ⟨Nat.le_of_ble_eq_true rfl, Nat.le_of_ble_eq_true rfl⟩) hP hD hS hA [0, 1, 2] [3] rfl rfl (by decide) (by decide) (fun r1 u H locs hw hP hD hS => ?_)
  obtain ⟨hP, hD⟩ : ct_B D A H [(qm_tune, .inl (cI, 50, .inl (fm_tune))), mo qm 0 qm_width qm_many qm_cells qm_moved qm_tape vm_taped vm_at vm_token vm_place vm_value vm_word vm_bad vm_badPlace vm_fault vm_faultPlace qm_lines qm_has qm_round qm_meets qm_stumble qm_isMud qm_cell qm_tune qm_change qm_isKept qm_steps qm_places qm_danced vm_runMost vm_runBegins qm_heardBy vm_fitMany vm_fitFirst vm_fitBeats vm_listenLeaves qm_there vm_metAt vm_metIn qm_wins vm_nightHoles vm_nightFirst vm_nightMud vm_nightSlips vm_drawnNow, (qm_lines, .inl (cI, 5, .inl (fm_lines))), (qm_has, .inl (cI, 55, .inl (fm_has)))] := ⟨hP, hD⟩
  have hz := hw
  rcases hz with ⟨hz, hz2⟩ | ⟨hz, hz2⟩
  · subst hz
    refine lv_if_eq (tgt := 21) hx hb dX12_again_10 (by decide) (fun hc => absurd hc (by decide)) (fun _ => ?_)
    refine lv_aload_n hx hb dX12_again_13 rfl (lv_at hl 0 rfl) ?_
    refine lv_iload_n hx hb dX12_again_14 rfl (lv_at hl 1 rfl) ?_
    refine ct_calll (D := D) (wr := [(qm_lines, .inl (cI, 5, .inl (fm_lines)))]) (va_runV (As := [.int a1]) (rest := []) ⟨hx, hb, hml, hown, hts⟩ (c_X12_againOf l D G cI cJ cB cZ cO qm 0 qm_width qm_many qm_cells qm_moved qm_tape vm_taped vm_at vm_token vm_place vm_value vm_word vm_bad vm_badPlace vm_fault vm_faultPlace qm_lines qm_has fm_has qm_round qm_meets qm_stumble qm_isMud qm_cell qm_tune fm_tune qm_change qm_isKept qm_steps qm_places qm_danced vm_runMost vm_runBegins qm_heardBy vm_fitMany vm_fitFirst vm_fitBeats vm_listenLeaves qm_there vm_metAt vm_metIn qm_wins vm_nightHoles vm_nightFirst vm_nightMud vm_nightSlips vm_drawnNow a1 h_vm_taped h_vm_at h_vm_value h_fm_has h_rft H.size) (cwV 1 hts gX12_again_X12_againOf rfl rfl rfl (by decide +kernel) ⟨Nat.le_of_ble_eq_true rfl, Nat.le_of_ble_eq_true rfl⟩) (ct_preV (T := ct_T cI cJ cB cZ cO) (ci := 12) (q0 := 1) hE hH hP hD hS hA [1, 3, 0] (by decide) rfl rfl rfl) rfl rfl hl.1 rfl (lv_room (Nat.le_of_ble_eq_true rfl)) dX12_again_15 ⟨Nat.le_of_ble_eq_true rfl, Nat.le_of_ble_eq_true rfl⟩) hP hD hS hA [1, 3, 0] [2] rfl rfl (by decide) (by decide) (fun r2 u H locs hw hP hD hS => ?_)
    obtain ⟨hP, hD⟩ : ct_B D A H [(qm_lines, .inl (cI, 5, .inl (fm_lines))), mo qm 0 qm_width qm_many qm_cells qm_moved qm_tape vm_taped vm_at vm_token vm_place vm_value vm_word vm_bad vm_badPlace vm_fault vm_faultPlace qm_lines qm_has qm_round qm_meets qm_stumble qm_isMud qm_cell qm_tune qm_change qm_isKept qm_steps qm_places qm_danced vm_runMost vm_runBegins qm_heardBy vm_fitMany vm_fitFirst vm_fitBeats vm_listenLeaves qm_there vm_metAt vm_metIn qm_wins vm_nightHoles vm_nightFirst vm_nightMud vm_nightSlips vm_drawnNow, (qm_has, .inl (cI, 55, .inl (fm_has))), (qm_tune, .inl (cI, 50, .inl (fm_tune)))] := ⟨hP, hD⟩
    refine lv_goto (tgt := 24) hx hb dX12_again_18 (by decide) ?_
    obtain ⟨hP9, hD9⟩ : ct_B D A H [mo qm 0 qm_width qm_many qm_cells qm_moved qm_tape vm_taped vm_at vm_token vm_place vm_value vm_word vm_bad vm_badPlace vm_fault vm_faultPlace qm_lines qm_has qm_round qm_meets qm_stumble qm_isMud qm_cell qm_tune qm_change qm_isKept qm_steps qm_places qm_danced vm_runMost vm_runBegins qm_heardBy vm_fitMany vm_fitFirst vm_fitBeats vm_listenLeaves qm_there vm_metAt vm_metIn qm_wins vm_nightHoles vm_nightFirst vm_nightMud vm_nightSlips vm_drawnNow, (qm_lines, .inl (cI, 5, .inl (fm_lines))), (qm_has, .inl (cI, 55, .inl (fm_has))), (qm_tune, .inl (cI, 50, .inl (fm_tune)))] := ⟨hP.sub [1, 0, 2, 3] rfl, hD.sub [1, 0, 2, 3] (by decide) rfl⟩
    exact W.lret (v := r2) hx hb hr (fun t ht hW => ⟨⟨r2, (0 : Int32), rfl, trivial, by rw [ht]; exact hP9, hD9⟩, hS.F ht⟩) hS.2.2 dX12_again_24
  · subst hz
    refine lv_if_eq (tgt := 21) hx hb dX12_again_10 (by decide) (fun _ => ?_) (fun hc => absurd hc (by decide))
    refine lv_ldc2 (v := (-2)) hx hb hown (hts (.constantLong RX12 398 (-2)) (by decide +kernel)) dX12_again_21 ?_
    obtain ⟨hP9, hD9⟩ : ct_B D A H [mo qm 0 qm_width qm_many qm_cells qm_moved qm_tape vm_taped vm_at vm_token vm_place vm_value vm_word vm_bad vm_badPlace vm_fault vm_faultPlace qm_lines qm_has qm_round qm_meets qm_stumble qm_isMud qm_cell qm_tune qm_change qm_isKept qm_steps qm_places qm_danced vm_runMost vm_runBegins qm_heardBy vm_fitMany vm_fitFirst vm_fitBeats vm_listenLeaves qm_there vm_metAt vm_metIn qm_wins vm_nightHoles vm_nightFirst vm_nightMud vm_nightSlips vm_drawnNow, (qm_lines, .inl (cI, 5, .inl (fm_lines))), (qm_has, .inl (cI, 55, .inl (fm_has))), (qm_tune, .inl (cI, 50, .inl (fm_tune)))] := ⟨hP.sub [1, 2, 3, 0] rfl, hD.sub [1, 2, 3, 0] (by decide) rfl⟩
    exact W.lret (v := (-2)) hx hb hr (fun t ht hW => ⟨⟨(-2), (0 : Int32), rfl, trivial, by rw [ht]; exact hP9, hD9⟩, hS.F ht⟩) hS.2.2 dX12_again_24
abbrev w_c_X12_chorusOf (cI cJ cB cZ cO : ClassId) (qm : Nat) (vm_thrown : Int32) (qm_width : Nat) (qm_many : Nat) (qm_cells : Nat) (qm_moved : Nat) (qm_tape : Nat) (vm_taped : Int32) (vm_at : Int32) (vm_token : Int32) (vm_place : Int32) (vm_value : Int32) (vm_word : Int64) (vm_bad : Int32) (vm_badPlace : Int32) (vm_fault : Int32) (vm_faultPlace : Int32) (qm_lines : Nat) (qm_has : Nat) (fm_has : Nat → Int32) (qm_round : Nat) (qm_meets : Nat) (qm_stumble : Nat) (qm_isMud : Nat) (qm_cell : Nat) (qm_tune : Nat) (fm_tune : Nat → Int32) (qm_change : Nat) (qm_isKept : Nat) (qm_steps : Nat) (qm_places : Nat) (qm_danced : Nat) (vm_runMost : Int32) (vm_runBegins : Int32) (qm_heardBy : Nat) (vm_fitMany : Int32) (vm_fitFirst : Int32) (vm_fitBeats : Int64) (vm_listenLeaves : Int32) (qm_there : Nat) (vm_metAt : Int32) (vm_metIn : Int32) (qm_wins : Nat) (vm_nightHoles : Int32) (vm_nightFirst : Int32) (vm_nightMud : Int32) (vm_nightSlips : Int32) (vm_drawnNow : Int64) : va_W := [mo qm vm_thrown qm_width qm_many qm_cells qm_moved qm_tape vm_taped vm_at vm_token vm_place vm_value vm_word vm_bad vm_badPlace vm_fault vm_faultPlace qm_lines qm_has qm_round qm_meets qm_stumble qm_isMud qm_cell qm_tune qm_change qm_isKept qm_steps qm_places qm_danced vm_runMost vm_runBegins qm_heardBy vm_fitMany vm_fitFirst vm_fitBeats vm_listenLeaves qm_there vm_metAt vm_metIn qm_wins vm_nightHoles vm_nightFirst vm_nightMud vm_nightSlips vm_drawnNow, (qm_has, .inl (cI, 55, .inl (fm_has))), (qm_tune, .inl (cI, 50, .inl (fm_tune)))]
set_option maxHeartbeats 4000000 in
set_option maxRecDepth 100000 in
/-- X12 chorusOf -/
theorem c_X12_chorusOf (l : Launch) (D : va_G) (G : ct_G) (cI cJ cB cZ cO : ClassId) (qm : Nat) (vm_thrown : Int32) (qm_width : Nat) (qm_many : Nat) (qm_cells : Nat) (qm_moved : Nat) (qm_tape : Nat) (vm_taped : Int32) (vm_at : Int32) (vm_token : Int32) (vm_place : Int32) (vm_value : Int32) (vm_word : Int64) (vm_bad : Int32) (vm_badPlace : Int32) (vm_fault : Int32) (vm_faultPlace : Int32) (qm_lines : Nat) (qm_has : Nat) (fm_has : Nat → Int32) (qm_round : Nat) (qm_meets : Nat) (qm_stumble : Nat) (qm_isMud : Nat) (qm_cell : Nat) (qm_tune : Nat) (fm_tune : Nat → Int32) (qm_change : Nat) (qm_isKept : Nat) (qm_steps : Nat) (qm_places : Nat) (qm_danced : Nat) (vm_runMost : Int32) (vm_runBegins : Int32) (qm_heardBy : Nat) (vm_fitMany : Int32) (vm_fitFirst : Int32) (vm_fitBeats : Int64) (vm_listenLeaves : Int32) (qm_there : Nat) (vm_metAt : Int32) (vm_metIn : Int32) (qm_wins : Nat) (vm_nightHoles : Int32) (vm_nightFirst : Int32) (vm_nightMud : Int32) (vm_nightSlips : Int32) (vm_drawnNow : Int64) (h_vm_taped : 0 ≤ vm_taped.toInt ∧ vm_taped.toInt ≤ 1200) (h_vm_at : 0 ≤ vm_at.toInt ∧ vm_at.toInt ≤ 1200) (h_vm_value : 0 ≤ vm_value.toInt ∧ vm_value.toInt ≤ 1000009) (h_fm_has : ar_ok [0, (-2147483648), (-2147483648), 0, 0, 0, 0, 0, 0, 0, 0] [20, 2147483647, 2147483647, 12, 12, 11, 11, 8, 12, 5, 40] fm_has) (h_rft : rf_t fm_has fm_tune) (sz : Nat) : Met l yX12_chorusOf wsX12_chorusOf ({ frames := 132, cells := 0, slots := 0, locals := 3041 }) (va_Pc [.ref qm] (ct_P D (ct_T cI cJ cB cZ cO) G (w_c_X12_chorusOf cI cJ cB cZ cO qm vm_thrown qm_width qm_many qm_cells qm_moved qm_tape vm_taped vm_at vm_token vm_place vm_value vm_word vm_bad vm_badPlace vm_fault vm_faultPlace qm_lines qm_has fm_has qm_round qm_meets qm_stumble qm_isMud qm_cell qm_tune fm_tune qm_change qm_isKept qm_steps qm_places qm_danced vm_runMost vm_runBegins qm_heardBy vm_fitMany vm_fitFirst vm_fitBeats vm_listenLeaves qm_there vm_metAt vm_metIn qm_wins vm_nightHoles vm_nightFirst vm_nightMud vm_nightSlips vm_drawnNow) sz)) (va_Qi (fun (rz : Int32) (u : Unit) => (0 ≤ rz.toInt ∧ rz.toInt ≤ 31)) (fun (u : Unit) t => ct_Q D (va_A (w_c_X12_chorusOf cI cJ cB cZ cO qm vm_thrown qm_width qm_many qm_cells qm_moved qm_tape vm_taped vm_at vm_token vm_place vm_value vm_word vm_bad vm_badPlace vm_fault vm_faultPlace qm_lines qm_has fm_has qm_round qm_meets qm_stumble qm_isMud qm_cell qm_tune fm_tune qm_change qm_isKept qm_steps qm_places qm_danced vm_runMost vm_runBegins qm_heardBy vm_fitMany vm_fitFirst vm_fitBeats vm_listenLeaves qm_there vm_metAt vm_metIn qm_wins vm_nightHoles vm_nightFirst vm_nightMud vm_nightSlips vm_drawnNow) sz) [mo qm vm_thrown qm_width qm_many qm_cells qm_moved qm_tape vm_taped vm_at vm_token vm_place vm_value vm_word vm_bad vm_badPlace vm_fault vm_faultPlace qm_lines qm_has qm_round qm_meets qm_stumble qm_isMud qm_cell qm_tune qm_change qm_isKept qm_steps qm_places qm_danced vm_runMost vm_runBegins qm_heardBy vm_fitMany vm_fitFirst vm_fitBeats vm_listenLeaves qm_there vm_metAt vm_metIn qm_wins vm_nightHoles vm_nightFirst vm_nightMud vm_nightSlips vm_drawnNow, (qm_has, .inl (cI, 55, .inl (fm_has))), (qm_tune, .inl (cI, 50, .inl (fm_tune)))] t) (va_A (w_c_X12_chorusOf cI cJ cB cZ cO qm vm_thrown qm_width qm_many qm_cells qm_moved qm_tape vm_taped vm_at vm_token vm_place vm_value vm_word vm_bad vm_badPlace vm_fault vm_faultPlace qm_lines qm_has fm_has qm_round qm_meets qm_stumble qm_isMud qm_cell qm_tune fm_tune qm_change qm_isKept qm_steps qm_places qm_danced vm_runMost vm_runBegins qm_heardBy vm_fitMany vm_fitFirst vm_fitBeats vm_listenLeaves qm_there vm_metAt vm_metIn qm_wins vm_nightHoles vm_nightFirst vm_nightMud vm_nightSlips vm_drawnNow) sz)) 0 0 (va_A (w_c_X12_chorusOf cI cJ cB cZ cO qm vm_thrown qm_width qm_many qm_cells qm_moved qm_tape vm_taped vm_at vm_token vm_place vm_value vm_word vm_bad vm_badPlace vm_fault vm_faultPlace qm_lines qm_has fm_has qm_round qm_meets qm_stumble qm_isMud qm_cell qm_tune fm_tune qm_change qm_isKept qm_steps qm_places qm_danced vm_runMost vm_runBegins qm_heardBy vm_fitMany vm_fitFirst vm_fitBeats vm_listenLeaves qm_there vm_metAt vm_metIn qm_wins vm_nightHoles vm_nightFirst vm_nightMud vm_nightSlips vm_drawnNow) sz) := by
  refine Met.ofW (cc := cX12_chorusOf) (maxL := 3) (ret := (some .int)) (by decide) rfl ?_
  intro p e s m args below meth c s₁ B hml hv
  obtain ⟨rfl, hsz, hP, hE, hD0, hH⟩ := hv
  have hx := B.exec
  have hb := B.bytes
  have hr := B.returns
  have hts := atoms_spec (ws := wsX12_chorusOf) B.pre
  have hown : s.vm.findClass RX12 = some m.cls := findClass_of_methodNamed B.named
  have hlocks := B.notSynchronized
  have hK := hE.1
  have hi12 : ∀ w ∈ u_ws RX12 TX12 45, w ∈ wsX12_chorusOf := fun w h => List.mem_cons_of_mem _ (List.mem_append_right _ h)
  subst hsz
  have hD := hD0.self (sz := s.heap.size)
  generalize hAe : va_A (w_c_X12_chorusOf cI cJ cB cZ cO qm vm_thrown qm_width qm_many qm_cells qm_moved qm_tape vm_taped vm_at vm_token vm_place vm_value vm_word vm_bad vm_badPlace vm_fault vm_faultPlace qm_lines qm_has fm_has qm_round qm_meets qm_stumble qm_isMud qm_cell qm_tune fm_tune qm_change qm_isKept qm_steps qm_places qm_danced vm_runMost vm_runBegins qm_heardBy vm_fitMany vm_fitFirst vm_fitBeats vm_listenLeaves qm_there vm_metAt vm_metIn qm_wins vm_nightHoles vm_nightFirst vm_nightMud vm_nightSlips vm_drawnNow) s.heap.size = A at hD hH ⊢
  have hA : ∀ q : Nat, s.heap.size ≤ q → A q := fun q h => by rw [← hAe]; exact Or.inr h
  have hS : va_S A s.heap s.heap [] := va_S.rf
  obtain ⟨hP, hD⟩ : ct_B D A s.heap [mo qm vm_thrown qm_width qm_many qm_cells qm_moved qm_tape vm_taped vm_at vm_token vm_place vm_value vm_word vm_bad vm_badPlace vm_fault vm_faultPlace qm_lines qm_has qm_round qm_meets qm_stumble qm_isMud qm_cell qm_tune qm_change qm_isKept qm_steps qm_places qm_danced vm_runMost vm_runBegins qm_heardBy vm_fitMany vm_fitFirst vm_fitBeats vm_listenLeaves qm_there vm_metAt vm_metIn qm_wins vm_nightHoles vm_nightFirst vm_nightMud vm_nightSlips vm_drawnNow, (qm_has, .inl (cI, 55, .inl (fm_has))), (qm_tune, .inl (cI, 50, .inl (fm_tune)))] := ⟨hP, hD⟩
  have hl := lv_entry ([.ref qm]) (n := 3) (Nat.le_of_ble_eq_true rfl)
  rw [lg_entry_eq]
  generalize (lg_sl ([.ref qm]) ++ List.replicate (3 - (lg_sl ([.ref qm])).length) Slot.unset).toArray = ls at hl ⊢
  have hl : lv_has ls 3 [(0, .ref qm)] := hl
  obtain ⟨H, hHe⟩ : ∃ H : Heap, H = s.heap := ⟨_, rfl⟩
  rw [← hHe] at hP
  have hS : va_S A s.heap H [] := by rw [hHe]; exact va_S.rf
  refine ct_start hHe ?_
  refine lv_iconst (v := 0) hx hb dX12_chorusOf_0 (by decide) ?_
  refine lv_istore_n (lv' := [(1, .int 0), (0, .ref qm)]) hx hb dX12_chorusOf_1 rfl hl (by decide) rfl (fun ls hl => ?_)
  refine lv_iconst (v := 1) hx hb dX12_chorusOf_2 (by decide) ?_
  refine lv_istore_n (lv' := [(2, .int 1), (1, .int 0), (0, .ref qm)]) hx hb dX12_chorusOf_3 rfl hl (by decide) rfl (fun ls hl => ?_)
  refine ct_loop (X := Int32 × Int32) (fun x => (32 - x.2.toInt).toNat) (fun x H locs ls => ((0 ≤ x.1.toInt ∧ x.1.toInt ≤ 31)) ∧ ((1 ≤ x.2.toInt ∧ x.2.toInt ≤ 32)) ∧ ct_B D A H [mo qm vm_thrown qm_width qm_many qm_cells qm_moved qm_tape vm_taped vm_at vm_token vm_place vm_value vm_word vm_bad vm_badPlace vm_fault vm_faultPlace qm_lines qm_has qm_round qm_meets qm_stumble qm_isMud qm_cell qm_tune qm_change qm_isKept qm_steps qm_places qm_danced vm_runMost vm_runBegins qm_heardBy vm_fitMany vm_fitFirst vm_fitBeats vm_listenLeaves qm_there vm_metAt vm_metIn qm_wins vm_nightHoles vm_nightFirst vm_nightMud vm_nightSlips vm_drawnNow, (qm_has, .inl (cI, 55, .inl (fm_has))), (qm_tune, .inl (cI, 50, .inl (fm_tune)))] ∧ va_S A s.heap H locs ∧ lv_has ls 3 [(2, .int x.2), (1, .int x.1), (0, .ref qm)]) 4 ((0 : Int32), (1 : Int32)) ⟨(show 0 ≤ (0 : Int32).toInt ∧ (0 : Int32).toInt ≤ 31 by decide), (show 1 ≤ (1 : Int32).toInt ∧ (1 : Int32).toInt ≤ 32 by decide), ⟨hP, hD⟩, hS, lv_sub hl [0, 1, 2] rfl⟩ (fun x ih202 H locs ls hI => ?_)
  obtain ⟨x200, x201⟩ := x
  obtain ⟨h_x200, h_x201, ⟨hP, hD⟩, hS, hl⟩ := hI
  have h_x200 : (0 ≤ x200.toInt ∧ x200.toInt ≤ 31) := h_x200
  have h_x201 : (1 ≤ x201.toInt ∧ x201.toInt ≤ 32) := h_x201
  obtain ⟨hP, hD⟩ : ct_B D A H [mo qm vm_thrown qm_width qm_many qm_cells qm_moved qm_tape vm_taped vm_at vm_token vm_place vm_value vm_word vm_bad vm_badPlace vm_fault vm_faultPlace qm_lines qm_has qm_round qm_meets qm_stumble qm_isMud qm_cell qm_tune qm_change qm_isKept qm_steps qm_places qm_danced vm_runMost vm_runBegins qm_heardBy vm_fitMany vm_fitFirst vm_fitBeats vm_listenLeaves qm_there vm_metAt vm_metIn qm_wins vm_nightHoles vm_nightFirst vm_nightMud vm_nightSlips vm_drawnNow, (qm_has, .inl (cI, 55, .inl (fm_has))), (qm_tune, .inl (cI, 50, .inl (fm_tune)))] := ⟨hP, hD⟩
  have hl : lv_has ls 3 [(2, .int x201), (1, .int x200), (0, .ref qm)] := hl
  refine lv_iload_n hx hb dX12_chorusOf_4 rfl (lv_at hl 0 rfl) ?_
  refine lv_iconst (v := 1) hx hb dX12_chorusOf_5 (by decide) ?_
  refine lv_aload_n hx hb dX12_chorusOf_6 rfl (lv_at hl 2 rfl) ?_
  refine va_get (D := D) (ci := 12) (v := .ref qm_has) (C := RX12) (T := TX12) (N := 45) hx hb hts hi12 hown hK hP 0 rfl rfl 17 (by decide) (hts (.fieldLink RX12 34 "OverHillModel" "has" "[I") (by decide +kernel)) (fun _ h9 => h9) rfl dX12_chorusOf_7 ?_
  refine lv_bipush (v := 9) hx hb dX12_chorusOf_10 (by decide) ?_
  refine va_iald (D := D) hx hb hK hP 1 0 rfl rfl (tq_in (a := 9) (by decide) (by omega)) dX12_chorusOf_12 ?_
  refine lv_topi (fun z203 ez203 => ?_)
  have fz203 : 0 ≤ z203.toInt ∧ z203.toInt ≤ 5 := by rw [ez203]; exact ar_get h_fm_has (9 : Int32) 9 (by decide) (by decide) rfl
  refine lv_ishl hx hb dX12_chorusOf_13 ?_
  refine lv_topi (fun z204 ez204 => ?_)
  have fz204 : 1 ≤ z204.toInt ∧ z204.toInt ≤ 32 := by rw [ez204]; exact tq_shl5 rfl (by omega)
  refine lv_icmp_ge (tgt := 49) hx hb dX12_chorusOf_14 (by decide) (fun hc => ?_) (fun hc => ?_)
  · have hq205 : z204.toInt ≤ x201.toInt := tq_le rfl rfl hc
    refine lv_iload_n hx hb dX12_chorusOf_49 rfl (lv_at hl 1 rfl) ?_
    obtain ⟨hP9, hD9⟩ : ct_B D A H [mo qm vm_thrown qm_width qm_many qm_cells qm_moved qm_tape vm_taped vm_at vm_token vm_place vm_value vm_word vm_bad vm_badPlace vm_fault vm_faultPlace qm_lines qm_has qm_round qm_meets qm_stumble qm_isMud qm_cell qm_tune qm_change qm_isKept qm_steps qm_places qm_danced vm_runMost vm_runBegins qm_heardBy vm_fitMany vm_fitFirst vm_fitBeats vm_listenLeaves qm_there vm_metAt vm_metIn qm_wins vm_nightHoles vm_nightFirst vm_nightMud vm_nightSlips vm_drawnNow, (qm_has, .inl (cI, 55, .inl (fm_has))), (qm_tune, .inl (cI, 50, .inl (fm_tune)))] := ⟨hP.sub [0, 1, 2] rfl, hD.sub [0, 1, 2] (by decide) rfl⟩
    exact W.iret (v := x200) hx hb hr (fun t ht hW => ⟨⟨x200, (), rfl, h_x200, by rw [ht]; exact hP9, hD9⟩, hS.F ht⟩) hS.2.2 dX12_chorusOf_50
  · have hq205 : x201.toInt < z204.toInt := tq_nle rfl rfl hc
    refine lv_iload_n hx hb dX12_chorusOf_17 rfl (lv_at hl 0 rfl) ?_
    refine ct_calli (D := D) (wr := [mo qm vm_thrown qm_width qm_many qm_cells qm_moved qm_tape vm_taped vm_at vm_token vm_place vm_value vm_word vm_bad vm_badPlace vm_fault vm_faultPlace qm_lines qm_has qm_round qm_meets qm_stumble qm_isMud qm_cell qm_tune qm_change qm_isKept qm_steps qm_places qm_danced vm_runMost vm_runBegins qm_heardBy vm_fitMany vm_fitFirst vm_fitBeats vm_listenLeaves qm_there vm_metAt vm_metIn qm_wins vm_nightHoles vm_nightFirst vm_nightMud vm_nightSlips vm_drawnNow, (qm_has, .inl (cI, 55, .inl (fm_has))), (qm_tune, .inl (cI, 50, .inl (fm_tune)))]) (va_runS (As := [.int x201]) (rest := []) ⟨hx, hb, hml, hown, hts⟩ (c_X12_sizeOf l D G cI cJ cB cZ cO x201  H.size) (va_cwS 1 hts gX12_chorusOf_X12_sizeOf rfl rfl rfl (by decide +kernel) ⟨Nat.le_of_ble_eq_true rfl, Nat.le_of_ble_eq_true rfl⟩) (ct_preS (T := ct_T cI cJ cB cZ cO) hE hH hP hD hS hA [] (by decide) rfl) rfl rfl hl.1 rfl (lv_room (Nat.le_of_ble_eq_true rfl)) dX12_chorusOf_18 ⟨Nat.le_of_ble_eq_true rfl, Nat.le_of_ble_eq_true rfl⟩) hP hD hS hA [] [0, 1, 2] rfl rfl (by decide) (by decide) (fun r206 u H locs hw hP hD hS => ?_)
    obtain ⟨hP, hD⟩ : ct_B D A H [mo qm vm_thrown qm_width qm_many qm_cells qm_moved qm_tape vm_taped vm_at vm_token vm_place vm_value vm_word vm_bad vm_badPlace vm_fault vm_faultPlace qm_lines qm_has qm_round qm_meets qm_stumble qm_isMud qm_cell qm_tune qm_change qm_isKept qm_steps qm_places qm_danced vm_runMost vm_runBegins qm_heardBy vm_fitMany vm_fitFirst vm_fitBeats vm_listenLeaves qm_there vm_metAt vm_metIn qm_wins vm_nightHoles vm_nightFirst vm_nightMud vm_nightSlips vm_drawnNow, (qm_has, .inl (cI, 55, .inl (fm_has))), (qm_tune, .inl (cI, 50, .inl (fm_tune)))] := ⟨hP, hD⟩
    refine lv_iload_n hx hb dX12_chorusOf_21 rfl (lv_at hl 1 rfl) ?_
    refine ct_calli (D := D) (wr := [mo qm vm_thrown qm_width qm_many qm_cells qm_moved qm_tape vm_taped vm_at vm_token vm_place vm_value vm_word vm_bad vm_badPlace vm_fault vm_faultPlace qm_lines qm_has qm_round qm_meets qm_stumble qm_isMud qm_cell qm_tune qm_change qm_isKept qm_steps qm_places qm_danced vm_runMost vm_runBegins qm_heardBy vm_fitMany vm_fitFirst vm_fitBeats vm_listenLeaves qm_there vm_metAt vm_metIn qm_wins vm_nightHoles vm_nightFirst vm_nightMud vm_nightSlips vm_drawnNow, (qm_has, .inl (cI, 55, .inl (fm_has))), (qm_tune, .inl (cI, 50, .inl (fm_tune)))]) (va_runS (As := [.int x200]) (rest := [.int r206]) ⟨hx, hb, hml, hown, hts⟩ (c_X12_sizeOf l D G cI cJ cB cZ cO x200  H.size) (va_cwS 1 hts gX12_chorusOf_X12_sizeOf rfl rfl rfl (by decide +kernel) ⟨Nat.le_of_ble_eq_true rfl, Nat.le_of_ble_eq_true rfl⟩) (ct_preS (T := ct_T cI cJ cB cZ cO) hE hH hP hD hS hA [] (by decide) rfl) rfl rfl hl.1 rfl (lv_room (Nat.le_of_ble_eq_true rfl)) dX12_chorusOf_22 ⟨Nat.le_of_ble_eq_true rfl, Nat.le_of_ble_eq_true rfl⟩) hP hD hS hA [] [0, 1, 2] rfl rfl (by decide) (by decide) (fun r207 u H locs hw hP hD hS => ?_)
    obtain ⟨hP, hD⟩ : ct_B D A H [mo qm vm_thrown qm_width qm_many qm_cells qm_moved qm_tape vm_taped vm_at vm_token vm_place vm_value vm_word vm_bad vm_badPlace vm_fault vm_faultPlace qm_lines qm_has qm_round qm_meets qm_stumble qm_isMud qm_cell qm_tune qm_change qm_isKept qm_steps qm_places qm_danced vm_runMost vm_runBegins qm_heardBy vm_fitMany vm_fitFirst vm_fitBeats vm_listenLeaves qm_there vm_metAt vm_metIn qm_wins vm_nightHoles vm_nightFirst vm_nightMud vm_nightSlips vm_drawnNow, (qm_has, .inl (cI, 55, .inl (fm_has))), (qm_tune, .inl (cI, 50, .inl (fm_tune)))] := ⟨hP, hD⟩
    refine lv_icmp_le (tgt := 43) hx hb dX12_chorusOf_25 (by decide) (fun hc => ?_) (fun hc => ?_)
    · have hq208 : r206.toInt ≤ r207.toInt := tq_le rfl rfl hc
      have hb209 := tq_lo r206
      have hb210 := tq_lo r207
      obtain ⟨z211, ez211⟩ : ∃ z : Int32, z = x201 + 1 := ⟨_, rfl⟩
      have fz211 : z211.toInt = x201.toInt + 1 := by rw [ez211]; exact tq_add rfl (by decide) (by omega)
      refine lv_iinc (v := z211) (lv' := [(2, .int z211), (1, .int x200), (0, .ref qm)]) hx hb dX12_chorusOf_43 hl (k := 0) rfl ez211.symm (by decide) rfl (fun ls hl => ?_)
      refine lv_goto (tgt := 4) hx hb dX12_chorusOf_46 (by decide) ?_
      exact ih202 (x200, z211) _ _ _ (show (32 - z211.toInt).toNat < (32 - x201.toInt).toNat by omega) ⟨h_x200, (show 1 ≤ z211.toInt ∧ z211.toInt ≤ 32 by omega), ⟨hP, hD⟩, hS, lv_sub hl [0, 1, 2] rfl⟩
    · have hq208 : r207.toInt < r206.toInt := tq_nle rfl rfl hc
      have hb212 := tq_lo r206
      have hb213 := tq_lo r207
      refine lv_aload_n hx hb dX12_chorusOf_28 rfl (lv_at hl 2 rfl) ?_
      refine lv_iload_n hx hb dX12_chorusOf_29 rfl (lv_at hl 0 rfl) ?_
      refine lv_iconst (v := 0) hx hb dX12_chorusOf_30 (by decide) ?_
      refine ct_calll (D := D) (wr := []) (va_runV (As := [.int x201, .int 0]) (rest := []) ⟨hx, hb, hml, hown, hts⟩ (c_X12_togetherOf l D G cI cJ cB cZ cO qm vm_thrown qm_width qm_many qm_cells qm_moved qm_tape vm_taped vm_at vm_token vm_place vm_value vm_word vm_bad vm_badPlace vm_fault vm_faultPlace qm_lines qm_has fm_has qm_round qm_meets qm_stumble qm_isMud qm_cell qm_tune fm_tune qm_change qm_isKept qm_steps qm_places qm_danced vm_runMost vm_runBegins qm_heardBy vm_fitMany vm_fitFirst vm_fitBeats vm_listenLeaves qm_there vm_metAt vm_metIn qm_wins vm_nightHoles vm_nightFirst vm_nightMud vm_nightSlips vm_drawnNow x201 0 h_vm_taped h_vm_at h_vm_value h_fm_has h_rft H.size) (cwV 2 hts gX12_chorusOf_X12_togetherOf rfl rfl rfl (by decide +kernel) ⟨Nat.le_of_ble_eq_true rfl, Nat.le_of_ble_eq_true rfl⟩) (ct_preV (T := ct_T cI cJ cB cZ cO) (ci := 12) (q0 := 0) hE hH hP hD hS hA [0, 1, 2] (by decide) rfl rfl rfl) rfl rfl hl.1 rfl (lv_room (Nat.le_of_ble_eq_true rfl)) dX12_chorusOf_31 ⟨Nat.le_of_ble_eq_true rfl, Nat.le_of_ble_eq_true rfl⟩) hP hD hS hA [0, 1, 2] [] rfl rfl (by decide) (by decide) (fun r214 u H locs hw hP hD hS => ?_)
      obtain ⟨hP, hD⟩ : ct_B D A H [mo qm vm_thrown qm_width qm_many qm_cells qm_moved qm_tape vm_taped vm_at vm_token vm_place vm_value vm_word vm_bad vm_badPlace vm_fault vm_faultPlace qm_lines qm_has qm_round qm_meets qm_stumble qm_isMud qm_cell qm_tune qm_change qm_isKept qm_steps qm_places qm_danced vm_runMost vm_runBegins qm_heardBy vm_fitMany vm_fitFirst vm_fitBeats vm_listenLeaves qm_there vm_metAt vm_metIn qm_wins vm_nightHoles vm_nightFirst vm_nightMud vm_nightSlips vm_drawnNow, (qm_has, .inl (cI, 55, .inl (fm_has))), (qm_tune, .inl (cI, 50, .inl (fm_tune)))] := ⟨hP, hD⟩
      refine lv_ldc2 (v := (-1)) hx hb hown (hts (.constantLong RX12 124 (-1)) (by decide +kernel)) dX12_chorusOf_34 ?_
      refine W.lcmp hx hb dX12_chorusOf_37 ?_
      refine lv_if_eq (tgt := 43) hx hb dX12_chorusOf_38 (by decide) (fun hc => ?_) (fun hc => ?_)
      · have hq215 : r214.toInt = (-1) := tl_eq rfl (by decide) ((lg_cmp_eq _ _).mp hc)
        obtain ⟨z216, ez216⟩ : ∃ z : Int32, z = x201 + 1 := ⟨_, rfl⟩
        have fz216 : z216.toInt = x201.toInt + 1 := by rw [ez216]; exact tq_add rfl (by decide) (by omega)
        refine lv_iinc (v := z216) (lv' := [(2, .int z216), (1, .int x200), (0, .ref qm)]) hx hb dX12_chorusOf_43 hl (k := 0) rfl ez216.symm (by decide) rfl (fun ls hl => ?_)
        refine lv_goto (tgt := 4) hx hb dX12_chorusOf_46 (by decide) ?_
        exact ih202 (x200, z216) _ _ _ (show (32 - z216.toInt).toNat < (32 - x201.toInt).toNat by omega) ⟨h_x200, (show 1 ≤ z216.toInt ∧ z216.toInt ≤ 32 by omega), ⟨hP, hD⟩, hS, lv_sub hl [0, 1, 2] rfl⟩
      · have hq215 : r214.toInt ≠ (-1) := tl_ne rfl (by decide) (fun z => hc ((lg_cmp_eq _ _).mpr z))
        refine lv_iload_n hx hb dX12_chorusOf_41 rfl (lv_at hl 0 rfl) ?_
        refine lv_istore_n (lv' := [(1, .int x201), (2, .int x201), (0, .ref qm)]) hx hb dX12_chorusOf_42 rfl hl (by decide) rfl (fun ls hl => ?_)
        obtain ⟨z217, ez217⟩ : ∃ z : Int32, z = x201 + 1 := ⟨_, rfl⟩
        have fz217 : z217.toInt = x201.toInt + 1 := by rw [ez217]; exact tq_add rfl (by decide) (by omega)
        refine lv_iinc (v := z217) (lv' := [(2, .int z217), (1, .int x201), (0, .ref qm)]) hx hb dX12_chorusOf_43 hl (k := 1) rfl ez217.symm (by decide) rfl (fun ls hl => ?_)
        refine lv_goto (tgt := 4) hx hb dX12_chorusOf_46 (by decide) ?_
        exact ih202 (x201, z217) _ _ _ (show (32 - z217.toInt).toNat < (32 - x201.toInt).toNat by omega) ⟨(show 0 ≤ x201.toInt ∧ x201.toInt ≤ 31 by omega), (show 1 ≤ z217.toInt ∧ z217.toInt ≤ 32 by omega), ⟨hP, hD⟩, hS, lv_sub hl [0, 1, 2] rfl⟩
abbrev w_c_X12_most (cI cJ cB cZ cO : ClassId) (qm : Nat) (vm_thrown : Int32) (qm_width : Nat) (qm_many : Nat) (qm_cells : Nat) (qm_moved : Nat) (qm_tape : Nat) (vm_taped : Int32) (vm_at : Int32) (vm_token : Int32) (vm_place : Int32) (vm_value : Int32) (vm_word : Int64) (vm_bad : Int32) (vm_badPlace : Int32) (vm_fault : Int32) (vm_faultPlace : Int32) (qm_lines : Nat) (fm_lines : Nat → Int32) (qm_has : Nat) (fm_has : Nat → Int32) (qm_round : Nat) (qm_meets : Nat) (qm_stumble : Nat) (qm_isMud : Nat) (qm_cell : Nat) (qm_tune : Nat) (fm_tune : Nat → Int32) (qm_change : Nat) (qm_isKept : Nat) (qm_steps : Nat) (qm_places : Nat) (qm_danced : Nat) (vm_runMost : Int32) (vm_runBegins : Int32) (qm_heardBy : Nat) (vm_fitMany : Int32) (vm_fitFirst : Int32) (vm_fitBeats : Int64) (vm_listenLeaves : Int32) (qm_there : Nat) (vm_metAt : Int32) (vm_metIn : Int32) (qm_wins : Nat) (vm_nightHoles : Int32) (vm_nightFirst : Int32) (vm_nightMud : Int32) (vm_nightSlips : Int32) (vm_drawnNow : Int64) : va_W := [mo qm vm_thrown qm_width qm_many qm_cells qm_moved qm_tape vm_taped vm_at vm_token vm_place vm_value vm_word vm_bad vm_badPlace vm_fault vm_faultPlace qm_lines qm_has qm_round qm_meets qm_stumble qm_isMud qm_cell qm_tune qm_change qm_isKept qm_steps qm_places qm_danced vm_runMost vm_runBegins qm_heardBy vm_fitMany vm_fitFirst vm_fitBeats vm_listenLeaves qm_there vm_metAt vm_metIn qm_wins vm_nightHoles vm_nightFirst vm_nightMud vm_nightSlips vm_drawnNow, (qm_lines, .inl (cI, 5, .inl (fm_lines))), (qm_has, .inl (cI, 55, .inl (fm_has))), (qm_tune, .inl (cI, 50, .inl (fm_tune)))]
set_option maxHeartbeats 4000000 in
set_option maxRecDepth 100000 in
/-- X12 most -/
theorem c_X12_most (l : Launch) (D : va_G) (G : ct_G) (cI cJ cB cZ cO : ClassId) (qm : Nat) (vm_thrown : Int32) (qm_width : Nat) (qm_many : Nat) (qm_cells : Nat) (qm_moved : Nat) (qm_tape : Nat) (vm_taped : Int32) (vm_at : Int32) (vm_token : Int32) (vm_place : Int32) (vm_value : Int32) (vm_word : Int64) (vm_bad : Int32) (vm_badPlace : Int32) (vm_fault : Int32) (vm_faultPlace : Int32) (qm_lines : Nat) (fm_lines : Nat → Int32) (qm_has : Nat) (fm_has : Nat → Int32) (qm_round : Nat) (qm_meets : Nat) (qm_stumble : Nat) (qm_isMud : Nat) (qm_cell : Nat) (qm_tune : Nat) (fm_tune : Nat → Int32) (qm_change : Nat) (qm_isKept : Nat) (qm_steps : Nat) (qm_places : Nat) (qm_danced : Nat) (vm_runMost : Int32) (vm_runBegins : Int32) (qm_heardBy : Nat) (vm_fitMany : Int32) (vm_fitFirst : Int32) (vm_fitBeats : Int64) (vm_listenLeaves : Int32) (qm_there : Nat) (vm_metAt : Int32) (vm_metIn : Int32) (qm_wins : Nat) (vm_nightHoles : Int32) (vm_nightFirst : Int32) (vm_nightMud : Int32) (vm_nightSlips : Int32) (vm_drawnNow : Int64) (h_vm_taped : 0 ≤ vm_taped.toInt ∧ vm_taped.toInt ≤ 1200) (h_vm_at : 0 ≤ vm_at.toInt ∧ vm_at.toInt ≤ 1200) (h_vm_value : 0 ≤ vm_value.toInt ∧ vm_value.toInt ≤ 1000009) (h_fm_has : ar_ok [0, (-2147483648), (-2147483648), 0, 0, 0, 0, 0, 0, 0, 0] [20, 2147483647, 2147483647, 12, 12, 11, 11, 8, 12, 5, 40] fm_has) (h_rft : rf_t fm_has fm_tune) (sz : Nat) : Met l yX12_most wsX12_most ({ frames := 133, cells := 0, slots := 0, locals := 3063 }) (va_Pc [.ref qm] (ct_P D (ct_T cI cJ cB cZ cO) G (w_c_X12_most cI cJ cB cZ cO qm vm_thrown qm_width qm_many qm_cells qm_moved qm_tape vm_taped vm_at vm_token vm_place vm_value vm_word vm_bad vm_badPlace vm_fault vm_faultPlace qm_lines fm_lines qm_has fm_has qm_round qm_meets qm_stumble qm_isMud qm_cell qm_tune fm_tune qm_change qm_isKept qm_steps qm_places qm_danced vm_runMost vm_runBegins qm_heardBy vm_fitMany vm_fitFirst vm_fitBeats vm_listenLeaves qm_there vm_metAt vm_metIn qm_wins vm_nightHoles vm_nightFirst vm_nightMud vm_nightSlips vm_drawnNow) sz)) (va_Qi (fun (rz : Int32) (u : Int32) => True) (fun (u : Int32) t => ct_Q D (va_A (w_c_X12_most cI cJ cB cZ cO qm vm_thrown qm_width qm_many qm_cells qm_moved qm_tape vm_taped vm_at vm_token vm_place vm_value vm_word vm_bad vm_badPlace vm_fault vm_faultPlace qm_lines fm_lines qm_has fm_has qm_round qm_meets qm_stumble qm_isMud qm_cell qm_tune fm_tune qm_change qm_isKept qm_steps qm_places qm_danced vm_runMost vm_runBegins qm_heardBy vm_fitMany vm_fitFirst vm_fitBeats vm_listenLeaves qm_there vm_metAt vm_metIn qm_wins vm_nightHoles vm_nightFirst vm_nightMud vm_nightSlips vm_drawnNow) sz) [mo qm u qm_width qm_many qm_cells qm_moved qm_tape vm_taped vm_at vm_token vm_place vm_value vm_word vm_bad vm_badPlace vm_fault vm_faultPlace qm_lines qm_has qm_round qm_meets qm_stumble qm_isMud qm_cell qm_tune qm_change qm_isKept qm_steps qm_places qm_danced vm_runMost vm_runBegins qm_heardBy vm_fitMany vm_fitFirst vm_fitBeats vm_listenLeaves qm_there vm_metAt vm_metIn qm_wins vm_nightHoles vm_nightFirst vm_nightMud vm_nightSlips vm_drawnNow, (qm_lines, .inl (cI, 5, .inl (fm_lines))), (qm_has, .inl (cI, 55, .inl (fm_has))), (qm_tune, .inl (cI, 50, .inl (fm_tune)))] t) (va_A (w_c_X12_most cI cJ cB cZ cO qm vm_thrown qm_width qm_many qm_cells qm_moved qm_tape vm_taped vm_at vm_token vm_place vm_value vm_word vm_bad vm_badPlace vm_fault vm_faultPlace qm_lines fm_lines qm_has fm_has qm_round qm_meets qm_stumble qm_isMud qm_cell qm_tune fm_tune qm_change qm_isKept qm_steps qm_places qm_danced vm_runMost vm_runBegins qm_heardBy vm_fitMany vm_fitFirst vm_fitBeats vm_listenLeaves qm_there vm_metAt vm_metIn qm_wins vm_nightHoles vm_nightFirst vm_nightMud vm_nightSlips vm_drawnNow) sz)) 0 0 (va_A (w_c_X12_most cI cJ cB cZ cO qm vm_thrown qm_width qm_many qm_cells qm_moved qm_tape vm_taped vm_at vm_token vm_place vm_value vm_word vm_bad vm_badPlace vm_fault vm_faultPlace qm_lines fm_lines qm_has fm_has qm_round qm_meets qm_stumble qm_isMud qm_cell qm_tune fm_tune qm_change qm_isKept qm_steps qm_places qm_danced vm_runMost vm_runBegins qm_heardBy vm_fitMany vm_fitFirst vm_fitBeats vm_listenLeaves qm_there vm_metAt vm_metIn qm_wins vm_nightHoles vm_nightFirst vm_nightMud vm_nightSlips vm_drawnNow) sz) := by
  refine Met.ofW (cc := cX12_most) (maxL := 1) (ret := (some .int)) (by decide) rfl ?_
  intro p e s m args below meth c s₁ B hml hv
  obtain ⟨rfl, hsz, hP, hE, hD0, hH⟩ := hv
  have hx := B.exec
  have hb := B.bytes
  have hr := B.returns
  have hts := atoms_spec (ws := wsX12_most) B.pre
  have hown : s.vm.findClass RX12 = some m.cls := findClass_of_methodNamed B.named
  have hlocks := B.notSynchronized
  have hK := hE.1
  have hi12 : ∀ w ∈ u_ws RX12 TX12 45, w ∈ wsX12_most := fun w h => List.mem_cons_of_mem _ (List.mem_append_right _ h)
  subst hsz
  have hD := hD0.self (sz := s.heap.size)
  generalize hAe : va_A (w_c_X12_most cI cJ cB cZ cO qm vm_thrown qm_width qm_many qm_cells qm_moved qm_tape vm_taped vm_at vm_token vm_place vm_value vm_word vm_bad vm_badPlace vm_fault vm_faultPlace qm_lines fm_lines qm_has fm_has qm_round qm_meets qm_stumble qm_isMud qm_cell qm_tune fm_tune qm_change qm_isKept qm_steps qm_places qm_danced vm_runMost vm_runBegins qm_heardBy vm_fitMany vm_fitFirst vm_fitBeats vm_listenLeaves qm_there vm_metAt vm_metIn qm_wins vm_nightHoles vm_nightFirst vm_nightMud vm_nightSlips vm_drawnNow) s.heap.size = A at hD hH ⊢
  have hA : ∀ q : Nat, s.heap.size ≤ q → A q := fun q h => by rw [← hAe]; exact Or.inr h
  have hS : va_S A s.heap s.heap [] := va_S.rf
  obtain ⟨hP, hD⟩ : ct_B D A s.heap [mo qm vm_thrown qm_width qm_many qm_cells qm_moved qm_tape vm_taped vm_at vm_token vm_place vm_value vm_word vm_bad vm_badPlace vm_fault vm_faultPlace qm_lines qm_has qm_round qm_meets qm_stumble qm_isMud qm_cell qm_tune qm_change qm_isKept qm_steps qm_places qm_danced vm_runMost vm_runBegins qm_heardBy vm_fitMany vm_fitFirst vm_fitBeats vm_listenLeaves qm_there vm_metAt vm_metIn qm_wins vm_nightHoles vm_nightFirst vm_nightMud vm_nightSlips vm_drawnNow, (qm_lines, .inl (cI, 5, .inl (fm_lines))), (qm_has, .inl (cI, 55, .inl (fm_has))), (qm_tune, .inl (cI, 50, .inl (fm_tune)))] := ⟨hP, hD⟩
  have hl := lv_entry ([.ref qm]) (n := 1) (Nat.le_of_ble_eq_true rfl)
  rw [lg_entry_eq]
  generalize (lg_sl ([.ref qm]) ++ List.replicate (1 - (lg_sl ([.ref qm])).length) Slot.unset).toArray = ls at hl ⊢
  have hl : lv_has ls 1 [(0, .ref qm)] := hl
  obtain ⟨H, hHe⟩ : ∃ H : Heap, H = s.heap := ⟨_, rfl⟩
  rw [← hHe] at hP
  have hS : va_S A s.heap H [] := by rw [hHe]; exact va_S.rf
  refine ct_start hHe ?_
  refine lv_aload_n hx hb dX12_most_0 rfl (lv_at hl 0 rfl) ?_
  refine lv_iconst (v := 0) hx hb dX12_most_1 (by decide) ?_
  refine va_put (D := D) (ci := 12) (v := .int 0) (ty := .int) (C := RX12) (T := TX12) (N := 45) hx hb hts hi12 tyX12 tyX12_ok nmX12 hown hK hP hD hS 0 rfl rfl 0 (by decide) (hts (.fieldLink RX12 80 "OverHillModel" "thrown" "I") (by decide +kernel)) (fun _ h9 => h9) rfl (by decide +kernel) rfl rfl (Nat.le_of_ble_eq_true rfl) dX12_most_2 (fun H locs hP hD hS => ?_)
  obtain ⟨hP, hD⟩ : ct_B D A H [mo qm 0 qm_width qm_many qm_cells qm_moved qm_tape vm_taped vm_at vm_token vm_place vm_value vm_word vm_bad vm_badPlace vm_fault vm_faultPlace qm_lines qm_has qm_round qm_meets qm_stumble qm_isMud qm_cell qm_tune qm_change qm_isKept qm_steps qm_places qm_danced vm_runMost vm_runBegins qm_heardBy vm_fitMany vm_fitFirst vm_fitBeats vm_listenLeaves qm_there vm_metAt vm_metIn qm_wins vm_nightHoles vm_nightFirst vm_nightMud vm_nightSlips vm_drawnNow, (qm_lines, .inl (cI, 5, .inl (fm_lines))), (qm_has, .inl (cI, 55, .inl (fm_has))), (qm_tune, .inl (cI, 50, .inl (fm_tune)))] := ⟨hP, hD⟩
  refine lv_aload_n hx hb dX12_most_5 rfl (lv_at hl 0 rfl) ?_
  refine ct_calli (D := D) (wr := [(qm_has, .inl (cI, 55, .inl (fm_has))), (qm_tune, .inl (cI, 50, .inl (fm_tune)))]) (va_runV (As := []) (rest := []) ⟨hx, hb, hml, hown, hts⟩ (c_X12_isDance l D G cI cJ cB cZ cO qm 0 qm_width qm_many qm_cells qm_moved qm_tape vm_taped vm_at vm_token vm_place vm_value vm_word vm_bad vm_badPlace vm_fault vm_faultPlace qm_lines fm_lines qm_has qm_round qm_meets qm_stumble qm_isMud qm_cell qm_tune qm_change qm_isKept qm_steps qm_places qm_danced vm_runMost vm_runBegins qm_heardBy vm_fitMany vm_fitFirst vm_fitBeats vm_listenLeaves qm_there vm_metAt vm_metIn qm_wins vm_nightHoles vm_nightFirst vm_nightMud vm_nightSlips vm_drawnNow h_vm_taped h_vm_at h_vm_value H.size) (cwV 0 hts gX12_most_X12_isDance rfl rfl rfl (by decide +kernel) ⟨Nat.le_of_ble_eq_true rfl, Nat.le_of_ble_eq_true rfl⟩) (ct_preV (T := ct_T cI cJ cB cZ cO) (ci := 12) (q0 := 0) hE hH hP hD hS hA [0, 1] (by decide) rfl rfl rfl) rfl rfl hl.1 rfl (lv_room (Nat.le_of_ble_eq_true rfl)) dX12_most_6 ⟨Nat.le_of_ble_eq_true rfl, Nat.le_of_ble_eq_true rfl⟩) hP hD hS hA [0, 1] [2, 3] rfl rfl (by decide) (by decide) (fun r1 u H locs hw hP hD hS => ?_)
  obtain ⟨hP, hD⟩ : ct_B D A H [(qm_has, .inl (cI, 55, .inl (fm_has))), (qm_tune, .inl (cI, 50, .inl (fm_tune))), mo qm 0 qm_width qm_many qm_cells qm_moved qm_tape vm_taped vm_at vm_token vm_place vm_value vm_word vm_bad vm_badPlace vm_fault vm_faultPlace qm_lines qm_has qm_round qm_meets qm_stumble qm_isMud qm_cell qm_tune qm_change qm_isKept qm_steps qm_places qm_danced vm_runMost vm_runBegins qm_heardBy vm_fitMany vm_fitFirst vm_fitBeats vm_listenLeaves qm_there vm_metAt vm_metIn qm_wins vm_nightHoles vm_nightFirst vm_nightMud vm_nightSlips vm_drawnNow, (qm_lines, .inl (cI, 5, .inl (fm_lines)))] := ⟨hP, hD⟩
  have hz := hw
  rcases hz with ⟨hz, hz2⟩ | ⟨hz, hz2⟩
  · subst hz
    refine lv_if_eq (tgt := 22) hx hb dX12_most_9 (by decide) (fun hc => absurd hc (by decide)) (fun _ => ?_)
    refine lv_aload_n hx hb dX12_most_12 rfl (lv_at hl 0 rfl) ?_
    refine ct_calli (D := D) (wr := [(qm_lines, .inl (cI, 5, .inl (fm_lines)))]) (va_runV (As := []) (rest := []) ⟨hx, hb, hml, hown, hts⟩ (c_X12_chorusOf l D G cI cJ cB cZ cO qm 0 qm_width qm_many qm_cells qm_moved qm_tape vm_taped vm_at vm_token vm_place vm_value vm_word vm_bad vm_badPlace vm_fault vm_faultPlace qm_lines qm_has fm_has qm_round qm_meets qm_stumble qm_isMud qm_cell qm_tune fm_tune qm_change qm_isKept qm_steps qm_places qm_danced vm_runMost vm_runBegins qm_heardBy vm_fitMany vm_fitFirst vm_fitBeats vm_listenLeaves qm_there vm_metAt vm_metIn qm_wins vm_nightHoles vm_nightFirst vm_nightMud vm_nightSlips vm_drawnNow h_vm_taped h_vm_at h_vm_value h_fm_has h_rft H.size) (cwV 0 hts gX12_most_X12_chorusOf rfl rfl rfl (by decide +kernel) ⟨Nat.le_of_ble_eq_true rfl, Nat.le_of_ble_eq_true rfl⟩) (ct_preV (T := ct_T cI cJ cB cZ cO) (ci := 12) (q0 := 2) hE hH hP hD hS hA [2, 0, 1] (by decide) rfl rfl rfl) rfl rfl hl.1 rfl (lv_room (Nat.le_of_ble_eq_true rfl)) dX12_most_13 ⟨Nat.le_of_ble_eq_true rfl, Nat.le_of_ble_eq_true rfl⟩) hP hD hS hA [2, 0, 1] [3] rfl rfl (by decide) (by decide) (fun r2 u H locs hw hP hD hS => ?_)
    obtain ⟨hP, hD⟩ : ct_B D A H [(qm_lines, .inl (cI, 5, .inl (fm_lines))), mo qm 0 qm_width qm_many qm_cells qm_moved qm_tape vm_taped vm_at vm_token vm_place vm_value vm_word vm_bad vm_badPlace vm_fault vm_faultPlace qm_lines qm_has qm_round qm_meets qm_stumble qm_isMud qm_cell qm_tune qm_change qm_isKept qm_steps qm_places qm_danced vm_runMost vm_runBegins qm_heardBy vm_fitMany vm_fitFirst vm_fitBeats vm_listenLeaves qm_there vm_metAt vm_metIn qm_wins vm_nightHoles vm_nightFirst vm_nightMud vm_nightSlips vm_drawnNow, (qm_has, .inl (cI, 55, .inl (fm_has))), (qm_tune, .inl (cI, 50, .inl (fm_tune)))] := ⟨hP, hD⟩
    have hz := hw
    have h_r2 : 0 ≤ r2.toInt ∧ r2.toInt ≤ 31 := hz
    refine ct_calli (D := D) (wr := [(qm_lines, .inl (cI, 5, .inl (fm_lines))), mo qm 0 qm_width qm_many qm_cells qm_moved qm_tape vm_taped vm_at vm_token vm_place vm_value vm_word vm_bad vm_badPlace vm_fault vm_faultPlace qm_lines qm_has qm_round qm_meets qm_stumble qm_isMud qm_cell qm_tune qm_change qm_isKept qm_steps qm_places qm_danced vm_runMost vm_runBegins qm_heardBy vm_fitMany vm_fitFirst vm_fitBeats vm_listenLeaves qm_there vm_metAt vm_metIn qm_wins vm_nightHoles vm_nightFirst vm_nightMud vm_nightSlips vm_drawnNow, (qm_has, .inl (cI, 55, .inl (fm_has))), (qm_tune, .inl (cI, 50, .inl (fm_tune)))]) (va_runS (As := [.int r2]) (rest := []) ⟨hx, hb, hml, hown, hts⟩ (c_X12_sizeOf l D G cI cJ cB cZ cO r2  H.size) (va_cwS 1 hts gX12_most_X12_sizeOf rfl rfl rfl (by decide +kernel) ⟨Nat.le_of_ble_eq_true rfl, Nat.le_of_ble_eq_true rfl⟩) (ct_preS (T := ct_T cI cJ cB cZ cO) hE hH hP hD hS hA [] (by decide) rfl) rfl rfl hl.1 rfl (lv_room (Nat.le_of_ble_eq_true rfl)) dX12_most_16 ⟨Nat.le_of_ble_eq_true rfl, Nat.le_of_ble_eq_true rfl⟩) hP hD hS hA [] [0, 1, 2, 3] rfl rfl (by decide) (by decide) (fun r3 u H locs hw hP hD hS => ?_)
    obtain ⟨hP, hD⟩ : ct_B D A H [(qm_lines, .inl (cI, 5, .inl (fm_lines))), mo qm 0 qm_width qm_many qm_cells qm_moved qm_tape vm_taped vm_at vm_token vm_place vm_value vm_word vm_bad vm_badPlace vm_fault vm_faultPlace qm_lines qm_has qm_round qm_meets qm_stumble qm_isMud qm_cell qm_tune qm_change qm_isKept qm_steps qm_places qm_danced vm_runMost vm_runBegins qm_heardBy vm_fitMany vm_fitFirst vm_fitBeats vm_listenLeaves qm_there vm_metAt vm_metIn qm_wins vm_nightHoles vm_nightFirst vm_nightMud vm_nightSlips vm_drawnNow, (qm_has, .inl (cI, 55, .inl (fm_has))), (qm_tune, .inl (cI, 50, .inl (fm_tune)))] := ⟨hP, hD⟩
    refine lv_goto (tgt := 24) hx hb dX12_most_19 (by decide) ?_
    obtain ⟨hP9, hD9⟩ : ct_B D A H [mo qm 0 qm_width qm_many qm_cells qm_moved qm_tape vm_taped vm_at vm_token vm_place vm_value vm_word vm_bad vm_badPlace vm_fault vm_faultPlace qm_lines qm_has qm_round qm_meets qm_stumble qm_isMud qm_cell qm_tune qm_change qm_isKept qm_steps qm_places qm_danced vm_runMost vm_runBegins qm_heardBy vm_fitMany vm_fitFirst vm_fitBeats vm_listenLeaves qm_there vm_metAt vm_metIn qm_wins vm_nightHoles vm_nightFirst vm_nightMud vm_nightSlips vm_drawnNow, (qm_lines, .inl (cI, 5, .inl (fm_lines))), (qm_has, .inl (cI, 55, .inl (fm_has))), (qm_tune, .inl (cI, 50, .inl (fm_tune)))] := ⟨hP.sub [1, 0, 2, 3] rfl, hD.sub [1, 0, 2, 3] (by decide) rfl⟩
    exact W.iret (v := r3) hx hb hr (fun t ht hW => ⟨⟨r3, (0 : Int32), rfl, trivial, by rw [ht]; exact hP9, hD9⟩, hS.F ht⟩) hS.2.2 dX12_most_24
  · subst hz
    refine lv_if_eq (tgt := 22) hx hb dX12_most_9 (by decide) (fun _ => ?_) (fun hc => absurd hc (by decide))
    refine lv_bipush (v := (-2)) hx hb dX12_most_22 (by decide) ?_
    obtain ⟨hP9, hD9⟩ : ct_B D A H [mo qm 0 qm_width qm_many qm_cells qm_moved qm_tape vm_taped vm_at vm_token vm_place vm_value vm_word vm_bad vm_badPlace vm_fault vm_faultPlace qm_lines qm_has qm_round qm_meets qm_stumble qm_isMud qm_cell qm_tune qm_change qm_isKept qm_steps qm_places qm_danced vm_runMost vm_runBegins qm_heardBy vm_fitMany vm_fitFirst vm_fitBeats vm_listenLeaves qm_there vm_metAt vm_metIn qm_wins vm_nightHoles vm_nightFirst vm_nightMud vm_nightSlips vm_drawnNow, (qm_lines, .inl (cI, 5, .inl (fm_lines))), (qm_has, .inl (cI, 55, .inl (fm_has))), (qm_tune, .inl (cI, 50, .inl (fm_tune)))] := ⟨hP.sub [2, 3, 0, 1] rfl, hD.sub [2, 3, 0, 1] (by decide) rfl⟩
    exact W.iret (v := (-2)) hx hb hr (fun t ht hW => ⟨⟨(-2), (0 : Int32), rfl, trivial, by rw [ht]; exact hP9, hD9⟩, hS.F ht⟩) hS.2.2 dX12_most_24
abbrev w_c_X12_chorus (cI cJ cB cZ cO : ClassId) (qm : Nat) (vm_thrown : Int32) (qm_width : Nat) (qm_many : Nat) (qm_cells : Nat) (qm_moved : Nat) (qm_tape : Nat) (vm_taped : Int32) (vm_at : Int32) (vm_token : Int32) (vm_place : Int32) (vm_value : Int32) (vm_word : Int64) (vm_bad : Int32) (vm_badPlace : Int32) (vm_fault : Int32) (vm_faultPlace : Int32) (qm_lines : Nat) (fm_lines : Nat → Int32) (qm_has : Nat) (fm_has : Nat → Int32) (qm_round : Nat) (qm_meets : Nat) (qm_stumble : Nat) (qm_isMud : Nat) (qm_cell : Nat) (qm_tune : Nat) (fm_tune : Nat → Int32) (qm_change : Nat) (qm_isKept : Nat) (qm_steps : Nat) (qm_places : Nat) (qm_danced : Nat) (vm_runMost : Int32) (vm_runBegins : Int32) (qm_heardBy : Nat) (vm_fitMany : Int32) (vm_fitFirst : Int32) (vm_fitBeats : Int64) (vm_listenLeaves : Int32) (qm_there : Nat) (vm_metAt : Int32) (vm_metIn : Int32) (qm_wins : Nat) (vm_nightHoles : Int32) (vm_nightFirst : Int32) (vm_nightMud : Int32) (vm_nightSlips : Int32) (vm_drawnNow : Int64) : va_W := [mo qm vm_thrown qm_width qm_many qm_cells qm_moved qm_tape vm_taped vm_at vm_token vm_place vm_value vm_word vm_bad vm_badPlace vm_fault vm_faultPlace qm_lines qm_has qm_round qm_meets qm_stumble qm_isMud qm_cell qm_tune qm_change qm_isKept qm_steps qm_places qm_danced vm_runMost vm_runBegins qm_heardBy vm_fitMany vm_fitFirst vm_fitBeats vm_listenLeaves qm_there vm_metAt vm_metIn qm_wins vm_nightHoles vm_nightFirst vm_nightMud vm_nightSlips vm_drawnNow, (qm_lines, .inl (cI, 5, .inl (fm_lines))), (qm_has, .inl (cI, 55, .inl (fm_has))), (qm_tune, .inl (cI, 50, .inl (fm_tune)))]
set_option maxHeartbeats 4000000 in
set_option maxRecDepth 100000 in
/-- X12 chorus -/
theorem c_X12_chorus (l : Launch) (D : va_G) (G : ct_G) (cI cJ cB cZ cO : ClassId) (qm : Nat) (vm_thrown : Int32) (qm_width : Nat) (qm_many : Nat) (qm_cells : Nat) (qm_moved : Nat) (qm_tape : Nat) (vm_taped : Int32) (vm_at : Int32) (vm_token : Int32) (vm_place : Int32) (vm_value : Int32) (vm_word : Int64) (vm_bad : Int32) (vm_badPlace : Int32) (vm_fault : Int32) (vm_faultPlace : Int32) (qm_lines : Nat) (fm_lines : Nat → Int32) (qm_has : Nat) (fm_has : Nat → Int32) (qm_round : Nat) (qm_meets : Nat) (qm_stumble : Nat) (qm_isMud : Nat) (qm_cell : Nat) (qm_tune : Nat) (fm_tune : Nat → Int32) (qm_change : Nat) (qm_isKept : Nat) (qm_steps : Nat) (qm_places : Nat) (qm_danced : Nat) (vm_runMost : Int32) (vm_runBegins : Int32) (qm_heardBy : Nat) (vm_fitMany : Int32) (vm_fitFirst : Int32) (vm_fitBeats : Int64) (vm_listenLeaves : Int32) (qm_there : Nat) (vm_metAt : Int32) (vm_metIn : Int32) (qm_wins : Nat) (vm_nightHoles : Int32) (vm_nightFirst : Int32) (vm_nightMud : Int32) (vm_nightSlips : Int32) (vm_drawnNow : Int64) (h_vm_taped : 0 ≤ vm_taped.toInt ∧ vm_taped.toInt ≤ 1200) (h_vm_at : 0 ≤ vm_at.toInt ∧ vm_at.toInt ≤ 1200) (h_vm_value : 0 ≤ vm_value.toInt ∧ vm_value.toInt ≤ 1000009) (h_fm_has : ar_ok [0, (-2147483648), (-2147483648), 0, 0, 0, 0, 0, 0, 0, 0] [20, 2147483647, 2147483647, 12, 12, 11, 11, 8, 12, 5, 40] fm_has) (h_rft : rf_t fm_has fm_tune) (sz : Nat) : Met l yX12_chorus wsX12_chorus ({ frames := 133, cells := 0, slots := 0, locals := 3063 }) (va_Pc [.ref qm] (ct_P D (ct_T cI cJ cB cZ cO) G (w_c_X12_chorus cI cJ cB cZ cO qm vm_thrown qm_width qm_many qm_cells qm_moved qm_tape vm_taped vm_at vm_token vm_place vm_value vm_word vm_bad vm_badPlace vm_fault vm_faultPlace qm_lines fm_lines qm_has fm_has qm_round qm_meets qm_stumble qm_isMud qm_cell qm_tune fm_tune qm_change qm_isKept qm_steps qm_places qm_danced vm_runMost vm_runBegins qm_heardBy vm_fitMany vm_fitFirst vm_fitBeats vm_listenLeaves qm_there vm_metAt vm_metIn qm_wins vm_nightHoles vm_nightFirst vm_nightMud vm_nightSlips vm_drawnNow) sz)) (va_Qi (fun (rz : Int32) (u : Int32) => ((-2) ≤ rz.toInt ∧ rz.toInt ≤ 31)) (fun (u : Int32) t => ct_Q D (va_A (w_c_X12_chorus cI cJ cB cZ cO qm vm_thrown qm_width qm_many qm_cells qm_moved qm_tape vm_taped vm_at vm_token vm_place vm_value vm_word vm_bad vm_badPlace vm_fault vm_faultPlace qm_lines fm_lines qm_has fm_has qm_round qm_meets qm_stumble qm_isMud qm_cell qm_tune fm_tune qm_change qm_isKept qm_steps qm_places qm_danced vm_runMost vm_runBegins qm_heardBy vm_fitMany vm_fitFirst vm_fitBeats vm_listenLeaves qm_there vm_metAt vm_metIn qm_wins vm_nightHoles vm_nightFirst vm_nightMud vm_nightSlips vm_drawnNow) sz) [mo qm u qm_width qm_many qm_cells qm_moved qm_tape vm_taped vm_at vm_token vm_place vm_value vm_word vm_bad vm_badPlace vm_fault vm_faultPlace qm_lines qm_has qm_round qm_meets qm_stumble qm_isMud qm_cell qm_tune qm_change qm_isKept qm_steps qm_places qm_danced vm_runMost vm_runBegins qm_heardBy vm_fitMany vm_fitFirst vm_fitBeats vm_listenLeaves qm_there vm_metAt vm_metIn qm_wins vm_nightHoles vm_nightFirst vm_nightMud vm_nightSlips vm_drawnNow, (qm_lines, .inl (cI, 5, .inl (fm_lines))), (qm_has, .inl (cI, 55, .inl (fm_has))), (qm_tune, .inl (cI, 50, .inl (fm_tune)))] t) (va_A (w_c_X12_chorus cI cJ cB cZ cO qm vm_thrown qm_width qm_many qm_cells qm_moved qm_tape vm_taped vm_at vm_token vm_place vm_value vm_word vm_bad vm_badPlace vm_fault vm_faultPlace qm_lines fm_lines qm_has fm_has qm_round qm_meets qm_stumble qm_isMud qm_cell qm_tune fm_tune qm_change qm_isKept qm_steps qm_places qm_danced vm_runMost vm_runBegins qm_heardBy vm_fitMany vm_fitFirst vm_fitBeats vm_listenLeaves qm_there vm_metAt vm_metIn qm_wins vm_nightHoles vm_nightFirst vm_nightMud vm_nightSlips vm_drawnNow) sz)) 0 0 (va_A (w_c_X12_chorus cI cJ cB cZ cO qm vm_thrown qm_width qm_many qm_cells qm_moved qm_tape vm_taped vm_at vm_token vm_place vm_value vm_word vm_bad vm_badPlace vm_fault vm_faultPlace qm_lines fm_lines qm_has fm_has qm_round qm_meets qm_stumble qm_isMud qm_cell qm_tune fm_tune qm_change qm_isKept qm_steps qm_places qm_danced vm_runMost vm_runBegins qm_heardBy vm_fitMany vm_fitFirst vm_fitBeats vm_listenLeaves qm_there vm_metAt vm_metIn qm_wins vm_nightHoles vm_nightFirst vm_nightMud vm_nightSlips vm_drawnNow) sz) := by
  refine Met.ofW (cc := cX12_chorus) (maxL := 1) (ret := (some .int)) (by decide) rfl ?_
  intro p e s m args below meth c s₁ B hml hv
  obtain ⟨rfl, hsz, hP, hE, hD0, hH⟩ := hv
  have hx := B.exec
  have hb := B.bytes
  have hr := B.returns
  have hts := atoms_spec (ws := wsX12_chorus) B.pre
  have hown : s.vm.findClass RX12 = some m.cls := findClass_of_methodNamed B.named
  have hlocks := B.notSynchronized
  have hK := hE.1
  have hi12 : ∀ w ∈ u_ws RX12 TX12 45, w ∈ wsX12_chorus := fun w h => List.mem_cons_of_mem _ (List.mem_append_right _ h)
  subst hsz
  have hD := hD0.self (sz := s.heap.size)
  generalize hAe : va_A (w_c_X12_chorus cI cJ cB cZ cO qm vm_thrown qm_width qm_many qm_cells qm_moved qm_tape vm_taped vm_at vm_token vm_place vm_value vm_word vm_bad vm_badPlace vm_fault vm_faultPlace qm_lines fm_lines qm_has fm_has qm_round qm_meets qm_stumble qm_isMud qm_cell qm_tune fm_tune qm_change qm_isKept qm_steps qm_places qm_danced vm_runMost vm_runBegins qm_heardBy vm_fitMany vm_fitFirst vm_fitBeats vm_listenLeaves qm_there vm_metAt vm_metIn qm_wins vm_nightHoles vm_nightFirst vm_nightMud vm_nightSlips vm_drawnNow) s.heap.size = A at hD hH ⊢
  have hA : ∀ q : Nat, s.heap.size ≤ q → A q := fun q h => by rw [← hAe]; exact Or.inr h
  have hS : va_S A s.heap s.heap [] := va_S.rf
  obtain ⟨hP, hD⟩ : ct_B D A s.heap [mo qm vm_thrown qm_width qm_many qm_cells qm_moved qm_tape vm_taped vm_at vm_token vm_place vm_value vm_word vm_bad vm_badPlace vm_fault vm_faultPlace qm_lines qm_has qm_round qm_meets qm_stumble qm_isMud qm_cell qm_tune qm_change qm_isKept qm_steps qm_places qm_danced vm_runMost vm_runBegins qm_heardBy vm_fitMany vm_fitFirst vm_fitBeats vm_listenLeaves qm_there vm_metAt vm_metIn qm_wins vm_nightHoles vm_nightFirst vm_nightMud vm_nightSlips vm_drawnNow, (qm_lines, .inl (cI, 5, .inl (fm_lines))), (qm_has, .inl (cI, 55, .inl (fm_has))), (qm_tune, .inl (cI, 50, .inl (fm_tune)))] := ⟨hP, hD⟩
  have hl := lv_entry ([.ref qm]) (n := 1) (Nat.le_of_ble_eq_true rfl)
  rw [lg_entry_eq]
  generalize (lg_sl ([.ref qm]) ++ List.replicate (1 - (lg_sl ([.ref qm])).length) Slot.unset).toArray = ls at hl ⊢
  have hl : lv_has ls 1 [(0, .ref qm)] := hl
  obtain ⟨H, hHe⟩ : ∃ H : Heap, H = s.heap := ⟨_, rfl⟩
  rw [← hHe] at hP
  have hS : va_S A s.heap H [] := by rw [hHe]; exact va_S.rf
  refine ct_start hHe ?_
  refine lv_aload_n hx hb dX12_chorus_0 rfl (lv_at hl 0 rfl) ?_
  refine lv_iconst (v := 0) hx hb dX12_chorus_1 (by decide) ?_
  refine va_put (D := D) (ci := 12) (v := .int 0) (ty := .int) (C := RX12) (T := TX12) (N := 45) hx hb hts hi12 tyX12 tyX12_ok nmX12 hown hK hP hD hS 0 rfl rfl 0 (by decide) (hts (.fieldLink RX12 80 "OverHillModel" "thrown" "I") (by decide +kernel)) (fun _ h9 => h9) rfl (by decide +kernel) rfl rfl (Nat.le_of_ble_eq_true rfl) dX12_chorus_2 (fun H locs hP hD hS => ?_)
  obtain ⟨hP, hD⟩ : ct_B D A H [mo qm 0 qm_width qm_many qm_cells qm_moved qm_tape vm_taped vm_at vm_token vm_place vm_value vm_word vm_bad vm_badPlace vm_fault vm_faultPlace qm_lines qm_has qm_round qm_meets qm_stumble qm_isMud qm_cell qm_tune qm_change qm_isKept qm_steps qm_places qm_danced vm_runMost vm_runBegins qm_heardBy vm_fitMany vm_fitFirst vm_fitBeats vm_listenLeaves qm_there vm_metAt vm_metIn qm_wins vm_nightHoles vm_nightFirst vm_nightMud vm_nightSlips vm_drawnNow, (qm_lines, .inl (cI, 5, .inl (fm_lines))), (qm_has, .inl (cI, 55, .inl (fm_has))), (qm_tune, .inl (cI, 50, .inl (fm_tune)))] := ⟨hP, hD⟩
  refine lv_aload_n hx hb dX12_chorus_5 rfl (lv_at hl 0 rfl) ?_
  refine ct_calli (D := D) (wr := [(qm_has, .inl (cI, 55, .inl (fm_has))), (qm_tune, .inl (cI, 50, .inl (fm_tune)))]) (va_runV (As := []) (rest := []) ⟨hx, hb, hml, hown, hts⟩ (c_X12_isDance l D G cI cJ cB cZ cO qm 0 qm_width qm_many qm_cells qm_moved qm_tape vm_taped vm_at vm_token vm_place vm_value vm_word vm_bad vm_badPlace vm_fault vm_faultPlace qm_lines fm_lines qm_has qm_round qm_meets qm_stumble qm_isMud qm_cell qm_tune qm_change qm_isKept qm_steps qm_places qm_danced vm_runMost vm_runBegins qm_heardBy vm_fitMany vm_fitFirst vm_fitBeats vm_listenLeaves qm_there vm_metAt vm_metIn qm_wins vm_nightHoles vm_nightFirst vm_nightMud vm_nightSlips vm_drawnNow h_vm_taped h_vm_at h_vm_value H.size) (cwV 0 hts gX12_chorus_X12_isDance rfl rfl rfl (by decide +kernel) ⟨Nat.le_of_ble_eq_true rfl, Nat.le_of_ble_eq_true rfl⟩) (ct_preV (T := ct_T cI cJ cB cZ cO) (ci := 12) (q0 := 0) hE hH hP hD hS hA [0, 1] (by decide) rfl rfl rfl) rfl rfl hl.1 rfl (lv_room (Nat.le_of_ble_eq_true rfl)) dX12_chorus_6 ⟨Nat.le_of_ble_eq_true rfl, Nat.le_of_ble_eq_true rfl⟩) hP hD hS hA [0, 1] [2, 3] rfl rfl (by decide) (by decide) (fun r1 u H locs hw hP hD hS => ?_)
  obtain ⟨hP, hD⟩ : ct_B D A H [(qm_has, .inl (cI, 55, .inl (fm_has))), (qm_tune, .inl (cI, 50, .inl (fm_tune))), mo qm 0 qm_width qm_many qm_cells qm_moved qm_tape vm_taped vm_at vm_token vm_place vm_value vm_word vm_bad vm_badPlace vm_fault vm_faultPlace qm_lines qm_has qm_round qm_meets qm_stumble qm_isMud qm_cell qm_tune qm_change qm_isKept qm_steps qm_places qm_danced vm_runMost vm_runBegins qm_heardBy vm_fitMany vm_fitFirst vm_fitBeats vm_listenLeaves qm_there vm_metAt vm_metIn qm_wins vm_nightHoles vm_nightFirst vm_nightMud vm_nightSlips vm_drawnNow, (qm_lines, .inl (cI, 5, .inl (fm_lines)))] := ⟨hP, hD⟩
  have hz := hw
  rcases hz with ⟨hz, hz2⟩ | ⟨hz, hz2⟩
  · subst hz
    refine lv_if_eq (tgt := 19) hx hb dX12_chorus_9 (by decide) (fun hc => absurd hc (by decide)) (fun _ => ?_)
    refine lv_aload_n hx hb dX12_chorus_12 rfl (lv_at hl 0 rfl) ?_
    refine ct_calli (D := D) (wr := [(qm_lines, .inl (cI, 5, .inl (fm_lines)))]) (va_runV (As := []) (rest := []) ⟨hx, hb, hml, hown, hts⟩ (c_X12_chorusOf l D G cI cJ cB cZ cO qm 0 qm_width qm_many qm_cells qm_moved qm_tape vm_taped vm_at vm_token vm_place vm_value vm_word vm_bad vm_badPlace vm_fault vm_faultPlace qm_lines qm_has fm_has qm_round qm_meets qm_stumble qm_isMud qm_cell qm_tune fm_tune qm_change qm_isKept qm_steps qm_places qm_danced vm_runMost vm_runBegins qm_heardBy vm_fitMany vm_fitFirst vm_fitBeats vm_listenLeaves qm_there vm_metAt vm_metIn qm_wins vm_nightHoles vm_nightFirst vm_nightMud vm_nightSlips vm_drawnNow h_vm_taped h_vm_at h_vm_value h_fm_has h_rft H.size) (cwV 0 hts gX12_chorus_X12_chorusOf rfl rfl rfl (by decide +kernel) ⟨Nat.le_of_ble_eq_true rfl, Nat.le_of_ble_eq_true rfl⟩) (ct_preV (T := ct_T cI cJ cB cZ cO) (ci := 12) (q0 := 2) hE hH hP hD hS hA [2, 0, 1] (by decide) rfl rfl rfl) rfl rfl hl.1 rfl (lv_room (Nat.le_of_ble_eq_true rfl)) dX12_chorus_13 ⟨Nat.le_of_ble_eq_true rfl, Nat.le_of_ble_eq_true rfl⟩) hP hD hS hA [2, 0, 1] [3] rfl rfl (by decide) (by decide) (fun r2 u H locs hw hP hD hS => ?_)
    obtain ⟨hP, hD⟩ : ct_B D A H [(qm_lines, .inl (cI, 5, .inl (fm_lines))), mo qm 0 qm_width qm_many qm_cells qm_moved qm_tape vm_taped vm_at vm_token vm_place vm_value vm_word vm_bad vm_badPlace vm_fault vm_faultPlace qm_lines qm_has qm_round qm_meets qm_stumble qm_isMud qm_cell qm_tune qm_change qm_isKept qm_steps qm_places qm_danced vm_runMost vm_runBegins qm_heardBy vm_fitMany vm_fitFirst vm_fitBeats vm_listenLeaves qm_there vm_metAt vm_metIn qm_wins vm_nightHoles vm_nightFirst vm_nightMud vm_nightSlips vm_drawnNow, (qm_has, .inl (cI, 55, .inl (fm_has))), (qm_tune, .inl (cI, 50, .inl (fm_tune)))] := ⟨hP, hD⟩
    have hz := hw
    have h_r2 : 0 ≤ r2.toInt ∧ r2.toInt ≤ 31 := hz
    refine lv_goto (tgt := 21) hx hb dX12_chorus_16 (by decide) ?_
    obtain ⟨hP9, hD9⟩ : ct_B D A H [mo qm 0 qm_width qm_many qm_cells qm_moved qm_tape vm_taped vm_at vm_token vm_place vm_value vm_word vm_bad vm_badPlace vm_fault vm_faultPlace qm_lines qm_has qm_round qm_meets qm_stumble qm_isMud qm_cell qm_tune qm_change qm_isKept qm_steps qm_places qm_danced vm_runMost vm_runBegins qm_heardBy vm_fitMany vm_fitFirst vm_fitBeats vm_listenLeaves qm_there vm_metAt vm_metIn qm_wins vm_nightHoles vm_nightFirst vm_nightMud vm_nightSlips vm_drawnNow, (qm_lines, .inl (cI, 5, .inl (fm_lines))), (qm_has, .inl (cI, 55, .inl (fm_has))), (qm_tune, .inl (cI, 50, .inl (fm_tune)))] := ⟨hP.sub [1, 0, 2, 3] rfl, hD.sub [1, 0, 2, 3] (by decide) rfl⟩
    exact W.iret (v := r2) hx hb hr (fun t ht hW => ⟨⟨r2, (0 : Int32), rfl, (show (-2) ≤ r2.toInt ∧ r2.toInt ≤ 31 by omega), by rw [ht]; exact hP9, hD9⟩, hS.F ht⟩) hS.2.2 dX12_chorus_21
  · subst hz
    refine lv_if_eq (tgt := 19) hx hb dX12_chorus_9 (by decide) (fun _ => ?_) (fun hc => absurd hc (by decide))
    refine lv_bipush (v := (-2)) hx hb dX12_chorus_19 (by decide) ?_
    obtain ⟨hP9, hD9⟩ : ct_B D A H [mo qm 0 qm_width qm_many qm_cells qm_moved qm_tape vm_taped vm_at vm_token vm_place vm_value vm_word vm_bad vm_badPlace vm_fault vm_faultPlace qm_lines qm_has qm_round qm_meets qm_stumble qm_isMud qm_cell qm_tune qm_change qm_isKept qm_steps qm_places qm_danced vm_runMost vm_runBegins qm_heardBy vm_fitMany vm_fitFirst vm_fitBeats vm_listenLeaves qm_there vm_metAt vm_metIn qm_wins vm_nightHoles vm_nightFirst vm_nightMud vm_nightSlips vm_drawnNow, (qm_lines, .inl (cI, 5, .inl (fm_lines))), (qm_has, .inl (cI, 55, .inl (fm_has))), (qm_tune, .inl (cI, 50, .inl (fm_tune)))] := ⟨hP.sub [2, 3, 0, 1] rfl, hD.sub [2, 3, 0, 1] (by decide) rfl⟩
    exact W.iret (v := (-2)) hx hb hr (fun t ht hW => ⟨⟨(-2), (0 : Int32), rfl, (show (-2) ≤ (-2 : Int32).toInt ∧ (-2 : Int32).toInt ≤ 31 by decide), by rw [ht]; exact hP9, hD9⟩, hS.F ht⟩) hS.2.2 dX12_chorus_21
abbrev w_c_X12_treaties (cI cJ cB cZ cO : ClassId) (qm : Nat) (vm_thrown : Int32) (qm_width : Nat) (qm_many : Nat) (qm_cells : Nat) (qm_moved : Nat) (qm_tape : Nat) (vm_taped : Int32) (vm_at : Int32) (vm_token : Int32) (vm_place : Int32) (vm_value : Int32) (vm_word : Int64) (vm_bad : Int32) (vm_badPlace : Int32) (vm_fault : Int32) (vm_faultPlace : Int32) (qm_lines : Nat) (fm_lines : Nat → Int32) (qm_has : Nat) (qm_round : Nat) (qm_meets : Nat) (fm_meets : Nat → Int32) (qm_stumble : Nat) (qm_isMud : Nat) (qm_cell : Nat) (qm_tune : Nat) (qm_change : Nat) (qm_isKept : Nat) (qm_steps : Nat) (qm_places : Nat) (qm_danced : Nat) (vm_runMost : Int32) (vm_runBegins : Int32) (qm_heardBy : Nat) (vm_fitMany : Int32) (vm_fitFirst : Int32) (vm_fitBeats : Int64) (vm_listenLeaves : Int32) (qm_there : Nat) (vm_metAt : Int32) (vm_metIn : Int32) (qm_wins : Nat) (vm_nightHoles : Int32) (vm_nightFirst : Int32) (vm_nightMud : Int32) (vm_nightSlips : Int32) (vm_drawnNow : Int64) : va_W := [mo qm vm_thrown qm_width qm_many qm_cells qm_moved qm_tape vm_taped vm_at vm_token vm_place vm_value vm_word vm_bad vm_badPlace vm_fault vm_faultPlace qm_lines qm_has qm_round qm_meets qm_stumble qm_isMud qm_cell qm_tune qm_change qm_isKept qm_steps qm_places qm_danced vm_runMost vm_runBegins qm_heardBy vm_fitMany vm_fitFirst vm_fitBeats vm_listenLeaves qm_there vm_metAt vm_metIn qm_wins vm_nightHoles vm_nightFirst vm_nightMud vm_nightSlips vm_drawnNow, (qm_lines, .inl (cI, 5, .inl (fm_lines))), (qm_meets, .inl (cI, 30, .inl (fm_meets)))]
set_option maxHeartbeats 4000000 in
set_option maxRecDepth 100000 in
/-- X12 treaties -/
theorem c_X12_treaties (l : Launch) (D : va_G) (G : ct_G) (cI cJ cB cZ cO : ClassId) (qm : Nat) (vm_thrown : Int32) (qm_width : Nat) (qm_many : Nat) (qm_cells : Nat) (qm_moved : Nat) (qm_tape : Nat) (vm_taped : Int32) (vm_at : Int32) (vm_token : Int32) (vm_place : Int32) (vm_value : Int32) (vm_word : Int64) (vm_bad : Int32) (vm_badPlace : Int32) (vm_fault : Int32) (vm_faultPlace : Int32) (qm_lines : Nat) (fm_lines : Nat → Int32) (qm_has : Nat) (qm_round : Nat) (qm_meets : Nat) (fm_meets : Nat → Int32) (qm_stumble : Nat) (qm_isMud : Nat) (qm_cell : Nat) (qm_tune : Nat) (qm_change : Nat) (qm_isKept : Nat) (qm_steps : Nat) (qm_places : Nat) (qm_danced : Nat) (vm_runMost : Int32) (vm_runBegins : Int32) (qm_heardBy : Nat) (vm_fitMany : Int32) (vm_fitFirst : Int32) (vm_fitBeats : Int64) (vm_listenLeaves : Int32) (qm_there : Nat) (vm_metAt : Int32) (vm_metIn : Int32) (qm_wins : Nat) (vm_nightHoles : Int32) (vm_nightFirst : Int32) (vm_nightMud : Int32) (vm_nightSlips : Int32) (vm_drawnNow : Int64) (h_vm_taped : 0 ≤ vm_taped.toInt ∧ vm_taped.toInt ≤ 1200) (h_vm_at : 0 ≤ vm_at.toInt ∧ vm_at.toInt ≤ 1200) (h_vm_value : 0 ≤ vm_value.toInt ∧ vm_value.toInt ≤ 1000009) (sz : Nat) : Met l yX12_treaties wsX12_treaties ({ frames := 1, cells := 0, slots := 0, locals := 21 }) (va_Pc [.ref qm] (ct_P D (ct_T cI cJ cB cZ cO) G (w_c_X12_treaties cI cJ cB cZ cO qm vm_thrown qm_width qm_many qm_cells qm_moved qm_tape vm_taped vm_at vm_token vm_place vm_value vm_word vm_bad vm_badPlace vm_fault vm_faultPlace qm_lines fm_lines qm_has qm_round qm_meets fm_meets qm_stumble qm_isMud qm_cell qm_tune qm_change qm_isKept qm_steps qm_places qm_danced vm_runMost vm_runBegins qm_heardBy vm_fitMany vm_fitFirst vm_fitBeats vm_listenLeaves qm_there vm_metAt vm_metIn qm_wins vm_nightHoles vm_nightFirst vm_nightMud vm_nightSlips vm_drawnNow) sz)) (va_Qi (fun (rz : Int32) (u : Int32) => True) (fun (u : Int32) t => ct_Q D (va_A (w_c_X12_treaties cI cJ cB cZ cO qm vm_thrown qm_width qm_many qm_cells qm_moved qm_tape vm_taped vm_at vm_token vm_place vm_value vm_word vm_bad vm_badPlace vm_fault vm_faultPlace qm_lines fm_lines qm_has qm_round qm_meets fm_meets qm_stumble qm_isMud qm_cell qm_tune qm_change qm_isKept qm_steps qm_places qm_danced vm_runMost vm_runBegins qm_heardBy vm_fitMany vm_fitFirst vm_fitBeats vm_listenLeaves qm_there vm_metAt vm_metIn qm_wins vm_nightHoles vm_nightFirst vm_nightMud vm_nightSlips vm_drawnNow) sz) [mo qm u qm_width qm_many qm_cells qm_moved qm_tape vm_taped vm_at vm_token vm_place vm_value vm_word vm_bad vm_badPlace vm_fault vm_faultPlace qm_lines qm_has qm_round qm_meets qm_stumble qm_isMud qm_cell qm_tune qm_change qm_isKept qm_steps qm_places qm_danced vm_runMost vm_runBegins qm_heardBy vm_fitMany vm_fitFirst vm_fitBeats vm_listenLeaves qm_there vm_metAt vm_metIn qm_wins vm_nightHoles vm_nightFirst vm_nightMud vm_nightSlips vm_drawnNow, (qm_lines, .inl (cI, 5, .inl (fm_lines))), (qm_meets, .inl (cI, 30, .inl (fm_meets)))] t) (va_A (w_c_X12_treaties cI cJ cB cZ cO qm vm_thrown qm_width qm_many qm_cells qm_moved qm_tape vm_taped vm_at vm_token vm_place vm_value vm_word vm_bad vm_badPlace vm_fault vm_faultPlace qm_lines fm_lines qm_has qm_round qm_meets fm_meets qm_stumble qm_isMud qm_cell qm_tune qm_change qm_isKept qm_steps qm_places qm_danced vm_runMost vm_runBegins qm_heardBy vm_fitMany vm_fitFirst vm_fitBeats vm_listenLeaves qm_there vm_metAt vm_metIn qm_wins vm_nightHoles vm_nightFirst vm_nightMud vm_nightSlips vm_drawnNow) sz)) 0 0 (va_A (w_c_X12_treaties cI cJ cB cZ cO qm vm_thrown qm_width qm_many qm_cells qm_moved qm_tape vm_taped vm_at vm_token vm_place vm_value vm_word vm_bad vm_badPlace vm_fault vm_faultPlace qm_lines fm_lines qm_has qm_round qm_meets fm_meets qm_stumble qm_isMud qm_cell qm_tune qm_change qm_isKept qm_steps qm_places qm_danced vm_runMost vm_runBegins qm_heardBy vm_fitMany vm_fitFirst vm_fitBeats vm_listenLeaves qm_there vm_metAt vm_metIn qm_wins vm_nightHoles vm_nightFirst vm_nightMud vm_nightSlips vm_drawnNow) sz) := by
  refine Met.ofW (cc := cX12_treaties) (maxL := 4) (ret := (some .int)) (by decide) rfl ?_
  intro p e s m args below meth c s₁ B hml hv
  obtain ⟨rfl, hsz, hP, hE, hD0, hH⟩ := hv
  have hx := B.exec
  have hb := B.bytes
  have hr := B.returns
  have hts := atoms_spec (ws := wsX12_treaties) B.pre
  have hown : s.vm.findClass RX12 = some m.cls := findClass_of_methodNamed B.named
  have hlocks := B.notSynchronized
  have hK := hE.1
  have hi12 : ∀ w ∈ u_ws RX12 TX12 45, w ∈ wsX12_treaties := fun w h => List.mem_cons_of_mem _ (List.mem_append_right _ h)
  subst hsz
  have hD := hD0.self (sz := s.heap.size)
  generalize hAe : va_A (w_c_X12_treaties cI cJ cB cZ cO qm vm_thrown qm_width qm_many qm_cells qm_moved qm_tape vm_taped vm_at vm_token vm_place vm_value vm_word vm_bad vm_badPlace vm_fault vm_faultPlace qm_lines fm_lines qm_has qm_round qm_meets fm_meets qm_stumble qm_isMud qm_cell qm_tune qm_change qm_isKept qm_steps qm_places qm_danced vm_runMost vm_runBegins qm_heardBy vm_fitMany vm_fitFirst vm_fitBeats vm_listenLeaves qm_there vm_metAt vm_metIn qm_wins vm_nightHoles vm_nightFirst vm_nightMud vm_nightSlips vm_drawnNow) s.heap.size = A at hD hH ⊢
  have hA : ∀ q : Nat, s.heap.size ≤ q → A q := fun q h => by rw [← hAe]; exact Or.inr h
  have hS : va_S A s.heap s.heap [] := va_S.rf
  obtain ⟨hP, hD⟩ : ct_B D A s.heap [mo qm vm_thrown qm_width qm_many qm_cells qm_moved qm_tape vm_taped vm_at vm_token vm_place vm_value vm_word vm_bad vm_badPlace vm_fault vm_faultPlace qm_lines qm_has qm_round qm_meets qm_stumble qm_isMud qm_cell qm_tune qm_change qm_isKept qm_steps qm_places qm_danced vm_runMost vm_runBegins qm_heardBy vm_fitMany vm_fitFirst vm_fitBeats vm_listenLeaves qm_there vm_metAt vm_metIn qm_wins vm_nightHoles vm_nightFirst vm_nightMud vm_nightSlips vm_drawnNow, (qm_lines, .inl (cI, 5, .inl (fm_lines))), (qm_meets, .inl (cI, 30, .inl (fm_meets)))] := ⟨hP, hD⟩
  have hl := lv_entry ([.ref qm]) (n := 4) (Nat.le_of_ble_eq_true rfl)
  rw [lg_entry_eq]
  generalize (lg_sl ([.ref qm]) ++ List.replicate (4 - (lg_sl ([.ref qm])).length) Slot.unset).toArray = ls at hl ⊢
  have hl : lv_has ls 4 [(0, .ref qm)] := hl
  obtain ⟨H, hHe⟩ : ∃ H : Heap, H = s.heap := ⟨_, rfl⟩
  rw [← hHe] at hP
  have hS : va_S A s.heap H [] := by rw [hHe]; exact va_S.rf
  refine ct_start hHe ?_
  refine lv_aload_n hx hb dX12_treaties_0 rfl (lv_at hl 0 rfl) ?_
  refine lv_iconst (v := 0) hx hb dX12_treaties_1 (by decide) ?_
  refine va_put (D := D) (ci := 12) (v := .int 0) (ty := .int) (C := RX12) (T := TX12) (N := 45) hx hb hts hi12 tyX12 tyX12_ok nmX12 hown hK hP hD hS 0 rfl rfl 0 (by decide) (hts (.fieldLink RX12 80 "OverHillModel" "thrown" "I") (by decide +kernel)) (fun _ h9 => h9) rfl (by decide +kernel) rfl rfl (Nat.le_of_ble_eq_true rfl) dX12_treaties_2 (fun H locs hP hD hS => ?_)
  obtain ⟨hP, hD⟩ : ct_B D A H [mo qm 0 qm_width qm_many qm_cells qm_moved qm_tape vm_taped vm_at vm_token vm_place vm_value vm_word vm_bad vm_badPlace vm_fault vm_faultPlace qm_lines qm_has qm_round qm_meets qm_stumble qm_isMud qm_cell qm_tune qm_change qm_isKept qm_steps qm_places qm_danced vm_runMost vm_runBegins qm_heardBy vm_fitMany vm_fitFirst vm_fitBeats vm_listenLeaves qm_there vm_metAt vm_metIn qm_wins vm_nightHoles vm_nightFirst vm_nightMud vm_nightSlips vm_drawnNow, (qm_lines, .inl (cI, 5, .inl (fm_lines))), (qm_meets, .inl (cI, 30, .inl (fm_meets)))] := ⟨hP, hD⟩
  refine lv_aload_n hx hb dX12_treaties_5 rfl (lv_at hl 0 rfl) ?_
  refine ct_calli (D := D) (wr := [(qm_meets, .inl (cI, 30, .inl (fm_meets)))]) (va_runV (As := []) (rest := []) ⟨hx, hb, hml, hown, hts⟩ (c_X12_isDance l D G cI cJ cB cZ cO qm 0 qm_width qm_many qm_cells qm_moved qm_tape vm_taped vm_at vm_token vm_place vm_value vm_word vm_bad vm_badPlace vm_fault vm_faultPlace qm_lines fm_lines qm_has qm_round qm_meets qm_stumble qm_isMud qm_cell qm_tune qm_change qm_isKept qm_steps qm_places qm_danced vm_runMost vm_runBegins qm_heardBy vm_fitMany vm_fitFirst vm_fitBeats vm_listenLeaves qm_there vm_metAt vm_metIn qm_wins vm_nightHoles vm_nightFirst vm_nightMud vm_nightSlips vm_drawnNow h_vm_taped h_vm_at h_vm_value H.size) (cwV 0 hts gX12_treaties_X12_isDance rfl rfl rfl (by decide +kernel) ⟨Nat.le_of_ble_eq_true rfl, Nat.le_of_ble_eq_true rfl⟩) (ct_preV (T := ct_T cI cJ cB cZ cO) (ci := 12) (q0 := 0) hE hH hP hD hS hA [0, 1] (by decide) rfl rfl rfl) rfl rfl hl.1 rfl (lv_room (Nat.le_of_ble_eq_true rfl)) dX12_treaties_6 ⟨Nat.le_of_ble_eq_true rfl, Nat.le_of_ble_eq_true rfl⟩) hP hD hS hA [0, 1] [2] rfl rfl (by decide) (by decide) (fun r1 u H locs hw hP hD hS => ?_)
  obtain ⟨hP, hD⟩ : ct_B D A H [(qm_meets, .inl (cI, 30, .inl (fm_meets))), mo qm 0 qm_width qm_many qm_cells qm_moved qm_tape vm_taped vm_at vm_token vm_place vm_value vm_word vm_bad vm_badPlace vm_fault vm_faultPlace qm_lines qm_has qm_round qm_meets qm_stumble qm_isMud qm_cell qm_tune qm_change qm_isKept qm_steps qm_places qm_danced vm_runMost vm_runBegins qm_heardBy vm_fitMany vm_fitFirst vm_fitBeats vm_listenLeaves qm_there vm_metAt vm_metIn qm_wins vm_nightHoles vm_nightFirst vm_nightMud vm_nightSlips vm_drawnNow, (qm_lines, .inl (cI, 5, .inl (fm_lines)))] := ⟨hP, hD⟩
  have hz := hw
  rcases hz with ⟨hz, hz2⟩ | ⟨hz, hz2⟩
  · subst hz
    refine lv_if_ne (tgt := 15) hx hb dX12_treaties_9 (by decide) (fun _ => ?_) (fun hc => absurd hc (by decide))
    refine lv_iconst (v := 0) hx hb dX12_treaties_15 (by decide) ?_
    refine lv_istore_n (lv' := [(1, .int 0), (0, .ref qm)]) hx hb dX12_treaties_16 rfl hl (by decide) rfl (fun ls hl => ?_)
    refine lv_iconst (v := 0) hx hb dX12_treaties_17 (by decide) ?_
    refine lv_istore_n (lv' := [(2, .int 0), (1, .int 0), (0, .ref qm)]) hx hb dX12_treaties_18 rfl hl (by decide) rfl (fun ls hl => ?_)
    refine ct_loop (X := Int32 × Int32) (fun x => (6 - x.2.toInt).toNat) (fun x H locs ls => ((0 ≤ x.2.toInt ∧ x.2.toInt ≤ 6)) ∧ ct_B D A H [(qm_meets, .inl (cI, 30, .inl (fm_meets))), mo qm 0 qm_width qm_many qm_cells qm_moved qm_tape vm_taped vm_at vm_token vm_place vm_value vm_word vm_bad vm_badPlace vm_fault vm_faultPlace qm_lines qm_has qm_round qm_meets qm_stumble qm_isMud qm_cell qm_tune qm_change qm_isKept qm_steps qm_places qm_danced vm_runMost vm_runBegins qm_heardBy vm_fitMany vm_fitFirst vm_fitBeats vm_listenLeaves qm_there vm_metAt vm_metIn qm_wins vm_nightHoles vm_nightFirst vm_nightMud vm_nightSlips vm_drawnNow, (qm_lines, .inl (cI, 5, .inl (fm_lines)))] ∧ va_S A s.heap H locs ∧ lv_has ls 4 [(2, .int x.2), (1, .int x.1), (0, .ref qm)]) 19 ((0 : Int32), (0 : Int32)) ⟨(show 0 ≤ (0 : Int32).toInt ∧ (0 : Int32).toInt ≤ 6 by decide), ⟨hP, hD⟩, hS, lv_sub hl [0, 1, 2] rfl⟩ (fun x ih1076 H locs ls hI => ?_)
    obtain ⟨x1074, x1075⟩ := x
    obtain ⟨h_x1075, ⟨hP, hD⟩, hS, hl⟩ := hI
    have h_x1075 : (0 ≤ x1075.toInt ∧ x1075.toInt ≤ 6) := h_x1075
    obtain ⟨hP, hD⟩ : ct_B D A H [(qm_meets, .inl (cI, 30, .inl (fm_meets))), mo qm 0 qm_width qm_many qm_cells qm_moved qm_tape vm_taped vm_at vm_token vm_place vm_value vm_word vm_bad vm_badPlace vm_fault vm_faultPlace qm_lines qm_has qm_round qm_meets qm_stumble qm_isMud qm_cell qm_tune qm_change qm_isKept qm_steps qm_places qm_danced vm_runMost vm_runBegins qm_heardBy vm_fitMany vm_fitFirst vm_fitBeats vm_listenLeaves qm_there vm_metAt vm_metIn qm_wins vm_nightHoles vm_nightFirst vm_nightMud vm_nightSlips vm_drawnNow, (qm_lines, .inl (cI, 5, .inl (fm_lines)))] := ⟨hP, hD⟩
    have hl : lv_has ls 4 [(2, .int x1075), (1, .int x1074), (0, .ref qm)] := hl
    refine lv_iload_n hx hb dX12_treaties_19 rfl (lv_at hl 0 rfl) ?_
    refine lv_bipush (v := 6) hx hb dX12_treaties_20 (by decide) ?_
    refine lv_icmp_ge (tgt := 79) hx hb dX12_treaties_22 (by decide) (fun hc => ?_) (fun hc => ?_)
    · have hq1077 : 6 ≤ x1075.toInt := tq_le (by decide) rfl hc
      refine lv_iload_n hx hb dX12_treaties_79 rfl (lv_at hl 1 rfl) ?_
      obtain ⟨hP9, hD9⟩ : ct_B D A H [mo qm 0 qm_width qm_many qm_cells qm_moved qm_tape vm_taped vm_at vm_token vm_place vm_value vm_word vm_bad vm_badPlace vm_fault vm_faultPlace qm_lines qm_has qm_round qm_meets qm_stumble qm_isMud qm_cell qm_tune qm_change qm_isKept qm_steps qm_places qm_danced vm_runMost vm_runBegins qm_heardBy vm_fitMany vm_fitFirst vm_fitBeats vm_listenLeaves qm_there vm_metAt vm_metIn qm_wins vm_nightHoles vm_nightFirst vm_nightMud vm_nightSlips vm_drawnNow, (qm_lines, .inl (cI, 5, .inl (fm_lines))), (qm_meets, .inl (cI, 30, .inl (fm_meets)))] := ⟨hP.sub [1, 2, 0] rfl, hD.sub [1, 2, 0] (by decide) rfl⟩
      exact W.iret (v := x1074) hx hb hr (fun t ht hW => ⟨⟨x1074, (0 : Int32), rfl, trivial, by rw [ht]; exact hP9, hD9⟩, hS.F ht⟩) hS.2.2 dX12_treaties_80
    · have hq1077 : x1075.toInt < 6 := tq_nle (by decide) rfl hc
      refine lv_iconst (v := 0) hx hb dX12_treaties_25 (by decide) ?_
      refine lv_istore_n (lv' := [(3, .int 0), (2, .int x1075), (1, .int x1074), (0, .ref qm)]) hx hb dX12_treaties_26 rfl hl (by decide) rfl (fun ls hl => ?_)
      refine ct_loop (X := Int32 × Int32) (fun x => (6 - x.2.toInt).toNat) (fun x H locs ls => ((0 ≤ x.2.toInt ∧ x.2.toInt ≤ 6)) ∧ ct_B D A H [(qm_meets, .inl (cI, 30, .inl (fm_meets))), mo qm 0 qm_width qm_many qm_cells qm_moved qm_tape vm_taped vm_at vm_token vm_place vm_value vm_word vm_bad vm_badPlace vm_fault vm_faultPlace qm_lines qm_has qm_round qm_meets qm_stumble qm_isMud qm_cell qm_tune qm_change qm_isKept qm_steps qm_places qm_danced vm_runMost vm_runBegins qm_heardBy vm_fitMany vm_fitFirst vm_fitBeats vm_listenLeaves qm_there vm_metAt vm_metIn qm_wins vm_nightHoles vm_nightFirst vm_nightMud vm_nightSlips vm_drawnNow, (qm_lines, .inl (cI, 5, .inl (fm_lines)))] ∧ va_S A s.heap H locs ∧ lv_has ls 4 [(3, .int x.2), (2, .int x1075), (1, .int x.1), (0, .ref qm)]) 27 (x1074, (0 : Int32)) ⟨(show 0 ≤ (0 : Int32).toInt ∧ (0 : Int32).toInt ≤ 6 by decide), ⟨hP, hD⟩, hS, lv_sub hl [0, 1, 2, 3] rfl⟩ (fun x ih1195 H locs ls hI => ?_)
      obtain ⟨x1193, x1194⟩ := x
      obtain ⟨h_x1194, ⟨hP, hD⟩, hS, hl⟩ := hI
      have h_x1194 : (0 ≤ x1194.toInt ∧ x1194.toInt ≤ 6) := h_x1194
      obtain ⟨hP, hD⟩ : ct_B D A H [(qm_meets, .inl (cI, 30, .inl (fm_meets))), mo qm 0 qm_width qm_many qm_cells qm_moved qm_tape vm_taped vm_at vm_token vm_place vm_value vm_word vm_bad vm_badPlace vm_fault vm_faultPlace qm_lines qm_has qm_round qm_meets qm_stumble qm_isMud qm_cell qm_tune qm_change qm_isKept qm_steps qm_places qm_danced vm_runMost vm_runBegins qm_heardBy vm_fitMany vm_fitFirst vm_fitBeats vm_listenLeaves qm_there vm_metAt vm_metIn qm_wins vm_nightHoles vm_nightFirst vm_nightMud vm_nightSlips vm_drawnNow, (qm_lines, .inl (cI, 5, .inl (fm_lines)))] := ⟨hP, hD⟩
      have hl : lv_has ls 4 [(3, .int x1194), (2, .int x1075), (1, .int x1193), (0, .ref qm)] := hl
      refine lv_iload_n hx hb dX12_treaties_27 rfl (lv_at hl 0 rfl) ?_
      refine lv_bipush (v := 6) hx hb dX12_treaties_28 (by decide) ?_
      refine lv_icmp_ge (tgt := 73) hx hb dX12_treaties_30 (by decide) (fun hc => ?_) (fun hc => ?_)
      · have hq1196 : 6 ≤ x1194.toInt := tq_le (by decide) rfl hc
        obtain ⟨z1197, ez1197⟩ : ∃ z : Int32, z = x1075 + 1 := ⟨_, rfl⟩
        have fz1197 : z1197.toInt = x1075.toInt + 1 := by rw [ez1197]; exact tq_add rfl (by decide) (by omega)
        refine lv_iinc (v := z1197) (lv' := [(2, .int z1197), (3, .int x1194), (1, .int x1193), (0, .ref qm)]) hx hb dX12_treaties_73 hl (k := 1) rfl ez1197.symm (by decide) rfl (fun ls hl => ?_)
        refine lv_goto (tgt := 19) hx hb dX12_treaties_76 (by decide) ?_
        exact ih1076 (x1193, z1197) _ _ _ (show (6 - z1197.toInt).toNat < (6 - x1075.toInt).toNat by omega) ⟨(show 0 ≤ z1197.toInt ∧ z1197.toInt ≤ 6 by omega), ⟨hP, hD⟩, hS, lv_sub hl [0, 2, 3] rfl⟩
      · have hq1196 : x1194.toInt < 6 := tq_nle (by decide) rfl hc
        refine lv_iload_n hx hb dX12_treaties_33 rfl (lv_at hl 2 rfl) ?_
        refine lv_aload_n hx hb dX12_treaties_34 rfl (lv_at hl 3 rfl) ?_
        refine va_get (D := D) (ci := 12) (v := .ref qm_meets) (C := RX12) (T := TX12) (N := 45) hx hb hts hi12 hown hK hP 1 rfl rfl 19 (by decide) (hts (.fieldLink RX12 40 "OverHillModel" "meets" "[I") (by decide +kernel)) (fun _ h9 => h9) rfl dX12_treaties_35 ?_
        refine lv_iload_n hx hb dX12_treaties_38 rfl (lv_at hl 1 rfl) ?_
        refine va_iald (D := D) hx hb hK hP 0 0 rfl rfl (tq_in rfl (by omega)) dX12_treaties_39 ?_
        refine lv_topi (fun z1198 ez1198 => ?_)
        refine lv_iload_n hx hb dX12_treaties_40 rfl (lv_at hl 0 rfl) ?_
        refine ct_calli (D := D) (wr := [(qm_meets, .inl (cI, 30, .inl (fm_meets))), mo qm 0 qm_width qm_many qm_cells qm_moved qm_tape vm_taped vm_at vm_token vm_place vm_value vm_word vm_bad vm_badPlace vm_fault vm_faultPlace qm_lines qm_has qm_round qm_meets qm_stumble qm_isMud qm_cell qm_tune qm_change qm_isKept qm_steps qm_places qm_danced vm_runMost vm_runBegins qm_heardBy vm_fitMany vm_fitFirst vm_fitBeats vm_listenLeaves qm_there vm_metAt vm_metIn qm_wins vm_nightHoles vm_nightFirst vm_nightMud vm_nightSlips vm_drawnNow, (qm_lines, .inl (cI, 5, .inl (fm_lines)))]) (va_runS (As := [.int z1198, .int x1194]) (rest := [.int x1193]) ⟨hx, hb, hml, hown, hts⟩ (c_X12_isBit l D G cI cJ cB cZ cO z1198 x1194  H.size) (va_cwS 2 hts gX12_treaties_X12_isBit rfl rfl rfl (by decide +kernel) ⟨Nat.le_of_ble_eq_true rfl, Nat.le_of_ble_eq_true rfl⟩) (ct_preS (T := ct_T cI cJ cB cZ cO) hE hH hP hD hS hA [] (by decide) rfl) rfl rfl hl.1 rfl (lv_room (Nat.le_of_ble_eq_true rfl)) dX12_treaties_41 ⟨Nat.le_of_ble_eq_true rfl, Nat.le_of_ble_eq_true rfl⟩) hP hD hS hA [] [0, 1, 2] rfl rfl (by decide) (by decide) (fun r1199 u H locs hw hP hD hS => ?_)
        obtain ⟨hP, hD⟩ : ct_B D A H [(qm_meets, .inl (cI, 30, .inl (fm_meets))), mo qm 0 qm_width qm_many qm_cells qm_moved qm_tape vm_taped vm_at vm_token vm_place vm_value vm_word vm_bad vm_badPlace vm_fault vm_faultPlace qm_lines qm_has qm_round qm_meets qm_stumble qm_isMud qm_cell qm_tune qm_change qm_isKept qm_steps qm_places qm_danced vm_runMost vm_runBegins qm_heardBy vm_fitMany vm_fitFirst vm_fitBeats vm_listenLeaves qm_there vm_metAt vm_metIn qm_wins vm_nightHoles vm_nightFirst vm_nightMud vm_nightSlips vm_drawnNow, (qm_lines, .inl (cI, 5, .inl (fm_lines)))] := ⟨hP, hD⟩
        have hz := hw
        rcases hz with ⟨hz, hz2⟩ | ⟨hz, hz2⟩
        · subst hz
          have hz_1200 : (bt z1198 x1194) := hz2
          refine lv_if_eq (tgt := 64) hx hb dX12_treaties_44 (by decide) (fun hc => absurd hc (by decide)) (fun _ => ?_)
          refine lv_aload_n hx hb dX12_treaties_47 rfl (lv_at hl 3 rfl) ?_
          refine va_get (D := D) (ci := 12) (v := .ref qm_meets) (C := RX12) (T := TX12) (N := 45) hx hb hts hi12 hown hK hP 1 rfl rfl 19 (by decide) (hts (.fieldLink RX12 40 "OverHillModel" "meets" "[I") (by decide +kernel)) (fun _ h9 => h9) rfl dX12_treaties_48 ?_
          refine lv_iload_n hx hb dX12_treaties_51 rfl (lv_at hl 0 rfl) ?_
          refine va_iald (D := D) hx hb hK hP 0 0 rfl rfl (tq_in rfl (by omega)) dX12_treaties_52 ?_
          refine lv_topi (fun z1201 ez1201 => ?_)
          refine lv_iload_n hx hb dX12_treaties_53 rfl (lv_at hl 1 rfl) ?_
          refine ct_calli (D := D) (wr := [(qm_meets, .inl (cI, 30, .inl (fm_meets))), mo qm 0 qm_width qm_many qm_cells qm_moved qm_tape vm_taped vm_at vm_token vm_place vm_value vm_word vm_bad vm_badPlace vm_fault vm_faultPlace qm_lines qm_has qm_round qm_meets qm_stumble qm_isMud qm_cell qm_tune qm_change qm_isKept qm_steps qm_places qm_danced vm_runMost vm_runBegins qm_heardBy vm_fitMany vm_fitFirst vm_fitBeats vm_listenLeaves qm_there vm_metAt vm_metIn qm_wins vm_nightHoles vm_nightFirst vm_nightMud vm_nightSlips vm_drawnNow, (qm_lines, .inl (cI, 5, .inl (fm_lines)))]) (va_runS (As := [.int z1201, .int x1075]) (rest := [.int x1193]) ⟨hx, hb, hml, hown, hts⟩ (c_X12_isBit l D G cI cJ cB cZ cO z1201 x1075  H.size) (va_cwS 2 hts gX12_treaties_X12_isBit rfl rfl rfl (by decide +kernel) ⟨Nat.le_of_ble_eq_true rfl, Nat.le_of_ble_eq_true rfl⟩) (ct_preS (T := ct_T cI cJ cB cZ cO) hE hH hP hD hS hA [] (by decide) rfl) rfl rfl hl.1 rfl (lv_room (Nat.le_of_ble_eq_true rfl)) dX12_treaties_54 ⟨Nat.le_of_ble_eq_true rfl, Nat.le_of_ble_eq_true rfl⟩) hP hD hS hA [] [0, 1, 2] rfl rfl (by decide) (by decide) (fun r1202 u H locs hw hP hD hS => ?_)
          obtain ⟨hP, hD⟩ : ct_B D A H [(qm_meets, .inl (cI, 30, .inl (fm_meets))), mo qm 0 qm_width qm_many qm_cells qm_moved qm_tape vm_taped vm_at vm_token vm_place vm_value vm_word vm_bad vm_badPlace vm_fault vm_faultPlace qm_lines qm_has qm_round qm_meets qm_stumble qm_isMud qm_cell qm_tune qm_change qm_isKept qm_steps qm_places qm_danced vm_runMost vm_runBegins qm_heardBy vm_fitMany vm_fitFirst vm_fitBeats vm_listenLeaves qm_there vm_metAt vm_metIn qm_wins vm_nightHoles vm_nightFirst vm_nightMud vm_nightSlips vm_drawnNow, (qm_lines, .inl (cI, 5, .inl (fm_lines)))] := ⟨hP, hD⟩
          have hz := hw
          rcases hz with ⟨hz, hz2⟩ | ⟨hz, hz2⟩
          · subst hz
            have hz_1203 : (bt z1201 x1075) := hz2
            refine lv_if_eq (tgt := 64) hx hb dX12_treaties_57 (by decide) (fun hc => absurd hc (by decide)) (fun _ => ?_)
            refine lv_iconst (v := 1) hx hb dX12_treaties_60 (by decide) ?_
            refine lv_goto (tgt := 65) hx hb dX12_treaties_61 (by decide) ?_
            refine lv_iadd hx hb dX12_treaties_65 ?_
            refine lv_topi (fun z1204 ez1204 => ?_)
            refine lv_istore_n (lv' := [(1, .int z1204), (3, .int x1194), (2, .int x1075), (0, .ref qm)]) hx hb dX12_treaties_66 rfl hl (by decide) rfl (fun ls hl => ?_)
            obtain ⟨z1205, ez1205⟩ : ∃ z : Int32, z = x1194 + 1 := ⟨_, rfl⟩
            have fz1205 : z1205.toInt = x1194.toInt + 1 := by rw [ez1205]; exact tq_add rfl (by decide) (by omega)
            refine lv_iinc (v := z1205) (lv' := [(3, .int z1205), (1, .int z1204), (2, .int x1075), (0, .ref qm)]) hx hb dX12_treaties_67 hl (k := 1) rfl ez1205.symm (by decide) rfl (fun ls hl => ?_)
            refine lv_goto (tgt := 27) hx hb dX12_treaties_70 (by decide) ?_
            exact ih1195 (z1204, z1205) _ _ _ (show (6 - z1205.toInt).toNat < (6 - x1194.toInt).toNat by omega) ⟨(show 0 ≤ z1205.toInt ∧ z1205.toInt ≤ 6 by omega), ⟨hP, hD⟩, hS, lv_sub hl [0, 2, 1, 3] rfl⟩
          · subst hz
            have hz_1206 : ¬ (bt z1201 x1075) := hz2
            refine lv_if_eq (tgt := 64) hx hb dX12_treaties_57 (by decide) (fun _ => ?_) (fun hc => absurd hc (by decide))
            refine lv_iconst (v := 0) hx hb dX12_treaties_64 (by decide) ?_
            refine lv_iadd hx hb dX12_treaties_65 ?_
            refine lv_topi (fun z1207 ez1207 => ?_)
            refine lv_istore_n (lv' := [(1, .int z1207), (3, .int x1194), (2, .int x1075), (0, .ref qm)]) hx hb dX12_treaties_66 rfl hl (by decide) rfl (fun ls hl => ?_)
            obtain ⟨z1208, ez1208⟩ : ∃ z : Int32, z = x1194 + 1 := ⟨_, rfl⟩
            have fz1208 : z1208.toInt = x1194.toInt + 1 := by rw [ez1208]; exact tq_add rfl (by decide) (by omega)
            refine lv_iinc (v := z1208) (lv' := [(3, .int z1208), (1, .int z1207), (2, .int x1075), (0, .ref qm)]) hx hb dX12_treaties_67 hl (k := 1) rfl ez1208.symm (by decide) rfl (fun ls hl => ?_)
            refine lv_goto (tgt := 27) hx hb dX12_treaties_70 (by decide) ?_
            exact ih1195 (z1207, z1208) _ _ _ (show (6 - z1208.toInt).toNat < (6 - x1194.toInt).toNat by omega) ⟨(show 0 ≤ z1208.toInt ∧ z1208.toInt ≤ 6 by omega), ⟨hP, hD⟩, hS, lv_sub hl [0, 2, 1, 3] rfl⟩
        · subst hz
          have hz_1209 : ¬ (bt z1198 x1194) := hz2
          refine lv_if_eq (tgt := 64) hx hb dX12_treaties_44 (by decide) (fun _ => ?_) (fun hc => absurd hc (by decide))
          refine lv_iconst (v := 0) hx hb dX12_treaties_64 (by decide) ?_
          refine lv_iadd hx hb dX12_treaties_65 ?_
          refine lv_topi (fun z1210 ez1210 => ?_)
          refine lv_istore_n (lv' := [(1, .int z1210), (3, .int x1194), (2, .int x1075), (0, .ref qm)]) hx hb dX12_treaties_66 rfl hl (by decide) rfl (fun ls hl => ?_)
          obtain ⟨z1211, ez1211⟩ : ∃ z : Int32, z = x1194 + 1 := ⟨_, rfl⟩
          have fz1211 : z1211.toInt = x1194.toInt + 1 := by rw [ez1211]; exact tq_add rfl (by decide) (by omega)
          refine lv_iinc (v := z1211) (lv' := [(3, .int z1211), (1, .int z1210), (2, .int x1075), (0, .ref qm)]) hx hb dX12_treaties_67 hl (k := 1) rfl ez1211.symm (by decide) rfl (fun ls hl => ?_)
          refine lv_goto (tgt := 27) hx hb dX12_treaties_70 (by decide) ?_
          exact ih1195 (z1210, z1211) _ _ _ (show (6 - z1211.toInt).toNat < (6 - x1194.toInt).toNat by omega) ⟨(show 0 ≤ z1211.toInt ∧ z1211.toInt ≤ 6 by omega), ⟨hP, hD⟩, hS, lv_sub hl [0, 2, 1, 3] rfl⟩
  · subst hz
    refine lv_if_ne (tgt := 15) hx hb dX12_treaties_9 (by decide) (fun hc => absurd hc (by decide)) (fun _ => ?_)
    refine lv_bipush (v := (-2)) hx hb dX12_treaties_12 (by decide) ?_
    obtain ⟨hP9, hD9⟩ : ct_B D A H [mo qm 0 qm_width qm_many qm_cells qm_moved qm_tape vm_taped vm_at vm_token vm_place vm_value vm_word vm_bad vm_badPlace vm_fault vm_faultPlace qm_lines qm_has qm_round qm_meets qm_stumble qm_isMud qm_cell qm_tune qm_change qm_isKept qm_steps qm_places qm_danced vm_runMost vm_runBegins qm_heardBy vm_fitMany vm_fitFirst vm_fitBeats vm_listenLeaves qm_there vm_metAt vm_metIn qm_wins vm_nightHoles vm_nightFirst vm_nightMud vm_nightSlips vm_drawnNow, (qm_lines, .inl (cI, 5, .inl (fm_lines))), (qm_meets, .inl (cI, 30, .inl (fm_meets)))] := ⟨hP.sub [1, 2, 0] rfl, hD.sub [1, 2, 0] (by decide) rfl⟩
    exact W.iret (v := (-2)) hx hb hr (fun t ht hW => ⟨⟨(-2), (0 : Int32), rfl, trivial, by rw [ht]; exact hP9, hD9⟩, hS.F ht⟩) hS.2.2 dX12_treaties_14
