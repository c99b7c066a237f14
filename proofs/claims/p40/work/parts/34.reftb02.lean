abbrev w_c_X12_draws (cI cJ cB cZ cO : ClassId) (qm : Nat) (vm_thrown : Int32) (qm_width : Nat) (qm_many : Nat) (qm_cells : Nat) (qm_moved : Nat) (qm_tape : Nat) (vm_taped : Int32) (vm_at : Int32) (vm_token : Int32) (vm_place : Int32) (vm_value : Int32) (vm_word : Int64) (vm_bad : Int32) (vm_badPlace : Int32) (vm_fault : Int32) (vm_faultPlace : Int32) (qm_lines : Nat) (qm_has : Nat) (fm_has : Nat → Int32) (qm_round : Nat) (fm_round : Nat → Int32) (qm_meets : Nat) (fm_meets : Nat → Int32) (qm_stumble : Nat) (qm_isMud : Nat) (qm_cell : Nat) (qm_tune : Nat) (qm_change : Nat) (qm_isKept : Nat) (qm_steps : Nat) (qm_places : Nat) (qm_danced : Nat) (fm_danced : Nat → Int32) (vm_runMost : Int32) (vm_runBegins : Int32) (qm_heardBy : Nat) (vm_fitMany : Int32) (vm_fitFirst : Int32) (vm_fitBeats : Int64) (vm_listenLeaves : Int32) (qm_there : Nat) (vm_metAt : Int32) (vm_metIn : Int32) (qm_wins : Nat) (vm_nightHoles : Int32) (vm_nightFirst : Int32) (vm_nightMud : Int32) (vm_nightSlips : Int32) (vm_drawnNow : Int64) : va_W := [mo qm vm_thrown qm_width qm_many qm_cells qm_moved qm_tape vm_taped vm_at vm_token vm_place vm_value vm_word vm_bad vm_badPlace vm_fault vm_faultPlace qm_lines qm_has qm_round qm_meets qm_stumble qm_isMud qm_cell qm_tune qm_change qm_isKept qm_steps qm_places qm_danced vm_runMost vm_runBegins qm_heardBy vm_fitMany vm_fitFirst vm_fitBeats vm_listenLeaves qm_there vm_metAt vm_metIn qm_wins vm_nightHoles vm_nightFirst vm_nightMud vm_nightSlips vm_drawnNow, (qm_has, .inl (cI, 55, .inl (fm_has))), (qm_round, .inl (cI, 120, .inl (fm_round))), (qm_meets, .inl (cI, 30, .inl (fm_meets))), (qm_danced, .inl (cI, 400, .inl (fm_danced)))]
set_option maxHeartbeats 4000000 in
set_option maxRecDepth 100000 in
/-- X12 draws -/
theorem c_X12_draws (l : Launch) (D : va_G) (G : ct_G) (cI cJ cB cZ cO : ClassId) (qm : Nat) (vm_thrown : Int32) (qm_width : Nat) (qm_many : Nat) (qm_cells : Nat) (qm_moved : Nat) (qm_tape : Nat) (vm_taped : Int32) (vm_at : Int32) (vm_token : Int32) (vm_place : Int32) (vm_value : Int32) (vm_word : Int64) (vm_bad : Int32) (vm_badPlace : Int32) (vm_fault : Int32) (vm_faultPlace : Int32) (qm_lines : Nat) (qm_has : Nat) (fm_has : Nat → Int32) (qm_round : Nat) (fm_round : Nat → Int32) (qm_meets : Nat) (fm_meets : Nat → Int32) (qm_stumble : Nat) (qm_isMud : Nat) (qm_cell : Nat) (qm_tune : Nat) (qm_change : Nat) (qm_isKept : Nat) (qm_steps : Nat) (qm_places : Nat) (qm_danced : Nat) (fm_danced : Nat → Int32) (vm_runMost : Int32) (vm_runBegins : Int32) (qm_heardBy : Nat) (vm_fitMany : Int32) (vm_fitFirst : Int32) (vm_fitBeats : Int64) (vm_listenLeaves : Int32) (qm_there : Nat) (vm_metAt : Int32) (vm_metIn : Int32) (qm_wins : Nat) (vm_nightHoles : Int32) (vm_nightFirst : Int32) (vm_nightMud : Int32) (vm_nightSlips : Int32) (vm_drawnNow : Int64) (a1 : Int64) (a2 : Int32) (h_vm_taped : 0 ≤ vm_taped.toInt ∧ vm_taped.toInt ≤ 1200) (h_vm_at : 0 ≤ vm_at.toInt ∧ vm_at.toInt ≤ 1200) (h_vm_value : 0 ≤ vm_value.toInt ∧ vm_value.toInt ≤ 1000009) (h_fm_has : ar_ok [0, (-2147483648), (-2147483648), 0, 0, 0, 0, 0, 0, 0, 0] [20, 2147483647, 2147483647, 12, 12, 11, 11, 8, 12, 5, 40] fm_has) (h_fm_round : ar_ok [0] [5] fm_round) (h_fm_danced : ar_ok [(-1)] [5] fm_danced) (h_a2 : 1 ≤ a2.toInt ∧ a2.toInt ≤ 100) (sz : Nat) : Met l yX12_draws wsX12_draws ({ frames := 3, cells := 0, slots := 0, locals := 65 }) (va_Pc [.ref qm, .long a1, .int a2] (ct_P D (ct_T cI cJ cB cZ cO) G (w_c_X12_draws cI cJ cB cZ cO qm vm_thrown qm_width qm_many qm_cells qm_moved qm_tape vm_taped vm_at vm_token vm_place vm_value vm_word vm_bad vm_badPlace vm_fault vm_faultPlace qm_lines qm_has fm_has qm_round fm_round qm_meets fm_meets qm_stumble qm_isMud qm_cell qm_tune qm_change qm_isKept qm_steps qm_places qm_danced fm_danced vm_runMost vm_runBegins qm_heardBy vm_fitMany vm_fitFirst vm_fitBeats vm_listenLeaves qm_there vm_metAt vm_metIn qm_wins vm_nightHoles vm_nightFirst vm_nightMud vm_nightSlips vm_drawnNow) sz)) (va_Qv (fun (u : Int32 × Int32 × Int32 × Int32 × Int64 × (Nat → Int32)) => (ar_ok [(-1)] [5] u.2.2.2.2.2)) (fun (u : Int32 × Int32 × Int32 × Int32 × Int64 × (Nat → Int32)) t => ct_Q D (va_A (w_c_X12_draws cI cJ cB cZ cO qm vm_thrown qm_width qm_many qm_cells qm_moved qm_tape vm_taped vm_at vm_token vm_place vm_value vm_word vm_bad vm_badPlace vm_fault vm_faultPlace qm_lines qm_has fm_has qm_round fm_round qm_meets fm_meets qm_stumble qm_isMud qm_cell qm_tune qm_change qm_isKept qm_steps qm_places qm_danced fm_danced vm_runMost vm_runBegins qm_heardBy vm_fitMany vm_fitFirst vm_fitBeats vm_listenLeaves qm_there vm_metAt vm_metIn qm_wins vm_nightHoles vm_nightFirst vm_nightMud vm_nightSlips vm_drawnNow) sz) [mo qm vm_thrown qm_width qm_many qm_cells qm_moved qm_tape vm_taped vm_at vm_token vm_place vm_value vm_word vm_bad vm_badPlace vm_fault vm_faultPlace qm_lines qm_has qm_round qm_meets qm_stumble qm_isMud qm_cell qm_tune qm_change qm_isKept qm_steps qm_places qm_danced vm_runMost vm_runBegins qm_heardBy vm_fitMany vm_fitFirst vm_fitBeats vm_listenLeaves qm_there vm_metAt vm_metIn qm_wins u.1 u.2.1 u.2.2.1 u.2.2.2.1 u.2.2.2.2.1, (qm_has, .inl (cI, 55, .inl (fm_has))), (qm_round, .inl (cI, 120, .inl (fm_round))), (qm_meets, .inl (cI, 30, .inl (fm_meets))), (qm_danced, .inl (cI, 400, .inl (u.2.2.2.2.2)))] t) (va_A (w_c_X12_draws cI cJ cB cZ cO qm vm_thrown qm_width qm_many qm_cells qm_moved qm_tape vm_taped vm_at vm_token vm_place vm_value vm_word vm_bad vm_badPlace vm_fault vm_faultPlace qm_lines qm_has fm_has qm_round fm_round qm_meets fm_meets qm_stumble qm_isMud qm_cell qm_tune qm_change qm_isKept qm_steps qm_places qm_danced fm_danced vm_runMost vm_runBegins qm_heardBy vm_fitMany vm_fitFirst vm_fitBeats vm_listenLeaves qm_there vm_metAt vm_metIn qm_wins vm_nightHoles vm_nightFirst vm_nightMud vm_nightSlips vm_drawnNow) sz)) 0 0 (va_A (w_c_X12_draws cI cJ cB cZ cO qm vm_thrown qm_width qm_many qm_cells qm_moved qm_tape vm_taped vm_at vm_token vm_place vm_value vm_word vm_bad vm_badPlace vm_fault vm_faultPlace qm_lines qm_has fm_has qm_round fm_round qm_meets fm_meets qm_stumble qm_isMud qm_cell qm_tune qm_change qm_isKept qm_steps qm_places qm_danced fm_danced vm_runMost vm_runBegins qm_heardBy vm_fitMany vm_fitFirst vm_fitBeats vm_listenLeaves qm_there vm_metAt vm_metIn qm_wins vm_nightHoles vm_nightFirst vm_nightMud vm_nightSlips vm_drawnNow) sz) := by
  refine Met.ofW (cc := cX12_draws) (maxL := 8) (ret := none) (by decide) rfl ?_
  intro p e s m args below meth c s₁ B hml hv
  obtain ⟨rfl, hsz, hP, hE, hD0, hH⟩ := hv
  have hx := B.exec
  have hb := B.bytes
  have hr := B.returns
  have hts := atoms_spec (ws := wsX12_draws) B.pre
  have hown : s.vm.findClass RX12 = some m.cls := findClass_of_methodNamed B.named
  have hlocks := B.notSynchronized
  have hK := hE.1
  have hi12 : ∀ w ∈ u_ws RX12 TX12 45, w ∈ wsX12_draws := fun w h => List.mem_cons_of_mem _ (List.mem_append_right _ h)
  subst hsz
  have hD := hD0.self (sz := s.heap.size)
  generalize hAe : va_A (w_c_X12_draws cI cJ cB cZ cO qm vm_thrown qm_width qm_many qm_cells qm_moved qm_tape vm_taped vm_at vm_token vm_place vm_value vm_word vm_bad vm_badPlace vm_fault vm_faultPlace qm_lines qm_has fm_has qm_round fm_round qm_meets fm_meets qm_stumble qm_isMud qm_cell qm_tune qm_change qm_isKept qm_steps qm_places qm_danced fm_danced vm_runMost vm_runBegins qm_heardBy vm_fitMany vm_fitFirst vm_fitBeats vm_listenLeaves qm_there vm_metAt vm_metIn qm_wins vm_nightHoles vm_nightFirst vm_nightMud vm_nightSlips vm_drawnNow) s.heap.size = A at hD hH ⊢
  have hA : ∀ q : Nat, s.heap.size ≤ q → A q := fun q h => by rw [← hAe]; exact Or.inr h
  have hS : va_S A s.heap s.heap [] := va_S.rf
  obtain ⟨hP, hD⟩ : ct_B D A s.heap [mo qm vm_thrown qm_width qm_many qm_cells qm_moved qm_tape vm_taped vm_at vm_token vm_place vm_value vm_word vm_bad vm_badPlace vm_fault vm_faultPlace qm_lines qm_has qm_round qm_meets qm_stumble qm_isMud qm_cell qm_tune qm_change qm_isKept qm_steps qm_places qm_danced vm_runMost vm_runBegins qm_heardBy vm_fitMany vm_fitFirst vm_fitBeats vm_listenLeaves qm_there vm_metAt vm_metIn qm_wins vm_nightHoles vm_nightFirst vm_nightMud vm_nightSlips vm_drawnNow, (qm_has, .inl (cI, 55, .inl (fm_has))), (qm_round, .inl (cI, 120, .inl (fm_round))), (qm_meets, .inl (cI, 30, .inl (fm_meets))), (qm_danced, .inl (cI, 400, .inl (fm_danced)))] := ⟨hP, hD⟩
  have hl := lv_entry ([.ref qm, .long a1, .int a2]) (n := 8) (Nat.le_of_ble_eq_true rfl)
  rw [lg_entry_eq]
  generalize (lg_sl ([.ref qm, .long a1, .int a2]) ++ List.replicate (8 - (lg_sl ([.ref qm, .long a1, .int a2])).length) Slot.unset).toArray = ls at hl ⊢
  have hl : lv_has ls 8 [(0, .ref qm), (1, .long a1), (3, .int a2)] := hl
  obtain ⟨H, hHe⟩ : ∃ H : Heap, H = s.heap := ⟨_, rfl⟩
  rw [← hHe] at hP
  have hS : va_S A s.heap H [] := by rw [hHe]; exact va_S.rf
  refine ct_start hHe ?_
  refine lv_aload_n hx hb dX12_draws_0 rfl (lv_at hl 0 rfl) ?_
  refine lv_lload_n hx hb dX12_draws_1 rfl (lv_at hl 1 rfl) ?_
  refine va_put (D := D) (ci := 12) (v := .long a1) (ty := .long) (C := RX12) (T := TX12) (N := 45) hx hb hts hi12 tyX12 tyX12_ok nmX12 hown hK hP hD hS 0 rfl rfl 44 (by decide) (hts (.fieldLink RX12 435 "OverHillModel" "drawnNow" "J") (by decide +kernel)) (fun _ h9 => h9) rfl (by decide +kernel) rfl rfl (Nat.le_of_ble_eq_true rfl) dX12_draws_2 (fun H locs hP hD hS => ?_)
  obtain ⟨hP, hD⟩ : ct_B D A H [mo qm vm_thrown qm_width qm_many qm_cells qm_moved qm_tape vm_taped vm_at vm_token vm_place vm_value vm_word vm_bad vm_badPlace vm_fault vm_faultPlace qm_lines qm_has qm_round qm_meets qm_stumble qm_isMud qm_cell qm_tune qm_change qm_isKept qm_steps qm_places qm_danced vm_runMost vm_runBegins qm_heardBy vm_fitMany vm_fitFirst vm_fitBeats vm_listenLeaves qm_there vm_metAt vm_metIn qm_wins vm_nightHoles vm_nightFirst vm_nightMud vm_nightSlips a1, (qm_has, .inl (cI, 55, .inl (fm_has))), (qm_round, .inl (cI, 120, .inl (fm_round))), (qm_meets, .inl (cI, 30, .inl (fm_meets))), (qm_danced, .inl (cI, 400, .inl (fm_danced)))] := ⟨hP, hD⟩
  refine lv_aload_n hx hb dX12_draws_5 rfl (lv_at hl 0 rfl) ?_
  refine lv_iconst (v := 0) hx hb dX12_draws_6 (by decide) ?_
  refine va_put (D := D) (ci := 12) (v := .int 0) (ty := .int) (C := RX12) (T := TX12) (N := 45) hx hb hts hi12 tyX12 tyX12_ok nmX12 hown hK hP hD hS 0 rfl rfl 40 (by decide) (hts (.fieldLink RX12 444 "OverHillModel" "nightHoles" "I") (by decide +kernel)) (fun _ h9 => h9) rfl (by decide +kernel) rfl rfl (Nat.le_of_ble_eq_true rfl) dX12_draws_7 (fun H locs hP hD hS => ?_)
  obtain ⟨hP, hD⟩ : ct_B D A H [mo qm vm_thrown qm_width qm_many qm_cells qm_moved qm_tape vm_taped vm_at vm_token vm_place vm_value vm_word vm_bad vm_badPlace vm_fault vm_faultPlace qm_lines qm_has qm_round qm_meets qm_stumble qm_isMud qm_cell qm_tune qm_change qm_isKept qm_steps qm_places qm_danced vm_runMost vm_runBegins qm_heardBy vm_fitMany vm_fitFirst vm_fitBeats vm_listenLeaves qm_there vm_metAt vm_metIn qm_wins 0 vm_nightFirst vm_nightMud vm_nightSlips a1, (qm_has, .inl (cI, 55, .inl (fm_has))), (qm_round, .inl (cI, 120, .inl (fm_round))), (qm_meets, .inl (cI, 30, .inl (fm_meets))), (qm_danced, .inl (cI, 400, .inl (fm_danced)))] := ⟨hP, hD⟩
  refine lv_aload_n hx hb dX12_draws_10 rfl (lv_at hl 0 rfl) ?_
  refine lv_iconst (v := (-1)) hx hb dX12_draws_11 (by decide) ?_
  refine va_put (D := D) (ci := 12) (v := .int (-1)) (ty := .int) (C := RX12) (T := TX12) (N := 45) hx hb hts hi12 tyX12 tyX12_ok nmX12 hown hK hP hD hS 0 rfl rfl 41 (by decide) (hts (.fieldLink RX12 447 "OverHillModel" "nightFirst" "I") (by decide +kernel)) (fun _ h9 => h9) rfl (by decide +kernel) rfl rfl (Nat.le_of_ble_eq_true rfl) dX12_draws_12 (fun H locs hP hD hS => ?_)
  obtain ⟨hP, hD⟩ : ct_B D A H [mo qm vm_thrown qm_width qm_many qm_cells qm_moved qm_tape vm_taped vm_at vm_token vm_place vm_value vm_word vm_bad vm_badPlace vm_fault vm_faultPlace qm_lines qm_has qm_round qm_meets qm_stumble qm_isMud qm_cell qm_tune qm_change qm_isKept qm_steps qm_places qm_danced vm_runMost vm_runBegins qm_heardBy vm_fitMany vm_fitFirst vm_fitBeats vm_listenLeaves qm_there vm_metAt vm_metIn qm_wins 0 (-1) vm_nightMud vm_nightSlips a1, (qm_has, .inl (cI, 55, .inl (fm_has))), (qm_round, .inl (cI, 120, .inl (fm_round))), (qm_meets, .inl (cI, 30, .inl (fm_meets))), (qm_danced, .inl (cI, 400, .inl (fm_danced)))] := ⟨hP, hD⟩
  refine lv_aload_n hx hb dX12_draws_15 rfl (lv_at hl 0 rfl) ?_
  refine lv_iconst (v := 0) hx hb dX12_draws_16 (by decide) ?_
  refine va_put (D := D) (ci := 12) (v := .int 0) (ty := .int) (C := RX12) (T := TX12) (N := 45) hx hb hts hi12 tyX12 tyX12_ok nmX12 hown hK hP hD hS 0 rfl rfl 42 (by decide) (hts (.fieldLink RX12 450 "OverHillModel" "nightMud" "I") (by decide +kernel)) (fun _ h9 => h9) rfl (by decide +kernel) rfl rfl (Nat.le_of_ble_eq_true rfl) dX12_draws_17 (fun H locs hP hD hS => ?_)
  obtain ⟨hP, hD⟩ : ct_B D A H [mo qm vm_thrown qm_width qm_many qm_cells qm_moved qm_tape vm_taped vm_at vm_token vm_place vm_value vm_word vm_bad vm_badPlace vm_fault vm_faultPlace qm_lines qm_has qm_round qm_meets qm_stumble qm_isMud qm_cell qm_tune qm_change qm_isKept qm_steps qm_places qm_danced vm_runMost vm_runBegins qm_heardBy vm_fitMany vm_fitFirst vm_fitBeats vm_listenLeaves qm_there vm_metAt vm_metIn qm_wins 0 (-1) 0 vm_nightSlips a1, (qm_has, .inl (cI, 55, .inl (fm_has))), (qm_round, .inl (cI, 120, .inl (fm_round))), (qm_meets, .inl (cI, 30, .inl (fm_meets))), (qm_danced, .inl (cI, 400, .inl (fm_danced)))] := ⟨hP, hD⟩
  refine lv_aload_n hx hb dX12_draws_20 rfl (lv_at hl 0 rfl) ?_
  refine lv_iconst (v := 0) hx hb dX12_draws_21 (by decide) ?_
  refine va_put (D := D) (ci := 12) (v := .int 0) (ty := .int) (C := RX12) (T := TX12) (N := 45) hx hb hts hi12 tyX12 tyX12_ok nmX12 hown hK hP hD hS 0 rfl rfl 43 (by decide) (hts (.fieldLink RX12 453 "OverHillModel" "nightSlips" "I") (by decide +kernel)) (fun _ h9 => h9) rfl (by decide +kernel) rfl rfl (Nat.le_of_ble_eq_true rfl) dX12_draws_22 (fun H locs hP hD hS => ?_)
  obtain ⟨hP, hD⟩ : ct_B D A H [mo qm vm_thrown qm_width qm_many qm_cells qm_moved qm_tape vm_taped vm_at vm_token vm_place vm_value vm_word vm_bad vm_badPlace vm_fault vm_faultPlace qm_lines qm_has qm_round qm_meets qm_stumble qm_isMud qm_cell qm_tune qm_change qm_isKept qm_steps qm_places qm_danced vm_runMost vm_runBegins qm_heardBy vm_fitMany vm_fitFirst vm_fitBeats vm_listenLeaves qm_there vm_metAt vm_metIn qm_wins 0 (-1) 0 0 a1, (qm_has, .inl (cI, 55, .inl (fm_has))), (qm_round, .inl (cI, 120, .inl (fm_round))), (qm_meets, .inl (cI, 30, .inl (fm_meets))), (qm_danced, .inl (cI, 400, .inl (fm_danced)))] := ⟨hP, hD⟩
  refine lv_aload_n hx hb dX12_draws_25 rfl (lv_at hl 0 rfl) ?_
  refine va_get (D := D) (ci := 12) (v := .ref qm_has) (C := RX12) (T := TX12) (N := 45) hx hb hts hi12 hown hK hP 0 rfl rfl 17 (by decide) (hts (.fieldLink RX12 34 "OverHillModel" "has" "[I") (by decide +kernel)) (fun _ h9 => h9) rfl dX12_draws_26 ?_
  refine lv_iconst (v := 5) hx hb dX12_draws_29 (by decide) ?_
  refine va_iald (D := D) hx hb hK hP 1 0 rfl rfl (tq_in (a := 5) (by decide) (by omega)) dX12_draws_30 ?_
  refine lv_topi (fun z1 ez1 => ?_)
  have fz1 : 0 ≤ z1.toInt ∧ z1.toInt ≤ 11 := by rw [ez1]; exact ar_get h_fm_has (5 : Int32) 5 (by decide) (by decide) rfl
  refine lv_istore (lv' := [(4, .int z1), (0, .ref qm), (1, .long a1), (3, .int a2)]) hx hb dX12_draws_31 hl (by decide) rfl (fun ls hl => ?_)
  refine lv_aload_n hx hb dX12_draws_33 rfl (lv_at hl 1 rfl) ?_
  refine va_get (D := D) (ci := 12) (v := .ref qm_has) (C := RX12) (T := TX12) (N := 45) hx hb hts hi12 hown hK hP 0 rfl rfl 17 (by decide) (hts (.fieldLink RX12 34 "OverHillModel" "has" "[I") (by decide +kernel)) (fun _ h9 => h9) rfl dX12_draws_34 ?_
  refine lv_bipush (v := 6) hx hb dX12_draws_37 (by decide) ?_
  refine va_iald (D := D) hx hb hK hP 1 0 rfl rfl (tq_in (a := 6) (by decide) (by omega)) dX12_draws_39 ?_
  refine lv_topi (fun z2 ez2 => ?_)
  have fz2 : 0 ≤ z2.toInt ∧ z2.toInt ≤ 11 := by rw [ez2]; exact ar_get h_fm_has (6 : Int32) 6 (by decide) (by decide) rfl
  refine lv_istore (lv' := [(5, .int z2), (4, .int z1), (0, .ref qm), (1, .long a1), (3, .int a2)]) hx hb dX12_draws_40 hl (by decide) rfl (fun ls hl => ?_)
  refine lv_iconst (v := 0) hx hb dX12_draws_42 (by decide) ?_
  refine lv_istore (lv' := [(6, .int 0), (5, .int z2), (4, .int z1), (0, .ref qm), (1, .long a1), (3, .int a2)]) hx hb dX12_draws_43 hl (by decide) rfl (fun ls hl => ?_)
  refine ct_loop (X := (Nat → Int32) × Int32 × Int32 × Int32 × Int32 × Int64 × Int32 × Int32 × Int32) (fun x => (100 - x.2.2.2.2.2.2.2.2.toInt).toNat) (fun x H locs ls => (ar_ok [(-1)] [5] x.1) ∧ (((-1) ≤ x.2.2.1.toInt ∧ x.2.2.1.toInt ≤ 99)) ∧ ((0 ≤ x.2.2.2.2.2.2.1.toInt ∧ x.2.2.2.2.2.2.1.toInt ≤ 11)) ∧ ((0 ≤ x.2.2.2.2.2.2.2.1.toInt ∧ x.2.2.2.2.2.2.2.1.toInt ≤ 11)) ∧ ((0 ≤ x.2.2.2.2.2.2.2.2.toInt ∧ x.2.2.2.2.2.2.2.2.toInt ≤ 100)) ∧ ct_B D A H [mo qm vm_thrown qm_width qm_many qm_cells qm_moved qm_tape vm_taped vm_at vm_token vm_place vm_value vm_word vm_bad vm_badPlace vm_fault vm_faultPlace qm_lines qm_has qm_round qm_meets qm_stumble qm_isMud qm_cell qm_tune qm_change qm_isKept qm_steps qm_places qm_danced vm_runMost vm_runBegins qm_heardBy vm_fitMany vm_fitFirst vm_fitBeats vm_listenLeaves qm_there vm_metAt vm_metIn qm_wins x.2.1 x.2.2.1 x.2.2.2.1 x.2.2.2.2.1 x.2.2.2.2.2.1, (qm_has, .inl (cI, 55, .inl (fm_has))), (qm_round, .inl (cI, 120, .inl (fm_round))), (qm_meets, .inl (cI, 30, .inl (fm_meets))), (qm_danced, .inl (cI, 400, .inl (x.1)))] ∧ va_S A s.heap H locs ∧ lv_has ls 8 [(6, .int x.2.2.2.2.2.2.2.2), (5, .int x.2.2.2.2.2.2.2.1), (4, .int x.2.2.2.2.2.2.1), (0, .ref qm), (1, .long a1), (3, .int a2)]) 45 (fm_danced, (0 : Int32), (-1 : Int32), (0 : Int32), (0 : Int32), a1, z1, z2, (0 : Int32)) ⟨h_fm_danced, (show (-1) ≤ (-1 : Int32).toInt ∧ (-1 : Int32).toInt ≤ 99 by decide), fz1, fz2, (show 0 ≤ (0 : Int32).toInt ∧ (0 : Int32).toInt ≤ 100 by decide), ⟨hP, hD⟩, hS, lv_sub hl [0, 1, 2, 3, 4, 5] rfl⟩ (fun x ih3817 H locs ls hI => ?_)
  obtain ⟨g3808, x3809, x3810, x3811, x3812, x3813, x3814, x3815, x3816⟩ := x
  obtain ⟨h_g3808, h_x3810, h_x3814, h_x3815, h_x3816, ⟨hP, hD⟩, hS, hl⟩ := hI
  have h_g3808 : ar_ok [(-1)] [5] g3808 := h_g3808
  have h_x3810 : ((-1) ≤ x3810.toInt ∧ x3810.toInt ≤ 99) := h_x3810
  have h_x3814 : (0 ≤ x3814.toInt ∧ x3814.toInt ≤ 11) := h_x3814
  have h_x3815 : (0 ≤ x3815.toInt ∧ x3815.toInt ≤ 11) := h_x3815
  have h_x3816 : (0 ≤ x3816.toInt ∧ x3816.toInt ≤ 100) := h_x3816
  obtain ⟨hP, hD⟩ : ct_B D A H [mo qm vm_thrown qm_width qm_many qm_cells qm_moved qm_tape vm_taped vm_at vm_token vm_place vm_value vm_word vm_bad vm_badPlace vm_fault vm_faultPlace qm_lines qm_has qm_round qm_meets qm_stumble qm_isMud qm_cell qm_tune qm_change qm_isKept qm_steps qm_places qm_danced vm_runMost vm_runBegins qm_heardBy vm_fitMany vm_fitFirst vm_fitBeats vm_listenLeaves qm_there vm_metAt vm_metIn qm_wins x3809 x3810 x3811 x3812 x3813, (qm_has, .inl (cI, 55, .inl (fm_has))), (qm_round, .inl (cI, 120, .inl (fm_round))), (qm_meets, .inl (cI, 30, .inl (fm_meets))), (qm_danced, .inl (cI, 400, .inl (g3808)))] := ⟨hP, hD⟩
  have hl : lv_has ls 8 [(6, .int x3816), (5, .int x3815), (4, .int x3814), (0, .ref qm), (1, .long a1), (3, .int a2)] := hl
  refine lv_iload hx hb dX12_draws_45 (lv_at hl 0 rfl) ?_
  refine lv_iload_n hx hb dX12_draws_47 rfl (lv_at hl 5 rfl) ?_
  refine lv_icmp_ge (tgt := 249) hx hb dX12_draws_48 (by decide) (fun hc => ?_) (fun hc => ?_)
  · have hq3818 : a2.toInt ≤ x3816.toInt := tq_le rfl rfl hc
    obtain ⟨hP9, hD9⟩ : ct_B D A H [mo qm vm_thrown qm_width qm_many qm_cells qm_moved qm_tape vm_taped vm_at vm_token vm_place vm_value vm_word vm_bad vm_badPlace vm_fault vm_faultPlace qm_lines qm_has qm_round qm_meets qm_stumble qm_isMud qm_cell qm_tune qm_change qm_isKept qm_steps qm_places qm_danced vm_runMost vm_runBegins qm_heardBy vm_fitMany vm_fitFirst vm_fitBeats vm_listenLeaves qm_there vm_metAt vm_metIn qm_wins x3809 x3810 x3811 x3812 x3813, (qm_has, .inl (cI, 55, .inl (fm_has))), (qm_round, .inl (cI, 120, .inl (fm_round))), (qm_meets, .inl (cI, 30, .inl (fm_meets))), (qm_danced, .inl (cI, 400, .inl (g3808)))] := ⟨hP.sub [0, 1, 2, 3, 4] rfl, hD.sub [0, 1, 2, 3, 4] (by decide) rfl⟩
    exact W.vret hx hb hr (fun t ht hW => ⟨⟨(x3809, x3810, x3811, x3812, x3813, g3808), rfl, h_g3808, by rw [ht]; exact hP9, hD9⟩, hS.F ht⟩) hS.2.2 dX12_draws_249
  · have hq3818 : x3816.toInt < a2.toInt := tq_nle rfl rfl hc
    refine lv_aload_n hx hb dX12_draws_51 rfl (lv_at hl 3 rfl) ?_
    refine va_get (D := D) (ci := 12) (v := .ref qm_danced) (C := RX12) (T := TX12) (N := 45) hx hb hts hi12 hown hK hP 0 rfl rfl 28 (by decide) (hts (.fieldLink RX12 68 "OverHillModel" "danced" "[I") (by decide +kernel)) (fun _ h9 => h9) rfl dX12_draws_52 ?_
    refine lv_iload hx hb dX12_draws_55 (lv_at hl 0 rfl) ?_
    refine lv_iconst (v := (-1)) hx hb dX12_draws_57 (by decide) ?_
    refine va_iast (D := D) hx hb hK hP hD hS 4 0 rfl rfl (tq_in rfl (by omega)) dX12_draws_58 (fun H locs hP hD hS => ?_)
    obtain ⟨g3819, h_g3819, hP, hD⟩ : ∃ g3819 : Nat → Int32, ar_ok [(-1)] [5] g3819 ∧ ct_B D A H [mo qm vm_thrown qm_width qm_many qm_cells qm_moved qm_tape vm_taped vm_at vm_token vm_place vm_value vm_word vm_bad vm_badPlace vm_fault vm_faultPlace qm_lines qm_has qm_round qm_meets qm_stumble qm_isMud qm_cell qm_tune qm_change qm_isKept qm_steps qm_places qm_danced vm_runMost vm_runBegins qm_heardBy vm_fitMany vm_fitFirst vm_fitBeats vm_listenLeaves qm_there vm_metAt vm_metIn qm_wins x3809 x3810 x3811 x3812 x3813, (qm_has, .inl (cI, 55, .inl (fm_has))), (qm_round, .inl (cI, 120, .inl (fm_round))), (qm_meets, .inl (cI, 30, .inl (fm_meets))), (qm_danced, .inl (cI, 400, .inl (g3819)))] := ⟨_, ar_set h_g3808 x3816 (-1 : Int32) 0 (by omega) (show x3816.toInt % 1 = 0 by omega) rfl (show (-1) ≤ (-1 : Int32).toInt ∧ (-1 : Int32).toInt ≤ 5 by decide), hP, hD⟩
    refine lv_aload_n hx hb dX12_draws_59 rfl (lv_at hl 3 rfl) ?_
    refine va_get (D := D) (ci := 12) (v := .ref qm_danced) (C := RX12) (T := TX12) (N := 45) hx hb hts hi12 hown hK hP 0 rfl rfl 28 (by decide) (hts (.fieldLink RX12 68 "OverHillModel" "danced" "[I") (by decide +kernel)) (fun _ h9 => h9) rfl dX12_draws_60 ?_
    refine lv_sipush (v := 200) hx hb dX12_draws_63 (by decide) ?_
    refine lv_iload hx hb dX12_draws_66 (lv_at hl 0 rfl) ?_
    refine lv_iadd hx hb dX12_draws_68 ?_
    refine lv_topi (fun z3820 ez3820 => ?_)
    have fz3820 : z3820.toInt = 200 + x3816.toInt := by rw [ez3820]; exact tq_add (by decide) rfl (by omega)
    refine lv_iconst (v := (-1)) hx hb dX12_draws_69 (by decide) ?_
    refine va_iast (D := D) hx hb hK hP hD hS 4 0 rfl rfl (tq_in rfl (by omega)) dX12_draws_70 (fun H locs hP hD hS => ?_)
    obtain ⟨g3821, h_g3821, hP, hD⟩ : ∃ g3821 : Nat → Int32, ar_ok [(-1)] [5] g3821 ∧ ct_B D A H [mo qm vm_thrown qm_width qm_many qm_cells qm_moved qm_tape vm_taped vm_at vm_token vm_place vm_value vm_word vm_bad vm_badPlace vm_fault vm_faultPlace qm_lines qm_has qm_round qm_meets qm_stumble qm_isMud qm_cell qm_tune qm_change qm_isKept qm_steps qm_places qm_danced vm_runMost vm_runBegins qm_heardBy vm_fitMany vm_fitFirst vm_fitBeats vm_listenLeaves qm_there vm_metAt vm_metIn qm_wins x3809 x3810 x3811 x3812 x3813, (qm_has, .inl (cI, 55, .inl (fm_has))), (qm_round, .inl (cI, 120, .inl (fm_round))), (qm_meets, .inl (cI, 30, .inl (fm_meets))), (qm_danced, .inl (cI, 400, .inl (g3821)))] := ⟨_, ar_set h_g3819 z3820 (-1 : Int32) 0 (by omega) (show z3820.toInt % 1 = 0 by omega) rfl (show (-1) ≤ (-1 : Int32).toInt ∧ (-1 : Int32).toInt ≤ 5 by decide), hP, hD⟩
    refine lv_aload_n hx hb dX12_draws_71 rfl (lv_at hl 3 rfl) ?_
    refine lv_aload_n hx hb dX12_draws_72 rfl (lv_at hl 3 rfl) ?_
    refine va_get (D := D) (ci := 12) (v := .ref qm_has) (C := RX12) (T := TX12) (N := 45) hx hb hts hi12 hown hK hP 0 rfl rfl 17 (by decide) (hts (.fieldLink RX12 34 "OverHillModel" "has" "[I") (by decide +kernel)) (fun _ h9 => h9) rfl dX12_draws_73 ?_
    refine lv_iconst (v := 2) hx hb dX12_draws_76 (by decide) ?_
    refine va_iald (D := D) hx hb hK hP 1 0 rfl rfl (tq_in (a := 2) (by decide) (by omega)) dX12_draws_77 ?_
    refine lv_topi (fun z3822 ez3822 => ?_)
    refine ct_calli (D := D) (wr := [(qm_has, .inl (cI, 55, .inl (fm_has))), (qm_round, .inl (cI, 120, .inl (fm_round))), (qm_meets, .inl (cI, 30, .inl (fm_meets))), (qm_danced, .inl (cI, 400, .inl (g3821)))]) (va_runV (As := [.int z3822]) (rest := []) ⟨hx, hb, hml, hown, hts⟩ (c_X12_isBelow l D G cI cJ cB cZ cO qm vm_thrown qm_width qm_many qm_cells qm_moved qm_tape vm_taped vm_at vm_token vm_place vm_value vm_word vm_bad vm_badPlace vm_fault vm_faultPlace qm_lines qm_has qm_round qm_meets qm_stumble qm_isMud qm_cell qm_tune qm_change qm_isKept qm_steps qm_places qm_danced vm_runMost vm_runBegins qm_heardBy vm_fitMany vm_fitFirst vm_fitBeats vm_listenLeaves qm_there vm_metAt vm_metIn qm_wins x3809 x3810 x3811 x3812 x3813 z3822 h_vm_taped h_vm_at h_vm_value H.size) (cwV 1 hts gX12_draws_X12_isBelow rfl rfl rfl (by decide +kernel) ⟨Nat.le_of_ble_eq_true rfl, Nat.le_of_ble_eq_true rfl⟩) (ct_preV (T := ct_T cI cJ cB cZ cO) (ci := 12) (q0 := 0) hE hH hP hD hS hA [0] (by decide) rfl rfl rfl) rfl rfl hl.1 rfl (lv_room (Nat.le_of_ble_eq_true rfl)) dX12_draws_78 ⟨Nat.le_of_ble_eq_true rfl, Nat.le_of_ble_eq_true rfl⟩) hP hD hS hA [0] [1, 2, 3, 4] rfl rfl (by decide) (by decide) (fun r3823 u H locs hw hP hD hS => ?_)
    obtain ⟨y3824, rfl⟩ : ∃ z, z = u := ⟨_, rfl⟩
    obtain ⟨hP, hD⟩ : ct_B D A H [(qm_has, .inl (cI, 55, .inl (fm_has))), (qm_round, .inl (cI, 120, .inl (fm_round))), (qm_meets, .inl (cI, 30, .inl (fm_meets))), (qm_danced, .inl (cI, 400, .inl (g3821))), mo qm vm_thrown qm_width qm_many qm_cells qm_moved qm_tape vm_taped vm_at vm_token vm_place vm_value vm_word vm_bad vm_badPlace vm_fault vm_faultPlace qm_lines qm_has qm_round qm_meets qm_stumble qm_isMud qm_cell qm_tune qm_change qm_isKept qm_steps qm_places qm_danced vm_runMost vm_runBegins qm_heardBy vm_fitMany vm_fitFirst vm_fitBeats vm_listenLeaves qm_there vm_metAt vm_metIn qm_wins x3809 x3810 x3811 x3812 y3824] := ⟨hP, hD⟩
    have hz := hw
    rcases hz with ⟨hz, hz2⟩ | ⟨hz, hz2⟩
    · subst hz
      refine lv_if_eq (tgt := 97) hx hb dX12_draws_81 (by decide) (fun hc => absurd hc (by decide)) (fun _ => ?_)
      refine lv_aload_n hx hb dX12_draws_84 rfl (lv_at hl 3 rfl) ?_
      refine lv_dup hx hb dX12_draws_85 rfl ?_
      refine va_get (D := D) (ci := 12) (v := .int x3811) (C := RX12) (T := TX12) (N := 45) hx hb hts hi12 hown hK hP 4 rfl rfl 42 (by decide) (hts (.fieldLink RX12 450 "OverHillModel" "nightMud" "I") (by decide +kernel)) (fun _ h9 => h9) rfl dX12_draws_86 ?_
      refine lv_iconst (v := 1) hx hb dX12_draws_89 (by decide) ?_
      refine lv_iadd hx hb dX12_draws_90 ?_
      refine lv_topi (fun z3825 ez3825 => ?_)
      refine va_put (D := D) (ci := 12) (v := .int z3825) (ty := .int) (C := RX12) (T := TX12) (N := 45) hx hb hts hi12 tyX12 tyX12_ok nmX12 hown hK hP hD hS 4 rfl rfl 42 (by decide) (hts (.fieldLink RX12 450 "OverHillModel" "nightMud" "I") (by decide +kernel)) (fun _ h9 => h9) rfl (by decide +kernel) rfl rfl (Nat.le_of_ble_eq_true rfl) dX12_draws_91 (fun H locs hP hD hS => ?_)
      obtain ⟨hP, hD⟩ : ct_B D A H [(qm_has, .inl (cI, 55, .inl (fm_has))), (qm_round, .inl (cI, 120, .inl (fm_round))), (qm_meets, .inl (cI, 30, .inl (fm_meets))), (qm_danced, .inl (cI, 400, .inl (g3821))), mo qm vm_thrown qm_width qm_many qm_cells qm_moved qm_tape vm_taped vm_at vm_token vm_place vm_value vm_word vm_bad vm_badPlace vm_fault vm_faultPlace qm_lines qm_has qm_round qm_meets qm_stumble qm_isMud qm_cell qm_tune qm_change qm_isKept qm_steps qm_places qm_danced vm_runMost vm_runBegins qm_heardBy vm_fitMany vm_fitFirst vm_fitBeats vm_listenLeaves qm_there vm_metAt vm_metIn qm_wins x3809 x3810 z3825 x3812 y3824] := ⟨hP, hD⟩
      refine lv_goto (tgt := 180) hx hb dX12_draws_94 (by decide) ?_
      refine lv_aload_n hx hb dX12_draws_180 rfl (lv_at hl 3 rfl) ?_
      refine lv_iconst (v := 0) hx hb dX12_draws_181 (by decide) ?_
      refine lv_iload hx hb dX12_draws_182 (lv_at hl 0 rfl) ?_
      refine ct_calli (D := D) (wr := [(qm_round, .inl (cI, 120, .inl (fm_round)))]) (va_runV (As := [.int 0, .int x3816]) (rest := []) ⟨hx, hb, hml, hown, hts⟩ (c_X12_isHole l D G cI cJ cB cZ cO qm vm_thrown qm_width qm_many qm_cells qm_moved qm_tape vm_taped vm_at vm_token vm_place vm_value vm_word vm_bad vm_badPlace vm_fault vm_faultPlace qm_lines qm_has fm_has qm_round qm_meets fm_meets qm_stumble qm_isMud qm_cell qm_tune qm_change qm_isKept qm_steps qm_places qm_danced g3821 vm_runMost vm_runBegins qm_heardBy vm_fitMany vm_fitFirst vm_fitBeats vm_listenLeaves qm_there vm_metAt vm_metIn qm_wins x3809 x3810 z3825 x3812 y3824 0 x3816 h_vm_taped h_vm_at h_vm_value h_fm_has h_g3821 (by decide) (by omega) H.size) (cwV 2 hts gX12_draws_X12_isHole rfl rfl rfl (by decide +kernel) ⟨Nat.le_of_ble_eq_true rfl, Nat.le_of_ble_eq_true rfl⟩) (ct_preV (T := ct_T cI cJ cB cZ cO) (ci := 12) (q0 := 4) hE hH hP hD hS hA [4, 0, 2, 3] (by decide) rfl rfl rfl) rfl rfl hl.1 rfl (lv_room (Nat.le_of_ble_eq_true rfl)) dX12_draws_184 ⟨Nat.le_of_ble_eq_true rfl, Nat.le_of_ble_eq_true rfl⟩) hP hD hS hA [4, 0, 2, 3] [1] rfl rfl (by decide) (by decide) (fun r3826 u H locs hw hP hD hS => ?_)
      obtain ⟨hP, hD⟩ : ct_B D A H [(qm_round, .inl (cI, 120, .inl (fm_round))), mo qm vm_thrown qm_width qm_many qm_cells qm_moved qm_tape vm_taped vm_at vm_token vm_place vm_value vm_word vm_bad vm_badPlace vm_fault vm_faultPlace qm_lines qm_has qm_round qm_meets qm_stumble qm_isMud qm_cell qm_tune qm_change qm_isKept qm_steps qm_places qm_danced vm_runMost vm_runBegins qm_heardBy vm_fitMany vm_fitFirst vm_fitBeats vm_listenLeaves qm_there vm_metAt vm_metIn qm_wins x3809 x3810 z3825 x3812 y3824, (qm_has, .inl (cI, 55, .inl (fm_has))), (qm_meets, .inl (cI, 30, .inl (fm_meets))), (qm_danced, .inl (cI, 400, .inl (g3821)))] := ⟨hP, hD⟩
      have hz := hw
      rcases hz with ⟨hz, hz2⟩ | ⟨hz, hz2⟩
      · subst hz
        refine lv_if_eq (tgt := 194) hx hb dX12_draws_187 (by decide) (fun hc => absurd hc (by decide)) (fun _ => ?_)
        refine lv_iconst (v := 1) hx hb dX12_draws_190 (by decide) ?_
        refine lv_goto (tgt := 195) hx hb dX12_draws_191 (by decide) ?_
        refine lv_aload_n hx hb dX12_draws_195 rfl (lv_at hl 3 rfl) ?_
        refine lv_iconst (v := 1) hx hb dX12_draws_196 (by decide) ?_
        refine lv_iload hx hb dX12_draws_197 (lv_at hl 0 rfl) ?_
        refine ct_calli (D := D) (wr := [(qm_round, .inl (cI, 120, .inl (fm_round)))]) (va_runV (As := [.int 1, .int x3816]) (rest := [.int 1]) ⟨hx, hb, hml, hown, hts⟩ (c_X12_isHole l D G cI cJ cB cZ cO qm vm_thrown qm_width qm_many qm_cells qm_moved qm_tape vm_taped vm_at vm_token vm_place vm_value vm_word vm_bad vm_badPlace vm_fault vm_faultPlace qm_lines qm_has fm_has qm_round qm_meets fm_meets qm_stumble qm_isMud qm_cell qm_tune qm_change qm_isKept qm_steps qm_places qm_danced g3821 vm_runMost vm_runBegins qm_heardBy vm_fitMany vm_fitFirst vm_fitBeats vm_listenLeaves qm_there vm_metAt vm_metIn qm_wins x3809 x3810 z3825 x3812 y3824 1 x3816 h_vm_taped h_vm_at h_vm_value h_fm_has h_g3821 (by decide) (by omega) H.size) (cwV 2 hts gX12_draws_X12_isHole rfl rfl rfl (by decide +kernel) ⟨Nat.le_of_ble_eq_true rfl, Nat.le_of_ble_eq_true rfl⟩) (ct_preV (T := ct_T cI cJ cB cZ cO) (ci := 12) (q0 := 1) hE hH hP hD hS hA [1, 2, 3, 4] (by decide) rfl rfl rfl) rfl rfl hl.1 rfl (lv_room (Nat.le_of_ble_eq_true rfl)) dX12_draws_199 ⟨Nat.le_of_ble_eq_true rfl, Nat.le_of_ble_eq_true rfl⟩) hP hD hS hA [1, 2, 3, 4] [0] rfl rfl (by decide) (by decide) (fun r3827 u H locs hw hP hD hS => ?_)
        obtain ⟨hP, hD⟩ : ct_B D A H [(qm_round, .inl (cI, 120, .inl (fm_round))), mo qm vm_thrown qm_width qm_many qm_cells qm_moved qm_tape vm_taped vm_at vm_token vm_place vm_value vm_word vm_bad vm_badPlace vm_fault vm_faultPlace qm_lines qm_has qm_round qm_meets qm_stumble qm_isMud qm_cell qm_tune qm_change qm_isKept qm_steps qm_places qm_danced vm_runMost vm_runBegins qm_heardBy vm_fitMany vm_fitFirst vm_fitBeats vm_listenLeaves qm_there vm_metAt vm_metIn qm_wins x3809 x3810 z3825 x3812 y3824, (qm_has, .inl (cI, 55, .inl (fm_has))), (qm_meets, .inl (cI, 30, .inl (fm_meets))), (qm_danced, .inl (cI, 400, .inl (g3821)))] := ⟨hP, hD⟩
        have hz := hw
        rcases hz with ⟨hz, hz2⟩ | ⟨hz, hz2⟩
        · subst hz
          refine lv_if_eq (tgt := 209) hx hb dX12_draws_202 (by decide) (fun hc => absurd hc (by decide)) (fun _ => ?_)
          refine lv_iconst (v := 1) hx hb dX12_draws_205 (by decide) ?_
          refine lv_goto (tgt := 210) hx hb dX12_draws_206 (by decide) ?_
          refine lv_iadd hx hb dX12_draws_210 ?_
          refine lv_topi (fun z3828 ez3828 => ?_)
          obtain rfl : z3828 = 2 := ez3828.trans (by decide)
          refine lv_istore (lv' := [(7, .int 2), (6, .int x3816), (5, .int x3815), (4, .int x3814), (0, .ref qm), (1, .long a1), (3, .int a2)]) hx hb dX12_draws_211 hl (by decide) rfl (fun ls hl => ?_)
          refine lv_aload_n hx hb dX12_draws_213 rfl (lv_at hl 4 rfl) ?_
          refine lv_dup hx hb dX12_draws_214 rfl ?_
          refine va_get (D := D) (ci := 12) (v := .int x3809) (C := RX12) (T := TX12) (N := 45) hx hb hts hi12 hown hK hP 1 rfl rfl 40 (by decide) (hts (.fieldLink RX12 444 "OverHillModel" "nightHoles" "I") (by decide +kernel)) (fun _ h9 => h9) rfl dX12_draws_215 ?_
          refine lv_iload hx hb dX12_draws_218 (lv_at hl 0 rfl) ?_
          refine lv_iadd hx hb dX12_draws_220 ?_
          refine lv_topi (fun z3829 ez3829 => ?_)
          refine va_put (D := D) (ci := 12) (v := .int z3829) (ty := .int) (C := RX12) (T := TX12) (N := 45) hx hb hts hi12 tyX12 tyX12_ok nmX12 hown hK hP hD hS 1 rfl rfl 40 (by decide) (hts (.fieldLink RX12 444 "OverHillModel" "nightHoles" "I") (by decide +kernel)) (fun _ h9 => h9) rfl (by decide +kernel) rfl rfl (Nat.le_of_ble_eq_true rfl) dX12_draws_221 (fun H locs hP hD hS => ?_)
          obtain ⟨hP, hD⟩ : ct_B D A H [(qm_round, .inl (cI, 120, .inl (fm_round))), mo qm vm_thrown qm_width qm_many qm_cells qm_moved qm_tape vm_taped vm_at vm_token vm_place vm_value vm_word vm_bad vm_badPlace vm_fault vm_faultPlace qm_lines qm_has qm_round qm_meets qm_stumble qm_isMud qm_cell qm_tune qm_change qm_isKept qm_steps qm_places qm_danced vm_runMost vm_runBegins qm_heardBy vm_fitMany vm_fitFirst vm_fitBeats vm_listenLeaves qm_there vm_metAt vm_metIn qm_wins z3829 x3810 z3825 x3812 y3824, (qm_has, .inl (cI, 55, .inl (fm_has))), (qm_meets, .inl (cI, 30, .inl (fm_meets))), (qm_danced, .inl (cI, 400, .inl (g3821)))] := ⟨hP, hD⟩
          refine lv_iload hx hb dX12_draws_224 (lv_at hl 0 rfl) ?_
          refine lv_if_le (tgt := 243) hx hb dX12_draws_226 (by decide) (fun hc => absurd hc (by decide)) (fun _ => ?_)
          refine lv_aload_n hx hb dX12_draws_229 rfl (lv_at hl 4 rfl) ?_
          refine va_get (D := D) (ci := 12) (v := .int x3810) (C := RX12) (T := TX12) (N := 45) hx hb hts hi12 hown hK hP 1 rfl rfl 41 (by decide) (hts (.fieldLink RX12 447 "OverHillModel" "nightFirst" "I") (by decide +kernel)) (fun _ h9 => h9) rfl dX12_draws_230 ?_
          refine lv_iconst (v := (-1)) hx hb dX12_draws_233 (by decide) ?_
          refine lv_icmp_ne (tgt := 243) hx hb dX12_draws_234 (by decide) (fun hc => ?_) (fun hc => ?_)
          · have hq3830 : x3810.toInt ≠ (-1) := tq_ne rfl (by decide) hc
            obtain ⟨z3831, ez3831⟩ : ∃ z : Int32, z = x3816 + 1 := ⟨_, rfl⟩
            have fz3831 : z3831.toInt = x3816.toInt + 1 := by rw [ez3831]; exact tq_add rfl (by decide) (by omega)
            refine lv_iinc (v := z3831) (lv' := [(6, .int z3831), (7, .int 2), (5, .int x3815), (4, .int x3814), (0, .ref qm), (1, .long a1), (3, .int a2)]) hx hb dX12_draws_243 hl (k := 1) rfl ez3831.symm (by decide) rfl (fun ls hl => ?_)
            refine lv_goto (tgt := 45) hx hb dX12_draws_246 (by decide) ?_
            obtain ⟨hP9, hD9⟩ : ct_B D A H [mo qm vm_thrown qm_width qm_many qm_cells qm_moved qm_tape vm_taped vm_at vm_token vm_place vm_value vm_word vm_bad vm_badPlace vm_fault vm_faultPlace qm_lines qm_has qm_round qm_meets qm_stumble qm_isMud qm_cell qm_tune qm_change qm_isKept qm_steps qm_places qm_danced vm_runMost vm_runBegins qm_heardBy vm_fitMany vm_fitFirst vm_fitBeats vm_listenLeaves qm_there vm_metAt vm_metIn qm_wins z3829 x3810 z3825 x3812 y3824, (qm_has, .inl (cI, 55, .inl (fm_has))), (qm_round, .inl (cI, 120, .inl (fm_round))), (qm_meets, .inl (cI, 30, .inl (fm_meets))), (qm_danced, .inl (cI, 400, .inl (g3821)))] := ⟨hP.sub [1, 2, 0, 3, 4] rfl, hD.sub [1, 2, 0, 3, 4] (by decide) rfl⟩
            exact ih3817 (g3821, z3829, x3810, z3825, x3812, y3824, x3814, x3815, z3831) _ _ _ (show (100 - z3831.toInt).toNat < (100 - x3816.toInt).toNat by omega) ⟨h_g3821, h_x3810, h_x3814, h_x3815, (show 0 ≤ z3831.toInt ∧ z3831.toInt ≤ 100 by omega), ⟨hP9, hD9⟩, hS, lv_sub hl [0, 2, 3, 4, 5, 6] rfl⟩
          · have hq3830 : x3810.toInt = (-1) := tq_eq rfl (by decide) hc
            refine lv_aload_n hx hb dX12_draws_237 rfl (lv_at hl 4 rfl) ?_
            refine lv_iload hx hb dX12_draws_238 (lv_at hl 1 rfl) ?_
            refine va_put (D := D) (ci := 12) (v := .int x3816) (ty := .int) (C := RX12) (T := TX12) (N := 45) hx hb hts hi12 tyX12 tyX12_ok nmX12 hown hK hP hD hS 1 rfl rfl 41 (by decide) (hts (.fieldLink RX12 447 "OverHillModel" "nightFirst" "I") (by decide +kernel)) (fun _ h9 => h9) rfl (by decide +kernel) rfl rfl (Nat.le_of_ble_eq_true rfl) dX12_draws_240 (fun H locs hP hD hS => ?_)
            obtain ⟨hP, hD⟩ : ct_B D A H [(qm_round, .inl (cI, 120, .inl (fm_round))), mo qm vm_thrown qm_width qm_many qm_cells qm_moved qm_tape vm_taped vm_at vm_token vm_place vm_value vm_word vm_bad vm_badPlace vm_fault vm_faultPlace qm_lines qm_has qm_round qm_meets qm_stumble qm_isMud qm_cell qm_tune qm_change qm_isKept qm_steps qm_places qm_danced vm_runMost vm_runBegins qm_heardBy vm_fitMany vm_fitFirst vm_fitBeats vm_listenLeaves qm_there vm_metAt vm_metIn qm_wins z3829 x3816 z3825 x3812 y3824, (qm_has, .inl (cI, 55, .inl (fm_has))), (qm_meets, .inl (cI, 30, .inl (fm_meets))), (qm_danced, .inl (cI, 400, .inl (g3821)))] := ⟨hP, hD⟩
            obtain ⟨z3832, ez3832⟩ : ∃ z : Int32, z = x3816 + 1 := ⟨_, rfl⟩
            have fz3832 : z3832.toInt = x3816.toInt + 1 := by rw [ez3832]; exact tq_add rfl (by decide) (by omega)
            refine lv_iinc (v := z3832) (lv' := [(6, .int z3832), (7, .int 2), (5, .int x3815), (4, .int x3814), (0, .ref qm), (1, .long a1), (3, .int a2)]) hx hb dX12_draws_243 hl (k := 1) rfl ez3832.symm (by decide) rfl (fun ls hl => ?_)
            refine lv_goto (tgt := 45) hx hb dX12_draws_246 (by decide) ?_
            obtain ⟨hP9, hD9⟩ : ct_B D A H [mo qm vm_thrown qm_width qm_many qm_cells qm_moved qm_tape vm_taped vm_at vm_token vm_place vm_value vm_word vm_bad vm_badPlace vm_fault vm_faultPlace qm_lines qm_has qm_round qm_meets qm_stumble qm_isMud qm_cell qm_tune qm_change qm_isKept qm_steps qm_places qm_danced vm_runMost vm_runBegins qm_heardBy vm_fitMany vm_fitFirst vm_fitBeats vm_listenLeaves qm_there vm_metAt vm_metIn qm_wins z3829 x3816 z3825 x3812 y3824, (qm_has, .inl (cI, 55, .inl (fm_has))), (qm_round, .inl (cI, 120, .inl (fm_round))), (qm_meets, .inl (cI, 30, .inl (fm_meets))), (qm_danced, .inl (cI, 400, .inl (g3821)))] := ⟨hP.sub [1, 2, 0, 3, 4] rfl, hD.sub [1, 2, 0, 3, 4] (by decide) rfl⟩
            exact ih3817 (g3821, z3829, x3816, z3825, x3812, y3824, x3814, x3815, z3832) _ _ _ (show (100 - z3832.toInt).toNat < (100 - x3816.toInt).toNat by omega) ⟨h_g3821, (show (-1) ≤ x3816.toInt ∧ x3816.toInt ≤ 99 by omega), h_x3814, h_x3815, (show 0 ≤ z3832.toInt ∧ z3832.toInt ≤ 100 by omega), ⟨hP9, hD9⟩, hS, lv_sub hl [0, 2, 3, 4, 5, 6] rfl⟩
        · subst hz
          refine lv_if_eq (tgt := 209) hx hb dX12_draws_202 (by decide) (fun _ => ?_) (fun hc => absurd hc (by decide))
          refine lv_iconst (v := 0) hx hb dX12_draws_209 (by decide) ?_
          refine lv_iadd hx hb dX12_draws_210 ?_
          refine lv_topi (fun z3833 ez3833 => ?_)
          obtain rfl : z3833 = 1 := ez3833.trans (by decide)
          refine lv_istore (lv' := [(7, .int 1), (6, .int x3816), (5, .int x3815), (4, .int x3814), (0, .ref qm), (1, .long a1), (3, .int a2)]) hx hb dX12_draws_211 hl (by decide) rfl (fun ls hl => ?_)
          refine lv_aload_n hx hb dX12_draws_213 rfl (lv_at hl 4 rfl) ?_
          refine lv_dup hx hb dX12_draws_214 rfl ?_
          refine va_get (D := D) (ci := 12) (v := .int x3809) (C := RX12) (T := TX12) (N := 45) hx hb hts hi12 hown hK hP 1 rfl rfl 40 (by decide) (hts (.fieldLink RX12 444 "OverHillModel" "nightHoles" "I") (by decide +kernel)) (fun _ h9 => h9) rfl dX12_draws_215 ?_
          refine lv_iload hx hb dX12_draws_218 (lv_at hl 0 rfl) ?_
          refine lv_iadd hx hb dX12_draws_220 ?_
          refine lv_topi (fun z3834 ez3834 => ?_)
          refine va_put (D := D) (ci := 12) (v := .int z3834) (ty := .int) (C := RX12) (T := TX12) (N := 45) hx hb hts hi12 tyX12 tyX12_ok nmX12 hown hK hP hD hS 1 rfl rfl 40 (by decide) (hts (.fieldLink RX12 444 "OverHillModel" "nightHoles" "I") (by decide +kernel)) (fun _ h9 => h9) rfl (by decide +kernel) rfl rfl (Nat.le_of_ble_eq_true rfl) dX12_draws_221 (fun H locs hP hD hS => ?_)
          obtain ⟨hP, hD⟩ : ct_B D A H [(qm_round, .inl (cI, 120, .inl (fm_round))), mo qm vm_thrown qm_width qm_many qm_cells qm_moved qm_tape vm_taped vm_at vm_token vm_place vm_value vm_word vm_bad vm_badPlace vm_fault vm_faultPlace qm_lines qm_has qm_round qm_meets qm_stumble qm_isMud qm_cell qm_tune qm_change qm_isKept qm_steps qm_places qm_danced vm_runMost vm_runBegins qm_heardBy vm_fitMany vm_fitFirst vm_fitBeats vm_listenLeaves qm_there vm_metAt vm_metIn qm_wins z3834 x3810 z3825 x3812 y3824, (qm_has, .inl (cI, 55, .inl (fm_has))), (qm_meets, .inl (cI, 30, .inl (fm_meets))), (qm_danced, .inl (cI, 400, .inl (g3821)))] := ⟨hP, hD⟩
          refine lv_iload hx hb dX12_draws_224 (lv_at hl 0 rfl) ?_
          refine lv_if_le (tgt := 243) hx hb dX12_draws_226 (by decide) (fun hc => absurd hc (by decide)) (fun _ => ?_)
          refine lv_aload_n hx hb dX12_draws_229 rfl (lv_at hl 4 rfl) ?_
          refine va_get (D := D) (ci := 12) (v := .int x3810) (C := RX12) (T := TX12) (N := 45) hx hb hts hi12 hown hK hP 1 rfl rfl 41 (by decide) (hts (.fieldLink RX12 447 "OverHillModel" "nightFirst" "I") (by decide +kernel)) (fun _ h9 => h9) rfl dX12_draws_230 ?_
          refine lv_iconst (v := (-1)) hx hb dX12_draws_233 (by decide) ?_
          refine lv_icmp_ne (tgt := 243) hx hb dX12_draws_234 (by decide) (fun hc => ?_) (fun hc => ?_)
          · have hq3835 : x3810.toInt ≠ (-1) := tq_ne rfl (by decide) hc
            obtain ⟨z3836, ez3836⟩ : ∃ z : Int32, z = x3816 + 1 := ⟨_, rfl⟩
            have fz3836 : z3836.toInt = x3816.toInt + 1 := by rw [ez3836]; exact tq_add rfl (by decide) (by omega)
            refine lv_iinc (v := z3836) (lv' := [(6, .int z3836), (7, .int 1), (5, .int x3815), (4, .int x3814), (0, .ref qm), (1, .long a1), (3, .int a2)]) hx hb dX12_draws_243 hl (k := 1) rfl ez3836.symm (by decide) rfl (fun ls hl => ?_)
            refine lv_goto (tgt := 45) hx hb dX12_draws_246 (by decide) ?_
            obtain ⟨hP9, hD9⟩ : ct_B D A H [mo qm vm_thrown qm_width qm_many qm_cells qm_moved qm_tape vm_taped vm_at vm_token vm_place vm_value vm_word vm_bad vm_badPlace vm_fault vm_faultPlace qm_lines qm_has qm_round qm_meets qm_stumble qm_isMud qm_cell qm_tune qm_change qm_isKept qm_steps qm_places qm_danced vm_runMost vm_runBegins qm_heardBy vm_fitMany vm_fitFirst vm_fitBeats vm_listenLeaves qm_there vm_metAt vm_metIn qm_wins z3834 x3810 z3825 x3812 y3824, (qm_has, .inl (cI, 55, .inl (fm_has))), (qm_round, .inl (cI, 120, .inl (fm_round))), (qm_meets, .inl (cI, 30, .inl (fm_meets))), (qm_danced, .inl (cI, 400, .inl (g3821)))] := ⟨hP.sub [1, 2, 0, 3, 4] rfl, hD.sub [1, 2, 0, 3, 4] (by decide) rfl⟩
            exact ih3817 (g3821, z3834, x3810, z3825, x3812, y3824, x3814, x3815, z3836) _ _ _ (show (100 - z3836.toInt).toNat < (100 - x3816.toInt).toNat by omega) ⟨h_g3821, h_x3810, h_x3814, h_x3815, (show 0 ≤ z3836.toInt ∧ z3836.toInt ≤ 100 by omega), ⟨hP9, hD9⟩, hS, lv_sub hl [0, 2, 3, 4, 5, 6] rfl⟩
          · have hq3835 : x3810.toInt = (-1) := tq_eq rfl (by decide) hc
            refine lv_aload_n hx hb dX12_draws_237 rfl (lv_at hl 4 rfl) ?_
            refine lv_iload hx hb dX12_draws_238 (lv_at hl 1 rfl) ?_
            refine va_put (D := D) (ci := 12) (v := .int x3816) (ty := .int) (C := RX12) (T := TX12) (N := 45) hx hb hts hi12 tyX12 tyX12_ok nmX12 hown hK hP hD hS 1 rfl rfl 41 (by decide) (hts (.fieldLink RX12 447 "OverHillModel" "nightFirst" "I") (by decide +kernel)) (fun _ h9 => h9) rfl (by decide +kernel) rfl rfl (Nat.le_of_ble_eq_true rfl) dX12_draws_240 (fun H locs hP hD hS => ?_)
            obtain ⟨hP, hD⟩ : ct_B D A H [(qm_round, .inl (cI, 120, .inl (fm_round))), mo qm vm_thrown qm_width qm_many qm_cells qm_moved qm_tape vm_taped vm_at vm_token vm_place vm_value vm_word vm_bad vm_badPlace vm_fault vm_faultPlace qm_lines qm_has qm_round qm_meets qm_stumble qm_isMud qm_cell qm_tune qm_change qm_isKept qm_steps qm_places qm_danced vm_runMost vm_runBegins qm_heardBy vm_fitMany vm_fitFirst vm_fitBeats vm_listenLeaves qm_there vm_metAt vm_metIn qm_wins z3834 x3816 z3825 x3812 y3824, (qm_has, .inl (cI, 55, .inl (fm_has))), (qm_meets, .inl (cI, 30, .inl (fm_meets))), (qm_danced, .inl (cI, 400, .inl (g3821)))] := ⟨hP, hD⟩
            obtain ⟨z3837, ez3837⟩ : ∃ z : Int32, z = x3816 + 1 := ⟨_, rfl⟩
            have fz3837 : z3837.toInt = x3816.toInt + 1 := by rw [ez3837]; exact tq_add rfl (by decide) (by omega)
            refine lv_iinc (v := z3837) (lv' := [(6, .int z3837), (7, .int 1), (5, .int x3815), (4, .int x3814), (0, .ref qm), (1, .long a1), (3, .int a2)]) hx hb dX12_draws_243 hl (k := 1) rfl ez3837.symm (by decide) rfl (fun ls hl => ?_)
            refine lv_goto (tgt := 45) hx hb dX12_draws_246 (by decide) ?_
            obtain ⟨hP9, hD9⟩ : ct_B D A H [mo qm vm_thrown qm_width qm_many qm_cells qm_moved qm_tape vm_taped vm_at vm_token vm_place vm_value vm_word vm_bad vm_badPlace vm_fault vm_faultPlace qm_lines qm_has qm_round qm_meets qm_stumble qm_isMud qm_cell qm_tune qm_change qm_isKept qm_steps qm_places qm_danced vm_runMost vm_runBegins qm_heardBy vm_fitMany vm_fitFirst vm_fitBeats vm_listenLeaves qm_there vm_metAt vm_metIn qm_wins z3834 x3816 z3825 x3812 y3824, (qm_has, .inl (cI, 55, .inl (fm_has))), (qm_round, .inl (cI, 120, .inl (fm_round))), (qm_meets, .inl (cI, 30, .inl (fm_meets))), (qm_danced, .inl (cI, 400, .inl (g3821)))] := ⟨hP.sub [1, 2, 0, 3, 4] rfl, hD.sub [1, 2, 0, 3, 4] (by decide) rfl⟩
            exact ih3817 (g3821, z3834, x3816, z3825, x3812, y3824, x3814, x3815, z3837) _ _ _ (show (100 - z3837.toInt).toNat < (100 - x3816.toInt).toNat by omega) ⟨h_g3821, (show (-1) ≤ x3816.toInt ∧ x3816.toInt ≤ 99 by omega), h_x3814, h_x3815, (show 0 ≤ z3837.toInt ∧ z3837.toInt ≤ 100 by omega), ⟨hP9, hD9⟩, hS, lv_sub hl [0, 2, 3, 4, 5, 6] rfl⟩
      · subst hz
        refine lv_if_eq (tgt := 194) hx hb dX12_draws_187 (by decide) (fun _ => ?_) (fun hc => absurd hc (by decide))
        refine lv_iconst (v := 0) hx hb dX12_draws_194 (by decide) ?_
        refine lv_aload_n hx hb dX12_draws_195 rfl (lv_at hl 3 rfl) ?_
        refine lv_iconst (v := 1) hx hb dX12_draws_196 (by decide) ?_
        refine lv_iload hx hb dX12_draws_197 (lv_at hl 0 rfl) ?_
        refine ct_calli (D := D) (wr := [(qm_round, .inl (cI, 120, .inl (fm_round)))]) (va_runV (As := [.int 1, .int x3816]) (rest := [.int 0]) ⟨hx, hb, hml, hown, hts⟩ (c_X12_isHole l D G cI cJ cB cZ cO qm vm_thrown qm_width qm_many qm_cells qm_moved qm_tape vm_taped vm_at vm_token vm_place vm_value vm_word vm_bad vm_badPlace vm_fault vm_faultPlace qm_lines qm_has fm_has qm_round qm_meets fm_meets qm_stumble qm_isMud qm_cell qm_tune qm_change qm_isKept qm_steps qm_places qm_danced g3821 vm_runMost vm_runBegins qm_heardBy vm_fitMany vm_fitFirst vm_fitBeats vm_listenLeaves qm_there vm_metAt vm_metIn qm_wins x3809 x3810 z3825 x3812 y3824 1 x3816 h_vm_taped h_vm_at h_vm_value h_fm_has h_g3821 (by decide) (by omega) H.size) (cwV 2 hts gX12_draws_X12_isHole rfl rfl rfl (by decide +kernel) ⟨Nat.le_of_ble_eq_true rfl, Nat.le_of_ble_eq_true rfl⟩) (ct_preV (T := ct_T cI cJ cB cZ cO) (ci := 12) (q0 := 1) hE hH hP hD hS hA [1, 2, 3, 4] (by decide) rfl rfl rfl) rfl rfl hl.1 rfl (lv_room (Nat.le_of_ble_eq_true rfl)) dX12_draws_199 ⟨Nat.le_of_ble_eq_true rfl, Nat.le_of_ble_eq_true rfl⟩) hP hD hS hA [1, 2, 3, 4] [0] rfl rfl (by decide) (by decide) (fun r3838 u H locs hw hP hD hS => ?_)
        obtain ⟨hP, hD⟩ : ct_B D A H [(qm_round, .inl (cI, 120, .inl (fm_round))), mo qm vm_thrown qm_width qm_many qm_cells qm_moved qm_tape vm_taped vm_at vm_token vm_place vm_value vm_word vm_bad vm_badPlace vm_fault vm_faultPlace qm_lines qm_has qm_round qm_meets qm_stumble qm_isMud qm_cell qm_tune qm_change qm_isKept qm_steps qm_places qm_danced vm_runMost vm_runBegins qm_heardBy vm_fitMany vm_fitFirst vm_fitBeats vm_listenLeaves qm_there vm_metAt vm_metIn qm_wins x3809 x3810 z3825 x3812 y3824, (qm_has, .inl (cI, 55, .inl (fm_has))), (qm_meets, .inl (cI, 30, .inl (fm_meets))), (qm_danced, .inl (cI, 400, .inl (g3821)))] := ⟨hP, hD⟩
        have hz := hw
        rcases hz with ⟨hz, hz2⟩ | ⟨hz, hz2⟩
        · subst hz
          refine lv_if_eq (tgt := 209) hx hb dX12_draws_202 (by decide) (fun hc => absurd hc (by decide)) (fun _ => ?_)
          refine lv_iconst (v := 1) hx hb dX12_draws_205 (by decide) ?_
          refine lv_goto (tgt := 210) hx hb dX12_draws_206 (by decide) ?_
          refine lv_iadd hx hb dX12_draws_210 ?_
          refine lv_topi (fun z3839 ez3839 => ?_)
          obtain rfl : z3839 = 1 := ez3839.trans (by decide)
          refine lv_istore (lv' := [(7, .int 1), (6, .int x3816), (5, .int x3815), (4, .int x3814), (0, .ref qm), (1, .long a1), (3, .int a2)]) hx hb dX12_draws_211 hl (by decide) rfl (fun ls hl => ?_)
          refine lv_aload_n hx hb dX12_draws_213 rfl (lv_at hl 4 rfl) ?_
          refine lv_dup hx hb dX12_draws_214 rfl ?_
          refine va_get (D := D) (ci := 12) (v := .int x3809) (C := RX12) (T := TX12) (N := 45) hx hb hts hi12 hown hK hP 1 rfl rfl 40 (by decide) (hts (.fieldLink RX12 444 "OverHillModel" "nightHoles" "I") (by decide +kernel)) (fun _ h9 => h9) rfl dX12_draws_215 ?_
          refine lv_iload hx hb dX12_draws_218 (lv_at hl 0 rfl) ?_
          refine lv_iadd hx hb dX12_draws_220 ?_
          refine lv_topi (fun z3840 ez3840 => ?_)
          refine va_put (D := D) (ci := 12) (v := .int z3840) (ty := .int) (C := RX12) (T := TX12) (N := 45) hx hb hts hi12 tyX12 tyX12_ok nmX12 hown hK hP hD hS 1 rfl rfl 40 (by decide) (hts (.fieldLink RX12 444 "OverHillModel" "nightHoles" "I") (by decide +kernel)) (fun _ h9 => h9) rfl (by decide +kernel) rfl rfl (Nat.le_of_ble_eq_true rfl) dX12_draws_221 (fun H locs hP hD hS => ?_)
          obtain ⟨hP, hD⟩ : ct_B D A H [(qm_round, .inl (cI, 120, .inl (fm_round))), mo qm vm_thrown qm_width qm_many qm_cells qm_moved qm_tape vm_taped vm_at vm_token vm_place vm_value vm_word vm_bad vm_badPlace vm_fault vm_faultPlace qm_lines qm_has qm_round qm_meets qm_stumble qm_isMud qm_cell qm_tune qm_change qm_isKept qm_steps qm_places qm_danced vm_runMost vm_runBegins qm_heardBy vm_fitMany vm_fitFirst vm_fitBeats vm_listenLeaves qm_there vm_metAt vm_metIn qm_wins z3840 x3810 z3825 x3812 y3824, (qm_has, .inl (cI, 55, .inl (fm_has))), (qm_meets, .inl (cI, 30, .inl (fm_meets))), (qm_danced, .inl (cI, 400, .inl (g3821)))] := ⟨hP, hD⟩
          refine lv_iload hx hb dX12_draws_224 (lv_at hl 0 rfl) ?_
          refine lv_if_le (tgt := 243) hx hb dX12_draws_226 (by decide) (fun hc => absurd hc (by decide)) (fun _ => ?_)
          refine lv_aload_n hx hb dX12_draws_229 rfl (lv_at hl 4 rfl) ?_
          refine va_get (D := D) (ci := 12) (v := .int x3810) (C := RX12) (T := TX12) (N := 45) hx hb hts hi12 hown hK hP 1 rfl rfl 41 (by decide) (hts (.fieldLink RX12 447 "OverHillModel" "nightFirst" "I") (by decide +kernel)) (fun _ h9 => h9) rfl dX12_draws_230 ?_
          refine lv_iconst (v := (-1)) hx hb dX12_draws_233 (by decide) ?_
          refine lv_icmp_ne (tgt := 243) hx hb dX12_draws_234 (by decide) (fun hc => ?_) (fun hc => ?_)
          · have hq3841 : x3810.toInt ≠ (-1) := tq_ne rfl (by decide) hc
            obtain ⟨z3842, ez3842⟩ : ∃ z : Int32, z = x3816 + 1 := ⟨_, rfl⟩
            have fz3842 : z3842.toInt = x3816.toInt + 1 := by rw [ez3842]; exact tq_add rfl (by decide) (by omega)
            refine lv_iinc (v := z3842) (lv' := [(6, .int z3842), (7, .int 1), (5, .int x3815), (4, .int x3814), (0, .ref qm), (1, .long a1), (3, .int a2)]) hx hb dX12_draws_243 hl (k := 1) rfl ez3842.symm (by decide) rfl (fun ls hl => ?_)
            refine lv_goto (tgt := 45) hx hb dX12_draws_246 (by decide) ?_
            obtain ⟨hP9, hD9⟩ : ct_B D A H [mo qm vm_thrown qm_width qm_many qm_cells qm_moved qm_tape vm_taped vm_at vm_token vm_place vm_value vm_word vm_bad vm_badPlace vm_fault vm_faultPlace qm_lines qm_has qm_round qm_meets qm_stumble qm_isMud qm_cell qm_tune qm_change qm_isKept qm_steps qm_places qm_danced vm_runMost vm_runBegins qm_heardBy vm_fitMany vm_fitFirst vm_fitBeats vm_listenLeaves qm_there vm_metAt vm_metIn qm_wins z3840 x3810 z3825 x3812 y3824, (qm_has, .inl (cI, 55, .inl (fm_has))), (qm_round, .inl (cI, 120, .inl (fm_round))), (qm_meets, .inl (cI, 30, .inl (fm_meets))), (qm_danced, .inl (cI, 400, .inl (g3821)))] := ⟨hP.sub [1, 2, 0, 3, 4] rfl, hD.sub [1, 2, 0, 3, 4] (by decide) rfl⟩
            exact ih3817 (g3821, z3840, x3810, z3825, x3812, y3824, x3814, x3815, z3842) _ _ _ (show (100 - z3842.toInt).toNat < (100 - x3816.toInt).toNat by omega) ⟨h_g3821, h_x3810, h_x3814, h_x3815, (show 0 ≤ z3842.toInt ∧ z3842.toInt ≤ 100 by omega), ⟨hP9, hD9⟩, hS, lv_sub hl [0, 2, 3, 4, 5, 6] rfl⟩
          · have hq3841 : x3810.toInt = (-1) := tq_eq rfl (by decide) hc
            refine lv_aload_n hx hb dX12_draws_237 rfl (lv_at hl 4 rfl) ?_
            refine lv_iload hx hb dX12_draws_238 (lv_at hl 1 rfl) ?_
            refine va_put (D := D) (ci := 12) (v := .int x3816) (ty := .int) (C := RX12) (T := TX12) (N := 45) hx hb hts hi12 tyX12 tyX12_ok nmX12 hown hK hP hD hS 1 rfl rfl 41 (by decide) (hts (.fieldLink RX12 447 "OverHillModel" "nightFirst" "I") (by decide +kernel)) (fun _ h9 => h9) rfl (by decide +kernel) rfl rfl (Nat.le_of_ble_eq_true rfl) dX12_draws_240 (fun H locs hP hD hS => ?_)
            obtain ⟨hP, hD⟩ : ct_B D A H [(qm_round, .inl (cI, 120, .inl (fm_round))), mo qm vm_thrown qm_width qm_many qm_cells qm_moved qm_tape vm_taped vm_at vm_token vm_place vm_value vm_word vm_bad vm_badPlace vm_fault vm_faultPlace qm_lines qm_has qm_round qm_meets qm_stumble qm_isMud qm_cell qm_tune qm_change qm_isKept qm_steps qm_places qm_danced vm_runMost vm_runBegins qm_heardBy vm_fitMany vm_fitFirst vm_fitBeats vm_listenLeaves qm_there vm_metAt vm_metIn qm_wins z3840 x3816 z3825 x3812 y3824, (qm_has, .inl (cI, 55, .inl (fm_has))), (qm_meets, .inl (cI, 30, .inl (fm_meets))), (qm_danced, .inl (cI, 400, .inl (g3821)))] := ⟨hP, hD⟩
            obtain ⟨z3843, ez3843⟩ : ∃ z : Int32, z = x3816 + 1 := ⟨_, rfl⟩
            have fz3843 : z3843.toInt = x3816.toInt + 1 := by rw [ez3843]; exact tq_add rfl (by decide) (by omega)
            refine lv_iinc (v := z3843) (lv' := [(6, .int z3843), (7, .int 1), (5, .int x3815), (4, .int x3814), (0, .ref qm), (1, .long a1), (3, .int a2)]) hx hb dX12_draws_243 hl (k := 1) rfl ez3843.symm (by decide) rfl (fun ls hl => ?_)
            refine lv_goto (tgt := 45) hx hb dX12_draws_246 (by decide) ?_
            obtain ⟨hP9, hD9⟩ : ct_B D A H [mo qm vm_thrown qm_width qm_many qm_cells qm_moved qm_tape vm_taped vm_at vm_token vm_place vm_value vm_word vm_bad vm_badPlace vm_fault vm_faultPlace qm_lines qm_has qm_round qm_meets qm_stumble qm_isMud qm_cell qm_tune qm_change qm_isKept qm_steps qm_places qm_danced vm_runMost vm_runBegins qm_heardBy vm_fitMany vm_fitFirst vm_fitBeats vm_listenLeaves qm_there vm_metAt vm_metIn qm_wins z3840 x3816 z3825 x3812 y3824, (qm_has, .inl (cI, 55, .inl (fm_has))), (qm_round, .inl (cI, 120, .inl (fm_round))), (qm_meets, .inl (cI, 30, .inl (fm_meets))), (qm_danced, .inl (cI, 400, .inl (g3821)))] := ⟨hP.sub [1, 2, 0, 3, 4] rfl, hD.sub [1, 2, 0, 3, 4] (by decide) rfl⟩
            exact ih3817 (g3821, z3840, x3816, z3825, x3812, y3824, x3814, x3815, z3843) _ _ _ (show (100 - z3843.toInt).toNat < (100 - x3816.toInt).toNat by omega) ⟨h_g3821, (show (-1) ≤ x3816.toInt ∧ x3816.toInt ≤ 99 by omega), h_x3814, h_x3815, (show 0 ≤ z3843.toInt ∧ z3843.toInt ≤ 100 by omega), ⟨hP9, hD9⟩, hS, lv_sub hl [0, 2, 3, 4, 5, 6] rfl⟩
        · subst hz
          refine lv_if_eq (tgt := 209) hx hb dX12_draws_202 (by decide) (fun _ => ?_) (fun hc => absurd hc (by decide))
          refine lv_iconst (v := 0) hx hb dX12_draws_209 (by decide) ?_
          refine lv_iadd hx hb dX12_draws_210 ?_
          refine lv_topi (fun z3844 ez3844 => ?_)
          obtain rfl : z3844 = 0 := ez3844.trans (by decide)
          refine lv_istore (lv' := [(7, .int 0), (6, .int x3816), (5, .int x3815), (4, .int x3814), (0, .ref qm), (1, .long a1), (3, .int a2)]) hx hb dX12_draws_211 hl (by decide) rfl (fun ls hl => ?_)
          refine lv_aload_n hx hb dX12_draws_213 rfl (lv_at hl 4 rfl) ?_
          refine lv_dup hx hb dX12_draws_214 rfl ?_
          refine va_get (D := D) (ci := 12) (v := .int x3809) (C := RX12) (T := TX12) (N := 45) hx hb hts hi12 hown hK hP 1 rfl rfl 40 (by decide) (hts (.fieldLink RX12 444 "OverHillModel" "nightHoles" "I") (by decide +kernel)) (fun _ h9 => h9) rfl dX12_draws_215 ?_
          refine lv_iload hx hb dX12_draws_218 (lv_at hl 0 rfl) ?_
          refine lv_iadd hx hb dX12_draws_220 ?_
          refine lv_topi (fun z3845 ez3845 => ?_)
          refine va_put (D := D) (ci := 12) (v := .int z3845) (ty := .int) (C := RX12) (T := TX12) (N := 45) hx hb hts hi12 tyX12 tyX12_ok nmX12 hown hK hP hD hS 1 rfl rfl 40 (by decide) (hts (.fieldLink RX12 444 "OverHillModel" "nightHoles" "I") (by decide +kernel)) (fun _ h9 => h9) rfl (by decide +kernel) rfl rfl (Nat.le_of_ble_eq_true rfl) dX12_draws_221 (fun H locs hP hD hS => ?_)
          obtain ⟨hP, hD⟩ : ct_B D A H [(qm_round, .inl (cI, 120, .inl (fm_round))), mo qm vm_thrown qm_width qm_many qm_cells qm_moved qm_tape vm_taped vm_at vm_token vm_place vm_value vm_word vm_bad vm_badPlace vm_fault vm_faultPlace qm_lines qm_has qm_round qm_meets qm_stumble qm_isMud qm_cell qm_tune qm_change qm_isKept qm_steps qm_places qm_danced vm_runMost vm_runBegins qm_heardBy vm_fitMany vm_fitFirst vm_fitBeats vm_listenLeaves qm_there vm_metAt vm_metIn qm_wins z3845 x3810 z3825 x3812 y3824, (qm_has, .inl (cI, 55, .inl (fm_has))), (qm_meets, .inl (cI, 30, .inl (fm_meets))), (qm_danced, .inl (cI, 400, .inl (g3821)))] := ⟨hP, hD⟩
          refine lv_iload hx hb dX12_draws_224 (lv_at hl 0 rfl) ?_
          refine lv_if_le (tgt := 243) hx hb dX12_draws_226 (by decide) (fun _ => ?_) (fun hc => absurd hc (by decide))
          obtain ⟨z3846, ez3846⟩ : ∃ z : Int32, z = x3816 + 1 := ⟨_, rfl⟩
          have fz3846 : z3846.toInt = x3816.toInt + 1 := by rw [ez3846]; exact tq_add rfl (by decide) (by omega)
          refine lv_iinc (v := z3846) (lv' := [(6, .int z3846), (7, .int 0), (5, .int x3815), (4, .int x3814), (0, .ref qm), (1, .long a1), (3, .int a2)]) hx hb dX12_draws_243 hl (k := 1) rfl ez3846.symm (by decide) rfl (fun ls hl => ?_)
          refine lv_goto (tgt := 45) hx hb dX12_draws_246 (by decide) ?_
          obtain ⟨hP9, hD9⟩ : ct_B D A H [mo qm vm_thrown qm_width qm_many qm_cells qm_moved qm_tape vm_taped vm_at vm_token vm_place vm_value vm_word vm_bad vm_badPlace vm_fault vm_faultPlace qm_lines qm_has qm_round qm_meets qm_stumble qm_isMud qm_cell qm_tune qm_change qm_isKept qm_steps qm_places qm_danced vm_runMost vm_runBegins qm_heardBy vm_fitMany vm_fitFirst vm_fitBeats vm_listenLeaves qm_there vm_metAt vm_metIn qm_wins z3845 x3810 z3825 x3812 y3824, (qm_has, .inl (cI, 55, .inl (fm_has))), (qm_round, .inl (cI, 120, .inl (fm_round))), (qm_meets, .inl (cI, 30, .inl (fm_meets))), (qm_danced, .inl (cI, 400, .inl (g3821)))] := ⟨hP.sub [1, 2, 0, 3, 4] rfl, hD.sub [1, 2, 0, 3, 4] (by decide) rfl⟩
          exact ih3817 (g3821, z3845, x3810, z3825, x3812, y3824, x3814, x3815, z3846) _ _ _ (show (100 - z3846.toInt).toNat < (100 - x3816.toInt).toNat by omega) ⟨h_g3821, h_x3810, h_x3814, h_x3815, (show 0 ≤ z3846.toInt ∧ z3846.toInt ≤ 100 by omega), ⟨hP9, hD9⟩, hS, lv_sub hl [0, 2, 3, 4, 5, 6] rfl⟩
    · subst hz
      refine lv_if_eq (tgt := 97) hx hb dX12_draws_81 (by decide) (fun _ => ?_) (fun hc => absurd hc (by decide))
      refine lv_aload_n hx hb dX12_draws_97 rfl (lv_at hl 3 rfl) ?_
      refine lv_iconst (v := 0) hx hb dX12_draws_98 (by decide) ?_
      refine ct_calli (D := D) (wr := [(qm_round, .inl (cI, 120, .inl (fm_round))), (qm_meets, .inl (cI, 30, .inl (fm_meets))), (qm_danced, .inl (cI, 400, .inl (g3821)))]) (va_runV (As := [.int 0]) (rest := []) ⟨hx, hb, hml, hown, hts⟩ (c_X12_lengthOf l D G cI cJ cB cZ cO qm vm_thrown qm_width qm_many qm_cells qm_moved qm_tape vm_taped vm_at vm_token vm_place vm_value vm_word vm_bad vm_badPlace vm_fault vm_faultPlace qm_lines qm_has fm_has qm_round qm_meets qm_stumble qm_isMud qm_cell qm_tune qm_change qm_isKept qm_steps qm_places qm_danced vm_runMost vm_runBegins qm_heardBy vm_fitMany vm_fitFirst vm_fitBeats vm_listenLeaves qm_there vm_metAt vm_metIn qm_wins x3809 x3810 x3811 x3812 y3824 0 h_vm_taped h_vm_at h_vm_value h_fm_has (by decide) H.size) (cwV 1 hts gX12_draws_X12_lengthOf rfl rfl rfl (by decide +kernel) ⟨Nat.le_of_ble_eq_true rfl, Nat.le_of_ble_eq_true rfl⟩) (ct_preV (T := ct_T cI cJ cB cZ cO) (ci := 12) (q0 := 4) hE hH hP hD hS hA [4, 0] (by decide) rfl rfl rfl) rfl rfl hl.1 rfl (lv_room (Nat.le_of_ble_eq_true rfl)) dX12_draws_99 ⟨Nat.le_of_ble_eq_true rfl, Nat.le_of_ble_eq_true rfl⟩) hP hD hS hA [4, 0] [1, 2, 3] rfl rfl (by decide) (by decide) (fun r3847 u H locs hw hP hD hS => ?_)
      obtain ⟨hP, hD⟩ : ct_B D A H [(qm_round, .inl (cI, 120, .inl (fm_round))), (qm_meets, .inl (cI, 30, .inl (fm_meets))), (qm_danced, .inl (cI, 400, .inl (g3821))), mo qm vm_thrown qm_width qm_many qm_cells qm_moved qm_tape vm_taped vm_at vm_token vm_place vm_value vm_word vm_bad vm_badPlace vm_fault vm_faultPlace qm_lines qm_has qm_round qm_meets qm_stumble qm_isMud qm_cell qm_tune qm_change qm_isKept qm_steps qm_places qm_danced vm_runMost vm_runBegins qm_heardBy vm_fitMany vm_fitFirst vm_fitBeats vm_listenLeaves qm_there vm_metAt vm_metIn qm_wins x3809 x3810 x3811 x3812 y3824, (qm_has, .inl (cI, 55, .inl (fm_has)))] := ⟨hP, hD⟩
      have hk3848 : (0 : Int32).toInt = 0 := by decide
      obtain ⟨hz, hp0⟩ := hw
      have hp_3849 : r3847 = fm_has (3 + (0 : Int32).toInt).toNat := hp0
      have hl3850 : r3847.toInt = (fm_has 3).toInt := by rw [hp_3849]; rfl
      have h_r3847 : 0 ≤ r3847.toInt ∧ r3847.toInt ≤ 12 := hz
      refine lv_if_le (tgt := 135) hx hb dX12_draws_102 (by decide) (fun hc => ?_) (fun hc => ?_)
      · have hq3851 : r3847.toInt ≤ 0 := tq_le rfl (by decide) hc
        refine lv_aload_n hx hb dX12_draws_135 rfl (lv_at hl 3 rfl) ?_
        refine lv_iconst (v := 1) hx hb dX12_draws_136 (by decide) ?_
        refine ct_calli (D := D) (wr := [(qm_round, .inl (cI, 120, .inl (fm_round))), (qm_meets, .inl (cI, 30, .inl (fm_meets))), (qm_danced, .inl (cI, 400, .inl (g3821)))]) (va_runV (As := [.int 1]) (rest := []) ⟨hx, hb, hml, hown, hts⟩ (c_X12_lengthOf l D G cI cJ cB cZ cO qm vm_thrown qm_width qm_many qm_cells qm_moved qm_tape vm_taped vm_at vm_token vm_place vm_value vm_word vm_bad vm_badPlace vm_fault vm_faultPlace qm_lines qm_has fm_has qm_round qm_meets qm_stumble qm_isMud qm_cell qm_tune qm_change qm_isKept qm_steps qm_places qm_danced vm_runMost vm_runBegins qm_heardBy vm_fitMany vm_fitFirst vm_fitBeats vm_listenLeaves qm_there vm_metAt vm_metIn qm_wins x3809 x3810 x3811 x3812 y3824 1 h_vm_taped h_vm_at h_vm_value h_fm_has (by decide) H.size) (cwV 1 hts gX12_draws_X12_lengthOf rfl rfl rfl (by decide +kernel) ⟨Nat.le_of_ble_eq_true rfl, Nat.le_of_ble_eq_true rfl⟩) (ct_preV (T := ct_T cI cJ cB cZ cO) (ci := 12) (q0 := 3) hE hH hP hD hS hA [3, 4] (by decide) rfl rfl rfl) rfl rfl hl.1 rfl (lv_room (Nat.le_of_ble_eq_true rfl)) dX12_draws_137 ⟨Nat.le_of_ble_eq_true rfl, Nat.le_of_ble_eq_true rfl⟩) hP hD hS hA [3, 4] [0, 1, 2] rfl rfl (by decide) (by decide) (fun r3852 u H locs hw hP hD hS => ?_)
        obtain ⟨hP, hD⟩ : ct_B D A H [(qm_round, .inl (cI, 120, .inl (fm_round))), (qm_meets, .inl (cI, 30, .inl (fm_meets))), (qm_danced, .inl (cI, 400, .inl (g3821))), mo qm vm_thrown qm_width qm_many qm_cells qm_moved qm_tape vm_taped vm_at vm_token vm_place vm_value vm_word vm_bad vm_badPlace vm_fault vm_faultPlace qm_lines qm_has qm_round qm_meets qm_stumble qm_isMud qm_cell qm_tune qm_change qm_isKept qm_steps qm_places qm_danced vm_runMost vm_runBegins qm_heardBy vm_fitMany vm_fitFirst vm_fitBeats vm_listenLeaves qm_there vm_metAt vm_metIn qm_wins x3809 x3810 x3811 x3812 y3824, (qm_has, .inl (cI, 55, .inl (fm_has)))] := ⟨hP, hD⟩
        have hk3853 : (1 : Int32).toInt = 1 := by decide
        obtain ⟨hz, hp0⟩ := hw
        have hp_3854 : r3852 = fm_has (3 + (1 : Int32).toInt).toNat := hp0
        have hl3855 : r3852.toInt = (fm_has 4).toInt := by rw [hp_3854]; rfl
        have h_r3852 : 0 ≤ r3852.toInt ∧ r3852.toInt ≤ 12 := hz
        refine lv_if_le (tgt := 180) hx hb dX12_draws_140 (by decide) (fun hc => ?_) (fun hc => ?_)
        · have hq3856 : r3852.toInt ≤ 0 := tq_le rfl (by decide) hc
          refine lv_aload_n hx hb dX12_draws_180 rfl (lv_at hl 3 rfl) ?_
          refine lv_iconst (v := 0) hx hb dX12_draws_181 (by decide) ?_
          refine lv_iload hx hb dX12_draws_182 (lv_at hl 0 rfl) ?_
          refine ct_calli (D := D) (wr := [(qm_round, .inl (cI, 120, .inl (fm_round)))]) (va_runV (As := [.int 0, .int x3816]) (rest := []) ⟨hx, hb, hml, hown, hts⟩ (c_X12_isHole l D G cI cJ cB cZ cO qm vm_thrown qm_width qm_many qm_cells qm_moved qm_tape vm_taped vm_at vm_token vm_place vm_value vm_word vm_bad vm_badPlace vm_fault vm_faultPlace qm_lines qm_has fm_has qm_round qm_meets fm_meets qm_stumble qm_isMud qm_cell qm_tune qm_change qm_isKept qm_steps qm_places qm_danced g3821 vm_runMost vm_runBegins qm_heardBy vm_fitMany vm_fitFirst vm_fitBeats vm_listenLeaves qm_there vm_metAt vm_metIn qm_wins x3809 x3810 x3811 x3812 y3824 0 x3816 h_vm_taped h_vm_at h_vm_value h_fm_has h_g3821 (by decide) (by omega) H.size) (cwV 2 hts gX12_draws_X12_isHole rfl rfl rfl (by decide +kernel) ⟨Nat.le_of_ble_eq_true rfl, Nat.le_of_ble_eq_true rfl⟩) (ct_preV (T := ct_T cI cJ cB cZ cO) (ci := 12) (q0 := 3) hE hH hP hD hS hA [3, 4, 1, 2] (by decide) rfl rfl rfl) rfl rfl hl.1 rfl (lv_room (Nat.le_of_ble_eq_true rfl)) dX12_draws_184 ⟨Nat.le_of_ble_eq_true rfl, Nat.le_of_ble_eq_true rfl⟩) hP hD hS hA [3, 4, 1, 2] [0] rfl rfl (by decide) (by decide) (fun r3857 u H locs hw hP hD hS => ?_)
          obtain ⟨hP, hD⟩ : ct_B D A H [(qm_round, .inl (cI, 120, .inl (fm_round))), mo qm vm_thrown qm_width qm_many qm_cells qm_moved qm_tape vm_taped vm_at vm_token vm_place vm_value vm_word vm_bad vm_badPlace vm_fault vm_faultPlace qm_lines qm_has qm_round qm_meets qm_stumble qm_isMud qm_cell qm_tune qm_change qm_isKept qm_steps qm_places qm_danced vm_runMost vm_runBegins qm_heardBy vm_fitMany vm_fitFirst vm_fitBeats vm_listenLeaves qm_there vm_metAt vm_metIn qm_wins x3809 x3810 x3811 x3812 y3824, (qm_has, .inl (cI, 55, .inl (fm_has))), (qm_meets, .inl (cI, 30, .inl (fm_meets))), (qm_danced, .inl (cI, 400, .inl (g3821)))] := ⟨hP, hD⟩
          have hz := hw
          rcases hz with ⟨hz, hz2⟩ | ⟨hz, hz2⟩
          · subst hz
            refine lv_if_eq (tgt := 194) hx hb dX12_draws_187 (by decide) (fun hc => absurd hc (by decide)) (fun _ => ?_)
            refine lv_iconst (v := 1) hx hb dX12_draws_190 (by decide) ?_
            refine lv_goto (tgt := 195) hx hb dX12_draws_191 (by decide) ?_
            refine lv_aload_n hx hb dX12_draws_195 rfl (lv_at hl 3 rfl) ?_
            refine lv_iconst (v := 1) hx hb dX12_draws_196 (by decide) ?_
            refine lv_iload hx hb dX12_draws_197 (lv_at hl 0 rfl) ?_
            refine ct_calli (D := D) (wr := [(qm_round, .inl (cI, 120, .inl (fm_round)))]) (va_runV (As := [.int 1, .int x3816]) (rest := [.int 1]) ⟨hx, hb, hml, hown, hts⟩ (c_X12_isHole l D G cI cJ cB cZ cO qm vm_thrown qm_width qm_many qm_cells qm_moved qm_tape vm_taped vm_at vm_token vm_place vm_value vm_word vm_bad vm_badPlace vm_fault vm_faultPlace qm_lines qm_has fm_has qm_round qm_meets fm_meets qm_stumble qm_isMud qm_cell qm_tune qm_change qm_isKept qm_steps qm_places qm_danced g3821 vm_runMost vm_runBegins qm_heardBy vm_fitMany vm_fitFirst vm_fitBeats vm_listenLeaves qm_there vm_metAt vm_metIn qm_wins x3809 x3810 x3811 x3812 y3824 1 x3816 h_vm_taped h_vm_at h_vm_value h_fm_has h_g3821 (by decide) (by omega) H.size) (cwV 2 hts gX12_draws_X12_isHole rfl rfl rfl (by decide +kernel) ⟨Nat.le_of_ble_eq_true rfl, Nat.le_of_ble_eq_true rfl⟩) (ct_preV (T := ct_T cI cJ cB cZ cO) (ci := 12) (q0 := 1) hE hH hP hD hS hA [1, 2, 3, 4] (by decide) rfl rfl rfl) rfl rfl hl.1 rfl (lv_room (Nat.le_of_ble_eq_true rfl)) dX12_draws_199 ⟨Nat.le_of_ble_eq_true rfl, Nat.le_of_ble_eq_true rfl⟩) hP hD hS hA [1, 2, 3, 4] [0] rfl rfl (by decide) (by decide) (fun r3858 u H locs hw hP hD hS => ?_)
            obtain ⟨hP, hD⟩ : ct_B D A H [(qm_round, .inl (cI, 120, .inl (fm_round))), mo qm vm_thrown qm_width qm_many qm_cells qm_moved qm_tape vm_taped vm_at vm_token vm_place vm_value vm_word vm_bad vm_badPlace vm_fault vm_faultPlace qm_lines qm_has qm_round qm_meets qm_stumble qm_isMud qm_cell qm_tune qm_change qm_isKept qm_steps qm_places qm_danced vm_runMost vm_runBegins qm_heardBy vm_fitMany vm_fitFirst vm_fitBeats vm_listenLeaves qm_there vm_metAt vm_metIn qm_wins x3809 x3810 x3811 x3812 y3824, (qm_has, .inl (cI, 55, .inl (fm_has))), (qm_meets, .inl (cI, 30, .inl (fm_meets))), (qm_danced, .inl (cI, 400, .inl (g3821)))] := ⟨hP, hD⟩
            have hz := hw
            rcases hz with ⟨hz, hz2⟩ | ⟨hz, hz2⟩
            · subst hz
              refine lv_if_eq (tgt := 209) hx hb dX12_draws_202 (by decide) (fun hc => absurd hc (by decide)) (fun _ => ?_)
              refine lv_iconst (v := 1) hx hb dX12_draws_205 (by decide) ?_
              refine lv_goto (tgt := 210) hx hb dX12_draws_206 (by decide) ?_
              refine lv_iadd hx hb dX12_draws_210 ?_
              refine lv_topi (fun z3859 ez3859 => ?_)
              obtain rfl : z3859 = 2 := ez3859.trans (by decide)
              refine lv_istore (lv' := [(7, .int 2), (6, .int x3816), (5, .int x3815), (4, .int x3814), (0, .ref qm), (1, .long a1), (3, .int a2)]) hx hb dX12_draws_211 hl (by decide) rfl (fun ls hl => ?_)
              refine lv_aload_n hx hb dX12_draws_213 rfl (lv_at hl 4 rfl) ?_
              refine lv_dup hx hb dX12_draws_214 rfl ?_
              refine va_get (D := D) (ci := 12) (v := .int x3809) (C := RX12) (T := TX12) (N := 45) hx hb hts hi12 hown hK hP 1 rfl rfl 40 (by decide) (hts (.fieldLink RX12 444 "OverHillModel" "nightHoles" "I") (by decide +kernel)) (fun _ h9 => h9) rfl dX12_draws_215 ?_
              refine lv_iload hx hb dX12_draws_218 (lv_at hl 0 rfl) ?_
              refine lv_iadd hx hb dX12_draws_220 ?_
              refine lv_topi (fun z3860 ez3860 => ?_)
              refine va_put (D := D) (ci := 12) (v := .int z3860) (ty := .int) (C := RX12) (T := TX12) (N := 45) hx hb hts hi12 tyX12 tyX12_ok nmX12 hown hK hP hD hS 1 rfl rfl 40 (by decide) (hts (.fieldLink RX12 444 "OverHillModel" "nightHoles" "I") (by decide +kernel)) (fun _ h9 => h9) rfl (by decide +kernel) rfl rfl (Nat.le_of_ble_eq_true rfl) dX12_draws_221 (fun H locs hP hD hS => ?_)
              obtain ⟨hP, hD⟩ : ct_B D A H [(qm_round, .inl (cI, 120, .inl (fm_round))), mo qm vm_thrown qm_width qm_many qm_cells qm_moved qm_tape vm_taped vm_at vm_token vm_place vm_value vm_word vm_bad vm_badPlace vm_fault vm_faultPlace qm_lines qm_has qm_round qm_meets qm_stumble qm_isMud qm_cell qm_tune qm_change qm_isKept qm_steps qm_places qm_danced vm_runMost vm_runBegins qm_heardBy vm_fitMany vm_fitFirst vm_fitBeats vm_listenLeaves qm_there vm_metAt vm_metIn qm_wins z3860 x3810 x3811 x3812 y3824, (qm_has, .inl (cI, 55, .inl (fm_has))), (qm_meets, .inl (cI, 30, .inl (fm_meets))), (qm_danced, .inl (cI, 400, .inl (g3821)))] := ⟨hP, hD⟩
              refine lv_iload hx hb dX12_draws_224 (lv_at hl 0 rfl) ?_
              refine lv_if_le (tgt := 243) hx hb dX12_draws_226 (by decide) (fun hc => absurd hc (by decide)) (fun _ => ?_)
              refine lv_aload_n hx hb dX12_draws_229 rfl (lv_at hl 4 rfl) ?_
              refine va_get (D := D) (ci := 12) (v := .int x3810) (C := RX12) (T := TX12) (N := 45) hx hb hts hi12 hown hK hP 1 rfl rfl 41 (by decide) (hts (.fieldLink RX12 447 "OverHillModel" "nightFirst" "I") (by decide +kernel)) (fun _ h9 => h9) rfl dX12_draws_230 ?_
              refine lv_iconst (v := (-1)) hx hb dX12_draws_233 (by decide) ?_
              refine lv_icmp_ne (tgt := 243) hx hb dX12_draws_234 (by decide) (fun hc => ?_) (fun hc => ?_)
              · have hq3861 : x3810.toInt ≠ (-1) := tq_ne rfl (by decide) hc
                obtain ⟨z3862, ez3862⟩ : ∃ z : Int32, z = x3816 + 1 := ⟨_, rfl⟩
                have fz3862 : z3862.toInt = x3816.toInt + 1 := by rw [ez3862]; exact tq_add rfl (by decide) (by omega)
                refine lv_iinc (v := z3862) (lv' := [(6, .int z3862), (7, .int 2), (5, .int x3815), (4, .int x3814), (0, .ref qm), (1, .long a1), (3, .int a2)]) hx hb dX12_draws_243 hl (k := 1) rfl ez3862.symm (by decide) rfl (fun ls hl => ?_)
                refine lv_goto (tgt := 45) hx hb dX12_draws_246 (by decide) ?_
                obtain ⟨hP9, hD9⟩ : ct_B D A H [mo qm vm_thrown qm_width qm_many qm_cells qm_moved qm_tape vm_taped vm_at vm_token vm_place vm_value vm_word vm_bad vm_badPlace vm_fault vm_faultPlace qm_lines qm_has qm_round qm_meets qm_stumble qm_isMud qm_cell qm_tune qm_change qm_isKept qm_steps qm_places qm_danced vm_runMost vm_runBegins qm_heardBy vm_fitMany vm_fitFirst vm_fitBeats vm_listenLeaves qm_there vm_metAt vm_metIn qm_wins z3860 x3810 x3811 x3812 y3824, (qm_has, .inl (cI, 55, .inl (fm_has))), (qm_round, .inl (cI, 120, .inl (fm_round))), (qm_meets, .inl (cI, 30, .inl (fm_meets))), (qm_danced, .inl (cI, 400, .inl (g3821)))] := ⟨hP.sub [1, 2, 0, 3, 4] rfl, hD.sub [1, 2, 0, 3, 4] (by decide) rfl⟩
                exact ih3817 (g3821, z3860, x3810, x3811, x3812, y3824, x3814, x3815, z3862) _ _ _ (show (100 - z3862.toInt).toNat < (100 - x3816.toInt).toNat by omega) ⟨h_g3821, h_x3810, h_x3814, h_x3815, (show 0 ≤ z3862.toInt ∧ z3862.toInt ≤ 100 by omega), ⟨hP9, hD9⟩, hS, lv_sub hl [0, 2, 3, 4, 5, 6] rfl⟩
              · have hq3861 : x3810.toInt = (-1) := tq_eq rfl (by decide) hc
                refine lv_aload_n hx hb dX12_draws_237 rfl (lv_at hl 4 rfl) ?_
                refine lv_iload hx hb dX12_draws_238 (lv_at hl 1 rfl) ?_
                refine va_put (D := D) (ci := 12) (v := .int x3816) (ty := .int) (C := RX12) (T := TX12) (N := 45) hx hb hts hi12 tyX12 tyX12_ok nmX12 hown hK hP hD hS 1 rfl rfl 41 (by decide) (hts (.fieldLink RX12 447 "OverHillModel" "nightFirst" "I") (by decide +kernel)) (fun _ h9 => h9) rfl (by decide +kernel) rfl rfl (Nat.le_of_ble_eq_true rfl) dX12_draws_240 (fun H locs hP hD hS => ?_)
                obtain ⟨hP, hD⟩ : ct_B D A H [(qm_round, .inl (cI, 120, .inl (fm_round))), mo qm vm_thrown qm_width qm_many qm_cells qm_moved qm_tape vm_taped vm_at vm_token vm_place vm_value vm_word vm_bad vm_badPlace vm_fault vm_faultPlace qm_lines qm_has qm_round qm_meets qm_stumble qm_isMud qm_cell qm_tune qm_change qm_isKept qm_steps qm_places qm_danced vm_runMost vm_runBegins qm_heardBy vm_fitMany vm_fitFirst vm_fitBeats vm_listenLeaves qm_there vm_metAt vm_metIn qm_wins z3860 x3816 x3811 x3812 y3824, (qm_has, .inl (cI, 55, .inl (fm_has))), (qm_meets, .inl (cI, 30, .inl (fm_meets))), (qm_danced, .inl (cI, 400, .inl (g3821)))] := ⟨hP, hD⟩
                obtain ⟨z3863, ez3863⟩ : ∃ z : Int32, z = x3816 + 1 := ⟨_, rfl⟩
                have fz3863 : z3863.toInt = x3816.toInt + 1 := by rw [ez3863]; exact tq_add rfl (by decide) (by omega)
                refine lv_iinc (v := z3863) (lv' := [(6, .int z3863), (7, .int 2), (5, .int x3815), (4, .int x3814), (0, .ref qm), (1, .long a1), (3, .int a2)]) hx hb dX12_draws_243 hl (k := 1) rfl ez3863.symm (by decide) rfl (fun ls hl => ?_)
                refine lv_goto (tgt := 45) hx hb dX12_draws_246 (by decide) ?_
                obtain ⟨hP9, hD9⟩ : ct_B D A H [mo qm vm_thrown qm_width qm_many qm_cells qm_moved qm_tape vm_taped vm_at vm_token vm_place vm_value vm_word vm_bad vm_badPlace vm_fault vm_faultPlace qm_lines qm_has qm_round qm_meets qm_stumble qm_isMud qm_cell qm_tune qm_change qm_isKept qm_steps qm_places qm_danced vm_runMost vm_runBegins qm_heardBy vm_fitMany vm_fitFirst vm_fitBeats vm_listenLeaves qm_there vm_metAt vm_metIn qm_wins z3860 x3816 x3811 x3812 y3824, (qm_has, .inl (cI, 55, .inl (fm_has))), (qm_round, .inl (cI, 120, .inl (fm_round))), (qm_meets, .inl (cI, 30, .inl (fm_meets))), (qm_danced, .inl (cI, 400, .inl (g3821)))] := ⟨hP.sub [1, 2, 0, 3, 4] rfl, hD.sub [1, 2, 0, 3, 4] (by decide) rfl⟩
                exact ih3817 (g3821, z3860, x3816, x3811, x3812, y3824, x3814, x3815, z3863) _ _ _ (show (100 - z3863.toInt).toNat < (100 - x3816.toInt).toNat by omega) ⟨h_g3821, (show (-1) ≤ x3816.toInt ∧ x3816.toInt ≤ 99 by omega), h_x3814, h_x3815, (show 0 ≤ z3863.toInt ∧ z3863.toInt ≤ 100 by omega), ⟨hP9, hD9⟩, hS, lv_sub hl [0, 2, 3, 4, 5, 6] rfl⟩
            · subst hz
              refine lv_if_eq (tgt := 209) hx hb dX12_draws_202 (by decide) (fun _ => ?_) (fun hc => absurd hc (by decide))
              refine lv_iconst (v := 0) hx hb dX12_draws_209 (by decide) ?_
              refine lv_iadd hx hb dX12_draws_210 ?_
              refine lv_topi (fun z3864 ez3864 => ?_)
              obtain rfl : z3864 = 1 := ez3864.trans (by decide)
              refine lv_istore (lv' := [(7, .int 1), (6, .int x3816), (5, .int x3815), (4, .int x3814), (0, .ref qm), (1, .long a1), (3, .int a2)]) hx hb dX12_draws_211 hl (by decide) rfl (fun ls hl => ?_)
              refine lv_aload_n hx hb dX12_draws_213 rfl (lv_at hl 4 rfl) ?_
              refine lv_dup hx hb dX12_draws_214 rfl ?_
              refine va_get (D := D) (ci := 12) (v := .int x3809) (C := RX12) (T := TX12) (N := 45) hx hb hts hi12 hown hK hP 1 rfl rfl 40 (by decide) (hts (.fieldLink RX12 444 "OverHillModel" "nightHoles" "I") (by decide +kernel)) (fun _ h9 => h9) rfl dX12_draws_215 ?_
              refine lv_iload hx hb dX12_draws_218 (lv_at hl 0 rfl) ?_
              refine lv_iadd hx hb dX12_draws_220 ?_
              refine lv_topi (fun z3865 ez3865 => ?_)
              refine va_put (D := D) (ci := 12) (v := .int z3865) (ty := .int) (C := RX12) (T := TX12) (N := 45) hx hb hts hi12 tyX12 tyX12_ok nmX12 hown hK hP hD hS 1 rfl rfl 40 (by decide) (hts (.fieldLink RX12 444 "OverHillModel" "nightHoles" "I") (by decide +kernel)) (fun _ h9 => h9) rfl (by decide +kernel) rfl rfl (Nat.le_of_ble_eq_true rfl) dX12_draws_221 (fun H locs hP hD hS => ?_)
              obtain ⟨hP, hD⟩ : ct_B D A H [(qm_round, .inl (cI, 120, .inl (fm_round))), mo qm vm_thrown qm_width qm_many qm_cells qm_moved qm_tape vm_taped vm_at vm_token vm_place vm_value vm_word vm_bad vm_badPlace vm_fault vm_faultPlace qm_lines qm_has qm_round qm_meets qm_stumble qm_isMud qm_cell qm_tune qm_change qm_isKept qm_steps qm_places qm_danced vm_runMost vm_runBegins qm_heardBy vm_fitMany vm_fitFirst vm_fitBeats vm_listenLeaves qm_there vm_metAt vm_metIn qm_wins z3865 x3810 x3811 x3812 y3824, (qm_has, .inl (cI, 55, .inl (fm_has))), (qm_meets, .inl (cI, 30, .inl (fm_meets))), (qm_danced, .inl (cI, 400, .inl (g3821)))] := ⟨hP, hD⟩
              refine lv_iload hx hb dX12_draws_224 (lv_at hl 0 rfl) ?_
              refine lv_if_le (tgt := 243) hx hb dX12_draws_226 (by decide) (fun hc => absurd hc (by decide)) (fun _ => ?_)
              refine lv_aload_n hx hb dX12_draws_229 rfl (lv_at hl 4 rfl) ?_
              refine va_get (D := D) (ci := 12) (v := .int x3810) (C := RX12) (T := TX12) (N := 45) hx hb hts hi12 hown hK hP 1 rfl rfl 41 (by decide) (hts (.fieldLink RX12 447 "OverHillModel" "nightFirst" "I") (by decide +kernel)) (fun _ h9 => h9) rfl dX12_draws_230 ?_
              refine lv_iconst (v := (-1)) hx hb dX12_draws_233 (by decide) ?_
              refine lv_icmp_ne (tgt := 243) hx hb dX12_draws_234 (by decide) (fun hc => ?_) (fun hc => ?_)
              · have hq3866 : x3810.toInt ≠ (-1) := tq_ne rfl (by decide) hc
                obtain ⟨z3867, ez3867⟩ : ∃ z : Int32, z = x3816 + 1 := ⟨_, rfl⟩
                have fz3867 : z3867.toInt = x3816.toInt + 1 := by rw [ez3867]; exact tq_add rfl (by decide) (by omega)
                refine lv_iinc (v := z3867) (lv' := [(6, .int z3867), (7, .int 1), (5, .int x3815), (4, .int x3814), (0, .ref qm), (1, .long a1), (3, .int a2)]) hx hb dX12_draws_243 hl (k := 1) rfl ez3867.symm (by decide) rfl (fun ls hl => ?_)
                refine lv_goto (tgt := 45) hx hb dX12_draws_246 (by decide) ?_
                obtain ⟨hP9, hD9⟩ : ct_B D A H [mo qm vm_thrown qm_width qm_many qm_cells qm_moved qm_tape vm_taped vm_at vm_token vm_place vm_value vm_word vm_bad vm_badPlace vm_fault vm_faultPlace qm_lines qm_has qm_round qm_meets qm_stumble qm_isMud qm_cell qm_tune qm_change qm_isKept qm_steps qm_places qm_danced vm_runMost vm_runBegins qm_heardBy vm_fitMany vm_fitFirst vm_fitBeats vm_listenLeaves qm_there vm_metAt vm_metIn qm_wins z3865 x3810 x3811 x3812 y3824, (qm_has, .inl (cI, 55, .inl (fm_has))), (qm_round, .inl (cI, 120, .inl (fm_round))), (qm_meets, .inl (cI, 30, .inl (fm_meets))), (qm_danced, .inl (cI, 400, .inl (g3821)))] := ⟨hP.sub [1, 2, 0, 3, 4] rfl, hD.sub [1, 2, 0, 3, 4] (by decide) rfl⟩
                exact ih3817 (g3821, z3865, x3810, x3811, x3812, y3824, x3814, x3815, z3867) _ _ _ (show (100 - z3867.toInt).toNat < (100 - x3816.toInt).toNat by omega) ⟨h_g3821, h_x3810, h_x3814, h_x3815, (show 0 ≤ z3867.toInt ∧ z3867.toInt ≤ 100 by omega), ⟨hP9, hD9⟩, hS, lv_sub hl [0, 2, 3, 4, 5, 6] rfl⟩
              · have hq3866 : x3810.toInt = (-1) := tq_eq rfl (by decide) hc
                refine lv_aload_n hx hb dX12_draws_237 rfl (lv_at hl 4 rfl) ?_
                refine lv_iload hx hb dX12_draws_238 (lv_at hl 1 rfl) ?_
                refine va_put (D := D) (ci := 12) (v := .int x3816) (ty := .int) (C := RX12) (T := TX12) (N := 45) hx hb hts hi12 tyX12 tyX12_ok nmX12 hown hK hP hD hS 1 rfl rfl 41 (by decide) (hts (.fieldLink RX12 447 "OverHillModel" "nightFirst" "I") (by decide +kernel)) (fun _ h9 => h9) rfl (by decide +kernel) rfl rfl (Nat.le_of_ble_eq_true rfl) dX12_draws_240 (fun H locs hP hD hS => ?_)
                obtain ⟨hP, hD⟩ : ct_B D A H [(qm_round, .inl (cI, 120, .inl (fm_round))), mo qm vm_thrown qm_width qm_many qm_cells qm_moved qm_tape vm_taped vm_at vm_token vm_place vm_value vm_word vm_bad vm_badPlace vm_fault vm_faultPlace qm_lines qm_has qm_round qm_meets qm_stumble qm_isMud qm_cell qm_tune qm_change qm_isKept qm_steps qm_places qm_danced vm_runMost vm_runBegins qm_heardBy vm_fitMany vm_fitFirst vm_fitBeats vm_listenLeaves qm_there vm_metAt vm_metIn qm_wins z3865 x3816 x3811 x3812 y3824, (qm_has, .inl (cI, 55, .inl (fm_has))), (qm_meets, .inl (cI, 30, .inl (fm_meets))), (qm_danced, .inl (cI, 400, .inl (g3821)))] := ⟨hP, hD⟩
                obtain ⟨z3868, ez3868⟩ : ∃ z : Int32, z = x3816 + 1 := ⟨_, rfl⟩
                have fz3868 : z3868.toInt = x3816.toInt + 1 := by rw [ez3868]; exact tq_add rfl (by decide) (by omega)
                refine lv_iinc (v := z3868) (lv' := [(6, .int z3868), (7, .int 1), (5, .int x3815), (4, .int x3814), (0, .ref qm), (1, .long a1), (3, .int a2)]) hx hb dX12_draws_243 hl (k := 1) rfl ez3868.symm (by decide) rfl (fun ls hl => ?_)
                refine lv_goto (tgt := 45) hx hb dX12_draws_246 (by decide) ?_
                obtain ⟨hP9, hD9⟩ : ct_B D A H [mo qm vm_thrown qm_width qm_many qm_cells qm_moved qm_tape vm_taped vm_at vm_token vm_place vm_value vm_word vm_bad vm_badPlace vm_fault vm_faultPlace qm_lines qm_has qm_round qm_meets qm_stumble qm_isMud qm_cell qm_tune qm_change qm_isKept qm_steps qm_places qm_danced vm_runMost vm_runBegins qm_heardBy vm_fitMany vm_fitFirst vm_fitBeats vm_listenLeaves qm_there vm_metAt vm_metIn qm_wins z3865 x3816 x3811 x3812 y3824, (qm_has, .inl (cI, 55, .inl (fm_has))), (qm_round, .inl (cI, 120, .inl (fm_round))), (qm_meets, .inl (cI, 30, .inl (fm_meets))), (qm_danced, .inl (cI, 400, .inl (g3821)))] := ⟨hP.sub [1, 2, 0, 3, 4] rfl, hD.sub [1, 2, 0, 3, 4] (by decide) rfl⟩
                exact ih3817 (g3821, z3865, x3816, x3811, x3812, y3824, x3814, x3815, z3868) _ _ _ (show (100 - z3868.toInt).toNat < (100 - x3816.toInt).toNat by omega) ⟨h_g3821, (show (-1) ≤ x3816.toInt ∧ x3816.toInt ≤ 99 by omega), h_x3814, h_x3815, (show 0 ≤ z3868.toInt ∧ z3868.toInt ≤ 100 by omega), ⟨hP9, hD9⟩, hS, lv_sub hl [0, 2, 3, 4, 5, 6] rfl⟩
          · subst hz
            refine lv_if_eq (tgt := 194) hx hb dX12_draws_187 (by decide) (fun _ => ?_) (fun hc => absurd hc (by decide))
            refine lv_iconst (v := 0) hx hb dX12_draws_194 (by decide) ?_
            refine lv_aload_n hx hb dX12_draws_195 rfl (lv_at hl 3 rfl) ?_
            refine lv_iconst (v := 1) hx hb dX12_draws_196 (by decide) ?_
            refine lv_iload hx hb dX12_draws_197 (lv_at hl 0 rfl) ?_
            refine ct_calli (D := D) (wr := [(qm_round, .inl (cI, 120, .inl (fm_round)))]) (va_runV (As := [.int 1, .int x3816]) (rest := [.int 0]) ⟨hx, hb, hml, hown, hts⟩ (c_X12_isHole l D G cI cJ cB cZ cO qm vm_thrown qm_width qm_many qm_cells qm_moved qm_tape vm_taped vm_at vm_token vm_place vm_value vm_word vm_bad vm_badPlace vm_fault vm_faultPlace qm_lines qm_has fm_has qm_round qm_meets fm_meets qm_stumble qm_isMud qm_cell qm_tune qm_change qm_isKept qm_steps qm_places qm_danced g3821 vm_runMost vm_runBegins qm_heardBy vm_fitMany vm_fitFirst vm_fitBeats vm_listenLeaves qm_there vm_metAt vm_metIn qm_wins x3809 x3810 x3811 x3812 y3824 1 x3816 h_vm_taped h_vm_at h_vm_value h_fm_has h_g3821 (by decide) (by omega) H.size) (cwV 2 hts gX12_draws_X12_isHole rfl rfl rfl (by decide +kernel) ⟨Nat.le_of_ble_eq_true rfl, Nat.le_of_ble_eq_true rfl⟩) (ct_preV (T := ct_T cI cJ cB cZ cO) (ci := 12) (q0 := 1) hE hH hP hD hS hA [1, 2, 3, 4] (by decide) rfl rfl rfl) rfl rfl hl.1 rfl (lv_room (Nat.le_of_ble_eq_true rfl)) dX12_draws_199 ⟨Nat.le_of_ble_eq_true rfl, Nat.le_of_ble_eq_true rfl⟩) hP hD hS hA [1, 2, 3, 4] [0] rfl rfl (by decide) (by decide) (fun r3869 u H locs hw hP hD hS => ?_)
            obtain ⟨hP, hD⟩ : ct_B D A H [(qm_round, .inl (cI, 120, .inl (fm_round))), mo qm vm_thrown qm_width qm_many qm_cells qm_moved qm_tape vm_taped vm_at vm_token vm_place vm_value vm_word vm_bad vm_badPlace vm_fault vm_faultPlace qm_lines qm_has qm_round qm_meets qm_stumble qm_isMud qm_cell qm_tune qm_change qm_isKept qm_steps qm_places qm_danced vm_runMost vm_runBegins qm_heardBy vm_fitMany vm_fitFirst vm_fitBeats vm_listenLeaves qm_there vm_metAt vm_metIn qm_wins x3809 x3810 x3811 x3812 y3824, (qm_has, .inl (cI, 55, .inl (fm_has))), (qm_meets, .inl (cI, 30, .inl (fm_meets))), (qm_danced, .inl (cI, 400, .inl (g3821)))] := ⟨hP, hD⟩
            have hz := hw
            rcases hz with ⟨hz, hz2⟩ | ⟨hz, hz2⟩
            · subst hz
              refine lv_if_eq (tgt := 209) hx hb dX12_draws_202 (by decide) (fun hc => absurd hc (by decide)) (fun _ => ?_)
              refine lv_iconst (v := 1) hx hb dX12_draws_205 (by decide) ?_
              refine lv_goto (tgt := 210) hx hb dX12_draws_206 (by decide) ?_
              refine lv_iadd hx hb dX12_draws_210 ?_
              refine lv_topi (fun z3870 ez3870 => ?_)
              obtain rfl : z3870 = 1 := ez3870.trans (by decide)
              refine lv_istore (lv' := [(7, .int 1), (6, .int x3816), (5, .int x3815), (4, .int x3814), (0, .ref qm), (1, .long a1), (3, .int a2)]) hx hb dX12_draws_211 hl (by decide) rfl (fun ls hl => ?_)
              refine lv_aload_n hx hb dX12_draws_213 rfl (lv_at hl 4 rfl) ?_
              refine lv_dup hx hb dX12_draws_214 rfl ?_
              refine va_get (D := D) (ci := 12) (v := .int x3809) (C := RX12) (T := TX12) (N := 45) hx hb hts hi12 hown hK hP 1 rfl rfl 40 (by decide) (hts (.fieldLink RX12 444 "OverHillModel" "nightHoles" "I") (by decide +kernel)) (fun _ h9 => h9) rfl dX12_draws_215 ?_
              refine lv_iload hx hb dX12_draws_218 (lv_at hl 0 rfl) ?_
              refine lv_iadd hx hb dX12_draws_220 ?_
              refine lv_topi (fun z3871 ez3871 => ?_)
              refine va_put (D := D) (ci := 12) (v := .int z3871) (ty := .int) (C := RX12) (T := TX12) (N := 45) hx hb hts hi12 tyX12 tyX12_ok nmX12 hown hK hP hD hS 1 rfl rfl 40 (by decide) (hts (.fieldLink RX12 444 "OverHillModel" "nightHoles" "I") (by decide +kernel)) (fun _ h9 => h9) rfl (by decide +kernel) rfl rfl (Nat.le_of_ble_eq_true rfl) dX12_draws_221 (fun H locs hP hD hS => ?_)
              obtain ⟨hP, hD⟩ : ct_B D A H [(qm_round, .inl (cI, 120, .inl (fm_round))), mo qm vm_thrown qm_width qm_many qm_cells qm_moved qm_tape vm_taped vm_at vm_token vm_place vm_value vm_word vm_bad vm_badPlace vm_fault vm_faultPlace qm_lines qm_has qm_round qm_meets qm_stumble qm_isMud qm_cell qm_tune qm_change qm_isKept qm_steps qm_places qm_danced vm_runMost vm_runBegins qm_heardBy vm_fitMany vm_fitFirst vm_fitBeats vm_listenLeaves qm_there vm_metAt vm_metIn qm_wins z3871 x3810 x3811 x3812 y3824, (qm_has, .inl (cI, 55, .inl (fm_has))), (qm_meets, .inl (cI, 30, .inl (fm_meets))), (qm_danced, .inl (cI, 400, .inl (g3821)))] := ⟨hP, hD⟩
              refine lv_iload hx hb dX12_draws_224 (lv_at hl 0 rfl) ?_
              refine lv_if_le (tgt := 243) hx hb dX12_draws_226 (by decide) (fun hc => absurd hc (by decide)) (fun _ => ?_)
              refine lv_aload_n hx hb dX12_draws_229 rfl (lv_at hl 4 rfl) ?_
              refine va_get (D := D) (ci := 12) (v := .int x3810) (C := RX12) (T := TX12) (N := 45) hx hb hts hi12 hown hK hP 1 rfl rfl 41 (by decide) (hts (.fieldLink RX12 447 "OverHillModel" "nightFirst" "I") (by decide +kernel)) (fun _ h9 => h9) rfl dX12_draws_230 ?_
              refine lv_iconst (v := (-1)) hx hb dX12_draws_233 (by decide) ?_
              refine lv_icmp_ne (tgt := 243) hx hb dX12_draws_234 (by decide) (fun hc => ?_) (fun hc => ?_)
              · have hq3872 : x3810.toInt ≠ (-1) := tq_ne rfl (by decide) hc
                obtain ⟨z3873, ez3873⟩ : ∃ z : Int32, z = x3816 + 1 := ⟨_, rfl⟩
                have fz3873 : z3873.toInt = x3816.toInt + 1 := by rw [ez3873]; exact tq_add rfl (by decide) (by omega)
                refine lv_iinc (v := z3873) (lv' := [(6, .int z3873), (7, .int 1), (5, .int x3815), (4, .int x3814), (0, .ref qm), (1, .long a1), (3, .int a2)]) hx hb dX12_draws_243 hl (k := 1) rfl ez3873.symm (by decide) rfl (fun ls hl => ?_)
                refine lv_goto (tgt := 45) hx hb dX12_draws_246 (by decide) ?_
                obtain ⟨hP9, hD9⟩ : ct_B D A H [mo qm vm_thrown qm_width qm_many qm_cells qm_moved qm_tape vm_taped vm_at vm_token vm_place vm_value vm_word vm_bad vm_badPlace vm_fault vm_faultPlace qm_lines qm_has qm_round qm_meets qm_stumble qm_isMud qm_cell qm_tune qm_change qm_isKept qm_steps qm_places qm_danced vm_runMost vm_runBegins qm_heardBy vm_fitMany vm_fitFirst vm_fitBeats vm_listenLeaves qm_there vm_metAt vm_metIn qm_wins z3871 x3810 x3811 x3812 y3824, (qm_has, .inl (cI, 55, .inl (fm_has))), (qm_round, .inl (cI, 120, .inl (fm_round))), (qm_meets, .inl (cI, 30, .inl (fm_meets))), (qm_danced, .inl (cI, 400, .inl (g3821)))] := ⟨hP.sub [1, 2, 0, 3, 4] rfl, hD.sub [1, 2, 0, 3, 4] (by decide) rfl⟩
                exact ih3817 (g3821, z3871, x3810, x3811, x3812, y3824, x3814, x3815, z3873) _ _ _ (show (100 - z3873.toInt).toNat < (100 - x3816.toInt).toNat by omega) ⟨h_g3821, h_x3810, h_x3814, h_x3815, (show 0 ≤ z3873.toInt ∧ z3873.toInt ≤ 100 by omega), ⟨hP9, hD9⟩, hS, lv_sub hl [0, 2, 3, 4, 5, 6] rfl⟩
              · have hq3872 : x3810.toInt = (-1) := tq_eq rfl (by decide) hc
                refine lv_aload_n hx hb dX12_draws_237 rfl (lv_at hl 4 rfl) ?_
                refine lv_iload hx hb dX12_draws_238 (lv_at hl 1 rfl) ?_
                refine va_put (D := D) (ci := 12) (v := .int x3816) (ty := .int) (C := RX12) (T := TX12) (N := 45) hx hb hts hi12 tyX12 tyX12_ok nmX12 hown hK hP hD hS 1 rfl rfl 41 (by decide) (hts (.fieldLink RX12 447 "OverHillModel" "nightFirst" "I") (by decide +kernel)) (fun _ h9 => h9) rfl (by decide +kernel) rfl rfl (Nat.le_of_ble_eq_true rfl) dX12_draws_240 (fun H locs hP hD hS => ?_)
                obtain ⟨hP, hD⟩ : ct_B D A H [(qm_round, .inl (cI, 120, .inl (fm_round))), mo qm vm_thrown qm_width qm_many qm_cells qm_moved qm_tape vm_taped vm_at vm_token vm_place vm_value vm_word vm_bad vm_badPlace vm_fault vm_faultPlace qm_lines qm_has qm_round qm_meets qm_stumble qm_isMud qm_cell qm_tune qm_change qm_isKept qm_steps qm_places qm_danced vm_runMost vm_runBegins qm_heardBy vm_fitMany vm_fitFirst vm_fitBeats vm_listenLeaves qm_there vm_metAt vm_metIn qm_wins z3871 x3816 x3811 x3812 y3824, (qm_has, .inl (cI, 55, .inl (fm_has))), (qm_meets, .inl (cI, 30, .inl (fm_meets))), (qm_danced, .inl (cI, 400, .inl (g3821)))] := ⟨hP, hD⟩
                obtain ⟨z3874, ez3874⟩ : ∃ z : Int32, z = x3816 + 1 := ⟨_, rfl⟩
                have fz3874 : z3874.toInt = x3816.toInt + 1 := by rw [ez3874]; exact tq_add rfl (by decide) (by omega)
                refine lv_iinc (v := z3874) (lv' := [(6, .int z3874), (7, .int 1), (5, .int x3815), (4, .int x3814), (0, .ref qm), (1, .long a1), (3, .int a2)]) hx hb dX12_draws_243 hl (k := 1) rfl ez3874.symm (by decide) rfl (fun ls hl => ?_)
                refine lv_goto (tgt := 45) hx hb dX12_draws_246 (by decide) ?_
                obtain ⟨hP9, hD9⟩ : ct_B D A H [mo qm vm_thrown qm_width qm_many qm_cells qm_moved qm_tape vm_taped vm_at vm_token vm_place vm_value vm_word vm_bad vm_badPlace vm_fault vm_faultPlace qm_lines qm_has qm_round qm_meets qm_stumble qm_isMud qm_cell qm_tune qm_change qm_isKept qm_steps qm_places qm_danced vm_runMost vm_runBegins qm_heardBy vm_fitMany vm_fitFirst vm_fitBeats vm_listenLeaves qm_there vm_metAt vm_metIn qm_wins z3871 x3816 x3811 x3812 y3824, (qm_has, .inl (cI, 55, .inl (fm_has))), (qm_round, .inl (cI, 120, .inl (fm_round))), (qm_meets, .inl (cI, 30, .inl (fm_meets))), (qm_danced, .inl (cI, 400, .inl (g3821)))] := ⟨hP.sub [1, 2, 0, 3, 4] rfl, hD.sub [1, 2, 0, 3, 4] (by decide) rfl⟩
                exact ih3817 (g3821, z3871, x3816, x3811, x3812, y3824, x3814, x3815, z3874) _ _ _ (show (100 - z3874.toInt).toNat < (100 - x3816.toInt).toNat by omega) ⟨h_g3821, (show (-1) ≤ x3816.toInt ∧ x3816.toInt ≤ 99 by omega), h_x3814, h_x3815, (show 0 ≤ z3874.toInt ∧ z3874.toInt ≤ 100 by omega), ⟨hP9, hD9⟩, hS, lv_sub hl [0, 2, 3, 4, 5, 6] rfl⟩
            · subst hz
              refine lv_if_eq (tgt := 209) hx hb dX12_draws_202 (by decide) (fun _ => ?_) (fun hc => absurd hc (by decide))
              refine lv_iconst (v := 0) hx hb dX12_draws_209 (by decide) ?_
              refine lv_iadd hx hb dX12_draws_210 ?_
              refine lv_topi (fun z3875 ez3875 => ?_)
              obtain rfl : z3875 = 0 := ez3875.trans (by decide)
              refine lv_istore (lv' := [(7, .int 0), (6, .int x3816), (5, .int x3815), (4, .int x3814), (0, .ref qm), (1, .long a1), (3, .int a2)]) hx hb dX12_draws_211 hl (by decide) rfl (fun ls hl => ?_)
              refine lv_aload_n hx hb dX12_draws_213 rfl (lv_at hl 4 rfl) ?_
              refine lv_dup hx hb dX12_draws_214 rfl ?_
              refine va_get (D := D) (ci := 12) (v := .int x3809) (C := RX12) (T := TX12) (N := 45) hx hb hts hi12 hown hK hP 1 rfl rfl 40 (by decide) (hts (.fieldLink RX12 444 "OverHillModel" "nightHoles" "I") (by decide +kernel)) (fun _ h9 => h9) rfl dX12_draws_215 ?_
              refine lv_iload hx hb dX12_draws_218 (lv_at hl 0 rfl) ?_
              refine lv_iadd hx hb dX12_draws_220 ?_
              refine lv_topi (fun z3876 ez3876 => ?_)
              refine va_put (D := D) (ci := 12) (v := .int z3876) (ty := .int) (C := RX12) (T := TX12) (N := 45) hx hb hts hi12 tyX12 tyX12_ok nmX12 hown hK hP hD hS 1 rfl rfl 40 (by decide) (hts (.fieldLink RX12 444 "OverHillModel" "nightHoles" "I") (by decide +kernel)) (fun _ h9 => h9) rfl (by decide +kernel) rfl rfl (Nat.le_of_ble_eq_true rfl) dX12_draws_221 (fun H locs hP hD hS => ?_)
              obtain ⟨hP, hD⟩ : ct_B D A H [(qm_round, .inl (cI, 120, .inl (fm_round))), mo qm vm_thrown qm_width qm_many qm_cells qm_moved qm_tape vm_taped vm_at vm_token vm_place vm_value vm_word vm_bad vm_badPlace vm_fault vm_faultPlace qm_lines qm_has qm_round qm_meets qm_stumble qm_isMud qm_cell qm_tune qm_change qm_isKept qm_steps qm_places qm_danced vm_runMost vm_runBegins qm_heardBy vm_fitMany vm_fitFirst vm_fitBeats vm_listenLeaves qm_there vm_metAt vm_metIn qm_wins z3876 x3810 x3811 x3812 y3824, (qm_has, .inl (cI, 55, .inl (fm_has))), (qm_meets, .inl (cI, 30, .inl (fm_meets))), (qm_danced, .inl (cI, 400, .inl (g3821)))] := ⟨hP, hD⟩
              refine lv_iload hx hb dX12_draws_224 (lv_at hl 0 rfl) ?_
              refine lv_if_le (tgt := 243) hx hb dX12_draws_226 (by decide) (fun _ => ?_) (fun hc => absurd hc (by decide))
              obtain ⟨z3877, ez3877⟩ : ∃ z : Int32, z = x3816 + 1 := ⟨_, rfl⟩
              have fz3877 : z3877.toInt = x3816.toInt + 1 := by rw [ez3877]; exact tq_add rfl (by decide) (by omega)
              refine lv_iinc (v := z3877) (lv' := [(6, .int z3877), (7, .int 0), (5, .int x3815), (4, .int x3814), (0, .ref qm), (1, .long a1), (3, .int a2)]) hx hb dX12_draws_243 hl (k := 1) rfl ez3877.symm (by decide) rfl (fun ls hl => ?_)
              refine lv_goto (tgt := 45) hx hb dX12_draws_246 (by decide) ?_
              obtain ⟨hP9, hD9⟩ : ct_B D A H [mo qm vm_thrown qm_width qm_many qm_cells qm_moved qm_tape vm_taped vm_at vm_token vm_place vm_value vm_word vm_bad vm_badPlace vm_fault vm_faultPlace qm_lines qm_has qm_round qm_meets qm_stumble qm_isMud qm_cell qm_tune qm_change qm_isKept qm_steps qm_places qm_danced vm_runMost vm_runBegins qm_heardBy vm_fitMany vm_fitFirst vm_fitBeats vm_listenLeaves qm_there vm_metAt vm_metIn qm_wins z3876 x3810 x3811 x3812 y3824, (qm_has, .inl (cI, 55, .inl (fm_has))), (qm_round, .inl (cI, 120, .inl (fm_round))), (qm_meets, .inl (cI, 30, .inl (fm_meets))), (qm_danced, .inl (cI, 400, .inl (g3821)))] := ⟨hP.sub [1, 2, 0, 3, 4] rfl, hD.sub [1, 2, 0, 3, 4] (by decide) rfl⟩
              exact ih3817 (g3821, z3876, x3810, x3811, x3812, y3824, x3814, x3815, z3877) _ _ _ (show (100 - z3877.toInt).toNat < (100 - x3816.toInt).toNat by omega) ⟨h_g3821, h_x3810, h_x3814, h_x3815, (show 0 ≤ z3877.toInt ∧ z3877.toInt ≤ 100 by omega), ⟨hP9, hD9⟩, hS, lv_sub hl [0, 2, 3, 4, 5, 6] rfl⟩
        · have hq3856 : 0 < r3852.toInt := tq_nle rfl (by decide) hc
          refine lv_aload_n hx hb dX12_draws_143 rfl (lv_at hl 3 rfl) ?_
          refine va_get (D := D) (ci := 12) (v := .ref qm_danced) (C := RX12) (T := TX12) (N := 45) hx hb hts hi12 hown hK hP 3 rfl rfl 28 (by decide) (hts (.fieldLink RX12 68 "OverHillModel" "danced" "[I") (by decide +kernel)) (fun _ h9 => h9) rfl dX12_draws_144 ?_
          refine lv_sipush (v := 200) hx hb dX12_draws_147 (by decide) ?_
          refine lv_iload hx hb dX12_draws_150 (lv_at hl 0 rfl) ?_
          refine lv_iadd hx hb dX12_draws_152 ?_
          refine lv_topi (fun z3878 ez3878 => ?_)
          have fz3878 : z3878.toInt = 200 + x3816.toInt := by rw [ez3878]; exact tq_add (by decide) rfl (by omega)
          refine lv_aload_n hx hb dX12_draws_153 rfl (lv_at hl 3 rfl) ?_
          refine lv_aload_n hx hb dX12_draws_154 rfl (lv_at hl 3 rfl) ?_
          refine va_get (D := D) (ci := 12) (v := .ref qm_round) (C := RX12) (T := TX12) (N := 45) hx hb hts hi12 hown hK hP 3 rfl rfl 18 (by decide) (hts (.fieldLink RX12 37 "OverHillModel" "round" "[I") (by decide +kernel)) (fun _ h9 => h9) rfl dX12_draws_155 ?_
          refine lv_bipush (v := 12) hx hb dX12_draws_158 (by decide) ?_
          refine lv_iload hx hb dX12_draws_160 (lv_at hl 1 rfl) ?_
          refine lv_iadd hx hb dX12_draws_162 ?_
          refine lv_topi (fun z3879 ez3879 => ?_)
          have fz3879 : z3879.toInt = 12 + x3815.toInt := by rw [ez3879]; exact tq_add (by decide) rfl (by omega)
          refine va_iald (D := D) hx hb hK hP 0 0 rfl rfl (tq_in rfl (by omega)) dX12_draws_163 ?_
          refine lv_topi (fun z3880 ez3880 => ?_)
          have fz3880 : 0 ≤ z3880.toInt ∧ z3880.toInt ≤ 5 := by rw [ez3880]; exact ar_get h_fm_round z3879 0 (by omega) (show z3879.toInt % 1 = 0 by omega) rfl
          refine ct_calli (D := D) (wr := [(qm_round, .inl (cI, 120, .inl (fm_round))), (qm_meets, .inl (cI, 30, .inl (fm_meets))), (qm_danced, .inl (cI, 400, .inl (g3821)))]) (va_runV (As := [.int z3880]) (rest := [.int z3878, .ref qm_danced]) ⟨hx, hb, hml, hown, hts⟩ (c_X12_slips l D G cI cJ cB cZ cO qm vm_thrown qm_width qm_many qm_cells qm_moved qm_tape vm_taped vm_at vm_token vm_place vm_value vm_word vm_bad vm_badPlace vm_fault vm_faultPlace qm_lines qm_has fm_has qm_round qm_meets qm_stumble qm_isMud qm_cell qm_tune qm_change qm_isKept qm_steps qm_places qm_danced vm_runMost vm_runBegins qm_heardBy vm_fitMany vm_fitFirst vm_fitBeats vm_listenLeaves qm_there vm_metAt vm_metIn qm_wins x3809 x3810 x3811 x3812 y3824 z3880 h_vm_taped h_vm_at h_vm_value h_fm_has fz3880 H.size) (cwV 1 hts gX12_draws_X12_slips rfl rfl rfl (by decide +kernel) ⟨Nat.le_of_ble_eq_true rfl, Nat.le_of_ble_eq_true rfl⟩) (ct_preV (T := ct_T cI cJ cB cZ cO) (ci := 12) (q0 := 3) hE hH hP hD hS hA [3, 4] (by decide) rfl rfl rfl) rfl rfl hl.1 rfl (lv_room (Nat.le_of_ble_eq_true rfl)) dX12_draws_164 ⟨Nat.le_of_ble_eq_true rfl, Nat.le_of_ble_eq_true rfl⟩) hP hD hS hA [3, 4] [0, 1, 2] rfl rfl (by decide) (by decide) (fun r3881 u H locs hw hP hD hS => ?_)
          obtain ⟨y3882, y3883⟩ := u
          obtain ⟨hP, hD⟩ : ct_B D A H [(qm_round, .inl (cI, 120, .inl (fm_round))), (qm_meets, .inl (cI, 30, .inl (fm_meets))), (qm_danced, .inl (cI, 400, .inl (g3821))), mo qm vm_thrown qm_width qm_many qm_cells qm_moved qm_tape vm_taped vm_at vm_token vm_place vm_value vm_word vm_bad vm_badPlace vm_fault vm_faultPlace qm_lines qm_has qm_round qm_meets qm_stumble qm_isMud qm_cell qm_tune qm_change qm_isKept qm_steps qm_places qm_danced vm_runMost vm_runBegins qm_heardBy vm_fitMany vm_fitFirst vm_fitBeats vm_listenLeaves qm_there vm_metAt vm_metIn qm_wins x3809 x3810 x3811 y3882 y3883, (qm_has, .inl (cI, 55, .inl (fm_has)))] := ⟨hP, hD⟩
          have hz := hw
          have h_r3881 : 0 ≤ r3881.toInt ∧ r3881.toInt ≤ 5 := hz
          refine va_iast (D := D) hx hb hK hP hD hS 2 0 rfl rfl (tq_in rfl (by omega)) dX12_draws_167 (fun H locs hP hD hS => ?_)
          obtain ⟨g3884, h_g3884, hP, hD⟩ : ∃ g3884 : Nat → Int32, ar_ok [(-1)] [5] g3884 ∧ ct_B D A H [(qm_round, .inl (cI, 120, .inl (fm_round))), (qm_meets, .inl (cI, 30, .inl (fm_meets))), (qm_danced, .inl (cI, 400, .inl (g3884))), mo qm vm_thrown qm_width qm_many qm_cells qm_moved qm_tape vm_taped vm_at vm_token vm_place vm_value vm_word vm_bad vm_badPlace vm_fault vm_faultPlace qm_lines qm_has qm_round qm_meets qm_stumble qm_isMud qm_cell qm_tune qm_change qm_isKept qm_steps qm_places qm_danced vm_runMost vm_runBegins qm_heardBy vm_fitMany vm_fitFirst vm_fitBeats vm_listenLeaves qm_there vm_metAt vm_metIn qm_wins x3809 x3810 x3811 y3882 y3883, (qm_has, .inl (cI, 55, .inl (fm_has)))] := ⟨_, ar_set h_g3821 z3878 r3881 0 (by omega) (show z3878.toInt % 1 = 0 by omega) rfl (show (-1) ≤ r3881.toInt ∧ r3881.toInt ≤ 5 by omega), hP, hD⟩
          refine lv_iload hx hb dX12_draws_168 (lv_at hl 1 rfl) ?_
          refine lv_iconst (v := 1) hx hb dX12_draws_170 (by decide) ?_
          refine lv_iadd hx hb dX12_draws_171 ?_
          refine lv_topi (fun z3885 ez3885 => ?_)
          have fz3885 : z3885.toInt = x3815.toInt + 1 := by rw [ez3885]; exact tq_add rfl (by decide) (by omega)
          refine lv_aload_n hx hb dX12_draws_172 rfl (lv_at hl 3 rfl) ?_
          refine lv_iconst (v := 1) hx hb dX12_draws_173 (by decide) ?_
          refine ct_calli (D := D) (wr := [(qm_round, .inl (cI, 120, .inl (fm_round))), (qm_meets, .inl (cI, 30, .inl (fm_meets))), (qm_danced, .inl (cI, 400, .inl (g3884)))]) (va_runV (As := [.int 1]) (rest := [.int z3885]) ⟨hx, hb, hml, hown, hts⟩ (c_X12_lengthOf l D G cI cJ cB cZ cO qm vm_thrown qm_width qm_many qm_cells qm_moved qm_tape vm_taped vm_at vm_token vm_place vm_value vm_word vm_bad vm_badPlace vm_fault vm_faultPlace qm_lines qm_has fm_has qm_round qm_meets qm_stumble qm_isMud qm_cell qm_tune qm_change qm_isKept qm_steps qm_places qm_danced vm_runMost vm_runBegins qm_heardBy vm_fitMany vm_fitFirst vm_fitBeats vm_listenLeaves qm_there vm_metAt vm_metIn qm_wins x3809 x3810 x3811 y3882 y3883 1 h_vm_taped h_vm_at h_vm_value h_fm_has (by decide) H.size) (cwV 1 hts gX12_draws_X12_lengthOf rfl rfl rfl (by decide +kernel) ⟨Nat.le_of_ble_eq_true rfl, Nat.le_of_ble_eq_true rfl⟩) (ct_preV (T := ct_T cI cJ cB cZ cO) (ci := 12) (q0 := 3) hE hH hP hD hS hA [3, 4] (by decide) rfl rfl rfl) rfl rfl hl.1 rfl (lv_room (Nat.le_of_ble_eq_true rfl)) dX12_draws_174 ⟨Nat.le_of_ble_eq_true rfl, Nat.le_of_ble_eq_true rfl⟩) hP hD hS hA [3, 4] [0, 1, 2] rfl rfl (by decide) (by decide) (fun r3886 u H locs hw hP hD hS => ?_)
          obtain ⟨hP, hD⟩ : ct_B D A H [(qm_round, .inl (cI, 120, .inl (fm_round))), (qm_meets, .inl (cI, 30, .inl (fm_meets))), (qm_danced, .inl (cI, 400, .inl (g3884))), mo qm vm_thrown qm_width qm_many qm_cells qm_moved qm_tape vm_taped vm_at vm_token vm_place vm_value vm_word vm_bad vm_badPlace vm_fault vm_faultPlace qm_lines qm_has qm_round qm_meets qm_stumble qm_isMud qm_cell qm_tune qm_change qm_isKept qm_steps qm_places qm_danced vm_runMost vm_runBegins qm_heardBy vm_fitMany vm_fitFirst vm_fitBeats vm_listenLeaves qm_there vm_metAt vm_metIn qm_wins x3809 x3810 x3811 y3882 y3883, (qm_has, .inl (cI, 55, .inl (fm_has)))] := ⟨hP, hD⟩
          have hk3887 : (1 : Int32).toInt = 1 := by decide
          obtain ⟨hz, hp0⟩ := hw
          have hp_3888 : r3886 = fm_has (3 + (1 : Int32).toInt).toNat := hp0
          have hl3889 : r3886.toInt = (fm_has 4).toInt := by rw [hp_3888]; rfl
          have h_r3886 : 0 ≤ r3886.toInt ∧ r3886.toInt ≤ 12 := hz
          refine lv_irem hx hb dX12_draws_177 (tq_nz (by omega)) ?_
          refine lv_topi (fun z3890 ez3890 => ?_)
          have fz3890 : 0 ≤ z3890.toInt ∧ z3890.toInt < r3886.toInt := by rw [ez3890]; exact tq_remp rfl rfl (by omega) (by omega)
          refine lv_istore (lv' := [(5, .int z3890), (6, .int x3816), (4, .int x3814), (0, .ref qm), (1, .long a1), (3, .int a2)]) hx hb dX12_draws_178 hl (by decide) rfl (fun ls hl => ?_)
          refine lv_aload_n hx hb dX12_draws_180 rfl (lv_at hl 3 rfl) ?_
          refine lv_iconst (v := 0) hx hb dX12_draws_181 (by decide) ?_
          refine lv_iload hx hb dX12_draws_182 (lv_at hl 1 rfl) ?_
          refine ct_calli (D := D) (wr := [(qm_round, .inl (cI, 120, .inl (fm_round)))]) (va_runV (As := [.int 0, .int x3816]) (rest := []) ⟨hx, hb, hml, hown, hts⟩ (c_X12_isHole l D G cI cJ cB cZ cO qm vm_thrown qm_width qm_many qm_cells qm_moved qm_tape vm_taped vm_at vm_token vm_place vm_value vm_word vm_bad vm_badPlace vm_fault vm_faultPlace qm_lines qm_has fm_has qm_round qm_meets fm_meets qm_stumble qm_isMud qm_cell qm_tune qm_change qm_isKept qm_steps qm_places qm_danced g3884 vm_runMost vm_runBegins qm_heardBy vm_fitMany vm_fitFirst vm_fitBeats vm_listenLeaves qm_there vm_metAt vm_metIn qm_wins x3809 x3810 x3811 y3882 y3883 0 x3816 h_vm_taped h_vm_at h_vm_value h_fm_has h_g3884 (by decide) (by omega) H.size) (cwV 2 hts gX12_draws_X12_isHole rfl rfl rfl (by decide +kernel) ⟨Nat.le_of_ble_eq_true rfl, Nat.le_of_ble_eq_true rfl⟩) (ct_preV (T := ct_T cI cJ cB cZ cO) (ci := 12) (q0 := 3) hE hH hP hD hS hA [3, 4, 1, 2] (by decide) rfl rfl rfl) rfl rfl hl.1 rfl (lv_room (Nat.le_of_ble_eq_true rfl)) dX12_draws_184 ⟨Nat.le_of_ble_eq_true rfl, Nat.le_of_ble_eq_true rfl⟩) hP hD hS hA [3, 4, 1, 2] [0] rfl rfl (by decide) (by decide) (fun r3891 u H locs hw hP hD hS => ?_)
          obtain ⟨hP, hD⟩ : ct_B D A H [(qm_round, .inl (cI, 120, .inl (fm_round))), mo qm vm_thrown qm_width qm_many qm_cells qm_moved qm_tape vm_taped vm_at vm_token vm_place vm_value vm_word vm_bad vm_badPlace vm_fault vm_faultPlace qm_lines qm_has qm_round qm_meets qm_stumble qm_isMud qm_cell qm_tune qm_change qm_isKept qm_steps qm_places qm_danced vm_runMost vm_runBegins qm_heardBy vm_fitMany vm_fitFirst vm_fitBeats vm_listenLeaves qm_there vm_metAt vm_metIn qm_wins x3809 x3810 x3811 y3882 y3883, (qm_has, .inl (cI, 55, .inl (fm_has))), (qm_meets, .inl (cI, 30, .inl (fm_meets))), (qm_danced, .inl (cI, 400, .inl (g3884)))] := ⟨hP, hD⟩
          have hz := hw
          rcases hz with ⟨hz, hz2⟩ | ⟨hz, hz2⟩
          · subst hz
            refine lv_if_eq (tgt := 194) hx hb dX12_draws_187 (by decide) (fun hc => absurd hc (by decide)) (fun _ => ?_)
            refine lv_iconst (v := 1) hx hb dX12_draws_190 (by decide) ?_
            refine lv_goto (tgt := 195) hx hb dX12_draws_191 (by decide) ?_
            refine lv_aload_n hx hb dX12_draws_195 rfl (lv_at hl 3 rfl) ?_
            refine lv_iconst (v := 1) hx hb dX12_draws_196 (by decide) ?_
            refine lv_iload hx hb dX12_draws_197 (lv_at hl 1 rfl) ?_
            refine ct_calli (D := D) (wr := [(qm_round, .inl (cI, 120, .inl (fm_round)))]) (va_runV (As := [.int 1, .int x3816]) (rest := [.int 1]) ⟨hx, hb, hml, hown, hts⟩ (c_X12_isHole l D G cI cJ cB cZ cO qm vm_thrown qm_width qm_many qm_cells qm_moved qm_tape vm_taped vm_at vm_token vm_place vm_value vm_word vm_bad vm_badPlace vm_fault vm_faultPlace qm_lines qm_has fm_has qm_round qm_meets fm_meets qm_stumble qm_isMud qm_cell qm_tune qm_change qm_isKept qm_steps qm_places qm_danced g3884 vm_runMost vm_runBegins qm_heardBy vm_fitMany vm_fitFirst vm_fitBeats vm_listenLeaves qm_there vm_metAt vm_metIn qm_wins x3809 x3810 x3811 y3882 y3883 1 x3816 h_vm_taped h_vm_at h_vm_value h_fm_has h_g3884 (by decide) (by omega) H.size) (cwV 2 hts gX12_draws_X12_isHole rfl rfl rfl (by decide +kernel) ⟨Nat.le_of_ble_eq_true rfl, Nat.le_of_ble_eq_true rfl⟩) (ct_preV (T := ct_T cI cJ cB cZ cO) (ci := 12) (q0 := 1) hE hH hP hD hS hA [1, 2, 3, 4] (by decide) rfl rfl rfl) rfl rfl hl.1 rfl (lv_room (Nat.le_of_ble_eq_true rfl)) dX12_draws_199 ⟨Nat.le_of_ble_eq_true rfl, Nat.le_of_ble_eq_true rfl⟩) hP hD hS hA [1, 2, 3, 4] [0] rfl rfl (by decide) (by decide) (fun r3892 u H locs hw hP hD hS => ?_)
            obtain ⟨hP, hD⟩ : ct_B D A H [(qm_round, .inl (cI, 120, .inl (fm_round))), mo qm vm_thrown qm_width qm_many qm_cells qm_moved qm_tape vm_taped vm_at vm_token vm_place vm_value vm_word vm_bad vm_badPlace vm_fault vm_faultPlace qm_lines qm_has qm_round qm_meets qm_stumble qm_isMud qm_cell qm_tune qm_change qm_isKept qm_steps qm_places qm_danced vm_runMost vm_runBegins qm_heardBy vm_fitMany vm_fitFirst vm_fitBeats vm_listenLeaves qm_there vm_metAt vm_metIn qm_wins x3809 x3810 x3811 y3882 y3883, (qm_has, .inl (cI, 55, .inl (fm_has))), (qm_meets, .inl (cI, 30, .inl (fm_meets))), (qm_danced, .inl (cI, 400, .inl (g3884)))] := ⟨hP, hD⟩
            have hz := hw
            rcases hz with ⟨hz, hz2⟩ | ⟨hz, hz2⟩
            · subst hz
              refine lv_if_eq (tgt := 209) hx hb dX12_draws_202 (by decide) (fun hc => absurd hc (by decide)) (fun _ => ?_)
              refine lv_iconst (v := 1) hx hb dX12_draws_205 (by decide) ?_
              refine lv_goto (tgt := 210) hx hb dX12_draws_206 (by decide) ?_
              refine lv_iadd hx hb dX12_draws_210 ?_
              refine lv_topi (fun z3893 ez3893 => ?_)
              obtain rfl : z3893 = 2 := ez3893.trans (by decide)
              refine lv_istore (lv' := [(7, .int 2), (5, .int z3890), (6, .int x3816), (4, .int x3814), (0, .ref qm), (1, .long a1), (3, .int a2)]) hx hb dX12_draws_211 hl (by decide) rfl (fun ls hl => ?_)
              refine lv_aload_n hx hb dX12_draws_213 rfl (lv_at hl 4 rfl) ?_
              refine lv_dup hx hb dX12_draws_214 rfl ?_
              refine va_get (D := D) (ci := 12) (v := .int x3809) (C := RX12) (T := TX12) (N := 45) hx hb hts hi12 hown hK hP 1 rfl rfl 40 (by decide) (hts (.fieldLink RX12 444 "OverHillModel" "nightHoles" "I") (by decide +kernel)) (fun _ h9 => h9) rfl dX12_draws_215 ?_
              refine lv_iload hx hb dX12_draws_218 (lv_at hl 0 rfl) ?_
              refine lv_iadd hx hb dX12_draws_220 ?_
              refine lv_topi (fun z3894 ez3894 => ?_)
              refine va_put (D := D) (ci := 12) (v := .int z3894) (ty := .int) (C := RX12) (T := TX12) (N := 45) hx hb hts hi12 tyX12 tyX12_ok nmX12 hown hK hP hD hS 1 rfl rfl 40 (by decide) (hts (.fieldLink RX12 444 "OverHillModel" "nightHoles" "I") (by decide +kernel)) (fun _ h9 => h9) rfl (by decide +kernel) rfl rfl (Nat.le_of_ble_eq_true rfl) dX12_draws_221 (fun H locs hP hD hS => ?_)
              obtain ⟨hP, hD⟩ : ct_B D A H [(qm_round, .inl (cI, 120, .inl (fm_round))), mo qm vm_thrown qm_width qm_many qm_cells qm_moved qm_tape vm_taped vm_at vm_token vm_place vm_value vm_word vm_bad vm_badPlace vm_fault vm_faultPlace qm_lines qm_has qm_round qm_meets qm_stumble qm_isMud qm_cell qm_tune qm_change qm_isKept qm_steps qm_places qm_danced vm_runMost vm_runBegins qm_heardBy vm_fitMany vm_fitFirst vm_fitBeats vm_listenLeaves qm_there vm_metAt vm_metIn qm_wins z3894 x3810 x3811 y3882 y3883, (qm_has, .inl (cI, 55, .inl (fm_has))), (qm_meets, .inl (cI, 30, .inl (fm_meets))), (qm_danced, .inl (cI, 400, .inl (g3884)))] := ⟨hP, hD⟩
              refine lv_iload hx hb dX12_draws_224 (lv_at hl 0 rfl) ?_
              refine lv_if_le (tgt := 243) hx hb dX12_draws_226 (by decide) (fun hc => absurd hc (by decide)) (fun _ => ?_)
              refine lv_aload_n hx hb dX12_draws_229 rfl (lv_at hl 4 rfl) ?_
              refine va_get (D := D) (ci := 12) (v := .int x3810) (C := RX12) (T := TX12) (N := 45) hx hb hts hi12 hown hK hP 1 rfl rfl 41 (by decide) (hts (.fieldLink RX12 447 "OverHillModel" "nightFirst" "I") (by decide +kernel)) (fun _ h9 => h9) rfl dX12_draws_230 ?_
              refine lv_iconst (v := (-1)) hx hb dX12_draws_233 (by decide) ?_
              refine lv_icmp_ne (tgt := 243) hx hb dX12_draws_234 (by decide) (fun hc => ?_) (fun hc => ?_)
              · have hq3895 : x3810.toInt ≠ (-1) := tq_ne rfl (by decide) hc
                obtain ⟨z3896, ez3896⟩ : ∃ z : Int32, z = x3816 + 1 := ⟨_, rfl⟩
                have fz3896 : z3896.toInt = x3816.toInt + 1 := by rw [ez3896]; exact tq_add rfl (by decide) (by omega)
                refine lv_iinc (v := z3896) (lv' := [(6, .int z3896), (7, .int 2), (5, .int z3890), (4, .int x3814), (0, .ref qm), (1, .long a1), (3, .int a2)]) hx hb dX12_draws_243 hl (k := 2) rfl ez3896.symm (by decide) rfl (fun ls hl => ?_)
                refine lv_goto (tgt := 45) hx hb dX12_draws_246 (by decide) ?_
                obtain ⟨hP9, hD9⟩ : ct_B D A H [mo qm vm_thrown qm_width qm_many qm_cells qm_moved qm_tape vm_taped vm_at vm_token vm_place vm_value vm_word vm_bad vm_badPlace vm_fault vm_faultPlace qm_lines qm_has qm_round qm_meets qm_stumble qm_isMud qm_cell qm_tune qm_change qm_isKept qm_steps qm_places qm_danced vm_runMost vm_runBegins qm_heardBy vm_fitMany vm_fitFirst vm_fitBeats vm_listenLeaves qm_there vm_metAt vm_metIn qm_wins z3894 x3810 x3811 y3882 y3883, (qm_has, .inl (cI, 55, .inl (fm_has))), (qm_round, .inl (cI, 120, .inl (fm_round))), (qm_meets, .inl (cI, 30, .inl (fm_meets))), (qm_danced, .inl (cI, 400, .inl (g3884)))] := ⟨hP.sub [1, 2, 0, 3, 4] rfl, hD.sub [1, 2, 0, 3, 4] (by decide) rfl⟩
                exact ih3817 (g3884, z3894, x3810, x3811, y3882, y3883, x3814, z3890, z3896) _ _ _ (show (100 - z3896.toInt).toNat < (100 - x3816.toInt).toNat by omega) ⟨h_g3884, h_x3810, h_x3814, (show 0 ≤ z3890.toInt ∧ z3890.toInt ≤ 11 by omega), (show 0 ≤ z3896.toInt ∧ z3896.toInt ≤ 100 by omega), ⟨hP9, hD9⟩, hS, lv_sub hl [0, 2, 3, 4, 5, 6] rfl⟩
              · have hq3895 : x3810.toInt = (-1) := tq_eq rfl (by decide) hc
                refine lv_aload_n hx hb dX12_draws_237 rfl (lv_at hl 4 rfl) ?_
                refine lv_iload hx hb dX12_draws_238 (lv_at hl 2 rfl) ?_
                refine va_put (D := D) (ci := 12) (v := .int x3816) (ty := .int) (C := RX12) (T := TX12) (N := 45) hx hb hts hi12 tyX12 tyX12_ok nmX12 hown hK hP hD hS 1 rfl rfl 41 (by decide) (hts (.fieldLink RX12 447 "OverHillModel" "nightFirst" "I") (by decide +kernel)) (fun _ h9 => h9) rfl (by decide +kernel) rfl rfl (Nat.le_of_ble_eq_true rfl) dX12_draws_240 (fun H locs hP hD hS => ?_)
                obtain ⟨hP, hD⟩ : ct_B D A H [(qm_round, .inl (cI, 120, .inl (fm_round))), mo qm vm_thrown qm_width qm_many qm_cells qm_moved qm_tape vm_taped vm_at vm_token vm_place vm_value vm_word vm_bad vm_badPlace vm_fault vm_faultPlace qm_lines qm_has qm_round qm_meets qm_stumble qm_isMud qm_cell qm_tune qm_change qm_isKept qm_steps qm_places qm_danced vm_runMost vm_runBegins qm_heardBy vm_fitMany vm_fitFirst vm_fitBeats vm_listenLeaves qm_there vm_metAt vm_metIn qm_wins z3894 x3816 x3811 y3882 y3883, (qm_has, .inl (cI, 55, .inl (fm_has))), (qm_meets, .inl (cI, 30, .inl (fm_meets))), (qm_danced, .inl (cI, 400, .inl (g3884)))] := ⟨hP, hD⟩
                obtain ⟨z3897, ez3897⟩ : ∃ z : Int32, z = x3816 + 1 := ⟨_, rfl⟩
                have fz3897 : z3897.toInt = x3816.toInt + 1 := by rw [ez3897]; exact tq_add rfl (by decide) (by omega)
                refine lv_iinc (v := z3897) (lv' := [(6, .int z3897), (7, .int 2), (5, .int z3890), (4, .int x3814), (0, .ref qm), (1, .long a1), (3, .int a2)]) hx hb dX12_draws_243 hl (k := 2) rfl ez3897.symm (by decide) rfl (fun ls hl => ?_)
                refine lv_goto (tgt := 45) hx hb dX12_draws_246 (by decide) ?_
                obtain ⟨hP9, hD9⟩ : ct_B D A H [mo qm vm_thrown qm_width qm_many qm_cells qm_moved qm_tape vm_taped vm_at vm_token vm_place vm_value vm_word vm_bad vm_badPlace vm_fault vm_faultPlace qm_lines qm_has qm_round qm_meets qm_stumble qm_isMud qm_cell qm_tune qm_change qm_isKept qm_steps qm_places qm_danced vm_runMost vm_runBegins qm_heardBy vm_fitMany vm_fitFirst vm_fitBeats vm_listenLeaves qm_there vm_metAt vm_metIn qm_wins z3894 x3816 x3811 y3882 y3883, (qm_has, .inl (cI, 55, .inl (fm_has))), (qm_round, .inl (cI, 120, .inl (fm_round))), (qm_meets, .inl (cI, 30, .inl (fm_meets))), (qm_danced, .inl (cI, 400, .inl (g3884)))] := ⟨hP.sub [1, 2, 0, 3, 4] rfl, hD.sub [1, 2, 0, 3, 4] (by decide) rfl⟩
                exact ih3817 (g3884, z3894, x3816, x3811, y3882, y3883, x3814, z3890, z3897) _ _ _ (show (100 - z3897.toInt).toNat < (100 - x3816.toInt).toNat by omega) ⟨h_g3884, (show (-1) ≤ x3816.toInt ∧ x3816.toInt ≤ 99 by omega), h_x3814, (show 0 ≤ z3890.toInt ∧ z3890.toInt ≤ 11 by omega), (show 0 ≤ z3897.toInt ∧ z3897.toInt ≤ 100 by omega), ⟨hP9, hD9⟩, hS, lv_sub hl [0, 2, 3, 4, 5, 6] rfl⟩
            · subst hz
              refine lv_if_eq (tgt := 209) hx hb dX12_draws_202 (by decide) (fun _ => ?_) (fun hc => absurd hc (by decide))
              refine lv_iconst (v := 0) hx hb dX12_draws_209 (by decide) ?_
              refine lv_iadd hx hb dX12_draws_210 ?_
              refine lv_topi (fun z3898 ez3898 => ?_)
              obtain rfl : z3898 = 1 := ez3898.trans (by decide)
              refine lv_istore (lv' := [(7, .int 1), (5, .int z3890), (6, .int x3816), (4, .int x3814), (0, .ref qm), (1, .long a1), (3, .int a2)]) hx hb dX12_draws_211 hl (by decide) rfl (fun ls hl => ?_)
              refine lv_aload_n hx hb dX12_draws_213 rfl (lv_at hl 4 rfl) ?_
              refine lv_dup hx hb dX12_draws_214 rfl ?_
              refine va_get (D := D) (ci := 12) (v := .int x3809) (C := RX12) (T := TX12) (N := 45) hx hb hts hi12 hown hK hP 1 rfl rfl 40 (by decide) (hts (.fieldLink RX12 444 "OverHillModel" "nightHoles" "I") (by decide +kernel)) (fun _ h9 => h9) rfl dX12_draws_215 ?_
              refine lv_iload hx hb dX12_draws_218 (lv_at hl 0 rfl) ?_
              refine lv_iadd hx hb dX12_draws_220 ?_
              refine lv_topi (fun z3899 ez3899 => ?_)
              refine va_put (D := D) (ci := 12) (v := .int z3899) (ty := .int) (C := RX12) (T := TX12) (N := 45) hx hb hts hi12 tyX12 tyX12_ok nmX12 hown hK hP hD hS 1 rfl rfl 40 (by decide) (hts (.fieldLink RX12 444 "OverHillModel" "nightHoles" "I") (by decide +kernel)) (fun _ h9 => h9) rfl (by decide +kernel) rfl rfl (Nat.le_of_ble_eq_true rfl) dX12_draws_221 (fun H locs hP hD hS => ?_)
              obtain ⟨hP, hD⟩ : ct_B D A H [(qm_round, .inl (cI, 120, .inl (fm_round))), mo qm vm_thrown qm_width qm_many qm_cells qm_moved qm_tape vm_taped vm_at vm_token vm_place vm_value vm_word vm_bad vm_badPlace vm_fault vm_faultPlace qm_lines qm_has qm_round qm_meets qm_stumble qm_isMud qm_cell qm_tune qm_change qm_isKept qm_steps qm_places qm_danced vm_runMost vm_runBegins qm_heardBy vm_fitMany vm_fitFirst vm_fitBeats vm_listenLeaves qm_there vm_metAt vm_metIn qm_wins z3899 x3810 x3811 y3882 y3883, (qm_has, .inl (cI, 55, .inl (fm_has))), (qm_meets, .inl (cI, 30, .inl (fm_meets))), (qm_danced, .inl (cI, 400, .inl (g3884)))] := ⟨hP, hD⟩
              refine lv_iload hx hb dX12_draws_224 (lv_at hl 0 rfl) ?_
              refine lv_if_le (tgt := 243) hx hb dX12_draws_226 (by decide) (fun hc => absurd hc (by decide)) (fun _ => ?_)
              refine lv_aload_n hx hb dX12_draws_229 rfl (lv_at hl 4 rfl) ?_
              refine va_get (D := D) (ci := 12) (v := .int x3810) (C := RX12) (T := TX12) (N := 45) hx hb hts hi12 hown hK hP 1 rfl rfl 41 (by decide) (hts (.fieldLink RX12 447 "OverHillModel" "nightFirst" "I") (by decide +kernel)) (fun _ h9 => h9) rfl dX12_draws_230 ?_
              refine lv_iconst (v := (-1)) hx hb dX12_draws_233 (by decide) ?_
              refine lv_icmp_ne (tgt := 243) hx hb dX12_draws_234 (by decide) (fun hc => ?_) (fun hc => ?_)
              · have hq3900 : x3810.toInt ≠ (-1) := tq_ne rfl (by decide) hc
                obtain ⟨z3901, ez3901⟩ : ∃ z : Int32, z = x3816 + 1 := ⟨_, rfl⟩
                have fz3901 : z3901.toInt = x3816.toInt + 1 := by rw [ez3901]; exact tq_add rfl (by decide) (by omega)
                refine lv_iinc (v := z3901) (lv' := [(6, .int z3901), (7, .int 1), (5, .int z3890), (4, .int x3814), (0, .ref qm), (1, .long a1), (3, .int a2)]) hx hb dX12_draws_243 hl (k := 2) rfl ez3901.symm (by decide) rfl (fun ls hl => ?_)
                refine lv_goto (tgt := 45) hx hb dX12_draws_246 (by decide) ?_
                obtain ⟨hP9, hD9⟩ : ct_B D A H [mo qm vm_thrown qm_width qm_many qm_cells qm_moved qm_tape vm_taped vm_at vm_token vm_place vm_value vm_word vm_bad vm_badPlace vm_fault vm_faultPlace qm_lines qm_has qm_round qm_meets qm_stumble qm_isMud qm_cell qm_tune qm_change qm_isKept qm_steps qm_places qm_danced vm_runMost vm_runBegins qm_heardBy vm_fitMany vm_fitFirst vm_fitBeats vm_listenLeaves qm_there vm_metAt vm_metIn qm_wins z3899 x3810 x3811 y3882 y3883, (qm_has, .inl (cI, 55, .inl (fm_has))), (qm_round, .inl (cI, 120, .inl (fm_round))), (qm_meets, .inl (cI, 30, .inl (fm_meets))), (qm_danced, .inl (cI, 400, .inl (g3884)))] := ⟨hP.sub [1, 2, 0, 3, 4] rfl, hD.sub [1, 2, 0, 3, 4] (by decide) rfl⟩
                exact ih3817 (g3884, z3899, x3810, x3811, y3882, y3883, x3814, z3890, z3901) _ _ _ (show (100 - z3901.toInt).toNat < (100 - x3816.toInt).toNat by omega) ⟨h_g3884, h_x3810, h_x3814, (show 0 ≤ z3890.toInt ∧ z3890.toInt ≤ 11 by omega), (show 0 ≤ z3901.toInt ∧ z3901.toInt ≤ 100 by omega), ⟨hP9, hD9⟩, hS, lv_sub hl [0, 2, 3, 4, 5, 6] rfl⟩
              · have hq3900 : x3810.toInt = (-1) := tq_eq rfl (by decide) hc
                refine lv_aload_n hx hb dX12_draws_237 rfl (lv_at hl 4 rfl) ?_
                refine lv_iload hx hb dX12_draws_238 (lv_at hl 2 rfl) ?_
                refine va_put (D := D) (ci := 12) (v := .int x3816) (ty := .int) (C := RX12) (T := TX12) (N := 45) hx hb hts hi12 tyX12 tyX12_ok nmX12 hown hK hP hD hS 1 rfl rfl 41 (by decide) (hts (.fieldLink RX12 447 "OverHillModel" "nightFirst" "I") (by decide +kernel)) (fun _ h9 => h9) rfl (by decide +kernel) rfl rfl (Nat.le_of_ble_eq_true rfl) dX12_draws_240 (fun H locs hP hD hS => ?_)
                obtain ⟨hP, hD⟩ : ct_B D A H [(qm_round, .inl (cI, 120, .inl (fm_round))), mo qm vm_thrown qm_width qm_many qm_cells qm_moved qm_tape vm_taped vm_at vm_token vm_place vm_value vm_word vm_bad vm_badPlace vm_fault vm_faultPlace qm_lines qm_has qm_round qm_meets qm_stumble qm_isMud qm_cell qm_tune qm_change qm_isKept qm_steps qm_places qm_danced vm_runMost vm_runBegins qm_heardBy vm_fitMany vm_fitFirst vm_fitBeats vm_listenLeaves qm_there vm_metAt vm_metIn qm_wins z3899 x3816 x3811 y3882 y3883, (qm_has, .inl (cI, 55, .inl (fm_has))), (qm_meets, .inl (cI, 30, .inl (fm_meets))), (qm_danced, .inl (cI, 400, .inl (g3884)))] := ⟨hP, hD⟩
                obtain ⟨z3902, ez3902⟩ : ∃ z : Int32, z = x3816 + 1 := ⟨_, rfl⟩
                have fz3902 : z3902.toInt = x3816.toInt + 1 := by rw [ez3902]; exact tq_add rfl (by decide) (by omega)
                refine lv_iinc (v := z3902) (lv' := [(6, .int z3902), (7, .int 1), (5, .int z3890), (4, .int x3814), (0, .ref qm), (1, .long a1), (3, .int a2)]) hx hb dX12_draws_243 hl (k := 2) rfl ez3902.symm (by decide) rfl (fun ls hl => ?_)
                refine lv_goto (tgt := 45) hx hb dX12_draws_246 (by decide) ?_
                obtain ⟨hP9, hD9⟩ : ct_B D A H [mo qm vm_thrown qm_width qm_many qm_cells qm_moved qm_tape vm_taped vm_at vm_token vm_place vm_value vm_word vm_bad vm_badPlace vm_fault vm_faultPlace qm_lines qm_has qm_round qm_meets qm_stumble qm_isMud qm_cell qm_tune qm_change qm_isKept qm_steps qm_places qm_danced vm_runMost vm_runBegins qm_heardBy vm_fitMany vm_fitFirst vm_fitBeats vm_listenLeaves qm_there vm_metAt vm_metIn qm_wins z3899 x3816 x3811 y3882 y3883, (qm_has, .inl (cI, 55, .inl (fm_has))), (qm_round, .inl (cI, 120, .inl (fm_round))), (qm_meets, .inl (cI, 30, .inl (fm_meets))), (qm_danced, .inl (cI, 400, .inl (g3884)))] := ⟨hP.sub [1, 2, 0, 3, 4] rfl, hD.sub [1, 2, 0, 3, 4] (by decide) rfl⟩
                exact ih3817 (g3884, z3899, x3816, x3811, y3882, y3883, x3814, z3890, z3902) _ _ _ (show (100 - z3902.toInt).toNat < (100 - x3816.toInt).toNat by omega) ⟨h_g3884, (show (-1) ≤ x3816.toInt ∧ x3816.toInt ≤ 99 by omega), h_x3814, (show 0 ≤ z3890.toInt ∧ z3890.toInt ≤ 11 by omega), (show 0 ≤ z3902.toInt ∧ z3902.toInt ≤ 100 by omega), ⟨hP9, hD9⟩, hS, lv_sub hl [0, 2, 3, 4, 5, 6] rfl⟩
          · subst hz
            refine lv_if_eq (tgt := 194) hx hb dX12_draws_187 (by decide) (fun _ => ?_) (fun hc => absurd hc (by decide))
            refine lv_iconst (v := 0) hx hb dX12_draws_194 (by decide) ?_
            refine lv_aload_n hx hb dX12_draws_195 rfl (lv_at hl 3 rfl) ?_
            refine lv_iconst (v := 1) hx hb dX12_draws_196 (by decide) ?_
            refine lv_iload hx hb dX12_draws_197 (lv_at hl 1 rfl) ?_
            refine ct_calli (D := D) (wr := [(qm_round, .inl (cI, 120, .inl (fm_round)))]) (va_runV (As := [.int 1, .int x3816]) (rest := [.int 0]) ⟨hx, hb, hml, hown, hts⟩ (c_X12_isHole l D G cI cJ cB cZ cO qm vm_thrown qm_width qm_many qm_cells qm_moved qm_tape vm_taped vm_at vm_token vm_place vm_value vm_word vm_bad vm_badPlace vm_fault vm_faultPlace qm_lines qm_has fm_has qm_round qm_meets fm_meets qm_stumble qm_isMud qm_cell qm_tune qm_change qm_isKept qm_steps qm_places qm_danced g3884 vm_runMost vm_runBegins qm_heardBy vm_fitMany vm_fitFirst vm_fitBeats vm_listenLeaves qm_there vm_metAt vm_metIn qm_wins x3809 x3810 x3811 y3882 y3883 1 x3816 h_vm_taped h_vm_at h_vm_value h_fm_has h_g3884 (by decide) (by omega) H.size) (cwV 2 hts gX12_draws_X12_isHole rfl rfl rfl (by decide +kernel) ⟨Nat.le_of_ble_eq_true rfl, Nat.le_of_ble_eq_true rfl⟩) (ct_preV (T := ct_T cI cJ cB cZ cO) (ci := 12) (q0 := 1) hE hH hP hD hS hA [1, 2, 3, 4] (by decide) rfl rfl rfl) rfl rfl hl.1 rfl (lv_room (Nat.le_of_ble_eq_true rfl)) dX12_draws_199 ⟨Nat.le_of_ble_eq_true rfl, Nat.le_of_ble_eq_true rfl⟩) hP hD hS hA [1, 2, 3, 4] [0] rfl rfl (by decide) (by decide) (fun r3903 u H locs hw hP hD hS => ?_)
            obtain ⟨hP, hD⟩ : ct_B D A H [(qm_round, .inl (cI, 120, .inl (fm_round))), mo qm vm_thrown qm_width qm_many qm_cells qm_moved qm_tape vm_taped vm_at vm_token vm_place vm_value vm_word vm_bad vm_badPlace vm_fault vm_faultPlace qm_lines qm_has qm_round qm_meets qm_stumble qm_isMud qm_cell qm_tune qm_change qm_isKept qm_steps qm_places qm_danced vm_runMost vm_runBegins qm_heardBy vm_fitMany vm_fitFirst vm_fitBeats vm_listenLeaves qm_there vm_metAt vm_metIn qm_wins x3809 x3810 x3811 y3882 y3883, (qm_has, .inl (cI, 55, .inl (fm_has))), (qm_meets, .inl (cI, 30, .inl (fm_meets))), (qm_danced, .inl (cI, 400, .inl (g3884)))] := ⟨hP, hD⟩
            have hz := hw
            rcases hz with ⟨hz, hz2⟩ | ⟨hz, hz2⟩
            · subst hz
              refine lv_if_eq (tgt := 209) hx hb dX12_draws_202 (by decide) (fun hc => absurd hc (by decide)) (fun _ => ?_)
              refine lv_iconst (v := 1) hx hb dX12_draws_205 (by decide) ?_
              refine lv_goto (tgt := 210) hx hb dX12_draws_206 (by decide) ?_
              refine lv_iadd hx hb dX12_draws_210 ?_
              refine lv_topi (fun z3904 ez3904 => ?_)
              obtain rfl : z3904 = 1 := ez3904.trans (by decide)
              refine lv_istore (lv' := [(7, .int 1), (5, .int z3890), (6, .int x3816), (4, .int x3814), (0, .ref qm), (1, .long a1), (3, .int a2)]) hx hb dX12_draws_211 hl (by decide) rfl (fun ls hl => ?_)
              refine lv_aload_n hx hb dX12_draws_213 rfl (lv_at hl 4 rfl) ?_
              refine lv_dup hx hb dX12_draws_214 rfl ?_
              refine va_get (D := D) (ci := 12) (v := .int x3809) (C := RX12) (T := TX12) (N := 45) hx hb hts hi12 hown hK hP 1 rfl rfl 40 (by decide) (hts (.fieldLink RX12 444 "OverHillModel" "nightHoles" "I") (by decide +kernel)) (fun _ h9 => h9) rfl dX12_draws_215 ?_
              refine lv_iload hx hb dX12_draws_218 (lv_at hl 0 rfl) ?_
              refine lv_iadd hx hb dX12_draws_220 ?_
              refine lv_topi (fun z3905 ez3905 => ?_)
              refine va_put (D := D) (ci := 12) (v := .int z3905) (ty := .int) (C := RX12) (T := TX12) (N := 45) hx hb hts hi12 tyX12 tyX12_ok nmX12 hown hK hP hD hS 1 rfl rfl 40 (by decide) (hts (.fieldLink RX12 444 "OverHillModel" "nightHoles" "I") (by decide +kernel)) (fun _ h9 => h9) rfl (by decide +kernel) rfl rfl (Nat.le_of_ble_eq_true rfl) dX12_draws_221 (fun H locs hP hD hS => ?_)
              obtain ⟨hP, hD⟩ : ct_B D A H [(qm_round, .inl (cI, 120, .inl (fm_round))), mo qm vm_thrown qm_width qm_many qm_cells qm_moved qm_tape vm_taped vm_at vm_token vm_place vm_value vm_word vm_bad vm_badPlace vm_fault vm_faultPlace qm_lines qm_has qm_round qm_meets qm_stumble qm_isMud qm_cell qm_tune qm_change qm_isKept qm_steps qm_places qm_danced vm_runMost vm_runBegins qm_heardBy vm_fitMany vm_fitFirst vm_fitBeats vm_listenLeaves qm_there vm_metAt vm_metIn qm_wins z3905 x3810 x3811 y3882 y3883, (qm_has, .inl (cI, 55, .inl (fm_has))), (qm_meets, .inl (cI, 30, .inl (fm_meets))), (qm_danced, .inl (cI, 400, .inl (g3884)))] := ⟨hP, hD⟩
              refine lv_iload hx hb dX12_draws_224 (lv_at hl 0 rfl) ?_
              refine lv_if_le (tgt := 243) hx hb dX12_draws_226 (by decide) (fun hc => absurd hc (by decide)) (fun _ => ?_)
              refine lv_aload_n hx hb dX12_draws_229 rfl (lv_at hl 4 rfl) ?_
              refine va_get (D := D) (ci := 12) (v := .int x3810) (C := RX12) (T := TX12) (N := 45) hx hb hts hi12 hown hK hP 1 rfl rfl 41 (by decide) (hts (.fieldLink RX12 447 "OverHillModel" "nightFirst" "I") (by decide +kernel)) (fun _ h9 => h9) rfl dX12_draws_230 ?_
              refine lv_iconst (v := (-1)) hx hb dX12_draws_233 (by decide) ?_
              refine lv_icmp_ne (tgt := 243) hx hb dX12_draws_234 (by decide) (fun hc => ?_) (fun hc => ?_)
              · have hq3906 : x3810.toInt ≠ (-1) := tq_ne rfl (by decide) hc
                obtain ⟨z3907, ez3907⟩ : ∃ z : Int32, z = x3816 + 1 := ⟨_, rfl⟩
                have fz3907 : z3907.toInt = x3816.toInt + 1 := by rw [ez3907]; exact tq_add rfl (by decide) (by omega)
                refine lv_iinc (v := z3907) (lv' := [(6, .int z3907), (7, .int 1), (5, .int z3890), (4, .int x3814), (0, .ref qm), (1, .long a1), (3, .int a2)]) hx hb dX12_draws_243 hl (k := 2) rfl ez3907.symm (by decide) rfl (fun ls hl => ?_)
                refine lv_goto (tgt := 45) hx hb dX12_draws_246 (by decide) ?_
                obtain ⟨hP9, hD9⟩ : ct_B D A H [mo qm vm_thrown qm_width qm_many qm_cells qm_moved qm_tape vm_taped vm_at vm_token vm_place vm_value vm_word vm_bad vm_badPlace vm_fault vm_faultPlace qm_lines qm_has qm_round qm_meets qm_stumble qm_isMud qm_cell qm_tune qm_change qm_isKept qm_steps qm_places qm_danced vm_runMost vm_runBegins qm_heardBy vm_fitMany vm_fitFirst vm_fitBeats vm_listenLeaves qm_there vm_metAt vm_metIn qm_wins z3905 x3810 x3811 y3882 y3883, (qm_has, .inl (cI, 55, .inl (fm_has))), (qm_round, .inl (cI, 120, .inl (fm_round))), (qm_meets, .inl (cI, 30, .inl (fm_meets))), (qm_danced, .inl (cI, 400, .inl (g3884)))] := ⟨hP.sub [1, 2, 0, 3, 4] rfl, hD.sub [1, 2, 0, 3, 4] (by decide) rfl⟩
                exact ih3817 (g3884, z3905, x3810, x3811, y3882, y3883, x3814, z3890, z3907) _ _ _ (show (100 - z3907.toInt).toNat < (100 - x3816.toInt).toNat by omega) ⟨h_g3884, h_x3810, h_x3814, (show 0 ≤ z3890.toInt ∧ z3890.toInt ≤ 11 by omega), (show 0 ≤ z3907.toInt ∧ z3907.toInt ≤ 100 by omega), ⟨hP9, hD9⟩, hS, lv_sub hl [0, 2, 3, 4, 5, 6] rfl⟩
              · have hq3906 : x3810.toInt = (-1) := tq_eq rfl (by decide) hc
                refine lv_aload_n hx hb dX12_draws_237 rfl (lv_at hl 4 rfl) ?_
                refine lv_iload hx hb dX12_draws_238 (lv_at hl 2 rfl) ?_
                refine va_put (D := D) (ci := 12) (v := .int x3816) (ty := .int) (C := RX12) (T := TX12) (N := 45) hx hb hts hi12 tyX12 tyX12_ok nmX12 hown hK hP hD hS 1 rfl rfl 41 (by decide) (hts (.fieldLink RX12 447 "OverHillModel" "nightFirst" "I") (by decide +kernel)) (fun _ h9 => h9) rfl (by decide +kernel) rfl rfl (Nat.le_of_ble_eq_true rfl) dX12_draws_240 (fun H locs hP hD hS => ?_)
                obtain ⟨hP, hD⟩ : ct_B D A H [(qm_round, .inl (cI, 120, .inl (fm_round))), mo qm vm_thrown qm_width qm_many qm_cells qm_moved qm_tape vm_taped vm_at vm_token vm_place vm_value vm_word vm_bad vm_badPlace vm_fault vm_faultPlace qm_lines qm_has qm_round qm_meets qm_stumble qm_isMud qm_cell qm_tune qm_change qm_isKept qm_steps qm_places qm_danced vm_runMost vm_runBegins qm_heardBy vm_fitMany vm_fitFirst vm_fitBeats vm_listenLeaves qm_there vm_metAt vm_metIn qm_wins z3905 x3816 x3811 y3882 y3883, (qm_has, .inl (cI, 55, .inl (fm_has))), (qm_meets, .inl (cI, 30, .inl (fm_meets))), (qm_danced, .inl (cI, 400, .inl (g3884)))] := ⟨hP, hD⟩
                obtain ⟨z3908, ez3908⟩ : ∃ z : Int32, z = x3816 + 1 := ⟨_, rfl⟩
                have fz3908 : z3908.toInt = x3816.toInt + 1 := by rw [ez3908]; exact tq_add rfl (by decide) (by omega)
                refine lv_iinc (v := z3908) (lv' := [(6, .int z3908), (7, .int 1), (5, .int z3890), (4, .int x3814), (0, .ref qm), (1, .long a1), (3, .int a2)]) hx hb dX12_draws_243 hl (k := 2) rfl ez3908.symm (by decide) rfl (fun ls hl => ?_)
                refine lv_goto (tgt := 45) hx hb dX12_draws_246 (by decide) ?_
                obtain ⟨hP9, hD9⟩ : ct_B D A H [mo qm vm_thrown qm_width qm_many qm_cells qm_moved qm_tape vm_taped vm_at vm_token vm_place vm_value vm_word vm_bad vm_badPlace vm_fault vm_faultPlace qm_lines qm_has qm_round qm_meets qm_stumble qm_isMud qm_cell qm_tune qm_change qm_isKept qm_steps qm_places qm_danced vm_runMost vm_runBegins qm_heardBy vm_fitMany vm_fitFirst vm_fitBeats vm_listenLeaves qm_there vm_metAt vm_metIn qm_wins z3905 x3816 x3811 y3882 y3883, (qm_has, .inl (cI, 55, .inl (fm_has))), (qm_round, .inl (cI, 120, .inl (fm_round))), (qm_meets, .inl (cI, 30, .inl (fm_meets))), (qm_danced, .inl (cI, 400, .inl (g3884)))] := ⟨hP.sub [1, 2, 0, 3, 4] rfl, hD.sub [1, 2, 0, 3, 4] (by decide) rfl⟩
                exact ih3817 (g3884, z3905, x3816, x3811, y3882, y3883, x3814, z3890, z3908) _ _ _ (show (100 - z3908.toInt).toNat < (100 - x3816.toInt).toNat by omega) ⟨h_g3884, (show (-1) ≤ x3816.toInt ∧ x3816.toInt ≤ 99 by omega), h_x3814, (show 0 ≤ z3890.toInt ∧ z3890.toInt ≤ 11 by omega), (show 0 ≤ z3908.toInt ∧ z3908.toInt ≤ 100 by omega), ⟨hP9, hD9⟩, hS, lv_sub hl [0, 2, 3, 4, 5, 6] rfl⟩
            · subst hz
              refine lv_if_eq (tgt := 209) hx hb dX12_draws_202 (by decide) (fun _ => ?_) (fun hc => absurd hc (by decide))
              refine lv_iconst (v := 0) hx hb dX12_draws_209 (by decide) ?_
              refine lv_iadd hx hb dX12_draws_210 ?_
              refine lv_topi (fun z3909 ez3909 => ?_)
              obtain rfl : z3909 = 0 := ez3909.trans (by decide)
              refine lv_istore (lv' := [(7, .int 0), (5, .int z3890), (6, .int x3816), (4, .int x3814), (0, .ref qm), (1, .long a1), (3, .int a2)]) hx hb dX12_draws_211 hl (by decide) rfl (fun ls hl => ?_)
              refine lv_aload_n hx hb dX12_draws_213 rfl (lv_at hl 4 rfl) ?_
              refine lv_dup hx hb dX12_draws_214 rfl ?_
              refine va_get (D := D) (ci := 12) (v := .int x3809) (C := RX12) (T := TX12) (N := 45) hx hb hts hi12 hown hK hP 1 rfl rfl 40 (by decide) (hts (.fieldLink RX12 444 "OverHillModel" "nightHoles" "I") (by decide +kernel)) (fun _ h9 => h9) rfl dX12_draws_215 ?_
              refine lv_iload hx hb dX12_draws_218 (lv_at hl 0 rfl) ?_
              refine lv_iadd hx hb dX12_draws_220 ?_
              refine lv_topi (fun z3910 ez3910 => ?_)
              refine va_put (D := D) (ci := 12) (v := .int z3910) (ty := .int) (C := RX12) (T := TX12) (N := 45) hx hb hts hi12 tyX12 tyX12_ok nmX12 hown hK hP hD hS 1 rfl rfl 40 (by decide) (hts (.fieldLink RX12 444 "OverHillModel" "nightHoles" "I") (by decide +kernel)) (fun _ h9 => h9) rfl (by decide +kernel) rfl rfl (Nat.le_of_ble_eq_true rfl) dX12_draws_221 (fun H locs hP hD hS => ?_)
              obtain ⟨hP, hD⟩ : ct_B D A H [(qm_round, .inl (cI, 120, .inl (fm_round))), mo qm vm_thrown qm_width qm_many qm_cells qm_moved qm_tape vm_taped vm_at vm_token vm_place vm_value vm_word vm_bad vm_badPlace vm_fault vm_faultPlace qm_lines qm_has qm_round qm_meets qm_stumble qm_isMud qm_cell qm_tune qm_change qm_isKept qm_steps qm_places qm_danced vm_runMost vm_runBegins qm_heardBy vm_fitMany vm_fitFirst vm_fitBeats vm_listenLeaves qm_there vm_metAt vm_metIn qm_wins z3910 x3810 x3811 y3882 y3883, (qm_has, .inl (cI, 55, .inl (fm_has))), (qm_meets, .inl (cI, 30, .inl (fm_meets))), (qm_danced, .inl (cI, 400, .inl (g3884)))] := ⟨hP, hD⟩
              refine lv_iload hx hb dX12_draws_224 (lv_at hl 0 rfl) ?_
              refine lv_if_le (tgt := 243) hx hb dX12_draws_226 (by decide) (fun _ => ?_) (fun hc => absurd hc (by decide))
              obtain ⟨z3911, ez3911⟩ : ∃ z : Int32, z = x3816 + 1 := ⟨_, rfl⟩
              have fz3911 : z3911.toInt = x3816.toInt + 1 := by rw [ez3911]; exact tq_add rfl (by decide) (by omega)
              refine lv_iinc (v := z3911) (lv' := [(6, .int z3911), (7, .int 0), (5, .int z3890), (4, .int x3814), (0, .ref qm), (1, .long a1), (3, .int a2)]) hx hb dX12_draws_243 hl (k := 2) rfl ez3911.symm (by decide) rfl (fun ls hl => ?_)
              refine lv_goto (tgt := 45) hx hb dX12_draws_246 (by decide) ?_
              obtain ⟨hP9, hD9⟩ : ct_B D A H [mo qm vm_thrown qm_width qm_many qm_cells qm_moved qm_tape vm_taped vm_at vm_token vm_place vm_value vm_word vm_bad vm_badPlace vm_fault vm_faultPlace qm_lines qm_has qm_round qm_meets qm_stumble qm_isMud qm_cell qm_tune qm_change qm_isKept qm_steps qm_places qm_danced vm_runMost vm_runBegins qm_heardBy vm_fitMany vm_fitFirst vm_fitBeats vm_listenLeaves qm_there vm_metAt vm_metIn qm_wins z3910 x3810 x3811 y3882 y3883, (qm_has, .inl (cI, 55, .inl (fm_has))), (qm_round, .inl (cI, 120, .inl (fm_round))), (qm_meets, .inl (cI, 30, .inl (fm_meets))), (qm_danced, .inl (cI, 400, .inl (g3884)))] := ⟨hP.sub [1, 2, 0, 3, 4] rfl, hD.sub [1, 2, 0, 3, 4] (by decide) rfl⟩
              exact ih3817 (g3884, z3910, x3810, x3811, y3882, y3883, x3814, z3890, z3911) _ _ _ (show (100 - z3911.toInt).toNat < (100 - x3816.toInt).toNat by omega) ⟨h_g3884, h_x3810, h_x3814, (show 0 ≤ z3890.toInt ∧ z3890.toInt ≤ 11 by omega), (show 0 ≤ z3911.toInt ∧ z3911.toInt ≤ 100 by omega), ⟨hP9, hD9⟩, hS, lv_sub hl [0, 2, 3, 4, 5, 6] rfl⟩
      · have hq3851 : 0 < r3847.toInt := tq_nle rfl (by decide) hc
        refine lv_aload_n hx hb dX12_draws_105 rfl (lv_at hl 3 rfl) ?_
        refine va_get (D := D) (ci := 12) (v := .ref qm_danced) (C := RX12) (T := TX12) (N := 45) hx hb hts hi12 hown hK hP 3 rfl rfl 28 (by decide) (hts (.fieldLink RX12 68 "OverHillModel" "danced" "[I") (by decide +kernel)) (fun _ h9 => h9) rfl dX12_draws_106 ?_
        refine lv_iload hx hb dX12_draws_109 (lv_at hl 0 rfl) ?_
        refine lv_aload_n hx hb dX12_draws_111 rfl (lv_at hl 3 rfl) ?_
        refine lv_aload_n hx hb dX12_draws_112 rfl (lv_at hl 3 rfl) ?_
        refine va_get (D := D) (ci := 12) (v := .ref qm_round) (C := RX12) (T := TX12) (N := 45) hx hb hts hi12 hown hK hP 3 rfl rfl 18 (by decide) (hts (.fieldLink RX12 37 "OverHillModel" "round" "[I") (by decide +kernel)) (fun _ h9 => h9) rfl dX12_draws_113 ?_
        refine lv_iload hx hb dX12_draws_116 (lv_at hl 2 rfl) ?_
        refine va_iald (D := D) hx hb hK hP 0 0 rfl rfl (tq_in rfl (by omega)) dX12_draws_118 ?_
        refine lv_topi (fun z3912 ez3912 => ?_)
        have fz3912 : 0 ≤ z3912.toInt ∧ z3912.toInt ≤ 5 := by rw [ez3912]; exact ar_get h_fm_round x3814 0 (by omega) (show x3814.toInt % 1 = 0 by omega) rfl
        refine ct_calli (D := D) (wr := [(qm_round, .inl (cI, 120, .inl (fm_round))), (qm_meets, .inl (cI, 30, .inl (fm_meets))), (qm_danced, .inl (cI, 400, .inl (g3821)))]) (va_runV (As := [.int z3912]) (rest := [.int x3816, .ref qm_danced]) ⟨hx, hb, hml, hown, hts⟩ (c_X12_slips l D G cI cJ cB cZ cO qm vm_thrown qm_width qm_many qm_cells qm_moved qm_tape vm_taped vm_at vm_token vm_place vm_value vm_word vm_bad vm_badPlace vm_fault vm_faultPlace qm_lines qm_has fm_has qm_round qm_meets qm_stumble qm_isMud qm_cell qm_tune qm_change qm_isKept qm_steps qm_places qm_danced vm_runMost vm_runBegins qm_heardBy vm_fitMany vm_fitFirst vm_fitBeats vm_listenLeaves qm_there vm_metAt vm_metIn qm_wins x3809 x3810 x3811 x3812 y3824 z3912 h_vm_taped h_vm_at h_vm_value h_fm_has fz3912 H.size) (cwV 1 hts gX12_draws_X12_slips rfl rfl rfl (by decide +kernel) ⟨Nat.le_of_ble_eq_true rfl, Nat.le_of_ble_eq_true rfl⟩) (ct_preV (T := ct_T cI cJ cB cZ cO) (ci := 12) (q0 := 3) hE hH hP hD hS hA [3, 4] (by decide) rfl rfl rfl) rfl rfl hl.1 rfl (lv_room (Nat.le_of_ble_eq_true rfl)) dX12_draws_119 ⟨Nat.le_of_ble_eq_true rfl, Nat.le_of_ble_eq_true rfl⟩) hP hD hS hA [3, 4] [0, 1, 2] rfl rfl (by decide) (by decide) (fun r3913 u H locs hw hP hD hS => ?_)
        obtain ⟨y3914, y3915⟩ := u
        obtain ⟨hP, hD⟩ : ct_B D A H [(qm_round, .inl (cI, 120, .inl (fm_round))), (qm_meets, .inl (cI, 30, .inl (fm_meets))), (qm_danced, .inl (cI, 400, .inl (g3821))), mo qm vm_thrown qm_width qm_many qm_cells qm_moved qm_tape vm_taped vm_at vm_token vm_place vm_value vm_word vm_bad vm_badPlace vm_fault vm_faultPlace qm_lines qm_has qm_round qm_meets qm_stumble qm_isMud qm_cell qm_tune qm_change qm_isKept qm_steps qm_places qm_danced vm_runMost vm_runBegins qm_heardBy vm_fitMany vm_fitFirst vm_fitBeats vm_listenLeaves qm_there vm_metAt vm_metIn qm_wins x3809 x3810 x3811 y3914 y3915, (qm_has, .inl (cI, 55, .inl (fm_has)))] := ⟨hP, hD⟩
        have hz := hw
        have h_r3913 : 0 ≤ r3913.toInt ∧ r3913.toInt ≤ 5 := hz
        refine va_iast (D := D) hx hb hK hP hD hS 2 0 rfl rfl (tq_in rfl (by omega)) dX12_draws_122 (fun H locs hP hD hS => ?_)
        obtain ⟨g3916, h_g3916, hP, hD⟩ : ∃ g3916 : Nat → Int32, ar_ok [(-1)] [5] g3916 ∧ ct_B D A H [(qm_round, .inl (cI, 120, .inl (fm_round))), (qm_meets, .inl (cI, 30, .inl (fm_meets))), (qm_danced, .inl (cI, 400, .inl (g3916))), mo qm vm_thrown qm_width qm_many qm_cells qm_moved qm_tape vm_taped vm_at vm_token vm_place vm_value vm_word vm_bad vm_badPlace vm_fault vm_faultPlace qm_lines qm_has qm_round qm_meets qm_stumble qm_isMud qm_cell qm_tune qm_change qm_isKept qm_steps qm_places qm_danced vm_runMost vm_runBegins qm_heardBy vm_fitMany vm_fitFirst vm_fitBeats vm_listenLeaves qm_there vm_metAt vm_metIn qm_wins x3809 x3810 x3811 y3914 y3915, (qm_has, .inl (cI, 55, .inl (fm_has)))] := ⟨_, ar_set h_g3821 x3816 r3913 0 (by omega) (show x3816.toInt % 1 = 0 by omega) rfl (show (-1) ≤ r3913.toInt ∧ r3913.toInt ≤ 5 by omega), hP, hD⟩
        refine lv_iload hx hb dX12_draws_123 (lv_at hl 2 rfl) ?_
        refine lv_iconst (v := 1) hx hb dX12_draws_125 (by decide) ?_
        refine lv_iadd hx hb dX12_draws_126 ?_
        refine lv_topi (fun z3917 ez3917 => ?_)
        have fz3917 : z3917.toInt = x3814.toInt + 1 := by rw [ez3917]; exact tq_add rfl (by decide) (by omega)
        refine lv_aload_n hx hb dX12_draws_127 rfl (lv_at hl 3 rfl) ?_
        refine lv_iconst (v := 0) hx hb dX12_draws_128 (by decide) ?_
        refine ct_calli (D := D) (wr := [(qm_round, .inl (cI, 120, .inl (fm_round))), (qm_meets, .inl (cI, 30, .inl (fm_meets))), (qm_danced, .inl (cI, 400, .inl (g3916)))]) (va_runV (As := [.int 0]) (rest := [.int z3917]) ⟨hx, hb, hml, hown, hts⟩ (c_X12_lengthOf l D G cI cJ cB cZ cO qm vm_thrown qm_width qm_many qm_cells qm_moved qm_tape vm_taped vm_at vm_token vm_place vm_value vm_word vm_bad vm_badPlace vm_fault vm_faultPlace qm_lines qm_has fm_has qm_round qm_meets qm_stumble qm_isMud qm_cell qm_tune qm_change qm_isKept qm_steps qm_places qm_danced vm_runMost vm_runBegins qm_heardBy vm_fitMany vm_fitFirst vm_fitBeats vm_listenLeaves qm_there vm_metAt vm_metIn qm_wins x3809 x3810 x3811 y3914 y3915 0 h_vm_taped h_vm_at h_vm_value h_fm_has (by decide) H.size) (cwV 1 hts gX12_draws_X12_lengthOf rfl rfl rfl (by decide +kernel) ⟨Nat.le_of_ble_eq_true rfl, Nat.le_of_ble_eq_true rfl⟩) (ct_preV (T := ct_T cI cJ cB cZ cO) (ci := 12) (q0 := 3) hE hH hP hD hS hA [3, 4] (by decide) rfl rfl rfl) rfl rfl hl.1 rfl (lv_room (Nat.le_of_ble_eq_true rfl)) dX12_draws_129 ⟨Nat.le_of_ble_eq_true rfl, Nat.le_of_ble_eq_true rfl⟩) hP hD hS hA [3, 4] [0, 1, 2] rfl rfl (by decide) (by decide) (fun r3918 u H locs hw hP hD hS => ?_)
        obtain ⟨hP, hD⟩ : ct_B D A H [(qm_round, .inl (cI, 120, .inl (fm_round))), (qm_meets, .inl (cI, 30, .inl (fm_meets))), (qm_danced, .inl (cI, 400, .inl (g3916))), mo qm vm_thrown qm_width qm_many qm_cells qm_moved qm_tape vm_taped vm_at vm_token vm_place vm_value vm_word vm_bad vm_badPlace vm_fault vm_faultPlace qm_lines qm_has qm_round qm_meets qm_stumble qm_isMud qm_cell qm_tune qm_change qm_isKept qm_steps qm_places qm_danced vm_runMost vm_runBegins qm_heardBy vm_fitMany vm_fitFirst vm_fitBeats vm_listenLeaves qm_there vm_metAt vm_metIn qm_wins x3809 x3810 x3811 y3914 y3915, (qm_has, .inl (cI, 55, .inl (fm_has)))] := ⟨hP, hD⟩
        have hk3919 : (0 : Int32).toInt = 0 := by decide
        obtain ⟨hz, hp0⟩ := hw
        have hp_3920 : r3918 = fm_has (3 + (0 : Int32).toInt).toNat := hp0
        have hl3921 : r3918.toInt = (fm_has 3).toInt := by rw [hp_3920]; rfl
        have h_r3918 : 0 ≤ r3918.toInt ∧ r3918.toInt ≤ 12 := hz
        refine lv_irem hx hb dX12_draws_132 (tq_nz (by omega)) ?_
        refine lv_topi (fun z3922 ez3922 => ?_)
        have fz3922 : 0 ≤ z3922.toInt ∧ z3922.toInt < r3918.toInt := by rw [ez3922]; exact tq_remp rfl rfl (by omega) (by omega)
        refine lv_istore (lv' := [(4, .int z3922), (6, .int x3816), (5, .int x3815), (0, .ref qm), (1, .long a1), (3, .int a2)]) hx hb dX12_draws_133 hl (by decide) rfl (fun ls hl => ?_)
        refine lv_aload_n hx hb dX12_draws_135 rfl (lv_at hl 3 rfl) ?_
        refine lv_iconst (v := 1) hx hb dX12_draws_136 (by decide) ?_
        refine ct_calli (D := D) (wr := [(qm_round, .inl (cI, 120, .inl (fm_round))), (qm_meets, .inl (cI, 30, .inl (fm_meets))), (qm_danced, .inl (cI, 400, .inl (g3916)))]) (va_runV (As := [.int 1]) (rest := []) ⟨hx, hb, hml, hown, hts⟩ (c_X12_lengthOf l D G cI cJ cB cZ cO qm vm_thrown qm_width qm_many qm_cells qm_moved qm_tape vm_taped vm_at vm_token vm_place vm_value vm_word vm_bad vm_badPlace vm_fault vm_faultPlace qm_lines qm_has fm_has qm_round qm_meets qm_stumble qm_isMud qm_cell qm_tune qm_change qm_isKept qm_steps qm_places qm_danced vm_runMost vm_runBegins qm_heardBy vm_fitMany vm_fitFirst vm_fitBeats vm_listenLeaves qm_there vm_metAt vm_metIn qm_wins x3809 x3810 x3811 y3914 y3915 1 h_vm_taped h_vm_at h_vm_value h_fm_has (by decide) H.size) (cwV 1 hts gX12_draws_X12_lengthOf rfl rfl rfl (by decide +kernel) ⟨Nat.le_of_ble_eq_true rfl, Nat.le_of_ble_eq_true rfl⟩) (ct_preV (T := ct_T cI cJ cB cZ cO) (ci := 12) (q0 := 3) hE hH hP hD hS hA [3, 4] (by decide) rfl rfl rfl) rfl rfl hl.1 rfl (lv_room (Nat.le_of_ble_eq_true rfl)) dX12_draws_137 ⟨Nat.le_of_ble_eq_true rfl, Nat.le_of_ble_eq_true rfl⟩) hP hD hS hA [3, 4] [0, 1, 2] rfl rfl (by decide) (by decide) (fun r3923 u H locs hw hP hD hS => ?_)
        obtain ⟨hP, hD⟩ : ct_B D A H [(qm_round, .inl (cI, 120, .inl (fm_round))), (qm_meets, .inl (cI, 30, .inl (fm_meets))), (qm_danced, .inl (cI, 400, .inl (g3916))), mo qm vm_thrown qm_width qm_many qm_cells qm_moved qm_tape vm_taped vm_at vm_token vm_place vm_value vm_word vm_bad vm_badPlace vm_fault vm_faultPlace qm_lines qm_has qm_round qm_meets qm_stumble qm_isMud qm_cell qm_tune qm_change qm_isKept qm_steps qm_places qm_danced vm_runMost vm_runBegins qm_heardBy vm_fitMany vm_fitFirst vm_fitBeats vm_listenLeaves qm_there vm_metAt vm_metIn qm_wins x3809 x3810 x3811 y3914 y3915, (qm_has, .inl (cI, 55, .inl (fm_has)))] := ⟨hP, hD⟩
        have hk3924 : (1 : Int32).toInt = 1 := by decide
        obtain ⟨hz, hp0⟩ := hw
        have hp_3925 : r3923 = fm_has (3 + (1 : Int32).toInt).toNat := hp0
        have hl3926 : r3923.toInt = (fm_has 4).toInt := by rw [hp_3925]; rfl
        have h_r3923 : 0 ≤ r3923.toInt ∧ r3923.toInt ≤ 12 := hz
        refine lv_if_le (tgt := 180) hx hb dX12_draws_140 (by decide) (fun hc => ?_) (fun hc => ?_)
        · have hq3927 : r3923.toInt ≤ 0 := tq_le rfl (by decide) hc
          refine lv_aload_n hx hb dX12_draws_180 rfl (lv_at hl 3 rfl) ?_
          refine lv_iconst (v := 0) hx hb dX12_draws_181 (by decide) ?_
          refine lv_iload hx hb dX12_draws_182 (lv_at hl 1 rfl) ?_
          refine ct_calli (D := D) (wr := [(qm_round, .inl (cI, 120, .inl (fm_round)))]) (va_runV (As := [.int 0, .int x3816]) (rest := []) ⟨hx, hb, hml, hown, hts⟩ (c_X12_isHole l D G cI cJ cB cZ cO qm vm_thrown qm_width qm_many qm_cells qm_moved qm_tape vm_taped vm_at vm_token vm_place vm_value vm_word vm_bad vm_badPlace vm_fault vm_faultPlace qm_lines qm_has fm_has qm_round qm_meets fm_meets qm_stumble qm_isMud qm_cell qm_tune qm_change qm_isKept qm_steps qm_places qm_danced g3916 vm_runMost vm_runBegins qm_heardBy vm_fitMany vm_fitFirst vm_fitBeats vm_listenLeaves qm_there vm_metAt vm_metIn qm_wins x3809 x3810 x3811 y3914 y3915 0 x3816 h_vm_taped h_vm_at h_vm_value h_fm_has h_g3916 (by decide) (by omega) H.size) (cwV 2 hts gX12_draws_X12_isHole rfl rfl rfl (by decide +kernel) ⟨Nat.le_of_ble_eq_true rfl, Nat.le_of_ble_eq_true rfl⟩) (ct_preV (T := ct_T cI cJ cB cZ cO) (ci := 12) (q0 := 3) hE hH hP hD hS hA [3, 4, 1, 2] (by decide) rfl rfl rfl) rfl rfl hl.1 rfl (lv_room (Nat.le_of_ble_eq_true rfl)) dX12_draws_184 ⟨Nat.le_of_ble_eq_true rfl, Nat.le_of_ble_eq_true rfl⟩) hP hD hS hA [3, 4, 1, 2] [0] rfl rfl (by decide) (by decide) (fun r3928 u H locs hw hP hD hS => ?_)
          obtain ⟨hP, hD⟩ : ct_B D A H [(qm_round, .inl (cI, 120, .inl (fm_round))), mo qm vm_thrown qm_width qm_many qm_cells qm_moved qm_tape vm_taped vm_at vm_token vm_place vm_value vm_word vm_bad vm_badPlace vm_fault vm_faultPlace qm_lines qm_has qm_round qm_meets qm_stumble qm_isMud qm_cell qm_tune qm_change qm_isKept qm_steps qm_places qm_danced vm_runMost vm_runBegins qm_heardBy vm_fitMany vm_fitFirst vm_fitBeats vm_listenLeaves qm_there vm_metAt vm_metIn qm_wins x3809 x3810 x3811 y3914 y3915, (qm_has, .inl (cI, 55, .inl (fm_has))), (qm_meets, .inl (cI, 30, .inl (fm_meets))), (qm_danced, .inl (cI, 400, .inl (g3916)))] := ⟨hP, hD⟩
          have hz := hw
          rcases hz with ⟨hz, hz2⟩ | ⟨hz, hz2⟩
          · subst hz
            refine lv_if_eq (tgt := 194) hx hb dX12_draws_187 (by decide) (fun hc => absurd hc (by decide)) (fun _ => ?_)
            refine lv_iconst (v := 1) hx hb dX12_draws_190 (by decide) ?_
            refine lv_goto (tgt := 195) hx hb dX12_draws_191 (by decide) ?_
            refine lv_aload_n hx hb dX12_draws_195 rfl (lv_at hl 3 rfl) ?_
            refine lv_iconst (v := 1) hx hb dX12_draws_196 (by decide) ?_
            refine lv_iload hx hb dX12_draws_197 (lv_at hl 1 rfl) ?_
            refine ct_calli (D := D) (wr := [(qm_round, .inl (cI, 120, .inl (fm_round)))]) (va_runV (As := [.int 1, .int x3816]) (rest := [.int 1]) ⟨hx, hb, hml, hown, hts⟩ (c_X12_isHole l D G cI cJ cB cZ cO qm vm_thrown qm_width qm_many qm_cells qm_moved qm_tape vm_taped vm_at vm_token vm_place vm_value vm_word vm_bad vm_badPlace vm_fault vm_faultPlace qm_lines qm_has fm_has qm_round qm_meets fm_meets qm_stumble qm_isMud qm_cell qm_tune qm_change qm_isKept qm_steps qm_places qm_danced g3916 vm_runMost vm_runBegins qm_heardBy vm_fitMany vm_fitFirst vm_fitBeats vm_listenLeaves qm_there vm_metAt vm_metIn qm_wins x3809 x3810 x3811 y3914 y3915 1 x3816 h_vm_taped h_vm_at h_vm_value h_fm_has h_g3916 (by decide) (by omega) H.size) (cwV 2 hts gX12_draws_X12_isHole rfl rfl rfl (by decide +kernel) ⟨Nat.le_of_ble_eq_true rfl, Nat.le_of_ble_eq_true rfl⟩) (ct_preV (T := ct_T cI cJ cB cZ cO) (ci := 12) (q0 := 1) hE hH hP hD hS hA [1, 2, 3, 4] (by decide) rfl rfl rfl) rfl rfl hl.1 rfl (lv_room (Nat.le_of_ble_eq_true rfl)) dX12_draws_199 ⟨Nat.le_of_ble_eq_true rfl, Nat.le_of_ble_eq_true rfl⟩) hP hD hS hA [1, 2, 3, 4] [0] rfl rfl (by decide) (by decide) (fun r3929 u H locs hw hP hD hS => ?_)
            obtain ⟨hP, hD⟩ : ct_B D A H [(qm_round, .inl (cI, 120, .inl (fm_round))), mo qm vm_thrown qm_width qm_many qm_cells qm_moved qm_tape vm_taped vm_at vm_token vm_place vm_value vm_word vm_bad vm_badPlace vm_fault vm_faultPlace qm_lines qm_has qm_round qm_meets qm_stumble qm_isMud qm_cell qm_tune qm_change qm_isKept qm_steps qm_places qm_danced vm_runMost vm_runBegins qm_heardBy vm_fitMany vm_fitFirst vm_fitBeats vm_listenLeaves qm_there vm_metAt vm_metIn qm_wins x3809 x3810 x3811 y3914 y3915, (qm_has, .inl (cI, 55, .inl (fm_has))), (qm_meets, .inl (cI, 30, .inl (fm_meets))), (qm_danced, .inl (cI, 400, .inl (g3916)))] := ⟨hP, hD⟩
            have hz := hw
            rcases hz with ⟨hz, hz2⟩ | ⟨hz, hz2⟩
            · subst hz
              refine lv_if_eq (tgt := 209) hx hb dX12_draws_202 (by decide) (fun hc => absurd hc (by decide)) (fun _ => ?_)
              refine lv_iconst (v := 1) hx hb dX12_draws_205 (by decide) ?_
              refine lv_goto (tgt := 210) hx hb dX12_draws_206 (by decide) ?_
              refine lv_iadd hx hb dX12_draws_210 ?_
              refine lv_topi (fun z3930 ez3930 => ?_)
              obtain rfl : z3930 = 2 := ez3930.trans (by decide)
              refine lv_istore (lv' := [(7, .int 2), (4, .int z3922), (6, .int x3816), (5, .int x3815), (0, .ref qm), (1, .long a1), (3, .int a2)]) hx hb dX12_draws_211 hl (by decide) rfl (fun ls hl => ?_)
              refine lv_aload_n hx hb dX12_draws_213 rfl (lv_at hl 4 rfl) ?_
              refine lv_dup hx hb dX12_draws_214 rfl ?_
              refine va_get (D := D) (ci := 12) (v := .int x3809) (C := RX12) (T := TX12) (N := 45) hx hb hts hi12 hown hK hP 1 rfl rfl 40 (by decide) (hts (.fieldLink RX12 444 "OverHillModel" "nightHoles" "I") (by decide +kernel)) (fun _ h9 => h9) rfl dX12_draws_215 ?_
              refine lv_iload hx hb dX12_draws_218 (lv_at hl 0 rfl) ?_
              refine lv_iadd hx hb dX12_draws_220 ?_
              refine lv_topi (fun z3931 ez3931 => ?_)
              refine va_put (D := D) (ci := 12) (v := .int z3931) (ty := .int) (C := RX12) (T := TX12) (N := 45) hx hb hts hi12 tyX12 tyX12_ok nmX12 hown hK hP hD hS 1 rfl rfl 40 (by decide) (hts (.fieldLink RX12 444 "OverHillModel" "nightHoles" "I") (by decide +kernel)) (fun _ h9 => h9) rfl (by decide +kernel) rfl rfl (Nat.le_of_ble_eq_true rfl) dX12_draws_221 (fun H locs hP hD hS => ?_)
              obtain ⟨hP, hD⟩ : ct_B D A H [(qm_round, .inl (cI, 120, .inl (fm_round))), mo qm vm_thrown qm_width qm_many qm_cells qm_moved qm_tape vm_taped vm_at vm_token vm_place vm_value vm_word vm_bad vm_badPlace vm_fault vm_faultPlace qm_lines qm_has qm_round qm_meets qm_stumble qm_isMud qm_cell qm_tune qm_change qm_isKept qm_steps qm_places qm_danced vm_runMost vm_runBegins qm_heardBy vm_fitMany vm_fitFirst vm_fitBeats vm_listenLeaves qm_there vm_metAt vm_metIn qm_wins z3931 x3810 x3811 y3914 y3915, (qm_has, .inl (cI, 55, .inl (fm_has))), (qm_meets, .inl (cI, 30, .inl (fm_meets))), (qm_danced, .inl (cI, 400, .inl (g3916)))] := ⟨hP, hD⟩
              refine lv_iload hx hb dX12_draws_224 (lv_at hl 0 rfl) ?_
              refine lv_if_le (tgt := 243) hx hb dX12_draws_226 (by decide) (fun hc => absurd hc (by decide)) (fun _ => ?_)
              refine lv_aload_n hx hb dX12_draws_229 rfl (lv_at hl 4 rfl) ?_
              refine va_get (D := D) (ci := 12) (v := .int x3810) (C := RX12) (T := TX12) (N := 45) hx hb hts hi12 hown hK hP 1 rfl rfl 41 (by decide) (hts (.fieldLink RX12 447 "OverHillModel" "nightFirst" "I") (by decide +kernel)) (fun _ h9 => h9) rfl dX12_draws_230 ?_
              refine lv_iconst (v := (-1)) hx hb dX12_draws_233 (by decide) ?_
              refine lv_icmp_ne (tgt := 243) hx hb dX12_draws_234 (by decide) (fun hc => ?_) (fun hc => ?_)
              · have hq3932 : x3810.toInt ≠ (-1) := tq_ne rfl (by decide) hc
                obtain ⟨z3933, ez3933⟩ : ∃ z : Int32, z = x3816 + 1 := ⟨_, rfl⟩
                have fz3933 : z3933.toInt = x3816.toInt + 1 := by rw [ez3933]; exact tq_add rfl (by decide) (by omega)
                refine lv_iinc (v := z3933) (lv' := [(6, .int z3933), (7, .int 2), (4, .int z3922), (5, .int x3815), (0, .ref qm), (1, .long a1), (3, .int a2)]) hx hb dX12_draws_243 hl (k := 2) rfl ez3933.symm (by decide) rfl (fun ls hl => ?_)
                refine lv_goto (tgt := 45) hx hb dX12_draws_246 (by decide) ?_
                obtain ⟨hP9, hD9⟩ : ct_B D A H [mo qm vm_thrown qm_width qm_many qm_cells qm_moved qm_tape vm_taped vm_at vm_token vm_place vm_value vm_word vm_bad vm_badPlace vm_fault vm_faultPlace qm_lines qm_has qm_round qm_meets qm_stumble qm_isMud qm_cell qm_tune qm_change qm_isKept qm_steps qm_places qm_danced vm_runMost vm_runBegins qm_heardBy vm_fitMany vm_fitFirst vm_fitBeats vm_listenLeaves qm_there vm_metAt vm_metIn qm_wins z3931 x3810 x3811 y3914 y3915, (qm_has, .inl (cI, 55, .inl (fm_has))), (qm_round, .inl (cI, 120, .inl (fm_round))), (qm_meets, .inl (cI, 30, .inl (fm_meets))), (qm_danced, .inl (cI, 400, .inl (g3916)))] := ⟨hP.sub [1, 2, 0, 3, 4] rfl, hD.sub [1, 2, 0, 3, 4] (by decide) rfl⟩
                exact ih3817 (g3916, z3931, x3810, x3811, y3914, y3915, z3922, x3815, z3933) _ _ _ (show (100 - z3933.toInt).toNat < (100 - x3816.toInt).toNat by omega) ⟨h_g3916, h_x3810, (show 0 ≤ z3922.toInt ∧ z3922.toInt ≤ 11 by omega), h_x3815, (show 0 ≤ z3933.toInt ∧ z3933.toInt ≤ 100 by omega), ⟨hP9, hD9⟩, hS, lv_sub hl [0, 3, 2, 4, 5, 6] rfl⟩
              · have hq3932 : x3810.toInt = (-1) := tq_eq rfl (by decide) hc
                refine lv_aload_n hx hb dX12_draws_237 rfl (lv_at hl 4 rfl) ?_
                refine lv_iload hx hb dX12_draws_238 (lv_at hl 2 rfl) ?_
                refine va_put (D := D) (ci := 12) (v := .int x3816) (ty := .int) (C := RX12) (T := TX12) (N := 45) hx hb hts hi12 tyX12 tyX12_ok nmX12 hown hK hP hD hS 1 rfl rfl 41 (by decide) (hts (.fieldLink RX12 447 "OverHillModel" "nightFirst" "I") (by decide +kernel)) (fun _ h9 => h9) rfl (by decide +kernel) rfl rfl (Nat.le_of_ble_eq_true rfl) dX12_draws_240 (fun H locs hP hD hS => ?_)
                obtain ⟨hP, hD⟩ : ct_B D A H [(qm_round, .inl (cI, 120, .inl (fm_round))), mo qm vm_thrown qm_width qm_many qm_cells qm_moved qm_tape vm_taped vm_at vm_token vm_place vm_value vm_word vm_bad vm_badPlace vm_fault vm_faultPlace qm_lines qm_has qm_round qm_meets qm_stumble qm_isMud qm_cell qm_tune qm_change qm_isKept qm_steps qm_places qm_danced vm_runMost vm_runBegins qm_heardBy vm_fitMany vm_fitFirst vm_fitBeats vm_listenLeaves qm_there vm_metAt vm_metIn qm_wins z3931 x3816 x3811 y3914 y3915, (qm_has, .inl (cI, 55, .inl (fm_has))), (qm_meets, .inl (cI, 30, .inl (fm_meets))), (qm_danced, .inl (cI, 400, .inl (g3916)))] := ⟨hP, hD⟩
                obtain ⟨z3934, ez3934⟩ : ∃ z : Int32, z = x3816 + 1 := ⟨_, rfl⟩
                have fz3934 : z3934.toInt = x3816.toInt + 1 := by rw [ez3934]; exact tq_add rfl (by decide) (by omega)
                refine lv_iinc (v := z3934) (lv' := [(6, .int z3934), (7, .int 2), (4, .int z3922), (5, .int x3815), (0, .ref qm), (1, .long a1), (3, .int a2)]) hx hb dX12_draws_243 hl (k := 2) rfl ez3934.symm (by decide) rfl (fun ls hl => ?_)
                refine lv_goto (tgt := 45) hx hb dX12_draws_246 (by decide) ?_
                obtain ⟨hP9, hD9⟩ : ct_B D A H [mo qm vm_thrown qm_width qm_many qm_cells qm_moved qm_tape vm_taped vm_at vm_token vm_place vm_value vm_word vm_bad vm_badPlace vm_fault vm_faultPlace qm_lines qm_has qm_round qm_meets qm_stumble qm_isMud qm_cell qm_tune qm_change qm_isKept qm_steps qm_places qm_danced vm_runMost vm_runBegins qm_heardBy vm_fitMany vm_fitFirst vm_fitBeats vm_listenLeaves qm_there vm_metAt vm_metIn qm_wins z3931 x3816 x3811 y3914 y3915, (qm_has, .inl (cI, 55, .inl (fm_has))), (qm_round, .inl (cI, 120, .inl (fm_round))), (qm_meets, .inl (cI, 30, .inl (fm_meets))), (qm_danced, .inl (cI, 400, .inl (g3916)))] := ⟨hP.sub [1, 2, 0, 3, 4] rfl, hD.sub [1, 2, 0, 3, 4] (by decide) rfl⟩
                exact ih3817 (g3916, z3931, x3816, x3811, y3914, y3915, z3922, x3815, z3934) _ _ _ (show (100 - z3934.toInt).toNat < (100 - x3816.toInt).toNat by omega) ⟨h_g3916, (show (-1) ≤ x3816.toInt ∧ x3816.toInt ≤ 99 by omega), (show 0 ≤ z3922.toInt ∧ z3922.toInt ≤ 11 by omega), h_x3815, (show 0 ≤ z3934.toInt ∧ z3934.toInt ≤ 100 by omega), ⟨hP9, hD9⟩, hS, lv_sub hl [0, 3, 2, 4, 5, 6] rfl⟩
            · subst hz
              refine lv_if_eq (tgt := 209) hx hb dX12_draws_202 (by decide) (fun _ => ?_) (fun hc => absurd hc (by decide))
              refine lv_iconst (v := 0) hx hb dX12_draws_209 (by decide) ?_
              refine lv_iadd hx hb dX12_draws_210 ?_
              refine lv_topi (fun z3935 ez3935 => ?_)
              obtain rfl : z3935 = 1 := ez3935.trans (by decide)
              refine lv_istore (lv' := [(7, .int 1), (4, .int z3922), (6, .int x3816), (5, .int x3815), (0, .ref qm), (1, .long a1), (3, .int a2)]) hx hb dX12_draws_211 hl (by decide) rfl (fun ls hl => ?_)
              refine lv_aload_n hx hb dX12_draws_213 rfl (lv_at hl 4 rfl) ?_
              refine lv_dup hx hb dX12_draws_214 rfl ?_
              refine va_get (D := D) (ci := 12) (v := .int x3809) (C := RX12) (T := TX12) (N := 45) hx hb hts hi12 hown hK hP 1 rfl rfl 40 (by decide) (hts (.fieldLink RX12 444 "OverHillModel" "nightHoles" "I") (by decide +kernel)) (fun _ h9 => h9) rfl dX12_draws_215 ?_
              refine lv_iload hx hb dX12_draws_218 (lv_at hl 0 rfl) ?_
              refine lv_iadd hx hb dX12_draws_220 ?_
              refine lv_topi (fun z3936 ez3936 => ?_)
              refine va_put (D := D) (ci := 12) (v := .int z3936) (ty := .int) (C := RX12) (T := TX12) (N := 45) hx hb hts hi12 tyX12 tyX12_ok nmX12 hown hK hP hD hS 1 rfl rfl 40 (by decide) (hts (.fieldLink RX12 444 "OverHillModel" "nightHoles" "I") (by decide +kernel)) (fun _ h9 => h9) rfl (by decide +kernel) rfl rfl (Nat.le_of_ble_eq_true rfl) dX12_draws_221 (fun H locs hP hD hS => ?_)
              obtain ⟨hP, hD⟩ : ct_B D A H [(qm_round, .inl (cI, 120, .inl (fm_round))), mo qm vm_thrown qm_width qm_many qm_cells qm_moved qm_tape vm_taped vm_at vm_token vm_place vm_value vm_word vm_bad vm_badPlace vm_fault vm_faultPlace qm_lines qm_has qm_round qm_meets qm_stumble qm_isMud qm_cell qm_tune qm_change qm_isKept qm_steps qm_places qm_danced vm_runMost vm_runBegins qm_heardBy vm_fitMany vm_fitFirst vm_fitBeats vm_listenLeaves qm_there vm_metAt vm_metIn qm_wins z3936 x3810 x3811 y3914 y3915, (qm_has, .inl (cI, 55, .inl (fm_has))), (qm_meets, .inl (cI, 30, .inl (fm_meets))), (qm_danced, .inl (cI, 400, .inl (g3916)))] := ⟨hP, hD⟩
              refine lv_iload hx hb dX12_draws_224 (lv_at hl 0 rfl) ?_
              refine lv_if_le (tgt := 243) hx hb dX12_draws_226 (by decide) (fun hc => absurd hc (by decide)) (fun _ => ?_)
              refine lv_aload_n hx hb dX12_draws_229 rfl (lv_at hl 4 rfl) ?_
              refine va_get (D := D) (ci := 12) (v := .int x3810) (C := RX12) (T := TX12) (N := 45) hx hb hts hi12 hown hK hP 1 rfl rfl 41 (by decide) (hts (.fieldLink RX12 447 "OverHillModel" "nightFirst" "I") (by decide +kernel)) (fun _ h9 => h9) rfl dX12_draws_230 ?_
              refine lv_iconst (v := (-1)) hx hb dX12_draws_233 (by decide) ?_
              refine lv_icmp_ne (tgt := 243) hx hb dX12_draws_234 (by decide) (fun hc => ?_) (fun hc => ?_)
              · have hq3937 : x3810.toInt ≠ (-1) := tq_ne rfl (by decide) hc
                obtain ⟨z3938, ez3938⟩ : ∃ z : Int32, z = x3816 + 1 := ⟨_, rfl⟩
                have fz3938 : z3938.toInt = x3816.toInt + 1 := by rw [ez3938]; exact tq_add rfl (by decide) (by omega)
                refine lv_iinc (v := z3938) (lv' := [(6, .int z3938), (7, .int 1), (4, .int z3922), (5, .int x3815), (0, .ref qm), (1, .long a1), (3, .int a2)]) hx hb dX12_draws_243 hl (k := 2) rfl ez3938.symm (by decide) rfl (fun ls hl => ?_)
                refine lv_goto (tgt := 45) hx hb dX12_draws_246 (by decide) ?_
                obtain ⟨hP9, hD9⟩ : ct_B D A H [mo qm vm_thrown qm_width qm_many qm_cells qm_moved qm_tape vm_taped vm_at vm_token vm_place vm_value vm_word vm_bad vm_badPlace vm_fault vm_faultPlace qm_lines qm_has qm_round qm_meets qm_stumble qm_isMud qm_cell qm_tune qm_change qm_isKept qm_steps qm_places qm_danced vm_runMost vm_runBegins qm_heardBy vm_fitMany vm_fitFirst vm_fitBeats vm_listenLeaves qm_there vm_metAt vm_metIn qm_wins z3936 x3810 x3811 y3914 y3915, (qm_has, .inl (cI, 55, .inl (fm_has))), (qm_round, .inl (cI, 120, .inl (fm_round))), (qm_meets, .inl (cI, 30, .inl (fm_meets))), (qm_danced, .inl (cI, 400, .inl (g3916)))] := ⟨hP.sub [1, 2, 0, 3, 4] rfl, hD.sub [1, 2, 0, 3, 4] (by decide) rfl⟩
                exact ih3817 (g3916, z3936, x3810, x3811, y3914, y3915, z3922, x3815, z3938) _ _ _ (show (100 - z3938.toInt).toNat < (100 - x3816.toInt).toNat by omega) ⟨h_g3916, h_x3810, (show 0 ≤ z3922.toInt ∧ z3922.toInt ≤ 11 by omega), h_x3815, (show 0 ≤ z3938.toInt ∧ z3938.toInt ≤ 100 by omega), ⟨hP9, hD9⟩, hS, lv_sub hl [0, 3, 2, 4, 5, 6] rfl⟩
              · have hq3937 : x3810.toInt = (-1) := tq_eq rfl (by decide) hc
                refine lv_aload_n hx hb dX12_draws_237 rfl (lv_at hl 4 rfl) ?_
                refine lv_iload hx hb dX12_draws_238 (lv_at hl 2 rfl) ?_
                refine va_put (D := D) (ci := 12) (v := .int x3816) (ty := .int) (C := RX12) (T := TX12) (N := 45) hx hb hts hi12 tyX12 tyX12_ok nmX12 hown hK hP hD hS 1 rfl rfl 41 (by decide) (hts (.fieldLink RX12 447 "OverHillModel" "nightFirst" "I") (by decide +kernel)) (fun _ h9 => h9) rfl (by decide +kernel) rfl rfl (Nat.le_of_ble_eq_true rfl) dX12_draws_240 (fun H locs hP hD hS => ?_)
                obtain ⟨hP, hD⟩ : ct_B D A H [(qm_round, .inl (cI, 120, .inl (fm_round))), mo qm vm_thrown qm_width qm_many qm_cells qm_moved qm_tape vm_taped vm_at vm_token vm_place vm_value vm_word vm_bad vm_badPlace vm_fault vm_faultPlace qm_lines qm_has qm_round qm_meets qm_stumble qm_isMud qm_cell qm_tune qm_change qm_isKept qm_steps qm_places qm_danced vm_runMost vm_runBegins qm_heardBy vm_fitMany vm_fitFirst vm_fitBeats vm_listenLeaves qm_there vm_metAt vm_metIn qm_wins z3936 x3816 x3811 y3914 y3915, (qm_has, .inl (cI, 55, .inl (fm_has))), (qm_meets, .inl (cI, 30, .inl (fm_meets))), (qm_danced, .inl (cI, 400, .inl (g3916)))] := ⟨hP, hD⟩
                obtain ⟨z3939, ez3939⟩ : ∃ z : Int32, z = x3816 + 1 := ⟨_, rfl⟩
                have fz3939 : z3939.toInt = x3816.toInt + 1 := by rw [ez3939]; exact tq_add rfl (by decide) (by omega)
                refine lv_iinc (v := z3939) (lv' := [(6, .int z3939), (7, .int 1), (4, .int z3922), (5, .int x3815), (0, .ref qm), (1, .long a1), (3, .int a2)]) hx hb dX12_draws_243 hl (k := 2) rfl ez3939.symm (by decide) rfl (fun ls hl => ?_)
                refine lv_goto (tgt := 45) hx hb dX12_draws_246 (by decide) ?_
                obtain ⟨hP9, hD9⟩ : ct_B D A H [mo qm vm_thrown qm_width qm_many qm_cells qm_moved qm_tape vm_taped vm_at vm_token vm_place vm_value vm_word vm_bad vm_badPlace vm_fault vm_faultPlace qm_lines qm_has qm_round qm_meets qm_stumble qm_isMud qm_cell qm_tune qm_change qm_isKept qm_steps qm_places qm_danced vm_runMost vm_runBegins qm_heardBy vm_fitMany vm_fitFirst vm_fitBeats vm_listenLeaves qm_there vm_metAt vm_metIn qm_wins z3936 x3816 x3811 y3914 y3915, (qm_has, .inl (cI, 55, .inl (fm_has))), (qm_round, .inl (cI, 120, .inl (fm_round))), (qm_meets, .inl (cI, 30, .inl (fm_meets))), (qm_danced, .inl (cI, 400, .inl (g3916)))] := ⟨hP.sub [1, 2, 0, 3, 4] rfl, hD.sub [1, 2, 0, 3, 4] (by decide) rfl⟩
                exact ih3817 (g3916, z3936, x3816, x3811, y3914, y3915, z3922, x3815, z3939) _ _ _ (show (100 - z3939.toInt).toNat < (100 - x3816.toInt).toNat by omega) ⟨h_g3916, (show (-1) ≤ x3816.toInt ∧ x3816.toInt ≤ 99 by omega), (show 0 ≤ z3922.toInt ∧ z3922.toInt ≤ 11 by omega), h_x3815, (show 0 ≤ z3939.toInt ∧ z3939.toInt ≤ 100 by omega), ⟨hP9, hD9⟩, hS, lv_sub hl [0, 3, 2, 4, 5, 6] rfl⟩
          · subst hz
            refine lv_if_eq (tgt := 194) hx hb dX12_draws_187 (by decide) (fun _ => ?_) (fun hc => absurd hc (by decide))
            refine lv_iconst (v := 0) hx hb dX12_draws_194 (by decide) ?_
            refine lv_aload_n hx hb dX12_draws_195 rfl (lv_at hl 3 rfl) ?_
            refine lv_iconst (v := 1) hx hb dX12_draws_196 (by decide) ?_
            refine lv_iload hx hb dX12_draws_197 (lv_at hl 1 rfl) ?_
            refine ct_calli (D := D) (wr := [(qm_round, .inl (cI, 120, .inl (fm_round)))]) (va_runV (As := [.int 1, .int x3816]) (rest := [.int 0]) ⟨hx, hb, hml, hown, hts⟩ (c_X12_isHole l D G cI cJ cB cZ cO qm vm_thrown qm_width qm_many qm_cells qm_moved qm_tape vm_taped vm_at vm_token vm_place vm_value vm_word vm_bad vm_badPlace vm_fault vm_faultPlace qm_lines qm_has fm_has qm_round qm_meets fm_meets qm_stumble qm_isMud qm_cell qm_tune qm_change qm_isKept qm_steps qm_places qm_danced g3916 vm_runMost vm_runBegins qm_heardBy vm_fitMany vm_fitFirst vm_fitBeats vm_listenLeaves qm_there vm_metAt vm_metIn qm_wins x3809 x3810 x3811 y3914 y3915 1 x3816 h_vm_taped h_vm_at h_vm_value h_fm_has h_g3916 (by decide) (by omega) H.size) (cwV 2 hts gX12_draws_X12_isHole rfl rfl rfl (by decide +kernel) ⟨Nat.le_of_ble_eq_true rfl, Nat.le_of_ble_eq_true rfl⟩) (ct_preV (T := ct_T cI cJ cB cZ cO) (ci := 12) (q0 := 1) hE hH hP hD hS hA [1, 2, 3, 4] (by decide) rfl rfl rfl) rfl rfl hl.1 rfl (lv_room (Nat.le_of_ble_eq_true rfl)) dX12_draws_199 ⟨Nat.le_of_ble_eq_true rfl, Nat.le_of_ble_eq_true rfl⟩) hP hD hS hA [1, 2, 3, 4] [0] rfl rfl (by decide) (by decide) (fun r3940 u H locs hw hP hD hS => ?_)
            obtain ⟨hP, hD⟩ : ct_B D A H [(qm_round, .inl (cI, 120, .inl (fm_round))), mo qm vm_thrown qm_width qm_many qm_cells qm_moved qm_tape vm_taped vm_at vm_token vm_place vm_value vm_word vm_bad vm_badPlace vm_fault vm_faultPlace qm_lines qm_has qm_round qm_meets qm_stumble qm_isMud qm_cell qm_tune qm_change qm_isKept qm_steps qm_places qm_danced vm_runMost vm_runBegins qm_heardBy vm_fitMany vm_fitFirst vm_fitBeats vm_listenLeaves qm_there vm_metAt vm_metIn qm_wins x3809 x3810 x3811 y3914 y3915, (qm_has, .inl (cI, 55, .inl (fm_has))), (qm_meets, .inl (cI, 30, .inl (fm_meets))), (qm_danced, .inl (cI, 400, .inl (g3916)))] := ⟨hP, hD⟩
            have hz := hw
            rcases hz with ⟨hz, hz2⟩ | ⟨hz, hz2⟩
            · subst hz
              refine lv_if_eq (tgt := 209) hx hb dX12_draws_202 (by decide) (fun hc => absurd hc (by decide)) (fun _ => ?_)
              refine lv_iconst (v := 1) hx hb dX12_draws_205 (by decide) ?_
              refine lv_goto (tgt := 210) hx hb dX12_draws_206 (by decide) ?_
              refine lv_iadd hx hb dX12_draws_210 ?_
              refine lv_topi (fun z3941 ez3941 => ?_)
              obtain rfl : z3941 = 1 := ez3941.trans (by decide)
              refine lv_istore (lv' := [(7, .int 1), (4, .int z3922), (6, .int x3816), (5, .int x3815), (0, .ref qm), (1, .long a1), (3, .int a2)]) hx hb dX12_draws_211 hl (by decide) rfl (fun ls hl => ?_)
              refine lv_aload_n hx hb dX12_draws_213 rfl (lv_at hl 4 rfl) ?_
              refine lv_dup hx hb dX12_draws_214 rfl ?_
              refine va_get (D := D) (ci := 12) (v := .int x3809) (C := RX12) (T := TX12) (N := 45) hx hb hts hi12 hown hK hP 1 rfl rfl 40 (by decide) (hts (.fieldLink RX12 444 "OverHillModel" "nightHoles" "I") (by decide +kernel)) (fun _ h9 => h9) rfl dX12_draws_215 ?_
              refine lv_iload hx hb dX12_draws_218 (lv_at hl 0 rfl) ?_
              refine lv_iadd hx hb dX12_draws_220 ?_
              refine lv_topi (fun z3942 ez3942 => ?_)
              refine va_put (D := D) (ci := 12) (v := .int z3942) (ty := .int) (C := RX12) (T := TX12) (N := 45) hx hb hts hi12 tyX12 tyX12_ok nmX12 hown hK hP hD hS 1 rfl rfl 40 (by decide) (hts (.fieldLink RX12 444 "OverHillModel" "nightHoles" "I") (by decide +kernel)) (fun _ h9 => h9) rfl (by decide +kernel) rfl rfl (Nat.le_of_ble_eq_true rfl) dX12_draws_221 (fun H locs hP hD hS => ?_)
              obtain ⟨hP, hD⟩ : ct_B D A H [(qm_round, .inl (cI, 120, .inl (fm_round))), mo qm vm_thrown qm_width qm_many qm_cells qm_moved qm_tape vm_taped vm_at vm_token vm_place vm_value vm_word vm_bad vm_badPlace vm_fault vm_faultPlace qm_lines qm_has qm_round qm_meets qm_stumble qm_isMud qm_cell qm_tune qm_change qm_isKept qm_steps qm_places qm_danced vm_runMost vm_runBegins qm_heardBy vm_fitMany vm_fitFirst vm_fitBeats vm_listenLeaves qm_there vm_metAt vm_metIn qm_wins z3942 x3810 x3811 y3914 y3915, (qm_has, .inl (cI, 55, .inl (fm_has))), (qm_meets, .inl (cI, 30, .inl (fm_meets))), (qm_danced, .inl (cI, 400, .inl (g3916)))] := ⟨hP, hD⟩
              refine lv_iload hx hb dX12_draws_224 (lv_at hl 0 rfl) ?_
              refine lv_if_le (tgt := 243) hx hb dX12_draws_226 (by decide) (fun hc => absurd hc (by decide)) (fun _ => ?_)
              refine lv_aload_n hx hb dX12_draws_229 rfl (lv_at hl 4 rfl) ?_
              refine va_get (D := D) (ci := 12) (v := .int x3810) (C := RX12) (T := TX12) (N := 45) hx hb hts hi12 hown hK hP 1 rfl rfl 41 (by decide) (hts (.fieldLink RX12 447 "OverHillModel" "nightFirst" "I") (by decide +kernel)) (fun _ h9 => h9) rfl dX12_draws_230 ?_
              refine lv_iconst (v := (-1)) hx hb dX12_draws_233 (by decide) ?_
              refine lv_icmp_ne (tgt := 243) hx hb dX12_draws_234 (by decide) (fun hc => ?_) (fun hc => ?_)
              · have hq3943 : x3810.toInt ≠ (-1) := tq_ne rfl (by decide) hc
                obtain ⟨z3944, ez3944⟩ : ∃ z : Int32, z = x3816 + 1 := ⟨_, rfl⟩
                have fz3944 : z3944.toInt = x3816.toInt + 1 := by rw [ez3944]; exact tq_add rfl (by decide) (by omega)
                refine lv_iinc (v := z3944) (lv' := [(6, .int z3944), (7, .int 1), (4, .int z3922), (5, .int x3815), (0, .ref qm), (1, .long a1), (3, .int a2)]) hx hb dX12_draws_243 hl (k := 2) rfl ez3944.symm (by decide) rfl (fun ls hl => ?_)
                refine lv_goto (tgt := 45) hx hb dX12_draws_246 (by decide) ?_
                obtain ⟨hP9, hD9⟩ : ct_B D A H [mo qm vm_thrown qm_width qm_many qm_cells qm_moved qm_tape vm_taped vm_at vm_token vm_place vm_value vm_word vm_bad vm_badPlace vm_fault vm_faultPlace qm_lines qm_has qm_round qm_meets qm_stumble qm_isMud qm_cell qm_tune qm_change qm_isKept qm_steps qm_places qm_danced vm_runMost vm_runBegins qm_heardBy vm_fitMany vm_fitFirst vm_fitBeats vm_listenLeaves qm_there vm_metAt vm_metIn qm_wins z3942 x3810 x3811 y3914 y3915, (qm_has, .inl (cI, 55, .inl (fm_has))), (qm_round, .inl (cI, 120, .inl (fm_round))), (qm_meets, .inl (cI, 30, .inl (fm_meets))), (qm_danced, .inl (cI, 400, .inl (g3916)))] := ⟨hP.sub [1, 2, 0, 3, 4] rfl, hD.sub [1, 2, 0, 3, 4] (by decide) rfl⟩
                exact ih3817 (g3916, z3942, x3810, x3811, y3914, y3915, z3922, x3815, z3944) _ _ _ (show (100 - z3944.toInt).toNat < (100 - x3816.toInt).toNat by omega) ⟨h_g3916, h_x3810, (show 0 ≤ z3922.toInt ∧ z3922.toInt ≤ 11 by omega), h_x3815, (show 0 ≤ z3944.toInt ∧ z3944.toInt ≤ 100 by omega), ⟨hP9, hD9⟩, hS, lv_sub hl [0, 3, 2, 4, 5, 6] rfl⟩
              · have hq3943 : x3810.toInt = (-1) := tq_eq rfl (by decide) hc
                refine lv_aload_n hx hb dX12_draws_237 rfl (lv_at hl 4 rfl) ?_
                refine lv_iload hx hb dX12_draws_238 (lv_at hl 2 rfl) ?_
                refine va_put (D := D) (ci := 12) (v := .int x3816) (ty := .int) (C := RX12) (T := TX12) (N := 45) hx hb hts hi12 tyX12 tyX12_ok nmX12 hown hK hP hD hS 1 rfl rfl 41 (by decide) (hts (.fieldLink RX12 447 "OverHillModel" "nightFirst" "I") (by decide +kernel)) (fun _ h9 => h9) rfl (by decide +kernel) rfl rfl (Nat.le_of_ble_eq_true rfl) dX12_draws_240 (fun H locs hP hD hS => ?_)
                obtain ⟨hP, hD⟩ : ct_B D A H [(qm_round, .inl (cI, 120, .inl (fm_round))), mo qm vm_thrown qm_width qm_many qm_cells qm_moved qm_tape vm_taped vm_at vm_token vm_place vm_value vm_word vm_bad vm_badPlace vm_fault vm_faultPlace qm_lines qm_has qm_round qm_meets qm_stumble qm_isMud qm_cell qm_tune qm_change qm_isKept qm_steps qm_places qm_danced vm_runMost vm_runBegins qm_heardBy vm_fitMany vm_fitFirst vm_fitBeats vm_listenLeaves qm_there vm_metAt vm_metIn qm_wins z3942 x3816 x3811 y3914 y3915, (qm_has, .inl (cI, 55, .inl (fm_has))), (qm_meets, .inl (cI, 30, .inl (fm_meets))), (qm_danced, .inl (cI, 400, .inl (g3916)))] := ⟨hP, hD⟩
                obtain ⟨z3945, ez3945⟩ : ∃ z : Int32, z = x3816 + 1 := ⟨_, rfl⟩
                have fz3945 : z3945.toInt = x3816.toInt + 1 := by rw [ez3945]; exact tq_add rfl (by decide) (by omega)
                refine lv_iinc (v := z3945) (lv' := [(6, .int z3945), (7, .int 1), (4, .int z3922), (5, .int x3815), (0, .ref qm), (1, .long a1), (3, .int a2)]) hx hb dX12_draws_243 hl (k := 2) rfl ez3945.symm (by decide) rfl (fun ls hl => ?_)
                refine lv_goto (tgt := 45) hx hb dX12_draws_246 (by decide) ?_
                obtain ⟨hP9, hD9⟩ : ct_B D A H [mo qm vm_thrown qm_width qm_many qm_cells qm_moved qm_tape vm_taped vm_at vm_token vm_place vm_value vm_word vm_bad vm_badPlace vm_fault vm_faultPlace qm_lines qm_has qm_round qm_meets qm_stumble qm_isMud qm_cell qm_tune qm_change qm_isKept qm_steps qm_places qm_danced vm_runMost vm_runBegins qm_heardBy vm_fitMany vm_fitFirst vm_fitBeats vm_listenLeaves qm_there vm_metAt vm_metIn qm_wins z3942 x3816 x3811 y3914 y3915, (qm_has, .inl (cI, 55, .inl (fm_has))), (qm_round, .inl (cI, 120, .inl (fm_round))), (qm_meets, .inl (cI, 30, .inl (fm_meets))), (qm_danced, .inl (cI, 400, .inl (g3916)))] := ⟨hP.sub [1, 2, 0, 3, 4] rfl, hD.sub [1, 2, 0, 3, 4] (by decide) rfl⟩
                exact ih3817 (g3916, z3942, x3816, x3811, y3914, y3915, z3922, x3815, z3945) _ _ _ (show (100 - z3945.toInt).toNat < (100 - x3816.toInt).toNat by omega) ⟨h_g3916, (show (-1) ≤ x3816.toInt ∧ x3816.toInt ≤ 99 by omega), (show 0 ≤ z3922.toInt ∧ z3922.toInt ≤ 11 by omega), h_x3815, (show 0 ≤ z3945.toInt ∧ z3945.toInt ≤ 100 by omega), ⟨hP9, hD9⟩, hS, lv_sub hl [0, 3, 2, 4, 5, 6] rfl⟩
            · subst hz
              refine lv_if_eq (tgt := 209) hx hb dX12_draws_202 (by decide) (fun _ => ?_) (fun hc => absurd hc (by decide))
              refine lv_iconst (v := 0) hx hb dX12_draws_209 (by decide) ?_
              refine lv_iadd hx hb dX12_draws_210 ?_
              refine lv_topi (fun z3946 ez3946 => ?_)
              obtain rfl : z3946 = 0 := ez3946.trans (by decide)
              refine lv_istore (lv' := [(7, .int 0), (4, .int z3922), (6, .int x3816), (5, .int x3815), (0, .ref qm), (1, .long a1), (3, .int a2)]) hx hb dX12_draws_211 hl (by decide) rfl (fun ls hl => ?_)
              refine lv_aload_n hx hb dX12_draws_213 rfl (lv_at hl 4 rfl) ?_
              refine lv_dup hx hb dX12_draws_214 rfl ?_
              refine va_get (D := D) (ci := 12) (v := .int x3809) (C := RX12) (T := TX12) (N := 45) hx hb hts hi12 hown hK hP 1 rfl rfl 40 (by decide) (hts (.fieldLink RX12 444 "OverHillModel" "nightHoles" "I") (by decide +kernel)) (fun _ h9 => h9) rfl dX12_draws_215 ?_
              refine lv_iload hx hb dX12_draws_218 (lv_at hl 0 rfl) ?_
              refine lv_iadd hx hb dX12_draws_220 ?_
              refine lv_topi (fun z3947 ez3947 => ?_)
              refine va_put (D := D) (ci := 12) (v := .int z3947) (ty := .int) (C := RX12) (T := TX12) (N := 45) hx hb hts hi12 tyX12 tyX12_ok nmX12 hown hK hP hD hS 1 rfl rfl 40 (by decide) (hts (.fieldLink RX12 444 "OverHillModel" "nightHoles" "I") (by decide +kernel)) (fun _ h9 => h9) rfl (by decide +kernel) rfl rfl (Nat.le_of_ble_eq_true rfl) dX12_draws_221 (fun H locs hP hD hS => ?_)
              obtain ⟨hP, hD⟩ : ct_B D A H [(qm_round, .inl (cI, 120, .inl (fm_round))), mo qm vm_thrown qm_width qm_many qm_cells qm_moved qm_tape vm_taped vm_at vm_token vm_place vm_value vm_word vm_bad vm_badPlace vm_fault vm_faultPlace qm_lines qm_has qm_round qm_meets qm_stumble qm_isMud qm_cell qm_tune qm_change qm_isKept qm_steps qm_places qm_danced vm_runMost vm_runBegins qm_heardBy vm_fitMany vm_fitFirst vm_fitBeats vm_listenLeaves qm_there vm_metAt vm_metIn qm_wins z3947 x3810 x3811 y3914 y3915, (qm_has, .inl (cI, 55, .inl (fm_has))), (qm_meets, .inl (cI, 30, .inl (fm_meets))), (qm_danced, .inl (cI, 400, .inl (g3916)))] := ⟨hP, hD⟩
              refine lv_iload hx hb dX12_draws_224 (lv_at hl 0 rfl) ?_
              refine lv_if_le (tgt := 243) hx hb dX12_draws_226 (by decide) (fun _ => ?_) (fun hc => absurd hc (by decide))
              obtain ⟨z3948, ez3948⟩ : ∃ z : Int32, z = x3816 + 1 := ⟨_, rfl⟩
              have fz3948 : z3948.toInt = x3816.toInt + 1 := by rw [ez3948]; exact tq_add rfl (by decide) (by omega)
              refine lv_iinc (v := z3948) (lv' := [(6, .int z3948), (7, .int 0), (4, .int z3922), (5, .int x3815), (0, .ref qm), (1, .long a1), (3, .int a2)]) hx hb dX12_draws_243 hl (k := 2) rfl ez3948.symm (by decide) rfl (fun ls hl => ?_)
              refine lv_goto (tgt := 45) hx hb dX12_draws_246 (by decide) ?_
              obtain ⟨hP9, hD9⟩ : ct_B D A H [mo qm vm_thrown qm_width qm_many qm_cells qm_moved qm_tape vm_taped vm_at vm_token vm_place vm_value vm_word vm_bad vm_badPlace vm_fault vm_faultPlace qm_lines qm_has qm_round qm_meets qm_stumble qm_isMud qm_cell qm_tune qm_change qm_isKept qm_steps qm_places qm_danced vm_runMost vm_runBegins qm_heardBy vm_fitMany vm_fitFirst vm_fitBeats vm_listenLeaves qm_there vm_metAt vm_metIn qm_wins z3947 x3810 x3811 y3914 y3915, (qm_has, .inl (cI, 55, .inl (fm_has))), (qm_round, .inl (cI, 120, .inl (fm_round))), (qm_meets, .inl (cI, 30, .inl (fm_meets))), (qm_danced, .inl (cI, 400, .inl (g3916)))] := ⟨hP.sub [1, 2, 0, 3, 4] rfl, hD.sub [1, 2, 0, 3, 4] (by decide) rfl⟩
              exact ih3817 (g3916, z3947, x3810, x3811, y3914, y3915, z3922, x3815, z3948) _ _ _ (show (100 - z3948.toInt).toNat < (100 - x3816.toInt).toNat by omega) ⟨h_g3916, h_x3810, (show 0 ≤ z3922.toInt ∧ z3922.toInt ≤ 11 by omega), h_x3815, (show 0 ≤ z3948.toInt ∧ z3948.toInt ≤ 100 by omega), ⟨hP9, hD9⟩, hS, lv_sub hl [0, 3, 2, 4, 5, 6] rfl⟩
        · have hq3927 : 0 < r3923.toInt := tq_nle rfl (by decide) hc
          refine lv_aload_n hx hb dX12_draws_143 rfl (lv_at hl 3 rfl) ?_
          refine va_get (D := D) (ci := 12) (v := .ref qm_danced) (C := RX12) (T := TX12) (N := 45) hx hb hts hi12 hown hK hP 3 rfl rfl 28 (by decide) (hts (.fieldLink RX12 68 "OverHillModel" "danced" "[I") (by decide +kernel)) (fun _ h9 => h9) rfl dX12_draws_144 ?_
          refine lv_sipush (v := 200) hx hb dX12_draws_147 (by decide) ?_
          refine lv_iload hx hb dX12_draws_150 (lv_at hl 1 rfl) ?_
          refine lv_iadd hx hb dX12_draws_152 ?_
          refine lv_topi (fun z3949 ez3949 => ?_)
          have fz3949 : z3949.toInt = 200 + x3816.toInt := by rw [ez3949]; exact tq_add (by decide) rfl (by omega)
          refine lv_aload_n hx hb dX12_draws_153 rfl (lv_at hl 3 rfl) ?_
          refine lv_aload_n hx hb dX12_draws_154 rfl (lv_at hl 3 rfl) ?_
          refine va_get (D := D) (ci := 12) (v := .ref qm_round) (C := RX12) (T := TX12) (N := 45) hx hb hts hi12 hown hK hP 3 rfl rfl 18 (by decide) (hts (.fieldLink RX12 37 "OverHillModel" "round" "[I") (by decide +kernel)) (fun _ h9 => h9) rfl dX12_draws_155 ?_
          refine lv_bipush (v := 12) hx hb dX12_draws_158 (by decide) ?_
          refine lv_iload hx hb dX12_draws_160 (lv_at hl 2 rfl) ?_
          refine lv_iadd hx hb dX12_draws_162 ?_
          refine lv_topi (fun z3950 ez3950 => ?_)
          have fz3950 : z3950.toInt = 12 + x3815.toInt := by rw [ez3950]; exact tq_add (by decide) rfl (by omega)
          refine va_iald (D := D) hx hb hK hP 0 0 rfl rfl (tq_in rfl (by omega)) dX12_draws_163 ?_
          refine lv_topi (fun z3951 ez3951 => ?_)
          have fz3951 : 0 ≤ z3951.toInt ∧ z3951.toInt ≤ 5 := by rw [ez3951]; exact ar_get h_fm_round z3950 0 (by omega) (show z3950.toInt % 1 = 0 by omega) rfl
          refine ct_calli (D := D) (wr := [(qm_round, .inl (cI, 120, .inl (fm_round))), (qm_meets, .inl (cI, 30, .inl (fm_meets))), (qm_danced, .inl (cI, 400, .inl (g3916)))]) (va_runV (As := [.int z3951]) (rest := [.int z3949, .ref qm_danced]) ⟨hx, hb, hml, hown, hts⟩ (c_X12_slips l D G cI cJ cB cZ cO qm vm_thrown qm_width qm_many qm_cells qm_moved qm_tape vm_taped vm_at vm_token vm_place vm_value vm_word vm_bad vm_badPlace vm_fault vm_faultPlace qm_lines qm_has fm_has qm_round qm_meets qm_stumble qm_isMud qm_cell qm_tune qm_change qm_isKept qm_steps qm_places qm_danced vm_runMost vm_runBegins qm_heardBy vm_fitMany vm_fitFirst vm_fitBeats vm_listenLeaves qm_there vm_metAt vm_metIn qm_wins x3809 x3810 x3811 y3914 y3915 z3951 h_vm_taped h_vm_at h_vm_value h_fm_has fz3951 H.size) (cwV 1 hts gX12_draws_X12_slips rfl rfl rfl (by decide +kernel) ⟨Nat.le_of_ble_eq_true rfl, Nat.le_of_ble_eq_true rfl⟩) (ct_preV (T := ct_T cI cJ cB cZ cO) (ci := 12) (q0 := 3) hE hH hP hD hS hA [3, 4] (by decide) rfl rfl rfl) rfl rfl hl.1 rfl (lv_room (Nat.le_of_ble_eq_true rfl)) dX12_draws_164 ⟨Nat.le_of_ble_eq_true rfl, Nat.le_of_ble_eq_true rfl⟩) hP hD hS hA [3, 4] [0, 1, 2] rfl rfl (by decide) (by decide) (fun r3952 u H locs hw hP hD hS => ?_)
          obtain ⟨y3953, y3954⟩ := u
          obtain ⟨hP, hD⟩ : ct_B D A H [(qm_round, .inl (cI, 120, .inl (fm_round))), (qm_meets, .inl (cI, 30, .inl (fm_meets))), (qm_danced, .inl (cI, 400, .inl (g3916))), mo qm vm_thrown qm_width qm_many qm_cells qm_moved qm_tape vm_taped vm_at vm_token vm_place vm_value vm_word vm_bad vm_badPlace vm_fault vm_faultPlace qm_lines qm_has qm_round qm_meets qm_stumble qm_isMud qm_cell qm_tune qm_change qm_isKept qm_steps qm_places qm_danced vm_runMost vm_runBegins qm_heardBy vm_fitMany vm_fitFirst vm_fitBeats vm_listenLeaves qm_there vm_metAt vm_metIn qm_wins x3809 x3810 x3811 y3953 y3954, (qm_has, .inl (cI, 55, .inl (fm_has)))] := ⟨hP, hD⟩
          have hz := hw
          have h_r3952 : 0 ≤ r3952.toInt ∧ r3952.toInt ≤ 5 := hz
          refine va_iast (D := D) hx hb hK hP hD hS 2 0 rfl rfl (tq_in rfl (by omega)) dX12_draws_167 (fun H locs hP hD hS => ?_)
          obtain ⟨g3955, h_g3955, hP, hD⟩ : ∃ g3955 : Nat → Int32, ar_ok [(-1)] [5] g3955 ∧ ct_B D A H [(qm_round, .inl (cI, 120, .inl (fm_round))), (qm_meets, .inl (cI, 30, .inl (fm_meets))), (qm_danced, .inl (cI, 400, .inl (g3955))), mo qm vm_thrown qm_width qm_many qm_cells qm_moved qm_tape vm_taped vm_at vm_token vm_place vm_value vm_word vm_bad vm_badPlace vm_fault vm_faultPlace qm_lines qm_has qm_round qm_meets qm_stumble qm_isMud qm_cell qm_tune qm_change qm_isKept qm_steps qm_places qm_danced vm_runMost vm_runBegins qm_heardBy vm_fitMany vm_fitFirst vm_fitBeats vm_listenLeaves qm_there vm_metAt vm_metIn qm_wins x3809 x3810 x3811 y3953 y3954, (qm_has, .inl (cI, 55, .inl (fm_has)))] := ⟨_, ar_set h_g3916 z3949 r3952 0 (by omega) (show z3949.toInt % 1 = 0 by omega) rfl (show (-1) ≤ r3952.toInt ∧ r3952.toInt ≤ 5 by omega), hP, hD⟩
          refine lv_iload hx hb dX12_draws_168 (lv_at hl 2 rfl) ?_
          refine lv_iconst (v := 1) hx hb dX12_draws_170 (by decide) ?_
          refine lv_iadd hx hb dX12_draws_171 ?_
          refine lv_topi (fun z3956 ez3956 => ?_)
          have fz3956 : z3956.toInt = x3815.toInt + 1 := by rw [ez3956]; exact tq_add rfl (by decide) (by omega)
          refine lv_aload_n hx hb dX12_draws_172 rfl (lv_at hl 3 rfl) ?_
          refine lv_iconst (v := 1) hx hb dX12_draws_173 (by decide) ?_
          refine ct_calli (D := D) (wr := [(qm_round, .inl (cI, 120, .inl (fm_round))), (qm_meets, .inl (cI, 30, .inl (fm_meets))), (qm_danced, .inl (cI, 400, .inl (g3955)))]) (va_runV (As := [.int 1]) (rest := [.int z3956]) ⟨hx, hb, hml, hown, hts⟩ (c_X12_lengthOf l D G cI cJ cB cZ cO qm vm_thrown qm_width qm_many qm_cells qm_moved qm_tape vm_taped vm_at vm_token vm_place vm_value vm_word vm_bad vm_badPlace vm_fault vm_faultPlace qm_lines qm_has fm_has qm_round qm_meets qm_stumble qm_isMud qm_cell qm_tune qm_change qm_isKept qm_steps qm_places qm_danced vm_runMost vm_runBegins qm_heardBy vm_fitMany vm_fitFirst vm_fitBeats vm_listenLeaves qm_there vm_metAt vm_metIn qm_wins x3809 x3810 x3811 y3953 y3954 1 h_vm_taped h_vm_at h_vm_value h_fm_has (by decide) H.size) (cwV 1 hts gX12_draws_X12_lengthOf rfl rfl rfl (by decide +kernel) ⟨Nat.le_of_ble_eq_true rfl, Nat.le_of_ble_eq_true rfl⟩) (ct_preV (T := ct_T cI cJ cB cZ cO) (ci := 12) (q0 := 3) hE hH hP hD hS hA [3, 4] (by decide) rfl rfl rfl) rfl rfl hl.1 rfl (lv_room (Nat.le_of_ble_eq_true rfl)) dX12_draws_174 ⟨Nat.le_of_ble_eq_true rfl, Nat.le_of_ble_eq_true rfl⟩) hP hD hS hA [3, 4] [0, 1, 2] rfl rfl (by decide) (by decide) (fun r3957 u H locs hw hP hD hS => ?_)
          obtain ⟨hP, hD⟩ : ct_B D A H [(qm_round, .inl (cI, 120, .inl (fm_round))), (qm_meets, .inl (cI, 30, .inl (fm_meets))), (qm_danced, .inl (cI, 400, .inl (g3955))), mo qm vm_thrown qm_width qm_many qm_cells qm_moved qm_tape vm_taped vm_at vm_token vm_place vm_value vm_word vm_bad vm_badPlace vm_fault vm_faultPlace qm_lines qm_has qm_round qm_meets qm_stumble qm_isMud qm_cell qm_tune qm_change qm_isKept qm_steps qm_places qm_danced vm_runMost vm_runBegins qm_heardBy vm_fitMany vm_fitFirst vm_fitBeats vm_listenLeaves qm_there vm_metAt vm_metIn qm_wins x3809 x3810 x3811 y3953 y3954, (qm_has, .inl (cI, 55, .inl (fm_has)))] := ⟨hP, hD⟩
          have hk3958 : (1 : Int32).toInt = 1 := by decide
          obtain ⟨hz, hp0⟩ := hw
          have hp_3959 : r3957 = fm_has (3 + (1 : Int32).toInt).toNat := hp0
          have hl3960 : r3957.toInt = (fm_has 4).toInt := by rw [hp_3959]; rfl
          have h_r3957 : 0 ≤ r3957.toInt ∧ r3957.toInt ≤ 12 := hz
          refine lv_irem hx hb dX12_draws_177 (tq_nz (by omega)) ?_
          refine lv_topi (fun z3961 ez3961 => ?_)
          have fz3961 : 0 ≤ z3961.toInt ∧ z3961.toInt < r3957.toInt := by rw [ez3961]; exact tq_remp rfl rfl (by omega) (by omega)
          refine lv_istore (lv' := [(5, .int z3961), (4, .int z3922), (6, .int x3816), (0, .ref qm), (1, .long a1), (3, .int a2)]) hx hb dX12_draws_178 hl (by decide) rfl (fun ls hl => ?_)
          refine lv_aload_n hx hb dX12_draws_180 rfl (lv_at hl 3 rfl) ?_
          refine lv_iconst (v := 0) hx hb dX12_draws_181 (by decide) ?_
          refine lv_iload hx hb dX12_draws_182 (lv_at hl 2 rfl) ?_
          refine ct_calli (D := D) (wr := [(qm_round, .inl (cI, 120, .inl (fm_round)))]) (va_runV (As := [.int 0, .int x3816]) (rest := []) ⟨hx, hb, hml, hown, hts⟩ (c_X12_isHole l D G cI cJ cB cZ cO qm vm_thrown qm_width qm_many qm_cells qm_moved qm_tape vm_taped vm_at vm_token vm_place vm_value vm_word vm_bad vm_badPlace vm_fault vm_faultPlace qm_lines qm_has fm_has qm_round qm_meets fm_meets qm_stumble qm_isMud qm_cell qm_tune qm_change qm_isKept qm_steps qm_places qm_danced g3955 vm_runMost vm_runBegins qm_heardBy vm_fitMany vm_fitFirst vm_fitBeats vm_listenLeaves qm_there vm_metAt vm_metIn qm_wins x3809 x3810 x3811 y3953 y3954 0 x3816 h_vm_taped h_vm_at h_vm_value h_fm_has h_g3955 (by decide) (by omega) H.size) (cwV 2 hts gX12_draws_X12_isHole rfl rfl rfl (by decide +kernel) ⟨Nat.le_of_ble_eq_true rfl, Nat.le_of_ble_eq_true rfl⟩) (ct_preV (T := ct_T cI cJ cB cZ cO) (ci := 12) (q0 := 3) hE hH hP hD hS hA [3, 4, 1, 2] (by decide) rfl rfl rfl) rfl rfl hl.1 rfl (lv_room (Nat.le_of_ble_eq_true rfl)) dX12_draws_184 ⟨Nat.le_of_ble_eq_true rfl, Nat.le_of_ble_eq_true rfl⟩) hP hD hS hA [3, 4, 1, 2] [0] rfl rfl (by decide) (by decide) (fun r3962 u H locs hw hP hD hS => ?_)
          obtain ⟨hP, hD⟩ : ct_B D A H [(qm_round, .inl (cI, 120, .inl (fm_round))), mo qm vm_thrown qm_width qm_many qm_cells qm_moved qm_tape vm_taped vm_at vm_token vm_place vm_value vm_word vm_bad vm_badPlace vm_fault vm_faultPlace qm_lines qm_has qm_round qm_meets qm_stumble qm_isMud qm_cell qm_tune qm_change qm_isKept qm_steps qm_places qm_danced vm_runMost vm_runBegins qm_heardBy vm_fitMany vm_fitFirst vm_fitBeats vm_listenLeaves qm_there vm_metAt vm_metIn qm_wins x3809 x3810 x3811 y3953 y3954, (qm_has, .inl (cI, 55, .inl (fm_has))), (qm_meets, .inl (cI, 30, .inl (fm_meets))), (qm_danced, .inl (cI, 400, .inl (g3955)))] := ⟨hP, hD⟩
          have hz := hw
          rcases hz with ⟨hz, hz2⟩ | ⟨hz, hz2⟩
          · subst hz
            refine lv_if_eq (tgt := 194) hx hb dX12_draws_187 (by decide) (fun hc => absurd hc (by decide)) (fun _ => ?_)
            refine lv_iconst (v := 1) hx hb dX12_draws_190 (by decide) ?_
            refine lv_goto (tgt := 195) hx hb dX12_draws_191 (by decide) ?_
            refine lv_aload_n hx hb dX12_draws_195 rfl (lv_at hl 3 rfl) ?_
            refine lv_iconst (v := 1) hx hb dX12_draws_196 (by decide) ?_
            refine lv_iload hx hb dX12_draws_197 (lv_at hl 2 rfl) ?_
            refine ct_calli (D := D) (wr := [(qm_round, .inl (cI, 120, .inl (fm_round)))]) (va_runV (As := [.int 1, .int x3816]) (rest := [.int 1]) ⟨hx, hb, hml, hown, hts⟩ (c_X12_isHole l D G cI cJ cB cZ cO qm vm_thrown qm_width qm_many qm_cells qm_moved qm_tape vm_taped vm_at vm_token vm_place vm_value vm_word vm_bad vm_badPlace vm_fault vm_faultPlace qm_lines qm_has fm_has qm_round qm_meets fm_meets qm_stumble qm_isMud qm_cell qm_tune qm_change qm_isKept qm_steps qm_places qm_danced g3955 vm_runMost vm_runBegins qm_heardBy vm_fitMany vm_fitFirst vm_fitBeats vm_listenLeaves qm_there vm_metAt vm_metIn qm_wins x3809 x3810 x3811 y3953 y3954 1 x3816 h_vm_taped h_vm_at h_vm_value h_fm_has h_g3955 (by decide) (by omega) H.size) (cwV 2 hts gX12_draws_X12_isHole rfl rfl rfl (by decide +kernel) ⟨Nat.le_of_ble_eq_true rfl, Nat.le_of_ble_eq_true rfl⟩) (ct_preV (T := ct_T cI cJ cB cZ cO) (ci := 12) (q0 := 1) hE hH hP hD hS hA [1, 2, 3, 4] (by decide) rfl rfl rfl) rfl rfl hl.1 rfl (lv_room (Nat.le_of_ble_eq_true rfl)) dX12_draws_199 ⟨Nat.le_of_ble_eq_true rfl, Nat.le_of_ble_eq_true rfl⟩) hP hD hS hA [1, 2, 3, 4] [0] rfl rfl (by decide) (by decide) (fun r3963 u H locs hw hP hD hS => ?_)
            obtain ⟨hP, hD⟩ : ct_B D A H [(qm_round, .inl (cI, 120, .inl (fm_round))), mo qm vm_thrown qm_width qm_many qm_cells qm_moved qm_tape vm_taped vm_at vm_token vm_place vm_value vm_word vm_bad vm_badPlace vm_fault vm_faultPlace qm_lines qm_has qm_round qm_meets qm_stumble qm_isMud qm_cell qm_tune qm_change qm_isKept qm_steps qm_places qm_danced vm_runMost vm_runBegins qm_heardBy vm_fitMany vm_fitFirst vm_fitBeats vm_listenLeaves qm_there vm_metAt vm_metIn qm_wins x3809 x3810 x3811 y3953 y3954, (qm_has, .inl (cI, 55, .inl (fm_has))), (qm_meets, .inl (cI, 30, .inl (fm_meets))), (qm_danced, .inl (cI, 400, .inl (g3955)))] := ⟨hP, hD⟩
            have hz := hw
            rcases hz with ⟨hz, hz2⟩ | ⟨hz, hz2⟩
            · subst hz
              refine lv_if_eq (tgt := 209) hx hb dX12_draws_202 (by decide) (fun hc => absurd hc (by decide)) (fun _ => ?_)
              refine lv_iconst (v := 1) hx hb dX12_draws_205 (by decide) ?_
              refine lv_goto (tgt := 210) hx hb dX12_draws_206 (by decide) ?_
              refine lv_iadd hx hb dX12_draws_210 ?_
              refine lv_topi (fun z3964 ez3964 => ?_)
              obtain rfl : z3964 = 2 := ez3964.trans (by decide)
              refine lv_istore (lv' := [(7, .int 2), (5, .int z3961), (4, .int z3922), (6, .int x3816), (0, .ref qm), (1, .long a1), (3, .int a2)]) hx hb dX12_draws_211 hl (by decide) rfl (fun ls hl => ?_)
              refine lv_aload_n hx hb dX12_draws_213 rfl (lv_at hl 4 rfl) ?_
              refine lv_dup hx hb dX12_draws_214 rfl ?_
              refine va_get (D := D) (ci := 12) (v := .int x3809) (C := RX12) (T := TX12) (N := 45) hx hb hts hi12 hown hK hP 1 rfl rfl 40 (by decide) (hts (.fieldLink RX12 444 "OverHillModel" "nightHoles" "I") (by decide +kernel)) (fun _ h9 => h9) rfl dX12_draws_215 ?_
              refine lv_iload hx hb dX12_draws_218 (lv_at hl 0 rfl) ?_
              refine lv_iadd hx hb dX12_draws_220 ?_
              refine lv_topi (fun z3965 ez3965 => ?_)
              refine va_put (D := D) (ci := 12) (v := .int z3965) (ty := .int) (C := RX12) (T := TX12) (N := 45) hx hb hts hi12 tyX12 tyX12_ok nmX12 hown hK hP hD hS 1 rfl rfl 40 (by decide) (hts (.fieldLink RX12 444 "OverHillModel" "nightHoles" "I") (by decide +kernel)) (fun _ h9 => h9) rfl (by decide +kernel) rfl rfl (Nat.le_of_ble_eq_true rfl) dX12_draws_221 (fun H locs hP hD hS => ?_)
              obtain ⟨hP, hD⟩ : ct_B D A H [(qm_round, .inl (cI, 120, .inl (fm_round))), mo qm vm_thrown qm_width qm_many qm_cells qm_moved qm_tape vm_taped vm_at vm_token vm_place vm_value vm_word vm_bad vm_badPlace vm_fault vm_faultPlace qm_lines qm_has qm_round qm_meets qm_stumble qm_isMud qm_cell qm_tune qm_change qm_isKept qm_steps qm_places qm_danced vm_runMost vm_runBegins qm_heardBy vm_fitMany vm_fitFirst vm_fitBeats vm_listenLeaves qm_there vm_metAt vm_metIn qm_wins z3965 x3810 x3811 y3953 y3954, (qm_has, .inl (cI, 55, .inl (fm_has))), (qm_meets, .inl (cI, 30, .inl (fm_meets))), (qm_danced, .inl (cI, 400, .inl (g3955)))] := ⟨hP, hD⟩
              refine lv_iload hx hb dX12_draws_224 (lv_at hl 0 rfl) ?_
              refine lv_if_le (tgt := 243) hx hb dX12_draws_226 (by decide) (fun hc => absurd hc (by decide)) (fun _ => ?_)
              refine lv_aload_n hx hb dX12_draws_229 rfl (lv_at hl 4 rfl) ?_
              refine va_get (D := D) (ci := 12) (v := .int x3810) (C := RX12) (T := TX12) (N := 45) hx hb hts hi12 hown hK hP 1 rfl rfl 41 (by decide) (hts (.fieldLink RX12 447 "OverHillModel" "nightFirst" "I") (by decide +kernel)) (fun _ h9 => h9) rfl dX12_draws_230 ?_
              refine lv_iconst (v := (-1)) hx hb dX12_draws_233 (by decide) ?_
              refine lv_icmp_ne (tgt := 243) hx hb dX12_draws_234 (by decide) (fun hc => ?_) (fun hc => ?_)
              · have hq3966 : x3810.toInt ≠ (-1) := tq_ne rfl (by decide) hc
                obtain ⟨z3967, ez3967⟩ : ∃ z : Int32, z = x3816 + 1 := ⟨_, rfl⟩
                have fz3967 : z3967.toInt = x3816.toInt + 1 := by rw [ez3967]; exact tq_add rfl (by decide) (by omega)
                refine lv_iinc (v := z3967) (lv' := [(6, .int z3967), (7, .int 2), (5, .int z3961), (4, .int z3922), (0, .ref qm), (1, .long a1), (3, .int a2)]) hx hb dX12_draws_243 hl (k := 3) rfl ez3967.symm (by decide) rfl (fun ls hl => ?_)
                refine lv_goto (tgt := 45) hx hb dX12_draws_246 (by decide) ?_
                obtain ⟨hP9, hD9⟩ : ct_B D A H [mo qm vm_thrown qm_width qm_many qm_cells qm_moved qm_tape vm_taped vm_at vm_token vm_place vm_value vm_word vm_bad vm_badPlace vm_fault vm_faultPlace qm_lines qm_has qm_round qm_meets qm_stumble qm_isMud qm_cell qm_tune qm_change qm_isKept qm_steps qm_places qm_danced vm_runMost vm_runBegins qm_heardBy vm_fitMany vm_fitFirst vm_fitBeats vm_listenLeaves qm_there vm_metAt vm_metIn qm_wins z3965 x3810 x3811 y3953 y3954, (qm_has, .inl (cI, 55, .inl (fm_has))), (qm_round, .inl (cI, 120, .inl (fm_round))), (qm_meets, .inl (cI, 30, .inl (fm_meets))), (qm_danced, .inl (cI, 400, .inl (g3955)))] := ⟨hP.sub [1, 2, 0, 3, 4] rfl, hD.sub [1, 2, 0, 3, 4] (by decide) rfl⟩
                exact ih3817 (g3955, z3965, x3810, x3811, y3953, y3954, z3922, z3961, z3967) _ _ _ (show (100 - z3967.toInt).toNat < (100 - x3816.toInt).toNat by omega) ⟨h_g3955, h_x3810, (show 0 ≤ z3922.toInt ∧ z3922.toInt ≤ 11 by omega), (show 0 ≤ z3961.toInt ∧ z3961.toInt ≤ 11 by omega), (show 0 ≤ z3967.toInt ∧ z3967.toInt ≤ 100 by omega), ⟨hP9, hD9⟩, hS, lv_sub hl [0, 2, 3, 4, 5, 6] rfl⟩
              · have hq3966 : x3810.toInt = (-1) := tq_eq rfl (by decide) hc
                refine lv_aload_n hx hb dX12_draws_237 rfl (lv_at hl 4 rfl) ?_
                refine lv_iload hx hb dX12_draws_238 (lv_at hl 3 rfl) ?_
                refine va_put (D := D) (ci := 12) (v := .int x3816) (ty := .int) (C := RX12) (T := TX12) (N := 45) hx hb hts hi12 tyX12 tyX12_ok nmX12 hown hK hP hD hS 1 rfl rfl 41 (by decide) (hts (.fieldLink RX12 447 "OverHillModel" "nightFirst" "I") (by decide +kernel)) (fun _ h9 => h9) rfl (by decide +kernel) rfl rfl (Nat.le_of_ble_eq_true rfl) dX12_draws_240 (fun H locs hP hD hS => ?_)
                obtain ⟨hP, hD⟩ : ct_B D A H [(qm_round, .inl (cI, 120, .inl (fm_round))), mo qm vm_thrown qm_width qm_many qm_cells qm_moved qm_tape vm_taped vm_at vm_token vm_place vm_value vm_word vm_bad vm_badPlace vm_fault vm_faultPlace qm_lines qm_has qm_round qm_meets qm_stumble qm_isMud qm_cell qm_tune qm_change qm_isKept qm_steps qm_places qm_danced vm_runMost vm_runBegins qm_heardBy vm_fitMany vm_fitFirst vm_fitBeats vm_listenLeaves qm_there vm_metAt vm_metIn qm_wins z3965 x3816 x3811 y3953 y3954, (qm_has, .inl (cI, 55, .inl (fm_has))), (qm_meets, .inl (cI, 30, .inl (fm_meets))), (qm_danced, .inl (cI, 400, .inl (g3955)))] := ⟨hP, hD⟩
                obtain ⟨z3968, ez3968⟩ : ∃ z : Int32, z = x3816 + 1 := ⟨_, rfl⟩
                have fz3968 : z3968.toInt = x3816.toInt + 1 := by rw [ez3968]; exact tq_add rfl (by decide) (by omega)
                refine lv_iinc (v := z3968) (lv' := [(6, .int z3968), (7, .int 2), (5, .int z3961), (4, .int z3922), (0, .ref qm), (1, .long a1), (3, .int a2)]) hx hb dX12_draws_243 hl (k := 3) rfl ez3968.symm (by decide) rfl (fun ls hl => ?_)
                refine lv_goto (tgt := 45) hx hb dX12_draws_246 (by decide) ?_
                obtain ⟨hP9, hD9⟩ : ct_B D A H [mo qm vm_thrown qm_width qm_many qm_cells qm_moved qm_tape vm_taped vm_at vm_token vm_place vm_value vm_word vm_bad vm_badPlace vm_fault vm_faultPlace qm_lines qm_has qm_round qm_meets qm_stumble qm_isMud qm_cell qm_tune qm_change qm_isKept qm_steps qm_places qm_danced vm_runMost vm_runBegins qm_heardBy vm_fitMany vm_fitFirst vm_fitBeats vm_listenLeaves qm_there vm_metAt vm_metIn qm_wins z3965 x3816 x3811 y3953 y3954, (qm_has, .inl (cI, 55, .inl (fm_has))), (qm_round, .inl (cI, 120, .inl (fm_round))), (qm_meets, .inl (cI, 30, .inl (fm_meets))), (qm_danced, .inl (cI, 400, .inl (g3955)))] := ⟨hP.sub [1, 2, 0, 3, 4] rfl, hD.sub [1, 2, 0, 3, 4] (by decide) rfl⟩
                exact ih3817 (g3955, z3965, x3816, x3811, y3953, y3954, z3922, z3961, z3968) _ _ _ (show (100 - z3968.toInt).toNat < (100 - x3816.toInt).toNat by omega) ⟨h_g3955, (show (-1) ≤ x3816.toInt ∧ x3816.toInt ≤ 99 by omega), (show 0 ≤ z3922.toInt ∧ z3922.toInt ≤ 11 by omega), (show 0 ≤ z3961.toInt ∧ z3961.toInt ≤ 11 by omega), (show 0 ≤ z3968.toInt ∧ z3968.toInt ≤ 100 by omega), ⟨hP9, hD9⟩, hS, lv_sub hl [0, 2, 3, 4, 5, 6] rfl⟩
            · subst hz
              refine lv_if_eq (tgt := 209) hx hb dX12_draws_202 (by decide) (fun _ => ?_) (fun hc => absurd hc (by decide))
              refine lv_iconst (v := 0) hx hb dX12_draws_209 (by decide) ?_
              refine lv_iadd hx hb dX12_draws_210 ?_
              refine lv_topi (fun z3969 ez3969 => ?_)
              obtain rfl : z3969 = 1 := ez3969.trans (by decide)
              refine lv_istore (lv' := [(7, .int 1), (5, .int z3961), (4, .int z3922), (6, .int x3816), (0, .ref qm), (1, .long a1), (3, .int a2)]) hx hb dX12_draws_211 hl (by decide) rfl (fun ls hl => ?_)
              refine lv_aload_n hx hb dX12_draws_213 rfl (lv_at hl 4 rfl) ?_
              refine lv_dup hx hb dX12_draws_214 rfl ?_
              refine va_get (D := D) (ci := 12) (v := .int x3809) (C := RX12) (T := TX12) (N := 45) hx hb hts hi12 hown hK hP 1 rfl rfl 40 (by decide) (hts (.fieldLink RX12 444 "OverHillModel" "nightHoles" "I") (by decide +kernel)) (fun _ h9 => h9) rfl dX12_draws_215 ?_
              refine lv_iload hx hb dX12_draws_218 (lv_at hl 0 rfl) ?_
              refine lv_iadd hx hb dX12_draws_220 ?_
              refine lv_topi (fun z3970 ez3970 => ?_)
              refine va_put (D := D) (ci := 12) (v := .int z3970) (ty := .int) (C := RX12) (T := TX12) (N := 45) hx hb hts hi12 tyX12 tyX12_ok nmX12 hown hK hP hD hS 1 rfl rfl 40 (by decide) (hts (.fieldLink RX12 444 "OverHillModel" "nightHoles" "I") (by decide +kernel)) (fun _ h9 => h9) rfl (by decide +kernel) rfl rfl (Nat.le_of_ble_eq_true rfl) dX12_draws_221 (fun H locs hP hD hS => ?_)
              obtain ⟨hP, hD⟩ : ct_B D A H [(qm_round, .inl (cI, 120, .inl (fm_round))), mo qm vm_thrown qm_width qm_many qm_cells qm_moved qm_tape vm_taped vm_at vm_token vm_place vm_value vm_word vm_bad vm_badPlace vm_fault vm_faultPlace qm_lines qm_has qm_round qm_meets qm_stumble qm_isMud qm_cell qm_tune qm_change qm_isKept qm_steps qm_places qm_danced vm_runMost vm_runBegins qm_heardBy vm_fitMany vm_fitFirst vm_fitBeats vm_listenLeaves qm_there vm_metAt vm_metIn qm_wins z3970 x3810 x3811 y3953 y3954, (qm_has, .inl (cI, 55, .inl (fm_has))), (qm_meets, .inl (cI, 30, .inl (fm_meets))), (qm_danced, .inl (cI, 400, .inl (g3955)))] := ⟨hP, hD⟩
              refine lv_iload hx hb dX12_draws_224 (lv_at hl 0 rfl) ?_
              refine lv_if_le (tgt := 243) hx hb dX12_draws_226 (by decide) (fun hc => absurd hc (by decide)) (fun _ => ?_)
              refine lv_aload_n hx hb dX12_draws_229 rfl (lv_at hl 4 rfl) ?_
              refine va_get (D := D) (ci := 12) (v := .int x3810) (C := RX12) (T := TX12) (N := 45) hx hb hts hi12 hown hK hP 1 rfl rfl 41 (by decide) (hts (.fieldLink RX12 447 "OverHillModel" "nightFirst" "I") (by decide +kernel)) (fun _ h9 => h9) rfl dX12_draws_230 ?_
              refine lv_iconst (v := (-1)) hx hb dX12_draws_233 (by decide) ?_
              refine lv_icmp_ne (tgt := 243) hx hb dX12_draws_234 (by decide) (fun hc => ?_) (fun hc => ?_)
              · have hq3971 : x3810.toInt ≠ (-1) := tq_ne rfl (by decide) hc
                obtain ⟨z3972, ez3972⟩ : ∃ z : Int32, z = x3816 + 1 := ⟨_, rfl⟩
                have fz3972 : z3972.toInt = x3816.toInt + 1 := by rw [ez3972]; exact tq_add rfl (by decide) (by omega)
                refine lv_iinc (v := z3972) (lv' := [(6, .int z3972), (7, .int 1), (5, .int z3961), (4, .int z3922), (0, .ref qm), (1, .long a1), (3, .int a2)]) hx hb dX12_draws_243 hl (k := 3) rfl ez3972.symm (by decide) rfl (fun ls hl => ?_)
                refine lv_goto (tgt := 45) hx hb dX12_draws_246 (by decide) ?_
                obtain ⟨hP9, hD9⟩ : ct_B D A H [mo qm vm_thrown qm_width qm_many qm_cells qm_moved qm_tape vm_taped vm_at vm_token vm_place vm_value vm_word vm_bad vm_badPlace vm_fault vm_faultPlace qm_lines qm_has qm_round qm_meets qm_stumble qm_isMud qm_cell qm_tune qm_change qm_isKept qm_steps qm_places qm_danced vm_runMost vm_runBegins qm_heardBy vm_fitMany vm_fitFirst vm_fitBeats vm_listenLeaves qm_there vm_metAt vm_metIn qm_wins z3970 x3810 x3811 y3953 y3954, (qm_has, .inl (cI, 55, .inl (fm_has))), (qm_round, .inl (cI, 120, .inl (fm_round))), (qm_meets, .inl (cI, 30, .inl (fm_meets))), (qm_danced, .inl (cI, 400, .inl (g3955)))] := ⟨hP.sub [1, 2, 0, 3, 4] rfl, hD.sub [1, 2, 0, 3, 4] (by decide) rfl⟩
                exact ih3817 (g3955, z3970, x3810, x3811, y3953, y3954, z3922, z3961, z3972) _ _ _ (show (100 - z3972.toInt).toNat < (100 - x3816.toInt).toNat by omega) ⟨h_g3955, h_x3810, (show 0 ≤ z3922.toInt ∧ z3922.toInt ≤ 11 by omega), (show 0 ≤ z3961.toInt ∧ z3961.toInt ≤ 11 by omega), (show 0 ≤ z3972.toInt ∧ z3972.toInt ≤ 100 by omega), ⟨hP9, hD9⟩, hS, lv_sub hl [0, 2, 3, 4, 5, 6] rfl⟩
              · have hq3971 : x3810.toInt = (-1) := tq_eq rfl (by decide) hc
                refine lv_aload_n hx hb dX12_draws_237 rfl (lv_at hl 4 rfl) ?_
                refine lv_iload hx hb dX12_draws_238 (lv_at hl 3 rfl) ?_
                refine va_put (D := D) (ci := 12) (v := .int x3816) (ty := .int) (C := RX12) (T := TX12) (N := 45) hx hb hts hi12 tyX12 tyX12_ok nmX12 hown hK hP hD hS 1 rfl rfl 41 (by decide) (hts (.fieldLink RX12 447 "OverHillModel" "nightFirst" "I") (by decide +kernel)) (fun _ h9 => h9) rfl (by decide +kernel) rfl rfl (Nat.le_of_ble_eq_true rfl) dX12_draws_240 (fun H locs hP hD hS => ?_)
                obtain ⟨hP, hD⟩ : ct_B D A H [(qm_round, .inl (cI, 120, .inl (fm_round))), mo qm vm_thrown qm_width qm_many qm_cells qm_moved qm_tape vm_taped vm_at vm_token vm_place vm_value vm_word vm_bad vm_badPlace vm_fault vm_faultPlace qm_lines qm_has qm_round qm_meets qm_stumble qm_isMud qm_cell qm_tune qm_change qm_isKept qm_steps qm_places qm_danced vm_runMost vm_runBegins qm_heardBy vm_fitMany vm_fitFirst vm_fitBeats vm_listenLeaves qm_there vm_metAt vm_metIn qm_wins z3970 x3816 x3811 y3953 y3954, (qm_has, .inl (cI, 55, .inl (fm_has))), (qm_meets, .inl (cI, 30, .inl (fm_meets))), (qm_danced, .inl (cI, 400, .inl (g3955)))] := ⟨hP, hD⟩
                obtain ⟨z3973, ez3973⟩ : ∃ z : Int32, z = x3816 + 1 := ⟨_, rfl⟩
                have fz3973 : z3973.toInt = x3816.toInt + 1 := by rw [ez3973]; exact tq_add rfl (by decide) (by omega)
                refine lv_iinc (v := z3973) (lv' := [(6, .int z3973), (7, .int 1), (5, .int z3961), (4, .int z3922), (0, .ref qm), (1, .long a1), (3, .int a2)]) hx hb dX12_draws_243 hl (k := 3) rfl ez3973.symm (by decide) rfl (fun ls hl => ?_)
                refine lv_goto (tgt := 45) hx hb dX12_draws_246 (by decide) ?_
                obtain ⟨hP9, hD9⟩ : ct_B D A H [mo qm vm_thrown qm_width qm_many qm_cells qm_moved qm_tape vm_taped vm_at vm_token vm_place vm_value vm_word vm_bad vm_badPlace vm_fault vm_faultPlace qm_lines qm_has qm_round qm_meets qm_stumble qm_isMud qm_cell qm_tune qm_change qm_isKept qm_steps qm_places qm_danced vm_runMost vm_runBegins qm_heardBy vm_fitMany vm_fitFirst vm_fitBeats vm_listenLeaves qm_there vm_metAt vm_metIn qm_wins z3970 x3816 x3811 y3953 y3954, (qm_has, .inl (cI, 55, .inl (fm_has))), (qm_round, .inl (cI, 120, .inl (fm_round))), (qm_meets, .inl (cI, 30, .inl (fm_meets))), (qm_danced, .inl (cI, 400, .inl (g3955)))] := ⟨hP.sub [1, 2, 0, 3, 4] rfl, hD.sub [1, 2, 0, 3, 4] (by decide) rfl⟩
                exact ih3817 (g3955, z3970, x3816, x3811, y3953, y3954, z3922, z3961, z3973) _ _ _ (show (100 - z3973.toInt).toNat < (100 - x3816.toInt).toNat by omega) ⟨h_g3955, (show (-1) ≤ x3816.toInt ∧ x3816.toInt ≤ 99 by omega), (show 0 ≤ z3922.toInt ∧ z3922.toInt ≤ 11 by omega), (show 0 ≤ z3961.toInt ∧ z3961.toInt ≤ 11 by omega), (show 0 ≤ z3973.toInt ∧ z3973.toInt ≤ 100 by omega), ⟨hP9, hD9⟩, hS, lv_sub hl [0, 2, 3, 4, 5, 6] rfl⟩
          · subst hz
            refine lv_if_eq (tgt := 194) hx hb dX12_draws_187 (by decide) (fun _ => ?_) (fun hc => absurd hc (by decide))
            refine lv_iconst (v := 0) hx hb dX12_draws_194 (by decide) ?_
            refine lv_aload_n hx hb dX12_draws_195 rfl (lv_at hl 3 rfl) ?_
            refine lv_iconst (v := 1) hx hb dX12_draws_196 (by decide) ?_
            refine lv_iload hx hb dX12_draws_197 (lv_at hl 2 rfl) ?_
            refine ct_calli (D := D) (wr := [(qm_round, .inl (cI, 120, .inl (fm_round)))]) (va_runV (As := [.int 1, .int x3816]) (rest := [.int 0]) ⟨hx, hb, hml, hown, hts⟩ (c_X12_isHole l D G cI cJ cB cZ cO qm vm_thrown qm_width qm_many qm_cells qm_moved qm_tape vm_taped vm_at vm_token vm_place vm_value vm_word vm_bad vm_badPlace vm_fault vm_faultPlace qm_lines qm_has fm_has qm_round qm_meets fm_meets qm_stumble qm_isMud qm_cell qm_tune qm_change qm_isKept qm_steps qm_places qm_danced g3955 vm_runMost vm_runBegins qm_heardBy vm_fitMany vm_fitFirst vm_fitBeats vm_listenLeaves qm_there vm_metAt vm_metIn qm_wins x3809 x3810 x3811 y3953 y3954 1 x3816 h_vm_taped h_vm_at h_vm_value h_fm_has h_g3955 (by decide) (by omega) H.size) (cwV 2 hts gX12_draws_X12_isHole rfl rfl rfl (by decide +kernel) ⟨Nat.le_of_ble_eq_true rfl, Nat.le_of_ble_eq_true rfl⟩) (ct_preV (T := ct_T cI cJ cB cZ cO) (ci := 12) (q0 := 1) hE hH hP hD hS hA [1, 2, 3, 4] (by decide) rfl rfl rfl) rfl rfl hl.1 rfl (lv_room (Nat.le_of_ble_eq_true rfl)) dX12_draws_199 ⟨Nat.le_of_ble_eq_true rfl, Nat.le_of_ble_eq_true rfl⟩) hP hD hS hA [1, 2, 3, 4] [0] rfl rfl (by decide) (by decide) (fun r3974 u H locs hw hP hD hS => ?_)
            obtain ⟨hP, hD⟩ : ct_B D A H [(qm_round, .inl (cI, 120, .inl (fm_round))), mo qm vm_thrown qm_width qm_many qm_cells qm_moved qm_tape vm_taped vm_at vm_token vm_place vm_value vm_word vm_bad vm_badPlace vm_fault vm_faultPlace qm_lines qm_has qm_round qm_meets qm_stumble qm_isMud qm_cell qm_tune qm_change qm_isKept qm_steps qm_places qm_danced vm_runMost vm_runBegins qm_heardBy vm_fitMany vm_fitFirst vm_fitBeats vm_listenLeaves qm_there vm_metAt vm_metIn qm_wins x3809 x3810 x3811 y3953 y3954, (qm_has, .inl (cI, 55, .inl (fm_has))), (qm_meets, .inl (cI, 30, .inl (fm_meets))), (qm_danced, .inl (cI, 400, .inl (g3955)))] := ⟨hP, hD⟩
            have hz := hw
            rcases hz with ⟨hz, hz2⟩ | ⟨hz, hz2⟩
            · subst hz
              refine lv_if_eq (tgt := 209) hx hb dX12_draws_202 (by decide) (fun hc => absurd hc (by decide)) (fun _ => ?_)
              refine lv_iconst (v := 1) hx hb dX12_draws_205 (by decide) ?_
              refine lv_goto (tgt := 210) hx hb dX12_draws_206 (by decide) ?_
              refine lv_iadd hx hb dX12_draws_210 ?_
              refine lv_topi (fun z3975 ez3975 => ?_)
              obtain rfl : z3975 = 1 := ez3975.trans (by decide)
              refine lv_istore (lv' := [(7, .int 1), (5, .int z3961), (4, .int z3922), (6, .int x3816), (0, .ref qm), (1, .long a1), (3, .int a2)]) hx hb dX12_draws_211 hl (by decide) rfl (fun ls hl => ?_)
              refine lv_aload_n hx hb dX12_draws_213 rfl (lv_at hl 4 rfl) ?_
              refine lv_dup hx hb dX12_draws_214 rfl ?_
              refine va_get (D := D) (ci := 12) (v := .int x3809) (C := RX12) (T := TX12) (N := 45) hx hb hts hi12 hown hK hP 1 rfl rfl 40 (by decide) (hts (.fieldLink RX12 444 "OverHillModel" "nightHoles" "I") (by decide +kernel)) (fun _ h9 => h9) rfl dX12_draws_215 ?_
              refine lv_iload hx hb dX12_draws_218 (lv_at hl 0 rfl) ?_
              refine lv_iadd hx hb dX12_draws_220 ?_
              refine lv_topi (fun z3976 ez3976 => ?_)
              refine va_put (D := D) (ci := 12) (v := .int z3976) (ty := .int) (C := RX12) (T := TX12) (N := 45) hx hb hts hi12 tyX12 tyX12_ok nmX12 hown hK hP hD hS 1 rfl rfl 40 (by decide) (hts (.fieldLink RX12 444 "OverHillModel" "nightHoles" "I") (by decide +kernel)) (fun _ h9 => h9) rfl (by decide +kernel) rfl rfl (Nat.le_of_ble_eq_true rfl) dX12_draws_221 (fun H locs hP hD hS => ?_)
              obtain ⟨hP, hD⟩ : ct_B D A H [(qm_round, .inl (cI, 120, .inl (fm_round))), mo qm vm_thrown qm_width qm_many qm_cells qm_moved qm_tape vm_taped vm_at vm_token vm_place vm_value vm_word vm_bad vm_badPlace vm_fault vm_faultPlace qm_lines qm_has qm_round qm_meets qm_stumble qm_isMud qm_cell qm_tune qm_change qm_isKept qm_steps qm_places qm_danced vm_runMost vm_runBegins qm_heardBy vm_fitMany vm_fitFirst vm_fitBeats vm_listenLeaves qm_there vm_metAt vm_metIn qm_wins z3976 x3810 x3811 y3953 y3954, (qm_has, .inl (cI, 55, .inl (fm_has))), (qm_meets, .inl (cI, 30, .inl (fm_meets))), (qm_danced, .inl (cI, 400, .inl (g3955)))] := ⟨hP, hD⟩
              refine lv_iload hx hb dX12_draws_224 (lv_at hl 0 rfl) ?_
              refine lv_if_le (tgt := 243) hx hb dX12_draws_226 (by decide) (fun hc => absurd hc (by decide)) (fun _ => ?_)
              refine lv_aload_n hx hb dX12_draws_229 rfl (lv_at hl 4 rfl) ?_
              refine va_get (D := D) (ci := 12) (v := .int x3810) (C := RX12) (T := TX12) (N := 45) hx hb hts hi12 hown hK hP 1 rfl rfl 41 (by decide) (hts (.fieldLink RX12 447 "OverHillModel" "nightFirst" "I") (by decide +kernel)) (fun _ h9 => h9) rfl dX12_draws_230 ?_
              refine lv_iconst (v := (-1)) hx hb dX12_draws_233 (by decide) ?_
              refine lv_icmp_ne (tgt := 243) hx hb dX12_draws_234 (by decide) (fun hc => ?_) (fun hc => ?_)
              · have hq3977 : x3810.toInt ≠ (-1) := tq_ne rfl (by decide) hc
                obtain ⟨z3978, ez3978⟩ : ∃ z : Int32, z = x3816 + 1 := ⟨_, rfl⟩
                have fz3978 : z3978.toInt = x3816.toInt + 1 := by rw [ez3978]; exact tq_add rfl (by decide) (by omega)
                refine lv_iinc (v := z3978) (lv' := [(6, .int z3978), (7, .int 1), (5, .int z3961), (4, .int z3922), (0, .ref qm), (1, .long a1), (3, .int a2)]) hx hb dX12_draws_243 hl (k := 3) rfl ez3978.symm (by decide) rfl (fun ls hl => ?_)
                refine lv_goto (tgt := 45) hx hb dX12_draws_246 (by decide) ?_
                obtain ⟨hP9, hD9⟩ : ct_B D A H [mo qm vm_thrown qm_width qm_many qm_cells qm_moved qm_tape vm_taped vm_at vm_token vm_place vm_value vm_word vm_bad vm_badPlace vm_fault vm_faultPlace qm_lines qm_has qm_round qm_meets qm_stumble qm_isMud qm_cell qm_tune qm_change qm_isKept qm_steps qm_places qm_danced vm_runMost vm_runBegins qm_heardBy vm_fitMany vm_fitFirst vm_fitBeats vm_listenLeaves qm_there vm_metAt vm_metIn qm_wins z3976 x3810 x3811 y3953 y3954, (qm_has, .inl (cI, 55, .inl (fm_has))), (qm_round, .inl (cI, 120, .inl (fm_round))), (qm_meets, .inl (cI, 30, .inl (fm_meets))), (qm_danced, .inl (cI, 400, .inl (g3955)))] := ⟨hP.sub [1, 2, 0, 3, 4] rfl, hD.sub [1, 2, 0, 3, 4] (by decide) rfl⟩
                exact ih3817 (g3955, z3976, x3810, x3811, y3953, y3954, z3922, z3961, z3978) _ _ _ (show (100 - z3978.toInt).toNat < (100 - x3816.toInt).toNat by omega) ⟨h_g3955, h_x3810, (show 0 ≤ z3922.toInt ∧ z3922.toInt ≤ 11 by omega), (show 0 ≤ z3961.toInt ∧ z3961.toInt ≤ 11 by omega), (show 0 ≤ z3978.toInt ∧ z3978.toInt ≤ 100 by omega), ⟨hP9, hD9⟩, hS, lv_sub hl [0, 2, 3, 4, 5, 6] rfl⟩
              · have hq3977 : x3810.toInt = (-1) := tq_eq rfl (by decide) hc
                refine lv_aload_n hx hb dX12_draws_237 rfl (lv_at hl 4 rfl) ?_
                refine lv_iload hx hb dX12_draws_238 (lv_at hl 3 rfl) ?_
                refine va_put (D := D) (ci := 12) (v := .int x3816) (ty := .int) (C := RX12) (T := TX12) (N := 45) hx hb hts hi12 tyX12 tyX12_ok nmX12 hown hK hP hD hS 1 rfl rfl 41 (by decide) (hts (.fieldLink RX12 447 "OverHillModel" "nightFirst" "I") (by decide +kernel)) (fun _ h9 => h9) rfl (by decide +kernel) rfl rfl (Nat.le_of_ble_eq_true rfl) dX12_draws_240 (fun H locs hP hD hS => ?_)
                obtain ⟨hP, hD⟩ : ct_B D A H [(qm_round, .inl (cI, 120, .inl (fm_round))), mo qm vm_thrown qm_width qm_many qm_cells qm_moved qm_tape vm_taped vm_at vm_token vm_place vm_value vm_word vm_bad vm_badPlace vm_fault vm_faultPlace qm_lines qm_has qm_round qm_meets qm_stumble qm_isMud qm_cell qm_tune qm_change qm_isKept qm_steps qm_places qm_danced vm_runMost vm_runBegins qm_heardBy vm_fitMany vm_fitFirst vm_fitBeats vm_listenLeaves qm_there vm_metAt vm_metIn qm_wins z3976 x3816 x3811 y3953 y3954, (qm_has, .inl (cI, 55, .inl (fm_has))), (qm_meets, .inl (cI, 30, .inl (fm_meets))), (qm_danced, .inl (cI, 400, .inl (g3955)))] := ⟨hP, hD⟩
                obtain ⟨z3979, ez3979⟩ : ∃ z : Int32, z = x3816 + 1 := ⟨_, rfl⟩
                have fz3979 : z3979.toInt = x3816.toInt + 1 := by rw [ez3979]; exact tq_add rfl (by decide) (by omega)
                refine lv_iinc (v := z3979) (lv' := [(6, .int z3979), (7, .int 1), (5, .int z3961), (4, .int z3922), (0, .ref qm), (1, .long a1), (3, .int a2)]) hx hb dX12_draws_243 hl (k := 3) rfl ez3979.symm (by decide) rfl (fun ls hl => ?_)
                refine lv_goto (tgt := 45) hx hb dX12_draws_246 (by decide) ?_
                obtain ⟨hP9, hD9⟩ : ct_B D A H [mo qm vm_thrown qm_width qm_many qm_cells qm_moved qm_tape vm_taped vm_at vm_token vm_place vm_value vm_word vm_bad vm_badPlace vm_fault vm_faultPlace qm_lines qm_has qm_round qm_meets qm_stumble qm_isMud qm_cell qm_tune qm_change qm_isKept qm_steps qm_places qm_danced vm_runMost vm_runBegins qm_heardBy vm_fitMany vm_fitFirst vm_fitBeats vm_listenLeaves qm_there vm_metAt vm_metIn qm_wins z3976 x3816 x3811 y3953 y3954, (qm_has, .inl (cI, 55, .inl (fm_has))), (qm_round, .inl (cI, 120, .inl (fm_round))), (qm_meets, .inl (cI, 30, .inl (fm_meets))), (qm_danced, .inl (cI, 400, .inl (g3955)))] := ⟨hP.sub [1, 2, 0, 3, 4] rfl, hD.sub [1, 2, 0, 3, 4] (by decide) rfl⟩
                exact ih3817 (g3955, z3976, x3816, x3811, y3953, y3954, z3922, z3961, z3979) _ _ _ (show (100 - z3979.toInt).toNat < (100 - x3816.toInt).toNat by omega) ⟨h_g3955, (show (-1) ≤ x3816.toInt ∧ x3816.toInt ≤ 99 by omega), (show 0 ≤ z3922.toInt ∧ z3922.toInt ≤ 11 by omega), (show 0 ≤ z3961.toInt ∧ z3961.toInt ≤ 11 by omega), (show 0 ≤ z3979.toInt ∧ z3979.toInt ≤ 100 by omega), ⟨hP9, hD9⟩, hS, lv_sub hl [0, 2, 3, 4, 5, 6] rfl⟩
            · subst hz
              refine lv_if_eq (tgt := 209) hx hb dX12_draws_202 (by decide) (fun _ => ?_) (fun hc => absurd hc (by decide))
              refine lv_iconst (v := 0) hx hb dX12_draws_209 (by decide) ?_
              refine lv_iadd hx hb dX12_draws_210 ?_
              refine lv_topi (fun z3980 ez3980 => ?_)
              obtain rfl : z3980 = 0 := ez3980.trans (by decide)
              refine lv_istore (lv' := [(7, .int 0), (5, .int z3961), (4, .int z3922), (6, .int x3816), (0, .ref qm), (1, .long a1), (3, .int a2)]) hx hb dX12_draws_211 hl (by decide) rfl (fun ls hl => ?_)
              refine lv_aload_n hx hb dX12_draws_213 rfl (lv_at hl 4 rfl) ?_
              refine lv_dup hx hb dX12_draws_214 rfl ?_
              refine va_get (D := D) (ci := 12) (v := .int x3809) (C := RX12) (T := TX12) (N := 45) hx hb hts hi12 hown hK hP 1 rfl rfl 40 (by decide) (hts (.fieldLink RX12 444 "OverHillModel" "nightHoles" "I") (by decide +kernel)) (fun _ h9 => h9) rfl dX12_draws_215 ?_
              refine lv_iload hx hb dX12_draws_218 (lv_at hl 0 rfl) ?_
              refine lv_iadd hx hb dX12_draws_220 ?_
              refine lv_topi (fun z3981 ez3981 => ?_)
              refine va_put (D := D) (ci := 12) (v := .int z3981) (ty := .int) (C := RX12) (T := TX12) (N := 45) hx hb hts hi12 tyX12 tyX12_ok nmX12 hown hK hP hD hS 1 rfl rfl 40 (by decide) (hts (.fieldLink RX12 444 "OverHillModel" "nightHoles" "I") (by decide +kernel)) (fun _ h9 => h9) rfl (by decide +kernel) rfl rfl (Nat.le_of_ble_eq_true rfl) dX12_draws_221 (fun H locs hP hD hS => ?_)
              obtain ⟨hP, hD⟩ : ct_B D A H [(qm_round, .inl (cI, 120, .inl (fm_round))), mo qm vm_thrown qm_width qm_many qm_cells qm_moved qm_tape vm_taped vm_at vm_token vm_place vm_value vm_word vm_bad vm_badPlace vm_fault vm_faultPlace qm_lines qm_has qm_round qm_meets qm_stumble qm_isMud qm_cell qm_tune qm_change qm_isKept qm_steps qm_places qm_danced vm_runMost vm_runBegins qm_heardBy vm_fitMany vm_fitFirst vm_fitBeats vm_listenLeaves qm_there vm_metAt vm_metIn qm_wins z3981 x3810 x3811 y3953 y3954, (qm_has, .inl (cI, 55, .inl (fm_has))), (qm_meets, .inl (cI, 30, .inl (fm_meets))), (qm_danced, .inl (cI, 400, .inl (g3955)))] := ⟨hP, hD⟩
              refine lv_iload hx hb dX12_draws_224 (lv_at hl 0 rfl) ?_
              refine lv_if_le (tgt := 243) hx hb dX12_draws_226 (by decide) (fun _ => ?_) (fun hc => absurd hc (by decide))
              obtain ⟨z3982, ez3982⟩ : ∃ z : Int32, z = x3816 + 1 := ⟨_, rfl⟩
              have fz3982 : z3982.toInt = x3816.toInt + 1 := by rw [ez3982]; exact tq_add rfl (by decide) (by omega)
              refine lv_iinc (v := z3982) (lv' := [(6, .int z3982), (7, .int 0), (5, .int z3961), (4, .int z3922), (0, .ref qm), (1, .long a1), (3, .int a2)]) hx hb dX12_draws_243 hl (k := 3) rfl ez3982.symm (by decide) rfl (fun ls hl => ?_)
              refine lv_goto (tgt := 45) hx hb dX12_draws_246 (by decide) ?_
              obtain ⟨hP9, hD9⟩ : ct_B D A H [mo qm vm_thrown qm_width qm_many qm_cells qm_moved qm_tape vm_taped vm_at vm_token vm_place vm_value vm_word vm_bad vm_badPlace vm_fault vm_faultPlace qm_lines qm_has qm_round qm_meets qm_stumble qm_isMud qm_cell qm_tune qm_change qm_isKept qm_steps qm_places qm_danced vm_runMost vm_runBegins qm_heardBy vm_fitMany vm_fitFirst vm_fitBeats vm_listenLeaves qm_there vm_metAt vm_metIn qm_wins z3981 x3810 x3811 y3953 y3954, (qm_has, .inl (cI, 55, .inl (fm_has))), (qm_round, .inl (cI, 120, .inl (fm_round))), (qm_meets, .inl (cI, 30, .inl (fm_meets))), (qm_danced, .inl (cI, 400, .inl (g3955)))] := ⟨hP.sub [1, 2, 0, 3, 4] rfl, hD.sub [1, 2, 0, 3, 4] (by decide) rfl⟩
              exact ih3817 (g3955, z3981, x3810, x3811, y3953, y3954, z3922, z3961, z3982) _ _ _ (show (100 - z3982.toInt).toNat < (100 - x3816.toInt).toNat by omega) ⟨h_g3955, h_x3810, (show 0 ≤ z3922.toInt ∧ z3922.toInt ≤ 11 by omega), (show 0 ≤ z3961.toInt ∧ z3961.toInt ≤ 11 by omega), (show 0 ≤ z3982.toInt ∧ z3982.toInt ≤ 100 by omega), ⟨hP9, hD9⟩, hS, lv_sub hl [0, 2, 3, 4, 5, 6] rfl⟩
