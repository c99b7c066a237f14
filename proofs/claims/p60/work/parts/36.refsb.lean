abbrev w_c_X12_hasRead (cI cJ cB cZ cO : ClassId) (qm : Nat) (vm_thrown : Int32) (qm_width : Nat) (qm_many : Nat) (qm_cells : Nat) (qm_moved : Nat) (qm_tape : Nat) (vm_taped : Int32) (vm_at : Int32) (vm_token : Int32) (vm_place : Int32) (vm_value : Int32) (vm_word : Int64) (vm_bad : Int32) (vm_badPlace : Int32) (vm_fault : Int32) (vm_faultPlace : Int32) (qm_lines : Nat) (qm_has : Nat) (fm_has : Nat → Int32) (qm_round : Nat) (qm_meets : Nat) (qm_stumble : Nat) (qm_isMud : Nat) (qm_cell : Nat) (qm_tune : Nat) (qm_change : Nat) (qm_isKept : Nat) (qm_steps : Nat) (qm_places : Nat) (qm_danced : Nat) (vm_runMost : Int32) (vm_runBegins : Int32) (qm_heardBy : Nat) (vm_fitMany : Int32) (vm_fitFirst : Int32) (vm_fitBeats : Int64) (vm_listenLeaves : Int32) (qm_there : Nat) (vm_metAt : Int32) (vm_metIn : Int32) (qm_wins : Nat) (vm_nightHoles : Int32) (vm_nightFirst : Int32) (vm_nightMud : Int32) (vm_nightSlips : Int32) (vm_drawnNow : Int64) : va_W := [mo qm vm_thrown qm_width qm_many qm_cells qm_moved qm_tape vm_taped vm_at vm_token vm_place vm_value vm_word vm_bad vm_badPlace vm_fault vm_faultPlace qm_lines qm_has qm_round qm_meets qm_stumble qm_isMud qm_cell qm_tune qm_change qm_isKept qm_steps qm_places qm_danced vm_runMost vm_runBegins qm_heardBy vm_fitMany vm_fitFirst vm_fitBeats vm_listenLeaves qm_there vm_metAt vm_metIn qm_wins vm_nightHoles vm_nightFirst vm_nightMud vm_nightSlips vm_drawnNow, (qm_has, .inl (cI, 55, .inl (fm_has)))]
set_option maxHeartbeats 4000000 in
set_option maxRecDepth 100000 in
/-- X12 hasRead -/
theorem c_X12_hasRead (l : Launch) (D : va_G) (G : ct_G) (cI cJ cB cZ cO : ClassId) (qm : Nat) (vm_thrown : Int32) (qm_width : Nat) (qm_many : Nat) (qm_cells : Nat) (qm_moved : Nat) (qm_tape : Nat) (vm_taped : Int32) (vm_at : Int32) (vm_token : Int32) (vm_place : Int32) (vm_value : Int32) (vm_word : Int64) (vm_bad : Int32) (vm_badPlace : Int32) (vm_fault : Int32) (vm_faultPlace : Int32) (qm_lines : Nat) (qm_has : Nat) (fm_has : Nat → Int32) (qm_round : Nat) (qm_meets : Nat) (qm_stumble : Nat) (qm_isMud : Nat) (qm_cell : Nat) (qm_tune : Nat) (qm_change : Nat) (qm_isKept : Nat) (qm_steps : Nat) (qm_places : Nat) (qm_danced : Nat) (vm_runMost : Int32) (vm_runBegins : Int32) (qm_heardBy : Nat) (vm_fitMany : Int32) (vm_fitFirst : Int32) (vm_fitBeats : Int64) (vm_listenLeaves : Int32) (qm_there : Nat) (vm_metAt : Int32) (vm_metIn : Int32) (qm_wins : Nat) (vm_nightHoles : Int32) (vm_nightFirst : Int32) (vm_nightMud : Int32) (vm_nightSlips : Int32) (vm_drawnNow : Int64) (a1 : Int32) (h_vm_taped : 0 ≤ vm_taped.toInt ∧ vm_taped.toInt ≤ 1200) (h_vm_at : 0 ≤ vm_at.toInt ∧ vm_at.toInt ≤ 1200) (h_vm_value : 0 ≤ vm_value.toInt ∧ vm_value.toInt ≤ 1000009) (h_fm_has : ar_ok [0, (-2147483648), (-2147483648), 0, 0, 0, 0, 0, 0, 0, 0] [20, 2147483647, 2147483647, 12, 12, 11, 11, 8, 12, 5, 40] fm_has) (h_a1 : 0 ≤ a1.toInt ∧ a1.toInt ≤ 10) (sz : Nat) : Met l yX12_hasRead wsX12_hasRead ({ frames := 0, cells := 0, slots := 0, locals := 0 }) (va_Pc [.ref qm, .int a1] (ct_P D (ct_T cI cJ cB cZ cO) G (w_c_X12_hasRead cI cJ cB cZ cO qm vm_thrown qm_width qm_many qm_cells qm_moved qm_tape vm_taped vm_at vm_token vm_place vm_value vm_word vm_bad vm_badPlace vm_fault vm_faultPlace qm_lines qm_has fm_has qm_round qm_meets qm_stumble qm_isMud qm_cell qm_tune qm_change qm_isKept qm_steps qm_places qm_danced vm_runMost vm_runBegins qm_heardBy vm_fitMany vm_fitFirst vm_fitBeats vm_listenLeaves qm_there vm_metAt vm_metIn qm_wins vm_nightHoles vm_nightFirst vm_nightMud vm_nightSlips vm_drawnNow) sz)) (va_Qi (fun (rz : Int32) (u : Unit) => (rz = fm_has (44 + a1.toInt).toNat)) (fun (u : Unit) t => ct_Q D (va_A (w_c_X12_hasRead cI cJ cB cZ cO qm vm_thrown qm_width qm_many qm_cells qm_moved qm_tape vm_taped vm_at vm_token vm_place vm_value vm_word vm_bad vm_badPlace vm_fault vm_faultPlace qm_lines qm_has fm_has qm_round qm_meets qm_stumble qm_isMud qm_cell qm_tune qm_change qm_isKept qm_steps qm_places qm_danced vm_runMost vm_runBegins qm_heardBy vm_fitMany vm_fitFirst vm_fitBeats vm_listenLeaves qm_there vm_metAt vm_metIn qm_wins vm_nightHoles vm_nightFirst vm_nightMud vm_nightSlips vm_drawnNow) sz) [mo qm vm_thrown qm_width qm_many qm_cells qm_moved qm_tape vm_taped vm_at vm_token vm_place vm_value vm_word vm_bad vm_badPlace vm_fault vm_faultPlace qm_lines qm_has qm_round qm_meets qm_stumble qm_isMud qm_cell qm_tune qm_change qm_isKept qm_steps qm_places qm_danced vm_runMost vm_runBegins qm_heardBy vm_fitMany vm_fitFirst vm_fitBeats vm_listenLeaves qm_there vm_metAt vm_metIn qm_wins vm_nightHoles vm_nightFirst vm_nightMud vm_nightSlips vm_drawnNow, (qm_has, .inl (cI, 55, .inl (fm_has)))] t) (va_A (w_c_X12_hasRead cI cJ cB cZ cO qm vm_thrown qm_width qm_many qm_cells qm_moved qm_tape vm_taped vm_at vm_token vm_place vm_value vm_word vm_bad vm_badPlace vm_fault vm_faultPlace qm_lines qm_has fm_has qm_round qm_meets qm_stumble qm_isMud qm_cell qm_tune qm_change qm_isKept qm_steps qm_places qm_danced vm_runMost vm_runBegins qm_heardBy vm_fitMany vm_fitFirst vm_fitBeats vm_listenLeaves qm_there vm_metAt vm_metIn qm_wins vm_nightHoles vm_nightFirst vm_nightMud vm_nightSlips vm_drawnNow) sz)) 0 0 (va_A (w_c_X12_hasRead cI cJ cB cZ cO qm vm_thrown qm_width qm_many qm_cells qm_moved qm_tape vm_taped vm_at vm_token vm_place vm_value vm_word vm_bad vm_badPlace vm_fault vm_faultPlace qm_lines qm_has fm_has qm_round qm_meets qm_stumble qm_isMud qm_cell qm_tune qm_change qm_isKept qm_steps qm_places qm_danced vm_runMost vm_runBegins qm_heardBy vm_fitMany vm_fitFirst vm_fitBeats vm_listenLeaves qm_there vm_metAt vm_metIn qm_wins vm_nightHoles vm_nightFirst vm_nightMud vm_nightSlips vm_drawnNow) sz) := by
  refine Met.ofW (cc := cX12_hasRead) (maxL := 2) (ret := (some .int)) (by decide) rfl ?_
  intro p e s m args below meth c s₁ B hml hv
  obtain ⟨rfl, hsz, hP, hE, hD0, hH⟩ := hv
  have hx := B.exec
  have hb := B.bytes
  have hr := B.returns
  have hts := atoms_spec (ws := wsX12_hasRead) B.pre
  have hown : s.vm.findClass RX12 = some m.cls := findClass_of_methodNamed B.named
  have hlocks := B.notSynchronized
  have hK := hE.1
  have hi12 : ∀ w ∈ u_ws RX12 TX12 45, w ∈ wsX12_hasRead := fun w h => List.mem_cons_of_mem _ (List.mem_append_right _ h)
  subst hsz
  have hD := hD0.self (sz := s.heap.size)
  generalize hAe : va_A (w_c_X12_hasRead cI cJ cB cZ cO qm vm_thrown qm_width qm_many qm_cells qm_moved qm_tape vm_taped vm_at vm_token vm_place vm_value vm_word vm_bad vm_badPlace vm_fault vm_faultPlace qm_lines qm_has fm_has qm_round qm_meets qm_stumble qm_isMud qm_cell qm_tune qm_change qm_isKept qm_steps qm_places qm_danced vm_runMost vm_runBegins qm_heardBy vm_fitMany vm_fitFirst vm_fitBeats vm_listenLeaves qm_there vm_metAt vm_metIn qm_wins vm_nightHoles vm_nightFirst vm_nightMud vm_nightSlips vm_drawnNow) s.heap.size = A at hD hH ⊢
  have hA : ∀ q : Nat, s.heap.size ≤ q → A q := fun q h => by rw [← hAe]; exact Or.inr h
  have hS : va_S A s.heap s.heap [] := va_S.rf
  obtain ⟨hP, hD⟩ : ct_B D A s.heap [mo qm vm_thrown qm_width qm_many qm_cells qm_moved qm_tape vm_taped vm_at vm_token vm_place vm_value vm_word vm_bad vm_badPlace vm_fault vm_faultPlace qm_lines qm_has qm_round qm_meets qm_stumble qm_isMud qm_cell qm_tune qm_change qm_isKept qm_steps qm_places qm_danced vm_runMost vm_runBegins qm_heardBy vm_fitMany vm_fitFirst vm_fitBeats vm_listenLeaves qm_there vm_metAt vm_metIn qm_wins vm_nightHoles vm_nightFirst vm_nightMud vm_nightSlips vm_drawnNow, (qm_has, .inl (cI, 55, .inl (fm_has)))] := ⟨hP, hD⟩
  have hl := lv_entry ([.ref qm, .int a1]) (n := 2) (Nat.le_of_ble_eq_true rfl)
  rw [lg_entry_eq]
  generalize (lg_sl ([.ref qm, .int a1]) ++ List.replicate (2 - (lg_sl ([.ref qm, .int a1])).length) Slot.unset).toArray = ls at hl ⊢
  have hl : lv_has ls 2 [(0, .ref qm), (1, .int a1)] := hl
  obtain ⟨H, hHe⟩ : ∃ H : Heap, H = s.heap := ⟨_, rfl⟩
  rw [← hHe] at hP
  have hS : va_S A s.heap H [] := by rw [hHe]; exact va_S.rf
  refine ct_start hHe ?_
  refine lv_aload_n hx hb dX12_hasRead_0 rfl (lv_at hl 0 rfl) ?_
  refine va_get (D := D) (ci := 12) (v := .ref qm_has) (C := RX12) (T := TX12) (N := 45) hx hb hts hi12 hown hK hP 0 rfl rfl 17 (by decide) (hts (.fieldLink RX12 34 "OverHillModel" "has" "[I") (by decide +kernel)) (fun _ h9 => h9) rfl dX12_hasRead_1 ?_
  refine lv_bipush (v := 44) hx hb dX12_hasRead_4 (by decide) ?_
  refine lv_iload_n hx hb dX12_hasRead_6 rfl (lv_at hl 1 rfl) ?_
  refine lv_iadd hx hb dX12_hasRead_7 ?_
  refine lv_topi (fun z1 ez1 => ?_)
  have fz1 : z1.toInt = 44 + a1.toInt := by rw [ez1]; exact tq_add (by decide) rfl (by omega)
  refine va_iald (D := D) hx hb hK hP 1 0 rfl rfl (tq_in rfl (by omega)) dX12_hasRead_8 ?_
  refine lv_topi (fun z2 ez2 => ?_)
  obtain ⟨hP9, hD9⟩ : ct_B D A H [mo qm vm_thrown qm_width qm_many qm_cells qm_moved qm_tape vm_taped vm_at vm_token vm_place vm_value vm_word vm_bad vm_badPlace vm_fault vm_faultPlace qm_lines qm_has qm_round qm_meets qm_stumble qm_isMud qm_cell qm_tune qm_change qm_isKept qm_steps qm_places qm_danced vm_runMost vm_runBegins qm_heardBy vm_fitMany vm_fitFirst vm_fitBeats vm_listenLeaves qm_there vm_metAt vm_metIn qm_wins vm_nightHoles vm_nightFirst vm_nightMud vm_nightSlips vm_drawnNow, (qm_has, .inl (cI, 55, .inl (fm_has)))] := ⟨hP.sub [0, 1] rfl, hD.sub [0, 1] (by decide) rfl⟩
  exact W.iret (v := z2) hx hb hr (fun t ht hW => ⟨⟨z2, (), rfl, (show z2 = fm_has (44 + a1.toInt).toNat by rw [ez2]; exact congrArg fm_has (show z1.toInt.toNat = (44 + a1.toInt).toNat by omega)), by rw [ht]; exact hP9, hD9⟩, hS.F ht⟩) hS.2.2 dX12_hasRead_9
abbrev w_c_X12_reads (cI cJ cB cZ cO : ClassId) (qm : Nat) (vm_thrown : Int32) (qm_width : Nat) (qm_many : Nat) (qm_cells : Nat) (qm_moved : Nat) (qm_tape : Nat) (vm_taped : Int32) (vm_at : Int32) (vm_token : Int32) (vm_place : Int32) (vm_value : Int32) (vm_word : Int64) (vm_bad : Int32) (vm_badPlace : Int32) (vm_fault : Int32) (vm_faultPlace : Int32) (qm_lines : Nat) (qm_has : Nat) (fm_has : Nat → Int32) (qm_round : Nat) (qm_meets : Nat) (qm_stumble : Nat) (qm_isMud : Nat) (qm_cell : Nat) (qm_tune : Nat) (qm_change : Nat) (qm_isKept : Nat) (qm_steps : Nat) (qm_places : Nat) (qm_danced : Nat) (vm_runMost : Int32) (vm_runBegins : Int32) (qm_heardBy : Nat) (vm_fitMany : Int32) (vm_fitFirst : Int32) (vm_fitBeats : Int64) (vm_listenLeaves : Int32) (qm_there : Nat) (vm_metAt : Int32) (vm_metIn : Int32) (qm_wins : Nat) (vm_nightHoles : Int32) (vm_nightFirst : Int32) (vm_nightMud : Int32) (vm_nightSlips : Int32) (vm_drawnNow : Int64) : va_W := [mo qm vm_thrown qm_width qm_many qm_cells qm_moved qm_tape vm_taped vm_at vm_token vm_place vm_value vm_word vm_bad vm_badPlace vm_fault vm_faultPlace qm_lines qm_has qm_round qm_meets qm_stumble qm_isMud qm_cell qm_tune qm_change qm_isKept qm_steps qm_places qm_danced vm_runMost vm_runBegins qm_heardBy vm_fitMany vm_fitFirst vm_fitBeats vm_listenLeaves qm_there vm_metAt vm_metIn qm_wins vm_nightHoles vm_nightFirst vm_nightMud vm_nightSlips vm_drawnNow, (qm_has, .inl (cI, 55, .inl (fm_has)))]
set_option maxHeartbeats 4000000 in
set_option maxRecDepth 100000 in
/-- X12 reads -/
theorem c_X12_reads (l : Launch) (D : va_G) (G : ct_G) (cI cJ cB cZ cO : ClassId) (qm : Nat) (vm_thrown : Int32) (qm_width : Nat) (qm_many : Nat) (qm_cells : Nat) (qm_moved : Nat) (qm_tape : Nat) (vm_taped : Int32) (vm_at : Int32) (vm_token : Int32) (vm_place : Int32) (vm_value : Int32) (vm_word : Int64) (vm_bad : Int32) (vm_badPlace : Int32) (vm_fault : Int32) (vm_faultPlace : Int32) (qm_lines : Nat) (qm_has : Nat) (fm_has : Nat → Int32) (qm_round : Nat) (qm_meets : Nat) (qm_stumble : Nat) (qm_isMud : Nat) (qm_cell : Nat) (qm_tune : Nat) (qm_change : Nat) (qm_isKept : Nat) (qm_steps : Nat) (qm_places : Nat) (qm_danced : Nat) (vm_runMost : Int32) (vm_runBegins : Int32) (qm_heardBy : Nat) (vm_fitMany : Int32) (vm_fitFirst : Int32) (vm_fitBeats : Int64) (vm_listenLeaves : Int32) (qm_there : Nat) (vm_metAt : Int32) (vm_metIn : Int32) (qm_wins : Nat) (vm_nightHoles : Int32) (vm_nightFirst : Int32) (vm_nightMud : Int32) (vm_nightSlips : Int32) (vm_drawnNow : Int64) (a1 : Int32) (a2 : Int32) (h_vm_taped : 0 ≤ vm_taped.toInt ∧ vm_taped.toInt ≤ 1200) (h_vm_at : 0 ≤ vm_at.toInt ∧ vm_at.toInt ≤ 1200) (h_vm_value : 0 ≤ vm_value.toInt ∧ vm_value.toInt ≤ 1000009) (h_a1 : 0 ≤ a1.toInt ∧ a1.toInt ≤ 10) (sz : Nat) : Met l yX12_reads wsX12_reads ({ frames := 0, cells := 0, slots := 0, locals := 0 }) (va_Pc [.ref qm, .int a1, .int a2] (ct_P D (ct_T cI cJ cB cZ cO) G (w_c_X12_reads cI cJ cB cZ cO qm vm_thrown qm_width qm_many qm_cells qm_moved qm_tape vm_taped vm_at vm_token vm_place vm_value vm_word vm_bad vm_badPlace vm_fault vm_faultPlace qm_lines qm_has fm_has qm_round qm_meets qm_stumble qm_isMud qm_cell qm_tune qm_change qm_isKept qm_steps qm_places qm_danced vm_runMost vm_runBegins qm_heardBy vm_fitMany vm_fitFirst vm_fitBeats vm_listenLeaves qm_there vm_metAt vm_metIn qm_wins vm_nightHoles vm_nightFirst vm_nightMud vm_nightSlips vm_drawnNow) sz)) (va_Qv (fun (u : (Nat → Int32)) => (u = upd fm_has (44 + a1.toInt).toNat a2)) (fun (u : (Nat → Int32)) t => ct_Q D (va_A (w_c_X12_reads cI cJ cB cZ cO qm vm_thrown qm_width qm_many qm_cells qm_moved qm_tape vm_taped vm_at vm_token vm_place vm_value vm_word vm_bad vm_badPlace vm_fault vm_faultPlace qm_lines qm_has fm_has qm_round qm_meets qm_stumble qm_isMud qm_cell qm_tune qm_change qm_isKept qm_steps qm_places qm_danced vm_runMost vm_runBegins qm_heardBy vm_fitMany vm_fitFirst vm_fitBeats vm_listenLeaves qm_there vm_metAt vm_metIn qm_wins vm_nightHoles vm_nightFirst vm_nightMud vm_nightSlips vm_drawnNow) sz) [mo qm vm_thrown qm_width qm_many qm_cells qm_moved qm_tape vm_taped vm_at vm_token vm_place vm_value vm_word vm_bad vm_badPlace vm_fault vm_faultPlace qm_lines qm_has qm_round qm_meets qm_stumble qm_isMud qm_cell qm_tune qm_change qm_isKept qm_steps qm_places qm_danced vm_runMost vm_runBegins qm_heardBy vm_fitMany vm_fitFirst vm_fitBeats vm_listenLeaves qm_there vm_metAt vm_metIn qm_wins vm_nightHoles vm_nightFirst vm_nightMud vm_nightSlips vm_drawnNow, (qm_has, .inl (cI, 55, .inl (u)))] t) (va_A (w_c_X12_reads cI cJ cB cZ cO qm vm_thrown qm_width qm_many qm_cells qm_moved qm_tape vm_taped vm_at vm_token vm_place vm_value vm_word vm_bad vm_badPlace vm_fault vm_faultPlace qm_lines qm_has fm_has qm_round qm_meets qm_stumble qm_isMud qm_cell qm_tune qm_change qm_isKept qm_steps qm_places qm_danced vm_runMost vm_runBegins qm_heardBy vm_fitMany vm_fitFirst vm_fitBeats vm_listenLeaves qm_there vm_metAt vm_metIn qm_wins vm_nightHoles vm_nightFirst vm_nightMud vm_nightSlips vm_drawnNow) sz)) 0 0 (va_A (w_c_X12_reads cI cJ cB cZ cO qm vm_thrown qm_width qm_many qm_cells qm_moved qm_tape vm_taped vm_at vm_token vm_place vm_value vm_word vm_bad vm_badPlace vm_fault vm_faultPlace qm_lines qm_has fm_has qm_round qm_meets qm_stumble qm_isMud qm_cell qm_tune qm_change qm_isKept qm_steps qm_places qm_danced vm_runMost vm_runBegins qm_heardBy vm_fitMany vm_fitFirst vm_fitBeats vm_listenLeaves qm_there vm_metAt vm_metIn qm_wins vm_nightHoles vm_nightFirst vm_nightMud vm_nightSlips vm_drawnNow) sz) := by
  refine Met.ofW (cc := cX12_reads) (maxL := 3) (ret := none) (by decide) rfl ?_
  intro p e s m args below meth c s₁ B hml hv
  obtain ⟨rfl, hsz, hP, hE, hD0, hH⟩ := hv
  have hx := B.exec
  have hb := B.bytes
  have hr := B.returns
  have hts := atoms_spec (ws := wsX12_reads) B.pre
  have hown : s.vm.findClass RX12 = some m.cls := findClass_of_methodNamed B.named
  have hlocks := B.notSynchronized
  have hK := hE.1
  have hi12 : ∀ w ∈ u_ws RX12 TX12 45, w ∈ wsX12_reads := fun w h => List.mem_cons_of_mem _ (List.mem_append_right _ h)
  subst hsz
  have hD := hD0.self (sz := s.heap.size)
  generalize hAe : va_A (w_c_X12_reads cI cJ cB cZ cO qm vm_thrown qm_width qm_many qm_cells qm_moved qm_tape vm_taped vm_at vm_token vm_place vm_value vm_word vm_bad vm_badPlace vm_fault vm_faultPlace qm_lines qm_has fm_has qm_round qm_meets qm_stumble qm_isMud qm_cell qm_tune qm_change qm_isKept qm_steps qm_places qm_danced vm_runMost vm_runBegins qm_heardBy vm_fitMany vm_fitFirst vm_fitBeats vm_listenLeaves qm_there vm_metAt vm_metIn qm_wins vm_nightHoles vm_nightFirst vm_nightMud vm_nightSlips vm_drawnNow) s.heap.size = A at hD hH ⊢
  have hA : ∀ q : Nat, s.heap.size ≤ q → A q := fun q h => by rw [← hAe]; exact Or.inr h
  have hS : va_S A s.heap s.heap [] := va_S.rf
  obtain ⟨hP, hD⟩ : ct_B D A s.heap [mo qm vm_thrown qm_width qm_many qm_cells qm_moved qm_tape vm_taped vm_at vm_token vm_place vm_value vm_word vm_bad vm_badPlace vm_fault vm_faultPlace qm_lines qm_has qm_round qm_meets qm_stumble qm_isMud qm_cell qm_tune qm_change qm_isKept qm_steps qm_places qm_danced vm_runMost vm_runBegins qm_heardBy vm_fitMany vm_fitFirst vm_fitBeats vm_listenLeaves qm_there vm_metAt vm_metIn qm_wins vm_nightHoles vm_nightFirst vm_nightMud vm_nightSlips vm_drawnNow, (qm_has, .inl (cI, 55, .inl (fm_has)))] := ⟨hP, hD⟩
  have hl := lv_entry ([.ref qm, .int a1, .int a2]) (n := 3) (Nat.le_of_ble_eq_true rfl)
  rw [lg_entry_eq]
  generalize (lg_sl ([.ref qm, .int a1, .int a2]) ++ List.replicate (3 - (lg_sl ([.ref qm, .int a1, .int a2])).length) Slot.unset).toArray = ls at hl ⊢
  have hl : lv_has ls 3 [(0, .ref qm), (1, .int a1), (2, .int a2)] := hl
  obtain ⟨H, hHe⟩ : ∃ H : Heap, H = s.heap := ⟨_, rfl⟩
  rw [← hHe] at hP
  have hS : va_S A s.heap H [] := by rw [hHe]; exact va_S.rf
  refine ct_start hHe ?_
  refine lv_aload_n hx hb dX12_reads_0 rfl (lv_at hl 0 rfl) ?_
  refine va_get (D := D) (ci := 12) (v := .ref qm_has) (C := RX12) (T := TX12) (N := 45) hx hb hts hi12 hown hK hP 0 rfl rfl 17 (by decide) (hts (.fieldLink RX12 34 "OverHillModel" "has" "[I") (by decide +kernel)) (fun _ h9 => h9) rfl dX12_reads_1 ?_
  refine lv_bipush (v := 44) hx hb dX12_reads_4 (by decide) ?_
  refine lv_iload_n hx hb dX12_reads_6 rfl (lv_at hl 1 rfl) ?_
  refine lv_iadd hx hb dX12_reads_7 ?_
  refine lv_topi (fun z1 ez1 => ?_)
  have fz1 : z1.toInt = 44 + a1.toInt := by rw [ez1]; exact tq_add (by decide) rfl (by omega)
  refine lv_iload_n hx hb dX12_reads_8 rfl (lv_at hl 2 rfl) ?_
  refine va_iast (D := D) hx hb hK hP hD hS 1 0 rfl rfl (tq_in rfl (by omega)) dX12_reads_9 (fun H locs hP hD hS => ?_)
  obtain ⟨hP, hD⟩ : ct_B D A H [mo qm vm_thrown qm_width qm_many qm_cells qm_moved qm_tape vm_taped vm_at vm_token vm_place vm_value vm_word vm_bad vm_badPlace vm_fault vm_faultPlace qm_lines qm_has qm_round qm_meets qm_stumble qm_isMud qm_cell qm_tune qm_change qm_isKept qm_steps qm_places qm_danced vm_runMost vm_runBegins qm_heardBy vm_fitMany vm_fitFirst vm_fitBeats vm_listenLeaves qm_there vm_metAt vm_metIn qm_wins vm_nightHoles vm_nightFirst vm_nightMud vm_nightSlips vm_drawnNow, (qm_has, .inl (cI, 55, .inl (upd fm_has z1.toNatClampNeg a2)))] := ⟨hP, hD⟩
  obtain ⟨hP9, hD9⟩ : ct_B D A H [mo qm vm_thrown qm_width qm_many qm_cells qm_moved qm_tape vm_taped vm_at vm_token vm_place vm_value vm_word vm_bad vm_badPlace vm_fault vm_faultPlace qm_lines qm_has qm_round qm_meets qm_stumble qm_isMud qm_cell qm_tune qm_change qm_isKept qm_steps qm_places qm_danced vm_runMost vm_runBegins qm_heardBy vm_fitMany vm_fitFirst vm_fitBeats vm_listenLeaves qm_there vm_metAt vm_metIn qm_wins vm_nightHoles vm_nightFirst vm_nightMud vm_nightSlips vm_drawnNow, (qm_has, .inl (cI, 55, .inl (upd fm_has z1.toNatClampNeg a2)))] := ⟨hP.sub [0, 1] rfl, hD.sub [0, 1] (by decide) rfl⟩
  exact W.vret hx hb hr (fun t ht hW => ⟨⟨(upd fm_has z1.toNatClampNeg a2), rfl, (show (upd fm_has z1.toNatClampNeg a2) = upd fm_has (44 + a1.toInt).toNat a2 by exact congrArg (fun q => upd fm_has q a2) (show z1.toInt.toNat = (44 + a1.toInt).toNat by omega)), by rw [ht]; exact hP9, hD9⟩, hS.F ht⟩) hS.2.2 dX12_reads_10
abbrev w_c_X12_isStumbled (cI cJ cB cZ cO : ClassId) (qm : Nat) (vm_thrown : Int32) (qm_width : Nat) (qm_many : Nat) (qm_cells : Nat) (qm_moved : Nat) (qm_tape : Nat) (vm_taped : Int32) (vm_at : Int32) (vm_token : Int32) (vm_place : Int32) (vm_value : Int32) (vm_word : Int64) (vm_bad : Int32) (vm_badPlace : Int32) (vm_fault : Int32) (vm_faultPlace : Int32) (qm_lines : Nat) (qm_has : Nat) (fm_has : Nat → Int32) (qm_round : Nat) (qm_meets : Nat) (qm_stumble : Nat) (fm_stumble : Nat → Int32) (qm_isMud : Nat) (qm_cell : Nat) (qm_tune : Nat) (qm_change : Nat) (qm_isKept : Nat) (qm_steps : Nat) (qm_places : Nat) (qm_danced : Nat) (vm_runMost : Int32) (vm_runBegins : Int32) (qm_heardBy : Nat) (vm_fitMany : Int32) (vm_fitFirst : Int32) (vm_fitBeats : Int64) (vm_listenLeaves : Int32) (qm_there : Nat) (vm_metAt : Int32) (vm_metIn : Int32) (qm_wins : Nat) (vm_nightHoles : Int32) (vm_nightFirst : Int32) (vm_nightMud : Int32) (vm_nightSlips : Int32) (vm_drawnNow : Int64) : va_W := [mo qm vm_thrown qm_width qm_many qm_cells qm_moved qm_tape vm_taped vm_at vm_token vm_place vm_value vm_word vm_bad vm_badPlace vm_fault vm_faultPlace qm_lines qm_has qm_round qm_meets qm_stumble qm_isMud qm_cell qm_tune qm_change qm_isKept qm_steps qm_places qm_danced vm_runMost vm_runBegins qm_heardBy vm_fitMany vm_fitFirst vm_fitBeats vm_listenLeaves qm_there vm_metAt vm_metIn qm_wins vm_nightHoles vm_nightFirst vm_nightMud vm_nightSlips vm_drawnNow, (qm_has, .inl (cI, 55, .inl (fm_has))), (qm_stumble, .inl (cI, 160, .inl (fm_stumble)))]
set_option maxHeartbeats 4000000 in
set_option maxRecDepth 100000 in
/-- X12 isStumbled -/
theorem c_X12_isStumbled (l : Launch) (D : va_G) (G : ct_G) (cI cJ cB cZ cO : ClassId) (qm : Nat) (vm_thrown : Int32) (qm_width : Nat) (qm_many : Nat) (qm_cells : Nat) (qm_moved : Nat) (qm_tape : Nat) (vm_taped : Int32) (vm_at : Int32) (vm_token : Int32) (vm_place : Int32) (vm_value : Int32) (vm_word : Int64) (vm_bad : Int32) (vm_badPlace : Int32) (vm_fault : Int32) (vm_faultPlace : Int32) (qm_lines : Nat) (qm_has : Nat) (fm_has : Nat → Int32) (qm_round : Nat) (qm_meets : Nat) (qm_stumble : Nat) (fm_stumble : Nat → Int32) (qm_isMud : Nat) (qm_cell : Nat) (qm_tune : Nat) (qm_change : Nat) (qm_isKept : Nat) (qm_steps : Nat) (qm_places : Nat) (qm_danced : Nat) (vm_runMost : Int32) (vm_runBegins : Int32) (qm_heardBy : Nat) (vm_fitMany : Int32) (vm_fitFirst : Int32) (vm_fitBeats : Int64) (vm_listenLeaves : Int32) (qm_there : Nat) (vm_metAt : Int32) (vm_metIn : Int32) (qm_wins : Nat) (vm_nightHoles : Int32) (vm_nightFirst : Int32) (vm_nightMud : Int32) (vm_nightSlips : Int32) (vm_drawnNow : Int64) (a1 : Int32) (a2 : Int32) (a3 : Int32) (h_vm_taped : 0 ≤ vm_taped.toInt ∧ vm_taped.toInt ≤ 1200) (h_vm_at : 0 ≤ vm_at.toInt ∧ vm_at.toInt ≤ 1200) (h_vm_value : 0 ≤ vm_value.toInt ∧ vm_value.toInt ≤ 1000009) (h_fm_has : ar_ok [0, (-2147483648), (-2147483648), 0, 0, 0, 0, 0, 0, 0, 0] [20, 2147483647, 2147483647, 12, 12, 11, 11, 8, 12, 5, 40] fm_has) (h_fm_stumble : ar_ok [(-2147483648), (-2147483648), 0, (-2147483648)] [2147483647, 2147483647, 5, 2147483647] fm_stumble) (h_a1 : 0 ≤ a1.toInt ∧ a1.toInt ≤ 4) (sz : Nat) : Met l yX12_isStumbled wsX12_isStumbled ({ frames := 0, cells := 0, slots := 0, locals := 0 }) (va_Pc [.ref qm, .int a1, .int a2, .int a3] (ct_P D (ct_T cI cJ cB cZ cO) G (w_c_X12_isStumbled cI cJ cB cZ cO qm vm_thrown qm_width qm_many qm_cells qm_moved qm_tape vm_taped vm_at vm_token vm_place vm_value vm_word vm_bad vm_badPlace vm_fault vm_faultPlace qm_lines qm_has fm_has qm_round qm_meets qm_stumble fm_stumble qm_isMud qm_cell qm_tune qm_change qm_isKept qm_steps qm_places qm_danced vm_runMost vm_runBegins qm_heardBy vm_fitMany vm_fitFirst vm_fitBeats vm_listenLeaves qm_there vm_metAt vm_metIn qm_wins vm_nightHoles vm_nightFirst vm_nightMud vm_nightSlips vm_drawnNow) sz)) (va_Qi (fun (rz : Int32) (u : Unit) => ((rz = 1 ∧ True) ∨ (rz = 0 ∧ True))) (fun (u : Unit) t => ct_Q D (va_A (w_c_X12_isStumbled cI cJ cB cZ cO qm vm_thrown qm_width qm_many qm_cells qm_moved qm_tape vm_taped vm_at vm_token vm_place vm_value vm_word vm_bad vm_badPlace vm_fault vm_faultPlace qm_lines qm_has fm_has qm_round qm_meets qm_stumble fm_stumble qm_isMud qm_cell qm_tune qm_change qm_isKept qm_steps qm_places qm_danced vm_runMost vm_runBegins qm_heardBy vm_fitMany vm_fitFirst vm_fitBeats vm_listenLeaves qm_there vm_metAt vm_metIn qm_wins vm_nightHoles vm_nightFirst vm_nightMud vm_nightSlips vm_drawnNow) sz) [mo qm vm_thrown qm_width qm_many qm_cells qm_moved qm_tape vm_taped vm_at vm_token vm_place vm_value vm_word vm_bad vm_badPlace vm_fault vm_faultPlace qm_lines qm_has qm_round qm_meets qm_stumble qm_isMud qm_cell qm_tune qm_change qm_isKept qm_steps qm_places qm_danced vm_runMost vm_runBegins qm_heardBy vm_fitMany vm_fitFirst vm_fitBeats vm_listenLeaves qm_there vm_metAt vm_metIn qm_wins vm_nightHoles vm_nightFirst vm_nightMud vm_nightSlips vm_drawnNow, (qm_has, .inl (cI, 55, .inl (fm_has))), (qm_stumble, .inl (cI, 160, .inl (fm_stumble)))] t) (va_A (w_c_X12_isStumbled cI cJ cB cZ cO qm vm_thrown qm_width qm_many qm_cells qm_moved qm_tape vm_taped vm_at vm_token vm_place vm_value vm_word vm_bad vm_badPlace vm_fault vm_faultPlace qm_lines qm_has fm_has qm_round qm_meets qm_stumble fm_stumble qm_isMud qm_cell qm_tune qm_change qm_isKept qm_steps qm_places qm_danced vm_runMost vm_runBegins qm_heardBy vm_fitMany vm_fitFirst vm_fitBeats vm_listenLeaves qm_there vm_metAt vm_metIn qm_wins vm_nightHoles vm_nightFirst vm_nightMud vm_nightSlips vm_drawnNow) sz)) 0 0 (va_A (w_c_X12_isStumbled cI cJ cB cZ cO qm vm_thrown qm_width qm_many qm_cells qm_moved qm_tape vm_taped vm_at vm_token vm_place vm_value vm_word vm_bad vm_badPlace vm_fault vm_faultPlace qm_lines qm_has fm_has qm_round qm_meets qm_stumble fm_stumble qm_isMud qm_cell qm_tune qm_change qm_isKept qm_steps qm_places qm_danced vm_runMost vm_runBegins qm_heardBy vm_fitMany vm_fitFirst vm_fitBeats vm_listenLeaves qm_there vm_metAt vm_metIn qm_wins vm_nightHoles vm_nightFirst vm_nightMud vm_nightSlips vm_drawnNow) sz) := by
  refine Met.ofW (cc := cX12_isStumbled) (maxL := 5) (ret := (some .boolean)) (by decide) rfl ?_
  intro p e s m args below meth c s₁ B hml hv
  obtain ⟨rfl, hsz, hP, hE, hD0, hH⟩ := hv
  have hx := B.exec
  have hb := B.bytes
  have hr := B.returns
  have hts := atoms_spec (ws := wsX12_isStumbled) B.pre
  have hown : s.vm.findClass RX12 = some m.cls := findClass_of_methodNamed B.named
  have hlocks := B.notSynchronized
  have hK := hE.1
  have hi12 : ∀ w ∈ u_ws RX12 TX12 45, w ∈ wsX12_isStumbled := fun w h => List.mem_cons_of_mem _ (List.mem_append_right _ h)
  subst hsz
  have hD := hD0.self (sz := s.heap.size)
  generalize hAe : va_A (w_c_X12_isStumbled cI cJ cB cZ cO qm vm_thrown qm_width qm_many qm_cells qm_moved qm_tape vm_taped vm_at vm_token vm_place vm_value vm_word vm_bad vm_badPlace vm_fault vm_faultPlace qm_lines qm_has fm_has qm_round qm_meets qm_stumble fm_stumble qm_isMud qm_cell qm_tune qm_change qm_isKept qm_steps qm_places qm_danced vm_runMost vm_runBegins qm_heardBy vm_fitMany vm_fitFirst vm_fitBeats vm_listenLeaves qm_there vm_metAt vm_metIn qm_wins vm_nightHoles vm_nightFirst vm_nightMud vm_nightSlips vm_drawnNow) s.heap.size = A at hD hH ⊢
  have hA : ∀ q : Nat, s.heap.size ≤ q → A q := fun q h => by rw [← hAe]; exact Or.inr h
  have hS : va_S A s.heap s.heap [] := va_S.rf
  obtain ⟨hP, hD⟩ : ct_B D A s.heap [mo qm vm_thrown qm_width qm_many qm_cells qm_moved qm_tape vm_taped vm_at vm_token vm_place vm_value vm_word vm_bad vm_badPlace vm_fault vm_faultPlace qm_lines qm_has qm_round qm_meets qm_stumble qm_isMud qm_cell qm_tune qm_change qm_isKept qm_steps qm_places qm_danced vm_runMost vm_runBegins qm_heardBy vm_fitMany vm_fitFirst vm_fitBeats vm_listenLeaves qm_there vm_metAt vm_metIn qm_wins vm_nightHoles vm_nightFirst vm_nightMud vm_nightSlips vm_drawnNow, (qm_has, .inl (cI, 55, .inl (fm_has))), (qm_stumble, .inl (cI, 160, .inl (fm_stumble)))] := ⟨hP, hD⟩
  have hl := lv_entry ([.ref qm, .int a1, .int a2, .int a3]) (n := 5) (Nat.le_of_ble_eq_true rfl)
  rw [lg_entry_eq]
  generalize (lg_sl ([.ref qm, .int a1, .int a2, .int a3]) ++ List.replicate (5 - (lg_sl ([.ref qm, .int a1, .int a2, .int a3])).length) Slot.unset).toArray = ls at hl ⊢
  have hl : lv_has ls 5 [(0, .ref qm), (1, .int a1), (2, .int a2), (3, .int a3)] := hl
  obtain ⟨H, hHe⟩ : ∃ H : Heap, H = s.heap := ⟨_, rfl⟩
  rw [← hHe] at hP
  have hS : va_S A s.heap H [] := by rw [hHe]; exact va_S.rf
  refine ct_start hHe ?_
  refine lv_iconst (v := 0) hx hb dX12_isStumbled_0 (by decide) ?_
  refine lv_istore (lv' := [(4, .int 0), (0, .ref qm), (1, .int a1), (2, .int a2), (3, .int a3)]) hx hb dX12_isStumbled_1 hl (by decide) rfl (fun ls hl => ?_)
  refine ct_loop (X := Int32) (fun x => (8 - x.toInt).toNat) (fun x H locs ls => ((0 ≤ x.toInt ∧ x.toInt ≤ 8)) ∧ ct_B D A H [mo qm vm_thrown qm_width qm_many qm_cells qm_moved qm_tape vm_taped vm_at vm_token vm_place vm_value vm_word vm_bad vm_badPlace vm_fault vm_faultPlace qm_lines qm_has qm_round qm_meets qm_stumble qm_isMud qm_cell qm_tune qm_change qm_isKept qm_steps qm_places qm_danced vm_runMost vm_runBegins qm_heardBy vm_fitMany vm_fitFirst vm_fitBeats vm_listenLeaves qm_there vm_metAt vm_metIn qm_wins vm_nightHoles vm_nightFirst vm_nightMud vm_nightSlips vm_drawnNow, (qm_has, .inl (cI, 55, .inl (fm_has))), (qm_stumble, .inl (cI, 160, .inl (fm_stumble)))] ∧ va_S A s.heap H locs ∧ lv_has ls 5 [(4, .int x), (0, .ref qm), (1, .int a1), (2, .int a2), (3, .int a3)]) 3 (0 : Int32) ⟨(show 0 ≤ (0 : Int32).toInt ∧ (0 : Int32).toInt ≤ 8 by decide), ⟨hP, hD⟩, hS, lv_sub hl [0, 1, 2, 3, 4] rfl⟩ (fun x ih259 H locs ls hI => ?_)
  obtain ⟨x258, rfl⟩ : ∃ z, z = x := ⟨_, rfl⟩
  obtain ⟨h_x258, ⟨hP, hD⟩, hS, hl⟩ := hI
  change (0 ≤ x258.toInt ∧ x258.toInt ≤ 8) at h_x258
  obtain ⟨hP, hD⟩ : ct_B D A H [mo qm vm_thrown qm_width qm_many qm_cells qm_moved qm_tape vm_taped vm_at vm_token vm_place vm_value vm_word vm_bad vm_badPlace vm_fault vm_faultPlace qm_lines qm_has qm_round qm_meets qm_stumble qm_isMud qm_cell qm_tune qm_change qm_isKept qm_steps qm_places qm_danced vm_runMost vm_runBegins qm_heardBy vm_fitMany vm_fitFirst vm_fitBeats vm_listenLeaves qm_there vm_metAt vm_metIn qm_wins vm_nightHoles vm_nightFirst vm_nightMud vm_nightSlips vm_drawnNow, (qm_has, .inl (cI, 55, .inl (fm_has))), (qm_stumble, .inl (cI, 160, .inl (fm_stumble)))] := ⟨hP, hD⟩
  have hl : lv_has ls 5 [(4, .int x258), (0, .ref qm), (1, .int a1), (2, .int a2), (3, .int a3)] := hl
  refine lv_iload hx hb dX12_isStumbled_3 (lv_at hl 0 rfl) ?_
  refine lv_aload_n hx hb dX12_isStumbled_5 rfl (lv_at hl 1 rfl) ?_
  refine va_get (D := D) (ci := 12) (v := .ref qm_has) (C := RX12) (T := TX12) (N := 45) hx hb hts hi12 hown hK hP 0 rfl rfl 17 (by decide) (hts (.fieldLink RX12 34 "OverHillModel" "has" "[I") (by decide +kernel)) (fun _ h9 => h9) rfl dX12_isStumbled_6 ?_
  refine lv_bipush (v := 11) hx hb dX12_isStumbled_9 (by decide) ?_
  refine lv_iload_n hx hb dX12_isStumbled_11 rfl (lv_at hl 2 rfl) ?_
  refine lv_imul hx hb dX12_isStumbled_12 ?_
  refine lv_topi (fun z260 ez260 => ?_)
  have fz260 : z260.toInt = 11 * a1.toInt := by rw [ez260]; exact tq_mul (by decide) rfl (by omega)
  refine lv_bipush (v := 7) hx hb dX12_isStumbled_13 (by decide) ?_
  refine lv_iadd hx hb dX12_isStumbled_15 ?_
  refine lv_topi (fun z261 ez261 => ?_)
  have fz261 : z261.toInt = z260.toInt + 7 := by rw [ez261]; exact tq_add rfl (by decide) (by omega)
  refine va_iald (D := D) hx hb hK hP 1 0 rfl rfl (tq_in rfl (by omega)) dX12_isStumbled_16 ?_
  refine lv_topi (fun z262 ez262 => ?_)
  have fz262 : 0 ≤ z262.toInt ∧ z262.toInt ≤ 8 := by rw [ez262]; exact ar_get h_fm_has z261 7 (by omega) (show z261.toInt % 11 = 7 by omega) rfl
  refine lv_icmp_ge (tgt := 66) hx hb dX12_isStumbled_17 (by decide) (fun hc => ?_) (fun hc => ?_)
  · have hq263 : z262.toInt ≤ x258.toInt := tq_le rfl rfl hc
    refine lv_iconst (v := 0) hx hb dX12_isStumbled_66 (by decide) ?_
    obtain ⟨hP9, hD9⟩ : ct_B D A H [mo qm vm_thrown qm_width qm_many qm_cells qm_moved qm_tape vm_taped vm_at vm_token vm_place vm_value vm_word vm_bad vm_badPlace vm_fault vm_faultPlace qm_lines qm_has qm_round qm_meets qm_stumble qm_isMud qm_cell qm_tune qm_change qm_isKept qm_steps qm_places qm_danced vm_runMost vm_runBegins qm_heardBy vm_fitMany vm_fitFirst vm_fitBeats vm_listenLeaves qm_there vm_metAt vm_metIn qm_wins vm_nightHoles vm_nightFirst vm_nightMud vm_nightSlips vm_drawnNow, (qm_has, .inl (cI, 55, .inl (fm_has))), (qm_stumble, .inl (cI, 160, .inl (fm_stumble)))] := ⟨hP.sub [0, 1, 2] rfl, hD.sub [0, 1, 2] (by decide) rfl⟩
    exact W.zret (v := 0) (ty := .boolean) hx hb hr rfl (fun t ht hW => ⟨⟨0, (), rfl, (Or.inr (⟨rfl, trivial⟩)), by rw [ht]; exact hP9, hD9⟩, hS.F ht⟩) hS.2.2 dX12_isStumbled_67
  · have hq263 : x258.toInt < z262.toInt := tq_nle rfl rfl hc
    refine lv_aload_n hx hb dX12_isStumbled_20 rfl (lv_at hl 1 rfl) ?_
    refine va_get (D := D) (ci := 12) (v := .ref qm_stumble) (C := RX12) (T := TX12) (N := 45) hx hb hts hi12 hown hK hP 0 rfl rfl 20 (by decide) (hts (.fieldLink RX12 43 "OverHillModel" "stumble" "[I") (by decide +kernel)) (fun _ h9 => h9) rfl dX12_isStumbled_21 ?_
    refine lv_iconst (v := 4) hx hb dX12_isStumbled_24 (by decide) ?_
    refine lv_bipush (v := 8) hx hb dX12_isStumbled_25 (by decide) ?_
    refine lv_iload_n hx hb dX12_isStumbled_27 rfl (lv_at hl 2 rfl) ?_
    refine lv_imul hx hb dX12_isStumbled_28 ?_
    refine lv_topi (fun z264 ez264 => ?_)
    have fz264 : z264.toInt = 8 * a1.toInt := by rw [ez264]; exact tq_mul (by decide) rfl (by omega)
    refine lv_iload hx hb dX12_isStumbled_29 (lv_at hl 0 rfl) ?_
    refine lv_iadd hx hb dX12_isStumbled_31 ?_
    refine lv_topi (fun z265 ez265 => ?_)
    have fz265 : z265.toInt = z264.toInt + x258.toInt := by rw [ez265]; exact tq_add rfl rfl (by omega)
    refine lv_imul hx hb dX12_isStumbled_32 ?_
    refine lv_topi (fun z266 ez266 => ?_)
    have fz266 : z266.toInt = 4 * z265.toInt := by rw [ez266]; exact tq_mul (by decide) rfl (by omega)
    refine va_iald (D := D) hx hb hK hP 2 0 rfl rfl (tq_in rfl (by omega)) dX12_isStumbled_33 ?_
    refine lv_topi (fun z267 ez267 => ?_)
    refine lv_iload_n hx hb dX12_isStumbled_34 rfl (lv_at hl 3 rfl) ?_
    refine lv_icmp_ne (tgt := 60) hx hb dX12_isStumbled_35 (by decide) (fun hc => ?_) (fun hc => ?_)
    · have hq268 : z267.toInt ≠ a2.toInt := tq_ne rfl rfl hc
      have hb269 := tq_lo z267
      have hb270 := tq_lo a2
      obtain ⟨z271, ez271⟩ : ∃ z : Int32, z = x258 + 1 := ⟨_, rfl⟩
      have fz271 : z271.toInt = x258.toInt + 1 := by rw [ez271]; exact tq_add rfl (by decide) (by omega)
      refine lv_iinc (v := z271) (lv' := [(4, .int z271), (0, .ref qm), (1, .int a1), (2, .int a2), (3, .int a3)]) hx hb dX12_isStumbled_60 hl (k := 0) rfl ez271.symm (by decide) rfl (fun ls hl => ?_)
      refine lv_goto (tgt := 3) hx hb dX12_isStumbled_63 (by decide) ?_
      exact ih259 z271 _ _ _ (show (8 - z271.toInt).toNat < (8 - x258.toInt).toNat by omega) ⟨(show 0 ≤ z271.toInt ∧ z271.toInt ≤ 8 by omega), ⟨hP, hD⟩, hS, lv_sub hl [0, 1, 2, 3, 4] rfl⟩
    · have hq268 : z267.toInt = a2.toInt := tq_eq rfl rfl hc
      have hb272 := tq_lo z267
      have hb273 := tq_lo a2
      refine lv_aload_n hx hb dX12_isStumbled_38 rfl (lv_at hl 1 rfl) ?_
      refine va_get (D := D) (ci := 12) (v := .ref qm_stumble) (C := RX12) (T := TX12) (N := 45) hx hb hts hi12 hown hK hP 0 rfl rfl 20 (by decide) (hts (.fieldLink RX12 43 "OverHillModel" "stumble" "[I") (by decide +kernel)) (fun _ h9 => h9) rfl dX12_isStumbled_39 ?_
      refine lv_iconst (v := 4) hx hb dX12_isStumbled_42 (by decide) ?_
      refine lv_bipush (v := 8) hx hb dX12_isStumbled_43 (by decide) ?_
      refine lv_iload_n hx hb dX12_isStumbled_45 rfl (lv_at hl 2 rfl) ?_
      refine lv_imul hx hb dX12_isStumbled_46 ?_
      refine lv_topi (fun z274 ez274 => ?_)
      have fz274 : z274.toInt = 8 * a1.toInt := by rw [ez274]; exact tq_mul (by decide) rfl (by omega)
      refine lv_iload hx hb dX12_isStumbled_47 (lv_at hl 0 rfl) ?_
      refine lv_iadd hx hb dX12_isStumbled_49 ?_
      refine lv_topi (fun z275 ez275 => ?_)
      have fz275 : z275.toInt = z274.toInt + x258.toInt := by rw [ez275]; exact tq_add rfl rfl (by omega)
      refine lv_imul hx hb dX12_isStumbled_50 ?_
      refine lv_topi (fun z276 ez276 => ?_)
      have fz276 : z276.toInt = 4 * z275.toInt := by rw [ez276]; exact tq_mul (by decide) rfl (by omega)
      refine lv_iconst (v := 1) hx hb dX12_isStumbled_51 (by decide) ?_
      refine lv_iadd hx hb dX12_isStumbled_52 ?_
      refine lv_topi (fun z277 ez277 => ?_)
      have fz277 : z277.toInt = z276.toInt + 1 := by rw [ez277]; exact tq_add rfl (by decide) (by omega)
      refine va_iald (D := D) hx hb hK hP 2 0 rfl rfl (tq_in rfl (by omega)) dX12_isStumbled_53 ?_
      refine lv_topi (fun z278 ez278 => ?_)
      refine lv_iload_n hx hb dX12_isStumbled_54 rfl (lv_at hl 4 rfl) ?_
      refine lv_icmp_ne (tgt := 60) hx hb dX12_isStumbled_55 (by decide) (fun hc => ?_) (fun hc => ?_)
      · have hq279 : z278.toInt ≠ a3.toInt := tq_ne rfl rfl hc
        have hb280 := tq_lo z278
        have hb281 := tq_lo a3
        obtain ⟨z282, ez282⟩ : ∃ z : Int32, z = x258 + 1 := ⟨_, rfl⟩
        have fz282 : z282.toInt = x258.toInt + 1 := by rw [ez282]; exact tq_add rfl (by decide) (by omega)
        refine lv_iinc (v := z282) (lv' := [(4, .int z282), (0, .ref qm), (1, .int a1), (2, .int a2), (3, .int a3)]) hx hb dX12_isStumbled_60 hl (k := 0) rfl ez282.symm (by decide) rfl (fun ls hl => ?_)
        refine lv_goto (tgt := 3) hx hb dX12_isStumbled_63 (by decide) ?_
        exact ih259 z282 _ _ _ (show (8 - z282.toInt).toNat < (8 - x258.toInt).toNat by omega) ⟨(show 0 ≤ z282.toInt ∧ z282.toInt ≤ 8 by omega), ⟨hP, hD⟩, hS, lv_sub hl [0, 1, 2, 3, 4] rfl⟩
      · have hq279 : z278.toInt = a3.toInt := tq_eq rfl rfl hc
        have hb283 := tq_lo z278
        have hb284 := tq_lo a3
        refine lv_iconst (v := 1) hx hb dX12_isStumbled_58 (by decide) ?_
        obtain ⟨hP9, hD9⟩ : ct_B D A H [mo qm vm_thrown qm_width qm_many qm_cells qm_moved qm_tape vm_taped vm_at vm_token vm_place vm_value vm_word vm_bad vm_badPlace vm_fault vm_faultPlace qm_lines qm_has qm_round qm_meets qm_stumble qm_isMud qm_cell qm_tune qm_change qm_isKept qm_steps qm_places qm_danced vm_runMost vm_runBegins qm_heardBy vm_fitMany vm_fitFirst vm_fitBeats vm_listenLeaves qm_there vm_metAt vm_metIn qm_wins vm_nightHoles vm_nightFirst vm_nightMud vm_nightSlips vm_drawnNow, (qm_has, .inl (cI, 55, .inl (fm_has))), (qm_stumble, .inl (cI, 160, .inl (fm_stumble)))] := ⟨hP.sub [0, 1, 2] rfl, hD.sub [0, 1, 2] (by decide) rfl⟩
        exact W.zret (v := 1) (ty := .boolean) hx hb hr rfl (fun t ht hW => ⟨⟨1, (), rfl, (Or.inl ⟨rfl, trivial⟩), by rw [ht]; exact hP9, hD9⟩, hS.F ht⟩) hS.2.2 dX12_isStumbled_59
abbrev w_c_X12_everyLine (cI cJ cB cZ cO : ClassId) (qm : Nat) (vm_thrown : Int32) (qm_width : Nat) (qm_many : Nat) (qm_cells : Nat) (qm_moved : Nat) (qm_tape : Nat) (fm_tape : Nat → Int32) (vm_taped : Int32) (vm_at : Int32) (vm_token : Int32) (vm_place : Int32) (vm_value : Int32) (vm_word : Int64) (vm_bad : Int32) (vm_badPlace : Int32) (vm_fault : Int32) (vm_faultPlace : Int32) (qm_lines : Nat) (qm_has : Nat) (qm_round : Nat) (qm_meets : Nat) (qm_stumble : Nat) (qm_isMud : Nat) (qm_cell : Nat) (qm_tune : Nat) (qm_change : Nat) (qm_isKept : Nat) (qm_steps : Nat) (qm_places : Nat) (qm_danced : Nat) (vm_runMost : Int32) (vm_runBegins : Int32) (qm_heardBy : Nat) (vm_fitMany : Int32) (vm_fitFirst : Int32) (vm_fitBeats : Int64) (vm_listenLeaves : Int32) (qm_there : Nat) (vm_metAt : Int32) (vm_metIn : Int32) (qm_wins : Nat) (vm_nightHoles : Int32) (vm_nightFirst : Int32) (vm_nightMud : Int32) (vm_nightSlips : Int32) (vm_drawnNow : Int64) (qa : Nat) (na : Nat) (fa : Nat → Int32) : va_W := [mo qm vm_thrown qm_width qm_many qm_cells qm_moved qm_tape vm_taped vm_at vm_token vm_place vm_value vm_word vm_bad vm_badPlace vm_fault vm_faultPlace qm_lines qm_has qm_round qm_meets qm_stumble qm_isMud qm_cell qm_tune qm_change qm_isKept qm_steps qm_places qm_danced vm_runMost vm_runBegins qm_heardBy vm_fitMany vm_fitFirst vm_fitBeats vm_listenLeaves qm_there vm_metAt vm_metIn qm_wins vm_nightHoles vm_nightFirst vm_nightMud vm_nightSlips vm_drawnNow, (qm_tape, .inl (cB, 1200, .inl (fm_tape))), (qa, .inl (cI, na, .inl (fa)))]
set_option maxHeartbeats 4000000 in
set_option maxRecDepth 100000 in
/-- X12 everyLine -/
theorem c_X12_everyLine (l : Launch) (D : va_G) (G : ct_G) (cI cJ cB cZ cO : ClassId) (qm : Nat) (vm_thrown : Int32) (qm_width : Nat) (qm_many : Nat) (qm_cells : Nat) (qm_moved : Nat) (qm_tape : Nat) (fm_tape : Nat → Int32) (vm_taped : Int32) (vm_at : Int32) (vm_token : Int32) (vm_place : Int32) (vm_value : Int32) (vm_word : Int64) (vm_bad : Int32) (vm_badPlace : Int32) (vm_fault : Int32) (vm_faultPlace : Int32) (qm_lines : Nat) (qm_has : Nat) (qm_round : Nat) (qm_meets : Nat) (qm_stumble : Nat) (qm_isMud : Nat) (qm_cell : Nat) (qm_tune : Nat) (qm_change : Nat) (qm_isKept : Nat) (qm_steps : Nat) (qm_places : Nat) (qm_danced : Nat) (vm_runMost : Int32) (vm_runBegins : Int32) (qm_heardBy : Nat) (vm_fitMany : Int32) (vm_fitFirst : Int32) (vm_fitBeats : Int64) (vm_listenLeaves : Int32) (qm_there : Nat) (vm_metAt : Int32) (vm_metIn : Int32) (qm_wins : Nat) (vm_nightHoles : Int32) (vm_nightFirst : Int32) (vm_nightMud : Int32) (vm_nightSlips : Int32) (vm_drawnNow : Int64) (qa : Nat) (na : Nat) (fa : Nat → Int32) (a2 : Int32) (a3 : Int32) (h_vm_taped : 0 ≤ vm_taped.toInt ∧ vm_taped.toInt ≤ 1200) (h_vm_at : 0 ≤ vm_at.toInt ∧ vm_at.toInt ≤ 1200) (h_vm_value : 0 ≤ vm_value.toInt ∧ vm_value.toInt ≤ 1000009) (h_at : vm_at.toInt ≤ vm_taped.toInt) (h_a2 : 0 ≤ a2.toInt ∧ a2.toInt ≤ 1000) (h_a3 : 1 ≤ a3.toInt ∧ a3.toInt ≤ 30) (h_na : a2.toInt + 1 < (na : Int)) (sz : Nat) : Met l yX12_everyLine wsX12_everyLine ({ frames := 5, cells := 0, slots := 0, locals := 112 }) (va_Pc [.ref qm, .ref qa, .int a2, .int a3] (ct_P D (ct_T cI cJ cB cZ cO) G (w_c_X12_everyLine cI cJ cB cZ cO qm vm_thrown qm_width qm_many qm_cells qm_moved qm_tape fm_tape vm_taped vm_at vm_token vm_place vm_value vm_word vm_bad vm_badPlace vm_fault vm_faultPlace qm_lines qm_has qm_round qm_meets qm_stumble qm_isMud qm_cell qm_tune qm_change qm_isKept qm_steps qm_places qm_danced vm_runMost vm_runBegins qm_heardBy vm_fitMany vm_fitFirst vm_fitBeats vm_listenLeaves qm_there vm_metAt vm_metIn qm_wins vm_nightHoles vm_nightFirst vm_nightMud vm_nightSlips vm_drawnNow qa na fa) sz)) (va_Qv (fun (u : Int32 × Int32 × Int32 × Int32 × Int64 × Int32 × Int32 × (Nat → Int32)) => (0 ≤ u.1.toInt ∧ u.1.toInt ≤ 1200) ∧ (0 ≤ u.2.2.2.1.toInt ∧ u.2.2.2.1.toInt ≤ 1000009) ∧ (vm_at.toInt ≤ u.1.toInt ∧ u.1.toInt ≤ vm_taped.toInt) ∧ (u.2.2.2.2.2.1.toInt ≠ 0 ∨ vm_bad.toInt = 0) ∧ (ev_ok fa u.2.2.2.2.2.2.2 a2.toInt a3.toInt)) (fun (u : Int32 × Int32 × Int32 × Int32 × Int64 × Int32 × Int32 × (Nat → Int32)) t => ct_Q D (va_A (w_c_X12_everyLine cI cJ cB cZ cO qm vm_thrown qm_width qm_many qm_cells qm_moved qm_tape fm_tape vm_taped vm_at vm_token vm_place vm_value vm_word vm_bad vm_badPlace vm_fault vm_faultPlace qm_lines qm_has qm_round qm_meets qm_stumble qm_isMud qm_cell qm_tune qm_change qm_isKept qm_steps qm_places qm_danced vm_runMost vm_runBegins qm_heardBy vm_fitMany vm_fitFirst vm_fitBeats vm_listenLeaves qm_there vm_metAt vm_metIn qm_wins vm_nightHoles vm_nightFirst vm_nightMud vm_nightSlips vm_drawnNow qa na fa) sz) [mo qm vm_thrown qm_width qm_many qm_cells qm_moved qm_tape vm_taped u.1 u.2.1 u.2.2.1 u.2.2.2.1 u.2.2.2.2.1 u.2.2.2.2.2.1 u.2.2.2.2.2.2.1 vm_fault vm_faultPlace qm_lines qm_has qm_round qm_meets qm_stumble qm_isMud qm_cell qm_tune qm_change qm_isKept qm_steps qm_places qm_danced vm_runMost vm_runBegins qm_heardBy vm_fitMany vm_fitFirst vm_fitBeats vm_listenLeaves qm_there vm_metAt vm_metIn qm_wins vm_nightHoles vm_nightFirst vm_nightMud vm_nightSlips vm_drawnNow, (qm_tape, .inl (cB, 1200, .inl (fm_tape))), (qa, .inl (cI, na, .inl (u.2.2.2.2.2.2.2)))] t) (va_A (w_c_X12_everyLine cI cJ cB cZ cO qm vm_thrown qm_width qm_many qm_cells qm_moved qm_tape fm_tape vm_taped vm_at vm_token vm_place vm_value vm_word vm_bad vm_badPlace vm_fault vm_faultPlace qm_lines qm_has qm_round qm_meets qm_stumble qm_isMud qm_cell qm_tune qm_change qm_isKept qm_steps qm_places qm_danced vm_runMost vm_runBegins qm_heardBy vm_fitMany vm_fitFirst vm_fitBeats vm_listenLeaves qm_there vm_metAt vm_metIn qm_wins vm_nightHoles vm_nightFirst vm_nightMud vm_nightSlips vm_drawnNow qa na fa) sz)) 0 0 (va_A (w_c_X12_everyLine cI cJ cB cZ cO qm vm_thrown qm_width qm_many qm_cells qm_moved qm_tape fm_tape vm_taped vm_at vm_token vm_place vm_value vm_word vm_bad vm_badPlace vm_fault vm_faultPlace qm_lines qm_has qm_round qm_meets qm_stumble qm_isMud qm_cell qm_tune qm_change qm_isKept qm_steps qm_places qm_danced vm_runMost vm_runBegins qm_heardBy vm_fitMany vm_fitFirst vm_fitBeats vm_listenLeaves qm_there vm_metAt vm_metIn qm_wins vm_nightHoles vm_nightFirst vm_nightMud vm_nightSlips vm_drawnNow qa na fa) sz) := by
  refine Met.ofW (cc := cX12_everyLine) (maxL := 4) (ret := none) (by decide) rfl ?_
  intro p e s m args below meth c s₁ B hml hv
  obtain ⟨rfl, hsz, hP, hE, hD0, hH⟩ := hv
  have hx := B.exec
  have hb := B.bytes
  have hr := B.returns
  have hts := atoms_spec (ws := wsX12_everyLine) B.pre
  have hown : s.vm.findClass RX12 = some m.cls := findClass_of_methodNamed B.named
  have hlocks := B.notSynchronized
  have hK := hE.1
  subst hsz
  have hD := hD0.self (sz := s.heap.size)
  generalize hAe : va_A (w_c_X12_everyLine cI cJ cB cZ cO qm vm_thrown qm_width qm_many qm_cells qm_moved qm_tape fm_tape vm_taped vm_at vm_token vm_place vm_value vm_word vm_bad vm_badPlace vm_fault vm_faultPlace qm_lines qm_has qm_round qm_meets qm_stumble qm_isMud qm_cell qm_tune qm_change qm_isKept qm_steps qm_places qm_danced vm_runMost vm_runBegins qm_heardBy vm_fitMany vm_fitFirst vm_fitBeats vm_listenLeaves qm_there vm_metAt vm_metIn qm_wins vm_nightHoles vm_nightFirst vm_nightMud vm_nightSlips vm_drawnNow qa na fa) s.heap.size = A at hD hH ⊢
  have hA : ∀ q : Nat, s.heap.size ≤ q → A q := fun q h => by rw [← hAe]; exact Or.inr h
  have hS : va_S A s.heap s.heap [] := va_S.rf
  obtain ⟨hP, hD⟩ : ct_B D A s.heap [mo qm vm_thrown qm_width qm_many qm_cells qm_moved qm_tape vm_taped vm_at vm_token vm_place vm_value vm_word vm_bad vm_badPlace vm_fault vm_faultPlace qm_lines qm_has qm_round qm_meets qm_stumble qm_isMud qm_cell qm_tune qm_change qm_isKept qm_steps qm_places qm_danced vm_runMost vm_runBegins qm_heardBy vm_fitMany vm_fitFirst vm_fitBeats vm_listenLeaves qm_there vm_metAt vm_metIn qm_wins vm_nightHoles vm_nightFirst vm_nightMud vm_nightSlips vm_drawnNow, (qm_tape, .inl (cB, 1200, .inl (fm_tape))), (qa, .inl (cI, na, .inl (fa)))] := ⟨hP, hD⟩
  have hl := lv_entry ([.ref qm, .ref qa, .int a2, .int a3]) (n := 4) (Nat.le_of_ble_eq_true rfl)
  rw [lg_entry_eq]
  generalize (lg_sl ([.ref qm, .ref qa, .int a2, .int a3]) ++ List.replicate (4 - (lg_sl ([.ref qm, .ref qa, .int a2, .int a3])).length) Slot.unset).toArray = ls at hl ⊢
  have hl : lv_has ls 4 [(0, .ref qm), (1, .ref qa), (2, .int a2), (3, .int a3)] := hl
  obtain ⟨H, hHe⟩ : ∃ H : Heap, H = s.heap := ⟨_, rfl⟩
  rw [← hHe] at hP
  have hS : va_S A s.heap H [] := by rw [hHe]; exact va_S.rf
  refine ct_start hHe ?_
  refine lv_aload_n hx hb dX12_everyLine_0 rfl (lv_at hl 1 rfl) ?_
  refine lv_iload_n hx hb dX12_everyLine_1 rfl (lv_at hl 2 rfl) ?_
  refine lv_aload_n hx hb dX12_everyLine_2 rfl (lv_at hl 0 rfl) ?_
  refine lv_iconst (v := 1) hx hb dX12_everyLine_3 (by decide) ?_
  refine lv_iload_n hx hb dX12_everyLine_4 rfl (lv_at hl 3 rfl) ?_
  refine ct_calli (D := D) (wr := [(qa, .inl (cI, na, .inl (fa)))]) (va_runV (As := [.int 1, .int a3]) (rest := [.int a2, .ref qa]) ⟨hx, hb, hml, hown, hts⟩ (c_X12_number l D G cI cJ cB cZ cO qm vm_thrown qm_width qm_many qm_cells qm_moved qm_tape fm_tape vm_taped vm_at vm_token vm_place vm_value vm_word vm_bad vm_badPlace vm_fault vm_faultPlace qm_lines qm_has qm_round qm_meets qm_stumble qm_isMud qm_cell qm_tune qm_change qm_isKept qm_steps qm_places qm_danced vm_runMost vm_runBegins qm_heardBy vm_fitMany vm_fitFirst vm_fitBeats vm_listenLeaves qm_there vm_metAt vm_metIn qm_wins vm_nightHoles vm_nightFirst vm_nightMud vm_nightSlips vm_drawnNow 1 a3 h_vm_taped h_vm_at h_vm_value (by omega) H.size) (cwV 2 hts gX12_everyLine_X12_number rfl rfl rfl (by decide +kernel) ⟨Nat.le_of_ble_eq_true rfl, Nat.le_of_ble_eq_true rfl⟩) (ct_preV (T := ct_T cI cJ cB cZ cO) (ci := 12) (q0 := 0) hE hH hP hD hS hA [0, 1] (by decide) rfl rfl rfl) rfl rfl hl.1 rfl (lv_room (Nat.le_of_ble_eq_true rfl)) dX12_everyLine_5 ⟨Nat.le_of_ble_eq_true rfl, Nat.le_of_ble_eq_true rfl⟩) hP hD hS hA [0, 1] [2] rfl rfl (by decide) (by decide) (fun r1 u H locs hw hP hD hS => ?_)
  obtain ⟨y2, y3, y4, y5, y6, y7, y8⟩ := u
  obtain ⟨hP, hD⟩ : ct_B D A H [(qa, .inl (cI, na, .inl (fa))), mo qm vm_thrown qm_width qm_many qm_cells qm_moved qm_tape vm_taped y2 y3 y4 y5 y6 y7 y8 vm_fault vm_faultPlace qm_lines qm_has qm_round qm_meets qm_stumble qm_isMud qm_cell qm_tune qm_change qm_isKept qm_steps qm_places qm_danced vm_runMost vm_runBegins qm_heardBy vm_fitMany vm_fitFirst vm_fitBeats vm_listenLeaves qm_there vm_metAt vm_metIn qm_wins vm_nightHoles vm_nightFirst vm_nightMud vm_nightSlips vm_drawnNow, (qm_tape, .inl (cB, 1200, .inl (fm_tape)))] := ⟨hP, hD⟩
  have hk9 : (1 : Int32).toInt = 1 := by decide
  obtain ⟨hz, hp0, hp1, hp2, hp3⟩ := hw
  have h_y2 : 0 ≤ y2.toInt ∧ y2.toInt ≤ 1200 := hp0
  have h_y5 : 0 ≤ y5.toInt ∧ y5.toInt ≤ 1000009 := hp1
  have hp_10 : vm_at.toInt ≤ y2.toInt ∧ y2.toInt ≤ vm_taped.toInt := hp2
  have hp_11 : y7.toInt ≠ 0 ∨ (vm_bad.toInt = 0 ∧ vm_token.toInt = 2 ∧ (1 : Int32).toInt ≤ vm_value.toInt ∧ vm_value.toInt ≤ a3.toInt ∧ (y3.toInt = 0 ∨ vm_at.toInt + 1 ≤ y2.toInt)) := hp3
  have hb_12 : y7.toInt ≠ 0 ∨ vm_bad.toInt = 0 := bd_tr2 hp_11 (Decidable.em (vm_bad.toInt = 0)).symm
  clear hp0 hp1 hp2 hp3
  have h_r1 : r1.toInt = (1 : Int32).toInt ∨ ((1 : Int32).toInt ≤ r1.toInt ∧ r1.toInt ≤ a3.toInt) := hz
  clear hz
  have hi_r1 : 1 ≤ r1.toInt ∧ r1.toInt ≤ 30 := by rcases h_r1 with h | h <;> omega
  refine va_iast (D := D) hx hb hK hP hD hS 0 0 rfl rfl (tq_in rfl (by omega)) dX12_everyLine_8 (fun H locs hP hD hS => ?_)
  obtain ⟨hP, hD⟩ : ct_B D A H [(qa, .inl (cI, na, .inl (upd fa a2.toNatClampNeg r1))), mo qm vm_thrown qm_width qm_many qm_cells qm_moved qm_tape vm_taped y2 y3 y4 y5 y6 y7 y8 vm_fault vm_faultPlace qm_lines qm_has qm_round qm_meets qm_stumble qm_isMud qm_cell qm_tune qm_change qm_isKept qm_steps qm_places qm_danced vm_runMost vm_runBegins qm_heardBy vm_fitMany vm_fitFirst vm_fitBeats vm_listenLeaves qm_there vm_metAt vm_metIn qm_wins vm_nightHoles vm_nightFirst vm_nightMud vm_nightSlips vm_drawnNow, (qm_tape, .inl (cB, 1200, .inl (fm_tape)))] := ⟨hP, hD⟩
  refine lv_aload_n hx hb dX12_everyLine_9 rfl (lv_at hl 1 rfl) ?_
  refine lv_iload_n hx hb dX12_everyLine_10 rfl (lv_at hl 2 rfl) ?_
  refine lv_iconst (v := 1) hx hb dX12_everyLine_11 (by decide) ?_
  refine lv_iadd hx hb dX12_everyLine_12 ?_
  refine lv_topi (fun z13 ez13 => ?_)
  have fz13 : z13.toInt = a2.toInt + 1 := by rw [ez13]; exact tq_add rfl (by decide) (by omega)
  refine lv_aload_n hx hb dX12_everyLine_13 rfl (lv_at hl 0 rfl) ?_
  refine lv_ldc2 (v := 47) hx hb hown (hts (.constantLong RX12 185 (47)) (by decide +kernel)) dX12_everyLine_14 ?_
  refine lv_iconst (v := 0) hx hb dX12_everyLine_17 (by decide) ?_
  refine lv_aload_n hx hb dX12_everyLine_18 rfl (lv_at hl 1 rfl) ?_
  refine lv_iload_n hx hb dX12_everyLine_19 rfl (lv_at hl 2 rfl) ?_
  refine va_iald (D := D) hx hb hK hP 0 0 rfl rfl (tq_in rfl (by omega)) dX12_everyLine_20 ?_
  refine lv_topi (fun z14 ez14 => ?_)
  have gz14 : z14 = r1 := by rw [ez14]; exact upd_eq _ _ _
  have kz14 : z14.toInt = r1.toInt := by rw [gz14]
  refine lv_iconst (v := 1) hx hb dX12_everyLine_21 (by decide) ?_
  refine lv_isub hx hb dX12_everyLine_22 ?_
  refine lv_topi (fun z15 ez15 => ?_)
  have fz15 : z15.toInt = z14.toInt - 1 := by rw [ez15]; exact tq_subt rfl (by decide) (by omega)
  refine ct_calli (D := D) (wr := [(qa, .inl (cI, na, .inl (upd fa a2.toNatClampNeg r1)))]) (va_runV (As := [.long 47, .int 0, .int z15]) (rest := [.int z13, .ref qa]) ⟨hx, hb, hml, hown, hts⟩ (c_X12_number_ l D G cI cJ cB cZ cO qm vm_thrown qm_width qm_many qm_cells qm_moved qm_tape fm_tape vm_taped y2 y3 y4 y5 y6 y7 y8 vm_fault vm_faultPlace qm_lines qm_has qm_round qm_meets qm_stumble qm_isMud qm_cell qm_tune qm_change qm_isKept qm_steps qm_places qm_danced vm_runMost vm_runBegins qm_heardBy vm_fitMany vm_fitFirst vm_fitBeats vm_listenLeaves qm_there vm_metAt vm_metIn qm_wins vm_nightHoles vm_nightFirst vm_nightMud vm_nightSlips vm_drawnNow 47 0 z15 h_vm_taped h_y2 h_y5 (by omega) H.size) (cwV 3 hts gX12_everyLine_X12_number_ rfl rfl rfl (by decide +kernel) ⟨Nat.le_of_ble_eq_true rfl, Nat.le_of_ble_eq_true rfl⟩) (ct_preV (T := ct_T cI cJ cB cZ cO) (ci := 12) (q0 := 1) hE hH hP hD hS hA [1, 2] (by decide) rfl rfl rfl) rfl rfl hl.1 rfl (lv_room (Nat.le_of_ble_eq_true rfl)) dX12_everyLine_23 ⟨Nat.le_of_ble_eq_true rfl, Nat.le_of_ble_eq_true rfl⟩) hP hD hS hA [1, 2] [0] rfl rfl (by decide) (by decide) (fun r16 u H locs hw hP hD hS => ?_)
  obtain ⟨y17, y18, y19, y20, y21, y22, y23⟩ := u
  obtain ⟨hP, hD⟩ : ct_B D A H [(qa, .inl (cI, na, .inl (upd fa a2.toNatClampNeg r1))), mo qm vm_thrown qm_width qm_many qm_cells qm_moved qm_tape vm_taped y17 y18 y19 y20 y21 y22 y23 vm_fault vm_faultPlace qm_lines qm_has qm_round qm_meets qm_stumble qm_isMud qm_cell qm_tune qm_change qm_isKept qm_steps qm_places qm_danced vm_runMost vm_runBegins qm_heardBy vm_fitMany vm_fitFirst vm_fitBeats vm_listenLeaves qm_there vm_metAt vm_metIn qm_wins vm_nightHoles vm_nightFirst vm_nightMud vm_nightSlips vm_drawnNow, (qm_tape, .inl (cB, 1200, .inl (fm_tape)))] := ⟨hP, hD⟩
  have hk24 : (0 : Int32).toInt = 0 := by decide
  obtain ⟨hz, hp0, hp1, hp2, hp3⟩ := hw
  have h_y17 : 0 ≤ y17.toInt ∧ y17.toInt ≤ 1200 := hp0
  have h_y20 : 0 ≤ y20.toInt ∧ y20.toInt ≤ 1000009 := hp1
  have hp_25 : y2.toInt ≤ y17.toInt ∧ y17.toInt ≤ vm_taped.toInt := hp2
  have hp_26 : y22.toInt ≠ 0 ∨ y7.toInt = 0 := hp3
  have hb_27 : y22.toInt ≠ 0 ∨ vm_bad.toInt = 0 := bd_tr hp_26 hb_12
  clear hp0 hp1 hp2 hp3 hb_12
  have h_r16 : r16.toInt = (0 : Int32).toInt ∨ ((0 : Int32).toInt ≤ r16.toInt ∧ r16.toInt ≤ z15.toInt) := hz
  clear hz
  have hi_r16 : 0 ≤ r16.toInt ∧ r16.toInt ≤ 29 := by rcases h_r16 with h | h <;> omega
  refine va_iast (D := D) hx hb hK hP hD hS 0 0 rfl rfl (tq_in rfl (by omega)) dX12_everyLine_26 (fun H locs hP hD hS => ?_)
  obtain ⟨hP, hD⟩ : ct_B D A H [(qa, .inl (cI, na, .inl (upd (upd fa a2.toNatClampNeg r1) z13.toNatClampNeg r16))), mo qm vm_thrown qm_width qm_many qm_cells qm_moved qm_tape vm_taped y17 y18 y19 y20 y21 y22 y23 vm_fault vm_faultPlace qm_lines qm_has qm_round qm_meets qm_stumble qm_isMud qm_cell qm_tune qm_change qm_isKept qm_steps qm_places qm_danced vm_runMost vm_runBegins qm_heardBy vm_fitMany vm_fitFirst vm_fitBeats vm_listenLeaves qm_there vm_metAt vm_metIn qm_wins vm_nightHoles vm_nightFirst vm_nightMud vm_nightSlips vm_drawnNow, (qm_tape, .inl (cB, 1200, .inl (fm_tape)))] := ⟨hP, hD⟩
  obtain ⟨hP9, hD9⟩ : ct_B D A H [mo qm vm_thrown qm_width qm_many qm_cells qm_moved qm_tape vm_taped y17 y18 y19 y20 y21 y22 y23 vm_fault vm_faultPlace qm_lines qm_has qm_round qm_meets qm_stumble qm_isMud qm_cell qm_tune qm_change qm_isKept qm_steps qm_places qm_danced vm_runMost vm_runBegins qm_heardBy vm_fitMany vm_fitFirst vm_fitBeats vm_listenLeaves qm_there vm_metAt vm_metIn qm_wins vm_nightHoles vm_nightFirst vm_nightMud vm_nightSlips vm_drawnNow, (qm_tape, .inl (cB, 1200, .inl (fm_tape))), (qa, .inl (cI, na, .inl (upd (upd fa a2.toNatClampNeg r1) z13.toNatClampNeg r16)))] := ⟨hP.sub [1, 2, 0] rfl, hD.sub [1, 2, 0] (by decide) rfl⟩
  exact W.vret hx hb hr (fun t ht hW => ⟨⟨(y17, y18, y19, y20, y21, y22, y23, (upd (upd fa a2.toNatClampNeg r1) z13.toNatClampNeg r16)), rfl, ⟨h_y17, h_y20, (show vm_at.toInt ≤ y17.toInt ∧ y17.toInt ≤ vm_taped.toInt by omega), (show y22.toInt ≠ 0 ∨ vm_bad.toInt = 0 by exact hb_27), (show ev_ok fa ((upd (upd fa a2.toNatClampNeg r1) z13.toNatClampNeg r16)) a2.toInt a3.toInt by exact ev_of (by omega) (by omega) (by omega) (by omega))⟩, by rw [ht]; exact hP9, hD9⟩, hS.F ht⟩) hS.2.2 dX12_everyLine_27
abbrev w_c_X12_stumbleLine (cI cJ cB cZ cO : ClassId) (qm : Nat) (vm_thrown : Int32) (qm_width : Nat) (qm_many : Nat) (qm_cells : Nat) (qm_moved : Nat) (qm_tape : Nat) (fm_tape : Nat → Int32) (vm_taped : Int32) (vm_at : Int32) (vm_token : Int32) (vm_place : Int32) (vm_value : Int32) (vm_word : Int64) (vm_bad : Int32) (vm_badPlace : Int32) (vm_fault : Int32) (vm_faultPlace : Int32) (qm_lines : Nat) (qm_has : Nat) (fm_has : Nat → Int32) (qm_round : Nat) (qm_meets : Nat) (qm_stumble : Nat) (fm_stumble : Nat → Int32) (qm_isMud : Nat) (qm_cell : Nat) (fm_cell : Nat → Int32) (qm_tune : Nat) (fm_tune : Nat → Int32) (qm_change : Nat) (fm_change : Nat → Int32) (qm_isKept : Nat) (qm_steps : Nat) (qm_places : Nat) (qm_danced : Nat) (vm_runMost : Int32) (vm_runBegins : Int32) (qm_heardBy : Nat) (vm_fitMany : Int32) (vm_fitFirst : Int32) (vm_fitBeats : Int64) (vm_listenLeaves : Int32) (qm_there : Nat) (vm_metAt : Int32) (vm_metIn : Int32) (qm_wins : Nat) (vm_nightHoles : Int32) (vm_nightFirst : Int32) (vm_nightMud : Int32) (vm_nightSlips : Int32) (vm_drawnNow : Int64) : va_W := [mo qm vm_thrown qm_width qm_many qm_cells qm_moved qm_tape vm_taped vm_at vm_token vm_place vm_value vm_word vm_bad vm_badPlace vm_fault vm_faultPlace qm_lines qm_has qm_round qm_meets qm_stumble qm_isMud qm_cell qm_tune qm_change qm_isKept qm_steps qm_places qm_danced vm_runMost vm_runBegins qm_heardBy vm_fitMany vm_fitFirst vm_fitBeats vm_listenLeaves qm_there vm_metAt vm_metIn qm_wins vm_nightHoles vm_nightFirst vm_nightMud vm_nightSlips vm_drawnNow, (qm_tape, .inl (cB, 1200, .inl (fm_tape))), (qm_has, .inl (cI, 55, .inl (fm_has))), (qm_stumble, .inl (cI, 160, .inl (fm_stumble))), (qm_cell, .inl (cI, 120, .inl (fm_cell))), (qm_tune, .inl (cI, 50, .inl (fm_tune))), (qm_change, .inl (cI, 800, .inl (fm_change)))]
set_option maxHeartbeats 4000000 in
set_option maxRecDepth 100000 in
/-- X12 stumbleLine -/
theorem c_X12_stumbleLine (l : Launch) (D : va_G) (G : ct_G) (cI cJ cB cZ cO : ClassId) (qm : Nat) (vm_thrown : Int32) (qm_width : Nat) (qm_many : Nat) (qm_cells : Nat) (qm_moved : Nat) (qm_tape : Nat) (fm_tape : Nat → Int32) (vm_taped : Int32) (vm_at : Int32) (vm_token : Int32) (vm_place : Int32) (vm_value : Int32) (vm_word : Int64) (vm_bad : Int32) (vm_badPlace : Int32) (vm_fault : Int32) (vm_faultPlace : Int32) (qm_lines : Nat) (qm_has : Nat) (fm_has : Nat → Int32) (qm_round : Nat) (qm_meets : Nat) (qm_stumble : Nat) (fm_stumble : Nat → Int32) (qm_isMud : Nat) (qm_cell : Nat) (fm_cell : Nat → Int32) (qm_tune : Nat) (fm_tune : Nat → Int32) (qm_change : Nat) (fm_change : Nat → Int32) (qm_isKept : Nat) (qm_steps : Nat) (qm_places : Nat) (qm_danced : Nat) (vm_runMost : Int32) (vm_runBegins : Int32) (qm_heardBy : Nat) (vm_fitMany : Int32) (vm_fitFirst : Int32) (vm_fitBeats : Int64) (vm_listenLeaves : Int32) (qm_there : Nat) (vm_metAt : Int32) (vm_metIn : Int32) (qm_wins : Nat) (vm_nightHoles : Int32) (vm_nightFirst : Int32) (vm_nightMud : Int32) (vm_nightSlips : Int32) (vm_drawnNow : Int64) (h_vm_taped : 0 ≤ vm_taped.toInt ∧ vm_taped.toInt ≤ 1200) (h_vm_at : 0 ≤ vm_at.toInt ∧ vm_at.toInt ≤ 1200) (h_vm_value : 0 ≤ vm_value.toInt ∧ vm_value.toInt ≤ 1000009) (h_fm_has : ar_ok [0, (-2147483648), (-2147483648), 0, 0, 0, 0, 0, 0, 0, 0] [20, 2147483647, 2147483647, 12, 12, 11, 11, 8, 12, 5, 40] fm_has) (h_fm_stumble : ar_ok [(-2147483648), (-2147483648), 0, (-2147483648)] [2147483647, 2147483647, 5, 2147483647] fm_stumble) (h_at : vm_at.toInt ≤ vm_taped.toInt) (h_51 : (fm_has 51).toInt ≤ 7) (h_rfc : rf_c fm_has fm_cell) (h_rft : rf_t fm_has fm_tune) (h_rfg : rf_g fm_has fm_change) (sz : Nat) : Met l yX12_stumbleLine wsX12_stumbleLine ({ frames := 5, cells := 0, slots := 0, locals := 112 }) (va_Pc [.ref qm] (ct_P D (ct_T cI cJ cB cZ cO) G (w_c_X12_stumbleLine cI cJ cB cZ cO qm vm_thrown qm_width qm_many qm_cells qm_moved qm_tape fm_tape vm_taped vm_at vm_token vm_place vm_value vm_word vm_bad vm_badPlace vm_fault vm_faultPlace qm_lines qm_has fm_has qm_round qm_meets qm_stumble fm_stumble qm_isMud qm_cell fm_cell qm_tune fm_tune qm_change fm_change qm_isKept qm_steps qm_places qm_danced vm_runMost vm_runBegins qm_heardBy vm_fitMany vm_fitFirst vm_fitBeats vm_listenLeaves qm_there vm_metAt vm_metIn qm_wins vm_nightHoles vm_nightFirst vm_nightMud vm_nightSlips vm_drawnNow) sz)) (va_Qv (fun (u : Int32 × Int32 × Int32 × Int32 × Int64 × Int32 × Int32 × (Nat → Int32) × (Nat → Int32)) => (0 ≤ u.1.toInt ∧ u.1.toInt ≤ 1200) ∧ (0 ≤ u.2.2.2.1.toInt ∧ u.2.2.2.1.toInt ≤ 1000009) ∧ (ar_ok [0, (-2147483648), (-2147483648), 0, 0, 0, 0, 0, 0, 0, 0] [20, 2147483647, 2147483647, 12, 12, 11, 11, 8, 12, 5, 40] u.2.2.2.2.2.2.2.1) ∧ (ar_ok [(-2147483648), (-2147483648), 0, (-2147483648)] [2147483647, 2147483647, 5, 2147483647] u.2.2.2.2.2.2.2.2) ∧ (vm_at.toInt ≤ u.1.toInt ∧ u.1.toInt ≤ vm_taped.toInt) ∧ (u.2.2.2.2.2.1.toInt ≠ 0 ∨ vm_bad.toInt = 0) ∧ (rf_c u.2.2.2.2.2.2.2.1 fm_cell) ∧ (rf_t u.2.2.2.2.2.2.2.1 fm_tune) ∧ (rf_g u.2.2.2.2.2.2.2.1 fm_change) ∧ (u.2.2.2.2.2.2.2.1 54 = fm_has 54)) (fun (u : Int32 × Int32 × Int32 × Int32 × Int64 × Int32 × Int32 × (Nat → Int32) × (Nat → Int32)) t => ct_Q D (va_A (w_c_X12_stumbleLine cI cJ cB cZ cO qm vm_thrown qm_width qm_many qm_cells qm_moved qm_tape fm_tape vm_taped vm_at vm_token vm_place vm_value vm_word vm_bad vm_badPlace vm_fault vm_faultPlace qm_lines qm_has fm_has qm_round qm_meets qm_stumble fm_stumble qm_isMud qm_cell fm_cell qm_tune fm_tune qm_change fm_change qm_isKept qm_steps qm_places qm_danced vm_runMost vm_runBegins qm_heardBy vm_fitMany vm_fitFirst vm_fitBeats vm_listenLeaves qm_there vm_metAt vm_metIn qm_wins vm_nightHoles vm_nightFirst vm_nightMud vm_nightSlips vm_drawnNow) sz) [mo qm vm_thrown qm_width qm_many qm_cells qm_moved qm_tape vm_taped u.1 u.2.1 u.2.2.1 u.2.2.2.1 u.2.2.2.2.1 u.2.2.2.2.2.1 u.2.2.2.2.2.2.1 vm_fault vm_faultPlace qm_lines qm_has qm_round qm_meets qm_stumble qm_isMud qm_cell qm_tune qm_change qm_isKept qm_steps qm_places qm_danced vm_runMost vm_runBegins qm_heardBy vm_fitMany vm_fitFirst vm_fitBeats vm_listenLeaves qm_there vm_metAt vm_metIn qm_wins vm_nightHoles vm_nightFirst vm_nightMud vm_nightSlips vm_drawnNow, (qm_tape, .inl (cB, 1200, .inl (fm_tape))), (qm_has, .inl (cI, 55, .inl (u.2.2.2.2.2.2.2.1))), (qm_stumble, .inl (cI, 160, .inl (u.2.2.2.2.2.2.2.2))), (qm_cell, .inl (cI, 120, .inl (fm_cell))), (qm_tune, .inl (cI, 50, .inl (fm_tune))), (qm_change, .inl (cI, 800, .inl (fm_change)))] t) (va_A (w_c_X12_stumbleLine cI cJ cB cZ cO qm vm_thrown qm_width qm_many qm_cells qm_moved qm_tape fm_tape vm_taped vm_at vm_token vm_place vm_value vm_word vm_bad vm_badPlace vm_fault vm_faultPlace qm_lines qm_has fm_has qm_round qm_meets qm_stumble fm_stumble qm_isMud qm_cell fm_cell qm_tune fm_tune qm_change fm_change qm_isKept qm_steps qm_places qm_danced vm_runMost vm_runBegins qm_heardBy vm_fitMany vm_fitFirst vm_fitBeats vm_listenLeaves qm_there vm_metAt vm_metIn qm_wins vm_nightHoles vm_nightFirst vm_nightMud vm_nightSlips vm_drawnNow) sz)) 0 0 (va_A (w_c_X12_stumbleLine cI cJ cB cZ cO qm vm_thrown qm_width qm_many qm_cells qm_moved qm_tape fm_tape vm_taped vm_at vm_token vm_place vm_value vm_word vm_bad vm_badPlace vm_fault vm_faultPlace qm_lines qm_has fm_has qm_round qm_meets qm_stumble fm_stumble qm_isMud qm_cell fm_cell qm_tune fm_tune qm_change fm_change qm_isKept qm_steps qm_places qm_danced vm_runMost vm_runBegins qm_heardBy vm_fitMany vm_fitFirst vm_fitBeats vm_listenLeaves qm_there vm_metAt vm_metIn qm_wins vm_nightHoles vm_nightFirst vm_nightMud vm_nightSlips vm_drawnNow) sz) := by
  refine Met.ofW (cc := cX12_stumbleLine) (maxL := 3) (ret := none) (by decide) rfl ?_
  intro p e s m args below meth c s₁ B hml hv
  obtain ⟨rfl, hsz, hP, hE, hD0, hH⟩ := hv
  have hx := B.exec
  have hb := B.bytes
  have hr := B.returns
  have hts := atoms_spec (ws := wsX12_stumbleLine) B.pre
  have hown : s.vm.findClass RX12 = some m.cls := findClass_of_methodNamed B.named
  have hlocks := B.notSynchronized
  have hK := hE.1
  have hi12 : ∀ w ∈ u_ws RX12 TX12 45, w ∈ wsX12_stumbleLine := fun w h => List.mem_cons_of_mem _ (List.mem_append_right _ h)
  subst hsz
  have hD := hD0.self (sz := s.heap.size)
  generalize hAe : va_A (w_c_X12_stumbleLine cI cJ cB cZ cO qm vm_thrown qm_width qm_many qm_cells qm_moved qm_tape fm_tape vm_taped vm_at vm_token vm_place vm_value vm_word vm_bad vm_badPlace vm_fault vm_faultPlace qm_lines qm_has fm_has qm_round qm_meets qm_stumble fm_stumble qm_isMud qm_cell fm_cell qm_tune fm_tune qm_change fm_change qm_isKept qm_steps qm_places qm_danced vm_runMost vm_runBegins qm_heardBy vm_fitMany vm_fitFirst vm_fitBeats vm_listenLeaves qm_there vm_metAt vm_metIn qm_wins vm_nightHoles vm_nightFirst vm_nightMud vm_nightSlips vm_drawnNow) s.heap.size = A at hD hH ⊢
  have hA : ∀ q : Nat, s.heap.size ≤ q → A q := fun q h => by rw [← hAe]; exact Or.inr h
  have hS : va_S A s.heap s.heap [] := va_S.rf
  obtain ⟨hP, hD⟩ : ct_B D A s.heap [mo qm vm_thrown qm_width qm_many qm_cells qm_moved qm_tape vm_taped vm_at vm_token vm_place vm_value vm_word vm_bad vm_badPlace vm_fault vm_faultPlace qm_lines qm_has qm_round qm_meets qm_stumble qm_isMud qm_cell qm_tune qm_change qm_isKept qm_steps qm_places qm_danced vm_runMost vm_runBegins qm_heardBy vm_fitMany vm_fitFirst vm_fitBeats vm_listenLeaves qm_there vm_metAt vm_metIn qm_wins vm_nightHoles vm_nightFirst vm_nightMud vm_nightSlips vm_drawnNow, (qm_tape, .inl (cB, 1200, .inl (fm_tape))), (qm_has, .inl (cI, 55, .inl (fm_has))), (qm_stumble, .inl (cI, 160, .inl (fm_stumble))), (qm_cell, .inl (cI, 120, .inl (fm_cell))), (qm_tune, .inl (cI, 50, .inl (fm_tune))), (qm_change, .inl (cI, 800, .inl (fm_change)))] := ⟨hP, hD⟩
  have hl := lv_entry ([.ref qm]) (n := 3) (Nat.le_of_ble_eq_true rfl)
  rw [lg_entry_eq]
  generalize (lg_sl ([.ref qm]) ++ List.replicate (3 - (lg_sl ([.ref qm])).length) Slot.unset).toArray = ls at hl ⊢
  have hl : lv_has ls 3 [(0, .ref qm)] := hl
  obtain ⟨H, hHe⟩ : ∃ H : Heap, H = s.heap := ⟨_, rfl⟩
  rw [← hHe] at hP
  have hS : va_S A s.heap H [] := by rw [hHe]; exact va_S.rf
  refine ct_start hHe ?_
  refine lv_iconst (v := 4) hx hb dX12_stumbleLine_0 (by decide) ?_
  refine lv_bipush (v := 32) hx hb dX12_stumbleLine_1 (by decide) ?_
  refine lv_aload_n hx hb dX12_stumbleLine_3 rfl (lv_at hl 0 rfl) ?_
  refine lv_bipush (v := 7) hx hb dX12_stumbleLine_4 (by decide) ?_
  refine ct_calli (D := D) (wr := [(qm_tape, .inl (cB, 1200, .inl (fm_tape))), (qm_stumble, .inl (cI, 160, .inl (fm_stumble))), (qm_cell, .inl (cI, 120, .inl (fm_cell))), (qm_tune, .inl (cI, 50, .inl (fm_tune))), (qm_change, .inl (cI, 800, .inl (fm_change)))]) (va_runV (As := [.int 7]) (rest := [.int 32, .int 4]) ⟨hx, hb, hml, hown, hts⟩ (c_X12_hasRead l D G cI cJ cB cZ cO qm vm_thrown qm_width qm_many qm_cells qm_moved qm_tape vm_taped vm_at vm_token vm_place vm_value vm_word vm_bad vm_badPlace vm_fault vm_faultPlace qm_lines qm_has fm_has qm_round qm_meets qm_stumble qm_isMud qm_cell qm_tune qm_change qm_isKept qm_steps qm_places qm_danced vm_runMost vm_runBegins qm_heardBy vm_fitMany vm_fitFirst vm_fitBeats vm_listenLeaves qm_there vm_metAt vm_metIn qm_wins vm_nightHoles vm_nightFirst vm_nightMud vm_nightSlips vm_drawnNow 7 h_vm_taped h_vm_at h_vm_value h_fm_has (by decide) H.size) (cwV 1 hts gX12_stumbleLine_X12_hasRead rfl rfl rfl (by decide +kernel) ⟨Nat.le_of_ble_eq_true rfl, Nat.le_of_ble_eq_true rfl⟩) (ct_preV (T := ct_T cI cJ cB cZ cO) (ci := 12) (q0 := 0) hE hH hP hD hS hA [0, 2] (by decide) rfl rfl rfl) rfl rfl hl.1 rfl (lv_room (Nat.le_of_ble_eq_true rfl)) dX12_stumbleLine_6 ⟨Nat.le_of_ble_eq_true rfl, Nat.le_of_ble_eq_true rfl⟩) hP hD hS hA [0, 2] [1, 3, 4, 5, 6] rfl rfl (by decide) (by decide) (fun r1 u H locs hw hP hD hS => ?_)
  obtain ⟨hP, hD⟩ : ct_B D A H [(qm_tape, .inl (cB, 1200, .inl (fm_tape))), (qm_stumble, .inl (cI, 160, .inl (fm_stumble))), (qm_cell, .inl (cI, 120, .inl (fm_cell))), (qm_tune, .inl (cI, 50, .inl (fm_tune))), (qm_change, .inl (cI, 800, .inl (fm_change))), mo qm vm_thrown qm_width qm_many qm_cells qm_moved qm_tape vm_taped vm_at vm_token vm_place vm_value vm_word vm_bad vm_badPlace vm_fault vm_faultPlace qm_lines qm_has qm_round qm_meets qm_stumble qm_isMud qm_cell qm_tune qm_change qm_isKept qm_steps qm_places qm_danced vm_runMost vm_runBegins qm_heardBy vm_fitMany vm_fitFirst vm_fitBeats vm_listenLeaves qm_there vm_metAt vm_metIn qm_wins vm_nightHoles vm_nightFirst vm_nightMud vm_nightSlips vm_drawnNow, (qm_has, .inl (cI, 55, .inl (fm_has)))] := ⟨hP, hD⟩
  have hk2 : (7 : Int32).toInt = 7 := by decide
  have hp0 := hw
  clear hw
  have hp_3 : r1 = fm_has (44 + (7 : Int32).toInt).toNat := hp0
  clear hp0
  have hl4 : r1.toInt = (fm_has 51).toInt := by rw [hp_3]; rfl
  have hl5 : 0 ≤ r1.toInt ∧ r1.toInt ≤ 8 := by rw [hl4]; exact h_fm_has 51
  refine lv_iadd hx hb dX12_stumbleLine_9 ?_
  refine lv_topi (fun z6 ez6 => ?_)
  have fz6 : z6.toInt = 32 + r1.toInt := by rw [ez6]; exact tq_add (by decide) rfl (by omega)
  refine lv_imul hx hb dX12_stumbleLine_10 ?_
  refine lv_topi (fun z7 ez7 => ?_)
  have fz7 : z7.toInt = 4 * z6.toInt := by rw [ez7]; exact tq_mul (by decide) rfl (by omega)
  refine lv_istore_n (lv' := [(1, .int z7), (0, .ref qm)]) hx hb dX12_stumbleLine_11 rfl hl (by decide) rfl (fun ls hl => ?_)
  refine lv_aload_n hx hb dX12_stumbleLine_12 rfl (lv_at hl 1 rfl) ?_
  refine lv_iconst (v := 0) hx hb dX12_stumbleLine_13 (by decide) ?_
  refine lv_iconst (v := 1) hx hb dX12_stumbleLine_14 (by decide) ?_
  refine ct_calli (D := D) (wr := [(qm_stumble, .inl (cI, 160, .inl (fm_stumble))), (qm_cell, .inl (cI, 120, .inl (fm_cell))), (qm_tune, .inl (cI, 50, .inl (fm_tune))), (qm_change, .inl (cI, 800, .inl (fm_change))), (qm_has, .inl (cI, 55, .inl (fm_has)))]) (va_runV (As := [.int 0, .int 1]) (rest := []) ⟨hx, hb, hml, hown, hts⟩ (c_X12_number l D G cI cJ cB cZ cO qm vm_thrown qm_width qm_many qm_cells qm_moved qm_tape fm_tape vm_taped vm_at vm_token vm_place vm_value vm_word vm_bad vm_badPlace vm_fault vm_faultPlace qm_lines qm_has qm_round qm_meets qm_stumble qm_isMud qm_cell qm_tune qm_change qm_isKept qm_steps qm_places qm_danced vm_runMost vm_runBegins qm_heardBy vm_fitMany vm_fitFirst vm_fitBeats vm_listenLeaves qm_there vm_metAt vm_metIn qm_wins vm_nightHoles vm_nightFirst vm_nightMud vm_nightSlips vm_drawnNow 0 1 h_vm_taped h_vm_at h_vm_value (by omega) H.size) (cwV 2 hts gX12_stumbleLine_X12_number rfl rfl rfl (by decide +kernel) ⟨Nat.le_of_ble_eq_true rfl, Nat.le_of_ble_eq_true rfl⟩) (ct_preV (T := ct_T cI cJ cB cZ cO) (ci := 12) (q0 := 5) hE hH hP hD hS hA [5, 0] (by decide) rfl rfl rfl) rfl rfl hl.1 rfl (lv_room (Nat.le_of_ble_eq_true rfl)) dX12_stumbleLine_15 ⟨Nat.le_of_ble_eq_true rfl, Nat.le_of_ble_eq_true rfl⟩) hP hD hS hA [5, 0] [1, 2, 3, 4, 6] rfl rfl (by decide) (by decide) (fun r8 u H locs hw hP hD hS => ?_)
  obtain ⟨y9, y10, y11, y12, y13, y14, y15⟩ := u
  obtain ⟨hP, hD⟩ : ct_B D A H [(qm_stumble, .inl (cI, 160, .inl (fm_stumble))), (qm_cell, .inl (cI, 120, .inl (fm_cell))), (qm_tune, .inl (cI, 50, .inl (fm_tune))), (qm_change, .inl (cI, 800, .inl (fm_change))), (qm_has, .inl (cI, 55, .inl (fm_has))), mo qm vm_thrown qm_width qm_many qm_cells qm_moved qm_tape vm_taped y9 y10 y11 y12 y13 y14 y15 vm_fault vm_faultPlace qm_lines qm_has qm_round qm_meets qm_stumble qm_isMud qm_cell qm_tune qm_change qm_isKept qm_steps qm_places qm_danced vm_runMost vm_runBegins qm_heardBy vm_fitMany vm_fitFirst vm_fitBeats vm_listenLeaves qm_there vm_metAt vm_metIn qm_wins vm_nightHoles vm_nightFirst vm_nightMud vm_nightSlips vm_drawnNow, (qm_tape, .inl (cB, 1200, .inl (fm_tape)))] := ⟨hP, hD⟩
  have hk16 : (0 : Int32).toInt = 0 := by decide
  have hk17 : (1 : Int32).toInt = 1 := by decide
  obtain ⟨hz, hp0, hp1, hp2, hp3⟩ := hw
  have h_y9 : 0 ≤ y9.toInt ∧ y9.toInt ≤ 1200 := hp0
  have h_y12 : 0 ≤ y12.toInt ∧ y12.toInt ≤ 1000009 := hp1
  have hp_18 : vm_at.toInt ≤ y9.toInt ∧ y9.toInt ≤ vm_taped.toInt := hp2
  have hp_19 : y14.toInt ≠ 0 ∨ (vm_bad.toInt = 0 ∧ vm_token.toInt = 2 ∧ (0 : Int32).toInt ≤ vm_value.toInt ∧ vm_value.toInt ≤ (1 : Int32).toInt ∧ (y10.toInt = 0 ∨ vm_at.toInt + 1 ≤ y9.toInt)) := hp3
  have hb_20 : y14.toInt ≠ 0 ∨ vm_bad.toInt = 0 := bd_tr2 hp_19 (Decidable.em (vm_bad.toInt = 0)).symm
  clear hp0 hp1 hp2 hp3
  have h_r8 : r8.toInt = (0 : Int32).toInt ∨ ((0 : Int32).toInt ≤ r8.toInt ∧ r8.toInt ≤ (1 : Int32).toInt) := hz
  clear hz
  have hi_r8 : 0 ≤ r8.toInt ∧ r8.toInt ≤ 1 := by rcases h_r8 with h | h <;> omega
  clear h_r8
  refine lv_istore_n (lv' := [(2, .int r8), (1, .int z7), (0, .ref qm)]) hx hb dX12_stumbleLine_18 rfl hl (by decide) rfl (fun ls hl => ?_)
  refine lv_aload_n hx hb dX12_stumbleLine_19 rfl (lv_at hl 2 rfl) ?_
  refine lv_ldc2 (v := 47) hx hb hown (hts (.constantLong RX12 185 (47)) (by decide +kernel)) dX12_stumbleLine_20 ?_
  refine ct_callv (D := D) (wr := [(qm_stumble, .inl (cI, 160, .inl (fm_stumble))), (qm_cell, .inl (cI, 120, .inl (fm_cell))), (qm_tune, .inl (cI, 50, .inl (fm_tune))), (qm_change, .inl (cI, 800, .inl (fm_change))), (qm_has, .inl (cI, 55, .inl (fm_has)))]) (va_runV (As := [.long 47]) (rest := []) ⟨hx, hb, hml, hown, hts⟩ (c_X12_asks l D G cI cJ cB cZ cO qm vm_thrown qm_width qm_many qm_cells qm_moved qm_tape fm_tape vm_taped y9 y10 y11 y12 y13 y14 y15 vm_fault vm_faultPlace qm_lines qm_has qm_round qm_meets qm_stumble qm_isMud qm_cell qm_tune qm_change qm_isKept qm_steps qm_places qm_danced vm_runMost vm_runBegins qm_heardBy vm_fitMany vm_fitFirst vm_fitBeats vm_listenLeaves qm_there vm_metAt vm_metIn qm_wins vm_nightHoles vm_nightFirst vm_nightMud vm_nightSlips vm_drawnNow 47 h_vm_taped h_y9 h_y12 (by omega) H.size) (cwV 1 hts gX12_stumbleLine_X12_asks rfl rfl rfl (by decide +kernel) ⟨Nat.le_of_ble_eq_true rfl, Nat.le_of_ble_eq_true rfl⟩) (ct_preV (T := ct_T cI cJ cB cZ cO) (ci := 12) (q0 := 5) hE hH hP hD hS hA [5, 6] (by decide) rfl rfl rfl) rfl rfl hl.1 rfl (lv_room (Nat.le_of_ble_eq_true rfl)) dX12_stumbleLine_23 ⟨Nat.le_of_ble_eq_true rfl, Nat.le_of_ble_eq_true rfl⟩) hP hD hS hA [5, 6] [0, 1, 2, 3, 4] rfl rfl (by decide) (by decide) (fun u H locs hw hP hD hS => ?_)
  obtain ⟨y21, y22, y23, y24, y25, y26, y27⟩ := u
  obtain ⟨hP, hD⟩ : ct_B D A H [(qm_stumble, .inl (cI, 160, .inl (fm_stumble))), (qm_cell, .inl (cI, 120, .inl (fm_cell))), (qm_tune, .inl (cI, 50, .inl (fm_tune))), (qm_change, .inl (cI, 800, .inl (fm_change))), (qm_has, .inl (cI, 55, .inl (fm_has))), mo qm vm_thrown qm_width qm_many qm_cells qm_moved qm_tape vm_taped y21 y22 y23 y24 y25 y26 y27 vm_fault vm_faultPlace qm_lines qm_has qm_round qm_meets qm_stumble qm_isMud qm_cell qm_tune qm_change qm_isKept qm_steps qm_places qm_danced vm_runMost vm_runBegins qm_heardBy vm_fitMany vm_fitFirst vm_fitBeats vm_listenLeaves qm_there vm_metAt vm_metIn qm_wins vm_nightHoles vm_nightFirst vm_nightMud vm_nightSlips vm_drawnNow, (qm_tape, .inl (cB, 1200, .inl (fm_tape)))] := ⟨hP, hD⟩
  obtain ⟨hp0, hp1, hp2, hp3⟩ := hw
  have h_y21 : 0 ≤ y21.toInt ∧ y21.toInt ≤ 1200 := hp0
  have h_y24 : 0 ≤ y24.toInt ∧ y24.toInt ≤ 1000009 := hp1
  have hp_28 : y9.toInt ≤ y21.toInt ∧ y21.toInt ≤ vm_taped.toInt := hp2
  have hp_29 : y26.toInt ≠ 0 ∨ y14.toInt = 0 := hp3
  have hb_30 : y26.toInt ≠ 0 ∨ vm_bad.toInt = 0 := bd_tr hp_29 hb_20
  clear hp0 hp1 hp2 hp3 hb_20
  refine lv_aload_n hx hb dX12_stumbleLine_26 rfl (lv_at hl 2 rfl) ?_
  refine va_get (D := D) (ci := 12) (v := .int y26) (C := RX12) (T := TX12) (N := 45) hx hb hts hi12 hown hK hP 5 rfl rfl 12 (by decide) (hts (.fieldLink RX12 132 "OverHillModel" "bad" "I") (by decide +kernel)) (fun _ h9 => h9) rfl dX12_stumbleLine_27 ?_
  refine lv_if_ne (tgt := 59) hx hb dX12_stumbleLine_30 (by decide) (fun hc => ?_) (fun hc => ?_)
  · have hq31 : y26.toInt ≠ 0 := tq_ne rfl (by decide) hc
    have hb32 := tq_lo y26
    refine lv_aload_n hx hb dX12_stumbleLine_59 rfl (lv_at hl 2 rfl) ?_
    refine va_get (D := D) (ci := 12) (v := .ref qm_stumble) (C := RX12) (T := TX12) (N := 45) hx hb hts hi12 hown hK hP 5 rfl rfl 20 (by decide) (hts (.fieldLink RX12 43 "OverHillModel" "stumble" "[I") (by decide +kernel)) (fun _ h9 => h9) rfl dX12_stumbleLine_60 ?_
    refine lv_iload_n hx hb dX12_stumbleLine_63 rfl (lv_at hl 1 rfl) ?_
    refine lv_iconst (v := 1) hx hb dX12_stumbleLine_64 (by decide) ?_
    refine lv_iadd hx hb dX12_stumbleLine_65 ?_
    refine lv_topi (fun z33 ez33 => ?_)
    have fz33 : z33.toInt = z7.toInt + 1 := by rw [ez33]; exact tq_add rfl (by decide) (by omega)
    refine lv_aload_n hx hb dX12_stumbleLine_66 rfl (lv_at hl 2 rfl) ?_
    refine ct_calli (D := D) (wr := [(qm_stumble, .inl (cI, 160, .inl (fm_stumble))), (qm_cell, .inl (cI, 120, .inl (fm_cell))), (qm_tune, .inl (cI, 50, .inl (fm_tune))), (qm_change, .inl (cI, 800, .inl (fm_change))), (qm_has, .inl (cI, 55, .inl (fm_has)))]) (va_runV (As := []) (rest := [.int z33, .ref qm_stumble]) ⟨hx, hb, hml, hown, hts⟩ (c_X12_beatHere l D G cI cJ cB cZ cO qm vm_thrown qm_width qm_many qm_cells qm_moved qm_tape fm_tape vm_taped y21 y22 y23 y24 y25 y26 y27 vm_fault vm_faultPlace qm_lines qm_has qm_round qm_meets qm_stumble qm_isMud qm_cell qm_tune qm_change qm_isKept qm_steps qm_places qm_danced vm_runMost vm_runBegins qm_heardBy vm_fitMany vm_fitFirst vm_fitBeats vm_listenLeaves qm_there vm_metAt vm_metIn qm_wins vm_nightHoles vm_nightFirst vm_nightMud vm_nightSlips vm_drawnNow h_vm_taped h_y21 h_y24 (by omega) H.size) (cwV 0 hts gX12_stumbleLine_X12_beatHere rfl rfl rfl (by decide +kernel) ⟨Nat.le_of_ble_eq_true rfl, Nat.le_of_ble_eq_true rfl⟩) (ct_preV (T := ct_T cI cJ cB cZ cO) (ci := 12) (q0 := 5) hE hH hP hD hS hA [5, 6] (by decide) rfl rfl rfl) rfl rfl hl.1 rfl (lv_room (Nat.le_of_ble_eq_true rfl)) dX12_stumbleLine_67 ⟨Nat.le_of_ble_eq_true rfl, Nat.le_of_ble_eq_true rfl⟩) hP hD hS hA [5, 6] [0, 1, 2, 3, 4] rfl rfl (by decide) (by decide) (fun r34 u H locs hw hP hD hS => ?_)
    obtain ⟨y35, y36, y37, y38, y39, y40, y41⟩ := u
    obtain ⟨hP, hD⟩ : ct_B D A H [(qm_stumble, .inl (cI, 160, .inl (fm_stumble))), (qm_cell, .inl (cI, 120, .inl (fm_cell))), (qm_tune, .inl (cI, 50, .inl (fm_tune))), (qm_change, .inl (cI, 800, .inl (fm_change))), (qm_has, .inl (cI, 55, .inl (fm_has))), mo qm vm_thrown qm_width qm_many qm_cells qm_moved qm_tape vm_taped y35 y36 y37 y38 y39 y40 y41 vm_fault vm_faultPlace qm_lines qm_has qm_round qm_meets qm_stumble qm_isMud qm_cell qm_tune qm_change qm_isKept qm_steps qm_places qm_danced vm_runMost vm_runBegins qm_heardBy vm_fitMany vm_fitFirst vm_fitBeats vm_listenLeaves qm_there vm_metAt vm_metIn qm_wins vm_nightHoles vm_nightFirst vm_nightMud vm_nightSlips vm_drawnNow, (qm_tape, .inl (cB, 1200, .inl (fm_tape)))] := ⟨hP, hD⟩
    obtain ⟨hz, hp0, hp1, hp2, hp3⟩ := hw
    have h_y35 : 0 ≤ y35.toInt ∧ y35.toInt ≤ 1200 := hp0
    have h_y38 : 0 ≤ y38.toInt ∧ y38.toInt ≤ 1000009 := hp1
    have hp_42 : y21.toInt ≤ y35.toInt ∧ y35.toInt ≤ vm_taped.toInt := hp2
    have hp_43 : y40.toInt ≠ 0 ∨ (y26.toInt = 0 ∧ y22.toInt = 2 ∧ 0 ≤ y24.toInt ∧ y24.toInt ≤ 199 ∧ (y36.toInt = 0 ∨ y21.toInt + 1 ≤ y35.toInt)) := hp3
    have hb_44 : y40.toInt ≠ 0 ∨ vm_bad.toInt = 0 := bd_tr2 hp_43 hb_30
    clear hp0 hp1 hp2 hp3 hb_30
    have h_r34 : 0 ≤ r34.toInt ∧ r34.toInt ≤ 199 := hz
    clear hz
    refine va_iast (D := D) hx hb hK hP hD hS 0 0 rfl rfl (tq_in rfl (by omega)) dX12_stumbleLine_70 (fun H locs hP hD hS => ?_)
    obtain ⟨g45, h_g45, hP, hD⟩ : ∃ g45 : Nat → Int32, ar_ok [(-2147483648), (-2147483648), 0, (-2147483648)] [2147483647, 2147483647, 5, 2147483647] g45 ∧ ct_B D A H [(qm_stumble, .inl (cI, 160, .inl (g45))), (qm_cell, .inl (cI, 120, .inl (fm_cell))), (qm_tune, .inl (cI, 50, .inl (fm_tune))), (qm_change, .inl (cI, 800, .inl (fm_change))), (qm_has, .inl (cI, 55, .inl (fm_has))), mo qm vm_thrown qm_width qm_many qm_cells qm_moved qm_tape vm_taped y35 y36 y37 y38 y39 y40 y41 vm_fault vm_faultPlace qm_lines qm_has qm_round qm_meets qm_stumble qm_isMud qm_cell qm_tune qm_change qm_isKept qm_steps qm_places qm_danced vm_runMost vm_runBegins qm_heardBy vm_fitMany vm_fitFirst vm_fitBeats vm_listenLeaves qm_there vm_metAt vm_metIn qm_wins vm_nightHoles vm_nightFirst vm_nightMud vm_nightSlips vm_drawnNow, (qm_tape, .inl (cB, 1200, .inl (fm_tape)))] := ⟨_, ar_setF h_fm_stumble z33 r34 1 (by omega) (show z33.toInt % 4 = 1 by omega) rfl rfl, hP, hD⟩
    refine lv_aload_n hx hb dX12_stumbleLine_71 rfl (lv_at hl 2 rfl) ?_
    refine va_get (D := D) (ci := 12) (v := .ref qm_stumble) (C := RX12) (T := TX12) (N := 45) hx hb hts hi12 hown hK hP 5 rfl rfl 20 (by decide) (hts (.fieldLink RX12 43 "OverHillModel" "stumble" "[I") (by decide +kernel)) (fun _ h9 => h9) rfl dX12_stumbleLine_72 ?_
    refine lv_iload_n hx hb dX12_stumbleLine_75 rfl (lv_at hl 1 rfl) ?_
    refine lv_iload_n hx hb dX12_stumbleLine_76 rfl (lv_at hl 0 rfl) ?_
    refine va_iast (D := D) hx hb hK hP hD hS 0 0 rfl rfl (tq_in rfl (by omega)) dX12_stumbleLine_77 (fun H locs hP hD hS => ?_)
    obtain ⟨g46, h_g46, hP, hD⟩ : ∃ g46 : Nat → Int32, ar_ok [(-2147483648), (-2147483648), 0, (-2147483648)] [2147483647, 2147483647, 5, 2147483647] g46 ∧ ct_B D A H [(qm_stumble, .inl (cI, 160, .inl (g46))), (qm_cell, .inl (cI, 120, .inl (fm_cell))), (qm_tune, .inl (cI, 50, .inl (fm_tune))), (qm_change, .inl (cI, 800, .inl (fm_change))), (qm_has, .inl (cI, 55, .inl (fm_has))), mo qm vm_thrown qm_width qm_many qm_cells qm_moved qm_tape vm_taped y35 y36 y37 y38 y39 y40 y41 vm_fault vm_faultPlace qm_lines qm_has qm_round qm_meets qm_stumble qm_isMud qm_cell qm_tune qm_change qm_isKept qm_steps qm_places qm_danced vm_runMost vm_runBegins qm_heardBy vm_fitMany vm_fitFirst vm_fitBeats vm_listenLeaves qm_there vm_metAt vm_metIn qm_wins vm_nightHoles vm_nightFirst vm_nightMud vm_nightSlips vm_drawnNow, (qm_tape, .inl (cB, 1200, .inl (fm_tape)))] := ⟨_, ar_setF h_g45 z7 r8 0 (by omega) (show z7.toInt % 4 = 0 by omega) rfl rfl, hP, hD⟩
    refine lv_aload_n hx hb dX12_stumbleLine_78 rfl (lv_at hl 2 rfl) ?_
    refine va_get (D := D) (ci := 12) (v := .ref qm_stumble) (C := RX12) (T := TX12) (N := 45) hx hb hts hi12 hown hK hP 5 rfl rfl 20 (by decide) (hts (.fieldLink RX12 43 "OverHillModel" "stumble" "[I") (by decide +kernel)) (fun _ h9 => h9) rfl dX12_stumbleLine_79 ?_
    refine lv_iload_n hx hb dX12_stumbleLine_82 rfl (lv_at hl 1 rfl) ?_
    refine lv_iconst (v := 2) hx hb dX12_stumbleLine_83 (by decide) ?_
    refine lv_iadd hx hb dX12_stumbleLine_84 ?_
    refine lv_topi (fun z47 ez47 => ?_)
    have fz47 : z47.toInt = z7.toInt + 2 := by rw [ez47]; exact tq_add rfl (by decide) (by omega)
    refine lv_aload_n hx hb dX12_stumbleLine_85 rfl (lv_at hl 2 rfl) ?_
    refine lv_ldc2 (v := 89821) hx hb hown (hts (.constantLong RX12 193 (89821)) (by decide +kernel)) dX12_stumbleLine_86 ?_
    refine lv_iconst (v := 0) hx hb dX12_stumbleLine_89 (by decide) ?_
    refine lv_iconst (v := 5) hx hb dX12_stumbleLine_90 (by decide) ?_
    refine ct_calli (D := D) (wr := [(qm_stumble, .inl (cI, 160, .inl (g46))), (qm_cell, .inl (cI, 120, .inl (fm_cell))), (qm_tune, .inl (cI, 50, .inl (fm_tune))), (qm_change, .inl (cI, 800, .inl (fm_change))), (qm_has, .inl (cI, 55, .inl (fm_has)))]) (va_runV (As := [.long 89821, .int 0, .int 5]) (rest := [.int z47, .ref qm_stumble]) ⟨hx, hb, hml, hown, hts⟩ (c_X12_number_ l D G cI cJ cB cZ cO qm vm_thrown qm_width qm_many qm_cells qm_moved qm_tape fm_tape vm_taped y35 y36 y37 y38 y39 y40 y41 vm_fault vm_faultPlace qm_lines qm_has qm_round qm_meets qm_stumble qm_isMud qm_cell qm_tune qm_change qm_isKept qm_steps qm_places qm_danced vm_runMost vm_runBegins qm_heardBy vm_fitMany vm_fitFirst vm_fitBeats vm_listenLeaves qm_there vm_metAt vm_metIn qm_wins vm_nightHoles vm_nightFirst vm_nightMud vm_nightSlips vm_drawnNow 89821 0 5 h_vm_taped h_y35 h_y38 (by omega) H.size) (cwV 3 hts gX12_stumbleLine_X12_number_ rfl rfl rfl (by decide +kernel) ⟨Nat.le_of_ble_eq_true rfl, Nat.le_of_ble_eq_true rfl⟩) (ct_preV (T := ct_T cI cJ cB cZ cO) (ci := 12) (q0 := 5) hE hH hP hD hS hA [5, 6] (by decide) rfl rfl rfl) rfl rfl hl.1 rfl (lv_room (Nat.le_of_ble_eq_true rfl)) dX12_stumbleLine_91 ⟨Nat.le_of_ble_eq_true rfl, Nat.le_of_ble_eq_true rfl⟩) hP hD hS hA [5, 6] [0, 1, 2, 3, 4] rfl rfl (by decide) (by decide) (fun r48 u H locs hw hP hD hS => ?_)
    obtain ⟨y49, y50, y51, y52, y53, y54, y55⟩ := u
    obtain ⟨hP, hD⟩ : ct_B D A H [(qm_stumble, .inl (cI, 160, .inl (g46))), (qm_cell, .inl (cI, 120, .inl (fm_cell))), (qm_tune, .inl (cI, 50, .inl (fm_tune))), (qm_change, .inl (cI, 800, .inl (fm_change))), (qm_has, .inl (cI, 55, .inl (fm_has))), mo qm vm_thrown qm_width qm_many qm_cells qm_moved qm_tape vm_taped y49 y50 y51 y52 y53 y54 y55 vm_fault vm_faultPlace qm_lines qm_has qm_round qm_meets qm_stumble qm_isMud qm_cell qm_tune qm_change qm_isKept qm_steps qm_places qm_danced vm_runMost vm_runBegins qm_heardBy vm_fitMany vm_fitFirst vm_fitBeats vm_listenLeaves qm_there vm_metAt vm_metIn qm_wins vm_nightHoles vm_nightFirst vm_nightMud vm_nightSlips vm_drawnNow, (qm_tape, .inl (cB, 1200, .inl (fm_tape)))] := ⟨hP, hD⟩
    have hk56 : (0 : Int32).toInt = 0 := by decide
    have hk57 : (5 : Int32).toInt = 5 := by decide
    obtain ⟨hz, hp0, hp1, hp2, hp3⟩ := hw
    have h_y49 : 0 ≤ y49.toInt ∧ y49.toInt ≤ 1200 := hp0
    have h_y52 : 0 ≤ y52.toInt ∧ y52.toInt ≤ 1000009 := hp1
    have hp_58 : y35.toInt ≤ y49.toInt ∧ y49.toInt ≤ vm_taped.toInt := hp2
    have hp_59 : y54.toInt ≠ 0 ∨ y40.toInt = 0 := hp3
    have hb_60 : y54.toInt ≠ 0 ∨ vm_bad.toInt = 0 := bd_tr hp_59 hb_44
    clear hp0 hp1 hp2 hp3 hb_44
    have h_r48 : r48.toInt = (0 : Int32).toInt ∨ ((0 : Int32).toInt ≤ r48.toInt ∧ r48.toInt ≤ (5 : Int32).toInt) := hz
    clear hz
    have hi_r48 : 0 ≤ r48.toInt ∧ r48.toInt ≤ 5 := by rcases h_r48 with h | h <;> omega
    clear h_r48
    refine va_iast (D := D) hx hb hK hP hD hS 0 0 rfl rfl (tq_in rfl (by omega)) dX12_stumbleLine_94 (fun H locs hP hD hS => ?_)
    obtain ⟨g61, h_g61, hP, hD⟩ : ∃ g61 : Nat → Int32, ar_ok [(-2147483648), (-2147483648), 0, (-2147483648)] [2147483647, 2147483647, 5, 2147483647] g61 ∧ ct_B D A H [(qm_stumble, .inl (cI, 160, .inl (g61))), (qm_cell, .inl (cI, 120, .inl (fm_cell))), (qm_tune, .inl (cI, 50, .inl (fm_tune))), (qm_change, .inl (cI, 800, .inl (fm_change))), (qm_has, .inl (cI, 55, .inl (fm_has))), mo qm vm_thrown qm_width qm_many qm_cells qm_moved qm_tape vm_taped y49 y50 y51 y52 y53 y54 y55 vm_fault vm_faultPlace qm_lines qm_has qm_round qm_meets qm_stumble qm_isMud qm_cell qm_tune qm_change qm_isKept qm_steps qm_places qm_danced vm_runMost vm_runBegins qm_heardBy vm_fitMany vm_fitFirst vm_fitBeats vm_listenLeaves qm_there vm_metAt vm_metIn qm_wins vm_nightHoles vm_nightFirst vm_nightMud vm_nightSlips vm_drawnNow, (qm_tape, .inl (cB, 1200, .inl (fm_tape)))] := ⟨_, ar_set h_g46 z47 r48 2 (by omega) (show z47.toInt % 4 = 2 by omega) rfl (show 0 ≤ r48.toInt ∧ r48.toInt ≤ 5 by omega), hP, hD⟩
    refine lv_aload_n hx hb dX12_stumbleLine_95 rfl (lv_at hl 2 rfl) ?_
    refine va_get (D := D) (ci := 12) (v := .ref qm_stumble) (C := RX12) (T := TX12) (N := 45) hx hb hts hi12 hown hK hP 5 rfl rfl 20 (by decide) (hts (.fieldLink RX12 43 "OverHillModel" "stumble" "[I") (by decide +kernel)) (fun _ h9 => h9) rfl dX12_stumbleLine_96 ?_
    refine lv_iload_n hx hb dX12_stumbleLine_99 rfl (lv_at hl 1 rfl) ?_
    refine lv_iconst (v := 3) hx hb dX12_stumbleLine_100 (by decide) ?_
    refine lv_iadd hx hb dX12_stumbleLine_101 ?_
    refine lv_topi (fun z62 ez62 => ?_)
    have fz62 : z62.toInt = z7.toInt + 3 := by rw [ez62]; exact tq_add rfl (by decide) (by omega)
    refine lv_aload_n hx hb dX12_stumbleLine_102 rfl (lv_at hl 2 rfl) ?_
    refine lv_ldc2 (v := 8782) hx hb hown (hts (.constantLong RX12 195 (8782)) (by decide +kernel)) dX12_stumbleLine_103 ?_
    refine lv_iconst (v := 0) hx hb dX12_stumbleLine_106 (by decide) ?_
    refine lv_bipush (v := 9) hx hb dX12_stumbleLine_107 (by decide) ?_
    refine ct_calli (D := D) (wr := [(qm_stumble, .inl (cI, 160, .inl (g61))), (qm_cell, .inl (cI, 120, .inl (fm_cell))), (qm_tune, .inl (cI, 50, .inl (fm_tune))), (qm_change, .inl (cI, 800, .inl (fm_change))), (qm_has, .inl (cI, 55, .inl (fm_has)))]) (va_runV (As := [.long 8782, .int 0, .int 9]) (rest := [.int z62, .ref qm_stumble]) ⟨hx, hb, hml, hown, hts⟩ (c_X12_number_ l D G cI cJ cB cZ cO qm vm_thrown qm_width qm_many qm_cells qm_moved qm_tape fm_tape vm_taped y49 y50 y51 y52 y53 y54 y55 vm_fault vm_faultPlace qm_lines qm_has qm_round qm_meets qm_stumble qm_isMud qm_cell qm_tune qm_change qm_isKept qm_steps qm_places qm_danced vm_runMost vm_runBegins qm_heardBy vm_fitMany vm_fitFirst vm_fitBeats vm_listenLeaves qm_there vm_metAt vm_metIn qm_wins vm_nightHoles vm_nightFirst vm_nightMud vm_nightSlips vm_drawnNow 8782 0 9 h_vm_taped h_y49 h_y52 (by omega) H.size) (cwV 3 hts gX12_stumbleLine_X12_number_ rfl rfl rfl (by decide +kernel) ⟨Nat.le_of_ble_eq_true rfl, Nat.le_of_ble_eq_true rfl⟩) (ct_preV (T := ct_T cI cJ cB cZ cO) (ci := 12) (q0 := 5) hE hH hP hD hS hA [5, 6] (by decide) rfl rfl rfl) rfl rfl hl.1 rfl (lv_room (Nat.le_of_ble_eq_true rfl)) dX12_stumbleLine_109 ⟨Nat.le_of_ble_eq_true rfl, Nat.le_of_ble_eq_true rfl⟩) hP hD hS hA [5, 6] [0, 1, 2, 3, 4] rfl rfl (by decide) (by decide) (fun r63 u H locs hw hP hD hS => ?_)
    obtain ⟨y64, y65, y66, y67, y68, y69, y70⟩ := u
    obtain ⟨hP, hD⟩ : ct_B D A H [(qm_stumble, .inl (cI, 160, .inl (g61))), (qm_cell, .inl (cI, 120, .inl (fm_cell))), (qm_tune, .inl (cI, 50, .inl (fm_tune))), (qm_change, .inl (cI, 800, .inl (fm_change))), (qm_has, .inl (cI, 55, .inl (fm_has))), mo qm vm_thrown qm_width qm_many qm_cells qm_moved qm_tape vm_taped y64 y65 y66 y67 y68 y69 y70 vm_fault vm_faultPlace qm_lines qm_has qm_round qm_meets qm_stumble qm_isMud qm_cell qm_tune qm_change qm_isKept qm_steps qm_places qm_danced vm_runMost vm_runBegins qm_heardBy vm_fitMany vm_fitFirst vm_fitBeats vm_listenLeaves qm_there vm_metAt vm_metIn qm_wins vm_nightHoles vm_nightFirst vm_nightMud vm_nightSlips vm_drawnNow, (qm_tape, .inl (cB, 1200, .inl (fm_tape)))] := ⟨hP, hD⟩
    have hk71 : (0 : Int32).toInt = 0 := by decide
    have hk72 : (9 : Int32).toInt = 9 := by decide
    obtain ⟨hz, hp0, hp1, hp2, hp3⟩ := hw
    have h_y64 : 0 ≤ y64.toInt ∧ y64.toInt ≤ 1200 := hp0
    have h_y67 : 0 ≤ y67.toInt ∧ y67.toInt ≤ 1000009 := hp1
    have hp_73 : y49.toInt ≤ y64.toInt ∧ y64.toInt ≤ vm_taped.toInt := hp2
    have hp_74 : y69.toInt ≠ 0 ∨ y54.toInt = 0 := hp3
    have hb_75 : y69.toInt ≠ 0 ∨ vm_bad.toInt = 0 := bd_tr hp_74 hb_60
    clear hp0 hp1 hp2 hp3 hb_60
    have h_r63 : r63.toInt = (0 : Int32).toInt ∨ ((0 : Int32).toInt ≤ r63.toInt ∧ r63.toInt ≤ (9 : Int32).toInt) := hz
    clear hz
    have hi_r63 : 0 ≤ r63.toInt ∧ r63.toInt ≤ 9 := by rcases h_r63 with h | h <;> omega
    clear h_r63
    refine va_iast (D := D) hx hb hK hP hD hS 0 0 rfl rfl (tq_in rfl (by omega)) dX12_stumbleLine_112 (fun H locs hP hD hS => ?_)
    obtain ⟨g76, h_g76, hP, hD⟩ : ∃ g76 : Nat → Int32, ar_ok [(-2147483648), (-2147483648), 0, (-2147483648)] [2147483647, 2147483647, 5, 2147483647] g76 ∧ ct_B D A H [(qm_stumble, .inl (cI, 160, .inl (g76))), (qm_cell, .inl (cI, 120, .inl (fm_cell))), (qm_tune, .inl (cI, 50, .inl (fm_tune))), (qm_change, .inl (cI, 800, .inl (fm_change))), (qm_has, .inl (cI, 55, .inl (fm_has))), mo qm vm_thrown qm_width qm_many qm_cells qm_moved qm_tape vm_taped y64 y65 y66 y67 y68 y69 y70 vm_fault vm_faultPlace qm_lines qm_has qm_round qm_meets qm_stumble qm_isMud qm_cell qm_tune qm_change qm_isKept qm_steps qm_places qm_danced vm_runMost vm_runBegins qm_heardBy vm_fitMany vm_fitFirst vm_fitBeats vm_listenLeaves qm_there vm_metAt vm_metIn qm_wins vm_nightHoles vm_nightFirst vm_nightMud vm_nightSlips vm_drawnNow, (qm_tape, .inl (cB, 1200, .inl (fm_tape)))] := ⟨_, ar_setF h_g61 z62 r63 3 (by omega) (show z62.toInt % 4 = 3 by omega) rfl rfl, hP, hD⟩
    refine lv_aload_n hx hb dX12_stumbleLine_113 rfl (lv_at hl 2 rfl) ?_
    refine lv_bipush (v := 7) hx hb dX12_stumbleLine_114 (by decide) ?_
    refine lv_aload_n hx hb dX12_stumbleLine_116 rfl (lv_at hl 2 rfl) ?_
    refine lv_bipush (v := 7) hx hb dX12_stumbleLine_117 (by decide) ?_
    refine ct_calli (D := D) (wr := [(qm_stumble, .inl (cI, 160, .inl (g76))), (qm_cell, .inl (cI, 120, .inl (fm_cell))), (qm_tune, .inl (cI, 50, .inl (fm_tune))), (qm_change, .inl (cI, 800, .inl (fm_change))), (qm_tape, .inl (cB, 1200, .inl (fm_tape)))]) (va_runV (As := [.int 7]) (rest := [.int 7, .ref qm]) ⟨hx, hb, hml, hown, hts⟩ (c_X12_hasRead l D G cI cJ cB cZ cO qm vm_thrown qm_width qm_many qm_cells qm_moved qm_tape vm_taped y64 y65 y66 y67 y68 y69 y70 vm_fault vm_faultPlace qm_lines qm_has fm_has qm_round qm_meets qm_stumble qm_isMud qm_cell qm_tune qm_change qm_isKept qm_steps qm_places qm_danced vm_runMost vm_runBegins qm_heardBy vm_fitMany vm_fitFirst vm_fitBeats vm_listenLeaves qm_there vm_metAt vm_metIn qm_wins vm_nightHoles vm_nightFirst vm_nightMud vm_nightSlips vm_drawnNow 7 h_vm_taped h_y64 h_y67 h_fm_has (by decide) H.size) (cwV 1 hts gX12_stumbleLine_X12_hasRead rfl rfl rfl (by decide +kernel) ⟨Nat.le_of_ble_eq_true rfl, Nat.le_of_ble_eq_true rfl⟩) (ct_preV (T := ct_T cI cJ cB cZ cO) (ci := 12) (q0 := 5) hE hH hP hD hS hA [5, 4] (by decide) rfl rfl rfl) rfl rfl hl.1 rfl (lv_room (Nat.le_of_ble_eq_true rfl)) dX12_stumbleLine_119 ⟨Nat.le_of_ble_eq_true rfl, Nat.le_of_ble_eq_true rfl⟩) hP hD hS hA [5, 4] [0, 1, 2, 3, 6] rfl rfl (by decide) (by decide) (fun r77 u H locs hw hP hD hS => ?_)
    obtain ⟨hP, hD⟩ : ct_B D A H [(qm_stumble, .inl (cI, 160, .inl (g76))), (qm_cell, .inl (cI, 120, .inl (fm_cell))), (qm_tune, .inl (cI, 50, .inl (fm_tune))), (qm_change, .inl (cI, 800, .inl (fm_change))), (qm_tape, .inl (cB, 1200, .inl (fm_tape))), mo qm vm_thrown qm_width qm_many qm_cells qm_moved qm_tape vm_taped y64 y65 y66 y67 y68 y69 y70 vm_fault vm_faultPlace qm_lines qm_has qm_round qm_meets qm_stumble qm_isMud qm_cell qm_tune qm_change qm_isKept qm_steps qm_places qm_danced vm_runMost vm_runBegins qm_heardBy vm_fitMany vm_fitFirst vm_fitBeats vm_listenLeaves qm_there vm_metAt vm_metIn qm_wins vm_nightHoles vm_nightFirst vm_nightMud vm_nightSlips vm_drawnNow, (qm_has, .inl (cI, 55, .inl (fm_has)))] := ⟨hP, hD⟩
    have hk78 : (7 : Int32).toInt = 7 := by decide
    have hp0 := hw
    clear hw
    have hp_79 : r77 = fm_has (44 + (7 : Int32).toInt).toNat := hp0
    clear hp0
    have hl80 : r77.toInt = (fm_has 51).toInt := by rw [hp_79]; rfl
    have hl81 : 0 ≤ r77.toInt ∧ r77.toInt ≤ 8 := by rw [hl80]; exact h_fm_has 51
    refine lv_iconst (v := 1) hx hb dX12_stumbleLine_122 (by decide) ?_
    refine lv_iadd hx hb dX12_stumbleLine_123 ?_
    refine lv_topi (fun z82 ez82 => ?_)
    have fz82 : z82.toInt = r77.toInt + 1 := by rw [ez82]; exact tq_add rfl (by decide) (by omega)
    refine ct_callv (D := D) (wr := [(qm_stumble, .inl (cI, 160, .inl (g76))), (qm_cell, .inl (cI, 120, .inl (fm_cell))), (qm_tune, .inl (cI, 50, .inl (fm_tune))), (qm_change, .inl (cI, 800, .inl (fm_change))), (qm_tape, .inl (cB, 1200, .inl (fm_tape)))]) (va_runV (As := [.int 7, .int z82]) (rest := []) ⟨hx, hb, hml, hown, hts⟩ (c_X12_reads l D G cI cJ cB cZ cO qm vm_thrown qm_width qm_many qm_cells qm_moved qm_tape vm_taped y64 y65 y66 y67 y68 y69 y70 vm_fault vm_faultPlace qm_lines qm_has fm_has qm_round qm_meets qm_stumble qm_isMud qm_cell qm_tune qm_change qm_isKept qm_steps qm_places qm_danced vm_runMost vm_runBegins qm_heardBy vm_fitMany vm_fitFirst vm_fitBeats vm_listenLeaves qm_there vm_metAt vm_metIn qm_wins vm_nightHoles vm_nightFirst vm_nightMud vm_nightSlips vm_drawnNow 7 z82 h_vm_taped h_y64 h_y67 (by decide) H.size) (cwV 2 hts gX12_stumbleLine_X12_reads rfl rfl rfl (by decide +kernel) ⟨Nat.le_of_ble_eq_true rfl, Nat.le_of_ble_eq_true rfl⟩) (ct_preV (T := ct_T cI cJ cB cZ cO) (ci := 12) (q0 := 5) hE hH hP hD hS hA [5, 6] (by decide) rfl rfl rfl) rfl rfl hl.1 rfl (lv_room (Nat.le_of_ble_eq_true rfl)) dX12_stumbleLine_124 ⟨Nat.le_of_ble_eq_true rfl, Nat.le_of_ble_eq_true rfl⟩) hP hD hS hA [5, 6] [0, 1, 2, 3, 4] rfl rfl (by decide) (by decide) (fun u H locs hw hP hD hS => ?_)
    obtain ⟨g83, rfl⟩ : ∃ z, z = u := ⟨_, rfl⟩
    obtain ⟨hP, hD⟩ : ct_B D A H [(qm_stumble, .inl (cI, 160, .inl (g76))), (qm_cell, .inl (cI, 120, .inl (fm_cell))), (qm_tune, .inl (cI, 50, .inl (fm_tune))), (qm_change, .inl (cI, 800, .inl (fm_change))), (qm_tape, .inl (cB, 1200, .inl (fm_tape))), mo qm vm_thrown qm_width qm_many qm_cells qm_moved qm_tape vm_taped y64 y65 y66 y67 y68 y69 y70 vm_fault vm_faultPlace qm_lines qm_has qm_round qm_meets qm_stumble qm_isMud qm_cell qm_tune qm_change qm_isKept qm_steps qm_places qm_danced vm_runMost vm_runBegins qm_heardBy vm_fitMany vm_fitFirst vm_fitBeats vm_listenLeaves qm_there vm_metAt vm_metIn qm_wins vm_nightHoles vm_nightFirst vm_nightMud vm_nightSlips vm_drawnNow, (qm_has, .inl (cI, 55, .inl (g83)))] := ⟨hP, hD⟩
    have hk84 : (7 : Int32).toInt = 7 := by decide
    have hp0 := hw
    clear hw
    have hp_85 : g83 = upd fm_has (44 + (7 : Int32).toInt).toNat z82 := hp0
    clear hp0
    have hg86 : g83 = upd fm_has 51 z82 := by rw [hp_85]; rfl
    have h_g83 : ar_ok [0, (-2147483648), (-2147483648), 0, 0, 0, 0, 0, 0, 0, 0] [20, 2147483647, 2147483647, 12, 12, 11, 11, 8, 12, 5, 40] g83 := by rw [hg86]; exact ar_put h_fm_has 51 z82 (show 0 ≤ z82.toInt ∧ z82.toInt ≤ 8 by omega)
    have hrel87 : rf_c g83 fm_cell := by rw [hg86]; exact rf_c_upd h_rfc _ (by decide)
    have hrel88 : rf_t g83 fm_tune := by rw [hg86]; exact rf_t_upd h_rft _ (by decide)
    have hrel89 : rf_g g83 fm_change := by rw [hg86]; exact rf_g_hi h_rfg _ (by decide)
    have hz5490 : g83 54 = fm_has 54 := by rw [hg86]; exact upd_ne _ (by decide)
    obtain ⟨hP9, hD9⟩ : ct_B D A H [mo qm vm_thrown qm_width qm_many qm_cells qm_moved qm_tape vm_taped y64 y65 y66 y67 y68 y69 y70 vm_fault vm_faultPlace qm_lines qm_has qm_round qm_meets qm_stumble qm_isMud qm_cell qm_tune qm_change qm_isKept qm_steps qm_places qm_danced vm_runMost vm_runBegins qm_heardBy vm_fitMany vm_fitFirst vm_fitBeats vm_listenLeaves qm_there vm_metAt vm_metIn qm_wins vm_nightHoles vm_nightFirst vm_nightMud vm_nightSlips vm_drawnNow, (qm_tape, .inl (cB, 1200, .inl (fm_tape))), (qm_has, .inl (cI, 55, .inl (g83))), (qm_stumble, .inl (cI, 160, .inl (g76))), (qm_cell, .inl (cI, 120, .inl (fm_cell))), (qm_tune, .inl (cI, 50, .inl (fm_tune))), (qm_change, .inl (cI, 800, .inl (fm_change)))] := ⟨hP.sub [5, 4, 6, 0, 1, 2, 3] rfl, hD.sub [5, 4, 6, 0, 1, 2, 3] (by decide) rfl⟩
    exact W.vret hx hb hr (fun t ht hW => ⟨⟨(y64, y65, y66, y67, y68, y69, y70, g83, g76), rfl, ⟨h_y64, h_y67, h_g83, h_g76, (show vm_at.toInt ≤ y64.toInt ∧ y64.toInt ≤ vm_taped.toInt by omega), (show y69.toInt ≠ 0 ∨ vm_bad.toInt = 0 by exact hb_75), (show rf_c g83 fm_cell by exact hrel87), (show rf_t g83 fm_tune by exact hrel88), (show rf_g g83 fm_change by exact hrel89), (show g83 54 = fm_has 54 by exact hz5490)⟩, by rw [ht]; exact hP9, hD9⟩, hS.F ht⟩) hS.2.2 dX12_stumbleLine_127
  · have hq31 : y26.toInt = 0 := tq_eq rfl (by decide) hc
    have hb91 := tq_lo y26
    refine lv_aload_n hx hb dX12_stumbleLine_33 rfl (lv_at hl 2 rfl) ?_
    refine va_get (D := D) (ci := 12) (v := .int y22) (C := RX12) (T := TX12) (N := 45) hx hb hts hi12 hown hK hP 5 rfl rfl 8 (by decide) (hts (.fieldLink RX12 121 "OverHillModel" "token" "I") (by decide +kernel)) (fun _ h9 => h9) rfl dX12_stumbleLine_34 ?_
    refine lv_iconst (v := 2) hx hb dX12_stumbleLine_37 (by decide) ?_
    refine lv_icmp_ne (tgt := 59) hx hb dX12_stumbleLine_38 (by decide) (fun hc => ?_) (fun hc => ?_)
    · have hq92 : y22.toInt ≠ 2 := tq_ne rfl (by decide) hc
      have hb93 := tq_lo y22
      refine lv_aload_n hx hb dX12_stumbleLine_59 rfl (lv_at hl 2 rfl) ?_
      refine va_get (D := D) (ci := 12) (v := .ref qm_stumble) (C := RX12) (T := TX12) (N := 45) hx hb hts hi12 hown hK hP 5 rfl rfl 20 (by decide) (hts (.fieldLink RX12 43 "OverHillModel" "stumble" "[I") (by decide +kernel)) (fun _ h9 => h9) rfl dX12_stumbleLine_60 ?_
      refine lv_iload_n hx hb dX12_stumbleLine_63 rfl (lv_at hl 1 rfl) ?_
      refine lv_iconst (v := 1) hx hb dX12_stumbleLine_64 (by decide) ?_
      refine lv_iadd hx hb dX12_stumbleLine_65 ?_
      refine lv_topi (fun z94 ez94 => ?_)
      have fz94 : z94.toInt = z7.toInt + 1 := by rw [ez94]; exact tq_add rfl (by decide) (by omega)
      refine lv_aload_n hx hb dX12_stumbleLine_66 rfl (lv_at hl 2 rfl) ?_
      refine ct_calli (D := D) (wr := [(qm_stumble, .inl (cI, 160, .inl (fm_stumble))), (qm_cell, .inl (cI, 120, .inl (fm_cell))), (qm_tune, .inl (cI, 50, .inl (fm_tune))), (qm_change, .inl (cI, 800, .inl (fm_change))), (qm_has, .inl (cI, 55, .inl (fm_has)))]) (va_runV (As := []) (rest := [.int z94, .ref qm_stumble]) ⟨hx, hb, hml, hown, hts⟩ (c_X12_beatHere l D G cI cJ cB cZ cO qm vm_thrown qm_width qm_many qm_cells qm_moved qm_tape fm_tape vm_taped y21 y22 y23 y24 y25 y26 y27 vm_fault vm_faultPlace qm_lines qm_has qm_round qm_meets qm_stumble qm_isMud qm_cell qm_tune qm_change qm_isKept qm_steps qm_places qm_danced vm_runMost vm_runBegins qm_heardBy vm_fitMany vm_fitFirst vm_fitBeats vm_listenLeaves qm_there vm_metAt vm_metIn qm_wins vm_nightHoles vm_nightFirst vm_nightMud vm_nightSlips vm_drawnNow h_vm_taped h_y21 h_y24 (by omega) H.size) (cwV 0 hts gX12_stumbleLine_X12_beatHere rfl rfl rfl (by decide +kernel) ⟨Nat.le_of_ble_eq_true rfl, Nat.le_of_ble_eq_true rfl⟩) (ct_preV (T := ct_T cI cJ cB cZ cO) (ci := 12) (q0 := 5) hE hH hP hD hS hA [5, 6] (by decide) rfl rfl rfl) rfl rfl hl.1 rfl (lv_room (Nat.le_of_ble_eq_true rfl)) dX12_stumbleLine_67 ⟨Nat.le_of_ble_eq_true rfl, Nat.le_of_ble_eq_true rfl⟩) hP hD hS hA [5, 6] [0, 1, 2, 3, 4] rfl rfl (by decide) (by decide) (fun r95 u H locs hw hP hD hS => ?_)
      obtain ⟨y96, y97, y98, y99, y100, y101, y102⟩ := u
      obtain ⟨hP, hD⟩ : ct_B D A H [(qm_stumble, .inl (cI, 160, .inl (fm_stumble))), (qm_cell, .inl (cI, 120, .inl (fm_cell))), (qm_tune, .inl (cI, 50, .inl (fm_tune))), (qm_change, .inl (cI, 800, .inl (fm_change))), (qm_has, .inl (cI, 55, .inl (fm_has))), mo qm vm_thrown qm_width qm_many qm_cells qm_moved qm_tape vm_taped y96 y97 y98 y99 y100 y101 y102 vm_fault vm_faultPlace qm_lines qm_has qm_round qm_meets qm_stumble qm_isMud qm_cell qm_tune qm_change qm_isKept qm_steps qm_places qm_danced vm_runMost vm_runBegins qm_heardBy vm_fitMany vm_fitFirst vm_fitBeats vm_listenLeaves qm_there vm_metAt vm_metIn qm_wins vm_nightHoles vm_nightFirst vm_nightMud vm_nightSlips vm_drawnNow, (qm_tape, .inl (cB, 1200, .inl (fm_tape)))] := ⟨hP, hD⟩
      obtain ⟨hz, hp0, hp1, hp2, hp3⟩ := hw
      have h_y96 : 0 ≤ y96.toInt ∧ y96.toInt ≤ 1200 := hp0
      have h_y99 : 0 ≤ y99.toInt ∧ y99.toInt ≤ 1000009 := hp1
      have hp_103 : y21.toInt ≤ y96.toInt ∧ y96.toInt ≤ vm_taped.toInt := hp2
      have hp_104 : y101.toInt ≠ 0 ∨ (y26.toInt = 0 ∧ y22.toInt = 2 ∧ 0 ≤ y24.toInt ∧ y24.toInt ≤ 199 ∧ (y97.toInt = 0 ∨ y21.toInt + 1 ≤ y96.toInt)) := hp3
      have hb_105 : y101.toInt ≠ 0 ∨ vm_bad.toInt = 0 := bd_tr2 hp_104 hb_30
      clear hp0 hp1 hp2 hp3 hb_30
      have h_r95 : 0 ≤ r95.toInt ∧ r95.toInt ≤ 199 := hz
      clear hz
      refine va_iast (D := D) hx hb hK hP hD hS 0 0 rfl rfl (tq_in rfl (by omega)) dX12_stumbleLine_70 (fun H locs hP hD hS => ?_)
      obtain ⟨g106, h_g106, hP, hD⟩ : ∃ g106 : Nat → Int32, ar_ok [(-2147483648), (-2147483648), 0, (-2147483648)] [2147483647, 2147483647, 5, 2147483647] g106 ∧ ct_B D A H [(qm_stumble, .inl (cI, 160, .inl (g106))), (qm_cell, .inl (cI, 120, .inl (fm_cell))), (qm_tune, .inl (cI, 50, .inl (fm_tune))), (qm_change, .inl (cI, 800, .inl (fm_change))), (qm_has, .inl (cI, 55, .inl (fm_has))), mo qm vm_thrown qm_width qm_many qm_cells qm_moved qm_tape vm_taped y96 y97 y98 y99 y100 y101 y102 vm_fault vm_faultPlace qm_lines qm_has qm_round qm_meets qm_stumble qm_isMud qm_cell qm_tune qm_change qm_isKept qm_steps qm_places qm_danced vm_runMost vm_runBegins qm_heardBy vm_fitMany vm_fitFirst vm_fitBeats vm_listenLeaves qm_there vm_metAt vm_metIn qm_wins vm_nightHoles vm_nightFirst vm_nightMud vm_nightSlips vm_drawnNow, (qm_tape, .inl (cB, 1200, .inl (fm_tape)))] := ⟨_, ar_setF h_fm_stumble z94 r95 1 (by omega) (show z94.toInt % 4 = 1 by omega) rfl rfl, hP, hD⟩
      refine lv_aload_n hx hb dX12_stumbleLine_71 rfl (lv_at hl 2 rfl) ?_
      refine va_get (D := D) (ci := 12) (v := .ref qm_stumble) (C := RX12) (T := TX12) (N := 45) hx hb hts hi12 hown hK hP 5 rfl rfl 20 (by decide) (hts (.fieldLink RX12 43 "OverHillModel" "stumble" "[I") (by decide +kernel)) (fun _ h9 => h9) rfl dX12_stumbleLine_72 ?_
      refine lv_iload_n hx hb dX12_stumbleLine_75 rfl (lv_at hl 1 rfl) ?_
      refine lv_iload_n hx hb dX12_stumbleLine_76 rfl (lv_at hl 0 rfl) ?_
      refine va_iast (D := D) hx hb hK hP hD hS 0 0 rfl rfl (tq_in rfl (by omega)) dX12_stumbleLine_77 (fun H locs hP hD hS => ?_)
      obtain ⟨g107, h_g107, hP, hD⟩ : ∃ g107 : Nat → Int32, ar_ok [(-2147483648), (-2147483648), 0, (-2147483648)] [2147483647, 2147483647, 5, 2147483647] g107 ∧ ct_B D A H [(qm_stumble, .inl (cI, 160, .inl (g107))), (qm_cell, .inl (cI, 120, .inl (fm_cell))), (qm_tune, .inl (cI, 50, .inl (fm_tune))), (qm_change, .inl (cI, 800, .inl (fm_change))), (qm_has, .inl (cI, 55, .inl (fm_has))), mo qm vm_thrown qm_width qm_many qm_cells qm_moved qm_tape vm_taped y96 y97 y98 y99 y100 y101 y102 vm_fault vm_faultPlace qm_lines qm_has qm_round qm_meets qm_stumble qm_isMud qm_cell qm_tune qm_change qm_isKept qm_steps qm_places qm_danced vm_runMost vm_runBegins qm_heardBy vm_fitMany vm_fitFirst vm_fitBeats vm_listenLeaves qm_there vm_metAt vm_metIn qm_wins vm_nightHoles vm_nightFirst vm_nightMud vm_nightSlips vm_drawnNow, (qm_tape, .inl (cB, 1200, .inl (fm_tape)))] := ⟨_, ar_setF h_g106 z7 r8 0 (by omega) (show z7.toInt % 4 = 0 by omega) rfl rfl, hP, hD⟩
      refine lv_aload_n hx hb dX12_stumbleLine_78 rfl (lv_at hl 2 rfl) ?_
      refine va_get (D := D) (ci := 12) (v := .ref qm_stumble) (C := RX12) (T := TX12) (N := 45) hx hb hts hi12 hown hK hP 5 rfl rfl 20 (by decide) (hts (.fieldLink RX12 43 "OverHillModel" "stumble" "[I") (by decide +kernel)) (fun _ h9 => h9) rfl dX12_stumbleLine_79 ?_
      refine lv_iload_n hx hb dX12_stumbleLine_82 rfl (lv_at hl 1 rfl) ?_
      refine lv_iconst (v := 2) hx hb dX12_stumbleLine_83 (by decide) ?_
      refine lv_iadd hx hb dX12_stumbleLine_84 ?_
      refine lv_topi (fun z108 ez108 => ?_)
      have fz108 : z108.toInt = z7.toInt + 2 := by rw [ez108]; exact tq_add rfl (by decide) (by omega)
      refine lv_aload_n hx hb dX12_stumbleLine_85 rfl (lv_at hl 2 rfl) ?_
      refine lv_ldc2 (v := 89821) hx hb hown (hts (.constantLong RX12 193 (89821)) (by decide +kernel)) dX12_stumbleLine_86 ?_
      refine lv_iconst (v := 0) hx hb dX12_stumbleLine_89 (by decide) ?_
      refine lv_iconst (v := 5) hx hb dX12_stumbleLine_90 (by decide) ?_
      refine ct_calli (D := D) (wr := [(qm_stumble, .inl (cI, 160, .inl (g107))), (qm_cell, .inl (cI, 120, .inl (fm_cell))), (qm_tune, .inl (cI, 50, .inl (fm_tune))), (qm_change, .inl (cI, 800, .inl (fm_change))), (qm_has, .inl (cI, 55, .inl (fm_has)))]) (va_runV (As := [.long 89821, .int 0, .int 5]) (rest := [.int z108, .ref qm_stumble]) ⟨hx, hb, hml, hown, hts⟩ (c_X12_number_ l D G cI cJ cB cZ cO qm vm_thrown qm_width qm_many qm_cells qm_moved qm_tape fm_tape vm_taped y96 y97 y98 y99 y100 y101 y102 vm_fault vm_faultPlace qm_lines qm_has qm_round qm_meets qm_stumble qm_isMud qm_cell qm_tune qm_change qm_isKept qm_steps qm_places qm_danced vm_runMost vm_runBegins qm_heardBy vm_fitMany vm_fitFirst vm_fitBeats vm_listenLeaves qm_there vm_metAt vm_metIn qm_wins vm_nightHoles vm_nightFirst vm_nightMud vm_nightSlips vm_drawnNow 89821 0 5 h_vm_taped h_y96 h_y99 (by omega) H.size) (cwV 3 hts gX12_stumbleLine_X12_number_ rfl rfl rfl (by decide +kernel) ⟨Nat.le_of_ble_eq_true rfl, Nat.le_of_ble_eq_true rfl⟩) (ct_preV (T := ct_T cI cJ cB cZ cO) (ci := 12) (q0 := 5) hE hH hP hD hS hA [5, 6] (by decide) rfl rfl rfl) rfl rfl hl.1 rfl (lv_room (Nat.le_of_ble_eq_true rfl)) dX12_stumbleLine_91 ⟨Nat.le_of_ble_eq_true rfl, Nat.le_of_ble_eq_true rfl⟩) hP hD hS hA [5, 6] [0, 1, 2, 3, 4] rfl rfl (by decide) (by decide) (fun r109 u H locs hw hP hD hS => ?_)
      obtain ⟨y110, y111, y112, y113, y114, y115, y116⟩ := u
      obtain ⟨hP, hD⟩ : ct_B D A H [(qm_stumble, .inl (cI, 160, .inl (g107))), (qm_cell, .inl (cI, 120, .inl (fm_cell))), (qm_tune, .inl (cI, 50, .inl (fm_tune))), (qm_change, .inl (cI, 800, .inl (fm_change))), (qm_has, .inl (cI, 55, .inl (fm_has))), mo qm vm_thrown qm_width qm_many qm_cells qm_moved qm_tape vm_taped y110 y111 y112 y113 y114 y115 y116 vm_fault vm_faultPlace qm_lines qm_has qm_round qm_meets qm_stumble qm_isMud qm_cell qm_tune qm_change qm_isKept qm_steps qm_places qm_danced vm_runMost vm_runBegins qm_heardBy vm_fitMany vm_fitFirst vm_fitBeats vm_listenLeaves qm_there vm_metAt vm_metIn qm_wins vm_nightHoles vm_nightFirst vm_nightMud vm_nightSlips vm_drawnNow, (qm_tape, .inl (cB, 1200, .inl (fm_tape)))] := ⟨hP, hD⟩
      have hk117 : (0 : Int32).toInt = 0 := by decide
      have hk118 : (5 : Int32).toInt = 5 := by decide
      obtain ⟨hz, hp0, hp1, hp2, hp3⟩ := hw
      have h_y110 : 0 ≤ y110.toInt ∧ y110.toInt ≤ 1200 := hp0
      have h_y113 : 0 ≤ y113.toInt ∧ y113.toInt ≤ 1000009 := hp1
      have hp_119 : y96.toInt ≤ y110.toInt ∧ y110.toInt ≤ vm_taped.toInt := hp2
      have hp_120 : y115.toInt ≠ 0 ∨ y101.toInt = 0 := hp3
      have hb_121 : y115.toInt ≠ 0 ∨ vm_bad.toInt = 0 := bd_tr hp_120 hb_105
      clear hp0 hp1 hp2 hp3 hb_105
      have h_r109 : r109.toInt = (0 : Int32).toInt ∨ ((0 : Int32).toInt ≤ r109.toInt ∧ r109.toInt ≤ (5 : Int32).toInt) := hz
      clear hz
      have hi_r109 : 0 ≤ r109.toInt ∧ r109.toInt ≤ 5 := by rcases h_r109 with h | h <;> omega
      clear h_r109
      refine va_iast (D := D) hx hb hK hP hD hS 0 0 rfl rfl (tq_in rfl (by omega)) dX12_stumbleLine_94 (fun H locs hP hD hS => ?_)
      obtain ⟨g122, h_g122, hP, hD⟩ : ∃ g122 : Nat → Int32, ar_ok [(-2147483648), (-2147483648), 0, (-2147483648)] [2147483647, 2147483647, 5, 2147483647] g122 ∧ ct_B D A H [(qm_stumble, .inl (cI, 160, .inl (g122))), (qm_cell, .inl (cI, 120, .inl (fm_cell))), (qm_tune, .inl (cI, 50, .inl (fm_tune))), (qm_change, .inl (cI, 800, .inl (fm_change))), (qm_has, .inl (cI, 55, .inl (fm_has))), mo qm vm_thrown qm_width qm_many qm_cells qm_moved qm_tape vm_taped y110 y111 y112 y113 y114 y115 y116 vm_fault vm_faultPlace qm_lines qm_has qm_round qm_meets qm_stumble qm_isMud qm_cell qm_tune qm_change qm_isKept qm_steps qm_places qm_danced vm_runMost vm_runBegins qm_heardBy vm_fitMany vm_fitFirst vm_fitBeats vm_listenLeaves qm_there vm_metAt vm_metIn qm_wins vm_nightHoles vm_nightFirst vm_nightMud vm_nightSlips vm_drawnNow, (qm_tape, .inl (cB, 1200, .inl (fm_tape)))] := ⟨_, ar_set h_g107 z108 r109 2 (by omega) (show z108.toInt % 4 = 2 by omega) rfl (show 0 ≤ r109.toInt ∧ r109.toInt ≤ 5 by omega), hP, hD⟩
      refine lv_aload_n hx hb dX12_stumbleLine_95 rfl (lv_at hl 2 rfl) ?_
      refine va_get (D := D) (ci := 12) (v := .ref qm_stumble) (C := RX12) (T := TX12) (N := 45) hx hb hts hi12 hown hK hP 5 rfl rfl 20 (by decide) (hts (.fieldLink RX12 43 "OverHillModel" "stumble" "[I") (by decide +kernel)) (fun _ h9 => h9) rfl dX12_stumbleLine_96 ?_
      refine lv_iload_n hx hb dX12_stumbleLine_99 rfl (lv_at hl 1 rfl) ?_
      refine lv_iconst (v := 3) hx hb dX12_stumbleLine_100 (by decide) ?_
      refine lv_iadd hx hb dX12_stumbleLine_101 ?_
      refine lv_topi (fun z123 ez123 => ?_)
      have fz123 : z123.toInt = z7.toInt + 3 := by rw [ez123]; exact tq_add rfl (by decide) (by omega)
      refine lv_aload_n hx hb dX12_stumbleLine_102 rfl (lv_at hl 2 rfl) ?_
      refine lv_ldc2 (v := 8782) hx hb hown (hts (.constantLong RX12 195 (8782)) (by decide +kernel)) dX12_stumbleLine_103 ?_
      refine lv_iconst (v := 0) hx hb dX12_stumbleLine_106 (by decide) ?_
      refine lv_bipush (v := 9) hx hb dX12_stumbleLine_107 (by decide) ?_
      refine ct_calli (D := D) (wr := [(qm_stumble, .inl (cI, 160, .inl (g122))), (qm_cell, .inl (cI, 120, .inl (fm_cell))), (qm_tune, .inl (cI, 50, .inl (fm_tune))), (qm_change, .inl (cI, 800, .inl (fm_change))), (qm_has, .inl (cI, 55, .inl (fm_has)))]) (va_runV (As := [.long 8782, .int 0, .int 9]) (rest := [.int z123, .ref qm_stumble]) ⟨hx, hb, hml, hown, hts⟩ (c_X12_number_ l D G cI cJ cB cZ cO qm vm_thrown qm_width qm_many qm_cells qm_moved qm_tape fm_tape vm_taped y110 y111 y112 y113 y114 y115 y116 vm_fault vm_faultPlace qm_lines qm_has qm_round qm_meets qm_stumble qm_isMud qm_cell qm_tune qm_change qm_isKept qm_steps qm_places qm_danced vm_runMost vm_runBegins qm_heardBy vm_fitMany vm_fitFirst vm_fitBeats vm_listenLeaves qm_there vm_metAt vm_metIn qm_wins vm_nightHoles vm_nightFirst vm_nightMud vm_nightSlips vm_drawnNow 8782 0 9 h_vm_taped h_y110 h_y113 (by omega) H.size) (cwV 3 hts gX12_stumbleLine_X12_number_ rfl rfl rfl (by decide +kernel) ⟨Nat.le_of_ble_eq_true rfl, Nat.le_of_ble_eq_true rfl⟩) (ct_preV (T := ct_T cI cJ cB cZ cO) (ci := 12) (q0 := 5) hE hH hP hD hS hA [5, 6] (by decide) rfl rfl rfl) rfl rfl hl.1 rfl (lv_room (Nat.le_of_ble_eq_true rfl)) dX12_stumbleLine_109 ⟨Nat.le_of_ble_eq_true rfl, Nat.le_of_ble_eq_true rfl⟩) hP hD hS hA [5, 6] [0, 1, 2, 3, 4] rfl rfl (by decide) (by decide) (fun r124 u H locs hw hP hD hS => ?_)
      obtain ⟨y125, y126, y127, y128, y129, y130, y131⟩ := u
      obtain ⟨hP, hD⟩ : ct_B D A H [(qm_stumble, .inl (cI, 160, .inl (g122))), (qm_cell, .inl (cI, 120, .inl (fm_cell))), (qm_tune, .inl (cI, 50, .inl (fm_tune))), (qm_change, .inl (cI, 800, .inl (fm_change))), (qm_has, .inl (cI, 55, .inl (fm_has))), mo qm vm_thrown qm_width qm_many qm_cells qm_moved qm_tape vm_taped y125 y126 y127 y128 y129 y130 y131 vm_fault vm_faultPlace qm_lines qm_has qm_round qm_meets qm_stumble qm_isMud qm_cell qm_tune qm_change qm_isKept qm_steps qm_places qm_danced vm_runMost vm_runBegins qm_heardBy vm_fitMany vm_fitFirst vm_fitBeats vm_listenLeaves qm_there vm_metAt vm_metIn qm_wins vm_nightHoles vm_nightFirst vm_nightMud vm_nightSlips vm_drawnNow, (qm_tape, .inl (cB, 1200, .inl (fm_tape)))] := ⟨hP, hD⟩
      have hk132 : (0 : Int32).toInt = 0 := by decide
      have hk133 : (9 : Int32).toInt = 9 := by decide
      obtain ⟨hz, hp0, hp1, hp2, hp3⟩ := hw
      have h_y125 : 0 ≤ y125.toInt ∧ y125.toInt ≤ 1200 := hp0
      have h_y128 : 0 ≤ y128.toInt ∧ y128.toInt ≤ 1000009 := hp1
      have hp_134 : y110.toInt ≤ y125.toInt ∧ y125.toInt ≤ vm_taped.toInt := hp2
      have hp_135 : y130.toInt ≠ 0 ∨ y115.toInt = 0 := hp3
      have hb_136 : y130.toInt ≠ 0 ∨ vm_bad.toInt = 0 := bd_tr hp_135 hb_121
      clear hp0 hp1 hp2 hp3 hb_121
      have h_r124 : r124.toInt = (0 : Int32).toInt ∨ ((0 : Int32).toInt ≤ r124.toInt ∧ r124.toInt ≤ (9 : Int32).toInt) := hz
      clear hz
      have hi_r124 : 0 ≤ r124.toInt ∧ r124.toInt ≤ 9 := by rcases h_r124 with h | h <;> omega
      clear h_r124
      refine va_iast (D := D) hx hb hK hP hD hS 0 0 rfl rfl (tq_in rfl (by omega)) dX12_stumbleLine_112 (fun H locs hP hD hS => ?_)
      obtain ⟨g137, h_g137, hP, hD⟩ : ∃ g137 : Nat → Int32, ar_ok [(-2147483648), (-2147483648), 0, (-2147483648)] [2147483647, 2147483647, 5, 2147483647] g137 ∧ ct_B D A H [(qm_stumble, .inl (cI, 160, .inl (g137))), (qm_cell, .inl (cI, 120, .inl (fm_cell))), (qm_tune, .inl (cI, 50, .inl (fm_tune))), (qm_change, .inl (cI, 800, .inl (fm_change))), (qm_has, .inl (cI, 55, .inl (fm_has))), mo qm vm_thrown qm_width qm_many qm_cells qm_moved qm_tape vm_taped y125 y126 y127 y128 y129 y130 y131 vm_fault vm_faultPlace qm_lines qm_has qm_round qm_meets qm_stumble qm_isMud qm_cell qm_tune qm_change qm_isKept qm_steps qm_places qm_danced vm_runMost vm_runBegins qm_heardBy vm_fitMany vm_fitFirst vm_fitBeats vm_listenLeaves qm_there vm_metAt vm_metIn qm_wins vm_nightHoles vm_nightFirst vm_nightMud vm_nightSlips vm_drawnNow, (qm_tape, .inl (cB, 1200, .inl (fm_tape)))] := ⟨_, ar_setF h_g122 z123 r124 3 (by omega) (show z123.toInt % 4 = 3 by omega) rfl rfl, hP, hD⟩
      refine lv_aload_n hx hb dX12_stumbleLine_113 rfl (lv_at hl 2 rfl) ?_
      refine lv_bipush (v := 7) hx hb dX12_stumbleLine_114 (by decide) ?_
      refine lv_aload_n hx hb dX12_stumbleLine_116 rfl (lv_at hl 2 rfl) ?_
      refine lv_bipush (v := 7) hx hb dX12_stumbleLine_117 (by decide) ?_
      refine ct_calli (D := D) (wr := [(qm_stumble, .inl (cI, 160, .inl (g137))), (qm_cell, .inl (cI, 120, .inl (fm_cell))), (qm_tune, .inl (cI, 50, .inl (fm_tune))), (qm_change, .inl (cI, 800, .inl (fm_change))), (qm_tape, .inl (cB, 1200, .inl (fm_tape)))]) (va_runV (As := [.int 7]) (rest := [.int 7, .ref qm]) ⟨hx, hb, hml, hown, hts⟩ (c_X12_hasRead l D G cI cJ cB cZ cO qm vm_thrown qm_width qm_many qm_cells qm_moved qm_tape vm_taped y125 y126 y127 y128 y129 y130 y131 vm_fault vm_faultPlace qm_lines qm_has fm_has qm_round qm_meets qm_stumble qm_isMud qm_cell qm_tune qm_change qm_isKept qm_steps qm_places qm_danced vm_runMost vm_runBegins qm_heardBy vm_fitMany vm_fitFirst vm_fitBeats vm_listenLeaves qm_there vm_metAt vm_metIn qm_wins vm_nightHoles vm_nightFirst vm_nightMud vm_nightSlips vm_drawnNow 7 h_vm_taped h_y125 h_y128 h_fm_has (by decide) H.size) (cwV 1 hts gX12_stumbleLine_X12_hasRead rfl rfl rfl (by decide +kernel) ⟨Nat.le_of_ble_eq_true rfl, Nat.le_of_ble_eq_true rfl⟩) (ct_preV (T := ct_T cI cJ cB cZ cO) (ci := 12) (q0 := 5) hE hH hP hD hS hA [5, 4] (by decide) rfl rfl rfl) rfl rfl hl.1 rfl (lv_room (Nat.le_of_ble_eq_true rfl)) dX12_stumbleLine_119 ⟨Nat.le_of_ble_eq_true rfl, Nat.le_of_ble_eq_true rfl⟩) hP hD hS hA [5, 4] [0, 1, 2, 3, 6] rfl rfl (by decide) (by decide) (fun r138 u H locs hw hP hD hS => ?_)
      obtain ⟨hP, hD⟩ : ct_B D A H [(qm_stumble, .inl (cI, 160, .inl (g137))), (qm_cell, .inl (cI, 120, .inl (fm_cell))), (qm_tune, .inl (cI, 50, .inl (fm_tune))), (qm_change, .inl (cI, 800, .inl (fm_change))), (qm_tape, .inl (cB, 1200, .inl (fm_tape))), mo qm vm_thrown qm_width qm_many qm_cells qm_moved qm_tape vm_taped y125 y126 y127 y128 y129 y130 y131 vm_fault vm_faultPlace qm_lines qm_has qm_round qm_meets qm_stumble qm_isMud qm_cell qm_tune qm_change qm_isKept qm_steps qm_places qm_danced vm_runMost vm_runBegins qm_heardBy vm_fitMany vm_fitFirst vm_fitBeats vm_listenLeaves qm_there vm_metAt vm_metIn qm_wins vm_nightHoles vm_nightFirst vm_nightMud vm_nightSlips vm_drawnNow, (qm_has, .inl (cI, 55, .inl (fm_has)))] := ⟨hP, hD⟩
      have hk139 : (7 : Int32).toInt = 7 := by decide
      have hp0 := hw
      clear hw
      have hp_140 : r138 = fm_has (44 + (7 : Int32).toInt).toNat := hp0
      clear hp0
      have hl141 : r138.toInt = (fm_has 51).toInt := by rw [hp_140]; rfl
      have hl142 : 0 ≤ r138.toInt ∧ r138.toInt ≤ 8 := by rw [hl141]; exact h_fm_has 51
      refine lv_iconst (v := 1) hx hb dX12_stumbleLine_122 (by decide) ?_
      refine lv_iadd hx hb dX12_stumbleLine_123 ?_
      refine lv_topi (fun z143 ez143 => ?_)
      have fz143 : z143.toInt = r138.toInt + 1 := by rw [ez143]; exact tq_add rfl (by decide) (by omega)
      refine ct_callv (D := D) (wr := [(qm_stumble, .inl (cI, 160, .inl (g137))), (qm_cell, .inl (cI, 120, .inl (fm_cell))), (qm_tune, .inl (cI, 50, .inl (fm_tune))), (qm_change, .inl (cI, 800, .inl (fm_change))), (qm_tape, .inl (cB, 1200, .inl (fm_tape)))]) (va_runV (As := [.int 7, .int z143]) (rest := []) ⟨hx, hb, hml, hown, hts⟩ (c_X12_reads l D G cI cJ cB cZ cO qm vm_thrown qm_width qm_many qm_cells qm_moved qm_tape vm_taped y125 y126 y127 y128 y129 y130 y131 vm_fault vm_faultPlace qm_lines qm_has fm_has qm_round qm_meets qm_stumble qm_isMud qm_cell qm_tune qm_change qm_isKept qm_steps qm_places qm_danced vm_runMost vm_runBegins qm_heardBy vm_fitMany vm_fitFirst vm_fitBeats vm_listenLeaves qm_there vm_metAt vm_metIn qm_wins vm_nightHoles vm_nightFirst vm_nightMud vm_nightSlips vm_drawnNow 7 z143 h_vm_taped h_y125 h_y128 (by decide) H.size) (cwV 2 hts gX12_stumbleLine_X12_reads rfl rfl rfl (by decide +kernel) ⟨Nat.le_of_ble_eq_true rfl, Nat.le_of_ble_eq_true rfl⟩) (ct_preV (T := ct_T cI cJ cB cZ cO) (ci := 12) (q0 := 5) hE hH hP hD hS hA [5, 6] (by decide) rfl rfl rfl) rfl rfl hl.1 rfl (lv_room (Nat.le_of_ble_eq_true rfl)) dX12_stumbleLine_124 ⟨Nat.le_of_ble_eq_true rfl, Nat.le_of_ble_eq_true rfl⟩) hP hD hS hA [5, 6] [0, 1, 2, 3, 4] rfl rfl (by decide) (by decide) (fun u H locs hw hP hD hS => ?_)
      obtain ⟨g144, rfl⟩ : ∃ z, z = u := ⟨_, rfl⟩
      obtain ⟨hP, hD⟩ : ct_B D A H [(qm_stumble, .inl (cI, 160, .inl (g137))), (qm_cell, .inl (cI, 120, .inl (fm_cell))), (qm_tune, .inl (cI, 50, .inl (fm_tune))), (qm_change, .inl (cI, 800, .inl (fm_change))), (qm_tape, .inl (cB, 1200, .inl (fm_tape))), mo qm vm_thrown qm_width qm_many qm_cells qm_moved qm_tape vm_taped y125 y126 y127 y128 y129 y130 y131 vm_fault vm_faultPlace qm_lines qm_has qm_round qm_meets qm_stumble qm_isMud qm_cell qm_tune qm_change qm_isKept qm_steps qm_places qm_danced vm_runMost vm_runBegins qm_heardBy vm_fitMany vm_fitFirst vm_fitBeats vm_listenLeaves qm_there vm_metAt vm_metIn qm_wins vm_nightHoles vm_nightFirst vm_nightMud vm_nightSlips vm_drawnNow, (qm_has, .inl (cI, 55, .inl (g144)))] := ⟨hP, hD⟩
      have hk145 : (7 : Int32).toInt = 7 := by decide
      have hp0 := hw
      clear hw
      have hp_146 : g144 = upd fm_has (44 + (7 : Int32).toInt).toNat z143 := hp0
      clear hp0
      have hg147 : g144 = upd fm_has 51 z143 := by rw [hp_146]; rfl
      have h_g144 : ar_ok [0, (-2147483648), (-2147483648), 0, 0, 0, 0, 0, 0, 0, 0] [20, 2147483647, 2147483647, 12, 12, 11, 11, 8, 12, 5, 40] g144 := by rw [hg147]; exact ar_put h_fm_has 51 z143 (show 0 ≤ z143.toInt ∧ z143.toInt ≤ 8 by omega)
      have hrel148 : rf_c g144 fm_cell := by rw [hg147]; exact rf_c_upd h_rfc _ (by decide)
      have hrel149 : rf_t g144 fm_tune := by rw [hg147]; exact rf_t_upd h_rft _ (by decide)
      have hrel150 : rf_g g144 fm_change := by rw [hg147]; exact rf_g_hi h_rfg _ (by decide)
      have hz54151 : g144 54 = fm_has 54 := by rw [hg147]; exact upd_ne _ (by decide)
      obtain ⟨hP9, hD9⟩ : ct_B D A H [mo qm vm_thrown qm_width qm_many qm_cells qm_moved qm_tape vm_taped y125 y126 y127 y128 y129 y130 y131 vm_fault vm_faultPlace qm_lines qm_has qm_round qm_meets qm_stumble qm_isMud qm_cell qm_tune qm_change qm_isKept qm_steps qm_places qm_danced vm_runMost vm_runBegins qm_heardBy vm_fitMany vm_fitFirst vm_fitBeats vm_listenLeaves qm_there vm_metAt vm_metIn qm_wins vm_nightHoles vm_nightFirst vm_nightMud vm_nightSlips vm_drawnNow, (qm_tape, .inl (cB, 1200, .inl (fm_tape))), (qm_has, .inl (cI, 55, .inl (g144))), (qm_stumble, .inl (cI, 160, .inl (g137))), (qm_cell, .inl (cI, 120, .inl (fm_cell))), (qm_tune, .inl (cI, 50, .inl (fm_tune))), (qm_change, .inl (cI, 800, .inl (fm_change)))] := ⟨hP.sub [5, 4, 6, 0, 1, 2, 3] rfl, hD.sub [5, 4, 6, 0, 1, 2, 3] (by decide) rfl⟩
      exact W.vret hx hb hr (fun t ht hW => ⟨⟨(y125, y126, y127, y128, y129, y130, y131, g144, g137), rfl, ⟨h_y125, h_y128, h_g144, h_g137, (show vm_at.toInt ≤ y125.toInt ∧ y125.toInt ≤ vm_taped.toInt by omega), (show y130.toInt ≠ 0 ∨ vm_bad.toInt = 0 by exact hb_136), (show rf_c g144 fm_cell by exact hrel148), (show rf_t g144 fm_tune by exact hrel149), (show rf_g g144 fm_change by exact hrel150), (show g144 54 = fm_has 54 by exact hz54151)⟩, by rw [ht]; exact hP9, hD9⟩, hS.F ht⟩) hS.2.2 dX12_stumbleLine_127
    · have hq92 : y22.toInt = 2 := tq_eq rfl (by decide) hc
      have hb152 := tq_lo y22
      refine lv_aload_n hx hb dX12_stumbleLine_41 rfl (lv_at hl 2 rfl) ?_
      refine lv_iconst (v := 4) hx hb dX12_stumbleLine_42 (by decide) ?_
      refine lv_iload_n hx hb dX12_stumbleLine_43 rfl (lv_at hl 0 rfl) ?_
      refine lv_aload_n hx hb dX12_stumbleLine_44 rfl (lv_at hl 2 rfl) ?_
      refine va_get (D := D) (ci := 12) (v := .int y24) (C := RX12) (T := TX12) (N := 45) hx hb hts hi12 hown hK hP 5 rfl rfl 10 (by decide) (hts (.fieldLink RX12 114 "OverHillModel" "value" "I") (by decide +kernel)) (fun _ h9 => h9) rfl dX12_stumbleLine_45 ?_
      refine ct_calli (D := D) (wr := [(qm_cell, .inl (cI, 120, .inl (fm_cell))), (qm_tune, .inl (cI, 50, .inl (fm_tune))), (qm_change, .inl (cI, 800, .inl (fm_change))), (qm_tape, .inl (cB, 1200, .inl (fm_tape)))]) (va_runV (As := [.int 4, .int r8, .int y24]) (rest := []) ⟨hx, hb, hml, hown, hts⟩ (c_X12_isStumbled l D G cI cJ cB cZ cO qm vm_thrown qm_width qm_many qm_cells qm_moved qm_tape vm_taped y21 y22 y23 y24 y25 y26 y27 vm_fault vm_faultPlace qm_lines qm_has fm_has qm_round qm_meets qm_stumble fm_stumble qm_isMud qm_cell qm_tune qm_change qm_isKept qm_steps qm_places qm_danced vm_runMost vm_runBegins qm_heardBy vm_fitMany vm_fitFirst vm_fitBeats vm_listenLeaves qm_there vm_metAt vm_metIn qm_wins vm_nightHoles vm_nightFirst vm_nightMud vm_nightSlips vm_drawnNow 4 r8 y24 h_vm_taped h_y21 h_y24 h_fm_has h_fm_stumble (by decide) H.size) (cwV 3 hts gX12_stumbleLine_X12_isStumbled rfl rfl rfl (by decide +kernel) ⟨Nat.le_of_ble_eq_true rfl, Nat.le_of_ble_eq_true rfl⟩) (ct_preV (T := ct_T cI cJ cB cZ cO) (ci := 12) (q0 := 5) hE hH hP hD hS hA [5, 4, 0] (by decide) rfl rfl rfl) rfl rfl hl.1 rfl (lv_room (Nat.le_of_ble_eq_true rfl)) dX12_stumbleLine_48 ⟨Nat.le_of_ble_eq_true rfl, Nat.le_of_ble_eq_true rfl⟩) hP hD hS hA [5, 4, 0] [1, 2, 3, 6] rfl rfl (by decide) (by decide) (fun r153 u H locs hw hP hD hS => ?_)
      obtain ⟨hP, hD⟩ : ct_B D A H [(qm_cell, .inl (cI, 120, .inl (fm_cell))), (qm_tune, .inl (cI, 50, .inl (fm_tune))), (qm_change, .inl (cI, 800, .inl (fm_change))), (qm_tape, .inl (cB, 1200, .inl (fm_tape))), mo qm vm_thrown qm_width qm_many qm_cells qm_moved qm_tape vm_taped y21 y22 y23 y24 y25 y26 y27 vm_fault vm_faultPlace qm_lines qm_has qm_round qm_meets qm_stumble qm_isMud qm_cell qm_tune qm_change qm_isKept qm_steps qm_places qm_danced vm_runMost vm_runBegins qm_heardBy vm_fitMany vm_fitFirst vm_fitBeats vm_listenLeaves qm_there vm_metAt vm_metIn qm_wins vm_nightHoles vm_nightFirst vm_nightMud vm_nightSlips vm_drawnNow, (qm_has, .inl (cI, 55, .inl (fm_has))), (qm_stumble, .inl (cI, 160, .inl (fm_stumble)))] := ⟨hP, hD⟩
      have hz := hw
      clear hw
      rcases hz with ⟨hz, hz2⟩ | ⟨hz, hz2⟩
      · subst hz
        refine lv_if_eq (tgt := 59) hx hb dX12_stumbleLine_51 (by decide) (fun hc => absurd hc (by decide)) (fun _ => ?_)
        refine lv_aload_n hx hb dX12_stumbleLine_54 rfl (lv_at hl 2 rfl) ?_
        refine lv_iconst (v := 2) hx hb dX12_stumbleLine_55 (by decide) ?_
        refine ct_callv (D := D) (wr := [(qm_cell, .inl (cI, 120, .inl (fm_cell))), (qm_tune, .inl (cI, 50, .inl (fm_tune))), (qm_change, .inl (cI, 800, .inl (fm_change))), (qm_tape, .inl (cB, 1200, .inl (fm_tape))), (qm_has, .inl (cI, 55, .inl (fm_has))), (qm_stumble, .inl (cI, 160, .inl (fm_stumble)))]) (va_runV (As := [.int 2]) (rest := []) ⟨hx, hb, hml, hown, hts⟩ (c_X12_fails l D G cI cJ cB cZ cO qm vm_thrown qm_width qm_many qm_cells qm_moved qm_tape vm_taped y21 y22 y23 y24 y25 y26 y27 vm_fault vm_faultPlace qm_lines qm_has qm_round qm_meets qm_stumble qm_isMud qm_cell qm_tune qm_change qm_isKept qm_steps qm_places qm_danced vm_runMost vm_runBegins qm_heardBy vm_fitMany vm_fitFirst vm_fitBeats vm_listenLeaves qm_there vm_metAt vm_metIn qm_wins vm_nightHoles vm_nightFirst vm_nightMud vm_nightSlips vm_drawnNow 2 h_vm_taped h_y21 h_y24 (by decide) H.size) (cwV 1 hts gX12_stumbleLine_X12_fails rfl rfl rfl (by decide +kernel) ⟨Nat.le_of_ble_eq_true rfl, Nat.le_of_ble_eq_true rfl⟩) (ct_preV (T := ct_T cI cJ cB cZ cO) (ci := 12) (q0 := 4) hE hH hP hD hS hA [4] (by decide) rfl rfl rfl) rfl rfl hl.1 rfl (lv_room (Nat.le_of_ble_eq_true rfl)) dX12_stumbleLine_56 ⟨Nat.le_of_ble_eq_true rfl, Nat.le_of_ble_eq_true rfl⟩) hP hD hS hA [4] [0, 1, 2, 3, 5, 6] rfl rfl (by decide) (by decide) (fun u H locs hw hP hD hS => ?_)
        obtain ⟨y154, y155⟩ := u
        obtain ⟨hP, hD⟩ : ct_B D A H [(qm_cell, .inl (cI, 120, .inl (fm_cell))), (qm_tune, .inl (cI, 50, .inl (fm_tune))), (qm_change, .inl (cI, 800, .inl (fm_change))), (qm_tape, .inl (cB, 1200, .inl (fm_tape))), (qm_has, .inl (cI, 55, .inl (fm_has))), (qm_stumble, .inl (cI, 160, .inl (fm_stumble))), mo qm vm_thrown qm_width qm_many qm_cells qm_moved qm_tape vm_taped y21 y22 y23 y24 y25 y154 y155 vm_fault vm_faultPlace qm_lines qm_has qm_round qm_meets qm_stumble qm_isMud qm_cell qm_tune qm_change qm_isKept qm_steps qm_places qm_danced vm_runMost vm_runBegins qm_heardBy vm_fitMany vm_fitFirst vm_fitBeats vm_listenLeaves qm_there vm_metAt vm_metIn qm_wins vm_nightHoles vm_nightFirst vm_nightMud vm_nightSlips vm_drawnNow] := ⟨hP, hD⟩
        have hp0 := hw
        clear hw
        have hp_156 : y154.toInt ≠ 0 := hp0
        have hb_157 : y154.toInt ≠ 0 ∨ vm_bad.toInt = 0 := Or.inl hp_156
        clear hp0 hb_30
        refine lv_aload_n hx hb dX12_stumbleLine_59 rfl (lv_at hl 2 rfl) ?_
        refine va_get (D := D) (ci := 12) (v := .ref qm_stumble) (C := RX12) (T := TX12) (N := 45) hx hb hts hi12 hown hK hP 6 rfl rfl 20 (by decide) (hts (.fieldLink RX12 43 "OverHillModel" "stumble" "[I") (by decide +kernel)) (fun _ h9 => h9) rfl dX12_stumbleLine_60 ?_
        refine lv_iload_n hx hb dX12_stumbleLine_63 rfl (lv_at hl 1 rfl) ?_
        refine lv_iconst (v := 1) hx hb dX12_stumbleLine_64 (by decide) ?_
        refine lv_iadd hx hb dX12_stumbleLine_65 ?_
        refine lv_topi (fun z158 ez158 => ?_)
        have fz158 : z158.toInt = z7.toInt + 1 := by rw [ez158]; exact tq_add rfl (by decide) (by omega)
        refine lv_aload_n hx hb dX12_stumbleLine_66 rfl (lv_at hl 2 rfl) ?_
        refine ct_calli (D := D) (wr := [(qm_cell, .inl (cI, 120, .inl (fm_cell))), (qm_tune, .inl (cI, 50, .inl (fm_tune))), (qm_change, .inl (cI, 800, .inl (fm_change))), (qm_has, .inl (cI, 55, .inl (fm_has))), (qm_stumble, .inl (cI, 160, .inl (fm_stumble)))]) (va_runV (As := []) (rest := [.int z158, .ref qm_stumble]) ⟨hx, hb, hml, hown, hts⟩ (c_X12_beatHere l D G cI cJ cB cZ cO qm vm_thrown qm_width qm_many qm_cells qm_moved qm_tape fm_tape vm_taped y21 y22 y23 y24 y25 y154 y155 vm_fault vm_faultPlace qm_lines qm_has qm_round qm_meets qm_stumble qm_isMud qm_cell qm_tune qm_change qm_isKept qm_steps qm_places qm_danced vm_runMost vm_runBegins qm_heardBy vm_fitMany vm_fitFirst vm_fitBeats vm_listenLeaves qm_there vm_metAt vm_metIn qm_wins vm_nightHoles vm_nightFirst vm_nightMud vm_nightSlips vm_drawnNow h_vm_taped h_y21 h_y24 (by omega) H.size) (cwV 0 hts gX12_stumbleLine_X12_beatHere rfl rfl rfl (by decide +kernel) ⟨Nat.le_of_ble_eq_true rfl, Nat.le_of_ble_eq_true rfl⟩) (ct_preV (T := ct_T cI cJ cB cZ cO) (ci := 12) (q0 := 6) hE hH hP hD hS hA [6, 3] (by decide) rfl rfl rfl) rfl rfl hl.1 rfl (lv_room (Nat.le_of_ble_eq_true rfl)) dX12_stumbleLine_67 ⟨Nat.le_of_ble_eq_true rfl, Nat.le_of_ble_eq_true rfl⟩) hP hD hS hA [6, 3] [0, 1, 2, 4, 5] rfl rfl (by decide) (by decide) (fun r159 u H locs hw hP hD hS => ?_)
        obtain ⟨y160, y161, y162, y163, y164, y165, y166⟩ := u
        obtain ⟨hP, hD⟩ : ct_B D A H [(qm_cell, .inl (cI, 120, .inl (fm_cell))), (qm_tune, .inl (cI, 50, .inl (fm_tune))), (qm_change, .inl (cI, 800, .inl (fm_change))), (qm_has, .inl (cI, 55, .inl (fm_has))), (qm_stumble, .inl (cI, 160, .inl (fm_stumble))), mo qm vm_thrown qm_width qm_many qm_cells qm_moved qm_tape vm_taped y160 y161 y162 y163 y164 y165 y166 vm_fault vm_faultPlace qm_lines qm_has qm_round qm_meets qm_stumble qm_isMud qm_cell qm_tune qm_change qm_isKept qm_steps qm_places qm_danced vm_runMost vm_runBegins qm_heardBy vm_fitMany vm_fitFirst vm_fitBeats vm_listenLeaves qm_there vm_metAt vm_metIn qm_wins vm_nightHoles vm_nightFirst vm_nightMud vm_nightSlips vm_drawnNow, (qm_tape, .inl (cB, 1200, .inl (fm_tape)))] := ⟨hP, hD⟩
        obtain ⟨hz, hp0, hp1, hp2, hp3⟩ := hw
        have h_y160 : 0 ≤ y160.toInt ∧ y160.toInt ≤ 1200 := hp0
        have h_y163 : 0 ≤ y163.toInt ∧ y163.toInt ≤ 1000009 := hp1
        have hp_167 : y21.toInt ≤ y160.toInt ∧ y160.toInt ≤ vm_taped.toInt := hp2
        have hp_168 : y165.toInt ≠ 0 ∨ (y154.toInt = 0 ∧ y22.toInt = 2 ∧ 0 ≤ y24.toInt ∧ y24.toInt ≤ 199 ∧ (y161.toInt = 0 ∨ y21.toInt + 1 ≤ y160.toInt)) := hp3
        have hb_169 : y165.toInt ≠ 0 ∨ vm_bad.toInt = 0 := bd_tr2 hp_168 hb_157
        clear hp0 hp1 hp2 hp3 hb_157
        have h_r159 : 0 ≤ r159.toInt ∧ r159.toInt ≤ 199 := hz
        clear hz
        refine va_iast (D := D) hx hb hK hP hD hS 4 0 rfl rfl (tq_in rfl (by omega)) dX12_stumbleLine_70 (fun H locs hP hD hS => ?_)
        obtain ⟨g170, h_g170, hP, hD⟩ : ∃ g170 : Nat → Int32, ar_ok [(-2147483648), (-2147483648), 0, (-2147483648)] [2147483647, 2147483647, 5, 2147483647] g170 ∧ ct_B D A H [(qm_cell, .inl (cI, 120, .inl (fm_cell))), (qm_tune, .inl (cI, 50, .inl (fm_tune))), (qm_change, .inl (cI, 800, .inl (fm_change))), (qm_has, .inl (cI, 55, .inl (fm_has))), (qm_stumble, .inl (cI, 160, .inl (g170))), mo qm vm_thrown qm_width qm_many qm_cells qm_moved qm_tape vm_taped y160 y161 y162 y163 y164 y165 y166 vm_fault vm_faultPlace qm_lines qm_has qm_round qm_meets qm_stumble qm_isMud qm_cell qm_tune qm_change qm_isKept qm_steps qm_places qm_danced vm_runMost vm_runBegins qm_heardBy vm_fitMany vm_fitFirst vm_fitBeats vm_listenLeaves qm_there vm_metAt vm_metIn qm_wins vm_nightHoles vm_nightFirst vm_nightMud vm_nightSlips vm_drawnNow, (qm_tape, .inl (cB, 1200, .inl (fm_tape)))] := ⟨_, ar_setF h_fm_stumble z158 r159 1 (by omega) (show z158.toInt % 4 = 1 by omega) rfl rfl, hP, hD⟩
        refine lv_aload_n hx hb dX12_stumbleLine_71 rfl (lv_at hl 2 rfl) ?_
        refine va_get (D := D) (ci := 12) (v := .ref qm_stumble) (C := RX12) (T := TX12) (N := 45) hx hb hts hi12 hown hK hP 5 rfl rfl 20 (by decide) (hts (.fieldLink RX12 43 "OverHillModel" "stumble" "[I") (by decide +kernel)) (fun _ h9 => h9) rfl dX12_stumbleLine_72 ?_
        refine lv_iload_n hx hb dX12_stumbleLine_75 rfl (lv_at hl 1 rfl) ?_
        refine lv_iload_n hx hb dX12_stumbleLine_76 rfl (lv_at hl 0 rfl) ?_
        refine va_iast (D := D) hx hb hK hP hD hS 4 0 rfl rfl (tq_in rfl (by omega)) dX12_stumbleLine_77 (fun H locs hP hD hS => ?_)
        obtain ⟨g171, h_g171, hP, hD⟩ : ∃ g171 : Nat → Int32, ar_ok [(-2147483648), (-2147483648), 0, (-2147483648)] [2147483647, 2147483647, 5, 2147483647] g171 ∧ ct_B D A H [(qm_cell, .inl (cI, 120, .inl (fm_cell))), (qm_tune, .inl (cI, 50, .inl (fm_tune))), (qm_change, .inl (cI, 800, .inl (fm_change))), (qm_has, .inl (cI, 55, .inl (fm_has))), (qm_stumble, .inl (cI, 160, .inl (g171))), mo qm vm_thrown qm_width qm_many qm_cells qm_moved qm_tape vm_taped y160 y161 y162 y163 y164 y165 y166 vm_fault vm_faultPlace qm_lines qm_has qm_round qm_meets qm_stumble qm_isMud qm_cell qm_tune qm_change qm_isKept qm_steps qm_places qm_danced vm_runMost vm_runBegins qm_heardBy vm_fitMany vm_fitFirst vm_fitBeats vm_listenLeaves qm_there vm_metAt vm_metIn qm_wins vm_nightHoles vm_nightFirst vm_nightMud vm_nightSlips vm_drawnNow, (qm_tape, .inl (cB, 1200, .inl (fm_tape)))] := ⟨_, ar_setF h_g170 z7 r8 0 (by omega) (show z7.toInt % 4 = 0 by omega) rfl rfl, hP, hD⟩
        refine lv_aload_n hx hb dX12_stumbleLine_78 rfl (lv_at hl 2 rfl) ?_
        refine va_get (D := D) (ci := 12) (v := .ref qm_stumble) (C := RX12) (T := TX12) (N := 45) hx hb hts hi12 hown hK hP 5 rfl rfl 20 (by decide) (hts (.fieldLink RX12 43 "OverHillModel" "stumble" "[I") (by decide +kernel)) (fun _ h9 => h9) rfl dX12_stumbleLine_79 ?_
        refine lv_iload_n hx hb dX12_stumbleLine_82 rfl (lv_at hl 1 rfl) ?_
        refine lv_iconst (v := 2) hx hb dX12_stumbleLine_83 (by decide) ?_
        refine lv_iadd hx hb dX12_stumbleLine_84 ?_
        refine lv_topi (fun z172 ez172 => ?_)
        have fz172 : z172.toInt = z7.toInt + 2 := by rw [ez172]; exact tq_add rfl (by decide) (by omega)
        refine lv_aload_n hx hb dX12_stumbleLine_85 rfl (lv_at hl 2 rfl) ?_
        refine lv_ldc2 (v := 89821) hx hb hown (hts (.constantLong RX12 193 (89821)) (by decide +kernel)) dX12_stumbleLine_86 ?_
        refine lv_iconst (v := 0) hx hb dX12_stumbleLine_89 (by decide) ?_
        refine lv_iconst (v := 5) hx hb dX12_stumbleLine_90 (by decide) ?_
        refine ct_calli (D := D) (wr := [(qm_cell, .inl (cI, 120, .inl (fm_cell))), (qm_tune, .inl (cI, 50, .inl (fm_tune))), (qm_change, .inl (cI, 800, .inl (fm_change))), (qm_has, .inl (cI, 55, .inl (fm_has))), (qm_stumble, .inl (cI, 160, .inl (g171)))]) (va_runV (As := [.long 89821, .int 0, .int 5]) (rest := [.int z172, .ref qm_stumble]) ⟨hx, hb, hml, hown, hts⟩ (c_X12_number_ l D G cI cJ cB cZ cO qm vm_thrown qm_width qm_many qm_cells qm_moved qm_tape fm_tape vm_taped y160 y161 y162 y163 y164 y165 y166 vm_fault vm_faultPlace qm_lines qm_has qm_round qm_meets qm_stumble qm_isMud qm_cell qm_tune qm_change qm_isKept qm_steps qm_places qm_danced vm_runMost vm_runBegins qm_heardBy vm_fitMany vm_fitFirst vm_fitBeats vm_listenLeaves qm_there vm_metAt vm_metIn qm_wins vm_nightHoles vm_nightFirst vm_nightMud vm_nightSlips vm_drawnNow 89821 0 5 h_vm_taped h_y160 h_y163 (by omega) H.size) (cwV 3 hts gX12_stumbleLine_X12_number_ rfl rfl rfl (by decide +kernel) ⟨Nat.le_of_ble_eq_true rfl, Nat.le_of_ble_eq_true rfl⟩) (ct_preV (T := ct_T cI cJ cB cZ cO) (ci := 12) (q0 := 5) hE hH hP hD hS hA [5, 6] (by decide) rfl rfl rfl) rfl rfl hl.1 rfl (lv_room (Nat.le_of_ble_eq_true rfl)) dX12_stumbleLine_91 ⟨Nat.le_of_ble_eq_true rfl, Nat.le_of_ble_eq_true rfl⟩) hP hD hS hA [5, 6] [0, 1, 2, 3, 4] rfl rfl (by decide) (by decide) (fun r173 u H locs hw hP hD hS => ?_)
        obtain ⟨y174, y175, y176, y177, y178, y179, y180⟩ := u
        obtain ⟨hP, hD⟩ : ct_B D A H [(qm_cell, .inl (cI, 120, .inl (fm_cell))), (qm_tune, .inl (cI, 50, .inl (fm_tune))), (qm_change, .inl (cI, 800, .inl (fm_change))), (qm_has, .inl (cI, 55, .inl (fm_has))), (qm_stumble, .inl (cI, 160, .inl (g171))), mo qm vm_thrown qm_width qm_many qm_cells qm_moved qm_tape vm_taped y174 y175 y176 y177 y178 y179 y180 vm_fault vm_faultPlace qm_lines qm_has qm_round qm_meets qm_stumble qm_isMud qm_cell qm_tune qm_change qm_isKept qm_steps qm_places qm_danced vm_runMost vm_runBegins qm_heardBy vm_fitMany vm_fitFirst vm_fitBeats vm_listenLeaves qm_there vm_metAt vm_metIn qm_wins vm_nightHoles vm_nightFirst vm_nightMud vm_nightSlips vm_drawnNow, (qm_tape, .inl (cB, 1200, .inl (fm_tape)))] := ⟨hP, hD⟩
        have hk181 : (0 : Int32).toInt = 0 := by decide
        have hk182 : (5 : Int32).toInt = 5 := by decide
        obtain ⟨hz, hp0, hp1, hp2, hp3⟩ := hw
        have h_y174 : 0 ≤ y174.toInt ∧ y174.toInt ≤ 1200 := hp0
        have h_y177 : 0 ≤ y177.toInt ∧ y177.toInt ≤ 1000009 := hp1
        have hp_183 : y160.toInt ≤ y174.toInt ∧ y174.toInt ≤ vm_taped.toInt := hp2
        have hp_184 : y179.toInt ≠ 0 ∨ y165.toInt = 0 := hp3
        have hb_185 : y179.toInt ≠ 0 ∨ vm_bad.toInt = 0 := bd_tr hp_184 hb_169
        clear hp0 hp1 hp2 hp3 hb_169
        have h_r173 : r173.toInt = (0 : Int32).toInt ∨ ((0 : Int32).toInt ≤ r173.toInt ∧ r173.toInt ≤ (5 : Int32).toInt) := hz
        clear hz
        have hi_r173 : 0 ≤ r173.toInt ∧ r173.toInt ≤ 5 := by rcases h_r173 with h | h <;> omega
        clear h_r173
        refine va_iast (D := D) hx hb hK hP hD hS 4 0 rfl rfl (tq_in rfl (by omega)) dX12_stumbleLine_94 (fun H locs hP hD hS => ?_)
        obtain ⟨g186, h_g186, hP, hD⟩ : ∃ g186 : Nat → Int32, ar_ok [(-2147483648), (-2147483648), 0, (-2147483648)] [2147483647, 2147483647, 5, 2147483647] g186 ∧ ct_B D A H [(qm_cell, .inl (cI, 120, .inl (fm_cell))), (qm_tune, .inl (cI, 50, .inl (fm_tune))), (qm_change, .inl (cI, 800, .inl (fm_change))), (qm_has, .inl (cI, 55, .inl (fm_has))), (qm_stumble, .inl (cI, 160, .inl (g186))), mo qm vm_thrown qm_width qm_many qm_cells qm_moved qm_tape vm_taped y174 y175 y176 y177 y178 y179 y180 vm_fault vm_faultPlace qm_lines qm_has qm_round qm_meets qm_stumble qm_isMud qm_cell qm_tune qm_change qm_isKept qm_steps qm_places qm_danced vm_runMost vm_runBegins qm_heardBy vm_fitMany vm_fitFirst vm_fitBeats vm_listenLeaves qm_there vm_metAt vm_metIn qm_wins vm_nightHoles vm_nightFirst vm_nightMud vm_nightSlips vm_drawnNow, (qm_tape, .inl (cB, 1200, .inl (fm_tape)))] := ⟨_, ar_set h_g171 z172 r173 2 (by omega) (show z172.toInt % 4 = 2 by omega) rfl (show 0 ≤ r173.toInt ∧ r173.toInt ≤ 5 by omega), hP, hD⟩
        refine lv_aload_n hx hb dX12_stumbleLine_95 rfl (lv_at hl 2 rfl) ?_
        refine va_get (D := D) (ci := 12) (v := .ref qm_stumble) (C := RX12) (T := TX12) (N := 45) hx hb hts hi12 hown hK hP 5 rfl rfl 20 (by decide) (hts (.fieldLink RX12 43 "OverHillModel" "stumble" "[I") (by decide +kernel)) (fun _ h9 => h9) rfl dX12_stumbleLine_96 ?_
        refine lv_iload_n hx hb dX12_stumbleLine_99 rfl (lv_at hl 1 rfl) ?_
        refine lv_iconst (v := 3) hx hb dX12_stumbleLine_100 (by decide) ?_
        refine lv_iadd hx hb dX12_stumbleLine_101 ?_
        refine lv_topi (fun z187 ez187 => ?_)
        have fz187 : z187.toInt = z7.toInt + 3 := by rw [ez187]; exact tq_add rfl (by decide) (by omega)
        refine lv_aload_n hx hb dX12_stumbleLine_102 rfl (lv_at hl 2 rfl) ?_
        refine lv_ldc2 (v := 8782) hx hb hown (hts (.constantLong RX12 195 (8782)) (by decide +kernel)) dX12_stumbleLine_103 ?_
        refine lv_iconst (v := 0) hx hb dX12_stumbleLine_106 (by decide) ?_
        refine lv_bipush (v := 9) hx hb dX12_stumbleLine_107 (by decide) ?_
        refine ct_calli (D := D) (wr := [(qm_cell, .inl (cI, 120, .inl (fm_cell))), (qm_tune, .inl (cI, 50, .inl (fm_tune))), (qm_change, .inl (cI, 800, .inl (fm_change))), (qm_has, .inl (cI, 55, .inl (fm_has))), (qm_stumble, .inl (cI, 160, .inl (g186)))]) (va_runV (As := [.long 8782, .int 0, .int 9]) (rest := [.int z187, .ref qm_stumble]) ⟨hx, hb, hml, hown, hts⟩ (c_X12_number_ l D G cI cJ cB cZ cO qm vm_thrown qm_width qm_many qm_cells qm_moved qm_tape fm_tape vm_taped y174 y175 y176 y177 y178 y179 y180 vm_fault vm_faultPlace qm_lines qm_has qm_round qm_meets qm_stumble qm_isMud qm_cell qm_tune qm_change qm_isKept qm_steps qm_places qm_danced vm_runMost vm_runBegins qm_heardBy vm_fitMany vm_fitFirst vm_fitBeats vm_listenLeaves qm_there vm_metAt vm_metIn qm_wins vm_nightHoles vm_nightFirst vm_nightMud vm_nightSlips vm_drawnNow 8782 0 9 h_vm_taped h_y174 h_y177 (by omega) H.size) (cwV 3 hts gX12_stumbleLine_X12_number_ rfl rfl rfl (by decide +kernel) ⟨Nat.le_of_ble_eq_true rfl, Nat.le_of_ble_eq_true rfl⟩) (ct_preV (T := ct_T cI cJ cB cZ cO) (ci := 12) (q0 := 5) hE hH hP hD hS hA [5, 6] (by decide) rfl rfl rfl) rfl rfl hl.1 rfl (lv_room (Nat.le_of_ble_eq_true rfl)) dX12_stumbleLine_109 ⟨Nat.le_of_ble_eq_true rfl, Nat.le_of_ble_eq_true rfl⟩) hP hD hS hA [5, 6] [0, 1, 2, 3, 4] rfl rfl (by decide) (by decide) (fun r188 u H locs hw hP hD hS => ?_)
        obtain ⟨y189, y190, y191, y192, y193, y194, y195⟩ := u
        obtain ⟨hP, hD⟩ : ct_B D A H [(qm_cell, .inl (cI, 120, .inl (fm_cell))), (qm_tune, .inl (cI, 50, .inl (fm_tune))), (qm_change, .inl (cI, 800, .inl (fm_change))), (qm_has, .inl (cI, 55, .inl (fm_has))), (qm_stumble, .inl (cI, 160, .inl (g186))), mo qm vm_thrown qm_width qm_many qm_cells qm_moved qm_tape vm_taped y189 y190 y191 y192 y193 y194 y195 vm_fault vm_faultPlace qm_lines qm_has qm_round qm_meets qm_stumble qm_isMud qm_cell qm_tune qm_change qm_isKept qm_steps qm_places qm_danced vm_runMost vm_runBegins qm_heardBy vm_fitMany vm_fitFirst vm_fitBeats vm_listenLeaves qm_there vm_metAt vm_metIn qm_wins vm_nightHoles vm_nightFirst vm_nightMud vm_nightSlips vm_drawnNow, (qm_tape, .inl (cB, 1200, .inl (fm_tape)))] := ⟨hP, hD⟩
        have hk196 : (0 : Int32).toInt = 0 := by decide
        have hk197 : (9 : Int32).toInt = 9 := by decide
        obtain ⟨hz, hp0, hp1, hp2, hp3⟩ := hw
        have h_y189 : 0 ≤ y189.toInt ∧ y189.toInt ≤ 1200 := hp0
        have h_y192 : 0 ≤ y192.toInt ∧ y192.toInt ≤ 1000009 := hp1
        have hp_198 : y174.toInt ≤ y189.toInt ∧ y189.toInt ≤ vm_taped.toInt := hp2
        have hp_199 : y194.toInt ≠ 0 ∨ y179.toInt = 0 := hp3
        have hb_200 : y194.toInt ≠ 0 ∨ vm_bad.toInt = 0 := bd_tr hp_199 hb_185
        clear hp0 hp1 hp2 hp3 hb_185
        have h_r188 : r188.toInt = (0 : Int32).toInt ∨ ((0 : Int32).toInt ≤ r188.toInt ∧ r188.toInt ≤ (9 : Int32).toInt) := hz
        clear hz
        have hi_r188 : 0 ≤ r188.toInt ∧ r188.toInt ≤ 9 := by rcases h_r188 with h | h <;> omega
        clear h_r188
        refine va_iast (D := D) hx hb hK hP hD hS 4 0 rfl rfl (tq_in rfl (by omega)) dX12_stumbleLine_112 (fun H locs hP hD hS => ?_)
        obtain ⟨g201, h_g201, hP, hD⟩ : ∃ g201 : Nat → Int32, ar_ok [(-2147483648), (-2147483648), 0, (-2147483648)] [2147483647, 2147483647, 5, 2147483647] g201 ∧ ct_B D A H [(qm_cell, .inl (cI, 120, .inl (fm_cell))), (qm_tune, .inl (cI, 50, .inl (fm_tune))), (qm_change, .inl (cI, 800, .inl (fm_change))), (qm_has, .inl (cI, 55, .inl (fm_has))), (qm_stumble, .inl (cI, 160, .inl (g201))), mo qm vm_thrown qm_width qm_many qm_cells qm_moved qm_tape vm_taped y189 y190 y191 y192 y193 y194 y195 vm_fault vm_faultPlace qm_lines qm_has qm_round qm_meets qm_stumble qm_isMud qm_cell qm_tune qm_change qm_isKept qm_steps qm_places qm_danced vm_runMost vm_runBegins qm_heardBy vm_fitMany vm_fitFirst vm_fitBeats vm_listenLeaves qm_there vm_metAt vm_metIn qm_wins vm_nightHoles vm_nightFirst vm_nightMud vm_nightSlips vm_drawnNow, (qm_tape, .inl (cB, 1200, .inl (fm_tape)))] := ⟨_, ar_setF h_g186 z187 r188 3 (by omega) (show z187.toInt % 4 = 3 by omega) rfl rfl, hP, hD⟩
        refine lv_aload_n hx hb dX12_stumbleLine_113 rfl (lv_at hl 2 rfl) ?_
        refine lv_bipush (v := 7) hx hb dX12_stumbleLine_114 (by decide) ?_
        refine lv_aload_n hx hb dX12_stumbleLine_116 rfl (lv_at hl 2 rfl) ?_
        refine lv_bipush (v := 7) hx hb dX12_stumbleLine_117 (by decide) ?_
        refine ct_calli (D := D) (wr := [(qm_cell, .inl (cI, 120, .inl (fm_cell))), (qm_tune, .inl (cI, 50, .inl (fm_tune))), (qm_change, .inl (cI, 800, .inl (fm_change))), (qm_stumble, .inl (cI, 160, .inl (g201))), (qm_tape, .inl (cB, 1200, .inl (fm_tape)))]) (va_runV (As := [.int 7]) (rest := [.int 7, .ref qm]) ⟨hx, hb, hml, hown, hts⟩ (c_X12_hasRead l D G cI cJ cB cZ cO qm vm_thrown qm_width qm_many qm_cells qm_moved qm_tape vm_taped y189 y190 y191 y192 y193 y194 y195 vm_fault vm_faultPlace qm_lines qm_has fm_has qm_round qm_meets qm_stumble qm_isMud qm_cell qm_tune qm_change qm_isKept qm_steps qm_places qm_danced vm_runMost vm_runBegins qm_heardBy vm_fitMany vm_fitFirst vm_fitBeats vm_listenLeaves qm_there vm_metAt vm_metIn qm_wins vm_nightHoles vm_nightFirst vm_nightMud vm_nightSlips vm_drawnNow 7 h_vm_taped h_y189 h_y192 h_fm_has (by decide) H.size) (cwV 1 hts gX12_stumbleLine_X12_hasRead rfl rfl rfl (by decide +kernel) ⟨Nat.le_of_ble_eq_true rfl, Nat.le_of_ble_eq_true rfl⟩) (ct_preV (T := ct_T cI cJ cB cZ cO) (ci := 12) (q0 := 5) hE hH hP hD hS hA [5, 3] (by decide) rfl rfl rfl) rfl rfl hl.1 rfl (lv_room (Nat.le_of_ble_eq_true rfl)) dX12_stumbleLine_119 ⟨Nat.le_of_ble_eq_true rfl, Nat.le_of_ble_eq_true rfl⟩) hP hD hS hA [5, 3] [0, 1, 2, 4, 6] rfl rfl (by decide) (by decide) (fun r202 u H locs hw hP hD hS => ?_)
        obtain ⟨hP, hD⟩ : ct_B D A H [(qm_cell, .inl (cI, 120, .inl (fm_cell))), (qm_tune, .inl (cI, 50, .inl (fm_tune))), (qm_change, .inl (cI, 800, .inl (fm_change))), (qm_stumble, .inl (cI, 160, .inl (g201))), (qm_tape, .inl (cB, 1200, .inl (fm_tape))), mo qm vm_thrown qm_width qm_many qm_cells qm_moved qm_tape vm_taped y189 y190 y191 y192 y193 y194 y195 vm_fault vm_faultPlace qm_lines qm_has qm_round qm_meets qm_stumble qm_isMud qm_cell qm_tune qm_change qm_isKept qm_steps qm_places qm_danced vm_runMost vm_runBegins qm_heardBy vm_fitMany vm_fitFirst vm_fitBeats vm_listenLeaves qm_there vm_metAt vm_metIn qm_wins vm_nightHoles vm_nightFirst vm_nightMud vm_nightSlips vm_drawnNow, (qm_has, .inl (cI, 55, .inl (fm_has)))] := ⟨hP, hD⟩
        have hk203 : (7 : Int32).toInt = 7 := by decide
        have hp0 := hw
        clear hw
        have hp_204 : r202 = fm_has (44 + (7 : Int32).toInt).toNat := hp0
        clear hp0
        have hl205 : r202.toInt = (fm_has 51).toInt := by rw [hp_204]; rfl
        have hl206 : 0 ≤ r202.toInt ∧ r202.toInt ≤ 8 := by rw [hl205]; exact h_fm_has 51
        refine lv_iconst (v := 1) hx hb dX12_stumbleLine_122 (by decide) ?_
        refine lv_iadd hx hb dX12_stumbleLine_123 ?_
        refine lv_topi (fun z207 ez207 => ?_)
        have fz207 : z207.toInt = r202.toInt + 1 := by rw [ez207]; exact tq_add rfl (by decide) (by omega)
        refine ct_callv (D := D) (wr := [(qm_cell, .inl (cI, 120, .inl (fm_cell))), (qm_tune, .inl (cI, 50, .inl (fm_tune))), (qm_change, .inl (cI, 800, .inl (fm_change))), (qm_stumble, .inl (cI, 160, .inl (g201))), (qm_tape, .inl (cB, 1200, .inl (fm_tape)))]) (va_runV (As := [.int 7, .int z207]) (rest := []) ⟨hx, hb, hml, hown, hts⟩ (c_X12_reads l D G cI cJ cB cZ cO qm vm_thrown qm_width qm_many qm_cells qm_moved qm_tape vm_taped y189 y190 y191 y192 y193 y194 y195 vm_fault vm_faultPlace qm_lines qm_has fm_has qm_round qm_meets qm_stumble qm_isMud qm_cell qm_tune qm_change qm_isKept qm_steps qm_places qm_danced vm_runMost vm_runBegins qm_heardBy vm_fitMany vm_fitFirst vm_fitBeats vm_listenLeaves qm_there vm_metAt vm_metIn qm_wins vm_nightHoles vm_nightFirst vm_nightMud vm_nightSlips vm_drawnNow 7 z207 h_vm_taped h_y189 h_y192 (by decide) H.size) (cwV 2 hts gX12_stumbleLine_X12_reads rfl rfl rfl (by decide +kernel) ⟨Nat.le_of_ble_eq_true rfl, Nat.le_of_ble_eq_true rfl⟩) (ct_preV (T := ct_T cI cJ cB cZ cO) (ci := 12) (q0 := 5) hE hH hP hD hS hA [5, 6] (by decide) rfl rfl rfl) rfl rfl hl.1 rfl (lv_room (Nat.le_of_ble_eq_true rfl)) dX12_stumbleLine_124 ⟨Nat.le_of_ble_eq_true rfl, Nat.le_of_ble_eq_true rfl⟩) hP hD hS hA [5, 6] [0, 1, 2, 3, 4] rfl rfl (by decide) (by decide) (fun u H locs hw hP hD hS => ?_)
        obtain ⟨g208, rfl⟩ : ∃ z, z = u := ⟨_, rfl⟩
        obtain ⟨hP, hD⟩ : ct_B D A H [(qm_cell, .inl (cI, 120, .inl (fm_cell))), (qm_tune, .inl (cI, 50, .inl (fm_tune))), (qm_change, .inl (cI, 800, .inl (fm_change))), (qm_stumble, .inl (cI, 160, .inl (g201))), (qm_tape, .inl (cB, 1200, .inl (fm_tape))), mo qm vm_thrown qm_width qm_many qm_cells qm_moved qm_tape vm_taped y189 y190 y191 y192 y193 y194 y195 vm_fault vm_faultPlace qm_lines qm_has qm_round qm_meets qm_stumble qm_isMud qm_cell qm_tune qm_change qm_isKept qm_steps qm_places qm_danced vm_runMost vm_runBegins qm_heardBy vm_fitMany vm_fitFirst vm_fitBeats vm_listenLeaves qm_there vm_metAt vm_metIn qm_wins vm_nightHoles vm_nightFirst vm_nightMud vm_nightSlips vm_drawnNow, (qm_has, .inl (cI, 55, .inl (g208)))] := ⟨hP, hD⟩
        have hk209 : (7 : Int32).toInt = 7 := by decide
        have hp0 := hw
        clear hw
        have hp_210 : g208 = upd fm_has (44 + (7 : Int32).toInt).toNat z207 := hp0
        clear hp0
        have hg211 : g208 = upd fm_has 51 z207 := by rw [hp_210]; rfl
        have h_g208 : ar_ok [0, (-2147483648), (-2147483648), 0, 0, 0, 0, 0, 0, 0, 0] [20, 2147483647, 2147483647, 12, 12, 11, 11, 8, 12, 5, 40] g208 := by rw [hg211]; exact ar_put h_fm_has 51 z207 (show 0 ≤ z207.toInt ∧ z207.toInt ≤ 8 by omega)
        have hrel212 : rf_c g208 fm_cell := by rw [hg211]; exact rf_c_upd h_rfc _ (by decide)
        have hrel213 : rf_t g208 fm_tune := by rw [hg211]; exact rf_t_upd h_rft _ (by decide)
        have hrel214 : rf_g g208 fm_change := by rw [hg211]; exact rf_g_hi h_rfg _ (by decide)
        have hz54215 : g208 54 = fm_has 54 := by rw [hg211]; exact upd_ne _ (by decide)
        obtain ⟨hP9, hD9⟩ : ct_B D A H [mo qm vm_thrown qm_width qm_many qm_cells qm_moved qm_tape vm_taped y189 y190 y191 y192 y193 y194 y195 vm_fault vm_faultPlace qm_lines qm_has qm_round qm_meets qm_stumble qm_isMud qm_cell qm_tune qm_change qm_isKept qm_steps qm_places qm_danced vm_runMost vm_runBegins qm_heardBy vm_fitMany vm_fitFirst vm_fitBeats vm_listenLeaves qm_there vm_metAt vm_metIn qm_wins vm_nightHoles vm_nightFirst vm_nightMud vm_nightSlips vm_drawnNow, (qm_tape, .inl (cB, 1200, .inl (fm_tape))), (qm_has, .inl (cI, 55, .inl (g208))), (qm_stumble, .inl (cI, 160, .inl (g201))), (qm_cell, .inl (cI, 120, .inl (fm_cell))), (qm_tune, .inl (cI, 50, .inl (fm_tune))), (qm_change, .inl (cI, 800, .inl (fm_change)))] := ⟨hP.sub [5, 4, 6, 3, 0, 1, 2] rfl, hD.sub [5, 4, 6, 3, 0, 1, 2] (by decide) rfl⟩
        exact W.vret hx hb hr (fun t ht hW => ⟨⟨(y189, y190, y191, y192, y193, y194, y195, g208, g201), rfl, ⟨h_y189, h_y192, h_g208, h_g201, (show vm_at.toInt ≤ y189.toInt ∧ y189.toInt ≤ vm_taped.toInt by omega), (show y194.toInt ≠ 0 ∨ vm_bad.toInt = 0 by exact hb_200), (show rf_c g208 fm_cell by exact hrel212), (show rf_t g208 fm_tune by exact hrel213), (show rf_g g208 fm_change by exact hrel214), (show g208 54 = fm_has 54 by exact hz54215)⟩, by rw [ht]; exact hP9, hD9⟩, hS.F ht⟩) hS.2.2 dX12_stumbleLine_127
      · subst hz
        refine lv_if_eq (tgt := 59) hx hb dX12_stumbleLine_51 (by decide) (fun _ => ?_) (fun hc => absurd hc (by decide))
        refine lv_aload_n hx hb dX12_stumbleLine_59 rfl (lv_at hl 2 rfl) ?_
        refine va_get (D := D) (ci := 12) (v := .ref qm_stumble) (C := RX12) (T := TX12) (N := 45) hx hb hts hi12 hown hK hP 4 rfl rfl 20 (by decide) (hts (.fieldLink RX12 43 "OverHillModel" "stumble" "[I") (by decide +kernel)) (fun _ h9 => h9) rfl dX12_stumbleLine_60 ?_
        refine lv_iload_n hx hb dX12_stumbleLine_63 rfl (lv_at hl 1 rfl) ?_
        refine lv_iconst (v := 1) hx hb dX12_stumbleLine_64 (by decide) ?_
        refine lv_iadd hx hb dX12_stumbleLine_65 ?_
        refine lv_topi (fun z216 ez216 => ?_)
        have fz216 : z216.toInt = z7.toInt + 1 := by rw [ez216]; exact tq_add rfl (by decide) (by omega)
        refine lv_aload_n hx hb dX12_stumbleLine_66 rfl (lv_at hl 2 rfl) ?_
        refine ct_calli (D := D) (wr := [(qm_cell, .inl (cI, 120, .inl (fm_cell))), (qm_tune, .inl (cI, 50, .inl (fm_tune))), (qm_change, .inl (cI, 800, .inl (fm_change))), (qm_has, .inl (cI, 55, .inl (fm_has))), (qm_stumble, .inl (cI, 160, .inl (fm_stumble)))]) (va_runV (As := []) (rest := [.int z216, .ref qm_stumble]) ⟨hx, hb, hml, hown, hts⟩ (c_X12_beatHere l D G cI cJ cB cZ cO qm vm_thrown qm_width qm_many qm_cells qm_moved qm_tape fm_tape vm_taped y21 y22 y23 y24 y25 y26 y27 vm_fault vm_faultPlace qm_lines qm_has qm_round qm_meets qm_stumble qm_isMud qm_cell qm_tune qm_change qm_isKept qm_steps qm_places qm_danced vm_runMost vm_runBegins qm_heardBy vm_fitMany vm_fitFirst vm_fitBeats vm_listenLeaves qm_there vm_metAt vm_metIn qm_wins vm_nightHoles vm_nightFirst vm_nightMud vm_nightSlips vm_drawnNow h_vm_taped h_y21 h_y24 (by omega) H.size) (cwV 0 hts gX12_stumbleLine_X12_beatHere rfl rfl rfl (by decide +kernel) ⟨Nat.le_of_ble_eq_true rfl, Nat.le_of_ble_eq_true rfl⟩) (ct_preV (T := ct_T cI cJ cB cZ cO) (ci := 12) (q0 := 4) hE hH hP hD hS hA [4, 3] (by decide) rfl rfl rfl) rfl rfl hl.1 rfl (lv_room (Nat.le_of_ble_eq_true rfl)) dX12_stumbleLine_67 ⟨Nat.le_of_ble_eq_true rfl, Nat.le_of_ble_eq_true rfl⟩) hP hD hS hA [4, 3] [0, 1, 2, 5, 6] rfl rfl (by decide) (by decide) (fun r217 u H locs hw hP hD hS => ?_)
        obtain ⟨y218, y219, y220, y221, y222, y223, y224⟩ := u
        obtain ⟨hP, hD⟩ : ct_B D A H [(qm_cell, .inl (cI, 120, .inl (fm_cell))), (qm_tune, .inl (cI, 50, .inl (fm_tune))), (qm_change, .inl (cI, 800, .inl (fm_change))), (qm_has, .inl (cI, 55, .inl (fm_has))), (qm_stumble, .inl (cI, 160, .inl (fm_stumble))), mo qm vm_thrown qm_width qm_many qm_cells qm_moved qm_tape vm_taped y218 y219 y220 y221 y222 y223 y224 vm_fault vm_faultPlace qm_lines qm_has qm_round qm_meets qm_stumble qm_isMud qm_cell qm_tune qm_change qm_isKept qm_steps qm_places qm_danced vm_runMost vm_runBegins qm_heardBy vm_fitMany vm_fitFirst vm_fitBeats vm_listenLeaves qm_there vm_metAt vm_metIn qm_wins vm_nightHoles vm_nightFirst vm_nightMud vm_nightSlips vm_drawnNow, (qm_tape, .inl (cB, 1200, .inl (fm_tape)))] := ⟨hP, hD⟩
        obtain ⟨hz, hp0, hp1, hp2, hp3⟩ := hw
        have h_y218 : 0 ≤ y218.toInt ∧ y218.toInt ≤ 1200 := hp0
        have h_y221 : 0 ≤ y221.toInt ∧ y221.toInt ≤ 1000009 := hp1
        have hp_225 : y21.toInt ≤ y218.toInt ∧ y218.toInt ≤ vm_taped.toInt := hp2
        have hp_226 : y223.toInt ≠ 0 ∨ (y26.toInt = 0 ∧ y22.toInt = 2 ∧ 0 ≤ y24.toInt ∧ y24.toInt ≤ 199 ∧ (y219.toInt = 0 ∨ y21.toInt + 1 ≤ y218.toInt)) := hp3
        have hb_227 : y223.toInt ≠ 0 ∨ vm_bad.toInt = 0 := bd_tr2 hp_226 hb_30
        clear hp0 hp1 hp2 hp3 hb_30
        have h_r217 : 0 ≤ r217.toInt ∧ r217.toInt ≤ 199 := hz
        clear hz
        refine va_iast (D := D) hx hb hK hP hD hS 4 0 rfl rfl (tq_in rfl (by omega)) dX12_stumbleLine_70 (fun H locs hP hD hS => ?_)
        obtain ⟨g228, h_g228, hP, hD⟩ : ∃ g228 : Nat → Int32, ar_ok [(-2147483648), (-2147483648), 0, (-2147483648)] [2147483647, 2147483647, 5, 2147483647] g228 ∧ ct_B D A H [(qm_cell, .inl (cI, 120, .inl (fm_cell))), (qm_tune, .inl (cI, 50, .inl (fm_tune))), (qm_change, .inl (cI, 800, .inl (fm_change))), (qm_has, .inl (cI, 55, .inl (fm_has))), (qm_stumble, .inl (cI, 160, .inl (g228))), mo qm vm_thrown qm_width qm_many qm_cells qm_moved qm_tape vm_taped y218 y219 y220 y221 y222 y223 y224 vm_fault vm_faultPlace qm_lines qm_has qm_round qm_meets qm_stumble qm_isMud qm_cell qm_tune qm_change qm_isKept qm_steps qm_places qm_danced vm_runMost vm_runBegins qm_heardBy vm_fitMany vm_fitFirst vm_fitBeats vm_listenLeaves qm_there vm_metAt vm_metIn qm_wins vm_nightHoles vm_nightFirst vm_nightMud vm_nightSlips vm_drawnNow, (qm_tape, .inl (cB, 1200, .inl (fm_tape)))] := ⟨_, ar_setF h_fm_stumble z216 r217 1 (by omega) (show z216.toInt % 4 = 1 by omega) rfl rfl, hP, hD⟩
        refine lv_aload_n hx hb dX12_stumbleLine_71 rfl (lv_at hl 2 rfl) ?_
        refine va_get (D := D) (ci := 12) (v := .ref qm_stumble) (C := RX12) (T := TX12) (N := 45) hx hb hts hi12 hown hK hP 5 rfl rfl 20 (by decide) (hts (.fieldLink RX12 43 "OverHillModel" "stumble" "[I") (by decide +kernel)) (fun _ h9 => h9) rfl dX12_stumbleLine_72 ?_
        refine lv_iload_n hx hb dX12_stumbleLine_75 rfl (lv_at hl 1 rfl) ?_
        refine lv_iload_n hx hb dX12_stumbleLine_76 rfl (lv_at hl 0 rfl) ?_
        refine va_iast (D := D) hx hb hK hP hD hS 4 0 rfl rfl (tq_in rfl (by omega)) dX12_stumbleLine_77 (fun H locs hP hD hS => ?_)
        obtain ⟨g229, h_g229, hP, hD⟩ : ∃ g229 : Nat → Int32, ar_ok [(-2147483648), (-2147483648), 0, (-2147483648)] [2147483647, 2147483647, 5, 2147483647] g229 ∧ ct_B D A H [(qm_cell, .inl (cI, 120, .inl (fm_cell))), (qm_tune, .inl (cI, 50, .inl (fm_tune))), (qm_change, .inl (cI, 800, .inl (fm_change))), (qm_has, .inl (cI, 55, .inl (fm_has))), (qm_stumble, .inl (cI, 160, .inl (g229))), mo qm vm_thrown qm_width qm_many qm_cells qm_moved qm_tape vm_taped y218 y219 y220 y221 y222 y223 y224 vm_fault vm_faultPlace qm_lines qm_has qm_round qm_meets qm_stumble qm_isMud qm_cell qm_tune qm_change qm_isKept qm_steps qm_places qm_danced vm_runMost vm_runBegins qm_heardBy vm_fitMany vm_fitFirst vm_fitBeats vm_listenLeaves qm_there vm_metAt vm_metIn qm_wins vm_nightHoles vm_nightFirst vm_nightMud vm_nightSlips vm_drawnNow, (qm_tape, .inl (cB, 1200, .inl (fm_tape)))] := ⟨_, ar_setF h_g228 z7 r8 0 (by omega) (show z7.toInt % 4 = 0 by omega) rfl rfl, hP, hD⟩
        refine lv_aload_n hx hb dX12_stumbleLine_78 rfl (lv_at hl 2 rfl) ?_
        refine va_get (D := D) (ci := 12) (v := .ref qm_stumble) (C := RX12) (T := TX12) (N := 45) hx hb hts hi12 hown hK hP 5 rfl rfl 20 (by decide) (hts (.fieldLink RX12 43 "OverHillModel" "stumble" "[I") (by decide +kernel)) (fun _ h9 => h9) rfl dX12_stumbleLine_79 ?_
        refine lv_iload_n hx hb dX12_stumbleLine_82 rfl (lv_at hl 1 rfl) ?_
        refine lv_iconst (v := 2) hx hb dX12_stumbleLine_83 (by decide) ?_
        refine lv_iadd hx hb dX12_stumbleLine_84 ?_
        refine lv_topi (fun z230 ez230 => ?_)
        have fz230 : z230.toInt = z7.toInt + 2 := by rw [ez230]; exact tq_add rfl (by decide) (by omega)
        refine lv_aload_n hx hb dX12_stumbleLine_85 rfl (lv_at hl 2 rfl) ?_
        refine lv_ldc2 (v := 89821) hx hb hown (hts (.constantLong RX12 193 (89821)) (by decide +kernel)) dX12_stumbleLine_86 ?_
        refine lv_iconst (v := 0) hx hb dX12_stumbleLine_89 (by decide) ?_
        refine lv_iconst (v := 5) hx hb dX12_stumbleLine_90 (by decide) ?_
        refine ct_calli (D := D) (wr := [(qm_cell, .inl (cI, 120, .inl (fm_cell))), (qm_tune, .inl (cI, 50, .inl (fm_tune))), (qm_change, .inl (cI, 800, .inl (fm_change))), (qm_has, .inl (cI, 55, .inl (fm_has))), (qm_stumble, .inl (cI, 160, .inl (g229)))]) (va_runV (As := [.long 89821, .int 0, .int 5]) (rest := [.int z230, .ref qm_stumble]) ⟨hx, hb, hml, hown, hts⟩ (c_X12_number_ l D G cI cJ cB cZ cO qm vm_thrown qm_width qm_many qm_cells qm_moved qm_tape fm_tape vm_taped y218 y219 y220 y221 y222 y223 y224 vm_fault vm_faultPlace qm_lines qm_has qm_round qm_meets qm_stumble qm_isMud qm_cell qm_tune qm_change qm_isKept qm_steps qm_places qm_danced vm_runMost vm_runBegins qm_heardBy vm_fitMany vm_fitFirst vm_fitBeats vm_listenLeaves qm_there vm_metAt vm_metIn qm_wins vm_nightHoles vm_nightFirst vm_nightMud vm_nightSlips vm_drawnNow 89821 0 5 h_vm_taped h_y218 h_y221 (by omega) H.size) (cwV 3 hts gX12_stumbleLine_X12_number_ rfl rfl rfl (by decide +kernel) ⟨Nat.le_of_ble_eq_true rfl, Nat.le_of_ble_eq_true rfl⟩) (ct_preV (T := ct_T cI cJ cB cZ cO) (ci := 12) (q0 := 5) hE hH hP hD hS hA [5, 6] (by decide) rfl rfl rfl) rfl rfl hl.1 rfl (lv_room (Nat.le_of_ble_eq_true rfl)) dX12_stumbleLine_91 ⟨Nat.le_of_ble_eq_true rfl, Nat.le_of_ble_eq_true rfl⟩) hP hD hS hA [5, 6] [0, 1, 2, 3, 4] rfl rfl (by decide) (by decide) (fun r231 u H locs hw hP hD hS => ?_)
        obtain ⟨y232, y233, y234, y235, y236, y237, y238⟩ := u
        obtain ⟨hP, hD⟩ : ct_B D A H [(qm_cell, .inl (cI, 120, .inl (fm_cell))), (qm_tune, .inl (cI, 50, .inl (fm_tune))), (qm_change, .inl (cI, 800, .inl (fm_change))), (qm_has, .inl (cI, 55, .inl (fm_has))), (qm_stumble, .inl (cI, 160, .inl (g229))), mo qm vm_thrown qm_width qm_many qm_cells qm_moved qm_tape vm_taped y232 y233 y234 y235 y236 y237 y238 vm_fault vm_faultPlace qm_lines qm_has qm_round qm_meets qm_stumble qm_isMud qm_cell qm_tune qm_change qm_isKept qm_steps qm_places qm_danced vm_runMost vm_runBegins qm_heardBy vm_fitMany vm_fitFirst vm_fitBeats vm_listenLeaves qm_there vm_metAt vm_metIn qm_wins vm_nightHoles vm_nightFirst vm_nightMud vm_nightSlips vm_drawnNow, (qm_tape, .inl (cB, 1200, .inl (fm_tape)))] := ⟨hP, hD⟩
        have hk239 : (0 : Int32).toInt = 0 := by decide
        have hk240 : (5 : Int32).toInt = 5 := by decide
        obtain ⟨hz, hp0, hp1, hp2, hp3⟩ := hw
        have h_y232 : 0 ≤ y232.toInt ∧ y232.toInt ≤ 1200 := hp0
        have h_y235 : 0 ≤ y235.toInt ∧ y235.toInt ≤ 1000009 := hp1
        have hp_241 : y218.toInt ≤ y232.toInt ∧ y232.toInt ≤ vm_taped.toInt := hp2
        have hp_242 : y237.toInt ≠ 0 ∨ y223.toInt = 0 := hp3
        have hb_243 : y237.toInt ≠ 0 ∨ vm_bad.toInt = 0 := bd_tr hp_242 hb_227
        clear hp0 hp1 hp2 hp3 hb_227
        have h_r231 : r231.toInt = (0 : Int32).toInt ∨ ((0 : Int32).toInt ≤ r231.toInt ∧ r231.toInt ≤ (5 : Int32).toInt) := hz
        clear hz
        have hi_r231 : 0 ≤ r231.toInt ∧ r231.toInt ≤ 5 := by rcases h_r231 with h | h <;> omega
        clear h_r231
        refine va_iast (D := D) hx hb hK hP hD hS 4 0 rfl rfl (tq_in rfl (by omega)) dX12_stumbleLine_94 (fun H locs hP hD hS => ?_)
        obtain ⟨g244, h_g244, hP, hD⟩ : ∃ g244 : Nat → Int32, ar_ok [(-2147483648), (-2147483648), 0, (-2147483648)] [2147483647, 2147483647, 5, 2147483647] g244 ∧ ct_B D A H [(qm_cell, .inl (cI, 120, .inl (fm_cell))), (qm_tune, .inl (cI, 50, .inl (fm_tune))), (qm_change, .inl (cI, 800, .inl (fm_change))), (qm_has, .inl (cI, 55, .inl (fm_has))), (qm_stumble, .inl (cI, 160, .inl (g244))), mo qm vm_thrown qm_width qm_many qm_cells qm_moved qm_tape vm_taped y232 y233 y234 y235 y236 y237 y238 vm_fault vm_faultPlace qm_lines qm_has qm_round qm_meets qm_stumble qm_isMud qm_cell qm_tune qm_change qm_isKept qm_steps qm_places qm_danced vm_runMost vm_runBegins qm_heardBy vm_fitMany vm_fitFirst vm_fitBeats vm_listenLeaves qm_there vm_metAt vm_metIn qm_wins vm_nightHoles vm_nightFirst vm_nightMud vm_nightSlips vm_drawnNow, (qm_tape, .inl (cB, 1200, .inl (fm_tape)))] := ⟨_, ar_set h_g229 z230 r231 2 (by omega) (show z230.toInt % 4 = 2 by omega) rfl (show 0 ≤ r231.toInt ∧ r231.toInt ≤ 5 by omega), hP, hD⟩
        refine lv_aload_n hx hb dX12_stumbleLine_95 rfl (lv_at hl 2 rfl) ?_
        refine va_get (D := D) (ci := 12) (v := .ref qm_stumble) (C := RX12) (T := TX12) (N := 45) hx hb hts hi12 hown hK hP 5 rfl rfl 20 (by decide) (hts (.fieldLink RX12 43 "OverHillModel" "stumble" "[I") (by decide +kernel)) (fun _ h9 => h9) rfl dX12_stumbleLine_96 ?_
        refine lv_iload_n hx hb dX12_stumbleLine_99 rfl (lv_at hl 1 rfl) ?_
        refine lv_iconst (v := 3) hx hb dX12_stumbleLine_100 (by decide) ?_
        refine lv_iadd hx hb dX12_stumbleLine_101 ?_
        refine lv_topi (fun z245 ez245 => ?_)
        have fz245 : z245.toInt = z7.toInt + 3 := by rw [ez245]; exact tq_add rfl (by decide) (by omega)
        refine lv_aload_n hx hb dX12_stumbleLine_102 rfl (lv_at hl 2 rfl) ?_
        refine lv_ldc2 (v := 8782) hx hb hown (hts (.constantLong RX12 195 (8782)) (by decide +kernel)) dX12_stumbleLine_103 ?_
        refine lv_iconst (v := 0) hx hb dX12_stumbleLine_106 (by decide) ?_
        refine lv_bipush (v := 9) hx hb dX12_stumbleLine_107 (by decide) ?_
        refine ct_calli (D := D) (wr := [(qm_cell, .inl (cI, 120, .inl (fm_cell))), (qm_tune, .inl (cI, 50, .inl (fm_tune))), (qm_change, .inl (cI, 800, .inl (fm_change))), (qm_has, .inl (cI, 55, .inl (fm_has))), (qm_stumble, .inl (cI, 160, .inl (g244)))]) (va_runV (As := [.long 8782, .int 0, .int 9]) (rest := [.int z245, .ref qm_stumble]) ⟨hx, hb, hml, hown, hts⟩ (c_X12_number_ l D G cI cJ cB cZ cO qm vm_thrown qm_width qm_many qm_cells qm_moved qm_tape fm_tape vm_taped y232 y233 y234 y235 y236 y237 y238 vm_fault vm_faultPlace qm_lines qm_has qm_round qm_meets qm_stumble qm_isMud qm_cell qm_tune qm_change qm_isKept qm_steps qm_places qm_danced vm_runMost vm_runBegins qm_heardBy vm_fitMany vm_fitFirst vm_fitBeats vm_listenLeaves qm_there vm_metAt vm_metIn qm_wins vm_nightHoles vm_nightFirst vm_nightMud vm_nightSlips vm_drawnNow 8782 0 9 h_vm_taped h_y232 h_y235 (by omega) H.size) (cwV 3 hts gX12_stumbleLine_X12_number_ rfl rfl rfl (by decide +kernel) ⟨Nat.le_of_ble_eq_true rfl, Nat.le_of_ble_eq_true rfl⟩) (ct_preV (T := ct_T cI cJ cB cZ cO) (ci := 12) (q0 := 5) hE hH hP hD hS hA [5, 6] (by decide) rfl rfl rfl) rfl rfl hl.1 rfl (lv_room (Nat.le_of_ble_eq_true rfl)) dX12_stumbleLine_109 ⟨Nat.le_of_ble_eq_true rfl, Nat.le_of_ble_eq_true rfl⟩) hP hD hS hA [5, 6] [0, 1, 2, 3, 4] rfl rfl (by decide) (by decide) (fun r246 u H locs hw hP hD hS => ?_)
        obtain ⟨y247, y248, y249, y250, y251, y252, y253⟩ := u
        obtain ⟨hP, hD⟩ : ct_B D A H [(qm_cell, .inl (cI, 120, .inl (fm_cell))), (qm_tune, .inl (cI, 50, .inl (fm_tune))), (qm_change, .inl (cI, 800, .inl (fm_change))), (qm_has, .inl (cI, 55, .inl (fm_has))), (qm_stumble, .inl (cI, 160, .inl (g244))), mo qm vm_thrown qm_width qm_many qm_cells qm_moved qm_tape vm_taped y247 y248 y249 y250 y251 y252 y253 vm_fault vm_faultPlace qm_lines qm_has qm_round qm_meets qm_stumble qm_isMud qm_cell qm_tune qm_change qm_isKept qm_steps qm_places qm_danced vm_runMost vm_runBegins qm_heardBy vm_fitMany vm_fitFirst vm_fitBeats vm_listenLeaves qm_there vm_metAt vm_metIn qm_wins vm_nightHoles vm_nightFirst vm_nightMud vm_nightSlips vm_drawnNow, (qm_tape, .inl (cB, 1200, .inl (fm_tape)))] := ⟨hP, hD⟩
        have hk254 : (0 : Int32).toInt = 0 := by decide
        have hk255 : (9 : Int32).toInt = 9 := by decide
        obtain ⟨hz, hp0, hp1, hp2, hp3⟩ := hw
        have h_y247 : 0 ≤ y247.toInt ∧ y247.toInt ≤ 1200 := hp0
        have h_y250 : 0 ≤ y250.toInt ∧ y250.toInt ≤ 1000009 := hp1
        have hp_256 : y232.toInt ≤ y247.toInt ∧ y247.toInt ≤ vm_taped.toInt := hp2
        have hp_257 : y252.toInt ≠ 0 ∨ y237.toInt = 0 := hp3
        have hb_258 : y252.toInt ≠ 0 ∨ vm_bad.toInt = 0 := bd_tr hp_257 hb_243
        clear hp0 hp1 hp2 hp3 hb_243
        have h_r246 : r246.toInt = (0 : Int32).toInt ∨ ((0 : Int32).toInt ≤ r246.toInt ∧ r246.toInt ≤ (9 : Int32).toInt) := hz
        clear hz
        have hi_r246 : 0 ≤ r246.toInt ∧ r246.toInt ≤ 9 := by rcases h_r246 with h | h <;> omega
        clear h_r246
        refine va_iast (D := D) hx hb hK hP hD hS 4 0 rfl rfl (tq_in rfl (by omega)) dX12_stumbleLine_112 (fun H locs hP hD hS => ?_)
        obtain ⟨g259, h_g259, hP, hD⟩ : ∃ g259 : Nat → Int32, ar_ok [(-2147483648), (-2147483648), 0, (-2147483648)] [2147483647, 2147483647, 5, 2147483647] g259 ∧ ct_B D A H [(qm_cell, .inl (cI, 120, .inl (fm_cell))), (qm_tune, .inl (cI, 50, .inl (fm_tune))), (qm_change, .inl (cI, 800, .inl (fm_change))), (qm_has, .inl (cI, 55, .inl (fm_has))), (qm_stumble, .inl (cI, 160, .inl (g259))), mo qm vm_thrown qm_width qm_many qm_cells qm_moved qm_tape vm_taped y247 y248 y249 y250 y251 y252 y253 vm_fault vm_faultPlace qm_lines qm_has qm_round qm_meets qm_stumble qm_isMud qm_cell qm_tune qm_change qm_isKept qm_steps qm_places qm_danced vm_runMost vm_runBegins qm_heardBy vm_fitMany vm_fitFirst vm_fitBeats vm_listenLeaves qm_there vm_metAt vm_metIn qm_wins vm_nightHoles vm_nightFirst vm_nightMud vm_nightSlips vm_drawnNow, (qm_tape, .inl (cB, 1200, .inl (fm_tape)))] := ⟨_, ar_setF h_g244 z245 r246 3 (by omega) (show z245.toInt % 4 = 3 by omega) rfl rfl, hP, hD⟩
        refine lv_aload_n hx hb dX12_stumbleLine_113 rfl (lv_at hl 2 rfl) ?_
        refine lv_bipush (v := 7) hx hb dX12_stumbleLine_114 (by decide) ?_
        refine lv_aload_n hx hb dX12_stumbleLine_116 rfl (lv_at hl 2 rfl) ?_
        refine lv_bipush (v := 7) hx hb dX12_stumbleLine_117 (by decide) ?_
        refine ct_calli (D := D) (wr := [(qm_cell, .inl (cI, 120, .inl (fm_cell))), (qm_tune, .inl (cI, 50, .inl (fm_tune))), (qm_change, .inl (cI, 800, .inl (fm_change))), (qm_stumble, .inl (cI, 160, .inl (g259))), (qm_tape, .inl (cB, 1200, .inl (fm_tape)))]) (va_runV (As := [.int 7]) (rest := [.int 7, .ref qm]) ⟨hx, hb, hml, hown, hts⟩ (c_X12_hasRead l D G cI cJ cB cZ cO qm vm_thrown qm_width qm_many qm_cells qm_moved qm_tape vm_taped y247 y248 y249 y250 y251 y252 y253 vm_fault vm_faultPlace qm_lines qm_has fm_has qm_round qm_meets qm_stumble qm_isMud qm_cell qm_tune qm_change qm_isKept qm_steps qm_places qm_danced vm_runMost vm_runBegins qm_heardBy vm_fitMany vm_fitFirst vm_fitBeats vm_listenLeaves qm_there vm_metAt vm_metIn qm_wins vm_nightHoles vm_nightFirst vm_nightMud vm_nightSlips vm_drawnNow 7 h_vm_taped h_y247 h_y250 h_fm_has (by decide) H.size) (cwV 1 hts gX12_stumbleLine_X12_hasRead rfl rfl rfl (by decide +kernel) ⟨Nat.le_of_ble_eq_true rfl, Nat.le_of_ble_eq_true rfl⟩) (ct_preV (T := ct_T cI cJ cB cZ cO) (ci := 12) (q0 := 5) hE hH hP hD hS hA [5, 3] (by decide) rfl rfl rfl) rfl rfl hl.1 rfl (lv_room (Nat.le_of_ble_eq_true rfl)) dX12_stumbleLine_119 ⟨Nat.le_of_ble_eq_true rfl, Nat.le_of_ble_eq_true rfl⟩) hP hD hS hA [5, 3] [0, 1, 2, 4, 6] rfl rfl (by decide) (by decide) (fun r260 u H locs hw hP hD hS => ?_)
        obtain ⟨hP, hD⟩ : ct_B D A H [(qm_cell, .inl (cI, 120, .inl (fm_cell))), (qm_tune, .inl (cI, 50, .inl (fm_tune))), (qm_change, .inl (cI, 800, .inl (fm_change))), (qm_stumble, .inl (cI, 160, .inl (g259))), (qm_tape, .inl (cB, 1200, .inl (fm_tape))), mo qm vm_thrown qm_width qm_many qm_cells qm_moved qm_tape vm_taped y247 y248 y249 y250 y251 y252 y253 vm_fault vm_faultPlace qm_lines qm_has qm_round qm_meets qm_stumble qm_isMud qm_cell qm_tune qm_change qm_isKept qm_steps qm_places qm_danced vm_runMost vm_runBegins qm_heardBy vm_fitMany vm_fitFirst vm_fitBeats vm_listenLeaves qm_there vm_metAt vm_metIn qm_wins vm_nightHoles vm_nightFirst vm_nightMud vm_nightSlips vm_drawnNow, (qm_has, .inl (cI, 55, .inl (fm_has)))] := ⟨hP, hD⟩
        have hk261 : (7 : Int32).toInt = 7 := by decide
        have hp0 := hw
        clear hw
        have hp_262 : r260 = fm_has (44 + (7 : Int32).toInt).toNat := hp0
        clear hp0
        have hl263 : r260.toInt = (fm_has 51).toInt := by rw [hp_262]; rfl
        have hl264 : 0 ≤ r260.toInt ∧ r260.toInt ≤ 8 := by rw [hl263]; exact h_fm_has 51
        refine lv_iconst (v := 1) hx hb dX12_stumbleLine_122 (by decide) ?_
        refine lv_iadd hx hb dX12_stumbleLine_123 ?_
        refine lv_topi (fun z265 ez265 => ?_)
        have fz265 : z265.toInt = r260.toInt + 1 := by rw [ez265]; exact tq_add rfl (by decide) (by omega)
        refine ct_callv (D := D) (wr := [(qm_cell, .inl (cI, 120, .inl (fm_cell))), (qm_tune, .inl (cI, 50, .inl (fm_tune))), (qm_change, .inl (cI, 800, .inl (fm_change))), (qm_stumble, .inl (cI, 160, .inl (g259))), (qm_tape, .inl (cB, 1200, .inl (fm_tape)))]) (va_runV (As := [.int 7, .int z265]) (rest := []) ⟨hx, hb, hml, hown, hts⟩ (c_X12_reads l D G cI cJ cB cZ cO qm vm_thrown qm_width qm_many qm_cells qm_moved qm_tape vm_taped y247 y248 y249 y250 y251 y252 y253 vm_fault vm_faultPlace qm_lines qm_has fm_has qm_round qm_meets qm_stumble qm_isMud qm_cell qm_tune qm_change qm_isKept qm_steps qm_places qm_danced vm_runMost vm_runBegins qm_heardBy vm_fitMany vm_fitFirst vm_fitBeats vm_listenLeaves qm_there vm_metAt vm_metIn qm_wins vm_nightHoles vm_nightFirst vm_nightMud vm_nightSlips vm_drawnNow 7 z265 h_vm_taped h_y247 h_y250 (by decide) H.size) (cwV 2 hts gX12_stumbleLine_X12_reads rfl rfl rfl (by decide +kernel) ⟨Nat.le_of_ble_eq_true rfl, Nat.le_of_ble_eq_true rfl⟩) (ct_preV (T := ct_T cI cJ cB cZ cO) (ci := 12) (q0 := 5) hE hH hP hD hS hA [5, 6] (by decide) rfl rfl rfl) rfl rfl hl.1 rfl (lv_room (Nat.le_of_ble_eq_true rfl)) dX12_stumbleLine_124 ⟨Nat.le_of_ble_eq_true rfl, Nat.le_of_ble_eq_true rfl⟩) hP hD hS hA [5, 6] [0, 1, 2, 3, 4] rfl rfl (by decide) (by decide) (fun u H locs hw hP hD hS => ?_)
        obtain ⟨g266, rfl⟩ : ∃ z, z = u := ⟨_, rfl⟩
        obtain ⟨hP, hD⟩ : ct_B D A H [(qm_cell, .inl (cI, 120, .inl (fm_cell))), (qm_tune, .inl (cI, 50, .inl (fm_tune))), (qm_change, .inl (cI, 800, .inl (fm_change))), (qm_stumble, .inl (cI, 160, .inl (g259))), (qm_tape, .inl (cB, 1200, .inl (fm_tape))), mo qm vm_thrown qm_width qm_many qm_cells qm_moved qm_tape vm_taped y247 y248 y249 y250 y251 y252 y253 vm_fault vm_faultPlace qm_lines qm_has qm_round qm_meets qm_stumble qm_isMud qm_cell qm_tune qm_change qm_isKept qm_steps qm_places qm_danced vm_runMost vm_runBegins qm_heardBy vm_fitMany vm_fitFirst vm_fitBeats vm_listenLeaves qm_there vm_metAt vm_metIn qm_wins vm_nightHoles vm_nightFirst vm_nightMud vm_nightSlips vm_drawnNow, (qm_has, .inl (cI, 55, .inl (g266)))] := ⟨hP, hD⟩
        have hk267 : (7 : Int32).toInt = 7 := by decide
        have hp0 := hw
        clear hw
        have hp_268 : g266 = upd fm_has (44 + (7 : Int32).toInt).toNat z265 := hp0
        clear hp0
        have hg269 : g266 = upd fm_has 51 z265 := by rw [hp_268]; rfl
        have h_g266 : ar_ok [0, (-2147483648), (-2147483648), 0, 0, 0, 0, 0, 0, 0, 0] [20, 2147483647, 2147483647, 12, 12, 11, 11, 8, 12, 5, 40] g266 := by rw [hg269]; exact ar_put h_fm_has 51 z265 (show 0 ≤ z265.toInt ∧ z265.toInt ≤ 8 by omega)
        have hrel270 : rf_c g266 fm_cell := by rw [hg269]; exact rf_c_upd h_rfc _ (by decide)
        have hrel271 : rf_t g266 fm_tune := by rw [hg269]; exact rf_t_upd h_rft _ (by decide)
        have hrel272 : rf_g g266 fm_change := by rw [hg269]; exact rf_g_hi h_rfg _ (by decide)
        have hz54273 : g266 54 = fm_has 54 := by rw [hg269]; exact upd_ne _ (by decide)
        obtain ⟨hP9, hD9⟩ : ct_B D A H [mo qm vm_thrown qm_width qm_many qm_cells qm_moved qm_tape vm_taped y247 y248 y249 y250 y251 y252 y253 vm_fault vm_faultPlace qm_lines qm_has qm_round qm_meets qm_stumble qm_isMud qm_cell qm_tune qm_change qm_isKept qm_steps qm_places qm_danced vm_runMost vm_runBegins qm_heardBy vm_fitMany vm_fitFirst vm_fitBeats vm_listenLeaves qm_there vm_metAt vm_metIn qm_wins vm_nightHoles vm_nightFirst vm_nightMud vm_nightSlips vm_drawnNow, (qm_tape, .inl (cB, 1200, .inl (fm_tape))), (qm_has, .inl (cI, 55, .inl (g266))), (qm_stumble, .inl (cI, 160, .inl (g259))), (qm_cell, .inl (cI, 120, .inl (fm_cell))), (qm_tune, .inl (cI, 50, .inl (fm_tune))), (qm_change, .inl (cI, 800, .inl (fm_change)))] := ⟨hP.sub [5, 4, 6, 3, 0, 1, 2] rfl, hD.sub [5, 4, 6, 3, 0, 1, 2] (by decide) rfl⟩
        exact W.vret hx hb hr (fun t ht hW => ⟨⟨(y247, y248, y249, y250, y251, y252, y253, g266, g259), rfl, ⟨h_y247, h_y250, h_g266, h_g259, (show vm_at.toInt ≤ y247.toInt ∧ y247.toInt ≤ vm_taped.toInt by omega), (show y252.toInt ≠ 0 ∨ vm_bad.toInt = 0 by exact hb_258), (show rf_c g266 fm_cell by exact hrel270), (show rf_t g266 fm_tune by exact hrel271), (show rf_g g266 fm_change by exact hrel272), (show g266 54 = fm_has 54 by exact hz54273)⟩, by rw [ht]; exact hP9, hD9⟩, hS.F ht⟩) hS.2.2 dX12_stumbleLine_127
abbrev w_c_X12_answersLine (cI cJ cB cZ cO : ClassId) (qm : Nat) (vm_thrown : Int32) (qm_width : Nat) (qm_many : Nat) (qm_cells : Nat) (qm_moved : Nat) (qm_tape : Nat) (fm_tape : Nat → Int32) (vm_taped : Int32) (vm_at : Int32) (vm_token : Int32) (vm_place : Int32) (vm_value : Int32) (vm_word : Int64) (vm_bad : Int32) (vm_badPlace : Int32) (vm_fault : Int32) (vm_faultPlace : Int32) (qm_lines : Nat) (qm_has : Nat) (qm_round : Nat) (qm_meets : Nat) (fm_meets : Nat → Int32) (qm_stumble : Nat) (qm_isMud : Nat) (qm_cell : Nat) (qm_tune : Nat) (qm_change : Nat) (qm_isKept : Nat) (qm_steps : Nat) (qm_places : Nat) (qm_danced : Nat) (vm_runMost : Int32) (vm_runBegins : Int32) (qm_heardBy : Nat) (vm_fitMany : Int32) (vm_fitFirst : Int32) (vm_fitBeats : Int64) (vm_listenLeaves : Int32) (qm_there : Nat) (vm_metAt : Int32) (vm_metIn : Int32) (qm_wins : Nat) (vm_nightHoles : Int32) (vm_nightFirst : Int32) (vm_nightMud : Int32) (vm_nightSlips : Int32) (vm_drawnNow : Int64) : va_W := [mo qm vm_thrown qm_width qm_many qm_cells qm_moved qm_tape vm_taped vm_at vm_token vm_place vm_value vm_word vm_bad vm_badPlace vm_fault vm_faultPlace qm_lines qm_has qm_round qm_meets qm_stumble qm_isMud qm_cell qm_tune qm_change qm_isKept qm_steps qm_places qm_danced vm_runMost vm_runBegins qm_heardBy vm_fitMany vm_fitFirst vm_fitBeats vm_listenLeaves qm_there vm_metAt vm_metIn qm_wins vm_nightHoles vm_nightFirst vm_nightMud vm_nightSlips vm_drawnNow, (qm_tape, .inl (cB, 1200, .inl (fm_tape))), (qm_meets, .inl (cI, 30, .inl (fm_meets)))]
set_option maxHeartbeats 4000000 in
set_option maxRecDepth 100000 in
/-- X12 answersLine -/
theorem c_X12_answersLine (l : Launch) (D : va_G) (G : ct_G) (cI cJ cB cZ cO : ClassId) (qm : Nat) (vm_thrown : Int32) (qm_width : Nat) (qm_many : Nat) (qm_cells : Nat) (qm_moved : Nat) (qm_tape : Nat) (fm_tape : Nat → Int32) (vm_taped : Int32) (vm_at : Int32) (vm_token : Int32) (vm_place : Int32) (vm_value : Int32) (vm_word : Int64) (vm_bad : Int32) (vm_badPlace : Int32) (vm_fault : Int32) (vm_faultPlace : Int32) (qm_lines : Nat) (qm_has : Nat) (qm_round : Nat) (qm_meets : Nat) (fm_meets : Nat → Int32) (qm_stumble : Nat) (qm_isMud : Nat) (qm_cell : Nat) (qm_tune : Nat) (qm_change : Nat) (qm_isKept : Nat) (qm_steps : Nat) (qm_places : Nat) (qm_danced : Nat) (vm_runMost : Int32) (vm_runBegins : Int32) (qm_heardBy : Nat) (vm_fitMany : Int32) (vm_fitFirst : Int32) (vm_fitBeats : Int64) (vm_listenLeaves : Int32) (qm_there : Nat) (vm_metAt : Int32) (vm_metIn : Int32) (qm_wins : Nat) (vm_nightHoles : Int32) (vm_nightFirst : Int32) (vm_nightMud : Int32) (vm_nightSlips : Int32) (vm_drawnNow : Int64) (h_vm_taped : 0 ≤ vm_taped.toInt ∧ vm_taped.toInt ≤ 1200) (h_vm_at : 0 ≤ vm_at.toInt ∧ vm_at.toInt ≤ 1200) (h_vm_value : 0 ≤ vm_value.toInt ∧ vm_value.toInt ≤ 1000009) (h_at : vm_at.toInt ≤ vm_taped.toInt) (sz : Nat) : Met l yX12_answersLine wsX12_answersLine ({ frames := 4, cells := 0, slots := 0, locals := 87 }) (va_Pc [.ref qm] (ct_P D (ct_T cI cJ cB cZ cO) G (w_c_X12_answersLine cI cJ cB cZ cO qm vm_thrown qm_width qm_many qm_cells qm_moved qm_tape fm_tape vm_taped vm_at vm_token vm_place vm_value vm_word vm_bad vm_badPlace vm_fault vm_faultPlace qm_lines qm_has qm_round qm_meets fm_meets qm_stumble qm_isMud qm_cell qm_tune qm_change qm_isKept qm_steps qm_places qm_danced vm_runMost vm_runBegins qm_heardBy vm_fitMany vm_fitFirst vm_fitBeats vm_listenLeaves qm_there vm_metAt vm_metIn qm_wins vm_nightHoles vm_nightFirst vm_nightMud vm_nightSlips vm_drawnNow) sz)) (va_Qv (fun (u : Int32 × Int32 × Int32 × Int32 × Int64 × Int32 × Int32 × (Nat → Int32)) => (0 ≤ u.1.toInt ∧ u.1.toInt ≤ 1200) ∧ (0 ≤ u.2.2.2.1.toInt ∧ u.2.2.2.1.toInt ≤ 1000009) ∧ (vm_at.toInt ≤ u.1.toInt ∧ u.1.toInt ≤ vm_taped.toInt) ∧ (u.2.2.2.2.2.1.toInt ≠ 0 ∨ vm_bad.toInt = 0)) (fun (u : Int32 × Int32 × Int32 × Int32 × Int64 × Int32 × Int32 × (Nat → Int32)) t => ct_Q D (va_A (w_c_X12_answersLine cI cJ cB cZ cO qm vm_thrown qm_width qm_many qm_cells qm_moved qm_tape fm_tape vm_taped vm_at vm_token vm_place vm_value vm_word vm_bad vm_badPlace vm_fault vm_faultPlace qm_lines qm_has qm_round qm_meets fm_meets qm_stumble qm_isMud qm_cell qm_tune qm_change qm_isKept qm_steps qm_places qm_danced vm_runMost vm_runBegins qm_heardBy vm_fitMany vm_fitFirst vm_fitBeats vm_listenLeaves qm_there vm_metAt vm_metIn qm_wins vm_nightHoles vm_nightFirst vm_nightMud vm_nightSlips vm_drawnNow) sz) [mo qm vm_thrown qm_width qm_many qm_cells qm_moved qm_tape vm_taped u.1 u.2.1 u.2.2.1 u.2.2.2.1 u.2.2.2.2.1 u.2.2.2.2.2.1 u.2.2.2.2.2.2.1 vm_fault vm_faultPlace qm_lines qm_has qm_round qm_meets qm_stumble qm_isMud qm_cell qm_tune qm_change qm_isKept qm_steps qm_places qm_danced vm_runMost vm_runBegins qm_heardBy vm_fitMany vm_fitFirst vm_fitBeats vm_listenLeaves qm_there vm_metAt vm_metIn qm_wins vm_nightHoles vm_nightFirst vm_nightMud vm_nightSlips vm_drawnNow, (qm_tape, .inl (cB, 1200, .inl (fm_tape))), (qm_meets, .inl (cI, 30, .inl (u.2.2.2.2.2.2.2)))] t) (va_A (w_c_X12_answersLine cI cJ cB cZ cO qm vm_thrown qm_width qm_many qm_cells qm_moved qm_tape fm_tape vm_taped vm_at vm_token vm_place vm_value vm_word vm_bad vm_badPlace vm_fault vm_faultPlace qm_lines qm_has qm_round qm_meets fm_meets qm_stumble qm_isMud qm_cell qm_tune qm_change qm_isKept qm_steps qm_places qm_danced vm_runMost vm_runBegins qm_heardBy vm_fitMany vm_fitFirst vm_fitBeats vm_listenLeaves qm_there vm_metAt vm_metIn qm_wins vm_nightHoles vm_nightFirst vm_nightMud vm_nightSlips vm_drawnNow) sz)) 0 0 (va_A (w_c_X12_answersLine cI cJ cB cZ cO qm vm_thrown qm_width qm_many qm_cells qm_moved qm_tape fm_tape vm_taped vm_at vm_token vm_place vm_value vm_word vm_bad vm_badPlace vm_fault vm_faultPlace qm_lines qm_has qm_round qm_meets fm_meets qm_stumble qm_isMud qm_cell qm_tune qm_change qm_isKept qm_steps qm_places qm_danced vm_runMost vm_runBegins qm_heardBy vm_fitMany vm_fitFirst vm_fitBeats vm_listenLeaves qm_there vm_metAt vm_metIn qm_wins vm_nightHoles vm_nightFirst vm_nightMud vm_nightSlips vm_drawnNow) sz) := by
  refine Met.ofW (cc := cX12_answersLine) (maxL := 3) (ret := none) (by decide) rfl ?_
  intro p e s m args below meth c s₁ B hml hv
  obtain ⟨rfl, hsz, hP, hE, hD0, hH⟩ := hv
  have hx := B.exec
  have hb := B.bytes
  have hr := B.returns
  have hts := atoms_spec (ws := wsX12_answersLine) B.pre
  have hown : s.vm.findClass RX12 = some m.cls := findClass_of_methodNamed B.named
  have hlocks := B.notSynchronized
  have hK := hE.1
  have hi12 : ∀ w ∈ u_ws RX12 TX12 45, w ∈ wsX12_answersLine := fun w h => List.mem_cons_of_mem _ (List.mem_append_right _ h)
  subst hsz
  have hD := hD0.self (sz := s.heap.size)
  generalize hAe : va_A (w_c_X12_answersLine cI cJ cB cZ cO qm vm_thrown qm_width qm_many qm_cells qm_moved qm_tape fm_tape vm_taped vm_at vm_token vm_place vm_value vm_word vm_bad vm_badPlace vm_fault vm_faultPlace qm_lines qm_has qm_round qm_meets fm_meets qm_stumble qm_isMud qm_cell qm_tune qm_change qm_isKept qm_steps qm_places qm_danced vm_runMost vm_runBegins qm_heardBy vm_fitMany vm_fitFirst vm_fitBeats vm_listenLeaves qm_there vm_metAt vm_metIn qm_wins vm_nightHoles vm_nightFirst vm_nightMud vm_nightSlips vm_drawnNow) s.heap.size = A at hD hH ⊢
  have hA : ∀ q : Nat, s.heap.size ≤ q → A q := fun q h => by rw [← hAe]; exact Or.inr h
  have hS : va_S A s.heap s.heap [] := va_S.rf
  obtain ⟨hP, hD⟩ : ct_B D A s.heap [mo qm vm_thrown qm_width qm_many qm_cells qm_moved qm_tape vm_taped vm_at vm_token vm_place vm_value vm_word vm_bad vm_badPlace vm_fault vm_faultPlace qm_lines qm_has qm_round qm_meets qm_stumble qm_isMud qm_cell qm_tune qm_change qm_isKept qm_steps qm_places qm_danced vm_runMost vm_runBegins qm_heardBy vm_fitMany vm_fitFirst vm_fitBeats vm_listenLeaves qm_there vm_metAt vm_metIn qm_wins vm_nightHoles vm_nightFirst vm_nightMud vm_nightSlips vm_drawnNow, (qm_tape, .inl (cB, 1200, .inl (fm_tape))), (qm_meets, .inl (cI, 30, .inl (fm_meets)))] := ⟨hP, hD⟩
  have hl := lv_entry ([.ref qm]) (n := 3) (Nat.le_of_ble_eq_true rfl)
  rw [lg_entry_eq]
  generalize (lg_sl ([.ref qm]) ++ List.replicate (3 - (lg_sl ([.ref qm])).length) Slot.unset).toArray = ls at hl ⊢
  have hl : lv_has ls 3 [(0, .ref qm)] := hl
  obtain ⟨H, hHe⟩ : ∃ H : Heap, H = s.heap := ⟨_, rfl⟩
  rw [← hHe] at hP
  have hS : va_S A s.heap H [] := by rw [hHe]; exact va_S.rf
  refine ct_start hHe ?_
  refine lv_aload_n hx hb dX12_answersLine_0 rfl (lv_at hl 0 rfl) ?_
  refine ct_calli (D := D) (wr := [(qm_meets, .inl (cI, 30, .inl (fm_meets)))]) (va_runV (As := []) (rest := []) ⟨hx, hb, hml, hown, hts⟩ (c_X12_stepHere l D G cI cJ cB cZ cO qm vm_thrown qm_width qm_many qm_cells qm_moved qm_tape fm_tape vm_taped vm_at vm_token vm_place vm_value vm_word vm_bad vm_badPlace vm_fault vm_faultPlace qm_lines qm_has qm_round qm_meets qm_stumble qm_isMud qm_cell qm_tune qm_change qm_isKept qm_steps qm_places qm_danced vm_runMost vm_runBegins qm_heardBy vm_fitMany vm_fitFirst vm_fitBeats vm_listenLeaves qm_there vm_metAt vm_metIn qm_wins vm_nightHoles vm_nightFirst vm_nightMud vm_nightSlips vm_drawnNow h_vm_taped h_vm_at h_vm_value (by omega) H.size) (cwV 0 hts gX12_answersLine_X12_stepHere rfl rfl rfl (by decide +kernel) ⟨Nat.le_of_ble_eq_true rfl, Nat.le_of_ble_eq_true rfl⟩) (ct_preV (T := ct_T cI cJ cB cZ cO) (ci := 12) (q0 := 0) hE hH hP hD hS hA [0, 1] (by decide) rfl rfl rfl) rfl rfl hl.1 rfl (lv_room (Nat.le_of_ble_eq_true rfl)) dX12_answersLine_1 ⟨Nat.le_of_ble_eq_true rfl, Nat.le_of_ble_eq_true rfl⟩) hP hD hS hA [0, 1] [2] rfl rfl (by decide) (by decide) (fun r1 u H locs hw hP hD hS => ?_)
  obtain ⟨y2, y3, y4, y5, y6, y7, y8⟩ := u
  obtain ⟨hP, hD⟩ : ct_B D A H [(qm_meets, .inl (cI, 30, .inl (fm_meets))), mo qm vm_thrown qm_width qm_many qm_cells qm_moved qm_tape vm_taped y2 y3 y4 y5 y6 y7 y8 vm_fault vm_faultPlace qm_lines qm_has qm_round qm_meets qm_stumble qm_isMud qm_cell qm_tune qm_change qm_isKept qm_steps qm_places qm_danced vm_runMost vm_runBegins qm_heardBy vm_fitMany vm_fitFirst vm_fitBeats vm_listenLeaves qm_there vm_metAt vm_metIn qm_wins vm_nightHoles vm_nightFirst vm_nightMud vm_nightSlips vm_drawnNow, (qm_tape, .inl (cB, 1200, .inl (fm_tape)))] := ⟨hP, hD⟩
  obtain ⟨hz, hp0, hp1, hp2, hp3⟩ := hw
  have h_y2 : 0 ≤ y2.toInt ∧ y2.toInt ≤ 1200 := hp0
  have h_y5 : 0 ≤ y5.toInt ∧ y5.toInt ≤ 1000009 := hp1
  have hp_9 : vm_at.toInt ≤ y2.toInt ∧ y2.toInt ≤ vm_taped.toInt := hp2
  have hp_10 : y7.toInt ≠ 0 ∨ (vm_bad.toInt = 0 ∧ vm_token.toInt = 2 ∧ 0 ≤ vm_value.toInt ∧ vm_value.toInt ≤ 5 ∧ (y3.toInt = 0 ∨ vm_at.toInt + 1 ≤ y2.toInt)) := hp3
  have hb_11 : y7.toInt ≠ 0 ∨ vm_bad.toInt = 0 := bd_tr2 hp_10 (Decidable.em (vm_bad.toInt = 0)).symm
  clear hp0 hp1 hp2 hp3
  have h_r1 : 0 ≤ r1.toInt ∧ r1.toInt ≤ 5 := hz
  clear hz
  refine lv_istore_n (lv' := [(1, .int r1), (0, .ref qm)]) hx hb dX12_answersLine_4 rfl hl (by decide) rfl (fun ls hl => ?_)
  refine lv_iconst (v := 0) hx hb dX12_answersLine_5 (by decide) ?_
  refine lv_istore_n (lv' := [(2, .int 0), (1, .int r1), (0, .ref qm)]) hx hb dX12_answersLine_6 rfl hl (by decide) rfl (fun ls hl => ?_)
  refine ct_loop (X := Int32 × Int64 × Int32 × Int32 × Int32 × Int32 × Int32 × Int32) (fun x => (if x.2.2.1.toInt = 0 ∧ x.2.2.2.2.2.1.toInt = 2 then (1200 - x.2.2.2.2.1.toInt).toNat + 1 else 0)) (fun x H locs ls => ((0 ≤ x.1.toInt ∧ x.1.toInt ≤ 1000009)) ∧ ((0 ≤ x.2.2.2.2.1.toInt ∧ x.2.2.2.2.1.toInt ≤ 1200)) ∧ (x.2.2.2.2.1.toInt ≤ vm_taped.toInt) ∧ (vm_at.toInt ≤ x.2.2.2.2.1.toInt) ∧ ((x.2.2.1.toInt ≠ 0 ∨ vm_bad.toInt = 0)) ∧ ct_B D A H [(qm_meets, .inl (cI, 30, .inl (fm_meets))), mo qm vm_thrown qm_width qm_many qm_cells qm_moved qm_tape vm_taped x.2.2.2.2.1 x.2.2.2.2.2.1 x.2.2.2.2.2.2.1 x.1 x.2.1 x.2.2.1 x.2.2.2.1 vm_fault vm_faultPlace qm_lines qm_has qm_round qm_meets qm_stumble qm_isMud qm_cell qm_tune qm_change qm_isKept qm_steps qm_places qm_danced vm_runMost vm_runBegins qm_heardBy vm_fitMany vm_fitFirst vm_fitBeats vm_listenLeaves qm_there vm_metAt vm_metIn qm_wins vm_nightHoles vm_nightFirst vm_nightMud vm_nightSlips vm_drawnNow, (qm_tape, .inl (cB, 1200, .inl (fm_tape)))] ∧ va_S A s.heap H locs ∧ lv_has ls 3 [(2, .int x.2.2.2.2.2.2.2), (1, .int r1), (0, .ref qm)]) 7 (y5, y6, y7, y8, y2, y3, y4, (0 : Int32)) ⟨h_y5, h_y2, (show y2.toInt ≤ vm_taped.toInt by omega), (show vm_at.toInt ≤ y2.toInt by omega), (show (y7.toInt ≠ 0 ∨ vm_bad.toInt = 0) by exact hb_11), ⟨hP, hD⟩, hS, lv_sub hl [0, 1, 2] rfl⟩ (fun x ih117 H locs ls hI => ?_)
  obtain ⟨x109, x110, x111, x112, x113, x114, x115, x116⟩ := x
  obtain ⟨h_x109, h_x113, he0, he1, he2, ⟨hP, hD⟩, hS, hl⟩ := hI
  change (0 ≤ x109.toInt ∧ x109.toInt ≤ 1000009) at h_x109
  change (0 ≤ x113.toInt ∧ x113.toInt ≤ 1200) at h_x113
  change x113.toInt ≤ vm_taped.toInt at he0
  change vm_at.toInt ≤ x113.toInt at he1
  change (x111.toInt ≠ 0 ∨ vm_bad.toInt = 0) at he2
  have hb_118 := he2
  obtain ⟨hP, hD⟩ : ct_B D A H [(qm_meets, .inl (cI, 30, .inl (fm_meets))), mo qm vm_thrown qm_width qm_many qm_cells qm_moved qm_tape vm_taped x113 x114 x115 x109 x110 x111 x112 vm_fault vm_faultPlace qm_lines qm_has qm_round qm_meets qm_stumble qm_isMud qm_cell qm_tune qm_change qm_isKept qm_steps qm_places qm_danced vm_runMost vm_runBegins qm_heardBy vm_fitMany vm_fitFirst vm_fitBeats vm_listenLeaves qm_there vm_metAt vm_metIn qm_wins vm_nightHoles vm_nightFirst vm_nightMud vm_nightSlips vm_drawnNow, (qm_tape, .inl (cB, 1200, .inl (fm_tape)))] := ⟨hP, hD⟩
  have hl : lv_has ls 3 [(2, .int x116), (1, .int r1), (0, .ref qm)] := hl
  refine lv_aload_n hx hb dX12_answersLine_7 rfl (lv_at hl 2 rfl) ?_
  refine ct_calli (D := D) (wr := [(qm_meets, .inl (cI, 30, .inl (fm_meets))), (qm_tape, .inl (cB, 1200, .inl (fm_tape)))]) (va_runV (As := []) (rest := []) ⟨hx, hb, hml, hown, hts⟩ (c_X12_isGood l D G cI cJ cB cZ cO qm vm_thrown qm_width qm_many qm_cells qm_moved qm_tape vm_taped x113 x114 x115 x109 x110 x111 x112 vm_fault vm_faultPlace qm_lines qm_has qm_round qm_meets qm_stumble qm_isMud qm_cell qm_tune qm_change qm_isKept qm_steps qm_places qm_danced vm_runMost vm_runBegins qm_heardBy vm_fitMany vm_fitFirst vm_fitBeats vm_listenLeaves qm_there vm_metAt vm_metIn qm_wins vm_nightHoles vm_nightFirst vm_nightMud vm_nightSlips vm_drawnNow h_vm_taped h_x113 h_x109 H.size) (cwV 0 hts gX12_answersLine_X12_isGood rfl rfl rfl (by decide +kernel) ⟨Nat.le_of_ble_eq_true rfl, Nat.le_of_ble_eq_true rfl⟩) (ct_preV (T := ct_T cI cJ cB cZ cO) (ci := 12) (q0 := 1) hE hH hP hD hS hA [1] (by decide) rfl rfl rfl) rfl rfl hl.1 rfl (lv_room (Nat.le_of_ble_eq_true rfl)) dX12_answersLine_8 ⟨Nat.le_of_ble_eq_true rfl, Nat.le_of_ble_eq_true rfl⟩) hP hD hS hA [1] [0, 2] rfl rfl (by decide) (by decide) (fun r119 u H locs hw hP hD hS => ?_)
  obtain ⟨hP, hD⟩ : ct_B D A H [(qm_meets, .inl (cI, 30, .inl (fm_meets))), (qm_tape, .inl (cB, 1200, .inl (fm_tape))), mo qm vm_thrown qm_width qm_many qm_cells qm_moved qm_tape vm_taped x113 x114 x115 x109 x110 x111 x112 vm_fault vm_faultPlace qm_lines qm_has qm_round qm_meets qm_stumble qm_isMud qm_cell qm_tune qm_change qm_isKept qm_steps qm_places qm_danced vm_runMost vm_runBegins qm_heardBy vm_fitMany vm_fitFirst vm_fitBeats vm_listenLeaves qm_there vm_metAt vm_metIn qm_wins vm_nightHoles vm_nightFirst vm_nightMud vm_nightSlips vm_drawnNow] := ⟨hP, hD⟩
  have hz := hw
  clear hw
  rcases hz with ⟨hz, hz2⟩ | ⟨hz, hz2⟩
  · subst hz
    have hz_120 : (x111.toInt = 0) := hz2
    refine lv_if_eq (tgt := 34) hx hb dX12_answersLine_11 (by decide) (fun hc => absurd hc (by decide)) (fun _ => ?_)
    refine lv_aload_n hx hb dX12_answersLine_14 rfl (lv_at hl 2 rfl) ?_
    refine va_get (D := D) (ci := 12) (v := .int x114) (C := RX12) (T := TX12) (N := 45) hx hb hts hi12 hown hK hP 2 rfl rfl 8 (by decide) (hts (.fieldLink RX12 121 "OverHillModel" "token" "I") (by decide +kernel)) (fun _ h9 => h9) rfl dX12_answersLine_15 ?_
    refine lv_iconst (v := 2) hx hb dX12_answersLine_18 (by decide) ?_
    refine lv_icmp_ne (tgt := 34) hx hb dX12_answersLine_19 (by decide) (fun hc => ?_) (fun hc => ?_)
    · have hq121 : x114.toInt ≠ 2 := tq_ne rfl (by decide) hc
      have hb122 := tq_lo x114
      refine lv_aload_n hx hb dX12_answersLine_34 rfl (lv_at hl 2 rfl) ?_
      refine ct_calli (D := D) (wr := [(qm_meets, .inl (cI, 30, .inl (fm_meets))), (qm_tape, .inl (cB, 1200, .inl (fm_tape)))]) (va_runV (As := []) (rest := []) ⟨hx, hb, hml, hown, hts⟩ (c_X12_isGood l D G cI cJ cB cZ cO qm vm_thrown qm_width qm_many qm_cells qm_moved qm_tape vm_taped x113 x114 x115 x109 x110 x111 x112 vm_fault vm_faultPlace qm_lines qm_has qm_round qm_meets qm_stumble qm_isMud qm_cell qm_tune qm_change qm_isKept qm_steps qm_places qm_danced vm_runMost vm_runBegins qm_heardBy vm_fitMany vm_fitFirst vm_fitBeats vm_listenLeaves qm_there vm_metAt vm_metIn qm_wins vm_nightHoles vm_nightFirst vm_nightMud vm_nightSlips vm_drawnNow h_vm_taped h_x113 h_x109 H.size) (cwV 0 hts gX12_answersLine_X12_isGood rfl rfl rfl (by decide +kernel) ⟨Nat.le_of_ble_eq_true rfl, Nat.le_of_ble_eq_true rfl⟩) (ct_preV (T := ct_T cI cJ cB cZ cO) (ci := 12) (q0 := 2) hE hH hP hD hS hA [2] (by decide) rfl rfl rfl) rfl rfl hl.1 rfl (lv_room (Nat.le_of_ble_eq_true rfl)) dX12_answersLine_35 ⟨Nat.le_of_ble_eq_true rfl, Nat.le_of_ble_eq_true rfl⟩) hP hD hS hA [2] [0, 1] rfl rfl (by decide) (by decide) (fun r123 u H locs hw hP hD hS => ?_)
      obtain ⟨hP, hD⟩ : ct_B D A H [(qm_meets, .inl (cI, 30, .inl (fm_meets))), (qm_tape, .inl (cB, 1200, .inl (fm_tape))), mo qm vm_thrown qm_width qm_many qm_cells qm_moved qm_tape vm_taped x113 x114 x115 x109 x110 x111 x112 vm_fault vm_faultPlace qm_lines qm_has qm_round qm_meets qm_stumble qm_isMud qm_cell qm_tune qm_change qm_isKept qm_steps qm_places qm_danced vm_runMost vm_runBegins qm_heardBy vm_fitMany vm_fitFirst vm_fitBeats vm_listenLeaves qm_there vm_metAt vm_metIn qm_wins vm_nightHoles vm_nightFirst vm_nightMud vm_nightSlips vm_drawnNow] := ⟨hP, hD⟩
      have hz := hw
      clear hw
      rcases hz with ⟨hz, hz2⟩ | ⟨hz, hz2⟩
      · subst hz
        have hz_124 : (x111.toInt = 0) := hz2
        refine lv_if_eq (tgt := 51) hx hb dX12_answersLine_38 (by decide) (fun hc => absurd hc (by decide)) (fun _ => ?_)
        refine lv_aload_n hx hb dX12_answersLine_41 rfl (lv_at hl 2 rfl) ?_
        refine va_get (D := D) (ci := 12) (v := .ref qm_meets) (C := RX12) (T := TX12) (N := 45) hx hb hts hi12 hown hK hP 2 rfl rfl 19 (by decide) (hts (.fieldLink RX12 40 "OverHillModel" "meets" "[I") (by decide +kernel)) (fun _ h9 => h9) rfl dX12_answersLine_42 ?_
        refine lv_bipush (v := 24) hx hb dX12_answersLine_45 (by decide) ?_
        refine lv_iload_n hx hb dX12_answersLine_47 rfl (lv_at hl 1 rfl) ?_
        refine lv_iadd hx hb dX12_answersLine_48 ?_
        refine lv_topi (fun z125 ez125 => ?_)
        have fz125 : z125.toInt = 24 + r1.toInt := by rw [ez125]; exact tq_add (by decide) rfl (by omega)
        refine lv_iload_n hx hb dX12_answersLine_49 rfl (lv_at hl 0 rfl) ?_
        refine va_iast (D := D) hx hb hK hP hD hS 0 0 rfl rfl (tq_in rfl (by omega)) dX12_answersLine_50 (fun H locs hP hD hS => ?_)
        obtain ⟨g126, hP, hD⟩ : ∃ g126 : Nat → Int32, ct_B D A H [(qm_meets, .inl (cI, 30, .inl (g126))), (qm_tape, .inl (cB, 1200, .inl (fm_tape))), mo qm vm_thrown qm_width qm_many qm_cells qm_moved qm_tape vm_taped x113 x114 x115 x109 x110 x111 x112 vm_fault vm_faultPlace qm_lines qm_has qm_round qm_meets qm_stumble qm_isMud qm_cell qm_tune qm_change qm_isKept qm_steps qm_places qm_danced vm_runMost vm_runBegins qm_heardBy vm_fitMany vm_fitFirst vm_fitBeats vm_listenLeaves qm_there vm_metAt vm_metIn qm_wins vm_nightHoles vm_nightFirst vm_nightMud vm_nightSlips vm_drawnNow] := ⟨_, hP, hD⟩
        obtain ⟨hP9, hD9⟩ : ct_B D A H [mo qm vm_thrown qm_width qm_many qm_cells qm_moved qm_tape vm_taped x113 x114 x115 x109 x110 x111 x112 vm_fault vm_faultPlace qm_lines qm_has qm_round qm_meets qm_stumble qm_isMud qm_cell qm_tune qm_change qm_isKept qm_steps qm_places qm_danced vm_runMost vm_runBegins qm_heardBy vm_fitMany vm_fitFirst vm_fitBeats vm_listenLeaves qm_there vm_metAt vm_metIn qm_wins vm_nightHoles vm_nightFirst vm_nightMud vm_nightSlips vm_drawnNow, (qm_tape, .inl (cB, 1200, .inl (fm_tape))), (qm_meets, .inl (cI, 30, .inl (g126)))] := ⟨hP.sub [2, 1, 0] rfl, hD.sub [2, 1, 0] (by decide) rfl⟩
        exact W.vret hx hb hr (fun t ht hW => ⟨⟨(x113, x114, x115, x109, x110, x111, x112, g126), rfl, ⟨h_x113, h_x109, (show vm_at.toInt ≤ x113.toInt ∧ x113.toInt ≤ vm_taped.toInt by omega), (show x111.toInt ≠ 0 ∨ vm_bad.toInt = 0 by exact hb_118)⟩, by rw [ht]; exact hP9, hD9⟩, hS.F ht⟩) hS.2.2 dX12_answersLine_51
      · subst hz
        have hz_127 : ¬ (x111.toInt = 0) := hz2
        omega
    · have hq121 : x114.toInt = 2 := tq_eq rfl (by decide) hc
      have hb128 := tq_lo x114
      refine lv_iload_n hx hb dX12_answersLine_22 rfl (lv_at hl 0 rfl) ?_
      refine lv_iconst (v := 1) hx hb dX12_answersLine_23 (by decide) ?_
      refine lv_aload_n hx hb dX12_answersLine_24 rfl (lv_at hl 2 rfl) ?_
      refine ct_calli (D := D) (wr := [(qm_meets, .inl (cI, 30, .inl (fm_meets)))]) (va_runV (As := []) (rest := [.int 1, .int x116]) ⟨hx, hb, hml, hown, hts⟩ (c_X12_stepHere l D G cI cJ cB cZ cO qm vm_thrown qm_width qm_many qm_cells qm_moved qm_tape fm_tape vm_taped x113 x114 x115 x109 x110 x111 x112 vm_fault vm_faultPlace qm_lines qm_has qm_round qm_meets qm_stumble qm_isMud qm_cell qm_tune qm_change qm_isKept qm_steps qm_places qm_danced vm_runMost vm_runBegins qm_heardBy vm_fitMany vm_fitFirst vm_fitBeats vm_listenLeaves qm_there vm_metAt vm_metIn qm_wins vm_nightHoles vm_nightFirst vm_nightMud vm_nightSlips vm_drawnNow h_vm_taped h_x113 h_x109 (by omega) H.size) (cwV 0 hts gX12_answersLine_X12_stepHere rfl rfl rfl (by decide +kernel) ⟨Nat.le_of_ble_eq_true rfl, Nat.le_of_ble_eq_true rfl⟩) (ct_preV (T := ct_T cI cJ cB cZ cO) (ci := 12) (q0 := 2) hE hH hP hD hS hA [2, 1] (by decide) rfl rfl rfl) rfl rfl hl.1 rfl (lv_room (Nat.le_of_ble_eq_true rfl)) dX12_answersLine_25 ⟨Nat.le_of_ble_eq_true rfl, Nat.le_of_ble_eq_true rfl⟩) hP hD hS hA [2, 1] [0] rfl rfl (by decide) (by decide) (fun r129 u H locs hw hP hD hS => ?_)
      obtain ⟨y130, y131, y132, y133, y134, y135, y136⟩ := u
      obtain ⟨hP, hD⟩ : ct_B D A H [(qm_meets, .inl (cI, 30, .inl (fm_meets))), mo qm vm_thrown qm_width qm_many qm_cells qm_moved qm_tape vm_taped y130 y131 y132 y133 y134 y135 y136 vm_fault vm_faultPlace qm_lines qm_has qm_round qm_meets qm_stumble qm_isMud qm_cell qm_tune qm_change qm_isKept qm_steps qm_places qm_danced vm_runMost vm_runBegins qm_heardBy vm_fitMany vm_fitFirst vm_fitBeats vm_listenLeaves qm_there vm_metAt vm_metIn qm_wins vm_nightHoles vm_nightFirst vm_nightMud vm_nightSlips vm_drawnNow, (qm_tape, .inl (cB, 1200, .inl (fm_tape)))] := ⟨hP, hD⟩
      obtain ⟨hz, hp0, hp1, hp2, hp3⟩ := hw
      have h_y130 : 0 ≤ y130.toInt ∧ y130.toInt ≤ 1200 := hp0
      have h_y133 : 0 ≤ y133.toInt ∧ y133.toInt ≤ 1000009 := hp1
      have hp_137 : x113.toInt ≤ y130.toInt ∧ y130.toInt ≤ vm_taped.toInt := hp2
      have hp_138 : y135.toInt ≠ 0 ∨ (x111.toInt = 0 ∧ x114.toInt = 2 ∧ 0 ≤ x109.toInt ∧ x109.toInt ≤ 5 ∧ (y131.toInt = 0 ∨ x113.toInt + 1 ≤ y130.toInt)) := hp3
      have hb_139 : y135.toInt ≠ 0 ∨ vm_bad.toInt = 0 := bd_tr2 hp_138 hb_118
      clear hp0 hp1 hp2 hp3 hb_118
      have h_r129 : 0 ≤ r129.toInt ∧ r129.toInt ≤ 5 := hz
      clear hz
      refine lv_ishl hx hb dX12_answersLine_28 ?_
      refine lv_topi (fun z140 ez140 => ?_)
      have fz140 : 1 ≤ z140.toInt ∧ z140.toInt ≤ 32 := by rw [ez140]; exact tq_shl5 rfl (by omega)
      refine lv_ior hx hb dX12_answersLine_29 ?_
      refine lv_topi (fun z141 ez141 => ?_)
      refine lv_istore_n (lv' := [(2, .int z141), (1, .int r1), (0, .ref qm)]) hx hb dX12_answersLine_30 rfl hl (by decide) rfl (fun ls hl => ?_)
      refine lv_goto (tgt := 7) hx hb dX12_answersLine_31 (by decide) ?_
      exact ih117 (y133, y134, y135, y136, y130, y131, y132, z141) _ _ _ (show (if y135.toInt = 0 ∧ y131.toInt = 2 then (1200 - y130.toInt).toNat + 1 else 0) < (if x111.toInt = 0 ∧ x114.toInt = 2 then (1200 - x113.toInt).toNat + 1 else 0) by (have h9 : x111.toInt = 0 ∧ x114.toInt = 2 := (by omega); rw [if_pos h9]; split <;> omega)) ⟨h_y133, h_y130, (show y130.toInt ≤ vm_taped.toInt by omega), (show vm_at.toInt ≤ y130.toInt by omega), (show (y135.toInt ≠ 0 ∨ vm_bad.toInt = 0) by exact hb_139), ⟨hP, hD⟩, hS, lv_sub hl [0, 1, 2] rfl⟩
  · subst hz
    have hz_142 : ¬ (x111.toInt = 0) := hz2
    refine lv_if_eq (tgt := 34) hx hb dX12_answersLine_11 (by decide) (fun _ => ?_) (fun hc => absurd hc (by decide))
    refine lv_aload_n hx hb dX12_answersLine_34 rfl (lv_at hl 2 rfl) ?_
    refine ct_calli (D := D) (wr := [(qm_meets, .inl (cI, 30, .inl (fm_meets))), (qm_tape, .inl (cB, 1200, .inl (fm_tape)))]) (va_runV (As := []) (rest := []) ⟨hx, hb, hml, hown, hts⟩ (c_X12_isGood l D G cI cJ cB cZ cO qm vm_thrown qm_width qm_many qm_cells qm_moved qm_tape vm_taped x113 x114 x115 x109 x110 x111 x112 vm_fault vm_faultPlace qm_lines qm_has qm_round qm_meets qm_stumble qm_isMud qm_cell qm_tune qm_change qm_isKept qm_steps qm_places qm_danced vm_runMost vm_runBegins qm_heardBy vm_fitMany vm_fitFirst vm_fitBeats vm_listenLeaves qm_there vm_metAt vm_metIn qm_wins vm_nightHoles vm_nightFirst vm_nightMud vm_nightSlips vm_drawnNow h_vm_taped h_x113 h_x109 H.size) (cwV 0 hts gX12_answersLine_X12_isGood rfl rfl rfl (by decide +kernel) ⟨Nat.le_of_ble_eq_true rfl, Nat.le_of_ble_eq_true rfl⟩) (ct_preV (T := ct_T cI cJ cB cZ cO) (ci := 12) (q0 := 2) hE hH hP hD hS hA [2] (by decide) rfl rfl rfl) rfl rfl hl.1 rfl (lv_room (Nat.le_of_ble_eq_true rfl)) dX12_answersLine_35 ⟨Nat.le_of_ble_eq_true rfl, Nat.le_of_ble_eq_true rfl⟩) hP hD hS hA [2] [0, 1] rfl rfl (by decide) (by decide) (fun r143 u H locs hw hP hD hS => ?_)
    obtain ⟨hP, hD⟩ : ct_B D A H [(qm_meets, .inl (cI, 30, .inl (fm_meets))), (qm_tape, .inl (cB, 1200, .inl (fm_tape))), mo qm vm_thrown qm_width qm_many qm_cells qm_moved qm_tape vm_taped x113 x114 x115 x109 x110 x111 x112 vm_fault vm_faultPlace qm_lines qm_has qm_round qm_meets qm_stumble qm_isMud qm_cell qm_tune qm_change qm_isKept qm_steps qm_places qm_danced vm_runMost vm_runBegins qm_heardBy vm_fitMany vm_fitFirst vm_fitBeats vm_listenLeaves qm_there vm_metAt vm_metIn qm_wins vm_nightHoles vm_nightFirst vm_nightMud vm_nightSlips vm_drawnNow] := ⟨hP, hD⟩
    have hz := hw
    clear hw
    rcases hz with ⟨hz, hz2⟩ | ⟨hz, hz2⟩
    · subst hz
      have hz_144 : (x111.toInt = 0) := hz2
      omega
    · subst hz
      have hz_145 : ¬ (x111.toInt = 0) := hz2
      refine lv_if_eq (tgt := 51) hx hb dX12_answersLine_38 (by decide) (fun _ => ?_) (fun hc => absurd hc (by decide))
      obtain ⟨hP9, hD9⟩ : ct_B D A H [mo qm vm_thrown qm_width qm_many qm_cells qm_moved qm_tape vm_taped x113 x114 x115 x109 x110 x111 x112 vm_fault vm_faultPlace qm_lines qm_has qm_round qm_meets qm_stumble qm_isMud qm_cell qm_tune qm_change qm_isKept qm_steps qm_places qm_danced vm_runMost vm_runBegins qm_heardBy vm_fitMany vm_fitFirst vm_fitBeats vm_listenLeaves qm_there vm_metAt vm_metIn qm_wins vm_nightHoles vm_nightFirst vm_nightMud vm_nightSlips vm_drawnNow, (qm_tape, .inl (cB, 1200, .inl (fm_tape))), (qm_meets, .inl (cI, 30, .inl (fm_meets)))] := ⟨hP.sub [2, 1, 0] rfl, hD.sub [2, 1, 0] (by decide) rfl⟩
      exact W.vret hx hb hr (fun t ht hW => ⟨⟨(x113, x114, x115, x109, x110, x111, x112, fm_meets), rfl, ⟨h_x113, h_x109, (show vm_at.toInt ≤ x113.toInt ∧ x113.toInt ≤ vm_taped.toInt by omega), (show x111.toInt ≠ 0 ∨ vm_bad.toInt = 0 by exact hb_118)⟩, by rw [ht]; exact hP9, hD9⟩, hS.F ht⟩) hS.2.2 dX12_answersLine_51
