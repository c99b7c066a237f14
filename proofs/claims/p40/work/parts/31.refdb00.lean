abbrev w_c_X12_isDance (cI cJ cB cZ cO : ClassId) (qm : Nat) (vm_thrown : Int32) (qm_width : Nat) (qm_many : Nat) (qm_cells : Nat) (qm_moved : Nat) (qm_tape : Nat) (vm_taped : Int32) (vm_at : Int32) (vm_token : Int32) (vm_place : Int32) (vm_value : Int32) (vm_word : Int64) (vm_bad : Int32) (vm_badPlace : Int32) (vm_fault : Int32) (vm_faultPlace : Int32) (qm_lines : Nat) (fm_lines : Nat → Int32) (qm_has : Nat) (qm_round : Nat) (qm_meets : Nat) (qm_stumble : Nat) (qm_isMud : Nat) (qm_cell : Nat) (qm_tune : Nat) (qm_change : Nat) (qm_isKept : Nat) (qm_steps : Nat) (qm_places : Nat) (qm_danced : Nat) (vm_runMost : Int32) (vm_runBegins : Int32) (qm_heardBy : Nat) (vm_fitMany : Int32) (vm_fitFirst : Int32) (vm_fitBeats : Int64) (vm_listenLeaves : Int32) (qm_there : Nat) (vm_metAt : Int32) (vm_metIn : Int32) (qm_wins : Nat) (vm_nightHoles : Int32) (vm_nightFirst : Int32) (vm_nightMud : Int32) (vm_nightSlips : Int32) (vm_drawnNow : Int64) : va_W := [mo qm vm_thrown qm_width qm_many qm_cells qm_moved qm_tape vm_taped vm_at vm_token vm_place vm_value vm_word vm_bad vm_badPlace vm_fault vm_faultPlace qm_lines qm_has qm_round qm_meets qm_stumble qm_isMud qm_cell qm_tune qm_change qm_isKept qm_steps qm_places qm_danced vm_runMost vm_runBegins qm_heardBy vm_fitMany vm_fitFirst vm_fitBeats vm_listenLeaves qm_there vm_metAt vm_metIn qm_wins vm_nightHoles vm_nightFirst vm_nightMud vm_nightSlips vm_drawnNow, (qm_lines, .inl (cI, 5, .inl (fm_lines)))]
set_option maxHeartbeats 4000000 in
set_option maxRecDepth 100000 in
/-- X12 isDance -/
theorem c_X12_isDance (l : Launch) (D : va_G) (G : ct_G) (cI cJ cB cZ cO : ClassId) (qm : Nat) (vm_thrown : Int32) (qm_width : Nat) (qm_many : Nat) (qm_cells : Nat) (qm_moved : Nat) (qm_tape : Nat) (vm_taped : Int32) (vm_at : Int32) (vm_token : Int32) (vm_place : Int32) (vm_value : Int32) (vm_word : Int64) (vm_bad : Int32) (vm_badPlace : Int32) (vm_fault : Int32) (vm_faultPlace : Int32) (qm_lines : Nat) (fm_lines : Nat → Int32) (qm_has : Nat) (qm_round : Nat) (qm_meets : Nat) (qm_stumble : Nat) (qm_isMud : Nat) (qm_cell : Nat) (qm_tune : Nat) (qm_change : Nat) (qm_isKept : Nat) (qm_steps : Nat) (qm_places : Nat) (qm_danced : Nat) (vm_runMost : Int32) (vm_runBegins : Int32) (qm_heardBy : Nat) (vm_fitMany : Int32) (vm_fitFirst : Int32) (vm_fitBeats : Int64) (vm_listenLeaves : Int32) (qm_there : Nat) (vm_metAt : Int32) (vm_metIn : Int32) (qm_wins : Nat) (vm_nightHoles : Int32) (vm_nightFirst : Int32) (vm_nightMud : Int32) (vm_nightSlips : Int32) (vm_drawnNow : Int64) (h_vm_taped : 0 ≤ vm_taped.toInt ∧ vm_taped.toInt ≤ 1200) (h_vm_at : 0 ≤ vm_at.toInt ∧ vm_at.toInt ≤ 1200) (h_vm_value : 0 ≤ vm_value.toInt ∧ vm_value.toInt ≤ 1000009) (sz : Nat) : Met l yX12_isDance wsX12_isDance ({ frames := 0, cells := 0, slots := 0, locals := 0 }) (va_Pc [.ref qm] (ct_P D (ct_T cI cJ cB cZ cO) G (w_c_X12_isDance cI cJ cB cZ cO qm vm_thrown qm_width qm_many qm_cells qm_moved qm_tape vm_taped vm_at vm_token vm_place vm_value vm_word vm_bad vm_badPlace vm_fault vm_faultPlace qm_lines fm_lines qm_has qm_round qm_meets qm_stumble qm_isMud qm_cell qm_tune qm_change qm_isKept qm_steps qm_places qm_danced vm_runMost vm_runBegins qm_heardBy vm_fitMany vm_fitFirst vm_fitBeats vm_listenLeaves qm_there vm_metAt vm_metIn qm_wins vm_nightHoles vm_nightFirst vm_nightMud vm_nightSlips vm_drawnNow) sz)) (va_Qi (fun (rz : Int32) (u : Unit) => ((rz = 1 ∧ True) ∨ (rz = 0 ∧ True))) (fun (u : Unit) t => ct_Q D (va_A (w_c_X12_isDance cI cJ cB cZ cO qm vm_thrown qm_width qm_many qm_cells qm_moved qm_tape vm_taped vm_at vm_token vm_place vm_value vm_word vm_bad vm_badPlace vm_fault vm_faultPlace qm_lines fm_lines qm_has qm_round qm_meets qm_stumble qm_isMud qm_cell qm_tune qm_change qm_isKept qm_steps qm_places qm_danced vm_runMost vm_runBegins qm_heardBy vm_fitMany vm_fitFirst vm_fitBeats vm_listenLeaves qm_there vm_metAt vm_metIn qm_wins vm_nightHoles vm_nightFirst vm_nightMud vm_nightSlips vm_drawnNow) sz) [mo qm vm_thrown qm_width qm_many qm_cells qm_moved qm_tape vm_taped vm_at vm_token vm_place vm_value vm_word vm_bad vm_badPlace vm_fault vm_faultPlace qm_lines qm_has qm_round qm_meets qm_stumble qm_isMud qm_cell qm_tune qm_change qm_isKept qm_steps qm_places qm_danced vm_runMost vm_runBegins qm_heardBy vm_fitMany vm_fitFirst vm_fitBeats vm_listenLeaves qm_there vm_metAt vm_metIn qm_wins vm_nightHoles vm_nightFirst vm_nightMud vm_nightSlips vm_drawnNow, (qm_lines, .inl (cI, 5, .inl (fm_lines)))] t) (va_A (w_c_X12_isDance cI cJ cB cZ cO qm vm_thrown qm_width qm_many qm_cells qm_moved qm_tape vm_taped vm_at vm_token vm_place vm_value vm_word vm_bad vm_badPlace vm_fault vm_faultPlace qm_lines fm_lines qm_has qm_round qm_meets qm_stumble qm_isMud qm_cell qm_tune qm_change qm_isKept qm_steps qm_places qm_danced vm_runMost vm_runBegins qm_heardBy vm_fitMany vm_fitFirst vm_fitBeats vm_listenLeaves qm_there vm_metAt vm_metIn qm_wins vm_nightHoles vm_nightFirst vm_nightMud vm_nightSlips vm_drawnNow) sz)) 0 0 (va_A (w_c_X12_isDance cI cJ cB cZ cO qm vm_thrown qm_width qm_many qm_cells qm_moved qm_tape vm_taped vm_at vm_token vm_place vm_value vm_word vm_bad vm_badPlace vm_fault vm_faultPlace qm_lines fm_lines qm_has qm_round qm_meets qm_stumble qm_isMud qm_cell qm_tune qm_change qm_isKept qm_steps qm_places qm_danced vm_runMost vm_runBegins qm_heardBy vm_fitMany vm_fitFirst vm_fitBeats vm_listenLeaves qm_there vm_metAt vm_metIn qm_wins vm_nightHoles vm_nightFirst vm_nightMud vm_nightSlips vm_drawnNow) sz) := by
  refine Met.ofW (cc := cX12_isDance) (maxL := 1) (ret := (some .boolean)) (by decide) rfl ?_
  intro p e s m args below meth c s₁ B hml hv
  obtain ⟨rfl, hsz, hP, hE, hD0, hH⟩ := hv
  have hx := B.exec
  have hb := B.bytes
  have hr := B.returns
  have hts := atoms_spec (ws := wsX12_isDance) B.pre
  have hown : s.vm.findClass RX12 = some m.cls := findClass_of_methodNamed B.named
  have hlocks := B.notSynchronized
  have hK := hE.1
  have hi12 : ∀ w ∈ u_ws RX12 TX12 45, w ∈ wsX12_isDance := fun w h => List.mem_cons_of_mem _ (List.mem_append_right _ h)
  subst hsz
  have hD := hD0.self (sz := s.heap.size)
  generalize hAe : va_A (w_c_X12_isDance cI cJ cB cZ cO qm vm_thrown qm_width qm_many qm_cells qm_moved qm_tape vm_taped vm_at vm_token vm_place vm_value vm_word vm_bad vm_badPlace vm_fault vm_faultPlace qm_lines fm_lines qm_has qm_round qm_meets qm_stumble qm_isMud qm_cell qm_tune qm_change qm_isKept qm_steps qm_places qm_danced vm_runMost vm_runBegins qm_heardBy vm_fitMany vm_fitFirst vm_fitBeats vm_listenLeaves qm_there vm_metAt vm_metIn qm_wins vm_nightHoles vm_nightFirst vm_nightMud vm_nightSlips vm_drawnNow) s.heap.size = A at hD hH ⊢
  have hA : ∀ q : Nat, s.heap.size ≤ q → A q := fun q h => by rw [← hAe]; exact Or.inr h
  have hS : va_S A s.heap s.heap [] := va_S.rf
  obtain ⟨hP, hD⟩ : ct_B D A s.heap [mo qm vm_thrown qm_width qm_many qm_cells qm_moved qm_tape vm_taped vm_at vm_token vm_place vm_value vm_word vm_bad vm_badPlace vm_fault vm_faultPlace qm_lines qm_has qm_round qm_meets qm_stumble qm_isMud qm_cell qm_tune qm_change qm_isKept qm_steps qm_places qm_danced vm_runMost vm_runBegins qm_heardBy vm_fitMany vm_fitFirst vm_fitBeats vm_listenLeaves qm_there vm_metAt vm_metIn qm_wins vm_nightHoles vm_nightFirst vm_nightMud vm_nightSlips vm_drawnNow, (qm_lines, .inl (cI, 5, .inl (fm_lines)))] := ⟨hP, hD⟩
  have hl := lv_entry ([.ref qm]) (n := 1) (Nat.le_of_ble_eq_true rfl)
  rw [lg_entry_eq]
  generalize (lg_sl ([.ref qm]) ++ List.replicate (1 - (lg_sl ([.ref qm])).length) Slot.unset).toArray = ls at hl ⊢
  have hl : lv_has ls 1 [(0, .ref qm)] := hl
  obtain ⟨H, hHe⟩ : ∃ H : Heap, H = s.heap := ⟨_, rfl⟩
  rw [← hHe] at hP
  have hS : va_S A s.heap H [] := by rw [hHe]; exact va_S.rf
  refine ct_start hHe ?_
  refine lv_aload_n hx hb dX12_isDance_0 rfl (lv_at hl 0 rfl) ?_
  refine va_get (D := D) (ci := 12) (v := .ref qm_lines) (C := RX12) (T := TX12) (N := 45) hx hb hts hi12 hown hK hP 0 rfl rfl 16 (by decide) (hts (.fieldLink RX12 31 "OverHillModel" "lines" "[I") (by decide +kernel)) (fun _ h9 => h9) rfl dX12_isDance_1 ?_
  refine lv_iconst (v := 0) hx hb dX12_isDance_4 (by decide) ?_
  refine va_iald (D := D) hx hb hK hP 1 0 rfl rfl (tq_in (a := 0) (by decide) (by omega)) dX12_isDance_5 ?_
  refine lv_topi (fun z1 ez1 => ?_)
  refine lv_if_le (tgt := 13) hx hb dX12_isDance_6 (by decide) (fun hc => ?_) (fun hc => ?_)
  · have hq2 : z1.toInt ≤ 0 := tq_le rfl (by decide) hc
    have hb3 := tq_lo z1
    refine lv_iconst (v := 0) hx hb dX12_isDance_13 (by decide) ?_
    obtain ⟨hP9, hD9⟩ : ct_B D A H [mo qm vm_thrown qm_width qm_many qm_cells qm_moved qm_tape vm_taped vm_at vm_token vm_place vm_value vm_word vm_bad vm_badPlace vm_fault vm_faultPlace qm_lines qm_has qm_round qm_meets qm_stumble qm_isMud qm_cell qm_tune qm_change qm_isKept qm_steps qm_places qm_danced vm_runMost vm_runBegins qm_heardBy vm_fitMany vm_fitFirst vm_fitBeats vm_listenLeaves qm_there vm_metAt vm_metIn qm_wins vm_nightHoles vm_nightFirst vm_nightMud vm_nightSlips vm_drawnNow, (qm_lines, .inl (cI, 5, .inl (fm_lines)))] := ⟨hP.sub [0, 1] rfl, hD.sub [0, 1] (by decide) rfl⟩
    exact W.zret (v := 0) (ty := .boolean) hx hb hr rfl (fun t ht hW => ⟨⟨0, (), rfl, (Or.inr (⟨rfl, trivial⟩)), by rw [ht]; exact hP9, hD9⟩, hS.F ht⟩) hS.2.2 dX12_isDance_14
  · have hq2 : 0 < z1.toInt := tq_nle rfl (by decide) hc
    have hb4 := tq_lo z1
    refine lv_iconst (v := 1) hx hb dX12_isDance_9 (by decide) ?_
    refine lv_goto (tgt := 14) hx hb dX12_isDance_10 (by decide) ?_
    obtain ⟨hP9, hD9⟩ : ct_B D A H [mo qm vm_thrown qm_width qm_many qm_cells qm_moved qm_tape vm_taped vm_at vm_token vm_place vm_value vm_word vm_bad vm_badPlace vm_fault vm_faultPlace qm_lines qm_has qm_round qm_meets qm_stumble qm_isMud qm_cell qm_tune qm_change qm_isKept qm_steps qm_places qm_danced vm_runMost vm_runBegins qm_heardBy vm_fitMany vm_fitFirst vm_fitBeats vm_listenLeaves qm_there vm_metAt vm_metIn qm_wins vm_nightHoles vm_nightFirst vm_nightMud vm_nightSlips vm_drawnNow, (qm_lines, .inl (cI, 5, .inl (fm_lines)))] := ⟨hP.sub [0, 1] rfl, hD.sub [0, 1] (by decide) rfl⟩
    exact W.zret (v := 1) (ty := .boolean) hx hb hr rfl (fun t ht hW => ⟨⟨1, (), rfl, (Or.inl ⟨rfl, trivial⟩), by rw [ht]; exact hP9, hD9⟩, hS.F ht⟩) hS.2.2 dX12_isDance_14
abbrev w_c_X12_lengthOf (cI cJ cB cZ cO : ClassId) (qm : Nat) (vm_thrown : Int32) (qm_width : Nat) (qm_many : Nat) (qm_cells : Nat) (qm_moved : Nat) (qm_tape : Nat) (vm_taped : Int32) (vm_at : Int32) (vm_token : Int32) (vm_place : Int32) (vm_value : Int32) (vm_word : Int64) (vm_bad : Int32) (vm_badPlace : Int32) (vm_fault : Int32) (vm_faultPlace : Int32) (qm_lines : Nat) (qm_has : Nat) (fm_has : Nat → Int32) (qm_round : Nat) (qm_meets : Nat) (qm_stumble : Nat) (qm_isMud : Nat) (qm_cell : Nat) (qm_tune : Nat) (qm_change : Nat) (qm_isKept : Nat) (qm_steps : Nat) (qm_places : Nat) (qm_danced : Nat) (vm_runMost : Int32) (vm_runBegins : Int32) (qm_heardBy : Nat) (vm_fitMany : Int32) (vm_fitFirst : Int32) (vm_fitBeats : Int64) (vm_listenLeaves : Int32) (qm_there : Nat) (vm_metAt : Int32) (vm_metIn : Int32) (qm_wins : Nat) (vm_nightHoles : Int32) (vm_nightFirst : Int32) (vm_nightMud : Int32) (vm_nightSlips : Int32) (vm_drawnNow : Int64) : va_W := [mo qm vm_thrown qm_width qm_many qm_cells qm_moved qm_tape vm_taped vm_at vm_token vm_place vm_value vm_word vm_bad vm_badPlace vm_fault vm_faultPlace qm_lines qm_has qm_round qm_meets qm_stumble qm_isMud qm_cell qm_tune qm_change qm_isKept qm_steps qm_places qm_danced vm_runMost vm_runBegins qm_heardBy vm_fitMany vm_fitFirst vm_fitBeats vm_listenLeaves qm_there vm_metAt vm_metIn qm_wins vm_nightHoles vm_nightFirst vm_nightMud vm_nightSlips vm_drawnNow, (qm_has, .inl (cI, 55, .inl (fm_has)))]
set_option maxHeartbeats 4000000 in
set_option maxRecDepth 100000 in
/-- X12 lengthOf -/
theorem c_X12_lengthOf (l : Launch) (D : va_G) (G : ct_G) (cI cJ cB cZ cO : ClassId) (qm : Nat) (vm_thrown : Int32) (qm_width : Nat) (qm_many : Nat) (qm_cells : Nat) (qm_moved : Nat) (qm_tape : Nat) (vm_taped : Int32) (vm_at : Int32) (vm_token : Int32) (vm_place : Int32) (vm_value : Int32) (vm_word : Int64) (vm_bad : Int32) (vm_badPlace : Int32) (vm_fault : Int32) (vm_faultPlace : Int32) (qm_lines : Nat) (qm_has : Nat) (fm_has : Nat → Int32) (qm_round : Nat) (qm_meets : Nat) (qm_stumble : Nat) (qm_isMud : Nat) (qm_cell : Nat) (qm_tune : Nat) (qm_change : Nat) (qm_isKept : Nat) (qm_steps : Nat) (qm_places : Nat) (qm_danced : Nat) (vm_runMost : Int32) (vm_runBegins : Int32) (qm_heardBy : Nat) (vm_fitMany : Int32) (vm_fitFirst : Int32) (vm_fitBeats : Int64) (vm_listenLeaves : Int32) (qm_there : Nat) (vm_metAt : Int32) (vm_metIn : Int32) (qm_wins : Nat) (vm_nightHoles : Int32) (vm_nightFirst : Int32) (vm_nightMud : Int32) (vm_nightSlips : Int32) (vm_drawnNow : Int64) (a1 : Int32) (h_vm_taped : 0 ≤ vm_taped.toInt ∧ vm_taped.toInt ≤ 1200) (h_vm_at : 0 ≤ vm_at.toInt ∧ vm_at.toInt ≤ 1200) (h_vm_value : 0 ≤ vm_value.toInt ∧ vm_value.toInt ≤ 1000009) (h_fm_has : ar_ok [0, (-2147483648), (-2147483648), 0, 0, 0, 0, 0, 0, 0, 0] [20, 2147483647, 2147483647, 12, 12, 11, 11, 8, 12, 5, 40] fm_has) (h_a1 : 0 ≤ a1.toInt ∧ a1.toInt ≤ 1) (sz : Nat) : Met l yX12_lengthOf wsX12_lengthOf ({ frames := 0, cells := 0, slots := 0, locals := 0 }) (va_Pc [.ref qm, .int a1] (ct_P D (ct_T cI cJ cB cZ cO) G (w_c_X12_lengthOf cI cJ cB cZ cO qm vm_thrown qm_width qm_many qm_cells qm_moved qm_tape vm_taped vm_at vm_token vm_place vm_value vm_word vm_bad vm_badPlace vm_fault vm_faultPlace qm_lines qm_has fm_has qm_round qm_meets qm_stumble qm_isMud qm_cell qm_tune qm_change qm_isKept qm_steps qm_places qm_danced vm_runMost vm_runBegins qm_heardBy vm_fitMany vm_fitFirst vm_fitBeats vm_listenLeaves qm_there vm_metAt vm_metIn qm_wins vm_nightHoles vm_nightFirst vm_nightMud vm_nightSlips vm_drawnNow) sz)) (va_Qi (fun (rz : Int32) (u : Unit) => (0 ≤ rz.toInt ∧ rz.toInt ≤ 12) ∧ (rz = fm_has (3 + a1.toInt).toNat)) (fun (u : Unit) t => ct_Q D (va_A (w_c_X12_lengthOf cI cJ cB cZ cO qm vm_thrown qm_width qm_many qm_cells qm_moved qm_tape vm_taped vm_at vm_token vm_place vm_value vm_word vm_bad vm_badPlace vm_fault vm_faultPlace qm_lines qm_has fm_has qm_round qm_meets qm_stumble qm_isMud qm_cell qm_tune qm_change qm_isKept qm_steps qm_places qm_danced vm_runMost vm_runBegins qm_heardBy vm_fitMany vm_fitFirst vm_fitBeats vm_listenLeaves qm_there vm_metAt vm_metIn qm_wins vm_nightHoles vm_nightFirst vm_nightMud vm_nightSlips vm_drawnNow) sz) [mo qm vm_thrown qm_width qm_many qm_cells qm_moved qm_tape vm_taped vm_at vm_token vm_place vm_value vm_word vm_bad vm_badPlace vm_fault vm_faultPlace qm_lines qm_has qm_round qm_meets qm_stumble qm_isMud qm_cell qm_tune qm_change qm_isKept qm_steps qm_places qm_danced vm_runMost vm_runBegins qm_heardBy vm_fitMany vm_fitFirst vm_fitBeats vm_listenLeaves qm_there vm_metAt vm_metIn qm_wins vm_nightHoles vm_nightFirst vm_nightMud vm_nightSlips vm_drawnNow, (qm_has, .inl (cI, 55, .inl (fm_has)))] t) (va_A (w_c_X12_lengthOf cI cJ cB cZ cO qm vm_thrown qm_width qm_many qm_cells qm_moved qm_tape vm_taped vm_at vm_token vm_place vm_value vm_word vm_bad vm_badPlace vm_fault vm_faultPlace qm_lines qm_has fm_has qm_round qm_meets qm_stumble qm_isMud qm_cell qm_tune qm_change qm_isKept qm_steps qm_places qm_danced vm_runMost vm_runBegins qm_heardBy vm_fitMany vm_fitFirst vm_fitBeats vm_listenLeaves qm_there vm_metAt vm_metIn qm_wins vm_nightHoles vm_nightFirst vm_nightMud vm_nightSlips vm_drawnNow) sz)) 0 0 (va_A (w_c_X12_lengthOf cI cJ cB cZ cO qm vm_thrown qm_width qm_many qm_cells qm_moved qm_tape vm_taped vm_at vm_token vm_place vm_value vm_word vm_bad vm_badPlace vm_fault vm_faultPlace qm_lines qm_has fm_has qm_round qm_meets qm_stumble qm_isMud qm_cell qm_tune qm_change qm_isKept qm_steps qm_places qm_danced vm_runMost vm_runBegins qm_heardBy vm_fitMany vm_fitFirst vm_fitBeats vm_listenLeaves qm_there vm_metAt vm_metIn qm_wins vm_nightHoles vm_nightFirst vm_nightMud vm_nightSlips vm_drawnNow) sz) := by
  refine Met.ofW (cc := cX12_lengthOf) (maxL := 2) (ret := (some .int)) (by decide) rfl ?_
  intro p e s m args below meth c s₁ B hml hv
  obtain ⟨rfl, hsz, hP, hE, hD0, hH⟩ := hv
  have hx := B.exec
  have hb := B.bytes
  have hr := B.returns
  have hts := atoms_spec (ws := wsX12_lengthOf) B.pre
  have hown : s.vm.findClass RX12 = some m.cls := findClass_of_methodNamed B.named
  have hlocks := B.notSynchronized
  have hK := hE.1
  have hi12 : ∀ w ∈ u_ws RX12 TX12 45, w ∈ wsX12_lengthOf := fun w h => List.mem_cons_of_mem _ (List.mem_append_right _ h)
  subst hsz
  have hD := hD0.self (sz := s.heap.size)
  generalize hAe : va_A (w_c_X12_lengthOf cI cJ cB cZ cO qm vm_thrown qm_width qm_many qm_cells qm_moved qm_tape vm_taped vm_at vm_token vm_place vm_value vm_word vm_bad vm_badPlace vm_fault vm_faultPlace qm_lines qm_has fm_has qm_round qm_meets qm_stumble qm_isMud qm_cell qm_tune qm_change qm_isKept qm_steps qm_places qm_danced vm_runMost vm_runBegins qm_heardBy vm_fitMany vm_fitFirst vm_fitBeats vm_listenLeaves qm_there vm_metAt vm_metIn qm_wins vm_nightHoles vm_nightFirst vm_nightMud vm_nightSlips vm_drawnNow) s.heap.size = A at hD hH ⊢
  have hA : ∀ q : Nat, s.heap.size ≤ q → A q := fun q h => by rw [← hAe]; exact Or.inr h
  have hS : va_S A s.heap s.heap [] := va_S.rf
  obtain ⟨hP, hD⟩ : ct_B D A s.heap [mo qm vm_thrown qm_width qm_many qm_cells qm_moved qm_tape vm_taped vm_at vm_token vm_place vm_value vm_word vm_bad vm_badPlace vm_fault vm_faultPlace qm_lines qm_has qm_round qm_meets qm_stumble qm_isMud qm_cell qm_tune qm_change qm_isKept qm_steps qm_places qm_danced vm_runMost vm_runBegins qm_heardBy vm_fitMany vm_fitFirst vm_fitBeats vm_listenLeaves qm_there vm_metAt vm_metIn qm_wins vm_nightHoles vm_nightFirst vm_nightMud vm_nightSlips vm_drawnNow, (qm_has, .inl (cI, 55, .inl (fm_has)))] := ⟨hP, hD⟩
  have hl := lv_entry ([.ref qm, .int a1]) (n := 2) (Nat.le_of_ble_eq_true rfl)
  rw [lg_entry_eq]
  generalize (lg_sl ([.ref qm, .int a1]) ++ List.replicate (2 - (lg_sl ([.ref qm, .int a1])).length) Slot.unset).toArray = ls at hl ⊢
  have hl : lv_has ls 2 [(0, .ref qm), (1, .int a1)] := hl
  obtain ⟨H, hHe⟩ : ∃ H : Heap, H = s.heap := ⟨_, rfl⟩
  rw [← hHe] at hP
  have hS : va_S A s.heap H [] := by rw [hHe]; exact va_S.rf
  refine ct_start hHe ?_
  refine lv_aload_n hx hb dX12_lengthOf_0 rfl (lv_at hl 0 rfl) ?_
  refine va_get (D := D) (ci := 12) (v := .ref qm_has) (C := RX12) (T := TX12) (N := 45) hx hb hts hi12 hown hK hP 0 rfl rfl 17 (by decide) (hts (.fieldLink RX12 34 "OverHillModel" "has" "[I") (by decide +kernel)) (fun _ h9 => h9) rfl dX12_lengthOf_1 ?_
  refine lv_iconst (v := 3) hx hb dX12_lengthOf_4 (by decide) ?_
  refine lv_iload_n hx hb dX12_lengthOf_5 rfl (lv_at hl 1 rfl) ?_
  refine lv_iadd hx hb dX12_lengthOf_6 ?_
  refine lv_topi (fun z1 ez1 => ?_)
  have fz1 : z1.toInt = 3 + a1.toInt := by rw [ez1]; exact tq_add (by decide) rfl (by omega)
  refine va_iald (D := D) hx hb hK hP 1 0 rfl rfl (tq_in rfl (by omega)) dX12_lengthOf_7 ?_
  refine lv_topi (fun z2 ez2 => ?_)
  have fz2 : 0 ≤ z2.toInt ∧ z2.toInt ≤ 12 := by rw [ez2]; exact ar_rng h_fm_has z1 3 4 (by omega) (by omega) (by decide)
  obtain ⟨hP9, hD9⟩ : ct_B D A H [mo qm vm_thrown qm_width qm_many qm_cells qm_moved qm_tape vm_taped vm_at vm_token vm_place vm_value vm_word vm_bad vm_badPlace vm_fault vm_faultPlace qm_lines qm_has qm_round qm_meets qm_stumble qm_isMud qm_cell qm_tune qm_change qm_isKept qm_steps qm_places qm_danced vm_runMost vm_runBegins qm_heardBy vm_fitMany vm_fitFirst vm_fitBeats vm_listenLeaves qm_there vm_metAt vm_metIn qm_wins vm_nightHoles vm_nightFirst vm_nightMud vm_nightSlips vm_drawnNow, (qm_has, .inl (cI, 55, .inl (fm_has)))] := ⟨hP.sub [0, 1] rfl, hD.sub [0, 1] (by decide) rfl⟩
  exact W.iret (v := z2) hx hb hr (fun t ht hW => ⟨⟨z2, (), rfl, ⟨(show 0 ≤ z2.toInt ∧ z2.toInt ≤ 12 by omega), (show z2 = fm_has (3 + a1.toInt).toNat by rw [ez2]; exact congrArg fm_has (show z1.toInt.toNat = (3 + a1.toInt).toNat by omega))⟩, by rw [ht]; exact hP9, hD9⟩, hS.F ht⟩) hS.2.2 dX12_lengthOf_8
abbrev w_c_X12_lengthOfP (cI cJ cB cZ cO : ClassId) (qm : Nat) (vm_thrown : Int32) (qm_width : Nat) (qm_many : Nat) (qm_cells : Nat) (qm_moved : Nat) (qm_tape : Nat) (vm_taped : Int32) (vm_at : Int32) (vm_token : Int32) (vm_place : Int32) (vm_value : Int32) (vm_word : Int64) (vm_bad : Int32) (vm_badPlace : Int32) (vm_fault : Int32) (vm_faultPlace : Int32) (qm_lines : Nat) (qm_has : Nat) (fm_has : Nat → Int32) (qm_round : Nat) (qm_meets : Nat) (qm_stumble : Nat) (qm_isMud : Nat) (qm_cell : Nat) (qm_tune : Nat) (qm_change : Nat) (qm_isKept : Nat) (qm_steps : Nat) (qm_places : Nat) (qm_danced : Nat) (vm_runMost : Int32) (vm_runBegins : Int32) (qm_heardBy : Nat) (vm_fitMany : Int32) (vm_fitFirst : Int32) (vm_fitBeats : Int64) (vm_listenLeaves : Int32) (qm_there : Nat) (vm_metAt : Int32) (vm_metIn : Int32) (qm_wins : Nat) (vm_nightHoles : Int32) (vm_nightFirst : Int32) (vm_nightMud : Int32) (vm_nightSlips : Int32) (vm_drawnNow : Int64) : va_W := [mo qm vm_thrown qm_width qm_many qm_cells qm_moved qm_tape vm_taped vm_at vm_token vm_place vm_value vm_word vm_bad vm_badPlace vm_fault vm_faultPlace qm_lines qm_has qm_round qm_meets qm_stumble qm_isMud qm_cell qm_tune qm_change qm_isKept qm_steps qm_places qm_danced vm_runMost vm_runBegins qm_heardBy vm_fitMany vm_fitFirst vm_fitBeats vm_listenLeaves qm_there vm_metAt vm_metIn qm_wins vm_nightHoles vm_nightFirst vm_nightMud vm_nightSlips vm_drawnNow, (qm_has, .inl (cI, 55, .inl (fm_has)))]
set_option maxHeartbeats 4000000 in
set_option maxRecDepth 100000 in
/-- X12 lengthOf -/
theorem c_X12_lengthOfP (l : Launch) (D : va_G) (G : ct_G) (cI cJ cB cZ cO : ClassId) (qm : Nat) (vm_thrown : Int32) (qm_width : Nat) (qm_many : Nat) (qm_cells : Nat) (qm_moved : Nat) (qm_tape : Nat) (vm_taped : Int32) (vm_at : Int32) (vm_token : Int32) (vm_place : Int32) (vm_value : Int32) (vm_word : Int64) (vm_bad : Int32) (vm_badPlace : Int32) (vm_fault : Int32) (vm_faultPlace : Int32) (qm_lines : Nat) (qm_has : Nat) (fm_has : Nat → Int32) (qm_round : Nat) (qm_meets : Nat) (qm_stumble : Nat) (qm_isMud : Nat) (qm_cell : Nat) (qm_tune : Nat) (qm_change : Nat) (qm_isKept : Nat) (qm_steps : Nat) (qm_places : Nat) (qm_danced : Nat) (vm_runMost : Int32) (vm_runBegins : Int32) (qm_heardBy : Nat) (vm_fitMany : Int32) (vm_fitFirst : Int32) (vm_fitBeats : Int64) (vm_listenLeaves : Int32) (qm_there : Nat) (vm_metAt : Int32) (vm_metIn : Int32) (qm_wins : Nat) (vm_nightHoles : Int32) (vm_nightFirst : Int32) (vm_nightMud : Int32) (vm_nightSlips : Int32) (vm_drawnNow : Int64) (a1 : Int32) (h_vm_taped : 0 ≤ vm_taped.toInt ∧ vm_taped.toInt ≤ 1200) (h_vm_at : 0 ≤ vm_at.toInt ∧ vm_at.toInt ≤ 1200) (h_vm_value : 0 ≤ vm_value.toInt ∧ vm_value.toInt ≤ 1000009) (h_fm_has : ar_ok [0, (-2147483648), (-2147483648), 0, 0, 0, 0, 0, 0, 0, 0] [20, 2147483647, 2147483647, 12, 12, 11, 11, 8, 12, 5, 40] fm_has) (h_a1 : 0 ≤ a1.toInt ∧ a1.toInt ≤ 1) (h_rp : 1 ≤ (fm_has 3).toInt ∧ 1 ≤ (fm_has 4).toInt) (sz : Nat) : Met l yX12_lengthOf wsX12_lengthOf ({ frames := 0, cells := 0, slots := 0, locals := 0 }) (va_Pc [.ref qm, .int a1] (ct_P D (ct_T cI cJ cB cZ cO) G (w_c_X12_lengthOfP cI cJ cB cZ cO qm vm_thrown qm_width qm_many qm_cells qm_moved qm_tape vm_taped vm_at vm_token vm_place vm_value vm_word vm_bad vm_badPlace vm_fault vm_faultPlace qm_lines qm_has fm_has qm_round qm_meets qm_stumble qm_isMud qm_cell qm_tune qm_change qm_isKept qm_steps qm_places qm_danced vm_runMost vm_runBegins qm_heardBy vm_fitMany vm_fitFirst vm_fitBeats vm_listenLeaves qm_there vm_metAt vm_metIn qm_wins vm_nightHoles vm_nightFirst vm_nightMud vm_nightSlips vm_drawnNow) sz)) (va_Qi (fun (rz : Int32) (u : Unit) => (1 ≤ rz.toInt ∧ rz.toInt ≤ 12)) (fun (u : Unit) t => ct_Q D (va_A (w_c_X12_lengthOfP cI cJ cB cZ cO qm vm_thrown qm_width qm_many qm_cells qm_moved qm_tape vm_taped vm_at vm_token vm_place vm_value vm_word vm_bad vm_badPlace vm_fault vm_faultPlace qm_lines qm_has fm_has qm_round qm_meets qm_stumble qm_isMud qm_cell qm_tune qm_change qm_isKept qm_steps qm_places qm_danced vm_runMost vm_runBegins qm_heardBy vm_fitMany vm_fitFirst vm_fitBeats vm_listenLeaves qm_there vm_metAt vm_metIn qm_wins vm_nightHoles vm_nightFirst vm_nightMud vm_nightSlips vm_drawnNow) sz) [mo qm vm_thrown qm_width qm_many qm_cells qm_moved qm_tape vm_taped vm_at vm_token vm_place vm_value vm_word vm_bad vm_badPlace vm_fault vm_faultPlace qm_lines qm_has qm_round qm_meets qm_stumble qm_isMud qm_cell qm_tune qm_change qm_isKept qm_steps qm_places qm_danced vm_runMost vm_runBegins qm_heardBy vm_fitMany vm_fitFirst vm_fitBeats vm_listenLeaves qm_there vm_metAt vm_metIn qm_wins vm_nightHoles vm_nightFirst vm_nightMud vm_nightSlips vm_drawnNow, (qm_has, .inl (cI, 55, .inl (fm_has)))] t) (va_A (w_c_X12_lengthOfP cI cJ cB cZ cO qm vm_thrown qm_width qm_many qm_cells qm_moved qm_tape vm_taped vm_at vm_token vm_place vm_value vm_word vm_bad vm_badPlace vm_fault vm_faultPlace qm_lines qm_has fm_has qm_round qm_meets qm_stumble qm_isMud qm_cell qm_tune qm_change qm_isKept qm_steps qm_places qm_danced vm_runMost vm_runBegins qm_heardBy vm_fitMany vm_fitFirst vm_fitBeats vm_listenLeaves qm_there vm_metAt vm_metIn qm_wins vm_nightHoles vm_nightFirst vm_nightMud vm_nightSlips vm_drawnNow) sz)) 0 0 (va_A (w_c_X12_lengthOfP cI cJ cB cZ cO qm vm_thrown qm_width qm_many qm_cells qm_moved qm_tape vm_taped vm_at vm_token vm_place vm_value vm_word vm_bad vm_badPlace vm_fault vm_faultPlace qm_lines qm_has fm_has qm_round qm_meets qm_stumble qm_isMud qm_cell qm_tune qm_change qm_isKept qm_steps qm_places qm_danced vm_runMost vm_runBegins qm_heardBy vm_fitMany vm_fitFirst vm_fitBeats vm_listenLeaves qm_there vm_metAt vm_metIn qm_wins vm_nightHoles vm_nightFirst vm_nightMud vm_nightSlips vm_drawnNow) sz) := by
  refine Met.ofW (cc := cX12_lengthOf) (maxL := 2) (ret := (some .int)) (by decide) rfl ?_
  intro p e s m args below meth c s₁ B hml hv
  obtain ⟨rfl, hsz, hP, hE, hD0, hH⟩ := hv
  have hx := B.exec
  have hb := B.bytes
  have hr := B.returns
  have hts := atoms_spec (ws := wsX12_lengthOf) B.pre
  have hown : s.vm.findClass RX12 = some m.cls := findClass_of_methodNamed B.named
  have hlocks := B.notSynchronized
  have hK := hE.1
  have hi12 : ∀ w ∈ u_ws RX12 TX12 45, w ∈ wsX12_lengthOf := fun w h => List.mem_cons_of_mem _ (List.mem_append_right _ h)
  subst hsz
  have hD := hD0.self (sz := s.heap.size)
  generalize hAe : va_A (w_c_X12_lengthOfP cI cJ cB cZ cO qm vm_thrown qm_width qm_many qm_cells qm_moved qm_tape vm_taped vm_at vm_token vm_place vm_value vm_word vm_bad vm_badPlace vm_fault vm_faultPlace qm_lines qm_has fm_has qm_round qm_meets qm_stumble qm_isMud qm_cell qm_tune qm_change qm_isKept qm_steps qm_places qm_danced vm_runMost vm_runBegins qm_heardBy vm_fitMany vm_fitFirst vm_fitBeats vm_listenLeaves qm_there vm_metAt vm_metIn qm_wins vm_nightHoles vm_nightFirst vm_nightMud vm_nightSlips vm_drawnNow) s.heap.size = A at hD hH ⊢
  have hA : ∀ q : Nat, s.heap.size ≤ q → A q := fun q h => by rw [← hAe]; exact Or.inr h
  have hS : va_S A s.heap s.heap [] := va_S.rf
  obtain ⟨hP, hD⟩ : ct_B D A s.heap [mo qm vm_thrown qm_width qm_many qm_cells qm_moved qm_tape vm_taped vm_at vm_token vm_place vm_value vm_word vm_bad vm_badPlace vm_fault vm_faultPlace qm_lines qm_has qm_round qm_meets qm_stumble qm_isMud qm_cell qm_tune qm_change qm_isKept qm_steps qm_places qm_danced vm_runMost vm_runBegins qm_heardBy vm_fitMany vm_fitFirst vm_fitBeats vm_listenLeaves qm_there vm_metAt vm_metIn qm_wins vm_nightHoles vm_nightFirst vm_nightMud vm_nightSlips vm_drawnNow, (qm_has, .inl (cI, 55, .inl (fm_has)))] := ⟨hP, hD⟩
  have hl := lv_entry ([.ref qm, .int a1]) (n := 2) (Nat.le_of_ble_eq_true rfl)
  rw [lg_entry_eq]
  generalize (lg_sl ([.ref qm, .int a1]) ++ List.replicate (2 - (lg_sl ([.ref qm, .int a1])).length) Slot.unset).toArray = ls at hl ⊢
  have hl : lv_has ls 2 [(0, .ref qm), (1, .int a1)] := hl
  obtain ⟨H, hHe⟩ : ∃ H : Heap, H = s.heap := ⟨_, rfl⟩
  rw [← hHe] at hP
  have hS : va_S A s.heap H [] := by rw [hHe]; exact va_S.rf
  refine ct_start hHe ?_
  refine lv_aload_n hx hb dX12_lengthOf_0 rfl (lv_at hl 0 rfl) ?_
  refine va_get (D := D) (ci := 12) (v := .ref qm_has) (C := RX12) (T := TX12) (N := 45) hx hb hts hi12 hown hK hP 0 rfl rfl 17 (by decide) (hts (.fieldLink RX12 34 "OverHillModel" "has" "[I") (by decide +kernel)) (fun _ h9 => h9) rfl dX12_lengthOf_1 ?_
  refine lv_iconst (v := 3) hx hb dX12_lengthOf_4 (by decide) ?_
  refine lv_iload_n hx hb dX12_lengthOf_5 rfl (lv_at hl 1 rfl) ?_
  refine lv_iadd hx hb dX12_lengthOf_6 ?_
  refine lv_topi (fun z1 ez1 => ?_)
  have fz1 : z1.toInt = 3 + a1.toInt := by rw [ez1]; exact tq_add (by decide) rfl (by omega)
  refine va_iald (D := D) hx hb hK hP 1 0 rfl rfl (tq_in rfl (by omega)) dX12_lengthOf_7 ?_
  refine lv_topi (fun z2 ez2 => ?_)
  have fz2 : 0 ≤ z2.toInt ∧ z2.toInt ≤ 12 := by rw [ez2]; exact ar_rng h_fm_has z1 3 4 (by omega) (by omega) (by decide)
  have gz2 : 1 ≤ z2.toInt := by rw [ez2]; exact ln_pos h_rp (by omega) (by omega)
  obtain ⟨hP9, hD9⟩ : ct_B D A H [mo qm vm_thrown qm_width qm_many qm_cells qm_moved qm_tape vm_taped vm_at vm_token vm_place vm_value vm_word vm_bad vm_badPlace vm_fault vm_faultPlace qm_lines qm_has qm_round qm_meets qm_stumble qm_isMud qm_cell qm_tune qm_change qm_isKept qm_steps qm_places qm_danced vm_runMost vm_runBegins qm_heardBy vm_fitMany vm_fitFirst vm_fitBeats vm_listenLeaves qm_there vm_metAt vm_metIn qm_wins vm_nightHoles vm_nightFirst vm_nightMud vm_nightSlips vm_drawnNow, (qm_has, .inl (cI, 55, .inl (fm_has)))] := ⟨hP.sub [0, 1] rfl, hD.sub [0, 1] (by decide) rfl⟩
  exact W.iret (v := z2) hx hb hr (fun t ht hW => ⟨⟨z2, (), rfl, (show 1 ≤ z2.toInt ∧ z2.toInt ≤ 12 by omega), by rw [ht]; exact hP9, hD9⟩, hS.F ht⟩) hS.2.2 dX12_lengthOf_8
abbrev w_c_X12_isSide (cI cJ cB cZ cO : ClassId) (qm : Nat) (vm_thrown : Int32) (qm_width : Nat) (qm_many : Nat) (qm_cells : Nat) (qm_moved : Nat) (qm_tape : Nat) (vm_taped : Int32) (vm_at : Int32) (vm_token : Int32) (vm_place : Int32) (vm_value : Int32) (vm_word : Int64) (vm_bad : Int32) (vm_badPlace : Int32) (vm_fault : Int32) (vm_faultPlace : Int32) (qm_lines : Nat) (fm_lines : Nat → Int32) (qm_has : Nat) (qm_round : Nat) (qm_meets : Nat) (qm_stumble : Nat) (qm_isMud : Nat) (qm_cell : Nat) (qm_tune : Nat) (qm_change : Nat) (qm_isKept : Nat) (qm_steps : Nat) (qm_places : Nat) (qm_danced : Nat) (vm_runMost : Int32) (vm_runBegins : Int32) (qm_heardBy : Nat) (vm_fitMany : Int32) (vm_fitFirst : Int32) (vm_fitBeats : Int64) (vm_listenLeaves : Int32) (qm_there : Nat) (vm_metAt : Int32) (vm_metIn : Int32) (qm_wins : Nat) (vm_nightHoles : Int32) (vm_nightFirst : Int32) (vm_nightMud : Int32) (vm_nightSlips : Int32) (vm_drawnNow : Int64) : va_W := [mo qm vm_thrown qm_width qm_many qm_cells qm_moved qm_tape vm_taped vm_at vm_token vm_place vm_value vm_word vm_bad vm_badPlace vm_fault vm_faultPlace qm_lines qm_has qm_round qm_meets qm_stumble qm_isMud qm_cell qm_tune qm_change qm_isKept qm_steps qm_places qm_danced vm_runMost vm_runBegins qm_heardBy vm_fitMany vm_fitFirst vm_fitBeats vm_listenLeaves qm_there vm_metAt vm_metIn qm_wins vm_nightHoles vm_nightFirst vm_nightMud vm_nightSlips vm_drawnNow, (qm_lines, .inl (cI, 5, .inl (fm_lines)))]
set_option maxHeartbeats 4000000 in
set_option maxRecDepth 100000 in
/-- X12 isSide -/
theorem c_X12_isSide (l : Launch) (D : va_G) (G : ct_G) (cI cJ cB cZ cO : ClassId) (qm : Nat) (vm_thrown : Int32) (qm_width : Nat) (qm_many : Nat) (qm_cells : Nat) (qm_moved : Nat) (qm_tape : Nat) (vm_taped : Int32) (vm_at : Int32) (vm_token : Int32) (vm_place : Int32) (vm_value : Int32) (vm_word : Int64) (vm_bad : Int32) (vm_badPlace : Int32) (vm_fault : Int32) (vm_faultPlace : Int32) (qm_lines : Nat) (fm_lines : Nat → Int32) (qm_has : Nat) (qm_round : Nat) (qm_meets : Nat) (qm_stumble : Nat) (qm_isMud : Nat) (qm_cell : Nat) (qm_tune : Nat) (qm_change : Nat) (qm_isKept : Nat) (qm_steps : Nat) (qm_places : Nat) (qm_danced : Nat) (vm_runMost : Int32) (vm_runBegins : Int32) (qm_heardBy : Nat) (vm_fitMany : Int32) (vm_fitFirst : Int32) (vm_fitBeats : Int64) (vm_listenLeaves : Int32) (qm_there : Nat) (vm_metAt : Int32) (vm_metIn : Int32) (qm_wins : Nat) (vm_nightHoles : Int32) (vm_nightFirst : Int32) (vm_nightMud : Int32) (vm_nightSlips : Int32) (vm_drawnNow : Int64) (a1 : Int32) (h_vm_taped : 0 ≤ vm_taped.toInt ∧ vm_taped.toInt ≤ 1200) (h_vm_at : 0 ≤ vm_at.toInt ∧ vm_at.toInt ≤ 1200) (h_vm_value : 0 ≤ vm_value.toInt ∧ vm_value.toInt ≤ 1000009) (sz : Nat) : Met l yX12_isSide wsX12_isSide ({ frames := 1, cells := 0, slots := 0, locals := 25 }) (va_Pc [.ref qm, .int a1] (ct_P D (ct_T cI cJ cB cZ cO) G (w_c_X12_isSide cI cJ cB cZ cO qm vm_thrown qm_width qm_many qm_cells qm_moved qm_tape vm_taped vm_at vm_token vm_place vm_value vm_word vm_bad vm_badPlace vm_fault vm_faultPlace qm_lines fm_lines qm_has qm_round qm_meets qm_stumble qm_isMud qm_cell qm_tune qm_change qm_isKept qm_steps qm_places qm_danced vm_runMost vm_runBegins qm_heardBy vm_fitMany vm_fitFirst vm_fitBeats vm_listenLeaves qm_there vm_metAt vm_metIn qm_wins vm_nightHoles vm_nightFirst vm_nightMud vm_nightSlips vm_drawnNow) sz)) (va_Qi (fun (rz : Int32) (u : Unit) => ((rz = 1 ∧ (0 ≤ a1.toInt ∧ a1.toInt < 2)) ∨ (rz = 0 ∧ True))) (fun (u : Unit) t => ct_Q D (va_A (w_c_X12_isSide cI cJ cB cZ cO qm vm_thrown qm_width qm_many qm_cells qm_moved qm_tape vm_taped vm_at vm_token vm_place vm_value vm_word vm_bad vm_badPlace vm_fault vm_faultPlace qm_lines fm_lines qm_has qm_round qm_meets qm_stumble qm_isMud qm_cell qm_tune qm_change qm_isKept qm_steps qm_places qm_danced vm_runMost vm_runBegins qm_heardBy vm_fitMany vm_fitFirst vm_fitBeats vm_listenLeaves qm_there vm_metAt vm_metIn qm_wins vm_nightHoles vm_nightFirst vm_nightMud vm_nightSlips vm_drawnNow) sz) [mo qm vm_thrown qm_width qm_many qm_cells qm_moved qm_tape vm_taped vm_at vm_token vm_place vm_value vm_word vm_bad vm_badPlace vm_fault vm_faultPlace qm_lines qm_has qm_round qm_meets qm_stumble qm_isMud qm_cell qm_tune qm_change qm_isKept qm_steps qm_places qm_danced vm_runMost vm_runBegins qm_heardBy vm_fitMany vm_fitFirst vm_fitBeats vm_listenLeaves qm_there vm_metAt vm_metIn qm_wins vm_nightHoles vm_nightFirst vm_nightMud vm_nightSlips vm_drawnNow, (qm_lines, .inl (cI, 5, .inl (fm_lines)))] t) (va_A (w_c_X12_isSide cI cJ cB cZ cO qm vm_thrown qm_width qm_many qm_cells qm_moved qm_tape vm_taped vm_at vm_token vm_place vm_value vm_word vm_bad vm_badPlace vm_fault vm_faultPlace qm_lines fm_lines qm_has qm_round qm_meets qm_stumble qm_isMud qm_cell qm_tune qm_change qm_isKept qm_steps qm_places qm_danced vm_runMost vm_runBegins qm_heardBy vm_fitMany vm_fitFirst vm_fitBeats vm_listenLeaves qm_there vm_metAt vm_metIn qm_wins vm_nightHoles vm_nightFirst vm_nightMud vm_nightSlips vm_drawnNow) sz)) 0 0 (va_A (w_c_X12_isSide cI cJ cB cZ cO qm vm_thrown qm_width qm_many qm_cells qm_moved qm_tape vm_taped vm_at vm_token vm_place vm_value vm_word vm_bad vm_badPlace vm_fault vm_faultPlace qm_lines fm_lines qm_has qm_round qm_meets qm_stumble qm_isMud qm_cell qm_tune qm_change qm_isKept qm_steps qm_places qm_danced vm_runMost vm_runBegins qm_heardBy vm_fitMany vm_fitFirst vm_fitBeats vm_listenLeaves qm_there vm_metAt vm_metIn qm_wins vm_nightHoles vm_nightFirst vm_nightMud vm_nightSlips vm_drawnNow) sz) := by
  refine Met.ofW (cc := cX12_isSide) (maxL := 2) (ret := (some .boolean)) (by decide) rfl ?_
  intro p e s m args below meth c s₁ B hml hv
  obtain ⟨rfl, hsz, hP, hE, hD0, hH⟩ := hv
  have hx := B.exec
  have hb := B.bytes
  have hr := B.returns
  have hts := atoms_spec (ws := wsX12_isSide) B.pre
  have hown : s.vm.findClass RX12 = some m.cls := findClass_of_methodNamed B.named
  have hlocks := B.notSynchronized
  have hK := hE.1
  subst hsz
  have hD := hD0.self (sz := s.heap.size)
  generalize hAe : va_A (w_c_X12_isSide cI cJ cB cZ cO qm vm_thrown qm_width qm_many qm_cells qm_moved qm_tape vm_taped vm_at vm_token vm_place vm_value vm_word vm_bad vm_badPlace vm_fault vm_faultPlace qm_lines fm_lines qm_has qm_round qm_meets qm_stumble qm_isMud qm_cell qm_tune qm_change qm_isKept qm_steps qm_places qm_danced vm_runMost vm_runBegins qm_heardBy vm_fitMany vm_fitFirst vm_fitBeats vm_listenLeaves qm_there vm_metAt vm_metIn qm_wins vm_nightHoles vm_nightFirst vm_nightMud vm_nightSlips vm_drawnNow) s.heap.size = A at hD hH ⊢
  have hA : ∀ q : Nat, s.heap.size ≤ q → A q := fun q h => by rw [← hAe]; exact Or.inr h
  have hS : va_S A s.heap s.heap [] := va_S.rf
  obtain ⟨hP, hD⟩ : ct_B D A s.heap [mo qm vm_thrown qm_width qm_many qm_cells qm_moved qm_tape vm_taped vm_at vm_token vm_place vm_value vm_word vm_bad vm_badPlace vm_fault vm_faultPlace qm_lines qm_has qm_round qm_meets qm_stumble qm_isMud qm_cell qm_tune qm_change qm_isKept qm_steps qm_places qm_danced vm_runMost vm_runBegins qm_heardBy vm_fitMany vm_fitFirst vm_fitBeats vm_listenLeaves qm_there vm_metAt vm_metIn qm_wins vm_nightHoles vm_nightFirst vm_nightMud vm_nightSlips vm_drawnNow, (qm_lines, .inl (cI, 5, .inl (fm_lines)))] := ⟨hP, hD⟩
  have hl := lv_entry ([.ref qm, .int a1]) (n := 2) (Nat.le_of_ble_eq_true rfl)
  rw [lg_entry_eq]
  generalize (lg_sl ([.ref qm, .int a1]) ++ List.replicate (2 - (lg_sl ([.ref qm, .int a1])).length) Slot.unset).toArray = ls at hl ⊢
  have hl : lv_has ls 2 [(0, .ref qm), (1, .int a1)] := hl
  obtain ⟨H, hHe⟩ : ∃ H : Heap, H = s.heap := ⟨_, rfl⟩
  rw [← hHe] at hP
  have hS : va_S A s.heap H [] := by rw [hHe]; exact va_S.rf
  refine ct_start hHe ?_
  refine lv_aload_n hx hb dX12_isSide_0 rfl (lv_at hl 0 rfl) ?_
  refine ct_calli (D := D) (wr := []) (va_runV (As := []) (rest := []) ⟨hx, hb, hml, hown, hts⟩ (c_X12_isDance l D G cI cJ cB cZ cO qm vm_thrown qm_width qm_many qm_cells qm_moved qm_tape vm_taped vm_at vm_token vm_place vm_value vm_word vm_bad vm_badPlace vm_fault vm_faultPlace qm_lines fm_lines qm_has qm_round qm_meets qm_stumble qm_isMud qm_cell qm_tune qm_change qm_isKept qm_steps qm_places qm_danced vm_runMost vm_runBegins qm_heardBy vm_fitMany vm_fitFirst vm_fitBeats vm_listenLeaves qm_there vm_metAt vm_metIn qm_wins vm_nightHoles vm_nightFirst vm_nightMud vm_nightSlips vm_drawnNow h_vm_taped h_vm_at h_vm_value H.size) (cwV 0 hts gX12_isSide_X12_isDance rfl rfl rfl (by decide +kernel) ⟨Nat.le_of_ble_eq_true rfl, Nat.le_of_ble_eq_true rfl⟩) (ct_preV (T := ct_T cI cJ cB cZ cO) (ci := 12) (q0 := 0) hE hH hP hD hS hA [0, 1] (by decide) rfl rfl rfl) rfl rfl hl.1 rfl (lv_room (Nat.le_of_ble_eq_true rfl)) dX12_isSide_1 ⟨Nat.le_of_ble_eq_true rfl, Nat.le_of_ble_eq_true rfl⟩) hP hD hS hA [0, 1] [] rfl rfl (by decide) (by decide) (fun r1 u H locs hw hP hD hS => ?_)
  obtain ⟨hP, hD⟩ : ct_B D A H [mo qm vm_thrown qm_width qm_many qm_cells qm_moved qm_tape vm_taped vm_at vm_token vm_place vm_value vm_word vm_bad vm_badPlace vm_fault vm_faultPlace qm_lines qm_has qm_round qm_meets qm_stumble qm_isMud qm_cell qm_tune qm_change qm_isKept qm_steps qm_places qm_danced vm_runMost vm_runBegins qm_heardBy vm_fitMany vm_fitFirst vm_fitBeats vm_listenLeaves qm_there vm_metAt vm_metIn qm_wins vm_nightHoles vm_nightFirst vm_nightMud vm_nightSlips vm_drawnNow, (qm_lines, .inl (cI, 5, .inl (fm_lines)))] := ⟨hP, hD⟩
  have hz := hw
  rcases hz with ⟨hz, hz2⟩ | ⟨hz, hz2⟩
  · subst hz
    refine lv_if_eq (tgt := 21) hx hb dX12_isSide_4 (by decide) (fun hc => absurd hc (by decide)) (fun _ => ?_)
    refine lv_iload_n hx hb dX12_isSide_7 rfl (lv_at hl 1 rfl) ?_
    refine lv_i2l (v := _) hx hb dX12_isSide_8 rfl ?_
    refine lv_topl (fun z2 ez2 => ?_)
    have fz2 : z2.toInt = a1.toInt := by rw [ez2]; exact tl_i rfl
    have hb3 := tq_lo a1
    refine lv_lconst (v := 0) hx hb dX12_isSide_9 (by decide) ?_
    refine lv_lconst (v := 1) hx hb dX12_isSide_10 (by decide) ?_
    refine ct_calli (D := D) (wr := [mo qm vm_thrown qm_width qm_many qm_cells qm_moved qm_tape vm_taped vm_at vm_token vm_place vm_value vm_word vm_bad vm_badPlace vm_fault vm_faultPlace qm_lines qm_has qm_round qm_meets qm_stumble qm_isMud qm_cell qm_tune qm_change qm_isKept qm_steps qm_places qm_danced vm_runMost vm_runBegins qm_heardBy vm_fitMany vm_fitFirst vm_fitBeats vm_listenLeaves qm_there vm_metAt vm_metIn qm_wins vm_nightHoles vm_nightFirst vm_nightMud vm_nightSlips vm_drawnNow, (qm_lines, .inl (cI, 5, .inl (fm_lines)))]) (va_runS (As := [.long z2, .long 0, .long 1]) (rest := []) ⟨hx, hb, hml, hown, hts⟩ (c_X12_in l D G cI cJ cB cZ cO z2 0 1  H.size) (va_cwS 3 hts gX12_isSide_X12_in rfl rfl rfl (by decide +kernel) ⟨Nat.le_of_ble_eq_true rfl, Nat.le_of_ble_eq_true rfl⟩) (ct_preS (T := ct_T cI cJ cB cZ cO) hE hH hP hD hS hA [] (by decide) rfl) rfl rfl hl.1 rfl (lv_room (Nat.le_of_ble_eq_true rfl)) dX12_isSide_11 ⟨Nat.le_of_ble_eq_true rfl, Nat.le_of_ble_eq_true rfl⟩) hP hD hS hA [] [0, 1] rfl rfl (by decide) (by decide) (fun r4 u H locs hw hP hD hS => ?_)
    obtain ⟨hP, hD⟩ : ct_B D A H [mo qm vm_thrown qm_width qm_many qm_cells qm_moved qm_tape vm_taped vm_at vm_token vm_place vm_value vm_word vm_bad vm_badPlace vm_fault vm_faultPlace qm_lines qm_has qm_round qm_meets qm_stumble qm_isMud qm_cell qm_tune qm_change qm_isKept qm_steps qm_places qm_danced vm_runMost vm_runBegins qm_heardBy vm_fitMany vm_fitFirst vm_fitBeats vm_listenLeaves qm_there vm_metAt vm_metIn qm_wins vm_nightHoles vm_nightFirst vm_nightMud vm_nightSlips vm_drawnNow, (qm_lines, .inl (cI, 5, .inl (fm_lines)))] := ⟨hP, hD⟩
    have hk5 : (0 : Int64).toInt = 0 := by decide
    have hk6 : (1 : Int64).toInt = 1 := by decide
    have hz := hw
    rcases hz with ⟨hz, hz2⟩ | ⟨hz, hz2⟩
    · subst hz
      have hz_7 : ((0 : Int64).toInt ≤ z2.toInt ∧ z2.toInt ≤ (1 : Int64).toInt) := hz2
      refine lv_if_eq (tgt := 21) hx hb dX12_isSide_14 (by decide) (fun hc => absurd hc (by decide)) (fun _ => ?_)
      refine lv_iconst (v := 1) hx hb dX12_isSide_17 (by decide) ?_
      refine lv_goto (tgt := 22) hx hb dX12_isSide_18 (by decide) ?_
      obtain ⟨hP9, hD9⟩ : ct_B D A H [mo qm vm_thrown qm_width qm_many qm_cells qm_moved qm_tape vm_taped vm_at vm_token vm_place vm_value vm_word vm_bad vm_badPlace vm_fault vm_faultPlace qm_lines qm_has qm_round qm_meets qm_stumble qm_isMud qm_cell qm_tune qm_change qm_isKept qm_steps qm_places qm_danced vm_runMost vm_runBegins qm_heardBy vm_fitMany vm_fitFirst vm_fitBeats vm_listenLeaves qm_there vm_metAt vm_metIn qm_wins vm_nightHoles vm_nightFirst vm_nightMud vm_nightSlips vm_drawnNow, (qm_lines, .inl (cI, 5, .inl (fm_lines)))] := ⟨hP.sub [0, 1] rfl, hD.sub [0, 1] (by decide) rfl⟩
      exact W.zret (v := 1) (ty := .boolean) hx hb hr rfl (fun t ht hW => ⟨⟨1, (), rfl, (Or.inl ⟨rfl, (show (0 ≤ a1.toInt ∧ a1.toInt < 2) by omega)⟩), by rw [ht]; exact hP9, hD9⟩, hS.F ht⟩) hS.2.2 dX12_isSide_22
    · subst hz
      have hz_8 : ¬ ((0 : Int64).toInt ≤ z2.toInt ∧ z2.toInt ≤ (1 : Int64).toInt) := hz2
      refine lv_if_eq (tgt := 21) hx hb dX12_isSide_14 (by decide) (fun _ => ?_) (fun hc => absurd hc (by decide))
      refine lv_iconst (v := 0) hx hb dX12_isSide_21 (by decide) ?_
      obtain ⟨hP9, hD9⟩ : ct_B D A H [mo qm vm_thrown qm_width qm_many qm_cells qm_moved qm_tape vm_taped vm_at vm_token vm_place vm_value vm_word vm_bad vm_badPlace vm_fault vm_faultPlace qm_lines qm_has qm_round qm_meets qm_stumble qm_isMud qm_cell qm_tune qm_change qm_isKept qm_steps qm_places qm_danced vm_runMost vm_runBegins qm_heardBy vm_fitMany vm_fitFirst vm_fitBeats vm_listenLeaves qm_there vm_metAt vm_metIn qm_wins vm_nightHoles vm_nightFirst vm_nightMud vm_nightSlips vm_drawnNow, (qm_lines, .inl (cI, 5, .inl (fm_lines)))] := ⟨hP.sub [0, 1] rfl, hD.sub [0, 1] (by decide) rfl⟩
      exact W.zret (v := 0) (ty := .boolean) hx hb hr rfl (fun t ht hW => ⟨⟨0, (), rfl, (Or.inr (⟨rfl, trivial⟩)), by rw [ht]; exact hP9, hD9⟩, hS.F ht⟩) hS.2.2 dX12_isSide_22
  · subst hz
    refine lv_if_eq (tgt := 21) hx hb dX12_isSide_4 (by decide) (fun _ => ?_) (fun hc => absurd hc (by decide))
    refine lv_iconst (v := 0) hx hb dX12_isSide_21 (by decide) ?_
    obtain ⟨hP9, hD9⟩ : ct_B D A H [mo qm vm_thrown qm_width qm_many qm_cells qm_moved qm_tape vm_taped vm_at vm_token vm_place vm_value vm_word vm_bad vm_badPlace vm_fault vm_faultPlace qm_lines qm_has qm_round qm_meets qm_stumble qm_isMud qm_cell qm_tune qm_change qm_isKept qm_steps qm_places qm_danced vm_runMost vm_runBegins qm_heardBy vm_fitMany vm_fitFirst vm_fitBeats vm_listenLeaves qm_there vm_metAt vm_metIn qm_wins vm_nightHoles vm_nightFirst vm_nightMud vm_nightSlips vm_drawnNow, (qm_lines, .inl (cI, 5, .inl (fm_lines)))] := ⟨hP.sub [0, 1] rfl, hD.sub [0, 1] (by decide) rfl⟩
    exact W.zret (v := 0) (ty := .boolean) hx hb hr rfl (fun t ht hW => ⟨⟨0, (), rfl, (Or.inr (⟨rfl, trivial⟩)), by rw [ht]; exact hP9, hD9⟩, hS.F ht⟩) hS.2.2 dX12_isSide_22
abbrev w_c_X12_areRounds (cI cJ cB cZ cO : ClassId) (qm : Nat) (vm_thrown : Int32) (qm_width : Nat) (qm_many : Nat) (qm_cells : Nat) (qm_moved : Nat) (qm_tape : Nat) (vm_taped : Int32) (vm_at : Int32) (vm_token : Int32) (vm_place : Int32) (vm_value : Int32) (vm_word : Int64) (vm_bad : Int32) (vm_badPlace : Int32) (vm_fault : Int32) (vm_faultPlace : Int32) (qm_lines : Nat) (qm_has : Nat) (fm_has : Nat → Int32) (qm_round : Nat) (qm_meets : Nat) (qm_stumble : Nat) (qm_isMud : Nat) (qm_cell : Nat) (qm_tune : Nat) (qm_change : Nat) (qm_isKept : Nat) (qm_steps : Nat) (qm_places : Nat) (qm_danced : Nat) (vm_runMost : Int32) (vm_runBegins : Int32) (qm_heardBy : Nat) (vm_fitMany : Int32) (vm_fitFirst : Int32) (vm_fitBeats : Int64) (vm_listenLeaves : Int32) (qm_there : Nat) (vm_metAt : Int32) (vm_metIn : Int32) (qm_wins : Nat) (vm_nightHoles : Int32) (vm_nightFirst : Int32) (vm_nightMud : Int32) (vm_nightSlips : Int32) (vm_drawnNow : Int64) : va_W := [mo qm vm_thrown qm_width qm_many qm_cells qm_moved qm_tape vm_taped vm_at vm_token vm_place vm_value vm_word vm_bad vm_badPlace vm_fault vm_faultPlace qm_lines qm_has qm_round qm_meets qm_stumble qm_isMud qm_cell qm_tune qm_change qm_isKept qm_steps qm_places qm_danced vm_runMost vm_runBegins qm_heardBy vm_fitMany vm_fitFirst vm_fitBeats vm_listenLeaves qm_there vm_metAt vm_metIn qm_wins vm_nightHoles vm_nightFirst vm_nightMud vm_nightSlips vm_drawnNow, (qm_has, .inl (cI, 55, .inl (fm_has)))]
set_option maxHeartbeats 4000000 in
set_option maxRecDepth 100000 in
/-- X12 areRounds -/
theorem c_X12_areRounds (l : Launch) (D : va_G) (G : ct_G) (cI cJ cB cZ cO : ClassId) (qm : Nat) (vm_thrown : Int32) (qm_width : Nat) (qm_many : Nat) (qm_cells : Nat) (qm_moved : Nat) (qm_tape : Nat) (vm_taped : Int32) (vm_at : Int32) (vm_token : Int32) (vm_place : Int32) (vm_value : Int32) (vm_word : Int64) (vm_bad : Int32) (vm_badPlace : Int32) (vm_fault : Int32) (vm_faultPlace : Int32) (qm_lines : Nat) (qm_has : Nat) (fm_has : Nat → Int32) (qm_round : Nat) (qm_meets : Nat) (qm_stumble : Nat) (qm_isMud : Nat) (qm_cell : Nat) (qm_tune : Nat) (qm_change : Nat) (qm_isKept : Nat) (qm_steps : Nat) (qm_places : Nat) (qm_danced : Nat) (vm_runMost : Int32) (vm_runBegins : Int32) (qm_heardBy : Nat) (vm_fitMany : Int32) (vm_fitFirst : Int32) (vm_fitBeats : Int64) (vm_listenLeaves : Int32) (qm_there : Nat) (vm_metAt : Int32) (vm_metIn : Int32) (qm_wins : Nat) (vm_nightHoles : Int32) (vm_nightFirst : Int32) (vm_nightMud : Int32) (vm_nightSlips : Int32) (vm_drawnNow : Int64) (h_vm_taped : 0 ≤ vm_taped.toInt ∧ vm_taped.toInt ≤ 1200) (h_vm_at : 0 ≤ vm_at.toInt ∧ vm_at.toInt ≤ 1200) (h_vm_value : 0 ≤ vm_value.toInt ∧ vm_value.toInt ≤ 1000009) (h_fm_has : ar_ok [0, (-2147483648), (-2147483648), 0, 0, 0, 0, 0, 0, 0, 0] [20, 2147483647, 2147483647, 12, 12, 11, 11, 8, 12, 5, 40] fm_has) (sz : Nat) : Met l yX12_areRounds wsX12_areRounds ({ frames := 0, cells := 0, slots := 0, locals := 0 }) (va_Pc [.ref qm] (ct_P D (ct_T cI cJ cB cZ cO) G (w_c_X12_areRounds cI cJ cB cZ cO qm vm_thrown qm_width qm_many qm_cells qm_moved qm_tape vm_taped vm_at vm_token vm_place vm_value vm_word vm_bad vm_badPlace vm_fault vm_faultPlace qm_lines qm_has fm_has qm_round qm_meets qm_stumble qm_isMud qm_cell qm_tune qm_change qm_isKept qm_steps qm_places qm_danced vm_runMost vm_runBegins qm_heardBy vm_fitMany vm_fitFirst vm_fitBeats vm_listenLeaves qm_there vm_metAt vm_metIn qm_wins vm_nightHoles vm_nightFirst vm_nightMud vm_nightSlips vm_drawnNow) sz)) (va_Qi (fun (rz : Int32) (u : Unit) => ((rz = 1 ∧ 1 ≤ (fm_has 3).toInt ∧ 1 ≤ (fm_has 4).toInt) ∨ (rz = 0 ∧ True))) (fun (u : Unit) t => ct_Q D (va_A (w_c_X12_areRounds cI cJ cB cZ cO qm vm_thrown qm_width qm_many qm_cells qm_moved qm_tape vm_taped vm_at vm_token vm_place vm_value vm_word vm_bad vm_badPlace vm_fault vm_faultPlace qm_lines qm_has fm_has qm_round qm_meets qm_stumble qm_isMud qm_cell qm_tune qm_change qm_isKept qm_steps qm_places qm_danced vm_runMost vm_runBegins qm_heardBy vm_fitMany vm_fitFirst vm_fitBeats vm_listenLeaves qm_there vm_metAt vm_metIn qm_wins vm_nightHoles vm_nightFirst vm_nightMud vm_nightSlips vm_drawnNow) sz) [mo qm vm_thrown qm_width qm_many qm_cells qm_moved qm_tape vm_taped vm_at vm_token vm_place vm_value vm_word vm_bad vm_badPlace vm_fault vm_faultPlace qm_lines qm_has qm_round qm_meets qm_stumble qm_isMud qm_cell qm_tune qm_change qm_isKept qm_steps qm_places qm_danced vm_runMost vm_runBegins qm_heardBy vm_fitMany vm_fitFirst vm_fitBeats vm_listenLeaves qm_there vm_metAt vm_metIn qm_wins vm_nightHoles vm_nightFirst vm_nightMud vm_nightSlips vm_drawnNow, (qm_has, .inl (cI, 55, .inl (fm_has)))] t) (va_A (w_c_X12_areRounds cI cJ cB cZ cO qm vm_thrown qm_width qm_many qm_cells qm_moved qm_tape vm_taped vm_at vm_token vm_place vm_value vm_word vm_bad vm_badPlace vm_fault vm_faultPlace qm_lines qm_has fm_has qm_round qm_meets qm_stumble qm_isMud qm_cell qm_tune qm_change qm_isKept qm_steps qm_places qm_danced vm_runMost vm_runBegins qm_heardBy vm_fitMany vm_fitFirst vm_fitBeats vm_listenLeaves qm_there vm_metAt vm_metIn qm_wins vm_nightHoles vm_nightFirst vm_nightMud vm_nightSlips vm_drawnNow) sz)) 0 0 (va_A (w_c_X12_areRounds cI cJ cB cZ cO qm vm_thrown qm_width qm_many qm_cells qm_moved qm_tape vm_taped vm_at vm_token vm_place vm_value vm_word vm_bad vm_badPlace vm_fault vm_faultPlace qm_lines qm_has fm_has qm_round qm_meets qm_stumble qm_isMud qm_cell qm_tune qm_change qm_isKept qm_steps qm_places qm_danced vm_runMost vm_runBegins qm_heardBy vm_fitMany vm_fitFirst vm_fitBeats vm_listenLeaves qm_there vm_metAt vm_metIn qm_wins vm_nightHoles vm_nightFirst vm_nightMud vm_nightSlips vm_drawnNow) sz) := by
  refine Met.ofW (cc := cX12_areRounds) (maxL := 1) (ret := (some .boolean)) (by decide) rfl ?_
  intro p e s m args below meth c s₁ B hml hv
  obtain ⟨rfl, hsz, hP, hE, hD0, hH⟩ := hv
  have hx := B.exec
  have hb := B.bytes
  have hr := B.returns
  have hts := atoms_spec (ws := wsX12_areRounds) B.pre
  have hown : s.vm.findClass RX12 = some m.cls := findClass_of_methodNamed B.named
  have hlocks := B.notSynchronized
  have hK := hE.1
  have hi12 : ∀ w ∈ u_ws RX12 TX12 45, w ∈ wsX12_areRounds := fun w h => List.mem_cons_of_mem _ (List.mem_append_right _ h)
  subst hsz
  have hD := hD0.self (sz := s.heap.size)
  generalize hAe : va_A (w_c_X12_areRounds cI cJ cB cZ cO qm vm_thrown qm_width qm_many qm_cells qm_moved qm_tape vm_taped vm_at vm_token vm_place vm_value vm_word vm_bad vm_badPlace vm_fault vm_faultPlace qm_lines qm_has fm_has qm_round qm_meets qm_stumble qm_isMud qm_cell qm_tune qm_change qm_isKept qm_steps qm_places qm_danced vm_runMost vm_runBegins qm_heardBy vm_fitMany vm_fitFirst vm_fitBeats vm_listenLeaves qm_there vm_metAt vm_metIn qm_wins vm_nightHoles vm_nightFirst vm_nightMud vm_nightSlips vm_drawnNow) s.heap.size = A at hD hH ⊢
  have hA : ∀ q : Nat, s.heap.size ≤ q → A q := fun q h => by rw [← hAe]; exact Or.inr h
  have hS : va_S A s.heap s.heap [] := va_S.rf
  obtain ⟨hP, hD⟩ : ct_B D A s.heap [mo qm vm_thrown qm_width qm_many qm_cells qm_moved qm_tape vm_taped vm_at vm_token vm_place vm_value vm_word vm_bad vm_badPlace vm_fault vm_faultPlace qm_lines qm_has qm_round qm_meets qm_stumble qm_isMud qm_cell qm_tune qm_change qm_isKept qm_steps qm_places qm_danced vm_runMost vm_runBegins qm_heardBy vm_fitMany vm_fitFirst vm_fitBeats vm_listenLeaves qm_there vm_metAt vm_metIn qm_wins vm_nightHoles vm_nightFirst vm_nightMud vm_nightSlips vm_drawnNow, (qm_has, .inl (cI, 55, .inl (fm_has)))] := ⟨hP, hD⟩
  have hl := lv_entry ([.ref qm]) (n := 1) (Nat.le_of_ble_eq_true rfl)
  rw [lg_entry_eq]
  generalize (lg_sl ([.ref qm]) ++ List.replicate (1 - (lg_sl ([.ref qm])).length) Slot.unset).toArray = ls at hl ⊢
  have hl : lv_has ls 1 [(0, .ref qm)] := hl
  obtain ⟨H, hHe⟩ : ∃ H : Heap, H = s.heap := ⟨_, rfl⟩
  rw [← hHe] at hP
  have hS : va_S A s.heap H [] := by rw [hHe]; exact va_S.rf
  refine ct_start hHe ?_
  refine lv_aload_n hx hb dX12_areRounds_0 rfl (lv_at hl 0 rfl) ?_
  refine va_get (D := D) (ci := 12) (v := .ref qm_has) (C := RX12) (T := TX12) (N := 45) hx hb hts hi12 hown hK hP 0 rfl rfl 17 (by decide) (hts (.fieldLink RX12 34 "OverHillModel" "has" "[I") (by decide +kernel)) (fun _ h9 => h9) rfl dX12_areRounds_1 ?_
  refine lv_iconst (v := 3) hx hb dX12_areRounds_4 (by decide) ?_
  refine va_iald (D := D) hx hb hK hP 1 0 rfl rfl (tq_in (a := 3) (by decide) (by omega)) dX12_areRounds_5 ?_
  refine lv_topi (fun z1 ez1 => ?_)
  have fz1 : 0 ≤ z1.toInt ∧ z1.toInt ≤ 12 := by rw [ez1]; exact ar_get h_fm_has (3 : Int32) 3 (by decide) (by decide) rfl
  have gz1 : z1.toInt = (fm_has 3).toInt := by rw [ez1]; rfl
  refine lv_if_le (tgt := 22) hx hb dX12_areRounds_6 (by decide) (fun hc => ?_) (fun hc => ?_)
  · have hq2 : z1.toInt ≤ 0 := tq_le rfl (by decide) hc
    refine lv_iconst (v := 0) hx hb dX12_areRounds_22 (by decide) ?_
    obtain ⟨hP9, hD9⟩ : ct_B D A H [mo qm vm_thrown qm_width qm_many qm_cells qm_moved qm_tape vm_taped vm_at vm_token vm_place vm_value vm_word vm_bad vm_badPlace vm_fault vm_faultPlace qm_lines qm_has qm_round qm_meets qm_stumble qm_isMud qm_cell qm_tune qm_change qm_isKept qm_steps qm_places qm_danced vm_runMost vm_runBegins qm_heardBy vm_fitMany vm_fitFirst vm_fitBeats vm_listenLeaves qm_there vm_metAt vm_metIn qm_wins vm_nightHoles vm_nightFirst vm_nightMud vm_nightSlips vm_drawnNow, (qm_has, .inl (cI, 55, .inl (fm_has)))] := ⟨hP.sub [0, 1] rfl, hD.sub [0, 1] (by decide) rfl⟩
    exact W.zret (v := 0) (ty := .boolean) hx hb hr rfl (fun t ht hW => ⟨⟨0, (), rfl, (Or.inr (⟨rfl, trivial⟩)), by rw [ht]; exact hP9, hD9⟩, hS.F ht⟩) hS.2.2 dX12_areRounds_23
  · have hq2 : 0 < z1.toInt := tq_nle rfl (by decide) hc
    refine lv_aload_n hx hb dX12_areRounds_9 rfl (lv_at hl 0 rfl) ?_
    refine va_get (D := D) (ci := 12) (v := .ref qm_has) (C := RX12) (T := TX12) (N := 45) hx hb hts hi12 hown hK hP 0 rfl rfl 17 (by decide) (hts (.fieldLink RX12 34 "OverHillModel" "has" "[I") (by decide +kernel)) (fun _ h9 => h9) rfl dX12_areRounds_10 ?_
    refine lv_iconst (v := 4) hx hb dX12_areRounds_13 (by decide) ?_
    refine va_iald (D := D) hx hb hK hP 1 0 rfl rfl (tq_in (a := 4) (by decide) (by omega)) dX12_areRounds_14 ?_
    refine lv_topi (fun z3 ez3 => ?_)
    have fz3 : 0 ≤ z3.toInt ∧ z3.toInt ≤ 12 := by rw [ez3]; exact ar_get h_fm_has (4 : Int32) 4 (by decide) (by decide) rfl
    have gz3 : z3.toInt = (fm_has 4).toInt := by rw [ez3]; rfl
    refine lv_if_le (tgt := 22) hx hb dX12_areRounds_15 (by decide) (fun hc => ?_) (fun hc => ?_)
    · have hq4 : z3.toInt ≤ 0 := tq_le rfl (by decide) hc
      refine lv_iconst (v := 0) hx hb dX12_areRounds_22 (by decide) ?_
      obtain ⟨hP9, hD9⟩ : ct_B D A H [mo qm vm_thrown qm_width qm_many qm_cells qm_moved qm_tape vm_taped vm_at vm_token vm_place vm_value vm_word vm_bad vm_badPlace vm_fault vm_faultPlace qm_lines qm_has qm_round qm_meets qm_stumble qm_isMud qm_cell qm_tune qm_change qm_isKept qm_steps qm_places qm_danced vm_runMost vm_runBegins qm_heardBy vm_fitMany vm_fitFirst vm_fitBeats vm_listenLeaves qm_there vm_metAt vm_metIn qm_wins vm_nightHoles vm_nightFirst vm_nightMud vm_nightSlips vm_drawnNow, (qm_has, .inl (cI, 55, .inl (fm_has)))] := ⟨hP.sub [0, 1] rfl, hD.sub [0, 1] (by decide) rfl⟩
      exact W.zret (v := 0) (ty := .boolean) hx hb hr rfl (fun t ht hW => ⟨⟨0, (), rfl, (Or.inr (⟨rfl, trivial⟩)), by rw [ht]; exact hP9, hD9⟩, hS.F ht⟩) hS.2.2 dX12_areRounds_23
    · have hq4 : 0 < z3.toInt := tq_nle rfl (by decide) hc
      refine lv_iconst (v := 1) hx hb dX12_areRounds_18 (by decide) ?_
      refine lv_goto (tgt := 23) hx hb dX12_areRounds_19 (by decide) ?_
      obtain ⟨hP9, hD9⟩ : ct_B D A H [mo qm vm_thrown qm_width qm_many qm_cells qm_moved qm_tape vm_taped vm_at vm_token vm_place vm_value vm_word vm_bad vm_badPlace vm_fault vm_faultPlace qm_lines qm_has qm_round qm_meets qm_stumble qm_isMud qm_cell qm_tune qm_change qm_isKept qm_steps qm_places qm_danced vm_runMost vm_runBegins qm_heardBy vm_fitMany vm_fitFirst vm_fitBeats vm_listenLeaves qm_there vm_metAt vm_metIn qm_wins vm_nightHoles vm_nightFirst vm_nightMud vm_nightSlips vm_drawnNow, (qm_has, .inl (cI, 55, .inl (fm_has)))] := ⟨hP.sub [0, 1] rfl, hD.sub [0, 1] (by decide) rfl⟩
      exact W.zret (v := 1) (ty := .boolean) hx hb hr rfl (fun t ht hW => ⟨⟨1, (), rfl, (Or.inl ⟨rfl, (show 1 ≤ (fm_has 3).toInt ∧ 1 ≤ (fm_has 4).toInt by omega)⟩), by rw [ht]; exact hP9, hD9⟩, hS.F ht⟩) hS.2.2 dX12_areRounds_23
abbrev w_c_X12_step (cI cJ cB cZ cO : ClassId) (qm : Nat) (vm_thrown : Int32) (qm_width : Nat) (qm_many : Nat) (qm_cells : Nat) (qm_moved : Nat) (qm_tape : Nat) (vm_taped : Int32) (vm_at : Int32) (vm_token : Int32) (vm_place : Int32) (vm_value : Int32) (vm_word : Int64) (vm_bad : Int32) (vm_badPlace : Int32) (vm_fault : Int32) (vm_faultPlace : Int32) (qm_lines : Nat) (fm_lines : Nat → Int32) (qm_has : Nat) (fm_has : Nat → Int32) (qm_round : Nat) (fm_round : Nat → Int32) (qm_meets : Nat) (qm_stumble : Nat) (qm_isMud : Nat) (qm_cell : Nat) (qm_tune : Nat) (qm_change : Nat) (qm_isKept : Nat) (qm_steps : Nat) (qm_places : Nat) (qm_danced : Nat) (vm_runMost : Int32) (vm_runBegins : Int32) (qm_heardBy : Nat) (vm_fitMany : Int32) (vm_fitFirst : Int32) (vm_fitBeats : Int64) (vm_listenLeaves : Int32) (qm_there : Nat) (vm_metAt : Int32) (vm_metIn : Int32) (qm_wins : Nat) (vm_nightHoles : Int32) (vm_nightFirst : Int32) (vm_nightMud : Int32) (vm_nightSlips : Int32) (vm_drawnNow : Int64) : va_W := [mo qm vm_thrown qm_width qm_many qm_cells qm_moved qm_tape vm_taped vm_at vm_token vm_place vm_value vm_word vm_bad vm_badPlace vm_fault vm_faultPlace qm_lines qm_has qm_round qm_meets qm_stumble qm_isMud qm_cell qm_tune qm_change qm_isKept qm_steps qm_places qm_danced vm_runMost vm_runBegins qm_heardBy vm_fitMany vm_fitFirst vm_fitBeats vm_listenLeaves qm_there vm_metAt vm_metIn qm_wins vm_nightHoles vm_nightFirst vm_nightMud vm_nightSlips vm_drawnNow, (qm_lines, .inl (cI, 5, .inl (fm_lines))), (qm_has, .inl (cI, 55, .inl (fm_has))), (qm_round, .inl (cI, 120, .inl (fm_round)))]
set_option maxHeartbeats 4000000 in
set_option maxRecDepth 100000 in
/-- X12 step -/
theorem c_X12_step (l : Launch) (D : va_G) (G : ct_G) (cI cJ cB cZ cO : ClassId) (qm : Nat) (vm_thrown : Int32) (qm_width : Nat) (qm_many : Nat) (qm_cells : Nat) (qm_moved : Nat) (qm_tape : Nat) (vm_taped : Int32) (vm_at : Int32) (vm_token : Int32) (vm_place : Int32) (vm_value : Int32) (vm_word : Int64) (vm_bad : Int32) (vm_badPlace : Int32) (vm_fault : Int32) (vm_faultPlace : Int32) (qm_lines : Nat) (fm_lines : Nat → Int32) (qm_has : Nat) (fm_has : Nat → Int32) (qm_round : Nat) (fm_round : Nat → Int32) (qm_meets : Nat) (qm_stumble : Nat) (qm_isMud : Nat) (qm_cell : Nat) (qm_tune : Nat) (qm_change : Nat) (qm_isKept : Nat) (qm_steps : Nat) (qm_places : Nat) (qm_danced : Nat) (vm_runMost : Int32) (vm_runBegins : Int32) (qm_heardBy : Nat) (vm_fitMany : Int32) (vm_fitFirst : Int32) (vm_fitBeats : Int64) (vm_listenLeaves : Int32) (qm_there : Nat) (vm_metAt : Int32) (vm_metIn : Int32) (qm_wins : Nat) (vm_nightHoles : Int32) (vm_nightFirst : Int32) (vm_nightMud : Int32) (vm_nightSlips : Int32) (vm_drawnNow : Int64) (a1 : Int32) (a2 : Int32) (h_vm_taped : 0 ≤ vm_taped.toInt ∧ vm_taped.toInt ≤ 1200) (h_vm_at : 0 ≤ vm_at.toInt ∧ vm_at.toInt ≤ 1200) (h_vm_value : 0 ≤ vm_value.toInt ∧ vm_value.toInt ≤ 1000009) (h_fm_has : ar_ok [0, (-2147483648), (-2147483648), 0, 0, 0, 0, 0, 0, 0, 0] [20, 2147483647, 2147483647, 12, 12, 11, 11, 8, 12, 5, 40] fm_has) (h_fm_round : ar_ok [0] [5] fm_round) (sz : Nat) : Met l yX12_step wsX12_step ({ frames := 2, cells := 0, slots := 0, locals := 46 }) (va_Pc [.ref qm, .int a1, .int a2] (ct_P D (ct_T cI cJ cB cZ cO) G (w_c_X12_step cI cJ cB cZ cO qm vm_thrown qm_width qm_many qm_cells qm_moved qm_tape vm_taped vm_at vm_token vm_place vm_value vm_word vm_bad vm_badPlace vm_fault vm_faultPlace qm_lines fm_lines qm_has fm_has qm_round fm_round qm_meets qm_stumble qm_isMud qm_cell qm_tune qm_change qm_isKept qm_steps qm_places qm_danced vm_runMost vm_runBegins qm_heardBy vm_fitMany vm_fitFirst vm_fitBeats vm_listenLeaves qm_there vm_metAt vm_metIn qm_wins vm_nightHoles vm_nightFirst vm_nightMud vm_nightSlips vm_drawnNow) sz)) (va_Qi (fun (rz : Int32) (u : Int32) => ((-2) ≤ rz.toInt ∧ rz.toInt ≤ 5)) (fun (u : Int32) t => ct_Q D (va_A (w_c_X12_step cI cJ cB cZ cO qm vm_thrown qm_width qm_many qm_cells qm_moved qm_tape vm_taped vm_at vm_token vm_place vm_value vm_word vm_bad vm_badPlace vm_fault vm_faultPlace qm_lines fm_lines qm_has fm_has qm_round fm_round qm_meets qm_stumble qm_isMud qm_cell qm_tune qm_change qm_isKept qm_steps qm_places qm_danced vm_runMost vm_runBegins qm_heardBy vm_fitMany vm_fitFirst vm_fitBeats vm_listenLeaves qm_there vm_metAt vm_metIn qm_wins vm_nightHoles vm_nightFirst vm_nightMud vm_nightSlips vm_drawnNow) sz) [mo qm u qm_width qm_many qm_cells qm_moved qm_tape vm_taped vm_at vm_token vm_place vm_value vm_word vm_bad vm_badPlace vm_fault vm_faultPlace qm_lines qm_has qm_round qm_meets qm_stumble qm_isMud qm_cell qm_tune qm_change qm_isKept qm_steps qm_places qm_danced vm_runMost vm_runBegins qm_heardBy vm_fitMany vm_fitFirst vm_fitBeats vm_listenLeaves qm_there vm_metAt vm_metIn qm_wins vm_nightHoles vm_nightFirst vm_nightMud vm_nightSlips vm_drawnNow, (qm_lines, .inl (cI, 5, .inl (fm_lines))), (qm_has, .inl (cI, 55, .inl (fm_has))), (qm_round, .inl (cI, 120, .inl (fm_round)))] t) (va_A (w_c_X12_step cI cJ cB cZ cO qm vm_thrown qm_width qm_many qm_cells qm_moved qm_tape vm_taped vm_at vm_token vm_place vm_value vm_word vm_bad vm_badPlace vm_fault vm_faultPlace qm_lines fm_lines qm_has fm_has qm_round fm_round qm_meets qm_stumble qm_isMud qm_cell qm_tune qm_change qm_isKept qm_steps qm_places qm_danced vm_runMost vm_runBegins qm_heardBy vm_fitMany vm_fitFirst vm_fitBeats vm_listenLeaves qm_there vm_metAt vm_metIn qm_wins vm_nightHoles vm_nightFirst vm_nightMud vm_nightSlips vm_drawnNow) sz)) 0 0 (va_A (w_c_X12_step cI cJ cB cZ cO qm vm_thrown qm_width qm_many qm_cells qm_moved qm_tape vm_taped vm_at vm_token vm_place vm_value vm_word vm_bad vm_badPlace vm_fault vm_faultPlace qm_lines fm_lines qm_has fm_has qm_round fm_round qm_meets qm_stumble qm_isMud qm_cell qm_tune qm_change qm_isKept qm_steps qm_places qm_danced vm_runMost vm_runBegins qm_heardBy vm_fitMany vm_fitFirst vm_fitBeats vm_listenLeaves qm_there vm_metAt vm_metIn qm_wins vm_nightHoles vm_nightFirst vm_nightMud vm_nightSlips vm_drawnNow) sz) := by
  refine Met.ofW (cc := cX12_step) (maxL := 3) (ret := (some .int)) (by decide) rfl ?_
  intro p e s m args below meth c s₁ B hml hv
  obtain ⟨rfl, hsz, hP, hE, hD0, hH⟩ := hv
  have hx := B.exec
  have hb := B.bytes
  have hr := B.returns
  have hts := atoms_spec (ws := wsX12_step) B.pre
  have hown : s.vm.findClass RX12 = some m.cls := findClass_of_methodNamed B.named
  have hlocks := B.notSynchronized
  have hK := hE.1
  have hi12 : ∀ w ∈ u_ws RX12 TX12 45, w ∈ wsX12_step := fun w h => List.mem_cons_of_mem _ (List.mem_append_right _ h)
  subst hsz
  have hD := hD0.self (sz := s.heap.size)
  generalize hAe : va_A (w_c_X12_step cI cJ cB cZ cO qm vm_thrown qm_width qm_many qm_cells qm_moved qm_tape vm_taped vm_at vm_token vm_place vm_value vm_word vm_bad vm_badPlace vm_fault vm_faultPlace qm_lines fm_lines qm_has fm_has qm_round fm_round qm_meets qm_stumble qm_isMud qm_cell qm_tune qm_change qm_isKept qm_steps qm_places qm_danced vm_runMost vm_runBegins qm_heardBy vm_fitMany vm_fitFirst vm_fitBeats vm_listenLeaves qm_there vm_metAt vm_metIn qm_wins vm_nightHoles vm_nightFirst vm_nightMud vm_nightSlips vm_drawnNow) s.heap.size = A at hD hH ⊢
  have hA : ∀ q : Nat, s.heap.size ≤ q → A q := fun q h => by rw [← hAe]; exact Or.inr h
  have hS : va_S A s.heap s.heap [] := va_S.rf
  obtain ⟨hP, hD⟩ : ct_B D A s.heap [mo qm vm_thrown qm_width qm_many qm_cells qm_moved qm_tape vm_taped vm_at vm_token vm_place vm_value vm_word vm_bad vm_badPlace vm_fault vm_faultPlace qm_lines qm_has qm_round qm_meets qm_stumble qm_isMud qm_cell qm_tune qm_change qm_isKept qm_steps qm_places qm_danced vm_runMost vm_runBegins qm_heardBy vm_fitMany vm_fitFirst vm_fitBeats vm_listenLeaves qm_there vm_metAt vm_metIn qm_wins vm_nightHoles vm_nightFirst vm_nightMud vm_nightSlips vm_drawnNow, (qm_lines, .inl (cI, 5, .inl (fm_lines))), (qm_has, .inl (cI, 55, .inl (fm_has))), (qm_round, .inl (cI, 120, .inl (fm_round)))] := ⟨hP, hD⟩
  have hl := lv_entry ([.ref qm, .int a1, .int a2]) (n := 3) (Nat.le_of_ble_eq_true rfl)
  rw [lg_entry_eq]
  generalize (lg_sl ([.ref qm, .int a1, .int a2]) ++ List.replicate (3 - (lg_sl ([.ref qm, .int a1, .int a2])).length) Slot.unset).toArray = ls at hl ⊢
  have hl : lv_has ls 3 [(0, .ref qm), (1, .int a1), (2, .int a2)] := hl
  obtain ⟨H, hHe⟩ : ∃ H : Heap, H = s.heap := ⟨_, rfl⟩
  rw [← hHe] at hP
  have hS : va_S A s.heap H [] := by rw [hHe]; exact va_S.rf
  refine ct_start hHe ?_
  refine lv_aload_n hx hb dX12_step_0 rfl (lv_at hl 0 rfl) ?_
  refine lv_iconst (v := 0) hx hb dX12_step_1 (by decide) ?_
  refine va_put (D := D) (ci := 12) (v := .int 0) (ty := .int) (C := RX12) (T := TX12) (N := 45) hx hb hts hi12 tyX12 tyX12_ok nmX12 hown hK hP hD hS 0 rfl rfl 0 (by decide) (hts (.fieldLink RX12 80 "OverHillModel" "thrown" "I") (by decide +kernel)) (fun _ h9 => h9) rfl (by decide +kernel) rfl rfl (Nat.le_of_ble_eq_true rfl) dX12_step_2 (fun H locs hP hD hS => ?_)
  obtain ⟨hP, hD⟩ : ct_B D A H [mo qm 0 qm_width qm_many qm_cells qm_moved qm_tape vm_taped vm_at vm_token vm_place vm_value vm_word vm_bad vm_badPlace vm_fault vm_faultPlace qm_lines qm_has qm_round qm_meets qm_stumble qm_isMud qm_cell qm_tune qm_change qm_isKept qm_steps qm_places qm_danced vm_runMost vm_runBegins qm_heardBy vm_fitMany vm_fitFirst vm_fitBeats vm_listenLeaves qm_there vm_metAt vm_metIn qm_wins vm_nightHoles vm_nightFirst vm_nightMud vm_nightSlips vm_drawnNow, (qm_lines, .inl (cI, 5, .inl (fm_lines))), (qm_has, .inl (cI, 55, .inl (fm_has))), (qm_round, .inl (cI, 120, .inl (fm_round)))] := ⟨hP, hD⟩
  refine lv_aload_n hx hb dX12_step_5 rfl (lv_at hl 0 rfl) ?_
  refine lv_iload_n hx hb dX12_step_6 rfl (lv_at hl 1 rfl) ?_
  refine ct_calli (D := D) (wr := [(qm_has, .inl (cI, 55, .inl (fm_has))), (qm_round, .inl (cI, 120, .inl (fm_round)))]) (va_runV (As := [.int a1]) (rest := []) ⟨hx, hb, hml, hown, hts⟩ (c_X12_isSide l D G cI cJ cB cZ cO qm 0 qm_width qm_many qm_cells qm_moved qm_tape vm_taped vm_at vm_token vm_place vm_value vm_word vm_bad vm_badPlace vm_fault vm_faultPlace qm_lines fm_lines qm_has qm_round qm_meets qm_stumble qm_isMud qm_cell qm_tune qm_change qm_isKept qm_steps qm_places qm_danced vm_runMost vm_runBegins qm_heardBy vm_fitMany vm_fitFirst vm_fitBeats vm_listenLeaves qm_there vm_metAt vm_metIn qm_wins vm_nightHoles vm_nightFirst vm_nightMud vm_nightSlips vm_drawnNow a1 h_vm_taped h_vm_at h_vm_value H.size) (cwV 1 hts gX12_step_X12_isSide rfl rfl rfl (by decide +kernel) ⟨Nat.le_of_ble_eq_true rfl, Nat.le_of_ble_eq_true rfl⟩) (ct_preV (T := ct_T cI cJ cB cZ cO) (ci := 12) (q0 := 0) hE hH hP hD hS hA [0, 1] (by decide) rfl rfl rfl) rfl rfl hl.1 rfl (lv_room (Nat.le_of_ble_eq_true rfl)) dX12_step_7 ⟨Nat.le_of_ble_eq_true rfl, Nat.le_of_ble_eq_true rfl⟩) hP hD hS hA [0, 1] [2, 3] rfl rfl (by decide) (by decide) (fun r1 u H locs hw hP hD hS => ?_)
  obtain ⟨hP, hD⟩ : ct_B D A H [(qm_has, .inl (cI, 55, .inl (fm_has))), (qm_round, .inl (cI, 120, .inl (fm_round))), mo qm 0 qm_width qm_many qm_cells qm_moved qm_tape vm_taped vm_at vm_token vm_place vm_value vm_word vm_bad vm_badPlace vm_fault vm_faultPlace qm_lines qm_has qm_round qm_meets qm_stumble qm_isMud qm_cell qm_tune qm_change qm_isKept qm_steps qm_places qm_danced vm_runMost vm_runBegins qm_heardBy vm_fitMany vm_fitFirst vm_fitBeats vm_listenLeaves qm_there vm_metAt vm_metIn qm_wins vm_nightHoles vm_nightFirst vm_nightMud vm_nightSlips vm_drawnNow, (qm_lines, .inl (cI, 5, .inl (fm_lines)))] := ⟨hP, hD⟩
  have hz := hw
  rcases hz with ⟨hz, hz2⟩ | ⟨hz, hz2⟩
  · subst hz
    have hz_2 : (0 ≤ a1.toInt ∧ a1.toInt < 2) := hz2
    refine lv_if_ne (tgt := 18) hx hb dX12_step_10 (by decide) (fun _ => ?_) (fun hc => absurd hc (by decide))
    refine lv_iload_n hx hb dX12_step_18 rfl (lv_at hl 2 rfl) ?_
    refine lv_i2l (v := _) hx hb dX12_step_19 rfl ?_
    refine lv_topl (fun z3 ez3 => ?_)
    have fz3 : z3.toInt = a2.toInt := by rw [ez3]; exact tl_i rfl
    have hb4 := tq_lo a2
    refine lv_lconst (v := 0) hx hb dX12_step_20 (by decide) ?_
    refine lv_aload_n hx hb dX12_step_21 rfl (lv_at hl 0 rfl) ?_
    refine lv_iload_n hx hb dX12_step_22 rfl (lv_at hl 1 rfl) ?_
    refine ct_calli (D := D) (wr := [(qm_round, .inl (cI, 120, .inl (fm_round))), (qm_lines, .inl (cI, 5, .inl (fm_lines)))]) (va_runV (As := [.int a1]) (rest := [.long 0, .long z3]) ⟨hx, hb, hml, hown, hts⟩ (c_X12_lengthOf l D G cI cJ cB cZ cO qm 0 qm_width qm_many qm_cells qm_moved qm_tape vm_taped vm_at vm_token vm_place vm_value vm_word vm_bad vm_badPlace vm_fault vm_faultPlace qm_lines qm_has fm_has qm_round qm_meets qm_stumble qm_isMud qm_cell qm_tune qm_change qm_isKept qm_steps qm_places qm_danced vm_runMost vm_runBegins qm_heardBy vm_fitMany vm_fitFirst vm_fitBeats vm_listenLeaves qm_there vm_metAt vm_metIn qm_wins vm_nightHoles vm_nightFirst vm_nightMud vm_nightSlips vm_drawnNow a1 h_vm_taped h_vm_at h_vm_value h_fm_has (by omega) H.size) (cwV 1 hts gX12_step_X12_lengthOf rfl rfl rfl (by decide +kernel) ⟨Nat.le_of_ble_eq_true rfl, Nat.le_of_ble_eq_true rfl⟩) (ct_preV (T := ct_T cI cJ cB cZ cO) (ci := 12) (q0 := 2) hE hH hP hD hS hA [2, 0] (by decide) rfl rfl rfl) rfl rfl hl.1 rfl (lv_room (Nat.le_of_ble_eq_true rfl)) dX12_step_23 ⟨Nat.le_of_ble_eq_true rfl, Nat.le_of_ble_eq_true rfl⟩) hP hD hS hA [2, 0] [1, 3] rfl rfl (by decide) (by decide) (fun r5 u H locs hw hP hD hS => ?_)
    obtain ⟨hP, hD⟩ : ct_B D A H [(qm_round, .inl (cI, 120, .inl (fm_round))), (qm_lines, .inl (cI, 5, .inl (fm_lines))), mo qm 0 qm_width qm_many qm_cells qm_moved qm_tape vm_taped vm_at vm_token vm_place vm_value vm_word vm_bad vm_badPlace vm_fault vm_faultPlace qm_lines qm_has qm_round qm_meets qm_stumble qm_isMud qm_cell qm_tune qm_change qm_isKept qm_steps qm_places qm_danced vm_runMost vm_runBegins qm_heardBy vm_fitMany vm_fitFirst vm_fitBeats vm_listenLeaves qm_there vm_metAt vm_metIn qm_wins vm_nightHoles vm_nightFirst vm_nightMud vm_nightSlips vm_drawnNow, (qm_has, .inl (cI, 55, .inl (fm_has)))] := ⟨hP, hD⟩
    obtain ⟨hz, hp0⟩ := hw
    have hp_6 : r5 = fm_has (3 + a1.toInt).toNat := hp0
    have h_r5 : 0 ≤ r5.toInt ∧ r5.toInt ≤ 12 := hz
    refine lv_iconst (v := 1) hx hb dX12_step_26 (by decide) ?_
    refine lv_isub hx hb dX12_step_27 ?_
    refine lv_topi (fun z7 ez7 => ?_)
    have fz7 : z7.toInt = r5.toInt - 1 := by rw [ez7]; exact tq_subt rfl (by decide) (by omega)
    refine lv_i2l (v := _) hx hb dX12_step_28 rfl ?_
    refine lv_topl (fun z8 ez8 => ?_)
    have fz8 : z8.toInt = z7.toInt := by rw [ez8]; exact tl_i rfl
    refine ct_calli (D := D) (wr := [(qm_round, .inl (cI, 120, .inl (fm_round))), (qm_lines, .inl (cI, 5, .inl (fm_lines))), mo qm 0 qm_width qm_many qm_cells qm_moved qm_tape vm_taped vm_at vm_token vm_place vm_value vm_word vm_bad vm_badPlace vm_fault vm_faultPlace qm_lines qm_has qm_round qm_meets qm_stumble qm_isMud qm_cell qm_tune qm_change qm_isKept qm_steps qm_places qm_danced vm_runMost vm_runBegins qm_heardBy vm_fitMany vm_fitFirst vm_fitBeats vm_listenLeaves qm_there vm_metAt vm_metIn qm_wins vm_nightHoles vm_nightFirst vm_nightMud vm_nightSlips vm_drawnNow, (qm_has, .inl (cI, 55, .inl (fm_has)))]) (va_runS (As := [.long z3, .long 0, .long z8]) (rest := []) ⟨hx, hb, hml, hown, hts⟩ (c_X12_in l D G cI cJ cB cZ cO z3 0 z8  H.size) (va_cwS 3 hts gX12_step_X12_in rfl rfl rfl (by decide +kernel) ⟨Nat.le_of_ble_eq_true rfl, Nat.le_of_ble_eq_true rfl⟩) (ct_preS (T := ct_T cI cJ cB cZ cO) hE hH hP hD hS hA [] (by decide) rfl) rfl rfl hl.1 rfl (lv_room (Nat.le_of_ble_eq_true rfl)) dX12_step_29 ⟨Nat.le_of_ble_eq_true rfl, Nat.le_of_ble_eq_true rfl⟩) hP hD hS hA [] [0, 1, 2, 3] rfl rfl (by decide) (by decide) (fun r9 u H locs hw hP hD hS => ?_)
    obtain ⟨hP, hD⟩ : ct_B D A H [(qm_round, .inl (cI, 120, .inl (fm_round))), (qm_lines, .inl (cI, 5, .inl (fm_lines))), mo qm 0 qm_width qm_many qm_cells qm_moved qm_tape vm_taped vm_at vm_token vm_place vm_value vm_word vm_bad vm_badPlace vm_fault vm_faultPlace qm_lines qm_has qm_round qm_meets qm_stumble qm_isMud qm_cell qm_tune qm_change qm_isKept qm_steps qm_places qm_danced vm_runMost vm_runBegins qm_heardBy vm_fitMany vm_fitFirst vm_fitBeats vm_listenLeaves qm_there vm_metAt vm_metIn qm_wins vm_nightHoles vm_nightFirst vm_nightMud vm_nightSlips vm_drawnNow, (qm_has, .inl (cI, 55, .inl (fm_has)))] := ⟨hP, hD⟩
    have hk10 : (0 : Int64).toInt = 0 := by decide
    have hz := hw
    rcases hz with ⟨hz, hz2⟩ | ⟨hz, hz2⟩
    · subst hz
      have hz_11 : ((0 : Int64).toInt ≤ z3.toInt ∧ z3.toInt ≤ z8.toInt) := hz2
      refine lv_if_eq (tgt := 49) hx hb dX12_step_32 (by decide) (fun hc => absurd hc (by decide)) (fun _ => ?_)
      refine lv_aload_n hx hb dX12_step_35 rfl (lv_at hl 0 rfl) ?_
      refine va_get (D := D) (ci := 12) (v := .ref qm_round) (C := RX12) (T := TX12) (N := 45) hx hb hts hi12 hown hK hP 2 rfl rfl 18 (by decide) (hts (.fieldLink RX12 37 "OverHillModel" "round" "[I") (by decide +kernel)) (fun _ h9 => h9) rfl dX12_step_36 ?_
      refine lv_bipush (v := 12) hx hb dX12_step_39 (by decide) ?_
      refine lv_iload_n hx hb dX12_step_41 rfl (lv_at hl 1 rfl) ?_
      refine lv_imul hx hb dX12_step_42 ?_
      refine lv_topi (fun z12 ez12 => ?_)
      have fz12 : z12.toInt = 12 * a1.toInt := by rw [ez12]; exact tq_mul (by decide) rfl (by omega)
      refine lv_iload_n hx hb dX12_step_43 rfl (lv_at hl 2 rfl) ?_
      refine lv_iadd hx hb dX12_step_44 ?_
      refine lv_topi (fun z13 ez13 => ?_)
      have fz13 : z13.toInt = z12.toInt + a2.toInt := by rw [ez13]; exact tq_add rfl rfl (by omega)
      refine va_iald (D := D) hx hb hK hP 0 0 rfl rfl (tq_in rfl (by omega)) dX12_step_45 ?_
      refine lv_topi (fun z14 ez14 => ?_)
      have fz14 : 0 ≤ z14.toInt ∧ z14.toInt ≤ 5 := by rw [ez14]; exact ar_get h_fm_round z13 0 (by omega) (show z13.toInt % 1 = 0 by omega) rfl
      refine lv_goto (tgt := 50) hx hb dX12_step_46 (by decide) ?_
      obtain ⟨hP9, hD9⟩ : ct_B D A H [mo qm 0 qm_width qm_many qm_cells qm_moved qm_tape vm_taped vm_at vm_token vm_place vm_value vm_word vm_bad vm_badPlace vm_fault vm_faultPlace qm_lines qm_has qm_round qm_meets qm_stumble qm_isMud qm_cell qm_tune qm_change qm_isKept qm_steps qm_places qm_danced vm_runMost vm_runBegins qm_heardBy vm_fitMany vm_fitFirst vm_fitBeats vm_listenLeaves qm_there vm_metAt vm_metIn qm_wins vm_nightHoles vm_nightFirst vm_nightMud vm_nightSlips vm_drawnNow, (qm_lines, .inl (cI, 5, .inl (fm_lines))), (qm_has, .inl (cI, 55, .inl (fm_has))), (qm_round, .inl (cI, 120, .inl (fm_round)))] := ⟨hP.sub [2, 1, 3, 0] rfl, hD.sub [2, 1, 3, 0] (by decide) rfl⟩
      exact W.iret (v := z14) hx hb hr (fun t ht hW => ⟨⟨z14, (0 : Int32), rfl, (show (-2) ≤ z14.toInt ∧ z14.toInt ≤ 5 by omega), by rw [ht]; exact hP9, hD9⟩, hS.F ht⟩) hS.2.2 dX12_step_50
    · subst hz
      have hz_15 : ¬ ((0 : Int64).toInt ≤ z3.toInt ∧ z3.toInt ≤ z8.toInt) := hz2
      refine lv_if_eq (tgt := 49) hx hb dX12_step_32 (by decide) (fun _ => ?_) (fun hc => absurd hc (by decide))
      refine lv_iconst (v := (-1)) hx hb dX12_step_49 (by decide) ?_
      obtain ⟨hP9, hD9⟩ : ct_B D A H [mo qm 0 qm_width qm_many qm_cells qm_moved qm_tape vm_taped vm_at vm_token vm_place vm_value vm_word vm_bad vm_badPlace vm_fault vm_faultPlace qm_lines qm_has qm_round qm_meets qm_stumble qm_isMud qm_cell qm_tune qm_change qm_isKept qm_steps qm_places qm_danced vm_runMost vm_runBegins qm_heardBy vm_fitMany vm_fitFirst vm_fitBeats vm_listenLeaves qm_there vm_metAt vm_metIn qm_wins vm_nightHoles vm_nightFirst vm_nightMud vm_nightSlips vm_drawnNow, (qm_lines, .inl (cI, 5, .inl (fm_lines))), (qm_has, .inl (cI, 55, .inl (fm_has))), (qm_round, .inl (cI, 120, .inl (fm_round)))] := ⟨hP.sub [2, 1, 3, 0] rfl, hD.sub [2, 1, 3, 0] (by decide) rfl⟩
      exact W.iret (v := (-1)) hx hb hr (fun t ht hW => ⟨⟨(-1), (0 : Int32), rfl, (show (-2) ≤ (-1 : Int32).toInt ∧ (-1 : Int32).toInt ≤ 5 by decide), by rw [ht]; exact hP9, hD9⟩, hS.F ht⟩) hS.2.2 dX12_step_50
  · subst hz
    refine lv_if_ne (tgt := 18) hx hb dX12_step_10 (by decide) (fun hc => absurd hc (by decide)) (fun _ => ?_)
    refine lv_bipush (v := (-2)) hx hb dX12_step_13 (by decide) ?_
    refine lv_goto (tgt := 50) hx hb dX12_step_15 (by decide) ?_
    obtain ⟨hP9, hD9⟩ : ct_B D A H [mo qm 0 qm_width qm_many qm_cells qm_moved qm_tape vm_taped vm_at vm_token vm_place vm_value vm_word vm_bad vm_badPlace vm_fault vm_faultPlace qm_lines qm_has qm_round qm_meets qm_stumble qm_isMud qm_cell qm_tune qm_change qm_isKept qm_steps qm_places qm_danced vm_runMost vm_runBegins qm_heardBy vm_fitMany vm_fitFirst vm_fitBeats vm_listenLeaves qm_there vm_metAt vm_metIn qm_wins vm_nightHoles vm_nightFirst vm_nightMud vm_nightSlips vm_drawnNow, (qm_lines, .inl (cI, 5, .inl (fm_lines))), (qm_has, .inl (cI, 55, .inl (fm_has))), (qm_round, .inl (cI, 120, .inl (fm_round)))] := ⟨hP.sub [2, 3, 0, 1] rfl, hD.sub [2, 3, 0, 1] (by decide) rfl⟩
    exact W.iret (v := (-2)) hx hb hr (fun t ht hW => ⟨⟨(-2), (0 : Int32), rfl, (show (-2) ≤ (-2 : Int32).toInt ∧ (-2 : Int32).toInt ≤ 5 by decide), by rw [ht]; exact hP9, hD9⟩, hS.F ht⟩) hS.2.2 dX12_step_50
abbrev w_c_X12_answers (cI cJ cB cZ cO : ClassId) (qm : Nat) (vm_thrown : Int32) (qm_width : Nat) (qm_many : Nat) (qm_cells : Nat) (qm_moved : Nat) (qm_tape : Nat) (vm_taped : Int32) (vm_at : Int32) (vm_token : Int32) (vm_place : Int32) (vm_value : Int32) (vm_word : Int64) (vm_bad : Int32) (vm_badPlace : Int32) (vm_fault : Int32) (vm_faultPlace : Int32) (qm_lines : Nat) (fm_lines : Nat → Int32) (qm_has : Nat) (qm_round : Nat) (qm_meets : Nat) (fm_meets : Nat → Int32) (qm_stumble : Nat) (qm_isMud : Nat) (qm_cell : Nat) (qm_tune : Nat) (qm_change : Nat) (qm_isKept : Nat) (qm_steps : Nat) (qm_places : Nat) (qm_danced : Nat) (vm_runMost : Int32) (vm_runBegins : Int32) (qm_heardBy : Nat) (vm_fitMany : Int32) (vm_fitFirst : Int32) (vm_fitBeats : Int64) (vm_listenLeaves : Int32) (qm_there : Nat) (vm_metAt : Int32) (vm_metIn : Int32) (qm_wins : Nat) (vm_nightHoles : Int32) (vm_nightFirst : Int32) (vm_nightMud : Int32) (vm_nightSlips : Int32) (vm_drawnNow : Int64) : va_W := [mo qm vm_thrown qm_width qm_many qm_cells qm_moved qm_tape vm_taped vm_at vm_token vm_place vm_value vm_word vm_bad vm_badPlace vm_fault vm_faultPlace qm_lines qm_has qm_round qm_meets qm_stumble qm_isMud qm_cell qm_tune qm_change qm_isKept qm_steps qm_places qm_danced vm_runMost vm_runBegins qm_heardBy vm_fitMany vm_fitFirst vm_fitBeats vm_listenLeaves qm_there vm_metAt vm_metIn qm_wins vm_nightHoles vm_nightFirst vm_nightMud vm_nightSlips vm_drawnNow, (qm_lines, .inl (cI, 5, .inl (fm_lines))), (qm_meets, .inl (cI, 30, .inl (fm_meets)))]
set_option maxHeartbeats 4000000 in
set_option maxRecDepth 100000 in
/-- X12 answers -/
theorem c_X12_answers (l : Launch) (D : va_G) (G : ct_G) (cI cJ cB cZ cO : ClassId) (qm : Nat) (vm_thrown : Int32) (qm_width : Nat) (qm_many : Nat) (qm_cells : Nat) (qm_moved : Nat) (qm_tape : Nat) (vm_taped : Int32) (vm_at : Int32) (vm_token : Int32) (vm_place : Int32) (vm_value : Int32) (vm_word : Int64) (vm_bad : Int32) (vm_badPlace : Int32) (vm_fault : Int32) (vm_faultPlace : Int32) (qm_lines : Nat) (fm_lines : Nat → Int32) (qm_has : Nat) (qm_round : Nat) (qm_meets : Nat) (fm_meets : Nat → Int32) (qm_stumble : Nat) (qm_isMud : Nat) (qm_cell : Nat) (qm_tune : Nat) (qm_change : Nat) (qm_isKept : Nat) (qm_steps : Nat) (qm_places : Nat) (qm_danced : Nat) (vm_runMost : Int32) (vm_runBegins : Int32) (qm_heardBy : Nat) (vm_fitMany : Int32) (vm_fitFirst : Int32) (vm_fitBeats : Int64) (vm_listenLeaves : Int32) (qm_there : Nat) (vm_metAt : Int32) (vm_metIn : Int32) (qm_wins : Nat) (vm_nightHoles : Int32) (vm_nightFirst : Int32) (vm_nightMud : Int32) (vm_nightSlips : Int32) (vm_drawnNow : Int64) (a1 : Int32) (h_vm_taped : 0 ≤ vm_taped.toInt ∧ vm_taped.toInt ≤ 1200) (h_vm_at : 0 ≤ vm_at.toInt ∧ vm_at.toInt ≤ 1200) (h_vm_value : 0 ≤ vm_value.toInt ∧ vm_value.toInt ≤ 1000009) (sz : Nat) : Met l yX12_answers wsX12_answers ({ frames := 2, cells := 0, slots := 0, locals := 46 }) (va_Pc [.ref qm, .int a1] (ct_P D (ct_T cI cJ cB cZ cO) G (w_c_X12_answers cI cJ cB cZ cO qm vm_thrown qm_width qm_many qm_cells qm_moved qm_tape vm_taped vm_at vm_token vm_place vm_value vm_word vm_bad vm_badPlace vm_fault vm_faultPlace qm_lines fm_lines qm_has qm_round qm_meets fm_meets qm_stumble qm_isMud qm_cell qm_tune qm_change qm_isKept qm_steps qm_places qm_danced vm_runMost vm_runBegins qm_heardBy vm_fitMany vm_fitFirst vm_fitBeats vm_listenLeaves qm_there vm_metAt vm_metIn qm_wins vm_nightHoles vm_nightFirst vm_nightMud vm_nightSlips vm_drawnNow) sz)) (va_Qi (fun (rz : Int32) (u : Int32) => True) (fun (u : Int32) t => ct_Q D (va_A (w_c_X12_answers cI cJ cB cZ cO qm vm_thrown qm_width qm_many qm_cells qm_moved qm_tape vm_taped vm_at vm_token vm_place vm_value vm_word vm_bad vm_badPlace vm_fault vm_faultPlace qm_lines fm_lines qm_has qm_round qm_meets fm_meets qm_stumble qm_isMud qm_cell qm_tune qm_change qm_isKept qm_steps qm_places qm_danced vm_runMost vm_runBegins qm_heardBy vm_fitMany vm_fitFirst vm_fitBeats vm_listenLeaves qm_there vm_metAt vm_metIn qm_wins vm_nightHoles vm_nightFirst vm_nightMud vm_nightSlips vm_drawnNow) sz) [mo qm u qm_width qm_many qm_cells qm_moved qm_tape vm_taped vm_at vm_token vm_place vm_value vm_word vm_bad vm_badPlace vm_fault vm_faultPlace qm_lines qm_has qm_round qm_meets qm_stumble qm_isMud qm_cell qm_tune qm_change qm_isKept qm_steps qm_places qm_danced vm_runMost vm_runBegins qm_heardBy vm_fitMany vm_fitFirst vm_fitBeats vm_listenLeaves qm_there vm_metAt vm_metIn qm_wins vm_nightHoles vm_nightFirst vm_nightMud vm_nightSlips vm_drawnNow, (qm_lines, .inl (cI, 5, .inl (fm_lines))), (qm_meets, .inl (cI, 30, .inl (fm_meets)))] t) (va_A (w_c_X12_answers cI cJ cB cZ cO qm vm_thrown qm_width qm_many qm_cells qm_moved qm_tape vm_taped vm_at vm_token vm_place vm_value vm_word vm_bad vm_badPlace vm_fault vm_faultPlace qm_lines fm_lines qm_has qm_round qm_meets fm_meets qm_stumble qm_isMud qm_cell qm_tune qm_change qm_isKept qm_steps qm_places qm_danced vm_runMost vm_runBegins qm_heardBy vm_fitMany vm_fitFirst vm_fitBeats vm_listenLeaves qm_there vm_metAt vm_metIn qm_wins vm_nightHoles vm_nightFirst vm_nightMud vm_nightSlips vm_drawnNow) sz)) 0 0 (va_A (w_c_X12_answers cI cJ cB cZ cO qm vm_thrown qm_width qm_many qm_cells qm_moved qm_tape vm_taped vm_at vm_token vm_place vm_value vm_word vm_bad vm_badPlace vm_fault vm_faultPlace qm_lines fm_lines qm_has qm_round qm_meets fm_meets qm_stumble qm_isMud qm_cell qm_tune qm_change qm_isKept qm_steps qm_places qm_danced vm_runMost vm_runBegins qm_heardBy vm_fitMany vm_fitFirst vm_fitBeats vm_listenLeaves qm_there vm_metAt vm_metIn qm_wins vm_nightHoles vm_nightFirst vm_nightMud vm_nightSlips vm_drawnNow) sz) := by
  refine Met.ofW (cc := cX12_answers) (maxL := 2) (ret := (some .int)) (by decide) rfl ?_
  intro p e s m args below meth c s₁ B hml hv
  obtain ⟨rfl, hsz, hP, hE, hD0, hH⟩ := hv
  have hx := B.exec
  have hb := B.bytes
  have hr := B.returns
  have hts := atoms_spec (ws := wsX12_answers) B.pre
  have hown : s.vm.findClass RX12 = some m.cls := findClass_of_methodNamed B.named
  have hlocks := B.notSynchronized
  have hK := hE.1
  have hi12 : ∀ w ∈ u_ws RX12 TX12 45, w ∈ wsX12_answers := fun w h => List.mem_cons_of_mem _ (List.mem_append_right _ h)
  subst hsz
  have hD := hD0.self (sz := s.heap.size)
  generalize hAe : va_A (w_c_X12_answers cI cJ cB cZ cO qm vm_thrown qm_width qm_many qm_cells qm_moved qm_tape vm_taped vm_at vm_token vm_place vm_value vm_word vm_bad vm_badPlace vm_fault vm_faultPlace qm_lines fm_lines qm_has qm_round qm_meets fm_meets qm_stumble qm_isMud qm_cell qm_tune qm_change qm_isKept qm_steps qm_places qm_danced vm_runMost vm_runBegins qm_heardBy vm_fitMany vm_fitFirst vm_fitBeats vm_listenLeaves qm_there vm_metAt vm_metIn qm_wins vm_nightHoles vm_nightFirst vm_nightMud vm_nightSlips vm_drawnNow) s.heap.size = A at hD hH ⊢
  have hA : ∀ q : Nat, s.heap.size ≤ q → A q := fun q h => by rw [← hAe]; exact Or.inr h
  have hS : va_S A s.heap s.heap [] := va_S.rf
  obtain ⟨hP, hD⟩ : ct_B D A s.heap [mo qm vm_thrown qm_width qm_many qm_cells qm_moved qm_tape vm_taped vm_at vm_token vm_place vm_value vm_word vm_bad vm_badPlace vm_fault vm_faultPlace qm_lines qm_has qm_round qm_meets qm_stumble qm_isMud qm_cell qm_tune qm_change qm_isKept qm_steps qm_places qm_danced vm_runMost vm_runBegins qm_heardBy vm_fitMany vm_fitFirst vm_fitBeats vm_listenLeaves qm_there vm_metAt vm_metIn qm_wins vm_nightHoles vm_nightFirst vm_nightMud vm_nightSlips vm_drawnNow, (qm_lines, .inl (cI, 5, .inl (fm_lines))), (qm_meets, .inl (cI, 30, .inl (fm_meets)))] := ⟨hP, hD⟩
  have hl := lv_entry ([.ref qm, .int a1]) (n := 2) (Nat.le_of_ble_eq_true rfl)
  rw [lg_entry_eq]
  generalize (lg_sl ([.ref qm, .int a1]) ++ List.replicate (2 - (lg_sl ([.ref qm, .int a1])).length) Slot.unset).toArray = ls at hl ⊢
  have hl : lv_has ls 2 [(0, .ref qm), (1, .int a1)] := hl
  obtain ⟨H, hHe⟩ : ∃ H : Heap, H = s.heap := ⟨_, rfl⟩
  rw [← hHe] at hP
  have hS : va_S A s.heap H [] := by rw [hHe]; exact va_S.rf
  refine ct_start hHe ?_
  refine lv_aload_n hx hb dX12_answers_0 rfl (lv_at hl 0 rfl) ?_
  refine lv_iconst (v := 0) hx hb dX12_answers_1 (by decide) ?_
  refine va_put (D := D) (ci := 12) (v := .int 0) (ty := .int) (C := RX12) (T := TX12) (N := 45) hx hb hts hi12 tyX12 tyX12_ok nmX12 hown hK hP hD hS 0 rfl rfl 0 (by decide) (hts (.fieldLink RX12 80 "OverHillModel" "thrown" "I") (by decide +kernel)) (fun _ h9 => h9) rfl (by decide +kernel) rfl rfl (Nat.le_of_ble_eq_true rfl) dX12_answers_2 (fun H locs hP hD hS => ?_)
  obtain ⟨hP, hD⟩ : ct_B D A H [mo qm 0 qm_width qm_many qm_cells qm_moved qm_tape vm_taped vm_at vm_token vm_place vm_value vm_word vm_bad vm_badPlace vm_fault vm_faultPlace qm_lines qm_has qm_round qm_meets qm_stumble qm_isMud qm_cell qm_tune qm_change qm_isKept qm_steps qm_places qm_danced vm_runMost vm_runBegins qm_heardBy vm_fitMany vm_fitFirst vm_fitBeats vm_listenLeaves qm_there vm_metAt vm_metIn qm_wins vm_nightHoles vm_nightFirst vm_nightMud vm_nightSlips vm_drawnNow, (qm_lines, .inl (cI, 5, .inl (fm_lines))), (qm_meets, .inl (cI, 30, .inl (fm_meets)))] := ⟨hP, hD⟩
  refine lv_aload_n hx hb dX12_answers_5 rfl (lv_at hl 0 rfl) ?_
  refine ct_calli (D := D) (wr := [(qm_meets, .inl (cI, 30, .inl (fm_meets)))]) (va_runV (As := []) (rest := []) ⟨hx, hb, hml, hown, hts⟩ (c_X12_isDance l D G cI cJ cB cZ cO qm 0 qm_width qm_many qm_cells qm_moved qm_tape vm_taped vm_at vm_token vm_place vm_value vm_word vm_bad vm_badPlace vm_fault vm_faultPlace qm_lines fm_lines qm_has qm_round qm_meets qm_stumble qm_isMud qm_cell qm_tune qm_change qm_isKept qm_steps qm_places qm_danced vm_runMost vm_runBegins qm_heardBy vm_fitMany vm_fitFirst vm_fitBeats vm_listenLeaves qm_there vm_metAt vm_metIn qm_wins vm_nightHoles vm_nightFirst vm_nightMud vm_nightSlips vm_drawnNow h_vm_taped h_vm_at h_vm_value H.size) (cwV 0 hts gX12_answers_X12_isDance rfl rfl rfl (by decide +kernel) ⟨Nat.le_of_ble_eq_true rfl, Nat.le_of_ble_eq_true rfl⟩) (ct_preV (T := ct_T cI cJ cB cZ cO) (ci := 12) (q0 := 0) hE hH hP hD hS hA [0, 1] (by decide) rfl rfl rfl) rfl rfl hl.1 rfl (lv_room (Nat.le_of_ble_eq_true rfl)) dX12_answers_6 ⟨Nat.le_of_ble_eq_true rfl, Nat.le_of_ble_eq_true rfl⟩) hP hD hS hA [0, 1] [2] rfl rfl (by decide) (by decide) (fun r1 u H locs hw hP hD hS => ?_)
  obtain ⟨hP, hD⟩ : ct_B D A H [(qm_meets, .inl (cI, 30, .inl (fm_meets))), mo qm 0 qm_width qm_many qm_cells qm_moved qm_tape vm_taped vm_at vm_token vm_place vm_value vm_word vm_bad vm_badPlace vm_fault vm_faultPlace qm_lines qm_has qm_round qm_meets qm_stumble qm_isMud qm_cell qm_tune qm_change qm_isKept qm_steps qm_places qm_danced vm_runMost vm_runBegins qm_heardBy vm_fitMany vm_fitFirst vm_fitBeats vm_listenLeaves qm_there vm_metAt vm_metIn qm_wins vm_nightHoles vm_nightFirst vm_nightMud vm_nightSlips vm_drawnNow, (qm_lines, .inl (cI, 5, .inl (fm_lines)))] := ⟨hP, hD⟩
  have hz := hw
  rcases hz with ⟨hz, hz2⟩ | ⟨hz, hz2⟩
  · subst hz
    refine lv_if_eq (tgt := 29) hx hb dX12_answers_9 (by decide) (fun hc => absurd hc (by decide)) (fun _ => ?_)
    refine lv_iload_n hx hb dX12_answers_12 rfl (lv_at hl 1 rfl) ?_
    refine lv_i2l (v := _) hx hb dX12_answers_13 rfl ?_
    refine lv_topl (fun z2 ez2 => ?_)
    have fz2 : z2.toInt = a1.toInt := by rw [ez2]; exact tl_i rfl
    have hb3 := tq_lo a1
    refine ct_calli (D := D) (wr := [(qm_meets, .inl (cI, 30, .inl (fm_meets))), mo qm 0 qm_width qm_many qm_cells qm_moved qm_tape vm_taped vm_at vm_token vm_place vm_value vm_word vm_bad vm_badPlace vm_fault vm_faultPlace qm_lines qm_has qm_round qm_meets qm_stumble qm_isMud qm_cell qm_tune qm_change qm_isKept qm_steps qm_places qm_danced vm_runMost vm_runBegins qm_heardBy vm_fitMany vm_fitFirst vm_fitBeats vm_listenLeaves qm_there vm_metAt vm_metIn qm_wins vm_nightHoles vm_nightFirst vm_nightMud vm_nightSlips vm_drawnNow, (qm_lines, .inl (cI, 5, .inl (fm_lines)))]) (va_runS (As := [.long z2]) (rest := []) ⟨hx, hb, hml, hown, hts⟩ (c_X12_isStep l D G cI cJ cB cZ cO z2  H.size) (va_cwS 1 hts gX12_answers_X12_isStep rfl rfl rfl (by decide +kernel) ⟨Nat.le_of_ble_eq_true rfl, Nat.le_of_ble_eq_true rfl⟩) (ct_preS (T := ct_T cI cJ cB cZ cO) hE hH hP hD hS hA [] (by decide) rfl) rfl rfl hl.1 rfl (lv_room (Nat.le_of_ble_eq_true rfl)) dX12_answers_14 ⟨Nat.le_of_ble_eq_true rfl, Nat.le_of_ble_eq_true rfl⟩) hP hD hS hA [] [0, 1, 2] rfl rfl (by decide) (by decide) (fun r4 u H locs hw hP hD hS => ?_)
    obtain ⟨hP, hD⟩ : ct_B D A H [(qm_meets, .inl (cI, 30, .inl (fm_meets))), mo qm 0 qm_width qm_many qm_cells qm_moved qm_tape vm_taped vm_at vm_token vm_place vm_value vm_word vm_bad vm_badPlace vm_fault vm_faultPlace qm_lines qm_has qm_round qm_meets qm_stumble qm_isMud qm_cell qm_tune qm_change qm_isKept qm_steps qm_places qm_danced vm_runMost vm_runBegins qm_heardBy vm_fitMany vm_fitFirst vm_fitBeats vm_listenLeaves qm_there vm_metAt vm_metIn qm_wins vm_nightHoles vm_nightFirst vm_nightMud vm_nightSlips vm_drawnNow, (qm_lines, .inl (cI, 5, .inl (fm_lines)))] := ⟨hP, hD⟩
    have hz := hw
    rcases hz with ⟨hz, hz2⟩ | ⟨hz, hz2⟩
    · subst hz
      have hz_5 : (0 ≤ z2.toInt ∧ z2.toInt ≤ 5) := hz2
      refine lv_if_eq (tgt := 29) hx hb dX12_answers_17 (by decide) (fun hc => absurd hc (by decide)) (fun _ => ?_)
      refine lv_aload_n hx hb dX12_answers_20 rfl (lv_at hl 0 rfl) ?_
      refine va_get (D := D) (ci := 12) (v := .ref qm_meets) (C := RX12) (T := TX12) (N := 45) hx hb hts hi12 hown hK hP 1 rfl rfl 19 (by decide) (hts (.fieldLink RX12 40 "OverHillModel" "meets" "[I") (by decide +kernel)) (fun _ h9 => h9) rfl dX12_answers_21 ?_
      refine lv_iload_n hx hb dX12_answers_24 rfl (lv_at hl 1 rfl) ?_
      refine va_iald (D := D) hx hb hK hP 0 0 rfl rfl (tq_in rfl (by omega)) dX12_answers_25 ?_
      refine lv_topi (fun z6 ez6 => ?_)
      refine lv_goto (tgt := 31) hx hb dX12_answers_26 (by decide) ?_
      obtain ⟨hP9, hD9⟩ : ct_B D A H [mo qm 0 qm_width qm_many qm_cells qm_moved qm_tape vm_taped vm_at vm_token vm_place vm_value vm_word vm_bad vm_badPlace vm_fault vm_faultPlace qm_lines qm_has qm_round qm_meets qm_stumble qm_isMud qm_cell qm_tune qm_change qm_isKept qm_steps qm_places qm_danced vm_runMost vm_runBegins qm_heardBy vm_fitMany vm_fitFirst vm_fitBeats vm_listenLeaves qm_there vm_metAt vm_metIn qm_wins vm_nightHoles vm_nightFirst vm_nightMud vm_nightSlips vm_drawnNow, (qm_lines, .inl (cI, 5, .inl (fm_lines))), (qm_meets, .inl (cI, 30, .inl (fm_meets)))] := ⟨hP.sub [1, 2, 0] rfl, hD.sub [1, 2, 0] (by decide) rfl⟩
      exact W.iret (v := z6) hx hb hr (fun t ht hW => ⟨⟨z6, (0 : Int32), rfl, trivial, by rw [ht]; exact hP9, hD9⟩, hS.F ht⟩) hS.2.2 dX12_answers_31
    · subst hz
      have hz_7 : ¬ (0 ≤ z2.toInt ∧ z2.toInt ≤ 5) := hz2
      refine lv_if_eq (tgt := 29) hx hb dX12_answers_17 (by decide) (fun _ => ?_) (fun hc => absurd hc (by decide))
      refine lv_bipush (v := (-2)) hx hb dX12_answers_29 (by decide) ?_
      obtain ⟨hP9, hD9⟩ : ct_B D A H [mo qm 0 qm_width qm_many qm_cells qm_moved qm_tape vm_taped vm_at vm_token vm_place vm_value vm_word vm_bad vm_badPlace vm_fault vm_faultPlace qm_lines qm_has qm_round qm_meets qm_stumble qm_isMud qm_cell qm_tune qm_change qm_isKept qm_steps qm_places qm_danced vm_runMost vm_runBegins qm_heardBy vm_fitMany vm_fitFirst vm_fitBeats vm_listenLeaves qm_there vm_metAt vm_metIn qm_wins vm_nightHoles vm_nightFirst vm_nightMud vm_nightSlips vm_drawnNow, (qm_lines, .inl (cI, 5, .inl (fm_lines))), (qm_meets, .inl (cI, 30, .inl (fm_meets)))] := ⟨hP.sub [1, 2, 0] rfl, hD.sub [1, 2, 0] (by decide) rfl⟩
      exact W.iret (v := (-2)) hx hb hr (fun t ht hW => ⟨⟨(-2), (0 : Int32), rfl, trivial, by rw [ht]; exact hP9, hD9⟩, hS.F ht⟩) hS.2.2 dX12_answers_31
  · subst hz
    refine lv_if_eq (tgt := 29) hx hb dX12_answers_9 (by decide) (fun _ => ?_) (fun hc => absurd hc (by decide))
    refine lv_bipush (v := (-2)) hx hb dX12_answers_29 (by decide) ?_
    obtain ⟨hP9, hD9⟩ : ct_B D A H [mo qm 0 qm_width qm_many qm_cells qm_moved qm_tape vm_taped vm_at vm_token vm_place vm_value vm_word vm_bad vm_badPlace vm_fault vm_faultPlace qm_lines qm_has qm_round qm_meets qm_stumble qm_isMud qm_cell qm_tune qm_change qm_isKept qm_steps qm_places qm_danced vm_runMost vm_runBegins qm_heardBy vm_fitMany vm_fitFirst vm_fitBeats vm_listenLeaves qm_there vm_metAt vm_metIn qm_wins vm_nightHoles vm_nightFirst vm_nightMud vm_nightSlips vm_drawnNow, (qm_lines, .inl (cI, 5, .inl (fm_lines))), (qm_meets, .inl (cI, 30, .inl (fm_meets)))] := ⟨hP.sub [1, 2, 0] rfl, hD.sub [1, 2, 0] (by decide) rfl⟩
    exact W.iret (v := (-2)) hx hb hr (fun t ht hW => ⟨⟨(-2), (0 : Int32), rfl, trivial, by rw [ht]; exact hP9, hD9⟩, hS.F ht⟩) hS.2.2 dX12_answers_31
abbrev w_c_X12_stumbled (cI cJ cB cZ cO : ClassId) (qm : Nat) (vm_thrown : Int32) (qm_width : Nat) (qm_many : Nat) (qm_cells : Nat) (qm_moved : Nat) (qm_tape : Nat) (vm_taped : Int32) (vm_at : Int32) (vm_token : Int32) (vm_place : Int32) (vm_value : Int32) (vm_word : Int64) (vm_bad : Int32) (vm_badPlace : Int32) (vm_fault : Int32) (vm_faultPlace : Int32) (qm_lines : Nat) (qm_has : Nat) (fm_has : Nat → Int32) (qm_round : Nat) (qm_meets : Nat) (qm_stumble : Nat) (fm_stumble : Nat → Int32) (qm_isMud : Nat) (qm_cell : Nat) (qm_tune : Nat) (qm_change : Nat) (qm_isKept : Nat) (qm_steps : Nat) (qm_places : Nat) (qm_danced : Nat) (vm_runMost : Int32) (vm_runBegins : Int32) (qm_heardBy : Nat) (vm_fitMany : Int32) (vm_fitFirst : Int32) (vm_fitBeats : Int64) (vm_listenLeaves : Int32) (qm_there : Nat) (vm_metAt : Int32) (vm_metIn : Int32) (qm_wins : Nat) (vm_nightHoles : Int32) (vm_nightFirst : Int32) (vm_nightMud : Int32) (vm_nightSlips : Int32) (vm_drawnNow : Int64) : va_W := [mo qm vm_thrown qm_width qm_many qm_cells qm_moved qm_tape vm_taped vm_at vm_token vm_place vm_value vm_word vm_bad vm_badPlace vm_fault vm_faultPlace qm_lines qm_has qm_round qm_meets qm_stumble qm_isMud qm_cell qm_tune qm_change qm_isKept qm_steps qm_places qm_danced vm_runMost vm_runBegins qm_heardBy vm_fitMany vm_fitFirst vm_fitBeats vm_listenLeaves qm_there vm_metAt vm_metIn qm_wins vm_nightHoles vm_nightFirst vm_nightMud vm_nightSlips vm_drawnNow, (qm_has, .inl (cI, 55, .inl (fm_has))), (qm_stumble, .inl (cI, 160, .inl (fm_stumble)))]
set_option maxHeartbeats 4000000 in
set_option maxRecDepth 100000 in
/-- X12 stumbled -/
theorem c_X12_stumbled (l : Launch) (D : va_G) (G : ct_G) (cI cJ cB cZ cO : ClassId) (qm : Nat) (vm_thrown : Int32) (qm_width : Nat) (qm_many : Nat) (qm_cells : Nat) (qm_moved : Nat) (qm_tape : Nat) (vm_taped : Int32) (vm_at : Int32) (vm_token : Int32) (vm_place : Int32) (vm_value : Int32) (vm_word : Int64) (vm_bad : Int32) (vm_badPlace : Int32) (vm_fault : Int32) (vm_faultPlace : Int32) (qm_lines : Nat) (qm_has : Nat) (fm_has : Nat → Int32) (qm_round : Nat) (qm_meets : Nat) (qm_stumble : Nat) (fm_stumble : Nat → Int32) (qm_isMud : Nat) (qm_cell : Nat) (qm_tune : Nat) (qm_change : Nat) (qm_isKept : Nat) (qm_steps : Nat) (qm_places : Nat) (qm_danced : Nat) (vm_runMost : Int32) (vm_runBegins : Int32) (qm_heardBy : Nat) (vm_fitMany : Int32) (vm_fitFirst : Int32) (vm_fitBeats : Int64) (vm_listenLeaves : Int32) (qm_there : Nat) (vm_metAt : Int32) (vm_metIn : Int32) (qm_wins : Nat) (vm_nightHoles : Int32) (vm_nightFirst : Int32) (vm_nightMud : Int32) (vm_nightSlips : Int32) (vm_drawnNow : Int64) (a1 : Int32) (a2 : Int32) (h_vm_taped : 0 ≤ vm_taped.toInt ∧ vm_taped.toInt ≤ 1200) (h_vm_at : 0 ≤ vm_at.toInt ∧ vm_at.toInt ≤ 1200) (h_vm_value : 0 ≤ vm_value.toInt ∧ vm_value.toInt ≤ 1000009) (h_fm_has : ar_ok [0, (-2147483648), (-2147483648), 0, 0, 0, 0, 0, 0, 0, 0] [20, 2147483647, 2147483647, 12, 12, 11, 11, 8, 12, 5, 40] fm_has) (h_fm_stumble : ar_ok [(-2147483648), (-2147483648), 0, (-2147483648)] [2147483647, 2147483647, 5, 2147483647] fm_stumble) (sz : Nat) : Met l yX12_stumbled wsX12_stumbled ({ frames := 1, cells := 0, slots := 0, locals := 25 }) (va_Pc [.ref qm, .int a1, .int a2] (ct_P D (ct_T cI cJ cB cZ cO) G (w_c_X12_stumbled cI cJ cB cZ cO qm vm_thrown qm_width qm_many qm_cells qm_moved qm_tape vm_taped vm_at vm_token vm_place vm_value vm_word vm_bad vm_badPlace vm_fault vm_faultPlace qm_lines qm_has fm_has qm_round qm_meets qm_stumble fm_stumble qm_isMud qm_cell qm_tune qm_change qm_isKept qm_steps qm_places qm_danced vm_runMost vm_runBegins qm_heardBy vm_fitMany vm_fitFirst vm_fitBeats vm_listenLeaves qm_there vm_metAt vm_metIn qm_wins vm_nightHoles vm_nightFirst vm_nightMud vm_nightSlips vm_drawnNow) sz)) (va_Qi (fun (rz : Int32) (u : Int32) => True) (fun (u : Int32) t => ct_Q D (va_A (w_c_X12_stumbled cI cJ cB cZ cO qm vm_thrown qm_width qm_many qm_cells qm_moved qm_tape vm_taped vm_at vm_token vm_place vm_value vm_word vm_bad vm_badPlace vm_fault vm_faultPlace qm_lines qm_has fm_has qm_round qm_meets qm_stumble fm_stumble qm_isMud qm_cell qm_tune qm_change qm_isKept qm_steps qm_places qm_danced vm_runMost vm_runBegins qm_heardBy vm_fitMany vm_fitFirst vm_fitBeats vm_listenLeaves qm_there vm_metAt vm_metIn qm_wins vm_nightHoles vm_nightFirst vm_nightMud vm_nightSlips vm_drawnNow) sz) [mo qm u qm_width qm_many qm_cells qm_moved qm_tape vm_taped vm_at vm_token vm_place vm_value vm_word vm_bad vm_badPlace vm_fault vm_faultPlace qm_lines qm_has qm_round qm_meets qm_stumble qm_isMud qm_cell qm_tune qm_change qm_isKept qm_steps qm_places qm_danced vm_runMost vm_runBegins qm_heardBy vm_fitMany vm_fitFirst vm_fitBeats vm_listenLeaves qm_there vm_metAt vm_metIn qm_wins vm_nightHoles vm_nightFirst vm_nightMud vm_nightSlips vm_drawnNow, (qm_has, .inl (cI, 55, .inl (fm_has))), (qm_stumble, .inl (cI, 160, .inl (fm_stumble)))] t) (va_A (w_c_X12_stumbled cI cJ cB cZ cO qm vm_thrown qm_width qm_many qm_cells qm_moved qm_tape vm_taped vm_at vm_token vm_place vm_value vm_word vm_bad vm_badPlace vm_fault vm_faultPlace qm_lines qm_has fm_has qm_round qm_meets qm_stumble fm_stumble qm_isMud qm_cell qm_tune qm_change qm_isKept qm_steps qm_places qm_danced vm_runMost vm_runBegins qm_heardBy vm_fitMany vm_fitFirst vm_fitBeats vm_listenLeaves qm_there vm_metAt vm_metIn qm_wins vm_nightHoles vm_nightFirst vm_nightMud vm_nightSlips vm_drawnNow) sz)) 0 0 (va_A (w_c_X12_stumbled cI cJ cB cZ cO qm vm_thrown qm_width qm_many qm_cells qm_moved qm_tape vm_taped vm_at vm_token vm_place vm_value vm_word vm_bad vm_badPlace vm_fault vm_faultPlace qm_lines qm_has fm_has qm_round qm_meets qm_stumble fm_stumble qm_isMud qm_cell qm_tune qm_change qm_isKept qm_steps qm_places qm_danced vm_runMost vm_runBegins qm_heardBy vm_fitMany vm_fitFirst vm_fitBeats vm_listenLeaves qm_there vm_metAt vm_metIn qm_wins vm_nightHoles vm_nightFirst vm_nightMud vm_nightSlips vm_drawnNow) sz) := by
  refine Met.ofW (cc := cX12_stumbled) (maxL := 3) (ret := (some .int)) (by decide) rfl ?_
  intro p e s m args below meth c s₁ B hml hv
  obtain ⟨rfl, hsz, hP, hE, hD0, hH⟩ := hv
  have hx := B.exec
  have hb := B.bytes
  have hr := B.returns
  have hts := atoms_spec (ws := wsX12_stumbled) B.pre
  have hown : s.vm.findClass RX12 = some m.cls := findClass_of_methodNamed B.named
  have hlocks := B.notSynchronized
  have hK := hE.1
  have hi12 : ∀ w ∈ u_ws RX12 TX12 45, w ∈ wsX12_stumbled := fun w h => List.mem_cons_of_mem _ (List.mem_append_right _ h)
  subst hsz
  have hD := hD0.self (sz := s.heap.size)
  generalize hAe : va_A (w_c_X12_stumbled cI cJ cB cZ cO qm vm_thrown qm_width qm_many qm_cells qm_moved qm_tape vm_taped vm_at vm_token vm_place vm_value vm_word vm_bad vm_badPlace vm_fault vm_faultPlace qm_lines qm_has fm_has qm_round qm_meets qm_stumble fm_stumble qm_isMud qm_cell qm_tune qm_change qm_isKept qm_steps qm_places qm_danced vm_runMost vm_runBegins qm_heardBy vm_fitMany vm_fitFirst vm_fitBeats vm_listenLeaves qm_there vm_metAt vm_metIn qm_wins vm_nightHoles vm_nightFirst vm_nightMud vm_nightSlips vm_drawnNow) s.heap.size = A at hD hH ⊢
  have hA : ∀ q : Nat, s.heap.size ≤ q → A q := fun q h => by rw [← hAe]; exact Or.inr h
  have hS : va_S A s.heap s.heap [] := va_S.rf
  obtain ⟨hP, hD⟩ : ct_B D A s.heap [mo qm vm_thrown qm_width qm_many qm_cells qm_moved qm_tape vm_taped vm_at vm_token vm_place vm_value vm_word vm_bad vm_badPlace vm_fault vm_faultPlace qm_lines qm_has qm_round qm_meets qm_stumble qm_isMud qm_cell qm_tune qm_change qm_isKept qm_steps qm_places qm_danced vm_runMost vm_runBegins qm_heardBy vm_fitMany vm_fitFirst vm_fitBeats vm_listenLeaves qm_there vm_metAt vm_metIn qm_wins vm_nightHoles vm_nightFirst vm_nightMud vm_nightSlips vm_drawnNow, (qm_has, .inl (cI, 55, .inl (fm_has))), (qm_stumble, .inl (cI, 160, .inl (fm_stumble)))] := ⟨hP, hD⟩
  have hl := lv_entry ([.ref qm, .int a1, .int a2]) (n := 3) (Nat.le_of_ble_eq_true rfl)
  rw [lg_entry_eq]
  generalize (lg_sl ([.ref qm, .int a1, .int a2]) ++ List.replicate (3 - (lg_sl ([.ref qm, .int a1, .int a2])).length) Slot.unset).toArray = ls at hl ⊢
  have hl : lv_has ls 3 [(0, .ref qm), (1, .int a1), (2, .int a2)] := hl
  obtain ⟨H, hHe⟩ : ∃ H : Heap, H = s.heap := ⟨_, rfl⟩
  rw [← hHe] at hP
  have hS : va_S A s.heap H [] := by rw [hHe]; exact va_S.rf
  refine ct_start hHe ?_
  refine lv_aload_n hx hb dX12_stumbled_0 rfl (lv_at hl 0 rfl) ?_
  refine lv_iconst (v := 0) hx hb dX12_stumbled_1 (by decide) ?_
  refine va_put (D := D) (ci := 12) (v := .int 0) (ty := .int) (C := RX12) (T := TX12) (N := 45) hx hb hts hi12 tyX12 tyX12_ok nmX12 hown hK hP hD hS 0 rfl rfl 0 (by decide) (hts (.fieldLink RX12 80 "OverHillModel" "thrown" "I") (by decide +kernel)) (fun _ h9 => h9) rfl (by decide +kernel) rfl rfl (Nat.le_of_ble_eq_true rfl) dX12_stumbled_2 (fun H locs hP hD hS => ?_)
  obtain ⟨hP, hD⟩ : ct_B D A H [mo qm 0 qm_width qm_many qm_cells qm_moved qm_tape vm_taped vm_at vm_token vm_place vm_value vm_word vm_bad vm_badPlace vm_fault vm_faultPlace qm_lines qm_has qm_round qm_meets qm_stumble qm_isMud qm_cell qm_tune qm_change qm_isKept qm_steps qm_places qm_danced vm_runMost vm_runBegins qm_heardBy vm_fitMany vm_fitFirst vm_fitBeats vm_listenLeaves qm_there vm_metAt vm_metIn qm_wins vm_nightHoles vm_nightFirst vm_nightMud vm_nightSlips vm_drawnNow, (qm_has, .inl (cI, 55, .inl (fm_has))), (qm_stumble, .inl (cI, 160, .inl (fm_stumble)))] := ⟨hP, hD⟩
  refine lv_iload_n hx hb dX12_stumbled_5 rfl (lv_at hl 1 rfl) ?_
  refine lv_i2l (v := _) hx hb dX12_stumbled_6 rfl ?_
  refine lv_topl (fun z1 ez1 => ?_)
  have fz1 : z1.toInt = a1.toInt := by rw [ez1]; exact tl_i rfl
  have hb2 := tq_lo a1
  refine lv_lconst (v := 0) hx hb dX12_stumbled_7 (by decide) ?_
  refine lv_aload_n hx hb dX12_stumbled_8 rfl (lv_at hl 0 rfl) ?_
  refine va_get (D := D) (ci := 12) (v := .ref qm_has) (C := RX12) (T := TX12) (N := 45) hx hb hts hi12 hown hK hP 0 rfl rfl 17 (by decide) (hts (.fieldLink RX12 34 "OverHillModel" "has" "[I") (by decide +kernel)) (fun _ h9 => h9) rfl dX12_stumbled_9 ?_
  refine lv_bipush (v := 7) hx hb dX12_stumbled_12 (by decide) ?_
  refine va_iald (D := D) hx hb hK hP 1 0 rfl rfl (tq_in (a := 7) (by decide) (by omega)) dX12_stumbled_14 ?_
  refine lv_topi (fun z3 ez3 => ?_)
  have fz3 : 0 ≤ z3.toInt ∧ z3.toInt ≤ 8 := by rw [ez3]; exact ar_get h_fm_has (7 : Int32) 7 (by decide) (by decide) rfl
  refine lv_iconst (v := 1) hx hb dX12_stumbled_15 (by decide) ?_
  refine lv_isub hx hb dX12_stumbled_16 ?_
  refine lv_topi (fun z4 ez4 => ?_)
  have fz4 : z4.toInt = z3.toInt - 1 := by rw [ez4]; exact tq_subt rfl (by decide) (by omega)
  refine lv_i2l (v := _) hx hb dX12_stumbled_17 rfl ?_
  refine lv_topl (fun z5 ez5 => ?_)
  have fz5 : z5.toInt = z4.toInt := by rw [ez5]; exact tl_i rfl
  refine ct_calli (D := D) (wr := [mo qm 0 qm_width qm_many qm_cells qm_moved qm_tape vm_taped vm_at vm_token vm_place vm_value vm_word vm_bad vm_badPlace vm_fault vm_faultPlace qm_lines qm_has qm_round qm_meets qm_stumble qm_isMud qm_cell qm_tune qm_change qm_isKept qm_steps qm_places qm_danced vm_runMost vm_runBegins qm_heardBy vm_fitMany vm_fitFirst vm_fitBeats vm_listenLeaves qm_there vm_metAt vm_metIn qm_wins vm_nightHoles vm_nightFirst vm_nightMud vm_nightSlips vm_drawnNow, (qm_has, .inl (cI, 55, .inl (fm_has))), (qm_stumble, .inl (cI, 160, .inl (fm_stumble)))]) (va_runS (As := [.long z1, .long 0, .long z5]) (rest := []) ⟨hx, hb, hml, hown, hts⟩ (c_X12_in l D G cI cJ cB cZ cO z1 0 z5  H.size) (va_cwS 3 hts gX12_stumbled_X12_in rfl rfl rfl (by decide +kernel) ⟨Nat.le_of_ble_eq_true rfl, Nat.le_of_ble_eq_true rfl⟩) (ct_preS (T := ct_T cI cJ cB cZ cO) hE hH hP hD hS hA [] (by decide) rfl) rfl rfl hl.1 rfl (lv_room (Nat.le_of_ble_eq_true rfl)) dX12_stumbled_18 ⟨Nat.le_of_ble_eq_true rfl, Nat.le_of_ble_eq_true rfl⟩) hP hD hS hA [] [0, 1, 2] rfl rfl (by decide) (by decide) (fun r6 u H locs hw hP hD hS => ?_)
  obtain ⟨hP, hD⟩ : ct_B D A H [mo qm 0 qm_width qm_many qm_cells qm_moved qm_tape vm_taped vm_at vm_token vm_place vm_value vm_word vm_bad vm_badPlace vm_fault vm_faultPlace qm_lines qm_has qm_round qm_meets qm_stumble qm_isMud qm_cell qm_tune qm_change qm_isKept qm_steps qm_places qm_danced vm_runMost vm_runBegins qm_heardBy vm_fitMany vm_fitFirst vm_fitBeats vm_listenLeaves qm_there vm_metAt vm_metIn qm_wins vm_nightHoles vm_nightFirst vm_nightMud vm_nightSlips vm_drawnNow, (qm_has, .inl (cI, 55, .inl (fm_has))), (qm_stumble, .inl (cI, 160, .inl (fm_stumble)))] := ⟨hP, hD⟩
  have hk7 : (0 : Int64).toInt = 0 := by decide
  have hz := hw
  rcases hz with ⟨hz, hz2⟩ | ⟨hz, hz2⟩
  · subst hz
    have hz_8 : ((0 : Int64).toInt ≤ z1.toInt ∧ z1.toInt ≤ z5.toInt) := hz2
    refine lv_if_eq (tgt := 49) hx hb dX12_stumbled_21 (by decide) (fun hc => absurd hc (by decide)) (fun _ => ?_)
    refine lv_iload_n hx hb dX12_stumbled_24 rfl (lv_at hl 2 rfl) ?_
    refine lv_i2l (v := _) hx hb dX12_stumbled_25 rfl ?_
    refine lv_topl (fun z9 ez9 => ?_)
    have fz9 : z9.toInt = a2.toInt := by rw [ez9]; exact tl_i rfl
    have hb10 := tq_lo a2
    refine lv_lconst (v := 0) hx hb dX12_stumbled_26 (by decide) ?_
    refine lv_ldc2 (v := 3) hx hb hown (hts (.constantLong RX12 83 (3)) (by decide +kernel)) dX12_stumbled_27 ?_
    refine ct_calli (D := D) (wr := [mo qm 0 qm_width qm_many qm_cells qm_moved qm_tape vm_taped vm_at vm_token vm_place vm_value vm_word vm_bad vm_badPlace vm_fault vm_faultPlace qm_lines qm_has qm_round qm_meets qm_stumble qm_isMud qm_cell qm_tune qm_change qm_isKept qm_steps qm_places qm_danced vm_runMost vm_runBegins qm_heardBy vm_fitMany vm_fitFirst vm_fitBeats vm_listenLeaves qm_there vm_metAt vm_metIn qm_wins vm_nightHoles vm_nightFirst vm_nightMud vm_nightSlips vm_drawnNow, (qm_has, .inl (cI, 55, .inl (fm_has))), (qm_stumble, .inl (cI, 160, .inl (fm_stumble)))]) (va_runS (As := [.long z9, .long 0, .long 3]) (rest := []) ⟨hx, hb, hml, hown, hts⟩ (c_X12_in l D G cI cJ cB cZ cO z9 0 3  H.size) (va_cwS 3 hts gX12_stumbled_X12_in rfl rfl rfl (by decide +kernel) ⟨Nat.le_of_ble_eq_true rfl, Nat.le_of_ble_eq_true rfl⟩) (ct_preS (T := ct_T cI cJ cB cZ cO) hE hH hP hD hS hA [] (by decide) rfl) rfl rfl hl.1 rfl (lv_room (Nat.le_of_ble_eq_true rfl)) dX12_stumbled_30 ⟨Nat.le_of_ble_eq_true rfl, Nat.le_of_ble_eq_true rfl⟩) hP hD hS hA [] [0, 1, 2] rfl rfl (by decide) (by decide) (fun r11 u H locs hw hP hD hS => ?_)
    obtain ⟨hP, hD⟩ : ct_B D A H [mo qm 0 qm_width qm_many qm_cells qm_moved qm_tape vm_taped vm_at vm_token vm_place vm_value vm_word vm_bad vm_badPlace vm_fault vm_faultPlace qm_lines qm_has qm_round qm_meets qm_stumble qm_isMud qm_cell qm_tune qm_change qm_isKept qm_steps qm_places qm_danced vm_runMost vm_runBegins qm_heardBy vm_fitMany vm_fitFirst vm_fitBeats vm_listenLeaves qm_there vm_metAt vm_metIn qm_wins vm_nightHoles vm_nightFirst vm_nightMud vm_nightSlips vm_drawnNow, (qm_has, .inl (cI, 55, .inl (fm_has))), (qm_stumble, .inl (cI, 160, .inl (fm_stumble)))] := ⟨hP, hD⟩
    have hk12 : (0 : Int64).toInt = 0 := by decide
    have hk13 : (3 : Int64).toInt = 3 := by decide
    have hz := hw
    rcases hz with ⟨hz, hz2⟩ | ⟨hz, hz2⟩
    · subst hz
      have hz_14 : ((0 : Int64).toInt ≤ z9.toInt ∧ z9.toInt ≤ (3 : Int64).toInt) := hz2
      refine lv_if_eq (tgt := 49) hx hb dX12_stumbled_33 (by decide) (fun hc => absurd hc (by decide)) (fun _ => ?_)
      refine lv_aload_n hx hb dX12_stumbled_36 rfl (lv_at hl 0 rfl) ?_
      refine va_get (D := D) (ci := 12) (v := .ref qm_stumble) (C := RX12) (T := TX12) (N := 45) hx hb hts hi12 hown hK hP 0 rfl rfl 20 (by decide) (hts (.fieldLink RX12 43 "OverHillModel" "stumble" "[I") (by decide +kernel)) (fun _ h9 => h9) rfl dX12_stumbled_37 ?_
      refine lv_iconst (v := 4) hx hb dX12_stumbled_40 (by decide) ?_
      refine lv_iload_n hx hb dX12_stumbled_41 rfl (lv_at hl 1 rfl) ?_
      refine lv_imul hx hb dX12_stumbled_42 ?_
      refine lv_topi (fun z15 ez15 => ?_)
      have fz15 : z15.toInt = 4 * a1.toInt := by rw [ez15]; exact tq_mul (by decide) rfl (by omega)
      refine lv_iload_n hx hb dX12_stumbled_43 rfl (lv_at hl 2 rfl) ?_
      refine lv_iadd hx hb dX12_stumbled_44 ?_
      refine lv_topi (fun z16 ez16 => ?_)
      have fz16 : z16.toInt = z15.toInt + a2.toInt := by rw [ez16]; exact tq_add rfl rfl (by omega)
      refine va_iald (D := D) hx hb hK hP 2 0 rfl rfl (tq_in rfl (by omega)) dX12_stumbled_45 ?_
      refine lv_topi (fun z17 ez17 => ?_)
      refine lv_goto (tgt := 51) hx hb dX12_stumbled_46 (by decide) ?_
      obtain ⟨hP9, hD9⟩ : ct_B D A H [mo qm 0 qm_width qm_many qm_cells qm_moved qm_tape vm_taped vm_at vm_token vm_place vm_value vm_word vm_bad vm_badPlace vm_fault vm_faultPlace qm_lines qm_has qm_round qm_meets qm_stumble qm_isMud qm_cell qm_tune qm_change qm_isKept qm_steps qm_places qm_danced vm_runMost vm_runBegins qm_heardBy vm_fitMany vm_fitFirst vm_fitBeats vm_listenLeaves qm_there vm_metAt vm_metIn qm_wins vm_nightHoles vm_nightFirst vm_nightMud vm_nightSlips vm_drawnNow, (qm_has, .inl (cI, 55, .inl (fm_has))), (qm_stumble, .inl (cI, 160, .inl (fm_stumble)))] := ⟨hP.sub [0, 1, 2] rfl, hD.sub [0, 1, 2] (by decide) rfl⟩
      exact W.iret (v := z17) hx hb hr (fun t ht hW => ⟨⟨z17, (0 : Int32), rfl, trivial, by rw [ht]; exact hP9, hD9⟩, hS.F ht⟩) hS.2.2 dX12_stumbled_51
    · subst hz
      have hz_18 : ¬ ((0 : Int64).toInt ≤ z9.toInt ∧ z9.toInt ≤ (3 : Int64).toInt) := hz2
      refine lv_if_eq (tgt := 49) hx hb dX12_stumbled_33 (by decide) (fun _ => ?_) (fun hc => absurd hc (by decide))
      refine lv_bipush (v := (-2)) hx hb dX12_stumbled_49 (by decide) ?_
      obtain ⟨hP9, hD9⟩ : ct_B D A H [mo qm 0 qm_width qm_many qm_cells qm_moved qm_tape vm_taped vm_at vm_token vm_place vm_value vm_word vm_bad vm_badPlace vm_fault vm_faultPlace qm_lines qm_has qm_round qm_meets qm_stumble qm_isMud qm_cell qm_tune qm_change qm_isKept qm_steps qm_places qm_danced vm_runMost vm_runBegins qm_heardBy vm_fitMany vm_fitFirst vm_fitBeats vm_listenLeaves qm_there vm_metAt vm_metIn qm_wins vm_nightHoles vm_nightFirst vm_nightMud vm_nightSlips vm_drawnNow, (qm_has, .inl (cI, 55, .inl (fm_has))), (qm_stumble, .inl (cI, 160, .inl (fm_stumble)))] := ⟨hP.sub [0, 1, 2] rfl, hD.sub [0, 1, 2] (by decide) rfl⟩
      exact W.iret (v := (-2)) hx hb hr (fun t ht hW => ⟨⟨(-2), (0 : Int32), rfl, trivial, by rw [ht]; exact hP9, hD9⟩, hS.F ht⟩) hS.2.2 dX12_stumbled_51
  · subst hz
    have hz_19 : ¬ ((0 : Int64).toInt ≤ z1.toInt ∧ z1.toInt ≤ z5.toInt) := hz2
    refine lv_if_eq (tgt := 49) hx hb dX12_stumbled_21 (by decide) (fun _ => ?_) (fun hc => absurd hc (by decide))
    refine lv_bipush (v := (-2)) hx hb dX12_stumbled_49 (by decide) ?_
    obtain ⟨hP9, hD9⟩ : ct_B D A H [mo qm 0 qm_width qm_many qm_cells qm_moved qm_tape vm_taped vm_at vm_token vm_place vm_value vm_word vm_bad vm_badPlace vm_fault vm_faultPlace qm_lines qm_has qm_round qm_meets qm_stumble qm_isMud qm_cell qm_tune qm_change qm_isKept qm_steps qm_places qm_danced vm_runMost vm_runBegins qm_heardBy vm_fitMany vm_fitFirst vm_fitBeats vm_listenLeaves qm_there vm_metAt vm_metIn qm_wins vm_nightHoles vm_nightFirst vm_nightMud vm_nightSlips vm_drawnNow, (qm_has, .inl (cI, 55, .inl (fm_has))), (qm_stumble, .inl (cI, 160, .inl (fm_stumble)))] := ⟨hP.sub [0, 1, 2] rfl, hD.sub [0, 1, 2] (by decide) rfl⟩
    exact W.iret (v := (-2)) hx hb hr (fun t ht hW => ⟨⟨(-2), (0 : Int32), rfl, trivial, by rw [ht]; exact hP9, hD9⟩, hS.F ht⟩) hS.2.2 dX12_stumbled_51
abbrev w_c_X12_muddy (cI cJ cB cZ cO : ClassId) (qm : Nat) (vm_thrown : Int32) (qm_width : Nat) (qm_many : Nat) (qm_cells : Nat) (qm_moved : Nat) (qm_tape : Nat) (vm_taped : Int32) (vm_at : Int32) (vm_token : Int32) (vm_place : Int32) (vm_value : Int32) (vm_word : Int64) (vm_bad : Int32) (vm_badPlace : Int32) (vm_fault : Int32) (vm_faultPlace : Int32) (qm_lines : Nat) (fm_lines : Nat → Int32) (qm_has : Nat) (qm_round : Nat) (qm_meets : Nat) (qm_stumble : Nat) (qm_isMud : Nat) (fm_isMud : Nat → Int32) (qm_cell : Nat) (qm_tune : Nat) (qm_change : Nat) (qm_isKept : Nat) (qm_steps : Nat) (qm_places : Nat) (qm_danced : Nat) (vm_runMost : Int32) (vm_runBegins : Int32) (qm_heardBy : Nat) (vm_fitMany : Int32) (vm_fitFirst : Int32) (vm_fitBeats : Int64) (vm_listenLeaves : Int32) (qm_there : Nat) (vm_metAt : Int32) (vm_metIn : Int32) (qm_wins : Nat) (vm_nightHoles : Int32) (vm_nightFirst : Int32) (vm_nightMud : Int32) (vm_nightSlips : Int32) (vm_drawnNow : Int64) : va_W := [mo qm vm_thrown qm_width qm_many qm_cells qm_moved qm_tape vm_taped vm_at vm_token vm_place vm_value vm_word vm_bad vm_badPlace vm_fault vm_faultPlace qm_lines qm_has qm_round qm_meets qm_stumble qm_isMud qm_cell qm_tune qm_change qm_isKept qm_steps qm_places qm_danced vm_runMost vm_runBegins qm_heardBy vm_fitMany vm_fitFirst vm_fitBeats vm_listenLeaves qm_there vm_metAt vm_metIn qm_wins vm_nightHoles vm_nightFirst vm_nightMud vm_nightSlips vm_drawnNow, (qm_lines, .inl (cI, 5, .inl (fm_lines))), (qm_isMud, .inl (cZ, 1000, .inl (fm_isMud)))]
set_option maxHeartbeats 4000000 in
set_option maxRecDepth 100000 in
/-- X12 muddy -/
theorem c_X12_muddy (l : Launch) (D : va_G) (G : ct_G) (cI cJ cB cZ cO : ClassId) (qm : Nat) (vm_thrown : Int32) (qm_width : Nat) (qm_many : Nat) (qm_cells : Nat) (qm_moved : Nat) (qm_tape : Nat) (vm_taped : Int32) (vm_at : Int32) (vm_token : Int32) (vm_place : Int32) (vm_value : Int32) (vm_word : Int64) (vm_bad : Int32) (vm_badPlace : Int32) (vm_fault : Int32) (vm_faultPlace : Int32) (qm_lines : Nat) (fm_lines : Nat → Int32) (qm_has : Nat) (qm_round : Nat) (qm_meets : Nat) (qm_stumble : Nat) (qm_isMud : Nat) (fm_isMud : Nat → Int32) (qm_cell : Nat) (qm_tune : Nat) (qm_change : Nat) (qm_isKept : Nat) (qm_steps : Nat) (qm_places : Nat) (qm_danced : Nat) (vm_runMost : Int32) (vm_runBegins : Int32) (qm_heardBy : Nat) (vm_fitMany : Int32) (vm_fitFirst : Int32) (vm_fitBeats : Int64) (vm_listenLeaves : Int32) (qm_there : Nat) (vm_metAt : Int32) (vm_metIn : Int32) (qm_wins : Nat) (vm_nightHoles : Int32) (vm_nightFirst : Int32) (vm_nightMud : Int32) (vm_nightSlips : Int32) (vm_drawnNow : Int64) (a1 : Int32) (h_vm_taped : 0 ≤ vm_taped.toInt ∧ vm_taped.toInt ≤ 1200) (h_vm_at : 0 ≤ vm_at.toInt ∧ vm_at.toInt ≤ 1200) (h_vm_value : 0 ≤ vm_value.toInt ∧ vm_value.toInt ≤ 1000009) (sz : Nat) : Met l yX12_muddy wsX12_muddy ({ frames := 2, cells := 0, slots := 0, locals := 46 }) (va_Pc [.ref qm, .int a1] (ct_P D (ct_T cI cJ cB cZ cO) G (w_c_X12_muddy cI cJ cB cZ cO qm vm_thrown qm_width qm_many qm_cells qm_moved qm_tape vm_taped vm_at vm_token vm_place vm_value vm_word vm_bad vm_badPlace vm_fault vm_faultPlace qm_lines fm_lines qm_has qm_round qm_meets qm_stumble qm_isMud fm_isMud qm_cell qm_tune qm_change qm_isKept qm_steps qm_places qm_danced vm_runMost vm_runBegins qm_heardBy vm_fitMany vm_fitFirst vm_fitBeats vm_listenLeaves qm_there vm_metAt vm_metIn qm_wins vm_nightHoles vm_nightFirst vm_nightMud vm_nightSlips vm_drawnNow) sz)) (va_Qi (fun (rz : Int32) (u : Int32) => ((-2) ≤ rz.toInt ∧ rz.toInt ≤ 1)) (fun (u : Int32) t => ct_Q D (va_A (w_c_X12_muddy cI cJ cB cZ cO qm vm_thrown qm_width qm_many qm_cells qm_moved qm_tape vm_taped vm_at vm_token vm_place vm_value vm_word vm_bad vm_badPlace vm_fault vm_faultPlace qm_lines fm_lines qm_has qm_round qm_meets qm_stumble qm_isMud fm_isMud qm_cell qm_tune qm_change qm_isKept qm_steps qm_places qm_danced vm_runMost vm_runBegins qm_heardBy vm_fitMany vm_fitFirst vm_fitBeats vm_listenLeaves qm_there vm_metAt vm_metIn qm_wins vm_nightHoles vm_nightFirst vm_nightMud vm_nightSlips vm_drawnNow) sz) [mo qm u qm_width qm_many qm_cells qm_moved qm_tape vm_taped vm_at vm_token vm_place vm_value vm_word vm_bad vm_badPlace vm_fault vm_faultPlace qm_lines qm_has qm_round qm_meets qm_stumble qm_isMud qm_cell qm_tune qm_change qm_isKept qm_steps qm_places qm_danced vm_runMost vm_runBegins qm_heardBy vm_fitMany vm_fitFirst vm_fitBeats vm_listenLeaves qm_there vm_metAt vm_metIn qm_wins vm_nightHoles vm_nightFirst vm_nightMud vm_nightSlips vm_drawnNow, (qm_lines, .inl (cI, 5, .inl (fm_lines))), (qm_isMud, .inl (cZ, 1000, .inl (fm_isMud)))] t) (va_A (w_c_X12_muddy cI cJ cB cZ cO qm vm_thrown qm_width qm_many qm_cells qm_moved qm_tape vm_taped vm_at vm_token vm_place vm_value vm_word vm_bad vm_badPlace vm_fault vm_faultPlace qm_lines fm_lines qm_has qm_round qm_meets qm_stumble qm_isMud fm_isMud qm_cell qm_tune qm_change qm_isKept qm_steps qm_places qm_danced vm_runMost vm_runBegins qm_heardBy vm_fitMany vm_fitFirst vm_fitBeats vm_listenLeaves qm_there vm_metAt vm_metIn qm_wins vm_nightHoles vm_nightFirst vm_nightMud vm_nightSlips vm_drawnNow) sz)) 0 0 (va_A (w_c_X12_muddy cI cJ cB cZ cO qm vm_thrown qm_width qm_many qm_cells qm_moved qm_tape vm_taped vm_at vm_token vm_place vm_value vm_word vm_bad vm_badPlace vm_fault vm_faultPlace qm_lines fm_lines qm_has qm_round qm_meets qm_stumble qm_isMud fm_isMud qm_cell qm_tune qm_change qm_isKept qm_steps qm_places qm_danced vm_runMost vm_runBegins qm_heardBy vm_fitMany vm_fitFirst vm_fitBeats vm_listenLeaves qm_there vm_metAt vm_metIn qm_wins vm_nightHoles vm_nightFirst vm_nightMud vm_nightSlips vm_drawnNow) sz) := by
  refine Met.ofW (cc := cX12_muddy) (maxL := 2) (ret := (some .int)) (by decide) rfl ?_
  intro p e s m args below meth c s₁ B hml hv
  obtain ⟨rfl, hsz, hP, hE, hD0, hH⟩ := hv
  have hx := B.exec
  have hb := B.bytes
  have hr := B.returns
  have hts := atoms_spec (ws := wsX12_muddy) B.pre
  have hown : s.vm.findClass RX12 = some m.cls := findClass_of_methodNamed B.named
  have hlocks := B.notSynchronized
  have hK := hE.1
  have hi12 : ∀ w ∈ u_ws RX12 TX12 45, w ∈ wsX12_muddy := fun w h => List.mem_cons_of_mem _ (List.mem_append_right _ h)
  subst hsz
  have hD := hD0.self (sz := s.heap.size)
  generalize hAe : va_A (w_c_X12_muddy cI cJ cB cZ cO qm vm_thrown qm_width qm_many qm_cells qm_moved qm_tape vm_taped vm_at vm_token vm_place vm_value vm_word vm_bad vm_badPlace vm_fault vm_faultPlace qm_lines fm_lines qm_has qm_round qm_meets qm_stumble qm_isMud fm_isMud qm_cell qm_tune qm_change qm_isKept qm_steps qm_places qm_danced vm_runMost vm_runBegins qm_heardBy vm_fitMany vm_fitFirst vm_fitBeats vm_listenLeaves qm_there vm_metAt vm_metIn qm_wins vm_nightHoles vm_nightFirst vm_nightMud vm_nightSlips vm_drawnNow) s.heap.size = A at hD hH ⊢
  have hA : ∀ q : Nat, s.heap.size ≤ q → A q := fun q h => by rw [← hAe]; exact Or.inr h
  have hS : va_S A s.heap s.heap [] := va_S.rf
  obtain ⟨hP, hD⟩ : ct_B D A s.heap [mo qm vm_thrown qm_width qm_many qm_cells qm_moved qm_tape vm_taped vm_at vm_token vm_place vm_value vm_word vm_bad vm_badPlace vm_fault vm_faultPlace qm_lines qm_has qm_round qm_meets qm_stumble qm_isMud qm_cell qm_tune qm_change qm_isKept qm_steps qm_places qm_danced vm_runMost vm_runBegins qm_heardBy vm_fitMany vm_fitFirst vm_fitBeats vm_listenLeaves qm_there vm_metAt vm_metIn qm_wins vm_nightHoles vm_nightFirst vm_nightMud vm_nightSlips vm_drawnNow, (qm_lines, .inl (cI, 5, .inl (fm_lines))), (qm_isMud, .inl (cZ, 1000, .inl (fm_isMud)))] := ⟨hP, hD⟩
  have hl := lv_entry ([.ref qm, .int a1]) (n := 2) (Nat.le_of_ble_eq_true rfl)
  rw [lg_entry_eq]
  generalize (lg_sl ([.ref qm, .int a1]) ++ List.replicate (2 - (lg_sl ([.ref qm, .int a1])).length) Slot.unset).toArray = ls at hl ⊢
  have hl : lv_has ls 2 [(0, .ref qm), (1, .int a1)] := hl
  obtain ⟨H, hHe⟩ : ∃ H : Heap, H = s.heap := ⟨_, rfl⟩
  rw [← hHe] at hP
  have hS : va_S A s.heap H [] := by rw [hHe]; exact va_S.rf
  refine ct_start hHe ?_
  refine lv_aload_n hx hb dX12_muddy_0 rfl (lv_at hl 0 rfl) ?_
  refine lv_iconst (v := 0) hx hb dX12_muddy_1 (by decide) ?_
  refine va_put (D := D) (ci := 12) (v := .int 0) (ty := .int) (C := RX12) (T := TX12) (N := 45) hx hb hts hi12 tyX12 tyX12_ok nmX12 hown hK hP hD hS 0 rfl rfl 0 (by decide) (hts (.fieldLink RX12 80 "OverHillModel" "thrown" "I") (by decide +kernel)) (fun _ h9 => h9) rfl (by decide +kernel) rfl rfl (Nat.le_of_ble_eq_true rfl) dX12_muddy_2 (fun H locs hP hD hS => ?_)
  obtain ⟨hP, hD⟩ : ct_B D A H [mo qm 0 qm_width qm_many qm_cells qm_moved qm_tape vm_taped vm_at vm_token vm_place vm_value vm_word vm_bad vm_badPlace vm_fault vm_faultPlace qm_lines qm_has qm_round qm_meets qm_stumble qm_isMud qm_cell qm_tune qm_change qm_isKept qm_steps qm_places qm_danced vm_runMost vm_runBegins qm_heardBy vm_fitMany vm_fitFirst vm_fitBeats vm_listenLeaves qm_there vm_metAt vm_metIn qm_wins vm_nightHoles vm_nightFirst vm_nightMud vm_nightSlips vm_drawnNow, (qm_lines, .inl (cI, 5, .inl (fm_lines))), (qm_isMud, .inl (cZ, 1000, .inl (fm_isMud)))] := ⟨hP, hD⟩
  refine lv_aload_n hx hb dX12_muddy_5 rfl (lv_at hl 0 rfl) ?_
  refine ct_calli (D := D) (wr := [(qm_isMud, .inl (cZ, 1000, .inl (fm_isMud)))]) (va_runV (As := []) (rest := []) ⟨hx, hb, hml, hown, hts⟩ (c_X12_isDance l D G cI cJ cB cZ cO qm 0 qm_width qm_many qm_cells qm_moved qm_tape vm_taped vm_at vm_token vm_place vm_value vm_word vm_bad vm_badPlace vm_fault vm_faultPlace qm_lines fm_lines qm_has qm_round qm_meets qm_stumble qm_isMud qm_cell qm_tune qm_change qm_isKept qm_steps qm_places qm_danced vm_runMost vm_runBegins qm_heardBy vm_fitMany vm_fitFirst vm_fitBeats vm_listenLeaves qm_there vm_metAt vm_metIn qm_wins vm_nightHoles vm_nightFirst vm_nightMud vm_nightSlips vm_drawnNow h_vm_taped h_vm_at h_vm_value H.size) (cwV 0 hts gX12_muddy_X12_isDance rfl rfl rfl (by decide +kernel) ⟨Nat.le_of_ble_eq_true rfl, Nat.le_of_ble_eq_true rfl⟩) (ct_preV (T := ct_T cI cJ cB cZ cO) (ci := 12) (q0 := 0) hE hH hP hD hS hA [0, 1] (by decide) rfl rfl rfl) rfl rfl hl.1 rfl (lv_room (Nat.le_of_ble_eq_true rfl)) dX12_muddy_6 ⟨Nat.le_of_ble_eq_true rfl, Nat.le_of_ble_eq_true rfl⟩) hP hD hS hA [0, 1] [2] rfl rfl (by decide) (by decide) (fun r1 u H locs hw hP hD hS => ?_)
  obtain ⟨hP, hD⟩ : ct_B D A H [(qm_isMud, .inl (cZ, 1000, .inl (fm_isMud))), mo qm 0 qm_width qm_many qm_cells qm_moved qm_tape vm_taped vm_at vm_token vm_place vm_value vm_word vm_bad vm_badPlace vm_fault vm_faultPlace qm_lines qm_has qm_round qm_meets qm_stumble qm_isMud qm_cell qm_tune qm_change qm_isKept qm_steps qm_places qm_danced vm_runMost vm_runBegins qm_heardBy vm_fitMany vm_fitFirst vm_fitBeats vm_listenLeaves qm_there vm_metAt vm_metIn qm_wins vm_nightHoles vm_nightFirst vm_nightMud vm_nightSlips vm_drawnNow, (qm_lines, .inl (cI, 5, .inl (fm_lines)))] := ⟨hP, hD⟩
  have hz := hw
  rcases hz with ⟨hz, hz2⟩ | ⟨hz, hz2⟩
  · subst hz
    refine lv_if_eq (tgt := 37) hx hb dX12_muddy_9 (by decide) (fun hc => absurd hc (by decide)) (fun _ => ?_)
    refine lv_iload_n hx hb dX12_muddy_12 rfl (lv_at hl 1 rfl) ?_
    refine lv_i2l (v := _) hx hb dX12_muddy_13 rfl ?_
    refine lv_topl (fun z2 ez2 => ?_)
    have fz2 : z2.toInt = a1.toInt := by rw [ez2]; exact tl_i rfl
    have hb3 := tq_lo a1
    refine ct_calli (D := D) (wr := [(qm_isMud, .inl (cZ, 1000, .inl (fm_isMud))), mo qm 0 qm_width qm_many qm_cells qm_moved qm_tape vm_taped vm_at vm_token vm_place vm_value vm_word vm_bad vm_badPlace vm_fault vm_faultPlace qm_lines qm_has qm_round qm_meets qm_stumble qm_isMud qm_cell qm_tune qm_change qm_isKept qm_steps qm_places qm_danced vm_runMost vm_runBegins qm_heardBy vm_fitMany vm_fitFirst vm_fitBeats vm_listenLeaves qm_there vm_metAt vm_metIn qm_wins vm_nightHoles vm_nightFirst vm_nightMud vm_nightSlips vm_drawnNow, (qm_lines, .inl (cI, 5, .inl (fm_lines)))]) (va_runS (As := [.long z2]) (rest := []) ⟨hx, hb, hml, hown, hts⟩ (c_X12_isBeat l D G cI cJ cB cZ cO z2  H.size) (va_cwS 1 hts gX12_muddy_X12_isBeat rfl rfl rfl (by decide +kernel) ⟨Nat.le_of_ble_eq_true rfl, Nat.le_of_ble_eq_true rfl⟩) (ct_preS (T := ct_T cI cJ cB cZ cO) hE hH hP hD hS hA [] (by decide) rfl) rfl rfl hl.1 rfl (lv_room (Nat.le_of_ble_eq_true rfl)) dX12_muddy_14 ⟨Nat.le_of_ble_eq_true rfl, Nat.le_of_ble_eq_true rfl⟩) hP hD hS hA [] [0, 1, 2] rfl rfl (by decide) (by decide) (fun r4 u H locs hw hP hD hS => ?_)
    obtain ⟨hP, hD⟩ : ct_B D A H [(qm_isMud, .inl (cZ, 1000, .inl (fm_isMud))), mo qm 0 qm_width qm_many qm_cells qm_moved qm_tape vm_taped vm_at vm_token vm_place vm_value vm_word vm_bad vm_badPlace vm_fault vm_faultPlace qm_lines qm_has qm_round qm_meets qm_stumble qm_isMud qm_cell qm_tune qm_change qm_isKept qm_steps qm_places qm_danced vm_runMost vm_runBegins qm_heardBy vm_fitMany vm_fitFirst vm_fitBeats vm_listenLeaves qm_there vm_metAt vm_metIn qm_wins vm_nightHoles vm_nightFirst vm_nightMud vm_nightSlips vm_drawnNow, (qm_lines, .inl (cI, 5, .inl (fm_lines)))] := ⟨hP, hD⟩
    have hz := hw
    rcases hz with ⟨hz, hz2⟩ | ⟨hz, hz2⟩
    · subst hz
      have hz_5 : (0 ≤ z2.toInt ∧ z2.toInt ≤ 199) := hz2
      refine lv_if_eq (tgt := 37) hx hb dX12_muddy_17 (by decide) (fun hc => absurd hc (by decide)) (fun _ => ?_)
      refine lv_aload_n hx hb dX12_muddy_20 rfl (lv_at hl 0 rfl) ?_
      refine va_get (D := D) (ci := 12) (v := .ref qm_isMud) (C := RX12) (T := TX12) (N := 45) hx hb hts hi12 hown hK hP 1 rfl rfl 21 (by decide) (hts (.fieldLink RX12 46 "OverHillModel" "isMud" "[Z") (by decide +kernel)) (fun _ h9 => h9) rfl dX12_muddy_21 ?_
      refine lv_iload_n hx hb dX12_muddy_24 rfl (lv_at hl 1 rfl) ?_
      refine va_zald (D := D) hx hb hK hP 0 3 rfl rfl (tq_in rfl (by omega)) dX12_muddy_25 ?_
      refine lv_topi (fun z6 ez6 => ?_)
      refine lv_if_eq (tgt := 33) hx hb dX12_muddy_26 (by decide) (fun hc => ?_) (fun hc => ?_)
      · have hq7 : z6.toInt = 0 := tq_eq rfl (by decide) hc
        have hb8 := tq_lo z6
        refine lv_iconst (v := 0) hx hb dX12_muddy_33 (by decide) ?_
        refine lv_goto (tgt := 39) hx hb dX12_muddy_34 (by decide) ?_
        obtain ⟨hP9, hD9⟩ : ct_B D A H [mo qm 0 qm_width qm_many qm_cells qm_moved qm_tape vm_taped vm_at vm_token vm_place vm_value vm_word vm_bad vm_badPlace vm_fault vm_faultPlace qm_lines qm_has qm_round qm_meets qm_stumble qm_isMud qm_cell qm_tune qm_change qm_isKept qm_steps qm_places qm_danced vm_runMost vm_runBegins qm_heardBy vm_fitMany vm_fitFirst vm_fitBeats vm_listenLeaves qm_there vm_metAt vm_metIn qm_wins vm_nightHoles vm_nightFirst vm_nightMud vm_nightSlips vm_drawnNow, (qm_lines, .inl (cI, 5, .inl (fm_lines))), (qm_isMud, .inl (cZ, 1000, .inl (fm_isMud)))] := ⟨hP.sub [1, 2, 0] rfl, hD.sub [1, 2, 0] (by decide) rfl⟩
        exact W.iret (v := 0) hx hb hr (fun t ht hW => ⟨⟨0, (0 : Int32), rfl, (show (-2) ≤ (0 : Int32).toInt ∧ (0 : Int32).toInt ≤ 1 by decide), by rw [ht]; exact hP9, hD9⟩, hS.F ht⟩) hS.2.2 dX12_muddy_39
      · have hq7 : z6.toInt ≠ 0 := tq_ne rfl (by decide) hc
        have hb9 := tq_lo z6
        refine lv_iconst (v := 1) hx hb dX12_muddy_29 (by decide) ?_
        refine lv_goto (tgt := 39) hx hb dX12_muddy_30 (by decide) ?_
        obtain ⟨hP9, hD9⟩ : ct_B D A H [mo qm 0 qm_width qm_many qm_cells qm_moved qm_tape vm_taped vm_at vm_token vm_place vm_value vm_word vm_bad vm_badPlace vm_fault vm_faultPlace qm_lines qm_has qm_round qm_meets qm_stumble qm_isMud qm_cell qm_tune qm_change qm_isKept qm_steps qm_places qm_danced vm_runMost vm_runBegins qm_heardBy vm_fitMany vm_fitFirst vm_fitBeats vm_listenLeaves qm_there vm_metAt vm_metIn qm_wins vm_nightHoles vm_nightFirst vm_nightMud vm_nightSlips vm_drawnNow, (qm_lines, .inl (cI, 5, .inl (fm_lines))), (qm_isMud, .inl (cZ, 1000, .inl (fm_isMud)))] := ⟨hP.sub [1, 2, 0] rfl, hD.sub [1, 2, 0] (by decide) rfl⟩
        exact W.iret (v := 1) hx hb hr (fun t ht hW => ⟨⟨1, (0 : Int32), rfl, (show (-2) ≤ (1 : Int32).toInt ∧ (1 : Int32).toInt ≤ 1 by decide), by rw [ht]; exact hP9, hD9⟩, hS.F ht⟩) hS.2.2 dX12_muddy_39
    · subst hz
      have hz_10 : ¬ (0 ≤ z2.toInt ∧ z2.toInt ≤ 199) := hz2
      refine lv_if_eq (tgt := 37) hx hb dX12_muddy_17 (by decide) (fun _ => ?_) (fun hc => absurd hc (by decide))
      refine lv_bipush (v := (-2)) hx hb dX12_muddy_37 (by decide) ?_
      obtain ⟨hP9, hD9⟩ : ct_B D A H [mo qm 0 qm_width qm_many qm_cells qm_moved qm_tape vm_taped vm_at vm_token vm_place vm_value vm_word vm_bad vm_badPlace vm_fault vm_faultPlace qm_lines qm_has qm_round qm_meets qm_stumble qm_isMud qm_cell qm_tune qm_change qm_isKept qm_steps qm_places qm_danced vm_runMost vm_runBegins qm_heardBy vm_fitMany vm_fitFirst vm_fitBeats vm_listenLeaves qm_there vm_metAt vm_metIn qm_wins vm_nightHoles vm_nightFirst vm_nightMud vm_nightSlips vm_drawnNow, (qm_lines, .inl (cI, 5, .inl (fm_lines))), (qm_isMud, .inl (cZ, 1000, .inl (fm_isMud)))] := ⟨hP.sub [1, 2, 0] rfl, hD.sub [1, 2, 0] (by decide) rfl⟩
      exact W.iret (v := (-2)) hx hb hr (fun t ht hW => ⟨⟨(-2), (0 : Int32), rfl, (show (-2) ≤ (-2 : Int32).toInt ∧ (-2 : Int32).toInt ≤ 1 by decide), by rw [ht]; exact hP9, hD9⟩, hS.F ht⟩) hS.2.2 dX12_muddy_39
  · subst hz
    refine lv_if_eq (tgt := 37) hx hb dX12_muddy_9 (by decide) (fun _ => ?_) (fun hc => absurd hc (by decide))
    refine lv_bipush (v := (-2)) hx hb dX12_muddy_37 (by decide) ?_
    obtain ⟨hP9, hD9⟩ : ct_B D A H [mo qm 0 qm_width qm_many qm_cells qm_moved qm_tape vm_taped vm_at vm_token vm_place vm_value vm_word vm_bad vm_badPlace vm_fault vm_faultPlace qm_lines qm_has qm_round qm_meets qm_stumble qm_isMud qm_cell qm_tune qm_change qm_isKept qm_steps qm_places qm_danced vm_runMost vm_runBegins qm_heardBy vm_fitMany vm_fitFirst vm_fitBeats vm_listenLeaves qm_there vm_metAt vm_metIn qm_wins vm_nightHoles vm_nightFirst vm_nightMud vm_nightSlips vm_drawnNow, (qm_lines, .inl (cI, 5, .inl (fm_lines))), (qm_isMud, .inl (cZ, 1000, .inl (fm_isMud)))] := ⟨hP.sub [1, 2, 0] rfl, hD.sub [1, 2, 0] (by decide) rfl⟩
    exact W.iret (v := (-2)) hx hb hr (fun t ht hW => ⟨⟨(-2), (0 : Int32), rfl, (show (-2) ≤ (-2 : Int32).toInt ∧ (-2 : Int32).toInt ≤ 1 by decide), by rw [ht]; exact hP9, hD9⟩, hS.F ht⟩) hS.2.2 dX12_muddy_39
abbrev w_c_X12_dances (cI cJ cB cZ cO : ClassId) (qm : Nat) (vm_thrown : Int32) (qm_width : Nat) (qm_many : Nat) (qm_cells : Nat) (qm_moved : Nat) (qm_tape : Nat) (vm_taped : Int32) (vm_at : Int32) (vm_token : Int32) (vm_place : Int32) (vm_value : Int32) (vm_word : Int64) (vm_bad : Int32) (vm_badPlace : Int32) (vm_fault : Int32) (vm_faultPlace : Int32) (qm_lines : Nat) (qm_has : Nat) (fm_has : Nat → Int32) (qm_round : Nat) (fm_round : Nat → Int32) (qm_meets : Nat) (qm_stumble : Nat) (fm_stumble : Nat → Int32) (qm_isMud : Nat) (fm_isMud : Nat → Int32) (qm_cell : Nat) (qm_tune : Nat) (qm_change : Nat) (qm_isKept : Nat) (qm_steps : Nat) (qm_places : Nat) (fm_places : Nat → Int32) (qm_danced : Nat) (fm_danced : Nat → Int32) (vm_runMost : Int32) (vm_runBegins : Int32) (qm_heardBy : Nat) (vm_fitMany : Int32) (vm_fitFirst : Int32) (vm_fitBeats : Int64) (vm_listenLeaves : Int32) (qm_there : Nat) (vm_metAt : Int32) (vm_metIn : Int32) (qm_wins : Nat) (vm_nightHoles : Int32) (vm_nightFirst : Int32) (vm_nightMud : Int32) (vm_nightSlips : Int32) (vm_drawnNow : Int64) : va_W := [mo qm vm_thrown qm_width qm_many qm_cells qm_moved qm_tape vm_taped vm_at vm_token vm_place vm_value vm_word vm_bad vm_badPlace vm_fault vm_faultPlace qm_lines qm_has qm_round qm_meets qm_stumble qm_isMud qm_cell qm_tune qm_change qm_isKept qm_steps qm_places qm_danced vm_runMost vm_runBegins qm_heardBy vm_fitMany vm_fitFirst vm_fitBeats vm_listenLeaves qm_there vm_metAt vm_metIn qm_wins vm_nightHoles vm_nightFirst vm_nightMud vm_nightSlips vm_drawnNow, (qm_has, .inl (cI, 55, .inl (fm_has))), (qm_round, .inl (cI, 120, .inl (fm_round))), (qm_stumble, .inl (cI, 160, .inl (fm_stumble))), (qm_isMud, .inl (cZ, 1000, .inl (fm_isMud))), (qm_places, .inl (cI, 402, .inl (fm_places))), (qm_danced, .inl (cI, 400, .inl (fm_danced)))]
set_option maxHeartbeats 4000000 in
set_option maxRecDepth 100000 in
/-- X12 dances -/
theorem c_X12_dances (l : Launch) (D : va_G) (G : ct_G) (cI cJ cB cZ cO : ClassId) (qm : Nat) (vm_thrown : Int32) (qm_width : Nat) (qm_many : Nat) (qm_cells : Nat) (qm_moved : Nat) (qm_tape : Nat) (vm_taped : Int32) (vm_at : Int32) (vm_token : Int32) (vm_place : Int32) (vm_value : Int32) (vm_word : Int64) (vm_bad : Int32) (vm_badPlace : Int32) (vm_fault : Int32) (vm_faultPlace : Int32) (qm_lines : Nat) (qm_has : Nat) (fm_has : Nat → Int32) (qm_round : Nat) (fm_round : Nat → Int32) (qm_meets : Nat) (qm_stumble : Nat) (fm_stumble : Nat → Int32) (qm_isMud : Nat) (fm_isMud : Nat → Int32) (qm_cell : Nat) (qm_tune : Nat) (qm_change : Nat) (qm_isKept : Nat) (qm_steps : Nat) (qm_places : Nat) (fm_places : Nat → Int32) (qm_danced : Nat) (fm_danced : Nat → Int32) (vm_runMost : Int32) (vm_runBegins : Int32) (qm_heardBy : Nat) (vm_fitMany : Int32) (vm_fitFirst : Int32) (vm_fitBeats : Int64) (vm_listenLeaves : Int32) (qm_there : Nat) (vm_metAt : Int32) (vm_metIn : Int32) (qm_wins : Nat) (vm_nightHoles : Int32) (vm_nightFirst : Int32) (vm_nightMud : Int32) (vm_nightSlips : Int32) (vm_drawnNow : Int64) (a1 : Int32) (a2 : Int32) (a3 : Int32) (a4 : Int32) (a5 : Int32) (h_vm_taped : 0 ≤ vm_taped.toInt ∧ vm_taped.toInt ≤ 1200) (h_vm_at : 0 ≤ vm_at.toInt ∧ vm_at.toInt ≤ 1200) (h_vm_value : 0 ≤ vm_value.toInt ∧ vm_value.toInt ≤ 1000009) (h_fm_has : ar_ok [0, (-2147483648), (-2147483648), 0, 0, 0, 0, 0, 0, 0, 0] [20, 2147483647, 2147483647, 12, 12, 11, 11, 8, 12, 5, 40] fm_has) (h_fm_round : ar_ok [0] [5] fm_round) (h_fm_stumble : ar_ok [(-2147483648), (-2147483648), 0, (-2147483648)] [2147483647, 2147483647, 5, 2147483647] fm_stumble) (h_fm_danced : ar_ok [(-1)] [5] fm_danced) (h_a1 : 0 ≤ a1.toInt ∧ a1.toInt ≤ 1) (h_a4 : 0 ≤ a4.toInt ∧ a4.toInt ≤ 5) (sz : Nat) : Met l yX12_dances wsX12_dances ({ frames := 1, cells := 0, slots := 0, locals := 21 }) (va_Pc [.ref qm, .int a1, .int a2, .int a3, .int a4, .int a5] (ct_P D (ct_T cI cJ cB cZ cO) G (w_c_X12_dances cI cJ cB cZ cO qm vm_thrown qm_width qm_many qm_cells qm_moved qm_tape vm_taped vm_at vm_token vm_place vm_value vm_word vm_bad vm_badPlace vm_fault vm_faultPlace qm_lines qm_has fm_has qm_round fm_round qm_meets qm_stumble fm_stumble qm_isMud fm_isMud qm_cell qm_tune qm_change qm_isKept qm_steps qm_places fm_places qm_danced fm_danced vm_runMost vm_runBegins qm_heardBy vm_fitMany vm_fitFirst vm_fitBeats vm_listenLeaves qm_there vm_metAt vm_metIn qm_wins vm_nightHoles vm_nightFirst vm_nightMud vm_nightSlips vm_drawnNow) sz)) (va_Qv (fun (u : (Nat → Int32) × (Nat → Int32)) => (ar_ok [(-1)] [5] u.2)) (fun (u : (Nat → Int32) × (Nat → Int32)) t => ct_Q D (va_A (w_c_X12_dances cI cJ cB cZ cO qm vm_thrown qm_width qm_many qm_cells qm_moved qm_tape vm_taped vm_at vm_token vm_place vm_value vm_word vm_bad vm_badPlace vm_fault vm_faultPlace qm_lines qm_has fm_has qm_round fm_round qm_meets qm_stumble fm_stumble qm_isMud fm_isMud qm_cell qm_tune qm_change qm_isKept qm_steps qm_places fm_places qm_danced fm_danced vm_runMost vm_runBegins qm_heardBy vm_fitMany vm_fitFirst vm_fitBeats vm_listenLeaves qm_there vm_metAt vm_metIn qm_wins vm_nightHoles vm_nightFirst vm_nightMud vm_nightSlips vm_drawnNow) sz) [mo qm vm_thrown qm_width qm_many qm_cells qm_moved qm_tape vm_taped vm_at vm_token vm_place vm_value vm_word vm_bad vm_badPlace vm_fault vm_faultPlace qm_lines qm_has qm_round qm_meets qm_stumble qm_isMud qm_cell qm_tune qm_change qm_isKept qm_steps qm_places qm_danced vm_runMost vm_runBegins qm_heardBy vm_fitMany vm_fitFirst vm_fitBeats vm_listenLeaves qm_there vm_metAt vm_metIn qm_wins vm_nightHoles vm_nightFirst vm_nightMud vm_nightSlips vm_drawnNow, (qm_has, .inl (cI, 55, .inl (fm_has))), (qm_round, .inl (cI, 120, .inl (fm_round))), (qm_stumble, .inl (cI, 160, .inl (fm_stumble))), (qm_isMud, .inl (cZ, 1000, .inl (fm_isMud))), (qm_places, .inl (cI, 402, .inl (u.1))), (qm_danced, .inl (cI, 400, .inl (u.2)))] t) (va_A (w_c_X12_dances cI cJ cB cZ cO qm vm_thrown qm_width qm_many qm_cells qm_moved qm_tape vm_taped vm_at vm_token vm_place vm_value vm_word vm_bad vm_badPlace vm_fault vm_faultPlace qm_lines qm_has fm_has qm_round fm_round qm_meets qm_stumble fm_stumble qm_isMud fm_isMud qm_cell qm_tune qm_change qm_isKept qm_steps qm_places fm_places qm_danced fm_danced vm_runMost vm_runBegins qm_heardBy vm_fitMany vm_fitFirst vm_fitBeats vm_listenLeaves qm_there vm_metAt vm_metIn qm_wins vm_nightHoles vm_nightFirst vm_nightMud vm_nightSlips vm_drawnNow) sz)) 0 0 (va_A (w_c_X12_dances cI cJ cB cZ cO qm vm_thrown qm_width qm_many qm_cells qm_moved qm_tape vm_taped vm_at vm_token vm_place vm_value vm_word vm_bad vm_badPlace vm_fault vm_faultPlace qm_lines qm_has fm_has qm_round fm_round qm_meets qm_stumble fm_stumble qm_isMud fm_isMud qm_cell qm_tune qm_change qm_isKept qm_steps qm_places fm_places qm_danced fm_danced vm_runMost vm_runBegins qm_heardBy vm_fitMany vm_fitFirst vm_fitBeats vm_listenLeaves qm_there vm_metAt vm_metIn qm_wins vm_nightHoles vm_nightFirst vm_nightMud vm_nightSlips vm_drawnNow) sz) := by
  refine Met.ofW (cc := cX12_dances) (maxL := 13) (ret := none) (by decide) rfl ?_
  intro p e s m args below meth c s₁ B hml hv
  obtain ⟨rfl, hsz, hP, hE, hD0, hH⟩ := hv
  have hx := B.exec
  have hb := B.bytes
  have hr := B.returns
  have hts := atoms_spec (ws := wsX12_dances) B.pre
  have hown : s.vm.findClass RX12 = some m.cls := findClass_of_methodNamed B.named
  have hlocks := B.notSynchronized
  have hK := hE.1
  have hi12 : ∀ w ∈ u_ws RX12 TX12 45, w ∈ wsX12_dances := fun w h => List.mem_cons_of_mem _ (List.mem_append_right _ h)
  subst hsz
  have hD := hD0.self (sz := s.heap.size)
  generalize hAe : va_A (w_c_X12_dances cI cJ cB cZ cO qm vm_thrown qm_width qm_many qm_cells qm_moved qm_tape vm_taped vm_at vm_token vm_place vm_value vm_word vm_bad vm_badPlace vm_fault vm_faultPlace qm_lines qm_has fm_has qm_round fm_round qm_meets qm_stumble fm_stumble qm_isMud fm_isMud qm_cell qm_tune qm_change qm_isKept qm_steps qm_places fm_places qm_danced fm_danced vm_runMost vm_runBegins qm_heardBy vm_fitMany vm_fitFirst vm_fitBeats vm_listenLeaves qm_there vm_metAt vm_metIn qm_wins vm_nightHoles vm_nightFirst vm_nightMud vm_nightSlips vm_drawnNow) s.heap.size = A at hD hH ⊢
  have hA : ∀ q : Nat, s.heap.size ≤ q → A q := fun q h => by rw [← hAe]; exact Or.inr h
  have hS : va_S A s.heap s.heap [] := va_S.rf
  obtain ⟨hP, hD⟩ : ct_B D A s.heap [mo qm vm_thrown qm_width qm_many qm_cells qm_moved qm_tape vm_taped vm_at vm_token vm_place vm_value vm_word vm_bad vm_badPlace vm_fault vm_faultPlace qm_lines qm_has qm_round qm_meets qm_stumble qm_isMud qm_cell qm_tune qm_change qm_isKept qm_steps qm_places qm_danced vm_runMost vm_runBegins qm_heardBy vm_fitMany vm_fitFirst vm_fitBeats vm_listenLeaves qm_there vm_metAt vm_metIn qm_wins vm_nightHoles vm_nightFirst vm_nightMud vm_nightSlips vm_drawnNow, (qm_has, .inl (cI, 55, .inl (fm_has))), (qm_round, .inl (cI, 120, .inl (fm_round))), (qm_stumble, .inl (cI, 160, .inl (fm_stumble))), (qm_isMud, .inl (cZ, 1000, .inl (fm_isMud))), (qm_places, .inl (cI, 402, .inl (fm_places))), (qm_danced, .inl (cI, 400, .inl (fm_danced)))] := ⟨hP, hD⟩
  have hl := lv_entry ([.ref qm, .int a1, .int a2, .int a3, .int a4, .int a5]) (n := 13) (Nat.le_of_ble_eq_true rfl)
  rw [lg_entry_eq]
  generalize (lg_sl ([.ref qm, .int a1, .int a2, .int a3, .int a4, .int a5]) ++ List.replicate (13 - (lg_sl ([.ref qm, .int a1, .int a2, .int a3, .int a4, .int a5])).length) Slot.unset).toArray = ls at hl ⊢
  have hl : lv_has ls 13 [(0, .ref qm), (1, .int a1), (2, .int a2), (3, .int a3), (4, .int a4), (5, .int a5)] := hl
  obtain ⟨H, hHe⟩ : ∃ H : Heap, H = s.heap := ⟨_, rfl⟩
  rw [← hHe] at hP
  have hS : va_S A s.heap H [] := by rw [hHe]; exact va_S.rf
  refine ct_start hHe ?_
  refine lv_aload_n hx hb dX12_dances_0 rfl (lv_at hl 0 rfl) ?_
  refine lv_iload_n hx hb dX12_dances_1 rfl (lv_at hl 1 rfl) ?_
  refine ct_calli (D := D) (wr := [(qm_round, .inl (cI, 120, .inl (fm_round))), (qm_stumble, .inl (cI, 160, .inl (fm_stumble))), (qm_isMud, .inl (cZ, 1000, .inl (fm_isMud))), (qm_places, .inl (cI, 402, .inl (fm_places))), (qm_danced, .inl (cI, 400, .inl (fm_danced)))]) (va_runV (As := [.int a1]) (rest := []) ⟨hx, hb, hml, hown, hts⟩ (c_X12_lengthOf l D G cI cJ cB cZ cO qm vm_thrown qm_width qm_many qm_cells qm_moved qm_tape vm_taped vm_at vm_token vm_place vm_value vm_word vm_bad vm_badPlace vm_fault vm_faultPlace qm_lines qm_has fm_has qm_round qm_meets qm_stumble qm_isMud qm_cell qm_tune qm_change qm_isKept qm_steps qm_places qm_danced vm_runMost vm_runBegins qm_heardBy vm_fitMany vm_fitFirst vm_fitBeats vm_listenLeaves qm_there vm_metAt vm_metIn qm_wins vm_nightHoles vm_nightFirst vm_nightMud vm_nightSlips vm_drawnNow a1 h_vm_taped h_vm_at h_vm_value h_fm_has h_a1 H.size) (cwV 1 hts gX12_dances_X12_lengthOf rfl rfl rfl (by decide +kernel) ⟨Nat.le_of_ble_eq_true rfl, Nat.le_of_ble_eq_true rfl⟩) (ct_preV (T := ct_T cI cJ cB cZ cO) (ci := 12) (q0 := 0) hE hH hP hD hS hA [0, 1] (by decide) rfl rfl rfl) rfl rfl hl.1 rfl (lv_room (Nat.le_of_ble_eq_true rfl)) dX12_dances_2 ⟨Nat.le_of_ble_eq_true rfl, Nat.le_of_ble_eq_true rfl⟩) hP hD hS hA [0, 1] [2, 3, 4, 5, 6] rfl rfl (by decide) (by decide) (fun r1 u H locs hw hP hD hS => ?_)
  obtain ⟨hP, hD⟩ : ct_B D A H [(qm_round, .inl (cI, 120, .inl (fm_round))), (qm_stumble, .inl (cI, 160, .inl (fm_stumble))), (qm_isMud, .inl (cZ, 1000, .inl (fm_isMud))), (qm_places, .inl (cI, 402, .inl (fm_places))), (qm_danced, .inl (cI, 400, .inl (fm_danced))), mo qm vm_thrown qm_width qm_many qm_cells qm_moved qm_tape vm_taped vm_at vm_token vm_place vm_value vm_word vm_bad vm_badPlace vm_fault vm_faultPlace qm_lines qm_has qm_round qm_meets qm_stumble qm_isMud qm_cell qm_tune qm_change qm_isKept qm_steps qm_places qm_danced vm_runMost vm_runBegins qm_heardBy vm_fitMany vm_fitFirst vm_fitBeats vm_listenLeaves qm_there vm_metAt vm_metIn qm_wins vm_nightHoles vm_nightFirst vm_nightMud vm_nightSlips vm_drawnNow, (qm_has, .inl (cI, 55, .inl (fm_has)))] := ⟨hP, hD⟩
  obtain ⟨hz, hp0⟩ := hw
  have hp_2 : r1 = fm_has (3 + a1.toInt).toNat := hp0
  have h_r1 : 0 ≤ r1.toInt ∧ r1.toInt ≤ 12 := hz
  refine lv_istore (lv' := [(6, .int r1), (0, .ref qm), (1, .int a1), (2, .int a2), (3, .int a3), (4, .int a4), (5, .int a5)]) hx hb dX12_dances_5 hl (by decide) rfl (fun ls hl => ?_)
  refine lv_aload_n hx hb dX12_dances_7 rfl (lv_at hl 1 rfl) ?_
  refine va_get (D := D) (ci := 12) (v := .ref qm_has) (C := RX12) (T := TX12) (N := 45) hx hb hts hi12 hown hK hP 5 rfl rfl 17 (by decide) (hts (.fieldLink RX12 34 "OverHillModel" "has" "[I") (by decide +kernel)) (fun _ h9 => h9) rfl dX12_dances_8 ?_
  refine lv_iconst (v := 5) hx hb dX12_dances_11 (by decide) ?_
  refine lv_iload_n hx hb dX12_dances_12 rfl (lv_at hl 2 rfl) ?_
  refine lv_iadd hx hb dX12_dances_13 ?_
  refine lv_topi (fun z3 ez3 => ?_)
  have fz3 : z3.toInt = 5 + a1.toInt := by rw [ez3]; exact tq_add (by decide) rfl (by omega)
  refine va_iald (D := D) hx hb hK hP 6 0 rfl rfl (tq_in rfl (by omega)) dX12_dances_14 ?_
  refine lv_topi (fun z4 ez4 => ?_)
  have fz4 : 0 ≤ z4.toInt ∧ z4.toInt ≤ 11 := by rw [ez4]; exact ar_rng h_fm_has z3 5 6 (by omega) (by omega) (by decide)
  refine lv_istore (lv' := [(7, .int z4), (6, .int r1), (0, .ref qm), (1, .int a1), (2, .int a2), (3, .int a3), (4, .int a4), (5, .int a5)]) hx hb dX12_dances_15 hl (by decide) rfl (fun ls hl => ?_)
  refine lv_iconst (v := 0) hx hb dX12_dances_17 (by decide) ?_
  refine lv_istore (lv' := [(8, .int 0), (7, .int z4), (6, .int r1), (0, .ref qm), (1, .int a1), (2, .int a2), (3, .int a3), (4, .int a4), (5, .int a5)]) hx hb dX12_dances_18 hl (by decide) rfl (fun ls hl => ?_)
  refine ct_loop (X := (Nat → Int32) × (Nat → Int32) × Int32 × Int32) (fun x => (200 - x.2.2.2.toInt).toNat) (fun x H locs ls => (ar_ok [(-1)] [5] x.1) ∧ ((0 ≤ x.2.2.1.toInt ∧ x.2.2.1.toInt ≤ 11)) ∧ ((0 ≤ x.2.2.2.toInt ∧ x.2.2.2.toInt ≤ 200)) ∧ ct_B D A H [(qm_round, .inl (cI, 120, .inl (fm_round))), (qm_stumble, .inl (cI, 160, .inl (fm_stumble))), (qm_isMud, .inl (cZ, 1000, .inl (fm_isMud))), (qm_places, .inl (cI, 402, .inl (x.2.1))), (qm_danced, .inl (cI, 400, .inl (x.1))), mo qm vm_thrown qm_width qm_many qm_cells qm_moved qm_tape vm_taped vm_at vm_token vm_place vm_value vm_word vm_bad vm_badPlace vm_fault vm_faultPlace qm_lines qm_has qm_round qm_meets qm_stumble qm_isMud qm_cell qm_tune qm_change qm_isKept qm_steps qm_places qm_danced vm_runMost vm_runBegins qm_heardBy vm_fitMany vm_fitFirst vm_fitBeats vm_listenLeaves qm_there vm_metAt vm_metIn qm_wins vm_nightHoles vm_nightFirst vm_nightMud vm_nightSlips vm_drawnNow, (qm_has, .inl (cI, 55, .inl (fm_has)))] ∧ va_S A s.heap H locs ∧ lv_has ls 13 [(8, .int x.2.2.2), (7, .int x.2.2.1), (6, .int r1), (0, .ref qm), (1, .int a1), (2, .int a2), (3, .int a3), (4, .int a4), (5, .int a5)]) 20 (fm_danced, fm_places, z4, (0 : Int32)) ⟨h_fm_danced, (show 0 ≤ z4.toInt ∧ z4.toInt ≤ 11 by omega), (show 0 ≤ (0 : Int32).toInt ∧ (0 : Int32).toInt ≤ 200 by decide), ⟨hP, hD⟩, hS, lv_sub hl [0, 1, 2, 3, 4, 5, 6, 7, 8] rfl⟩ (fun x ih18462 H locs ls hI => ?_)
  obtain ⟨g18458, g18459, x18460, x18461⟩ := x
  obtain ⟨h_g18458, h_x18460, h_x18461, ⟨hP, hD⟩, hS, hl⟩ := hI
  have h_g18458 : ar_ok [(-1)] [5] g18458 := h_g18458
  have h_x18460 : (0 ≤ x18460.toInt ∧ x18460.toInt ≤ 11) := h_x18460
  have h_x18461 : (0 ≤ x18461.toInt ∧ x18461.toInt ≤ 200) := h_x18461
  obtain ⟨hP, hD⟩ : ct_B D A H [(qm_round, .inl (cI, 120, .inl (fm_round))), (qm_stumble, .inl (cI, 160, .inl (fm_stumble))), (qm_isMud, .inl (cZ, 1000, .inl (fm_isMud))), (qm_places, .inl (cI, 402, .inl (g18459))), (qm_danced, .inl (cI, 400, .inl (g18458))), mo qm vm_thrown qm_width qm_many qm_cells qm_moved qm_tape vm_taped vm_at vm_token vm_place vm_value vm_word vm_bad vm_badPlace vm_fault vm_faultPlace qm_lines qm_has qm_round qm_meets qm_stumble qm_isMud qm_cell qm_tune qm_change qm_isKept qm_steps qm_places qm_danced vm_runMost vm_runBegins qm_heardBy vm_fitMany vm_fitFirst vm_fitBeats vm_listenLeaves qm_there vm_metAt vm_metIn qm_wins vm_nightHoles vm_nightFirst vm_nightMud vm_nightSlips vm_drawnNow, (qm_has, .inl (cI, 55, .inl (fm_has)))] := ⟨hP, hD⟩
  have hl : lv_has ls 13 [(8, .int x18461), (7, .int x18460), (6, .int r1), (0, .ref qm), (1, .int a1), (2, .int a2), (3, .int a3), (4, .int a4), (5, .int a5)] := hl
  refine lv_iload hx hb dX12_dances_20 (lv_at hl 0 rfl) ?_
  refine lv_sipush (v := 200) hx hb dX12_dances_22 (by decide) ?_
  refine lv_icmp_ge (tgt := 243) hx hb dX12_dances_25 (by decide) (fun hc => ?_) (fun hc => ?_)
  · have hq18463 : 200 ≤ x18461.toInt := tq_le (by decide) rfl hc
    obtain ⟨hP9, hD9⟩ : ct_B D A H [mo qm vm_thrown qm_width qm_many qm_cells qm_moved qm_tape vm_taped vm_at vm_token vm_place vm_value vm_word vm_bad vm_badPlace vm_fault vm_faultPlace qm_lines qm_has qm_round qm_meets qm_stumble qm_isMud qm_cell qm_tune qm_change qm_isKept qm_steps qm_places qm_danced vm_runMost vm_runBegins qm_heardBy vm_fitMany vm_fitFirst vm_fitBeats vm_listenLeaves qm_there vm_metAt vm_metIn qm_wins vm_nightHoles vm_nightFirst vm_nightMud vm_nightSlips vm_drawnNow, (qm_has, .inl (cI, 55, .inl (fm_has))), (qm_round, .inl (cI, 120, .inl (fm_round))), (qm_stumble, .inl (cI, 160, .inl (fm_stumble))), (qm_isMud, .inl (cZ, 1000, .inl (fm_isMud))), (qm_places, .inl (cI, 402, .inl (g18459))), (qm_danced, .inl (cI, 400, .inl (g18458)))] := ⟨hP.sub [5, 6, 0, 1, 2, 3, 4] rfl, hD.sub [5, 6, 0, 1, 2, 3, 4] (by decide) rfl⟩
    exact W.vret hx hb hr (fun t ht hW => ⟨⟨(g18459, g18458), rfl, h_g18458, by rw [ht]; exact hP9, hD9⟩, hS.F ht⟩) hS.2.2 dX12_dances_243
  · have hq18463 : x18461.toInt < 200 := tq_nle (by decide) rfl hc
    refine lv_sipush (v := 200) hx hb dX12_dances_28 (by decide) ?_
    refine lv_iload_n hx hb dX12_dances_31 rfl (lv_at hl 4 rfl) ?_
    refine lv_imul hx hb dX12_dances_32 ?_
    refine lv_topi (fun z18464 ez18464 => ?_)
    have fz18464 : z18464.toInt = 200 * a1.toInt := by rw [ez18464]; exact tq_mul (by decide) rfl (by omega)
    refine lv_iload hx hb dX12_dances_33 (lv_at hl 0 rfl) ?_
    refine lv_iadd hx hb dX12_dances_35 ?_
    refine lv_topi (fun z18465 ez18465 => ?_)
    have fz18465 : z18465.toInt = z18464.toInt + x18461.toInt := by rw [ez18465]; exact tq_add rfl rfl (by omega)
    refine lv_istore (lv' := [(9, .int z18465), (8, .int x18461), (7, .int x18460), (6, .int r1), (0, .ref qm), (1, .int a1), (2, .int a2), (3, .int a3), (4, .int a4), (5, .int a5)]) hx hb dX12_dances_36 hl (by decide) rfl (fun ls hl => ?_)
    refine lv_aload_n hx hb dX12_dances_38 rfl (lv_at hl 4 rfl) ?_
    refine va_get (D := D) (ci := 12) (v := .ref qm_places) (C := RX12) (T := TX12) (N := 45) hx hb hts hi12 hown hK hP 5 rfl rfl 27 (by decide) (hts (.fieldLink RX12 65 "OverHillModel" "places" "[I") (by decide +kernel)) (fun _ h9 => h9) rfl dX12_dances_39 ?_
    refine lv_sipush (v := 201) hx hb dX12_dances_42 (by decide) ?_
    refine lv_iload_n hx hb dX12_dances_45 rfl (lv_at hl 5 rfl) ?_
    refine lv_imul hx hb dX12_dances_46 ?_
    refine lv_topi (fun z18466 ez18466 => ?_)
    have fz18466 : z18466.toInt = 201 * a1.toInt := by rw [ez18466]; exact tq_mul (by decide) rfl (by omega)
    refine lv_iload hx hb dX12_dances_47 (lv_at hl 1 rfl) ?_
    refine lv_iadd hx hb dX12_dances_49 ?_
    refine lv_topi (fun z18467 ez18467 => ?_)
    have fz18467 : z18467.toInt = z18466.toInt + x18461.toInt := by rw [ez18467]; exact tq_add rfl rfl (by omega)
    refine lv_iload hx hb dX12_dances_50 (lv_at hl 3 rfl) ?_
    refine lv_if_ne (tgt := 59) hx hb dX12_dances_52 (by decide) (fun hc => ?_) (fun hc => ?_)
    · have hq18468 : r1.toInt ≠ 0 := tq_ne rfl (by decide) hc
      refine lv_iload hx hb dX12_dances_59 (lv_at hl 2 rfl) ?_
      refine va_iast (D := D) hx hb hK hP hD hS 3 0 rfl rfl (tq_in rfl (by omega)) dX12_dances_61 (fun H locs hP hD hS => ?_)
      obtain ⟨g18469, hP, hD⟩ : ∃ g18469 : Nat → Int32, ct_B D A H [(qm_round, .inl (cI, 120, .inl (fm_round))), (qm_stumble, .inl (cI, 160, .inl (fm_stumble))), (qm_isMud, .inl (cZ, 1000, .inl (fm_isMud))), (qm_places, .inl (cI, 402, .inl (g18469))), (qm_danced, .inl (cI, 400, .inl (g18458))), mo qm vm_thrown qm_width qm_many qm_cells qm_moved qm_tape vm_taped vm_at vm_token vm_place vm_value vm_word vm_bad vm_badPlace vm_fault vm_faultPlace qm_lines qm_has qm_round qm_meets qm_stumble qm_isMud qm_cell qm_tune qm_change qm_isKept qm_steps qm_places qm_danced vm_runMost vm_runBegins qm_heardBy vm_fitMany vm_fitFirst vm_fitBeats vm_listenLeaves qm_there vm_metAt vm_metIn qm_wins vm_nightHoles vm_nightFirst vm_nightMud vm_nightSlips vm_drawnNow, (qm_has, .inl (cI, 55, .inl (fm_has)))] := ⟨_, hP, hD⟩
      refine lv_aload_n hx hb dX12_dances_62 rfl (lv_at hl 4 rfl) ?_
      refine va_get (D := D) (ci := 12) (v := .ref qm_danced) (C := RX12) (T := TX12) (N := 45) hx hb hts hi12 hown hK hP 5 rfl rfl 28 (by decide) (hts (.fieldLink RX12 68 "OverHillModel" "danced" "[I") (by decide +kernel)) (fun _ h9 => h9) rfl dX12_dances_63 ?_
      refine lv_iload hx hb dX12_dances_66 (lv_at hl 0 rfl) ?_
      refine lv_iconst (v := (-1)) hx hb dX12_dances_68 (by decide) ?_
      refine va_iast (D := D) hx hb hK hP hD hS 4 0 rfl rfl (tq_in rfl (by omega)) dX12_dances_69 (fun H locs hP hD hS => ?_)
      obtain ⟨g18470, h_g18470, hP, hD⟩ : ∃ g18470 : Nat → Int32, ar_ok [(-1)] [5] g18470 ∧ ct_B D A H [(qm_round, .inl (cI, 120, .inl (fm_round))), (qm_stumble, .inl (cI, 160, .inl (fm_stumble))), (qm_isMud, .inl (cZ, 1000, .inl (fm_isMud))), (qm_places, .inl (cI, 402, .inl (g18469))), (qm_danced, .inl (cI, 400, .inl (g18470))), mo qm vm_thrown qm_width qm_many qm_cells qm_moved qm_tape vm_taped vm_at vm_token vm_place vm_value vm_word vm_bad vm_badPlace vm_fault vm_faultPlace qm_lines qm_has qm_round qm_meets qm_stumble qm_isMud qm_cell qm_tune qm_change qm_isKept qm_steps qm_places qm_danced vm_runMost vm_runBegins qm_heardBy vm_fitMany vm_fitFirst vm_fitBeats vm_listenLeaves qm_there vm_metAt vm_metIn qm_wins vm_nightHoles vm_nightFirst vm_nightMud vm_nightSlips vm_drawnNow, (qm_has, .inl (cI, 55, .inl (fm_has)))] := ⟨_, ar_set h_g18458 z18465 (-1 : Int32) 0 (by omega) (show z18465.toInt % 1 = 0 by omega) rfl (show (-1) ≤ (-1 : Int32).toInt ∧ (-1 : Int32).toInt ≤ 5 by decide), hP, hD⟩
      refine lv_iload hx hb dX12_dances_70 (lv_at hl 3 rfl) ?_
      refine lv_if_eq (tgt := 237) hx hb dX12_dances_72 (by decide) (fun hc => ?_) (fun hc => ?_)
      · have hq18471 : r1.toInt = 0 := tq_eq rfl (by decide) hc
        omega
      · have hq18471 : r1.toInt ≠ 0 := tq_ne rfl (by decide) hc
        refine lv_aload_n hx hb dX12_dances_75 rfl (lv_at hl 4 rfl) ?_
        refine va_get (D := D) (ci := 12) (v := .ref qm_isMud) (C := RX12) (T := TX12) (N := 45) hx hb hts hi12 hown hK hP 5 rfl rfl 21 (by decide) (hts (.fieldLink RX12 46 "OverHillModel" "isMud" "[Z") (by decide +kernel)) (fun _ h9 => h9) rfl dX12_dances_76 ?_
        refine lv_iload hx hb dX12_dances_79 (lv_at hl 1 rfl) ?_
        refine va_zald (D := D) hx hb hK hP 2 3 rfl rfl (tq_in rfl (by omega)) dX12_dances_81 ?_
        refine lv_topi (fun z18472 ez18472 => ?_)
        refine lv_if_eq (tgt := 88) hx hb dX12_dances_82 (by decide) (fun hc => ?_) (fun hc => ?_)
        · have hq18473 : z18472.toInt = 0 := tq_eq rfl (by decide) hc
          have hb18474 := tq_lo z18472
          refine lv_aload_n hx hb dX12_dances_88 rfl (lv_at hl 4 rfl) ?_
          refine va_get (D := D) (ci := 12) (v := .ref qm_round) (C := RX12) (T := TX12) (N := 45) hx hb hts hi12 hown hK hP 5 rfl rfl 18 (by decide) (hts (.fieldLink RX12 37 "OverHillModel" "round" "[I") (by decide +kernel)) (fun _ h9 => h9) rfl dX12_dances_89 ?_
          refine lv_bipush (v := 12) hx hb dX12_dances_92 (by decide) ?_
          refine lv_iload_n hx hb dX12_dances_94 rfl (lv_at hl 5 rfl) ?_
          refine lv_imul hx hb dX12_dances_95 ?_
          refine lv_topi (fun z18475 ez18475 => ?_)
          have fz18475 : z18475.toInt = 12 * a1.toInt := by rw [ez18475]; exact tq_mul (by decide) rfl (by omega)
          refine lv_iload hx hb dX12_dances_96 (lv_at hl 2 rfl) ?_
          refine lv_iadd hx hb dX12_dances_98 ?_
          refine lv_topi (fun z18476 ez18476 => ?_)
          have fz18476 : z18476.toInt = z18475.toInt + x18460.toInt := by rw [ez18476]; exact tq_add rfl rfl (by omega)
          refine va_iald (D := D) hx hb hK hP 0 0 rfl rfl (tq_in rfl (by omega)) dX12_dances_99 ?_
          refine lv_topi (fun z18477 ez18477 => ?_)
          have fz18477 : 0 ≤ z18477.toInt ∧ z18477.toInt ≤ 5 := by rw [ez18477]; exact ar_get h_fm_round z18476 0 (by omega) (show z18476.toInt % 1 = 0 by omega) rfl
          refine lv_istore (lv' := [(10, .int z18477), (9, .int z18465), (8, .int x18461), (7, .int x18460), (6, .int r1), (0, .ref qm), (1, .int a1), (2, .int a2), (3, .int a3), (4, .int a4), (5, .int a5)]) hx hb dX12_dances_100 hl (by decide) rfl (fun ls hl => ?_)
          refine lv_iconst (v := 0) hx hb dX12_dances_102 (by decide) ?_
          refine lv_istore (lv' := [(11, .int 0), (10, .int z18477), (9, .int z18465), (8, .int x18461), (7, .int x18460), (6, .int r1), (0, .ref qm), (1, .int a1), (2, .int a2), (3, .int a3), (4, .int a4), (5, .int a5)]) hx hb dX12_dances_103 hl (by decide) rfl (fun ls hl => ?_)
          refine lv_iload hx hb dX12_dances_105 (lv_at hl 3 rfl) ?_
          refine lv_iload_n hx hb dX12_dances_107 rfl (lv_at hl 9 rfl) ?_
          refine lv_icmp_ne (tgt := 119) hx hb dX12_dances_108 (by decide) (fun hc => ?_) (fun hc => ?_)
          · have hq18478 : x18461.toInt ≠ a3.toInt := tq_ne rfl rfl hc
            have hb18479 := tq_lo a3
            refine lv_iconst (v := 0) hx hb dX12_dances_119 (by decide) ?_
            refine lv_istore (lv' := [(12, .int 0), (11, .int 0), (10, .int z18477), (9, .int z18465), (8, .int x18461), (7, .int x18460), (6, .int r1), (0, .ref qm), (1, .int a1), (2, .int a2), (3, .int a3), (4, .int a4), (5, .int a5)]) hx hb dX12_dances_120 hl (by decide) rfl (fun ls hl => ?_)
            refine ct_loop (X := Int32 × Int32 × Int32) (fun x => (8 - x.2.2.toInt).toNat) (fun x H locs ls => ((0 ≤ x.1.toInt ∧ x.1.toInt ≤ 5)) ∧ ((0 ≤ x.2.2.toInt ∧ x.2.2.toInt ≤ 8)) ∧ ct_B D A H [(qm_round, .inl (cI, 120, .inl (fm_round))), (qm_stumble, .inl (cI, 160, .inl (fm_stumble))), (qm_isMud, .inl (cZ, 1000, .inl (fm_isMud))), (qm_places, .inl (cI, 402, .inl (g18469))), (qm_danced, .inl (cI, 400, .inl (g18470))), mo qm vm_thrown qm_width qm_many qm_cells qm_moved qm_tape vm_taped vm_at vm_token vm_place vm_value vm_word vm_bad vm_badPlace vm_fault vm_faultPlace qm_lines qm_has qm_round qm_meets qm_stumble qm_isMud qm_cell qm_tune qm_change qm_isKept qm_steps qm_places qm_danced vm_runMost vm_runBegins qm_heardBy vm_fitMany vm_fitFirst vm_fitBeats vm_listenLeaves qm_there vm_metAt vm_metIn qm_wins vm_nightHoles vm_nightFirst vm_nightMud vm_nightSlips vm_drawnNow, (qm_has, .inl (cI, 55, .inl (fm_has)))] ∧ va_S A s.heap H locs ∧ lv_has ls 13 [(12, .int x.2.2), (11, .int x.2.1), (10, .int x.1), (9, .int z18465), (8, .int x18461), (7, .int x18460), (6, .int r1), (0, .ref qm), (1, .int a1), (2, .int a2), (3, .int a3), (4, .int a4), (5, .int a5)]) 122 (z18477, (0 : Int32), (0 : Int32)) ⟨fz18477, (show 0 ≤ (0 : Int32).toInt ∧ (0 : Int32).toInt ≤ 8 by decide), ⟨hP, hD⟩, hS, lv_sub hl [0, 1, 2, 3, 4, 5, 6, 7, 8, 9, 10, 11, 12] rfl⟩ (fun x ih18936 H locs ls hI => ?_)
            obtain ⟨x18933, x18934, x18935⟩ := x
            obtain ⟨h_x18933, h_x18935, ⟨hP, hD⟩, hS, hl⟩ := hI
            have h_x18933 : (0 ≤ x18933.toInt ∧ x18933.toInt ≤ 5) := h_x18933
            have h_x18935 : (0 ≤ x18935.toInt ∧ x18935.toInt ≤ 8) := h_x18935
            obtain ⟨hP, hD⟩ : ct_B D A H [(qm_round, .inl (cI, 120, .inl (fm_round))), (qm_stumble, .inl (cI, 160, .inl (fm_stumble))), (qm_isMud, .inl (cZ, 1000, .inl (fm_isMud))), (qm_places, .inl (cI, 402, .inl (g18469))), (qm_danced, .inl (cI, 400, .inl (g18470))), mo qm vm_thrown qm_width qm_many qm_cells qm_moved qm_tape vm_taped vm_at vm_token vm_place vm_value vm_word vm_bad vm_badPlace vm_fault vm_faultPlace qm_lines qm_has qm_round qm_meets qm_stumble qm_isMud qm_cell qm_tune qm_change qm_isKept qm_steps qm_places qm_danced vm_runMost vm_runBegins qm_heardBy vm_fitMany vm_fitFirst vm_fitBeats vm_listenLeaves qm_there vm_metAt vm_metIn qm_wins vm_nightHoles vm_nightFirst vm_nightMud vm_nightSlips vm_drawnNow, (qm_has, .inl (cI, 55, .inl (fm_has)))] := ⟨hP, hD⟩
            have hl : lv_has ls 13 [(12, .int x18935), (11, .int x18934), (10, .int x18933), (9, .int z18465), (8, .int x18461), (7, .int x18460), (6, .int r1), (0, .ref qm), (1, .int a1), (2, .int a2), (3, .int a3), (4, .int a4), (5, .int a5)] := hl
            refine lv_iload hx hb dX12_dances_122 (lv_at hl 0 rfl) ?_
            refine lv_aload_n hx hb dX12_dances_124 rfl (lv_at hl 7 rfl) ?_
            refine va_get (D := D) (ci := 12) (v := .ref qm_has) (C := RX12) (T := TX12) (N := 45) hx hb hts hi12 hown hK hP 5 rfl rfl 17 (by decide) (hts (.fieldLink RX12 34 "OverHillModel" "has" "[I") (by decide +kernel)) (fun _ h9 => h9) rfl dX12_dances_125 ?_
            refine lv_bipush (v := 7) hx hb dX12_dances_128 (by decide) ?_
            refine va_iald (D := D) hx hb hK hP 6 0 rfl rfl (tq_in (a := 7) (by decide) (by omega)) dX12_dances_130 ?_
            refine lv_topi (fun z18937 ez18937 => ?_)
            have fz18937 : 0 ≤ z18937.toInt ∧ z18937.toInt ≤ 8 := by rw [ez18937]; exact ar_get h_fm_has (7 : Int32) 7 (by decide) (by decide) rfl
            refine lv_icmp_ge (tgt := 210) hx hb dX12_dances_131 (by decide) (fun hc => ?_) (fun hc => ?_)
            · have hq18938 : z18937.toInt ≤ x18935.toInt := tq_le rfl rfl hc
              refine lv_aload_n hx hb dX12_dances_210 rfl (lv_at hl 7 rfl) ?_
              refine va_get (D := D) (ci := 12) (v := .ref qm_danced) (C := RX12) (T := TX12) (N := 45) hx hb hts hi12 hown hK hP 5 rfl rfl 28 (by decide) (hts (.fieldLink RX12 68 "OverHillModel" "danced" "[I") (by decide +kernel)) (fun _ h9 => h9) rfl dX12_dances_211 ?_
              refine lv_iload hx hb dX12_dances_214 (lv_at hl 3 rfl) ?_
              refine lv_iload hx hb dX12_dances_216 (lv_at hl 2 rfl) ?_
              refine va_iast (D := D) hx hb hK hP hD hS 4 0 rfl rfl (tq_in rfl (by omega)) dX12_dances_218 (fun H locs hP hD hS => ?_)
              obtain ⟨g18939, h_g18939, hP, hD⟩ : ∃ g18939 : Nat → Int32, ar_ok [(-1)] [5] g18939 ∧ ct_B D A H [(qm_round, .inl (cI, 120, .inl (fm_round))), (qm_stumble, .inl (cI, 160, .inl (fm_stumble))), (qm_isMud, .inl (cZ, 1000, .inl (fm_isMud))), (qm_places, .inl (cI, 402, .inl (g18469))), (qm_danced, .inl (cI, 400, .inl (g18939))), mo qm vm_thrown qm_width qm_many qm_cells qm_moved qm_tape vm_taped vm_at vm_token vm_place vm_value vm_word vm_bad vm_badPlace vm_fault vm_faultPlace qm_lines qm_has qm_round qm_meets qm_stumble qm_isMud qm_cell qm_tune qm_change qm_isKept qm_steps qm_places qm_danced vm_runMost vm_runBegins qm_heardBy vm_fitMany vm_fitFirst vm_fitBeats vm_listenLeaves qm_there vm_metAt vm_metIn qm_wins vm_nightHoles vm_nightFirst vm_nightMud vm_nightSlips vm_drawnNow, (qm_has, .inl (cI, 55, .inl (fm_has)))] := ⟨_, ar_set h_g18470 z18465 x18933 0 (by omega) (show z18465.toInt % 1 = 0 by omega) rfl (show (-1) ≤ x18933.toInt ∧ x18933.toInt ≤ 5 by omega), hP, hD⟩
              refine lv_iload hx hb dX12_dances_219 (lv_at hl 5 rfl) ?_
              refine lv_iconst (v := 1) hx hb dX12_dances_221 (by decide) ?_
              refine lv_iadd hx hb dX12_dances_222 ?_
              refine lv_topi (fun z18940 ez18940 => ?_)
              have fz18940 : z18940.toInt = x18460.toInt + 1 := by rw [ez18940]; exact tq_add rfl (by decide) (by omega)
              refine lv_iload hx hb dX12_dances_223 (lv_at hl 1 rfl) ?_
              refine lv_isub hx hb dX12_dances_225 ?_
              refine lv_topi (fun z18941 ez18941 => ?_)
              refine lv_iload hx hb dX12_dances_226 (lv_at hl 6 rfl) ?_
              refine lv_irem hx hb dX12_dances_228 (tq_nz (by omega)) ?_
              refine lv_topi (fun z18942 ez18942 => ?_)
              have fz18942 : -r1.toInt < z18942.toInt ∧ z18942.toInt < r1.toInt := by rw [ez18942]; exact tq_rema rfl rfl (by omega)
              refine lv_iload hx hb dX12_dances_229 (lv_at hl 6 rfl) ?_
              refine lv_iadd hx hb dX12_dances_231 ?_
              refine lv_topi (fun z18943 ez18943 => ?_)
              have fz18943 : z18943.toInt = z18942.toInt + r1.toInt := by rw [ez18943]; exact tq_add rfl rfl (by omega)
              refine lv_iload hx hb dX12_dances_232 (lv_at hl 6 rfl) ?_
              refine lv_irem hx hb dX12_dances_234 (tq_nz (by omega)) ?_
              refine lv_topi (fun z18944 ez18944 => ?_)
              have fz18944 : 0 ≤ z18944.toInt ∧ z18944.toInt < r1.toInt := by rw [ez18944]; exact tq_remp rfl rfl (by omega) (by omega)
              refine lv_istore (lv' := [(7, .int z18944), (12, .int x18935), (11, .int x18934), (10, .int x18933), (9, .int z18465), (8, .int x18461), (6, .int r1), (0, .ref qm), (1, .int a1), (2, .int a2), (3, .int a3), (4, .int a4), (5, .int a5)]) hx hb dX12_dances_235 hl (by decide) rfl (fun ls hl => ?_)
              obtain ⟨z18945, ez18945⟩ : ∃ z : Int32, z = x18461 + 1 := ⟨_, rfl⟩
              have fz18945 : z18945.toInt = x18461.toInt + 1 := by rw [ez18945]; exact tq_add rfl (by decide) (by omega)
              refine lv_iinc (v := z18945) (lv' := [(8, .int z18945), (7, .int z18944), (12, .int x18935), (11, .int x18934), (10, .int x18933), (9, .int z18465), (6, .int r1), (0, .ref qm), (1, .int a1), (2, .int a2), (3, .int a3), (4, .int a4), (5, .int a5)]) hx hb dX12_dances_237 hl (k := 5) rfl ez18945.symm (by decide) rfl (fun ls hl => ?_)
              refine lv_goto (tgt := 20) hx hb dX12_dances_240 (by decide) ?_
              exact ih18462 (g18939, g18469, z18944, z18945) _ _ _ (show (200 - z18945.toInt).toNat < (200 - x18461.toInt).toNat by omega) ⟨h_g18939, (show 0 ≤ z18944.toInt ∧ z18944.toInt ≤ 11 by omega), (show 0 ≤ z18945.toInt ∧ z18945.toInt ≤ 200 by omega), ⟨hP, hD⟩, hS, lv_sub hl [0, 1, 6, 7, 8, 9, 10, 11, 12] rfl⟩
            · have hq18938 : x18935.toInt < z18937.toInt := tq_nle rfl rfl hc
              refine lv_iload_n hx hb dX12_dances_134 rfl (lv_at hl 9 rfl) ?_
              refine lv_bipush (v := 99) hx hb dX12_dances_135 (by decide) ?_
              refine lv_icmp_eq (tgt := 210) hx hb dX12_dances_137 (by decide) (fun hc => ?_) (fun hc => ?_)
              · have hq18946 : a2.toInt = 99 := tq_eq rfl (by decide) hc
                have hb18947 := tq_lo a2
                refine lv_aload_n hx hb dX12_dances_210 rfl (lv_at hl 7 rfl) ?_
                refine va_get (D := D) (ci := 12) (v := .ref qm_danced) (C := RX12) (T := TX12) (N := 45) hx hb hts hi12 hown hK hP 5 rfl rfl 28 (by decide) (hts (.fieldLink RX12 68 "OverHillModel" "danced" "[I") (by decide +kernel)) (fun _ h9 => h9) rfl dX12_dances_211 ?_
                refine lv_iload hx hb dX12_dances_214 (lv_at hl 3 rfl) ?_
                refine lv_iload hx hb dX12_dances_216 (lv_at hl 2 rfl) ?_
                refine va_iast (D := D) hx hb hK hP hD hS 4 0 rfl rfl (tq_in rfl (by omega)) dX12_dances_218 (fun H locs hP hD hS => ?_)
                obtain ⟨g18948, h_g18948, hP, hD⟩ : ∃ g18948 : Nat → Int32, ar_ok [(-1)] [5] g18948 ∧ ct_B D A H [(qm_round, .inl (cI, 120, .inl (fm_round))), (qm_stumble, .inl (cI, 160, .inl (fm_stumble))), (qm_isMud, .inl (cZ, 1000, .inl (fm_isMud))), (qm_places, .inl (cI, 402, .inl (g18469))), (qm_danced, .inl (cI, 400, .inl (g18948))), mo qm vm_thrown qm_width qm_many qm_cells qm_moved qm_tape vm_taped vm_at vm_token vm_place vm_value vm_word vm_bad vm_badPlace vm_fault vm_faultPlace qm_lines qm_has qm_round qm_meets qm_stumble qm_isMud qm_cell qm_tune qm_change qm_isKept qm_steps qm_places qm_danced vm_runMost vm_runBegins qm_heardBy vm_fitMany vm_fitFirst vm_fitBeats vm_listenLeaves qm_there vm_metAt vm_metIn qm_wins vm_nightHoles vm_nightFirst vm_nightMud vm_nightSlips vm_drawnNow, (qm_has, .inl (cI, 55, .inl (fm_has)))] := ⟨_, ar_set h_g18470 z18465 x18933 0 (by omega) (show z18465.toInt % 1 = 0 by omega) rfl (show (-1) ≤ x18933.toInt ∧ x18933.toInt ≤ 5 by omega), hP, hD⟩
                refine lv_iload hx hb dX12_dances_219 (lv_at hl 5 rfl) ?_
                refine lv_iconst (v := 1) hx hb dX12_dances_221 (by decide) ?_
                refine lv_iadd hx hb dX12_dances_222 ?_
                refine lv_topi (fun z18949 ez18949 => ?_)
                have fz18949 : z18949.toInt = x18460.toInt + 1 := by rw [ez18949]; exact tq_add rfl (by decide) (by omega)
                refine lv_iload hx hb dX12_dances_223 (lv_at hl 1 rfl) ?_
                refine lv_isub hx hb dX12_dances_225 ?_
                refine lv_topi (fun z18950 ez18950 => ?_)
                refine lv_iload hx hb dX12_dances_226 (lv_at hl 6 rfl) ?_
                refine lv_irem hx hb dX12_dances_228 (tq_nz (by omega)) ?_
                refine lv_topi (fun z18951 ez18951 => ?_)
                have fz18951 : -r1.toInt < z18951.toInt ∧ z18951.toInt < r1.toInt := by rw [ez18951]; exact tq_rema rfl rfl (by omega)
                refine lv_iload hx hb dX12_dances_229 (lv_at hl 6 rfl) ?_
                refine lv_iadd hx hb dX12_dances_231 ?_
                refine lv_topi (fun z18952 ez18952 => ?_)
                have fz18952 : z18952.toInt = z18951.toInt + r1.toInt := by rw [ez18952]; exact tq_add rfl rfl (by omega)
                refine lv_iload hx hb dX12_dances_232 (lv_at hl 6 rfl) ?_
                refine lv_irem hx hb dX12_dances_234 (tq_nz (by omega)) ?_
                refine lv_topi (fun z18953 ez18953 => ?_)
                have fz18953 : 0 ≤ z18953.toInt ∧ z18953.toInt < r1.toInt := by rw [ez18953]; exact tq_remp rfl rfl (by omega) (by omega)
                refine lv_istore (lv' := [(7, .int z18953), (12, .int x18935), (11, .int x18934), (10, .int x18933), (9, .int z18465), (8, .int x18461), (6, .int r1), (0, .ref qm), (1, .int a1), (2, .int a2), (3, .int a3), (4, .int a4), (5, .int a5)]) hx hb dX12_dances_235 hl (by decide) rfl (fun ls hl => ?_)
                obtain ⟨z18954, ez18954⟩ : ∃ z : Int32, z = x18461 + 1 := ⟨_, rfl⟩
                have fz18954 : z18954.toInt = x18461.toInt + 1 := by rw [ez18954]; exact tq_add rfl (by decide) (by omega)
                refine lv_iinc (v := z18954) (lv' := [(8, .int z18954), (7, .int z18953), (12, .int x18935), (11, .int x18934), (10, .int x18933), (9, .int z18465), (6, .int r1), (0, .ref qm), (1, .int a1), (2, .int a2), (3, .int a3), (4, .int a4), (5, .int a5)]) hx hb dX12_dances_237 hl (k := 5) rfl ez18954.symm (by decide) rfl (fun ls hl => ?_)
                refine lv_goto (tgt := 20) hx hb dX12_dances_240 (by decide) ?_
                exact ih18462 (g18948, g18469, z18953, z18954) _ _ _ (show (200 - z18954.toInt).toNat < (200 - x18461.toInt).toNat by omega) ⟨h_g18948, (show 0 ≤ z18953.toInt ∧ z18953.toInt ≤ 11 by omega), (show 0 ≤ z18954.toInt ∧ z18954.toInt ≤ 200 by omega), ⟨hP, hD⟩, hS, lv_sub hl [0, 1, 6, 7, 8, 9, 10, 11, 12] rfl⟩
              · have hq18946 : a2.toInt ≠ 99 := tq_ne rfl (by decide) hc
                have hb18955 := tq_lo a2
                refine lv_iload hx hb dX12_dances_140 (lv_at hl 0 rfl) ?_
                refine lv_iload_n hx hb dX12_dances_142 rfl (lv_at hl 9 rfl) ?_
                refine lv_icmp_eq (tgt := 204) hx hb dX12_dances_143 (by decide) (fun hc => ?_) (fun hc => ?_)
                · have hq18956 : x18935.toInt = a2.toInt := tq_eq rfl rfl hc
                  have hb18957 := tq_lo a2
                  obtain ⟨z18958, ez18958⟩ : ∃ z : Int32, z = x18935 + 1 := ⟨_, rfl⟩
                  have fz18958 : z18958.toInt = x18935.toInt + 1 := by rw [ez18958]; exact tq_add rfl (by decide) (by omega)
                  refine lv_iinc (v := z18958) (lv' := [(12, .int z18958), (11, .int x18934), (10, .int x18933), (9, .int z18465), (8, .int x18461), (7, .int x18460), (6, .int r1), (0, .ref qm), (1, .int a1), (2, .int a2), (3, .int a3), (4, .int a4), (5, .int a5)]) hx hb dX12_dances_204 hl (k := 0) rfl ez18958.symm (by decide) rfl (fun ls hl => ?_)
                  refine lv_goto (tgt := 122) hx hb dX12_dances_207 (by decide) ?_
                  exact ih18936 (x18933, x18934, z18958) _ _ _ (show (8 - z18958.toInt).toNat < (8 - x18935.toInt).toNat by omega) ⟨h_x18933, (show 0 ≤ z18958.toInt ∧ z18958.toInt ≤ 8 by omega), ⟨hP, hD⟩, hS, lv_sub hl [0, 1, 2, 3, 4, 5, 6, 7, 8, 9, 10, 11, 12] rfl⟩
                · have hq18956 : x18935.toInt ≠ a2.toInt := tq_ne rfl rfl hc
                  have hb18959 := tq_lo a2
                  refine lv_aload_n hx hb dX12_dances_146 rfl (lv_at hl 7 rfl) ?_
                  refine va_get (D := D) (ci := 12) (v := .ref qm_stumble) (C := RX12) (T := TX12) (N := 45) hx hb hts hi12 hown hK hP 5 rfl rfl 20 (by decide) (hts (.fieldLink RX12 43 "OverHillModel" "stumble" "[I") (by decide +kernel)) (fun _ h9 => h9) rfl dX12_dances_147 ?_
                  refine lv_iconst (v := 4) hx hb dX12_dances_150 (by decide) ?_
                  refine lv_iload hx hb dX12_dances_151 (lv_at hl 0 rfl) ?_
                  refine lv_imul hx hb dX12_dances_153 ?_
                  refine lv_topi (fun z18960 ez18960 => ?_)
                  have fz18960 : z18960.toInt = 4 * x18935.toInt := by rw [ez18960]; exact tq_mul (by decide) rfl (by omega)
                  refine va_iald (D := D) hx hb hK hP 1 0 rfl rfl (tq_in rfl (by omega)) dX12_dances_154 ?_
                  refine lv_topi (fun z18961 ez18961 => ?_)
                  refine lv_iload_n hx hb dX12_dances_155 rfl (lv_at hl 8 rfl) ?_
                  refine lv_icmp_ne (tgt := 204) hx hb dX12_dances_156 (by decide) (fun hc => ?_) (fun hc => ?_)
                  · have hq18962 : z18961.toInt ≠ a1.toInt := tq_ne rfl rfl hc
                    have hb18963 := tq_lo z18961
                    obtain ⟨z18964, ez18964⟩ : ∃ z : Int32, z = x18935 + 1 := ⟨_, rfl⟩
                    have fz18964 : z18964.toInt = x18935.toInt + 1 := by rw [ez18964]; exact tq_add rfl (by decide) (by omega)
                    refine lv_iinc (v := z18964) (lv' := [(12, .int z18964), (11, .int x18934), (10, .int x18933), (9, .int z18465), (8, .int x18461), (7, .int x18460), (6, .int r1), (0, .ref qm), (1, .int a1), (2, .int a2), (3, .int a3), (4, .int a4), (5, .int a5)]) hx hb dX12_dances_204 hl (k := 0) rfl ez18964.symm (by decide) rfl (fun ls hl => ?_)
                    refine lv_goto (tgt := 122) hx hb dX12_dances_207 (by decide) ?_
                    exact ih18936 (x18933, x18934, z18964) _ _ _ (show (8 - z18964.toInt).toNat < (8 - x18935.toInt).toNat by omega) ⟨h_x18933, (show 0 ≤ z18964.toInt ∧ z18964.toInt ≤ 8 by omega), ⟨hP, hD⟩, hS, lv_sub hl [0, 1, 2, 3, 4, 5, 6, 7, 8, 9, 10, 11, 12] rfl⟩
                  · have hq18962 : z18961.toInt = a1.toInt := tq_eq rfl rfl hc
                    have hb18965 := tq_lo z18961
                    refine lv_aload_n hx hb dX12_dances_159 rfl (lv_at hl 7 rfl) ?_
                    refine va_get (D := D) (ci := 12) (v := .ref qm_stumble) (C := RX12) (T := TX12) (N := 45) hx hb hts hi12 hown hK hP 5 rfl rfl 20 (by decide) (hts (.fieldLink RX12 43 "OverHillModel" "stumble" "[I") (by decide +kernel)) (fun _ h9 => h9) rfl dX12_dances_160 ?_
                    refine lv_iconst (v := 4) hx hb dX12_dances_163 (by decide) ?_
                    refine lv_iload hx hb dX12_dances_164 (lv_at hl 0 rfl) ?_
                    refine lv_imul hx hb dX12_dances_166 ?_
                    refine lv_topi (fun z18966 ez18966 => ?_)
                    have fz18966 : z18966.toInt = 4 * x18935.toInt := by rw [ez18966]; exact tq_mul (by decide) rfl (by omega)
                    refine lv_iconst (v := 1) hx hb dX12_dances_167 (by decide) ?_
                    refine lv_iadd hx hb dX12_dances_168 ?_
                    refine lv_topi (fun z18967 ez18967 => ?_)
                    have fz18967 : z18967.toInt = z18966.toInt + 1 := by rw [ez18967]; exact tq_add rfl (by decide) (by omega)
                    refine va_iald (D := D) hx hb hK hP 1 0 rfl rfl (tq_in rfl (by omega)) dX12_dances_169 ?_
                    refine lv_topi (fun z18968 ez18968 => ?_)
                    refine lv_iload hx hb dX12_dances_170 (lv_at hl 4 rfl) ?_
                    refine lv_icmp_eq (tgt := 178) hx hb dX12_dances_172 (by decide) (fun hc => ?_) (fun hc => ?_)
                    · have hq18969 : z18968.toInt = x18461.toInt := tq_eq rfl rfl hc
                      have hb18970 := tq_lo z18968
                      refine lv_aload_n hx hb dX12_dances_178 rfl (lv_at hl 7 rfl) ?_
                      refine va_get (D := D) (ci := 12) (v := .ref qm_stumble) (C := RX12) (T := TX12) (N := 45) hx hb hts hi12 hown hK hP 5 rfl rfl 20 (by decide) (hts (.fieldLink RX12 43 "OverHillModel" "stumble" "[I") (by decide +kernel)) (fun _ h9 => h9) rfl dX12_dances_179 ?_
                      refine lv_iconst (v := 4) hx hb dX12_dances_182 (by decide) ?_
                      refine lv_iload hx hb dX12_dances_183 (lv_at hl 0 rfl) ?_
                      refine lv_imul hx hb dX12_dances_185 ?_
                      refine lv_topi (fun z18971 ez18971 => ?_)
                      have fz18971 : z18971.toInt = 4 * x18935.toInt := by rw [ez18971]; exact tq_mul (by decide) rfl (by omega)
                      refine lv_iconst (v := 2) hx hb dX12_dances_186 (by decide) ?_
                      refine lv_iadd hx hb dX12_dances_187 ?_
                      refine lv_topi (fun z18972 ez18972 => ?_)
                      have fz18972 : z18972.toInt = z18971.toInt + 2 := by rw [ez18972]; exact tq_add rfl (by decide) (by omega)
                      refine va_iald (D := D) hx hb hK hP 1 0 rfl rfl (tq_in rfl (by omega)) dX12_dances_188 ?_
                      refine lv_topi (fun z18973 ez18973 => ?_)
                      have fz18973 : 0 ≤ z18973.toInt ∧ z18973.toInt ≤ 5 := by rw [ez18973]; exact ar_get h_fm_stumble z18972 2 (by omega) (show z18972.toInt % 4 = 2 by omega) rfl
                      refine lv_istore (lv' := [(10, .int z18973), (12, .int x18935), (11, .int x18934), (9, .int z18465), (8, .int x18461), (7, .int x18460), (6, .int r1), (0, .ref qm), (1, .int a1), (2, .int a2), (3, .int a3), (4, .int a4), (5, .int a5)]) hx hb dX12_dances_189 hl (by decide) rfl (fun ls hl => ?_)
                      refine lv_aload_n hx hb dX12_dances_191 rfl (lv_at hl 7 rfl) ?_
                      refine va_get (D := D) (ci := 12) (v := .ref qm_stumble) (C := RX12) (T := TX12) (N := 45) hx hb hts hi12 hown hK hP 5 rfl rfl 20 (by decide) (hts (.fieldLink RX12 43 "OverHillModel" "stumble" "[I") (by decide +kernel)) (fun _ h9 => h9) rfl dX12_dances_192 ?_
                      refine lv_iconst (v := 4) hx hb dX12_dances_195 (by decide) ?_
                      refine lv_iload hx hb dX12_dances_196 (lv_at hl 1 rfl) ?_
                      refine lv_imul hx hb dX12_dances_198 ?_
                      refine lv_topi (fun z18974 ez18974 => ?_)
                      have fz18974 : z18974.toInt = 4 * x18935.toInt := by rw [ez18974]; exact tq_mul (by decide) rfl (by omega)
                      refine lv_iconst (v := 3) hx hb dX12_dances_199 (by decide) ?_
                      refine lv_iadd hx hb dX12_dances_200 ?_
                      refine lv_topi (fun z18975 ez18975 => ?_)
                      have fz18975 : z18975.toInt = z18974.toInt + 3 := by rw [ez18975]; exact tq_add rfl (by decide) (by omega)
                      refine va_iald (D := D) hx hb hK hP 1 0 rfl rfl (tq_in rfl (by omega)) dX12_dances_201 ?_
                      refine lv_topi (fun z18976 ez18976 => ?_)
                      refine lv_istore (lv' := [(11, .int z18976), (10, .int z18973), (12, .int x18935), (9, .int z18465), (8, .int x18461), (7, .int x18460), (6, .int r1), (0, .ref qm), (1, .int a1), (2, .int a2), (3, .int a3), (4, .int a4), (5, .int a5)]) hx hb dX12_dances_202 hl (by decide) rfl (fun ls hl => ?_)
                      obtain ⟨z18977, ez18977⟩ : ∃ z : Int32, z = x18935 + 1 := ⟨_, rfl⟩
                      have fz18977 : z18977.toInt = x18935.toInt + 1 := by rw [ez18977]; exact tq_add rfl (by decide) (by omega)
                      refine lv_iinc (v := z18977) (lv' := [(12, .int z18977), (11, .int z18976), (10, .int z18973), (9, .int z18465), (8, .int x18461), (7, .int x18460), (6, .int r1), (0, .ref qm), (1, .int a1), (2, .int a2), (3, .int a3), (4, .int a4), (5, .int a5)]) hx hb dX12_dances_204 hl (k := 2) rfl ez18977.symm (by decide) rfl (fun ls hl => ?_)
                      refine lv_goto (tgt := 122) hx hb dX12_dances_207 (by decide) ?_
                      exact ih18936 (z18973, z18976, z18977) _ _ _ (show (8 - z18977.toInt).toNat < (8 - x18935.toInt).toNat by omega) ⟨fz18973, (show 0 ≤ z18977.toInt ∧ z18977.toInt ≤ 8 by omega), ⟨hP, hD⟩, hS, lv_sub hl [0, 1, 2, 3, 4, 5, 6, 7, 8, 9, 10, 11, 12] rfl⟩
                    · have hq18969 : z18968.toInt ≠ x18461.toInt := tq_ne rfl rfl hc
                      have hb18978 := tq_lo z18968
                      refine lv_goto (tgt := 204) hx hb dX12_dances_175 (by decide) ?_
                      obtain ⟨z18979, ez18979⟩ : ∃ z : Int32, z = x18935 + 1 := ⟨_, rfl⟩
                      have fz18979 : z18979.toInt = x18935.toInt + 1 := by rw [ez18979]; exact tq_add rfl (by decide) (by omega)
                      refine lv_iinc (v := z18979) (lv' := [(12, .int z18979), (11, .int x18934), (10, .int x18933), (9, .int z18465), (8, .int x18461), (7, .int x18460), (6, .int r1), (0, .ref qm), (1, .int a1), (2, .int a2), (3, .int a3), (4, .int a4), (5, .int a5)]) hx hb dX12_dances_204 hl (k := 0) rfl ez18979.symm (by decide) rfl (fun ls hl => ?_)
                      refine lv_goto (tgt := 122) hx hb dX12_dances_207 (by decide) ?_
                      exact ih18936 (x18933, x18934, z18979) _ _ _ (show (8 - z18979.toInt).toNat < (8 - x18935.toInt).toNat by omega) ⟨h_x18933, (show 0 ≤ z18979.toInt ∧ z18979.toInt ≤ 8 by omega), ⟨hP, hD⟩, hS, lv_sub hl [0, 1, 2, 3, 4, 5, 6, 7, 8, 9, 10, 11, 12] rfl⟩
          · have hq18478 : x18461.toInt = a3.toInt := tq_eq rfl rfl hc
            have hb18980 := tq_lo a3
            refine lv_iload hx hb dX12_dances_111 (lv_at hl 10 rfl) ?_
            refine lv_istore (lv' := [(10, .int a4), (11, .int 0), (9, .int z18465), (8, .int x18461), (7, .int x18460), (6, .int r1), (0, .ref qm), (1, .int a1), (2, .int a2), (3, .int a3), (4, .int a4), (5, .int a5)]) hx hb dX12_dances_113 hl (by decide) rfl (fun ls hl => ?_)
            refine lv_iload hx hb dX12_dances_115 (lv_at hl 11 rfl) ?_
            refine lv_istore (lv' := [(11, .int a5), (10, .int a4), (9, .int z18465), (8, .int x18461), (7, .int x18460), (6, .int r1), (0, .ref qm), (1, .int a1), (2, .int a2), (3, .int a3), (4, .int a4), (5, .int a5)]) hx hb dX12_dances_117 hl (by decide) rfl (fun ls hl => ?_)
            refine lv_iconst (v := 0) hx hb dX12_dances_119 (by decide) ?_
            refine lv_istore (lv' := [(12, .int 0), (11, .int a5), (10, .int a4), (9, .int z18465), (8, .int x18461), (7, .int x18460), (6, .int r1), (0, .ref qm), (1, .int a1), (2, .int a2), (3, .int a3), (4, .int a4), (5, .int a5)]) hx hb dX12_dances_120 hl (by decide) rfl (fun ls hl => ?_)
            refine ct_loop (X := Int32 × Int32 × Int32) (fun x => (8 - x.2.2.toInt).toNat) (fun x H locs ls => ((0 ≤ x.1.toInt ∧ x.1.toInt ≤ 5)) ∧ ((0 ≤ x.2.2.toInt ∧ x.2.2.toInt ≤ 8)) ∧ ct_B D A H [(qm_round, .inl (cI, 120, .inl (fm_round))), (qm_stumble, .inl (cI, 160, .inl (fm_stumble))), (qm_isMud, .inl (cZ, 1000, .inl (fm_isMud))), (qm_places, .inl (cI, 402, .inl (g18469))), (qm_danced, .inl (cI, 400, .inl (g18470))), mo qm vm_thrown qm_width qm_many qm_cells qm_moved qm_tape vm_taped vm_at vm_token vm_place vm_value vm_word vm_bad vm_badPlace vm_fault vm_faultPlace qm_lines qm_has qm_round qm_meets qm_stumble qm_isMud qm_cell qm_tune qm_change qm_isKept qm_steps qm_places qm_danced vm_runMost vm_runBegins qm_heardBy vm_fitMany vm_fitFirst vm_fitBeats vm_listenLeaves qm_there vm_metAt vm_metIn qm_wins vm_nightHoles vm_nightFirst vm_nightMud vm_nightSlips vm_drawnNow, (qm_has, .inl (cI, 55, .inl (fm_has)))] ∧ va_S A s.heap H locs ∧ lv_has ls 13 [(12, .int x.2.2), (11, .int x.2.1), (10, .int x.1), (9, .int z18465), (8, .int x18461), (7, .int x18460), (6, .int r1), (0, .ref qm), (1, .int a1), (2, .int a2), (3, .int a3), (4, .int a4), (5, .int a5)]) 122 (a4, a5, (0 : Int32)) ⟨h_a4, (show 0 ≤ (0 : Int32).toInt ∧ (0 : Int32).toInt ≤ 8 by decide), ⟨hP, hD⟩, hS, lv_sub hl [0, 1, 2, 3, 4, 5, 6, 7, 8, 9, 10, 11, 12] rfl⟩ (fun x ih19437 H locs ls hI => ?_)
            obtain ⟨x19434, x19435, x19436⟩ := x
            obtain ⟨h_x19434, h_x19436, ⟨hP, hD⟩, hS, hl⟩ := hI
            have h_x19434 : (0 ≤ x19434.toInt ∧ x19434.toInt ≤ 5) := h_x19434
            have h_x19436 : (0 ≤ x19436.toInt ∧ x19436.toInt ≤ 8) := h_x19436
            obtain ⟨hP, hD⟩ : ct_B D A H [(qm_round, .inl (cI, 120, .inl (fm_round))), (qm_stumble, .inl (cI, 160, .inl (fm_stumble))), (qm_isMud, .inl (cZ, 1000, .inl (fm_isMud))), (qm_places, .inl (cI, 402, .inl (g18469))), (qm_danced, .inl (cI, 400, .inl (g18470))), mo qm vm_thrown qm_width qm_many qm_cells qm_moved qm_tape vm_taped vm_at vm_token vm_place vm_value vm_word vm_bad vm_badPlace vm_fault vm_faultPlace qm_lines qm_has qm_round qm_meets qm_stumble qm_isMud qm_cell qm_tune qm_change qm_isKept qm_steps qm_places qm_danced vm_runMost vm_runBegins qm_heardBy vm_fitMany vm_fitFirst vm_fitBeats vm_listenLeaves qm_there vm_metAt vm_metIn qm_wins vm_nightHoles vm_nightFirst vm_nightMud vm_nightSlips vm_drawnNow, (qm_has, .inl (cI, 55, .inl (fm_has)))] := ⟨hP, hD⟩
            have hl : lv_has ls 13 [(12, .int x19436), (11, .int x19435), (10, .int x19434), (9, .int z18465), (8, .int x18461), (7, .int x18460), (6, .int r1), (0, .ref qm), (1, .int a1), (2, .int a2), (3, .int a3), (4, .int a4), (5, .int a5)] := hl
            refine lv_iload hx hb dX12_dances_122 (lv_at hl 0 rfl) ?_
            refine lv_aload_n hx hb dX12_dances_124 rfl (lv_at hl 7 rfl) ?_
            refine va_get (D := D) (ci := 12) (v := .ref qm_has) (C := RX12) (T := TX12) (N := 45) hx hb hts hi12 hown hK hP 5 rfl rfl 17 (by decide) (hts (.fieldLink RX12 34 "OverHillModel" "has" "[I") (by decide +kernel)) (fun _ h9 => h9) rfl dX12_dances_125 ?_
            refine lv_bipush (v := 7) hx hb dX12_dances_128 (by decide) ?_
            refine va_iald (D := D) hx hb hK hP 6 0 rfl rfl (tq_in (a := 7) (by decide) (by omega)) dX12_dances_130 ?_
            refine lv_topi (fun z19438 ez19438 => ?_)
            have fz19438 : 0 ≤ z19438.toInt ∧ z19438.toInt ≤ 8 := by rw [ez19438]; exact ar_get h_fm_has (7 : Int32) 7 (by decide) (by decide) rfl
            refine lv_icmp_ge (tgt := 210) hx hb dX12_dances_131 (by decide) (fun hc => ?_) (fun hc => ?_)
            · have hq19439 : z19438.toInt ≤ x19436.toInt := tq_le rfl rfl hc
              refine lv_aload_n hx hb dX12_dances_210 rfl (lv_at hl 7 rfl) ?_
              refine va_get (D := D) (ci := 12) (v := .ref qm_danced) (C := RX12) (T := TX12) (N := 45) hx hb hts hi12 hown hK hP 5 rfl rfl 28 (by decide) (hts (.fieldLink RX12 68 "OverHillModel" "danced" "[I") (by decide +kernel)) (fun _ h9 => h9) rfl dX12_dances_211 ?_
              refine lv_iload hx hb dX12_dances_214 (lv_at hl 3 rfl) ?_
              refine lv_iload hx hb dX12_dances_216 (lv_at hl 2 rfl) ?_
              refine va_iast (D := D) hx hb hK hP hD hS 4 0 rfl rfl (tq_in rfl (by omega)) dX12_dances_218 (fun H locs hP hD hS => ?_)
              obtain ⟨g19440, h_g19440, hP, hD⟩ : ∃ g19440 : Nat → Int32, ar_ok [(-1)] [5] g19440 ∧ ct_B D A H [(qm_round, .inl (cI, 120, .inl (fm_round))), (qm_stumble, .inl (cI, 160, .inl (fm_stumble))), (qm_isMud, .inl (cZ, 1000, .inl (fm_isMud))), (qm_places, .inl (cI, 402, .inl (g18469))), (qm_danced, .inl (cI, 400, .inl (g19440))), mo qm vm_thrown qm_width qm_many qm_cells qm_moved qm_tape vm_taped vm_at vm_token vm_place vm_value vm_word vm_bad vm_badPlace vm_fault vm_faultPlace qm_lines qm_has qm_round qm_meets qm_stumble qm_isMud qm_cell qm_tune qm_change qm_isKept qm_steps qm_places qm_danced vm_runMost vm_runBegins qm_heardBy vm_fitMany vm_fitFirst vm_fitBeats vm_listenLeaves qm_there vm_metAt vm_metIn qm_wins vm_nightHoles vm_nightFirst vm_nightMud vm_nightSlips vm_drawnNow, (qm_has, .inl (cI, 55, .inl (fm_has)))] := ⟨_, ar_set h_g18470 z18465 x19434 0 (by omega) (show z18465.toInt % 1 = 0 by omega) rfl (show (-1) ≤ x19434.toInt ∧ x19434.toInt ≤ 5 by omega), hP, hD⟩
              refine lv_iload hx hb dX12_dances_219 (lv_at hl 5 rfl) ?_
              refine lv_iconst (v := 1) hx hb dX12_dances_221 (by decide) ?_
              refine lv_iadd hx hb dX12_dances_222 ?_
              refine lv_topi (fun z19441 ez19441 => ?_)
              have fz19441 : z19441.toInt = x18460.toInt + 1 := by rw [ez19441]; exact tq_add rfl (by decide) (by omega)
              refine lv_iload hx hb dX12_dances_223 (lv_at hl 1 rfl) ?_
              refine lv_isub hx hb dX12_dances_225 ?_
              refine lv_topi (fun z19442 ez19442 => ?_)
              refine lv_iload hx hb dX12_dances_226 (lv_at hl 6 rfl) ?_
              refine lv_irem hx hb dX12_dances_228 (tq_nz (by omega)) ?_
              refine lv_topi (fun z19443 ez19443 => ?_)
              have fz19443 : -r1.toInt < z19443.toInt ∧ z19443.toInt < r1.toInt := by rw [ez19443]; exact tq_rema rfl rfl (by omega)
              refine lv_iload hx hb dX12_dances_229 (lv_at hl 6 rfl) ?_
              refine lv_iadd hx hb dX12_dances_231 ?_
              refine lv_topi (fun z19444 ez19444 => ?_)
              have fz19444 : z19444.toInt = z19443.toInt + r1.toInt := by rw [ez19444]; exact tq_add rfl rfl (by omega)
              refine lv_iload hx hb dX12_dances_232 (lv_at hl 6 rfl) ?_
              refine lv_irem hx hb dX12_dances_234 (tq_nz (by omega)) ?_
              refine lv_topi (fun z19445 ez19445 => ?_)
              have fz19445 : 0 ≤ z19445.toInt ∧ z19445.toInt < r1.toInt := by rw [ez19445]; exact tq_remp rfl rfl (by omega) (by omega)
              refine lv_istore (lv' := [(7, .int z19445), (12, .int x19436), (11, .int x19435), (10, .int x19434), (9, .int z18465), (8, .int x18461), (6, .int r1), (0, .ref qm), (1, .int a1), (2, .int a2), (3, .int a3), (4, .int a4), (5, .int a5)]) hx hb dX12_dances_235 hl (by decide) rfl (fun ls hl => ?_)
              obtain ⟨z19446, ez19446⟩ : ∃ z : Int32, z = x18461 + 1 := ⟨_, rfl⟩
              have fz19446 : z19446.toInt = x18461.toInt + 1 := by rw [ez19446]; exact tq_add rfl (by decide) (by omega)
              refine lv_iinc (v := z19446) (lv' := [(8, .int z19446), (7, .int z19445), (12, .int x19436), (11, .int x19435), (10, .int x19434), (9, .int z18465), (6, .int r1), (0, .ref qm), (1, .int a1), (2, .int a2), (3, .int a3), (4, .int a4), (5, .int a5)]) hx hb dX12_dances_237 hl (k := 5) rfl ez19446.symm (by decide) rfl (fun ls hl => ?_)
              refine lv_goto (tgt := 20) hx hb dX12_dances_240 (by decide) ?_
              exact ih18462 (g19440, g18469, z19445, z19446) _ _ _ (show (200 - z19446.toInt).toNat < (200 - x18461.toInt).toNat by omega) ⟨h_g19440, (show 0 ≤ z19445.toInt ∧ z19445.toInt ≤ 11 by omega), (show 0 ≤ z19446.toInt ∧ z19446.toInt ≤ 200 by omega), ⟨hP, hD⟩, hS, lv_sub hl [0, 1, 6, 7, 8, 9, 10, 11, 12] rfl⟩
            · have hq19439 : x19436.toInt < z19438.toInt := tq_nle rfl rfl hc
              refine lv_iload_n hx hb dX12_dances_134 rfl (lv_at hl 9 rfl) ?_
              refine lv_bipush (v := 99) hx hb dX12_dances_135 (by decide) ?_
              refine lv_icmp_eq (tgt := 210) hx hb dX12_dances_137 (by decide) (fun hc => ?_) (fun hc => ?_)
              · have hq19447 : a2.toInt = 99 := tq_eq rfl (by decide) hc
                have hb19448 := tq_lo a2
                refine lv_aload_n hx hb dX12_dances_210 rfl (lv_at hl 7 rfl) ?_
                refine va_get (D := D) (ci := 12) (v := .ref qm_danced) (C := RX12) (T := TX12) (N := 45) hx hb hts hi12 hown hK hP 5 rfl rfl 28 (by decide) (hts (.fieldLink RX12 68 "OverHillModel" "danced" "[I") (by decide +kernel)) (fun _ h9 => h9) rfl dX12_dances_211 ?_
                refine lv_iload hx hb dX12_dances_214 (lv_at hl 3 rfl) ?_
                refine lv_iload hx hb dX12_dances_216 (lv_at hl 2 rfl) ?_
                refine va_iast (D := D) hx hb hK hP hD hS 4 0 rfl rfl (tq_in rfl (by omega)) dX12_dances_218 (fun H locs hP hD hS => ?_)
                obtain ⟨g19449, h_g19449, hP, hD⟩ : ∃ g19449 : Nat → Int32, ar_ok [(-1)] [5] g19449 ∧ ct_B D A H [(qm_round, .inl (cI, 120, .inl (fm_round))), (qm_stumble, .inl (cI, 160, .inl (fm_stumble))), (qm_isMud, .inl (cZ, 1000, .inl (fm_isMud))), (qm_places, .inl (cI, 402, .inl (g18469))), (qm_danced, .inl (cI, 400, .inl (g19449))), mo qm vm_thrown qm_width qm_many qm_cells qm_moved qm_tape vm_taped vm_at vm_token vm_place vm_value vm_word vm_bad vm_badPlace vm_fault vm_faultPlace qm_lines qm_has qm_round qm_meets qm_stumble qm_isMud qm_cell qm_tune qm_change qm_isKept qm_steps qm_places qm_danced vm_runMost vm_runBegins qm_heardBy vm_fitMany vm_fitFirst vm_fitBeats vm_listenLeaves qm_there vm_metAt vm_metIn qm_wins vm_nightHoles vm_nightFirst vm_nightMud vm_nightSlips vm_drawnNow, (qm_has, .inl (cI, 55, .inl (fm_has)))] := ⟨_, ar_set h_g18470 z18465 x19434 0 (by omega) (show z18465.toInt % 1 = 0 by omega) rfl (show (-1) ≤ x19434.toInt ∧ x19434.toInt ≤ 5 by omega), hP, hD⟩
                refine lv_iload hx hb dX12_dances_219 (lv_at hl 5 rfl) ?_
                refine lv_iconst (v := 1) hx hb dX12_dances_221 (by decide) ?_
                refine lv_iadd hx hb dX12_dances_222 ?_
                refine lv_topi (fun z19450 ez19450 => ?_)
                have fz19450 : z19450.toInt = x18460.toInt + 1 := by rw [ez19450]; exact tq_add rfl (by decide) (by omega)
                refine lv_iload hx hb dX12_dances_223 (lv_at hl 1 rfl) ?_
                refine lv_isub hx hb dX12_dances_225 ?_
                refine lv_topi (fun z19451 ez19451 => ?_)
                refine lv_iload hx hb dX12_dances_226 (lv_at hl 6 rfl) ?_
                refine lv_irem hx hb dX12_dances_228 (tq_nz (by omega)) ?_
                refine lv_topi (fun z19452 ez19452 => ?_)
                have fz19452 : -r1.toInt < z19452.toInt ∧ z19452.toInt < r1.toInt := by rw [ez19452]; exact tq_rema rfl rfl (by omega)
                refine lv_iload hx hb dX12_dances_229 (lv_at hl 6 rfl) ?_
                refine lv_iadd hx hb dX12_dances_231 ?_
                refine lv_topi (fun z19453 ez19453 => ?_)
                have fz19453 : z19453.toInt = z19452.toInt + r1.toInt := by rw [ez19453]; exact tq_add rfl rfl (by omega)
                refine lv_iload hx hb dX12_dances_232 (lv_at hl 6 rfl) ?_
                refine lv_irem hx hb dX12_dances_234 (tq_nz (by omega)) ?_
                refine lv_topi (fun z19454 ez19454 => ?_)
                have fz19454 : 0 ≤ z19454.toInt ∧ z19454.toInt < r1.toInt := by rw [ez19454]; exact tq_remp rfl rfl (by omega) (by omega)
                refine lv_istore (lv' := [(7, .int z19454), (12, .int x19436), (11, .int x19435), (10, .int x19434), (9, .int z18465), (8, .int x18461), (6, .int r1), (0, .ref qm), (1, .int a1), (2, .int a2), (3, .int a3), (4, .int a4), (5, .int a5)]) hx hb dX12_dances_235 hl (by decide) rfl (fun ls hl => ?_)
                obtain ⟨z19455, ez19455⟩ : ∃ z : Int32, z = x18461 + 1 := ⟨_, rfl⟩
                have fz19455 : z19455.toInt = x18461.toInt + 1 := by rw [ez19455]; exact tq_add rfl (by decide) (by omega)
                refine lv_iinc (v := z19455) (lv' := [(8, .int z19455), (7, .int z19454), (12, .int x19436), (11, .int x19435), (10, .int x19434), (9, .int z18465), (6, .int r1), (0, .ref qm), (1, .int a1), (2, .int a2), (3, .int a3), (4, .int a4), (5, .int a5)]) hx hb dX12_dances_237 hl (k := 5) rfl ez19455.symm (by decide) rfl (fun ls hl => ?_)
                refine lv_goto (tgt := 20) hx hb dX12_dances_240 (by decide) ?_
                exact ih18462 (g19449, g18469, z19454, z19455) _ _ _ (show (200 - z19455.toInt).toNat < (200 - x18461.toInt).toNat by omega) ⟨h_g19449, (show 0 ≤ z19454.toInt ∧ z19454.toInt ≤ 11 by omega), (show 0 ≤ z19455.toInt ∧ z19455.toInt ≤ 200 by omega), ⟨hP, hD⟩, hS, lv_sub hl [0, 1, 6, 7, 8, 9, 10, 11, 12] rfl⟩
              · have hq19447 : a2.toInt ≠ 99 := tq_ne rfl (by decide) hc
                have hb19456 := tq_lo a2
                refine lv_iload hx hb dX12_dances_140 (lv_at hl 0 rfl) ?_
                refine lv_iload_n hx hb dX12_dances_142 rfl (lv_at hl 9 rfl) ?_
                refine lv_icmp_eq (tgt := 204) hx hb dX12_dances_143 (by decide) (fun hc => ?_) (fun hc => ?_)
                · have hq19457 : x19436.toInt = a2.toInt := tq_eq rfl rfl hc
                  have hb19458 := tq_lo a2
                  obtain ⟨z19459, ez19459⟩ : ∃ z : Int32, z = x19436 + 1 := ⟨_, rfl⟩
                  have fz19459 : z19459.toInt = x19436.toInt + 1 := by rw [ez19459]; exact tq_add rfl (by decide) (by omega)
                  refine lv_iinc (v := z19459) (lv' := [(12, .int z19459), (11, .int x19435), (10, .int x19434), (9, .int z18465), (8, .int x18461), (7, .int x18460), (6, .int r1), (0, .ref qm), (1, .int a1), (2, .int a2), (3, .int a3), (4, .int a4), (5, .int a5)]) hx hb dX12_dances_204 hl (k := 0) rfl ez19459.symm (by decide) rfl (fun ls hl => ?_)
                  refine lv_goto (tgt := 122) hx hb dX12_dances_207 (by decide) ?_
                  exact ih19437 (x19434, x19435, z19459) _ _ _ (show (8 - z19459.toInt).toNat < (8 - x19436.toInt).toNat by omega) ⟨h_x19434, (show 0 ≤ z19459.toInt ∧ z19459.toInt ≤ 8 by omega), ⟨hP, hD⟩, hS, lv_sub hl [0, 1, 2, 3, 4, 5, 6, 7, 8, 9, 10, 11, 12] rfl⟩
                · have hq19457 : x19436.toInt ≠ a2.toInt := tq_ne rfl rfl hc
                  have hb19460 := tq_lo a2
                  refine lv_aload_n hx hb dX12_dances_146 rfl (lv_at hl 7 rfl) ?_
                  refine va_get (D := D) (ci := 12) (v := .ref qm_stumble) (C := RX12) (T := TX12) (N := 45) hx hb hts hi12 hown hK hP 5 rfl rfl 20 (by decide) (hts (.fieldLink RX12 43 "OverHillModel" "stumble" "[I") (by decide +kernel)) (fun _ h9 => h9) rfl dX12_dances_147 ?_
                  refine lv_iconst (v := 4) hx hb dX12_dances_150 (by decide) ?_
                  refine lv_iload hx hb dX12_dances_151 (lv_at hl 0 rfl) ?_
                  refine lv_imul hx hb dX12_dances_153 ?_
                  refine lv_topi (fun z19461 ez19461 => ?_)
                  have fz19461 : z19461.toInt = 4 * x19436.toInt := by rw [ez19461]; exact tq_mul (by decide) rfl (by omega)
                  refine va_iald (D := D) hx hb hK hP 1 0 rfl rfl (tq_in rfl (by omega)) dX12_dances_154 ?_
                  refine lv_topi (fun z19462 ez19462 => ?_)
                  refine lv_iload_n hx hb dX12_dances_155 rfl (lv_at hl 8 rfl) ?_
                  refine lv_icmp_ne (tgt := 204) hx hb dX12_dances_156 (by decide) (fun hc => ?_) (fun hc => ?_)
                  · have hq19463 : z19462.toInt ≠ a1.toInt := tq_ne rfl rfl hc
                    have hb19464 := tq_lo z19462
                    obtain ⟨z19465, ez19465⟩ : ∃ z : Int32, z = x19436 + 1 := ⟨_, rfl⟩
                    have fz19465 : z19465.toInt = x19436.toInt + 1 := by rw [ez19465]; exact tq_add rfl (by decide) (by omega)
                    refine lv_iinc (v := z19465) (lv' := [(12, .int z19465), (11, .int x19435), (10, .int x19434), (9, .int z18465), (8, .int x18461), (7, .int x18460), (6, .int r1), (0, .ref qm), (1, .int a1), (2, .int a2), (3, .int a3), (4, .int a4), (5, .int a5)]) hx hb dX12_dances_204 hl (k := 0) rfl ez19465.symm (by decide) rfl (fun ls hl => ?_)
                    refine lv_goto (tgt := 122) hx hb dX12_dances_207 (by decide) ?_
                    exact ih19437 (x19434, x19435, z19465) _ _ _ (show (8 - z19465.toInt).toNat < (8 - x19436.toInt).toNat by omega) ⟨h_x19434, (show 0 ≤ z19465.toInt ∧ z19465.toInt ≤ 8 by omega), ⟨hP, hD⟩, hS, lv_sub hl [0, 1, 2, 3, 4, 5, 6, 7, 8, 9, 10, 11, 12] rfl⟩
                  · have hq19463 : z19462.toInt = a1.toInt := tq_eq rfl rfl hc
                    have hb19466 := tq_lo z19462
                    refine lv_aload_n hx hb dX12_dances_159 rfl (lv_at hl 7 rfl) ?_
                    refine va_get (D := D) (ci := 12) (v := .ref qm_stumble) (C := RX12) (T := TX12) (N := 45) hx hb hts hi12 hown hK hP 5 rfl rfl 20 (by decide) (hts (.fieldLink RX12 43 "OverHillModel" "stumble" "[I") (by decide +kernel)) (fun _ h9 => h9) rfl dX12_dances_160 ?_
                    refine lv_iconst (v := 4) hx hb dX12_dances_163 (by decide) ?_
                    refine lv_iload hx hb dX12_dances_164 (lv_at hl 0 rfl) ?_
                    refine lv_imul hx hb dX12_dances_166 ?_
                    refine lv_topi (fun z19467 ez19467 => ?_)
                    have fz19467 : z19467.toInt = 4 * x19436.toInt := by rw [ez19467]; exact tq_mul (by decide) rfl (by omega)
                    refine lv_iconst (v := 1) hx hb dX12_dances_167 (by decide) ?_
                    refine lv_iadd hx hb dX12_dances_168 ?_
                    refine lv_topi (fun z19468 ez19468 => ?_)
                    have fz19468 : z19468.toInt = z19467.toInt + 1 := by rw [ez19468]; exact tq_add rfl (by decide) (by omega)
                    refine va_iald (D := D) hx hb hK hP 1 0 rfl rfl (tq_in rfl (by omega)) dX12_dances_169 ?_
                    refine lv_topi (fun z19469 ez19469 => ?_)
                    refine lv_iload hx hb dX12_dances_170 (lv_at hl 4 rfl) ?_
                    refine lv_icmp_eq (tgt := 178) hx hb dX12_dances_172 (by decide) (fun hc => ?_) (fun hc => ?_)
                    · have hq19470 : z19469.toInt = x18461.toInt := tq_eq rfl rfl hc
                      have hb19471 := tq_lo z19469
                      refine lv_aload_n hx hb dX12_dances_178 rfl (lv_at hl 7 rfl) ?_
                      refine va_get (D := D) (ci := 12) (v := .ref qm_stumble) (C := RX12) (T := TX12) (N := 45) hx hb hts hi12 hown hK hP 5 rfl rfl 20 (by decide) (hts (.fieldLink RX12 43 "OverHillModel" "stumble" "[I") (by decide +kernel)) (fun _ h9 => h9) rfl dX12_dances_179 ?_
                      refine lv_iconst (v := 4) hx hb dX12_dances_182 (by decide) ?_
                      refine lv_iload hx hb dX12_dances_183 (lv_at hl 0 rfl) ?_
                      refine lv_imul hx hb dX12_dances_185 ?_
                      refine lv_topi (fun z19472 ez19472 => ?_)
                      have fz19472 : z19472.toInt = 4 * x19436.toInt := by rw [ez19472]; exact tq_mul (by decide) rfl (by omega)
                      refine lv_iconst (v := 2) hx hb dX12_dances_186 (by decide) ?_
                      refine lv_iadd hx hb dX12_dances_187 ?_
                      refine lv_topi (fun z19473 ez19473 => ?_)
                      have fz19473 : z19473.toInt = z19472.toInt + 2 := by rw [ez19473]; exact tq_add rfl (by decide) (by omega)
                      refine va_iald (D := D) hx hb hK hP 1 0 rfl rfl (tq_in rfl (by omega)) dX12_dances_188 ?_
                      refine lv_topi (fun z19474 ez19474 => ?_)
                      have fz19474 : 0 ≤ z19474.toInt ∧ z19474.toInt ≤ 5 := by rw [ez19474]; exact ar_get h_fm_stumble z19473 2 (by omega) (show z19473.toInt % 4 = 2 by omega) rfl
                      refine lv_istore (lv' := [(10, .int z19474), (12, .int x19436), (11, .int x19435), (9, .int z18465), (8, .int x18461), (7, .int x18460), (6, .int r1), (0, .ref qm), (1, .int a1), (2, .int a2), (3, .int a3), (4, .int a4), (5, .int a5)]) hx hb dX12_dances_189 hl (by decide) rfl (fun ls hl => ?_)
                      refine lv_aload_n hx hb dX12_dances_191 rfl (lv_at hl 7 rfl) ?_
                      refine va_get (D := D) (ci := 12) (v := .ref qm_stumble) (C := RX12) (T := TX12) (N := 45) hx hb hts hi12 hown hK hP 5 rfl rfl 20 (by decide) (hts (.fieldLink RX12 43 "OverHillModel" "stumble" "[I") (by decide +kernel)) (fun _ h9 => h9) rfl dX12_dances_192 ?_
                      refine lv_iconst (v := 4) hx hb dX12_dances_195 (by decide) ?_
                      refine lv_iload hx hb dX12_dances_196 (lv_at hl 1 rfl) ?_
                      refine lv_imul hx hb dX12_dances_198 ?_
                      refine lv_topi (fun z19475 ez19475 => ?_)
                      have fz19475 : z19475.toInt = 4 * x19436.toInt := by rw [ez19475]; exact tq_mul (by decide) rfl (by omega)
                      refine lv_iconst (v := 3) hx hb dX12_dances_199 (by decide) ?_
                      refine lv_iadd hx hb dX12_dances_200 ?_
                      refine lv_topi (fun z19476 ez19476 => ?_)
                      have fz19476 : z19476.toInt = z19475.toInt + 3 := by rw [ez19476]; exact tq_add rfl (by decide) (by omega)
                      refine va_iald (D := D) hx hb hK hP 1 0 rfl rfl (tq_in rfl (by omega)) dX12_dances_201 ?_
                      refine lv_topi (fun z19477 ez19477 => ?_)
                      refine lv_istore (lv' := [(11, .int z19477), (10, .int z19474), (12, .int x19436), (9, .int z18465), (8, .int x18461), (7, .int x18460), (6, .int r1), (0, .ref qm), (1, .int a1), (2, .int a2), (3, .int a3), (4, .int a4), (5, .int a5)]) hx hb dX12_dances_202 hl (by decide) rfl (fun ls hl => ?_)
                      obtain ⟨z19478, ez19478⟩ : ∃ z : Int32, z = x19436 + 1 := ⟨_, rfl⟩
                      have fz19478 : z19478.toInt = x19436.toInt + 1 := by rw [ez19478]; exact tq_add rfl (by decide) (by omega)
                      refine lv_iinc (v := z19478) (lv' := [(12, .int z19478), (11, .int z19477), (10, .int z19474), (9, .int z18465), (8, .int x18461), (7, .int x18460), (6, .int r1), (0, .ref qm), (1, .int a1), (2, .int a2), (3, .int a3), (4, .int a4), (5, .int a5)]) hx hb dX12_dances_204 hl (k := 2) rfl ez19478.symm (by decide) rfl (fun ls hl => ?_)
                      refine lv_goto (tgt := 122) hx hb dX12_dances_207 (by decide) ?_
                      exact ih19437 (z19474, z19477, z19478) _ _ _ (show (8 - z19478.toInt).toNat < (8 - x19436.toInt).toNat by omega) ⟨fz19474, (show 0 ≤ z19478.toInt ∧ z19478.toInt ≤ 8 by omega), ⟨hP, hD⟩, hS, lv_sub hl [0, 1, 2, 3, 4, 5, 6, 7, 8, 9, 10, 11, 12] rfl⟩
                    · have hq19470 : z19469.toInt ≠ x18461.toInt := tq_ne rfl rfl hc
                      have hb19479 := tq_lo z19469
                      refine lv_goto (tgt := 204) hx hb dX12_dances_175 (by decide) ?_
                      obtain ⟨z19480, ez19480⟩ : ∃ z : Int32, z = x19436 + 1 := ⟨_, rfl⟩
                      have fz19480 : z19480.toInt = x19436.toInt + 1 := by rw [ez19480]; exact tq_add rfl (by decide) (by omega)
                      refine lv_iinc (v := z19480) (lv' := [(12, .int z19480), (11, .int x19435), (10, .int x19434), (9, .int z18465), (8, .int x18461), (7, .int x18460), (6, .int r1), (0, .ref qm), (1, .int a1), (2, .int a2), (3, .int a3), (4, .int a4), (5, .int a5)]) hx hb dX12_dances_204 hl (k := 0) rfl ez19480.symm (by decide) rfl (fun ls hl => ?_)
                      refine lv_goto (tgt := 122) hx hb dX12_dances_207 (by decide) ?_
                      exact ih19437 (x19434, x19435, z19480) _ _ _ (show (8 - z19480.toInt).toNat < (8 - x19436.toInt).toNat by omega) ⟨h_x19434, (show 0 ≤ z19480.toInt ∧ z19480.toInt ≤ 8 by omega), ⟨hP, hD⟩, hS, lv_sub hl [0, 1, 2, 3, 4, 5, 6, 7, 8, 9, 10, 11, 12] rfl⟩
        · have hq18473 : z18472.toInt ≠ 0 := tq_ne rfl (by decide) hc
          have hb19481 := tq_lo z18472
          refine lv_goto (tgt := 237) hx hb dX12_dances_85 (by decide) ?_
          obtain ⟨z19482, ez19482⟩ : ∃ z : Int32, z = x18461 + 1 := ⟨_, rfl⟩
          have fz19482 : z19482.toInt = x18461.toInt + 1 := by rw [ez19482]; exact tq_add rfl (by decide) (by omega)
          refine lv_iinc (v := z19482) (lv' := [(8, .int z19482), (9, .int z18465), (7, .int x18460), (6, .int r1), (0, .ref qm), (1, .int a1), (2, .int a2), (3, .int a3), (4, .int a4), (5, .int a5)]) hx hb dX12_dances_237 hl (k := 1) rfl ez19482.symm (by decide) rfl (fun ls hl => ?_)
          refine lv_goto (tgt := 20) hx hb dX12_dances_240 (by decide) ?_
          exact ih18462 (g18470, g18469, x18460, z19482) _ _ _ (show (200 - z19482.toInt).toNat < (200 - x18461.toInt).toNat by omega) ⟨h_g18470, h_x18460, (show 0 ≤ z19482.toInt ∧ z19482.toInt ≤ 200 by omega), ⟨hP, hD⟩, hS, lv_sub hl [0, 2, 3, 4, 5, 6, 7, 8, 9] rfl⟩
    · have hq18468 : r1.toInt = 0 := tq_eq rfl (by decide) hc
      refine lv_iconst (v := (-1)) hx hb dX12_dances_55 (by decide) ?_
      refine lv_goto (tgt := 61) hx hb dX12_dances_56 (by decide) ?_
      refine va_iast (D := D) hx hb hK hP hD hS 3 0 rfl rfl (tq_in rfl (by omega)) dX12_dances_61 (fun H locs hP hD hS => ?_)
      obtain ⟨g19483, hP, hD⟩ : ∃ g19483 : Nat → Int32, ct_B D A H [(qm_round, .inl (cI, 120, .inl (fm_round))), (qm_stumble, .inl (cI, 160, .inl (fm_stumble))), (qm_isMud, .inl (cZ, 1000, .inl (fm_isMud))), (qm_places, .inl (cI, 402, .inl (g19483))), (qm_danced, .inl (cI, 400, .inl (g18458))), mo qm vm_thrown qm_width qm_many qm_cells qm_moved qm_tape vm_taped vm_at vm_token vm_place vm_value vm_word vm_bad vm_badPlace vm_fault vm_faultPlace qm_lines qm_has qm_round qm_meets qm_stumble qm_isMud qm_cell qm_tune qm_change qm_isKept qm_steps qm_places qm_danced vm_runMost vm_runBegins qm_heardBy vm_fitMany vm_fitFirst vm_fitBeats vm_listenLeaves qm_there vm_metAt vm_metIn qm_wins vm_nightHoles vm_nightFirst vm_nightMud vm_nightSlips vm_drawnNow, (qm_has, .inl (cI, 55, .inl (fm_has)))] := ⟨_, hP, hD⟩
      refine lv_aload_n hx hb dX12_dances_62 rfl (lv_at hl 4 rfl) ?_
      refine va_get (D := D) (ci := 12) (v := .ref qm_danced) (C := RX12) (T := TX12) (N := 45) hx hb hts hi12 hown hK hP 5 rfl rfl 28 (by decide) (hts (.fieldLink RX12 68 "OverHillModel" "danced" "[I") (by decide +kernel)) (fun _ h9 => h9) rfl dX12_dances_63 ?_
      refine lv_iload hx hb dX12_dances_66 (lv_at hl 0 rfl) ?_
      refine lv_iconst (v := (-1)) hx hb dX12_dances_68 (by decide) ?_
      refine va_iast (D := D) hx hb hK hP hD hS 4 0 rfl rfl (tq_in rfl (by omega)) dX12_dances_69 (fun H locs hP hD hS => ?_)
      obtain ⟨g19484, h_g19484, hP, hD⟩ : ∃ g19484 : Nat → Int32, ar_ok [(-1)] [5] g19484 ∧ ct_B D A H [(qm_round, .inl (cI, 120, .inl (fm_round))), (qm_stumble, .inl (cI, 160, .inl (fm_stumble))), (qm_isMud, .inl (cZ, 1000, .inl (fm_isMud))), (qm_places, .inl (cI, 402, .inl (g19483))), (qm_danced, .inl (cI, 400, .inl (g19484))), mo qm vm_thrown qm_width qm_many qm_cells qm_moved qm_tape vm_taped vm_at vm_token vm_place vm_value vm_word vm_bad vm_badPlace vm_fault vm_faultPlace qm_lines qm_has qm_round qm_meets qm_stumble qm_isMud qm_cell qm_tune qm_change qm_isKept qm_steps qm_places qm_danced vm_runMost vm_runBegins qm_heardBy vm_fitMany vm_fitFirst vm_fitBeats vm_listenLeaves qm_there vm_metAt vm_metIn qm_wins vm_nightHoles vm_nightFirst vm_nightMud vm_nightSlips vm_drawnNow, (qm_has, .inl (cI, 55, .inl (fm_has)))] := ⟨_, ar_set h_g18458 z18465 (-1 : Int32) 0 (by omega) (show z18465.toInt % 1 = 0 by omega) rfl (show (-1) ≤ (-1 : Int32).toInt ∧ (-1 : Int32).toInt ≤ 5 by decide), hP, hD⟩
      refine lv_iload hx hb dX12_dances_70 (lv_at hl 3 rfl) ?_
      refine lv_if_eq (tgt := 237) hx hb dX12_dances_72 (by decide) (fun hc => ?_) (fun hc => ?_)
      · have hq19485 : r1.toInt = 0 := tq_eq rfl (by decide) hc
        obtain ⟨z19486, ez19486⟩ : ∃ z : Int32, z = x18461 + 1 := ⟨_, rfl⟩
        have fz19486 : z19486.toInt = x18461.toInt + 1 := by rw [ez19486]; exact tq_add rfl (by decide) (by omega)
        refine lv_iinc (v := z19486) (lv' := [(8, .int z19486), (9, .int z18465), (7, .int x18460), (6, .int r1), (0, .ref qm), (1, .int a1), (2, .int a2), (3, .int a3), (4, .int a4), (5, .int a5)]) hx hb dX12_dances_237 hl (k := 1) rfl ez19486.symm (by decide) rfl (fun ls hl => ?_)
        refine lv_goto (tgt := 20) hx hb dX12_dances_240 (by decide) ?_
        exact ih18462 (g19484, g19483, x18460, z19486) _ _ _ (show (200 - z19486.toInt).toNat < (200 - x18461.toInt).toNat by omega) ⟨h_g19484, h_x18460, (show 0 ≤ z19486.toInt ∧ z19486.toInt ≤ 200 by omega), ⟨hP, hD⟩, hS, lv_sub hl [0, 2, 3, 4, 5, 6, 7, 8, 9] rfl⟩
      · have hq19485 : r1.toInt ≠ 0 := tq_ne rfl (by decide) hc
        omega
