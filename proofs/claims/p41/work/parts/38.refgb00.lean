abbrev w_c_X12_isPlay (cI cJ cB cZ cO : ClassId) (qm : Nat) (vm_thrown : Int32) (qm_width : Nat) (qm_many : Nat) (qm_cells : Nat) (qm_moved : Nat) (qm_tape : Nat) (vm_taped : Int32) (vm_at : Int32) (vm_token : Int32) (vm_place : Int32) (vm_value : Int32) (vm_word : Int64) (vm_bad : Int32) (vm_badPlace : Int32) (vm_fault : Int32) (vm_faultPlace : Int32) (qm_lines : Nat) (qm_has : Nat) (qm_round : Nat) (qm_meets : Nat) (fm_meets : Nat → Int32) (qm_stumble : Nat) (qm_isMud : Nat) (qm_cell : Nat) (qm_tune : Nat) (qm_change : Nat) (qm_isKept : Nat) (qm_steps : Nat) (qm_places : Nat) (qm_danced : Nat) (vm_runMost : Int32) (vm_runBegins : Int32) (qm_heardBy : Nat) (vm_fitMany : Int32) (vm_fitFirst : Int32) (vm_fitBeats : Int64) (vm_listenLeaves : Int32) (qm_there : Nat) (vm_metAt : Int32) (vm_metIn : Int32) (qm_wins : Nat) (vm_nightHoles : Int32) (vm_nightFirst : Int32) (vm_nightMud : Int32) (vm_nightSlips : Int32) (vm_drawnNow : Int64) : va_W := [mo qm vm_thrown qm_width qm_many qm_cells qm_moved qm_tape vm_taped vm_at vm_token vm_place vm_value vm_word vm_bad vm_badPlace vm_fault vm_faultPlace qm_lines qm_has qm_round qm_meets qm_stumble qm_isMud qm_cell qm_tune qm_change qm_isKept qm_steps qm_places qm_danced vm_runMost vm_runBegins qm_heardBy vm_fitMany vm_fitFirst vm_fitBeats vm_listenLeaves qm_there vm_metAt vm_metIn qm_wins vm_nightHoles vm_nightFirst vm_nightMud vm_nightSlips vm_drawnNow, (qm_meets, .inl (cI, 30, .inl (fm_meets)))]
set_option maxHeartbeats 4000000 in
set_option maxRecDepth 100000 in
/-- X12 isPlay -/
theorem c_X12_isPlay (l : Launch) (D : va_G) (G : ct_G) (cI cJ cB cZ cO : ClassId) (qm : Nat) (vm_thrown : Int32) (qm_width : Nat) (qm_many : Nat) (qm_cells : Nat) (qm_moved : Nat) (qm_tape : Nat) (vm_taped : Int32) (vm_at : Int32) (vm_token : Int32) (vm_place : Int32) (vm_value : Int32) (vm_word : Int64) (vm_bad : Int32) (vm_badPlace : Int32) (vm_fault : Int32) (vm_faultPlace : Int32) (qm_lines : Nat) (qm_has : Nat) (qm_round : Nat) (qm_meets : Nat) (fm_meets : Nat → Int32) (qm_stumble : Nat) (qm_isMud : Nat) (qm_cell : Nat) (qm_tune : Nat) (qm_change : Nat) (qm_isKept : Nat) (qm_steps : Nat) (qm_places : Nat) (qm_danced : Nat) (vm_runMost : Int32) (vm_runBegins : Int32) (qm_heardBy : Nat) (vm_fitMany : Int32) (vm_fitFirst : Int32) (vm_fitBeats : Int64) (vm_listenLeaves : Int32) (qm_there : Nat) (vm_metAt : Int32) (vm_metIn : Int32) (qm_wins : Nat) (vm_nightHoles : Int32) (vm_nightFirst : Int32) (vm_nightMud : Int32) (vm_nightSlips : Int32) (vm_drawnNow : Int64) (a1 : Int32) (a2 : Int32) (a3 : Int32) (h_vm_taped : 0 ≤ vm_taped.toInt ∧ vm_taped.toInt ≤ 1200) (h_vm_at : 0 ≤ vm_at.toInt ∧ vm_at.toInt ≤ 1200) (h_vm_value : 0 ≤ vm_value.toInt ∧ vm_value.toInt ≤ 1000009) (h_a2 : 0 ≤ a2.toInt ∧ a2.toInt ≤ 5) (h_a3 : 0 ≤ a3.toInt ∧ a3.toInt ≤ 5) (sz : Nat) : Met l yX12_isPlay wsX12_isPlay ({ frames := 1, cells := 0, slots := 0, locals := 21 }) (va_Pc [.ref qm, .int a1, .int a2, .int a3] (ct_P D (ct_T cI cJ cB cZ cO) G (w_c_X12_isPlay cI cJ cB cZ cO qm vm_thrown qm_width qm_many qm_cells qm_moved qm_tape vm_taped vm_at vm_token vm_place vm_value vm_word vm_bad vm_badPlace vm_fault vm_faultPlace qm_lines qm_has qm_round qm_meets fm_meets qm_stumble qm_isMud qm_cell qm_tune qm_change qm_isKept qm_steps qm_places qm_danced vm_runMost vm_runBegins qm_heardBy vm_fitMany vm_fitFirst vm_fitBeats vm_listenLeaves qm_there vm_metAt vm_metIn qm_wins vm_nightHoles vm_nightFirst vm_nightMud vm_nightSlips vm_drawnNow) sz)) (va_Qi (fun (rz : Int32) (u : Unit) => ((rz = 1 ∧ (pl a1 a3)) ∨ (rz = 0 ∧ True))) (fun (u : Unit) t => ct_Q D (va_A (w_c_X12_isPlay cI cJ cB cZ cO qm vm_thrown qm_width qm_many qm_cells qm_moved qm_tape vm_taped vm_at vm_token vm_place vm_value vm_word vm_bad vm_badPlace vm_fault vm_faultPlace qm_lines qm_has qm_round qm_meets fm_meets qm_stumble qm_isMud qm_cell qm_tune qm_change qm_isKept qm_steps qm_places qm_danced vm_runMost vm_runBegins qm_heardBy vm_fitMany vm_fitFirst vm_fitBeats vm_listenLeaves qm_there vm_metAt vm_metIn qm_wins vm_nightHoles vm_nightFirst vm_nightMud vm_nightSlips vm_drawnNow) sz) [mo qm vm_thrown qm_width qm_many qm_cells qm_moved qm_tape vm_taped vm_at vm_token vm_place vm_value vm_word vm_bad vm_badPlace vm_fault vm_faultPlace qm_lines qm_has qm_round qm_meets qm_stumble qm_isMud qm_cell qm_tune qm_change qm_isKept qm_steps qm_places qm_danced vm_runMost vm_runBegins qm_heardBy vm_fitMany vm_fitFirst vm_fitBeats vm_listenLeaves qm_there vm_metAt vm_metIn qm_wins vm_nightHoles vm_nightFirst vm_nightMud vm_nightSlips vm_drawnNow, (qm_meets, .inl (cI, 30, .inl (fm_meets)))] t) (va_A (w_c_X12_isPlay cI cJ cB cZ cO qm vm_thrown qm_width qm_many qm_cells qm_moved qm_tape vm_taped vm_at vm_token vm_place vm_value vm_word vm_bad vm_badPlace vm_fault vm_faultPlace qm_lines qm_has qm_round qm_meets fm_meets qm_stumble qm_isMud qm_cell qm_tune qm_change qm_isKept qm_steps qm_places qm_danced vm_runMost vm_runBegins qm_heardBy vm_fitMany vm_fitFirst vm_fitBeats vm_listenLeaves qm_there vm_metAt vm_metIn qm_wins vm_nightHoles vm_nightFirst vm_nightMud vm_nightSlips vm_drawnNow) sz)) 0 0 (va_A (w_c_X12_isPlay cI cJ cB cZ cO qm vm_thrown qm_width qm_many qm_cells qm_moved qm_tape vm_taped vm_at vm_token vm_place vm_value vm_word vm_bad vm_badPlace vm_fault vm_faultPlace qm_lines qm_has qm_round qm_meets fm_meets qm_stumble qm_isMud qm_cell qm_tune qm_change qm_isKept qm_steps qm_places qm_danced vm_runMost vm_runBegins qm_heardBy vm_fitMany vm_fitFirst vm_fitBeats vm_listenLeaves qm_there vm_metAt vm_metIn qm_wins vm_nightHoles vm_nightFirst vm_nightMud vm_nightSlips vm_drawnNow) sz) := by
  refine Met.ofW (cc := cX12_isPlay) (maxL := 4) (ret := (some .boolean)) (by decide) rfl ?_
  intro p e s m args below meth c s₁ B hml hv
  obtain ⟨rfl, hsz, hP, hE, hD0, hH⟩ := hv
  have hx := B.exec
  have hb := B.bytes
  have hr := B.returns
  have hts := atoms_spec (ws := wsX12_isPlay) B.pre
  have hown : s.vm.findClass RX12 = some m.cls := findClass_of_methodNamed B.named
  have hlocks := B.notSynchronized
  have hK := hE.1
  have hi12 : ∀ w ∈ u_ws RX12 TX12 45, w ∈ wsX12_isPlay := fun w h => List.mem_cons_of_mem _ (List.mem_append_right _ h)
  subst hsz
  have hD := hD0.self (sz := s.heap.size)
  generalize hAe : va_A (w_c_X12_isPlay cI cJ cB cZ cO qm vm_thrown qm_width qm_many qm_cells qm_moved qm_tape vm_taped vm_at vm_token vm_place vm_value vm_word vm_bad vm_badPlace vm_fault vm_faultPlace qm_lines qm_has qm_round qm_meets fm_meets qm_stumble qm_isMud qm_cell qm_tune qm_change qm_isKept qm_steps qm_places qm_danced vm_runMost vm_runBegins qm_heardBy vm_fitMany vm_fitFirst vm_fitBeats vm_listenLeaves qm_there vm_metAt vm_metIn qm_wins vm_nightHoles vm_nightFirst vm_nightMud vm_nightSlips vm_drawnNow) s.heap.size = A at hD hH ⊢
  have hA : ∀ q : Nat, s.heap.size ≤ q → A q := fun q h => by rw [← hAe]; exact Or.inr h
  have hS : va_S A s.heap s.heap [] := va_S.rf
  obtain ⟨hP, hD⟩ : ct_B D A s.heap [mo qm vm_thrown qm_width qm_many qm_cells qm_moved qm_tape vm_taped vm_at vm_token vm_place vm_value vm_word vm_bad vm_badPlace vm_fault vm_faultPlace qm_lines qm_has qm_round qm_meets qm_stumble qm_isMud qm_cell qm_tune qm_change qm_isKept qm_steps qm_places qm_danced vm_runMost vm_runBegins qm_heardBy vm_fitMany vm_fitFirst vm_fitBeats vm_listenLeaves qm_there vm_metAt vm_metIn qm_wins vm_nightHoles vm_nightFirst vm_nightMud vm_nightSlips vm_drawnNow, (qm_meets, .inl (cI, 30, .inl (fm_meets)))] := ⟨hP, hD⟩
  have hl := lv_entry ([.ref qm, .int a1, .int a2, .int a3]) (n := 4) (Nat.le_of_ble_eq_true rfl)
  rw [lg_entry_eq]
  generalize (lg_sl ([.ref qm, .int a1, .int a2, .int a3]) ++ List.replicate (4 - (lg_sl ([.ref qm, .int a1, .int a2, .int a3])).length) Slot.unset).toArray = ls at hl ⊢
  have hl : lv_has ls 4 [(0, .ref qm), (1, .int a1), (2, .int a2), (3, .int a3)] := hl
  obtain ⟨H, hHe⟩ : ∃ H : Heap, H = s.heap := ⟨_, rfl⟩
  rw [← hHe] at hP
  have hS : va_S A s.heap H [] := by rw [hHe]; exact va_S.rf
  refine ct_start hHe ?_
  refine lv_aload_n hx hb dX12_isPlay_0 rfl (lv_at hl 0 rfl) ?_
  refine va_get (D := D) (ci := 12) (v := .ref qm_meets) (C := RX12) (T := TX12) (N := 45) hx hb hts hi12 hown hK hP 0 rfl rfl 19 (by decide) (hts (.fieldLink RX12 40 "OverHillModel" "meets" "[I") (by decide +kernel)) (fun _ h9 => h9) rfl dX12_isPlay_1 ?_
  refine lv_iload_n hx hb dX12_isPlay_4 rfl (lv_at hl 2 rfl) ?_
  refine va_iald (D := D) hx hb hK hP 1 0 rfl rfl (tq_in rfl (by omega)) dX12_isPlay_5 ?_
  refine lv_topi (fun z1 ez1 => ?_)
  refine lv_iload_n hx hb dX12_isPlay_6 rfl (lv_at hl 3 rfl) ?_
  refine ct_calli (D := D) (wr := [mo qm vm_thrown qm_width qm_many qm_cells qm_moved qm_tape vm_taped vm_at vm_token vm_place vm_value vm_word vm_bad vm_badPlace vm_fault vm_faultPlace qm_lines qm_has qm_round qm_meets qm_stumble qm_isMud qm_cell qm_tune qm_change qm_isKept qm_steps qm_places qm_danced vm_runMost vm_runBegins qm_heardBy vm_fitMany vm_fitFirst vm_fitBeats vm_listenLeaves qm_there vm_metAt vm_metIn qm_wins vm_nightHoles vm_nightFirst vm_nightMud vm_nightSlips vm_drawnNow, (qm_meets, .inl (cI, 30, .inl (fm_meets)))]) (va_runS (As := [.int z1, .int a3]) (rest := []) ⟨hx, hb, hml, hown, hts⟩ (c_X12_isBit l D G cI cJ cB cZ cO z1 a3  H.size) (va_cwS 2 hts gX12_isPlay_X12_isBit rfl rfl rfl (by decide +kernel) ⟨Nat.le_of_ble_eq_true rfl, Nat.le_of_ble_eq_true rfl⟩) (ct_preS (T := ct_T cI cJ cB cZ cO) hE hH hP hD hS hA [] (by decide) rfl) rfl rfl hl.1 rfl (lv_room (Nat.le_of_ble_eq_true rfl)) dX12_isPlay_7 ⟨Nat.le_of_ble_eq_true rfl, Nat.le_of_ble_eq_true rfl⟩) hP hD hS hA [] [0, 1] rfl rfl (by decide) (by decide) (fun r2 u H locs hw hP hD hS => ?_)
  obtain ⟨hP, hD⟩ : ct_B D A H [mo qm vm_thrown qm_width qm_many qm_cells qm_moved qm_tape vm_taped vm_at vm_token vm_place vm_value vm_word vm_bad vm_badPlace vm_fault vm_faultPlace qm_lines qm_has qm_round qm_meets qm_stumble qm_isMud qm_cell qm_tune qm_change qm_isKept qm_steps qm_places qm_danced vm_runMost vm_runBegins qm_heardBy vm_fitMany vm_fitFirst vm_fitBeats vm_listenLeaves qm_there vm_metAt vm_metIn qm_wins vm_nightHoles vm_nightFirst vm_nightMud vm_nightSlips vm_drawnNow, (qm_meets, .inl (cI, 30, .inl (fm_meets)))] := ⟨hP, hD⟩
  have hz := hw
  clear hw
  rcases hz with ⟨hz, hz2⟩ | ⟨hz, hz2⟩
  · subst hz
    have hz_3 : (bt z1 a3) := hz2
    refine lv_if_eq (tgt := 28) hx hb dX12_isPlay_10 (by decide) (fun hc => absurd hc (by decide)) (fun _ => ?_)
    refine lv_iload_n hx hb dX12_isPlay_13 rfl (lv_at hl 1 rfl) ?_
    refine lv_iconst (v := 2) hx hb dX12_isPlay_14 (by decide) ?_
    refine lv_iload_n hx hb dX12_isPlay_15 rfl (lv_at hl 3 rfl) ?_
    refine lv_imul hx hb dX12_isPlay_16 ?_
    refine lv_topi (fun z4 ez4 => ?_)
    have fz4 : z4.toInt = 2 * a3.toInt := by rw [ez4]; exact tq_mul (by decide) rfl (by omega)
    refine lv_ishr hx hb dX12_isPlay_17 ?_
    refine lv_topi (fun z5 ez5 => ?_)
    refine lv_iconst (v := 3) hx hb dX12_isPlay_18 (by decide) ?_
    refine lv_iand hx hb dX12_isPlay_19 ?_
    refine lv_topi (fun z6 ez6 => ?_)
    have fz6 : 0 ≤ z6.toInt ∧ z6.toInt ≤ 3 := by rw [ez6]; exact tq_and (c := 3) (by decide) (by omega)
    refine lv_iconst (v := 2) hx hb dX12_isPlay_20 (by decide) ?_
    refine lv_icmp_ge (tgt := 28) hx hb dX12_isPlay_21 (by decide) (fun hc => ?_) (fun hc => ?_)
    · have hq7 : 2 ≤ z6.toInt := tq_le (by decide) rfl hc
      refine lv_iconst (v := 0) hx hb dX12_isPlay_28 (by decide) ?_
      obtain ⟨hP9, hD9⟩ : ct_B D A H [mo qm vm_thrown qm_width qm_many qm_cells qm_moved qm_tape vm_taped vm_at vm_token vm_place vm_value vm_word vm_bad vm_badPlace vm_fault vm_faultPlace qm_lines qm_has qm_round qm_meets qm_stumble qm_isMud qm_cell qm_tune qm_change qm_isKept qm_steps qm_places qm_danced vm_runMost vm_runBegins qm_heardBy vm_fitMany vm_fitFirst vm_fitBeats vm_listenLeaves qm_there vm_metAt vm_metIn qm_wins vm_nightHoles vm_nightFirst vm_nightMud vm_nightSlips vm_drawnNow, (qm_meets, .inl (cI, 30, .inl (fm_meets)))] := ⟨hP.sub [0, 1] rfl, hD.sub [0, 1] (by decide) rfl⟩
      exact W.zret (v := 0) (ty := .boolean) hx hb hr rfl (fun t ht hW => ⟨⟨0, (), rfl, (Or.inr (⟨rfl, trivial⟩)), by rw [ht]; exact hP9, hD9⟩, hS.F ht⟩) hS.2.2 dX12_isPlay_29
    · have hq7 : z6.toInt < 2 := tq_nle (by decide) rfl hc
      refine lv_iconst (v := 1) hx hb dX12_isPlay_24 (by decide) ?_
      refine lv_goto (tgt := 29) hx hb dX12_isPlay_25 (by decide) ?_
      obtain ⟨hP9, hD9⟩ : ct_B D A H [mo qm vm_thrown qm_width qm_many qm_cells qm_moved qm_tape vm_taped vm_at vm_token vm_place vm_value vm_word vm_bad vm_badPlace vm_fault vm_faultPlace qm_lines qm_has qm_round qm_meets qm_stumble qm_isMud qm_cell qm_tune qm_change qm_isKept qm_steps qm_places qm_danced vm_runMost vm_runBegins qm_heardBy vm_fitMany vm_fitFirst vm_fitBeats vm_listenLeaves qm_there vm_metAt vm_metIn qm_wins vm_nightHoles vm_nightFirst vm_nightMud vm_nightSlips vm_drawnNow, (qm_meets, .inl (cI, 30, .inl (fm_meets)))] := ⟨hP.sub [0, 1] rfl, hD.sub [0, 1] (by decide) rfl⟩
      exact W.zret (v := 1) (ty := .boolean) hx hb hr rfl (fun t ht hW => ⟨⟨1, (), rfl, (Or.inl ⟨rfl, (show (pl a1 a3) by show ((a1 >>> ((2 * a3) &&& 31)) &&& 3).toInt < 2; rw [← ez4, ← ez5, ← ez6]; omega)⟩), by rw [ht]; exact hP9, hD9⟩, hS.F ht⟩) hS.2.2 dX12_isPlay_29
  · subst hz
    have hz_8 : ¬ (bt z1 a3) := hz2
    refine lv_if_eq (tgt := 28) hx hb dX12_isPlay_10 (by decide) (fun _ => ?_) (fun hc => absurd hc (by decide))
    refine lv_iconst (v := 0) hx hb dX12_isPlay_28 (by decide) ?_
    obtain ⟨hP9, hD9⟩ : ct_B D A H [mo qm vm_thrown qm_width qm_many qm_cells qm_moved qm_tape vm_taped vm_at vm_token vm_place vm_value vm_word vm_bad vm_badPlace vm_fault vm_faultPlace qm_lines qm_has qm_round qm_meets qm_stumble qm_isMud qm_cell qm_tune qm_change qm_isKept qm_steps qm_places qm_danced vm_runMost vm_runBegins qm_heardBy vm_fitMany vm_fitFirst vm_fitBeats vm_listenLeaves qm_there vm_metAt vm_metIn qm_wins vm_nightHoles vm_nightFirst vm_nightMud vm_nightSlips vm_drawnNow, (qm_meets, .inl (cI, 30, .inl (fm_meets)))] := ⟨hP.sub [0, 1] rfl, hD.sub [0, 1] (by decide) rfl⟩
    exact W.zret (v := 0) (ty := .boolean) hx hb hr rfl (fun t ht hW => ⟨⟨0, (), rfl, (Or.inr (⟨rfl, trivial⟩)), by rw [ht]; exact hP9, hD9⟩, hS.F ht⟩) hS.2.2 dX12_isPlay_29
abbrev w_c_X12_winsFrom (cI cJ cB cZ cO : ClassId) (qm : Nat) (vm_thrown : Int32) (qm_width : Nat) (qm_many : Nat) (qm_cells : Nat) (qm_moved : Nat) (qm_tape : Nat) (vm_taped : Int32) (vm_at : Int32) (vm_token : Int32) (vm_place : Int32) (vm_value : Int32) (vm_word : Int64) (vm_bad : Int32) (vm_badPlace : Int32) (vm_fault : Int32) (vm_faultPlace : Int32) (qm_lines : Nat) (qm_has : Nat) (qm_round : Nat) (qm_meets : Nat) (fm_meets : Nat → Int32) (qm_stumble : Nat) (qm_isMud : Nat) (qm_cell : Nat) (qm_tune : Nat) (qm_change : Nat) (qm_isKept : Nat) (qm_steps : Nat) (qm_places : Nat) (qm_danced : Nat) (vm_runMost : Int32) (vm_runBegins : Int32) (qm_heardBy : Nat) (vm_fitMany : Int32) (vm_fitFirst : Int32) (vm_fitBeats : Int64) (vm_listenLeaves : Int32) (qm_there : Nat) (vm_metAt : Int32) (vm_metIn : Int32) (qm_wins : Nat) (fm_wins : Nat → Int32) (vm_nightHoles : Int32) (vm_nightFirst : Int32) (vm_nightMud : Int32) (vm_nightSlips : Int32) (vm_drawnNow : Int64) : va_W := [mo qm vm_thrown qm_width qm_many qm_cells qm_moved qm_tape vm_taped vm_at vm_token vm_place vm_value vm_word vm_bad vm_badPlace vm_fault vm_faultPlace qm_lines qm_has qm_round qm_meets qm_stumble qm_isMud qm_cell qm_tune qm_change qm_isKept qm_steps qm_places qm_danced vm_runMost vm_runBegins qm_heardBy vm_fitMany vm_fitFirst vm_fitBeats vm_listenLeaves qm_there vm_metAt vm_metIn qm_wins vm_nightHoles vm_nightFirst vm_nightMud vm_nightSlips vm_drawnNow, (qm_meets, .inl (cI, 30, .inl (fm_meets))), (qm_wins, .inl (cI, 24576, .inl (fm_wins)))]
abbrev w_ihw (cI cJ cB cZ cO : ClassId) (qm : Nat) (vm_thrown : Int32) (qm_width : Nat) (qm_many : Nat) (qm_cells : Nat) (qm_moved : Nat) (qm_tape : Nat) (vm_taped : Int32) (vm_at : Int32) (vm_token : Int32) (vm_place : Int32) (vm_value : Int32) (vm_word : Int64) (vm_bad : Int32) (vm_badPlace : Int32) (vm_fault : Int32) (vm_faultPlace : Int32) (qm_lines : Nat) (qm_has : Nat) (qm_round : Nat) (qm_meets : Nat) (fm_meets : Nat → Int32) (qm_stumble : Nat) (qm_isMud : Nat) (qm_cell : Nat) (qm_tune : Nat) (qm_change : Nat) (qm_isKept : Nat) (qm_steps : Nat) (qm_places : Nat) (qm_danced : Nat) (vm_runMost : Int32) (vm_runBegins : Int32) (qm_heardBy : Nat) (vm_fitMany : Int32) (vm_fitFirst : Int32) (vm_fitBeats : Int64) (vm_listenLeaves : Int32) (qm_there : Nat) (vm_metAt : Int32) (vm_metIn : Int32) (qm_wins : Nat) (fm_wins : Nat → Int32) (vm_nightHoles : Int32) (vm_nightFirst : Int32) (vm_nightMud : Int32) (vm_nightSlips : Int32) (vm_drawnNow : Int64) : va_W := [mo qm vm_thrown qm_width qm_many qm_cells qm_moved qm_tape vm_taped vm_at vm_token vm_place vm_value vm_word vm_bad vm_badPlace vm_fault vm_faultPlace qm_lines qm_has qm_round qm_meets qm_stumble qm_isMud qm_cell qm_tune qm_change qm_isKept qm_steps qm_places qm_danced vm_runMost vm_runBegins qm_heardBy vm_fitMany vm_fitFirst vm_fitBeats vm_listenLeaves qm_there vm_metAt vm_metIn qm_wins vm_nightHoles vm_nightFirst vm_nightMud vm_nightSlips vm_drawnNow, (qm_meets, .inl (cI, 30, .inl (fm_meets))), (qm_wins, .inl (cI, 24576, .inl (fm_wins)))]
set_option maxHeartbeats 8000000 in
set_option maxRecDepth 100000 in
/-- who wins from there -/
theorem c_X12_winsFrom (l : Launch) (D : va_G) (G : ct_G) (cI cJ cB cZ cO : ClassId) (qm : Nat) (vm_thrown : Int32) (qm_width : Nat) (qm_many : Nat) (qm_cells : Nat) (qm_moved : Nat) (qm_tape : Nat) (vm_taped : Int32) (vm_at : Int32) (vm_token : Int32) (vm_place : Int32) (vm_value : Int32) (vm_word : Int64) (vm_bad : Int32) (vm_badPlace : Int32) (vm_fault : Int32) (vm_faultPlace : Int32) (qm_lines : Nat) (qm_has : Nat) (qm_round : Nat) (qm_meets : Nat) (fm_meets : Nat → Int32) (qm_stumble : Nat) (qm_isMud : Nat) (qm_cell : Nat) (qm_tune : Nat) (qm_change : Nat) (qm_isKept : Nat) (qm_steps : Nat) (qm_places : Nat) (qm_danced : Nat) (vm_runMost : Int32) (vm_runBegins : Int32) (qm_heardBy : Nat) (vm_fitMany : Int32) (vm_fitFirst : Int32) (vm_fitBeats : Int64) (vm_listenLeaves : Int32) (qm_there : Nat) (vm_metAt : Int32) (vm_metIn : Int32) (qm_wins : Nat) (vm_nightHoles : Int32) (vm_nightFirst : Int32) (vm_nightMud : Int32) (vm_nightSlips : Int32) (vm_drawnNow : Int64) (h_vm_taped : 0 ≤ vm_taped.toInt ∧ vm_taped.toInt ≤ 1200) (h_vm_at : 0 ≤ vm_at.toInt ∧ vm_at.toInt ≤ 1200) (h_vm_value : 0 ≤ vm_value.toInt ∧ vm_value.toInt ≤ 1000009) (d : Nat) : ∀ (fm_wins : Nat → Int32) (a1 a2 : Int32) (h_a2 : 0 ≤ a2.toInt ∧ a2.toInt ≤ 5) (h_w : wn d a1.toInt) (sz : Nat), Met l yX12_winsFrom wsX12_winsFrom ({ frames := d + 2, cells := 0, slots := 0, locals := 44 + 24 * d }) (va_Pc [.ref qm, .int a1, .int a2] (ct_P D (ct_T cI cJ cB cZ cO) G (w_c_X12_winsFrom cI cJ cB cZ cO qm vm_thrown qm_width qm_many qm_cells qm_moved qm_tape vm_taped vm_at vm_token vm_place vm_value vm_word vm_bad vm_badPlace vm_fault vm_faultPlace qm_lines qm_has qm_round qm_meets fm_meets qm_stumble qm_isMud qm_cell qm_tune qm_change qm_isKept qm_steps qm_places qm_danced vm_runMost vm_runBegins qm_heardBy vm_fitMany vm_fitFirst vm_fitBeats vm_listenLeaves qm_there vm_metAt vm_metIn qm_wins fm_wins vm_nightHoles vm_nightFirst vm_nightMud vm_nightSlips vm_drawnNow) sz)) (va_Qi (fun (rz : Int32) (u : (Nat → Int32)) => ((rz = 1 ∧ True) ∨ (rz = 0 ∧ True))) (fun (u : (Nat → Int32)) t => ct_Q D (va_A (w_c_X12_winsFrom cI cJ cB cZ cO qm vm_thrown qm_width qm_many qm_cells qm_moved qm_tape vm_taped vm_at vm_token vm_place vm_value vm_word vm_bad vm_badPlace vm_fault vm_faultPlace qm_lines qm_has qm_round qm_meets fm_meets qm_stumble qm_isMud qm_cell qm_tune qm_change qm_isKept qm_steps qm_places qm_danced vm_runMost vm_runBegins qm_heardBy vm_fitMany vm_fitFirst vm_fitBeats vm_listenLeaves qm_there vm_metAt vm_metIn qm_wins fm_wins vm_nightHoles vm_nightFirst vm_nightMud vm_nightSlips vm_drawnNow) sz) [mo qm vm_thrown qm_width qm_many qm_cells qm_moved qm_tape vm_taped vm_at vm_token vm_place vm_value vm_word vm_bad vm_badPlace vm_fault vm_faultPlace qm_lines qm_has qm_round qm_meets qm_stumble qm_isMud qm_cell qm_tune qm_change qm_isKept qm_steps qm_places qm_danced vm_runMost vm_runBegins qm_heardBy vm_fitMany vm_fitFirst vm_fitBeats vm_listenLeaves qm_there vm_metAt vm_metIn qm_wins vm_nightHoles vm_nightFirst vm_nightMud vm_nightSlips vm_drawnNow, (qm_meets, .inl (cI, 30, .inl (fm_meets))), (qm_wins, .inl (cI, 24576, .inl (u)))] t) (va_A (w_c_X12_winsFrom cI cJ cB cZ cO qm vm_thrown qm_width qm_many qm_cells qm_moved qm_tape vm_taped vm_at vm_token vm_place vm_value vm_word vm_bad vm_badPlace vm_fault vm_faultPlace qm_lines qm_has qm_round qm_meets fm_meets qm_stumble qm_isMud qm_cell qm_tune qm_change qm_isKept qm_steps qm_places qm_danced vm_runMost vm_runBegins qm_heardBy vm_fitMany vm_fitFirst vm_fitBeats vm_listenLeaves qm_there vm_metAt vm_metIn qm_wins fm_wins vm_nightHoles vm_nightFirst vm_nightMud vm_nightSlips vm_drawnNow) sz)) 0 0 (va_A (w_c_X12_winsFrom cI cJ cB cZ cO qm vm_thrown qm_width qm_many qm_cells qm_moved qm_tape vm_taped vm_at vm_token vm_place vm_value vm_word vm_bad vm_badPlace vm_fault vm_faultPlace qm_lines qm_has qm_round qm_meets fm_meets qm_stumble qm_isMud qm_cell qm_tune qm_change qm_isKept qm_steps qm_places qm_danced vm_runMost vm_runBegins qm_heardBy vm_fitMany vm_fitFirst vm_fitBeats vm_listenLeaves qm_there vm_metAt vm_metIn qm_wins fm_wins vm_nightHoles vm_nightFirst vm_nightMud vm_nightSlips vm_drawnNow) sz) := by
  induction d with
  | zero =>
    intro fm_wins a1 a2 h_a2 h_w sz
    refine Met.ofW (cc := cX12_winsFrom) (maxL := 5) (ret := (some .boolean)) (by decide) rfl ?_
    intro p e s m args below meth c s₁ B hml hv
    obtain ⟨rfl, hsz, hP, hE, hD0, hH⟩ := hv
    have hx := B.exec
    have hb := B.bytes
    have hr := B.returns
    have hts := atoms_spec (ws := wsX12_winsFrom) B.pre
    have hown : s.vm.findClass RX12 = some m.cls := findClass_of_methodNamed B.named
    have hlocks := B.notSynchronized
    have hK := hE.1
    have hi12 : ∀ w ∈ u_ws RX12 TX12 45, w ∈ wsX12_winsFrom := fun w h => List.mem_cons_of_mem _ (List.mem_append_right _ h)
    subst hsz
    have hD := hD0.self (sz := s.heap.size)
    generalize hAe : va_A (w_c_X12_winsFrom cI cJ cB cZ cO qm vm_thrown qm_width qm_many qm_cells qm_moved qm_tape vm_taped vm_at vm_token vm_place vm_value vm_word vm_bad vm_badPlace vm_fault vm_faultPlace qm_lines qm_has qm_round qm_meets fm_meets qm_stumble qm_isMud qm_cell qm_tune qm_change qm_isKept qm_steps qm_places qm_danced vm_runMost vm_runBegins qm_heardBy vm_fitMany vm_fitFirst vm_fitBeats vm_listenLeaves qm_there vm_metAt vm_metIn qm_wins fm_wins vm_nightHoles vm_nightFirst vm_nightMud vm_nightSlips vm_drawnNow) s.heap.size = A at hD hH ⊢
    have hA : ∀ q : Nat, s.heap.size ≤ q → A q := fun q h => by rw [← hAe]; exact Or.inr h
    obtain ⟨hP, hD⟩ : ct_B D A s.heap [mo qm vm_thrown qm_width qm_many qm_cells qm_moved qm_tape vm_taped vm_at vm_token vm_place vm_value vm_word vm_bad vm_badPlace vm_fault vm_faultPlace qm_lines qm_has qm_round qm_meets qm_stumble qm_isMud qm_cell qm_tune qm_change qm_isKept qm_steps qm_places qm_danced vm_runMost vm_runBegins qm_heardBy vm_fitMany vm_fitFirst vm_fitBeats vm_listenLeaves qm_there vm_metAt vm_metIn qm_wins vm_nightHoles vm_nightFirst vm_nightMud vm_nightSlips vm_drawnNow, (qm_meets, .inl (cI, 30, .inl (fm_meets))), (qm_wins, .inl (cI, 24576, .inl (fm_wins)))] := ⟨hP, hD⟩
    have hl := lv_entry ([.ref qm, .int a1, .int a2]) (n := 5) (Nat.le_of_ble_eq_true rfl)
    rw [lg_entry_eq]
    generalize (lg_sl ([.ref qm, .int a1, .int a2]) ++ List.replicate (5 - (lg_sl ([.ref qm, .int a1, .int a2])).length) Slot.unset).toArray = ls at hl ⊢
    have hl : lv_has ls 5 [(0, .ref qm), (1, .int a1), (2, .int a2)] := hl
    obtain ⟨H, hHe⟩ : ∃ H : Heap, H = s.heap := ⟨_, rfl⟩
    rw [← hHe] at hP
    have hS : va_S A s.heap H [] := by rw [hHe]; exact va_S.rf
    refine ct_start hHe ?_
    have hwl := wn_lt h_w
    refine lv_bipush (v := 6) hx hb dX12_winsFrom_0 (by decide) ?_
    refine lv_iload_n hx hb dX12_winsFrom_2 rfl (lv_at hl 1 rfl) ?_
    refine lv_imul hx hb dX12_winsFrom_3 ?_
    refine lv_topi (fun z1 ez1 => ?_)
    have fz1 : z1.toInt = 6 * a1.toInt := by rw [ez1]; exact tq_mul (by decide) rfl (by omega)
    refine lv_iload_n hx hb dX12_winsFrom_4 rfl (lv_at hl 2 rfl) ?_
    refine lv_iadd hx hb dX12_winsFrom_5 ?_
    refine lv_topi (fun z2 ez2 => ?_)
    have fz2 : z2.toInt = z1.toInt + a2.toInt := by rw [ez2]; exact tq_add rfl rfl (by omega)
    refine lv_istore_n (lv' := [(3, .int z2), (0, .ref qm), (1, .int a1), (2, .int a2)]) hx hb dX12_winsFrom_6 rfl hl (by decide) rfl (fun ls hl => ?_)
    refine lv_aload_n hx hb dX12_winsFrom_7 rfl (lv_at hl 1 rfl) ?_
    refine va_get (D := D) (ci := 12) (v := .ref qm_wins) (C := RX12) (T := TX12) (N := 45) hx hb hts hi12 hown hK hP 0 rfl rfl 39 (by decide) (hts (.fieldLink RX12 77 "OverHillModel" "wins" "[I") (by decide +kernel)) (fun _ h9 => h9) rfl dX12_winsFrom_8 ?_
    refine lv_iload_n hx hb dX12_winsFrom_11 rfl (lv_at hl 0 rfl) ?_
    refine va_iald (D := D) hx hb hK hP 2 0 rfl rfl (tq_in rfl (by omega)) dX12_winsFrom_12 ?_
    refine lv_topi (fun z3 ez3 => ?_)
    refine lv_if_ne (tgt := 84) hx hb dX12_winsFrom_13 (by decide) (fun hc => ?_) (fun hc => ?_)
    · have hq4 : z3.toInt ≠ 0 := tq_ne rfl (by decide) hc
      have hb5 := tq_lo z3
      refine lv_aload_n hx hb dX12_winsFrom_84 rfl (lv_at hl 1 rfl) ?_
      refine va_get (D := D) (ci := 12) (v := .ref qm_wins) (C := RX12) (T := TX12) (N := 45) hx hb hts hi12 hown hK hP 0 rfl rfl 39 (by decide) (hts (.fieldLink RX12 77 "OverHillModel" "wins" "[I") (by decide +kernel)) (fun _ h9 => h9) rfl dX12_winsFrom_85 ?_
      refine lv_iload_n hx hb dX12_winsFrom_88 rfl (lv_at hl 0 rfl) ?_
      refine va_iald (D := D) hx hb hK hP 2 0 rfl rfl (tq_in rfl (by omega)) dX12_winsFrom_89 ?_
      refine lv_topi (fun z6 ez6 => ?_)
      refine lv_iconst (v := 1) hx hb dX12_winsFrom_90 (by decide) ?_
      refine lv_icmp_ne (tgt := 98) hx hb dX12_winsFrom_91 (by decide) (fun hc => ?_) (fun hc => ?_)
      · have hq7 : z6.toInt ≠ 1 := tq_ne rfl (by decide) hc
        have hb8 := tq_lo z6
        refine lv_iconst (v := 0) hx hb dX12_winsFrom_98 (by decide) ?_
        obtain ⟨hP9, hD9⟩ : ct_B D A H [mo qm vm_thrown qm_width qm_many qm_cells qm_moved qm_tape vm_taped vm_at vm_token vm_place vm_value vm_word vm_bad vm_badPlace vm_fault vm_faultPlace qm_lines qm_has qm_round qm_meets qm_stumble qm_isMud qm_cell qm_tune qm_change qm_isKept qm_steps qm_places qm_danced vm_runMost vm_runBegins qm_heardBy vm_fitMany vm_fitFirst vm_fitBeats vm_listenLeaves qm_there vm_metAt vm_metIn qm_wins vm_nightHoles vm_nightFirst vm_nightMud vm_nightSlips vm_drawnNow, (qm_meets, .inl (cI, 30, .inl (fm_meets))), (qm_wins, .inl (cI, 24576, .inl (fm_wins)))] := ⟨hP.sub [0, 1, 2] rfl, hD.sub [0, 1, 2] (by decide) rfl⟩
        exact W.zret (v := 0) (ty := .boolean) hx hb hr rfl (fun t ht hW => ⟨⟨0, fm_wins, rfl, (Or.inr (⟨rfl, trivial⟩)), by rw [ht]; exact hP9, hD9⟩, hS.F ht⟩) hS.2.2 dX12_winsFrom_99
      · have hq7 : z6.toInt = 1 := tq_eq rfl (by decide) hc
        have hb9 := tq_lo z6
        refine lv_iconst (v := 1) hx hb dX12_winsFrom_94 (by decide) ?_
        refine lv_goto (tgt := 99) hx hb dX12_winsFrom_95 (by decide) ?_
        obtain ⟨hP9, hD9⟩ : ct_B D A H [mo qm vm_thrown qm_width qm_many qm_cells qm_moved qm_tape vm_taped vm_at vm_token vm_place vm_value vm_word vm_bad vm_badPlace vm_fault vm_faultPlace qm_lines qm_has qm_round qm_meets qm_stumble qm_isMud qm_cell qm_tune qm_change qm_isKept qm_steps qm_places qm_danced vm_runMost vm_runBegins qm_heardBy vm_fitMany vm_fitFirst vm_fitBeats vm_listenLeaves qm_there vm_metAt vm_metIn qm_wins vm_nightHoles vm_nightFirst vm_nightMud vm_nightSlips vm_drawnNow, (qm_meets, .inl (cI, 30, .inl (fm_meets))), (qm_wins, .inl (cI, 24576, .inl (fm_wins)))] := ⟨hP.sub [0, 1, 2] rfl, hD.sub [0, 1, 2] (by decide) rfl⟩
        exact W.zret (v := 1) (ty := .boolean) hx hb hr rfl (fun t ht hW => ⟨⟨1, fm_wins, rfl, (Or.inl ⟨rfl, trivial⟩), by rw [ht]; exact hP9, hD9⟩, hS.F ht⟩) hS.2.2 dX12_winsFrom_99
    · have hq4 : z3.toInt = 0 := tq_eq rfl (by decide) hc
      have hb10 := tq_lo z3
      refine lv_aload_n hx hb dX12_winsFrom_16 rfl (lv_at hl 1 rfl) ?_
      refine va_get (D := D) (ci := 12) (v := .ref qm_wins) (C := RX12) (T := TX12) (N := 45) hx hb hts hi12 hown hK hP 0 rfl rfl 39 (by decide) (hts (.fieldLink RX12 77 "OverHillModel" "wins" "[I") (by decide +kernel)) (fun _ h9 => h9) rfl dX12_winsFrom_17 ?_
      refine lv_iload_n hx hb dX12_winsFrom_20 rfl (lv_at hl 0 rfl) ?_
      refine lv_iconst (v := 2) hx hb dX12_winsFrom_21 (by decide) ?_
      refine va_iast (D := D) hx hb hK hP hD hS 2 0 rfl rfl (tq_in rfl (by omega)) dX12_winsFrom_22 (fun H locs hP hD hS => ?_)
      obtain ⟨g11, hP, hD⟩ : ∃ g11 : Nat → Int32, ct_B D A H [mo qm vm_thrown qm_width qm_many qm_cells qm_moved qm_tape vm_taped vm_at vm_token vm_place vm_value vm_word vm_bad vm_badPlace vm_fault vm_faultPlace qm_lines qm_has qm_round qm_meets qm_stumble qm_isMud qm_cell qm_tune qm_change qm_isKept qm_steps qm_places qm_danced vm_runMost vm_runBegins qm_heardBy vm_fitMany vm_fitFirst vm_fitBeats vm_listenLeaves qm_there vm_metAt vm_metIn qm_wins vm_nightHoles vm_nightFirst vm_nightMud vm_nightSlips vm_drawnNow, (qm_meets, .inl (cI, 30, .inl (fm_meets))), (qm_wins, .inl (cI, 24576, .inl (g11)))] := ⟨_, hP, hD⟩
      refine lv_iconst (v := 0) hx hb dX12_winsFrom_23 (by decide) ?_
      refine lv_istore (lv' := [(4, .int 0), (3, .int z2), (0, .ref qm), (1, .int a1), (2, .int a2)]) hx hb dX12_winsFrom_24 hl (by decide) rfl (fun ls hl => ?_)
      refine ct_loop (X := Int32) (fun x => (6 - x.toInt).toNat) (fun x H locs ls => ((0 ≤ x.toInt ∧ x.toInt ≤ 6)) ∧ ct_B D A H [mo qm vm_thrown qm_width qm_many qm_cells qm_moved qm_tape vm_taped vm_at vm_token vm_place vm_value vm_word vm_bad vm_badPlace vm_fault vm_faultPlace qm_lines qm_has qm_round qm_meets qm_stumble qm_isMud qm_cell qm_tune qm_change qm_isKept qm_steps qm_places qm_danced vm_runMost vm_runBegins qm_heardBy vm_fitMany vm_fitFirst vm_fitBeats vm_listenLeaves qm_there vm_metAt vm_metIn qm_wins vm_nightHoles vm_nightFirst vm_nightMud vm_nightSlips vm_drawnNow, (qm_meets, .inl (cI, 30, .inl (fm_meets))), (qm_wins, .inl (cI, 24576, .inl (g11)))] ∧ va_S A s.heap H locs ∧ lv_has ls 5 [(4, .int x), (3, .int z2), (0, .ref qm), (1, .int a1), (2, .int a2)]) 26 (0 : Int32) ⟨(show 0 ≤ (0 : Int32).toInt ∧ (0 : Int32).toInt ≤ 6 by decide), ⟨hP, hD⟩, hS, lv_sub hl [0, 1, 2, 3, 4] rfl⟩ (fun x ih97 H locs ls hI => ?_)
      obtain ⟨x96, rfl⟩ : ∃ z, z = x := ⟨_, rfl⟩
      obtain ⟨h_x96, ⟨hP, hD⟩, hS, hl⟩ := hI
      change (0 ≤ x96.toInt ∧ x96.toInt ≤ 6) at h_x96
      obtain ⟨hP, hD⟩ : ct_B D A H [mo qm vm_thrown qm_width qm_many qm_cells qm_moved qm_tape vm_taped vm_at vm_token vm_place vm_value vm_word vm_bad vm_badPlace vm_fault vm_faultPlace qm_lines qm_has qm_round qm_meets qm_stumble qm_isMud qm_cell qm_tune qm_change qm_isKept qm_steps qm_places qm_danced vm_runMost vm_runBegins qm_heardBy vm_fitMany vm_fitFirst vm_fitBeats vm_listenLeaves qm_there vm_metAt vm_metIn qm_wins vm_nightHoles vm_nightFirst vm_nightMud vm_nightSlips vm_drawnNow, (qm_meets, .inl (cI, 30, .inl (fm_meets))), (qm_wins, .inl (cI, 24576, .inl (g11)))] := ⟨hP, hD⟩
      have hl : lv_has ls 5 [(4, .int x96), (3, .int z2), (0, .ref qm), (1, .int a1), (2, .int a2)] := hl
      refine lv_iload hx hb dX12_winsFrom_26 (lv_at hl 0 rfl) ?_
      refine lv_bipush (v := 6) hx hb dX12_winsFrom_28 (by decide) ?_
      refine lv_icmp_ge (tgt := 84) hx hb dX12_winsFrom_30 (by decide) (fun hc => ?_) (fun hc => ?_)
      · have hq98 : 6 ≤ x96.toInt := tq_le (by decide) rfl hc
        refine lv_aload_n hx hb dX12_winsFrom_84 rfl (lv_at hl 2 rfl) ?_
        refine va_get (D := D) (ci := 12) (v := .ref qm_wins) (C := RX12) (T := TX12) (N := 45) hx hb hts hi12 hown hK hP 0 rfl rfl 39 (by decide) (hts (.fieldLink RX12 77 "OverHillModel" "wins" "[I") (by decide +kernel)) (fun _ h9 => h9) rfl dX12_winsFrom_85 ?_
        refine lv_iload_n hx hb dX12_winsFrom_88 rfl (lv_at hl 1 rfl) ?_
        refine va_iald (D := D) hx hb hK hP 2 0 rfl rfl (tq_in rfl (by omega)) dX12_winsFrom_89 ?_
        refine lv_topi (fun z99 ez99 => ?_)
        refine lv_iconst (v := 1) hx hb dX12_winsFrom_90 (by decide) ?_
        refine lv_icmp_ne (tgt := 98) hx hb dX12_winsFrom_91 (by decide) (fun hc => ?_) (fun hc => ?_)
        · have hq100 : z99.toInt ≠ 1 := tq_ne rfl (by decide) hc
          have hb101 := tq_lo z99
          refine lv_iconst (v := 0) hx hb dX12_winsFrom_98 (by decide) ?_
          obtain ⟨hP9, hD9⟩ : ct_B D A H [mo qm vm_thrown qm_width qm_many qm_cells qm_moved qm_tape vm_taped vm_at vm_token vm_place vm_value vm_word vm_bad vm_badPlace vm_fault vm_faultPlace qm_lines qm_has qm_round qm_meets qm_stumble qm_isMud qm_cell qm_tune qm_change qm_isKept qm_steps qm_places qm_danced vm_runMost vm_runBegins qm_heardBy vm_fitMany vm_fitFirst vm_fitBeats vm_listenLeaves qm_there vm_metAt vm_metIn qm_wins vm_nightHoles vm_nightFirst vm_nightMud vm_nightSlips vm_drawnNow, (qm_meets, .inl (cI, 30, .inl (fm_meets))), (qm_wins, .inl (cI, 24576, .inl (g11)))] := ⟨hP.sub [0, 1, 2] rfl, hD.sub [0, 1, 2] (by decide) rfl⟩
          exact W.zret (v := 0) (ty := .boolean) hx hb hr rfl (fun t ht hW => ⟨⟨0, g11, rfl, (Or.inr (⟨rfl, trivial⟩)), by rw [ht]; exact hP9, hD9⟩, hS.F ht⟩) hS.2.2 dX12_winsFrom_99
        · have hq100 : z99.toInt = 1 := tq_eq rfl (by decide) hc
          have hb102 := tq_lo z99
          refine lv_iconst (v := 1) hx hb dX12_winsFrom_94 (by decide) ?_
          refine lv_goto (tgt := 99) hx hb dX12_winsFrom_95 (by decide) ?_
          obtain ⟨hP9, hD9⟩ : ct_B D A H [mo qm vm_thrown qm_width qm_many qm_cells qm_moved qm_tape vm_taped vm_at vm_token vm_place vm_value vm_word vm_bad vm_badPlace vm_fault vm_faultPlace qm_lines qm_has qm_round qm_meets qm_stumble qm_isMud qm_cell qm_tune qm_change qm_isKept qm_steps qm_places qm_danced vm_runMost vm_runBegins qm_heardBy vm_fitMany vm_fitFirst vm_fitBeats vm_listenLeaves qm_there vm_metAt vm_metIn qm_wins vm_nightHoles vm_nightFirst vm_nightMud vm_nightSlips vm_drawnNow, (qm_meets, .inl (cI, 30, .inl (fm_meets))), (qm_wins, .inl (cI, 24576, .inl (g11)))] := ⟨hP.sub [0, 1, 2] rfl, hD.sub [0, 1, 2] (by decide) rfl⟩
          exact W.zret (v := 1) (ty := .boolean) hx hb hr rfl (fun t ht hW => ⟨⟨1, g11, rfl, (Or.inl ⟨rfl, trivial⟩), by rw [ht]; exact hP9, hD9⟩, hS.F ht⟩) hS.2.2 dX12_winsFrom_99
      · have hq98 : x96.toInt < 6 := tq_nle (by decide) rfl hc
        refine lv_aload_n hx hb dX12_winsFrom_33 rfl (lv_at hl 2 rfl) ?_
        refine va_get (D := D) (ci := 12) (v := .ref qm_wins) (C := RX12) (T := TX12) (N := 45) hx hb hts hi12 hown hK hP 0 rfl rfl 39 (by decide) (hts (.fieldLink RX12 77 "OverHillModel" "wins" "[I") (by decide +kernel)) (fun _ h9 => h9) rfl dX12_winsFrom_34 ?_
        refine lv_iload_n hx hb dX12_winsFrom_37 rfl (lv_at hl 1 rfl) ?_
        refine va_iald (D := D) hx hb hK hP 2 0 rfl rfl (tq_in rfl (by omega)) dX12_winsFrom_38 ?_
        refine lv_topi (fun z103 ez103 => ?_)
        refine lv_iconst (v := 2) hx hb dX12_winsFrom_39 (by decide) ?_
        refine lv_icmp_ne (tgt := 84) hx hb dX12_winsFrom_40 (by decide) (fun hc => ?_) (fun hc => ?_)
        · have hq104 : z103.toInt ≠ 2 := tq_ne rfl (by decide) hc
          have hb105 := tq_lo z103
          refine lv_aload_n hx hb dX12_winsFrom_84 rfl (lv_at hl 2 rfl) ?_
          refine va_get (D := D) (ci := 12) (v := .ref qm_wins) (C := RX12) (T := TX12) (N := 45) hx hb hts hi12 hown hK hP 0 rfl rfl 39 (by decide) (hts (.fieldLink RX12 77 "OverHillModel" "wins" "[I") (by decide +kernel)) (fun _ h9 => h9) rfl dX12_winsFrom_85 ?_
          refine lv_iload_n hx hb dX12_winsFrom_88 rfl (lv_at hl 1 rfl) ?_
          refine va_iald (D := D) hx hb hK hP 2 0 rfl rfl (tq_in rfl (by omega)) dX12_winsFrom_89 ?_
          refine lv_topi (fun z106 ez106 => ?_)
          refine lv_iconst (v := 1) hx hb dX12_winsFrom_90 (by decide) ?_
          refine lv_icmp_ne (tgt := 98) hx hb dX12_winsFrom_91 (by decide) (fun hc => ?_) (fun hc => ?_)
          · have hq107 : z106.toInt ≠ 1 := tq_ne rfl (by decide) hc
            have hb108 := tq_lo z106
            refine lv_iconst (v := 0) hx hb dX12_winsFrom_98 (by decide) ?_
            obtain ⟨hP9, hD9⟩ : ct_B D A H [mo qm vm_thrown qm_width qm_many qm_cells qm_moved qm_tape vm_taped vm_at vm_token vm_place vm_value vm_word vm_bad vm_badPlace vm_fault vm_faultPlace qm_lines qm_has qm_round qm_meets qm_stumble qm_isMud qm_cell qm_tune qm_change qm_isKept qm_steps qm_places qm_danced vm_runMost vm_runBegins qm_heardBy vm_fitMany vm_fitFirst vm_fitBeats vm_listenLeaves qm_there vm_metAt vm_metIn qm_wins vm_nightHoles vm_nightFirst vm_nightMud vm_nightSlips vm_drawnNow, (qm_meets, .inl (cI, 30, .inl (fm_meets))), (qm_wins, .inl (cI, 24576, .inl (g11)))] := ⟨hP.sub [0, 1, 2] rfl, hD.sub [0, 1, 2] (by decide) rfl⟩
            exact W.zret (v := 0) (ty := .boolean) hx hb hr rfl (fun t ht hW => ⟨⟨0, g11, rfl, (Or.inr (⟨rfl, trivial⟩)), by rw [ht]; exact hP9, hD9⟩, hS.F ht⟩) hS.2.2 dX12_winsFrom_99
          · have hq107 : z106.toInt = 1 := tq_eq rfl (by decide) hc
            have hb109 := tq_lo z106
            refine lv_iconst (v := 1) hx hb dX12_winsFrom_94 (by decide) ?_
            refine lv_goto (tgt := 99) hx hb dX12_winsFrom_95 (by decide) ?_
            obtain ⟨hP9, hD9⟩ : ct_B D A H [mo qm vm_thrown qm_width qm_many qm_cells qm_moved qm_tape vm_taped vm_at vm_token vm_place vm_value vm_word vm_bad vm_badPlace vm_fault vm_faultPlace qm_lines qm_has qm_round qm_meets qm_stumble qm_isMud qm_cell qm_tune qm_change qm_isKept qm_steps qm_places qm_danced vm_runMost vm_runBegins qm_heardBy vm_fitMany vm_fitFirst vm_fitBeats vm_listenLeaves qm_there vm_metAt vm_metIn qm_wins vm_nightHoles vm_nightFirst vm_nightMud vm_nightSlips vm_drawnNow, (qm_meets, .inl (cI, 30, .inl (fm_meets))), (qm_wins, .inl (cI, 24576, .inl (g11)))] := ⟨hP.sub [0, 1, 2] rfl, hD.sub [0, 1, 2] (by decide) rfl⟩
            exact W.zret (v := 1) (ty := .boolean) hx hb hr rfl (fun t ht hW => ⟨⟨1, g11, rfl, (Or.inl ⟨rfl, trivial⟩), by rw [ht]; exact hP9, hD9⟩, hS.F ht⟩) hS.2.2 dX12_winsFrom_99
        · have hq104 : z103.toInt = 2 := tq_eq rfl (by decide) hc
          have hb110 := tq_lo z103
          rcases (show x96.toInt = 0 ∨ x96.toInt = 1 ∨ x96.toInt = 2 ∨ x96.toInt = 3 ∨ x96.toInt = 4 ∨ x96.toInt = 5 by omega) with hj | hj | hj | hj | hj | hj
          · have hj2 : x96 = 0 := tq_of hj (by decide)
            have hl : lv_has ls 5 [(4, .int 0), (3, .int z2), (0, .ref qm), (1, .int a1), (2, .int a2)] := by have h9 := hl; rw [hj2] at h9; exact h9
            refine lv_aload_n hx hb dX12_winsFrom_43 rfl (lv_at hl 2 rfl) ?_
            refine lv_iload_n hx hb dX12_winsFrom_44 rfl (lv_at hl 3 rfl) ?_
            refine lv_iload_n hx hb dX12_winsFrom_45 rfl (lv_at hl 4 rfl) ?_
            refine lv_iload hx hb dX12_winsFrom_46 (lv_at hl 0 rfl) ?_
            refine ct_calli (D := D) (wr := [(qm_wins, .inl (cI, 24576, .inl (g11)))]) (va_runV (As := [.int a1, .int a2, .int 0]) (rest := []) ⟨hx, hb, hml, hown, hts⟩ (c_X12_isPlay l D G cI cJ cB cZ cO qm vm_thrown qm_width qm_many qm_cells qm_moved qm_tape vm_taped vm_at vm_token vm_place vm_value vm_word vm_bad vm_badPlace vm_fault vm_faultPlace qm_lines qm_has qm_round qm_meets fm_meets qm_stumble qm_isMud qm_cell qm_tune qm_change qm_isKept qm_steps qm_places qm_danced vm_runMost vm_runBegins qm_heardBy vm_fitMany vm_fitFirst vm_fitBeats vm_listenLeaves qm_there vm_metAt vm_metIn qm_wins vm_nightHoles vm_nightFirst vm_nightMud vm_nightSlips vm_drawnNow a1 a2 0 h_vm_taped h_vm_at h_vm_value h_a2 (by decide) H.size) (cwV 3 hts gX12_winsFrom_X12_isPlay rfl rfl rfl (by decide +kernel) ⟨by show 1 + 1 ≤ 0 + 2; omega, by show 8 + (4 + 11) + 21 ≤ 44 + 24 * (0); omega⟩) (ct_preV (T := ct_T cI cJ cB cZ cO) (ci := 12) (q0 := 0) hE hH hP hD hS hA [0, 1] (by decide) rfl rfl rfl) rfl rfl hl.1 rfl (lv_room (Nat.le_of_ble_eq_true rfl)) dX12_winsFrom_48 ⟨Nat.le_of_ble_eq_true rfl, Nat.le_of_ble_eq_true rfl⟩) hP hD hS hA [0, 1] [2] rfl rfl (by decide) (by decide) (fun r111 u H locs hw hP hD hS => ?_)
            obtain ⟨hP, hD⟩ : ct_B D A H [(qm_wins, .inl (cI, 24576, .inl (g11))), mo qm vm_thrown qm_width qm_many qm_cells qm_moved qm_tape vm_taped vm_at vm_token vm_place vm_value vm_word vm_bad vm_badPlace vm_fault vm_faultPlace qm_lines qm_has qm_round qm_meets qm_stumble qm_isMud qm_cell qm_tune qm_change qm_isKept qm_steps qm_places qm_danced vm_runMost vm_runBegins qm_heardBy vm_fitMany vm_fitFirst vm_fitBeats vm_listenLeaves qm_there vm_metAt vm_metIn qm_wins vm_nightHoles vm_nightFirst vm_nightMud vm_nightSlips vm_drawnNow, (qm_meets, .inl (cI, 30, .inl (fm_meets)))] := ⟨hP, hD⟩
            have hz := hw
            clear hw
            rcases hz with ⟨hz, hz2⟩ | ⟨hz, hz2⟩
            · subst hz
              have hz_112 : (pl a1 (0 : Int32)) := hz2
              refine lv_if_eq (tgt := 78) hx hb dX12_winsFrom_51 (by decide) (fun hc => absurd hc (by decide)) (fun _ => ?_)
              exact (wn_zero h_w (t := 0) (by decide) (by decide) hz_112).elim
            · subst hz
              refine lv_if_eq (tgt := 78) hx hb dX12_winsFrom_51 (by decide) (fun _ => ?_) (fun hc => absurd hc (by decide))
              refine lv_iinc (v := 1) (lv' := [(4, .int 1), (3, .int z2), (0, .ref qm), (1, .int a1), (2, .int a2)]) hx hb dX12_winsFrom_78 hl (k := 0) rfl (by decide) (by decide) rfl (fun ls hl => ?_)
              refine lv_goto (tgt := 26) hx hb dX12_winsFrom_81 (by decide) ?_
              have hk113 : (1 : Int32).toInt = 1 := by decide
              obtain ⟨hP9, hD9⟩ : ct_B D A H [mo qm vm_thrown qm_width qm_many qm_cells qm_moved qm_tape vm_taped vm_at vm_token vm_place vm_value vm_word vm_bad vm_badPlace vm_fault vm_faultPlace qm_lines qm_has qm_round qm_meets qm_stumble qm_isMud qm_cell qm_tune qm_change qm_isKept qm_steps qm_places qm_danced vm_runMost vm_runBegins qm_heardBy vm_fitMany vm_fitFirst vm_fitBeats vm_listenLeaves qm_there vm_metAt vm_metIn qm_wins vm_nightHoles vm_nightFirst vm_nightMud vm_nightSlips vm_drawnNow, (qm_meets, .inl (cI, 30, .inl (fm_meets))), (qm_wins, .inl (cI, 24576, .inl (g11)))] := ⟨hP.sub [1, 2, 0] rfl, hD.sub [1, 2, 0] (by decide) rfl⟩
              exact ih97 (1 : Int32) _ _ _ (show (6 - (1 : Int32).toInt).toNat < (6 - x96.toInt).toNat by omega) ⟨(show 0 ≤ (1 : Int32).toInt ∧ (1 : Int32).toInt ≤ 6 by decide), ⟨hP9, hD9⟩, hS, lv_sub hl [0, 1, 2, 3, 4] rfl⟩
          · have hj2 : x96 = 1 := tq_of hj (by decide)
            have hl : lv_has ls 5 [(4, .int 1), (3, .int z2), (0, .ref qm), (1, .int a1), (2, .int a2)] := by have h9 := hl; rw [hj2] at h9; exact h9
            refine lv_aload_n hx hb dX12_winsFrom_43 rfl (lv_at hl 2 rfl) ?_
            refine lv_iload_n hx hb dX12_winsFrom_44 rfl (lv_at hl 3 rfl) ?_
            refine lv_iload_n hx hb dX12_winsFrom_45 rfl (lv_at hl 4 rfl) ?_
            refine lv_iload hx hb dX12_winsFrom_46 (lv_at hl 0 rfl) ?_
            refine ct_calli (D := D) (wr := [(qm_wins, .inl (cI, 24576, .inl (g11)))]) (va_runV (As := [.int a1, .int a2, .int 1]) (rest := []) ⟨hx, hb, hml, hown, hts⟩ (c_X12_isPlay l D G cI cJ cB cZ cO qm vm_thrown qm_width qm_many qm_cells qm_moved qm_tape vm_taped vm_at vm_token vm_place vm_value vm_word vm_bad vm_badPlace vm_fault vm_faultPlace qm_lines qm_has qm_round qm_meets fm_meets qm_stumble qm_isMud qm_cell qm_tune qm_change qm_isKept qm_steps qm_places qm_danced vm_runMost vm_runBegins qm_heardBy vm_fitMany vm_fitFirst vm_fitBeats vm_listenLeaves qm_there vm_metAt vm_metIn qm_wins vm_nightHoles vm_nightFirst vm_nightMud vm_nightSlips vm_drawnNow a1 a2 1 h_vm_taped h_vm_at h_vm_value h_a2 (by decide) H.size) (cwV 3 hts gX12_winsFrom_X12_isPlay rfl rfl rfl (by decide +kernel) ⟨by show 1 + 1 ≤ 0 + 2; omega, by show 8 + (4 + 11) + 21 ≤ 44 + 24 * (0); omega⟩) (ct_preV (T := ct_T cI cJ cB cZ cO) (ci := 12) (q0 := 0) hE hH hP hD hS hA [0, 1] (by decide) rfl rfl rfl) rfl rfl hl.1 rfl (lv_room (Nat.le_of_ble_eq_true rfl)) dX12_winsFrom_48 ⟨Nat.le_of_ble_eq_true rfl, Nat.le_of_ble_eq_true rfl⟩) hP hD hS hA [0, 1] [2] rfl rfl (by decide) (by decide) (fun r114 u H locs hw hP hD hS => ?_)
            obtain ⟨hP, hD⟩ : ct_B D A H [(qm_wins, .inl (cI, 24576, .inl (g11))), mo qm vm_thrown qm_width qm_many qm_cells qm_moved qm_tape vm_taped vm_at vm_token vm_place vm_value vm_word vm_bad vm_badPlace vm_fault vm_faultPlace qm_lines qm_has qm_round qm_meets qm_stumble qm_isMud qm_cell qm_tune qm_change qm_isKept qm_steps qm_places qm_danced vm_runMost vm_runBegins qm_heardBy vm_fitMany vm_fitFirst vm_fitBeats vm_listenLeaves qm_there vm_metAt vm_metIn qm_wins vm_nightHoles vm_nightFirst vm_nightMud vm_nightSlips vm_drawnNow, (qm_meets, .inl (cI, 30, .inl (fm_meets)))] := ⟨hP, hD⟩
            have hz := hw
            clear hw
            rcases hz with ⟨hz, hz2⟩ | ⟨hz, hz2⟩
            · subst hz
              have hz_115 : (pl a1 (1 : Int32)) := hz2
              refine lv_if_eq (tgt := 78) hx hb dX12_winsFrom_51 (by decide) (fun hc => absurd hc (by decide)) (fun _ => ?_)
              exact (wn_zero h_w (t := 1) (by decide) (by decide) hz_115).elim
            · subst hz
              refine lv_if_eq (tgt := 78) hx hb dX12_winsFrom_51 (by decide) (fun _ => ?_) (fun hc => absurd hc (by decide))
              refine lv_iinc (v := 2) (lv' := [(4, .int 2), (3, .int z2), (0, .ref qm), (1, .int a1), (2, .int a2)]) hx hb dX12_winsFrom_78 hl (k := 0) rfl (by decide) (by decide) rfl (fun ls hl => ?_)
              refine lv_goto (tgt := 26) hx hb dX12_winsFrom_81 (by decide) ?_
              have hk116 : (2 : Int32).toInt = 2 := by decide
              obtain ⟨hP9, hD9⟩ : ct_B D A H [mo qm vm_thrown qm_width qm_many qm_cells qm_moved qm_tape vm_taped vm_at vm_token vm_place vm_value vm_word vm_bad vm_badPlace vm_fault vm_faultPlace qm_lines qm_has qm_round qm_meets qm_stumble qm_isMud qm_cell qm_tune qm_change qm_isKept qm_steps qm_places qm_danced vm_runMost vm_runBegins qm_heardBy vm_fitMany vm_fitFirst vm_fitBeats vm_listenLeaves qm_there vm_metAt vm_metIn qm_wins vm_nightHoles vm_nightFirst vm_nightMud vm_nightSlips vm_drawnNow, (qm_meets, .inl (cI, 30, .inl (fm_meets))), (qm_wins, .inl (cI, 24576, .inl (g11)))] := ⟨hP.sub [1, 2, 0] rfl, hD.sub [1, 2, 0] (by decide) rfl⟩
              exact ih97 (2 : Int32) _ _ _ (show (6 - (2 : Int32).toInt).toNat < (6 - x96.toInt).toNat by omega) ⟨(show 0 ≤ (2 : Int32).toInt ∧ (2 : Int32).toInt ≤ 6 by decide), ⟨hP9, hD9⟩, hS, lv_sub hl [0, 1, 2, 3, 4] rfl⟩
          · have hj2 : x96 = 2 := tq_of hj (by decide)
            have hl : lv_has ls 5 [(4, .int 2), (3, .int z2), (0, .ref qm), (1, .int a1), (2, .int a2)] := by have h9 := hl; rw [hj2] at h9; exact h9
            refine lv_aload_n hx hb dX12_winsFrom_43 rfl (lv_at hl 2 rfl) ?_
            refine lv_iload_n hx hb dX12_winsFrom_44 rfl (lv_at hl 3 rfl) ?_
            refine lv_iload_n hx hb dX12_winsFrom_45 rfl (lv_at hl 4 rfl) ?_
            refine lv_iload hx hb dX12_winsFrom_46 (lv_at hl 0 rfl) ?_
            refine ct_calli (D := D) (wr := [(qm_wins, .inl (cI, 24576, .inl (g11)))]) (va_runV (As := [.int a1, .int a2, .int 2]) (rest := []) ⟨hx, hb, hml, hown, hts⟩ (c_X12_isPlay l D G cI cJ cB cZ cO qm vm_thrown qm_width qm_many qm_cells qm_moved qm_tape vm_taped vm_at vm_token vm_place vm_value vm_word vm_bad vm_badPlace vm_fault vm_faultPlace qm_lines qm_has qm_round qm_meets fm_meets qm_stumble qm_isMud qm_cell qm_tune qm_change qm_isKept qm_steps qm_places qm_danced vm_runMost vm_runBegins qm_heardBy vm_fitMany vm_fitFirst vm_fitBeats vm_listenLeaves qm_there vm_metAt vm_metIn qm_wins vm_nightHoles vm_nightFirst vm_nightMud vm_nightSlips vm_drawnNow a1 a2 2 h_vm_taped h_vm_at h_vm_value h_a2 (by decide) H.size) (cwV 3 hts gX12_winsFrom_X12_isPlay rfl rfl rfl (by decide +kernel) ⟨by show 1 + 1 ≤ 0 + 2; omega, by show 8 + (4 + 11) + 21 ≤ 44 + 24 * (0); omega⟩) (ct_preV (T := ct_T cI cJ cB cZ cO) (ci := 12) (q0 := 0) hE hH hP hD hS hA [0, 1] (by decide) rfl rfl rfl) rfl rfl hl.1 rfl (lv_room (Nat.le_of_ble_eq_true rfl)) dX12_winsFrom_48 ⟨Nat.le_of_ble_eq_true rfl, Nat.le_of_ble_eq_true rfl⟩) hP hD hS hA [0, 1] [2] rfl rfl (by decide) (by decide) (fun r117 u H locs hw hP hD hS => ?_)
            obtain ⟨hP, hD⟩ : ct_B D A H [(qm_wins, .inl (cI, 24576, .inl (g11))), mo qm vm_thrown qm_width qm_many qm_cells qm_moved qm_tape vm_taped vm_at vm_token vm_place vm_value vm_word vm_bad vm_badPlace vm_fault vm_faultPlace qm_lines qm_has qm_round qm_meets qm_stumble qm_isMud qm_cell qm_tune qm_change qm_isKept qm_steps qm_places qm_danced vm_runMost vm_runBegins qm_heardBy vm_fitMany vm_fitFirst vm_fitBeats vm_listenLeaves qm_there vm_metAt vm_metIn qm_wins vm_nightHoles vm_nightFirst vm_nightMud vm_nightSlips vm_drawnNow, (qm_meets, .inl (cI, 30, .inl (fm_meets)))] := ⟨hP, hD⟩
            have hz := hw
            clear hw
            rcases hz with ⟨hz, hz2⟩ | ⟨hz, hz2⟩
            · subst hz
              have hz_118 : (pl a1 (2 : Int32)) := hz2
              refine lv_if_eq (tgt := 78) hx hb dX12_winsFrom_51 (by decide) (fun hc => absurd hc (by decide)) (fun _ => ?_)
              exact (wn_zero h_w (t := 2) (by decide) (by decide) hz_118).elim
            · subst hz
              refine lv_if_eq (tgt := 78) hx hb dX12_winsFrom_51 (by decide) (fun _ => ?_) (fun hc => absurd hc (by decide))
              refine lv_iinc (v := 3) (lv' := [(4, .int 3), (3, .int z2), (0, .ref qm), (1, .int a1), (2, .int a2)]) hx hb dX12_winsFrom_78 hl (k := 0) rfl (by decide) (by decide) rfl (fun ls hl => ?_)
              refine lv_goto (tgt := 26) hx hb dX12_winsFrom_81 (by decide) ?_
              have hk119 : (3 : Int32).toInt = 3 := by decide
              obtain ⟨hP9, hD9⟩ : ct_B D A H [mo qm vm_thrown qm_width qm_many qm_cells qm_moved qm_tape vm_taped vm_at vm_token vm_place vm_value vm_word vm_bad vm_badPlace vm_fault vm_faultPlace qm_lines qm_has qm_round qm_meets qm_stumble qm_isMud qm_cell qm_tune qm_change qm_isKept qm_steps qm_places qm_danced vm_runMost vm_runBegins qm_heardBy vm_fitMany vm_fitFirst vm_fitBeats vm_listenLeaves qm_there vm_metAt vm_metIn qm_wins vm_nightHoles vm_nightFirst vm_nightMud vm_nightSlips vm_drawnNow, (qm_meets, .inl (cI, 30, .inl (fm_meets))), (qm_wins, .inl (cI, 24576, .inl (g11)))] := ⟨hP.sub [1, 2, 0] rfl, hD.sub [1, 2, 0] (by decide) rfl⟩
              exact ih97 (3 : Int32) _ _ _ (show (6 - (3 : Int32).toInt).toNat < (6 - x96.toInt).toNat by omega) ⟨(show 0 ≤ (3 : Int32).toInt ∧ (3 : Int32).toInt ≤ 6 by decide), ⟨hP9, hD9⟩, hS, lv_sub hl [0, 1, 2, 3, 4] rfl⟩
          · have hj2 : x96 = 3 := tq_of hj (by decide)
            have hl : lv_has ls 5 [(4, .int 3), (3, .int z2), (0, .ref qm), (1, .int a1), (2, .int a2)] := by have h9 := hl; rw [hj2] at h9; exact h9
            refine lv_aload_n hx hb dX12_winsFrom_43 rfl (lv_at hl 2 rfl) ?_
            refine lv_iload_n hx hb dX12_winsFrom_44 rfl (lv_at hl 3 rfl) ?_
            refine lv_iload_n hx hb dX12_winsFrom_45 rfl (lv_at hl 4 rfl) ?_
            refine lv_iload hx hb dX12_winsFrom_46 (lv_at hl 0 rfl) ?_
            refine ct_calli (D := D) (wr := [(qm_wins, .inl (cI, 24576, .inl (g11)))]) (va_runV (As := [.int a1, .int a2, .int 3]) (rest := []) ⟨hx, hb, hml, hown, hts⟩ (c_X12_isPlay l D G cI cJ cB cZ cO qm vm_thrown qm_width qm_many qm_cells qm_moved qm_tape vm_taped vm_at vm_token vm_place vm_value vm_word vm_bad vm_badPlace vm_fault vm_faultPlace qm_lines qm_has qm_round qm_meets fm_meets qm_stumble qm_isMud qm_cell qm_tune qm_change qm_isKept qm_steps qm_places qm_danced vm_runMost vm_runBegins qm_heardBy vm_fitMany vm_fitFirst vm_fitBeats vm_listenLeaves qm_there vm_metAt vm_metIn qm_wins vm_nightHoles vm_nightFirst vm_nightMud vm_nightSlips vm_drawnNow a1 a2 3 h_vm_taped h_vm_at h_vm_value h_a2 (by decide) H.size) (cwV 3 hts gX12_winsFrom_X12_isPlay rfl rfl rfl (by decide +kernel) ⟨by show 1 + 1 ≤ 0 + 2; omega, by show 8 + (4 + 11) + 21 ≤ 44 + 24 * (0); omega⟩) (ct_preV (T := ct_T cI cJ cB cZ cO) (ci := 12) (q0 := 0) hE hH hP hD hS hA [0, 1] (by decide) rfl rfl rfl) rfl rfl hl.1 rfl (lv_room (Nat.le_of_ble_eq_true rfl)) dX12_winsFrom_48 ⟨Nat.le_of_ble_eq_true rfl, Nat.le_of_ble_eq_true rfl⟩) hP hD hS hA [0, 1] [2] rfl rfl (by decide) (by decide) (fun r120 u H locs hw hP hD hS => ?_)
            obtain ⟨hP, hD⟩ : ct_B D A H [(qm_wins, .inl (cI, 24576, .inl (g11))), mo qm vm_thrown qm_width qm_many qm_cells qm_moved qm_tape vm_taped vm_at vm_token vm_place vm_value vm_word vm_bad vm_badPlace vm_fault vm_faultPlace qm_lines qm_has qm_round qm_meets qm_stumble qm_isMud qm_cell qm_tune qm_change qm_isKept qm_steps qm_places qm_danced vm_runMost vm_runBegins qm_heardBy vm_fitMany vm_fitFirst vm_fitBeats vm_listenLeaves qm_there vm_metAt vm_metIn qm_wins vm_nightHoles vm_nightFirst vm_nightMud vm_nightSlips vm_drawnNow, (qm_meets, .inl (cI, 30, .inl (fm_meets)))] := ⟨hP, hD⟩
            have hz := hw
            clear hw
            rcases hz with ⟨hz, hz2⟩ | ⟨hz, hz2⟩
            · subst hz
              have hz_121 : (pl a1 (3 : Int32)) := hz2
              refine lv_if_eq (tgt := 78) hx hb dX12_winsFrom_51 (by decide) (fun hc => absurd hc (by decide)) (fun _ => ?_)
              exact (wn_zero h_w (t := 3) (by decide) (by decide) hz_121).elim
            · subst hz
              refine lv_if_eq (tgt := 78) hx hb dX12_winsFrom_51 (by decide) (fun _ => ?_) (fun hc => absurd hc (by decide))
              refine lv_iinc (v := 4) (lv' := [(4, .int 4), (3, .int z2), (0, .ref qm), (1, .int a1), (2, .int a2)]) hx hb dX12_winsFrom_78 hl (k := 0) rfl (by decide) (by decide) rfl (fun ls hl => ?_)
              refine lv_goto (tgt := 26) hx hb dX12_winsFrom_81 (by decide) ?_
              have hk122 : (4 : Int32).toInt = 4 := by decide
              obtain ⟨hP9, hD9⟩ : ct_B D A H [mo qm vm_thrown qm_width qm_many qm_cells qm_moved qm_tape vm_taped vm_at vm_token vm_place vm_value vm_word vm_bad vm_badPlace vm_fault vm_faultPlace qm_lines qm_has qm_round qm_meets qm_stumble qm_isMud qm_cell qm_tune qm_change qm_isKept qm_steps qm_places qm_danced vm_runMost vm_runBegins qm_heardBy vm_fitMany vm_fitFirst vm_fitBeats vm_listenLeaves qm_there vm_metAt vm_metIn qm_wins vm_nightHoles vm_nightFirst vm_nightMud vm_nightSlips vm_drawnNow, (qm_meets, .inl (cI, 30, .inl (fm_meets))), (qm_wins, .inl (cI, 24576, .inl (g11)))] := ⟨hP.sub [1, 2, 0] rfl, hD.sub [1, 2, 0] (by decide) rfl⟩
              exact ih97 (4 : Int32) _ _ _ (show (6 - (4 : Int32).toInt).toNat < (6 - x96.toInt).toNat by omega) ⟨(show 0 ≤ (4 : Int32).toInt ∧ (4 : Int32).toInt ≤ 6 by decide), ⟨hP9, hD9⟩, hS, lv_sub hl [0, 1, 2, 3, 4] rfl⟩
          · have hj2 : x96 = 4 := tq_of hj (by decide)
            have hl : lv_has ls 5 [(4, .int 4), (3, .int z2), (0, .ref qm), (1, .int a1), (2, .int a2)] := by have h9 := hl; rw [hj2] at h9; exact h9
            refine lv_aload_n hx hb dX12_winsFrom_43 rfl (lv_at hl 2 rfl) ?_
            refine lv_iload_n hx hb dX12_winsFrom_44 rfl (lv_at hl 3 rfl) ?_
            refine lv_iload_n hx hb dX12_winsFrom_45 rfl (lv_at hl 4 rfl) ?_
            refine lv_iload hx hb dX12_winsFrom_46 (lv_at hl 0 rfl) ?_
            refine ct_calli (D := D) (wr := [(qm_wins, .inl (cI, 24576, .inl (g11)))]) (va_runV (As := [.int a1, .int a2, .int 4]) (rest := []) ⟨hx, hb, hml, hown, hts⟩ (c_X12_isPlay l D G cI cJ cB cZ cO qm vm_thrown qm_width qm_many qm_cells qm_moved qm_tape vm_taped vm_at vm_token vm_place vm_value vm_word vm_bad vm_badPlace vm_fault vm_faultPlace qm_lines qm_has qm_round qm_meets fm_meets qm_stumble qm_isMud qm_cell qm_tune qm_change qm_isKept qm_steps qm_places qm_danced vm_runMost vm_runBegins qm_heardBy vm_fitMany vm_fitFirst vm_fitBeats vm_listenLeaves qm_there vm_metAt vm_metIn qm_wins vm_nightHoles vm_nightFirst vm_nightMud vm_nightSlips vm_drawnNow a1 a2 4 h_vm_taped h_vm_at h_vm_value h_a2 (by decide) H.size) (cwV 3 hts gX12_winsFrom_X12_isPlay rfl rfl rfl (by decide +kernel) ⟨by show 1 + 1 ≤ 0 + 2; omega, by show 8 + (4 + 11) + 21 ≤ 44 + 24 * (0); omega⟩) (ct_preV (T := ct_T cI cJ cB cZ cO) (ci := 12) (q0 := 0) hE hH hP hD hS hA [0, 1] (by decide) rfl rfl rfl) rfl rfl hl.1 rfl (lv_room (Nat.le_of_ble_eq_true rfl)) dX12_winsFrom_48 ⟨Nat.le_of_ble_eq_true rfl, Nat.le_of_ble_eq_true rfl⟩) hP hD hS hA [0, 1] [2] rfl rfl (by decide) (by decide) (fun r123 u H locs hw hP hD hS => ?_)
            obtain ⟨hP, hD⟩ : ct_B D A H [(qm_wins, .inl (cI, 24576, .inl (g11))), mo qm vm_thrown qm_width qm_many qm_cells qm_moved qm_tape vm_taped vm_at vm_token vm_place vm_value vm_word vm_bad vm_badPlace vm_fault vm_faultPlace qm_lines qm_has qm_round qm_meets qm_stumble qm_isMud qm_cell qm_tune qm_change qm_isKept qm_steps qm_places qm_danced vm_runMost vm_runBegins qm_heardBy vm_fitMany vm_fitFirst vm_fitBeats vm_listenLeaves qm_there vm_metAt vm_metIn qm_wins vm_nightHoles vm_nightFirst vm_nightMud vm_nightSlips vm_drawnNow, (qm_meets, .inl (cI, 30, .inl (fm_meets)))] := ⟨hP, hD⟩
            have hz := hw
            clear hw
            rcases hz with ⟨hz, hz2⟩ | ⟨hz, hz2⟩
            · subst hz
              have hz_124 : (pl a1 (4 : Int32)) := hz2
              refine lv_if_eq (tgt := 78) hx hb dX12_winsFrom_51 (by decide) (fun hc => absurd hc (by decide)) (fun _ => ?_)
              exact (wn_zero h_w (t := 4) (by decide) (by decide) hz_124).elim
            · subst hz
              refine lv_if_eq (tgt := 78) hx hb dX12_winsFrom_51 (by decide) (fun _ => ?_) (fun hc => absurd hc (by decide))
              refine lv_iinc (v := 5) (lv' := [(4, .int 5), (3, .int z2), (0, .ref qm), (1, .int a1), (2, .int a2)]) hx hb dX12_winsFrom_78 hl (k := 0) rfl (by decide) (by decide) rfl (fun ls hl => ?_)
              refine lv_goto (tgt := 26) hx hb dX12_winsFrom_81 (by decide) ?_
              have hk125 : (5 : Int32).toInt = 5 := by decide
              obtain ⟨hP9, hD9⟩ : ct_B D A H [mo qm vm_thrown qm_width qm_many qm_cells qm_moved qm_tape vm_taped vm_at vm_token vm_place vm_value vm_word vm_bad vm_badPlace vm_fault vm_faultPlace qm_lines qm_has qm_round qm_meets qm_stumble qm_isMud qm_cell qm_tune qm_change qm_isKept qm_steps qm_places qm_danced vm_runMost vm_runBegins qm_heardBy vm_fitMany vm_fitFirst vm_fitBeats vm_listenLeaves qm_there vm_metAt vm_metIn qm_wins vm_nightHoles vm_nightFirst vm_nightMud vm_nightSlips vm_drawnNow, (qm_meets, .inl (cI, 30, .inl (fm_meets))), (qm_wins, .inl (cI, 24576, .inl (g11)))] := ⟨hP.sub [1, 2, 0] rfl, hD.sub [1, 2, 0] (by decide) rfl⟩
              exact ih97 (5 : Int32) _ _ _ (show (6 - (5 : Int32).toInt).toNat < (6 - x96.toInt).toNat by omega) ⟨(show 0 ≤ (5 : Int32).toInt ∧ (5 : Int32).toInt ≤ 6 by decide), ⟨hP9, hD9⟩, hS, lv_sub hl [0, 1, 2, 3, 4] rfl⟩
          · have hj2 : x96 = 5 := tq_of hj (by decide)
            have hl : lv_has ls 5 [(4, .int 5), (3, .int z2), (0, .ref qm), (1, .int a1), (2, .int a2)] := by have h9 := hl; rw [hj2] at h9; exact h9
            refine lv_aload_n hx hb dX12_winsFrom_43 rfl (lv_at hl 2 rfl) ?_
            refine lv_iload_n hx hb dX12_winsFrom_44 rfl (lv_at hl 3 rfl) ?_
            refine lv_iload_n hx hb dX12_winsFrom_45 rfl (lv_at hl 4 rfl) ?_
            refine lv_iload hx hb dX12_winsFrom_46 (lv_at hl 0 rfl) ?_
            refine ct_calli (D := D) (wr := [(qm_wins, .inl (cI, 24576, .inl (g11)))]) (va_runV (As := [.int a1, .int a2, .int 5]) (rest := []) ⟨hx, hb, hml, hown, hts⟩ (c_X12_isPlay l D G cI cJ cB cZ cO qm vm_thrown qm_width qm_many qm_cells qm_moved qm_tape vm_taped vm_at vm_token vm_place vm_value vm_word vm_bad vm_badPlace vm_fault vm_faultPlace qm_lines qm_has qm_round qm_meets fm_meets qm_stumble qm_isMud qm_cell qm_tune qm_change qm_isKept qm_steps qm_places qm_danced vm_runMost vm_runBegins qm_heardBy vm_fitMany vm_fitFirst vm_fitBeats vm_listenLeaves qm_there vm_metAt vm_metIn qm_wins vm_nightHoles vm_nightFirst vm_nightMud vm_nightSlips vm_drawnNow a1 a2 5 h_vm_taped h_vm_at h_vm_value h_a2 (by decide) H.size) (cwV 3 hts gX12_winsFrom_X12_isPlay rfl rfl rfl (by decide +kernel) ⟨by show 1 + 1 ≤ 0 + 2; omega, by show 8 + (4 + 11) + 21 ≤ 44 + 24 * (0); omega⟩) (ct_preV (T := ct_T cI cJ cB cZ cO) (ci := 12) (q0 := 0) hE hH hP hD hS hA [0, 1] (by decide) rfl rfl rfl) rfl rfl hl.1 rfl (lv_room (Nat.le_of_ble_eq_true rfl)) dX12_winsFrom_48 ⟨Nat.le_of_ble_eq_true rfl, Nat.le_of_ble_eq_true rfl⟩) hP hD hS hA [0, 1] [2] rfl rfl (by decide) (by decide) (fun r126 u H locs hw hP hD hS => ?_)
            obtain ⟨hP, hD⟩ : ct_B D A H [(qm_wins, .inl (cI, 24576, .inl (g11))), mo qm vm_thrown qm_width qm_many qm_cells qm_moved qm_tape vm_taped vm_at vm_token vm_place vm_value vm_word vm_bad vm_badPlace vm_fault vm_faultPlace qm_lines qm_has qm_round qm_meets qm_stumble qm_isMud qm_cell qm_tune qm_change qm_isKept qm_steps qm_places qm_danced vm_runMost vm_runBegins qm_heardBy vm_fitMany vm_fitFirst vm_fitBeats vm_listenLeaves qm_there vm_metAt vm_metIn qm_wins vm_nightHoles vm_nightFirst vm_nightMud vm_nightSlips vm_drawnNow, (qm_meets, .inl (cI, 30, .inl (fm_meets)))] := ⟨hP, hD⟩
            have hz := hw
            clear hw
            rcases hz with ⟨hz, hz2⟩ | ⟨hz, hz2⟩
            · subst hz
              have hz_127 : (pl a1 (5 : Int32)) := hz2
              refine lv_if_eq (tgt := 78) hx hb dX12_winsFrom_51 (by decide) (fun hc => absurd hc (by decide)) (fun _ => ?_)
              exact (wn_zero h_w (t := 5) (by decide) (by decide) hz_127).elim
            · subst hz
              refine lv_if_eq (tgt := 78) hx hb dX12_winsFrom_51 (by decide) (fun _ => ?_) (fun hc => absurd hc (by decide))
              refine lv_iinc (v := 6) (lv' := [(4, .int 6), (3, .int z2), (0, .ref qm), (1, .int a1), (2, .int a2)]) hx hb dX12_winsFrom_78 hl (k := 0) rfl (by decide) (by decide) rfl (fun ls hl => ?_)
              refine lv_goto (tgt := 26) hx hb dX12_winsFrom_81 (by decide) ?_
              have hk128 : (6 : Int32).toInt = 6 := by decide
              obtain ⟨hP9, hD9⟩ : ct_B D A H [mo qm vm_thrown qm_width qm_many qm_cells qm_moved qm_tape vm_taped vm_at vm_token vm_place vm_value vm_word vm_bad vm_badPlace vm_fault vm_faultPlace qm_lines qm_has qm_round qm_meets qm_stumble qm_isMud qm_cell qm_tune qm_change qm_isKept qm_steps qm_places qm_danced vm_runMost vm_runBegins qm_heardBy vm_fitMany vm_fitFirst vm_fitBeats vm_listenLeaves qm_there vm_metAt vm_metIn qm_wins vm_nightHoles vm_nightFirst vm_nightMud vm_nightSlips vm_drawnNow, (qm_meets, .inl (cI, 30, .inl (fm_meets))), (qm_wins, .inl (cI, 24576, .inl (g11)))] := ⟨hP.sub [1, 2, 0] rfl, hD.sub [1, 2, 0] (by decide) rfl⟩
              exact ih97 (6 : Int32) _ _ _ (show (6 - (6 : Int32).toInt).toNat < (6 - x96.toInt).toNat by omega) ⟨(show 0 ≤ (6 : Int32).toInt ∧ (6 : Int32).toInt ≤ 6 by decide), ⟨hP9, hD9⟩, hS, lv_sub hl [0, 1, 2, 3, 4] rfl⟩
  | succ d ih =>
    intro fm_wins a1 a2 h_a2 h_w sz
    refine Met.ofW (cc := cX12_winsFrom) (maxL := 5) (ret := (some .boolean)) (by decide) rfl ?_
    intro p e s m args below meth c s₁ B hml hv
    obtain ⟨rfl, hsz, hP, hE, hD0, hH⟩ := hv
    have hx := B.exec
    have hb := B.bytes
    have hr := B.returns
    have hts := atoms_spec (ws := wsX12_winsFrom) B.pre
    have hown : s.vm.findClass RX12 = some m.cls := findClass_of_methodNamed B.named
    have hlocks := B.notSynchronized
    have hK := hE.1
    have hi12 : ∀ w ∈ u_ws RX12 TX12 45, w ∈ wsX12_winsFrom := fun w h => List.mem_cons_of_mem _ (List.mem_append_right _ h)
    subst hsz
    have hD := hD0.self (sz := s.heap.size)
    generalize hAe : va_A (w_c_X12_winsFrom cI cJ cB cZ cO qm vm_thrown qm_width qm_many qm_cells qm_moved qm_tape vm_taped vm_at vm_token vm_place vm_value vm_word vm_bad vm_badPlace vm_fault vm_faultPlace qm_lines qm_has qm_round qm_meets fm_meets qm_stumble qm_isMud qm_cell qm_tune qm_change qm_isKept qm_steps qm_places qm_danced vm_runMost vm_runBegins qm_heardBy vm_fitMany vm_fitFirst vm_fitBeats vm_listenLeaves qm_there vm_metAt vm_metIn qm_wins fm_wins vm_nightHoles vm_nightFirst vm_nightMud vm_nightSlips vm_drawnNow) s.heap.size = A at hD hH ⊢
    have hA : ∀ q : Nat, s.heap.size ≤ q → A q := fun q h => by rw [← hAe]; exact Or.inr h
    obtain ⟨hP, hD⟩ : ct_B D A s.heap [mo qm vm_thrown qm_width qm_many qm_cells qm_moved qm_tape vm_taped vm_at vm_token vm_place vm_value vm_word vm_bad vm_badPlace vm_fault vm_faultPlace qm_lines qm_has qm_round qm_meets qm_stumble qm_isMud qm_cell qm_tune qm_change qm_isKept qm_steps qm_places qm_danced vm_runMost vm_runBegins qm_heardBy vm_fitMany vm_fitFirst vm_fitBeats vm_listenLeaves qm_there vm_metAt vm_metIn qm_wins vm_nightHoles vm_nightFirst vm_nightMud vm_nightSlips vm_drawnNow, (qm_meets, .inl (cI, 30, .inl (fm_meets))), (qm_wins, .inl (cI, 24576, .inl (fm_wins)))] := ⟨hP, hD⟩
    have hl := lv_entry ([.ref qm, .int a1, .int a2]) (n := 5) (Nat.le_of_ble_eq_true rfl)
    rw [lg_entry_eq]
    generalize (lg_sl ([.ref qm, .int a1, .int a2]) ++ List.replicate (5 - (lg_sl ([.ref qm, .int a1, .int a2])).length) Slot.unset).toArray = ls at hl ⊢
    have hl : lv_has ls 5 [(0, .ref qm), (1, .int a1), (2, .int a2)] := hl
    obtain ⟨H, hHe⟩ : ∃ H : Heap, H = s.heap := ⟨_, rfl⟩
    rw [← hHe] at hP
    have hS : va_S A s.heap H [] := by rw [hHe]; exact va_S.rf
    refine ct_start hHe ?_
    have hwl := wn_lt h_w
    refine lv_bipush (v := 6) hx hb dX12_winsFrom_0 (by decide) ?_
    refine lv_iload_n hx hb dX12_winsFrom_2 rfl (lv_at hl 1 rfl) ?_
    refine lv_imul hx hb dX12_winsFrom_3 ?_
    refine lv_topi (fun z129 ez129 => ?_)
    have fz129 : z129.toInt = 6 * a1.toInt := by rw [ez129]; exact tq_mul (by decide) rfl (by omega)
    refine lv_iload_n hx hb dX12_winsFrom_4 rfl (lv_at hl 2 rfl) ?_
    refine lv_iadd hx hb dX12_winsFrom_5 ?_
    refine lv_topi (fun z130 ez130 => ?_)
    have fz130 : z130.toInt = z129.toInt + a2.toInt := by rw [ez130]; exact tq_add rfl rfl (by omega)
    refine lv_istore_n (lv' := [(3, .int z130), (0, .ref qm), (1, .int a1), (2, .int a2)]) hx hb dX12_winsFrom_6 rfl hl (by decide) rfl (fun ls hl => ?_)
    refine lv_aload_n hx hb dX12_winsFrom_7 rfl (lv_at hl 1 rfl) ?_
    refine va_get (D := D) (ci := 12) (v := .ref qm_wins) (C := RX12) (T := TX12) (N := 45) hx hb hts hi12 hown hK hP 0 rfl rfl 39 (by decide) (hts (.fieldLink RX12 77 "OverHillModel" "wins" "[I") (by decide +kernel)) (fun _ h9 => h9) rfl dX12_winsFrom_8 ?_
    refine lv_iload_n hx hb dX12_winsFrom_11 rfl (lv_at hl 0 rfl) ?_
    refine va_iald (D := D) hx hb hK hP 2 0 rfl rfl (tq_in rfl (by omega)) dX12_winsFrom_12 ?_
    refine lv_topi (fun z131 ez131 => ?_)
    refine lv_if_ne (tgt := 84) hx hb dX12_winsFrom_13 (by decide) (fun hc => ?_) (fun hc => ?_)
    · have hq132 : z131.toInt ≠ 0 := tq_ne rfl (by decide) hc
      have hb133 := tq_lo z131
      refine lv_aload_n hx hb dX12_winsFrom_84 rfl (lv_at hl 1 rfl) ?_
      refine va_get (D := D) (ci := 12) (v := .ref qm_wins) (C := RX12) (T := TX12) (N := 45) hx hb hts hi12 hown hK hP 0 rfl rfl 39 (by decide) (hts (.fieldLink RX12 77 "OverHillModel" "wins" "[I") (by decide +kernel)) (fun _ h9 => h9) rfl dX12_winsFrom_85 ?_
      refine lv_iload_n hx hb dX12_winsFrom_88 rfl (lv_at hl 0 rfl) ?_
      refine va_iald (D := D) hx hb hK hP 2 0 rfl rfl (tq_in rfl (by omega)) dX12_winsFrom_89 ?_
      refine lv_topi (fun z134 ez134 => ?_)
      refine lv_iconst (v := 1) hx hb dX12_winsFrom_90 (by decide) ?_
      refine lv_icmp_ne (tgt := 98) hx hb dX12_winsFrom_91 (by decide) (fun hc => ?_) (fun hc => ?_)
      · have hq135 : z134.toInt ≠ 1 := tq_ne rfl (by decide) hc
        have hb136 := tq_lo z134
        refine lv_iconst (v := 0) hx hb dX12_winsFrom_98 (by decide) ?_
        obtain ⟨hP9, hD9⟩ : ct_B D A H [mo qm vm_thrown qm_width qm_many qm_cells qm_moved qm_tape vm_taped vm_at vm_token vm_place vm_value vm_word vm_bad vm_badPlace vm_fault vm_faultPlace qm_lines qm_has qm_round qm_meets qm_stumble qm_isMud qm_cell qm_tune qm_change qm_isKept qm_steps qm_places qm_danced vm_runMost vm_runBegins qm_heardBy vm_fitMany vm_fitFirst vm_fitBeats vm_listenLeaves qm_there vm_metAt vm_metIn qm_wins vm_nightHoles vm_nightFirst vm_nightMud vm_nightSlips vm_drawnNow, (qm_meets, .inl (cI, 30, .inl (fm_meets))), (qm_wins, .inl (cI, 24576, .inl (fm_wins)))] := ⟨hP.sub [0, 1, 2] rfl, hD.sub [0, 1, 2] (by decide) rfl⟩
        exact W.zret (v := 0) (ty := .boolean) hx hb hr rfl (fun t ht hW => ⟨⟨0, fm_wins, rfl, (Or.inr (⟨rfl, trivial⟩)), by rw [ht]; exact hP9, hD9⟩, hS.F ht⟩) hS.2.2 dX12_winsFrom_99
      · have hq135 : z134.toInt = 1 := tq_eq rfl (by decide) hc
        have hb137 := tq_lo z134
        refine lv_iconst (v := 1) hx hb dX12_winsFrom_94 (by decide) ?_
        refine lv_goto (tgt := 99) hx hb dX12_winsFrom_95 (by decide) ?_
        obtain ⟨hP9, hD9⟩ : ct_B D A H [mo qm vm_thrown qm_width qm_many qm_cells qm_moved qm_tape vm_taped vm_at vm_token vm_place vm_value vm_word vm_bad vm_badPlace vm_fault vm_faultPlace qm_lines qm_has qm_round qm_meets qm_stumble qm_isMud qm_cell qm_tune qm_change qm_isKept qm_steps qm_places qm_danced vm_runMost vm_runBegins qm_heardBy vm_fitMany vm_fitFirst vm_fitBeats vm_listenLeaves qm_there vm_metAt vm_metIn qm_wins vm_nightHoles vm_nightFirst vm_nightMud vm_nightSlips vm_drawnNow, (qm_meets, .inl (cI, 30, .inl (fm_meets))), (qm_wins, .inl (cI, 24576, .inl (fm_wins)))] := ⟨hP.sub [0, 1, 2] rfl, hD.sub [0, 1, 2] (by decide) rfl⟩
        exact W.zret (v := 1) (ty := .boolean) hx hb hr rfl (fun t ht hW => ⟨⟨1, fm_wins, rfl, (Or.inl ⟨rfl, trivial⟩), by rw [ht]; exact hP9, hD9⟩, hS.F ht⟩) hS.2.2 dX12_winsFrom_99
    · have hq132 : z131.toInt = 0 := tq_eq rfl (by decide) hc
      have hb138 := tq_lo z131
      refine lv_aload_n hx hb dX12_winsFrom_16 rfl (lv_at hl 1 rfl) ?_
      refine va_get (D := D) (ci := 12) (v := .ref qm_wins) (C := RX12) (T := TX12) (N := 45) hx hb hts hi12 hown hK hP 0 rfl rfl 39 (by decide) (hts (.fieldLink RX12 77 "OverHillModel" "wins" "[I") (by decide +kernel)) (fun _ h9 => h9) rfl dX12_winsFrom_17 ?_
      refine lv_iload_n hx hb dX12_winsFrom_20 rfl (lv_at hl 0 rfl) ?_
      refine lv_iconst (v := 2) hx hb dX12_winsFrom_21 (by decide) ?_
      refine va_iast (D := D) hx hb hK hP hD hS 2 0 rfl rfl (tq_in rfl (by omega)) dX12_winsFrom_22 (fun H locs hP hD hS => ?_)
      obtain ⟨g139, hP, hD⟩ : ∃ g139 : Nat → Int32, ct_B D A H [mo qm vm_thrown qm_width qm_many qm_cells qm_moved qm_tape vm_taped vm_at vm_token vm_place vm_value vm_word vm_bad vm_badPlace vm_fault vm_faultPlace qm_lines qm_has qm_round qm_meets qm_stumble qm_isMud qm_cell qm_tune qm_change qm_isKept qm_steps qm_places qm_danced vm_runMost vm_runBegins qm_heardBy vm_fitMany vm_fitFirst vm_fitBeats vm_listenLeaves qm_there vm_metAt vm_metIn qm_wins vm_nightHoles vm_nightFirst vm_nightMud vm_nightSlips vm_drawnNow, (qm_meets, .inl (cI, 30, .inl (fm_meets))), (qm_wins, .inl (cI, 24576, .inl (g139)))] := ⟨_, hP, hD⟩
      refine lv_iconst (v := 0) hx hb dX12_winsFrom_23 (by decide) ?_
      refine lv_istore (lv' := [(4, .int 0), (3, .int z130), (0, .ref qm), (1, .int a1), (2, .int a2)]) hx hb dX12_winsFrom_24 hl (by decide) rfl (fun ls hl => ?_)
      refine ct_loop (X := (Nat → Int32) × Int32) (fun x => (6 - x.2.toInt).toNat) (fun x H locs ls => ((0 ≤ x.2.toInt ∧ x.2.toInt ≤ 6)) ∧ ct_B D A H [mo qm vm_thrown qm_width qm_many qm_cells qm_moved qm_tape vm_taped vm_at vm_token vm_place vm_value vm_word vm_bad vm_badPlace vm_fault vm_faultPlace qm_lines qm_has qm_round qm_meets qm_stumble qm_isMud qm_cell qm_tune qm_change qm_isKept qm_steps qm_places qm_danced vm_runMost vm_runBegins qm_heardBy vm_fitMany vm_fitFirst vm_fitBeats vm_listenLeaves qm_there vm_metAt vm_metIn qm_wins vm_nightHoles vm_nightFirst vm_nightMud vm_nightSlips vm_drawnNow, (qm_meets, .inl (cI, 30, .inl (fm_meets))), (qm_wins, .inl (cI, 24576, .inl (x.1)))] ∧ va_S A s.heap H locs ∧ lv_has ls 5 [(4, .int x.2), (3, .int z130), (0, .ref qm), (1, .int a1), (2, .int a2)]) 26 (g139, (0 : Int32)) ⟨(show 0 ≤ (0 : Int32).toInt ∧ (0 : Int32).toInt ≤ 6 by decide), ⟨hP, hD⟩, hS, lv_sub hl [0, 1, 2, 3, 4] rfl⟩ (fun x ih343 H locs ls hI => ?_)
      obtain ⟨g341, x342⟩ := x
      obtain ⟨h_x342, ⟨hP, hD⟩, hS, hl⟩ := hI
      change (0 ≤ x342.toInt ∧ x342.toInt ≤ 6) at h_x342
      obtain ⟨hP, hD⟩ : ct_B D A H [mo qm vm_thrown qm_width qm_many qm_cells qm_moved qm_tape vm_taped vm_at vm_token vm_place vm_value vm_word vm_bad vm_badPlace vm_fault vm_faultPlace qm_lines qm_has qm_round qm_meets qm_stumble qm_isMud qm_cell qm_tune qm_change qm_isKept qm_steps qm_places qm_danced vm_runMost vm_runBegins qm_heardBy vm_fitMany vm_fitFirst vm_fitBeats vm_listenLeaves qm_there vm_metAt vm_metIn qm_wins vm_nightHoles vm_nightFirst vm_nightMud vm_nightSlips vm_drawnNow, (qm_meets, .inl (cI, 30, .inl (fm_meets))), (qm_wins, .inl (cI, 24576, .inl (g341)))] := ⟨hP, hD⟩
      have hl : lv_has ls 5 [(4, .int x342), (3, .int z130), (0, .ref qm), (1, .int a1), (2, .int a2)] := hl
      refine lv_iload hx hb dX12_winsFrom_26 (lv_at hl 0 rfl) ?_
      refine lv_bipush (v := 6) hx hb dX12_winsFrom_28 (by decide) ?_
      refine lv_icmp_ge (tgt := 84) hx hb dX12_winsFrom_30 (by decide) (fun hc => ?_) (fun hc => ?_)
      · have hq344 : 6 ≤ x342.toInt := tq_le (by decide) rfl hc
        refine lv_aload_n hx hb dX12_winsFrom_84 rfl (lv_at hl 2 rfl) ?_
        refine va_get (D := D) (ci := 12) (v := .ref qm_wins) (C := RX12) (T := TX12) (N := 45) hx hb hts hi12 hown hK hP 0 rfl rfl 39 (by decide) (hts (.fieldLink RX12 77 "OverHillModel" "wins" "[I") (by decide +kernel)) (fun _ h9 => h9) rfl dX12_winsFrom_85 ?_
        refine lv_iload_n hx hb dX12_winsFrom_88 rfl (lv_at hl 1 rfl) ?_
        refine va_iald (D := D) hx hb hK hP 2 0 rfl rfl (tq_in rfl (by omega)) dX12_winsFrom_89 ?_
        refine lv_topi (fun z345 ez345 => ?_)
        refine lv_iconst (v := 1) hx hb dX12_winsFrom_90 (by decide) ?_
        refine lv_icmp_ne (tgt := 98) hx hb dX12_winsFrom_91 (by decide) (fun hc => ?_) (fun hc => ?_)
        · have hq346 : z345.toInt ≠ 1 := tq_ne rfl (by decide) hc
          have hb347 := tq_lo z345
          refine lv_iconst (v := 0) hx hb dX12_winsFrom_98 (by decide) ?_
          obtain ⟨hP9, hD9⟩ : ct_B D A H [mo qm vm_thrown qm_width qm_many qm_cells qm_moved qm_tape vm_taped vm_at vm_token vm_place vm_value vm_word vm_bad vm_badPlace vm_fault vm_faultPlace qm_lines qm_has qm_round qm_meets qm_stumble qm_isMud qm_cell qm_tune qm_change qm_isKept qm_steps qm_places qm_danced vm_runMost vm_runBegins qm_heardBy vm_fitMany vm_fitFirst vm_fitBeats vm_listenLeaves qm_there vm_metAt vm_metIn qm_wins vm_nightHoles vm_nightFirst vm_nightMud vm_nightSlips vm_drawnNow, (qm_meets, .inl (cI, 30, .inl (fm_meets))), (qm_wins, .inl (cI, 24576, .inl (g341)))] := ⟨hP.sub [0, 1, 2] rfl, hD.sub [0, 1, 2] (by decide) rfl⟩
          exact W.zret (v := 0) (ty := .boolean) hx hb hr rfl (fun t ht hW => ⟨⟨0, g341, rfl, (Or.inr (⟨rfl, trivial⟩)), by rw [ht]; exact hP9, hD9⟩, hS.F ht⟩) hS.2.2 dX12_winsFrom_99
        · have hq346 : z345.toInt = 1 := tq_eq rfl (by decide) hc
          have hb348 := tq_lo z345
          refine lv_iconst (v := 1) hx hb dX12_winsFrom_94 (by decide) ?_
          refine lv_goto (tgt := 99) hx hb dX12_winsFrom_95 (by decide) ?_
          obtain ⟨hP9, hD9⟩ : ct_B D A H [mo qm vm_thrown qm_width qm_many qm_cells qm_moved qm_tape vm_taped vm_at vm_token vm_place vm_value vm_word vm_bad vm_badPlace vm_fault vm_faultPlace qm_lines qm_has qm_round qm_meets qm_stumble qm_isMud qm_cell qm_tune qm_change qm_isKept qm_steps qm_places qm_danced vm_runMost vm_runBegins qm_heardBy vm_fitMany vm_fitFirst vm_fitBeats vm_listenLeaves qm_there vm_metAt vm_metIn qm_wins vm_nightHoles vm_nightFirst vm_nightMud vm_nightSlips vm_drawnNow, (qm_meets, .inl (cI, 30, .inl (fm_meets))), (qm_wins, .inl (cI, 24576, .inl (g341)))] := ⟨hP.sub [0, 1, 2] rfl, hD.sub [0, 1, 2] (by decide) rfl⟩
          exact W.zret (v := 1) (ty := .boolean) hx hb hr rfl (fun t ht hW => ⟨⟨1, g341, rfl, (Or.inl ⟨rfl, trivial⟩), by rw [ht]; exact hP9, hD9⟩, hS.F ht⟩) hS.2.2 dX12_winsFrom_99
      · have hq344 : x342.toInt < 6 := tq_nle (by decide) rfl hc
        refine lv_aload_n hx hb dX12_winsFrom_33 rfl (lv_at hl 2 rfl) ?_
        refine va_get (D := D) (ci := 12) (v := .ref qm_wins) (C := RX12) (T := TX12) (N := 45) hx hb hts hi12 hown hK hP 0 rfl rfl 39 (by decide) (hts (.fieldLink RX12 77 "OverHillModel" "wins" "[I") (by decide +kernel)) (fun _ h9 => h9) rfl dX12_winsFrom_34 ?_
        refine lv_iload_n hx hb dX12_winsFrom_37 rfl (lv_at hl 1 rfl) ?_
        refine va_iald (D := D) hx hb hK hP 2 0 rfl rfl (tq_in rfl (by omega)) dX12_winsFrom_38 ?_
        refine lv_topi (fun z349 ez349 => ?_)
        refine lv_iconst (v := 2) hx hb dX12_winsFrom_39 (by decide) ?_
        refine lv_icmp_ne (tgt := 84) hx hb dX12_winsFrom_40 (by decide) (fun hc => ?_) (fun hc => ?_)
        · have hq350 : z349.toInt ≠ 2 := tq_ne rfl (by decide) hc
          have hb351 := tq_lo z349
          refine lv_aload_n hx hb dX12_winsFrom_84 rfl (lv_at hl 2 rfl) ?_
          refine va_get (D := D) (ci := 12) (v := .ref qm_wins) (C := RX12) (T := TX12) (N := 45) hx hb hts hi12 hown hK hP 0 rfl rfl 39 (by decide) (hts (.fieldLink RX12 77 "OverHillModel" "wins" "[I") (by decide +kernel)) (fun _ h9 => h9) rfl dX12_winsFrom_85 ?_
          refine lv_iload_n hx hb dX12_winsFrom_88 rfl (lv_at hl 1 rfl) ?_
          refine va_iald (D := D) hx hb hK hP 2 0 rfl rfl (tq_in rfl (by omega)) dX12_winsFrom_89 ?_
          refine lv_topi (fun z352 ez352 => ?_)
          refine lv_iconst (v := 1) hx hb dX12_winsFrom_90 (by decide) ?_
          refine lv_icmp_ne (tgt := 98) hx hb dX12_winsFrom_91 (by decide) (fun hc => ?_) (fun hc => ?_)
          · have hq353 : z352.toInt ≠ 1 := tq_ne rfl (by decide) hc
            have hb354 := tq_lo z352
            refine lv_iconst (v := 0) hx hb dX12_winsFrom_98 (by decide) ?_
            obtain ⟨hP9, hD9⟩ : ct_B D A H [mo qm vm_thrown qm_width qm_many qm_cells qm_moved qm_tape vm_taped vm_at vm_token vm_place vm_value vm_word vm_bad vm_badPlace vm_fault vm_faultPlace qm_lines qm_has qm_round qm_meets qm_stumble qm_isMud qm_cell qm_tune qm_change qm_isKept qm_steps qm_places qm_danced vm_runMost vm_runBegins qm_heardBy vm_fitMany vm_fitFirst vm_fitBeats vm_listenLeaves qm_there vm_metAt vm_metIn qm_wins vm_nightHoles vm_nightFirst vm_nightMud vm_nightSlips vm_drawnNow, (qm_meets, .inl (cI, 30, .inl (fm_meets))), (qm_wins, .inl (cI, 24576, .inl (g341)))] := ⟨hP.sub [0, 1, 2] rfl, hD.sub [0, 1, 2] (by decide) rfl⟩
            exact W.zret (v := 0) (ty := .boolean) hx hb hr rfl (fun t ht hW => ⟨⟨0, g341, rfl, (Or.inr (⟨rfl, trivial⟩)), by rw [ht]; exact hP9, hD9⟩, hS.F ht⟩) hS.2.2 dX12_winsFrom_99
          · have hq353 : z352.toInt = 1 := tq_eq rfl (by decide) hc
            have hb355 := tq_lo z352
            refine lv_iconst (v := 1) hx hb dX12_winsFrom_94 (by decide) ?_
            refine lv_goto (tgt := 99) hx hb dX12_winsFrom_95 (by decide) ?_
            obtain ⟨hP9, hD9⟩ : ct_B D A H [mo qm vm_thrown qm_width qm_many qm_cells qm_moved qm_tape vm_taped vm_at vm_token vm_place vm_value vm_word vm_bad vm_badPlace vm_fault vm_faultPlace qm_lines qm_has qm_round qm_meets qm_stumble qm_isMud qm_cell qm_tune qm_change qm_isKept qm_steps qm_places qm_danced vm_runMost vm_runBegins qm_heardBy vm_fitMany vm_fitFirst vm_fitBeats vm_listenLeaves qm_there vm_metAt vm_metIn qm_wins vm_nightHoles vm_nightFirst vm_nightMud vm_nightSlips vm_drawnNow, (qm_meets, .inl (cI, 30, .inl (fm_meets))), (qm_wins, .inl (cI, 24576, .inl (g341)))] := ⟨hP.sub [0, 1, 2] rfl, hD.sub [0, 1, 2] (by decide) rfl⟩
            exact W.zret (v := 1) (ty := .boolean) hx hb hr rfl (fun t ht hW => ⟨⟨1, g341, rfl, (Or.inl ⟨rfl, trivial⟩), by rw [ht]; exact hP9, hD9⟩, hS.F ht⟩) hS.2.2 dX12_winsFrom_99
        · have hq350 : z349.toInt = 2 := tq_eq rfl (by decide) hc
          have hb356 := tq_lo z349
          rcases (show x342.toInt = 0 ∨ x342.toInt = 1 ∨ x342.toInt = 2 ∨ x342.toInt = 3 ∨ x342.toInt = 4 ∨ x342.toInt = 5 by omega) with hj | hj | hj | hj | hj | hj
          · have hj2 : x342 = 0 := tq_of hj (by decide)
            have hl : lv_has ls 5 [(4, .int 0), (3, .int z130), (0, .ref qm), (1, .int a1), (2, .int a2)] := by have h9 := hl; rw [hj2] at h9; exact h9
            refine lv_aload_n hx hb dX12_winsFrom_43 rfl (lv_at hl 2 rfl) ?_
            refine lv_iload_n hx hb dX12_winsFrom_44 rfl (lv_at hl 3 rfl) ?_
            refine lv_iload_n hx hb dX12_winsFrom_45 rfl (lv_at hl 4 rfl) ?_
            refine lv_iload hx hb dX12_winsFrom_46 (lv_at hl 0 rfl) ?_
            refine ct_calli (D := D) (wr := [(qm_wins, .inl (cI, 24576, .inl (g341)))]) (va_runV (As := [.int a1, .int a2, .int 0]) (rest := []) ⟨hx, hb, hml, hown, hts⟩ (c_X12_isPlay l D G cI cJ cB cZ cO qm vm_thrown qm_width qm_many qm_cells qm_moved qm_tape vm_taped vm_at vm_token vm_place vm_value vm_word vm_bad vm_badPlace vm_fault vm_faultPlace qm_lines qm_has qm_round qm_meets fm_meets qm_stumble qm_isMud qm_cell qm_tune qm_change qm_isKept qm_steps qm_places qm_danced vm_runMost vm_runBegins qm_heardBy vm_fitMany vm_fitFirst vm_fitBeats vm_listenLeaves qm_there vm_metAt vm_metIn qm_wins vm_nightHoles vm_nightFirst vm_nightMud vm_nightSlips vm_drawnNow a1 a2 0 h_vm_taped h_vm_at h_vm_value h_a2 (by decide) H.size) (cwV 3 hts gX12_winsFrom_X12_isPlay rfl rfl rfl (by decide +kernel) ⟨by show 1 + 1 ≤ d + 1 + 2; omega, by show 8 + (4 + 11) + 21 ≤ 44 + 24 * (d + 1); omega⟩) (ct_preV (T := ct_T cI cJ cB cZ cO) (ci := 12) (q0 := 0) hE hH hP hD hS hA [0, 1] (by decide) rfl rfl rfl) rfl rfl hl.1 rfl (lv_room (Nat.le_of_ble_eq_true rfl)) dX12_winsFrom_48 ⟨Nat.le_of_ble_eq_true rfl, Nat.le_of_ble_eq_true rfl⟩) hP hD hS hA [0, 1] [2] rfl rfl (by decide) (by decide) (fun r357 u H locs hw hP hD hS => ?_)
            obtain ⟨hP, hD⟩ : ct_B D A H [(qm_wins, .inl (cI, 24576, .inl (g341))), mo qm vm_thrown qm_width qm_many qm_cells qm_moved qm_tape vm_taped vm_at vm_token vm_place vm_value vm_word vm_bad vm_badPlace vm_fault vm_faultPlace qm_lines qm_has qm_round qm_meets qm_stumble qm_isMud qm_cell qm_tune qm_change qm_isKept qm_steps qm_places qm_danced vm_runMost vm_runBegins qm_heardBy vm_fitMany vm_fitFirst vm_fitBeats vm_listenLeaves qm_there vm_metAt vm_metIn qm_wins vm_nightHoles vm_nightFirst vm_nightMud vm_nightSlips vm_drawnNow, (qm_meets, .inl (cI, 30, .inl (fm_meets)))] := ⟨hP, hD⟩
            have hz := hw
            clear hw
            rcases hz with ⟨hz, hz2⟩ | ⟨hz, hz2⟩
            · subst hz
              have hz_358 : (pl a1 (0 : Int32)) := hz2
              refine lv_if_eq (tgt := 78) hx hb dX12_winsFrom_51 (by decide) (fun hc => absurd hc (by decide)) (fun _ => ?_)
              refine lv_aload_n hx hb dX12_winsFrom_54 rfl (lv_at hl 2 rfl) ?_
              refine lv_iload_n hx hb dX12_winsFrom_55 rfl (lv_at hl 3 rfl) ?_
              refine lv_iconst (v := 1) hx hb dX12_winsFrom_56 (by decide) ?_
              refine lv_iconst (v := 2) hx hb dX12_winsFrom_57 (by decide) ?_
              refine lv_iload hx hb dX12_winsFrom_58 (lv_at hl 0 rfl) ?_
              refine lv_imul hx hb dX12_winsFrom_60 ?_
              refine lv_topi (fun z359 ez359 => ?_)
              obtain rfl : z359 = 0 := ez359.trans (by decide)
              refine lv_ishl hx hb dX12_winsFrom_61 ?_
              refine lv_topi (fun z360 ez360 => ?_)
              obtain rfl : z360 = 1 := ez360.trans (by decide)
              refine lv_iadd hx hb dX12_winsFrom_62 ?_
              refine lv_topi (fun z361 ez361 => ?_)
              have fz361 : z361.toInt = a1.toInt + 1 := by rw [ez361]; exact tq_add rfl (by decide) (by omega)
              refine lv_iload hx hb dX12_winsFrom_63 (lv_at hl 0 rfl) ?_
              refine ct_calli (D := D) (wr := []) (va_runV (As := [.int z361, .int 0]) (rest := []) ⟨hx, hb, hml, hown, hts⟩ (ih g341 z361 0 (by decide) (wn_step h_w 0 (by decide) (t := 0) (by decide) hz_358 (by omega)) H.size) (cwV 2 hts gX12_winsFrom_X12_winsFrom rfl rfl rfl (by decide +kernel) ⟨Nat.le_refl _, by show 8 + (5 + 11) + (44 + 24 * d) ≤ 44 + 24 * (d + 1); omega⟩) (ct_preV (T := ct_T cI cJ cB cZ cO) (ci := 12) (q0 := 1) hE hH hP hD hS hA [1, 2, 0] (by decide) rfl rfl rfl) rfl rfl hl.1 rfl (lv_room (Nat.le_of_ble_eq_true rfl)) dX12_winsFrom_65 ⟨Nat.le_of_ble_eq_true rfl, Nat.le_of_ble_eq_true rfl⟩) hP hD hS hA [1, 2, 0] [] rfl rfl (by decide) (by decide) (fun r362 u H locs hw hP hD hS => ?_)
              obtain ⟨g363, rfl⟩ : ∃ z, z = u := ⟨_, rfl⟩
              obtain ⟨hP, hD⟩ : ct_B D A H [mo qm vm_thrown qm_width qm_many qm_cells qm_moved qm_tape vm_taped vm_at vm_token vm_place vm_value vm_word vm_bad vm_badPlace vm_fault vm_faultPlace qm_lines qm_has qm_round qm_meets qm_stumble qm_isMud qm_cell qm_tune qm_change qm_isKept qm_steps qm_places qm_danced vm_runMost vm_runBegins qm_heardBy vm_fitMany vm_fitFirst vm_fitBeats vm_listenLeaves qm_there vm_metAt vm_metIn qm_wins vm_nightHoles vm_nightFirst vm_nightMud vm_nightSlips vm_drawnNow, (qm_meets, .inl (cI, 30, .inl (fm_meets))), (qm_wins, .inl (cI, 24576, .inl (g363)))] := ⟨hP, hD⟩
              have hz := hw
              clear hw
              rcases hz with ⟨hz, hz2⟩ | ⟨hz, hz2⟩
              · subst hz
                refine lv_if_ne (tgt := 78) hx hb dX12_winsFrom_68 (by decide) (fun _ => ?_) (fun hc => absurd hc (by decide))
                refine lv_iinc (v := 1) (lv' := [(4, .int 1), (3, .int z130), (0, .ref qm), (1, .int a1), (2, .int a2)]) hx hb dX12_winsFrom_78 hl (k := 0) rfl (by decide) (by decide) rfl (fun ls hl => ?_)
                refine lv_goto (tgt := 26) hx hb dX12_winsFrom_81 (by decide) ?_
                have hk364 : (1 : Int32).toInt = 1 := by decide
                exact ih343 (g363, (1 : Int32)) _ _ _ (show (6 - (1 : Int32).toInt).toNat < (6 - x342.toInt).toNat by omega) ⟨(show 0 ≤ (1 : Int32).toInt ∧ (1 : Int32).toInt ≤ 6 by decide), ⟨hP, hD⟩, hS, lv_sub hl [0, 1, 2, 3, 4] rfl⟩
              · subst hz
                refine lv_if_ne (tgt := 78) hx hb dX12_winsFrom_68 (by decide) (fun hc => absurd hc (by decide)) (fun _ => ?_)
                refine lv_aload_n hx hb dX12_winsFrom_71 rfl (lv_at hl 2 rfl) ?_
                refine va_get (D := D) (ci := 12) (v := .ref qm_wins) (C := RX12) (T := TX12) (N := 45) hx hb hts hi12 hown hK hP 0 rfl rfl 39 (by decide) (hts (.fieldLink RX12 77 "OverHillModel" "wins" "[I") (by decide +kernel)) (fun _ h9 => h9) rfl dX12_winsFrom_72 ?_
                refine lv_iload_n hx hb dX12_winsFrom_75 rfl (lv_at hl 1 rfl) ?_
                refine lv_iconst (v := 1) hx hb dX12_winsFrom_76 (by decide) ?_
                refine va_iast (D := D) hx hb hK hP hD hS 2 0 rfl rfl (tq_in rfl (by omega)) dX12_winsFrom_77 (fun H locs hP hD hS => ?_)
                obtain ⟨g365, hP, hD⟩ : ∃ g365 : Nat → Int32, ct_B D A H [mo qm vm_thrown qm_width qm_many qm_cells qm_moved qm_tape vm_taped vm_at vm_token vm_place vm_value vm_word vm_bad vm_badPlace vm_fault vm_faultPlace qm_lines qm_has qm_round qm_meets qm_stumble qm_isMud qm_cell qm_tune qm_change qm_isKept qm_steps qm_places qm_danced vm_runMost vm_runBegins qm_heardBy vm_fitMany vm_fitFirst vm_fitBeats vm_listenLeaves qm_there vm_metAt vm_metIn qm_wins vm_nightHoles vm_nightFirst vm_nightMud vm_nightSlips vm_drawnNow, (qm_meets, .inl (cI, 30, .inl (fm_meets))), (qm_wins, .inl (cI, 24576, .inl (g365)))] := ⟨_, hP, hD⟩
                refine lv_iinc (v := 1) (lv' := [(4, .int 1), (3, .int z130), (0, .ref qm), (1, .int a1), (2, .int a2)]) hx hb dX12_winsFrom_78 hl (k := 0) rfl (by decide) (by decide) rfl (fun ls hl => ?_)
                refine lv_goto (tgt := 26) hx hb dX12_winsFrom_81 (by decide) ?_
                have hk366 : (1 : Int32).toInt = 1 := by decide
                exact ih343 (g365, (1 : Int32)) _ _ _ (show (6 - (1 : Int32).toInt).toNat < (6 - x342.toInt).toNat by omega) ⟨(show 0 ≤ (1 : Int32).toInt ∧ (1 : Int32).toInt ≤ 6 by decide), ⟨hP, hD⟩, hS, lv_sub hl [0, 1, 2, 3, 4] rfl⟩
            · subst hz
              refine lv_if_eq (tgt := 78) hx hb dX12_winsFrom_51 (by decide) (fun _ => ?_) (fun hc => absurd hc (by decide))
              refine lv_iinc (v := 1) (lv' := [(4, .int 1), (3, .int z130), (0, .ref qm), (1, .int a1), (2, .int a2)]) hx hb dX12_winsFrom_78 hl (k := 0) rfl (by decide) (by decide) rfl (fun ls hl => ?_)
              refine lv_goto (tgt := 26) hx hb dX12_winsFrom_81 (by decide) ?_
              have hk367 : (1 : Int32).toInt = 1 := by decide
              obtain ⟨hP9, hD9⟩ : ct_B D A H [mo qm vm_thrown qm_width qm_many qm_cells qm_moved qm_tape vm_taped vm_at vm_token vm_place vm_value vm_word vm_bad vm_badPlace vm_fault vm_faultPlace qm_lines qm_has qm_round qm_meets qm_stumble qm_isMud qm_cell qm_tune qm_change qm_isKept qm_steps qm_places qm_danced vm_runMost vm_runBegins qm_heardBy vm_fitMany vm_fitFirst vm_fitBeats vm_listenLeaves qm_there vm_metAt vm_metIn qm_wins vm_nightHoles vm_nightFirst vm_nightMud vm_nightSlips vm_drawnNow, (qm_meets, .inl (cI, 30, .inl (fm_meets))), (qm_wins, .inl (cI, 24576, .inl (g341)))] := ⟨hP.sub [1, 2, 0] rfl, hD.sub [1, 2, 0] (by decide) rfl⟩
              exact ih343 (g341, (1 : Int32)) _ _ _ (show (6 - (1 : Int32).toInt).toNat < (6 - x342.toInt).toNat by omega) ⟨(show 0 ≤ (1 : Int32).toInt ∧ (1 : Int32).toInt ≤ 6 by decide), ⟨hP9, hD9⟩, hS, lv_sub hl [0, 1, 2, 3, 4] rfl⟩
          · have hj2 : x342 = 1 := tq_of hj (by decide)
            have hl : lv_has ls 5 [(4, .int 1), (3, .int z130), (0, .ref qm), (1, .int a1), (2, .int a2)] := by have h9 := hl; rw [hj2] at h9; exact h9
            refine lv_aload_n hx hb dX12_winsFrom_43 rfl (lv_at hl 2 rfl) ?_
            refine lv_iload_n hx hb dX12_winsFrom_44 rfl (lv_at hl 3 rfl) ?_
            refine lv_iload_n hx hb dX12_winsFrom_45 rfl (lv_at hl 4 rfl) ?_
            refine lv_iload hx hb dX12_winsFrom_46 (lv_at hl 0 rfl) ?_
            refine ct_calli (D := D) (wr := [(qm_wins, .inl (cI, 24576, .inl (g341)))]) (va_runV (As := [.int a1, .int a2, .int 1]) (rest := []) ⟨hx, hb, hml, hown, hts⟩ (c_X12_isPlay l D G cI cJ cB cZ cO qm vm_thrown qm_width qm_many qm_cells qm_moved qm_tape vm_taped vm_at vm_token vm_place vm_value vm_word vm_bad vm_badPlace vm_fault vm_faultPlace qm_lines qm_has qm_round qm_meets fm_meets qm_stumble qm_isMud qm_cell qm_tune qm_change qm_isKept qm_steps qm_places qm_danced vm_runMost vm_runBegins qm_heardBy vm_fitMany vm_fitFirst vm_fitBeats vm_listenLeaves qm_there vm_metAt vm_metIn qm_wins vm_nightHoles vm_nightFirst vm_nightMud vm_nightSlips vm_drawnNow a1 a2 1 h_vm_taped h_vm_at h_vm_value h_a2 (by decide) H.size) (cwV 3 hts gX12_winsFrom_X12_isPlay rfl rfl rfl (by decide +kernel) ⟨by show 1 + 1 ≤ d + 1 + 2; omega, by show 8 + (4 + 11) + 21 ≤ 44 + 24 * (d + 1); omega⟩) (ct_preV (T := ct_T cI cJ cB cZ cO) (ci := 12) (q0 := 0) hE hH hP hD hS hA [0, 1] (by decide) rfl rfl rfl) rfl rfl hl.1 rfl (lv_room (Nat.le_of_ble_eq_true rfl)) dX12_winsFrom_48 ⟨Nat.le_of_ble_eq_true rfl, Nat.le_of_ble_eq_true rfl⟩) hP hD hS hA [0, 1] [2] rfl rfl (by decide) (by decide) (fun r368 u H locs hw hP hD hS => ?_)
            obtain ⟨hP, hD⟩ : ct_B D A H [(qm_wins, .inl (cI, 24576, .inl (g341))), mo qm vm_thrown qm_width qm_many qm_cells qm_moved qm_tape vm_taped vm_at vm_token vm_place vm_value vm_word vm_bad vm_badPlace vm_fault vm_faultPlace qm_lines qm_has qm_round qm_meets qm_stumble qm_isMud qm_cell qm_tune qm_change qm_isKept qm_steps qm_places qm_danced vm_runMost vm_runBegins qm_heardBy vm_fitMany vm_fitFirst vm_fitBeats vm_listenLeaves qm_there vm_metAt vm_metIn qm_wins vm_nightHoles vm_nightFirst vm_nightMud vm_nightSlips vm_drawnNow, (qm_meets, .inl (cI, 30, .inl (fm_meets)))] := ⟨hP, hD⟩
            have hz := hw
            clear hw
            rcases hz with ⟨hz, hz2⟩ | ⟨hz, hz2⟩
            · subst hz
              have hz_369 : (pl a1 (1 : Int32)) := hz2
              refine lv_if_eq (tgt := 78) hx hb dX12_winsFrom_51 (by decide) (fun hc => absurd hc (by decide)) (fun _ => ?_)
              refine lv_aload_n hx hb dX12_winsFrom_54 rfl (lv_at hl 2 rfl) ?_
              refine lv_iload_n hx hb dX12_winsFrom_55 rfl (lv_at hl 3 rfl) ?_
              refine lv_iconst (v := 1) hx hb dX12_winsFrom_56 (by decide) ?_
              refine lv_iconst (v := 2) hx hb dX12_winsFrom_57 (by decide) ?_
              refine lv_iload hx hb dX12_winsFrom_58 (lv_at hl 0 rfl) ?_
              refine lv_imul hx hb dX12_winsFrom_60 ?_
              refine lv_topi (fun z370 ez370 => ?_)
              obtain rfl : z370 = 2 := ez370.trans (by decide)
              refine lv_ishl hx hb dX12_winsFrom_61 ?_
              refine lv_topi (fun z371 ez371 => ?_)
              obtain rfl : z371 = 4 := ez371.trans (by decide)
              refine lv_iadd hx hb dX12_winsFrom_62 ?_
              refine lv_topi (fun z372 ez372 => ?_)
              have fz372 : z372.toInt = a1.toInt + 4 := by rw [ez372]; exact tq_add rfl (by decide) (by omega)
              refine lv_iload hx hb dX12_winsFrom_63 (lv_at hl 0 rfl) ?_
              refine ct_calli (D := D) (wr := []) (va_runV (As := [.int z372, .int 1]) (rest := []) ⟨hx, hb, hml, hown, hts⟩ (ih g341 z372 1 (by decide) (wn_step h_w 1 (by decide) (t := 1) (by decide) hz_369 (by omega)) H.size) (cwV 2 hts gX12_winsFrom_X12_winsFrom rfl rfl rfl (by decide +kernel) ⟨Nat.le_refl _, by show 8 + (5 + 11) + (44 + 24 * d) ≤ 44 + 24 * (d + 1); omega⟩) (ct_preV (T := ct_T cI cJ cB cZ cO) (ci := 12) (q0 := 1) hE hH hP hD hS hA [1, 2, 0] (by decide) rfl rfl rfl) rfl rfl hl.1 rfl (lv_room (Nat.le_of_ble_eq_true rfl)) dX12_winsFrom_65 ⟨Nat.le_of_ble_eq_true rfl, Nat.le_of_ble_eq_true rfl⟩) hP hD hS hA [1, 2, 0] [] rfl rfl (by decide) (by decide) (fun r373 u H locs hw hP hD hS => ?_)
              obtain ⟨g374, rfl⟩ : ∃ z, z = u := ⟨_, rfl⟩
              obtain ⟨hP, hD⟩ : ct_B D A H [mo qm vm_thrown qm_width qm_many qm_cells qm_moved qm_tape vm_taped vm_at vm_token vm_place vm_value vm_word vm_bad vm_badPlace vm_fault vm_faultPlace qm_lines qm_has qm_round qm_meets qm_stumble qm_isMud qm_cell qm_tune qm_change qm_isKept qm_steps qm_places qm_danced vm_runMost vm_runBegins qm_heardBy vm_fitMany vm_fitFirst vm_fitBeats vm_listenLeaves qm_there vm_metAt vm_metIn qm_wins vm_nightHoles vm_nightFirst vm_nightMud vm_nightSlips vm_drawnNow, (qm_meets, .inl (cI, 30, .inl (fm_meets))), (qm_wins, .inl (cI, 24576, .inl (g374)))] := ⟨hP, hD⟩
              have hz := hw
              clear hw
              rcases hz with ⟨hz, hz2⟩ | ⟨hz, hz2⟩
              · subst hz
                refine lv_if_ne (tgt := 78) hx hb dX12_winsFrom_68 (by decide) (fun _ => ?_) (fun hc => absurd hc (by decide))
                refine lv_iinc (v := 2) (lv' := [(4, .int 2), (3, .int z130), (0, .ref qm), (1, .int a1), (2, .int a2)]) hx hb dX12_winsFrom_78 hl (k := 0) rfl (by decide) (by decide) rfl (fun ls hl => ?_)
                refine lv_goto (tgt := 26) hx hb dX12_winsFrom_81 (by decide) ?_
                have hk375 : (2 : Int32).toInt = 2 := by decide
                exact ih343 (g374, (2 : Int32)) _ _ _ (show (6 - (2 : Int32).toInt).toNat < (6 - x342.toInt).toNat by omega) ⟨(show 0 ≤ (2 : Int32).toInt ∧ (2 : Int32).toInt ≤ 6 by decide), ⟨hP, hD⟩, hS, lv_sub hl [0, 1, 2, 3, 4] rfl⟩
              · subst hz
                refine lv_if_ne (tgt := 78) hx hb dX12_winsFrom_68 (by decide) (fun hc => absurd hc (by decide)) (fun _ => ?_)
                refine lv_aload_n hx hb dX12_winsFrom_71 rfl (lv_at hl 2 rfl) ?_
                refine va_get (D := D) (ci := 12) (v := .ref qm_wins) (C := RX12) (T := TX12) (N := 45) hx hb hts hi12 hown hK hP 0 rfl rfl 39 (by decide) (hts (.fieldLink RX12 77 "OverHillModel" "wins" "[I") (by decide +kernel)) (fun _ h9 => h9) rfl dX12_winsFrom_72 ?_
                refine lv_iload_n hx hb dX12_winsFrom_75 rfl (lv_at hl 1 rfl) ?_
                refine lv_iconst (v := 1) hx hb dX12_winsFrom_76 (by decide) ?_
                refine va_iast (D := D) hx hb hK hP hD hS 2 0 rfl rfl (tq_in rfl (by omega)) dX12_winsFrom_77 (fun H locs hP hD hS => ?_)
                obtain ⟨g376, hP, hD⟩ : ∃ g376 : Nat → Int32, ct_B D A H [mo qm vm_thrown qm_width qm_many qm_cells qm_moved qm_tape vm_taped vm_at vm_token vm_place vm_value vm_word vm_bad vm_badPlace vm_fault vm_faultPlace qm_lines qm_has qm_round qm_meets qm_stumble qm_isMud qm_cell qm_tune qm_change qm_isKept qm_steps qm_places qm_danced vm_runMost vm_runBegins qm_heardBy vm_fitMany vm_fitFirst vm_fitBeats vm_listenLeaves qm_there vm_metAt vm_metIn qm_wins vm_nightHoles vm_nightFirst vm_nightMud vm_nightSlips vm_drawnNow, (qm_meets, .inl (cI, 30, .inl (fm_meets))), (qm_wins, .inl (cI, 24576, .inl (g376)))] := ⟨_, hP, hD⟩
                refine lv_iinc (v := 2) (lv' := [(4, .int 2), (3, .int z130), (0, .ref qm), (1, .int a1), (2, .int a2)]) hx hb dX12_winsFrom_78 hl (k := 0) rfl (by decide) (by decide) rfl (fun ls hl => ?_)
                refine lv_goto (tgt := 26) hx hb dX12_winsFrom_81 (by decide) ?_
                have hk377 : (2 : Int32).toInt = 2 := by decide
                exact ih343 (g376, (2 : Int32)) _ _ _ (show (6 - (2 : Int32).toInt).toNat < (6 - x342.toInt).toNat by omega) ⟨(show 0 ≤ (2 : Int32).toInt ∧ (2 : Int32).toInt ≤ 6 by decide), ⟨hP, hD⟩, hS, lv_sub hl [0, 1, 2, 3, 4] rfl⟩
            · subst hz
              refine lv_if_eq (tgt := 78) hx hb dX12_winsFrom_51 (by decide) (fun _ => ?_) (fun hc => absurd hc (by decide))
              refine lv_iinc (v := 2) (lv' := [(4, .int 2), (3, .int z130), (0, .ref qm), (1, .int a1), (2, .int a2)]) hx hb dX12_winsFrom_78 hl (k := 0) rfl (by decide) (by decide) rfl (fun ls hl => ?_)
              refine lv_goto (tgt := 26) hx hb dX12_winsFrom_81 (by decide) ?_
              have hk378 : (2 : Int32).toInt = 2 := by decide
              obtain ⟨hP9, hD9⟩ : ct_B D A H [mo qm vm_thrown qm_width qm_many qm_cells qm_moved qm_tape vm_taped vm_at vm_token vm_place vm_value vm_word vm_bad vm_badPlace vm_fault vm_faultPlace qm_lines qm_has qm_round qm_meets qm_stumble qm_isMud qm_cell qm_tune qm_change qm_isKept qm_steps qm_places qm_danced vm_runMost vm_runBegins qm_heardBy vm_fitMany vm_fitFirst vm_fitBeats vm_listenLeaves qm_there vm_metAt vm_metIn qm_wins vm_nightHoles vm_nightFirst vm_nightMud vm_nightSlips vm_drawnNow, (qm_meets, .inl (cI, 30, .inl (fm_meets))), (qm_wins, .inl (cI, 24576, .inl (g341)))] := ⟨hP.sub [1, 2, 0] rfl, hD.sub [1, 2, 0] (by decide) rfl⟩
              exact ih343 (g341, (2 : Int32)) _ _ _ (show (6 - (2 : Int32).toInt).toNat < (6 - x342.toInt).toNat by omega) ⟨(show 0 ≤ (2 : Int32).toInt ∧ (2 : Int32).toInt ≤ 6 by decide), ⟨hP9, hD9⟩, hS, lv_sub hl [0, 1, 2, 3, 4] rfl⟩
          · have hj2 : x342 = 2 := tq_of hj (by decide)
            have hl : lv_has ls 5 [(4, .int 2), (3, .int z130), (0, .ref qm), (1, .int a1), (2, .int a2)] := by have h9 := hl; rw [hj2] at h9; exact h9
            refine lv_aload_n hx hb dX12_winsFrom_43 rfl (lv_at hl 2 rfl) ?_
            refine lv_iload_n hx hb dX12_winsFrom_44 rfl (lv_at hl 3 rfl) ?_
            refine lv_iload_n hx hb dX12_winsFrom_45 rfl (lv_at hl 4 rfl) ?_
            refine lv_iload hx hb dX12_winsFrom_46 (lv_at hl 0 rfl) ?_
            refine ct_calli (D := D) (wr := [(qm_wins, .inl (cI, 24576, .inl (g341)))]) (va_runV (As := [.int a1, .int a2, .int 2]) (rest := []) ⟨hx, hb, hml, hown, hts⟩ (c_X12_isPlay l D G cI cJ cB cZ cO qm vm_thrown qm_width qm_many qm_cells qm_moved qm_tape vm_taped vm_at vm_token vm_place vm_value vm_word vm_bad vm_badPlace vm_fault vm_faultPlace qm_lines qm_has qm_round qm_meets fm_meets qm_stumble qm_isMud qm_cell qm_tune qm_change qm_isKept qm_steps qm_places qm_danced vm_runMost vm_runBegins qm_heardBy vm_fitMany vm_fitFirst vm_fitBeats vm_listenLeaves qm_there vm_metAt vm_metIn qm_wins vm_nightHoles vm_nightFirst vm_nightMud vm_nightSlips vm_drawnNow a1 a2 2 h_vm_taped h_vm_at h_vm_value h_a2 (by decide) H.size) (cwV 3 hts gX12_winsFrom_X12_isPlay rfl rfl rfl (by decide +kernel) ⟨by show 1 + 1 ≤ d + 1 + 2; omega, by show 8 + (4 + 11) + 21 ≤ 44 + 24 * (d + 1); omega⟩) (ct_preV (T := ct_T cI cJ cB cZ cO) (ci := 12) (q0 := 0) hE hH hP hD hS hA [0, 1] (by decide) rfl rfl rfl) rfl rfl hl.1 rfl (lv_room (Nat.le_of_ble_eq_true rfl)) dX12_winsFrom_48 ⟨Nat.le_of_ble_eq_true rfl, Nat.le_of_ble_eq_true rfl⟩) hP hD hS hA [0, 1] [2] rfl rfl (by decide) (by decide) (fun r379 u H locs hw hP hD hS => ?_)
            obtain ⟨hP, hD⟩ : ct_B D A H [(qm_wins, .inl (cI, 24576, .inl (g341))), mo qm vm_thrown qm_width qm_many qm_cells qm_moved qm_tape vm_taped vm_at vm_token vm_place vm_value vm_word vm_bad vm_badPlace vm_fault vm_faultPlace qm_lines qm_has qm_round qm_meets qm_stumble qm_isMud qm_cell qm_tune qm_change qm_isKept qm_steps qm_places qm_danced vm_runMost vm_runBegins qm_heardBy vm_fitMany vm_fitFirst vm_fitBeats vm_listenLeaves qm_there vm_metAt vm_metIn qm_wins vm_nightHoles vm_nightFirst vm_nightMud vm_nightSlips vm_drawnNow, (qm_meets, .inl (cI, 30, .inl (fm_meets)))] := ⟨hP, hD⟩
            have hz := hw
            clear hw
            rcases hz with ⟨hz, hz2⟩ | ⟨hz, hz2⟩
            · subst hz
              have hz_380 : (pl a1 (2 : Int32)) := hz2
              refine lv_if_eq (tgt := 78) hx hb dX12_winsFrom_51 (by decide) (fun hc => absurd hc (by decide)) (fun _ => ?_)
              refine lv_aload_n hx hb dX12_winsFrom_54 rfl (lv_at hl 2 rfl) ?_
              refine lv_iload_n hx hb dX12_winsFrom_55 rfl (lv_at hl 3 rfl) ?_
              refine lv_iconst (v := 1) hx hb dX12_winsFrom_56 (by decide) ?_
              refine lv_iconst (v := 2) hx hb dX12_winsFrom_57 (by decide) ?_
              refine lv_iload hx hb dX12_winsFrom_58 (lv_at hl 0 rfl) ?_
              refine lv_imul hx hb dX12_winsFrom_60 ?_
              refine lv_topi (fun z381 ez381 => ?_)
              obtain rfl : z381 = 4 := ez381.trans (by decide)
              refine lv_ishl hx hb dX12_winsFrom_61 ?_
              refine lv_topi (fun z382 ez382 => ?_)
              obtain rfl : z382 = 16 := ez382.trans (by decide)
              refine lv_iadd hx hb dX12_winsFrom_62 ?_
              refine lv_topi (fun z383 ez383 => ?_)
              have fz383 : z383.toInt = a1.toInt + 16 := by rw [ez383]; exact tq_add rfl (by decide) (by omega)
              refine lv_iload hx hb dX12_winsFrom_63 (lv_at hl 0 rfl) ?_
              refine ct_calli (D := D) (wr := []) (va_runV (As := [.int z383, .int 2]) (rest := []) ⟨hx, hb, hml, hown, hts⟩ (ih g341 z383 2 (by decide) (wn_step h_w 2 (by decide) (t := 2) (by decide) hz_380 (by omega)) H.size) (cwV 2 hts gX12_winsFrom_X12_winsFrom rfl rfl rfl (by decide +kernel) ⟨Nat.le_refl _, by show 8 + (5 + 11) + (44 + 24 * d) ≤ 44 + 24 * (d + 1); omega⟩) (ct_preV (T := ct_T cI cJ cB cZ cO) (ci := 12) (q0 := 1) hE hH hP hD hS hA [1, 2, 0] (by decide) rfl rfl rfl) rfl rfl hl.1 rfl (lv_room (Nat.le_of_ble_eq_true rfl)) dX12_winsFrom_65 ⟨Nat.le_of_ble_eq_true rfl, Nat.le_of_ble_eq_true rfl⟩) hP hD hS hA [1, 2, 0] [] rfl rfl (by decide) (by decide) (fun r384 u H locs hw hP hD hS => ?_)
              obtain ⟨g385, rfl⟩ : ∃ z, z = u := ⟨_, rfl⟩
              obtain ⟨hP, hD⟩ : ct_B D A H [mo qm vm_thrown qm_width qm_many qm_cells qm_moved qm_tape vm_taped vm_at vm_token vm_place vm_value vm_word vm_bad vm_badPlace vm_fault vm_faultPlace qm_lines qm_has qm_round qm_meets qm_stumble qm_isMud qm_cell qm_tune qm_change qm_isKept qm_steps qm_places qm_danced vm_runMost vm_runBegins qm_heardBy vm_fitMany vm_fitFirst vm_fitBeats vm_listenLeaves qm_there vm_metAt vm_metIn qm_wins vm_nightHoles vm_nightFirst vm_nightMud vm_nightSlips vm_drawnNow, (qm_meets, .inl (cI, 30, .inl (fm_meets))), (qm_wins, .inl (cI, 24576, .inl (g385)))] := ⟨hP, hD⟩
              have hz := hw
              clear hw
              rcases hz with ⟨hz, hz2⟩ | ⟨hz, hz2⟩
              · subst hz
                refine lv_if_ne (tgt := 78) hx hb dX12_winsFrom_68 (by decide) (fun _ => ?_) (fun hc => absurd hc (by decide))
                refine lv_iinc (v := 3) (lv' := [(4, .int 3), (3, .int z130), (0, .ref qm), (1, .int a1), (2, .int a2)]) hx hb dX12_winsFrom_78 hl (k := 0) rfl (by decide) (by decide) rfl (fun ls hl => ?_)
                refine lv_goto (tgt := 26) hx hb dX12_winsFrom_81 (by decide) ?_
                have hk386 : (3 : Int32).toInt = 3 := by decide
                exact ih343 (g385, (3 : Int32)) _ _ _ (show (6 - (3 : Int32).toInt).toNat < (6 - x342.toInt).toNat by omega) ⟨(show 0 ≤ (3 : Int32).toInt ∧ (3 : Int32).toInt ≤ 6 by decide), ⟨hP, hD⟩, hS, lv_sub hl [0, 1, 2, 3, 4] rfl⟩
              · subst hz
                refine lv_if_ne (tgt := 78) hx hb dX12_winsFrom_68 (by decide) (fun hc => absurd hc (by decide)) (fun _ => ?_)
                refine lv_aload_n hx hb dX12_winsFrom_71 rfl (lv_at hl 2 rfl) ?_
                refine va_get (D := D) (ci := 12) (v := .ref qm_wins) (C := RX12) (T := TX12) (N := 45) hx hb hts hi12 hown hK hP 0 rfl rfl 39 (by decide) (hts (.fieldLink RX12 77 "OverHillModel" "wins" "[I") (by decide +kernel)) (fun _ h9 => h9) rfl dX12_winsFrom_72 ?_
                refine lv_iload_n hx hb dX12_winsFrom_75 rfl (lv_at hl 1 rfl) ?_
                refine lv_iconst (v := 1) hx hb dX12_winsFrom_76 (by decide) ?_
                refine va_iast (D := D) hx hb hK hP hD hS 2 0 rfl rfl (tq_in rfl (by omega)) dX12_winsFrom_77 (fun H locs hP hD hS => ?_)
                obtain ⟨g387, hP, hD⟩ : ∃ g387 : Nat → Int32, ct_B D A H [mo qm vm_thrown qm_width qm_many qm_cells qm_moved qm_tape vm_taped vm_at vm_token vm_place vm_value vm_word vm_bad vm_badPlace vm_fault vm_faultPlace qm_lines qm_has qm_round qm_meets qm_stumble qm_isMud qm_cell qm_tune qm_change qm_isKept qm_steps qm_places qm_danced vm_runMost vm_runBegins qm_heardBy vm_fitMany vm_fitFirst vm_fitBeats vm_listenLeaves qm_there vm_metAt vm_metIn qm_wins vm_nightHoles vm_nightFirst vm_nightMud vm_nightSlips vm_drawnNow, (qm_meets, .inl (cI, 30, .inl (fm_meets))), (qm_wins, .inl (cI, 24576, .inl (g387)))] := ⟨_, hP, hD⟩
                refine lv_iinc (v := 3) (lv' := [(4, .int 3), (3, .int z130), (0, .ref qm), (1, .int a1), (2, .int a2)]) hx hb dX12_winsFrom_78 hl (k := 0) rfl (by decide) (by decide) rfl (fun ls hl => ?_)
                refine lv_goto (tgt := 26) hx hb dX12_winsFrom_81 (by decide) ?_
                have hk388 : (3 : Int32).toInt = 3 := by decide
                exact ih343 (g387, (3 : Int32)) _ _ _ (show (6 - (3 : Int32).toInt).toNat < (6 - x342.toInt).toNat by omega) ⟨(show 0 ≤ (3 : Int32).toInt ∧ (3 : Int32).toInt ≤ 6 by decide), ⟨hP, hD⟩, hS, lv_sub hl [0, 1, 2, 3, 4] rfl⟩
            · subst hz
              refine lv_if_eq (tgt := 78) hx hb dX12_winsFrom_51 (by decide) (fun _ => ?_) (fun hc => absurd hc (by decide))
              refine lv_iinc (v := 3) (lv' := [(4, .int 3), (3, .int z130), (0, .ref qm), (1, .int a1), (2, .int a2)]) hx hb dX12_winsFrom_78 hl (k := 0) rfl (by decide) (by decide) rfl (fun ls hl => ?_)
              refine lv_goto (tgt := 26) hx hb dX12_winsFrom_81 (by decide) ?_
              have hk389 : (3 : Int32).toInt = 3 := by decide
              obtain ⟨hP9, hD9⟩ : ct_B D A H [mo qm vm_thrown qm_width qm_many qm_cells qm_moved qm_tape vm_taped vm_at vm_token vm_place vm_value vm_word vm_bad vm_badPlace vm_fault vm_faultPlace qm_lines qm_has qm_round qm_meets qm_stumble qm_isMud qm_cell qm_tune qm_change qm_isKept qm_steps qm_places qm_danced vm_runMost vm_runBegins qm_heardBy vm_fitMany vm_fitFirst vm_fitBeats vm_listenLeaves qm_there vm_metAt vm_metIn qm_wins vm_nightHoles vm_nightFirst vm_nightMud vm_nightSlips vm_drawnNow, (qm_meets, .inl (cI, 30, .inl (fm_meets))), (qm_wins, .inl (cI, 24576, .inl (g341)))] := ⟨hP.sub [1, 2, 0] rfl, hD.sub [1, 2, 0] (by decide) rfl⟩
              exact ih343 (g341, (3 : Int32)) _ _ _ (show (6 - (3 : Int32).toInt).toNat < (6 - x342.toInt).toNat by omega) ⟨(show 0 ≤ (3 : Int32).toInt ∧ (3 : Int32).toInt ≤ 6 by decide), ⟨hP9, hD9⟩, hS, lv_sub hl [0, 1, 2, 3, 4] rfl⟩
          · have hj2 : x342 = 3 := tq_of hj (by decide)
            have hl : lv_has ls 5 [(4, .int 3), (3, .int z130), (0, .ref qm), (1, .int a1), (2, .int a2)] := by have h9 := hl; rw [hj2] at h9; exact h9
            refine lv_aload_n hx hb dX12_winsFrom_43 rfl (lv_at hl 2 rfl) ?_
            refine lv_iload_n hx hb dX12_winsFrom_44 rfl (lv_at hl 3 rfl) ?_
            refine lv_iload_n hx hb dX12_winsFrom_45 rfl (lv_at hl 4 rfl) ?_
            refine lv_iload hx hb dX12_winsFrom_46 (lv_at hl 0 rfl) ?_
            refine ct_calli (D := D) (wr := [(qm_wins, .inl (cI, 24576, .inl (g341)))]) (va_runV (As := [.int a1, .int a2, .int 3]) (rest := []) ⟨hx, hb, hml, hown, hts⟩ (c_X12_isPlay l D G cI cJ cB cZ cO qm vm_thrown qm_width qm_many qm_cells qm_moved qm_tape vm_taped vm_at vm_token vm_place vm_value vm_word vm_bad vm_badPlace vm_fault vm_faultPlace qm_lines qm_has qm_round qm_meets fm_meets qm_stumble qm_isMud qm_cell qm_tune qm_change qm_isKept qm_steps qm_places qm_danced vm_runMost vm_runBegins qm_heardBy vm_fitMany vm_fitFirst vm_fitBeats vm_listenLeaves qm_there vm_metAt vm_metIn qm_wins vm_nightHoles vm_nightFirst vm_nightMud vm_nightSlips vm_drawnNow a1 a2 3 h_vm_taped h_vm_at h_vm_value h_a2 (by decide) H.size) (cwV 3 hts gX12_winsFrom_X12_isPlay rfl rfl rfl (by decide +kernel) ⟨by show 1 + 1 ≤ d + 1 + 2; omega, by show 8 + (4 + 11) + 21 ≤ 44 + 24 * (d + 1); omega⟩) (ct_preV (T := ct_T cI cJ cB cZ cO) (ci := 12) (q0 := 0) hE hH hP hD hS hA [0, 1] (by decide) rfl rfl rfl) rfl rfl hl.1 rfl (lv_room (Nat.le_of_ble_eq_true rfl)) dX12_winsFrom_48 ⟨Nat.le_of_ble_eq_true rfl, Nat.le_of_ble_eq_true rfl⟩) hP hD hS hA [0, 1] [2] rfl rfl (by decide) (by decide) (fun r390 u H locs hw hP hD hS => ?_)
            obtain ⟨hP, hD⟩ : ct_B D A H [(qm_wins, .inl (cI, 24576, .inl (g341))), mo qm vm_thrown qm_width qm_many qm_cells qm_moved qm_tape vm_taped vm_at vm_token vm_place vm_value vm_word vm_bad vm_badPlace vm_fault vm_faultPlace qm_lines qm_has qm_round qm_meets qm_stumble qm_isMud qm_cell qm_tune qm_change qm_isKept qm_steps qm_places qm_danced vm_runMost vm_runBegins qm_heardBy vm_fitMany vm_fitFirst vm_fitBeats vm_listenLeaves qm_there vm_metAt vm_metIn qm_wins vm_nightHoles vm_nightFirst vm_nightMud vm_nightSlips vm_drawnNow, (qm_meets, .inl (cI, 30, .inl (fm_meets)))] := ⟨hP, hD⟩
            have hz := hw
            clear hw
            rcases hz with ⟨hz, hz2⟩ | ⟨hz, hz2⟩
            · subst hz
              have hz_391 : (pl a1 (3 : Int32)) := hz2
              refine lv_if_eq (tgt := 78) hx hb dX12_winsFrom_51 (by decide) (fun hc => absurd hc (by decide)) (fun _ => ?_)
              refine lv_aload_n hx hb dX12_winsFrom_54 rfl (lv_at hl 2 rfl) ?_
              refine lv_iload_n hx hb dX12_winsFrom_55 rfl (lv_at hl 3 rfl) ?_
              refine lv_iconst (v := 1) hx hb dX12_winsFrom_56 (by decide) ?_
              refine lv_iconst (v := 2) hx hb dX12_winsFrom_57 (by decide) ?_
              refine lv_iload hx hb dX12_winsFrom_58 (lv_at hl 0 rfl) ?_
              refine lv_imul hx hb dX12_winsFrom_60 ?_
              refine lv_topi (fun z392 ez392 => ?_)
              obtain rfl : z392 = 6 := ez392.trans (by decide)
              refine lv_ishl hx hb dX12_winsFrom_61 ?_
              refine lv_topi (fun z393 ez393 => ?_)
              obtain rfl : z393 = 64 := ez393.trans (by decide)
              refine lv_iadd hx hb dX12_winsFrom_62 ?_
              refine lv_topi (fun z394 ez394 => ?_)
              have fz394 : z394.toInt = a1.toInt + 64 := by rw [ez394]; exact tq_add rfl (by decide) (by omega)
              refine lv_iload hx hb dX12_winsFrom_63 (lv_at hl 0 rfl) ?_
              refine ct_calli (D := D) (wr := []) (va_runV (As := [.int z394, .int 3]) (rest := []) ⟨hx, hb, hml, hown, hts⟩ (ih g341 z394 3 (by decide) (wn_step h_w 3 (by decide) (t := 3) (by decide) hz_391 (by omega)) H.size) (cwV 2 hts gX12_winsFrom_X12_winsFrom rfl rfl rfl (by decide +kernel) ⟨Nat.le_refl _, by show 8 + (5 + 11) + (44 + 24 * d) ≤ 44 + 24 * (d + 1); omega⟩) (ct_preV (T := ct_T cI cJ cB cZ cO) (ci := 12) (q0 := 1) hE hH hP hD hS hA [1, 2, 0] (by decide) rfl rfl rfl) rfl rfl hl.1 rfl (lv_room (Nat.le_of_ble_eq_true rfl)) dX12_winsFrom_65 ⟨Nat.le_of_ble_eq_true rfl, Nat.le_of_ble_eq_true rfl⟩) hP hD hS hA [1, 2, 0] [] rfl rfl (by decide) (by decide) (fun r395 u H locs hw hP hD hS => ?_)
              obtain ⟨g396, rfl⟩ : ∃ z, z = u := ⟨_, rfl⟩
              obtain ⟨hP, hD⟩ : ct_B D A H [mo qm vm_thrown qm_width qm_many qm_cells qm_moved qm_tape vm_taped vm_at vm_token vm_place vm_value vm_word vm_bad vm_badPlace vm_fault vm_faultPlace qm_lines qm_has qm_round qm_meets qm_stumble qm_isMud qm_cell qm_tune qm_change qm_isKept qm_steps qm_places qm_danced vm_runMost vm_runBegins qm_heardBy vm_fitMany vm_fitFirst vm_fitBeats vm_listenLeaves qm_there vm_metAt vm_metIn qm_wins vm_nightHoles vm_nightFirst vm_nightMud vm_nightSlips vm_drawnNow, (qm_meets, .inl (cI, 30, .inl (fm_meets))), (qm_wins, .inl (cI, 24576, .inl (g396)))] := ⟨hP, hD⟩
              have hz := hw
              clear hw
              rcases hz with ⟨hz, hz2⟩ | ⟨hz, hz2⟩
              · subst hz
                refine lv_if_ne (tgt := 78) hx hb dX12_winsFrom_68 (by decide) (fun _ => ?_) (fun hc => absurd hc (by decide))
                refine lv_iinc (v := 4) (lv' := [(4, .int 4), (3, .int z130), (0, .ref qm), (1, .int a1), (2, .int a2)]) hx hb dX12_winsFrom_78 hl (k := 0) rfl (by decide) (by decide) rfl (fun ls hl => ?_)
                refine lv_goto (tgt := 26) hx hb dX12_winsFrom_81 (by decide) ?_
                have hk397 : (4 : Int32).toInt = 4 := by decide
                exact ih343 (g396, (4 : Int32)) _ _ _ (show (6 - (4 : Int32).toInt).toNat < (6 - x342.toInt).toNat by omega) ⟨(show 0 ≤ (4 : Int32).toInt ∧ (4 : Int32).toInt ≤ 6 by decide), ⟨hP, hD⟩, hS, lv_sub hl [0, 1, 2, 3, 4] rfl⟩
              · subst hz
                refine lv_if_ne (tgt := 78) hx hb dX12_winsFrom_68 (by decide) (fun hc => absurd hc (by decide)) (fun _ => ?_)
                refine lv_aload_n hx hb dX12_winsFrom_71 rfl (lv_at hl 2 rfl) ?_
                refine va_get (D := D) (ci := 12) (v := .ref qm_wins) (C := RX12) (T := TX12) (N := 45) hx hb hts hi12 hown hK hP 0 rfl rfl 39 (by decide) (hts (.fieldLink RX12 77 "OverHillModel" "wins" "[I") (by decide +kernel)) (fun _ h9 => h9) rfl dX12_winsFrom_72 ?_
                refine lv_iload_n hx hb dX12_winsFrom_75 rfl (lv_at hl 1 rfl) ?_
                refine lv_iconst (v := 1) hx hb dX12_winsFrom_76 (by decide) ?_
                refine va_iast (D := D) hx hb hK hP hD hS 2 0 rfl rfl (tq_in rfl (by omega)) dX12_winsFrom_77 (fun H locs hP hD hS => ?_)
                obtain ⟨g398, hP, hD⟩ : ∃ g398 : Nat → Int32, ct_B D A H [mo qm vm_thrown qm_width qm_many qm_cells qm_moved qm_tape vm_taped vm_at vm_token vm_place vm_value vm_word vm_bad vm_badPlace vm_fault vm_faultPlace qm_lines qm_has qm_round qm_meets qm_stumble qm_isMud qm_cell qm_tune qm_change qm_isKept qm_steps qm_places qm_danced vm_runMost vm_runBegins qm_heardBy vm_fitMany vm_fitFirst vm_fitBeats vm_listenLeaves qm_there vm_metAt vm_metIn qm_wins vm_nightHoles vm_nightFirst vm_nightMud vm_nightSlips vm_drawnNow, (qm_meets, .inl (cI, 30, .inl (fm_meets))), (qm_wins, .inl (cI, 24576, .inl (g398)))] := ⟨_, hP, hD⟩
                refine lv_iinc (v := 4) (lv' := [(4, .int 4), (3, .int z130), (0, .ref qm), (1, .int a1), (2, .int a2)]) hx hb dX12_winsFrom_78 hl (k := 0) rfl (by decide) (by decide) rfl (fun ls hl => ?_)
                refine lv_goto (tgt := 26) hx hb dX12_winsFrom_81 (by decide) ?_
                have hk399 : (4 : Int32).toInt = 4 := by decide
                exact ih343 (g398, (4 : Int32)) _ _ _ (show (6 - (4 : Int32).toInt).toNat < (6 - x342.toInt).toNat by omega) ⟨(show 0 ≤ (4 : Int32).toInt ∧ (4 : Int32).toInt ≤ 6 by decide), ⟨hP, hD⟩, hS, lv_sub hl [0, 1, 2, 3, 4] rfl⟩
            · subst hz
              refine lv_if_eq (tgt := 78) hx hb dX12_winsFrom_51 (by decide) (fun _ => ?_) (fun hc => absurd hc (by decide))
              refine lv_iinc (v := 4) (lv' := [(4, .int 4), (3, .int z130), (0, .ref qm), (1, .int a1), (2, .int a2)]) hx hb dX12_winsFrom_78 hl (k := 0) rfl (by decide) (by decide) rfl (fun ls hl => ?_)
              refine lv_goto (tgt := 26) hx hb dX12_winsFrom_81 (by decide) ?_
              have hk400 : (4 : Int32).toInt = 4 := by decide
              obtain ⟨hP9, hD9⟩ : ct_B D A H [mo qm vm_thrown qm_width qm_many qm_cells qm_moved qm_tape vm_taped vm_at vm_token vm_place vm_value vm_word vm_bad vm_badPlace vm_fault vm_faultPlace qm_lines qm_has qm_round qm_meets qm_stumble qm_isMud qm_cell qm_tune qm_change qm_isKept qm_steps qm_places qm_danced vm_runMost vm_runBegins qm_heardBy vm_fitMany vm_fitFirst vm_fitBeats vm_listenLeaves qm_there vm_metAt vm_metIn qm_wins vm_nightHoles vm_nightFirst vm_nightMud vm_nightSlips vm_drawnNow, (qm_meets, .inl (cI, 30, .inl (fm_meets))), (qm_wins, .inl (cI, 24576, .inl (g341)))] := ⟨hP.sub [1, 2, 0] rfl, hD.sub [1, 2, 0] (by decide) rfl⟩
              exact ih343 (g341, (4 : Int32)) _ _ _ (show (6 - (4 : Int32).toInt).toNat < (6 - x342.toInt).toNat by omega) ⟨(show 0 ≤ (4 : Int32).toInt ∧ (4 : Int32).toInt ≤ 6 by decide), ⟨hP9, hD9⟩, hS, lv_sub hl [0, 1, 2, 3, 4] rfl⟩
          · have hj2 : x342 = 4 := tq_of hj (by decide)
            have hl : lv_has ls 5 [(4, .int 4), (3, .int z130), (0, .ref qm), (1, .int a1), (2, .int a2)] := by have h9 := hl; rw [hj2] at h9; exact h9
            refine lv_aload_n hx hb dX12_winsFrom_43 rfl (lv_at hl 2 rfl) ?_
            refine lv_iload_n hx hb dX12_winsFrom_44 rfl (lv_at hl 3 rfl) ?_
            refine lv_iload_n hx hb dX12_winsFrom_45 rfl (lv_at hl 4 rfl) ?_
            refine lv_iload hx hb dX12_winsFrom_46 (lv_at hl 0 rfl) ?_
            refine ct_calli (D := D) (wr := [(qm_wins, .inl (cI, 24576, .inl (g341)))]) (va_runV (As := [.int a1, .int a2, .int 4]) (rest := []) ⟨hx, hb, hml, hown, hts⟩ (c_X12_isPlay l D G cI cJ cB cZ cO qm vm_thrown qm_width qm_many qm_cells qm_moved qm_tape vm_taped vm_at vm_token vm_place vm_value vm_word vm_bad vm_badPlace vm_fault vm_faultPlace qm_lines qm_has qm_round qm_meets fm_meets qm_stumble qm_isMud qm_cell qm_tune qm_change qm_isKept qm_steps qm_places qm_danced vm_runMost vm_runBegins qm_heardBy vm_fitMany vm_fitFirst vm_fitBeats vm_listenLeaves qm_there vm_metAt vm_metIn qm_wins vm_nightHoles vm_nightFirst vm_nightMud vm_nightSlips vm_drawnNow a1 a2 4 h_vm_taped h_vm_at h_vm_value h_a2 (by decide) H.size) (cwV 3 hts gX12_winsFrom_X12_isPlay rfl rfl rfl (by decide +kernel) ⟨by show 1 + 1 ≤ d + 1 + 2; omega, by show 8 + (4 + 11) + 21 ≤ 44 + 24 * (d + 1); omega⟩) (ct_preV (T := ct_T cI cJ cB cZ cO) (ci := 12) (q0 := 0) hE hH hP hD hS hA [0, 1] (by decide) rfl rfl rfl) rfl rfl hl.1 rfl (lv_room (Nat.le_of_ble_eq_true rfl)) dX12_winsFrom_48 ⟨Nat.le_of_ble_eq_true rfl, Nat.le_of_ble_eq_true rfl⟩) hP hD hS hA [0, 1] [2] rfl rfl (by decide) (by decide) (fun r401 u H locs hw hP hD hS => ?_)
            obtain ⟨hP, hD⟩ : ct_B D A H [(qm_wins, .inl (cI, 24576, .inl (g341))), mo qm vm_thrown qm_width qm_many qm_cells qm_moved qm_tape vm_taped vm_at vm_token vm_place vm_value vm_word vm_bad vm_badPlace vm_fault vm_faultPlace qm_lines qm_has qm_round qm_meets qm_stumble qm_isMud qm_cell qm_tune qm_change qm_isKept qm_steps qm_places qm_danced vm_runMost vm_runBegins qm_heardBy vm_fitMany vm_fitFirst vm_fitBeats vm_listenLeaves qm_there vm_metAt vm_metIn qm_wins vm_nightHoles vm_nightFirst vm_nightMud vm_nightSlips vm_drawnNow, (qm_meets, .inl (cI, 30, .inl (fm_meets)))] := ⟨hP, hD⟩
            have hz := hw
            clear hw
            rcases hz with ⟨hz, hz2⟩ | ⟨hz, hz2⟩
            · subst hz
              have hz_402 : (pl a1 (4 : Int32)) := hz2
              refine lv_if_eq (tgt := 78) hx hb dX12_winsFrom_51 (by decide) (fun hc => absurd hc (by decide)) (fun _ => ?_)
              refine lv_aload_n hx hb dX12_winsFrom_54 rfl (lv_at hl 2 rfl) ?_
              refine lv_iload_n hx hb dX12_winsFrom_55 rfl (lv_at hl 3 rfl) ?_
              refine lv_iconst (v := 1) hx hb dX12_winsFrom_56 (by decide) ?_
              refine lv_iconst (v := 2) hx hb dX12_winsFrom_57 (by decide) ?_
              refine lv_iload hx hb dX12_winsFrom_58 (lv_at hl 0 rfl) ?_
              refine lv_imul hx hb dX12_winsFrom_60 ?_
              refine lv_topi (fun z403 ez403 => ?_)
              obtain rfl : z403 = 8 := ez403.trans (by decide)
              refine lv_ishl hx hb dX12_winsFrom_61 ?_
              refine lv_topi (fun z404 ez404 => ?_)
              obtain rfl : z404 = 256 := ez404.trans (by decide)
              refine lv_iadd hx hb dX12_winsFrom_62 ?_
              refine lv_topi (fun z405 ez405 => ?_)
              have fz405 : z405.toInt = a1.toInt + 256 := by rw [ez405]; exact tq_add rfl (by decide) (by omega)
              refine lv_iload hx hb dX12_winsFrom_63 (lv_at hl 0 rfl) ?_
              refine ct_calli (D := D) (wr := []) (va_runV (As := [.int z405, .int 4]) (rest := []) ⟨hx, hb, hml, hown, hts⟩ (ih g341 z405 4 (by decide) (wn_step h_w 4 (by decide) (t := 4) (by decide) hz_402 (by omega)) H.size) (cwV 2 hts gX12_winsFrom_X12_winsFrom rfl rfl rfl (by decide +kernel) ⟨Nat.le_refl _, by show 8 + (5 + 11) + (44 + 24 * d) ≤ 44 + 24 * (d + 1); omega⟩) (ct_preV (T := ct_T cI cJ cB cZ cO) (ci := 12) (q0 := 1) hE hH hP hD hS hA [1, 2, 0] (by decide) rfl rfl rfl) rfl rfl hl.1 rfl (lv_room (Nat.le_of_ble_eq_true rfl)) dX12_winsFrom_65 ⟨Nat.le_of_ble_eq_true rfl, Nat.le_of_ble_eq_true rfl⟩) hP hD hS hA [1, 2, 0] [] rfl rfl (by decide) (by decide) (fun r406 u H locs hw hP hD hS => ?_)
              obtain ⟨g407, rfl⟩ : ∃ z, z = u := ⟨_, rfl⟩
              obtain ⟨hP, hD⟩ : ct_B D A H [mo qm vm_thrown qm_width qm_many qm_cells qm_moved qm_tape vm_taped vm_at vm_token vm_place vm_value vm_word vm_bad vm_badPlace vm_fault vm_faultPlace qm_lines qm_has qm_round qm_meets qm_stumble qm_isMud qm_cell qm_tune qm_change qm_isKept qm_steps qm_places qm_danced vm_runMost vm_runBegins qm_heardBy vm_fitMany vm_fitFirst vm_fitBeats vm_listenLeaves qm_there vm_metAt vm_metIn qm_wins vm_nightHoles vm_nightFirst vm_nightMud vm_nightSlips vm_drawnNow, (qm_meets, .inl (cI, 30, .inl (fm_meets))), (qm_wins, .inl (cI, 24576, .inl (g407)))] := ⟨hP, hD⟩
              have hz := hw
              clear hw
              rcases hz with ⟨hz, hz2⟩ | ⟨hz, hz2⟩
              · subst hz
                refine lv_if_ne (tgt := 78) hx hb dX12_winsFrom_68 (by decide) (fun _ => ?_) (fun hc => absurd hc (by decide))
                refine lv_iinc (v := 5) (lv' := [(4, .int 5), (3, .int z130), (0, .ref qm), (1, .int a1), (2, .int a2)]) hx hb dX12_winsFrom_78 hl (k := 0) rfl (by decide) (by decide) rfl (fun ls hl => ?_)
                refine lv_goto (tgt := 26) hx hb dX12_winsFrom_81 (by decide) ?_
                have hk408 : (5 : Int32).toInt = 5 := by decide
                exact ih343 (g407, (5 : Int32)) _ _ _ (show (6 - (5 : Int32).toInt).toNat < (6 - x342.toInt).toNat by omega) ⟨(show 0 ≤ (5 : Int32).toInt ∧ (5 : Int32).toInt ≤ 6 by decide), ⟨hP, hD⟩, hS, lv_sub hl [0, 1, 2, 3, 4] rfl⟩
              · subst hz
                refine lv_if_ne (tgt := 78) hx hb dX12_winsFrom_68 (by decide) (fun hc => absurd hc (by decide)) (fun _ => ?_)
                refine lv_aload_n hx hb dX12_winsFrom_71 rfl (lv_at hl 2 rfl) ?_
                refine va_get (D := D) (ci := 12) (v := .ref qm_wins) (C := RX12) (T := TX12) (N := 45) hx hb hts hi12 hown hK hP 0 rfl rfl 39 (by decide) (hts (.fieldLink RX12 77 "OverHillModel" "wins" "[I") (by decide +kernel)) (fun _ h9 => h9) rfl dX12_winsFrom_72 ?_
                refine lv_iload_n hx hb dX12_winsFrom_75 rfl (lv_at hl 1 rfl) ?_
                refine lv_iconst (v := 1) hx hb dX12_winsFrom_76 (by decide) ?_
                refine va_iast (D := D) hx hb hK hP hD hS 2 0 rfl rfl (tq_in rfl (by omega)) dX12_winsFrom_77 (fun H locs hP hD hS => ?_)
                obtain ⟨g409, hP, hD⟩ : ∃ g409 : Nat → Int32, ct_B D A H [mo qm vm_thrown qm_width qm_many qm_cells qm_moved qm_tape vm_taped vm_at vm_token vm_place vm_value vm_word vm_bad vm_badPlace vm_fault vm_faultPlace qm_lines qm_has qm_round qm_meets qm_stumble qm_isMud qm_cell qm_tune qm_change qm_isKept qm_steps qm_places qm_danced vm_runMost vm_runBegins qm_heardBy vm_fitMany vm_fitFirst vm_fitBeats vm_listenLeaves qm_there vm_metAt vm_metIn qm_wins vm_nightHoles vm_nightFirst vm_nightMud vm_nightSlips vm_drawnNow, (qm_meets, .inl (cI, 30, .inl (fm_meets))), (qm_wins, .inl (cI, 24576, .inl (g409)))] := ⟨_, hP, hD⟩
                refine lv_iinc (v := 5) (lv' := [(4, .int 5), (3, .int z130), (0, .ref qm), (1, .int a1), (2, .int a2)]) hx hb dX12_winsFrom_78 hl (k := 0) rfl (by decide) (by decide) rfl (fun ls hl => ?_)
                refine lv_goto (tgt := 26) hx hb dX12_winsFrom_81 (by decide) ?_
                have hk410 : (5 : Int32).toInt = 5 := by decide
                exact ih343 (g409, (5 : Int32)) _ _ _ (show (6 - (5 : Int32).toInt).toNat < (6 - x342.toInt).toNat by omega) ⟨(show 0 ≤ (5 : Int32).toInt ∧ (5 : Int32).toInt ≤ 6 by decide), ⟨hP, hD⟩, hS, lv_sub hl [0, 1, 2, 3, 4] rfl⟩
            · subst hz
              refine lv_if_eq (tgt := 78) hx hb dX12_winsFrom_51 (by decide) (fun _ => ?_) (fun hc => absurd hc (by decide))
              refine lv_iinc (v := 5) (lv' := [(4, .int 5), (3, .int z130), (0, .ref qm), (1, .int a1), (2, .int a2)]) hx hb dX12_winsFrom_78 hl (k := 0) rfl (by decide) (by decide) rfl (fun ls hl => ?_)
              refine lv_goto (tgt := 26) hx hb dX12_winsFrom_81 (by decide) ?_
              have hk411 : (5 : Int32).toInt = 5 := by decide
              obtain ⟨hP9, hD9⟩ : ct_B D A H [mo qm vm_thrown qm_width qm_many qm_cells qm_moved qm_tape vm_taped vm_at vm_token vm_place vm_value vm_word vm_bad vm_badPlace vm_fault vm_faultPlace qm_lines qm_has qm_round qm_meets qm_stumble qm_isMud qm_cell qm_tune qm_change qm_isKept qm_steps qm_places qm_danced vm_runMost vm_runBegins qm_heardBy vm_fitMany vm_fitFirst vm_fitBeats vm_listenLeaves qm_there vm_metAt vm_metIn qm_wins vm_nightHoles vm_nightFirst vm_nightMud vm_nightSlips vm_drawnNow, (qm_meets, .inl (cI, 30, .inl (fm_meets))), (qm_wins, .inl (cI, 24576, .inl (g341)))] := ⟨hP.sub [1, 2, 0] rfl, hD.sub [1, 2, 0] (by decide) rfl⟩
              exact ih343 (g341, (5 : Int32)) _ _ _ (show (6 - (5 : Int32).toInt).toNat < (6 - x342.toInt).toNat by omega) ⟨(show 0 ≤ (5 : Int32).toInt ∧ (5 : Int32).toInt ≤ 6 by decide), ⟨hP9, hD9⟩, hS, lv_sub hl [0, 1, 2, 3, 4] rfl⟩
          · have hj2 : x342 = 5 := tq_of hj (by decide)
            have hl : lv_has ls 5 [(4, .int 5), (3, .int z130), (0, .ref qm), (1, .int a1), (2, .int a2)] := by have h9 := hl; rw [hj2] at h9; exact h9
            refine lv_aload_n hx hb dX12_winsFrom_43 rfl (lv_at hl 2 rfl) ?_
            refine lv_iload_n hx hb dX12_winsFrom_44 rfl (lv_at hl 3 rfl) ?_
            refine lv_iload_n hx hb dX12_winsFrom_45 rfl (lv_at hl 4 rfl) ?_
            refine lv_iload hx hb dX12_winsFrom_46 (lv_at hl 0 rfl) ?_
            refine ct_calli (D := D) (wr := [(qm_wins, .inl (cI, 24576, .inl (g341)))]) (va_runV (As := [.int a1, .int a2, .int 5]) (rest := []) ⟨hx, hb, hml, hown, hts⟩ (c_X12_isPlay l D G cI cJ cB cZ cO qm vm_thrown qm_width qm_many qm_cells qm_moved qm_tape vm_taped vm_at vm_token vm_place vm_value vm_word vm_bad vm_badPlace vm_fault vm_faultPlace qm_lines qm_has qm_round qm_meets fm_meets qm_stumble qm_isMud qm_cell qm_tune qm_change qm_isKept qm_steps qm_places qm_danced vm_runMost vm_runBegins qm_heardBy vm_fitMany vm_fitFirst vm_fitBeats vm_listenLeaves qm_there vm_metAt vm_metIn qm_wins vm_nightHoles vm_nightFirst vm_nightMud vm_nightSlips vm_drawnNow a1 a2 5 h_vm_taped h_vm_at h_vm_value h_a2 (by decide) H.size) (cwV 3 hts gX12_winsFrom_X12_isPlay rfl rfl rfl (by decide +kernel) ⟨by show 1 + 1 ≤ d + 1 + 2; omega, by show 8 + (4 + 11) + 21 ≤ 44 + 24 * (d + 1); omega⟩) (ct_preV (T := ct_T cI cJ cB cZ cO) (ci := 12) (q0 := 0) hE hH hP hD hS hA [0, 1] (by decide) rfl rfl rfl) rfl rfl hl.1 rfl (lv_room (Nat.le_of_ble_eq_true rfl)) dX12_winsFrom_48 ⟨Nat.le_of_ble_eq_true rfl, Nat.le_of_ble_eq_true rfl⟩) hP hD hS hA [0, 1] [2] rfl rfl (by decide) (by decide) (fun r412 u H locs hw hP hD hS => ?_)
            obtain ⟨hP, hD⟩ : ct_B D A H [(qm_wins, .inl (cI, 24576, .inl (g341))), mo qm vm_thrown qm_width qm_many qm_cells qm_moved qm_tape vm_taped vm_at vm_token vm_place vm_value vm_word vm_bad vm_badPlace vm_fault vm_faultPlace qm_lines qm_has qm_round qm_meets qm_stumble qm_isMud qm_cell qm_tune qm_change qm_isKept qm_steps qm_places qm_danced vm_runMost vm_runBegins qm_heardBy vm_fitMany vm_fitFirst vm_fitBeats vm_listenLeaves qm_there vm_metAt vm_metIn qm_wins vm_nightHoles vm_nightFirst vm_nightMud vm_nightSlips vm_drawnNow, (qm_meets, .inl (cI, 30, .inl (fm_meets)))] := ⟨hP, hD⟩
            have hz := hw
            clear hw
            rcases hz with ⟨hz, hz2⟩ | ⟨hz, hz2⟩
            · subst hz
              have hz_413 : (pl a1 (5 : Int32)) := hz2
              refine lv_if_eq (tgt := 78) hx hb dX12_winsFrom_51 (by decide) (fun hc => absurd hc (by decide)) (fun _ => ?_)
              refine lv_aload_n hx hb dX12_winsFrom_54 rfl (lv_at hl 2 rfl) ?_
              refine lv_iload_n hx hb dX12_winsFrom_55 rfl (lv_at hl 3 rfl) ?_
              refine lv_iconst (v := 1) hx hb dX12_winsFrom_56 (by decide) ?_
              refine lv_iconst (v := 2) hx hb dX12_winsFrom_57 (by decide) ?_
              refine lv_iload hx hb dX12_winsFrom_58 (lv_at hl 0 rfl) ?_
              refine lv_imul hx hb dX12_winsFrom_60 ?_
              refine lv_topi (fun z414 ez414 => ?_)
              obtain rfl : z414 = 10 := ez414.trans (by decide)
              refine lv_ishl hx hb dX12_winsFrom_61 ?_
              refine lv_topi (fun z415 ez415 => ?_)
              obtain rfl : z415 = 1024 := ez415.trans (by decide)
              refine lv_iadd hx hb dX12_winsFrom_62 ?_
              refine lv_topi (fun z416 ez416 => ?_)
              have fz416 : z416.toInt = a1.toInt + 1024 := by rw [ez416]; exact tq_add rfl (by decide) (by omega)
              refine lv_iload hx hb dX12_winsFrom_63 (lv_at hl 0 rfl) ?_
              refine ct_calli (D := D) (wr := []) (va_runV (As := [.int z416, .int 5]) (rest := []) ⟨hx, hb, hml, hown, hts⟩ (ih g341 z416 5 (by decide) (wn_step h_w 5 (by decide) (t := 5) (by decide) hz_413 (by omega)) H.size) (cwV 2 hts gX12_winsFrom_X12_winsFrom rfl rfl rfl (by decide +kernel) ⟨Nat.le_refl _, by show 8 + (5 + 11) + (44 + 24 * d) ≤ 44 + 24 * (d + 1); omega⟩) (ct_preV (T := ct_T cI cJ cB cZ cO) (ci := 12) (q0 := 1) hE hH hP hD hS hA [1, 2, 0] (by decide) rfl rfl rfl) rfl rfl hl.1 rfl (lv_room (Nat.le_of_ble_eq_true rfl)) dX12_winsFrom_65 ⟨Nat.le_of_ble_eq_true rfl, Nat.le_of_ble_eq_true rfl⟩) hP hD hS hA [1, 2, 0] [] rfl rfl (by decide) (by decide) (fun r417 u H locs hw hP hD hS => ?_)
              obtain ⟨g418, rfl⟩ : ∃ z, z = u := ⟨_, rfl⟩
              obtain ⟨hP, hD⟩ : ct_B D A H [mo qm vm_thrown qm_width qm_many qm_cells qm_moved qm_tape vm_taped vm_at vm_token vm_place vm_value vm_word vm_bad vm_badPlace vm_fault vm_faultPlace qm_lines qm_has qm_round qm_meets qm_stumble qm_isMud qm_cell qm_tune qm_change qm_isKept qm_steps qm_places qm_danced vm_runMost vm_runBegins qm_heardBy vm_fitMany vm_fitFirst vm_fitBeats vm_listenLeaves qm_there vm_metAt vm_metIn qm_wins vm_nightHoles vm_nightFirst vm_nightMud vm_nightSlips vm_drawnNow, (qm_meets, .inl (cI, 30, .inl (fm_meets))), (qm_wins, .inl (cI, 24576, .inl (g418)))] := ⟨hP, hD⟩
              have hz := hw
              clear hw
              rcases hz with ⟨hz, hz2⟩ | ⟨hz, hz2⟩
              · subst hz
                refine lv_if_ne (tgt := 78) hx hb dX12_winsFrom_68 (by decide) (fun _ => ?_) (fun hc => absurd hc (by decide))
                refine lv_iinc (v := 6) (lv' := [(4, .int 6), (3, .int z130), (0, .ref qm), (1, .int a1), (2, .int a2)]) hx hb dX12_winsFrom_78 hl (k := 0) rfl (by decide) (by decide) rfl (fun ls hl => ?_)
                refine lv_goto (tgt := 26) hx hb dX12_winsFrom_81 (by decide) ?_
                have hk419 : (6 : Int32).toInt = 6 := by decide
                exact ih343 (g418, (6 : Int32)) _ _ _ (show (6 - (6 : Int32).toInt).toNat < (6 - x342.toInt).toNat by omega) ⟨(show 0 ≤ (6 : Int32).toInt ∧ (6 : Int32).toInt ≤ 6 by decide), ⟨hP, hD⟩, hS, lv_sub hl [0, 1, 2, 3, 4] rfl⟩
              · subst hz
                refine lv_if_ne (tgt := 78) hx hb dX12_winsFrom_68 (by decide) (fun hc => absurd hc (by decide)) (fun _ => ?_)
                refine lv_aload_n hx hb dX12_winsFrom_71 rfl (lv_at hl 2 rfl) ?_
                refine va_get (D := D) (ci := 12) (v := .ref qm_wins) (C := RX12) (T := TX12) (N := 45) hx hb hts hi12 hown hK hP 0 rfl rfl 39 (by decide) (hts (.fieldLink RX12 77 "OverHillModel" "wins" "[I") (by decide +kernel)) (fun _ h9 => h9) rfl dX12_winsFrom_72 ?_
                refine lv_iload_n hx hb dX12_winsFrom_75 rfl (lv_at hl 1 rfl) ?_
                refine lv_iconst (v := 1) hx hb dX12_winsFrom_76 (by decide) ?_
                refine va_iast (D := D) hx hb hK hP hD hS 2 0 rfl rfl (tq_in rfl (by omega)) dX12_winsFrom_77 (fun H locs hP hD hS => ?_)
                obtain ⟨g420, hP, hD⟩ : ∃ g420 : Nat → Int32, ct_B D A H [mo qm vm_thrown qm_width qm_many qm_cells qm_moved qm_tape vm_taped vm_at vm_token vm_place vm_value vm_word vm_bad vm_badPlace vm_fault vm_faultPlace qm_lines qm_has qm_round qm_meets qm_stumble qm_isMud qm_cell qm_tune qm_change qm_isKept qm_steps qm_places qm_danced vm_runMost vm_runBegins qm_heardBy vm_fitMany vm_fitFirst vm_fitBeats vm_listenLeaves qm_there vm_metAt vm_metIn qm_wins vm_nightHoles vm_nightFirst vm_nightMud vm_nightSlips vm_drawnNow, (qm_meets, .inl (cI, 30, .inl (fm_meets))), (qm_wins, .inl (cI, 24576, .inl (g420)))] := ⟨_, hP, hD⟩
                refine lv_iinc (v := 6) (lv' := [(4, .int 6), (3, .int z130), (0, .ref qm), (1, .int a1), (2, .int a2)]) hx hb dX12_winsFrom_78 hl (k := 0) rfl (by decide) (by decide) rfl (fun ls hl => ?_)
                refine lv_goto (tgt := 26) hx hb dX12_winsFrom_81 (by decide) ?_
                have hk421 : (6 : Int32).toInt = 6 := by decide
                exact ih343 (g420, (6 : Int32)) _ _ _ (show (6 - (6 : Int32).toInt).toNat < (6 - x342.toInt).toNat by omega) ⟨(show 0 ≤ (6 : Int32).toInt ∧ (6 : Int32).toInt ≤ 6 by decide), ⟨hP, hD⟩, hS, lv_sub hl [0, 1, 2, 3, 4] rfl⟩
            · subst hz
              refine lv_if_eq (tgt := 78) hx hb dX12_winsFrom_51 (by decide) (fun _ => ?_) (fun hc => absurd hc (by decide))
              refine lv_iinc (v := 6) (lv' := [(4, .int 6), (3, .int z130), (0, .ref qm), (1, .int a1), (2, .int a2)]) hx hb dX12_winsFrom_78 hl (k := 0) rfl (by decide) (by decide) rfl (fun ls hl => ?_)
              refine lv_goto (tgt := 26) hx hb dX12_winsFrom_81 (by decide) ?_
              have hk422 : (6 : Int32).toInt = 6 := by decide
              obtain ⟨hP9, hD9⟩ : ct_B D A H [mo qm vm_thrown qm_width qm_many qm_cells qm_moved qm_tape vm_taped vm_at vm_token vm_place vm_value vm_word vm_bad vm_badPlace vm_fault vm_faultPlace qm_lines qm_has qm_round qm_meets qm_stumble qm_isMud qm_cell qm_tune qm_change qm_isKept qm_steps qm_places qm_danced vm_runMost vm_runBegins qm_heardBy vm_fitMany vm_fitFirst vm_fitBeats vm_listenLeaves qm_there vm_metAt vm_metIn qm_wins vm_nightHoles vm_nightFirst vm_nightMud vm_nightSlips vm_drawnNow, (qm_meets, .inl (cI, 30, .inl (fm_meets))), (qm_wins, .inl (cI, 24576, .inl (g341)))] := ⟨hP.sub [1, 2, 0] rfl, hD.sub [1, 2, 0] (by decide) rfl⟩
              exact ih343 (g341, (6 : Int32)) _ _ _ (show (6 - (6 : Int32).toInt).toNat < (6 - x342.toInt).toNat by omega) ⟨(show 0 ≤ (6 : Int32).toInt ∧ (6 : Int32).toInt ≤ 6 by decide), ⟨hP9, hD9⟩, hS, lv_sub hl [0, 1, 2, 3, 4] rfl⟩
abbrev w_c_X12_game (cI cJ cB cZ cO : ClassId) (qm : Nat) (vm_thrown : Int32) (qm_width : Nat) (qm_many : Nat) (qm_cells : Nat) (qm_moved : Nat) (qm_tape : Nat) (vm_taped : Int32) (vm_at : Int32) (vm_token : Int32) (vm_place : Int32) (vm_value : Int32) (vm_word : Int64) (vm_bad : Int32) (vm_badPlace : Int32) (vm_fault : Int32) (vm_faultPlace : Int32) (qm_lines : Nat) (fm_lines : Nat → Int32) (qm_has : Nat) (qm_round : Nat) (qm_meets : Nat) (fm_meets : Nat → Int32) (qm_stumble : Nat) (qm_isMud : Nat) (qm_cell : Nat) (qm_tune : Nat) (qm_change : Nat) (qm_isKept : Nat) (qm_steps : Nat) (qm_places : Nat) (qm_danced : Nat) (vm_runMost : Int32) (vm_runBegins : Int32) (qm_heardBy : Nat) (vm_fitMany : Int32) (vm_fitFirst : Int32) (vm_fitBeats : Int64) (vm_listenLeaves : Int32) (qm_there : Nat) (vm_metAt : Int32) (vm_metIn : Int32) (qm_wins : Nat) (fm_wins : Nat → Int32) (vm_nightHoles : Int32) (vm_nightFirst : Int32) (vm_nightMud : Int32) (vm_nightSlips : Int32) (vm_drawnNow : Int64) : va_W := [mo qm vm_thrown qm_width qm_many qm_cells qm_moved qm_tape vm_taped vm_at vm_token vm_place vm_value vm_word vm_bad vm_badPlace vm_fault vm_faultPlace qm_lines qm_has qm_round qm_meets qm_stumble qm_isMud qm_cell qm_tune qm_change qm_isKept qm_steps qm_places qm_danced vm_runMost vm_runBegins qm_heardBy vm_fitMany vm_fitFirst vm_fitBeats vm_listenLeaves qm_there vm_metAt vm_metIn qm_wins vm_nightHoles vm_nightFirst vm_nightMud vm_nightSlips vm_drawnNow, (qm_lines, .inl (cI, 5, .inl (fm_lines))), (qm_meets, .inl (cI, 30, .inl (fm_meets))), (qm_wins, .inl (cI, 24576, .inl (fm_wins)))]
set_option maxHeartbeats 4000000 in
set_option maxRecDepth 100000 in
/-- X12 game -/
theorem c_X12_game (l : Launch) (D : va_G) (G : ct_G) (cI cJ cB cZ cO : ClassId) (qm : Nat) (vm_thrown : Int32) (qm_width : Nat) (qm_many : Nat) (qm_cells : Nat) (qm_moved : Nat) (qm_tape : Nat) (vm_taped : Int32) (vm_at : Int32) (vm_token : Int32) (vm_place : Int32) (vm_value : Int32) (vm_word : Int64) (vm_bad : Int32) (vm_badPlace : Int32) (vm_fault : Int32) (vm_faultPlace : Int32) (qm_lines : Nat) (fm_lines : Nat → Int32) (qm_has : Nat) (qm_round : Nat) (qm_meets : Nat) (fm_meets : Nat → Int32) (qm_stumble : Nat) (qm_isMud : Nat) (qm_cell : Nat) (qm_tune : Nat) (qm_change : Nat) (qm_isKept : Nat) (qm_steps : Nat) (qm_places : Nat) (qm_danced : Nat) (vm_runMost : Int32) (vm_runBegins : Int32) (qm_heardBy : Nat) (vm_fitMany : Int32) (vm_fitFirst : Int32) (vm_fitBeats : Int64) (vm_listenLeaves : Int32) (qm_there : Nat) (vm_metAt : Int32) (vm_metIn : Int32) (qm_wins : Nat) (fm_wins : Nat → Int32) (vm_nightHoles : Int32) (vm_nightFirst : Int32) (vm_nightMud : Int32) (vm_nightSlips : Int32) (vm_drawnNow : Int64) (a1 : Int32) (h_vm_taped : 0 ≤ vm_taped.toInt ∧ vm_taped.toInt ≤ 1200) (h_vm_at : 0 ≤ vm_at.toInt ∧ vm_at.toInt ≤ 1200) (h_vm_value : 0 ≤ vm_value.toInt ∧ vm_value.toInt ≤ 1000009) (sz : Nat) : Met l yX12_game wsX12_game ({ frames := 15, cells := 0, slots := 0, locals := 356 }) (va_Pc [.ref qm, .int a1] (ct_P D (ct_T cI cJ cB cZ cO) G (w_c_X12_game cI cJ cB cZ cO qm vm_thrown qm_width qm_many qm_cells qm_moved qm_tape vm_taped vm_at vm_token vm_place vm_value vm_word vm_bad vm_badPlace vm_fault vm_faultPlace qm_lines fm_lines qm_has qm_round qm_meets fm_meets qm_stumble qm_isMud qm_cell qm_tune qm_change qm_isKept qm_steps qm_places qm_danced vm_runMost vm_runBegins qm_heardBy vm_fitMany vm_fitFirst vm_fitBeats vm_listenLeaves qm_there vm_metAt vm_metIn qm_wins fm_wins vm_nightHoles vm_nightFirst vm_nightMud vm_nightSlips vm_drawnNow) sz)) (va_Qi (fun (rz : Int32) (u : Int32 × (Nat → Int32)) => ((-2) ≤ rz.toInt ∧ rz.toInt ≤ 1)) (fun (u : Int32 × (Nat → Int32)) t => ct_Q D (va_A (w_c_X12_game cI cJ cB cZ cO qm vm_thrown qm_width qm_many qm_cells qm_moved qm_tape vm_taped vm_at vm_token vm_place vm_value vm_word vm_bad vm_badPlace vm_fault vm_faultPlace qm_lines fm_lines qm_has qm_round qm_meets fm_meets qm_stumble qm_isMud qm_cell qm_tune qm_change qm_isKept qm_steps qm_places qm_danced vm_runMost vm_runBegins qm_heardBy vm_fitMany vm_fitFirst vm_fitBeats vm_listenLeaves qm_there vm_metAt vm_metIn qm_wins fm_wins vm_nightHoles vm_nightFirst vm_nightMud vm_nightSlips vm_drawnNow) sz) [mo qm u.1 qm_width qm_many qm_cells qm_moved qm_tape vm_taped vm_at vm_token vm_place vm_value vm_word vm_bad vm_badPlace vm_fault vm_faultPlace qm_lines qm_has qm_round qm_meets qm_stumble qm_isMud qm_cell qm_tune qm_change qm_isKept qm_steps qm_places qm_danced vm_runMost vm_runBegins qm_heardBy vm_fitMany vm_fitFirst vm_fitBeats vm_listenLeaves qm_there vm_metAt vm_metIn qm_wins vm_nightHoles vm_nightFirst vm_nightMud vm_nightSlips vm_drawnNow, (qm_lines, .inl (cI, 5, .inl (fm_lines))), (qm_meets, .inl (cI, 30, .inl (fm_meets))), (qm_wins, .inl (cI, 24576, .inl (u.2)))] t) (va_A (w_c_X12_game cI cJ cB cZ cO qm vm_thrown qm_width qm_many qm_cells qm_moved qm_tape vm_taped vm_at vm_token vm_place vm_value vm_word vm_bad vm_badPlace vm_fault vm_faultPlace qm_lines fm_lines qm_has qm_round qm_meets fm_meets qm_stumble qm_isMud qm_cell qm_tune qm_change qm_isKept qm_steps qm_places qm_danced vm_runMost vm_runBegins qm_heardBy vm_fitMany vm_fitFirst vm_fitBeats vm_listenLeaves qm_there vm_metAt vm_metIn qm_wins fm_wins vm_nightHoles vm_nightFirst vm_nightMud vm_nightSlips vm_drawnNow) sz)) 0 0 (va_A (w_c_X12_game cI cJ cB cZ cO qm vm_thrown qm_width qm_many qm_cells qm_moved qm_tape vm_taped vm_at vm_token vm_place vm_value vm_word vm_bad vm_badPlace vm_fault vm_faultPlace qm_lines fm_lines qm_has qm_round qm_meets fm_meets qm_stumble qm_isMud qm_cell qm_tune qm_change qm_isKept qm_steps qm_places qm_danced vm_runMost vm_runBegins qm_heardBy vm_fitMany vm_fitFirst vm_fitBeats vm_listenLeaves qm_there vm_metAt vm_metIn qm_wins fm_wins vm_nightHoles vm_nightFirst vm_nightMud vm_nightSlips vm_drawnNow) sz) := by
  refine Met.ofW (cc := cX12_game) (maxL := 2) (ret := (some .int)) (by decide) rfl ?_
  intro p e s m args below meth c s₁ B hml hv
  obtain ⟨rfl, hsz, hP, hE, hD0, hH⟩ := hv
  have hx := B.exec
  have hb := B.bytes
  have hr := B.returns
  have hts := atoms_spec (ws := wsX12_game) B.pre
  have hown : s.vm.findClass RX12 = some m.cls := findClass_of_methodNamed B.named
  have hlocks := B.notSynchronized
  have hK := hE.1
  have hi12 : ∀ w ∈ u_ws RX12 TX12 45, w ∈ wsX12_game := fun w h => List.mem_cons_of_mem _ (List.mem_append_right _ h)
  subst hsz
  have hD := hD0.self (sz := s.heap.size)
  generalize hAe : va_A (w_c_X12_game cI cJ cB cZ cO qm vm_thrown qm_width qm_many qm_cells qm_moved qm_tape vm_taped vm_at vm_token vm_place vm_value vm_word vm_bad vm_badPlace vm_fault vm_faultPlace qm_lines fm_lines qm_has qm_round qm_meets fm_meets qm_stumble qm_isMud qm_cell qm_tune qm_change qm_isKept qm_steps qm_places qm_danced vm_runMost vm_runBegins qm_heardBy vm_fitMany vm_fitFirst vm_fitBeats vm_listenLeaves qm_there vm_metAt vm_metIn qm_wins fm_wins vm_nightHoles vm_nightFirst vm_nightMud vm_nightSlips vm_drawnNow) s.heap.size = A at hD hH ⊢
  have hA : ∀ q : Nat, s.heap.size ≤ q → A q := fun q h => by rw [← hAe]; exact Or.inr h
  have hS : va_S A s.heap s.heap [] := va_S.rf
  obtain ⟨hP, hD⟩ : ct_B D A s.heap [mo qm vm_thrown qm_width qm_many qm_cells qm_moved qm_tape vm_taped vm_at vm_token vm_place vm_value vm_word vm_bad vm_badPlace vm_fault vm_faultPlace qm_lines qm_has qm_round qm_meets qm_stumble qm_isMud qm_cell qm_tune qm_change qm_isKept qm_steps qm_places qm_danced vm_runMost vm_runBegins qm_heardBy vm_fitMany vm_fitFirst vm_fitBeats vm_listenLeaves qm_there vm_metAt vm_metIn qm_wins vm_nightHoles vm_nightFirst vm_nightMud vm_nightSlips vm_drawnNow, (qm_lines, .inl (cI, 5, .inl (fm_lines))), (qm_meets, .inl (cI, 30, .inl (fm_meets))), (qm_wins, .inl (cI, 24576, .inl (fm_wins)))] := ⟨hP, hD⟩
  have hl := lv_entry ([.ref qm, .int a1]) (n := 2) (Nat.le_of_ble_eq_true rfl)
  rw [lg_entry_eq]
  generalize (lg_sl ([.ref qm, .int a1]) ++ List.replicate (2 - (lg_sl ([.ref qm, .int a1])).length) Slot.unset).toArray = ls at hl ⊢
  have hl : lv_has ls 2 [(0, .ref qm), (1, .int a1)] := hl
  obtain ⟨H, hHe⟩ : ∃ H : Heap, H = s.heap := ⟨_, rfl⟩
  rw [← hHe] at hP
  have hS : va_S A s.heap H [] := by rw [hHe]; exact va_S.rf
  refine ct_start hHe ?_
  refine lv_aload_n hx hb dX12_game_0 rfl (lv_at hl 0 rfl) ?_
  refine lv_iconst (v := 0) hx hb dX12_game_1 (by decide) ?_
  refine va_put (D := D) (ci := 12) (v := .int 0) (ty := .int) (C := RX12) (T := TX12) (N := 45) hx hb hts hi12 tyX12 tyX12_ok nmX12 hown hK hP hD hS 0 rfl rfl 0 (by decide) (hts (.fieldLink RX12 80 "OverHillModel" "thrown" "I") (by decide +kernel)) (fun _ h9 => h9) rfl (by decide +kernel) rfl rfl (Nat.le_of_ble_eq_true rfl) dX12_game_2 (fun H locs hP hD hS => ?_)
  obtain ⟨hP, hD⟩ : ct_B D A H [mo qm 0 qm_width qm_many qm_cells qm_moved qm_tape vm_taped vm_at vm_token vm_place vm_value vm_word vm_bad vm_badPlace vm_fault vm_faultPlace qm_lines qm_has qm_round qm_meets qm_stumble qm_isMud qm_cell qm_tune qm_change qm_isKept qm_steps qm_places qm_danced vm_runMost vm_runBegins qm_heardBy vm_fitMany vm_fitFirst vm_fitBeats vm_listenLeaves qm_there vm_metAt vm_metIn qm_wins vm_nightHoles vm_nightFirst vm_nightMud vm_nightSlips vm_drawnNow, (qm_lines, .inl (cI, 5, .inl (fm_lines))), (qm_meets, .inl (cI, 30, .inl (fm_meets))), (qm_wins, .inl (cI, 24576, .inl (fm_wins)))] := ⟨hP, hD⟩
  refine lv_aload_n hx hb dX12_game_5 rfl (lv_at hl 0 rfl) ?_
  refine ct_calli (D := D) (wr := [(qm_meets, .inl (cI, 30, .inl (fm_meets))), (qm_wins, .inl (cI, 24576, .inl (fm_wins)))]) (va_runV (As := []) (rest := []) ⟨hx, hb, hml, hown, hts⟩ (c_X12_isDance l D G cI cJ cB cZ cO qm 0 qm_width qm_many qm_cells qm_moved qm_tape vm_taped vm_at vm_token vm_place vm_value vm_word vm_bad vm_badPlace vm_fault vm_faultPlace qm_lines fm_lines qm_has qm_round qm_meets qm_stumble qm_isMud qm_cell qm_tune qm_change qm_isKept qm_steps qm_places qm_danced vm_runMost vm_runBegins qm_heardBy vm_fitMany vm_fitFirst vm_fitBeats vm_listenLeaves qm_there vm_metAt vm_metIn qm_wins vm_nightHoles vm_nightFirst vm_nightMud vm_nightSlips vm_drawnNow h_vm_taped h_vm_at h_vm_value H.size) (cwV 0 hts gX12_game_X12_isDance rfl rfl rfl (by decide +kernel) ⟨Nat.le_of_ble_eq_true rfl, Nat.le_of_ble_eq_true rfl⟩) (ct_preV (T := ct_T cI cJ cB cZ cO) (ci := 12) (q0 := 0) hE hH hP hD hS hA [0, 1] (by decide) rfl rfl rfl) rfl rfl hl.1 rfl (lv_room (Nat.le_of_ble_eq_true rfl)) dX12_game_6 ⟨Nat.le_of_ble_eq_true rfl, Nat.le_of_ble_eq_true rfl⟩) hP hD hS hA [0, 1] [2, 3] rfl rfl (by decide) (by decide) (fun r1 u H locs hw hP hD hS => ?_)
  obtain ⟨hP, hD⟩ : ct_B D A H [(qm_meets, .inl (cI, 30, .inl (fm_meets))), (qm_wins, .inl (cI, 24576, .inl (fm_wins))), mo qm 0 qm_width qm_many qm_cells qm_moved qm_tape vm_taped vm_at vm_token vm_place vm_value vm_word vm_bad vm_badPlace vm_fault vm_faultPlace qm_lines qm_has qm_round qm_meets qm_stumble qm_isMud qm_cell qm_tune qm_change qm_isKept qm_steps qm_places qm_danced vm_runMost vm_runBegins qm_heardBy vm_fitMany vm_fitFirst vm_fitBeats vm_listenLeaves qm_there vm_metAt vm_metIn qm_wins vm_nightHoles vm_nightFirst vm_nightMud vm_nightSlips vm_drawnNow, (qm_lines, .inl (cI, 5, .inl (fm_lines)))] := ⟨hP, hD⟩
  have hz := hw
  clear hw
  rcases hz with ⟨hz, hz2⟩ | ⟨hz, hz2⟩
  · subst hz
    refine lv_if_eq (tgt := 20) hx hb dX12_game_9 (by decide) (fun hc => absurd hc (by decide)) (fun _ => ?_)
    refine lv_iload_n hx hb dX12_game_12 rfl (lv_at hl 1 rfl) ?_
    refine lv_i2l (v := _) hx hb dX12_game_13 rfl ?_
    refine lv_topl (fun z2 ez2 => ?_)
    have fz2 : z2.toInt = a1.toInt := by rw [ez2]; exact tl_i rfl
    have hb3 := tq_lo a1
    refine ct_calli (D := D) (wr := [(qm_meets, .inl (cI, 30, .inl (fm_meets))), (qm_wins, .inl (cI, 24576, .inl (fm_wins))), mo qm 0 qm_width qm_many qm_cells qm_moved qm_tape vm_taped vm_at vm_token vm_place vm_value vm_word vm_bad vm_badPlace vm_fault vm_faultPlace qm_lines qm_has qm_round qm_meets qm_stumble qm_isMud qm_cell qm_tune qm_change qm_isKept qm_steps qm_places qm_danced vm_runMost vm_runBegins qm_heardBy vm_fitMany vm_fitFirst vm_fitBeats vm_listenLeaves qm_there vm_metAt vm_metIn qm_wins vm_nightHoles vm_nightFirst vm_nightMud vm_nightSlips vm_drawnNow, (qm_lines, .inl (cI, 5, .inl (fm_lines)))]) (va_runS (As := [.long z2]) (rest := []) ⟨hx, hb, hml, hown, hts⟩ (c_X12_isStep l D G cI cJ cB cZ cO z2  H.size) (va_cwS 1 hts gX12_game_X12_isStep rfl rfl rfl (by decide +kernel) ⟨Nat.le_of_ble_eq_true rfl, Nat.le_of_ble_eq_true rfl⟩) (ct_preS (T := ct_T cI cJ cB cZ cO) hE hH hP hD hS hA [] (by decide) rfl) rfl rfl hl.1 rfl (lv_room (Nat.le_of_ble_eq_true rfl)) dX12_game_14 ⟨Nat.le_of_ble_eq_true rfl, Nat.le_of_ble_eq_true rfl⟩) hP hD hS hA [] [0, 1, 2, 3] rfl rfl (by decide) (by decide) (fun r4 u H locs hw hP hD hS => ?_)
    obtain ⟨hP, hD⟩ : ct_B D A H [(qm_meets, .inl (cI, 30, .inl (fm_meets))), (qm_wins, .inl (cI, 24576, .inl (fm_wins))), mo qm 0 qm_width qm_many qm_cells qm_moved qm_tape vm_taped vm_at vm_token vm_place vm_value vm_word vm_bad vm_badPlace vm_fault vm_faultPlace qm_lines qm_has qm_round qm_meets qm_stumble qm_isMud qm_cell qm_tune qm_change qm_isKept qm_steps qm_places qm_danced vm_runMost vm_runBegins qm_heardBy vm_fitMany vm_fitFirst vm_fitBeats vm_listenLeaves qm_there vm_metAt vm_metIn qm_wins vm_nightHoles vm_nightFirst vm_nightMud vm_nightSlips vm_drawnNow, (qm_lines, .inl (cI, 5, .inl (fm_lines)))] := ⟨hP, hD⟩
    have hz := hw
    clear hw
    rcases hz with ⟨hz, hz2⟩ | ⟨hz, hz2⟩
    · subst hz
      have hz_5 : (0 ≤ z2.toInt ∧ z2.toInt ≤ 5) := hz2
      refine lv_if_ne (tgt := 23) hx hb dX12_game_17 (by decide) (fun _ => ?_) (fun hc => absurd hc (by decide))
      refine lv_aload_n hx hb dX12_game_23 rfl (lv_at hl 0 rfl) ?_
      refine ct_callv (D := D) (wr := [(qm_meets, .inl (cI, 30, .inl (fm_meets))), (qm_lines, .inl (cI, 5, .inl (fm_lines)))]) (va_runV (As := []) (rest := []) ⟨hx, hb, hml, hown, hts⟩ (c_X12_laysGame l D G cI cJ cB cZ cO qm 0 qm_width qm_many qm_cells qm_moved qm_tape vm_taped vm_at vm_token vm_place vm_value vm_word vm_bad vm_badPlace vm_fault vm_faultPlace qm_lines qm_has qm_round qm_meets qm_stumble qm_isMud qm_cell qm_tune qm_change qm_isKept qm_steps qm_places qm_danced vm_runMost vm_runBegins qm_heardBy vm_fitMany vm_fitFirst vm_fitBeats vm_listenLeaves qm_there vm_metAt vm_metIn qm_wins fm_wins vm_nightHoles vm_nightFirst vm_nightMud vm_nightSlips vm_drawnNow h_vm_taped h_vm_at h_vm_value H.size) (cwV 0 hts gX12_game_X12_laysGame rfl rfl rfl (by decide +kernel) ⟨Nat.le_of_ble_eq_true rfl, Nat.le_of_ble_eq_true rfl⟩) (ct_preV (T := ct_T cI cJ cB cZ cO) (ci := 12) (q0 := 2) hE hH hP hD hS hA [2, 1] (by decide) rfl rfl rfl) rfl rfl hl.1 rfl (lv_room (Nat.le_of_ble_eq_true rfl)) dX12_game_24 ⟨Nat.le_of_ble_eq_true rfl, Nat.le_of_ble_eq_true rfl⟩) hP hD hS hA [2, 1] [0, 3] rfl rfl (by decide) (by decide) (fun u H locs hw hP hD hS => ?_)
      obtain ⟨g6, rfl⟩ : ∃ z, z = u := ⟨_, rfl⟩
      obtain ⟨hP, hD⟩ : ct_B D A H [(qm_meets, .inl (cI, 30, .inl (fm_meets))), (qm_lines, .inl (cI, 5, .inl (fm_lines))), mo qm 0 qm_width qm_many qm_cells qm_moved qm_tape vm_taped vm_at vm_token vm_place vm_value vm_word vm_bad vm_badPlace vm_fault vm_faultPlace qm_lines qm_has qm_round qm_meets qm_stumble qm_isMud qm_cell qm_tune qm_change qm_isKept qm_steps qm_places qm_danced vm_runMost vm_runBegins qm_heardBy vm_fitMany vm_fitFirst vm_fitBeats vm_listenLeaves qm_there vm_metAt vm_metIn qm_wins vm_nightHoles vm_nightFirst vm_nightMud vm_nightSlips vm_drawnNow, (qm_wins, .inl (cI, 24576, .inl (g6)))] := ⟨hP, hD⟩
      rcases (show a1.toInt = 0 ∨ a1.toInt = 1 ∨ a1.toInt = 2 ∨ a1.toInt = 3 ∨ a1.toInt = 4 ∨ a1.toInt = 5 by omega) with hj | hj | hj | hj | hj | hj
      · have hj2 : a1 = 0 := tq_of hj (by decide)
        have hl : lv_has ls 2 [(0, .ref qm), (1, .int 0)] := by have h9 := hl; rw [hj2] at h9; exact h9
        refine lv_aload_n hx hb dX12_game_27 rfl (lv_at hl 0 rfl) ?_
        refine lv_iconst (v := 1) hx hb dX12_game_28 (by decide) ?_
        refine lv_iconst (v := 2) hx hb dX12_game_29 (by decide) ?_
        refine lv_iload_n hx hb dX12_game_30 rfl (lv_at hl 1 rfl) ?_
        refine lv_imul hx hb dX12_game_31 ?_
        refine lv_topi (fun z7 ez7 => ?_)
        obtain rfl : z7 = 0 := ez7.trans (by decide)
        refine lv_ishl hx hb dX12_game_32 ?_
        refine lv_topi (fun z8 ez8 => ?_)
        obtain rfl : z8 = 1 := ez8.trans (by decide)
        refine lv_iload_n hx hb dX12_game_33 rfl (lv_at hl 1 rfl) ?_
        refine ct_calli (D := D) (wr := [(qm_lines, .inl (cI, 5, .inl (fm_lines)))]) (va_runV (As := [.int 1, .int 0]) (rest := []) ⟨hx, hb, hml, hown, hts⟩ (c_X12_winsFrom l D G cI cJ cB cZ cO qm 0 qm_width qm_many qm_cells qm_moved qm_tape vm_taped vm_at vm_token vm_place vm_value vm_word vm_bad vm_badPlace vm_fault vm_faultPlace qm_lines qm_has qm_round qm_meets fm_meets qm_stumble qm_isMud qm_cell qm_tune qm_change qm_isKept qm_steps qm_places qm_danced vm_runMost vm_runBegins qm_heardBy vm_fitMany vm_fitFirst vm_fitBeats vm_listenLeaves qm_there vm_metAt vm_metIn qm_wins vm_nightHoles vm_nightFirst vm_nightMud vm_nightSlips vm_drawnNow h_vm_taped h_vm_at h_vm_value 12 g6 1 0 (by decide) (by unfold wn; decide +kernel) H.size) (cwV 2 hts gX12_game_X12_winsFrom rfl rfl rfl (by decide +kernel) ⟨Nat.le_of_ble_eq_true rfl, Nat.le_of_ble_eq_true rfl⟩) (ct_preV (T := ct_T cI cJ cB cZ cO) (ci := 12) (q0 := 2) hE hH hP hD hS hA [2, 0, 3] (by decide) rfl rfl rfl) rfl rfl hl.1 rfl (lv_room (Nat.le_of_ble_eq_true rfl)) dX12_game_34 ⟨Nat.le_of_ble_eq_true rfl, Nat.le_of_ble_eq_true rfl⟩) hP hD hS hA [2, 0, 3] [1] rfl rfl (by decide) (by decide) (fun r9 u H locs hw hP hD hS => ?_)
        obtain ⟨g10, rfl⟩ : ∃ z, z = u := ⟨_, rfl⟩
        obtain ⟨hP, hD⟩ : ct_B D A H [(qm_lines, .inl (cI, 5, .inl (fm_lines))), mo qm 0 qm_width qm_many qm_cells qm_moved qm_tape vm_taped vm_at vm_token vm_place vm_value vm_word vm_bad vm_badPlace vm_fault vm_faultPlace qm_lines qm_has qm_round qm_meets qm_stumble qm_isMud qm_cell qm_tune qm_change qm_isKept qm_steps qm_places qm_danced vm_runMost vm_runBegins qm_heardBy vm_fitMany vm_fitFirst vm_fitBeats vm_listenLeaves qm_there vm_metAt vm_metIn qm_wins vm_nightHoles vm_nightFirst vm_nightMud vm_nightSlips vm_drawnNow, (qm_meets, .inl (cI, 30, .inl (fm_meets))), (qm_wins, .inl (cI, 24576, .inl (g10)))] := ⟨hP, hD⟩
        have hz := hw
        clear hw
        rcases hz with ⟨hz, hz2⟩ | ⟨hz, hz2⟩
        · subst hz
          refine lv_if_eq (tgt := 44) hx hb dX12_game_37 (by decide) (fun hc => absurd hc (by decide)) (fun _ => ?_)
          refine lv_iconst (v := 1) hx hb dX12_game_40 (by decide) ?_
          refine lv_goto (tgt := 45) hx hb dX12_game_41 (by decide) ?_
          obtain ⟨hP9, hD9⟩ : ct_B D A H [mo qm 0 qm_width qm_many qm_cells qm_moved qm_tape vm_taped vm_at vm_token vm_place vm_value vm_word vm_bad vm_badPlace vm_fault vm_faultPlace qm_lines qm_has qm_round qm_meets qm_stumble qm_isMud qm_cell qm_tune qm_change qm_isKept qm_steps qm_places qm_danced vm_runMost vm_runBegins qm_heardBy vm_fitMany vm_fitFirst vm_fitBeats vm_listenLeaves qm_there vm_metAt vm_metIn qm_wins vm_nightHoles vm_nightFirst vm_nightMud vm_nightSlips vm_drawnNow, (qm_lines, .inl (cI, 5, .inl (fm_lines))), (qm_meets, .inl (cI, 30, .inl (fm_meets))), (qm_wins, .inl (cI, 24576, .inl (g10)))] := ⟨hP.sub [1, 0, 2, 3] rfl, hD.sub [1, 0, 2, 3] (by decide) rfl⟩
          exact W.iret (v := 1) hx hb hr (fun t ht hW => ⟨⟨1, ((0 : Int32), g10), rfl, (show (-2) ≤ (1 : Int32).toInt ∧ (1 : Int32).toInt ≤ 1 by decide), by rw [ht]; exact hP9, hD9⟩, hS.F ht⟩) hS.2.2 dX12_game_45
        · subst hz
          refine lv_if_eq (tgt := 44) hx hb dX12_game_37 (by decide) (fun _ => ?_) (fun hc => absurd hc (by decide))
          refine lv_iconst (v := 0) hx hb dX12_game_44 (by decide) ?_
          obtain ⟨hP9, hD9⟩ : ct_B D A H [mo qm 0 qm_width qm_many qm_cells qm_moved qm_tape vm_taped vm_at vm_token vm_place vm_value vm_word vm_bad vm_badPlace vm_fault vm_faultPlace qm_lines qm_has qm_round qm_meets qm_stumble qm_isMud qm_cell qm_tune qm_change qm_isKept qm_steps qm_places qm_danced vm_runMost vm_runBegins qm_heardBy vm_fitMany vm_fitFirst vm_fitBeats vm_listenLeaves qm_there vm_metAt vm_metIn qm_wins vm_nightHoles vm_nightFirst vm_nightMud vm_nightSlips vm_drawnNow, (qm_lines, .inl (cI, 5, .inl (fm_lines))), (qm_meets, .inl (cI, 30, .inl (fm_meets))), (qm_wins, .inl (cI, 24576, .inl (g10)))] := ⟨hP.sub [1, 0, 2, 3] rfl, hD.sub [1, 0, 2, 3] (by decide) rfl⟩
          exact W.iret (v := 0) hx hb hr (fun t ht hW => ⟨⟨0, ((0 : Int32), g10), rfl, (show (-2) ≤ (0 : Int32).toInt ∧ (0 : Int32).toInt ≤ 1 by decide), by rw [ht]; exact hP9, hD9⟩, hS.F ht⟩) hS.2.2 dX12_game_45
      · have hj2 : a1 = 1 := tq_of hj (by decide)
        have hl : lv_has ls 2 [(0, .ref qm), (1, .int 1)] := by have h9 := hl; rw [hj2] at h9; exact h9
        refine lv_aload_n hx hb dX12_game_27 rfl (lv_at hl 0 rfl) ?_
        refine lv_iconst (v := 1) hx hb dX12_game_28 (by decide) ?_
        refine lv_iconst (v := 2) hx hb dX12_game_29 (by decide) ?_
        refine lv_iload_n hx hb dX12_game_30 rfl (lv_at hl 1 rfl) ?_
        refine lv_imul hx hb dX12_game_31 ?_
        refine lv_topi (fun z11 ez11 => ?_)
        obtain rfl : z11 = 2 := ez11.trans (by decide)
        refine lv_ishl hx hb dX12_game_32 ?_
        refine lv_topi (fun z12 ez12 => ?_)
        obtain rfl : z12 = 4 := ez12.trans (by decide)
        refine lv_iload_n hx hb dX12_game_33 rfl (lv_at hl 1 rfl) ?_
        refine ct_calli (D := D) (wr := [(qm_lines, .inl (cI, 5, .inl (fm_lines)))]) (va_runV (As := [.int 4, .int 1]) (rest := []) ⟨hx, hb, hml, hown, hts⟩ (c_X12_winsFrom l D G cI cJ cB cZ cO qm 0 qm_width qm_many qm_cells qm_moved qm_tape vm_taped vm_at vm_token vm_place vm_value vm_word vm_bad vm_badPlace vm_fault vm_faultPlace qm_lines qm_has qm_round qm_meets fm_meets qm_stumble qm_isMud qm_cell qm_tune qm_change qm_isKept qm_steps qm_places qm_danced vm_runMost vm_runBegins qm_heardBy vm_fitMany vm_fitFirst vm_fitBeats vm_listenLeaves qm_there vm_metAt vm_metIn qm_wins vm_nightHoles vm_nightFirst vm_nightMud vm_nightSlips vm_drawnNow h_vm_taped h_vm_at h_vm_value 12 g6 4 1 (by decide) (by unfold wn; decide +kernel) H.size) (cwV 2 hts gX12_game_X12_winsFrom rfl rfl rfl (by decide +kernel) ⟨Nat.le_of_ble_eq_true rfl, Nat.le_of_ble_eq_true rfl⟩) (ct_preV (T := ct_T cI cJ cB cZ cO) (ci := 12) (q0 := 2) hE hH hP hD hS hA [2, 0, 3] (by decide) rfl rfl rfl) rfl rfl hl.1 rfl (lv_room (Nat.le_of_ble_eq_true rfl)) dX12_game_34 ⟨Nat.le_of_ble_eq_true rfl, Nat.le_of_ble_eq_true rfl⟩) hP hD hS hA [2, 0, 3] [1] rfl rfl (by decide) (by decide) (fun r13 u H locs hw hP hD hS => ?_)
        obtain ⟨g14, rfl⟩ : ∃ z, z = u := ⟨_, rfl⟩
        obtain ⟨hP, hD⟩ : ct_B D A H [(qm_lines, .inl (cI, 5, .inl (fm_lines))), mo qm 0 qm_width qm_many qm_cells qm_moved qm_tape vm_taped vm_at vm_token vm_place vm_value vm_word vm_bad vm_badPlace vm_fault vm_faultPlace qm_lines qm_has qm_round qm_meets qm_stumble qm_isMud qm_cell qm_tune qm_change qm_isKept qm_steps qm_places qm_danced vm_runMost vm_runBegins qm_heardBy vm_fitMany vm_fitFirst vm_fitBeats vm_listenLeaves qm_there vm_metAt vm_metIn qm_wins vm_nightHoles vm_nightFirst vm_nightMud vm_nightSlips vm_drawnNow, (qm_meets, .inl (cI, 30, .inl (fm_meets))), (qm_wins, .inl (cI, 24576, .inl (g14)))] := ⟨hP, hD⟩
        have hz := hw
        clear hw
        rcases hz with ⟨hz, hz2⟩ | ⟨hz, hz2⟩
        · subst hz
          refine lv_if_eq (tgt := 44) hx hb dX12_game_37 (by decide) (fun hc => absurd hc (by decide)) (fun _ => ?_)
          refine lv_iconst (v := 1) hx hb dX12_game_40 (by decide) ?_
          refine lv_goto (tgt := 45) hx hb dX12_game_41 (by decide) ?_
          obtain ⟨hP9, hD9⟩ : ct_B D A H [mo qm 0 qm_width qm_many qm_cells qm_moved qm_tape vm_taped vm_at vm_token vm_place vm_value vm_word vm_bad vm_badPlace vm_fault vm_faultPlace qm_lines qm_has qm_round qm_meets qm_stumble qm_isMud qm_cell qm_tune qm_change qm_isKept qm_steps qm_places qm_danced vm_runMost vm_runBegins qm_heardBy vm_fitMany vm_fitFirst vm_fitBeats vm_listenLeaves qm_there vm_metAt vm_metIn qm_wins vm_nightHoles vm_nightFirst vm_nightMud vm_nightSlips vm_drawnNow, (qm_lines, .inl (cI, 5, .inl (fm_lines))), (qm_meets, .inl (cI, 30, .inl (fm_meets))), (qm_wins, .inl (cI, 24576, .inl (g14)))] := ⟨hP.sub [1, 0, 2, 3] rfl, hD.sub [1, 0, 2, 3] (by decide) rfl⟩
          exact W.iret (v := 1) hx hb hr (fun t ht hW => ⟨⟨1, ((0 : Int32), g14), rfl, (show (-2) ≤ (1 : Int32).toInt ∧ (1 : Int32).toInt ≤ 1 by decide), by rw [ht]; exact hP9, hD9⟩, hS.F ht⟩) hS.2.2 dX12_game_45
        · subst hz
          refine lv_if_eq (tgt := 44) hx hb dX12_game_37 (by decide) (fun _ => ?_) (fun hc => absurd hc (by decide))
          refine lv_iconst (v := 0) hx hb dX12_game_44 (by decide) ?_
          obtain ⟨hP9, hD9⟩ : ct_B D A H [mo qm 0 qm_width qm_many qm_cells qm_moved qm_tape vm_taped vm_at vm_token vm_place vm_value vm_word vm_bad vm_badPlace vm_fault vm_faultPlace qm_lines qm_has qm_round qm_meets qm_stumble qm_isMud qm_cell qm_tune qm_change qm_isKept qm_steps qm_places qm_danced vm_runMost vm_runBegins qm_heardBy vm_fitMany vm_fitFirst vm_fitBeats vm_listenLeaves qm_there vm_metAt vm_metIn qm_wins vm_nightHoles vm_nightFirst vm_nightMud vm_nightSlips vm_drawnNow, (qm_lines, .inl (cI, 5, .inl (fm_lines))), (qm_meets, .inl (cI, 30, .inl (fm_meets))), (qm_wins, .inl (cI, 24576, .inl (g14)))] := ⟨hP.sub [1, 0, 2, 3] rfl, hD.sub [1, 0, 2, 3] (by decide) rfl⟩
          exact W.iret (v := 0) hx hb hr (fun t ht hW => ⟨⟨0, ((0 : Int32), g14), rfl, (show (-2) ≤ (0 : Int32).toInt ∧ (0 : Int32).toInt ≤ 1 by decide), by rw [ht]; exact hP9, hD9⟩, hS.F ht⟩) hS.2.2 dX12_game_45
      · have hj2 : a1 = 2 := tq_of hj (by decide)
        have hl : lv_has ls 2 [(0, .ref qm), (1, .int 2)] := by have h9 := hl; rw [hj2] at h9; exact h9
        refine lv_aload_n hx hb dX12_game_27 rfl (lv_at hl 0 rfl) ?_
        refine lv_iconst (v := 1) hx hb dX12_game_28 (by decide) ?_
        refine lv_iconst (v := 2) hx hb dX12_game_29 (by decide) ?_
        refine lv_iload_n hx hb dX12_game_30 rfl (lv_at hl 1 rfl) ?_
        refine lv_imul hx hb dX12_game_31 ?_
        refine lv_topi (fun z15 ez15 => ?_)
        obtain rfl : z15 = 4 := ez15.trans (by decide)
        refine lv_ishl hx hb dX12_game_32 ?_
        refine lv_topi (fun z16 ez16 => ?_)
        obtain rfl : z16 = 16 := ez16.trans (by decide)
        refine lv_iload_n hx hb dX12_game_33 rfl (lv_at hl 1 rfl) ?_
        refine ct_calli (D := D) (wr := [(qm_lines, .inl (cI, 5, .inl (fm_lines)))]) (va_runV (As := [.int 16, .int 2]) (rest := []) ⟨hx, hb, hml, hown, hts⟩ (c_X12_winsFrom l D G cI cJ cB cZ cO qm 0 qm_width qm_many qm_cells qm_moved qm_tape vm_taped vm_at vm_token vm_place vm_value vm_word vm_bad vm_badPlace vm_fault vm_faultPlace qm_lines qm_has qm_round qm_meets fm_meets qm_stumble qm_isMud qm_cell qm_tune qm_change qm_isKept qm_steps qm_places qm_danced vm_runMost vm_runBegins qm_heardBy vm_fitMany vm_fitFirst vm_fitBeats vm_listenLeaves qm_there vm_metAt vm_metIn qm_wins vm_nightHoles vm_nightFirst vm_nightMud vm_nightSlips vm_drawnNow h_vm_taped h_vm_at h_vm_value 12 g6 16 2 (by decide) (by unfold wn; decide +kernel) H.size) (cwV 2 hts gX12_game_X12_winsFrom rfl rfl rfl (by decide +kernel) ⟨Nat.le_of_ble_eq_true rfl, Nat.le_of_ble_eq_true rfl⟩) (ct_preV (T := ct_T cI cJ cB cZ cO) (ci := 12) (q0 := 2) hE hH hP hD hS hA [2, 0, 3] (by decide) rfl rfl rfl) rfl rfl hl.1 rfl (lv_room (Nat.le_of_ble_eq_true rfl)) dX12_game_34 ⟨Nat.le_of_ble_eq_true rfl, Nat.le_of_ble_eq_true rfl⟩) hP hD hS hA [2, 0, 3] [1] rfl rfl (by decide) (by decide) (fun r17 u H locs hw hP hD hS => ?_)
        obtain ⟨g18, rfl⟩ : ∃ z, z = u := ⟨_, rfl⟩
        obtain ⟨hP, hD⟩ : ct_B D A H [(qm_lines, .inl (cI, 5, .inl (fm_lines))), mo qm 0 qm_width qm_many qm_cells qm_moved qm_tape vm_taped vm_at vm_token vm_place vm_value vm_word vm_bad vm_badPlace vm_fault vm_faultPlace qm_lines qm_has qm_round qm_meets qm_stumble qm_isMud qm_cell qm_tune qm_change qm_isKept qm_steps qm_places qm_danced vm_runMost vm_runBegins qm_heardBy vm_fitMany vm_fitFirst vm_fitBeats vm_listenLeaves qm_there vm_metAt vm_metIn qm_wins vm_nightHoles vm_nightFirst vm_nightMud vm_nightSlips vm_drawnNow, (qm_meets, .inl (cI, 30, .inl (fm_meets))), (qm_wins, .inl (cI, 24576, .inl (g18)))] := ⟨hP, hD⟩
        have hz := hw
        clear hw
        rcases hz with ⟨hz, hz2⟩ | ⟨hz, hz2⟩
        · subst hz
          refine lv_if_eq (tgt := 44) hx hb dX12_game_37 (by decide) (fun hc => absurd hc (by decide)) (fun _ => ?_)
          refine lv_iconst (v := 1) hx hb dX12_game_40 (by decide) ?_
          refine lv_goto (tgt := 45) hx hb dX12_game_41 (by decide) ?_
          obtain ⟨hP9, hD9⟩ : ct_B D A H [mo qm 0 qm_width qm_many qm_cells qm_moved qm_tape vm_taped vm_at vm_token vm_place vm_value vm_word vm_bad vm_badPlace vm_fault vm_faultPlace qm_lines qm_has qm_round qm_meets qm_stumble qm_isMud qm_cell qm_tune qm_change qm_isKept qm_steps qm_places qm_danced vm_runMost vm_runBegins qm_heardBy vm_fitMany vm_fitFirst vm_fitBeats vm_listenLeaves qm_there vm_metAt vm_metIn qm_wins vm_nightHoles vm_nightFirst vm_nightMud vm_nightSlips vm_drawnNow, (qm_lines, .inl (cI, 5, .inl (fm_lines))), (qm_meets, .inl (cI, 30, .inl (fm_meets))), (qm_wins, .inl (cI, 24576, .inl (g18)))] := ⟨hP.sub [1, 0, 2, 3] rfl, hD.sub [1, 0, 2, 3] (by decide) rfl⟩
          exact W.iret (v := 1) hx hb hr (fun t ht hW => ⟨⟨1, ((0 : Int32), g18), rfl, (show (-2) ≤ (1 : Int32).toInt ∧ (1 : Int32).toInt ≤ 1 by decide), by rw [ht]; exact hP9, hD9⟩, hS.F ht⟩) hS.2.2 dX12_game_45
        · subst hz
          refine lv_if_eq (tgt := 44) hx hb dX12_game_37 (by decide) (fun _ => ?_) (fun hc => absurd hc (by decide))
          refine lv_iconst (v := 0) hx hb dX12_game_44 (by decide) ?_
          obtain ⟨hP9, hD9⟩ : ct_B D A H [mo qm 0 qm_width qm_many qm_cells qm_moved qm_tape vm_taped vm_at vm_token vm_place vm_value vm_word vm_bad vm_badPlace vm_fault vm_faultPlace qm_lines qm_has qm_round qm_meets qm_stumble qm_isMud qm_cell qm_tune qm_change qm_isKept qm_steps qm_places qm_danced vm_runMost vm_runBegins qm_heardBy vm_fitMany vm_fitFirst vm_fitBeats vm_listenLeaves qm_there vm_metAt vm_metIn qm_wins vm_nightHoles vm_nightFirst vm_nightMud vm_nightSlips vm_drawnNow, (qm_lines, .inl (cI, 5, .inl (fm_lines))), (qm_meets, .inl (cI, 30, .inl (fm_meets))), (qm_wins, .inl (cI, 24576, .inl (g18)))] := ⟨hP.sub [1, 0, 2, 3] rfl, hD.sub [1, 0, 2, 3] (by decide) rfl⟩
          exact W.iret (v := 0) hx hb hr (fun t ht hW => ⟨⟨0, ((0 : Int32), g18), rfl, (show (-2) ≤ (0 : Int32).toInt ∧ (0 : Int32).toInt ≤ 1 by decide), by rw [ht]; exact hP9, hD9⟩, hS.F ht⟩) hS.2.2 dX12_game_45
      · have hj2 : a1 = 3 := tq_of hj (by decide)
        have hl : lv_has ls 2 [(0, .ref qm), (1, .int 3)] := by have h9 := hl; rw [hj2] at h9; exact h9
        refine lv_aload_n hx hb dX12_game_27 rfl (lv_at hl 0 rfl) ?_
        refine lv_iconst (v := 1) hx hb dX12_game_28 (by decide) ?_
        refine lv_iconst (v := 2) hx hb dX12_game_29 (by decide) ?_
        refine lv_iload_n hx hb dX12_game_30 rfl (lv_at hl 1 rfl) ?_
        refine lv_imul hx hb dX12_game_31 ?_
        refine lv_topi (fun z19 ez19 => ?_)
        obtain rfl : z19 = 6 := ez19.trans (by decide)
        refine lv_ishl hx hb dX12_game_32 ?_
        refine lv_topi (fun z20 ez20 => ?_)
        obtain rfl : z20 = 64 := ez20.trans (by decide)
        refine lv_iload_n hx hb dX12_game_33 rfl (lv_at hl 1 rfl) ?_
        refine ct_calli (D := D) (wr := [(qm_lines, .inl (cI, 5, .inl (fm_lines)))]) (va_runV (As := [.int 64, .int 3]) (rest := []) ⟨hx, hb, hml, hown, hts⟩ (c_X12_winsFrom l D G cI cJ cB cZ cO qm 0 qm_width qm_many qm_cells qm_moved qm_tape vm_taped vm_at vm_token vm_place vm_value vm_word vm_bad vm_badPlace vm_fault vm_faultPlace qm_lines qm_has qm_round qm_meets fm_meets qm_stumble qm_isMud qm_cell qm_tune qm_change qm_isKept qm_steps qm_places qm_danced vm_runMost vm_runBegins qm_heardBy vm_fitMany vm_fitFirst vm_fitBeats vm_listenLeaves qm_there vm_metAt vm_metIn qm_wins vm_nightHoles vm_nightFirst vm_nightMud vm_nightSlips vm_drawnNow h_vm_taped h_vm_at h_vm_value 12 g6 64 3 (by decide) (by unfold wn; decide +kernel) H.size) (cwV 2 hts gX12_game_X12_winsFrom rfl rfl rfl (by decide +kernel) ⟨Nat.le_of_ble_eq_true rfl, Nat.le_of_ble_eq_true rfl⟩) (ct_preV (T := ct_T cI cJ cB cZ cO) (ci := 12) (q0 := 2) hE hH hP hD hS hA [2, 0, 3] (by decide) rfl rfl rfl) rfl rfl hl.1 rfl (lv_room (Nat.le_of_ble_eq_true rfl)) dX12_game_34 ⟨Nat.le_of_ble_eq_true rfl, Nat.le_of_ble_eq_true rfl⟩) hP hD hS hA [2, 0, 3] [1] rfl rfl (by decide) (by decide) (fun r21 u H locs hw hP hD hS => ?_)
        obtain ⟨g22, rfl⟩ : ∃ z, z = u := ⟨_, rfl⟩
        obtain ⟨hP, hD⟩ : ct_B D A H [(qm_lines, .inl (cI, 5, .inl (fm_lines))), mo qm 0 qm_width qm_many qm_cells qm_moved qm_tape vm_taped vm_at vm_token vm_place vm_value vm_word vm_bad vm_badPlace vm_fault vm_faultPlace qm_lines qm_has qm_round qm_meets qm_stumble qm_isMud qm_cell qm_tune qm_change qm_isKept qm_steps qm_places qm_danced vm_runMost vm_runBegins qm_heardBy vm_fitMany vm_fitFirst vm_fitBeats vm_listenLeaves qm_there vm_metAt vm_metIn qm_wins vm_nightHoles vm_nightFirst vm_nightMud vm_nightSlips vm_drawnNow, (qm_meets, .inl (cI, 30, .inl (fm_meets))), (qm_wins, .inl (cI, 24576, .inl (g22)))] := ⟨hP, hD⟩
        have hz := hw
        clear hw
        rcases hz with ⟨hz, hz2⟩ | ⟨hz, hz2⟩
        · subst hz
          refine lv_if_eq (tgt := 44) hx hb dX12_game_37 (by decide) (fun hc => absurd hc (by decide)) (fun _ => ?_)
          refine lv_iconst (v := 1) hx hb dX12_game_40 (by decide) ?_
          refine lv_goto (tgt := 45) hx hb dX12_game_41 (by decide) ?_
          obtain ⟨hP9, hD9⟩ : ct_B D A H [mo qm 0 qm_width qm_many qm_cells qm_moved qm_tape vm_taped vm_at vm_token vm_place vm_value vm_word vm_bad vm_badPlace vm_fault vm_faultPlace qm_lines qm_has qm_round qm_meets qm_stumble qm_isMud qm_cell qm_tune qm_change qm_isKept qm_steps qm_places qm_danced vm_runMost vm_runBegins qm_heardBy vm_fitMany vm_fitFirst vm_fitBeats vm_listenLeaves qm_there vm_metAt vm_metIn qm_wins vm_nightHoles vm_nightFirst vm_nightMud vm_nightSlips vm_drawnNow, (qm_lines, .inl (cI, 5, .inl (fm_lines))), (qm_meets, .inl (cI, 30, .inl (fm_meets))), (qm_wins, .inl (cI, 24576, .inl (g22)))] := ⟨hP.sub [1, 0, 2, 3] rfl, hD.sub [1, 0, 2, 3] (by decide) rfl⟩
          exact W.iret (v := 1) hx hb hr (fun t ht hW => ⟨⟨1, ((0 : Int32), g22), rfl, (show (-2) ≤ (1 : Int32).toInt ∧ (1 : Int32).toInt ≤ 1 by decide), by rw [ht]; exact hP9, hD9⟩, hS.F ht⟩) hS.2.2 dX12_game_45
        · subst hz
          refine lv_if_eq (tgt := 44) hx hb dX12_game_37 (by decide) (fun _ => ?_) (fun hc => absurd hc (by decide))
          refine lv_iconst (v := 0) hx hb dX12_game_44 (by decide) ?_
          obtain ⟨hP9, hD9⟩ : ct_B D A H [mo qm 0 qm_width qm_many qm_cells qm_moved qm_tape vm_taped vm_at vm_token vm_place vm_value vm_word vm_bad vm_badPlace vm_fault vm_faultPlace qm_lines qm_has qm_round qm_meets qm_stumble qm_isMud qm_cell qm_tune qm_change qm_isKept qm_steps qm_places qm_danced vm_runMost vm_runBegins qm_heardBy vm_fitMany vm_fitFirst vm_fitBeats vm_listenLeaves qm_there vm_metAt vm_metIn qm_wins vm_nightHoles vm_nightFirst vm_nightMud vm_nightSlips vm_drawnNow, (qm_lines, .inl (cI, 5, .inl (fm_lines))), (qm_meets, .inl (cI, 30, .inl (fm_meets))), (qm_wins, .inl (cI, 24576, .inl (g22)))] := ⟨hP.sub [1, 0, 2, 3] rfl, hD.sub [1, 0, 2, 3] (by decide) rfl⟩
          exact W.iret (v := 0) hx hb hr (fun t ht hW => ⟨⟨0, ((0 : Int32), g22), rfl, (show (-2) ≤ (0 : Int32).toInt ∧ (0 : Int32).toInt ≤ 1 by decide), by rw [ht]; exact hP9, hD9⟩, hS.F ht⟩) hS.2.2 dX12_game_45
      · have hj2 : a1 = 4 := tq_of hj (by decide)
        have hl : lv_has ls 2 [(0, .ref qm), (1, .int 4)] := by have h9 := hl; rw [hj2] at h9; exact h9
        refine lv_aload_n hx hb dX12_game_27 rfl (lv_at hl 0 rfl) ?_
        refine lv_iconst (v := 1) hx hb dX12_game_28 (by decide) ?_
        refine lv_iconst (v := 2) hx hb dX12_game_29 (by decide) ?_
        refine lv_iload_n hx hb dX12_game_30 rfl (lv_at hl 1 rfl) ?_
        refine lv_imul hx hb dX12_game_31 ?_
        refine lv_topi (fun z23 ez23 => ?_)
        obtain rfl : z23 = 8 := ez23.trans (by decide)
        refine lv_ishl hx hb dX12_game_32 ?_
        refine lv_topi (fun z24 ez24 => ?_)
        obtain rfl : z24 = 256 := ez24.trans (by decide)
        refine lv_iload_n hx hb dX12_game_33 rfl (lv_at hl 1 rfl) ?_
        refine ct_calli (D := D) (wr := [(qm_lines, .inl (cI, 5, .inl (fm_lines)))]) (va_runV (As := [.int 256, .int 4]) (rest := []) ⟨hx, hb, hml, hown, hts⟩ (c_X12_winsFrom l D G cI cJ cB cZ cO qm 0 qm_width qm_many qm_cells qm_moved qm_tape vm_taped vm_at vm_token vm_place vm_value vm_word vm_bad vm_badPlace vm_fault vm_faultPlace qm_lines qm_has qm_round qm_meets fm_meets qm_stumble qm_isMud qm_cell qm_tune qm_change qm_isKept qm_steps qm_places qm_danced vm_runMost vm_runBegins qm_heardBy vm_fitMany vm_fitFirst vm_fitBeats vm_listenLeaves qm_there vm_metAt vm_metIn qm_wins vm_nightHoles vm_nightFirst vm_nightMud vm_nightSlips vm_drawnNow h_vm_taped h_vm_at h_vm_value 12 g6 256 4 (by decide) (by unfold wn; decide +kernel) H.size) (cwV 2 hts gX12_game_X12_winsFrom rfl rfl rfl (by decide +kernel) ⟨Nat.le_of_ble_eq_true rfl, Nat.le_of_ble_eq_true rfl⟩) (ct_preV (T := ct_T cI cJ cB cZ cO) (ci := 12) (q0 := 2) hE hH hP hD hS hA [2, 0, 3] (by decide) rfl rfl rfl) rfl rfl hl.1 rfl (lv_room (Nat.le_of_ble_eq_true rfl)) dX12_game_34 ⟨Nat.le_of_ble_eq_true rfl, Nat.le_of_ble_eq_true rfl⟩) hP hD hS hA [2, 0, 3] [1] rfl rfl (by decide) (by decide) (fun r25 u H locs hw hP hD hS => ?_)
        obtain ⟨g26, rfl⟩ : ∃ z, z = u := ⟨_, rfl⟩
        obtain ⟨hP, hD⟩ : ct_B D A H [(qm_lines, .inl (cI, 5, .inl (fm_lines))), mo qm 0 qm_width qm_many qm_cells qm_moved qm_tape vm_taped vm_at vm_token vm_place vm_value vm_word vm_bad vm_badPlace vm_fault vm_faultPlace qm_lines qm_has qm_round qm_meets qm_stumble qm_isMud qm_cell qm_tune qm_change qm_isKept qm_steps qm_places qm_danced vm_runMost vm_runBegins qm_heardBy vm_fitMany vm_fitFirst vm_fitBeats vm_listenLeaves qm_there vm_metAt vm_metIn qm_wins vm_nightHoles vm_nightFirst vm_nightMud vm_nightSlips vm_drawnNow, (qm_meets, .inl (cI, 30, .inl (fm_meets))), (qm_wins, .inl (cI, 24576, .inl (g26)))] := ⟨hP, hD⟩
        have hz := hw
        clear hw
        rcases hz with ⟨hz, hz2⟩ | ⟨hz, hz2⟩
        · subst hz
          refine lv_if_eq (tgt := 44) hx hb dX12_game_37 (by decide) (fun hc => absurd hc (by decide)) (fun _ => ?_)
          refine lv_iconst (v := 1) hx hb dX12_game_40 (by decide) ?_
          refine lv_goto (tgt := 45) hx hb dX12_game_41 (by decide) ?_
          obtain ⟨hP9, hD9⟩ : ct_B D A H [mo qm 0 qm_width qm_many qm_cells qm_moved qm_tape vm_taped vm_at vm_token vm_place vm_value vm_word vm_bad vm_badPlace vm_fault vm_faultPlace qm_lines qm_has qm_round qm_meets qm_stumble qm_isMud qm_cell qm_tune qm_change qm_isKept qm_steps qm_places qm_danced vm_runMost vm_runBegins qm_heardBy vm_fitMany vm_fitFirst vm_fitBeats vm_listenLeaves qm_there vm_metAt vm_metIn qm_wins vm_nightHoles vm_nightFirst vm_nightMud vm_nightSlips vm_drawnNow, (qm_lines, .inl (cI, 5, .inl (fm_lines))), (qm_meets, .inl (cI, 30, .inl (fm_meets))), (qm_wins, .inl (cI, 24576, .inl (g26)))] := ⟨hP.sub [1, 0, 2, 3] rfl, hD.sub [1, 0, 2, 3] (by decide) rfl⟩
          exact W.iret (v := 1) hx hb hr (fun t ht hW => ⟨⟨1, ((0 : Int32), g26), rfl, (show (-2) ≤ (1 : Int32).toInt ∧ (1 : Int32).toInt ≤ 1 by decide), by rw [ht]; exact hP9, hD9⟩, hS.F ht⟩) hS.2.2 dX12_game_45
        · subst hz
          refine lv_if_eq (tgt := 44) hx hb dX12_game_37 (by decide) (fun _ => ?_) (fun hc => absurd hc (by decide))
          refine lv_iconst (v := 0) hx hb dX12_game_44 (by decide) ?_
          obtain ⟨hP9, hD9⟩ : ct_B D A H [mo qm 0 qm_width qm_many qm_cells qm_moved qm_tape vm_taped vm_at vm_token vm_place vm_value vm_word vm_bad vm_badPlace vm_fault vm_faultPlace qm_lines qm_has qm_round qm_meets qm_stumble qm_isMud qm_cell qm_tune qm_change qm_isKept qm_steps qm_places qm_danced vm_runMost vm_runBegins qm_heardBy vm_fitMany vm_fitFirst vm_fitBeats vm_listenLeaves qm_there vm_metAt vm_metIn qm_wins vm_nightHoles vm_nightFirst vm_nightMud vm_nightSlips vm_drawnNow, (qm_lines, .inl (cI, 5, .inl (fm_lines))), (qm_meets, .inl (cI, 30, .inl (fm_meets))), (qm_wins, .inl (cI, 24576, .inl (g26)))] := ⟨hP.sub [1, 0, 2, 3] rfl, hD.sub [1, 0, 2, 3] (by decide) rfl⟩
          exact W.iret (v := 0) hx hb hr (fun t ht hW => ⟨⟨0, ((0 : Int32), g26), rfl, (show (-2) ≤ (0 : Int32).toInt ∧ (0 : Int32).toInt ≤ 1 by decide), by rw [ht]; exact hP9, hD9⟩, hS.F ht⟩) hS.2.2 dX12_game_45
      · have hj2 : a1 = 5 := tq_of hj (by decide)
        have hl : lv_has ls 2 [(0, .ref qm), (1, .int 5)] := by have h9 := hl; rw [hj2] at h9; exact h9
        refine lv_aload_n hx hb dX12_game_27 rfl (lv_at hl 0 rfl) ?_
        refine lv_iconst (v := 1) hx hb dX12_game_28 (by decide) ?_
        refine lv_iconst (v := 2) hx hb dX12_game_29 (by decide) ?_
        refine lv_iload_n hx hb dX12_game_30 rfl (lv_at hl 1 rfl) ?_
        refine lv_imul hx hb dX12_game_31 ?_
        refine lv_topi (fun z27 ez27 => ?_)
        obtain rfl : z27 = 10 := ez27.trans (by decide)
        refine lv_ishl hx hb dX12_game_32 ?_
        refine lv_topi (fun z28 ez28 => ?_)
        obtain rfl : z28 = 1024 := ez28.trans (by decide)
        refine lv_iload_n hx hb dX12_game_33 rfl (lv_at hl 1 rfl) ?_
        refine ct_calli (D := D) (wr := [(qm_lines, .inl (cI, 5, .inl (fm_lines)))]) (va_runV (As := [.int 1024, .int 5]) (rest := []) ⟨hx, hb, hml, hown, hts⟩ (c_X12_winsFrom l D G cI cJ cB cZ cO qm 0 qm_width qm_many qm_cells qm_moved qm_tape vm_taped vm_at vm_token vm_place vm_value vm_word vm_bad vm_badPlace vm_fault vm_faultPlace qm_lines qm_has qm_round qm_meets fm_meets qm_stumble qm_isMud qm_cell qm_tune qm_change qm_isKept qm_steps qm_places qm_danced vm_runMost vm_runBegins qm_heardBy vm_fitMany vm_fitFirst vm_fitBeats vm_listenLeaves qm_there vm_metAt vm_metIn qm_wins vm_nightHoles vm_nightFirst vm_nightMud vm_nightSlips vm_drawnNow h_vm_taped h_vm_at h_vm_value 12 g6 1024 5 (by decide) (by unfold wn; decide +kernel) H.size) (cwV 2 hts gX12_game_X12_winsFrom rfl rfl rfl (by decide +kernel) ⟨Nat.le_of_ble_eq_true rfl, Nat.le_of_ble_eq_true rfl⟩) (ct_preV (T := ct_T cI cJ cB cZ cO) (ci := 12) (q0 := 2) hE hH hP hD hS hA [2, 0, 3] (by decide) rfl rfl rfl) rfl rfl hl.1 rfl (lv_room (Nat.le_of_ble_eq_true rfl)) dX12_game_34 ⟨Nat.le_of_ble_eq_true rfl, Nat.le_of_ble_eq_true rfl⟩) hP hD hS hA [2, 0, 3] [1] rfl rfl (by decide) (by decide) (fun r29 u H locs hw hP hD hS => ?_)
        obtain ⟨g30, rfl⟩ : ∃ z, z = u := ⟨_, rfl⟩
        obtain ⟨hP, hD⟩ : ct_B D A H [(qm_lines, .inl (cI, 5, .inl (fm_lines))), mo qm 0 qm_width qm_many qm_cells qm_moved qm_tape vm_taped vm_at vm_token vm_place vm_value vm_word vm_bad vm_badPlace vm_fault vm_faultPlace qm_lines qm_has qm_round qm_meets qm_stumble qm_isMud qm_cell qm_tune qm_change qm_isKept qm_steps qm_places qm_danced vm_runMost vm_runBegins qm_heardBy vm_fitMany vm_fitFirst vm_fitBeats vm_listenLeaves qm_there vm_metAt vm_metIn qm_wins vm_nightHoles vm_nightFirst vm_nightMud vm_nightSlips vm_drawnNow, (qm_meets, .inl (cI, 30, .inl (fm_meets))), (qm_wins, .inl (cI, 24576, .inl (g30)))] := ⟨hP, hD⟩
        have hz := hw
        clear hw
        rcases hz with ⟨hz, hz2⟩ | ⟨hz, hz2⟩
        · subst hz
          refine lv_if_eq (tgt := 44) hx hb dX12_game_37 (by decide) (fun hc => absurd hc (by decide)) (fun _ => ?_)
          refine lv_iconst (v := 1) hx hb dX12_game_40 (by decide) ?_
          refine lv_goto (tgt := 45) hx hb dX12_game_41 (by decide) ?_
          obtain ⟨hP9, hD9⟩ : ct_B D A H [mo qm 0 qm_width qm_many qm_cells qm_moved qm_tape vm_taped vm_at vm_token vm_place vm_value vm_word vm_bad vm_badPlace vm_fault vm_faultPlace qm_lines qm_has qm_round qm_meets qm_stumble qm_isMud qm_cell qm_tune qm_change qm_isKept qm_steps qm_places qm_danced vm_runMost vm_runBegins qm_heardBy vm_fitMany vm_fitFirst vm_fitBeats vm_listenLeaves qm_there vm_metAt vm_metIn qm_wins vm_nightHoles vm_nightFirst vm_nightMud vm_nightSlips vm_drawnNow, (qm_lines, .inl (cI, 5, .inl (fm_lines))), (qm_meets, .inl (cI, 30, .inl (fm_meets))), (qm_wins, .inl (cI, 24576, .inl (g30)))] := ⟨hP.sub [1, 0, 2, 3] rfl, hD.sub [1, 0, 2, 3] (by decide) rfl⟩
          exact W.iret (v := 1) hx hb hr (fun t ht hW => ⟨⟨1, ((0 : Int32), g30), rfl, (show (-2) ≤ (1 : Int32).toInt ∧ (1 : Int32).toInt ≤ 1 by decide), by rw [ht]; exact hP9, hD9⟩, hS.F ht⟩) hS.2.2 dX12_game_45
        · subst hz
          refine lv_if_eq (tgt := 44) hx hb dX12_game_37 (by decide) (fun _ => ?_) (fun hc => absurd hc (by decide))
          refine lv_iconst (v := 0) hx hb dX12_game_44 (by decide) ?_
          obtain ⟨hP9, hD9⟩ : ct_B D A H [mo qm 0 qm_width qm_many qm_cells qm_moved qm_tape vm_taped vm_at vm_token vm_place vm_value vm_word vm_bad vm_badPlace vm_fault vm_faultPlace qm_lines qm_has qm_round qm_meets qm_stumble qm_isMud qm_cell qm_tune qm_change qm_isKept qm_steps qm_places qm_danced vm_runMost vm_runBegins qm_heardBy vm_fitMany vm_fitFirst vm_fitBeats vm_listenLeaves qm_there vm_metAt vm_metIn qm_wins vm_nightHoles vm_nightFirst vm_nightMud vm_nightSlips vm_drawnNow, (qm_lines, .inl (cI, 5, .inl (fm_lines))), (qm_meets, .inl (cI, 30, .inl (fm_meets))), (qm_wins, .inl (cI, 24576, .inl (g30)))] := ⟨hP.sub [1, 0, 2, 3] rfl, hD.sub [1, 0, 2, 3] (by decide) rfl⟩
          exact W.iret (v := 0) hx hb hr (fun t ht hW => ⟨⟨0, ((0 : Int32), g30), rfl, (show (-2) ≤ (0 : Int32).toInt ∧ (0 : Int32).toInt ≤ 1 by decide), by rw [ht]; exact hP9, hD9⟩, hS.F ht⟩) hS.2.2 dX12_game_45
    · subst hz
      have hz_31 : ¬ (0 ≤ z2.toInt ∧ z2.toInt ≤ 5) := hz2
      refine lv_if_ne (tgt := 23) hx hb dX12_game_17 (by decide) (fun hc => absurd hc (by decide)) (fun _ => ?_)
      refine lv_bipush (v := (-2)) hx hb dX12_game_20 (by decide) ?_
      obtain ⟨hP9, hD9⟩ : ct_B D A H [mo qm 0 qm_width qm_many qm_cells qm_moved qm_tape vm_taped vm_at vm_token vm_place vm_value vm_word vm_bad vm_badPlace vm_fault vm_faultPlace qm_lines qm_has qm_round qm_meets qm_stumble qm_isMud qm_cell qm_tune qm_change qm_isKept qm_steps qm_places qm_danced vm_runMost vm_runBegins qm_heardBy vm_fitMany vm_fitFirst vm_fitBeats vm_listenLeaves qm_there vm_metAt vm_metIn qm_wins vm_nightHoles vm_nightFirst vm_nightMud vm_nightSlips vm_drawnNow, (qm_lines, .inl (cI, 5, .inl (fm_lines))), (qm_meets, .inl (cI, 30, .inl (fm_meets))), (qm_wins, .inl (cI, 24576, .inl (fm_wins)))] := ⟨hP.sub [2, 3, 0, 1] rfl, hD.sub [2, 3, 0, 1] (by decide) rfl⟩
      exact W.iret (v := (-2)) hx hb hr (fun t ht hW => ⟨⟨(-2), ((0 : Int32), fm_wins), rfl, (show (-2) ≤ (-2 : Int32).toInt ∧ (-2 : Int32).toInt ≤ 1 by decide), by rw [ht]; exact hP9, hD9⟩, hS.F ht⟩) hS.2.2 dX12_game_22
  · subst hz
    refine lv_if_eq (tgt := 20) hx hb dX12_game_9 (by decide) (fun _ => ?_) (fun hc => absurd hc (by decide))
    refine lv_bipush (v := (-2)) hx hb dX12_game_20 (by decide) ?_
    obtain ⟨hP9, hD9⟩ : ct_B D A H [mo qm 0 qm_width qm_many qm_cells qm_moved qm_tape vm_taped vm_at vm_token vm_place vm_value vm_word vm_bad vm_badPlace vm_fault vm_faultPlace qm_lines qm_has qm_round qm_meets qm_stumble qm_isMud qm_cell qm_tune qm_change qm_isKept qm_steps qm_places qm_danced vm_runMost vm_runBegins qm_heardBy vm_fitMany vm_fitFirst vm_fitBeats vm_listenLeaves qm_there vm_metAt vm_metIn qm_wins vm_nightHoles vm_nightFirst vm_nightMud vm_nightSlips vm_drawnNow, (qm_lines, .inl (cI, 5, .inl (fm_lines))), (qm_meets, .inl (cI, 30, .inl (fm_meets))), (qm_wins, .inl (cI, 24576, .inl (fm_wins)))] := ⟨hP.sub [2, 3, 0, 1] rfl, hD.sub [2, 3, 0, 1] (by decide) rfl⟩
    exact W.iret (v := (-2)) hx hb hr (fun t ht hW => ⟨⟨(-2), ((0 : Int32), fm_wins), rfl, (show (-2) ≤ (-2 : Int32).toInt ∧ (-2 : Int32).toInt ≤ 1 by decide), by rw [ht]; exact hP9, hD9⟩, hS.F ht⟩) hS.2.2 dX12_game_22
