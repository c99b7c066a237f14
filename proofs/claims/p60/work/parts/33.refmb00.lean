abbrev w_c_X12_mayBe (cI cJ cB cZ cO : ClassId) (qm : Nat) (vm_thrown : Int32) (qm_width : Nat) (qm_many : Nat) (qm_cells : Nat) (qm_moved : Nat) (qm_tape : Nat) (vm_taped : Int32) (vm_at : Int32) (vm_token : Int32) (vm_place : Int32) (vm_value : Int32) (vm_word : Int64) (vm_bad : Int32) (vm_badPlace : Int32) (vm_fault : Int32) (vm_faultPlace : Int32) (qm_lines : Nat) (qm_has : Nat) (fm_has : Nat → Int32) (qm_round : Nat) (fm_round : Nat → Int32) (qm_meets : Nat) (fm_meets : Nat → Int32) (qm_stumble : Nat) (qm_isMud : Nat) (qm_cell : Nat) (qm_tune : Nat) (qm_change : Nat) (qm_isKept : Nat) (qm_steps : Nat) (qm_places : Nat) (qm_danced : Nat) (vm_runMost : Int32) (vm_runBegins : Int32) (qm_heardBy : Nat) (vm_fitMany : Int32) (vm_fitFirst : Int32) (vm_fitBeats : Int64) (vm_listenLeaves : Int32) (qm_there : Nat) (vm_metAt : Int32) (vm_metIn : Int32) (qm_wins : Nat) (vm_nightHoles : Int32) (vm_nightFirst : Int32) (vm_nightMud : Int32) (vm_nightSlips : Int32) (vm_drawnNow : Int64) : va_W := [mo qm vm_thrown qm_width qm_many qm_cells qm_moved qm_tape vm_taped vm_at vm_token vm_place vm_value vm_word vm_bad vm_badPlace vm_fault vm_faultPlace qm_lines qm_has qm_round qm_meets qm_stumble qm_isMud qm_cell qm_tune qm_change qm_isKept qm_steps qm_places qm_danced vm_runMost vm_runBegins qm_heardBy vm_fitMany vm_fitFirst vm_fitBeats vm_listenLeaves qm_there vm_metAt vm_metIn qm_wins vm_nightHoles vm_nightFirst vm_nightMud vm_nightSlips vm_drawnNow, (qm_has, .inl (cI, 55, .inl (fm_has))), (qm_round, .inl (cI, 120, .inl (fm_round))), (qm_meets, .inl (cI, 30, .inl (fm_meets)))]
set_option maxHeartbeats 4000000 in
set_option maxRecDepth 100000 in
/-- X12 mayBe -/
theorem c_X12_mayBe (l : Launch) (D : va_G) (G : ct_G) (cI cJ cB cZ cO : ClassId) (qm : Nat) (vm_thrown : Int32) (qm_width : Nat) (qm_many : Nat) (qm_cells : Nat) (qm_moved : Nat) (qm_tape : Nat) (vm_taped : Int32) (vm_at : Int32) (vm_token : Int32) (vm_place : Int32) (vm_value : Int32) (vm_word : Int64) (vm_bad : Int32) (vm_badPlace : Int32) (vm_fault : Int32) (vm_faultPlace : Int32) (qm_lines : Nat) (qm_has : Nat) (fm_has : Nat → Int32) (qm_round : Nat) (fm_round : Nat → Int32) (qm_meets : Nat) (fm_meets : Nat → Int32) (qm_stumble : Nat) (qm_isMud : Nat) (qm_cell : Nat) (qm_tune : Nat) (qm_change : Nat) (qm_isKept : Nat) (qm_steps : Nat) (qm_places : Nat) (qm_danced : Nat) (vm_runMost : Int32) (vm_runBegins : Int32) (qm_heardBy : Nat) (vm_fitMany : Int32) (vm_fitFirst : Int32) (vm_fitBeats : Int64) (vm_listenLeaves : Int32) (qm_there : Nat) (vm_metAt : Int32) (vm_metIn : Int32) (qm_wins : Nat) (vm_nightHoles : Int32) (vm_nightFirst : Int32) (vm_nightMud : Int32) (vm_nightSlips : Int32) (vm_drawnNow : Int64) (a1 : Int32) (a2 : Int32) (h_vm_taped : 0 ≤ vm_taped.toInt ∧ vm_taped.toInt ≤ 1200) (h_vm_at : 0 ≤ vm_at.toInt ∧ vm_at.toInt ≤ 1200) (h_vm_value : 0 ≤ vm_value.toInt ∧ vm_value.toInt ≤ 1000009) (h_fm_has : ar_ok [0, (-2147483648), (-2147483648), 0, 0, 0, 0, 0, 0, 0, 0] [20, 2147483647, 2147483647, 12, 12, 11, 11, 8, 12, 5, 40] fm_has) (h_fm_round : ar_ok [0] [5] fm_round) (h_a1 : 0 ≤ a1.toInt ∧ a1.toInt ≤ 1) (h_a2 : 0 ≤ a2.toInt ∧ a2.toInt ≤ 11) (h_rp : 1 ≤ (fm_has 3).toInt ∧ 1 ≤ (fm_has 4).toInt) (sz : Nat) : Met l yX12_mayBe wsX12_mayBe ({ frames := 14, cells := 0, slots := 0, locals := 293 }) (va_Pc [.ref qm, .int a1, .int a2] (ct_P D (ct_T cI cJ cB cZ cO) G (w_c_X12_mayBe cI cJ cB cZ cO qm vm_thrown qm_width qm_many qm_cells qm_moved qm_tape vm_taped vm_at vm_token vm_place vm_value vm_word vm_bad vm_badPlace vm_fault vm_faultPlace qm_lines qm_has fm_has qm_round fm_round qm_meets fm_meets qm_stumble qm_isMud qm_cell qm_tune qm_change qm_isKept qm_steps qm_places qm_danced vm_runMost vm_runBegins qm_heardBy vm_fitMany vm_fitFirst vm_fitBeats vm_listenLeaves qm_there vm_metAt vm_metIn qm_wins vm_nightHoles vm_nightFirst vm_nightMud vm_nightSlips vm_drawnNow) sz)) (va_Qi (fun (rz : Int32) (u : Unit) => (0 ≤ rz.toInt ∧ rz.toInt ≤ 63)) (fun (u : Unit) t => ct_Q D (va_A (w_c_X12_mayBe cI cJ cB cZ cO qm vm_thrown qm_width qm_many qm_cells qm_moved qm_tape vm_taped vm_at vm_token vm_place vm_value vm_word vm_bad vm_badPlace vm_fault vm_faultPlace qm_lines qm_has fm_has qm_round fm_round qm_meets fm_meets qm_stumble qm_isMud qm_cell qm_tune qm_change qm_isKept qm_steps qm_places qm_danced vm_runMost vm_runBegins qm_heardBy vm_fitMany vm_fitFirst vm_fitBeats vm_listenLeaves qm_there vm_metAt vm_metIn qm_wins vm_nightHoles vm_nightFirst vm_nightMud vm_nightSlips vm_drawnNow) sz) [mo qm vm_thrown qm_width qm_many qm_cells qm_moved qm_tape vm_taped vm_at vm_token vm_place vm_value vm_word vm_bad vm_badPlace vm_fault vm_faultPlace qm_lines qm_has qm_round qm_meets qm_stumble qm_isMud qm_cell qm_tune qm_change qm_isKept qm_steps qm_places qm_danced vm_runMost vm_runBegins qm_heardBy vm_fitMany vm_fitFirst vm_fitBeats vm_listenLeaves qm_there vm_metAt vm_metIn qm_wins vm_nightHoles vm_nightFirst vm_nightMud vm_nightSlips vm_drawnNow, (qm_has, .inl (cI, 55, .inl (fm_has))), (qm_round, .inl (cI, 120, .inl (fm_round))), (qm_meets, .inl (cI, 30, .inl (fm_meets)))] t) (va_A (w_c_X12_mayBe cI cJ cB cZ cO qm vm_thrown qm_width qm_many qm_cells qm_moved qm_tape vm_taped vm_at vm_token vm_place vm_value vm_word vm_bad vm_badPlace vm_fault vm_faultPlace qm_lines qm_has fm_has qm_round fm_round qm_meets fm_meets qm_stumble qm_isMud qm_cell qm_tune qm_change qm_isKept qm_steps qm_places qm_danced vm_runMost vm_runBegins qm_heardBy vm_fitMany vm_fitFirst vm_fitBeats vm_listenLeaves qm_there vm_metAt vm_metIn qm_wins vm_nightHoles vm_nightFirst vm_nightMud vm_nightSlips vm_drawnNow) sz)) 0 0 (va_A (w_c_X12_mayBe cI cJ cB cZ cO qm vm_thrown qm_width qm_many qm_cells qm_moved qm_tape vm_taped vm_at vm_token vm_place vm_value vm_word vm_bad vm_badPlace vm_fault vm_faultPlace qm_lines qm_has fm_has qm_round fm_round qm_meets fm_meets qm_stumble qm_isMud qm_cell qm_tune qm_change qm_isKept qm_steps qm_places qm_danced vm_runMost vm_runBegins qm_heardBy vm_fitMany vm_fitFirst vm_fitBeats vm_listenLeaves qm_there vm_metAt vm_metIn qm_wins vm_nightHoles vm_nightFirst vm_nightMud vm_nightSlips vm_drawnNow) sz) := by
  refine Met.ofW (cc := cX12_mayBe) (maxL := 9) (ret := (some .int)) (by decide) rfl ?_
  intro p e s m args below meth c s₁ B hml hv
  obtain ⟨rfl, hsz, hP, hE, hD0, hH⟩ := hv
  have hx := B.exec
  have hb := B.bytes
  have hr := B.returns
  have hts := atoms_spec (ws := wsX12_mayBe) B.pre
  have hown : s.vm.findClass RX12 = some m.cls := findClass_of_methodNamed B.named
  have hlocks := B.notSynchronized
  have hK := hE.1
  have hi12 : ∀ w ∈ u_ws RX12 TX12 45, w ∈ wsX12_mayBe := fun w h => List.mem_cons_of_mem _ (List.mem_append_right _ h)
  subst hsz
  have hD := hD0.self (sz := s.heap.size)
  generalize hAe : va_A (w_c_X12_mayBe cI cJ cB cZ cO qm vm_thrown qm_width qm_many qm_cells qm_moved qm_tape vm_taped vm_at vm_token vm_place vm_value vm_word vm_bad vm_badPlace vm_fault vm_faultPlace qm_lines qm_has fm_has qm_round fm_round qm_meets fm_meets qm_stumble qm_isMud qm_cell qm_tune qm_change qm_isKept qm_steps qm_places qm_danced vm_runMost vm_runBegins qm_heardBy vm_fitMany vm_fitFirst vm_fitBeats vm_listenLeaves qm_there vm_metAt vm_metIn qm_wins vm_nightHoles vm_nightFirst vm_nightMud vm_nightSlips vm_drawnNow) s.heap.size = A at hD hH ⊢
  have hA : ∀ q : Nat, s.heap.size ≤ q → A q := fun q h => by rw [← hAe]; exact Or.inr h
  have hS : va_S A s.heap s.heap [] := va_S.rf
  obtain ⟨hP, hD⟩ : ct_B D A s.heap [mo qm vm_thrown qm_width qm_many qm_cells qm_moved qm_tape vm_taped vm_at vm_token vm_place vm_value vm_word vm_bad vm_badPlace vm_fault vm_faultPlace qm_lines qm_has qm_round qm_meets qm_stumble qm_isMud qm_cell qm_tune qm_change qm_isKept qm_steps qm_places qm_danced vm_runMost vm_runBegins qm_heardBy vm_fitMany vm_fitFirst vm_fitBeats vm_listenLeaves qm_there vm_metAt vm_metIn qm_wins vm_nightHoles vm_nightFirst vm_nightMud vm_nightSlips vm_drawnNow, (qm_has, .inl (cI, 55, .inl (fm_has))), (qm_round, .inl (cI, 120, .inl (fm_round))), (qm_meets, .inl (cI, 30, .inl (fm_meets)))] := ⟨hP, hD⟩
  have hl := lv_entry ([.ref qm, .int a1, .int a2]) (n := 9) (Nat.le_of_ble_eq_true rfl)
  rw [lg_entry_eq]
  generalize (lg_sl ([.ref qm, .int a1, .int a2]) ++ List.replicate (9 - (lg_sl ([.ref qm, .int a1, .int a2])).length) Slot.unset).toArray = ls at hl ⊢
  have hl : lv_has ls 9 [(0, .ref qm), (1, .int a1), (2, .int a2)] := hl
  obtain ⟨H, hHe⟩ : ∃ H : Heap, H = s.heap := ⟨_, rfl⟩
  rw [← hHe] at hP
  have hS : va_S A s.heap H [] := by rw [hHe]; exact va_S.rf
  refine ct_start hHe ?_
  refine lv_bipush (v := 63) hx hb dX12_mayBe_0 (by decide) ?_
  refine lv_istore_n (lv' := [(3, .int 63), (0, .ref qm), (1, .int a1), (2, .int a2)]) hx hb dX12_mayBe_2 rfl hl (by decide) rfl (fun ls hl => ?_)
  refine lv_aload_n hx hb dX12_mayBe_3 rfl (lv_at hl 1 rfl) ?_
  refine va_get (D := D) (ci := 12) (v := .ref qm_has) (C := RX12) (T := TX12) (N := 45) hx hb hts hi12 hown hK hP 0 rfl rfl 17 (by decide) (hts (.fieldLink RX12 34 "OverHillModel" "has" "[I") (by decide +kernel)) (fun _ h9 => h9) rfl dX12_mayBe_4 ?_
  refine lv_iconst (v := 0) hx hb dX12_mayBe_7 (by decide) ?_
  refine va_iald (D := D) hx hb hK hP 1 0 rfl rfl (tq_in (a := 0) (by decide) (by omega)) dX12_mayBe_8 ?_
  refine lv_topi (fun z1 ez1 => ?_)
  have fz1 : 0 ≤ z1.toInt ∧ z1.toInt ≤ 20 := by rw [ez1]; exact ar_get h_fm_has (0 : Int32) 0 (by decide) (by decide) rfl
  refine lv_istore (lv' := [(4, .int z1), (3, .int 63), (0, .ref qm), (1, .int a1), (2, .int a2)]) hx hb dX12_mayBe_9 hl (by decide) rfl (fun ls hl => ?_)
  refine lv_iload hx hb dX12_mayBe_11 (lv_at hl 0 rfl) ?_
  refine lv_istore (lv' := [(5, .int z1), (4, .int z1), (3, .int 63), (0, .ref qm), (1, .int a1), (2, .int a2)]) hx hb dX12_mayBe_13 hl (by decide) rfl (fun ls hl => ?_)
  refine ct_loop (X := Int32 × Int32) (fun x => (164 - x.2.toInt).toNat) (fun x H locs ls => ((0 ≤ x.1.toInt ∧ x.1.toInt ≤ 63)) ∧ ((0 ≤ x.2.toInt ∧ x.2.toInt ≤ 164)) ∧ (z1.toInt ≤ x.2.toInt) ∧ ct_B D A H [mo qm vm_thrown qm_width qm_many qm_cells qm_moved qm_tape vm_taped vm_at vm_token vm_place vm_value vm_word vm_bad vm_badPlace vm_fault vm_faultPlace qm_lines qm_has qm_round qm_meets qm_stumble qm_isMud qm_cell qm_tune qm_change qm_isKept qm_steps qm_places qm_danced vm_runMost vm_runBegins qm_heardBy vm_fitMany vm_fitFirst vm_fitBeats vm_listenLeaves qm_there vm_metAt vm_metIn qm_wins vm_nightHoles vm_nightFirst vm_nightMud vm_nightSlips vm_drawnNow, (qm_has, .inl (cI, 55, .inl (fm_has))), (qm_round, .inl (cI, 120, .inl (fm_round))), (qm_meets, .inl (cI, 30, .inl (fm_meets)))] ∧ va_S A s.heap H locs ∧ lv_has ls 9 [(5, .int x.2), (4, .int z1), (3, .int x.1), (0, .ref qm), (1, .int a1), (2, .int a2)]) 15 ((63 : Int32), z1) ⟨(show 0 ≤ (63 : Int32).toInt ∧ (63 : Int32).toInt ≤ 63 by decide), (show 0 ≤ z1.toInt ∧ z1.toInt ≤ 164 by omega), (show z1.toInt ≤ z1.toInt by omega), ⟨hP, hD⟩, hS, lv_sub hl [0, 1, 2, 3, 4, 5] rfl⟩ (fun x ih6242 H locs ls hI => ?_)
  obtain ⟨x6240, x6241⟩ := x
  obtain ⟨h_x6240, h_x6241, he0, ⟨hP, hD⟩, hS, hl⟩ := hI
  change (0 ≤ x6240.toInt ∧ x6240.toInt ≤ 63) at h_x6240
  change (0 ≤ x6241.toInt ∧ x6241.toInt ≤ 164) at h_x6241
  change z1.toInt ≤ x6241.toInt at he0
  obtain ⟨hP, hD⟩ : ct_B D A H [mo qm vm_thrown qm_width qm_many qm_cells qm_moved qm_tape vm_taped vm_at vm_token vm_place vm_value vm_word vm_bad vm_badPlace vm_fault vm_faultPlace qm_lines qm_has qm_round qm_meets qm_stumble qm_isMud qm_cell qm_tune qm_change qm_isKept qm_steps qm_places qm_danced vm_runMost vm_runBegins qm_heardBy vm_fitMany vm_fitFirst vm_fitBeats vm_listenLeaves qm_there vm_metAt vm_metIn qm_wins vm_nightHoles vm_nightFirst vm_nightMud vm_nightSlips vm_drawnNow, (qm_has, .inl (cI, 55, .inl (fm_has))), (qm_round, .inl (cI, 120, .inl (fm_round))), (qm_meets, .inl (cI, 30, .inl (fm_meets)))] := ⟨hP, hD⟩
  have hl : lv_has ls 9 [(5, .int x6241), (4, .int z1), (3, .int x6240), (0, .ref qm), (1, .int a1), (2, .int a2)] := hl
  refine lv_iload hx hb dX12_mayBe_15 (lv_at hl 0 rfl) ?_
  refine lv_iload hx hb dX12_mayBe_17 (lv_at hl 1 rfl) ?_
  refine lv_aload_n hx hb dX12_mayBe_19 rfl (lv_at hl 3 rfl) ?_
  refine ct_calli (D := D) (wr := [(qm_round, .inl (cI, 120, .inl (fm_round))), (qm_meets, .inl (cI, 30, .inl (fm_meets)))]) (va_runV (As := []) (rest := [.int z1, .int x6241]) ⟨hx, hb, hml, hown, hts⟩ (c_X12_periodOf l D G cI cJ cB cZ cO qm vm_thrown qm_width qm_many qm_cells qm_moved qm_tape vm_taped vm_at vm_token vm_place vm_value vm_word vm_bad vm_badPlace vm_fault vm_faultPlace qm_lines qm_has fm_has qm_round qm_meets qm_stumble qm_isMud qm_cell qm_tune qm_change qm_isKept qm_steps qm_places qm_danced vm_runMost vm_runBegins qm_heardBy vm_fitMany vm_fitFirst vm_fitBeats vm_listenLeaves qm_there vm_metAt vm_metIn qm_wins vm_nightHoles vm_nightFirst vm_nightMud vm_nightSlips vm_drawnNow h_vm_taped h_vm_at h_vm_value h_fm_has h_rp H.size) (cwV 0 hts gX12_mayBe_X12_periodOf rfl rfl rfl (by decide +kernel) ⟨Nat.le_of_ble_eq_true rfl, Nat.le_of_ble_eq_true rfl⟩) (ct_preV (T := ct_T cI cJ cB cZ cO) (ci := 12) (q0 := 0) hE hH hP hD hS hA [0, 1] (by decide) rfl rfl rfl) rfl rfl hl.1 rfl (lv_room (Nat.le_of_ble_eq_true rfl)) dX12_mayBe_20 ⟨Nat.le_of_ble_eq_true rfl, Nat.le_of_ble_eq_true rfl⟩) hP hD hS hA [0, 1] [2, 3] rfl rfl (by decide) (by decide) (fun r6243 u H locs hw hP hD hS => ?_)
  obtain ⟨hP, hD⟩ : ct_B D A H [(qm_round, .inl (cI, 120, .inl (fm_round))), (qm_meets, .inl (cI, 30, .inl (fm_meets))), mo qm vm_thrown qm_width qm_many qm_cells qm_moved qm_tape vm_taped vm_at vm_token vm_place vm_value vm_word vm_bad vm_badPlace vm_fault vm_faultPlace qm_lines qm_has qm_round qm_meets qm_stumble qm_isMud qm_cell qm_tune qm_change qm_isKept qm_steps qm_places qm_danced vm_runMost vm_runBegins qm_heardBy vm_fitMany vm_fitFirst vm_fitBeats vm_listenLeaves qm_there vm_metAt vm_metIn qm_wins vm_nightHoles vm_nightFirst vm_nightMud vm_nightSlips vm_drawnNow, (qm_has, .inl (cI, 55, .inl (fm_has)))] := ⟨hP, hD⟩
  have hz := hw
  clear hw
  have h_r6243 : 0 ≤ r6243.toInt ∧ r6243.toInt ≤ 144 := hz
  clear hz
  refine lv_iadd hx hb dX12_mayBe_23 ?_
  refine lv_topi (fun z6244 ez6244 => ?_)
  have fz6244 : z6244.toInt = z1.toInt + r6243.toInt := by rw [ez6244]; exact tq_add rfl rfl (by omega)
  refine lv_icmp_ge (tgt := 185) hx hb dX12_mayBe_24 (by decide) (fun hc => ?_) (fun hc => ?_)
  · have hq6245 : z6244.toInt ≤ x6241.toInt := tq_le rfl rfl hc
    refine lv_iload_n hx hb dX12_mayBe_185 rfl (lv_at hl 2 rfl) ?_
    obtain ⟨hP9, hD9⟩ : ct_B D A H [mo qm vm_thrown qm_width qm_many qm_cells qm_moved qm_tape vm_taped vm_at vm_token vm_place vm_value vm_word vm_bad vm_badPlace vm_fault vm_faultPlace qm_lines qm_has qm_round qm_meets qm_stumble qm_isMud qm_cell qm_tune qm_change qm_isKept qm_steps qm_places qm_danced vm_runMost vm_runBegins qm_heardBy vm_fitMany vm_fitFirst vm_fitBeats vm_listenLeaves qm_there vm_metAt vm_metIn qm_wins vm_nightHoles vm_nightFirst vm_nightMud vm_nightSlips vm_drawnNow, (qm_has, .inl (cI, 55, .inl (fm_has))), (qm_round, .inl (cI, 120, .inl (fm_round))), (qm_meets, .inl (cI, 30, .inl (fm_meets)))] := ⟨hP.sub [2, 3, 0, 1] rfl, hD.sub [2, 3, 0, 1] (by decide) rfl⟩
    exact W.iret (v := x6240) hx hb hr (fun t ht hW => ⟨⟨x6240, (), rfl, h_x6240, by rw [ht]; exact hP9, hD9⟩, hS.F ht⟩) hS.2.2 dX12_mayBe_186
  · have hq6245 : x6241.toInt < z6244.toInt := tq_nle rfl rfl hc
    refine lv_aload_n hx hb dX12_mayBe_27 rfl (lv_at hl 3 rfl) ?_
    refine va_get (D := D) (ci := 12) (v := .ref qm_has) (C := RX12) (T := TX12) (N := 45) hx hb hts hi12 hown hK hP 2 rfl rfl 17 (by decide) (hts (.fieldLink RX12 34 "OverHillModel" "has" "[I") (by decide +kernel)) (fun _ h9 => h9) rfl dX12_mayBe_28 ?_
    refine lv_iconst (v := 5) hx hb dX12_mayBe_31 (by decide) ?_
    refine lv_iload_n hx hb dX12_mayBe_32 rfl (lv_at hl 4 rfl) ?_
    refine lv_iadd hx hb dX12_mayBe_33 ?_
    refine lv_topi (fun z6246 ez6246 => ?_)
    have fz6246 : z6246.toInt = 5 + a1.toInt := by rw [ez6246]; exact tq_add (by decide) rfl (by omega)
    refine va_iald (D := D) hx hb hK hP 3 0 rfl rfl (tq_in rfl (by omega)) dX12_mayBe_34 ?_
    refine lv_topi (fun z6247 ez6247 => ?_)
    have fz6247 : 0 ≤ z6247.toInt ∧ z6247.toInt ≤ 11 := by rw [ez6247]; exact ar_rng h_fm_has z6246 5 6 (by omega) (by omega) (by decide)
    refine lv_iload hx hb dX12_mayBe_35 (lv_at hl 0 rfl) ?_
    refine lv_iadd hx hb dX12_mayBe_37 ?_
    refine lv_topi (fun z6248 ez6248 => ?_)
    have fz6248 : z6248.toInt = z6247.toInt + x6241.toInt := by rw [ez6248]; exact tq_add rfl rfl (by omega)
    refine lv_aload_n hx hb dX12_mayBe_38 rfl (lv_at hl 3 rfl) ?_
    refine lv_iload_n hx hb dX12_mayBe_39 rfl (lv_at hl 4 rfl) ?_
    refine ct_calli (D := D) (wr := [(qm_round, .inl (cI, 120, .inl (fm_round))), (qm_meets, .inl (cI, 30, .inl (fm_meets)))]) (va_runV (As := [.int a1]) (rest := [.int z6248]) ⟨hx, hb, hml, hown, hts⟩ (c_X12_lengthOfP l D G cI cJ cB cZ cO qm vm_thrown qm_width qm_many qm_cells qm_moved qm_tape vm_taped vm_at vm_token vm_place vm_value vm_word vm_bad vm_badPlace vm_fault vm_faultPlace qm_lines qm_has fm_has qm_round qm_meets qm_stumble qm_isMud qm_cell qm_tune qm_change qm_isKept qm_steps qm_places qm_danced vm_runMost vm_runBegins qm_heardBy vm_fitMany vm_fitFirst vm_fitBeats vm_listenLeaves qm_there vm_metAt vm_metIn qm_wins vm_nightHoles vm_nightFirst vm_nightMud vm_nightSlips vm_drawnNow a1 h_vm_taped h_vm_at h_vm_value h_fm_has h_a1 h_rp H.size) (cwV 1 hts gX12_mayBe_X12_lengthOf rfl rfl rfl (by decide +kernel) ⟨Nat.le_of_ble_eq_true rfl, Nat.le_of_ble_eq_true rfl⟩) (ct_preV (T := ct_T cI cJ cB cZ cO) (ci := 12) (q0 := 2) hE hH hP hD hS hA [2, 3] (by decide) rfl rfl rfl) rfl rfl hl.1 rfl (lv_room (Nat.le_of_ble_eq_true rfl)) dX12_mayBe_40 ⟨Nat.le_of_ble_eq_true rfl, Nat.le_of_ble_eq_true rfl⟩) hP hD hS hA [2, 3] [0, 1] rfl rfl (by decide) (by decide) (fun r6249 u H locs hw hP hD hS => ?_)
    obtain ⟨hP, hD⟩ : ct_B D A H [(qm_round, .inl (cI, 120, .inl (fm_round))), (qm_meets, .inl (cI, 30, .inl (fm_meets))), mo qm vm_thrown qm_width qm_many qm_cells qm_moved qm_tape vm_taped vm_at vm_token vm_place vm_value vm_word vm_bad vm_badPlace vm_fault vm_faultPlace qm_lines qm_has qm_round qm_meets qm_stumble qm_isMud qm_cell qm_tune qm_change qm_isKept qm_steps qm_places qm_danced vm_runMost vm_runBegins qm_heardBy vm_fitMany vm_fitFirst vm_fitBeats vm_listenLeaves qm_there vm_metAt vm_metIn qm_wins vm_nightHoles vm_nightFirst vm_nightMud vm_nightSlips vm_drawnNow, (qm_has, .inl (cI, 55, .inl (fm_has)))] := ⟨hP, hD⟩
    have hz := hw
    clear hw
    have h_r6249 : 1 ≤ r6249.toInt ∧ r6249.toInt ≤ 12 := hz
    clear hz
    refine lv_irem hx hb dX12_mayBe_43 (tq_nz (by omega)) ?_
    refine lv_topi (fun z6250 ez6250 => ?_)
    have fz6250 : 0 ≤ z6250.toInt ∧ z6250.toInt < r6249.toInt := by rw [ez6250]; exact tq_remp rfl rfl (by omega) (by omega)
    refine lv_iload_n hx hb dX12_mayBe_44 rfl (lv_at hl 5 rfl) ?_
    refine lv_icmp_ne (tgt := 52) hx hb dX12_mayBe_45 (by decide) (fun hc => ?_) (fun hc => ?_)
    · have hq6251 : z6250.toInt ≠ a2.toInt := tq_ne rfl rfl hc
      refine lv_iconst (v := 0) hx hb dX12_mayBe_52 (by decide) ?_
      refine lv_istore (lv' := [(6, .int 0), (5, .int x6241), (4, .int z1), (3, .int x6240), (0, .ref qm), (1, .int a1), (2, .int a2)]) hx hb dX12_mayBe_53 hl (by decide) rfl (fun ls hl => ?_)
      refine lv_aload_n hx hb dX12_mayBe_55 rfl (lv_at hl 4 rfl) ?_
      refine va_get (D := D) (ci := 12) (v := .ref qm_has) (C := RX12) (T := TX12) (N := 45) hx hb hts hi12 hown hK hP 2 rfl rfl 17 (by decide) (hts (.fieldLink RX12 34 "OverHillModel" "has" "[I") (by decide +kernel)) (fun _ h9 => h9) rfl dX12_mayBe_56 ?_
      refine lv_iconst (v := 5) hx hb dX12_mayBe_59 (by decide) ?_
      refine lv_iload_n hx hb dX12_mayBe_60 rfl (lv_at hl 5 rfl) ?_
      refine lv_iadd hx hb dX12_mayBe_61 ?_
      refine lv_topi (fun z6252 ez6252 => ?_)
      have fz6252 : z6252.toInt = 5 + a1.toInt := by rw [ez6252]; exact tq_add (by decide) rfl (by omega)
      refine va_iald (D := D) hx hb hK hP 3 0 rfl rfl (tq_in rfl (by omega)) dX12_mayBe_62 ?_
      refine lv_topi (fun z6253 ez6253 => ?_)
      have fz6253 : 0 ≤ z6253.toInt ∧ z6253.toInt ≤ 11 := by rw [ez6253]; exact ar_rng h_fm_has z6252 5 6 (by omega) (by omega) (by decide)
      refine lv_iload hx hb dX12_mayBe_63 (lv_at hl 1 rfl) ?_
      refine lv_iadd hx hb dX12_mayBe_65 ?_
      refine lv_topi (fun z6254 ez6254 => ?_)
      have fz6254 : z6254.toInt = z6253.toInt + x6241.toInt := by rw [ez6254]; exact tq_add rfl rfl (by omega)
      refine lv_iload hx hb dX12_mayBe_66 (lv_at hl 2 rfl) ?_
      refine lv_isub hx hb dX12_mayBe_68 ?_
      refine lv_topi (fun z6255 ez6255 => ?_)
      have fz6255 : z6255.toInt = z6254.toInt - z1.toInt := by rw [ez6255]; exact tq_subt rfl rfl (by omega)
      refine lv_aload_n hx hb dX12_mayBe_69 rfl (lv_at hl 4 rfl) ?_
      refine lv_iload_n hx hb dX12_mayBe_70 rfl (lv_at hl 5 rfl) ?_
      refine ct_calli (D := D) (wr := [(qm_round, .inl (cI, 120, .inl (fm_round))), (qm_meets, .inl (cI, 30, .inl (fm_meets)))]) (va_runV (As := [.int a1]) (rest := [.int z6255]) ⟨hx, hb, hml, hown, hts⟩ (c_X12_lengthOfP l D G cI cJ cB cZ cO qm vm_thrown qm_width qm_many qm_cells qm_moved qm_tape vm_taped vm_at vm_token vm_place vm_value vm_word vm_bad vm_badPlace vm_fault vm_faultPlace qm_lines qm_has fm_has qm_round qm_meets qm_stumble qm_isMud qm_cell qm_tune qm_change qm_isKept qm_steps qm_places qm_danced vm_runMost vm_runBegins qm_heardBy vm_fitMany vm_fitFirst vm_fitBeats vm_listenLeaves qm_there vm_metAt vm_metIn qm_wins vm_nightHoles vm_nightFirst vm_nightMud vm_nightSlips vm_drawnNow a1 h_vm_taped h_vm_at h_vm_value h_fm_has h_a1 h_rp H.size) (cwV 1 hts gX12_mayBe_X12_lengthOf rfl rfl rfl (by decide +kernel) ⟨Nat.le_of_ble_eq_true rfl, Nat.le_of_ble_eq_true rfl⟩) (ct_preV (T := ct_T cI cJ cB cZ cO) (ci := 12) (q0 := 2) hE hH hP hD hS hA [2, 3] (by decide) rfl rfl rfl) rfl rfl hl.1 rfl (lv_room (Nat.le_of_ble_eq_true rfl)) dX12_mayBe_71 ⟨Nat.le_of_ble_eq_true rfl, Nat.le_of_ble_eq_true rfl⟩) hP hD hS hA [2, 3] [0, 1] rfl rfl (by decide) (by decide) (fun r6256 u H locs hw hP hD hS => ?_)
      obtain ⟨hP, hD⟩ : ct_B D A H [(qm_round, .inl (cI, 120, .inl (fm_round))), (qm_meets, .inl (cI, 30, .inl (fm_meets))), mo qm vm_thrown qm_width qm_many qm_cells qm_moved qm_tape vm_taped vm_at vm_token vm_place vm_value vm_word vm_bad vm_badPlace vm_fault vm_faultPlace qm_lines qm_has qm_round qm_meets qm_stumble qm_isMud qm_cell qm_tune qm_change qm_isKept qm_steps qm_places qm_danced vm_runMost vm_runBegins qm_heardBy vm_fitMany vm_fitFirst vm_fitBeats vm_listenLeaves qm_there vm_metAt vm_metIn qm_wins vm_nightHoles vm_nightFirst vm_nightMud vm_nightSlips vm_drawnNow, (qm_has, .inl (cI, 55, .inl (fm_has)))] := ⟨hP, hD⟩
      have hz := hw
      clear hw
      have h_r6256 : 1 ≤ r6256.toInt ∧ r6256.toInt ≤ 12 := hz
      clear hz
      refine lv_irem hx hb dX12_mayBe_74 (tq_nz (by omega)) ?_
      refine lv_topi (fun z6257 ez6257 => ?_)
      have fz6257 : -r6256.toInt < z6257.toInt ∧ z6257.toInt < r6256.toInt := by rw [ez6257]; exact tq_rema rfl rfl (by omega)
      refine lv_iload_n hx hb dX12_mayBe_75 rfl (lv_at hl 6 rfl) ?_
      refine lv_icmp_ne (tgt := 83) hx hb dX12_mayBe_76 (by decide) (fun hc => ?_) (fun hc => ?_)
      · have hq6258 : z6257.toInt ≠ a2.toInt := tq_ne rfl rfl hc
        refine lv_iconst (v := 0) hx hb dX12_mayBe_83 (by decide) ?_
        refine lv_istore (lv' := [(7, .int 0), (6, .int 0), (5, .int x6241), (4, .int z1), (3, .int x6240), (0, .ref qm), (1, .int a1), (2, .int a2)]) hx hb dX12_mayBe_84 hl (by decide) rfl (fun ls hl => ?_)
        refine lv_iconst (v := 0) hx hb dX12_mayBe_86 (by decide) ?_
        refine lv_istore (lv' := [(8, .int 0), (7, .int 0), (6, .int 0), (5, .int x6241), (4, .int z1), (3, .int x6240), (0, .ref qm), (1, .int a1), (2, .int a2)]) hx hb dX12_mayBe_87 hl (by decide) rfl (fun ls hl => ?_)
        refine ct_loop (X := Int32) (fun x => (6 - x.toInt).toNat) (fun x H locs ls => ((0 ≤ x.toInt ∧ x.toInt ≤ 6)) ∧ ct_B D A H [(qm_round, .inl (cI, 120, .inl (fm_round))), (qm_meets, .inl (cI, 30, .inl (fm_meets))), mo qm vm_thrown qm_width qm_many qm_cells qm_moved qm_tape vm_taped vm_at vm_token vm_place vm_value vm_word vm_bad vm_badPlace vm_fault vm_faultPlace qm_lines qm_has qm_round qm_meets qm_stumble qm_isMud qm_cell qm_tune qm_change qm_isKept qm_steps qm_places qm_danced vm_runMost vm_runBegins qm_heardBy vm_fitMany vm_fitFirst vm_fitBeats vm_listenLeaves qm_there vm_metAt vm_metIn qm_wins vm_nightHoles vm_nightFirst vm_nightMud vm_nightSlips vm_drawnNow, (qm_has, .inl (cI, 55, .inl (fm_has)))] ∧ va_S A s.heap H locs ∧ lv_has ls 9 [(8, .int x), (7, .int 0), (6, .int 0), (5, .int x6241), (4, .int z1), (3, .int x6240), (0, .ref qm), (1, .int a1), (2, .int a2)]) 89 (0 : Int32) ⟨(show 0 ≤ (0 : Int32).toInt ∧ (0 : Int32).toInt ≤ 6 by decide), ⟨hP, hD⟩, hS, lv_sub hl [0, 1, 2, 3, 4, 5, 6, 7, 8] rfl⟩ (fun x ih6283 H locs ls hI => ?_)
        obtain ⟨x6282, rfl⟩ : ∃ z, z = x := ⟨_, rfl⟩
        obtain ⟨h_x6282, ⟨hP, hD⟩, hS, hl⟩ := hI
        change (0 ≤ x6282.toInt ∧ x6282.toInt ≤ 6) at h_x6282
        obtain ⟨hP, hD⟩ : ct_B D A H [(qm_round, .inl (cI, 120, .inl (fm_round))), (qm_meets, .inl (cI, 30, .inl (fm_meets))), mo qm vm_thrown qm_width qm_many qm_cells qm_moved qm_tape vm_taped vm_at vm_token vm_place vm_value vm_word vm_bad vm_badPlace vm_fault vm_faultPlace qm_lines qm_has qm_round qm_meets qm_stumble qm_isMud qm_cell qm_tune qm_change qm_isKept qm_steps qm_places qm_danced vm_runMost vm_runBegins qm_heardBy vm_fitMany vm_fitFirst vm_fitBeats vm_listenLeaves qm_there vm_metAt vm_metIn qm_wins vm_nightHoles vm_nightFirst vm_nightMud vm_nightSlips vm_drawnNow, (qm_has, .inl (cI, 55, .inl (fm_has)))] := ⟨hP, hD⟩
        have hl : lv_has ls 9 [(8, .int x6282), (7, .int 0), (6, .int 0), (5, .int x6241), (4, .int z1), (3, .int x6240), (0, .ref qm), (1, .int a1), (2, .int a2)] := hl
        refine lv_iload hx hb dX12_mayBe_89 (lv_at hl 0 rfl) ?_
        refine lv_bipush (v := 6) hx hb dX12_mayBe_91 (by decide) ?_
        refine lv_icmp_ge (tgt := 179) hx hb dX12_mayBe_93 (by decide) (fun hc => ?_) (fun hc => ?_)
        · have hq6284 : 6 ≤ x6282.toInt := tq_le (by decide) rfl hc
          obtain ⟨z6285, ez6285⟩ : ∃ z : Int32, z = x6241 + 1 := ⟨_, rfl⟩
          have fz6285 : z6285.toInt = x6241.toInt + 1 := by rw [ez6285]; exact tq_add rfl (by decide) (by omega)
          refine lv_iinc (v := z6285) (lv' := [(5, .int z6285), (8, .int x6282), (7, .int 0), (6, .int 0), (4, .int z1), (3, .int x6240), (0, .ref qm), (1, .int a1), (2, .int a2)]) hx hb dX12_mayBe_179 hl (k := 3) rfl ez6285.symm (by decide) rfl (fun ls hl => ?_)
          refine lv_goto (tgt := 15) hx hb dX12_mayBe_182 (by decide) ?_
          obtain ⟨hP9, hD9⟩ : ct_B D A H [mo qm vm_thrown qm_width qm_many qm_cells qm_moved qm_tape vm_taped vm_at vm_token vm_place vm_value vm_word vm_bad vm_badPlace vm_fault vm_faultPlace qm_lines qm_has qm_round qm_meets qm_stumble qm_isMud qm_cell qm_tune qm_change qm_isKept qm_steps qm_places qm_danced vm_runMost vm_runBegins qm_heardBy vm_fitMany vm_fitFirst vm_fitBeats vm_listenLeaves qm_there vm_metAt vm_metIn qm_wins vm_nightHoles vm_nightFirst vm_nightMud vm_nightSlips vm_drawnNow, (qm_has, .inl (cI, 55, .inl (fm_has))), (qm_round, .inl (cI, 120, .inl (fm_round))), (qm_meets, .inl (cI, 30, .inl (fm_meets)))] := ⟨hP.sub [2, 3, 0, 1] rfl, hD.sub [2, 3, 0, 1] (by decide) rfl⟩
          exact ih6242 (x6240, z6285) _ _ _ (show (164 - z6285.toInt).toNat < (164 - x6241.toInt).toNat by omega) ⟨h_x6240, (show 0 ≤ z6285.toInt ∧ z6285.toInt ≤ 164 by omega), (show z1.toInt ≤ z6285.toInt by omega), ⟨hP9, hD9⟩, hS, lv_sub hl [0, 4, 5, 6, 7, 8] rfl⟩
        · have hq6284 : x6282.toInt < 6 := tq_nle (by decide) rfl hc
          refine lv_iload hx hb dX12_mayBe_96 (lv_at hl 2 rfl) ?_
          refine lv_if_eq (tgt := 136) hx hb dX12_mayBe_98 (by decide) (fun _ => ?_) (fun hc => absurd hc (by decide))
          refine lv_iload hx hb dX12_mayBe_136 (lv_at hl 1 rfl) ?_
          refine lv_if_eq (tgt := 173) hx hb dX12_mayBe_138 (by decide) (fun _ => ?_) (fun hc => absurd hc (by decide))
          obtain ⟨z6286, ez6286⟩ : ∃ z : Int32, z = x6282 + 1 := ⟨_, rfl⟩
          have fz6286 : z6286.toInt = x6282.toInt + 1 := by rw [ez6286]; exact tq_add rfl (by decide) (by omega)
          refine lv_iinc (v := z6286) (lv' := [(8, .int z6286), (7, .int 0), (6, .int 0), (5, .int x6241), (4, .int z1), (3, .int x6240), (0, .ref qm), (1, .int a1), (2, .int a2)]) hx hb dX12_mayBe_173 hl (k := 0) rfl ez6286.symm (by decide) rfl (fun ls hl => ?_)
          refine lv_goto (tgt := 89) hx hb dX12_mayBe_176 (by decide) ?_
          exact ih6283 z6286 _ _ _ (show (6 - z6286.toInt).toNat < (6 - x6282.toInt).toNat by omega) ⟨(show 0 ≤ z6286.toInt ∧ z6286.toInt ≤ 6 by omega), ⟨hP, hD⟩, hS, lv_sub hl [0, 1, 2, 3, 4, 5, 6, 7, 8] rfl⟩
      · have hq6258 : z6257.toInt = a2.toInt := tq_eq rfl rfl hc
        refine lv_iconst (v := 1) hx hb dX12_mayBe_79 (by decide) ?_
        refine lv_goto (tgt := 84) hx hb dX12_mayBe_80 (by decide) ?_
        refine lv_istore (lv' := [(7, .int 1), (6, .int 0), (5, .int x6241), (4, .int z1), (3, .int x6240), (0, .ref qm), (1, .int a1), (2, .int a2)]) hx hb dX12_mayBe_84 hl (by decide) rfl (fun ls hl => ?_)
        refine lv_iconst (v := 0) hx hb dX12_mayBe_86 (by decide) ?_
        refine lv_istore (lv' := [(8, .int 0), (7, .int 1), (6, .int 0), (5, .int x6241), (4, .int z1), (3, .int x6240), (0, .ref qm), (1, .int a1), (2, .int a2)]) hx hb dX12_mayBe_87 hl (by decide) rfl (fun ls hl => ?_)
        refine ct_loop (X := Int32 × Int32) (fun x => (6 - x.2.toInt).toNat) (fun x H locs ls => ((0 ≤ x.1.toInt ∧ x.1.toInt ≤ 63)) ∧ ((0 ≤ x.2.toInt ∧ x.2.toInt ≤ 6)) ∧ ct_B D A H [(qm_round, .inl (cI, 120, .inl (fm_round))), (qm_meets, .inl (cI, 30, .inl (fm_meets))), mo qm vm_thrown qm_width qm_many qm_cells qm_moved qm_tape vm_taped vm_at vm_token vm_place vm_value vm_word vm_bad vm_badPlace vm_fault vm_faultPlace qm_lines qm_has qm_round qm_meets qm_stumble qm_isMud qm_cell qm_tune qm_change qm_isKept qm_steps qm_places qm_danced vm_runMost vm_runBegins qm_heardBy vm_fitMany vm_fitFirst vm_fitBeats vm_listenLeaves qm_there vm_metAt vm_metIn qm_wins vm_nightHoles vm_nightFirst vm_nightMud vm_nightSlips vm_drawnNow, (qm_has, .inl (cI, 55, .inl (fm_has)))] ∧ va_S A s.heap H locs ∧ lv_has ls 9 [(8, .int x.2), (7, .int 1), (6, .int 0), (5, .int x6241), (4, .int z1), (3, .int x.1), (0, .ref qm), (1, .int a1), (2, .int a2)]) 89 (x6240, (0 : Int32)) ⟨h_x6240, (show 0 ≤ (0 : Int32).toInt ∧ (0 : Int32).toInt ≤ 6 by decide), ⟨hP, hD⟩, hS, lv_sub hl [0, 1, 2, 3, 4, 5, 6, 7, 8] rfl⟩ (fun x ih6398 H locs ls hI => ?_)
        obtain ⟨x6396, x6397⟩ := x
        obtain ⟨h_x6396, h_x6397, ⟨hP, hD⟩, hS, hl⟩ := hI
        change (0 ≤ x6396.toInt ∧ x6396.toInt ≤ 63) at h_x6396
        change (0 ≤ x6397.toInt ∧ x6397.toInt ≤ 6) at h_x6397
        obtain ⟨hP, hD⟩ : ct_B D A H [(qm_round, .inl (cI, 120, .inl (fm_round))), (qm_meets, .inl (cI, 30, .inl (fm_meets))), mo qm vm_thrown qm_width qm_many qm_cells qm_moved qm_tape vm_taped vm_at vm_token vm_place vm_value vm_word vm_bad vm_badPlace vm_fault vm_faultPlace qm_lines qm_has qm_round qm_meets qm_stumble qm_isMud qm_cell qm_tune qm_change qm_isKept qm_steps qm_places qm_danced vm_runMost vm_runBegins qm_heardBy vm_fitMany vm_fitFirst vm_fitBeats vm_listenLeaves qm_there vm_metAt vm_metIn qm_wins vm_nightHoles vm_nightFirst vm_nightMud vm_nightSlips vm_drawnNow, (qm_has, .inl (cI, 55, .inl (fm_has)))] := ⟨hP, hD⟩
        have hl : lv_has ls 9 [(8, .int x6397), (7, .int 1), (6, .int 0), (5, .int x6241), (4, .int z1), (3, .int x6396), (0, .ref qm), (1, .int a1), (2, .int a2)] := hl
        refine lv_iload hx hb dX12_mayBe_89 (lv_at hl 0 rfl) ?_
        refine lv_bipush (v := 6) hx hb dX12_mayBe_91 (by decide) ?_
        refine lv_icmp_ge (tgt := 179) hx hb dX12_mayBe_93 (by decide) (fun hc => ?_) (fun hc => ?_)
        · have hq6399 : 6 ≤ x6397.toInt := tq_le (by decide) rfl hc
          obtain ⟨z6400, ez6400⟩ : ∃ z : Int32, z = x6241 + 1 := ⟨_, rfl⟩
          have fz6400 : z6400.toInt = x6241.toInt + 1 := by rw [ez6400]; exact tq_add rfl (by decide) (by omega)
          refine lv_iinc (v := z6400) (lv' := [(5, .int z6400), (8, .int x6397), (7, .int 1), (6, .int 0), (4, .int z1), (3, .int x6396), (0, .ref qm), (1, .int a1), (2, .int a2)]) hx hb dX12_mayBe_179 hl (k := 3) rfl ez6400.symm (by decide) rfl (fun ls hl => ?_)
          refine lv_goto (tgt := 15) hx hb dX12_mayBe_182 (by decide) ?_
          obtain ⟨hP9, hD9⟩ : ct_B D A H [mo qm vm_thrown qm_width qm_many qm_cells qm_moved qm_tape vm_taped vm_at vm_token vm_place vm_value vm_word vm_bad vm_badPlace vm_fault vm_faultPlace qm_lines qm_has qm_round qm_meets qm_stumble qm_isMud qm_cell qm_tune qm_change qm_isKept qm_steps qm_places qm_danced vm_runMost vm_runBegins qm_heardBy vm_fitMany vm_fitFirst vm_fitBeats vm_listenLeaves qm_there vm_metAt vm_metIn qm_wins vm_nightHoles vm_nightFirst vm_nightMud vm_nightSlips vm_drawnNow, (qm_has, .inl (cI, 55, .inl (fm_has))), (qm_round, .inl (cI, 120, .inl (fm_round))), (qm_meets, .inl (cI, 30, .inl (fm_meets)))] := ⟨hP.sub [2, 3, 0, 1] rfl, hD.sub [2, 3, 0, 1] (by decide) rfl⟩
          exact ih6242 (x6396, z6400) _ _ _ (show (164 - z6400.toInt).toNat < (164 - x6241.toInt).toNat by omega) ⟨h_x6396, (show 0 ≤ z6400.toInt ∧ z6400.toInt ≤ 164 by omega), (show z1.toInt ≤ z6400.toInt by omega), ⟨hP9, hD9⟩, hS, lv_sub hl [0, 4, 5, 6, 7, 8] rfl⟩
        · have hq6399 : x6397.toInt < 6 := tq_nle (by decide) rfl hc
          refine lv_iload hx hb dX12_mayBe_96 (lv_at hl 2 rfl) ?_
          refine lv_if_eq (tgt := 136) hx hb dX12_mayBe_98 (by decide) (fun _ => ?_) (fun hc => absurd hc (by decide))
          refine lv_iload hx hb dX12_mayBe_136 (lv_at hl 1 rfl) ?_
          refine lv_if_eq (tgt := 173) hx hb dX12_mayBe_138 (by decide) (fun hc => absurd hc (by decide)) (fun _ => ?_)
          refine lv_aload_n hx hb dX12_mayBe_141 rfl (lv_at hl 6 rfl) ?_
          refine va_get (D := D) (ci := 12) (v := .ref qm_meets) (C := RX12) (T := TX12) (N := 45) hx hb hts hi12 hown hK hP 2 rfl rfl 19 (by decide) (hts (.fieldLink RX12 40 "OverHillModel" "meets" "[I") (by decide +kernel)) (fun _ h9 => h9) rfl dX12_mayBe_142 ?_
          refine lv_aload_n hx hb dX12_mayBe_145 rfl (lv_at hl 6 rfl) ?_
          refine lv_iconst (v := 1) hx hb dX12_mayBe_146 (by decide) ?_
          refine lv_iload_n hx hb dX12_mayBe_147 rfl (lv_at hl 7 rfl) ?_
          refine lv_isub hx hb dX12_mayBe_148 ?_
          refine lv_topi (fun z6401 ez6401 => ?_)
          have fz6401 : z6401.toInt = 1 - a1.toInt := by rw [ez6401]; exact tq_subt (by decide) rfl (by omega)
          refine lv_iload hx hb dX12_mayBe_149 (lv_at hl 3 rfl) ?_
          refine lv_iconst (v := 0) hx hb dX12_mayBe_151 (by decide) ?_
          refine ct_calli (D := D) (wr := [(qm_meets, .inl (cI, 30, .inl (fm_meets)))]) (va_runV (As := [.int z6401, .int x6241, .int 0]) (rest := [.ref qm_meets]) ⟨hx, hb, hml, hown, hts⟩ (c_X12_plain l D G cI cJ cB cZ cO qm vm_thrown qm_width qm_many qm_cells qm_moved qm_tape vm_taped vm_at vm_token vm_place vm_value vm_word vm_bad vm_badPlace vm_fault vm_faultPlace qm_lines qm_has fm_has qm_round fm_round qm_meets qm_stumble qm_isMud qm_cell qm_tune qm_change qm_isKept qm_steps qm_places qm_danced vm_runMost vm_runBegins qm_heardBy vm_fitMany vm_fitFirst vm_fitBeats vm_listenLeaves qm_there vm_metAt vm_metIn qm_wins vm_nightHoles vm_nightFirst vm_nightMud vm_nightSlips vm_drawnNow z6401 x6241 0 h_vm_taped h_vm_at h_vm_value h_fm_has h_fm_round (by omega) (by omega) (by decide) h_rp H.size) (cwV 3 hts gX12_mayBe_X12_plain rfl rfl rfl (by decide +kernel) ⟨Nat.le_of_ble_eq_true rfl, Nat.le_of_ble_eq_true rfl⟩) (ct_preV (T := ct_T cI cJ cB cZ cO) (ci := 12) (q0 := 2) hE hH hP hD hS hA [2, 3, 0] (by decide) rfl rfl rfl) rfl rfl hl.1 rfl (lv_room (Nat.le_of_ble_eq_true rfl)) dX12_mayBe_152 ⟨Nat.le_of_ble_eq_true rfl, Nat.le_of_ble_eq_true rfl⟩) hP hD hS hA [2, 3, 0] [1] rfl rfl (by decide) (by decide) (fun r6402 u H locs hw hP hD hS => ?_)
          obtain ⟨hP, hD⟩ : ct_B D A H [(qm_meets, .inl (cI, 30, .inl (fm_meets))), mo qm vm_thrown qm_width qm_many qm_cells qm_moved qm_tape vm_taped vm_at vm_token vm_place vm_value vm_word vm_bad vm_badPlace vm_fault vm_faultPlace qm_lines qm_has qm_round qm_meets qm_stumble qm_isMud qm_cell qm_tune qm_change qm_isKept qm_steps qm_places qm_danced vm_runMost vm_runBegins qm_heardBy vm_fitMany vm_fitFirst vm_fitBeats vm_listenLeaves qm_there vm_metAt vm_metIn qm_wins vm_nightHoles vm_nightFirst vm_nightMud vm_nightSlips vm_drawnNow, (qm_has, .inl (cI, 55, .inl (fm_has))), (qm_round, .inl (cI, 120, .inl (fm_round)))] := ⟨hP, hD⟩
          have hz := hw
          clear hw
          have h_r6402 : 0 ≤ r6402.toInt ∧ r6402.toInt ≤ 5 := hz
          clear hz
          refine va_iald (D := D) hx hb hK hP 0 0 rfl rfl (tq_in rfl (by omega)) dX12_mayBe_155 ?_
          refine lv_topi (fun z6403 ez6403 => ?_)
          refine lv_iload hx hb dX12_mayBe_156 (lv_at hl 0 rfl) ?_
          refine ct_calli (D := D) (wr := [(qm_meets, .inl (cI, 30, .inl (fm_meets))), mo qm vm_thrown qm_width qm_many qm_cells qm_moved qm_tape vm_taped vm_at vm_token vm_place vm_value vm_word vm_bad vm_badPlace vm_fault vm_faultPlace qm_lines qm_has qm_round qm_meets qm_stumble qm_isMud qm_cell qm_tune qm_change qm_isKept qm_steps qm_places qm_danced vm_runMost vm_runBegins qm_heardBy vm_fitMany vm_fitFirst vm_fitBeats vm_listenLeaves qm_there vm_metAt vm_metIn qm_wins vm_nightHoles vm_nightFirst vm_nightMud vm_nightSlips vm_drawnNow, (qm_has, .inl (cI, 55, .inl (fm_has))), (qm_round, .inl (cI, 120, .inl (fm_round)))]) (va_runS (As := [.int z6403, .int x6397]) (rest := []) ⟨hx, hb, hml, hown, hts⟩ (c_X12_isBit l D G cI cJ cB cZ cO z6403 x6397  H.size) (va_cwS 2 hts gX12_mayBe_X12_isBit rfl rfl rfl (by decide +kernel) ⟨Nat.le_of_ble_eq_true rfl, Nat.le_of_ble_eq_true rfl⟩) (ct_preS (T := ct_T cI cJ cB cZ cO) hE hH hP hD hS hA [] (by decide) rfl) rfl rfl hl.1 rfl (lv_room (Nat.le_of_ble_eq_true rfl)) dX12_mayBe_158 ⟨Nat.le_of_ble_eq_true rfl, Nat.le_of_ble_eq_true rfl⟩) hP hD hS hA [] [0, 1, 2, 3] rfl rfl (by decide) (by decide) (fun r6404 u H locs hw hP hD hS => ?_)
          obtain ⟨hP, hD⟩ : ct_B D A H [(qm_meets, .inl (cI, 30, .inl (fm_meets))), mo qm vm_thrown qm_width qm_many qm_cells qm_moved qm_tape vm_taped vm_at vm_token vm_place vm_value vm_word vm_bad vm_badPlace vm_fault vm_faultPlace qm_lines qm_has qm_round qm_meets qm_stumble qm_isMud qm_cell qm_tune qm_change qm_isKept qm_steps qm_places qm_danced vm_runMost vm_runBegins qm_heardBy vm_fitMany vm_fitFirst vm_fitBeats vm_listenLeaves qm_there vm_metAt vm_metIn qm_wins vm_nightHoles vm_nightFirst vm_nightMud vm_nightSlips vm_drawnNow, (qm_has, .inl (cI, 55, .inl (fm_has))), (qm_round, .inl (cI, 120, .inl (fm_round)))] := ⟨hP, hD⟩
          have hz := hw
          clear hw
          rcases hz with ⟨hz, hz2⟩ | ⟨hz, hz2⟩
          · subst hz
            have hz_6405 : (bt z6403 x6397) := hz2
            refine lv_if_ne (tgt := 173) hx hb dX12_mayBe_161 (by decide) (fun _ => ?_) (fun hc => absurd hc (by decide))
            obtain ⟨z6406, ez6406⟩ : ∃ z : Int32, z = x6397 + 1 := ⟨_, rfl⟩
            have fz6406 : z6406.toInt = x6397.toInt + 1 := by rw [ez6406]; exact tq_add rfl (by decide) (by omega)
            refine lv_iinc (v := z6406) (lv' := [(8, .int z6406), (7, .int 1), (6, .int 0), (5, .int x6241), (4, .int z1), (3, .int x6396), (0, .ref qm), (1, .int a1), (2, .int a2)]) hx hb dX12_mayBe_173 hl (k := 0) rfl ez6406.symm (by decide) rfl (fun ls hl => ?_)
            refine lv_goto (tgt := 89) hx hb dX12_mayBe_176 (by decide) ?_
            obtain ⟨hP9, hD9⟩ : ct_B D A H [(qm_round, .inl (cI, 120, .inl (fm_round))), (qm_meets, .inl (cI, 30, .inl (fm_meets))), mo qm vm_thrown qm_width qm_many qm_cells qm_moved qm_tape vm_taped vm_at vm_token vm_place vm_value vm_word vm_bad vm_badPlace vm_fault vm_faultPlace qm_lines qm_has qm_round qm_meets qm_stumble qm_isMud qm_cell qm_tune qm_change qm_isKept qm_steps qm_places qm_danced vm_runMost vm_runBegins qm_heardBy vm_fitMany vm_fitFirst vm_fitBeats vm_listenLeaves qm_there vm_metAt vm_metIn qm_wins vm_nightHoles vm_nightFirst vm_nightMud vm_nightSlips vm_drawnNow, (qm_has, .inl (cI, 55, .inl (fm_has)))] := ⟨hP.sub [3, 0, 1, 2] rfl, hD.sub [3, 0, 1, 2] (by decide) rfl⟩
            exact ih6398 (x6396, z6406) _ _ _ (show (6 - z6406.toInt).toNat < (6 - x6397.toInt).toNat by omega) ⟨h_x6396, (show 0 ≤ z6406.toInt ∧ z6406.toInt ≤ 6 by omega), ⟨hP9, hD9⟩, hS, lv_sub hl [0, 1, 2, 3, 4, 5, 6, 7, 8] rfl⟩
          · subst hz
            have hz_6407 : ¬ (bt z6403 x6397) := hz2
            refine lv_if_ne (tgt := 173) hx hb dX12_mayBe_161 (by decide) (fun hc => absurd hc (by decide)) (fun _ => ?_)
            refine lv_iload_n hx hb dX12_mayBe_164 rfl (lv_at hl 5 rfl) ?_
            refine lv_iconst (v := 1) hx hb dX12_mayBe_165 (by decide) ?_
            refine lv_iload hx hb dX12_mayBe_166 (lv_at hl 0 rfl) ?_
            refine lv_ishl hx hb dX12_mayBe_168 ?_
            refine lv_topi (fun z6408 ez6408 => ?_)
            have fz6408 : 1 ≤ z6408.toInt ∧ z6408.toInt ≤ 32 := by rw [ez6408]; exact tq_shl5 rfl (by omega)
            refine lv_iconst (v := (-1)) hx hb dX12_mayBe_169 (by decide) ?_
            refine lv_ixor hx hb dX12_mayBe_170 ?_
            refine lv_topi (fun z6409 ez6409 => ?_)
            refine lv_iand hx hb dX12_mayBe_171 ?_
            refine lv_topi (fun z6410 ez6410 => ?_)
            have fz6410 : 0 ≤ z6410.toInt ∧ z6410.toInt ≤ x6396.toInt := by rw [ez6410]; exact tq_andl rfl (by omega)
            refine lv_istore_n (lv' := [(3, .int z6410), (8, .int x6397), (7, .int 1), (6, .int 0), (5, .int x6241), (4, .int z1), (0, .ref qm), (1, .int a1), (2, .int a2)]) hx hb dX12_mayBe_172 rfl hl (by decide) rfl (fun ls hl => ?_)
            obtain ⟨z6411, ez6411⟩ : ∃ z : Int32, z = x6397 + 1 := ⟨_, rfl⟩
            have fz6411 : z6411.toInt = x6397.toInt + 1 := by rw [ez6411]; exact tq_add rfl (by decide) (by omega)
            refine lv_iinc (v := z6411) (lv' := [(8, .int z6411), (3, .int z6410), (7, .int 1), (6, .int 0), (5, .int x6241), (4, .int z1), (0, .ref qm), (1, .int a1), (2, .int a2)]) hx hb dX12_mayBe_173 hl (k := 1) rfl ez6411.symm (by decide) rfl (fun ls hl => ?_)
            refine lv_goto (tgt := 89) hx hb dX12_mayBe_176 (by decide) ?_
            obtain ⟨hP9, hD9⟩ : ct_B D A H [(qm_round, .inl (cI, 120, .inl (fm_round))), (qm_meets, .inl (cI, 30, .inl (fm_meets))), mo qm vm_thrown qm_width qm_many qm_cells qm_moved qm_tape vm_taped vm_at vm_token vm_place vm_value vm_word vm_bad vm_badPlace vm_fault vm_faultPlace qm_lines qm_has qm_round qm_meets qm_stumble qm_isMud qm_cell qm_tune qm_change qm_isKept qm_steps qm_places qm_danced vm_runMost vm_runBegins qm_heardBy vm_fitMany vm_fitFirst vm_fitBeats vm_listenLeaves qm_there vm_metAt vm_metIn qm_wins vm_nightHoles vm_nightFirst vm_nightMud vm_nightSlips vm_drawnNow, (qm_has, .inl (cI, 55, .inl (fm_has)))] := ⟨hP.sub [3, 0, 1, 2] rfl, hD.sub [3, 0, 1, 2] (by decide) rfl⟩
            exact ih6398 (z6410, z6411) _ _ _ (show (6 - z6411.toInt).toNat < (6 - x6397.toInt).toNat by omega) ⟨(show 0 ≤ z6410.toInt ∧ z6410.toInt ≤ 63 by omega), (show 0 ≤ z6411.toInt ∧ z6411.toInt ≤ 6 by omega), ⟨hP9, hD9⟩, hS, lv_sub hl [0, 2, 3, 4, 5, 1, 6, 7, 8] rfl⟩
    · have hq6251 : z6250.toInt = a2.toInt := tq_eq rfl rfl hc
      refine lv_iconst (v := 1) hx hb dX12_mayBe_48 (by decide) ?_
      refine lv_goto (tgt := 53) hx hb dX12_mayBe_49 (by decide) ?_
      refine lv_istore (lv' := [(6, .int 1), (5, .int x6241), (4, .int z1), (3, .int x6240), (0, .ref qm), (1, .int a1), (2, .int a2)]) hx hb dX12_mayBe_53 hl (by decide) rfl (fun ls hl => ?_)
      refine lv_aload_n hx hb dX12_mayBe_55 rfl (lv_at hl 4 rfl) ?_
      refine va_get (D := D) (ci := 12) (v := .ref qm_has) (C := RX12) (T := TX12) (N := 45) hx hb hts hi12 hown hK hP 2 rfl rfl 17 (by decide) (hts (.fieldLink RX12 34 "OverHillModel" "has" "[I") (by decide +kernel)) (fun _ h9 => h9) rfl dX12_mayBe_56 ?_
      refine lv_iconst (v := 5) hx hb dX12_mayBe_59 (by decide) ?_
      refine lv_iload_n hx hb dX12_mayBe_60 rfl (lv_at hl 5 rfl) ?_
      refine lv_iadd hx hb dX12_mayBe_61 ?_
      refine lv_topi (fun z6412 ez6412 => ?_)
      have fz6412 : z6412.toInt = 5 + a1.toInt := by rw [ez6412]; exact tq_add (by decide) rfl (by omega)
      refine va_iald (D := D) hx hb hK hP 3 0 rfl rfl (tq_in rfl (by omega)) dX12_mayBe_62 ?_
      refine lv_topi (fun z6413 ez6413 => ?_)
      have fz6413 : 0 ≤ z6413.toInt ∧ z6413.toInt ≤ 11 := by rw [ez6413]; exact ar_rng h_fm_has z6412 5 6 (by omega) (by omega) (by decide)
      refine lv_iload hx hb dX12_mayBe_63 (lv_at hl 1 rfl) ?_
      refine lv_iadd hx hb dX12_mayBe_65 ?_
      refine lv_topi (fun z6414 ez6414 => ?_)
      have fz6414 : z6414.toInt = z6413.toInt + x6241.toInt := by rw [ez6414]; exact tq_add rfl rfl (by omega)
      refine lv_iload hx hb dX12_mayBe_66 (lv_at hl 2 rfl) ?_
      refine lv_isub hx hb dX12_mayBe_68 ?_
      refine lv_topi (fun z6415 ez6415 => ?_)
      have fz6415 : z6415.toInt = z6414.toInt - z1.toInt := by rw [ez6415]; exact tq_subt rfl rfl (by omega)
      refine lv_aload_n hx hb dX12_mayBe_69 rfl (lv_at hl 4 rfl) ?_
      refine lv_iload_n hx hb dX12_mayBe_70 rfl (lv_at hl 5 rfl) ?_
      refine ct_calli (D := D) (wr := [(qm_round, .inl (cI, 120, .inl (fm_round))), (qm_meets, .inl (cI, 30, .inl (fm_meets)))]) (va_runV (As := [.int a1]) (rest := [.int z6415]) ⟨hx, hb, hml, hown, hts⟩ (c_X12_lengthOfP l D G cI cJ cB cZ cO qm vm_thrown qm_width qm_many qm_cells qm_moved qm_tape vm_taped vm_at vm_token vm_place vm_value vm_word vm_bad vm_badPlace vm_fault vm_faultPlace qm_lines qm_has fm_has qm_round qm_meets qm_stumble qm_isMud qm_cell qm_tune qm_change qm_isKept qm_steps qm_places qm_danced vm_runMost vm_runBegins qm_heardBy vm_fitMany vm_fitFirst vm_fitBeats vm_listenLeaves qm_there vm_metAt vm_metIn qm_wins vm_nightHoles vm_nightFirst vm_nightMud vm_nightSlips vm_drawnNow a1 h_vm_taped h_vm_at h_vm_value h_fm_has h_a1 h_rp H.size) (cwV 1 hts gX12_mayBe_X12_lengthOf rfl rfl rfl (by decide +kernel) ⟨Nat.le_of_ble_eq_true rfl, Nat.le_of_ble_eq_true rfl⟩) (ct_preV (T := ct_T cI cJ cB cZ cO) (ci := 12) (q0 := 2) hE hH hP hD hS hA [2, 3] (by decide) rfl rfl rfl) rfl rfl hl.1 rfl (lv_room (Nat.le_of_ble_eq_true rfl)) dX12_mayBe_71 ⟨Nat.le_of_ble_eq_true rfl, Nat.le_of_ble_eq_true rfl⟩) hP hD hS hA [2, 3] [0, 1] rfl rfl (by decide) (by decide) (fun r6416 u H locs hw hP hD hS => ?_)
      obtain ⟨hP, hD⟩ : ct_B D A H [(qm_round, .inl (cI, 120, .inl (fm_round))), (qm_meets, .inl (cI, 30, .inl (fm_meets))), mo qm vm_thrown qm_width qm_many qm_cells qm_moved qm_tape vm_taped vm_at vm_token vm_place vm_value vm_word vm_bad vm_badPlace vm_fault vm_faultPlace qm_lines qm_has qm_round qm_meets qm_stumble qm_isMud qm_cell qm_tune qm_change qm_isKept qm_steps qm_places qm_danced vm_runMost vm_runBegins qm_heardBy vm_fitMany vm_fitFirst vm_fitBeats vm_listenLeaves qm_there vm_metAt vm_metIn qm_wins vm_nightHoles vm_nightFirst vm_nightMud vm_nightSlips vm_drawnNow, (qm_has, .inl (cI, 55, .inl (fm_has)))] := ⟨hP, hD⟩
      have hz := hw
      clear hw
      have h_r6416 : 1 ≤ r6416.toInt ∧ r6416.toInt ≤ 12 := hz
      clear hz
      refine lv_irem hx hb dX12_mayBe_74 (tq_nz (by omega)) ?_
      refine lv_topi (fun z6417 ez6417 => ?_)
      have fz6417 : -r6416.toInt < z6417.toInt ∧ z6417.toInt < r6416.toInt := by rw [ez6417]; exact tq_rema rfl rfl (by omega)
      refine lv_iload_n hx hb dX12_mayBe_75 rfl (lv_at hl 6 rfl) ?_
      refine lv_icmp_ne (tgt := 83) hx hb dX12_mayBe_76 (by decide) (fun hc => ?_) (fun hc => ?_)
      · have hq6418 : z6417.toInt ≠ a2.toInt := tq_ne rfl rfl hc
        refine lv_iconst (v := 0) hx hb dX12_mayBe_83 (by decide) ?_
        refine lv_istore (lv' := [(7, .int 0), (6, .int 1), (5, .int x6241), (4, .int z1), (3, .int x6240), (0, .ref qm), (1, .int a1), (2, .int a2)]) hx hb dX12_mayBe_84 hl (by decide) rfl (fun ls hl => ?_)
        refine lv_iconst (v := 0) hx hb dX12_mayBe_86 (by decide) ?_
        refine lv_istore (lv' := [(8, .int 0), (7, .int 0), (6, .int 1), (5, .int x6241), (4, .int z1), (3, .int x6240), (0, .ref qm), (1, .int a1), (2, .int a2)]) hx hb dX12_mayBe_87 hl (by decide) rfl (fun ls hl => ?_)
        refine ct_loop (X := Int32 × Int32) (fun x => (6 - x.2.toInt).toNat) (fun x H locs ls => ((0 ≤ x.1.toInt ∧ x.1.toInt ≤ 63)) ∧ ((0 ≤ x.2.toInt ∧ x.2.toInt ≤ 6)) ∧ ct_B D A H [(qm_round, .inl (cI, 120, .inl (fm_round))), (qm_meets, .inl (cI, 30, .inl (fm_meets))), mo qm vm_thrown qm_width qm_many qm_cells qm_moved qm_tape vm_taped vm_at vm_token vm_place vm_value vm_word vm_bad vm_badPlace vm_fault vm_faultPlace qm_lines qm_has qm_round qm_meets qm_stumble qm_isMud qm_cell qm_tune qm_change qm_isKept qm_steps qm_places qm_danced vm_runMost vm_runBegins qm_heardBy vm_fitMany vm_fitFirst vm_fitBeats vm_listenLeaves qm_there vm_metAt vm_metIn qm_wins vm_nightHoles vm_nightFirst vm_nightMud vm_nightSlips vm_drawnNow, (qm_has, .inl (cI, 55, .inl (fm_has)))] ∧ va_S A s.heap H locs ∧ lv_has ls 9 [(8, .int x.2), (7, .int 0), (6, .int 1), (5, .int x6241), (4, .int z1), (3, .int x.1), (0, .ref qm), (1, .int a1), (2, .int a2)]) 89 (x6240, (0 : Int32)) ⟨h_x6240, (show 0 ≤ (0 : Int32).toInt ∧ (0 : Int32).toInt ≤ 6 by decide), ⟨hP, hD⟩, hS, lv_sub hl [0, 1, 2, 3, 4, 5, 6, 7, 8] rfl⟩ (fun x ih6538 H locs ls hI => ?_)
        obtain ⟨x6536, x6537⟩ := x
        obtain ⟨h_x6536, h_x6537, ⟨hP, hD⟩, hS, hl⟩ := hI
        change (0 ≤ x6536.toInt ∧ x6536.toInt ≤ 63) at h_x6536
        change (0 ≤ x6537.toInt ∧ x6537.toInt ≤ 6) at h_x6537
        obtain ⟨hP, hD⟩ : ct_B D A H [(qm_round, .inl (cI, 120, .inl (fm_round))), (qm_meets, .inl (cI, 30, .inl (fm_meets))), mo qm vm_thrown qm_width qm_many qm_cells qm_moved qm_tape vm_taped vm_at vm_token vm_place vm_value vm_word vm_bad vm_badPlace vm_fault vm_faultPlace qm_lines qm_has qm_round qm_meets qm_stumble qm_isMud qm_cell qm_tune qm_change qm_isKept qm_steps qm_places qm_danced vm_runMost vm_runBegins qm_heardBy vm_fitMany vm_fitFirst vm_fitBeats vm_listenLeaves qm_there vm_metAt vm_metIn qm_wins vm_nightHoles vm_nightFirst vm_nightMud vm_nightSlips vm_drawnNow, (qm_has, .inl (cI, 55, .inl (fm_has)))] := ⟨hP, hD⟩
        have hl : lv_has ls 9 [(8, .int x6537), (7, .int 0), (6, .int 1), (5, .int x6241), (4, .int z1), (3, .int x6536), (0, .ref qm), (1, .int a1), (2, .int a2)] := hl
        refine lv_iload hx hb dX12_mayBe_89 (lv_at hl 0 rfl) ?_
        refine lv_bipush (v := 6) hx hb dX12_mayBe_91 (by decide) ?_
        refine lv_icmp_ge (tgt := 179) hx hb dX12_mayBe_93 (by decide) (fun hc => ?_) (fun hc => ?_)
        · have hq6539 : 6 ≤ x6537.toInt := tq_le (by decide) rfl hc
          obtain ⟨z6540, ez6540⟩ : ∃ z : Int32, z = x6241 + 1 := ⟨_, rfl⟩
          have fz6540 : z6540.toInt = x6241.toInt + 1 := by rw [ez6540]; exact tq_add rfl (by decide) (by omega)
          refine lv_iinc (v := z6540) (lv' := [(5, .int z6540), (8, .int x6537), (7, .int 0), (6, .int 1), (4, .int z1), (3, .int x6536), (0, .ref qm), (1, .int a1), (2, .int a2)]) hx hb dX12_mayBe_179 hl (k := 3) rfl ez6540.symm (by decide) rfl (fun ls hl => ?_)
          refine lv_goto (tgt := 15) hx hb dX12_mayBe_182 (by decide) ?_
          obtain ⟨hP9, hD9⟩ : ct_B D A H [mo qm vm_thrown qm_width qm_many qm_cells qm_moved qm_tape vm_taped vm_at vm_token vm_place vm_value vm_word vm_bad vm_badPlace vm_fault vm_faultPlace qm_lines qm_has qm_round qm_meets qm_stumble qm_isMud qm_cell qm_tune qm_change qm_isKept qm_steps qm_places qm_danced vm_runMost vm_runBegins qm_heardBy vm_fitMany vm_fitFirst vm_fitBeats vm_listenLeaves qm_there vm_metAt vm_metIn qm_wins vm_nightHoles vm_nightFirst vm_nightMud vm_nightSlips vm_drawnNow, (qm_has, .inl (cI, 55, .inl (fm_has))), (qm_round, .inl (cI, 120, .inl (fm_round))), (qm_meets, .inl (cI, 30, .inl (fm_meets)))] := ⟨hP.sub [2, 3, 0, 1] rfl, hD.sub [2, 3, 0, 1] (by decide) rfl⟩
          exact ih6242 (x6536, z6540) _ _ _ (show (164 - z6540.toInt).toNat < (164 - x6241.toInt).toNat by omega) ⟨h_x6536, (show 0 ≤ z6540.toInt ∧ z6540.toInt ≤ 164 by omega), (show z1.toInt ≤ z6540.toInt by omega), ⟨hP9, hD9⟩, hS, lv_sub hl [0, 4, 5, 6, 7, 8] rfl⟩
        · have hq6539 : x6537.toInt < 6 := tq_nle (by decide) rfl hc
          refine lv_iload hx hb dX12_mayBe_96 (lv_at hl 2 rfl) ?_
          refine lv_if_eq (tgt := 136) hx hb dX12_mayBe_98 (by decide) (fun hc => absurd hc (by decide)) (fun _ => ?_)
          refine lv_aload_n hx hb dX12_mayBe_101 rfl (lv_at hl 6 rfl) ?_
          refine va_get (D := D) (ci := 12) (v := .ref qm_meets) (C := RX12) (T := TX12) (N := 45) hx hb hts hi12 hown hK hP 2 rfl rfl 19 (by decide) (hts (.fieldLink RX12 40 "OverHillModel" "meets" "[I") (by decide +kernel)) (fun _ h9 => h9) rfl dX12_mayBe_102 ?_
          refine lv_iload hx hb dX12_mayBe_105 (lv_at hl 0 rfl) ?_
          refine va_iald (D := D) hx hb hK hP 1 0 rfl rfl (tq_in rfl (by omega)) dX12_mayBe_107 ?_
          refine lv_topi (fun z6541 ez6541 => ?_)
          refine lv_aload_n hx hb dX12_mayBe_108 rfl (lv_at hl 6 rfl) ?_
          refine lv_iconst (v := 1) hx hb dX12_mayBe_109 (by decide) ?_
          refine lv_iload_n hx hb dX12_mayBe_110 rfl (lv_at hl 7 rfl) ?_
          refine lv_isub hx hb dX12_mayBe_111 ?_
          refine lv_topi (fun z6542 ez6542 => ?_)
          have fz6542 : z6542.toInt = 1 - a1.toInt := by rw [ez6542]; exact tq_subt (by decide) rfl (by omega)
          refine lv_iload hx hb dX12_mayBe_112 (lv_at hl 3 rfl) ?_
          refine lv_iload hx hb dX12_mayBe_114 (lv_at hl 4 rfl) ?_
          refine lv_isub hx hb dX12_mayBe_116 ?_
          refine lv_topi (fun z6543 ez6543 => ?_)
          have fz6543 : z6543.toInt = x6241.toInt - z1.toInt := by rw [ez6543]; exact tq_subt rfl rfl (by omega)
          refine lv_iconst (v := 0) hx hb dX12_mayBe_117 (by decide) ?_
          refine ct_calli (D := D) (wr := [(qm_meets, .inl (cI, 30, .inl (fm_meets)))]) (va_runV (As := [.int z6542, .int z6543, .int 0]) (rest := [.int z6541]) ⟨hx, hb, hml, hown, hts⟩ (c_X12_plain l D G cI cJ cB cZ cO qm vm_thrown qm_width qm_many qm_cells qm_moved qm_tape vm_taped vm_at vm_token vm_place vm_value vm_word vm_bad vm_badPlace vm_fault vm_faultPlace qm_lines qm_has fm_has qm_round fm_round qm_meets qm_stumble qm_isMud qm_cell qm_tune qm_change qm_isKept qm_steps qm_places qm_danced vm_runMost vm_runBegins qm_heardBy vm_fitMany vm_fitFirst vm_fitBeats vm_listenLeaves qm_there vm_metAt vm_metIn qm_wins vm_nightHoles vm_nightFirst vm_nightMud vm_nightSlips vm_drawnNow z6542 z6543 0 h_vm_taped h_vm_at h_vm_value h_fm_has h_fm_round (by omega) (by omega) (by decide) h_rp H.size) (cwV 3 hts gX12_mayBe_X12_plain rfl rfl rfl (by decide +kernel) ⟨Nat.le_of_ble_eq_true rfl, Nat.le_of_ble_eq_true rfl⟩) (ct_preV (T := ct_T cI cJ cB cZ cO) (ci := 12) (q0 := 2) hE hH hP hD hS hA [2, 3, 0] (by decide) rfl rfl rfl) rfl rfl hl.1 rfl (lv_room (Nat.le_of_ble_eq_true rfl)) dX12_mayBe_118 ⟨Nat.le_of_ble_eq_true rfl, Nat.le_of_ble_eq_true rfl⟩) hP hD hS hA [2, 3, 0] [1] rfl rfl (by decide) (by decide) (fun r6544 u H locs hw hP hD hS => ?_)
          obtain ⟨hP, hD⟩ : ct_B D A H [(qm_meets, .inl (cI, 30, .inl (fm_meets))), mo qm vm_thrown qm_width qm_many qm_cells qm_moved qm_tape vm_taped vm_at vm_token vm_place vm_value vm_word vm_bad vm_badPlace vm_fault vm_faultPlace qm_lines qm_has qm_round qm_meets qm_stumble qm_isMud qm_cell qm_tune qm_change qm_isKept qm_steps qm_places qm_danced vm_runMost vm_runBegins qm_heardBy vm_fitMany vm_fitFirst vm_fitBeats vm_listenLeaves qm_there vm_metAt vm_metIn qm_wins vm_nightHoles vm_nightFirst vm_nightMud vm_nightSlips vm_drawnNow, (qm_has, .inl (cI, 55, .inl (fm_has))), (qm_round, .inl (cI, 120, .inl (fm_round)))] := ⟨hP, hD⟩
          have hz := hw
          clear hw
          have h_r6544 : 0 ≤ r6544.toInt ∧ r6544.toInt ≤ 5 := hz
          clear hz
          refine ct_calli (D := D) (wr := [(qm_meets, .inl (cI, 30, .inl (fm_meets))), mo qm vm_thrown qm_width qm_many qm_cells qm_moved qm_tape vm_taped vm_at vm_token vm_place vm_value vm_word vm_bad vm_badPlace vm_fault vm_faultPlace qm_lines qm_has qm_round qm_meets qm_stumble qm_isMud qm_cell qm_tune qm_change qm_isKept qm_steps qm_places qm_danced vm_runMost vm_runBegins qm_heardBy vm_fitMany vm_fitFirst vm_fitBeats vm_listenLeaves qm_there vm_metAt vm_metIn qm_wins vm_nightHoles vm_nightFirst vm_nightMud vm_nightSlips vm_drawnNow, (qm_has, .inl (cI, 55, .inl (fm_has))), (qm_round, .inl (cI, 120, .inl (fm_round)))]) (va_runS (As := [.int z6541, .int r6544]) (rest := []) ⟨hx, hb, hml, hown, hts⟩ (c_X12_isBit l D G cI cJ cB cZ cO z6541 r6544  H.size) (va_cwS 2 hts gX12_mayBe_X12_isBit rfl rfl rfl (by decide +kernel) ⟨Nat.le_of_ble_eq_true rfl, Nat.le_of_ble_eq_true rfl⟩) (ct_preS (T := ct_T cI cJ cB cZ cO) hE hH hP hD hS hA [] (by decide) rfl) rfl rfl hl.1 rfl (lv_room (Nat.le_of_ble_eq_true rfl)) dX12_mayBe_121 ⟨Nat.le_of_ble_eq_true rfl, Nat.le_of_ble_eq_true rfl⟩) hP hD hS hA [] [0, 1, 2, 3] rfl rfl (by decide) (by decide) (fun r6545 u H locs hw hP hD hS => ?_)
          obtain ⟨hP, hD⟩ : ct_B D A H [(qm_meets, .inl (cI, 30, .inl (fm_meets))), mo qm vm_thrown qm_width qm_many qm_cells qm_moved qm_tape vm_taped vm_at vm_token vm_place vm_value vm_word vm_bad vm_badPlace vm_fault vm_faultPlace qm_lines qm_has qm_round qm_meets qm_stumble qm_isMud qm_cell qm_tune qm_change qm_isKept qm_steps qm_places qm_danced vm_runMost vm_runBegins qm_heardBy vm_fitMany vm_fitFirst vm_fitBeats vm_listenLeaves qm_there vm_metAt vm_metIn qm_wins vm_nightHoles vm_nightFirst vm_nightMud vm_nightSlips vm_drawnNow, (qm_has, .inl (cI, 55, .inl (fm_has))), (qm_round, .inl (cI, 120, .inl (fm_round)))] := ⟨hP, hD⟩
          have hz := hw
          clear hw
          rcases hz with ⟨hz, hz2⟩ | ⟨hz, hz2⟩
          · subst hz
            have hz_6546 : (bt z6541 r6544) := hz2
            refine lv_if_ne (tgt := 136) hx hb dX12_mayBe_124 (by decide) (fun _ => ?_) (fun hc => absurd hc (by decide))
            refine lv_iload hx hb dX12_mayBe_136 (lv_at hl 1 rfl) ?_
            refine lv_if_eq (tgt := 173) hx hb dX12_mayBe_138 (by decide) (fun _ => ?_) (fun hc => absurd hc (by decide))
            obtain ⟨z6547, ez6547⟩ : ∃ z : Int32, z = x6537 + 1 := ⟨_, rfl⟩
            have fz6547 : z6547.toInt = x6537.toInt + 1 := by rw [ez6547]; exact tq_add rfl (by decide) (by omega)
            refine lv_iinc (v := z6547) (lv' := [(8, .int z6547), (7, .int 0), (6, .int 1), (5, .int x6241), (4, .int z1), (3, .int x6536), (0, .ref qm), (1, .int a1), (2, .int a2)]) hx hb dX12_mayBe_173 hl (k := 0) rfl ez6547.symm (by decide) rfl (fun ls hl => ?_)
            refine lv_goto (tgt := 89) hx hb dX12_mayBe_176 (by decide) ?_
            obtain ⟨hP9, hD9⟩ : ct_B D A H [(qm_round, .inl (cI, 120, .inl (fm_round))), (qm_meets, .inl (cI, 30, .inl (fm_meets))), mo qm vm_thrown qm_width qm_many qm_cells qm_moved qm_tape vm_taped vm_at vm_token vm_place vm_value vm_word vm_bad vm_badPlace vm_fault vm_faultPlace qm_lines qm_has qm_round qm_meets qm_stumble qm_isMud qm_cell qm_tune qm_change qm_isKept qm_steps qm_places qm_danced vm_runMost vm_runBegins qm_heardBy vm_fitMany vm_fitFirst vm_fitBeats vm_listenLeaves qm_there vm_metAt vm_metIn qm_wins vm_nightHoles vm_nightFirst vm_nightMud vm_nightSlips vm_drawnNow, (qm_has, .inl (cI, 55, .inl (fm_has)))] := ⟨hP.sub [3, 0, 1, 2] rfl, hD.sub [3, 0, 1, 2] (by decide) rfl⟩
            exact ih6538 (x6536, z6547) _ _ _ (show (6 - z6547.toInt).toNat < (6 - x6537.toInt).toNat by omega) ⟨h_x6536, (show 0 ≤ z6547.toInt ∧ z6547.toInt ≤ 6 by omega), ⟨hP9, hD9⟩, hS, lv_sub hl [0, 1, 2, 3, 4, 5, 6, 7, 8] rfl⟩
          · subst hz
            have hz_6548 : ¬ (bt z6541 r6544) := hz2
            refine lv_if_ne (tgt := 136) hx hb dX12_mayBe_124 (by decide) (fun hc => absurd hc (by decide)) (fun _ => ?_)
            refine lv_iload_n hx hb dX12_mayBe_127 rfl (lv_at hl 5 rfl) ?_
            refine lv_iconst (v := 1) hx hb dX12_mayBe_128 (by decide) ?_
            refine lv_iload hx hb dX12_mayBe_129 (lv_at hl 0 rfl) ?_
            refine lv_ishl hx hb dX12_mayBe_131 ?_
            refine lv_topi (fun z6549 ez6549 => ?_)
            have fz6549 : 1 ≤ z6549.toInt ∧ z6549.toInt ≤ 32 := by rw [ez6549]; exact tq_shl5 rfl (by omega)
            refine lv_iconst (v := (-1)) hx hb dX12_mayBe_132 (by decide) ?_
            refine lv_ixor hx hb dX12_mayBe_133 ?_
            refine lv_topi (fun z6550 ez6550 => ?_)
            refine lv_iand hx hb dX12_mayBe_134 ?_
            refine lv_topi (fun z6551 ez6551 => ?_)
            have fz6551 : 0 ≤ z6551.toInt ∧ z6551.toInt ≤ x6536.toInt := by rw [ez6551]; exact tq_andl rfl (by omega)
            refine lv_istore_n (lv' := [(3, .int z6551), (8, .int x6537), (7, .int 0), (6, .int 1), (5, .int x6241), (4, .int z1), (0, .ref qm), (1, .int a1), (2, .int a2)]) hx hb dX12_mayBe_135 rfl hl (by decide) rfl (fun ls hl => ?_)
            refine lv_iload hx hb dX12_mayBe_136 (lv_at hl 2 rfl) ?_
            refine lv_if_eq (tgt := 173) hx hb dX12_mayBe_138 (by decide) (fun _ => ?_) (fun hc => absurd hc (by decide))
            obtain ⟨z6552, ez6552⟩ : ∃ z : Int32, z = x6537 + 1 := ⟨_, rfl⟩
            have fz6552 : z6552.toInt = x6537.toInt + 1 := by rw [ez6552]; exact tq_add rfl (by decide) (by omega)
            refine lv_iinc (v := z6552) (lv' := [(8, .int z6552), (3, .int z6551), (7, .int 0), (6, .int 1), (5, .int x6241), (4, .int z1), (0, .ref qm), (1, .int a1), (2, .int a2)]) hx hb dX12_mayBe_173 hl (k := 1) rfl ez6552.symm (by decide) rfl (fun ls hl => ?_)
            refine lv_goto (tgt := 89) hx hb dX12_mayBe_176 (by decide) ?_
            obtain ⟨hP9, hD9⟩ : ct_B D A H [(qm_round, .inl (cI, 120, .inl (fm_round))), (qm_meets, .inl (cI, 30, .inl (fm_meets))), mo qm vm_thrown qm_width qm_many qm_cells qm_moved qm_tape vm_taped vm_at vm_token vm_place vm_value vm_word vm_bad vm_badPlace vm_fault vm_faultPlace qm_lines qm_has qm_round qm_meets qm_stumble qm_isMud qm_cell qm_tune qm_change qm_isKept qm_steps qm_places qm_danced vm_runMost vm_runBegins qm_heardBy vm_fitMany vm_fitFirst vm_fitBeats vm_listenLeaves qm_there vm_metAt vm_metIn qm_wins vm_nightHoles vm_nightFirst vm_nightMud vm_nightSlips vm_drawnNow, (qm_has, .inl (cI, 55, .inl (fm_has)))] := ⟨hP.sub [3, 0, 1, 2] rfl, hD.sub [3, 0, 1, 2] (by decide) rfl⟩
            exact ih6538 (z6551, z6552) _ _ _ (show (6 - z6552.toInt).toNat < (6 - x6537.toInt).toNat by omega) ⟨(show 0 ≤ z6551.toInt ∧ z6551.toInt ≤ 63 by omega), (show 0 ≤ z6552.toInt ∧ z6552.toInt ≤ 6 by omega), ⟨hP9, hD9⟩, hS, lv_sub hl [0, 2, 3, 4, 5, 1, 6, 7, 8] rfl⟩
      · have hq6418 : z6417.toInt = a2.toInt := tq_eq rfl rfl hc
        refine lv_iconst (v := 1) hx hb dX12_mayBe_79 (by decide) ?_
        refine lv_goto (tgt := 84) hx hb dX12_mayBe_80 (by decide) ?_
        refine lv_istore (lv' := [(7, .int 1), (6, .int 1), (5, .int x6241), (4, .int z1), (3, .int x6240), (0, .ref qm), (1, .int a1), (2, .int a2)]) hx hb dX12_mayBe_84 hl (by decide) rfl (fun ls hl => ?_)
        refine lv_iconst (v := 0) hx hb dX12_mayBe_86 (by decide) ?_
        refine lv_istore (lv' := [(8, .int 0), (7, .int 1), (6, .int 1), (5, .int x6241), (4, .int z1), (3, .int x6240), (0, .ref qm), (1, .int a1), (2, .int a2)]) hx hb dX12_mayBe_87 hl (by decide) rfl (fun ls hl => ?_)
        refine ct_loop (X := Int32 × Int32) (fun x => (6 - x.2.toInt).toNat) (fun x H locs ls => ((0 ≤ x.1.toInt ∧ x.1.toInt ≤ 63)) ∧ ((0 ≤ x.2.toInt ∧ x.2.toInt ≤ 6)) ∧ ct_B D A H [(qm_round, .inl (cI, 120, .inl (fm_round))), (qm_meets, .inl (cI, 30, .inl (fm_meets))), mo qm vm_thrown qm_width qm_many qm_cells qm_moved qm_tape vm_taped vm_at vm_token vm_place vm_value vm_word vm_bad vm_badPlace vm_fault vm_faultPlace qm_lines qm_has qm_round qm_meets qm_stumble qm_isMud qm_cell qm_tune qm_change qm_isKept qm_steps qm_places qm_danced vm_runMost vm_runBegins qm_heardBy vm_fitMany vm_fitFirst vm_fitBeats vm_listenLeaves qm_there vm_metAt vm_metIn qm_wins vm_nightHoles vm_nightFirst vm_nightMud vm_nightSlips vm_drawnNow, (qm_has, .inl (cI, 55, .inl (fm_has)))] ∧ va_S A s.heap H locs ∧ lv_has ls 9 [(8, .int x.2), (7, .int 1), (6, .int 1), (5, .int x6241), (4, .int z1), (3, .int x.1), (0, .ref qm), (1, .int a1), (2, .int a2)]) 89 (x6240, (0 : Int32)) ⟨h_x6240, (show 0 ≤ (0 : Int32).toInt ∧ (0 : Int32).toInt ≤ 6 by decide), ⟨hP, hD⟩, hS, lv_sub hl [0, 1, 2, 3, 4, 5, 6, 7, 8] rfl⟩ (fun x ih6830 H locs ls hI => ?_)
        obtain ⟨x6828, x6829⟩ := x
        obtain ⟨h_x6828, h_x6829, ⟨hP, hD⟩, hS, hl⟩ := hI
        change (0 ≤ x6828.toInt ∧ x6828.toInt ≤ 63) at h_x6828
        change (0 ≤ x6829.toInt ∧ x6829.toInt ≤ 6) at h_x6829
        obtain ⟨hP, hD⟩ : ct_B D A H [(qm_round, .inl (cI, 120, .inl (fm_round))), (qm_meets, .inl (cI, 30, .inl (fm_meets))), mo qm vm_thrown qm_width qm_many qm_cells qm_moved qm_tape vm_taped vm_at vm_token vm_place vm_value vm_word vm_bad vm_badPlace vm_fault vm_faultPlace qm_lines qm_has qm_round qm_meets qm_stumble qm_isMud qm_cell qm_tune qm_change qm_isKept qm_steps qm_places qm_danced vm_runMost vm_runBegins qm_heardBy vm_fitMany vm_fitFirst vm_fitBeats vm_listenLeaves qm_there vm_metAt vm_metIn qm_wins vm_nightHoles vm_nightFirst vm_nightMud vm_nightSlips vm_drawnNow, (qm_has, .inl (cI, 55, .inl (fm_has)))] := ⟨hP, hD⟩
        have hl : lv_has ls 9 [(8, .int x6829), (7, .int 1), (6, .int 1), (5, .int x6241), (4, .int z1), (3, .int x6828), (0, .ref qm), (1, .int a1), (2, .int a2)] := hl
        refine lv_iload hx hb dX12_mayBe_89 (lv_at hl 0 rfl) ?_
        refine lv_bipush (v := 6) hx hb dX12_mayBe_91 (by decide) ?_
        refine lv_icmp_ge (tgt := 179) hx hb dX12_mayBe_93 (by decide) (fun hc => ?_) (fun hc => ?_)
        · have hq6831 : 6 ≤ x6829.toInt := tq_le (by decide) rfl hc
          obtain ⟨z6832, ez6832⟩ : ∃ z : Int32, z = x6241 + 1 := ⟨_, rfl⟩
          have fz6832 : z6832.toInt = x6241.toInt + 1 := by rw [ez6832]; exact tq_add rfl (by decide) (by omega)
          refine lv_iinc (v := z6832) (lv' := [(5, .int z6832), (8, .int x6829), (7, .int 1), (6, .int 1), (4, .int z1), (3, .int x6828), (0, .ref qm), (1, .int a1), (2, .int a2)]) hx hb dX12_mayBe_179 hl (k := 3) rfl ez6832.symm (by decide) rfl (fun ls hl => ?_)
          refine lv_goto (tgt := 15) hx hb dX12_mayBe_182 (by decide) ?_
          obtain ⟨hP9, hD9⟩ : ct_B D A H [mo qm vm_thrown qm_width qm_many qm_cells qm_moved qm_tape vm_taped vm_at vm_token vm_place vm_value vm_word vm_bad vm_badPlace vm_fault vm_faultPlace qm_lines qm_has qm_round qm_meets qm_stumble qm_isMud qm_cell qm_tune qm_change qm_isKept qm_steps qm_places qm_danced vm_runMost vm_runBegins qm_heardBy vm_fitMany vm_fitFirst vm_fitBeats vm_listenLeaves qm_there vm_metAt vm_metIn qm_wins vm_nightHoles vm_nightFirst vm_nightMud vm_nightSlips vm_drawnNow, (qm_has, .inl (cI, 55, .inl (fm_has))), (qm_round, .inl (cI, 120, .inl (fm_round))), (qm_meets, .inl (cI, 30, .inl (fm_meets)))] := ⟨hP.sub [2, 3, 0, 1] rfl, hD.sub [2, 3, 0, 1] (by decide) rfl⟩
          exact ih6242 (x6828, z6832) _ _ _ (show (164 - z6832.toInt).toNat < (164 - x6241.toInt).toNat by omega) ⟨h_x6828, (show 0 ≤ z6832.toInt ∧ z6832.toInt ≤ 164 by omega), (show z1.toInt ≤ z6832.toInt by omega), ⟨hP9, hD9⟩, hS, lv_sub hl [0, 4, 5, 6, 7, 8] rfl⟩
        · have hq6831 : x6829.toInt < 6 := tq_nle (by decide) rfl hc
          refine lv_iload hx hb dX12_mayBe_96 (lv_at hl 2 rfl) ?_
          refine lv_if_eq (tgt := 136) hx hb dX12_mayBe_98 (by decide) (fun hc => absurd hc (by decide)) (fun _ => ?_)
          refine lv_aload_n hx hb dX12_mayBe_101 rfl (lv_at hl 6 rfl) ?_
          refine va_get (D := D) (ci := 12) (v := .ref qm_meets) (C := RX12) (T := TX12) (N := 45) hx hb hts hi12 hown hK hP 2 rfl rfl 19 (by decide) (hts (.fieldLink RX12 40 "OverHillModel" "meets" "[I") (by decide +kernel)) (fun _ h9 => h9) rfl dX12_mayBe_102 ?_
          refine lv_iload hx hb dX12_mayBe_105 (lv_at hl 0 rfl) ?_
          refine va_iald (D := D) hx hb hK hP 1 0 rfl rfl (tq_in rfl (by omega)) dX12_mayBe_107 ?_
          refine lv_topi (fun z6833 ez6833 => ?_)
          refine lv_aload_n hx hb dX12_mayBe_108 rfl (lv_at hl 6 rfl) ?_
          refine lv_iconst (v := 1) hx hb dX12_mayBe_109 (by decide) ?_
          refine lv_iload_n hx hb dX12_mayBe_110 rfl (lv_at hl 7 rfl) ?_
          refine lv_isub hx hb dX12_mayBe_111 ?_
          refine lv_topi (fun z6834 ez6834 => ?_)
          have fz6834 : z6834.toInt = 1 - a1.toInt := by rw [ez6834]; exact tq_subt (by decide) rfl (by omega)
          refine lv_iload hx hb dX12_mayBe_112 (lv_at hl 3 rfl) ?_
          refine lv_iload hx hb dX12_mayBe_114 (lv_at hl 4 rfl) ?_
          refine lv_isub hx hb dX12_mayBe_116 ?_
          refine lv_topi (fun z6835 ez6835 => ?_)
          have fz6835 : z6835.toInt = x6241.toInt - z1.toInt := by rw [ez6835]; exact tq_subt rfl rfl (by omega)
          refine lv_iconst (v := 0) hx hb dX12_mayBe_117 (by decide) ?_
          refine ct_calli (D := D) (wr := [(qm_meets, .inl (cI, 30, .inl (fm_meets)))]) (va_runV (As := [.int z6834, .int z6835, .int 0]) (rest := [.int z6833]) ⟨hx, hb, hml, hown, hts⟩ (c_X12_plain l D G cI cJ cB cZ cO qm vm_thrown qm_width qm_many qm_cells qm_moved qm_tape vm_taped vm_at vm_token vm_place vm_value vm_word vm_bad vm_badPlace vm_fault vm_faultPlace qm_lines qm_has fm_has qm_round fm_round qm_meets qm_stumble qm_isMud qm_cell qm_tune qm_change qm_isKept qm_steps qm_places qm_danced vm_runMost vm_runBegins qm_heardBy vm_fitMany vm_fitFirst vm_fitBeats vm_listenLeaves qm_there vm_metAt vm_metIn qm_wins vm_nightHoles vm_nightFirst vm_nightMud vm_nightSlips vm_drawnNow z6834 z6835 0 h_vm_taped h_vm_at h_vm_value h_fm_has h_fm_round (by omega) (by omega) (by decide) h_rp H.size) (cwV 3 hts gX12_mayBe_X12_plain rfl rfl rfl (by decide +kernel) ⟨Nat.le_of_ble_eq_true rfl, Nat.le_of_ble_eq_true rfl⟩) (ct_preV (T := ct_T cI cJ cB cZ cO) (ci := 12) (q0 := 2) hE hH hP hD hS hA [2, 3, 0] (by decide) rfl rfl rfl) rfl rfl hl.1 rfl (lv_room (Nat.le_of_ble_eq_true rfl)) dX12_mayBe_118 ⟨Nat.le_of_ble_eq_true rfl, Nat.le_of_ble_eq_true rfl⟩) hP hD hS hA [2, 3, 0] [1] rfl rfl (by decide) (by decide) (fun r6836 u H locs hw hP hD hS => ?_)
          obtain ⟨hP, hD⟩ : ct_B D A H [(qm_meets, .inl (cI, 30, .inl (fm_meets))), mo qm vm_thrown qm_width qm_many qm_cells qm_moved qm_tape vm_taped vm_at vm_token vm_place vm_value vm_word vm_bad vm_badPlace vm_fault vm_faultPlace qm_lines qm_has qm_round qm_meets qm_stumble qm_isMud qm_cell qm_tune qm_change qm_isKept qm_steps qm_places qm_danced vm_runMost vm_runBegins qm_heardBy vm_fitMany vm_fitFirst vm_fitBeats vm_listenLeaves qm_there vm_metAt vm_metIn qm_wins vm_nightHoles vm_nightFirst vm_nightMud vm_nightSlips vm_drawnNow, (qm_has, .inl (cI, 55, .inl (fm_has))), (qm_round, .inl (cI, 120, .inl (fm_round)))] := ⟨hP, hD⟩
          have hz := hw
          clear hw
          have h_r6836 : 0 ≤ r6836.toInt ∧ r6836.toInt ≤ 5 := hz
          clear hz
          refine ct_calli (D := D) (wr := [(qm_meets, .inl (cI, 30, .inl (fm_meets))), mo qm vm_thrown qm_width qm_many qm_cells qm_moved qm_tape vm_taped vm_at vm_token vm_place vm_value vm_word vm_bad vm_badPlace vm_fault vm_faultPlace qm_lines qm_has qm_round qm_meets qm_stumble qm_isMud qm_cell qm_tune qm_change qm_isKept qm_steps qm_places qm_danced vm_runMost vm_runBegins qm_heardBy vm_fitMany vm_fitFirst vm_fitBeats vm_listenLeaves qm_there vm_metAt vm_metIn qm_wins vm_nightHoles vm_nightFirst vm_nightMud vm_nightSlips vm_drawnNow, (qm_has, .inl (cI, 55, .inl (fm_has))), (qm_round, .inl (cI, 120, .inl (fm_round)))]) (va_runS (As := [.int z6833, .int r6836]) (rest := []) ⟨hx, hb, hml, hown, hts⟩ (c_X12_isBit l D G cI cJ cB cZ cO z6833 r6836  H.size) (va_cwS 2 hts gX12_mayBe_X12_isBit rfl rfl rfl (by decide +kernel) ⟨Nat.le_of_ble_eq_true rfl, Nat.le_of_ble_eq_true rfl⟩) (ct_preS (T := ct_T cI cJ cB cZ cO) hE hH hP hD hS hA [] (by decide) rfl) rfl rfl hl.1 rfl (lv_room (Nat.le_of_ble_eq_true rfl)) dX12_mayBe_121 ⟨Nat.le_of_ble_eq_true rfl, Nat.le_of_ble_eq_true rfl⟩) hP hD hS hA [] [0, 1, 2, 3] rfl rfl (by decide) (by decide) (fun r6837 u H locs hw hP hD hS => ?_)
          obtain ⟨hP, hD⟩ : ct_B D A H [(qm_meets, .inl (cI, 30, .inl (fm_meets))), mo qm vm_thrown qm_width qm_many qm_cells qm_moved qm_tape vm_taped vm_at vm_token vm_place vm_value vm_word vm_bad vm_badPlace vm_fault vm_faultPlace qm_lines qm_has qm_round qm_meets qm_stumble qm_isMud qm_cell qm_tune qm_change qm_isKept qm_steps qm_places qm_danced vm_runMost vm_runBegins qm_heardBy vm_fitMany vm_fitFirst vm_fitBeats vm_listenLeaves qm_there vm_metAt vm_metIn qm_wins vm_nightHoles vm_nightFirst vm_nightMud vm_nightSlips vm_drawnNow, (qm_has, .inl (cI, 55, .inl (fm_has))), (qm_round, .inl (cI, 120, .inl (fm_round)))] := ⟨hP, hD⟩
          have hz := hw
          clear hw
          rcases hz with ⟨hz, hz2⟩ | ⟨hz, hz2⟩
          · subst hz
            have hz_6838 : (bt z6833 r6836) := hz2
            refine lv_if_ne (tgt := 136) hx hb dX12_mayBe_124 (by decide) (fun _ => ?_) (fun hc => absurd hc (by decide))
            refine lv_iload hx hb dX12_mayBe_136 (lv_at hl 1 rfl) ?_
            refine lv_if_eq (tgt := 173) hx hb dX12_mayBe_138 (by decide) (fun hc => absurd hc (by decide)) (fun _ => ?_)
            refine lv_aload_n hx hb dX12_mayBe_141 rfl (lv_at hl 6 rfl) ?_
            refine va_get (D := D) (ci := 12) (v := .ref qm_meets) (C := RX12) (T := TX12) (N := 45) hx hb hts hi12 hown hK hP 1 rfl rfl 19 (by decide) (hts (.fieldLink RX12 40 "OverHillModel" "meets" "[I") (by decide +kernel)) (fun _ h9 => h9) rfl dX12_mayBe_142 ?_
            refine lv_aload_n hx hb dX12_mayBe_145 rfl (lv_at hl 6 rfl) ?_
            refine lv_iconst (v := 1) hx hb dX12_mayBe_146 (by decide) ?_
            refine lv_iload_n hx hb dX12_mayBe_147 rfl (lv_at hl 7 rfl) ?_
            refine lv_isub hx hb dX12_mayBe_148 ?_
            refine lv_topi (fun z6839 ez6839 => ?_)
            have fz6839 : z6839.toInt = 1 - a1.toInt := by rw [ez6839]; exact tq_subt (by decide) rfl (by omega)
            refine lv_iload hx hb dX12_mayBe_149 (lv_at hl 3 rfl) ?_
            refine lv_iconst (v := 0) hx hb dX12_mayBe_151 (by decide) ?_
            refine ct_calli (D := D) (wr := [(qm_meets, .inl (cI, 30, .inl (fm_meets)))]) (va_runV (As := [.int z6839, .int x6241, .int 0]) (rest := [.ref qm_meets]) ⟨hx, hb, hml, hown, hts⟩ (c_X12_plain l D G cI cJ cB cZ cO qm vm_thrown qm_width qm_many qm_cells qm_moved qm_tape vm_taped vm_at vm_token vm_place vm_value vm_word vm_bad vm_badPlace vm_fault vm_faultPlace qm_lines qm_has fm_has qm_round fm_round qm_meets qm_stumble qm_isMud qm_cell qm_tune qm_change qm_isKept qm_steps qm_places qm_danced vm_runMost vm_runBegins qm_heardBy vm_fitMany vm_fitFirst vm_fitBeats vm_listenLeaves qm_there vm_metAt vm_metIn qm_wins vm_nightHoles vm_nightFirst vm_nightMud vm_nightSlips vm_drawnNow z6839 x6241 0 h_vm_taped h_vm_at h_vm_value h_fm_has h_fm_round (by omega) (by omega) (by decide) h_rp H.size) (cwV 3 hts gX12_mayBe_X12_plain rfl rfl rfl (by decide +kernel) ⟨Nat.le_of_ble_eq_true rfl, Nat.le_of_ble_eq_true rfl⟩) (ct_preV (T := ct_T cI cJ cB cZ cO) (ci := 12) (q0 := 1) hE hH hP hD hS hA [1, 2, 3] (by decide) rfl rfl rfl) rfl rfl hl.1 rfl (lv_room (Nat.le_of_ble_eq_true rfl)) dX12_mayBe_152 ⟨Nat.le_of_ble_eq_true rfl, Nat.le_of_ble_eq_true rfl⟩) hP hD hS hA [1, 2, 3] [0] rfl rfl (by decide) (by decide) (fun r6840 u H locs hw hP hD hS => ?_)
            obtain ⟨hP, hD⟩ : ct_B D A H [(qm_meets, .inl (cI, 30, .inl (fm_meets))), mo qm vm_thrown qm_width qm_many qm_cells qm_moved qm_tape vm_taped vm_at vm_token vm_place vm_value vm_word vm_bad vm_badPlace vm_fault vm_faultPlace qm_lines qm_has qm_round qm_meets qm_stumble qm_isMud qm_cell qm_tune qm_change qm_isKept qm_steps qm_places qm_danced vm_runMost vm_runBegins qm_heardBy vm_fitMany vm_fitFirst vm_fitBeats vm_listenLeaves qm_there vm_metAt vm_metIn qm_wins vm_nightHoles vm_nightFirst vm_nightMud vm_nightSlips vm_drawnNow, (qm_has, .inl (cI, 55, .inl (fm_has))), (qm_round, .inl (cI, 120, .inl (fm_round)))] := ⟨hP, hD⟩
            have hz := hw
            clear hw
            have h_r6840 : 0 ≤ r6840.toInt ∧ r6840.toInt ≤ 5 := hz
            clear hz
            refine va_iald (D := D) hx hb hK hP 0 0 rfl rfl (tq_in rfl (by omega)) dX12_mayBe_155 ?_
            refine lv_topi (fun z6841 ez6841 => ?_)
            refine lv_iload hx hb dX12_mayBe_156 (lv_at hl 0 rfl) ?_
            refine ct_calli (D := D) (wr := [(qm_meets, .inl (cI, 30, .inl (fm_meets))), mo qm vm_thrown qm_width qm_many qm_cells qm_moved qm_tape vm_taped vm_at vm_token vm_place vm_value vm_word vm_bad vm_badPlace vm_fault vm_faultPlace qm_lines qm_has qm_round qm_meets qm_stumble qm_isMud qm_cell qm_tune qm_change qm_isKept qm_steps qm_places qm_danced vm_runMost vm_runBegins qm_heardBy vm_fitMany vm_fitFirst vm_fitBeats vm_listenLeaves qm_there vm_metAt vm_metIn qm_wins vm_nightHoles vm_nightFirst vm_nightMud vm_nightSlips vm_drawnNow, (qm_has, .inl (cI, 55, .inl (fm_has))), (qm_round, .inl (cI, 120, .inl (fm_round)))]) (va_runS (As := [.int z6841, .int x6829]) (rest := []) ⟨hx, hb, hml, hown, hts⟩ (c_X12_isBit l D G cI cJ cB cZ cO z6841 x6829  H.size) (va_cwS 2 hts gX12_mayBe_X12_isBit rfl rfl rfl (by decide +kernel) ⟨Nat.le_of_ble_eq_true rfl, Nat.le_of_ble_eq_true rfl⟩) (ct_preS (T := ct_T cI cJ cB cZ cO) hE hH hP hD hS hA [] (by decide) rfl) rfl rfl hl.1 rfl (lv_room (Nat.le_of_ble_eq_true rfl)) dX12_mayBe_158 ⟨Nat.le_of_ble_eq_true rfl, Nat.le_of_ble_eq_true rfl⟩) hP hD hS hA [] [0, 1, 2, 3] rfl rfl (by decide) (by decide) (fun r6842 u H locs hw hP hD hS => ?_)
            obtain ⟨hP, hD⟩ : ct_B D A H [(qm_meets, .inl (cI, 30, .inl (fm_meets))), mo qm vm_thrown qm_width qm_many qm_cells qm_moved qm_tape vm_taped vm_at vm_token vm_place vm_value vm_word vm_bad vm_badPlace vm_fault vm_faultPlace qm_lines qm_has qm_round qm_meets qm_stumble qm_isMud qm_cell qm_tune qm_change qm_isKept qm_steps qm_places qm_danced vm_runMost vm_runBegins qm_heardBy vm_fitMany vm_fitFirst vm_fitBeats vm_listenLeaves qm_there vm_metAt vm_metIn qm_wins vm_nightHoles vm_nightFirst vm_nightMud vm_nightSlips vm_drawnNow, (qm_has, .inl (cI, 55, .inl (fm_has))), (qm_round, .inl (cI, 120, .inl (fm_round)))] := ⟨hP, hD⟩
            have hz := hw
            clear hw
            rcases hz with ⟨hz, hz2⟩ | ⟨hz, hz2⟩
            · subst hz
              have hz_6843 : (bt z6841 x6829) := hz2
              refine lv_if_ne (tgt := 173) hx hb dX12_mayBe_161 (by decide) (fun _ => ?_) (fun hc => absurd hc (by decide))
              obtain ⟨z6844, ez6844⟩ : ∃ z : Int32, z = x6829 + 1 := ⟨_, rfl⟩
              have fz6844 : z6844.toInt = x6829.toInt + 1 := by rw [ez6844]; exact tq_add rfl (by decide) (by omega)
              refine lv_iinc (v := z6844) (lv' := [(8, .int z6844), (7, .int 1), (6, .int 1), (5, .int x6241), (4, .int z1), (3, .int x6828), (0, .ref qm), (1, .int a1), (2, .int a2)]) hx hb dX12_mayBe_173 hl (k := 0) rfl ez6844.symm (by decide) rfl (fun ls hl => ?_)
              refine lv_goto (tgt := 89) hx hb dX12_mayBe_176 (by decide) ?_
              obtain ⟨hP9, hD9⟩ : ct_B D A H [(qm_round, .inl (cI, 120, .inl (fm_round))), (qm_meets, .inl (cI, 30, .inl (fm_meets))), mo qm vm_thrown qm_width qm_many qm_cells qm_moved qm_tape vm_taped vm_at vm_token vm_place vm_value vm_word vm_bad vm_badPlace vm_fault vm_faultPlace qm_lines qm_has qm_round qm_meets qm_stumble qm_isMud qm_cell qm_tune qm_change qm_isKept qm_steps qm_places qm_danced vm_runMost vm_runBegins qm_heardBy vm_fitMany vm_fitFirst vm_fitBeats vm_listenLeaves qm_there vm_metAt vm_metIn qm_wins vm_nightHoles vm_nightFirst vm_nightMud vm_nightSlips vm_drawnNow, (qm_has, .inl (cI, 55, .inl (fm_has)))] := ⟨hP.sub [3, 0, 1, 2] rfl, hD.sub [3, 0, 1, 2] (by decide) rfl⟩
              exact ih6830 (x6828, z6844) _ _ _ (show (6 - z6844.toInt).toNat < (6 - x6829.toInt).toNat by omega) ⟨h_x6828, (show 0 ≤ z6844.toInt ∧ z6844.toInt ≤ 6 by omega), ⟨hP9, hD9⟩, hS, lv_sub hl [0, 1, 2, 3, 4, 5, 6, 7, 8] rfl⟩
            · subst hz
              have hz_6845 : ¬ (bt z6841 x6829) := hz2
              refine lv_if_ne (tgt := 173) hx hb dX12_mayBe_161 (by decide) (fun hc => absurd hc (by decide)) (fun _ => ?_)
              refine lv_iload_n hx hb dX12_mayBe_164 rfl (lv_at hl 5 rfl) ?_
              refine lv_iconst (v := 1) hx hb dX12_mayBe_165 (by decide) ?_
              refine lv_iload hx hb dX12_mayBe_166 (lv_at hl 0 rfl) ?_
              refine lv_ishl hx hb dX12_mayBe_168 ?_
              refine lv_topi (fun z6846 ez6846 => ?_)
              have fz6846 : 1 ≤ z6846.toInt ∧ z6846.toInt ≤ 32 := by rw [ez6846]; exact tq_shl5 rfl (by omega)
              refine lv_iconst (v := (-1)) hx hb dX12_mayBe_169 (by decide) ?_
              refine lv_ixor hx hb dX12_mayBe_170 ?_
              refine lv_topi (fun z6847 ez6847 => ?_)
              refine lv_iand hx hb dX12_mayBe_171 ?_
              refine lv_topi (fun z6848 ez6848 => ?_)
              have fz6848 : 0 ≤ z6848.toInt ∧ z6848.toInt ≤ x6828.toInt := by rw [ez6848]; exact tq_andl rfl (by omega)
              refine lv_istore_n (lv' := [(3, .int z6848), (8, .int x6829), (7, .int 1), (6, .int 1), (5, .int x6241), (4, .int z1), (0, .ref qm), (1, .int a1), (2, .int a2)]) hx hb dX12_mayBe_172 rfl hl (by decide) rfl (fun ls hl => ?_)
              obtain ⟨z6849, ez6849⟩ : ∃ z : Int32, z = x6829 + 1 := ⟨_, rfl⟩
              have fz6849 : z6849.toInt = x6829.toInt + 1 := by rw [ez6849]; exact tq_add rfl (by decide) (by omega)
              refine lv_iinc (v := z6849) (lv' := [(8, .int z6849), (3, .int z6848), (7, .int 1), (6, .int 1), (5, .int x6241), (4, .int z1), (0, .ref qm), (1, .int a1), (2, .int a2)]) hx hb dX12_mayBe_173 hl (k := 1) rfl ez6849.symm (by decide) rfl (fun ls hl => ?_)
              refine lv_goto (tgt := 89) hx hb dX12_mayBe_176 (by decide) ?_
              obtain ⟨hP9, hD9⟩ : ct_B D A H [(qm_round, .inl (cI, 120, .inl (fm_round))), (qm_meets, .inl (cI, 30, .inl (fm_meets))), mo qm vm_thrown qm_width qm_many qm_cells qm_moved qm_tape vm_taped vm_at vm_token vm_place vm_value vm_word vm_bad vm_badPlace vm_fault vm_faultPlace qm_lines qm_has qm_round qm_meets qm_stumble qm_isMud qm_cell qm_tune qm_change qm_isKept qm_steps qm_places qm_danced vm_runMost vm_runBegins qm_heardBy vm_fitMany vm_fitFirst vm_fitBeats vm_listenLeaves qm_there vm_metAt vm_metIn qm_wins vm_nightHoles vm_nightFirst vm_nightMud vm_nightSlips vm_drawnNow, (qm_has, .inl (cI, 55, .inl (fm_has)))] := ⟨hP.sub [3, 0, 1, 2] rfl, hD.sub [3, 0, 1, 2] (by decide) rfl⟩
              exact ih6830 (z6848, z6849) _ _ _ (show (6 - z6849.toInt).toNat < (6 - x6829.toInt).toNat by omega) ⟨(show 0 ≤ z6848.toInt ∧ z6848.toInt ≤ 63 by omega), (show 0 ≤ z6849.toInt ∧ z6849.toInt ≤ 6 by omega), ⟨hP9, hD9⟩, hS, lv_sub hl [0, 2, 3, 4, 5, 1, 6, 7, 8] rfl⟩
          · subst hz
            have hz_6850 : ¬ (bt z6833 r6836) := hz2
            refine lv_if_ne (tgt := 136) hx hb dX12_mayBe_124 (by decide) (fun hc => absurd hc (by decide)) (fun _ => ?_)
            refine lv_iload_n hx hb dX12_mayBe_127 rfl (lv_at hl 5 rfl) ?_
            refine lv_iconst (v := 1) hx hb dX12_mayBe_128 (by decide) ?_
            refine lv_iload hx hb dX12_mayBe_129 (lv_at hl 0 rfl) ?_
            refine lv_ishl hx hb dX12_mayBe_131 ?_
            refine lv_topi (fun z6851 ez6851 => ?_)
            have fz6851 : 1 ≤ z6851.toInt ∧ z6851.toInt ≤ 32 := by rw [ez6851]; exact tq_shl5 rfl (by omega)
            refine lv_iconst (v := (-1)) hx hb dX12_mayBe_132 (by decide) ?_
            refine lv_ixor hx hb dX12_mayBe_133 ?_
            refine lv_topi (fun z6852 ez6852 => ?_)
            refine lv_iand hx hb dX12_mayBe_134 ?_
            refine lv_topi (fun z6853 ez6853 => ?_)
            have fz6853 : 0 ≤ z6853.toInt ∧ z6853.toInt ≤ x6828.toInt := by rw [ez6853]; exact tq_andl rfl (by omega)
            refine lv_istore_n (lv' := [(3, .int z6853), (8, .int x6829), (7, .int 1), (6, .int 1), (5, .int x6241), (4, .int z1), (0, .ref qm), (1, .int a1), (2, .int a2)]) hx hb dX12_mayBe_135 rfl hl (by decide) rfl (fun ls hl => ?_)
            refine lv_iload hx hb dX12_mayBe_136 (lv_at hl 2 rfl) ?_
            refine lv_if_eq (tgt := 173) hx hb dX12_mayBe_138 (by decide) (fun hc => absurd hc (by decide)) (fun _ => ?_)
            refine lv_aload_n hx hb dX12_mayBe_141 rfl (lv_at hl 6 rfl) ?_
            refine va_get (D := D) (ci := 12) (v := .ref qm_meets) (C := RX12) (T := TX12) (N := 45) hx hb hts hi12 hown hK hP 1 rfl rfl 19 (by decide) (hts (.fieldLink RX12 40 "OverHillModel" "meets" "[I") (by decide +kernel)) (fun _ h9 => h9) rfl dX12_mayBe_142 ?_
            refine lv_aload_n hx hb dX12_mayBe_145 rfl (lv_at hl 6 rfl) ?_
            refine lv_iconst (v := 1) hx hb dX12_mayBe_146 (by decide) ?_
            refine lv_iload_n hx hb dX12_mayBe_147 rfl (lv_at hl 7 rfl) ?_
            refine lv_isub hx hb dX12_mayBe_148 ?_
            refine lv_topi (fun z6854 ez6854 => ?_)
            have fz6854 : z6854.toInt = 1 - a1.toInt := by rw [ez6854]; exact tq_subt (by decide) rfl (by omega)
            refine lv_iload hx hb dX12_mayBe_149 (lv_at hl 4 rfl) ?_
            refine lv_iconst (v := 0) hx hb dX12_mayBe_151 (by decide) ?_
            refine ct_calli (D := D) (wr := [(qm_meets, .inl (cI, 30, .inl (fm_meets)))]) (va_runV (As := [.int z6854, .int x6241, .int 0]) (rest := [.ref qm_meets]) ⟨hx, hb, hml, hown, hts⟩ (c_X12_plain l D G cI cJ cB cZ cO qm vm_thrown qm_width qm_many qm_cells qm_moved qm_tape vm_taped vm_at vm_token vm_place vm_value vm_word vm_bad vm_badPlace vm_fault vm_faultPlace qm_lines qm_has fm_has qm_round fm_round qm_meets qm_stumble qm_isMud qm_cell qm_tune qm_change qm_isKept qm_steps qm_places qm_danced vm_runMost vm_runBegins qm_heardBy vm_fitMany vm_fitFirst vm_fitBeats vm_listenLeaves qm_there vm_metAt vm_metIn qm_wins vm_nightHoles vm_nightFirst vm_nightMud vm_nightSlips vm_drawnNow z6854 x6241 0 h_vm_taped h_vm_at h_vm_value h_fm_has h_fm_round (by omega) (by omega) (by decide) h_rp H.size) (cwV 3 hts gX12_mayBe_X12_plain rfl rfl rfl (by decide +kernel) ⟨Nat.le_of_ble_eq_true rfl, Nat.le_of_ble_eq_true rfl⟩) (ct_preV (T := ct_T cI cJ cB cZ cO) (ci := 12) (q0 := 1) hE hH hP hD hS hA [1, 2, 3] (by decide) rfl rfl rfl) rfl rfl hl.1 rfl (lv_room (Nat.le_of_ble_eq_true rfl)) dX12_mayBe_152 ⟨Nat.le_of_ble_eq_true rfl, Nat.le_of_ble_eq_true rfl⟩) hP hD hS hA [1, 2, 3] [0] rfl rfl (by decide) (by decide) (fun r6855 u H locs hw hP hD hS => ?_)
            obtain ⟨hP, hD⟩ : ct_B D A H [(qm_meets, .inl (cI, 30, .inl (fm_meets))), mo qm vm_thrown qm_width qm_many qm_cells qm_moved qm_tape vm_taped vm_at vm_token vm_place vm_value vm_word vm_bad vm_badPlace vm_fault vm_faultPlace qm_lines qm_has qm_round qm_meets qm_stumble qm_isMud qm_cell qm_tune qm_change qm_isKept qm_steps qm_places qm_danced vm_runMost vm_runBegins qm_heardBy vm_fitMany vm_fitFirst vm_fitBeats vm_listenLeaves qm_there vm_metAt vm_metIn qm_wins vm_nightHoles vm_nightFirst vm_nightMud vm_nightSlips vm_drawnNow, (qm_has, .inl (cI, 55, .inl (fm_has))), (qm_round, .inl (cI, 120, .inl (fm_round)))] := ⟨hP, hD⟩
            have hz := hw
            clear hw
            have h_r6855 : 0 ≤ r6855.toInt ∧ r6855.toInt ≤ 5 := hz
            clear hz
            refine va_iald (D := D) hx hb hK hP 0 0 rfl rfl (tq_in rfl (by omega)) dX12_mayBe_155 ?_
            refine lv_topi (fun z6856 ez6856 => ?_)
            refine lv_iload hx hb dX12_mayBe_156 (lv_at hl 1 rfl) ?_
            refine ct_calli (D := D) (wr := [(qm_meets, .inl (cI, 30, .inl (fm_meets))), mo qm vm_thrown qm_width qm_many qm_cells qm_moved qm_tape vm_taped vm_at vm_token vm_place vm_value vm_word vm_bad vm_badPlace vm_fault vm_faultPlace qm_lines qm_has qm_round qm_meets qm_stumble qm_isMud qm_cell qm_tune qm_change qm_isKept qm_steps qm_places qm_danced vm_runMost vm_runBegins qm_heardBy vm_fitMany vm_fitFirst vm_fitBeats vm_listenLeaves qm_there vm_metAt vm_metIn qm_wins vm_nightHoles vm_nightFirst vm_nightMud vm_nightSlips vm_drawnNow, (qm_has, .inl (cI, 55, .inl (fm_has))), (qm_round, .inl (cI, 120, .inl (fm_round)))]) (va_runS (As := [.int z6856, .int x6829]) (rest := []) ⟨hx, hb, hml, hown, hts⟩ (c_X12_isBit l D G cI cJ cB cZ cO z6856 x6829  H.size) (va_cwS 2 hts gX12_mayBe_X12_isBit rfl rfl rfl (by decide +kernel) ⟨Nat.le_of_ble_eq_true rfl, Nat.le_of_ble_eq_true rfl⟩) (ct_preS (T := ct_T cI cJ cB cZ cO) hE hH hP hD hS hA [] (by decide) rfl) rfl rfl hl.1 rfl (lv_room (Nat.le_of_ble_eq_true rfl)) dX12_mayBe_158 ⟨Nat.le_of_ble_eq_true rfl, Nat.le_of_ble_eq_true rfl⟩) hP hD hS hA [] [0, 1, 2, 3] rfl rfl (by decide) (by decide) (fun r6857 u H locs hw hP hD hS => ?_)
            obtain ⟨hP, hD⟩ : ct_B D A H [(qm_meets, .inl (cI, 30, .inl (fm_meets))), mo qm vm_thrown qm_width qm_many qm_cells qm_moved qm_tape vm_taped vm_at vm_token vm_place vm_value vm_word vm_bad vm_badPlace vm_fault vm_faultPlace qm_lines qm_has qm_round qm_meets qm_stumble qm_isMud qm_cell qm_tune qm_change qm_isKept qm_steps qm_places qm_danced vm_runMost vm_runBegins qm_heardBy vm_fitMany vm_fitFirst vm_fitBeats vm_listenLeaves qm_there vm_metAt vm_metIn qm_wins vm_nightHoles vm_nightFirst vm_nightMud vm_nightSlips vm_drawnNow, (qm_has, .inl (cI, 55, .inl (fm_has))), (qm_round, .inl (cI, 120, .inl (fm_round)))] := ⟨hP, hD⟩
            have hz := hw
            clear hw
            rcases hz with ⟨hz, hz2⟩ | ⟨hz, hz2⟩
            · subst hz
              have hz_6858 : (bt z6856 x6829) := hz2
              refine lv_if_ne (tgt := 173) hx hb dX12_mayBe_161 (by decide) (fun _ => ?_) (fun hc => absurd hc (by decide))
              obtain ⟨z6859, ez6859⟩ : ∃ z : Int32, z = x6829 + 1 := ⟨_, rfl⟩
              have fz6859 : z6859.toInt = x6829.toInt + 1 := by rw [ez6859]; exact tq_add rfl (by decide) (by omega)
              refine lv_iinc (v := z6859) (lv' := [(8, .int z6859), (3, .int z6853), (7, .int 1), (6, .int 1), (5, .int x6241), (4, .int z1), (0, .ref qm), (1, .int a1), (2, .int a2)]) hx hb dX12_mayBe_173 hl (k := 1) rfl ez6859.symm (by decide) rfl (fun ls hl => ?_)
              refine lv_goto (tgt := 89) hx hb dX12_mayBe_176 (by decide) ?_
              obtain ⟨hP9, hD9⟩ : ct_B D A H [(qm_round, .inl (cI, 120, .inl (fm_round))), (qm_meets, .inl (cI, 30, .inl (fm_meets))), mo qm vm_thrown qm_width qm_many qm_cells qm_moved qm_tape vm_taped vm_at vm_token vm_place vm_value vm_word vm_bad vm_badPlace vm_fault vm_faultPlace qm_lines qm_has qm_round qm_meets qm_stumble qm_isMud qm_cell qm_tune qm_change qm_isKept qm_steps qm_places qm_danced vm_runMost vm_runBegins qm_heardBy vm_fitMany vm_fitFirst vm_fitBeats vm_listenLeaves qm_there vm_metAt vm_metIn qm_wins vm_nightHoles vm_nightFirst vm_nightMud vm_nightSlips vm_drawnNow, (qm_has, .inl (cI, 55, .inl (fm_has)))] := ⟨hP.sub [3, 0, 1, 2] rfl, hD.sub [3, 0, 1, 2] (by decide) rfl⟩
              exact ih6830 (z6853, z6859) _ _ _ (show (6 - z6859.toInt).toNat < (6 - x6829.toInt).toNat by omega) ⟨(show 0 ≤ z6853.toInt ∧ z6853.toInt ≤ 63 by omega), (show 0 ≤ z6859.toInt ∧ z6859.toInt ≤ 6 by omega), ⟨hP9, hD9⟩, hS, lv_sub hl [0, 2, 3, 4, 5, 1, 6, 7, 8] rfl⟩
            · subst hz
              have hz_6860 : ¬ (bt z6856 x6829) := hz2
              refine lv_if_ne (tgt := 173) hx hb dX12_mayBe_161 (by decide) (fun hc => absurd hc (by decide)) (fun _ => ?_)
              refine lv_iload_n hx hb dX12_mayBe_164 rfl (lv_at hl 0 rfl) ?_
              refine lv_iconst (v := 1) hx hb dX12_mayBe_165 (by decide) ?_
              refine lv_iload hx hb dX12_mayBe_166 (lv_at hl 1 rfl) ?_
              refine lv_ishl hx hb dX12_mayBe_168 ?_
              refine lv_topi (fun z6861 ez6861 => ?_)
              have fz6861 : 1 ≤ z6861.toInt ∧ z6861.toInt ≤ 32 := by rw [ez6861]; exact tq_shl5 rfl (by omega)
              refine lv_iconst (v := (-1)) hx hb dX12_mayBe_169 (by decide) ?_
              refine lv_ixor hx hb dX12_mayBe_170 ?_
              refine lv_topi (fun z6862 ez6862 => ?_)
              refine lv_iand hx hb dX12_mayBe_171 ?_
              refine lv_topi (fun z6863 ez6863 => ?_)
              have fz6863 : 0 ≤ z6863.toInt ∧ z6863.toInt ≤ z6853.toInt := by rw [ez6863]; exact tq_andl rfl (by omega)
              refine lv_istore_n (lv' := [(3, .int z6863), (8, .int x6829), (7, .int 1), (6, .int 1), (5, .int x6241), (4, .int z1), (0, .ref qm), (1, .int a1), (2, .int a2)]) hx hb dX12_mayBe_172 rfl hl (by decide) rfl (fun ls hl => ?_)
              obtain ⟨z6864, ez6864⟩ : ∃ z : Int32, z = x6829 + 1 := ⟨_, rfl⟩
              have fz6864 : z6864.toInt = x6829.toInt + 1 := by rw [ez6864]; exact tq_add rfl (by decide) (by omega)
              refine lv_iinc (v := z6864) (lv' := [(8, .int z6864), (3, .int z6863), (7, .int 1), (6, .int 1), (5, .int x6241), (4, .int z1), (0, .ref qm), (1, .int a1), (2, .int a2)]) hx hb dX12_mayBe_173 hl (k := 1) rfl ez6864.symm (by decide) rfl (fun ls hl => ?_)
              refine lv_goto (tgt := 89) hx hb dX12_mayBe_176 (by decide) ?_
              obtain ⟨hP9, hD9⟩ : ct_B D A H [(qm_round, .inl (cI, 120, .inl (fm_round))), (qm_meets, .inl (cI, 30, .inl (fm_meets))), mo qm vm_thrown qm_width qm_many qm_cells qm_moved qm_tape vm_taped vm_at vm_token vm_place vm_value vm_word vm_bad vm_badPlace vm_fault vm_faultPlace qm_lines qm_has qm_round qm_meets qm_stumble qm_isMud qm_cell qm_tune qm_change qm_isKept qm_steps qm_places qm_danced vm_runMost vm_runBegins qm_heardBy vm_fitMany vm_fitFirst vm_fitBeats vm_listenLeaves qm_there vm_metAt vm_metIn qm_wins vm_nightHoles vm_nightFirst vm_nightMud vm_nightSlips vm_drawnNow, (qm_has, .inl (cI, 55, .inl (fm_has)))] := ⟨hP.sub [3, 0, 1, 2] rfl, hD.sub [3, 0, 1, 2] (by decide) rfl⟩
              exact ih6830 (z6863, z6864) _ _ _ (show (6 - z6864.toInt).toNat < (6 - x6829.toInt).toNat by omega) ⟨(show 0 ≤ z6863.toInt ∧ z6863.toInt ≤ 63 by omega), (show 0 ≤ z6864.toInt ∧ z6864.toInt ≤ 6 by omega), ⟨hP9, hD9⟩, hS, lv_sub hl [0, 2, 3, 4, 5, 1, 6, 7, 8] rfl⟩
abbrev w_c_X12_mendedOf (cI cJ cB cZ cO : ClassId) (qm : Nat) (vm_thrown : Int32) (qm_width : Nat) (qm_many : Nat) (qm_cells : Nat) (qm_moved : Nat) (qm_tape : Nat) (vm_taped : Int32) (vm_at : Int32) (vm_token : Int32) (vm_place : Int32) (vm_value : Int32) (vm_word : Int64) (vm_bad : Int32) (vm_badPlace : Int32) (vm_fault : Int32) (vm_faultPlace : Int32) (qm_lines : Nat) (qm_has : Nat) (fm_has : Nat → Int32) (qm_round : Nat) (fm_round : Nat → Int32) (qm_meets : Nat) (fm_meets : Nat → Int32) (qm_stumble : Nat) (qm_isMud : Nat) (qm_cell : Nat) (qm_tune : Nat) (qm_change : Nat) (qm_isKept : Nat) (qm_steps : Nat) (qm_places : Nat) (qm_danced : Nat) (vm_runMost : Int32) (vm_runBegins : Int32) (qm_heardBy : Nat) (vm_fitMany : Int32) (vm_fitFirst : Int32) (vm_fitBeats : Int64) (vm_listenLeaves : Int32) (qm_there : Nat) (vm_metAt : Int32) (vm_metIn : Int32) (qm_wins : Nat) (vm_nightHoles : Int32) (vm_nightFirst : Int32) (vm_nightMud : Int32) (vm_nightSlips : Int32) (vm_drawnNow : Int64) : va_W := [mo qm vm_thrown qm_width qm_many qm_cells qm_moved qm_tape vm_taped vm_at vm_token vm_place vm_value vm_word vm_bad vm_badPlace vm_fault vm_faultPlace qm_lines qm_has qm_round qm_meets qm_stumble qm_isMud qm_cell qm_tune qm_change qm_isKept qm_steps qm_places qm_danced vm_runMost vm_runBegins qm_heardBy vm_fitMany vm_fitFirst vm_fitBeats vm_listenLeaves qm_there vm_metAt vm_metIn qm_wins vm_nightHoles vm_nightFirst vm_nightMud vm_nightSlips vm_drawnNow, (qm_has, .inl (cI, 55, .inl (fm_has))), (qm_round, .inl (cI, 120, .inl (fm_round))), (qm_meets, .inl (cI, 30, .inl (fm_meets)))]
set_option maxHeartbeats 4000000 in
set_option maxRecDepth 100000 in
/-- X12 mendedOf -/
theorem c_X12_mendedOf (l : Launch) (D : va_G) (G : ct_G) (cI cJ cB cZ cO : ClassId) (qm : Nat) (vm_thrown : Int32) (qm_width : Nat) (qm_many : Nat) (qm_cells : Nat) (qm_moved : Nat) (qm_tape : Nat) (vm_taped : Int32) (vm_at : Int32) (vm_token : Int32) (vm_place : Int32) (vm_value : Int32) (vm_word : Int64) (vm_bad : Int32) (vm_badPlace : Int32) (vm_fault : Int32) (vm_faultPlace : Int32) (qm_lines : Nat) (qm_has : Nat) (fm_has : Nat → Int32) (qm_round : Nat) (fm_round : Nat → Int32) (qm_meets : Nat) (fm_meets : Nat → Int32) (qm_stumble : Nat) (qm_isMud : Nat) (qm_cell : Nat) (qm_tune : Nat) (qm_change : Nat) (qm_isKept : Nat) (qm_steps : Nat) (qm_places : Nat) (qm_danced : Nat) (vm_runMost : Int32) (vm_runBegins : Int32) (qm_heardBy : Nat) (vm_fitMany : Int32) (vm_fitFirst : Int32) (vm_fitBeats : Int64) (vm_listenLeaves : Int32) (qm_there : Nat) (vm_metAt : Int32) (vm_metIn : Int32) (qm_wins : Nat) (vm_nightHoles : Int32) (vm_nightFirst : Int32) (vm_nightMud : Int32) (vm_nightSlips : Int32) (vm_drawnNow : Int64) (a1 : Int32) (a2 : Int32) (h_vm_taped : 0 ≤ vm_taped.toInt ∧ vm_taped.toInt ≤ 1200) (h_vm_at : 0 ≤ vm_at.toInt ∧ vm_at.toInt ≤ 1200) (h_vm_value : 0 ≤ vm_value.toInt ∧ vm_value.toInt ≤ 1000009) (h_fm_has : ar_ok [0, (-2147483648), (-2147483648), 0, 0, 0, 0, 0, 0, 0, 0] [20, 2147483647, 2147483647, 12, 12, 11, 11, 8, 12, 5, 40] fm_has) (h_fm_round : ar_ok [0] [5] fm_round) (h_a1 : 0 ≤ a1.toInt ∧ a1.toInt ≤ 1) (h_a2 : 0 ≤ a2.toInt ∧ a2.toInt ≤ 11) (h_rp : 1 ≤ (fm_has 3).toInt ∧ 1 ≤ (fm_has 4).toInt) (sz : Nat) : Met l yX12_mendedOf wsX12_mendedOf ({ frames := 15, cells := 0, slots := 0, locals := 321 }) (va_Pc [.ref qm, .int a1, .int a2] (ct_P D (ct_T cI cJ cB cZ cO) G (w_c_X12_mendedOf cI cJ cB cZ cO qm vm_thrown qm_width qm_many qm_cells qm_moved qm_tape vm_taped vm_at vm_token vm_place vm_value vm_word vm_bad vm_badPlace vm_fault vm_faultPlace qm_lines qm_has fm_has qm_round fm_round qm_meets fm_meets qm_stumble qm_isMud qm_cell qm_tune qm_change qm_isKept qm_steps qm_places qm_danced vm_runMost vm_runBegins qm_heardBy vm_fitMany vm_fitFirst vm_fitBeats vm_listenLeaves qm_there vm_metAt vm_metIn qm_wins vm_nightHoles vm_nightFirst vm_nightMud vm_nightSlips vm_drawnNow) sz)) (va_Qi (fun (rz : Int32) (u : Unit) => ((-1) ≤ rz.toInt ∧ rz.toInt ≤ 32)) (fun (u : Unit) t => ct_Q D (va_A (w_c_X12_mendedOf cI cJ cB cZ cO qm vm_thrown qm_width qm_many qm_cells qm_moved qm_tape vm_taped vm_at vm_token vm_place vm_value vm_word vm_bad vm_badPlace vm_fault vm_faultPlace qm_lines qm_has fm_has qm_round fm_round qm_meets fm_meets qm_stumble qm_isMud qm_cell qm_tune qm_change qm_isKept qm_steps qm_places qm_danced vm_runMost vm_runBegins qm_heardBy vm_fitMany vm_fitFirst vm_fitBeats vm_listenLeaves qm_there vm_metAt vm_metIn qm_wins vm_nightHoles vm_nightFirst vm_nightMud vm_nightSlips vm_drawnNow) sz) [mo qm vm_thrown qm_width qm_many qm_cells qm_moved qm_tape vm_taped vm_at vm_token vm_place vm_value vm_word vm_bad vm_badPlace vm_fault vm_faultPlace qm_lines qm_has qm_round qm_meets qm_stumble qm_isMud qm_cell qm_tune qm_change qm_isKept qm_steps qm_places qm_danced vm_runMost vm_runBegins qm_heardBy vm_fitMany vm_fitFirst vm_fitBeats vm_listenLeaves qm_there vm_metAt vm_metIn qm_wins vm_nightHoles vm_nightFirst vm_nightMud vm_nightSlips vm_drawnNow, (qm_has, .inl (cI, 55, .inl (fm_has))), (qm_round, .inl (cI, 120, .inl (fm_round))), (qm_meets, .inl (cI, 30, .inl (fm_meets)))] t) (va_A (w_c_X12_mendedOf cI cJ cB cZ cO qm vm_thrown qm_width qm_many qm_cells qm_moved qm_tape vm_taped vm_at vm_token vm_place vm_value vm_word vm_bad vm_badPlace vm_fault vm_faultPlace qm_lines qm_has fm_has qm_round fm_round qm_meets fm_meets qm_stumble qm_isMud qm_cell qm_tune qm_change qm_isKept qm_steps qm_places qm_danced vm_runMost vm_runBegins qm_heardBy vm_fitMany vm_fitFirst vm_fitBeats vm_listenLeaves qm_there vm_metAt vm_metIn qm_wins vm_nightHoles vm_nightFirst vm_nightMud vm_nightSlips vm_drawnNow) sz)) 0 0 (va_A (w_c_X12_mendedOf cI cJ cB cZ cO qm vm_thrown qm_width qm_many qm_cells qm_moved qm_tape vm_taped vm_at vm_token vm_place vm_value vm_word vm_bad vm_badPlace vm_fault vm_faultPlace qm_lines qm_has fm_has qm_round fm_round qm_meets fm_meets qm_stumble qm_isMud qm_cell qm_tune qm_change qm_isKept qm_steps qm_places qm_danced vm_runMost vm_runBegins qm_heardBy vm_fitMany vm_fitFirst vm_fitBeats vm_listenLeaves qm_there vm_metAt vm_metIn qm_wins vm_nightHoles vm_nightFirst vm_nightMud vm_nightSlips vm_drawnNow) sz) := by
  refine Met.ofW (cc := cX12_mendedOf) (maxL := 6) (ret := (some .int)) (by decide) rfl ?_
  intro p e s m args below meth c s₁ B hml hv
  obtain ⟨rfl, hsz, hP, hE, hD0, hH⟩ := hv
  have hx := B.exec
  have hb := B.bytes
  have hr := B.returns
  have hts := atoms_spec (ws := wsX12_mendedOf) B.pre
  have hown : s.vm.findClass RX12 = some m.cls := findClass_of_methodNamed B.named
  have hlocks := B.notSynchronized
  have hK := hE.1
  have hi12 : ∀ w ∈ u_ws RX12 TX12 45, w ∈ wsX12_mendedOf := fun w h => List.mem_cons_of_mem _ (List.mem_append_right _ h)
  subst hsz
  have hD := hD0.self (sz := s.heap.size)
  generalize hAe : va_A (w_c_X12_mendedOf cI cJ cB cZ cO qm vm_thrown qm_width qm_many qm_cells qm_moved qm_tape vm_taped vm_at vm_token vm_place vm_value vm_word vm_bad vm_badPlace vm_fault vm_faultPlace qm_lines qm_has fm_has qm_round fm_round qm_meets fm_meets qm_stumble qm_isMud qm_cell qm_tune qm_change qm_isKept qm_steps qm_places qm_danced vm_runMost vm_runBegins qm_heardBy vm_fitMany vm_fitFirst vm_fitBeats vm_listenLeaves qm_there vm_metAt vm_metIn qm_wins vm_nightHoles vm_nightFirst vm_nightMud vm_nightSlips vm_drawnNow) s.heap.size = A at hD hH ⊢
  have hA : ∀ q : Nat, s.heap.size ≤ q → A q := fun q h => by rw [← hAe]; exact Or.inr h
  have hS : va_S A s.heap s.heap [] := va_S.rf
  obtain ⟨hP, hD⟩ : ct_B D A s.heap [mo qm vm_thrown qm_width qm_many qm_cells qm_moved qm_tape vm_taped vm_at vm_token vm_place vm_value vm_word vm_bad vm_badPlace vm_fault vm_faultPlace qm_lines qm_has qm_round qm_meets qm_stumble qm_isMud qm_cell qm_tune qm_change qm_isKept qm_steps qm_places qm_danced vm_runMost vm_runBegins qm_heardBy vm_fitMany vm_fitFirst vm_fitBeats vm_listenLeaves qm_there vm_metAt vm_metIn qm_wins vm_nightHoles vm_nightFirst vm_nightMud vm_nightSlips vm_drawnNow, (qm_has, .inl (cI, 55, .inl (fm_has))), (qm_round, .inl (cI, 120, .inl (fm_round))), (qm_meets, .inl (cI, 30, .inl (fm_meets)))] := ⟨hP, hD⟩
  have hl := lv_entry ([.ref qm, .int a1, .int a2]) (n := 6) (Nat.le_of_ble_eq_true rfl)
  rw [lg_entry_eq]
  generalize (lg_sl ([.ref qm, .int a1, .int a2]) ++ List.replicate (6 - (lg_sl ([.ref qm, .int a1, .int a2])).length) Slot.unset).toArray = ls at hl ⊢
  have hl : lv_has ls 6 [(0, .ref qm), (1, .int a1), (2, .int a2)] := hl
  obtain ⟨H, hHe⟩ : ∃ H : Heap, H = s.heap := ⟨_, rfl⟩
  rw [← hHe] at hP
  have hS : va_S A s.heap H [] := by rw [hHe]; exact va_S.rf
  refine ct_start hHe ?_
  refine lv_aload_n hx hb dX12_mendedOf_0 rfl (lv_at hl 0 rfl) ?_
  refine lv_iload_n hx hb dX12_mendedOf_1 rfl (lv_at hl 1 rfl) ?_
  refine lv_iload_n hx hb dX12_mendedOf_2 rfl (lv_at hl 2 rfl) ?_
  refine ct_calli (D := D) (wr := []) (va_runV (As := [.int a1, .int a2]) (rest := []) ⟨hx, hb, hml, hown, hts⟩ (c_X12_mayBe l D G cI cJ cB cZ cO qm vm_thrown qm_width qm_many qm_cells qm_moved qm_tape vm_taped vm_at vm_token vm_place vm_value vm_word vm_bad vm_badPlace vm_fault vm_faultPlace qm_lines qm_has fm_has qm_round fm_round qm_meets fm_meets qm_stumble qm_isMud qm_cell qm_tune qm_change qm_isKept qm_steps qm_places qm_danced vm_runMost vm_runBegins qm_heardBy vm_fitMany vm_fitFirst vm_fitBeats vm_listenLeaves qm_there vm_metAt vm_metIn qm_wins vm_nightHoles vm_nightFirst vm_nightMud vm_nightSlips vm_drawnNow a1 a2 h_vm_taped h_vm_at h_vm_value h_fm_has h_fm_round h_a1 h_a2 h_rp H.size) (cwV 2 hts gX12_mendedOf_X12_mayBe rfl rfl rfl (by decide +kernel) ⟨Nat.le_of_ble_eq_true rfl, Nat.le_of_ble_eq_true rfl⟩) (ct_preV (T := ct_T cI cJ cB cZ cO) (ci := 12) (q0 := 0) hE hH hP hD hS hA [0, 1, 2, 3] (by decide) rfl rfl rfl) rfl rfl hl.1 rfl (lv_room (Nat.le_of_ble_eq_true rfl)) dX12_mendedOf_3 ⟨Nat.le_of_ble_eq_true rfl, Nat.le_of_ble_eq_true rfl⟩) hP hD hS hA [0, 1, 2, 3] [] rfl rfl (by decide) (by decide) (fun r1 u H locs hw hP hD hS => ?_)
  obtain ⟨hP, hD⟩ : ct_B D A H [mo qm vm_thrown qm_width qm_many qm_cells qm_moved qm_tape vm_taped vm_at vm_token vm_place vm_value vm_word vm_bad vm_badPlace vm_fault vm_faultPlace qm_lines qm_has qm_round qm_meets qm_stumble qm_isMud qm_cell qm_tune qm_change qm_isKept qm_steps qm_places qm_danced vm_runMost vm_runBegins qm_heardBy vm_fitMany vm_fitFirst vm_fitBeats vm_listenLeaves qm_there vm_metAt vm_metIn qm_wins vm_nightHoles vm_nightFirst vm_nightMud vm_nightSlips vm_drawnNow, (qm_has, .inl (cI, 55, .inl (fm_has))), (qm_round, .inl (cI, 120, .inl (fm_round))), (qm_meets, .inl (cI, 30, .inl (fm_meets)))] := ⟨hP, hD⟩
  have hz := hw
  clear hw
  have h_r1 : 0 ≤ r1.toInt ∧ r1.toInt ≤ 63 := hz
  clear hz
  refine lv_istore_n (lv' := [(3, .int r1), (0, .ref qm), (1, .int a1), (2, .int a2)]) hx hb dX12_mendedOf_6 rfl hl (by decide) rfl (fun ls hl => ?_)
  refine lv_aload_n hx hb dX12_mendedOf_7 rfl (lv_at hl 1 rfl) ?_
  refine va_get (D := D) (ci := 12) (v := .ref qm_round) (C := RX12) (T := TX12) (N := 45) hx hb hts hi12 hown hK hP 0 rfl rfl 18 (by decide) (hts (.fieldLink RX12 37 "OverHillModel" "round" "[I") (by decide +kernel)) (fun _ h9 => h9) rfl dX12_mendedOf_8 ?_
  refine lv_bipush (v := 12) hx hb dX12_mendedOf_11 (by decide) ?_
  refine lv_iload_n hx hb dX12_mendedOf_13 rfl (lv_at hl 2 rfl) ?_
  refine lv_imul hx hb dX12_mendedOf_14 ?_
  refine lv_topi (fun z2 ez2 => ?_)
  have fz2 : z2.toInt = 12 * a1.toInt := by rw [ez2]; exact tq_mul (by decide) rfl (by omega)
  refine lv_iload_n hx hb dX12_mendedOf_15 rfl (lv_at hl 3 rfl) ?_
  refine lv_iadd hx hb dX12_mendedOf_16 ?_
  refine lv_topi (fun z3 ez3 => ?_)
  have fz3 : z3.toInt = z2.toInt + a2.toInt := by rw [ez3]; exact tq_add rfl rfl (by omega)
  refine va_iald (D := D) hx hb hK hP 2 0 rfl rfl (tq_in rfl (by omega)) dX12_mendedOf_17 ?_
  refine lv_topi (fun z4 ez4 => ?_)
  have fz4 : 0 ≤ z4.toInt ∧ z4.toInt ≤ 5 := by rw [ez4]; exact ar_get h_fm_round z3 0 (by omega) (show z3.toInt % 1 = 0 by omega) rfl
  refine lv_istore (lv' := [(4, .int z4), (3, .int r1), (0, .ref qm), (1, .int a1), (2, .int a2)]) hx hb dX12_mendedOf_18 hl (by decide) rfl (fun ls hl => ?_)
  refine lv_iload_n hx hb dX12_mendedOf_20 rfl (lv_at hl 1 rfl) ?_
  refine lv_if_eq (tgt := 33) hx hb dX12_mendedOf_21 (by decide) (fun hc => ?_) (fun hc => ?_)
  · have hq5 : r1.toInt = 0 := tq_eq rfl (by decide) hc
    refine lv_iload_n hx hb dX12_mendedOf_33 rfl (lv_at hl 1 rfl) ?_
    refine lv_if_ne (tgt := 41) hx hb dX12_mendedOf_34 (by decide) (fun hc => ?_) (fun hc => ?_)
    · have hq6 : r1.toInt ≠ 0 := tq_ne rfl (by decide) hc
      omega
    · have hq6 : r1.toInt = 0 := tq_eq rfl (by decide) hc
      refine lv_iconst (v := (-1)) hx hb dX12_mendedOf_37 (by decide) ?_
      refine lv_goto (tgt := 43) hx hb dX12_mendedOf_38 (by decide) ?_
      obtain ⟨hP9, hD9⟩ : ct_B D A H [mo qm vm_thrown qm_width qm_many qm_cells qm_moved qm_tape vm_taped vm_at vm_token vm_place vm_value vm_word vm_bad vm_badPlace vm_fault vm_faultPlace qm_lines qm_has qm_round qm_meets qm_stumble qm_isMud qm_cell qm_tune qm_change qm_isKept qm_steps qm_places qm_danced vm_runMost vm_runBegins qm_heardBy vm_fitMany vm_fitFirst vm_fitBeats vm_listenLeaves qm_there vm_metAt vm_metIn qm_wins vm_nightHoles vm_nightFirst vm_nightMud vm_nightSlips vm_drawnNow, (qm_has, .inl (cI, 55, .inl (fm_has))), (qm_round, .inl (cI, 120, .inl (fm_round))), (qm_meets, .inl (cI, 30, .inl (fm_meets)))] := ⟨hP.sub [0, 1, 2, 3] rfl, hD.sub [0, 1, 2, 3] (by decide) rfl⟩
      exact W.iret (v := (-1)) hx hb hr (fun t ht hW => ⟨⟨(-1), (), rfl, (show (-1) ≤ (-1 : Int32).toInt ∧ (-1 : Int32).toInt ≤ 32 by decide), by rw [ht]; exact hP9, hD9⟩, hS.F ht⟩) hS.2.2 dX12_mendedOf_43
  · have hq5 : r1.toInt ≠ 0 := tq_ne rfl (by decide) hc
    refine lv_iload_n hx hb dX12_mendedOf_24 rfl (lv_at hl 1 rfl) ?_
    refine lv_iload hx hb dX12_mendedOf_25 (lv_at hl 0 rfl) ?_
    refine ct_calli (D := D) (wr := [mo qm vm_thrown qm_width qm_many qm_cells qm_moved qm_tape vm_taped vm_at vm_token vm_place vm_value vm_word vm_bad vm_badPlace vm_fault vm_faultPlace qm_lines qm_has qm_round qm_meets qm_stumble qm_isMud qm_cell qm_tune qm_change qm_isKept qm_steps qm_places qm_danced vm_runMost vm_runBegins qm_heardBy vm_fitMany vm_fitFirst vm_fitBeats vm_listenLeaves qm_there vm_metAt vm_metIn qm_wins vm_nightHoles vm_nightFirst vm_nightMud vm_nightSlips vm_drawnNow, (qm_has, .inl (cI, 55, .inl (fm_has))), (qm_round, .inl (cI, 120, .inl (fm_round))), (qm_meets, .inl (cI, 30, .inl (fm_meets)))]) (va_runS (As := [.int r1, .int z4]) (rest := []) ⟨hx, hb, hml, hown, hts⟩ (c_X12_isBit l D G cI cJ cB cZ cO r1 z4  H.size) (va_cwS 2 hts gX12_mendedOf_X12_isBit rfl rfl rfl (by decide +kernel) ⟨Nat.le_of_ble_eq_true rfl, Nat.le_of_ble_eq_true rfl⟩) (ct_preS (T := ct_T cI cJ cB cZ cO) hE hH hP hD hS hA [] (by decide) rfl) rfl rfl hl.1 rfl (lv_room (Nat.le_of_ble_eq_true rfl)) dX12_mendedOf_27 ⟨Nat.le_of_ble_eq_true rfl, Nat.le_of_ble_eq_true rfl⟩) hP hD hS hA [] [0, 1, 2, 3] rfl rfl (by decide) (by decide) (fun r7 u H locs hw hP hD hS => ?_)
    obtain ⟨hP, hD⟩ : ct_B D A H [mo qm vm_thrown qm_width qm_many qm_cells qm_moved qm_tape vm_taped vm_at vm_token vm_place vm_value vm_word vm_bad vm_badPlace vm_fault vm_faultPlace qm_lines qm_has qm_round qm_meets qm_stumble qm_isMud qm_cell qm_tune qm_change qm_isKept qm_steps qm_places qm_danced vm_runMost vm_runBegins qm_heardBy vm_fitMany vm_fitFirst vm_fitBeats vm_listenLeaves qm_there vm_metAt vm_metIn qm_wins vm_nightHoles vm_nightFirst vm_nightMud vm_nightSlips vm_drawnNow, (qm_has, .inl (cI, 55, .inl (fm_has))), (qm_round, .inl (cI, 120, .inl (fm_round))), (qm_meets, .inl (cI, 30, .inl (fm_meets)))] := ⟨hP, hD⟩
    have hz := hw
    clear hw
    rcases hz with ⟨hz, hz2⟩ | ⟨hz, hz2⟩
    · subst hz
      have hz_8 : (bt r1 z4) := hz2
      refine lv_if_eq (tgt := 44) hx hb dX12_mendedOf_30 (by decide) (fun hc => absurd hc (by decide)) (fun _ => ?_)
      refine lv_iload_n hx hb dX12_mendedOf_33 rfl (lv_at hl 1 rfl) ?_
      refine lv_if_ne (tgt := 41) hx hb dX12_mendedOf_34 (by decide) (fun hc => ?_) (fun hc => ?_)
      · have hq9 : r1.toInt ≠ 0 := tq_ne rfl (by decide) hc
        refine lv_iload hx hb dX12_mendedOf_41 (lv_at hl 0 rfl) ?_
        obtain ⟨hP9, hD9⟩ : ct_B D A H [mo qm vm_thrown qm_width qm_many qm_cells qm_moved qm_tape vm_taped vm_at vm_token vm_place vm_value vm_word vm_bad vm_badPlace vm_fault vm_faultPlace qm_lines qm_has qm_round qm_meets qm_stumble qm_isMud qm_cell qm_tune qm_change qm_isKept qm_steps qm_places qm_danced vm_runMost vm_runBegins qm_heardBy vm_fitMany vm_fitFirst vm_fitBeats vm_listenLeaves qm_there vm_metAt vm_metIn qm_wins vm_nightHoles vm_nightFirst vm_nightMud vm_nightSlips vm_drawnNow, (qm_has, .inl (cI, 55, .inl (fm_has))), (qm_round, .inl (cI, 120, .inl (fm_round))), (qm_meets, .inl (cI, 30, .inl (fm_meets)))] := ⟨hP.sub [0, 1, 2, 3] rfl, hD.sub [0, 1, 2, 3] (by decide) rfl⟩
        exact W.iret (v := z4) hx hb hr (fun t ht hW => ⟨⟨z4, (), rfl, (show (-1) ≤ z4.toInt ∧ z4.toInt ≤ 32 by omega), by rw [ht]; exact hP9, hD9⟩, hS.F ht⟩) hS.2.2 dX12_mendedOf_43
      · have hq9 : r1.toInt = 0 := tq_eq rfl (by decide) hc
        omega
    · subst hz
      have hz_10 : ¬ (bt r1 z4) := hz2
      refine lv_if_eq (tgt := 44) hx hb dX12_mendedOf_30 (by decide) (fun _ => ?_) (fun hc => absurd hc (by decide))
      refine lv_iconst (v := 0) hx hb dX12_mendedOf_44 (by decide) ?_
      refine lv_istore (lv' := [(5, .int 0), (4, .int z4), (3, .int r1), (0, .ref qm), (1, .int a1), (2, .int a2)]) hx hb dX12_mendedOf_45 hl (by decide) rfl (fun ls hl => ?_)
      refine ct_loop (X := Int32) (fun x => (32 - x.toInt).toNat) (fun x H locs ls => ((0 ≤ x.toInt ∧ x.toInt ≤ 32)) ∧ (∃ k : Int32, x.toInt ≤ k.toInt ∧ k.toInt < 32 ∧ bt r1 k) ∧ ct_B D A H [mo qm vm_thrown qm_width qm_many qm_cells qm_moved qm_tape vm_taped vm_at vm_token vm_place vm_value vm_word vm_bad vm_badPlace vm_fault vm_faultPlace qm_lines qm_has qm_round qm_meets qm_stumble qm_isMud qm_cell qm_tune qm_change qm_isKept qm_steps qm_places qm_danced vm_runMost vm_runBegins qm_heardBy vm_fitMany vm_fitFirst vm_fitBeats vm_listenLeaves qm_there vm_metAt vm_metIn qm_wins vm_nightHoles vm_nightFirst vm_nightMud vm_nightSlips vm_drawnNow, (qm_has, .inl (cI, 55, .inl (fm_has))), (qm_round, .inl (cI, 120, .inl (fm_round))), (qm_meets, .inl (cI, 30, .inl (fm_meets)))] ∧ va_S A s.heap H locs ∧ lv_has ls 6 [(5, .int x), (4, .int z4), (3, .int r1), (0, .ref qm), (1, .int a1), (2, .int a2)]) 47 (0 : Int32) ⟨(show 0 ≤ (0 : Int32).toInt ∧ (0 : Int32).toInt ≤ 32 by decide), (show ∃ k : Int32, (0 : Int32).toInt ≤ k.toInt ∧ k.toInt < 32 ∧ bt r1 k by exact bt_ex (by omega) (by omega) (by omega)), ⟨hP, hD⟩, hS, lv_sub hl [0, 1, 2, 3, 4, 5] rfl⟩ (fun x ih25 H locs ls hI => ?_)
      obtain ⟨x24, rfl⟩ : ∃ z, z = x := ⟨_, rfl⟩
      obtain ⟨h_x24, he0, ⟨hP, hD⟩, hS, hl⟩ := hI
      change (0 ≤ x24.toInt ∧ x24.toInt ≤ 32) at h_x24
      change ∃ k : Int32, x24.toInt ≤ k.toInt ∧ k.toInt < 32 ∧ bt r1 k at he0
      obtain ⟨hP, hD⟩ : ct_B D A H [mo qm vm_thrown qm_width qm_many qm_cells qm_moved qm_tape vm_taped vm_at vm_token vm_place vm_value vm_word vm_bad vm_badPlace vm_fault vm_faultPlace qm_lines qm_has qm_round qm_meets qm_stumble qm_isMud qm_cell qm_tune qm_change qm_isKept qm_steps qm_places qm_danced vm_runMost vm_runBegins qm_heardBy vm_fitMany vm_fitFirst vm_fitBeats vm_listenLeaves qm_there vm_metAt vm_metIn qm_wins vm_nightHoles vm_nightFirst vm_nightMud vm_nightSlips vm_drawnNow, (qm_has, .inl (cI, 55, .inl (fm_has))), (qm_round, .inl (cI, 120, .inl (fm_round))), (qm_meets, .inl (cI, 30, .inl (fm_meets)))] := ⟨hP, hD⟩
      have hl : lv_has ls 6 [(5, .int x24), (4, .int z4), (3, .int r1), (0, .ref qm), (1, .int a1), (2, .int a2)] := hl
      have hk9 : x24.toInt < 32 := by obtain ⟨k, hk1, hk2, -⟩ := he0; omega
      refine lv_iload_n hx hb dX12_mendedOf_47 rfl (lv_at hl 2 rfl) ?_
      refine lv_iload hx hb dX12_mendedOf_48 (lv_at hl 0 rfl) ?_
      refine ct_calli (D := D) (wr := [mo qm vm_thrown qm_width qm_many qm_cells qm_moved qm_tape vm_taped vm_at vm_token vm_place vm_value vm_word vm_bad vm_badPlace vm_fault vm_faultPlace qm_lines qm_has qm_round qm_meets qm_stumble qm_isMud qm_cell qm_tune qm_change qm_isKept qm_steps qm_places qm_danced vm_runMost vm_runBegins qm_heardBy vm_fitMany vm_fitFirst vm_fitBeats vm_listenLeaves qm_there vm_metAt vm_metIn qm_wins vm_nightHoles vm_nightFirst vm_nightMud vm_nightSlips vm_drawnNow, (qm_has, .inl (cI, 55, .inl (fm_has))), (qm_round, .inl (cI, 120, .inl (fm_round))), (qm_meets, .inl (cI, 30, .inl (fm_meets)))]) (va_runS (As := [.int r1, .int x24]) (rest := []) ⟨hx, hb, hml, hown, hts⟩ (c_X12_isBit l D G cI cJ cB cZ cO r1 x24  H.size) (va_cwS 2 hts gX12_mendedOf_X12_isBit rfl rfl rfl (by decide +kernel) ⟨Nat.le_of_ble_eq_true rfl, Nat.le_of_ble_eq_true rfl⟩) (ct_preS (T := ct_T cI cJ cB cZ cO) hE hH hP hD hS hA [] (by decide) rfl) rfl rfl hl.1 rfl (lv_room (Nat.le_of_ble_eq_true rfl)) dX12_mendedOf_50 ⟨Nat.le_of_ble_eq_true rfl, Nat.le_of_ble_eq_true rfl⟩) hP hD hS hA [] [0, 1, 2, 3] rfl rfl (by decide) (by decide) (fun r26 u H locs hw hP hD hS => ?_)
      obtain ⟨hP, hD⟩ : ct_B D A H [mo qm vm_thrown qm_width qm_many qm_cells qm_moved qm_tape vm_taped vm_at vm_token vm_place vm_value vm_word vm_bad vm_badPlace vm_fault vm_faultPlace qm_lines qm_has qm_round qm_meets qm_stumble qm_isMud qm_cell qm_tune qm_change qm_isKept qm_steps qm_places qm_danced vm_runMost vm_runBegins qm_heardBy vm_fitMany vm_fitFirst vm_fitBeats vm_listenLeaves qm_there vm_metAt vm_metIn qm_wins vm_nightHoles vm_nightFirst vm_nightMud vm_nightSlips vm_drawnNow, (qm_has, .inl (cI, 55, .inl (fm_has))), (qm_round, .inl (cI, 120, .inl (fm_round))), (qm_meets, .inl (cI, 30, .inl (fm_meets)))] := ⟨hP, hD⟩
      have hz := hw
      clear hw
      rcases hz with ⟨hz, hz2⟩ | ⟨hz, hz2⟩
      · subst hz
        have hz_27 : (bt r1 x24) := hz2
        refine lv_if_ne (tgt := 62) hx hb dX12_mendedOf_53 (by decide) (fun _ => ?_) (fun hc => absurd hc (by decide))
        refine lv_iload hx hb dX12_mendedOf_62 (lv_at hl 0 rfl) ?_
        obtain ⟨hP9, hD9⟩ : ct_B D A H [mo qm vm_thrown qm_width qm_many qm_cells qm_moved qm_tape vm_taped vm_at vm_token vm_place vm_value vm_word vm_bad vm_badPlace vm_fault vm_faultPlace qm_lines qm_has qm_round qm_meets qm_stumble qm_isMud qm_cell qm_tune qm_change qm_isKept qm_steps qm_places qm_danced vm_runMost vm_runBegins qm_heardBy vm_fitMany vm_fitFirst vm_fitBeats vm_listenLeaves qm_there vm_metAt vm_metIn qm_wins vm_nightHoles vm_nightFirst vm_nightMud vm_nightSlips vm_drawnNow, (qm_has, .inl (cI, 55, .inl (fm_has))), (qm_round, .inl (cI, 120, .inl (fm_round))), (qm_meets, .inl (cI, 30, .inl (fm_meets)))] := ⟨hP.sub [0, 1, 2, 3] rfl, hD.sub [0, 1, 2, 3] (by decide) rfl⟩
        exact W.iret (v := x24) hx hb hr (fun t ht hW => ⟨⟨x24, (), rfl, (show (-1) ≤ x24.toInt ∧ x24.toInt ≤ 32 by omega), by rw [ht]; exact hP9, hD9⟩, hS.F ht⟩) hS.2.2 dX12_mendedOf_64
      · subst hz
        have hz_28 : ¬ (bt r1 x24) := hz2
        refine lv_if_ne (tgt := 62) hx hb dX12_mendedOf_53 (by decide) (fun hc => absurd hc (by decide)) (fun _ => ?_)
        obtain ⟨z29, ez29⟩ : ∃ z : Int32, z = x24 + 1 := ⟨_, rfl⟩
        have fz29 : z29.toInt = x24.toInt + 1 := by rw [ez29]; exact tq_add rfl (by decide) (by omega)
        refine lv_iinc (v := z29) (lv' := [(5, .int z29), (4, .int z4), (3, .int r1), (0, .ref qm), (1, .int a1), (2, .int a2)]) hx hb dX12_mendedOf_56 hl (k := 0) rfl ez29.symm (by decide) rfl (fun ls hl => ?_)
        refine lv_goto (tgt := 47) hx hb dX12_mendedOf_59 (by decide) ?_
        exact ih25 z29 _ _ _ (show (32 - z29.toInt).toNat < (32 - x24.toInt).toNat by omega) ⟨(show 0 ≤ z29.toInt ∧ z29.toInt ≤ 32 by omega), (show ∃ k : Int32, z29.toInt ≤ k.toInt ∧ k.toInt < 32 ∧ bt r1 k by exact bt_next he0 hz_28 (by omega)), ⟨hP, hD⟩, hS, lv_sub hl [0, 1, 2, 3, 4, 5] rfl⟩
abbrev w_c_X12_stuckOf (cI cJ cB cZ cO : ClassId) (qm : Nat) (vm_thrown : Int32) (qm_width : Nat) (qm_many : Nat) (qm_cells : Nat) (qm_moved : Nat) (qm_tape : Nat) (vm_taped : Int32) (vm_at : Int32) (vm_token : Int32) (vm_place : Int32) (vm_value : Int32) (vm_word : Int64) (vm_bad : Int32) (vm_badPlace : Int32) (vm_fault : Int32) (vm_faultPlace : Int32) (qm_lines : Nat) (qm_has : Nat) (fm_has : Nat → Int32) (qm_round : Nat) (fm_round : Nat → Int32) (qm_meets : Nat) (fm_meets : Nat → Int32) (qm_stumble : Nat) (qm_isMud : Nat) (qm_cell : Nat) (qm_tune : Nat) (qm_change : Nat) (qm_isKept : Nat) (qm_steps : Nat) (qm_places : Nat) (qm_danced : Nat) (vm_runMost : Int32) (vm_runBegins : Int32) (qm_heardBy : Nat) (vm_fitMany : Int32) (vm_fitFirst : Int32) (vm_fitBeats : Int64) (vm_listenLeaves : Int32) (qm_there : Nat) (vm_metAt : Int32) (vm_metIn : Int32) (qm_wins : Nat) (vm_nightHoles : Int32) (vm_nightFirst : Int32) (vm_nightMud : Int32) (vm_nightSlips : Int32) (vm_drawnNow : Int64) : va_W := [mo qm vm_thrown qm_width qm_many qm_cells qm_moved qm_tape vm_taped vm_at vm_token vm_place vm_value vm_word vm_bad vm_badPlace vm_fault vm_faultPlace qm_lines qm_has qm_round qm_meets qm_stumble qm_isMud qm_cell qm_tune qm_change qm_isKept qm_steps qm_places qm_danced vm_runMost vm_runBegins qm_heardBy vm_fitMany vm_fitFirst vm_fitBeats vm_listenLeaves qm_there vm_metAt vm_metIn qm_wins vm_nightHoles vm_nightFirst vm_nightMud vm_nightSlips vm_drawnNow, (qm_has, .inl (cI, 55, .inl (fm_has))), (qm_round, .inl (cI, 120, .inl (fm_round))), (qm_meets, .inl (cI, 30, .inl (fm_meets)))]
set_option maxHeartbeats 4000000 in
set_option maxRecDepth 100000 in
/-- X12 stuckOf -/
theorem c_X12_stuckOf (l : Launch) (D : va_G) (G : ct_G) (cI cJ cB cZ cO : ClassId) (qm : Nat) (vm_thrown : Int32) (qm_width : Nat) (qm_many : Nat) (qm_cells : Nat) (qm_moved : Nat) (qm_tape : Nat) (vm_taped : Int32) (vm_at : Int32) (vm_token : Int32) (vm_place : Int32) (vm_value : Int32) (vm_word : Int64) (vm_bad : Int32) (vm_badPlace : Int32) (vm_fault : Int32) (vm_faultPlace : Int32) (qm_lines : Nat) (qm_has : Nat) (fm_has : Nat → Int32) (qm_round : Nat) (fm_round : Nat → Int32) (qm_meets : Nat) (fm_meets : Nat → Int32) (qm_stumble : Nat) (qm_isMud : Nat) (qm_cell : Nat) (qm_tune : Nat) (qm_change : Nat) (qm_isKept : Nat) (qm_steps : Nat) (qm_places : Nat) (qm_danced : Nat) (vm_runMost : Int32) (vm_runBegins : Int32) (qm_heardBy : Nat) (vm_fitMany : Int32) (vm_fitFirst : Int32) (vm_fitBeats : Int64) (vm_listenLeaves : Int32) (qm_there : Nat) (vm_metAt : Int32) (vm_metIn : Int32) (qm_wins : Nat) (vm_nightHoles : Int32) (vm_nightFirst : Int32) (vm_nightMud : Int32) (vm_nightSlips : Int32) (vm_drawnNow : Int64) (a1 : Int32) (h_vm_taped : 0 ≤ vm_taped.toInt ∧ vm_taped.toInt ≤ 1200) (h_vm_at : 0 ≤ vm_at.toInt ∧ vm_at.toInt ≤ 1200) (h_vm_value : 0 ≤ vm_value.toInt ∧ vm_value.toInt ≤ 1000009) (h_fm_has : ar_ok [0, (-2147483648), (-2147483648), 0, 0, 0, 0, 0, 0, 0, 0] [20, 2147483647, 2147483647, 12, 12, 11, 11, 8, 12, 5, 40] fm_has) (h_fm_round : ar_ok [0] [5] fm_round) (h_a1 : 0 ≤ a1.toInt ∧ a1.toInt ≤ 1) (h_rp : 1 ≤ (fm_has 3).toInt ∧ 1 ≤ (fm_has 4).toInt) (sz : Nat) : Met l yX12_stuckOf wsX12_stuckOf ({ frames := 16, cells := 0, slots := 0, locals := 346 }) (va_Pc [.ref qm, .int a1] (ct_P D (ct_T cI cJ cB cZ cO) G (w_c_X12_stuckOf cI cJ cB cZ cO qm vm_thrown qm_width qm_many qm_cells qm_moved qm_tape vm_taped vm_at vm_token vm_place vm_value vm_word vm_bad vm_badPlace vm_fault vm_faultPlace qm_lines qm_has fm_has qm_round fm_round qm_meets fm_meets qm_stumble qm_isMud qm_cell qm_tune qm_change qm_isKept qm_steps qm_places qm_danced vm_runMost vm_runBegins qm_heardBy vm_fitMany vm_fitFirst vm_fitBeats vm_listenLeaves qm_there vm_metAt vm_metIn qm_wins vm_nightHoles vm_nightFirst vm_nightMud vm_nightSlips vm_drawnNow) sz)) (va_Qi (fun (rz : Int32) (u : Unit) => ((-1) ≤ rz.toInt ∧ rz.toInt ≤ 11)) (fun (u : Unit) t => ct_Q D (va_A (w_c_X12_stuckOf cI cJ cB cZ cO qm vm_thrown qm_width qm_many qm_cells qm_moved qm_tape vm_taped vm_at vm_token vm_place vm_value vm_word vm_bad vm_badPlace vm_fault vm_faultPlace qm_lines qm_has fm_has qm_round fm_round qm_meets fm_meets qm_stumble qm_isMud qm_cell qm_tune qm_change qm_isKept qm_steps qm_places qm_danced vm_runMost vm_runBegins qm_heardBy vm_fitMany vm_fitFirst vm_fitBeats vm_listenLeaves qm_there vm_metAt vm_metIn qm_wins vm_nightHoles vm_nightFirst vm_nightMud vm_nightSlips vm_drawnNow) sz) [mo qm vm_thrown qm_width qm_many qm_cells qm_moved qm_tape vm_taped vm_at vm_token vm_place vm_value vm_word vm_bad vm_badPlace vm_fault vm_faultPlace qm_lines qm_has qm_round qm_meets qm_stumble qm_isMud qm_cell qm_tune qm_change qm_isKept qm_steps qm_places qm_danced vm_runMost vm_runBegins qm_heardBy vm_fitMany vm_fitFirst vm_fitBeats vm_listenLeaves qm_there vm_metAt vm_metIn qm_wins vm_nightHoles vm_nightFirst vm_nightMud vm_nightSlips vm_drawnNow, (qm_has, .inl (cI, 55, .inl (fm_has))), (qm_round, .inl (cI, 120, .inl (fm_round))), (qm_meets, .inl (cI, 30, .inl (fm_meets)))] t) (va_A (w_c_X12_stuckOf cI cJ cB cZ cO qm vm_thrown qm_width qm_many qm_cells qm_moved qm_tape vm_taped vm_at vm_token vm_place vm_value vm_word vm_bad vm_badPlace vm_fault vm_faultPlace qm_lines qm_has fm_has qm_round fm_round qm_meets fm_meets qm_stumble qm_isMud qm_cell qm_tune qm_change qm_isKept qm_steps qm_places qm_danced vm_runMost vm_runBegins qm_heardBy vm_fitMany vm_fitFirst vm_fitBeats vm_listenLeaves qm_there vm_metAt vm_metIn qm_wins vm_nightHoles vm_nightFirst vm_nightMud vm_nightSlips vm_drawnNow) sz)) 0 0 (va_A (w_c_X12_stuckOf cI cJ cB cZ cO qm vm_thrown qm_width qm_many qm_cells qm_moved qm_tape vm_taped vm_at vm_token vm_place vm_value vm_word vm_bad vm_badPlace vm_fault vm_faultPlace qm_lines qm_has fm_has qm_round fm_round qm_meets fm_meets qm_stumble qm_isMud qm_cell qm_tune qm_change qm_isKept qm_steps qm_places qm_danced vm_runMost vm_runBegins qm_heardBy vm_fitMany vm_fitFirst vm_fitBeats vm_listenLeaves qm_there vm_metAt vm_metIn qm_wins vm_nightHoles vm_nightFirst vm_nightMud vm_nightSlips vm_drawnNow) sz) := by
  refine Met.ofW (cc := cX12_stuckOf) (maxL := 3) (ret := (some .int)) (by decide) rfl ?_
  intro p e s m args below meth c s₁ B hml hv
  obtain ⟨rfl, hsz, hP, hE, hD0, hH⟩ := hv
  have hx := B.exec
  have hb := B.bytes
  have hr := B.returns
  have hts := atoms_spec (ws := wsX12_stuckOf) B.pre
  have hown : s.vm.findClass RX12 = some m.cls := findClass_of_methodNamed B.named
  have hlocks := B.notSynchronized
  have hK := hE.1
  subst hsz
  have hD := hD0.self (sz := s.heap.size)
  generalize hAe : va_A (w_c_X12_stuckOf cI cJ cB cZ cO qm vm_thrown qm_width qm_many qm_cells qm_moved qm_tape vm_taped vm_at vm_token vm_place vm_value vm_word vm_bad vm_badPlace vm_fault vm_faultPlace qm_lines qm_has fm_has qm_round fm_round qm_meets fm_meets qm_stumble qm_isMud qm_cell qm_tune qm_change qm_isKept qm_steps qm_places qm_danced vm_runMost vm_runBegins qm_heardBy vm_fitMany vm_fitFirst vm_fitBeats vm_listenLeaves qm_there vm_metAt vm_metIn qm_wins vm_nightHoles vm_nightFirst vm_nightMud vm_nightSlips vm_drawnNow) s.heap.size = A at hD hH ⊢
  have hA : ∀ q : Nat, s.heap.size ≤ q → A q := fun q h => by rw [← hAe]; exact Or.inr h
  have hS : va_S A s.heap s.heap [] := va_S.rf
  obtain ⟨hP, hD⟩ : ct_B D A s.heap [mo qm vm_thrown qm_width qm_many qm_cells qm_moved qm_tape vm_taped vm_at vm_token vm_place vm_value vm_word vm_bad vm_badPlace vm_fault vm_faultPlace qm_lines qm_has qm_round qm_meets qm_stumble qm_isMud qm_cell qm_tune qm_change qm_isKept qm_steps qm_places qm_danced vm_runMost vm_runBegins qm_heardBy vm_fitMany vm_fitFirst vm_fitBeats vm_listenLeaves qm_there vm_metAt vm_metIn qm_wins vm_nightHoles vm_nightFirst vm_nightMud vm_nightSlips vm_drawnNow, (qm_has, .inl (cI, 55, .inl (fm_has))), (qm_round, .inl (cI, 120, .inl (fm_round))), (qm_meets, .inl (cI, 30, .inl (fm_meets)))] := ⟨hP, hD⟩
  have hl := lv_entry ([.ref qm, .int a1]) (n := 3) (Nat.le_of_ble_eq_true rfl)
  rw [lg_entry_eq]
  generalize (lg_sl ([.ref qm, .int a1]) ++ List.replicate (3 - (lg_sl ([.ref qm, .int a1])).length) Slot.unset).toArray = ls at hl ⊢
  have hl : lv_has ls 3 [(0, .ref qm), (1, .int a1)] := hl
  obtain ⟨H, hHe⟩ : ∃ H : Heap, H = s.heap := ⟨_, rfl⟩
  rw [← hHe] at hP
  have hS : va_S A s.heap H [] := by rw [hHe]; exact va_S.rf
  refine ct_start hHe ?_
  refine lv_iconst (v := 0) hx hb dX12_stuckOf_0 (by decide) ?_
  refine lv_istore_n (lv' := [(2, .int 0), (0, .ref qm), (1, .int a1)]) hx hb dX12_stuckOf_1 rfl hl (by decide) rfl (fun ls hl => ?_)
  refine ct_loop (X := Int32) (fun x => (12 - x.toInt).toNat) (fun x H locs ls => ((0 ≤ x.toInt ∧ x.toInt ≤ 12)) ∧ ct_B D A H [mo qm vm_thrown qm_width qm_many qm_cells qm_moved qm_tape vm_taped vm_at vm_token vm_place vm_value vm_word vm_bad vm_badPlace vm_fault vm_faultPlace qm_lines qm_has qm_round qm_meets qm_stumble qm_isMud qm_cell qm_tune qm_change qm_isKept qm_steps qm_places qm_danced vm_runMost vm_runBegins qm_heardBy vm_fitMany vm_fitFirst vm_fitBeats vm_listenLeaves qm_there vm_metAt vm_metIn qm_wins vm_nightHoles vm_nightFirst vm_nightMud vm_nightSlips vm_drawnNow, (qm_has, .inl (cI, 55, .inl (fm_has))), (qm_round, .inl (cI, 120, .inl (fm_round))), (qm_meets, .inl (cI, 30, .inl (fm_meets)))] ∧ va_S A s.heap H locs ∧ lv_has ls 3 [(2, .int x), (0, .ref qm), (1, .int a1)]) 2 (0 : Int32) ⟨(show 0 ≤ (0 : Int32).toInt ∧ (0 : Int32).toInt ≤ 12 by decide), ⟨hP, hD⟩, hS, lv_sub hl [0, 1, 2] rfl⟩ (fun x ih42 H locs ls hI => ?_)
  obtain ⟨x41, rfl⟩ : ∃ z, z = x := ⟨_, rfl⟩
  obtain ⟨h_x41, ⟨hP, hD⟩, hS, hl⟩ := hI
  change (0 ≤ x41.toInt ∧ x41.toInt ≤ 12) at h_x41
  obtain ⟨hP, hD⟩ : ct_B D A H [mo qm vm_thrown qm_width qm_many qm_cells qm_moved qm_tape vm_taped vm_at vm_token vm_place vm_value vm_word vm_bad vm_badPlace vm_fault vm_faultPlace qm_lines qm_has qm_round qm_meets qm_stumble qm_isMud qm_cell qm_tune qm_change qm_isKept qm_steps qm_places qm_danced vm_runMost vm_runBegins qm_heardBy vm_fitMany vm_fitFirst vm_fitBeats vm_listenLeaves qm_there vm_metAt vm_metIn qm_wins vm_nightHoles vm_nightFirst vm_nightMud vm_nightSlips vm_drawnNow, (qm_has, .inl (cI, 55, .inl (fm_has))), (qm_round, .inl (cI, 120, .inl (fm_round))), (qm_meets, .inl (cI, 30, .inl (fm_meets)))] := ⟨hP, hD⟩
  have hl : lv_has ls 3 [(2, .int x41), (0, .ref qm), (1, .int a1)] := hl
  refine lv_iload_n hx hb dX12_stuckOf_2 rfl (lv_at hl 0 rfl) ?_
  refine lv_aload_n hx hb dX12_stuckOf_3 rfl (lv_at hl 1 rfl) ?_
  refine lv_iload_n hx hb dX12_stuckOf_4 rfl (lv_at hl 2 rfl) ?_
  refine ct_calli (D := D) (wr := [(qm_round, .inl (cI, 120, .inl (fm_round))), (qm_meets, .inl (cI, 30, .inl (fm_meets)))]) (va_runV (As := [.int a1]) (rest := [.int x41]) ⟨hx, hb, hml, hown, hts⟩ (c_X12_lengthOfP l D G cI cJ cB cZ cO qm vm_thrown qm_width qm_many qm_cells qm_moved qm_tape vm_taped vm_at vm_token vm_place vm_value vm_word vm_bad vm_badPlace vm_fault vm_faultPlace qm_lines qm_has fm_has qm_round qm_meets qm_stumble qm_isMud qm_cell qm_tune qm_change qm_isKept qm_steps qm_places qm_danced vm_runMost vm_runBegins qm_heardBy vm_fitMany vm_fitFirst vm_fitBeats vm_listenLeaves qm_there vm_metAt vm_metIn qm_wins vm_nightHoles vm_nightFirst vm_nightMud vm_nightSlips vm_drawnNow a1 h_vm_taped h_vm_at h_vm_value h_fm_has h_a1 h_rp H.size) (cwV 1 hts gX12_stuckOf_X12_lengthOf rfl rfl rfl (by decide +kernel) ⟨Nat.le_of_ble_eq_true rfl, Nat.le_of_ble_eq_true rfl⟩) (ct_preV (T := ct_T cI cJ cB cZ cO) (ci := 12) (q0 := 0) hE hH hP hD hS hA [0, 1] (by decide) rfl rfl rfl) rfl rfl hl.1 rfl (lv_room (Nat.le_of_ble_eq_true rfl)) dX12_stuckOf_5 ⟨Nat.le_of_ble_eq_true rfl, Nat.le_of_ble_eq_true rfl⟩) hP hD hS hA [0, 1] [2, 3] rfl rfl (by decide) (by decide) (fun r43 u H locs hw hP hD hS => ?_)
  obtain ⟨hP, hD⟩ : ct_B D A H [(qm_round, .inl (cI, 120, .inl (fm_round))), (qm_meets, .inl (cI, 30, .inl (fm_meets))), mo qm vm_thrown qm_width qm_many qm_cells qm_moved qm_tape vm_taped vm_at vm_token vm_place vm_value vm_word vm_bad vm_badPlace vm_fault vm_faultPlace qm_lines qm_has qm_round qm_meets qm_stumble qm_isMud qm_cell qm_tune qm_change qm_isKept qm_steps qm_places qm_danced vm_runMost vm_runBegins qm_heardBy vm_fitMany vm_fitFirst vm_fitBeats vm_listenLeaves qm_there vm_metAt vm_metIn qm_wins vm_nightHoles vm_nightFirst vm_nightMud vm_nightSlips vm_drawnNow, (qm_has, .inl (cI, 55, .inl (fm_has)))] := ⟨hP, hD⟩
  have hz := hw
  clear hw
  have h_r43 : 1 ≤ r43.toInt ∧ r43.toInt ≤ 12 := hz
  clear hz
  refine lv_icmp_ge (tgt := 29) hx hb dX12_stuckOf_8 (by decide) (fun hc => ?_) (fun hc => ?_)
  · have hq44 : r43.toInt ≤ x41.toInt := tq_le rfl rfl hc
    refine lv_iconst (v := (-1)) hx hb dX12_stuckOf_29 (by decide) ?_
    obtain ⟨hP9, hD9⟩ : ct_B D A H [mo qm vm_thrown qm_width qm_many qm_cells qm_moved qm_tape vm_taped vm_at vm_token vm_place vm_value vm_word vm_bad vm_badPlace vm_fault vm_faultPlace qm_lines qm_has qm_round qm_meets qm_stumble qm_isMud qm_cell qm_tune qm_change qm_isKept qm_steps qm_places qm_danced vm_runMost vm_runBegins qm_heardBy vm_fitMany vm_fitFirst vm_fitBeats vm_listenLeaves qm_there vm_metAt vm_metIn qm_wins vm_nightHoles vm_nightFirst vm_nightMud vm_nightSlips vm_drawnNow, (qm_has, .inl (cI, 55, .inl (fm_has))), (qm_round, .inl (cI, 120, .inl (fm_round))), (qm_meets, .inl (cI, 30, .inl (fm_meets)))] := ⟨hP.sub [2, 3, 0, 1] rfl, hD.sub [2, 3, 0, 1] (by decide) rfl⟩
    exact W.iret (v := (-1)) hx hb hr (fun t ht hW => ⟨⟨(-1), (), rfl, (show (-1) ≤ (-1 : Int32).toInt ∧ (-1 : Int32).toInt ≤ 11 by decide), by rw [ht]; exact hP9, hD9⟩, hS.F ht⟩) hS.2.2 dX12_stuckOf_30
  · have hq44 : x41.toInt < r43.toInt := tq_nle rfl rfl hc
    refine lv_aload_n hx hb dX12_stuckOf_11 rfl (lv_at hl 1 rfl) ?_
    refine lv_iload_n hx hb dX12_stuckOf_12 rfl (lv_at hl 2 rfl) ?_
    refine lv_iload_n hx hb dX12_stuckOf_13 rfl (lv_at hl 0 rfl) ?_
    refine ct_calli (D := D) (wr := []) (va_runV (As := [.int a1, .int x41]) (rest := []) ⟨hx, hb, hml, hown, hts⟩ (c_X12_mendedOf l D G cI cJ cB cZ cO qm vm_thrown qm_width qm_many qm_cells qm_moved qm_tape vm_taped vm_at vm_token vm_place vm_value vm_word vm_bad vm_badPlace vm_fault vm_faultPlace qm_lines qm_has fm_has qm_round fm_round qm_meets fm_meets qm_stumble qm_isMud qm_cell qm_tune qm_change qm_isKept qm_steps qm_places qm_danced vm_runMost vm_runBegins qm_heardBy vm_fitMany vm_fitFirst vm_fitBeats vm_listenLeaves qm_there vm_metAt vm_metIn qm_wins vm_nightHoles vm_nightFirst vm_nightMud vm_nightSlips vm_drawnNow a1 x41 h_vm_taped h_vm_at h_vm_value h_fm_has h_fm_round h_a1 (by omega) h_rp H.size) (cwV 2 hts gX12_stuckOf_X12_mendedOf rfl rfl rfl (by decide +kernel) ⟨Nat.le_of_ble_eq_true rfl, Nat.le_of_ble_eq_true rfl⟩) (ct_preV (T := ct_T cI cJ cB cZ cO) (ci := 12) (q0 := 2) hE hH hP hD hS hA [2, 3, 0, 1] (by decide) rfl rfl rfl) rfl rfl hl.1 rfl (lv_room (Nat.le_of_ble_eq_true rfl)) dX12_stuckOf_14 ⟨Nat.le_of_ble_eq_true rfl, Nat.le_of_ble_eq_true rfl⟩) hP hD hS hA [2, 3, 0, 1] [] rfl rfl (by decide) (by decide) (fun r45 u H locs hw hP hD hS => ?_)
    obtain ⟨hP, hD⟩ : ct_B D A H [mo qm vm_thrown qm_width qm_many qm_cells qm_moved qm_tape vm_taped vm_at vm_token vm_place vm_value vm_word vm_bad vm_badPlace vm_fault vm_faultPlace qm_lines qm_has qm_round qm_meets qm_stumble qm_isMud qm_cell qm_tune qm_change qm_isKept qm_steps qm_places qm_danced vm_runMost vm_runBegins qm_heardBy vm_fitMany vm_fitFirst vm_fitBeats vm_listenLeaves qm_there vm_metAt vm_metIn qm_wins vm_nightHoles vm_nightFirst vm_nightMud vm_nightSlips vm_drawnNow, (qm_has, .inl (cI, 55, .inl (fm_has))), (qm_round, .inl (cI, 120, .inl (fm_round))), (qm_meets, .inl (cI, 30, .inl (fm_meets)))] := ⟨hP, hD⟩
    have hz := hw
    clear hw
    have h_r45 : (-1) ≤ r45.toInt ∧ r45.toInt ≤ 32 := hz
    clear hz
    refine lv_iconst (v := (-1)) hx hb dX12_stuckOf_17 (by decide) ?_
    refine lv_icmp_ne (tgt := 23) hx hb dX12_stuckOf_18 (by decide) (fun hc => ?_) (fun hc => ?_)
    · have hq46 : r45.toInt ≠ (-1) := tq_ne rfl (by decide) hc
      obtain ⟨z47, ez47⟩ : ∃ z : Int32, z = x41 + 1 := ⟨_, rfl⟩
      have fz47 : z47.toInt = x41.toInt + 1 := by rw [ez47]; exact tq_add rfl (by decide) (by omega)
      refine lv_iinc (v := z47) (lv' := [(2, .int z47), (0, .ref qm), (1, .int a1)]) hx hb dX12_stuckOf_23 hl (k := 0) rfl ez47.symm (by decide) rfl (fun ls hl => ?_)
      refine lv_goto (tgt := 2) hx hb dX12_stuckOf_26 (by decide) ?_
      exact ih42 z47 _ _ _ (show (12 - z47.toInt).toNat < (12 - x41.toInt).toNat by omega) ⟨(show 0 ≤ z47.toInt ∧ z47.toInt ≤ 12 by omega), ⟨hP, hD⟩, hS, lv_sub hl [0, 1, 2] rfl⟩
    · have hq46 : r45.toInt = (-1) := tq_eq rfl (by decide) hc
      refine lv_iload_n hx hb dX12_stuckOf_21 rfl (lv_at hl 0 rfl) ?_
      obtain ⟨hP9, hD9⟩ : ct_B D A H [mo qm vm_thrown qm_width qm_many qm_cells qm_moved qm_tape vm_taped vm_at vm_token vm_place vm_value vm_word vm_bad vm_badPlace vm_fault vm_faultPlace qm_lines qm_has qm_round qm_meets qm_stumble qm_isMud qm_cell qm_tune qm_change qm_isKept qm_steps qm_places qm_danced vm_runMost vm_runBegins qm_heardBy vm_fitMany vm_fitFirst vm_fitBeats vm_listenLeaves qm_there vm_metAt vm_metIn qm_wins vm_nightHoles vm_nightFirst vm_nightMud vm_nightSlips vm_drawnNow, (qm_has, .inl (cI, 55, .inl (fm_has))), (qm_round, .inl (cI, 120, .inl (fm_round))), (qm_meets, .inl (cI, 30, .inl (fm_meets)))] := ⟨hP.sub [0, 1, 2, 3] rfl, hD.sub [0, 1, 2, 3] (by decide) rfl⟩
      exact W.iret (v := x41) hx hb hr (fun t ht hW => ⟨⟨x41, (), rfl, (show (-1) ≤ x41.toInt ∧ x41.toInt ≤ 11 by omega), by rw [ht]; exact hP9, hD9⟩, hS.F ht⟩) hS.2.2 dX12_stuckOf_22
abbrev w_c_X12_mend (cI cJ cB cZ cO : ClassId) (qm : Nat) (vm_thrown : Int32) (qm_width : Nat) (qm_many : Nat) (qm_cells : Nat) (qm_moved : Nat) (qm_tape : Nat) (vm_taped : Int32) (vm_at : Int32) (vm_token : Int32) (vm_place : Int32) (vm_value : Int32) (vm_word : Int64) (vm_bad : Int32) (vm_badPlace : Int32) (vm_fault : Int32) (vm_faultPlace : Int32) (qm_lines : Nat) (fm_lines : Nat → Int32) (qm_has : Nat) (fm_has : Nat → Int32) (qm_round : Nat) (fm_round : Nat → Int32) (qm_meets : Nat) (fm_meets : Nat → Int32) (qm_stumble : Nat) (qm_isMud : Nat) (qm_cell : Nat) (qm_tune : Nat) (qm_change : Nat) (qm_isKept : Nat) (qm_steps : Nat) (qm_places : Nat) (qm_danced : Nat) (vm_runMost : Int32) (vm_runBegins : Int32) (qm_heardBy : Nat) (vm_fitMany : Int32) (vm_fitFirst : Int32) (vm_fitBeats : Int64) (vm_listenLeaves : Int32) (qm_there : Nat) (vm_metAt : Int32) (vm_metIn : Int32) (qm_wins : Nat) (vm_nightHoles : Int32) (vm_nightFirst : Int32) (vm_nightMud : Int32) (vm_nightSlips : Int32) (vm_drawnNow : Int64) : va_W := [mo qm vm_thrown qm_width qm_many qm_cells qm_moved qm_tape vm_taped vm_at vm_token vm_place vm_value vm_word vm_bad vm_badPlace vm_fault vm_faultPlace qm_lines qm_has qm_round qm_meets qm_stumble qm_isMud qm_cell qm_tune qm_change qm_isKept qm_steps qm_places qm_danced vm_runMost vm_runBegins qm_heardBy vm_fitMany vm_fitFirst vm_fitBeats vm_listenLeaves qm_there vm_metAt vm_metIn qm_wins vm_nightHoles vm_nightFirst vm_nightMud vm_nightSlips vm_drawnNow, (qm_lines, .inl (cI, 5, .inl (fm_lines))), (qm_has, .inl (cI, 55, .inl (fm_has))), (qm_round, .inl (cI, 120, .inl (fm_round))), (qm_meets, .inl (cI, 30, .inl (fm_meets)))]
set_option maxHeartbeats 4000000 in
set_option maxRecDepth 100000 in
/-- X12 mend -/
theorem c_X12_mend (l : Launch) (D : va_G) (G : ct_G) (cI cJ cB cZ cO : ClassId) (qm : Nat) (vm_thrown : Int32) (qm_width : Nat) (qm_many : Nat) (qm_cells : Nat) (qm_moved : Nat) (qm_tape : Nat) (vm_taped : Int32) (vm_at : Int32) (vm_token : Int32) (vm_place : Int32) (vm_value : Int32) (vm_word : Int64) (vm_bad : Int32) (vm_badPlace : Int32) (vm_fault : Int32) (vm_faultPlace : Int32) (qm_lines : Nat) (fm_lines : Nat → Int32) (qm_has : Nat) (fm_has : Nat → Int32) (qm_round : Nat) (fm_round : Nat → Int32) (qm_meets : Nat) (fm_meets : Nat → Int32) (qm_stumble : Nat) (qm_isMud : Nat) (qm_cell : Nat) (qm_tune : Nat) (qm_change : Nat) (qm_isKept : Nat) (qm_steps : Nat) (qm_places : Nat) (qm_danced : Nat) (vm_runMost : Int32) (vm_runBegins : Int32) (qm_heardBy : Nat) (vm_fitMany : Int32) (vm_fitFirst : Int32) (vm_fitBeats : Int64) (vm_listenLeaves : Int32) (qm_there : Nat) (vm_metAt : Int32) (vm_metIn : Int32) (qm_wins : Nat) (vm_nightHoles : Int32) (vm_nightFirst : Int32) (vm_nightMud : Int32) (vm_nightSlips : Int32) (vm_drawnNow : Int64) (a1 : Int32) (h_vm_taped : 0 ≤ vm_taped.toInt ∧ vm_taped.toInt ≤ 1200) (h_vm_at : 0 ≤ vm_at.toInt ∧ vm_at.toInt ≤ 1200) (h_vm_value : 0 ≤ vm_value.toInt ∧ vm_value.toInt ≤ 1000009) (h_fm_has : ar_ok [0, (-2147483648), (-2147483648), 0, 0, 0, 0, 0, 0, 0, 0] [20, 2147483647, 2147483647, 12, 12, 11, 11, 8, 12, 5, 40] fm_has) (h_fm_round : ar_ok [0] [5] fm_round) (sz : Nat) : Met l yX12_mend wsX12_mend ({ frames := 17, cells := 0, slots := 0, locals := 368 }) (va_Pc [.ref qm, .int a1] (ct_P D (ct_T cI cJ cB cZ cO) G (w_c_X12_mend cI cJ cB cZ cO qm vm_thrown qm_width qm_many qm_cells qm_moved qm_tape vm_taped vm_at vm_token vm_place vm_value vm_word vm_bad vm_badPlace vm_fault vm_faultPlace qm_lines fm_lines qm_has fm_has qm_round fm_round qm_meets fm_meets qm_stumble qm_isMud qm_cell qm_tune qm_change qm_isKept qm_steps qm_places qm_danced vm_runMost vm_runBegins qm_heardBy vm_fitMany vm_fitFirst vm_fitBeats vm_listenLeaves qm_there vm_metAt vm_metIn qm_wins vm_nightHoles vm_nightFirst vm_nightMud vm_nightSlips vm_drawnNow) sz)) (va_Qi (fun (rz : Int32) (u : Int32) => True) (fun (u : Int32) t => ct_Q D (va_A (w_c_X12_mend cI cJ cB cZ cO qm vm_thrown qm_width qm_many qm_cells qm_moved qm_tape vm_taped vm_at vm_token vm_place vm_value vm_word vm_bad vm_badPlace vm_fault vm_faultPlace qm_lines fm_lines qm_has fm_has qm_round fm_round qm_meets fm_meets qm_stumble qm_isMud qm_cell qm_tune qm_change qm_isKept qm_steps qm_places qm_danced vm_runMost vm_runBegins qm_heardBy vm_fitMany vm_fitFirst vm_fitBeats vm_listenLeaves qm_there vm_metAt vm_metIn qm_wins vm_nightHoles vm_nightFirst vm_nightMud vm_nightSlips vm_drawnNow) sz) [mo qm u qm_width qm_many qm_cells qm_moved qm_tape vm_taped vm_at vm_token vm_place vm_value vm_word vm_bad vm_badPlace vm_fault vm_faultPlace qm_lines qm_has qm_round qm_meets qm_stumble qm_isMud qm_cell qm_tune qm_change qm_isKept qm_steps qm_places qm_danced vm_runMost vm_runBegins qm_heardBy vm_fitMany vm_fitFirst vm_fitBeats vm_listenLeaves qm_there vm_metAt vm_metIn qm_wins vm_nightHoles vm_nightFirst vm_nightMud vm_nightSlips vm_drawnNow, (qm_lines, .inl (cI, 5, .inl (fm_lines))), (qm_has, .inl (cI, 55, .inl (fm_has))), (qm_round, .inl (cI, 120, .inl (fm_round))), (qm_meets, .inl (cI, 30, .inl (fm_meets)))] t) (va_A (w_c_X12_mend cI cJ cB cZ cO qm vm_thrown qm_width qm_many qm_cells qm_moved qm_tape vm_taped vm_at vm_token vm_place vm_value vm_word vm_bad vm_badPlace vm_fault vm_faultPlace qm_lines fm_lines qm_has fm_has qm_round fm_round qm_meets fm_meets qm_stumble qm_isMud qm_cell qm_tune qm_change qm_isKept qm_steps qm_places qm_danced vm_runMost vm_runBegins qm_heardBy vm_fitMany vm_fitFirst vm_fitBeats vm_listenLeaves qm_there vm_metAt vm_metIn qm_wins vm_nightHoles vm_nightFirst vm_nightMud vm_nightSlips vm_drawnNow) sz)) 0 0 (va_A (w_c_X12_mend cI cJ cB cZ cO qm vm_thrown qm_width qm_many qm_cells qm_moved qm_tape vm_taped vm_at vm_token vm_place vm_value vm_word vm_bad vm_badPlace vm_fault vm_faultPlace qm_lines fm_lines qm_has fm_has qm_round fm_round qm_meets fm_meets qm_stumble qm_isMud qm_cell qm_tune qm_change qm_isKept qm_steps qm_places qm_danced vm_runMost vm_runBegins qm_heardBy vm_fitMany vm_fitFirst vm_fitBeats vm_listenLeaves qm_there vm_metAt vm_metIn qm_wins vm_nightHoles vm_nightFirst vm_nightMud vm_nightSlips vm_drawnNow) sz) := by
  refine Met.ofW (cc := cX12_mend) (maxL := 4) (ret := (some .int)) (by decide) rfl ?_
  intro p e s m args below meth c s₁ B hml hv
  obtain ⟨rfl, hsz, hP, hE, hD0, hH⟩ := hv
  have hx := B.exec
  have hb := B.bytes
  have hr := B.returns
  have hts := atoms_spec (ws := wsX12_mend) B.pre
  have hown : s.vm.findClass RX12 = some m.cls := findClass_of_methodNamed B.named
  have hlocks := B.notSynchronized
  have hK := hE.1
  have hi12 : ∀ w ∈ u_ws RX12 TX12 45, w ∈ wsX12_mend := fun w h => List.mem_cons_of_mem _ (List.mem_append_right _ h)
  subst hsz
  have hD := hD0.self (sz := s.heap.size)
  generalize hAe : va_A (w_c_X12_mend cI cJ cB cZ cO qm vm_thrown qm_width qm_many qm_cells qm_moved qm_tape vm_taped vm_at vm_token vm_place vm_value vm_word vm_bad vm_badPlace vm_fault vm_faultPlace qm_lines fm_lines qm_has fm_has qm_round fm_round qm_meets fm_meets qm_stumble qm_isMud qm_cell qm_tune qm_change qm_isKept qm_steps qm_places qm_danced vm_runMost vm_runBegins qm_heardBy vm_fitMany vm_fitFirst vm_fitBeats vm_listenLeaves qm_there vm_metAt vm_metIn qm_wins vm_nightHoles vm_nightFirst vm_nightMud vm_nightSlips vm_drawnNow) s.heap.size = A at hD hH ⊢
  have hA : ∀ q : Nat, s.heap.size ≤ q → A q := fun q h => by rw [← hAe]; exact Or.inr h
  have hS : va_S A s.heap s.heap [] := va_S.rf
  obtain ⟨hP, hD⟩ : ct_B D A s.heap [mo qm vm_thrown qm_width qm_many qm_cells qm_moved qm_tape vm_taped vm_at vm_token vm_place vm_value vm_word vm_bad vm_badPlace vm_fault vm_faultPlace qm_lines qm_has qm_round qm_meets qm_stumble qm_isMud qm_cell qm_tune qm_change qm_isKept qm_steps qm_places qm_danced vm_runMost vm_runBegins qm_heardBy vm_fitMany vm_fitFirst vm_fitBeats vm_listenLeaves qm_there vm_metAt vm_metIn qm_wins vm_nightHoles vm_nightFirst vm_nightMud vm_nightSlips vm_drawnNow, (qm_lines, .inl (cI, 5, .inl (fm_lines))), (qm_has, .inl (cI, 55, .inl (fm_has))), (qm_round, .inl (cI, 120, .inl (fm_round))), (qm_meets, .inl (cI, 30, .inl (fm_meets)))] := ⟨hP, hD⟩
  have hl := lv_entry ([.ref qm, .int a1]) (n := 4) (Nat.le_of_ble_eq_true rfl)
  rw [lg_entry_eq]
  generalize (lg_sl ([.ref qm, .int a1]) ++ List.replicate (4 - (lg_sl ([.ref qm, .int a1])).length) Slot.unset).toArray = ls at hl ⊢
  have hl : lv_has ls 4 [(0, .ref qm), (1, .int a1)] := hl
  obtain ⟨H, hHe⟩ : ∃ H : Heap, H = s.heap := ⟨_, rfl⟩
  rw [← hHe] at hP
  have hS : va_S A s.heap H [] := by rw [hHe]; exact va_S.rf
  refine ct_start hHe ?_
  refine lv_aload_n hx hb dX12_mend_0 rfl (lv_at hl 0 rfl) ?_
  refine lv_iconst (v := 0) hx hb dX12_mend_1 (by decide) ?_
  refine va_put (D := D) (ci := 12) (v := .int 0) (ty := .int) (C := RX12) (T := TX12) (N := 45) hx hb hts hi12 tyX12 tyX12_ok nmX12 hown hK hP hD hS 0 rfl rfl 0 (by decide) (hts (.fieldLink RX12 80 "OverHillModel" "thrown" "I") (by decide +kernel)) (fun _ h9 => h9) rfl (by decide +kernel) rfl rfl (Nat.le_of_ble_eq_true rfl) dX12_mend_2 (fun H locs hP hD hS => ?_)
  obtain ⟨hP, hD⟩ : ct_B D A H [mo qm 0 qm_width qm_many qm_cells qm_moved qm_tape vm_taped vm_at vm_token vm_place vm_value vm_word vm_bad vm_badPlace vm_fault vm_faultPlace qm_lines qm_has qm_round qm_meets qm_stumble qm_isMud qm_cell qm_tune qm_change qm_isKept qm_steps qm_places qm_danced vm_runMost vm_runBegins qm_heardBy vm_fitMany vm_fitFirst vm_fitBeats vm_listenLeaves qm_there vm_metAt vm_metIn qm_wins vm_nightHoles vm_nightFirst vm_nightMud vm_nightSlips vm_drawnNow, (qm_lines, .inl (cI, 5, .inl (fm_lines))), (qm_has, .inl (cI, 55, .inl (fm_has))), (qm_round, .inl (cI, 120, .inl (fm_round))), (qm_meets, .inl (cI, 30, .inl (fm_meets)))] := ⟨hP, hD⟩
  refine lv_aload_n hx hb dX12_mend_5 rfl (lv_at hl 0 rfl) ?_
  refine lv_iload_n hx hb dX12_mend_6 rfl (lv_at hl 1 rfl) ?_
  refine ct_calli (D := D) (wr := [(qm_has, .inl (cI, 55, .inl (fm_has))), (qm_round, .inl (cI, 120, .inl (fm_round))), (qm_meets, .inl (cI, 30, .inl (fm_meets)))]) (va_runV (As := [.int a1]) (rest := []) ⟨hx, hb, hml, hown, hts⟩ (c_X12_isSide l D G cI cJ cB cZ cO qm 0 qm_width qm_many qm_cells qm_moved qm_tape vm_taped vm_at vm_token vm_place vm_value vm_word vm_bad vm_badPlace vm_fault vm_faultPlace qm_lines fm_lines qm_has qm_round qm_meets qm_stumble qm_isMud qm_cell qm_tune qm_change qm_isKept qm_steps qm_places qm_danced vm_runMost vm_runBegins qm_heardBy vm_fitMany vm_fitFirst vm_fitBeats vm_listenLeaves qm_there vm_metAt vm_metIn qm_wins vm_nightHoles vm_nightFirst vm_nightMud vm_nightSlips vm_drawnNow a1 h_vm_taped h_vm_at h_vm_value H.size) (cwV 1 hts gX12_mend_X12_isSide rfl rfl rfl (by decide +kernel) ⟨Nat.le_of_ble_eq_true rfl, Nat.le_of_ble_eq_true rfl⟩) (ct_preV (T := ct_T cI cJ cB cZ cO) (ci := 12) (q0 := 0) hE hH hP hD hS hA [0, 1] (by decide) rfl rfl rfl) rfl rfl hl.1 rfl (lv_room (Nat.le_of_ble_eq_true rfl)) dX12_mend_7 ⟨Nat.le_of_ble_eq_true rfl, Nat.le_of_ble_eq_true rfl⟩) hP hD hS hA [0, 1] [2, 3, 4] rfl rfl (by decide) (by decide) (fun r1 u H locs hw hP hD hS => ?_)
  obtain ⟨hP, hD⟩ : ct_B D A H [(qm_has, .inl (cI, 55, .inl (fm_has))), (qm_round, .inl (cI, 120, .inl (fm_round))), (qm_meets, .inl (cI, 30, .inl (fm_meets))), mo qm 0 qm_width qm_many qm_cells qm_moved qm_tape vm_taped vm_at vm_token vm_place vm_value vm_word vm_bad vm_badPlace vm_fault vm_faultPlace qm_lines qm_has qm_round qm_meets qm_stumble qm_isMud qm_cell qm_tune qm_change qm_isKept qm_steps qm_places qm_danced vm_runMost vm_runBegins qm_heardBy vm_fitMany vm_fitFirst vm_fitBeats vm_listenLeaves qm_there vm_metAt vm_metIn qm_wins vm_nightHoles vm_nightFirst vm_nightMud vm_nightSlips vm_drawnNow, (qm_lines, .inl (cI, 5, .inl (fm_lines)))] := ⟨hP, hD⟩
  have hz := hw
  clear hw
  rcases hz with ⟨hz, hz2⟩ | ⟨hz, hz2⟩
  · subst hz
    have hz_2 : (0 ≤ a1.toInt ∧ a1.toInt < 2) := hz2
    refine lv_if_eq (tgt := 20) hx hb dX12_mend_10 (by decide) (fun hc => absurd hc (by decide)) (fun _ => ?_)
    refine lv_aload_n hx hb dX12_mend_13 rfl (lv_at hl 0 rfl) ?_
    refine ct_calli (D := D) (wr := [(qm_round, .inl (cI, 120, .inl (fm_round))), (qm_meets, .inl (cI, 30, .inl (fm_meets))), (qm_lines, .inl (cI, 5, .inl (fm_lines)))]) (va_runV (As := []) (rest := []) ⟨hx, hb, hml, hown, hts⟩ (c_X12_areRounds l D G cI cJ cB cZ cO qm 0 qm_width qm_many qm_cells qm_moved qm_tape vm_taped vm_at vm_token vm_place vm_value vm_word vm_bad vm_badPlace vm_fault vm_faultPlace qm_lines qm_has fm_has qm_round qm_meets qm_stumble qm_isMud qm_cell qm_tune qm_change qm_isKept qm_steps qm_places qm_danced vm_runMost vm_runBegins qm_heardBy vm_fitMany vm_fitFirst vm_fitBeats vm_listenLeaves qm_there vm_metAt vm_metIn qm_wins vm_nightHoles vm_nightFirst vm_nightMud vm_nightSlips vm_drawnNow h_vm_taped h_vm_at h_vm_value h_fm_has H.size) (cwV 0 hts gX12_mend_X12_areRounds rfl rfl rfl (by decide +kernel) ⟨Nat.le_of_ble_eq_true rfl, Nat.le_of_ble_eq_true rfl⟩) (ct_preV (T := ct_T cI cJ cB cZ cO) (ci := 12) (q0 := 3) hE hH hP hD hS hA [3, 0] (by decide) rfl rfl rfl) rfl rfl hl.1 rfl (lv_room (Nat.le_of_ble_eq_true rfl)) dX12_mend_14 ⟨Nat.le_of_ble_eq_true rfl, Nat.le_of_ble_eq_true rfl⟩) hP hD hS hA [3, 0] [1, 2, 4] rfl rfl (by decide) (by decide) (fun r3 u H locs hw hP hD hS => ?_)
    obtain ⟨hP, hD⟩ : ct_B D A H [(qm_round, .inl (cI, 120, .inl (fm_round))), (qm_meets, .inl (cI, 30, .inl (fm_meets))), (qm_lines, .inl (cI, 5, .inl (fm_lines))), mo qm 0 qm_width qm_many qm_cells qm_moved qm_tape vm_taped vm_at vm_token vm_place vm_value vm_word vm_bad vm_badPlace vm_fault vm_faultPlace qm_lines qm_has qm_round qm_meets qm_stumble qm_isMud qm_cell qm_tune qm_change qm_isKept qm_steps qm_places qm_danced vm_runMost vm_runBegins qm_heardBy vm_fitMany vm_fitFirst vm_fitBeats vm_listenLeaves qm_there vm_metAt vm_metIn qm_wins vm_nightHoles vm_nightFirst vm_nightMud vm_nightSlips vm_drawnNow, (qm_has, .inl (cI, 55, .inl (fm_has)))] := ⟨hP, hD⟩
    have hz := hw
    clear hw
    rcases hz with ⟨hz, hz2⟩ | ⟨hz, hz2⟩
    · subst hz
      have hz_4 : 1 ≤ (fm_has 3).toInt ∧ 1 ≤ (fm_has 4).toInt := hz2
      refine lv_if_ne (tgt := 23) hx hb dX12_mend_17 (by decide) (fun _ => ?_) (fun hc => absurd hc (by decide))
      refine lv_aload_n hx hb dX12_mend_23 rfl (lv_at hl 0 rfl) ?_
      refine lv_iload_n hx hb dX12_mend_24 rfl (lv_at hl 1 rfl) ?_
      refine ct_calli (D := D) (wr := [(qm_lines, .inl (cI, 5, .inl (fm_lines)))]) (va_runV (As := [.int a1]) (rest := []) ⟨hx, hb, hml, hown, hts⟩ (c_X12_stuckOf l D G cI cJ cB cZ cO qm 0 qm_width qm_many qm_cells qm_moved qm_tape vm_taped vm_at vm_token vm_place vm_value vm_word vm_bad vm_badPlace vm_fault vm_faultPlace qm_lines qm_has fm_has qm_round fm_round qm_meets fm_meets qm_stumble qm_isMud qm_cell qm_tune qm_change qm_isKept qm_steps qm_places qm_danced vm_runMost vm_runBegins qm_heardBy vm_fitMany vm_fitFirst vm_fitBeats vm_listenLeaves qm_there vm_metAt vm_metIn qm_wins vm_nightHoles vm_nightFirst vm_nightMud vm_nightSlips vm_drawnNow a1 h_vm_taped h_vm_at h_vm_value h_fm_has h_fm_round (by omega) hz_4 H.size) (cwV 1 hts gX12_mend_X12_stuckOf rfl rfl rfl (by decide +kernel) ⟨Nat.le_of_ble_eq_true rfl, Nat.le_of_ble_eq_true rfl⟩) (ct_preV (T := ct_T cI cJ cB cZ cO) (ci := 12) (q0 := 3) hE hH hP hD hS hA [3, 4, 0, 1] (by decide) rfl rfl rfl) rfl rfl hl.1 rfl (lv_room (Nat.le_of_ble_eq_true rfl)) dX12_mend_25 ⟨Nat.le_of_ble_eq_true rfl, Nat.le_of_ble_eq_true rfl⟩) hP hD hS hA [3, 4, 0, 1] [2] rfl rfl (by decide) (by decide) (fun r5 u H locs hw hP hD hS => ?_)
      obtain ⟨hP, hD⟩ : ct_B D A H [(qm_lines, .inl (cI, 5, .inl (fm_lines))), mo qm 0 qm_width qm_many qm_cells qm_moved qm_tape vm_taped vm_at vm_token vm_place vm_value vm_word vm_bad vm_badPlace vm_fault vm_faultPlace qm_lines qm_has qm_round qm_meets qm_stumble qm_isMud qm_cell qm_tune qm_change qm_isKept qm_steps qm_places qm_danced vm_runMost vm_runBegins qm_heardBy vm_fitMany vm_fitFirst vm_fitBeats vm_listenLeaves qm_there vm_metAt vm_metIn qm_wins vm_nightHoles vm_nightFirst vm_nightMud vm_nightSlips vm_drawnNow, (qm_has, .inl (cI, 55, .inl (fm_has))), (qm_round, .inl (cI, 120, .inl (fm_round))), (qm_meets, .inl (cI, 30, .inl (fm_meets)))] := ⟨hP, hD⟩
      have hz := hw
      clear hw
      have h_r5 : (-1) ≤ r5.toInt ∧ r5.toInt ≤ 11 := hz
      clear hz
      refine lv_iconst (v := (-1)) hx hb dX12_mend_28 (by decide) ?_
      refine lv_icmp_eq (tgt := 34) hx hb dX12_mend_29 (by decide) (fun hc => ?_) (fun hc => ?_)
      · have hq6 : r5.toInt = (-1) := tq_eq rfl (by decide) hc
        refine lv_iconst (v := 0) hx hb dX12_mend_34 (by decide) ?_
        refine lv_istore_n (lv' := [(2, .int 0), (0, .ref qm), (1, .int a1)]) hx hb dX12_mend_35 rfl hl (by decide) rfl (fun ls hl => ?_)
        refine lv_iconst (v := 0) hx hb dX12_mend_36 (by decide) ?_
        refine lv_istore_n (lv' := [(3, .int 0), (2, .int 0), (0, .ref qm), (1, .int a1)]) hx hb dX12_mend_37 rfl hl (by decide) rfl (fun ls hl => ?_)
        refine ct_loop (X := Int32 × Int32) (fun x => (12 - x.2.toInt).toNat) (fun x H locs ls => ((0 ≤ x.2.toInt ∧ x.2.toInt ≤ 12)) ∧ ct_B D A H [(qm_lines, .inl (cI, 5, .inl (fm_lines))), mo qm 0 qm_width qm_many qm_cells qm_moved qm_tape vm_taped vm_at vm_token vm_place vm_value vm_word vm_bad vm_badPlace vm_fault vm_faultPlace qm_lines qm_has qm_round qm_meets qm_stumble qm_isMud qm_cell qm_tune qm_change qm_isKept qm_steps qm_places qm_danced vm_runMost vm_runBegins qm_heardBy vm_fitMany vm_fitFirst vm_fitBeats vm_listenLeaves qm_there vm_metAt vm_metIn qm_wins vm_nightHoles vm_nightFirst vm_nightMud vm_nightSlips vm_drawnNow, (qm_has, .inl (cI, 55, .inl (fm_has))), (qm_round, .inl (cI, 120, .inl (fm_round))), (qm_meets, .inl (cI, 30, .inl (fm_meets)))] ∧ va_S A s.heap H locs ∧ lv_has ls 4 [(3, .int x.2), (2, .int x.1), (0, .ref qm), (1, .int a1)]) 38 ((0 : Int32), (0 : Int32)) ⟨(show 0 ≤ (0 : Int32).toInt ∧ (0 : Int32).toInt ≤ 12 by decide), ⟨hP, hD⟩, hS, lv_sub hl [0, 1, 2, 3] rfl⟩ (fun x ih187 H locs ls hI => ?_)
        obtain ⟨x185, x186⟩ := x
        obtain ⟨h_x186, ⟨hP, hD⟩, hS, hl⟩ := hI
        change (0 ≤ x186.toInt ∧ x186.toInt ≤ 12) at h_x186
        obtain ⟨hP, hD⟩ : ct_B D A H [(qm_lines, .inl (cI, 5, .inl (fm_lines))), mo qm 0 qm_width qm_many qm_cells qm_moved qm_tape vm_taped vm_at vm_token vm_place vm_value vm_word vm_bad vm_badPlace vm_fault vm_faultPlace qm_lines qm_has qm_round qm_meets qm_stumble qm_isMud qm_cell qm_tune qm_change qm_isKept qm_steps qm_places qm_danced vm_runMost vm_runBegins qm_heardBy vm_fitMany vm_fitFirst vm_fitBeats vm_listenLeaves qm_there vm_metAt vm_metIn qm_wins vm_nightHoles vm_nightFirst vm_nightMud vm_nightSlips vm_drawnNow, (qm_has, .inl (cI, 55, .inl (fm_has))), (qm_round, .inl (cI, 120, .inl (fm_round))), (qm_meets, .inl (cI, 30, .inl (fm_meets)))] := ⟨hP, hD⟩
        have hl : lv_has ls 4 [(3, .int x186), (2, .int x185), (0, .ref qm), (1, .int a1)] := hl
        refine lv_iload_n hx hb dX12_mend_38 rfl (lv_at hl 0 rfl) ?_
        refine lv_aload_n hx hb dX12_mend_39 rfl (lv_at hl 2 rfl) ?_
        refine lv_iload_n hx hb dX12_mend_40 rfl (lv_at hl 3 rfl) ?_
        refine ct_calli (D := D) (wr := [(qm_lines, .inl (cI, 5, .inl (fm_lines))), (qm_round, .inl (cI, 120, .inl (fm_round))), (qm_meets, .inl (cI, 30, .inl (fm_meets)))]) (va_runV (As := [.int a1]) (rest := [.int x186]) ⟨hx, hb, hml, hown, hts⟩ (c_X12_lengthOfP l D G cI cJ cB cZ cO qm 0 qm_width qm_many qm_cells qm_moved qm_tape vm_taped vm_at vm_token vm_place vm_value vm_word vm_bad vm_badPlace vm_fault vm_faultPlace qm_lines qm_has fm_has qm_round qm_meets qm_stumble qm_isMud qm_cell qm_tune qm_change qm_isKept qm_steps qm_places qm_danced vm_runMost vm_runBegins qm_heardBy vm_fitMany vm_fitFirst vm_fitBeats vm_listenLeaves qm_there vm_metAt vm_metIn qm_wins vm_nightHoles vm_nightFirst vm_nightMud vm_nightSlips vm_drawnNow a1 h_vm_taped h_vm_at h_vm_value h_fm_has (by omega) hz_4 H.size) (cwV 1 hts gX12_mend_X12_lengthOf rfl rfl rfl (by decide +kernel) ⟨Nat.le_of_ble_eq_true rfl, Nat.le_of_ble_eq_true rfl⟩) (ct_preV (T := ct_T cI cJ cB cZ cO) (ci := 12) (q0 := 1) hE hH hP hD hS hA [1, 2] (by decide) rfl rfl rfl) rfl rfl hl.1 rfl (lv_room (Nat.le_of_ble_eq_true rfl)) dX12_mend_41 ⟨Nat.le_of_ble_eq_true rfl, Nat.le_of_ble_eq_true rfl⟩) hP hD hS hA [1, 2] [0, 3, 4] rfl rfl (by decide) (by decide) (fun r188 u H locs hw hP hD hS => ?_)
        obtain ⟨hP, hD⟩ : ct_B D A H [(qm_lines, .inl (cI, 5, .inl (fm_lines))), (qm_round, .inl (cI, 120, .inl (fm_round))), (qm_meets, .inl (cI, 30, .inl (fm_meets))), mo qm 0 qm_width qm_many qm_cells qm_moved qm_tape vm_taped vm_at vm_token vm_place vm_value vm_word vm_bad vm_badPlace vm_fault vm_faultPlace qm_lines qm_has qm_round qm_meets qm_stumble qm_isMud qm_cell qm_tune qm_change qm_isKept qm_steps qm_places qm_danced vm_runMost vm_runBegins qm_heardBy vm_fitMany vm_fitFirst vm_fitBeats vm_listenLeaves qm_there vm_metAt vm_metIn qm_wins vm_nightHoles vm_nightFirst vm_nightMud vm_nightSlips vm_drawnNow, (qm_has, .inl (cI, 55, .inl (fm_has)))] := ⟨hP, hD⟩
        have hz := hw
        clear hw
        have h_r188 : 1 ≤ r188.toInt ∧ r188.toInt ≤ 12 := hz
        clear hz
        refine lv_icmp_ge (tgt := 81) hx hb dX12_mend_44 (by decide) (fun hc => ?_) (fun hc => ?_)
        · have hq189 : r188.toInt ≤ x186.toInt := tq_le rfl rfl hc
          refine lv_iload_n hx hb dX12_mend_81 rfl (lv_at hl 1 rfl) ?_
          obtain ⟨hP9, hD9⟩ : ct_B D A H [mo qm 0 qm_width qm_many qm_cells qm_moved qm_tape vm_taped vm_at vm_token vm_place vm_value vm_word vm_bad vm_badPlace vm_fault vm_faultPlace qm_lines qm_has qm_round qm_meets qm_stumble qm_isMud qm_cell qm_tune qm_change qm_isKept qm_steps qm_places qm_danced vm_runMost vm_runBegins qm_heardBy vm_fitMany vm_fitFirst vm_fitBeats vm_listenLeaves qm_there vm_metAt vm_metIn qm_wins vm_nightHoles vm_nightFirst vm_nightMud vm_nightSlips vm_drawnNow, (qm_lines, .inl (cI, 5, .inl (fm_lines))), (qm_has, .inl (cI, 55, .inl (fm_has))), (qm_round, .inl (cI, 120, .inl (fm_round))), (qm_meets, .inl (cI, 30, .inl (fm_meets)))] := ⟨hP.sub [3, 0, 4, 1, 2] rfl, hD.sub [3, 0, 4, 1, 2] (by decide) rfl⟩
          exact W.iret (v := x185) hx hb hr (fun t ht hW => ⟨⟨x185, (0 : Int32), rfl, trivial, by rw [ht]; exact hP9, hD9⟩, hS.F ht⟩) hS.2.2 dX12_mend_82
        · have hq189 : x186.toInt < r188.toInt := tq_nle rfl rfl hc
          refine lv_iload_n hx hb dX12_mend_47 rfl (lv_at hl 1 rfl) ?_
          refine lv_aload_n hx hb dX12_mend_48 rfl (lv_at hl 2 rfl) ?_
          refine lv_iload_n hx hb dX12_mend_49 rfl (lv_at hl 3 rfl) ?_
          refine lv_iload_n hx hb dX12_mend_50 rfl (lv_at hl 0 rfl) ?_
          refine ct_calli (D := D) (wr := [(qm_lines, .inl (cI, 5, .inl (fm_lines)))]) (va_runV (As := [.int a1, .int x186]) (rest := [.int x185]) ⟨hx, hb, hml, hown, hts⟩ (c_X12_mendedOf l D G cI cJ cB cZ cO qm 0 qm_width qm_many qm_cells qm_moved qm_tape vm_taped vm_at vm_token vm_place vm_value vm_word vm_bad vm_badPlace vm_fault vm_faultPlace qm_lines qm_has fm_has qm_round fm_round qm_meets fm_meets qm_stumble qm_isMud qm_cell qm_tune qm_change qm_isKept qm_steps qm_places qm_danced vm_runMost vm_runBegins qm_heardBy vm_fitMany vm_fitFirst vm_fitBeats vm_listenLeaves qm_there vm_metAt vm_metIn qm_wins vm_nightHoles vm_nightFirst vm_nightMud vm_nightSlips vm_drawnNow a1 x186 h_vm_taped h_vm_at h_vm_value h_fm_has h_fm_round (by omega) (by omega) hz_4 H.size) (cwV 2 hts gX12_mend_X12_mendedOf rfl rfl rfl (by decide +kernel) ⟨Nat.le_of_ble_eq_true rfl, Nat.le_of_ble_eq_true rfl⟩) (ct_preV (T := ct_T cI cJ cB cZ cO) (ci := 12) (q0 := 3) hE hH hP hD hS hA [3, 4, 1, 2] (by decide) rfl rfl rfl) rfl rfl hl.1 rfl (lv_room (Nat.le_of_ble_eq_true rfl)) dX12_mend_51 ⟨Nat.le_of_ble_eq_true rfl, Nat.le_of_ble_eq_true rfl⟩) hP hD hS hA [3, 4, 1, 2] [0] rfl rfl (by decide) (by decide) (fun r190 u H locs hw hP hD hS => ?_)
          obtain ⟨hP, hD⟩ : ct_B D A H [(qm_lines, .inl (cI, 5, .inl (fm_lines))), mo qm 0 qm_width qm_many qm_cells qm_moved qm_tape vm_taped vm_at vm_token vm_place vm_value vm_word vm_bad vm_badPlace vm_fault vm_faultPlace qm_lines qm_has qm_round qm_meets qm_stumble qm_isMud qm_cell qm_tune qm_change qm_isKept qm_steps qm_places qm_danced vm_runMost vm_runBegins qm_heardBy vm_fitMany vm_fitFirst vm_fitBeats vm_listenLeaves qm_there vm_metAt vm_metIn qm_wins vm_nightHoles vm_nightFirst vm_nightMud vm_nightSlips vm_drawnNow, (qm_has, .inl (cI, 55, .inl (fm_has))), (qm_round, .inl (cI, 120, .inl (fm_round))), (qm_meets, .inl (cI, 30, .inl (fm_meets)))] := ⟨hP, hD⟩
          have hz := hw
          clear hw
          have h_r190 : (-1) ≤ r190.toInt ∧ r190.toInt ≤ 32 := hz
          clear hz
          refine lv_aload_n hx hb dX12_mend_54 rfl (lv_at hl 2 rfl) ?_
          refine va_get (D := D) (ci := 12) (v := .ref qm_round) (C := RX12) (T := TX12) (N := 45) hx hb hts hi12 hown hK hP 1 rfl rfl 18 (by decide) (hts (.fieldLink RX12 37 "OverHillModel" "round" "[I") (by decide +kernel)) (fun _ h9 => h9) rfl dX12_mend_55 ?_
          refine lv_bipush (v := 12) hx hb dX12_mend_58 (by decide) ?_
          refine lv_iload_n hx hb dX12_mend_60 rfl (lv_at hl 3 rfl) ?_
          refine lv_imul hx hb dX12_mend_61 ?_
          refine lv_topi (fun z191 ez191 => ?_)
          have fz191 : z191.toInt = 12 * a1.toInt := by rw [ez191]; exact tq_mul (by decide) rfl (by omega)
          refine lv_iload_n hx hb dX12_mend_62 rfl (lv_at hl 0 rfl) ?_
          refine lv_iadd hx hb dX12_mend_63 ?_
          refine lv_topi (fun z192 ez192 => ?_)
          have fz192 : z192.toInt = z191.toInt + x186.toInt := by rw [ez192]; exact tq_add rfl rfl (by omega)
          refine va_iald (D := D) hx hb hK hP 3 0 rfl rfl (tq_in rfl (by omega)) dX12_mend_64 ?_
          refine lv_topi (fun z193 ez193 => ?_)
          have fz193 : 0 ≤ z193.toInt ∧ z193.toInt ≤ 5 := by rw [ez193]; exact ar_get h_fm_round z192 0 (by omega) (show z192.toInt % 1 = 0 by omega) rfl
          refine lv_icmp_eq (tgt := 72) hx hb dX12_mend_65 (by decide) (fun hc => ?_) (fun hc => ?_)
          · have hq194 : r190.toInt = z193.toInt := tq_eq rfl rfl hc
            refine lv_iconst (v := 0) hx hb dX12_mend_72 (by decide) ?_
            refine lv_iadd hx hb dX12_mend_73 ?_
            refine lv_topi (fun z195 ez195 => ?_)
            refine lv_istore_n (lv' := [(2, .int z195), (3, .int x186), (0, .ref qm), (1, .int a1)]) hx hb dX12_mend_74 rfl hl (by decide) rfl (fun ls hl => ?_)
            obtain ⟨z196, ez196⟩ : ∃ z : Int32, z = x186 + 1 := ⟨_, rfl⟩
            have fz196 : z196.toInt = x186.toInt + 1 := by rw [ez196]; exact tq_add rfl (by decide) (by omega)
            refine lv_iinc (v := z196) (lv' := [(3, .int z196), (2, .int z195), (0, .ref qm), (1, .int a1)]) hx hb dX12_mend_75 hl (k := 1) rfl ez196.symm (by decide) rfl (fun ls hl => ?_)
            refine lv_goto (tgt := 38) hx hb dX12_mend_78 (by decide) ?_
            exact ih187 (z195, z196) _ _ _ (show (12 - z196.toInt).toNat < (12 - x186.toInt).toNat by omega) ⟨(show 0 ≤ z196.toInt ∧ z196.toInt ≤ 12 by omega), ⟨hP, hD⟩, hS, lv_sub hl [0, 1, 2, 3] rfl⟩
          · have hq194 : r190.toInt ≠ z193.toInt := tq_ne rfl rfl hc
            refine lv_iconst (v := 1) hx hb dX12_mend_68 (by decide) ?_
            refine lv_goto (tgt := 73) hx hb dX12_mend_69 (by decide) ?_
            refine lv_iadd hx hb dX12_mend_73 ?_
            refine lv_topi (fun z197 ez197 => ?_)
            refine lv_istore_n (lv' := [(2, .int z197), (3, .int x186), (0, .ref qm), (1, .int a1)]) hx hb dX12_mend_74 rfl hl (by decide) rfl (fun ls hl => ?_)
            obtain ⟨z198, ez198⟩ : ∃ z : Int32, z = x186 + 1 := ⟨_, rfl⟩
            have fz198 : z198.toInt = x186.toInt + 1 := by rw [ez198]; exact tq_add rfl (by decide) (by omega)
            refine lv_iinc (v := z198) (lv' := [(3, .int z198), (2, .int z197), (0, .ref qm), (1, .int a1)]) hx hb dX12_mend_75 hl (k := 1) rfl ez198.symm (by decide) rfl (fun ls hl => ?_)
            refine lv_goto (tgt := 38) hx hb dX12_mend_78 (by decide) ?_
            exact ih187 (z197, z198) _ _ _ (show (12 - z198.toInt).toNat < (12 - x186.toInt).toNat by omega) ⟨(show 0 ≤ z198.toInt ∧ z198.toInt ≤ 12 by omega), ⟨hP, hD⟩, hS, lv_sub hl [0, 1, 2, 3] rfl⟩
      · have hq6 : r5.toInt ≠ (-1) := tq_ne rfl (by decide) hc
        refine lv_iconst (v := (-1)) hx hb dX12_mend_32 (by decide) ?_
        obtain ⟨hP9, hD9⟩ : ct_B D A H [mo qm 0 qm_width qm_many qm_cells qm_moved qm_tape vm_taped vm_at vm_token vm_place vm_value vm_word vm_bad vm_badPlace vm_fault vm_faultPlace qm_lines qm_has qm_round qm_meets qm_stumble qm_isMud qm_cell qm_tune qm_change qm_isKept qm_steps qm_places qm_danced vm_runMost vm_runBegins qm_heardBy vm_fitMany vm_fitFirst vm_fitBeats vm_listenLeaves qm_there vm_metAt vm_metIn qm_wins vm_nightHoles vm_nightFirst vm_nightMud vm_nightSlips vm_drawnNow, (qm_lines, .inl (cI, 5, .inl (fm_lines))), (qm_has, .inl (cI, 55, .inl (fm_has))), (qm_round, .inl (cI, 120, .inl (fm_round))), (qm_meets, .inl (cI, 30, .inl (fm_meets)))] := ⟨hP.sub [1, 0, 2, 3, 4] rfl, hD.sub [1, 0, 2, 3, 4] (by decide) rfl⟩
        exact W.iret (v := (-1)) hx hb hr (fun t ht hW => ⟨⟨(-1), (0 : Int32), rfl, trivial, by rw [ht]; exact hP9, hD9⟩, hS.F ht⟩) hS.2.2 dX12_mend_33
    · subst hz
      refine lv_if_ne (tgt := 23) hx hb dX12_mend_17 (by decide) (fun hc => absurd hc (by decide)) (fun _ => ?_)
      refine lv_bipush (v := (-2)) hx hb dX12_mend_20 (by decide) ?_
      obtain ⟨hP9, hD9⟩ : ct_B D A H [mo qm 0 qm_width qm_many qm_cells qm_moved qm_tape vm_taped vm_at vm_token vm_place vm_value vm_word vm_bad vm_badPlace vm_fault vm_faultPlace qm_lines qm_has qm_round qm_meets qm_stumble qm_isMud qm_cell qm_tune qm_change qm_isKept qm_steps qm_places qm_danced vm_runMost vm_runBegins qm_heardBy vm_fitMany vm_fitFirst vm_fitBeats vm_listenLeaves qm_there vm_metAt vm_metIn qm_wins vm_nightHoles vm_nightFirst vm_nightMud vm_nightSlips vm_drawnNow, (qm_lines, .inl (cI, 5, .inl (fm_lines))), (qm_has, .inl (cI, 55, .inl (fm_has))), (qm_round, .inl (cI, 120, .inl (fm_round))), (qm_meets, .inl (cI, 30, .inl (fm_meets)))] := ⟨hP.sub [3, 2, 4, 0, 1] rfl, hD.sub [3, 2, 4, 0, 1] (by decide) rfl⟩
      exact W.iret (v := (-2)) hx hb hr (fun t ht hW => ⟨⟨(-2), (0 : Int32), rfl, trivial, by rw [ht]; exact hP9, hD9⟩, hS.F ht⟩) hS.2.2 dX12_mend_22
  · subst hz
    refine lv_if_eq (tgt := 20) hx hb dX12_mend_10 (by decide) (fun _ => ?_) (fun hc => absurd hc (by decide))
    refine lv_bipush (v := (-2)) hx hb dX12_mend_20 (by decide) ?_
    obtain ⟨hP9, hD9⟩ : ct_B D A H [mo qm 0 qm_width qm_many qm_cells qm_moved qm_tape vm_taped vm_at vm_token vm_place vm_value vm_word vm_bad vm_badPlace vm_fault vm_faultPlace qm_lines qm_has qm_round qm_meets qm_stumble qm_isMud qm_cell qm_tune qm_change qm_isKept qm_steps qm_places qm_danced vm_runMost vm_runBegins qm_heardBy vm_fitMany vm_fitFirst vm_fitBeats vm_listenLeaves qm_there vm_metAt vm_metIn qm_wins vm_nightHoles vm_nightFirst vm_nightMud vm_nightSlips vm_drawnNow, (qm_lines, .inl (cI, 5, .inl (fm_lines))), (qm_has, .inl (cI, 55, .inl (fm_has))), (qm_round, .inl (cI, 120, .inl (fm_round))), (qm_meets, .inl (cI, 30, .inl (fm_meets)))] := ⟨hP.sub [3, 4, 0, 1, 2] rfl, hD.sub [3, 4, 0, 1, 2] (by decide) rfl⟩
    exact W.iret (v := (-2)) hx hb hr (fun t ht hW => ⟨⟨(-2), (0 : Int32), rfl, trivial, by rw [ht]; exact hP9, hD9⟩, hS.F ht⟩) hS.2.2 dX12_mend_22
abbrev w_c_X12_mended (cI cJ cB cZ cO : ClassId) (qm : Nat) (vm_thrown : Int32) (qm_width : Nat) (qm_many : Nat) (qm_cells : Nat) (qm_moved : Nat) (qm_tape : Nat) (vm_taped : Int32) (vm_at : Int32) (vm_token : Int32) (vm_place : Int32) (vm_value : Int32) (vm_word : Int64) (vm_bad : Int32) (vm_badPlace : Int32) (vm_fault : Int32) (vm_faultPlace : Int32) (qm_lines : Nat) (fm_lines : Nat → Int32) (qm_has : Nat) (fm_has : Nat → Int32) (qm_round : Nat) (fm_round : Nat → Int32) (qm_meets : Nat) (fm_meets : Nat → Int32) (qm_stumble : Nat) (qm_isMud : Nat) (qm_cell : Nat) (qm_tune : Nat) (qm_change : Nat) (qm_isKept : Nat) (qm_steps : Nat) (qm_places : Nat) (qm_danced : Nat) (vm_runMost : Int32) (vm_runBegins : Int32) (qm_heardBy : Nat) (vm_fitMany : Int32) (vm_fitFirst : Int32) (vm_fitBeats : Int64) (vm_listenLeaves : Int32) (qm_there : Nat) (vm_metAt : Int32) (vm_metIn : Int32) (qm_wins : Nat) (vm_nightHoles : Int32) (vm_nightFirst : Int32) (vm_nightMud : Int32) (vm_nightSlips : Int32) (vm_drawnNow : Int64) : va_W := [mo qm vm_thrown qm_width qm_many qm_cells qm_moved qm_tape vm_taped vm_at vm_token vm_place vm_value vm_word vm_bad vm_badPlace vm_fault vm_faultPlace qm_lines qm_has qm_round qm_meets qm_stumble qm_isMud qm_cell qm_tune qm_change qm_isKept qm_steps qm_places qm_danced vm_runMost vm_runBegins qm_heardBy vm_fitMany vm_fitFirst vm_fitBeats vm_listenLeaves qm_there vm_metAt vm_metIn qm_wins vm_nightHoles vm_nightFirst vm_nightMud vm_nightSlips vm_drawnNow, (qm_lines, .inl (cI, 5, .inl (fm_lines))), (qm_has, .inl (cI, 55, .inl (fm_has))), (qm_round, .inl (cI, 120, .inl (fm_round))), (qm_meets, .inl (cI, 30, .inl (fm_meets)))]
set_option maxHeartbeats 4000000 in
set_option maxRecDepth 100000 in
/-- X12 mended -/
theorem c_X12_mended (l : Launch) (D : va_G) (G : ct_G) (cI cJ cB cZ cO : ClassId) (qm : Nat) (vm_thrown : Int32) (qm_width : Nat) (qm_many : Nat) (qm_cells : Nat) (qm_moved : Nat) (qm_tape : Nat) (vm_taped : Int32) (vm_at : Int32) (vm_token : Int32) (vm_place : Int32) (vm_value : Int32) (vm_word : Int64) (vm_bad : Int32) (vm_badPlace : Int32) (vm_fault : Int32) (vm_faultPlace : Int32) (qm_lines : Nat) (fm_lines : Nat → Int32) (qm_has : Nat) (fm_has : Nat → Int32) (qm_round : Nat) (fm_round : Nat → Int32) (qm_meets : Nat) (fm_meets : Nat → Int32) (qm_stumble : Nat) (qm_isMud : Nat) (qm_cell : Nat) (qm_tune : Nat) (qm_change : Nat) (qm_isKept : Nat) (qm_steps : Nat) (qm_places : Nat) (qm_danced : Nat) (vm_runMost : Int32) (vm_runBegins : Int32) (qm_heardBy : Nat) (vm_fitMany : Int32) (vm_fitFirst : Int32) (vm_fitBeats : Int64) (vm_listenLeaves : Int32) (qm_there : Nat) (vm_metAt : Int32) (vm_metIn : Int32) (qm_wins : Nat) (vm_nightHoles : Int32) (vm_nightFirst : Int32) (vm_nightMud : Int32) (vm_nightSlips : Int32) (vm_drawnNow : Int64) (a1 : Int32) (a2 : Int32) (h_vm_taped : 0 ≤ vm_taped.toInt ∧ vm_taped.toInt ≤ 1200) (h_vm_at : 0 ≤ vm_at.toInt ∧ vm_at.toInt ≤ 1200) (h_vm_value : 0 ≤ vm_value.toInt ∧ vm_value.toInt ≤ 1000009) (h_fm_has : ar_ok [0, (-2147483648), (-2147483648), 0, 0, 0, 0, 0, 0, 0, 0] [20, 2147483647, 2147483647, 12, 12, 11, 11, 8, 12, 5, 40] fm_has) (h_fm_round : ar_ok [0] [5] fm_round) (sz : Nat) : Met l yX12_mended wsX12_mended ({ frames := 17, cells := 0, slots := 0, locals := 368 }) (va_Pc [.ref qm, .int a1, .int a2] (ct_P D (ct_T cI cJ cB cZ cO) G (w_c_X12_mended cI cJ cB cZ cO qm vm_thrown qm_width qm_many qm_cells qm_moved qm_tape vm_taped vm_at vm_token vm_place vm_value vm_word vm_bad vm_badPlace vm_fault vm_faultPlace qm_lines fm_lines qm_has fm_has qm_round fm_round qm_meets fm_meets qm_stumble qm_isMud qm_cell qm_tune qm_change qm_isKept qm_steps qm_places qm_danced vm_runMost vm_runBegins qm_heardBy vm_fitMany vm_fitFirst vm_fitBeats vm_listenLeaves qm_there vm_metAt vm_metIn qm_wins vm_nightHoles vm_nightFirst vm_nightMud vm_nightSlips vm_drawnNow) sz)) (va_Qi (fun (rz : Int32) (u : Int32) => ((-2) ≤ rz.toInt ∧ rz.toInt ≤ 32)) (fun (u : Int32) t => ct_Q D (va_A (w_c_X12_mended cI cJ cB cZ cO qm vm_thrown qm_width qm_many qm_cells qm_moved qm_tape vm_taped vm_at vm_token vm_place vm_value vm_word vm_bad vm_badPlace vm_fault vm_faultPlace qm_lines fm_lines qm_has fm_has qm_round fm_round qm_meets fm_meets qm_stumble qm_isMud qm_cell qm_tune qm_change qm_isKept qm_steps qm_places qm_danced vm_runMost vm_runBegins qm_heardBy vm_fitMany vm_fitFirst vm_fitBeats vm_listenLeaves qm_there vm_metAt vm_metIn qm_wins vm_nightHoles vm_nightFirst vm_nightMud vm_nightSlips vm_drawnNow) sz) [mo qm u qm_width qm_many qm_cells qm_moved qm_tape vm_taped vm_at vm_token vm_place vm_value vm_word vm_bad vm_badPlace vm_fault vm_faultPlace qm_lines qm_has qm_round qm_meets qm_stumble qm_isMud qm_cell qm_tune qm_change qm_isKept qm_steps qm_places qm_danced vm_runMost vm_runBegins qm_heardBy vm_fitMany vm_fitFirst vm_fitBeats vm_listenLeaves qm_there vm_metAt vm_metIn qm_wins vm_nightHoles vm_nightFirst vm_nightMud vm_nightSlips vm_drawnNow, (qm_lines, .inl (cI, 5, .inl (fm_lines))), (qm_has, .inl (cI, 55, .inl (fm_has))), (qm_round, .inl (cI, 120, .inl (fm_round))), (qm_meets, .inl (cI, 30, .inl (fm_meets)))] t) (va_A (w_c_X12_mended cI cJ cB cZ cO qm vm_thrown qm_width qm_many qm_cells qm_moved qm_tape vm_taped vm_at vm_token vm_place vm_value vm_word vm_bad vm_badPlace vm_fault vm_faultPlace qm_lines fm_lines qm_has fm_has qm_round fm_round qm_meets fm_meets qm_stumble qm_isMud qm_cell qm_tune qm_change qm_isKept qm_steps qm_places qm_danced vm_runMost vm_runBegins qm_heardBy vm_fitMany vm_fitFirst vm_fitBeats vm_listenLeaves qm_there vm_metAt vm_metIn qm_wins vm_nightHoles vm_nightFirst vm_nightMud vm_nightSlips vm_drawnNow) sz)) 0 0 (va_A (w_c_X12_mended cI cJ cB cZ cO qm vm_thrown qm_width qm_many qm_cells qm_moved qm_tape vm_taped vm_at vm_token vm_place vm_value vm_word vm_bad vm_badPlace vm_fault vm_faultPlace qm_lines fm_lines qm_has fm_has qm_round fm_round qm_meets fm_meets qm_stumble qm_isMud qm_cell qm_tune qm_change qm_isKept qm_steps qm_places qm_danced vm_runMost vm_runBegins qm_heardBy vm_fitMany vm_fitFirst vm_fitBeats vm_listenLeaves qm_there vm_metAt vm_metIn qm_wins vm_nightHoles vm_nightFirst vm_nightMud vm_nightSlips vm_drawnNow) sz) := by
  refine Met.ofW (cc := cX12_mended) (maxL := 3) (ret := (some .int)) (by decide) rfl ?_
  intro p e s m args below meth c s₁ B hml hv
  obtain ⟨rfl, hsz, hP, hE, hD0, hH⟩ := hv
  have hx := B.exec
  have hb := B.bytes
  have hr := B.returns
  have hts := atoms_spec (ws := wsX12_mended) B.pre
  have hown : s.vm.findClass RX12 = some m.cls := findClass_of_methodNamed B.named
  have hlocks := B.notSynchronized
  have hK := hE.1
  have hi12 : ∀ w ∈ u_ws RX12 TX12 45, w ∈ wsX12_mended := fun w h => List.mem_cons_of_mem _ (List.mem_append_right _ h)
  subst hsz
  have hD := hD0.self (sz := s.heap.size)
  generalize hAe : va_A (w_c_X12_mended cI cJ cB cZ cO qm vm_thrown qm_width qm_many qm_cells qm_moved qm_tape vm_taped vm_at vm_token vm_place vm_value vm_word vm_bad vm_badPlace vm_fault vm_faultPlace qm_lines fm_lines qm_has fm_has qm_round fm_round qm_meets fm_meets qm_stumble qm_isMud qm_cell qm_tune qm_change qm_isKept qm_steps qm_places qm_danced vm_runMost vm_runBegins qm_heardBy vm_fitMany vm_fitFirst vm_fitBeats vm_listenLeaves qm_there vm_metAt vm_metIn qm_wins vm_nightHoles vm_nightFirst vm_nightMud vm_nightSlips vm_drawnNow) s.heap.size = A at hD hH ⊢
  have hA : ∀ q : Nat, s.heap.size ≤ q → A q := fun q h => by rw [← hAe]; exact Or.inr h
  have hS : va_S A s.heap s.heap [] := va_S.rf
  obtain ⟨hP, hD⟩ : ct_B D A s.heap [mo qm vm_thrown qm_width qm_many qm_cells qm_moved qm_tape vm_taped vm_at vm_token vm_place vm_value vm_word vm_bad vm_badPlace vm_fault vm_faultPlace qm_lines qm_has qm_round qm_meets qm_stumble qm_isMud qm_cell qm_tune qm_change qm_isKept qm_steps qm_places qm_danced vm_runMost vm_runBegins qm_heardBy vm_fitMany vm_fitFirst vm_fitBeats vm_listenLeaves qm_there vm_metAt vm_metIn qm_wins vm_nightHoles vm_nightFirst vm_nightMud vm_nightSlips vm_drawnNow, (qm_lines, .inl (cI, 5, .inl (fm_lines))), (qm_has, .inl (cI, 55, .inl (fm_has))), (qm_round, .inl (cI, 120, .inl (fm_round))), (qm_meets, .inl (cI, 30, .inl (fm_meets)))] := ⟨hP, hD⟩
  have hl := lv_entry ([.ref qm, .int a1, .int a2]) (n := 3) (Nat.le_of_ble_eq_true rfl)
  rw [lg_entry_eq]
  generalize (lg_sl ([.ref qm, .int a1, .int a2]) ++ List.replicate (3 - (lg_sl ([.ref qm, .int a1, .int a2])).length) Slot.unset).toArray = ls at hl ⊢
  have hl : lv_has ls 3 [(0, .ref qm), (1, .int a1), (2, .int a2)] := hl
  obtain ⟨H, hHe⟩ : ∃ H : Heap, H = s.heap := ⟨_, rfl⟩
  rw [← hHe] at hP
  have hS : va_S A s.heap H [] := by rw [hHe]; exact va_S.rf
  refine ct_start hHe ?_
  refine lv_aload_n hx hb dX12_mended_0 rfl (lv_at hl 0 rfl) ?_
  refine lv_iconst (v := 0) hx hb dX12_mended_1 (by decide) ?_
  refine va_put (D := D) (ci := 12) (v := .int 0) (ty := .int) (C := RX12) (T := TX12) (N := 45) hx hb hts hi12 tyX12 tyX12_ok nmX12 hown hK hP hD hS 0 rfl rfl 0 (by decide) (hts (.fieldLink RX12 80 "OverHillModel" "thrown" "I") (by decide +kernel)) (fun _ h9 => h9) rfl (by decide +kernel) rfl rfl (Nat.le_of_ble_eq_true rfl) dX12_mended_2 (fun H locs hP hD hS => ?_)
  obtain ⟨hP, hD⟩ : ct_B D A H [mo qm 0 qm_width qm_many qm_cells qm_moved qm_tape vm_taped vm_at vm_token vm_place vm_value vm_word vm_bad vm_badPlace vm_fault vm_faultPlace qm_lines qm_has qm_round qm_meets qm_stumble qm_isMud qm_cell qm_tune qm_change qm_isKept qm_steps qm_places qm_danced vm_runMost vm_runBegins qm_heardBy vm_fitMany vm_fitFirst vm_fitBeats vm_listenLeaves qm_there vm_metAt vm_metIn qm_wins vm_nightHoles vm_nightFirst vm_nightMud vm_nightSlips vm_drawnNow, (qm_lines, .inl (cI, 5, .inl (fm_lines))), (qm_has, .inl (cI, 55, .inl (fm_has))), (qm_round, .inl (cI, 120, .inl (fm_round))), (qm_meets, .inl (cI, 30, .inl (fm_meets)))] := ⟨hP, hD⟩
  refine lv_aload_n hx hb dX12_mended_5 rfl (lv_at hl 0 rfl) ?_
  refine lv_iload_n hx hb dX12_mended_6 rfl (lv_at hl 1 rfl) ?_
  refine ct_calli (D := D) (wr := [(qm_has, .inl (cI, 55, .inl (fm_has))), (qm_round, .inl (cI, 120, .inl (fm_round))), (qm_meets, .inl (cI, 30, .inl (fm_meets)))]) (va_runV (As := [.int a1]) (rest := []) ⟨hx, hb, hml, hown, hts⟩ (c_X12_isSide l D G cI cJ cB cZ cO qm 0 qm_width qm_many qm_cells qm_moved qm_tape vm_taped vm_at vm_token vm_place vm_value vm_word vm_bad vm_badPlace vm_fault vm_faultPlace qm_lines fm_lines qm_has qm_round qm_meets qm_stumble qm_isMud qm_cell qm_tune qm_change qm_isKept qm_steps qm_places qm_danced vm_runMost vm_runBegins qm_heardBy vm_fitMany vm_fitFirst vm_fitBeats vm_listenLeaves qm_there vm_metAt vm_metIn qm_wins vm_nightHoles vm_nightFirst vm_nightMud vm_nightSlips vm_drawnNow a1 h_vm_taped h_vm_at h_vm_value H.size) (cwV 1 hts gX12_mended_X12_isSide rfl rfl rfl (by decide +kernel) ⟨Nat.le_of_ble_eq_true rfl, Nat.le_of_ble_eq_true rfl⟩) (ct_preV (T := ct_T cI cJ cB cZ cO) (ci := 12) (q0 := 0) hE hH hP hD hS hA [0, 1] (by decide) rfl rfl rfl) rfl rfl hl.1 rfl (lv_room (Nat.le_of_ble_eq_true rfl)) dX12_mended_7 ⟨Nat.le_of_ble_eq_true rfl, Nat.le_of_ble_eq_true rfl⟩) hP hD hS hA [0, 1] [2, 3, 4] rfl rfl (by decide) (by decide) (fun r1 u H locs hw hP hD hS => ?_)
  obtain ⟨hP, hD⟩ : ct_B D A H [(qm_has, .inl (cI, 55, .inl (fm_has))), (qm_round, .inl (cI, 120, .inl (fm_round))), (qm_meets, .inl (cI, 30, .inl (fm_meets))), mo qm 0 qm_width qm_many qm_cells qm_moved qm_tape vm_taped vm_at vm_token vm_place vm_value vm_word vm_bad vm_badPlace vm_fault vm_faultPlace qm_lines qm_has qm_round qm_meets qm_stumble qm_isMud qm_cell qm_tune qm_change qm_isKept qm_steps qm_places qm_danced vm_runMost vm_runBegins qm_heardBy vm_fitMany vm_fitFirst vm_fitBeats vm_listenLeaves qm_there vm_metAt vm_metIn qm_wins vm_nightHoles vm_nightFirst vm_nightMud vm_nightSlips vm_drawnNow, (qm_lines, .inl (cI, 5, .inl (fm_lines)))] := ⟨hP, hD⟩
  have hz := hw
  clear hw
  rcases hz with ⟨hz, hz2⟩ | ⟨hz, hz2⟩
  · subst hz
    have hz_2 : (0 ≤ a1.toInt ∧ a1.toInt < 2) := hz2
    refine lv_if_eq (tgt := 37) hx hb dX12_mended_10 (by decide) (fun hc => absurd hc (by decide)) (fun _ => ?_)
    refine lv_aload_n hx hb dX12_mended_13 rfl (lv_at hl 0 rfl) ?_
    refine ct_calli (D := D) (wr := [(qm_round, .inl (cI, 120, .inl (fm_round))), (qm_meets, .inl (cI, 30, .inl (fm_meets))), (qm_lines, .inl (cI, 5, .inl (fm_lines)))]) (va_runV (As := []) (rest := []) ⟨hx, hb, hml, hown, hts⟩ (c_X12_areRounds l D G cI cJ cB cZ cO qm 0 qm_width qm_many qm_cells qm_moved qm_tape vm_taped vm_at vm_token vm_place vm_value vm_word vm_bad vm_badPlace vm_fault vm_faultPlace qm_lines qm_has fm_has qm_round qm_meets qm_stumble qm_isMud qm_cell qm_tune qm_change qm_isKept qm_steps qm_places qm_danced vm_runMost vm_runBegins qm_heardBy vm_fitMany vm_fitFirst vm_fitBeats vm_listenLeaves qm_there vm_metAt vm_metIn qm_wins vm_nightHoles vm_nightFirst vm_nightMud vm_nightSlips vm_drawnNow h_vm_taped h_vm_at h_vm_value h_fm_has H.size) (cwV 0 hts gX12_mended_X12_areRounds rfl rfl rfl (by decide +kernel) ⟨Nat.le_of_ble_eq_true rfl, Nat.le_of_ble_eq_true rfl⟩) (ct_preV (T := ct_T cI cJ cB cZ cO) (ci := 12) (q0 := 3) hE hH hP hD hS hA [3, 0] (by decide) rfl rfl rfl) rfl rfl hl.1 rfl (lv_room (Nat.le_of_ble_eq_true rfl)) dX12_mended_14 ⟨Nat.le_of_ble_eq_true rfl, Nat.le_of_ble_eq_true rfl⟩) hP hD hS hA [3, 0] [1, 2, 4] rfl rfl (by decide) (by decide) (fun r3 u H locs hw hP hD hS => ?_)
    obtain ⟨hP, hD⟩ : ct_B D A H [(qm_round, .inl (cI, 120, .inl (fm_round))), (qm_meets, .inl (cI, 30, .inl (fm_meets))), (qm_lines, .inl (cI, 5, .inl (fm_lines))), mo qm 0 qm_width qm_many qm_cells qm_moved qm_tape vm_taped vm_at vm_token vm_place vm_value vm_word vm_bad vm_badPlace vm_fault vm_faultPlace qm_lines qm_has qm_round qm_meets qm_stumble qm_isMud qm_cell qm_tune qm_change qm_isKept qm_steps qm_places qm_danced vm_runMost vm_runBegins qm_heardBy vm_fitMany vm_fitFirst vm_fitBeats vm_listenLeaves qm_there vm_metAt vm_metIn qm_wins vm_nightHoles vm_nightFirst vm_nightMud vm_nightSlips vm_drawnNow, (qm_has, .inl (cI, 55, .inl (fm_has)))] := ⟨hP, hD⟩
    have hz := hw
    clear hw
    rcases hz with ⟨hz, hz2⟩ | ⟨hz, hz2⟩
    · subst hz
      have hz_4 : 1 ≤ (fm_has 3).toInt ∧ 1 ≤ (fm_has 4).toInt := hz2
      refine lv_if_eq (tgt := 37) hx hb dX12_mended_17 (by decide) (fun hc => absurd hc (by decide)) (fun _ => ?_)
      refine lv_iload_n hx hb dX12_mended_20 rfl (lv_at hl 2 rfl) ?_
      refine lv_i2l (v := _) hx hb dX12_mended_21 rfl ?_
      refine lv_topl (fun z5 ez5 => ?_)
      have fz5 : z5.toInt = a2.toInt := by rw [ez5]; exact tl_i rfl
      have hb6 := tq_lo a2
      refine lv_lconst (v := 0) hx hb dX12_mended_22 (by decide) ?_
      refine lv_aload_n hx hb dX12_mended_23 rfl (lv_at hl 0 rfl) ?_
      refine lv_iload_n hx hb dX12_mended_24 rfl (lv_at hl 1 rfl) ?_
      refine ct_calli (D := D) (wr := [(qm_round, .inl (cI, 120, .inl (fm_round))), (qm_meets, .inl (cI, 30, .inl (fm_meets))), (qm_lines, .inl (cI, 5, .inl (fm_lines)))]) (va_runV (As := [.int a1]) (rest := [.long 0, .long z5]) ⟨hx, hb, hml, hown, hts⟩ (c_X12_lengthOfP l D G cI cJ cB cZ cO qm 0 qm_width qm_many qm_cells qm_moved qm_tape vm_taped vm_at vm_token vm_place vm_value vm_word vm_bad vm_badPlace vm_fault vm_faultPlace qm_lines qm_has fm_has qm_round qm_meets qm_stumble qm_isMud qm_cell qm_tune qm_change qm_isKept qm_steps qm_places qm_danced vm_runMost vm_runBegins qm_heardBy vm_fitMany vm_fitFirst vm_fitBeats vm_listenLeaves qm_there vm_metAt vm_metIn qm_wins vm_nightHoles vm_nightFirst vm_nightMud vm_nightSlips vm_drawnNow a1 h_vm_taped h_vm_at h_vm_value h_fm_has (by omega) hz_4 H.size) (cwV 1 hts gX12_mended_X12_lengthOf rfl rfl rfl (by decide +kernel) ⟨Nat.le_of_ble_eq_true rfl, Nat.le_of_ble_eq_true rfl⟩) (ct_preV (T := ct_T cI cJ cB cZ cO) (ci := 12) (q0 := 3) hE hH hP hD hS hA [3, 4] (by decide) rfl rfl rfl) rfl rfl hl.1 rfl (lv_room (Nat.le_of_ble_eq_true rfl)) dX12_mended_25 ⟨Nat.le_of_ble_eq_true rfl, Nat.le_of_ble_eq_true rfl⟩) hP hD hS hA [3, 4] [0, 1, 2] rfl rfl (by decide) (by decide) (fun r7 u H locs hw hP hD hS => ?_)
      obtain ⟨hP, hD⟩ : ct_B D A H [(qm_round, .inl (cI, 120, .inl (fm_round))), (qm_meets, .inl (cI, 30, .inl (fm_meets))), (qm_lines, .inl (cI, 5, .inl (fm_lines))), mo qm 0 qm_width qm_many qm_cells qm_moved qm_tape vm_taped vm_at vm_token vm_place vm_value vm_word vm_bad vm_badPlace vm_fault vm_faultPlace qm_lines qm_has qm_round qm_meets qm_stumble qm_isMud qm_cell qm_tune qm_change qm_isKept qm_steps qm_places qm_danced vm_runMost vm_runBegins qm_heardBy vm_fitMany vm_fitFirst vm_fitBeats vm_listenLeaves qm_there vm_metAt vm_metIn qm_wins vm_nightHoles vm_nightFirst vm_nightMud vm_nightSlips vm_drawnNow, (qm_has, .inl (cI, 55, .inl (fm_has)))] := ⟨hP, hD⟩
      have hz := hw
      clear hw
      have h_r7 : 1 ≤ r7.toInt ∧ r7.toInt ≤ 12 := hz
      clear hz
      refine lv_iconst (v := 1) hx hb dX12_mended_28 (by decide) ?_
      refine lv_isub hx hb dX12_mended_29 ?_
      refine lv_topi (fun z8 ez8 => ?_)
      have fz8 : z8.toInt = r7.toInt - 1 := by rw [ez8]; exact tq_subt rfl (by decide) (by omega)
      refine lv_i2l (v := _) hx hb dX12_mended_30 rfl ?_
      refine lv_topl (fun z9 ez9 => ?_)
      have fz9 : z9.toInt = z8.toInt := by rw [ez9]; exact tl_i rfl
      refine ct_calli (D := D) (wr := [(qm_round, .inl (cI, 120, .inl (fm_round))), (qm_meets, .inl (cI, 30, .inl (fm_meets))), (qm_lines, .inl (cI, 5, .inl (fm_lines))), mo qm 0 qm_width qm_many qm_cells qm_moved qm_tape vm_taped vm_at vm_token vm_place vm_value vm_word vm_bad vm_badPlace vm_fault vm_faultPlace qm_lines qm_has qm_round qm_meets qm_stumble qm_isMud qm_cell qm_tune qm_change qm_isKept qm_steps qm_places qm_danced vm_runMost vm_runBegins qm_heardBy vm_fitMany vm_fitFirst vm_fitBeats vm_listenLeaves qm_there vm_metAt vm_metIn qm_wins vm_nightHoles vm_nightFirst vm_nightMud vm_nightSlips vm_drawnNow, (qm_has, .inl (cI, 55, .inl (fm_has)))]) (va_runS (As := [.long z5, .long 0, .long z9]) (rest := []) ⟨hx, hb, hml, hown, hts⟩ (c_X12_in l D G cI cJ cB cZ cO z5 0 z9  H.size) (va_cwS 3 hts gX12_mended_X12_in rfl rfl rfl (by decide +kernel) ⟨Nat.le_of_ble_eq_true rfl, Nat.le_of_ble_eq_true rfl⟩) (ct_preS (T := ct_T cI cJ cB cZ cO) hE hH hP hD hS hA [] (by decide) rfl) rfl rfl hl.1 rfl (lv_room (Nat.le_of_ble_eq_true rfl)) dX12_mended_31 ⟨Nat.le_of_ble_eq_true rfl, Nat.le_of_ble_eq_true rfl⟩) hP hD hS hA [] [0, 1, 2, 3, 4] rfl rfl (by decide) (by decide) (fun r10 u H locs hw hP hD hS => ?_)
      obtain ⟨hP, hD⟩ : ct_B D A H [(qm_round, .inl (cI, 120, .inl (fm_round))), (qm_meets, .inl (cI, 30, .inl (fm_meets))), (qm_lines, .inl (cI, 5, .inl (fm_lines))), mo qm 0 qm_width qm_many qm_cells qm_moved qm_tape vm_taped vm_at vm_token vm_place vm_value vm_word vm_bad vm_badPlace vm_fault vm_faultPlace qm_lines qm_has qm_round qm_meets qm_stumble qm_isMud qm_cell qm_tune qm_change qm_isKept qm_steps qm_places qm_danced vm_runMost vm_runBegins qm_heardBy vm_fitMany vm_fitFirst vm_fitBeats vm_listenLeaves qm_there vm_metAt vm_metIn qm_wins vm_nightHoles vm_nightFirst vm_nightMud vm_nightSlips vm_drawnNow, (qm_has, .inl (cI, 55, .inl (fm_has)))] := ⟨hP, hD⟩
      have hk11 : (0 : Int64).toInt = 0 := by decide
      have hz := hw
      clear hw
      rcases hz with ⟨hz, hz2⟩ | ⟨hz, hz2⟩
      · subst hz
        have hz_12 : ((0 : Int64).toInt ≤ z5.toInt ∧ z5.toInt ≤ z9.toInt) := hz2
        refine lv_if_ne (tgt := 40) hx hb dX12_mended_34 (by decide) (fun _ => ?_) (fun hc => absurd hc (by decide))
        refine lv_aload_n hx hb dX12_mended_40 rfl (lv_at hl 0 rfl) ?_
        refine lv_iload_n hx hb dX12_mended_41 rfl (lv_at hl 1 rfl) ?_
        refine ct_calli (D := D) (wr := [(qm_lines, .inl (cI, 5, .inl (fm_lines)))]) (va_runV (As := [.int a1]) (rest := []) ⟨hx, hb, hml, hown, hts⟩ (c_X12_stuckOf l D G cI cJ cB cZ cO qm 0 qm_width qm_many qm_cells qm_moved qm_tape vm_taped vm_at vm_token vm_place vm_value vm_word vm_bad vm_badPlace vm_fault vm_faultPlace qm_lines qm_has fm_has qm_round fm_round qm_meets fm_meets qm_stumble qm_isMud qm_cell qm_tune qm_change qm_isKept qm_steps qm_places qm_danced vm_runMost vm_runBegins qm_heardBy vm_fitMany vm_fitFirst vm_fitBeats vm_listenLeaves qm_there vm_metAt vm_metIn qm_wins vm_nightHoles vm_nightFirst vm_nightMud vm_nightSlips vm_drawnNow a1 h_vm_taped h_vm_at h_vm_value h_fm_has h_fm_round (by omega) hz_4 H.size) (cwV 1 hts gX12_mended_X12_stuckOf rfl rfl rfl (by decide +kernel) ⟨Nat.le_of_ble_eq_true rfl, Nat.le_of_ble_eq_true rfl⟩) (ct_preV (T := ct_T cI cJ cB cZ cO) (ci := 12) (q0 := 3) hE hH hP hD hS hA [3, 4, 0, 1] (by decide) rfl rfl rfl) rfl rfl hl.1 rfl (lv_room (Nat.le_of_ble_eq_true rfl)) dX12_mended_42 ⟨Nat.le_of_ble_eq_true rfl, Nat.le_of_ble_eq_true rfl⟩) hP hD hS hA [3, 4, 0, 1] [2] rfl rfl (by decide) (by decide) (fun r13 u H locs hw hP hD hS => ?_)
        obtain ⟨hP, hD⟩ : ct_B D A H [(qm_lines, .inl (cI, 5, .inl (fm_lines))), mo qm 0 qm_width qm_many qm_cells qm_moved qm_tape vm_taped vm_at vm_token vm_place vm_value vm_word vm_bad vm_badPlace vm_fault vm_faultPlace qm_lines qm_has qm_round qm_meets qm_stumble qm_isMud qm_cell qm_tune qm_change qm_isKept qm_steps qm_places qm_danced vm_runMost vm_runBegins qm_heardBy vm_fitMany vm_fitFirst vm_fitBeats vm_listenLeaves qm_there vm_metAt vm_metIn qm_wins vm_nightHoles vm_nightFirst vm_nightMud vm_nightSlips vm_drawnNow, (qm_has, .inl (cI, 55, .inl (fm_has))), (qm_round, .inl (cI, 120, .inl (fm_round))), (qm_meets, .inl (cI, 30, .inl (fm_meets)))] := ⟨hP, hD⟩
        have hz := hw
        clear hw
        have h_r13 : (-1) ≤ r13.toInt ∧ r13.toInt ≤ 11 := hz
        clear hz
        refine lv_iconst (v := (-1)) hx hb dX12_mended_45 (by decide) ?_
        refine lv_icmp_eq (tgt := 53) hx hb dX12_mended_46 (by decide) (fun hc => ?_) (fun hc => ?_)
        · have hq14 : r13.toInt = (-1) := tq_eq rfl (by decide) hc
          refine lv_aload_n hx hb dX12_mended_53 rfl (lv_at hl 0 rfl) ?_
          refine lv_iload_n hx hb dX12_mended_54 rfl (lv_at hl 1 rfl) ?_
          refine lv_iload_n hx hb dX12_mended_55 rfl (lv_at hl 2 rfl) ?_
          refine ct_calli (D := D) (wr := [(qm_lines, .inl (cI, 5, .inl (fm_lines)))]) (va_runV (As := [.int a1, .int a2]) (rest := []) ⟨hx, hb, hml, hown, hts⟩ (c_X12_mendedOf l D G cI cJ cB cZ cO qm 0 qm_width qm_many qm_cells qm_moved qm_tape vm_taped vm_at vm_token vm_place vm_value vm_word vm_bad vm_badPlace vm_fault vm_faultPlace qm_lines qm_has fm_has qm_round fm_round qm_meets fm_meets qm_stumble qm_isMud qm_cell qm_tune qm_change qm_isKept qm_steps qm_places qm_danced vm_runMost vm_runBegins qm_heardBy vm_fitMany vm_fitFirst vm_fitBeats vm_listenLeaves qm_there vm_metAt vm_metIn qm_wins vm_nightHoles vm_nightFirst vm_nightMud vm_nightSlips vm_drawnNow a1 a2 h_vm_taped h_vm_at h_vm_value h_fm_has h_fm_round (by omega) (by omega) hz_4 H.size) (cwV 2 hts gX12_mended_X12_mendedOf rfl rfl rfl (by decide +kernel) ⟨Nat.le_of_ble_eq_true rfl, Nat.le_of_ble_eq_true rfl⟩) (ct_preV (T := ct_T cI cJ cB cZ cO) (ci := 12) (q0 := 1) hE hH hP hD hS hA [1, 2, 3, 4] (by decide) rfl rfl rfl) rfl rfl hl.1 rfl (lv_room (Nat.le_of_ble_eq_true rfl)) dX12_mended_56 ⟨Nat.le_of_ble_eq_true rfl, Nat.le_of_ble_eq_true rfl⟩) hP hD hS hA [1, 2, 3, 4] [0] rfl rfl (by decide) (by decide) (fun r15 u H locs hw hP hD hS => ?_)
          obtain ⟨hP, hD⟩ : ct_B D A H [(qm_lines, .inl (cI, 5, .inl (fm_lines))), mo qm 0 qm_width qm_many qm_cells qm_moved qm_tape vm_taped vm_at vm_token vm_place vm_value vm_word vm_bad vm_badPlace vm_fault vm_faultPlace qm_lines qm_has qm_round qm_meets qm_stumble qm_isMud qm_cell qm_tune qm_change qm_isKept qm_steps qm_places qm_danced vm_runMost vm_runBegins qm_heardBy vm_fitMany vm_fitFirst vm_fitBeats vm_listenLeaves qm_there vm_metAt vm_metIn qm_wins vm_nightHoles vm_nightFirst vm_nightMud vm_nightSlips vm_drawnNow, (qm_has, .inl (cI, 55, .inl (fm_has))), (qm_round, .inl (cI, 120, .inl (fm_round))), (qm_meets, .inl (cI, 30, .inl (fm_meets)))] := ⟨hP, hD⟩
          have hz := hw
          clear hw
          have h_r15 : (-1) ≤ r15.toInt ∧ r15.toInt ≤ 32 := hz
          clear hz
          obtain ⟨hP9, hD9⟩ : ct_B D A H [mo qm 0 qm_width qm_many qm_cells qm_moved qm_tape vm_taped vm_at vm_token vm_place vm_value vm_word vm_bad vm_badPlace vm_fault vm_faultPlace qm_lines qm_has qm_round qm_meets qm_stumble qm_isMud qm_cell qm_tune qm_change qm_isKept qm_steps qm_places qm_danced vm_runMost vm_runBegins qm_heardBy vm_fitMany vm_fitFirst vm_fitBeats vm_listenLeaves qm_there vm_metAt vm_metIn qm_wins vm_nightHoles vm_nightFirst vm_nightMud vm_nightSlips vm_drawnNow, (qm_lines, .inl (cI, 5, .inl (fm_lines))), (qm_has, .inl (cI, 55, .inl (fm_has))), (qm_round, .inl (cI, 120, .inl (fm_round))), (qm_meets, .inl (cI, 30, .inl (fm_meets)))] := ⟨hP.sub [1, 0, 2, 3, 4] rfl, hD.sub [1, 0, 2, 3, 4] (by decide) rfl⟩
          exact W.iret (v := r15) hx hb hr (fun t ht hW => ⟨⟨r15, (0 : Int32), rfl, (show (-2) ≤ r15.toInt ∧ r15.toInt ≤ 32 by omega), by rw [ht]; exact hP9, hD9⟩, hS.F ht⟩) hS.2.2 dX12_mended_59
        · have hq14 : r13.toInt ≠ (-1) := tq_ne rfl (by decide) hc
          refine lv_iconst (v := (-1)) hx hb dX12_mended_49 (by decide) ?_
          refine lv_goto (tgt := 59) hx hb dX12_mended_50 (by decide) ?_
          obtain ⟨hP9, hD9⟩ : ct_B D A H [mo qm 0 qm_width qm_many qm_cells qm_moved qm_tape vm_taped vm_at vm_token vm_place vm_value vm_word vm_bad vm_badPlace vm_fault vm_faultPlace qm_lines qm_has qm_round qm_meets qm_stumble qm_isMud qm_cell qm_tune qm_change qm_isKept qm_steps qm_places qm_danced vm_runMost vm_runBegins qm_heardBy vm_fitMany vm_fitFirst vm_fitBeats vm_listenLeaves qm_there vm_metAt vm_metIn qm_wins vm_nightHoles vm_nightFirst vm_nightMud vm_nightSlips vm_drawnNow, (qm_lines, .inl (cI, 5, .inl (fm_lines))), (qm_has, .inl (cI, 55, .inl (fm_has))), (qm_round, .inl (cI, 120, .inl (fm_round))), (qm_meets, .inl (cI, 30, .inl (fm_meets)))] := ⟨hP.sub [1, 0, 2, 3, 4] rfl, hD.sub [1, 0, 2, 3, 4] (by decide) rfl⟩
          exact W.iret (v := (-1)) hx hb hr (fun t ht hW => ⟨⟨(-1), (0 : Int32), rfl, (show (-2) ≤ (-1 : Int32).toInt ∧ (-1 : Int32).toInt ≤ 32 by decide), by rw [ht]; exact hP9, hD9⟩, hS.F ht⟩) hS.2.2 dX12_mended_59
      · subst hz
        have hz_16 : ¬ ((0 : Int64).toInt ≤ z5.toInt ∧ z5.toInt ≤ z9.toInt) := hz2
        refine lv_if_ne (tgt := 40) hx hb dX12_mended_34 (by decide) (fun hc => absurd hc (by decide)) (fun _ => ?_)
        refine lv_bipush (v := (-2)) hx hb dX12_mended_37 (by decide) ?_
        obtain ⟨hP9, hD9⟩ : ct_B D A H [mo qm 0 qm_width qm_many qm_cells qm_moved qm_tape vm_taped vm_at vm_token vm_place vm_value vm_word vm_bad vm_badPlace vm_fault vm_faultPlace qm_lines qm_has qm_round qm_meets qm_stumble qm_isMud qm_cell qm_tune qm_change qm_isKept qm_steps qm_places qm_danced vm_runMost vm_runBegins qm_heardBy vm_fitMany vm_fitFirst vm_fitBeats vm_listenLeaves qm_there vm_metAt vm_metIn qm_wins vm_nightHoles vm_nightFirst vm_nightMud vm_nightSlips vm_drawnNow, (qm_lines, .inl (cI, 5, .inl (fm_lines))), (qm_has, .inl (cI, 55, .inl (fm_has))), (qm_round, .inl (cI, 120, .inl (fm_round))), (qm_meets, .inl (cI, 30, .inl (fm_meets)))] := ⟨hP.sub [3, 2, 4, 0, 1] rfl, hD.sub [3, 2, 4, 0, 1] (by decide) rfl⟩
        exact W.iret (v := (-2)) hx hb hr (fun t ht hW => ⟨⟨(-2), (0 : Int32), rfl, (show (-2) ≤ (-2 : Int32).toInt ∧ (-2 : Int32).toInt ≤ 32 by decide), by rw [ht]; exact hP9, hD9⟩, hS.F ht⟩) hS.2.2 dX12_mended_39
    · subst hz
      refine lv_if_eq (tgt := 37) hx hb dX12_mended_17 (by decide) (fun _ => ?_) (fun hc => absurd hc (by decide))
      refine lv_bipush (v := (-2)) hx hb dX12_mended_37 (by decide) ?_
      obtain ⟨hP9, hD9⟩ : ct_B D A H [mo qm 0 qm_width qm_many qm_cells qm_moved qm_tape vm_taped vm_at vm_token vm_place vm_value vm_word vm_bad vm_badPlace vm_fault vm_faultPlace qm_lines qm_has qm_round qm_meets qm_stumble qm_isMud qm_cell qm_tune qm_change qm_isKept qm_steps qm_places qm_danced vm_runMost vm_runBegins qm_heardBy vm_fitMany vm_fitFirst vm_fitBeats vm_listenLeaves qm_there vm_metAt vm_metIn qm_wins vm_nightHoles vm_nightFirst vm_nightMud vm_nightSlips vm_drawnNow, (qm_lines, .inl (cI, 5, .inl (fm_lines))), (qm_has, .inl (cI, 55, .inl (fm_has))), (qm_round, .inl (cI, 120, .inl (fm_round))), (qm_meets, .inl (cI, 30, .inl (fm_meets)))] := ⟨hP.sub [3, 2, 4, 0, 1] rfl, hD.sub [3, 2, 4, 0, 1] (by decide) rfl⟩
      exact W.iret (v := (-2)) hx hb hr (fun t ht hW => ⟨⟨(-2), (0 : Int32), rfl, (show (-2) ≤ (-2 : Int32).toInt ∧ (-2 : Int32).toInt ≤ 32 by decide), by rw [ht]; exact hP9, hD9⟩, hS.F ht⟩) hS.2.2 dX12_mended_39
  · subst hz
    refine lv_if_eq (tgt := 37) hx hb dX12_mended_10 (by decide) (fun _ => ?_) (fun hc => absurd hc (by decide))
    refine lv_bipush (v := (-2)) hx hb dX12_mended_37 (by decide) ?_
    obtain ⟨hP9, hD9⟩ : ct_B D A H [mo qm 0 qm_width qm_many qm_cells qm_moved qm_tape vm_taped vm_at vm_token vm_place vm_value vm_word vm_bad vm_badPlace vm_fault vm_faultPlace qm_lines qm_has qm_round qm_meets qm_stumble qm_isMud qm_cell qm_tune qm_change qm_isKept qm_steps qm_places qm_danced vm_runMost vm_runBegins qm_heardBy vm_fitMany vm_fitFirst vm_fitBeats vm_listenLeaves qm_there vm_metAt vm_metIn qm_wins vm_nightHoles vm_nightFirst vm_nightMud vm_nightSlips vm_drawnNow, (qm_lines, .inl (cI, 5, .inl (fm_lines))), (qm_has, .inl (cI, 55, .inl (fm_has))), (qm_round, .inl (cI, 120, .inl (fm_round))), (qm_meets, .inl (cI, 30, .inl (fm_meets)))] := ⟨hP.sub [3, 4, 0, 1, 2] rfl, hD.sub [3, 4, 0, 1, 2] (by decide) rfl⟩
    exact W.iret (v := (-2)) hx hb hr (fun t ht hW => ⟨⟨(-2), (0 : Int32), rfl, (show (-2) ≤ (-2 : Int32).toInt ∧ (-2 : Int32).toInt ≤ 32 by decide), by rw [ht]; exact hP9, hD9⟩, hS.F ht⟩) hS.2.2 dX12_mended_39
abbrev w_c_X12_stuck (cI cJ cB cZ cO : ClassId) (qm : Nat) (vm_thrown : Int32) (qm_width : Nat) (qm_many : Nat) (qm_cells : Nat) (qm_moved : Nat) (qm_tape : Nat) (vm_taped : Int32) (vm_at : Int32) (vm_token : Int32) (vm_place : Int32) (vm_value : Int32) (vm_word : Int64) (vm_bad : Int32) (vm_badPlace : Int32) (vm_fault : Int32) (vm_faultPlace : Int32) (qm_lines : Nat) (fm_lines : Nat → Int32) (qm_has : Nat) (fm_has : Nat → Int32) (qm_round : Nat) (fm_round : Nat → Int32) (qm_meets : Nat) (fm_meets : Nat → Int32) (qm_stumble : Nat) (qm_isMud : Nat) (qm_cell : Nat) (qm_tune : Nat) (qm_change : Nat) (qm_isKept : Nat) (qm_steps : Nat) (qm_places : Nat) (qm_danced : Nat) (vm_runMost : Int32) (vm_runBegins : Int32) (qm_heardBy : Nat) (vm_fitMany : Int32) (vm_fitFirst : Int32) (vm_fitBeats : Int64) (vm_listenLeaves : Int32) (qm_there : Nat) (vm_metAt : Int32) (vm_metIn : Int32) (qm_wins : Nat) (vm_nightHoles : Int32) (vm_nightFirst : Int32) (vm_nightMud : Int32) (vm_nightSlips : Int32) (vm_drawnNow : Int64) : va_W := [mo qm vm_thrown qm_width qm_many qm_cells qm_moved qm_tape vm_taped vm_at vm_token vm_place vm_value vm_word vm_bad vm_badPlace vm_fault vm_faultPlace qm_lines qm_has qm_round qm_meets qm_stumble qm_isMud qm_cell qm_tune qm_change qm_isKept qm_steps qm_places qm_danced vm_runMost vm_runBegins qm_heardBy vm_fitMany vm_fitFirst vm_fitBeats vm_listenLeaves qm_there vm_metAt vm_metIn qm_wins vm_nightHoles vm_nightFirst vm_nightMud vm_nightSlips vm_drawnNow, (qm_lines, .inl (cI, 5, .inl (fm_lines))), (qm_has, .inl (cI, 55, .inl (fm_has))), (qm_round, .inl (cI, 120, .inl (fm_round))), (qm_meets, .inl (cI, 30, .inl (fm_meets)))]
set_option maxHeartbeats 4000000 in
set_option maxRecDepth 100000 in
/-- X12 stuck -/
theorem c_X12_stuck (l : Launch) (D : va_G) (G : ct_G) (cI cJ cB cZ cO : ClassId) (qm : Nat) (vm_thrown : Int32) (qm_width : Nat) (qm_many : Nat) (qm_cells : Nat) (qm_moved : Nat) (qm_tape : Nat) (vm_taped : Int32) (vm_at : Int32) (vm_token : Int32) (vm_place : Int32) (vm_value : Int32) (vm_word : Int64) (vm_bad : Int32) (vm_badPlace : Int32) (vm_fault : Int32) (vm_faultPlace : Int32) (qm_lines : Nat) (fm_lines : Nat → Int32) (qm_has : Nat) (fm_has : Nat → Int32) (qm_round : Nat) (fm_round : Nat → Int32) (qm_meets : Nat) (fm_meets : Nat → Int32) (qm_stumble : Nat) (qm_isMud : Nat) (qm_cell : Nat) (qm_tune : Nat) (qm_change : Nat) (qm_isKept : Nat) (qm_steps : Nat) (qm_places : Nat) (qm_danced : Nat) (vm_runMost : Int32) (vm_runBegins : Int32) (qm_heardBy : Nat) (vm_fitMany : Int32) (vm_fitFirst : Int32) (vm_fitBeats : Int64) (vm_listenLeaves : Int32) (qm_there : Nat) (vm_metAt : Int32) (vm_metIn : Int32) (qm_wins : Nat) (vm_nightHoles : Int32) (vm_nightFirst : Int32) (vm_nightMud : Int32) (vm_nightSlips : Int32) (vm_drawnNow : Int64) (a1 : Int32) (h_vm_taped : 0 ≤ vm_taped.toInt ∧ vm_taped.toInt ≤ 1200) (h_vm_at : 0 ≤ vm_at.toInt ∧ vm_at.toInt ≤ 1200) (h_vm_value : 0 ≤ vm_value.toInt ∧ vm_value.toInt ≤ 1000009) (h_fm_has : ar_ok [0, (-2147483648), (-2147483648), 0, 0, 0, 0, 0, 0, 0, 0] [20, 2147483647, 2147483647, 12, 12, 11, 11, 8, 12, 5, 40] fm_has) (h_fm_round : ar_ok [0] [5] fm_round) (sz : Nat) : Met l yX12_stuck wsX12_stuck ({ frames := 17, cells := 0, slots := 0, locals := 368 }) (va_Pc [.ref qm, .int a1] (ct_P D (ct_T cI cJ cB cZ cO) G (w_c_X12_stuck cI cJ cB cZ cO qm vm_thrown qm_width qm_many qm_cells qm_moved qm_tape vm_taped vm_at vm_token vm_place vm_value vm_word vm_bad vm_badPlace vm_fault vm_faultPlace qm_lines fm_lines qm_has fm_has qm_round fm_round qm_meets fm_meets qm_stumble qm_isMud qm_cell qm_tune qm_change qm_isKept qm_steps qm_places qm_danced vm_runMost vm_runBegins qm_heardBy vm_fitMany vm_fitFirst vm_fitBeats vm_listenLeaves qm_there vm_metAt vm_metIn qm_wins vm_nightHoles vm_nightFirst vm_nightMud vm_nightSlips vm_drawnNow) sz)) (va_Qi (fun (rz : Int32) (u : Int32) => ((-2) ≤ rz.toInt ∧ rz.toInt ≤ 11)) (fun (u : Int32) t => ct_Q D (va_A (w_c_X12_stuck cI cJ cB cZ cO qm vm_thrown qm_width qm_many qm_cells qm_moved qm_tape vm_taped vm_at vm_token vm_place vm_value vm_word vm_bad vm_badPlace vm_fault vm_faultPlace qm_lines fm_lines qm_has fm_has qm_round fm_round qm_meets fm_meets qm_stumble qm_isMud qm_cell qm_tune qm_change qm_isKept qm_steps qm_places qm_danced vm_runMost vm_runBegins qm_heardBy vm_fitMany vm_fitFirst vm_fitBeats vm_listenLeaves qm_there vm_metAt vm_metIn qm_wins vm_nightHoles vm_nightFirst vm_nightMud vm_nightSlips vm_drawnNow) sz) [mo qm u qm_width qm_many qm_cells qm_moved qm_tape vm_taped vm_at vm_token vm_place vm_value vm_word vm_bad vm_badPlace vm_fault vm_faultPlace qm_lines qm_has qm_round qm_meets qm_stumble qm_isMud qm_cell qm_tune qm_change qm_isKept qm_steps qm_places qm_danced vm_runMost vm_runBegins qm_heardBy vm_fitMany vm_fitFirst vm_fitBeats vm_listenLeaves qm_there vm_metAt vm_metIn qm_wins vm_nightHoles vm_nightFirst vm_nightMud vm_nightSlips vm_drawnNow, (qm_lines, .inl (cI, 5, .inl (fm_lines))), (qm_has, .inl (cI, 55, .inl (fm_has))), (qm_round, .inl (cI, 120, .inl (fm_round))), (qm_meets, .inl (cI, 30, .inl (fm_meets)))] t) (va_A (w_c_X12_stuck cI cJ cB cZ cO qm vm_thrown qm_width qm_many qm_cells qm_moved qm_tape vm_taped vm_at vm_token vm_place vm_value vm_word vm_bad vm_badPlace vm_fault vm_faultPlace qm_lines fm_lines qm_has fm_has qm_round fm_round qm_meets fm_meets qm_stumble qm_isMud qm_cell qm_tune qm_change qm_isKept qm_steps qm_places qm_danced vm_runMost vm_runBegins qm_heardBy vm_fitMany vm_fitFirst vm_fitBeats vm_listenLeaves qm_there vm_metAt vm_metIn qm_wins vm_nightHoles vm_nightFirst vm_nightMud vm_nightSlips vm_drawnNow) sz)) 0 0 (va_A (w_c_X12_stuck cI cJ cB cZ cO qm vm_thrown qm_width qm_many qm_cells qm_moved qm_tape vm_taped vm_at vm_token vm_place vm_value vm_word vm_bad vm_badPlace vm_fault vm_faultPlace qm_lines fm_lines qm_has fm_has qm_round fm_round qm_meets fm_meets qm_stumble qm_isMud qm_cell qm_tune qm_change qm_isKept qm_steps qm_places qm_danced vm_runMost vm_runBegins qm_heardBy vm_fitMany vm_fitFirst vm_fitBeats vm_listenLeaves qm_there vm_metAt vm_metIn qm_wins vm_nightHoles vm_nightFirst vm_nightMud vm_nightSlips vm_drawnNow) sz) := by
  refine Met.ofW (cc := cX12_stuck) (maxL := 2) (ret := (some .int)) (by decide) rfl ?_
  intro p e s m args below meth c s₁ B hml hv
  obtain ⟨rfl, hsz, hP, hE, hD0, hH⟩ := hv
  have hx := B.exec
  have hb := B.bytes
  have hr := B.returns
  have hts := atoms_spec (ws := wsX12_stuck) B.pre
  have hown : s.vm.findClass RX12 = some m.cls := findClass_of_methodNamed B.named
  have hlocks := B.notSynchronized
  have hK := hE.1
  have hi12 : ∀ w ∈ u_ws RX12 TX12 45, w ∈ wsX12_stuck := fun w h => List.mem_cons_of_mem _ (List.mem_append_right _ h)
  subst hsz
  have hD := hD0.self (sz := s.heap.size)
  generalize hAe : va_A (w_c_X12_stuck cI cJ cB cZ cO qm vm_thrown qm_width qm_many qm_cells qm_moved qm_tape vm_taped vm_at vm_token vm_place vm_value vm_word vm_bad vm_badPlace vm_fault vm_faultPlace qm_lines fm_lines qm_has fm_has qm_round fm_round qm_meets fm_meets qm_stumble qm_isMud qm_cell qm_tune qm_change qm_isKept qm_steps qm_places qm_danced vm_runMost vm_runBegins qm_heardBy vm_fitMany vm_fitFirst vm_fitBeats vm_listenLeaves qm_there vm_metAt vm_metIn qm_wins vm_nightHoles vm_nightFirst vm_nightMud vm_nightSlips vm_drawnNow) s.heap.size = A at hD hH ⊢
  have hA : ∀ q : Nat, s.heap.size ≤ q → A q := fun q h => by rw [← hAe]; exact Or.inr h
  have hS : va_S A s.heap s.heap [] := va_S.rf
  obtain ⟨hP, hD⟩ : ct_B D A s.heap [mo qm vm_thrown qm_width qm_many qm_cells qm_moved qm_tape vm_taped vm_at vm_token vm_place vm_value vm_word vm_bad vm_badPlace vm_fault vm_faultPlace qm_lines qm_has qm_round qm_meets qm_stumble qm_isMud qm_cell qm_tune qm_change qm_isKept qm_steps qm_places qm_danced vm_runMost vm_runBegins qm_heardBy vm_fitMany vm_fitFirst vm_fitBeats vm_listenLeaves qm_there vm_metAt vm_metIn qm_wins vm_nightHoles vm_nightFirst vm_nightMud vm_nightSlips vm_drawnNow, (qm_lines, .inl (cI, 5, .inl (fm_lines))), (qm_has, .inl (cI, 55, .inl (fm_has))), (qm_round, .inl (cI, 120, .inl (fm_round))), (qm_meets, .inl (cI, 30, .inl (fm_meets)))] := ⟨hP, hD⟩
  have hl := lv_entry ([.ref qm, .int a1]) (n := 2) (Nat.le_of_ble_eq_true rfl)
  rw [lg_entry_eq]
  generalize (lg_sl ([.ref qm, .int a1]) ++ List.replicate (2 - (lg_sl ([.ref qm, .int a1])).length) Slot.unset).toArray = ls at hl ⊢
  have hl : lv_has ls 2 [(0, .ref qm), (1, .int a1)] := hl
  obtain ⟨H, hHe⟩ : ∃ H : Heap, H = s.heap := ⟨_, rfl⟩
  rw [← hHe] at hP
  have hS : va_S A s.heap H [] := by rw [hHe]; exact va_S.rf
  refine ct_start hHe ?_
  refine lv_aload_n hx hb dX12_stuck_0 rfl (lv_at hl 0 rfl) ?_
  refine lv_iconst (v := 0) hx hb dX12_stuck_1 (by decide) ?_
  refine va_put (D := D) (ci := 12) (v := .int 0) (ty := .int) (C := RX12) (T := TX12) (N := 45) hx hb hts hi12 tyX12 tyX12_ok nmX12 hown hK hP hD hS 0 rfl rfl 0 (by decide) (hts (.fieldLink RX12 80 "OverHillModel" "thrown" "I") (by decide +kernel)) (fun _ h9 => h9) rfl (by decide +kernel) rfl rfl (Nat.le_of_ble_eq_true rfl) dX12_stuck_2 (fun H locs hP hD hS => ?_)
  obtain ⟨hP, hD⟩ : ct_B D A H [mo qm 0 qm_width qm_many qm_cells qm_moved qm_tape vm_taped vm_at vm_token vm_place vm_value vm_word vm_bad vm_badPlace vm_fault vm_faultPlace qm_lines qm_has qm_round qm_meets qm_stumble qm_isMud qm_cell qm_tune qm_change qm_isKept qm_steps qm_places qm_danced vm_runMost vm_runBegins qm_heardBy vm_fitMany vm_fitFirst vm_fitBeats vm_listenLeaves qm_there vm_metAt vm_metIn qm_wins vm_nightHoles vm_nightFirst vm_nightMud vm_nightSlips vm_drawnNow, (qm_lines, .inl (cI, 5, .inl (fm_lines))), (qm_has, .inl (cI, 55, .inl (fm_has))), (qm_round, .inl (cI, 120, .inl (fm_round))), (qm_meets, .inl (cI, 30, .inl (fm_meets)))] := ⟨hP, hD⟩
  refine lv_aload_n hx hb dX12_stuck_5 rfl (lv_at hl 0 rfl) ?_
  refine lv_iload_n hx hb dX12_stuck_6 rfl (lv_at hl 1 rfl) ?_
  refine ct_calli (D := D) (wr := [(qm_has, .inl (cI, 55, .inl (fm_has))), (qm_round, .inl (cI, 120, .inl (fm_round))), (qm_meets, .inl (cI, 30, .inl (fm_meets)))]) (va_runV (As := [.int a1]) (rest := []) ⟨hx, hb, hml, hown, hts⟩ (c_X12_isSide l D G cI cJ cB cZ cO qm 0 qm_width qm_many qm_cells qm_moved qm_tape vm_taped vm_at vm_token vm_place vm_value vm_word vm_bad vm_badPlace vm_fault vm_faultPlace qm_lines fm_lines qm_has qm_round qm_meets qm_stumble qm_isMud qm_cell qm_tune qm_change qm_isKept qm_steps qm_places qm_danced vm_runMost vm_runBegins qm_heardBy vm_fitMany vm_fitFirst vm_fitBeats vm_listenLeaves qm_there vm_metAt vm_metIn qm_wins vm_nightHoles vm_nightFirst vm_nightMud vm_nightSlips vm_drawnNow a1 h_vm_taped h_vm_at h_vm_value H.size) (cwV 1 hts gX12_stuck_X12_isSide rfl rfl rfl (by decide +kernel) ⟨Nat.le_of_ble_eq_true rfl, Nat.le_of_ble_eq_true rfl⟩) (ct_preV (T := ct_T cI cJ cB cZ cO) (ci := 12) (q0 := 0) hE hH hP hD hS hA [0, 1] (by decide) rfl rfl rfl) rfl rfl hl.1 rfl (lv_room (Nat.le_of_ble_eq_true rfl)) dX12_stuck_7 ⟨Nat.le_of_ble_eq_true rfl, Nat.le_of_ble_eq_true rfl⟩) hP hD hS hA [0, 1] [2, 3, 4] rfl rfl (by decide) (by decide) (fun r1 u H locs hw hP hD hS => ?_)
  obtain ⟨hP, hD⟩ : ct_B D A H [(qm_has, .inl (cI, 55, .inl (fm_has))), (qm_round, .inl (cI, 120, .inl (fm_round))), (qm_meets, .inl (cI, 30, .inl (fm_meets))), mo qm 0 qm_width qm_many qm_cells qm_moved qm_tape vm_taped vm_at vm_token vm_place vm_value vm_word vm_bad vm_badPlace vm_fault vm_faultPlace qm_lines qm_has qm_round qm_meets qm_stumble qm_isMud qm_cell qm_tune qm_change qm_isKept qm_steps qm_places qm_danced vm_runMost vm_runBegins qm_heardBy vm_fitMany vm_fitFirst vm_fitBeats vm_listenLeaves qm_there vm_metAt vm_metIn qm_wins vm_nightHoles vm_nightFirst vm_nightMud vm_nightSlips vm_drawnNow, (qm_lines, .inl (cI, 5, .inl (fm_lines)))] := ⟨hP, hD⟩
  have hz := hw
  clear hw
  rcases hz with ⟨hz, hz2⟩ | ⟨hz, hz2⟩
  · subst hz
    have hz_2 : (0 ≤ a1.toInt ∧ a1.toInt < 2) := hz2
    refine lv_if_eq (tgt := 28) hx hb dX12_stuck_10 (by decide) (fun hc => absurd hc (by decide)) (fun _ => ?_)
    refine lv_aload_n hx hb dX12_stuck_13 rfl (lv_at hl 0 rfl) ?_
    refine ct_calli (D := D) (wr := [(qm_round, .inl (cI, 120, .inl (fm_round))), (qm_meets, .inl (cI, 30, .inl (fm_meets))), (qm_lines, .inl (cI, 5, .inl (fm_lines)))]) (va_runV (As := []) (rest := []) ⟨hx, hb, hml, hown, hts⟩ (c_X12_areRounds l D G cI cJ cB cZ cO qm 0 qm_width qm_many qm_cells qm_moved qm_tape vm_taped vm_at vm_token vm_place vm_value vm_word vm_bad vm_badPlace vm_fault vm_faultPlace qm_lines qm_has fm_has qm_round qm_meets qm_stumble qm_isMud qm_cell qm_tune qm_change qm_isKept qm_steps qm_places qm_danced vm_runMost vm_runBegins qm_heardBy vm_fitMany vm_fitFirst vm_fitBeats vm_listenLeaves qm_there vm_metAt vm_metIn qm_wins vm_nightHoles vm_nightFirst vm_nightMud vm_nightSlips vm_drawnNow h_vm_taped h_vm_at h_vm_value h_fm_has H.size) (cwV 0 hts gX12_stuck_X12_areRounds rfl rfl rfl (by decide +kernel) ⟨Nat.le_of_ble_eq_true rfl, Nat.le_of_ble_eq_true rfl⟩) (ct_preV (T := ct_T cI cJ cB cZ cO) (ci := 12) (q0 := 3) hE hH hP hD hS hA [3, 0] (by decide) rfl rfl rfl) rfl rfl hl.1 rfl (lv_room (Nat.le_of_ble_eq_true rfl)) dX12_stuck_14 ⟨Nat.le_of_ble_eq_true rfl, Nat.le_of_ble_eq_true rfl⟩) hP hD hS hA [3, 0] [1, 2, 4] rfl rfl (by decide) (by decide) (fun r3 u H locs hw hP hD hS => ?_)
    obtain ⟨hP, hD⟩ : ct_B D A H [(qm_round, .inl (cI, 120, .inl (fm_round))), (qm_meets, .inl (cI, 30, .inl (fm_meets))), (qm_lines, .inl (cI, 5, .inl (fm_lines))), mo qm 0 qm_width qm_many qm_cells qm_moved qm_tape vm_taped vm_at vm_token vm_place vm_value vm_word vm_bad vm_badPlace vm_fault vm_faultPlace qm_lines qm_has qm_round qm_meets qm_stumble qm_isMud qm_cell qm_tune qm_change qm_isKept qm_steps qm_places qm_danced vm_runMost vm_runBegins qm_heardBy vm_fitMany vm_fitFirst vm_fitBeats vm_listenLeaves qm_there vm_metAt vm_metIn qm_wins vm_nightHoles vm_nightFirst vm_nightMud vm_nightSlips vm_drawnNow, (qm_has, .inl (cI, 55, .inl (fm_has)))] := ⟨hP, hD⟩
    have hz := hw
    clear hw
    rcases hz with ⟨hz, hz2⟩ | ⟨hz, hz2⟩
    · subst hz
      have hz_4 : 1 ≤ (fm_has 3).toInt ∧ 1 ≤ (fm_has 4).toInt := hz2
      refine lv_if_eq (tgt := 28) hx hb dX12_stuck_17 (by decide) (fun hc => absurd hc (by decide)) (fun _ => ?_)
      refine lv_aload_n hx hb dX12_stuck_20 rfl (lv_at hl 0 rfl) ?_
      refine lv_iload_n hx hb dX12_stuck_21 rfl (lv_at hl 1 rfl) ?_
      refine ct_calli (D := D) (wr := [(qm_lines, .inl (cI, 5, .inl (fm_lines)))]) (va_runV (As := [.int a1]) (rest := []) ⟨hx, hb, hml, hown, hts⟩ (c_X12_stuckOf l D G cI cJ cB cZ cO qm 0 qm_width qm_many qm_cells qm_moved qm_tape vm_taped vm_at vm_token vm_place vm_value vm_word vm_bad vm_badPlace vm_fault vm_faultPlace qm_lines qm_has fm_has qm_round fm_round qm_meets fm_meets qm_stumble qm_isMud qm_cell qm_tune qm_change qm_isKept qm_steps qm_places qm_danced vm_runMost vm_runBegins qm_heardBy vm_fitMany vm_fitFirst vm_fitBeats vm_listenLeaves qm_there vm_metAt vm_metIn qm_wins vm_nightHoles vm_nightFirst vm_nightMud vm_nightSlips vm_drawnNow a1 h_vm_taped h_vm_at h_vm_value h_fm_has h_fm_round (by omega) hz_4 H.size) (cwV 1 hts gX12_stuck_X12_stuckOf rfl rfl rfl (by decide +kernel) ⟨Nat.le_of_ble_eq_true rfl, Nat.le_of_ble_eq_true rfl⟩) (ct_preV (T := ct_T cI cJ cB cZ cO) (ci := 12) (q0 := 3) hE hH hP hD hS hA [3, 4, 0, 1] (by decide) rfl rfl rfl) rfl rfl hl.1 rfl (lv_room (Nat.le_of_ble_eq_true rfl)) dX12_stuck_22 ⟨Nat.le_of_ble_eq_true rfl, Nat.le_of_ble_eq_true rfl⟩) hP hD hS hA [3, 4, 0, 1] [2] rfl rfl (by decide) (by decide) (fun r5 u H locs hw hP hD hS => ?_)
      obtain ⟨hP, hD⟩ : ct_B D A H [(qm_lines, .inl (cI, 5, .inl (fm_lines))), mo qm 0 qm_width qm_many qm_cells qm_moved qm_tape vm_taped vm_at vm_token vm_place vm_value vm_word vm_bad vm_badPlace vm_fault vm_faultPlace qm_lines qm_has qm_round qm_meets qm_stumble qm_isMud qm_cell qm_tune qm_change qm_isKept qm_steps qm_places qm_danced vm_runMost vm_runBegins qm_heardBy vm_fitMany vm_fitFirst vm_fitBeats vm_listenLeaves qm_there vm_metAt vm_metIn qm_wins vm_nightHoles vm_nightFirst vm_nightMud vm_nightSlips vm_drawnNow, (qm_has, .inl (cI, 55, .inl (fm_has))), (qm_round, .inl (cI, 120, .inl (fm_round))), (qm_meets, .inl (cI, 30, .inl (fm_meets)))] := ⟨hP, hD⟩
      have hz := hw
      clear hw
      have h_r5 : (-1) ≤ r5.toInt ∧ r5.toInt ≤ 11 := hz
      clear hz
      refine lv_goto (tgt := 30) hx hb dX12_stuck_25 (by decide) ?_
      obtain ⟨hP9, hD9⟩ : ct_B D A H [mo qm 0 qm_width qm_many qm_cells qm_moved qm_tape vm_taped vm_at vm_token vm_place vm_value vm_word vm_bad vm_badPlace vm_fault vm_faultPlace qm_lines qm_has qm_round qm_meets qm_stumble qm_isMud qm_cell qm_tune qm_change qm_isKept qm_steps qm_places qm_danced vm_runMost vm_runBegins qm_heardBy vm_fitMany vm_fitFirst vm_fitBeats vm_listenLeaves qm_there vm_metAt vm_metIn qm_wins vm_nightHoles vm_nightFirst vm_nightMud vm_nightSlips vm_drawnNow, (qm_lines, .inl (cI, 5, .inl (fm_lines))), (qm_has, .inl (cI, 55, .inl (fm_has))), (qm_round, .inl (cI, 120, .inl (fm_round))), (qm_meets, .inl (cI, 30, .inl (fm_meets)))] := ⟨hP.sub [1, 0, 2, 3, 4] rfl, hD.sub [1, 0, 2, 3, 4] (by decide) rfl⟩
      exact W.iret (v := r5) hx hb hr (fun t ht hW => ⟨⟨r5, (0 : Int32), rfl, (show (-2) ≤ r5.toInt ∧ r5.toInt ≤ 11 by omega), by rw [ht]; exact hP9, hD9⟩, hS.F ht⟩) hS.2.2 dX12_stuck_30
    · subst hz
      refine lv_if_eq (tgt := 28) hx hb dX12_stuck_17 (by decide) (fun _ => ?_) (fun hc => absurd hc (by decide))
      refine lv_bipush (v := (-2)) hx hb dX12_stuck_28 (by decide) ?_
      obtain ⟨hP9, hD9⟩ : ct_B D A H [mo qm 0 qm_width qm_many qm_cells qm_moved qm_tape vm_taped vm_at vm_token vm_place vm_value vm_word vm_bad vm_badPlace vm_fault vm_faultPlace qm_lines qm_has qm_round qm_meets qm_stumble qm_isMud qm_cell qm_tune qm_change qm_isKept qm_steps qm_places qm_danced vm_runMost vm_runBegins qm_heardBy vm_fitMany vm_fitFirst vm_fitBeats vm_listenLeaves qm_there vm_metAt vm_metIn qm_wins vm_nightHoles vm_nightFirst vm_nightMud vm_nightSlips vm_drawnNow, (qm_lines, .inl (cI, 5, .inl (fm_lines))), (qm_has, .inl (cI, 55, .inl (fm_has))), (qm_round, .inl (cI, 120, .inl (fm_round))), (qm_meets, .inl (cI, 30, .inl (fm_meets)))] := ⟨hP.sub [3, 2, 4, 0, 1] rfl, hD.sub [3, 2, 4, 0, 1] (by decide) rfl⟩
      exact W.iret (v := (-2)) hx hb hr (fun t ht hW => ⟨⟨(-2), (0 : Int32), rfl, (show (-2) ≤ (-2 : Int32).toInt ∧ (-2 : Int32).toInt ≤ 11 by decide), by rw [ht]; exact hP9, hD9⟩, hS.F ht⟩) hS.2.2 dX12_stuck_30
  · subst hz
    refine lv_if_eq (tgt := 28) hx hb dX12_stuck_10 (by decide) (fun _ => ?_) (fun hc => absurd hc (by decide))
    refine lv_bipush (v := (-2)) hx hb dX12_stuck_28 (by decide) ?_
    obtain ⟨hP9, hD9⟩ : ct_B D A H [mo qm 0 qm_width qm_many qm_cells qm_moved qm_tape vm_taped vm_at vm_token vm_place vm_value vm_word vm_bad vm_badPlace vm_fault vm_faultPlace qm_lines qm_has qm_round qm_meets qm_stumble qm_isMud qm_cell qm_tune qm_change qm_isKept qm_steps qm_places qm_danced vm_runMost vm_runBegins qm_heardBy vm_fitMany vm_fitFirst vm_fitBeats vm_listenLeaves qm_there vm_metAt vm_metIn qm_wins vm_nightHoles vm_nightFirst vm_nightMud vm_nightSlips vm_drawnNow, (qm_lines, .inl (cI, 5, .inl (fm_lines))), (qm_has, .inl (cI, 55, .inl (fm_has))), (qm_round, .inl (cI, 120, .inl (fm_round))), (qm_meets, .inl (cI, 30, .inl (fm_meets)))] := ⟨hP.sub [3, 4, 0, 1, 2] rfl, hD.sub [3, 4, 0, 1, 2] (by decide) rfl⟩
    exact W.iret (v := (-2)) hx hb hr (fun t ht hW => ⟨⟨(-2), (0 : Int32), rfl, (show (-2) ≤ (-2 : Int32).toInt ∧ (-2 : Int32).toInt ≤ 11 by decide), by rw [ht]; exact hP9, hD9⟩, hS.F ht⟩) hS.2.2 dX12_stuck_30
