abbrev w_ih (cI cJ cB cZ cO : ClassId) : va_W := []
set_option maxHeartbeats 4000000 in
set_option maxRecDepth 100000 in
/-- Euclid, of ints -/
theorem c_X12_common (l : Launch) (D : va_G) (G : ct_G) (cI cJ cB cZ cO : ClassId) (d : Nat) : ∀ (a1 a2 : Int32) (h_c : (0 ≤ a2.toInt ∧ a2.toInt ≤ (d : Int) ∧ 0 ≤ a1.toInt ∧ (1 ≤ a1.toInt ∨ 1 ≤ a2.toInt))) (sz : Nat), Met l yX12_common wsX12_common ({ frames := d, cells := 0, slots := 0, locals := 21 * d }) (va_Pc [.int a1, .int a2] (ct_P D (ct_T cI cJ cB cZ cO) G [] sz)) (va_Qi (fun (rz : Int32) (u : Unit) => (1 ≤ rz.toInt)) (fun (u : Unit) t => ct_Q D (va_A [] sz) [] t) (va_A [] sz)) 0 0 (va_A [] sz) := by
  induction d with
  | zero =>
    intro a1 a2 h_c sz
    refine Met.ofW (cc := cX12_common) (maxL := 2) (ret := (some .int)) (by decide) rfl ?_
    intro p e s m args below meth c s₁ B hml hv
    obtain ⟨rfl, hsz, hP, hE, hD0, hH⟩ := hv
    have hx := B.exec
    have hb := B.bytes
    have hr := B.returns
    have hts := atoms_spec (ws := wsX12_common) B.pre
    have hown : s.vm.findClass RX12 = some m.cls := findClass_of_methodNamed B.named
    have hlocks := B.notSynchronized
    have hK := hE.1
    subst hsz
    have hD := hD0.self (sz := s.heap.size)
    generalize hAe : va_A [] s.heap.size = A at hD hH ⊢
    have hA : ∀ q : Nat, s.heap.size ≤ q → A q := fun q h => by rw [← hAe]; exact Or.inr h
    have hP : va_P D vwCl [] s.heap := hP
    have hD : va_D A [] := hD
    have hl := lv_entry ([.int a1, .int a2]) (n := 2) (Nat.le_of_ble_eq_true rfl)
    rw [lg_entry_eq]
    generalize (lg_sl ([.int a1, .int a2]) ++ List.replicate (2 - (lg_sl ([.int a1, .int a2])).length) Slot.unset).toArray = ls at hl ⊢
    have hl : lv_has ls 2 [(0, .int a1), (1, .int a2)] := hl
    obtain ⟨H, hHe⟩ : ∃ H : Heap, H = s.heap := ⟨_, rfl⟩
    rw [← hHe] at hP
    have hS : va_S A s.heap H [] := by rw [hHe]; exact va_S.rf
    refine ct_start hHe ?_
    have hz0 : a2.toInt = 0 := cm_zero h_c
    refine lv_iload_n hx hb dX12_common_0 rfl (lv_at hl 1 rfl) ?_
    refine lv_if_ne (tgt := 8) hx hb dX12_common_1 (by decide) (fun hc => ?_) (fun hc => ?_)
    · have hq1 : a2.toInt ≠ 0 := tq_ne rfl (by decide) hc
      omega
    · have hq1 : a2.toInt = 0 := tq_eq rfl (by decide) hc
      refine lv_iload_n hx hb dX12_common_4 rfl (lv_at hl 0 rfl) ?_
      refine lv_goto (tgt := 15) hx hb dX12_common_5 (by decide) ?_
      obtain ⟨hP9, hD9⟩ : ct_B D A H [] := ⟨hP.sub [] rfl, hD.sub [] (by decide) rfl⟩
      exact W.iret (v := a1) hx hb hr (fun t ht hW => ⟨⟨a1, (), rfl, (show 1 ≤ a1.toInt by omega), by rw [ht]; exact hP9, hD9⟩, hS.F ht⟩) hS.2.2 dX12_common_15
  | succ d ih =>
    intro a1 a2 h_c sz
    refine Met.ofW (cc := cX12_common) (maxL := 2) (ret := (some .int)) (by decide) rfl ?_
    intro p e s m args below meth c s₁ B hml hv
    obtain ⟨rfl, hsz, hP, hE, hD0, hH⟩ := hv
    have hx := B.exec
    have hb := B.bytes
    have hr := B.returns
    have hts := atoms_spec (ws := wsX12_common) B.pre
    have hown : s.vm.findClass RX12 = some m.cls := findClass_of_methodNamed B.named
    have hlocks := B.notSynchronized
    have hK := hE.1
    subst hsz
    have hD := hD0.self (sz := s.heap.size)
    generalize hAe : va_A [] s.heap.size = A at hD hH ⊢
    have hA : ∀ q : Nat, s.heap.size ≤ q → A q := fun q h => by rw [← hAe]; exact Or.inr h
    have hP : va_P D vwCl [] s.heap := hP
    have hD : va_D A [] := hD
    have hl := lv_entry ([.int a1, .int a2]) (n := 2) (Nat.le_of_ble_eq_true rfl)
    rw [lg_entry_eq]
    generalize (lg_sl ([.int a1, .int a2]) ++ List.replicate (2 - (lg_sl ([.int a1, .int a2])).length) Slot.unset).toArray = ls at hl ⊢
    have hl : lv_has ls 2 [(0, .int a1), (1, .int a2)] := hl
    obtain ⟨H, hHe⟩ : ∃ H : Heap, H = s.heap := ⟨_, rfl⟩
    rw [← hHe] at hP
    have hS : va_S A s.heap H [] := by rw [hHe]; exact va_S.rf
    refine ct_start hHe ?_
    refine lv_iload_n hx hb dX12_common_0 rfl (lv_at hl 1 rfl) ?_
    refine lv_if_ne (tgt := 8) hx hb dX12_common_1 (by decide) (fun hc => ?_) (fun hc => ?_)
    · have hq2 : a2.toInt ≠ 0 := tq_ne rfl (by decide) hc
      have hb3 := tq_lo a2
      refine lv_iload_n hx hb dX12_common_8 rfl (lv_at hl 1 rfl) ?_
      refine lv_iload_n hx hb dX12_common_9 rfl (lv_at hl 0 rfl) ?_
      refine lv_iload_n hx hb dX12_common_10 rfl (lv_at hl 1 rfl) ?_
      refine lv_irem hx hb dX12_common_11 (tq_nz (by omega)) ?_
      refine lv_topi (fun z4 ez4 => ?_)
      refine ct_calli (D := D) (wr := []) (va_runS (As := [.int a2, .int z4]) (rest := []) ⟨hx, hb, hml, hown, hts⟩ (ih a2 z4 (cm_step h_c (by omega) ez4) H.size) (va_cwS 2 hts gX12_common_X12_common rfl rfl rfl (by decide +kernel) ⟨Nat.le_refl _, by show 8 + (2 + 11) + 21 * d ≤ 21 * (d + 1); omega⟩) (ct_preS (T := ct_T cI cJ cB cZ cO) hE hH hP hD hS hA [] (by decide) rfl) rfl rfl hl.1 rfl (lv_room (Nat.le_of_ble_eq_true rfl)) dX12_common_12 ⟨Nat.le_of_ble_eq_true rfl, Nat.le_of_ble_eq_true rfl⟩) hP hD hS hA [] [] rfl rfl (by decide) (by decide) (fun r5 u H locs hw hP hD hS => ?_)
      obtain ⟨hP, hD⟩ : ct_B D A H [] := ⟨hP, hD⟩
      have hp0 := hw
      clear hw
      have hp_6 : 1 ≤ r5.toInt := hp0
      clear hp0
      obtain ⟨hP9, hD9⟩ : ct_B D A H [] := ⟨hP.sub [] rfl, hD.sub [] (by decide) rfl⟩
      exact W.iret (v := r5) hx hb hr (fun t ht hW => ⟨⟨r5, (), rfl, (show 1 ≤ r5.toInt by omega), by rw [ht]; exact hP9, hD9⟩, hS.F ht⟩) hS.2.2 dX12_common_15
    · have hq2 : a2.toInt = 0 := tq_eq rfl (by decide) hc
      have hb7 := tq_lo a2
      refine lv_iload_n hx hb dX12_common_4 rfl (lv_at hl 0 rfl) ?_
      refine lv_goto (tgt := 15) hx hb dX12_common_5 (by decide) ?_
      obtain ⟨hP9, hD9⟩ : ct_B D A H [] := ⟨hP.sub [] rfl, hD.sub [] (by decide) rfl⟩
      exact W.iret (v := a1) hx hb hr (fun t ht hW => ⟨⟨a1, (), rfl, (show 1 ≤ a1.toInt by omega), by rw [ht]; exact hP9, hD9⟩, hS.F ht⟩) hS.2.2 dX12_common_15
set_option maxHeartbeats 4000000 in
set_option maxRecDepth 100000 in
/-- Euclid, of longs -/
theorem c_X12_commonLong (l : Launch) (D : va_G) (G : ct_G) (cI cJ cB cZ cO : ClassId) (d : Nat) : ∀ (a1 a2 : Int64) (h_c : cl_ok d a1.toInt a2.toInt) (sz : Nat), Met l yX12_commonLong wsX12_commonLong ({ frames := d, cells := 0, slots := 0, locals := 23 * d }) (va_Pc [.long a1, .long a2] (ct_P D (ct_T cI cJ cB cZ cO) G [] sz)) (va_Ql (fun (rz : Int64) (u : Unit) => (rz.toInt ≠ 0)) (fun (u : Unit) t => ct_Q D (va_A [] sz) [] t) (va_A [] sz)) 0 0 (va_A [] sz) := by
  induction d with
  | zero =>
    intro a1 a2 h_c sz
    refine Met.ofW (cc := cX12_commonLong) (maxL := 4) (ret := (some .long)) (by decide) rfl ?_
    intro p e s m args below meth c s₁ B hml hv
    obtain ⟨rfl, hsz, hP, hE, hD0, hH⟩ := hv
    have hx := B.exec
    have hb := B.bytes
    have hr := B.returns
    have hts := atoms_spec (ws := wsX12_commonLong) B.pre
    have hown : s.vm.findClass RX12 = some m.cls := findClass_of_methodNamed B.named
    have hlocks := B.notSynchronized
    have hK := hE.1
    subst hsz
    have hD := hD0.self (sz := s.heap.size)
    generalize hAe : va_A [] s.heap.size = A at hD hH ⊢
    have hA : ∀ q : Nat, s.heap.size ≤ q → A q := fun q h => by rw [← hAe]; exact Or.inr h
    have hP : va_P D vwCl [] s.heap := hP
    have hD : va_D A [] := hD
    have hl := lv_entry ([.long a1, .long a2]) (n := 4) (Nat.le_of_ble_eq_true rfl)
    rw [lg_entry_eq]
    generalize (lg_sl ([.long a1, .long a2]) ++ List.replicate (4 - (lg_sl ([.long a1, .long a2])).length) Slot.unset).toArray = ls at hl ⊢
    have hl : lv_has ls 4 [(0, .long a1), (2, .long a2)] := hl
    obtain ⟨H, hHe⟩ : ∃ H : Heap, H = s.heap := ⟨_, rfl⟩
    rw [← hHe] at hP
    have hS : va_S A s.heap H [] := by rw [hHe]; exact va_S.rf
    refine ct_start hHe ?_
    have hz0 : a2.toInt = 0 := cl_zero h_c
    have hc1 := h_c.1
    refine lv_lload_n hx hb dX12_commonLong_0 rfl (lv_at hl 1 rfl) ?_
    refine lv_lconst (v := 0) hx hb dX12_commonLong_1 (by decide) ?_
    refine W.lcmp hx hb dX12_commonLong_2 ?_
    refine lv_if_ne (tgt := 10) hx hb dX12_commonLong_3 (by decide) (fun hc => ?_) (fun hc => ?_)
    · have hq1 : a2.toInt ≠ 0 := tl_ne rfl (by decide) (fun z => hc ((lg_cmp_eq _ _).mpr z))
      omega
    · have hq1 : a2.toInt = 0 := tl_eq rfl (by decide) ((lg_cmp_eq _ _).mp hc)
      refine lv_lload_n hx hb dX12_commonLong_6 rfl (lv_at hl 0 rfl) ?_
      refine lv_goto (tgt := 17) hx hb dX12_commonLong_7 (by decide) ?_
      obtain ⟨hP9, hD9⟩ : ct_B D A H [] := ⟨hP.sub [] rfl, hD.sub [] (by decide) rfl⟩
      exact W.lret (v := a1) hx hb hr (fun t ht hW => ⟨⟨a1, (), rfl, (show a1.toInt ≠ 0 by omega), by rw [ht]; exact hP9, hD9⟩, hS.F ht⟩) hS.2.2 dX12_commonLong_17
  | succ d ih =>
    intro a1 a2 h_c sz
    refine Met.ofW (cc := cX12_commonLong) (maxL := 4) (ret := (some .long)) (by decide) rfl ?_
    intro p e s m args below meth c s₁ B hml hv
    obtain ⟨rfl, hsz, hP, hE, hD0, hH⟩ := hv
    have hx := B.exec
    have hb := B.bytes
    have hr := B.returns
    have hts := atoms_spec (ws := wsX12_commonLong) B.pre
    have hown : s.vm.findClass RX12 = some m.cls := findClass_of_methodNamed B.named
    have hlocks := B.notSynchronized
    have hK := hE.1
    subst hsz
    have hD := hD0.self (sz := s.heap.size)
    generalize hAe : va_A [] s.heap.size = A at hD hH ⊢
    have hA : ∀ q : Nat, s.heap.size ≤ q → A q := fun q h => by rw [← hAe]; exact Or.inr h
    have hP : va_P D vwCl [] s.heap := hP
    have hD : va_D A [] := hD
    have hl := lv_entry ([.long a1, .long a2]) (n := 4) (Nat.le_of_ble_eq_true rfl)
    rw [lg_entry_eq]
    generalize (lg_sl ([.long a1, .long a2]) ++ List.replicate (4 - (lg_sl ([.long a1, .long a2])).length) Slot.unset).toArray = ls at hl ⊢
    have hl : lv_has ls 4 [(0, .long a1), (2, .long a2)] := hl
    obtain ⟨H, hHe⟩ : ∃ H : Heap, H = s.heap := ⟨_, rfl⟩
    rw [← hHe] at hP
    have hS : va_S A s.heap H [] := by rw [hHe]; exact va_S.rf
    refine ct_start hHe ?_
    have hc1 := h_c.1
    refine lv_lload_n hx hb dX12_commonLong_0 rfl (lv_at hl 1 rfl) ?_
    refine lv_lconst (v := 0) hx hb dX12_commonLong_1 (by decide) ?_
    refine W.lcmp hx hb dX12_commonLong_2 ?_
    refine lv_if_ne (tgt := 10) hx hb dX12_commonLong_3 (by decide) (fun hc => ?_) (fun hc => ?_)
    · have hq2 : a2.toInt ≠ 0 := tl_ne rfl (by decide) (fun z => hc ((lg_cmp_eq _ _).mpr z))
      refine lv_lload_n hx hb dX12_commonLong_10 rfl (lv_at hl 1 rfl) ?_
      refine lv_lload_n hx hb dX12_commonLong_11 rfl (lv_at hl 0 rfl) ?_
      refine lv_lload_n hx hb dX12_commonLong_12 rfl (lv_at hl 1 rfl) ?_
      refine lv_lrem hx hb dX12_commonLong_13 (tl_nz (by omega)) ?_
      refine lv_topl (fun z3 ez3 => ?_)
      refine ct_calll (D := D) (wr := []) (va_runS (As := [.long a2, .long z3]) (rest := []) ⟨hx, hb, hml, hown, hts⟩ (ih a2 z3 (cl_step h_c (by omega) ez3) H.size) (va_cwS 2 hts gX12_commonLong_X12_commonLong rfl rfl rfl (by decide +kernel) ⟨Nat.le_refl _, by show 8 + (4 + 11) + 23 * d ≤ 23 * (d + 1); omega⟩) (ct_preS (T := ct_T cI cJ cB cZ cO) hE hH hP hD hS hA [] (by decide) rfl) rfl rfl hl.1 rfl (lv_room (Nat.le_of_ble_eq_true rfl)) dX12_commonLong_14 ⟨Nat.le_of_ble_eq_true rfl, Nat.le_of_ble_eq_true rfl⟩) hP hD hS hA [] [] rfl rfl (by decide) (by decide) (fun r4 u H locs hw hP hD hS => ?_)
      obtain ⟨hP, hD⟩ : ct_B D A H [] := ⟨hP, hD⟩
      have hp0 := hw
      clear hw
      have hp_5 : r4.toInt ≠ 0 := hp0
      clear hp0
      obtain ⟨hP9, hD9⟩ : ct_B D A H [] := ⟨hP.sub [] rfl, hD.sub [] (by decide) rfl⟩
      exact W.lret (v := r4) hx hb hr (fun t ht hW => ⟨⟨r4, (), rfl, (show r4.toInt ≠ 0 by omega), by rw [ht]; exact hP9, hD9⟩, hS.F ht⟩) hS.2.2 dX12_commonLong_17
    · have hq2 : a2.toInt = 0 := tl_eq rfl (by decide) ((lg_cmp_eq _ _).mp hc)
      refine lv_lload_n hx hb dX12_commonLong_6 rfl (lv_at hl 0 rfl) ?_
      refine lv_goto (tgt := 17) hx hb dX12_commonLong_7 (by decide) ?_
      obtain ⟨hP9, hD9⟩ : ct_B D A H [] := ⟨hP.sub [] rfl, hD.sub [] (by decide) rfl⟩
      exact W.lret (v := a1) hx hb hr (fun t ht hW => ⟨⟨a1, (), rfl, (show a1.toInt ≠ 0 by omega), by rw [ht]; exact hP9, hD9⟩, hS.F ht⟩) hS.2.2 dX12_commonLong_17
abbrev w_c_X12_periodOf (cI cJ cB cZ cO : ClassId) (qm : Nat) (vm_thrown : Int32) (qm_width : Nat) (qm_many : Nat) (qm_cells : Nat) (qm_moved : Nat) (qm_tape : Nat) (vm_taped : Int32) (vm_at : Int32) (vm_token : Int32) (vm_place : Int32) (vm_value : Int32) (vm_word : Int64) (vm_bad : Int32) (vm_badPlace : Int32) (vm_fault : Int32) (vm_faultPlace : Int32) (qm_lines : Nat) (qm_has : Nat) (fm_has : Nat → Int32) (qm_round : Nat) (qm_meets : Nat) (qm_stumble : Nat) (qm_isMud : Nat) (qm_cell : Nat) (qm_tune : Nat) (qm_change : Nat) (qm_isKept : Nat) (qm_steps : Nat) (qm_places : Nat) (qm_danced : Nat) (vm_runMost : Int32) (vm_runBegins : Int32) (qm_heardBy : Nat) (vm_fitMany : Int32) (vm_fitFirst : Int32) (vm_fitBeats : Int64) (vm_listenLeaves : Int32) (qm_there : Nat) (vm_metAt : Int32) (vm_metIn : Int32) (qm_wins : Nat) (vm_nightHoles : Int32) (vm_nightFirst : Int32) (vm_nightMud : Int32) (vm_nightSlips : Int32) (vm_drawnNow : Int64) : va_W := [mo qm vm_thrown qm_width qm_many qm_cells qm_moved qm_tape vm_taped vm_at vm_token vm_place vm_value vm_word vm_bad vm_badPlace vm_fault vm_faultPlace qm_lines qm_has qm_round qm_meets qm_stumble qm_isMud qm_cell qm_tune qm_change qm_isKept qm_steps qm_places qm_danced vm_runMost vm_runBegins qm_heardBy vm_fitMany vm_fitFirst vm_fitBeats vm_listenLeaves qm_there vm_metAt vm_metIn qm_wins vm_nightHoles vm_nightFirst vm_nightMud vm_nightSlips vm_drawnNow, (qm_has, .inl (cI, 55, .inl (fm_has)))]
set_option maxHeartbeats 4000000 in
set_option maxRecDepth 100000 in
/-- X12 periodOf -/
theorem c_X12_periodOf (l : Launch) (D : va_G) (G : ct_G) (cI cJ cB cZ cO : ClassId) (qm : Nat) (vm_thrown : Int32) (qm_width : Nat) (qm_many : Nat) (qm_cells : Nat) (qm_moved : Nat) (qm_tape : Nat) (vm_taped : Int32) (vm_at : Int32) (vm_token : Int32) (vm_place : Int32) (vm_value : Int32) (vm_word : Int64) (vm_bad : Int32) (vm_badPlace : Int32) (vm_fault : Int32) (vm_faultPlace : Int32) (qm_lines : Nat) (qm_has : Nat) (fm_has : Nat → Int32) (qm_round : Nat) (qm_meets : Nat) (qm_stumble : Nat) (qm_isMud : Nat) (qm_cell : Nat) (qm_tune : Nat) (qm_change : Nat) (qm_isKept : Nat) (qm_steps : Nat) (qm_places : Nat) (qm_danced : Nat) (vm_runMost : Int32) (vm_runBegins : Int32) (qm_heardBy : Nat) (vm_fitMany : Int32) (vm_fitFirst : Int32) (vm_fitBeats : Int64) (vm_listenLeaves : Int32) (qm_there : Nat) (vm_metAt : Int32) (vm_metIn : Int32) (qm_wins : Nat) (vm_nightHoles : Int32) (vm_nightFirst : Int32) (vm_nightMud : Int32) (vm_nightSlips : Int32) (vm_drawnNow : Int64) (h_vm_taped : 0 ≤ vm_taped.toInt ∧ vm_taped.toInt ≤ 1200) (h_vm_at : 0 ≤ vm_at.toInt ∧ vm_at.toInt ≤ 1200) (h_vm_value : 0 ≤ vm_value.toInt ∧ vm_value.toInt ≤ 1000009) (h_fm_has : ar_ok [0, (-2147483648), (-2147483648), 0, 0, 0, 0, 0, 0, 0, 0] [20, 2147483647, 2147483647, 12, 12, 11, 11, 8, 12, 5, 40] fm_has) (h_rp : 1 ≤ (fm_has 3).toInt ∧ 1 ≤ (fm_has 4).toInt) (sz : Nat) : Met l yX12_periodOf wsX12_periodOf ({ frames := 13, cells := 0, slots := 0, locals := 273 }) (va_Pc [.ref qm] (ct_P D (ct_T cI cJ cB cZ cO) G (w_c_X12_periodOf cI cJ cB cZ cO qm vm_thrown qm_width qm_many qm_cells qm_moved qm_tape vm_taped vm_at vm_token vm_place vm_value vm_word vm_bad vm_badPlace vm_fault vm_faultPlace qm_lines qm_has fm_has qm_round qm_meets qm_stumble qm_isMud qm_cell qm_tune qm_change qm_isKept qm_steps qm_places qm_danced vm_runMost vm_runBegins qm_heardBy vm_fitMany vm_fitFirst vm_fitBeats vm_listenLeaves qm_there vm_metAt vm_metIn qm_wins vm_nightHoles vm_nightFirst vm_nightMud vm_nightSlips vm_drawnNow) sz)) (va_Qi (fun (rz : Int32) (u : Unit) => (0 ≤ rz.toInt ∧ rz.toInt ≤ 144)) (fun (u : Unit) t => ct_Q D (va_A (w_c_X12_periodOf cI cJ cB cZ cO qm vm_thrown qm_width qm_many qm_cells qm_moved qm_tape vm_taped vm_at vm_token vm_place vm_value vm_word vm_bad vm_badPlace vm_fault vm_faultPlace qm_lines qm_has fm_has qm_round qm_meets qm_stumble qm_isMud qm_cell qm_tune qm_change qm_isKept qm_steps qm_places qm_danced vm_runMost vm_runBegins qm_heardBy vm_fitMany vm_fitFirst vm_fitBeats vm_listenLeaves qm_there vm_metAt vm_metIn qm_wins vm_nightHoles vm_nightFirst vm_nightMud vm_nightSlips vm_drawnNow) sz) [mo qm vm_thrown qm_width qm_many qm_cells qm_moved qm_tape vm_taped vm_at vm_token vm_place vm_value vm_word vm_bad vm_badPlace vm_fault vm_faultPlace qm_lines qm_has qm_round qm_meets qm_stumble qm_isMud qm_cell qm_tune qm_change qm_isKept qm_steps qm_places qm_danced vm_runMost vm_runBegins qm_heardBy vm_fitMany vm_fitFirst vm_fitBeats vm_listenLeaves qm_there vm_metAt vm_metIn qm_wins vm_nightHoles vm_nightFirst vm_nightMud vm_nightSlips vm_drawnNow, (qm_has, .inl (cI, 55, .inl (fm_has)))] t) (va_A (w_c_X12_periodOf cI cJ cB cZ cO qm vm_thrown qm_width qm_many qm_cells qm_moved qm_tape vm_taped vm_at vm_token vm_place vm_value vm_word vm_bad vm_badPlace vm_fault vm_faultPlace qm_lines qm_has fm_has qm_round qm_meets qm_stumble qm_isMud qm_cell qm_tune qm_change qm_isKept qm_steps qm_places qm_danced vm_runMost vm_runBegins qm_heardBy vm_fitMany vm_fitFirst vm_fitBeats vm_listenLeaves qm_there vm_metAt vm_metIn qm_wins vm_nightHoles vm_nightFirst vm_nightMud vm_nightSlips vm_drawnNow) sz)) 0 0 (va_A (w_c_X12_periodOf cI cJ cB cZ cO qm vm_thrown qm_width qm_many qm_cells qm_moved qm_tape vm_taped vm_at vm_token vm_place vm_value vm_word vm_bad vm_badPlace vm_fault vm_faultPlace qm_lines qm_has fm_has qm_round qm_meets qm_stumble qm_isMud qm_cell qm_tune qm_change qm_isKept qm_steps qm_places qm_danced vm_runMost vm_runBegins qm_heardBy vm_fitMany vm_fitFirst vm_fitBeats vm_listenLeaves qm_there vm_metAt vm_metIn qm_wins vm_nightHoles vm_nightFirst vm_nightMud vm_nightSlips vm_drawnNow) sz) := by
  refine Met.ofW (cc := cX12_periodOf) (maxL := 1) (ret := (some .int)) (by decide) rfl ?_
  intro p e s m args below meth c s₁ B hml hv
  obtain ⟨rfl, hsz, hP, hE, hD0, hH⟩ := hv
  have hx := B.exec
  have hb := B.bytes
  have hr := B.returns
  have hts := atoms_spec (ws := wsX12_periodOf) B.pre
  have hown : s.vm.findClass RX12 = some m.cls := findClass_of_methodNamed B.named
  have hlocks := B.notSynchronized
  have hK := hE.1
  subst hsz
  have hD := hD0.self (sz := s.heap.size)
  generalize hAe : va_A (w_c_X12_periodOf cI cJ cB cZ cO qm vm_thrown qm_width qm_many qm_cells qm_moved qm_tape vm_taped vm_at vm_token vm_place vm_value vm_word vm_bad vm_badPlace vm_fault vm_faultPlace qm_lines qm_has fm_has qm_round qm_meets qm_stumble qm_isMud qm_cell qm_tune qm_change qm_isKept qm_steps qm_places qm_danced vm_runMost vm_runBegins qm_heardBy vm_fitMany vm_fitFirst vm_fitBeats vm_listenLeaves qm_there vm_metAt vm_metIn qm_wins vm_nightHoles vm_nightFirst vm_nightMud vm_nightSlips vm_drawnNow) s.heap.size = A at hD hH ⊢
  have hA : ∀ q : Nat, s.heap.size ≤ q → A q := fun q h => by rw [← hAe]; exact Or.inr h
  have hS : va_S A s.heap s.heap [] := va_S.rf
  obtain ⟨hP, hD⟩ : ct_B D A s.heap [mo qm vm_thrown qm_width qm_many qm_cells qm_moved qm_tape vm_taped vm_at vm_token vm_place vm_value vm_word vm_bad vm_badPlace vm_fault vm_faultPlace qm_lines qm_has qm_round qm_meets qm_stumble qm_isMud qm_cell qm_tune qm_change qm_isKept qm_steps qm_places qm_danced vm_runMost vm_runBegins qm_heardBy vm_fitMany vm_fitFirst vm_fitBeats vm_listenLeaves qm_there vm_metAt vm_metIn qm_wins vm_nightHoles vm_nightFirst vm_nightMud vm_nightSlips vm_drawnNow, (qm_has, .inl (cI, 55, .inl (fm_has)))] := ⟨hP, hD⟩
  have hl := lv_entry ([.ref qm]) (n := 1) (Nat.le_of_ble_eq_true rfl)
  rw [lg_entry_eq]
  generalize (lg_sl ([.ref qm]) ++ List.replicate (1 - (lg_sl ([.ref qm])).length) Slot.unset).toArray = ls at hl ⊢
  have hl : lv_has ls 1 [(0, .ref qm)] := hl
  obtain ⟨H, hHe⟩ : ∃ H : Heap, H = s.heap := ⟨_, rfl⟩
  rw [← hHe] at hP
  have hS : va_S A s.heap H [] := by rw [hHe]; exact va_S.rf
  refine ct_start hHe ?_
  refine lv_aload_n hx hb dX12_periodOf_0 rfl (lv_at hl 0 rfl) ?_
  refine lv_iconst (v := 0) hx hb dX12_periodOf_1 (by decide) ?_
  refine ct_calli (D := D) (wr := []) (va_runV (As := [.int 0]) (rest := []) ⟨hx, hb, hml, hown, hts⟩ (c_X12_lengthOfP l D G cI cJ cB cZ cO qm vm_thrown qm_width qm_many qm_cells qm_moved qm_tape vm_taped vm_at vm_token vm_place vm_value vm_word vm_bad vm_badPlace vm_fault vm_faultPlace qm_lines qm_has fm_has qm_round qm_meets qm_stumble qm_isMud qm_cell qm_tune qm_change qm_isKept qm_steps qm_places qm_danced vm_runMost vm_runBegins qm_heardBy vm_fitMany vm_fitFirst vm_fitBeats vm_listenLeaves qm_there vm_metAt vm_metIn qm_wins vm_nightHoles vm_nightFirst vm_nightMud vm_nightSlips vm_drawnNow 0 h_vm_taped h_vm_at h_vm_value h_fm_has (by decide) h_rp H.size) (cwV 1 hts gX12_periodOf_X12_lengthOf rfl rfl rfl (by decide +kernel) ⟨Nat.le_of_ble_eq_true rfl, Nat.le_of_ble_eq_true rfl⟩) (ct_preV (T := ct_T cI cJ cB cZ cO) (ci := 12) (q0 := 0) hE hH hP hD hS hA [0, 1] (by decide) rfl rfl rfl) rfl rfl hl.1 rfl (lv_room (Nat.le_of_ble_eq_true rfl)) dX12_periodOf_2 ⟨Nat.le_of_ble_eq_true rfl, Nat.le_of_ble_eq_true rfl⟩) hP hD hS hA [0, 1] [] rfl rfl (by decide) (by decide) (fun r1 u H locs hw hP hD hS => ?_)
  obtain ⟨hP, hD⟩ : ct_B D A H [mo qm vm_thrown qm_width qm_many qm_cells qm_moved qm_tape vm_taped vm_at vm_token vm_place vm_value vm_word vm_bad vm_badPlace vm_fault vm_faultPlace qm_lines qm_has qm_round qm_meets qm_stumble qm_isMud qm_cell qm_tune qm_change qm_isKept qm_steps qm_places qm_danced vm_runMost vm_runBegins qm_heardBy vm_fitMany vm_fitFirst vm_fitBeats vm_listenLeaves qm_there vm_metAt vm_metIn qm_wins vm_nightHoles vm_nightFirst vm_nightMud vm_nightSlips vm_drawnNow, (qm_has, .inl (cI, 55, .inl (fm_has)))] := ⟨hP, hD⟩
  have hz := hw
  clear hw
  have h_r1 : 1 ≤ r1.toInt ∧ r1.toInt ≤ 12 := hz
  clear hz
  refine lv_aload_n hx hb dX12_periodOf_5 rfl (lv_at hl 0 rfl) ?_
  refine lv_iconst (v := 0) hx hb dX12_periodOf_6 (by decide) ?_
  refine ct_calli (D := D) (wr := []) (va_runV (As := [.int 0]) (rest := [.int r1]) ⟨hx, hb, hml, hown, hts⟩ (c_X12_lengthOfP l D G cI cJ cB cZ cO qm vm_thrown qm_width qm_many qm_cells qm_moved qm_tape vm_taped vm_at vm_token vm_place vm_value vm_word vm_bad vm_badPlace vm_fault vm_faultPlace qm_lines qm_has fm_has qm_round qm_meets qm_stumble qm_isMud qm_cell qm_tune qm_change qm_isKept qm_steps qm_places qm_danced vm_runMost vm_runBegins qm_heardBy vm_fitMany vm_fitFirst vm_fitBeats vm_listenLeaves qm_there vm_metAt vm_metIn qm_wins vm_nightHoles vm_nightFirst vm_nightMud vm_nightSlips vm_drawnNow 0 h_vm_taped h_vm_at h_vm_value h_fm_has (by decide) h_rp H.size) (cwV 1 hts gX12_periodOf_X12_lengthOf rfl rfl rfl (by decide +kernel) ⟨Nat.le_of_ble_eq_true rfl, Nat.le_of_ble_eq_true rfl⟩) (ct_preV (T := ct_T cI cJ cB cZ cO) (ci := 12) (q0 := 0) hE hH hP hD hS hA [0, 1] (by decide) rfl rfl rfl) rfl rfl hl.1 rfl (lv_room (Nat.le_of_ble_eq_true rfl)) dX12_periodOf_7 ⟨Nat.le_of_ble_eq_true rfl, Nat.le_of_ble_eq_true rfl⟩) hP hD hS hA [0, 1] [] rfl rfl (by decide) (by decide) (fun r2 u H locs hw hP hD hS => ?_)
  obtain ⟨hP, hD⟩ : ct_B D A H [mo qm vm_thrown qm_width qm_many qm_cells qm_moved qm_tape vm_taped vm_at vm_token vm_place vm_value vm_word vm_bad vm_badPlace vm_fault vm_faultPlace qm_lines qm_has qm_round qm_meets qm_stumble qm_isMud qm_cell qm_tune qm_change qm_isKept qm_steps qm_places qm_danced vm_runMost vm_runBegins qm_heardBy vm_fitMany vm_fitFirst vm_fitBeats vm_listenLeaves qm_there vm_metAt vm_metIn qm_wins vm_nightHoles vm_nightFirst vm_nightMud vm_nightSlips vm_drawnNow, (qm_has, .inl (cI, 55, .inl (fm_has)))] := ⟨hP, hD⟩
  have hz := hw
  clear hw
  have h_r2 : 1 ≤ r2.toInt ∧ r2.toInt ≤ 12 := hz
  clear hz
  refine lv_aload_n hx hb dX12_periodOf_10 rfl (lv_at hl 0 rfl) ?_
  refine lv_iconst (v := 1) hx hb dX12_periodOf_11 (by decide) ?_
  refine ct_calli (D := D) (wr := []) (va_runV (As := [.int 1]) (rest := [.int r2, .int r1]) ⟨hx, hb, hml, hown, hts⟩ (c_X12_lengthOfP l D G cI cJ cB cZ cO qm vm_thrown qm_width qm_many qm_cells qm_moved qm_tape vm_taped vm_at vm_token vm_place vm_value vm_word vm_bad vm_badPlace vm_fault vm_faultPlace qm_lines qm_has fm_has qm_round qm_meets qm_stumble qm_isMud qm_cell qm_tune qm_change qm_isKept qm_steps qm_places qm_danced vm_runMost vm_runBegins qm_heardBy vm_fitMany vm_fitFirst vm_fitBeats vm_listenLeaves qm_there vm_metAt vm_metIn qm_wins vm_nightHoles vm_nightFirst vm_nightMud vm_nightSlips vm_drawnNow 1 h_vm_taped h_vm_at h_vm_value h_fm_has (by decide) h_rp H.size) (cwV 1 hts gX12_periodOf_X12_lengthOf rfl rfl rfl (by decide +kernel) ⟨Nat.le_of_ble_eq_true rfl, Nat.le_of_ble_eq_true rfl⟩) (ct_preV (T := ct_T cI cJ cB cZ cO) (ci := 12) (q0 := 0) hE hH hP hD hS hA [0, 1] (by decide) rfl rfl rfl) rfl rfl hl.1 rfl (lv_room (Nat.le_of_ble_eq_true rfl)) dX12_periodOf_12 ⟨Nat.le_of_ble_eq_true rfl, Nat.le_of_ble_eq_true rfl⟩) hP hD hS hA [0, 1] [] rfl rfl (by decide) (by decide) (fun r3 u H locs hw hP hD hS => ?_)
  obtain ⟨hP, hD⟩ : ct_B D A H [mo qm vm_thrown qm_width qm_many qm_cells qm_moved qm_tape vm_taped vm_at vm_token vm_place vm_value vm_word vm_bad vm_badPlace vm_fault vm_faultPlace qm_lines qm_has qm_round qm_meets qm_stumble qm_isMud qm_cell qm_tune qm_change qm_isKept qm_steps qm_places qm_danced vm_runMost vm_runBegins qm_heardBy vm_fitMany vm_fitFirst vm_fitBeats vm_listenLeaves qm_there vm_metAt vm_metIn qm_wins vm_nightHoles vm_nightFirst vm_nightMud vm_nightSlips vm_drawnNow, (qm_has, .inl (cI, 55, .inl (fm_has)))] := ⟨hP, hD⟩
  have hz := hw
  clear hw
  have h_r3 : 1 ≤ r3.toInt ∧ r3.toInt ≤ 12 := hz
  clear hz
  refine ct_calli (D := D) (wr := [mo qm vm_thrown qm_width qm_many qm_cells qm_moved qm_tape vm_taped vm_at vm_token vm_place vm_value vm_word vm_bad vm_badPlace vm_fault vm_faultPlace qm_lines qm_has qm_round qm_meets qm_stumble qm_isMud qm_cell qm_tune qm_change qm_isKept qm_steps qm_places qm_danced vm_runMost vm_runBegins qm_heardBy vm_fitMany vm_fitFirst vm_fitBeats vm_listenLeaves qm_there vm_metAt vm_metIn qm_wins vm_nightHoles vm_nightFirst vm_nightMud vm_nightSlips vm_drawnNow, (qm_has, .inl (cI, 55, .inl (fm_has)))]) (va_runS (As := [.int r2, .int r3]) (rest := [.int r1]) ⟨hx, hb, hml, hown, hts⟩ (c_X12_common l D G cI cJ cB cZ cO 12 r2 r3 (by omega) H.size) (va_cwS 2 hts gX12_periodOf_X12_common rfl rfl rfl (by decide +kernel) ⟨Nat.le_of_ble_eq_true rfl, Nat.le_of_ble_eq_true rfl⟩) (ct_preS (T := ct_T cI cJ cB cZ cO) hE hH hP hD hS hA [] (by decide) rfl) rfl rfl hl.1 rfl (lv_room (Nat.le_of_ble_eq_true rfl)) dX12_periodOf_15 ⟨Nat.le_of_ble_eq_true rfl, Nat.le_of_ble_eq_true rfl⟩) hP hD hS hA [] [0, 1] rfl rfl (by decide) (by decide) (fun r4 u H locs hw hP hD hS => ?_)
  obtain ⟨hP, hD⟩ : ct_B D A H [mo qm vm_thrown qm_width qm_many qm_cells qm_moved qm_tape vm_taped vm_at vm_token vm_place vm_value vm_word vm_bad vm_badPlace vm_fault vm_faultPlace qm_lines qm_has qm_round qm_meets qm_stumble qm_isMud qm_cell qm_tune qm_change qm_isKept qm_steps qm_places qm_danced vm_runMost vm_runBegins qm_heardBy vm_fitMany vm_fitFirst vm_fitBeats vm_listenLeaves qm_there vm_metAt vm_metIn qm_wins vm_nightHoles vm_nightFirst vm_nightMud vm_nightSlips vm_drawnNow, (qm_has, .inl (cI, 55, .inl (fm_has)))] := ⟨hP, hD⟩
  have hp0 := hw
  clear hw
  have hp_5 : 1 ≤ r4.toInt := hp0
  clear hp0
  refine lv_idiv hx hb dX12_periodOf_18 (tq_nz (by omega)) ?_
  refine lv_topi (fun z6 ez6 => ?_)
  have fz6 : 0 ≤ z6.toInt ∧ z6.toInt ≤ r1.toInt := by rw [ez6]; exact tq_divp rfl rfl (by omega) (by omega)
  refine lv_aload_n hx hb dX12_periodOf_19 rfl (lv_at hl 0 rfl) ?_
  refine lv_iconst (v := 1) hx hb dX12_periodOf_20 (by decide) ?_
  refine ct_calli (D := D) (wr := []) (va_runV (As := [.int 1]) (rest := [.int z6]) ⟨hx, hb, hml, hown, hts⟩ (c_X12_lengthOfP l D G cI cJ cB cZ cO qm vm_thrown qm_width qm_many qm_cells qm_moved qm_tape vm_taped vm_at vm_token vm_place vm_value vm_word vm_bad vm_badPlace vm_fault vm_faultPlace qm_lines qm_has fm_has qm_round qm_meets qm_stumble qm_isMud qm_cell qm_tune qm_change qm_isKept qm_steps qm_places qm_danced vm_runMost vm_runBegins qm_heardBy vm_fitMany vm_fitFirst vm_fitBeats vm_listenLeaves qm_there vm_metAt vm_metIn qm_wins vm_nightHoles vm_nightFirst vm_nightMud vm_nightSlips vm_drawnNow 1 h_vm_taped h_vm_at h_vm_value h_fm_has (by decide) h_rp H.size) (cwV 1 hts gX12_periodOf_X12_lengthOf rfl rfl rfl (by decide +kernel) ⟨Nat.le_of_ble_eq_true rfl, Nat.le_of_ble_eq_true rfl⟩) (ct_preV (T := ct_T cI cJ cB cZ cO) (ci := 12) (q0 := 0) hE hH hP hD hS hA [0, 1] (by decide) rfl rfl rfl) rfl rfl hl.1 rfl (lv_room (Nat.le_of_ble_eq_true rfl)) dX12_periodOf_21 ⟨Nat.le_of_ble_eq_true rfl, Nat.le_of_ble_eq_true rfl⟩) hP hD hS hA [0, 1] [] rfl rfl (by decide) (by decide) (fun r7 u H locs hw hP hD hS => ?_)
  obtain ⟨hP, hD⟩ : ct_B D A H [mo qm vm_thrown qm_width qm_many qm_cells qm_moved qm_tape vm_taped vm_at vm_token vm_place vm_value vm_word vm_bad vm_badPlace vm_fault vm_faultPlace qm_lines qm_has qm_round qm_meets qm_stumble qm_isMud qm_cell qm_tune qm_change qm_isKept qm_steps qm_places qm_danced vm_runMost vm_runBegins qm_heardBy vm_fitMany vm_fitFirst vm_fitBeats vm_listenLeaves qm_there vm_metAt vm_metIn qm_wins vm_nightHoles vm_nightFirst vm_nightMud vm_nightSlips vm_drawnNow, (qm_has, .inl (cI, 55, .inl (fm_has)))] := ⟨hP, hD⟩
  have hz := hw
  clear hw
  have h_r7 : 1 ≤ r7.toInt ∧ r7.toInt ≤ 12 := hz
  clear hz
  refine lv_imul hx hb dX12_periodOf_24 ?_
  refine lv_topi (fun z8 ez8 => ?_)
  have fz8 : 0 ≤ z8.toInt ∧ z8.toInt ≤ 144 := by rw [ez8]; exact tq_mulb 12 12 rfl rfl (by omega) (by omega) (by decide)
  obtain ⟨hP9, hD9⟩ : ct_B D A H [mo qm vm_thrown qm_width qm_many qm_cells qm_moved qm_tape vm_taped vm_at vm_token vm_place vm_value vm_word vm_bad vm_badPlace vm_fault vm_faultPlace qm_lines qm_has qm_round qm_meets qm_stumble qm_isMud qm_cell qm_tune qm_change qm_isKept qm_steps qm_places qm_danced vm_runMost vm_runBegins qm_heardBy vm_fitMany vm_fitFirst vm_fitBeats vm_listenLeaves qm_there vm_metAt vm_metIn qm_wins vm_nightHoles vm_nightFirst vm_nightMud vm_nightSlips vm_drawnNow, (qm_has, .inl (cI, 55, .inl (fm_has)))] := ⟨hP.sub [0, 1] rfl, hD.sub [0, 1] (by decide) rfl⟩
  exact W.iret (v := z8) hx hb hr (fun t ht hW => ⟨⟨z8, (), rfl, (show 0 ≤ z8.toInt ∧ z8.toInt ≤ 144 by omega), by rw [ht]; exact hP9, hD9⟩, hS.F ht⟩) hS.2.2 dX12_periodOf_25
abbrev w_c_X12_period (cI cJ cB cZ cO : ClassId) (qm : Nat) (vm_thrown : Int32) (qm_width : Nat) (qm_many : Nat) (qm_cells : Nat) (qm_moved : Nat) (qm_tape : Nat) (vm_taped : Int32) (vm_at : Int32) (vm_token : Int32) (vm_place : Int32) (vm_value : Int32) (vm_word : Int64) (vm_bad : Int32) (vm_badPlace : Int32) (vm_fault : Int32) (vm_faultPlace : Int32) (qm_lines : Nat) (fm_lines : Nat → Int32) (qm_has : Nat) (fm_has : Nat → Int32) (qm_round : Nat) (qm_meets : Nat) (qm_stumble : Nat) (qm_isMud : Nat) (qm_cell : Nat) (qm_tune : Nat) (qm_change : Nat) (qm_isKept : Nat) (qm_steps : Nat) (qm_places : Nat) (qm_danced : Nat) (vm_runMost : Int32) (vm_runBegins : Int32) (qm_heardBy : Nat) (vm_fitMany : Int32) (vm_fitFirst : Int32) (vm_fitBeats : Int64) (vm_listenLeaves : Int32) (qm_there : Nat) (vm_metAt : Int32) (vm_metIn : Int32) (qm_wins : Nat) (vm_nightHoles : Int32) (vm_nightFirst : Int32) (vm_nightMud : Int32) (vm_nightSlips : Int32) (vm_drawnNow : Int64) : va_W := [mo qm vm_thrown qm_width qm_many qm_cells qm_moved qm_tape vm_taped vm_at vm_token vm_place vm_value vm_word vm_bad vm_badPlace vm_fault vm_faultPlace qm_lines qm_has qm_round qm_meets qm_stumble qm_isMud qm_cell qm_tune qm_change qm_isKept qm_steps qm_places qm_danced vm_runMost vm_runBegins qm_heardBy vm_fitMany vm_fitFirst vm_fitBeats vm_listenLeaves qm_there vm_metAt vm_metIn qm_wins vm_nightHoles vm_nightFirst vm_nightMud vm_nightSlips vm_drawnNow, (qm_lines, .inl (cI, 5, .inl (fm_lines))), (qm_has, .inl (cI, 55, .inl (fm_has)))]
set_option maxHeartbeats 4000000 in
set_option maxRecDepth 100000 in
/-- X12 period -/
theorem c_X12_period (l : Launch) (D : va_G) (G : ct_G) (cI cJ cB cZ cO : ClassId) (qm : Nat) (vm_thrown : Int32) (qm_width : Nat) (qm_many : Nat) (qm_cells : Nat) (qm_moved : Nat) (qm_tape : Nat) (vm_taped : Int32) (vm_at : Int32) (vm_token : Int32) (vm_place : Int32) (vm_value : Int32) (vm_word : Int64) (vm_bad : Int32) (vm_badPlace : Int32) (vm_fault : Int32) (vm_faultPlace : Int32) (qm_lines : Nat) (fm_lines : Nat → Int32) (qm_has : Nat) (fm_has : Nat → Int32) (qm_round : Nat) (qm_meets : Nat) (qm_stumble : Nat) (qm_isMud : Nat) (qm_cell : Nat) (qm_tune : Nat) (qm_change : Nat) (qm_isKept : Nat) (qm_steps : Nat) (qm_places : Nat) (qm_danced : Nat) (vm_runMost : Int32) (vm_runBegins : Int32) (qm_heardBy : Nat) (vm_fitMany : Int32) (vm_fitFirst : Int32) (vm_fitBeats : Int64) (vm_listenLeaves : Int32) (qm_there : Nat) (vm_metAt : Int32) (vm_metIn : Int32) (qm_wins : Nat) (vm_nightHoles : Int32) (vm_nightFirst : Int32) (vm_nightMud : Int32) (vm_nightSlips : Int32) (vm_drawnNow : Int64) (h_vm_taped : 0 ≤ vm_taped.toInt ∧ vm_taped.toInt ≤ 1200) (h_vm_at : 0 ≤ vm_at.toInt ∧ vm_at.toInt ≤ 1200) (h_vm_value : 0 ≤ vm_value.toInt ∧ vm_value.toInt ≤ 1000009) (h_fm_has : ar_ok [0, (-2147483648), (-2147483648), 0, 0, 0, 0, 0, 0, 0, 0] [20, 2147483647, 2147483647, 12, 12, 11, 11, 8, 12, 5, 40] fm_has) (sz : Nat) : Met l yX12_period wsX12_period ({ frames := 14, cells := 0, slots := 0, locals := 293 }) (va_Pc [.ref qm] (ct_P D (ct_T cI cJ cB cZ cO) G (w_c_X12_period cI cJ cB cZ cO qm vm_thrown qm_width qm_many qm_cells qm_moved qm_tape vm_taped vm_at vm_token vm_place vm_value vm_word vm_bad vm_badPlace vm_fault vm_faultPlace qm_lines fm_lines qm_has fm_has qm_round qm_meets qm_stumble qm_isMud qm_cell qm_tune qm_change qm_isKept qm_steps qm_places qm_danced vm_runMost vm_runBegins qm_heardBy vm_fitMany vm_fitFirst vm_fitBeats vm_listenLeaves qm_there vm_metAt vm_metIn qm_wins vm_nightHoles vm_nightFirst vm_nightMud vm_nightSlips vm_drawnNow) sz)) (va_Qi (fun (rz : Int32) (u : Int32) => ((-2) ≤ rz.toInt ∧ rz.toInt ≤ 144)) (fun (u : Int32) t => ct_Q D (va_A (w_c_X12_period cI cJ cB cZ cO qm vm_thrown qm_width qm_many qm_cells qm_moved qm_tape vm_taped vm_at vm_token vm_place vm_value vm_word vm_bad vm_badPlace vm_fault vm_faultPlace qm_lines fm_lines qm_has fm_has qm_round qm_meets qm_stumble qm_isMud qm_cell qm_tune qm_change qm_isKept qm_steps qm_places qm_danced vm_runMost vm_runBegins qm_heardBy vm_fitMany vm_fitFirst vm_fitBeats vm_listenLeaves qm_there vm_metAt vm_metIn qm_wins vm_nightHoles vm_nightFirst vm_nightMud vm_nightSlips vm_drawnNow) sz) [mo qm u qm_width qm_many qm_cells qm_moved qm_tape vm_taped vm_at vm_token vm_place vm_value vm_word vm_bad vm_badPlace vm_fault vm_faultPlace qm_lines qm_has qm_round qm_meets qm_stumble qm_isMud qm_cell qm_tune qm_change qm_isKept qm_steps qm_places qm_danced vm_runMost vm_runBegins qm_heardBy vm_fitMany vm_fitFirst vm_fitBeats vm_listenLeaves qm_there vm_metAt vm_metIn qm_wins vm_nightHoles vm_nightFirst vm_nightMud vm_nightSlips vm_drawnNow, (qm_lines, .inl (cI, 5, .inl (fm_lines))), (qm_has, .inl (cI, 55, .inl (fm_has)))] t) (va_A (w_c_X12_period cI cJ cB cZ cO qm vm_thrown qm_width qm_many qm_cells qm_moved qm_tape vm_taped vm_at vm_token vm_place vm_value vm_word vm_bad vm_badPlace vm_fault vm_faultPlace qm_lines fm_lines qm_has fm_has qm_round qm_meets qm_stumble qm_isMud qm_cell qm_tune qm_change qm_isKept qm_steps qm_places qm_danced vm_runMost vm_runBegins qm_heardBy vm_fitMany vm_fitFirst vm_fitBeats vm_listenLeaves qm_there vm_metAt vm_metIn qm_wins vm_nightHoles vm_nightFirst vm_nightMud vm_nightSlips vm_drawnNow) sz)) 0 0 (va_A (w_c_X12_period cI cJ cB cZ cO qm vm_thrown qm_width qm_many qm_cells qm_moved qm_tape vm_taped vm_at vm_token vm_place vm_value vm_word vm_bad vm_badPlace vm_fault vm_faultPlace qm_lines fm_lines qm_has fm_has qm_round qm_meets qm_stumble qm_isMud qm_cell qm_tune qm_change qm_isKept qm_steps qm_places qm_danced vm_runMost vm_runBegins qm_heardBy vm_fitMany vm_fitFirst vm_fitBeats vm_listenLeaves qm_there vm_metAt vm_metIn qm_wins vm_nightHoles vm_nightFirst vm_nightMud vm_nightSlips vm_drawnNow) sz) := by
  refine Met.ofW (cc := cX12_period) (maxL := 1) (ret := (some .int)) (by decide) rfl ?_
  intro p e s m args below meth c s₁ B hml hv
  obtain ⟨rfl, hsz, hP, hE, hD0, hH⟩ := hv
  have hx := B.exec
  have hb := B.bytes
  have hr := B.returns
  have hts := atoms_spec (ws := wsX12_period) B.pre
  have hown : s.vm.findClass RX12 = some m.cls := findClass_of_methodNamed B.named
  have hlocks := B.notSynchronized
  have hK := hE.1
  have hi12 : ∀ w ∈ u_ws RX12 TX12 45, w ∈ wsX12_period := fun w h => List.mem_cons_of_mem _ (List.mem_append_right _ h)
  subst hsz
  have hD := hD0.self (sz := s.heap.size)
  generalize hAe : va_A (w_c_X12_period cI cJ cB cZ cO qm vm_thrown qm_width qm_many qm_cells qm_moved qm_tape vm_taped vm_at vm_token vm_place vm_value vm_word vm_bad vm_badPlace vm_fault vm_faultPlace qm_lines fm_lines qm_has fm_has qm_round qm_meets qm_stumble qm_isMud qm_cell qm_tune qm_change qm_isKept qm_steps qm_places qm_danced vm_runMost vm_runBegins qm_heardBy vm_fitMany vm_fitFirst vm_fitBeats vm_listenLeaves qm_there vm_metAt vm_metIn qm_wins vm_nightHoles vm_nightFirst vm_nightMud vm_nightSlips vm_drawnNow) s.heap.size = A at hD hH ⊢
  have hA : ∀ q : Nat, s.heap.size ≤ q → A q := fun q h => by rw [← hAe]; exact Or.inr h
  have hS : va_S A s.heap s.heap [] := va_S.rf
  obtain ⟨hP, hD⟩ : ct_B D A s.heap [mo qm vm_thrown qm_width qm_many qm_cells qm_moved qm_tape vm_taped vm_at vm_token vm_place vm_value vm_word vm_bad vm_badPlace vm_fault vm_faultPlace qm_lines qm_has qm_round qm_meets qm_stumble qm_isMud qm_cell qm_tune qm_change qm_isKept qm_steps qm_places qm_danced vm_runMost vm_runBegins qm_heardBy vm_fitMany vm_fitFirst vm_fitBeats vm_listenLeaves qm_there vm_metAt vm_metIn qm_wins vm_nightHoles vm_nightFirst vm_nightMud vm_nightSlips vm_drawnNow, (qm_lines, .inl (cI, 5, .inl (fm_lines))), (qm_has, .inl (cI, 55, .inl (fm_has)))] := ⟨hP, hD⟩
  have hl := lv_entry ([.ref qm]) (n := 1) (Nat.le_of_ble_eq_true rfl)
  rw [lg_entry_eq]
  generalize (lg_sl ([.ref qm]) ++ List.replicate (1 - (lg_sl ([.ref qm])).length) Slot.unset).toArray = ls at hl ⊢
  have hl : lv_has ls 1 [(0, .ref qm)] := hl
  obtain ⟨H, hHe⟩ : ∃ H : Heap, H = s.heap := ⟨_, rfl⟩
  rw [← hHe] at hP
  have hS : va_S A s.heap H [] := by rw [hHe]; exact va_S.rf
  refine ct_start hHe ?_
  refine lv_aload_n hx hb dX12_period_0 rfl (lv_at hl 0 rfl) ?_
  refine lv_iconst (v := 0) hx hb dX12_period_1 (by decide) ?_
  refine va_put (D := D) (ci := 12) (v := .int 0) (ty := .int) (C := RX12) (T := TX12) (N := 45) hx hb hts hi12 tyX12 tyX12_ok nmX12 hown hK hP hD hS 0 rfl rfl 0 (by decide) (hts (.fieldLink RX12 80 "OverHillModel" "thrown" "I") (by decide +kernel)) (fun _ h9 => h9) rfl (by decide +kernel) rfl rfl (Nat.le_of_ble_eq_true rfl) dX12_period_2 (fun H locs hP hD hS => ?_)
  obtain ⟨hP, hD⟩ : ct_B D A H [mo qm 0 qm_width qm_many qm_cells qm_moved qm_tape vm_taped vm_at vm_token vm_place vm_value vm_word vm_bad vm_badPlace vm_fault vm_faultPlace qm_lines qm_has qm_round qm_meets qm_stumble qm_isMud qm_cell qm_tune qm_change qm_isKept qm_steps qm_places qm_danced vm_runMost vm_runBegins qm_heardBy vm_fitMany vm_fitFirst vm_fitBeats vm_listenLeaves qm_there vm_metAt vm_metIn qm_wins vm_nightHoles vm_nightFirst vm_nightMud vm_nightSlips vm_drawnNow, (qm_lines, .inl (cI, 5, .inl (fm_lines))), (qm_has, .inl (cI, 55, .inl (fm_has)))] := ⟨hP, hD⟩
  refine lv_aload_n hx hb dX12_period_5 rfl (lv_at hl 0 rfl) ?_
  refine ct_calli (D := D) (wr := [(qm_has, .inl (cI, 55, .inl (fm_has)))]) (va_runV (As := []) (rest := []) ⟨hx, hb, hml, hown, hts⟩ (c_X12_isDance l D G cI cJ cB cZ cO qm 0 qm_width qm_many qm_cells qm_moved qm_tape vm_taped vm_at vm_token vm_place vm_value vm_word vm_bad vm_badPlace vm_fault vm_faultPlace qm_lines fm_lines qm_has qm_round qm_meets qm_stumble qm_isMud qm_cell qm_tune qm_change qm_isKept qm_steps qm_places qm_danced vm_runMost vm_runBegins qm_heardBy vm_fitMany vm_fitFirst vm_fitBeats vm_listenLeaves qm_there vm_metAt vm_metIn qm_wins vm_nightHoles vm_nightFirst vm_nightMud vm_nightSlips vm_drawnNow h_vm_taped h_vm_at h_vm_value H.size) (cwV 0 hts gX12_period_X12_isDance rfl rfl rfl (by decide +kernel) ⟨Nat.le_of_ble_eq_true rfl, Nat.le_of_ble_eq_true rfl⟩) (ct_preV (T := ct_T cI cJ cB cZ cO) (ci := 12) (q0 := 0) hE hH hP hD hS hA [0, 1] (by decide) rfl rfl rfl) rfl rfl hl.1 rfl (lv_room (Nat.le_of_ble_eq_true rfl)) dX12_period_6 ⟨Nat.le_of_ble_eq_true rfl, Nat.le_of_ble_eq_true rfl⟩) hP hD hS hA [0, 1] [2] rfl rfl (by decide) (by decide) (fun r1 u H locs hw hP hD hS => ?_)
  obtain ⟨hP, hD⟩ : ct_B D A H [(qm_has, .inl (cI, 55, .inl (fm_has))), mo qm 0 qm_width qm_many qm_cells qm_moved qm_tape vm_taped vm_at vm_token vm_place vm_value vm_word vm_bad vm_badPlace vm_fault vm_faultPlace qm_lines qm_has qm_round qm_meets qm_stumble qm_isMud qm_cell qm_tune qm_change qm_isKept qm_steps qm_places qm_danced vm_runMost vm_runBegins qm_heardBy vm_fitMany vm_fitFirst vm_fitBeats vm_listenLeaves qm_there vm_metAt vm_metIn qm_wins vm_nightHoles vm_nightFirst vm_nightMud vm_nightSlips vm_drawnNow, (qm_lines, .inl (cI, 5, .inl (fm_lines)))] := ⟨hP, hD⟩
  have hz := hw
  clear hw
  rcases hz with ⟨hz, hz2⟩ | ⟨hz, hz2⟩
  · subst hz
    refine lv_if_ne (tgt := 17) hx hb dX12_period_9 (by decide) (fun _ => ?_) (fun hc => absurd hc (by decide))
    refine lv_aload_n hx hb dX12_period_17 rfl (lv_at hl 0 rfl) ?_
    refine ct_calli (D := D) (wr := [(qm_lines, .inl (cI, 5, .inl (fm_lines)))]) (va_runV (As := []) (rest := []) ⟨hx, hb, hml, hown, hts⟩ (c_X12_areRounds l D G cI cJ cB cZ cO qm 0 qm_width qm_many qm_cells qm_moved qm_tape vm_taped vm_at vm_token vm_place vm_value vm_word vm_bad vm_badPlace vm_fault vm_faultPlace qm_lines qm_has fm_has qm_round qm_meets qm_stumble qm_isMud qm_cell qm_tune qm_change qm_isKept qm_steps qm_places qm_danced vm_runMost vm_runBegins qm_heardBy vm_fitMany vm_fitFirst vm_fitBeats vm_listenLeaves qm_there vm_metAt vm_metIn qm_wins vm_nightHoles vm_nightFirst vm_nightMud vm_nightSlips vm_drawnNow h_vm_taped h_vm_at h_vm_value h_fm_has H.size) (cwV 0 hts gX12_period_X12_areRounds rfl rfl rfl (by decide +kernel) ⟨Nat.le_of_ble_eq_true rfl, Nat.le_of_ble_eq_true rfl⟩) (ct_preV (T := ct_T cI cJ cB cZ cO) (ci := 12) (q0 := 1) hE hH hP hD hS hA [1, 0] (by decide) rfl rfl rfl) rfl rfl hl.1 rfl (lv_room (Nat.le_of_ble_eq_true rfl)) dX12_period_18 ⟨Nat.le_of_ble_eq_true rfl, Nat.le_of_ble_eq_true rfl⟩) hP hD hS hA [1, 0] [2] rfl rfl (by decide) (by decide) (fun r2 u H locs hw hP hD hS => ?_)
    obtain ⟨hP, hD⟩ : ct_B D A H [(qm_lines, .inl (cI, 5, .inl (fm_lines))), mo qm 0 qm_width qm_many qm_cells qm_moved qm_tape vm_taped vm_at vm_token vm_place vm_value vm_word vm_bad vm_badPlace vm_fault vm_faultPlace qm_lines qm_has qm_round qm_meets qm_stumble qm_isMud qm_cell qm_tune qm_change qm_isKept qm_steps qm_places qm_danced vm_runMost vm_runBegins qm_heardBy vm_fitMany vm_fitFirst vm_fitBeats vm_listenLeaves qm_there vm_metAt vm_metIn qm_wins vm_nightHoles vm_nightFirst vm_nightMud vm_nightSlips vm_drawnNow, (qm_has, .inl (cI, 55, .inl (fm_has)))] := ⟨hP, hD⟩
    have hz := hw
    clear hw
    rcases hz with ⟨hz, hz2⟩ | ⟨hz, hz2⟩
    · subst hz
      have hz_3 : 1 ≤ (fm_has 3).toInt ∧ 1 ≤ (fm_has 4).toInt := hz2
      refine lv_if_eq (tgt := 31) hx hb dX12_period_21 (by decide) (fun hc => absurd hc (by decide)) (fun _ => ?_)
      refine lv_aload_n hx hb dX12_period_24 rfl (lv_at hl 0 rfl) ?_
      refine ct_calli (D := D) (wr := [(qm_lines, .inl (cI, 5, .inl (fm_lines)))]) (va_runV (As := []) (rest := []) ⟨hx, hb, hml, hown, hts⟩ (c_X12_periodOf l D G cI cJ cB cZ cO qm 0 qm_width qm_many qm_cells qm_moved qm_tape vm_taped vm_at vm_token vm_place vm_value vm_word vm_bad vm_badPlace vm_fault vm_faultPlace qm_lines qm_has fm_has qm_round qm_meets qm_stumble qm_isMud qm_cell qm_tune qm_change qm_isKept qm_steps qm_places qm_danced vm_runMost vm_runBegins qm_heardBy vm_fitMany vm_fitFirst vm_fitBeats vm_listenLeaves qm_there vm_metAt vm_metIn qm_wins vm_nightHoles vm_nightFirst vm_nightMud vm_nightSlips vm_drawnNow h_vm_taped h_vm_at h_vm_value h_fm_has hz_3 H.size) (cwV 0 hts gX12_period_X12_periodOf rfl rfl rfl (by decide +kernel) ⟨Nat.le_of_ble_eq_true rfl, Nat.le_of_ble_eq_true rfl⟩) (ct_preV (T := ct_T cI cJ cB cZ cO) (ci := 12) (q0 := 1) hE hH hP hD hS hA [1, 2] (by decide) rfl rfl rfl) rfl rfl hl.1 rfl (lv_room (Nat.le_of_ble_eq_true rfl)) dX12_period_25 ⟨Nat.le_of_ble_eq_true rfl, Nat.le_of_ble_eq_true rfl⟩) hP hD hS hA [1, 2] [0] rfl rfl (by decide) (by decide) (fun r4 u H locs hw hP hD hS => ?_)
      obtain ⟨hP, hD⟩ : ct_B D A H [(qm_lines, .inl (cI, 5, .inl (fm_lines))), mo qm 0 qm_width qm_many qm_cells qm_moved qm_tape vm_taped vm_at vm_token vm_place vm_value vm_word vm_bad vm_badPlace vm_fault vm_faultPlace qm_lines qm_has qm_round qm_meets qm_stumble qm_isMud qm_cell qm_tune qm_change qm_isKept qm_steps qm_places qm_danced vm_runMost vm_runBegins qm_heardBy vm_fitMany vm_fitFirst vm_fitBeats vm_listenLeaves qm_there vm_metAt vm_metIn qm_wins vm_nightHoles vm_nightFirst vm_nightMud vm_nightSlips vm_drawnNow, (qm_has, .inl (cI, 55, .inl (fm_has)))] := ⟨hP, hD⟩
      have hz := hw
      clear hw
      have h_r4 : 0 ≤ r4.toInt ∧ r4.toInt ≤ 144 := hz
      clear hz
      refine lv_goto (tgt := 32) hx hb dX12_period_28 (by decide) ?_
      obtain ⟨hP9, hD9⟩ : ct_B D A H [mo qm 0 qm_width qm_many qm_cells qm_moved qm_tape vm_taped vm_at vm_token vm_place vm_value vm_word vm_bad vm_badPlace vm_fault vm_faultPlace qm_lines qm_has qm_round qm_meets qm_stumble qm_isMud qm_cell qm_tune qm_change qm_isKept qm_steps qm_places qm_danced vm_runMost vm_runBegins qm_heardBy vm_fitMany vm_fitFirst vm_fitBeats vm_listenLeaves qm_there vm_metAt vm_metIn qm_wins vm_nightHoles vm_nightFirst vm_nightMud vm_nightSlips vm_drawnNow, (qm_lines, .inl (cI, 5, .inl (fm_lines))), (qm_has, .inl (cI, 55, .inl (fm_has)))] := ⟨hP.sub [1, 0, 2] rfl, hD.sub [1, 0, 2] (by decide) rfl⟩
      exact W.iret (v := r4) hx hb hr (fun t ht hW => ⟨⟨r4, (0 : Int32), rfl, (show (-2) ≤ r4.toInt ∧ r4.toInt ≤ 144 by omega), by rw [ht]; exact hP9, hD9⟩, hS.F ht⟩) hS.2.2 dX12_period_32
    · subst hz
      refine lv_if_eq (tgt := 31) hx hb dX12_period_21 (by decide) (fun _ => ?_) (fun hc => absurd hc (by decide))
      refine lv_iconst (v := (-1)) hx hb dX12_period_31 (by decide) ?_
      obtain ⟨hP9, hD9⟩ : ct_B D A H [mo qm 0 qm_width qm_many qm_cells qm_moved qm_tape vm_taped vm_at vm_token vm_place vm_value vm_word vm_bad vm_badPlace vm_fault vm_faultPlace qm_lines qm_has qm_round qm_meets qm_stumble qm_isMud qm_cell qm_tune qm_change qm_isKept qm_steps qm_places qm_danced vm_runMost vm_runBegins qm_heardBy vm_fitMany vm_fitFirst vm_fitBeats vm_listenLeaves qm_there vm_metAt vm_metIn qm_wins vm_nightHoles vm_nightFirst vm_nightMud vm_nightSlips vm_drawnNow, (qm_lines, .inl (cI, 5, .inl (fm_lines))), (qm_has, .inl (cI, 55, .inl (fm_has)))] := ⟨hP.sub [1, 0, 2] rfl, hD.sub [1, 0, 2] (by decide) rfl⟩
      exact W.iret (v := (-1)) hx hb hr (fun t ht hW => ⟨⟨(-1), (0 : Int32), rfl, (show (-2) ≤ (-1 : Int32).toInt ∧ (-1 : Int32).toInt ≤ 144 by decide), by rw [ht]; exact hP9, hD9⟩, hS.F ht⟩) hS.2.2 dX12_period_32
  · subst hz
    refine lv_if_ne (tgt := 17) hx hb dX12_period_9 (by decide) (fun hc => absurd hc (by decide)) (fun _ => ?_)
    refine lv_bipush (v := (-2)) hx hb dX12_period_12 (by decide) ?_
    refine lv_goto (tgt := 32) hx hb dX12_period_14 (by decide) ?_
    obtain ⟨hP9, hD9⟩ : ct_B D A H [mo qm 0 qm_width qm_many qm_cells qm_moved qm_tape vm_taped vm_at vm_token vm_place vm_value vm_word vm_bad vm_badPlace vm_fault vm_faultPlace qm_lines qm_has qm_round qm_meets qm_stumble qm_isMud qm_cell qm_tune qm_change qm_isKept qm_steps qm_places qm_danced vm_runMost vm_runBegins qm_heardBy vm_fitMany vm_fitFirst vm_fitBeats vm_listenLeaves qm_there vm_metAt vm_metIn qm_wins vm_nightHoles vm_nightFirst vm_nightMud vm_nightSlips vm_drawnNow, (qm_lines, .inl (cI, 5, .inl (fm_lines))), (qm_has, .inl (cI, 55, .inl (fm_has)))] := ⟨hP.sub [1, 2, 0] rfl, hD.sub [1, 2, 0] (by decide) rfl⟩
    exact W.iret (v := (-2)) hx hb hr (fun t ht hW => ⟨⟨(-2), (0 : Int32), rfl, (show (-2) ≤ (-2 : Int32).toInt ∧ (-2 : Int32).toInt ≤ 144 by decide), by rw [ht]; exact hP9, hD9⟩, hS.F ht⟩) hS.2.2 dX12_period_32
abbrev w_c_X12_plain (cI cJ cB cZ cO : ClassId) (qm : Nat) (vm_thrown : Int32) (qm_width : Nat) (qm_many : Nat) (qm_cells : Nat) (qm_moved : Nat) (qm_tape : Nat) (vm_taped : Int32) (vm_at : Int32) (vm_token : Int32) (vm_place : Int32) (vm_value : Int32) (vm_word : Int64) (vm_bad : Int32) (vm_badPlace : Int32) (vm_fault : Int32) (vm_faultPlace : Int32) (qm_lines : Nat) (qm_has : Nat) (fm_has : Nat → Int32) (qm_round : Nat) (fm_round : Nat → Int32) (qm_meets : Nat) (qm_stumble : Nat) (qm_isMud : Nat) (qm_cell : Nat) (qm_tune : Nat) (qm_change : Nat) (qm_isKept : Nat) (qm_steps : Nat) (qm_places : Nat) (qm_danced : Nat) (vm_runMost : Int32) (vm_runBegins : Int32) (qm_heardBy : Nat) (vm_fitMany : Int32) (vm_fitFirst : Int32) (vm_fitBeats : Int64) (vm_listenLeaves : Int32) (qm_there : Nat) (vm_metAt : Int32) (vm_metIn : Int32) (qm_wins : Nat) (vm_nightHoles : Int32) (vm_nightFirst : Int32) (vm_nightMud : Int32) (vm_nightSlips : Int32) (vm_drawnNow : Int64) : va_W := [mo qm vm_thrown qm_width qm_many qm_cells qm_moved qm_tape vm_taped vm_at vm_token vm_place vm_value vm_word vm_bad vm_badPlace vm_fault vm_faultPlace qm_lines qm_has qm_round qm_meets qm_stumble qm_isMud qm_cell qm_tune qm_change qm_isKept qm_steps qm_places qm_danced vm_runMost vm_runBegins qm_heardBy vm_fitMany vm_fitFirst vm_fitBeats vm_listenLeaves qm_there vm_metAt vm_metIn qm_wins vm_nightHoles vm_nightFirst vm_nightMud vm_nightSlips vm_drawnNow, (qm_has, .inl (cI, 55, .inl (fm_has))), (qm_round, .inl (cI, 120, .inl (fm_round)))]
set_option maxHeartbeats 4000000 in
set_option maxRecDepth 100000 in
/-- X12 plain -/
theorem c_X12_plain (l : Launch) (D : va_G) (G : ct_G) (cI cJ cB cZ cO : ClassId) (qm : Nat) (vm_thrown : Int32) (qm_width : Nat) (qm_many : Nat) (qm_cells : Nat) (qm_moved : Nat) (qm_tape : Nat) (vm_taped : Int32) (vm_at : Int32) (vm_token : Int32) (vm_place : Int32) (vm_value : Int32) (vm_word : Int64) (vm_bad : Int32) (vm_badPlace : Int32) (vm_fault : Int32) (vm_faultPlace : Int32) (qm_lines : Nat) (qm_has : Nat) (fm_has : Nat → Int32) (qm_round : Nat) (fm_round : Nat → Int32) (qm_meets : Nat) (qm_stumble : Nat) (qm_isMud : Nat) (qm_cell : Nat) (qm_tune : Nat) (qm_change : Nat) (qm_isKept : Nat) (qm_steps : Nat) (qm_places : Nat) (qm_danced : Nat) (vm_runMost : Int32) (vm_runBegins : Int32) (qm_heardBy : Nat) (vm_fitMany : Int32) (vm_fitFirst : Int32) (vm_fitBeats : Int64) (vm_listenLeaves : Int32) (qm_there : Nat) (vm_metAt : Int32) (vm_metIn : Int32) (qm_wins : Nat) (vm_nightHoles : Int32) (vm_nightFirst : Int32) (vm_nightMud : Int32) (vm_nightSlips : Int32) (vm_drawnNow : Int64) (a1 : Int32) (a2 : Int32) (a3 : Int32) (h_vm_taped : 0 ≤ vm_taped.toInt ∧ vm_taped.toInt ≤ 1200) (h_vm_at : 0 ≤ vm_at.toInt ∧ vm_at.toInt ≤ 1200) (h_vm_value : 0 ≤ vm_value.toInt ∧ vm_value.toInt ≤ 1000009) (h_fm_has : ar_ok [0, (-2147483648), (-2147483648), 0, 0, 0, 0, 0, 0, 0, 0] [20, 2147483647, 2147483647, 12, 12, 11, 11, 8, 12, 5, 40] fm_has) (h_fm_round : ar_ok [0] [5] fm_round) (h_a1 : 0 ≤ a1.toInt ∧ a1.toInt ≤ 1) (h_a2 : 0 ≤ a2.toInt ∧ a2.toInt ≤ 400) (h_a3 : 0 ≤ a3.toInt ∧ a3.toInt ≤ 12) (h_rp : 1 ≤ (fm_has 3).toInt ∧ 1 ≤ (fm_has 4).toInt) (sz : Nat) : Met l yX12_plain wsX12_plain ({ frames := 1, cells := 0, slots := 0, locals := 21 }) (va_Pc [.ref qm, .int a1, .int a2, .int a3] (ct_P D (ct_T cI cJ cB cZ cO) G (w_c_X12_plain cI cJ cB cZ cO qm vm_thrown qm_width qm_many qm_cells qm_moved qm_tape vm_taped vm_at vm_token vm_place vm_value vm_word vm_bad vm_badPlace vm_fault vm_faultPlace qm_lines qm_has fm_has qm_round fm_round qm_meets qm_stumble qm_isMud qm_cell qm_tune qm_change qm_isKept qm_steps qm_places qm_danced vm_runMost vm_runBegins qm_heardBy vm_fitMany vm_fitFirst vm_fitBeats vm_listenLeaves qm_there vm_metAt vm_metIn qm_wins vm_nightHoles vm_nightFirst vm_nightMud vm_nightSlips vm_drawnNow) sz)) (va_Qi (fun (rz : Int32) (u : Unit) => (0 ≤ rz.toInt ∧ rz.toInt ≤ 5)) (fun (u : Unit) t => ct_Q D (va_A (w_c_X12_plain cI cJ cB cZ cO qm vm_thrown qm_width qm_many qm_cells qm_moved qm_tape vm_taped vm_at vm_token vm_place vm_value vm_word vm_bad vm_badPlace vm_fault vm_faultPlace qm_lines qm_has fm_has qm_round fm_round qm_meets qm_stumble qm_isMud qm_cell qm_tune qm_change qm_isKept qm_steps qm_places qm_danced vm_runMost vm_runBegins qm_heardBy vm_fitMany vm_fitFirst vm_fitBeats vm_listenLeaves qm_there vm_metAt vm_metIn qm_wins vm_nightHoles vm_nightFirst vm_nightMud vm_nightSlips vm_drawnNow) sz) [mo qm vm_thrown qm_width qm_many qm_cells qm_moved qm_tape vm_taped vm_at vm_token vm_place vm_value vm_word vm_bad vm_badPlace vm_fault vm_faultPlace qm_lines qm_has qm_round qm_meets qm_stumble qm_isMud qm_cell qm_tune qm_change qm_isKept qm_steps qm_places qm_danced vm_runMost vm_runBegins qm_heardBy vm_fitMany vm_fitFirst vm_fitBeats vm_listenLeaves qm_there vm_metAt vm_metIn qm_wins vm_nightHoles vm_nightFirst vm_nightMud vm_nightSlips vm_drawnNow, (qm_has, .inl (cI, 55, .inl (fm_has))), (qm_round, .inl (cI, 120, .inl (fm_round)))] t) (va_A (w_c_X12_plain cI cJ cB cZ cO qm vm_thrown qm_width qm_many qm_cells qm_moved qm_tape vm_taped vm_at vm_token vm_place vm_value vm_word vm_bad vm_badPlace vm_fault vm_faultPlace qm_lines qm_has fm_has qm_round fm_round qm_meets qm_stumble qm_isMud qm_cell qm_tune qm_change qm_isKept qm_steps qm_places qm_danced vm_runMost vm_runBegins qm_heardBy vm_fitMany vm_fitFirst vm_fitBeats vm_listenLeaves qm_there vm_metAt vm_metIn qm_wins vm_nightHoles vm_nightFirst vm_nightMud vm_nightSlips vm_drawnNow) sz)) 0 0 (va_A (w_c_X12_plain cI cJ cB cZ cO qm vm_thrown qm_width qm_many qm_cells qm_moved qm_tape vm_taped vm_at vm_token vm_place vm_value vm_word vm_bad vm_badPlace vm_fault vm_faultPlace qm_lines qm_has fm_has qm_round fm_round qm_meets qm_stumble qm_isMud qm_cell qm_tune qm_change qm_isKept qm_steps qm_places qm_danced vm_runMost vm_runBegins qm_heardBy vm_fitMany vm_fitFirst vm_fitBeats vm_listenLeaves qm_there vm_metAt vm_metIn qm_wins vm_nightHoles vm_nightFirst vm_nightMud vm_nightSlips vm_drawnNow) sz) := by
  refine Met.ofW (cc := cX12_plain) (maxL := 4) (ret := (some .int)) (by decide) rfl ?_
  intro p e s m args below meth c s₁ B hml hv
  obtain ⟨rfl, hsz, hP, hE, hD0, hH⟩ := hv
  have hx := B.exec
  have hb := B.bytes
  have hr := B.returns
  have hts := atoms_spec (ws := wsX12_plain) B.pre
  have hown : s.vm.findClass RX12 = some m.cls := findClass_of_methodNamed B.named
  have hlocks := B.notSynchronized
  have hK := hE.1
  have hi12 : ∀ w ∈ u_ws RX12 TX12 45, w ∈ wsX12_plain := fun w h => List.mem_cons_of_mem _ (List.mem_append_right _ h)
  subst hsz
  have hD := hD0.self (sz := s.heap.size)
  generalize hAe : va_A (w_c_X12_plain cI cJ cB cZ cO qm vm_thrown qm_width qm_many qm_cells qm_moved qm_tape vm_taped vm_at vm_token vm_place vm_value vm_word vm_bad vm_badPlace vm_fault vm_faultPlace qm_lines qm_has fm_has qm_round fm_round qm_meets qm_stumble qm_isMud qm_cell qm_tune qm_change qm_isKept qm_steps qm_places qm_danced vm_runMost vm_runBegins qm_heardBy vm_fitMany vm_fitFirst vm_fitBeats vm_listenLeaves qm_there vm_metAt vm_metIn qm_wins vm_nightHoles vm_nightFirst vm_nightMud vm_nightSlips vm_drawnNow) s.heap.size = A at hD hH ⊢
  have hA : ∀ q : Nat, s.heap.size ≤ q → A q := fun q h => by rw [← hAe]; exact Or.inr h
  have hS : va_S A s.heap s.heap [] := va_S.rf
  obtain ⟨hP, hD⟩ : ct_B D A s.heap [mo qm vm_thrown qm_width qm_many qm_cells qm_moved qm_tape vm_taped vm_at vm_token vm_place vm_value vm_word vm_bad vm_badPlace vm_fault vm_faultPlace qm_lines qm_has qm_round qm_meets qm_stumble qm_isMud qm_cell qm_tune qm_change qm_isKept qm_steps qm_places qm_danced vm_runMost vm_runBegins qm_heardBy vm_fitMany vm_fitFirst vm_fitBeats vm_listenLeaves qm_there vm_metAt vm_metIn qm_wins vm_nightHoles vm_nightFirst vm_nightMud vm_nightSlips vm_drawnNow, (qm_has, .inl (cI, 55, .inl (fm_has))), (qm_round, .inl (cI, 120, .inl (fm_round)))] := ⟨hP, hD⟩
  have hl := lv_entry ([.ref qm, .int a1, .int a2, .int a3]) (n := 4) (Nat.le_of_ble_eq_true rfl)
  rw [lg_entry_eq]
  generalize (lg_sl ([.ref qm, .int a1, .int a2, .int a3]) ++ List.replicate (4 - (lg_sl ([.ref qm, .int a1, .int a2, .int a3])).length) Slot.unset).toArray = ls at hl ⊢
  have hl : lv_has ls 4 [(0, .ref qm), (1, .int a1), (2, .int a2), (3, .int a3)] := hl
  obtain ⟨H, hHe⟩ : ∃ H : Heap, H = s.heap := ⟨_, rfl⟩
  rw [← hHe] at hP
  have hS : va_S A s.heap H [] := by rw [hHe]; exact va_S.rf
  refine ct_start hHe ?_
  refine lv_aload_n hx hb dX12_plain_0 rfl (lv_at hl 0 rfl) ?_
  refine va_get (D := D) (ci := 12) (v := .ref qm_round) (C := RX12) (T := TX12) (N := 45) hx hb hts hi12 hown hK hP 0 rfl rfl 18 (by decide) (hts (.fieldLink RX12 37 "OverHillModel" "round" "[I") (by decide +kernel)) (fun _ h9 => h9) rfl dX12_plain_1 ?_
  refine lv_bipush (v := 12) hx hb dX12_plain_4 (by decide) ?_
  refine lv_iload_n hx hb dX12_plain_6 rfl (lv_at hl 1 rfl) ?_
  refine lv_imul hx hb dX12_plain_7 ?_
  refine lv_topi (fun z1 ez1 => ?_)
  have fz1 : z1.toInt = 12 * a1.toInt := by rw [ez1]; exact tq_mul (by decide) rfl (by omega)
  refine lv_aload_n hx hb dX12_plain_8 rfl (lv_at hl 0 rfl) ?_
  refine va_get (D := D) (ci := 12) (v := .ref qm_has) (C := RX12) (T := TX12) (N := 45) hx hb hts hi12 hown hK hP 0 rfl rfl 17 (by decide) (hts (.fieldLink RX12 34 "OverHillModel" "has" "[I") (by decide +kernel)) (fun _ h9 => h9) rfl dX12_plain_9 ?_
  refine lv_iconst (v := 5) hx hb dX12_plain_12 (by decide) ?_
  refine lv_iload_n hx hb dX12_plain_13 rfl (lv_at hl 1 rfl) ?_
  refine lv_iadd hx hb dX12_plain_14 ?_
  refine lv_topi (fun z2 ez2 => ?_)
  have fz2 : z2.toInt = 5 + a1.toInt := by rw [ez2]; exact tq_add (by decide) rfl (by omega)
  refine va_iald (D := D) hx hb hK hP 1 0 rfl rfl (tq_in rfl (by omega)) dX12_plain_15 ?_
  refine lv_topi (fun z3 ez3 => ?_)
  have fz3 : 0 ≤ z3.toInt ∧ z3.toInt ≤ 11 := by rw [ez3]; exact ar_rng h_fm_has z2 5 6 (by omega) (by omega) (by decide)
  refine lv_iload_n hx hb dX12_plain_16 rfl (lv_at hl 2 rfl) ?_
  refine lv_iadd hx hb dX12_plain_17 ?_
  refine lv_topi (fun z4 ez4 => ?_)
  have fz4 : z4.toInt = z3.toInt + a2.toInt := by rw [ez4]; exact tq_add rfl rfl (by omega)
  refine lv_iload_n hx hb dX12_plain_18 rfl (lv_at hl 3 rfl) ?_
  refine lv_iadd hx hb dX12_plain_19 ?_
  refine lv_topi (fun z5 ez5 => ?_)
  have fz5 : z5.toInt = z4.toInt + a3.toInt := by rw [ez5]; exact tq_add rfl rfl (by omega)
  refine lv_aload_n hx hb dX12_plain_20 rfl (lv_at hl 0 rfl) ?_
  refine lv_iload_n hx hb dX12_plain_21 rfl (lv_at hl 1 rfl) ?_
  refine ct_calli (D := D) (wr := [(qm_round, .inl (cI, 120, .inl (fm_round)))]) (va_runV (As := [.int a1]) (rest := [.int z5, .int z1, .ref qm_round]) ⟨hx, hb, hml, hown, hts⟩ (c_X12_lengthOfP l D G cI cJ cB cZ cO qm vm_thrown qm_width qm_many qm_cells qm_moved qm_tape vm_taped vm_at vm_token vm_place vm_value vm_word vm_bad vm_badPlace vm_fault vm_faultPlace qm_lines qm_has fm_has qm_round qm_meets qm_stumble qm_isMud qm_cell qm_tune qm_change qm_isKept qm_steps qm_places qm_danced vm_runMost vm_runBegins qm_heardBy vm_fitMany vm_fitFirst vm_fitBeats vm_listenLeaves qm_there vm_metAt vm_metIn qm_wins vm_nightHoles vm_nightFirst vm_nightMud vm_nightSlips vm_drawnNow a1 h_vm_taped h_vm_at h_vm_value h_fm_has h_a1 h_rp H.size) (cwV 1 hts gX12_plain_X12_lengthOf rfl rfl rfl (by decide +kernel) ⟨Nat.le_of_ble_eq_true rfl, Nat.le_of_ble_eq_true rfl⟩) (ct_preV (T := ct_T cI cJ cB cZ cO) (ci := 12) (q0 := 0) hE hH hP hD hS hA [0, 1] (by decide) rfl rfl rfl) rfl rfl hl.1 rfl (lv_room (Nat.le_of_ble_eq_true rfl)) dX12_plain_22 ⟨Nat.le_of_ble_eq_true rfl, Nat.le_of_ble_eq_true rfl⟩) hP hD hS hA [0, 1] [2] rfl rfl (by decide) (by decide) (fun r6 u H locs hw hP hD hS => ?_)
  obtain ⟨hP, hD⟩ : ct_B D A H [(qm_round, .inl (cI, 120, .inl (fm_round))), mo qm vm_thrown qm_width qm_many qm_cells qm_moved qm_tape vm_taped vm_at vm_token vm_place vm_value vm_word vm_bad vm_badPlace vm_fault vm_faultPlace qm_lines qm_has qm_round qm_meets qm_stumble qm_isMud qm_cell qm_tune qm_change qm_isKept qm_steps qm_places qm_danced vm_runMost vm_runBegins qm_heardBy vm_fitMany vm_fitFirst vm_fitBeats vm_listenLeaves qm_there vm_metAt vm_metIn qm_wins vm_nightHoles vm_nightFirst vm_nightMud vm_nightSlips vm_drawnNow, (qm_has, .inl (cI, 55, .inl (fm_has)))] := ⟨hP, hD⟩
  have hz := hw
  clear hw
  have h_r6 : 1 ≤ r6.toInt ∧ r6.toInt ≤ 12 := hz
  clear hz
  refine lv_irem hx hb dX12_plain_25 (tq_nz (by omega)) ?_
  refine lv_topi (fun z7 ez7 => ?_)
  have fz7 : 0 ≤ z7.toInt ∧ z7.toInt < r6.toInt := by rw [ez7]; exact tq_remp rfl rfl (by omega) (by omega)
  refine lv_iadd hx hb dX12_plain_26 ?_
  refine lv_topi (fun z8 ez8 => ?_)
  have fz8 : z8.toInt = z1.toInt + z7.toInt := by rw [ez8]; exact tq_add rfl rfl (by omega)
  refine va_iald (D := D) hx hb hK hP 0 0 rfl rfl (tq_in rfl (by omega)) dX12_plain_27 ?_
  refine lv_topi (fun z9 ez9 => ?_)
  have fz9 : 0 ≤ z9.toInt ∧ z9.toInt ≤ 5 := by rw [ez9]; exact ar_get h_fm_round z8 0 (by omega) (show z8.toInt % 1 = 0 by omega) rfl
  obtain ⟨hP9, hD9⟩ : ct_B D A H [mo qm vm_thrown qm_width qm_many qm_cells qm_moved qm_tape vm_taped vm_at vm_token vm_place vm_value vm_word vm_bad vm_badPlace vm_fault vm_faultPlace qm_lines qm_has qm_round qm_meets qm_stumble qm_isMud qm_cell qm_tune qm_change qm_isKept qm_steps qm_places qm_danced vm_runMost vm_runBegins qm_heardBy vm_fitMany vm_fitFirst vm_fitBeats vm_listenLeaves qm_there vm_metAt vm_metIn qm_wins vm_nightHoles vm_nightFirst vm_nightMud vm_nightSlips vm_drawnNow, (qm_has, .inl (cI, 55, .inl (fm_has))), (qm_round, .inl (cI, 120, .inl (fm_round)))] := ⟨hP.sub [1, 2, 0] rfl, hD.sub [1, 2, 0] (by decide) rfl⟩
  exact W.iret (v := z9) hx hb hr (fun t ht hW => ⟨⟨z9, (), rfl, fz9, by rw [ht]; exact hP9, hD9⟩, hS.F ht⟩) hS.2.2 dX12_plain_28
abbrev w_c_X12_meets (cI cJ cB cZ cO : ClassId) (qm : Nat) (vm_thrown : Int32) (qm_width : Nat) (qm_many : Nat) (qm_cells : Nat) (qm_moved : Nat) (qm_tape : Nat) (vm_taped : Int32) (vm_at : Int32) (vm_token : Int32) (vm_place : Int32) (vm_value : Int32) (vm_word : Int64) (vm_bad : Int32) (vm_badPlace : Int32) (vm_fault : Int32) (vm_faultPlace : Int32) (qm_lines : Nat) (fm_lines : Nat → Int32) (qm_has : Nat) (fm_has : Nat → Int32) (qm_round : Nat) (qm_meets : Nat) (qm_stumble : Nat) (qm_isMud : Nat) (qm_cell : Nat) (qm_tune : Nat) (qm_change : Nat) (qm_isKept : Nat) (qm_steps : Nat) (qm_places : Nat) (qm_danced : Nat) (vm_runMost : Int32) (vm_runBegins : Int32) (qm_heardBy : Nat) (vm_fitMany : Int32) (vm_fitFirst : Int32) (vm_fitBeats : Int64) (vm_listenLeaves : Int32) (qm_there : Nat) (vm_metAt : Int32) (vm_metIn : Int32) (qm_wins : Nat) (vm_nightHoles : Int32) (vm_nightFirst : Int32) (vm_nightMud : Int32) (vm_nightSlips : Int32) (vm_drawnNow : Int64) : va_W := [mo qm vm_thrown qm_width qm_many qm_cells qm_moved qm_tape vm_taped vm_at vm_token vm_place vm_value vm_word vm_bad vm_badPlace vm_fault vm_faultPlace qm_lines qm_has qm_round qm_meets qm_stumble qm_isMud qm_cell qm_tune qm_change qm_isKept qm_steps qm_places qm_danced vm_runMost vm_runBegins qm_heardBy vm_fitMany vm_fitFirst vm_fitBeats vm_listenLeaves qm_there vm_metAt vm_metIn qm_wins vm_nightHoles vm_nightFirst vm_nightMud vm_nightSlips vm_drawnNow, (qm_lines, .inl (cI, 5, .inl (fm_lines))), (qm_has, .inl (cI, 55, .inl (fm_has)))]
set_option maxHeartbeats 4000000 in
set_option maxRecDepth 100000 in
/-- X12 meets -/
theorem c_X12_meets (l : Launch) (D : va_G) (G : ct_G) (cI cJ cB cZ cO : ClassId) (qm : Nat) (vm_thrown : Int32) (qm_width : Nat) (qm_many : Nat) (qm_cells : Nat) (qm_moved : Nat) (qm_tape : Nat) (vm_taped : Int32) (vm_at : Int32) (vm_token : Int32) (vm_place : Int32) (vm_value : Int32) (vm_word : Int64) (vm_bad : Int32) (vm_badPlace : Int32) (vm_fault : Int32) (vm_faultPlace : Int32) (qm_lines : Nat) (fm_lines : Nat → Int32) (qm_has : Nat) (fm_has : Nat → Int32) (qm_round : Nat) (qm_meets : Nat) (qm_stumble : Nat) (qm_isMud : Nat) (qm_cell : Nat) (qm_tune : Nat) (qm_change : Nat) (qm_isKept : Nat) (qm_steps : Nat) (qm_places : Nat) (qm_danced : Nat) (vm_runMost : Int32) (vm_runBegins : Int32) (qm_heardBy : Nat) (vm_fitMany : Int32) (vm_fitFirst : Int32) (vm_fitBeats : Int64) (vm_listenLeaves : Int32) (qm_there : Nat) (vm_metAt : Int32) (vm_metIn : Int32) (qm_wins : Nat) (vm_nightHoles : Int32) (vm_nightFirst : Int32) (vm_nightMud : Int32) (vm_nightSlips : Int32) (vm_drawnNow : Int64) (a1 : Int32) (a2 : Int32) (a3 : Int32) (h_vm_taped : 0 ≤ vm_taped.toInt ∧ vm_taped.toInt ≤ 1200) (h_vm_at : 0 ≤ vm_at.toInt ∧ vm_at.toInt ≤ 1200) (h_vm_value : 0 ≤ vm_value.toInt ∧ vm_value.toInt ≤ 1000009) (h_fm_has : ar_ok [0, (-2147483648), (-2147483648), 0, 0, 0, 0, 0, 0, 0, 0] [20, 2147483647, 2147483647, 12, 12, 11, 11, 8, 12, 5, 40] fm_has) (sz : Nat) : Met l yX12_meets wsX12_meets ({ frames := 14, cells := 0, slots := 0, locals := 293 }) (va_Pc [.ref qm, .int a1, .int a2, .int a3] (ct_P D (ct_T cI cJ cB cZ cO) G (w_c_X12_meets cI cJ cB cZ cO qm vm_thrown qm_width qm_many qm_cells qm_moved qm_tape vm_taped vm_at vm_token vm_place vm_value vm_word vm_bad vm_badPlace vm_fault vm_faultPlace qm_lines fm_lines qm_has fm_has qm_round qm_meets qm_stumble qm_isMud qm_cell qm_tune qm_change qm_isKept qm_steps qm_places qm_danced vm_runMost vm_runBegins qm_heardBy vm_fitMany vm_fitFirst vm_fitBeats vm_listenLeaves qm_there vm_metAt vm_metIn qm_wins vm_nightHoles vm_nightFirst vm_nightMud vm_nightSlips vm_drawnNow) sz)) (va_Qi (fun (rz : Int32) (u : Int32) => ((-2) ≤ rz.toInt ∧ rz.toInt ≤ 342)) (fun (u : Int32) t => ct_Q D (va_A (w_c_X12_meets cI cJ cB cZ cO qm vm_thrown qm_width qm_many qm_cells qm_moved qm_tape vm_taped vm_at vm_token vm_place vm_value vm_word vm_bad vm_badPlace vm_fault vm_faultPlace qm_lines fm_lines qm_has fm_has qm_round qm_meets qm_stumble qm_isMud qm_cell qm_tune qm_change qm_isKept qm_steps qm_places qm_danced vm_runMost vm_runBegins qm_heardBy vm_fitMany vm_fitFirst vm_fitBeats vm_listenLeaves qm_there vm_metAt vm_metIn qm_wins vm_nightHoles vm_nightFirst vm_nightMud vm_nightSlips vm_drawnNow) sz) [mo qm u qm_width qm_many qm_cells qm_moved qm_tape vm_taped vm_at vm_token vm_place vm_value vm_word vm_bad vm_badPlace vm_fault vm_faultPlace qm_lines qm_has qm_round qm_meets qm_stumble qm_isMud qm_cell qm_tune qm_change qm_isKept qm_steps qm_places qm_danced vm_runMost vm_runBegins qm_heardBy vm_fitMany vm_fitFirst vm_fitBeats vm_listenLeaves qm_there vm_metAt vm_metIn qm_wins vm_nightHoles vm_nightFirst vm_nightMud vm_nightSlips vm_drawnNow, (qm_lines, .inl (cI, 5, .inl (fm_lines))), (qm_has, .inl (cI, 55, .inl (fm_has)))] t) (va_A (w_c_X12_meets cI cJ cB cZ cO qm vm_thrown qm_width qm_many qm_cells qm_moved qm_tape vm_taped vm_at vm_token vm_place vm_value vm_word vm_bad vm_badPlace vm_fault vm_faultPlace qm_lines fm_lines qm_has fm_has qm_round qm_meets qm_stumble qm_isMud qm_cell qm_tune qm_change qm_isKept qm_steps qm_places qm_danced vm_runMost vm_runBegins qm_heardBy vm_fitMany vm_fitFirst vm_fitBeats vm_listenLeaves qm_there vm_metAt vm_metIn qm_wins vm_nightHoles vm_nightFirst vm_nightMud vm_nightSlips vm_drawnNow) sz)) 0 0 (va_A (w_c_X12_meets cI cJ cB cZ cO qm vm_thrown qm_width qm_many qm_cells qm_moved qm_tape vm_taped vm_at vm_token vm_place vm_value vm_word vm_bad vm_badPlace vm_fault vm_faultPlace qm_lines fm_lines qm_has fm_has qm_round qm_meets qm_stumble qm_isMud qm_cell qm_tune qm_change qm_isKept qm_steps qm_places qm_danced vm_runMost vm_runBegins qm_heardBy vm_fitMany vm_fitFirst vm_fitBeats vm_listenLeaves qm_there vm_metAt vm_metIn qm_wins vm_nightHoles vm_nightFirst vm_nightMud vm_nightSlips vm_drawnNow) sz) := by
  refine Met.ofW (cc := cX12_meets) (maxL := 5) (ret := (some .int)) (by decide) rfl ?_
  intro p e s m args below meth c s₁ B hml hv
  obtain ⟨rfl, hsz, hP, hE, hD0, hH⟩ := hv
  have hx := B.exec
  have hb := B.bytes
  have hr := B.returns
  have hts := atoms_spec (ws := wsX12_meets) B.pre
  have hown : s.vm.findClass RX12 = some m.cls := findClass_of_methodNamed B.named
  have hlocks := B.notSynchronized
  have hK := hE.1
  have hi12 : ∀ w ∈ u_ws RX12 TX12 45, w ∈ wsX12_meets := fun w h => List.mem_cons_of_mem _ (List.mem_append_right _ h)
  subst hsz
  have hD := hD0.self (sz := s.heap.size)
  generalize hAe : va_A (w_c_X12_meets cI cJ cB cZ cO qm vm_thrown qm_width qm_many qm_cells qm_moved qm_tape vm_taped vm_at vm_token vm_place vm_value vm_word vm_bad vm_badPlace vm_fault vm_faultPlace qm_lines fm_lines qm_has fm_has qm_round qm_meets qm_stumble qm_isMud qm_cell qm_tune qm_change qm_isKept qm_steps qm_places qm_danced vm_runMost vm_runBegins qm_heardBy vm_fitMany vm_fitFirst vm_fitBeats vm_listenLeaves qm_there vm_metAt vm_metIn qm_wins vm_nightHoles vm_nightFirst vm_nightMud vm_nightSlips vm_drawnNow) s.heap.size = A at hD hH ⊢
  have hA : ∀ q : Nat, s.heap.size ≤ q → A q := fun q h => by rw [← hAe]; exact Or.inr h
  have hS : va_S A s.heap s.heap [] := va_S.rf
  obtain ⟨hP, hD⟩ : ct_B D A s.heap [mo qm vm_thrown qm_width qm_many qm_cells qm_moved qm_tape vm_taped vm_at vm_token vm_place vm_value vm_word vm_bad vm_badPlace vm_fault vm_faultPlace qm_lines qm_has qm_round qm_meets qm_stumble qm_isMud qm_cell qm_tune qm_change qm_isKept qm_steps qm_places qm_danced vm_runMost vm_runBegins qm_heardBy vm_fitMany vm_fitFirst vm_fitBeats vm_listenLeaves qm_there vm_metAt vm_metIn qm_wins vm_nightHoles vm_nightFirst vm_nightMud vm_nightSlips vm_drawnNow, (qm_lines, .inl (cI, 5, .inl (fm_lines))), (qm_has, .inl (cI, 55, .inl (fm_has)))] := ⟨hP, hD⟩
  have hl := lv_entry ([.ref qm, .int a1, .int a2, .int a3]) (n := 5) (Nat.le_of_ble_eq_true rfl)
  rw [lg_entry_eq]
  generalize (lg_sl ([.ref qm, .int a1, .int a2, .int a3]) ++ List.replicate (5 - (lg_sl ([.ref qm, .int a1, .int a2, .int a3])).length) Slot.unset).toArray = ls at hl ⊢
  have hl : lv_has ls 5 [(0, .ref qm), (1, .int a1), (2, .int a2), (3, .int a3)] := hl
  obtain ⟨H, hHe⟩ : ∃ H : Heap, H = s.heap := ⟨_, rfl⟩
  rw [← hHe] at hP
  have hS : va_S A s.heap H [] := by rw [hHe]; exact va_S.rf
  refine ct_start hHe ?_
  refine lv_aload_n hx hb dX12_meets_0 rfl (lv_at hl 0 rfl) ?_
  refine lv_iconst (v := 0) hx hb dX12_meets_1 (by decide) ?_
  refine va_put (D := D) (ci := 12) (v := .int 0) (ty := .int) (C := RX12) (T := TX12) (N := 45) hx hb hts hi12 tyX12 tyX12_ok nmX12 hown hK hP hD hS 0 rfl rfl 0 (by decide) (hts (.fieldLink RX12 80 "OverHillModel" "thrown" "I") (by decide +kernel)) (fun _ h9 => h9) rfl (by decide +kernel) rfl rfl (Nat.le_of_ble_eq_true rfl) dX12_meets_2 (fun H locs hP hD hS => ?_)
  obtain ⟨hP, hD⟩ : ct_B D A H [mo qm 0 qm_width qm_many qm_cells qm_moved qm_tape vm_taped vm_at vm_token vm_place vm_value vm_word vm_bad vm_badPlace vm_fault vm_faultPlace qm_lines qm_has qm_round qm_meets qm_stumble qm_isMud qm_cell qm_tune qm_change qm_isKept qm_steps qm_places qm_danced vm_runMost vm_runBegins qm_heardBy vm_fitMany vm_fitFirst vm_fitBeats vm_listenLeaves qm_there vm_metAt vm_metIn qm_wins vm_nightHoles vm_nightFirst vm_nightMud vm_nightSlips vm_drawnNow, (qm_lines, .inl (cI, 5, .inl (fm_lines))), (qm_has, .inl (cI, 55, .inl (fm_has)))] := ⟨hP, hD⟩
  refine lv_aload_n hx hb dX12_meets_5 rfl (lv_at hl 0 rfl) ?_
  refine ct_calli (D := D) (wr := [(qm_has, .inl (cI, 55, .inl (fm_has)))]) (va_runV (As := []) (rest := []) ⟨hx, hb, hml, hown, hts⟩ (c_X12_isDance l D G cI cJ cB cZ cO qm 0 qm_width qm_many qm_cells qm_moved qm_tape vm_taped vm_at vm_token vm_place vm_value vm_word vm_bad vm_badPlace vm_fault vm_faultPlace qm_lines fm_lines qm_has qm_round qm_meets qm_stumble qm_isMud qm_cell qm_tune qm_change qm_isKept qm_steps qm_places qm_danced vm_runMost vm_runBegins qm_heardBy vm_fitMany vm_fitFirst vm_fitBeats vm_listenLeaves qm_there vm_metAt vm_metIn qm_wins vm_nightHoles vm_nightFirst vm_nightMud vm_nightSlips vm_drawnNow h_vm_taped h_vm_at h_vm_value H.size) (cwV 0 hts gX12_meets_X12_isDance rfl rfl rfl (by decide +kernel) ⟨Nat.le_of_ble_eq_true rfl, Nat.le_of_ble_eq_true rfl⟩) (ct_preV (T := ct_T cI cJ cB cZ cO) (ci := 12) (q0 := 0) hE hH hP hD hS hA [0, 1] (by decide) rfl rfl rfl) rfl rfl hl.1 rfl (lv_room (Nat.le_of_ble_eq_true rfl)) dX12_meets_6 ⟨Nat.le_of_ble_eq_true rfl, Nat.le_of_ble_eq_true rfl⟩) hP hD hS hA [0, 1] [2] rfl rfl (by decide) (by decide) (fun r1 u H locs hw hP hD hS => ?_)
  obtain ⟨hP, hD⟩ : ct_B D A H [(qm_has, .inl (cI, 55, .inl (fm_has))), mo qm 0 qm_width qm_many qm_cells qm_moved qm_tape vm_taped vm_at vm_token vm_place vm_value vm_word vm_bad vm_badPlace vm_fault vm_faultPlace qm_lines qm_has qm_round qm_meets qm_stumble qm_isMud qm_cell qm_tune qm_change qm_isKept qm_steps qm_places qm_danced vm_runMost vm_runBegins qm_heardBy vm_fitMany vm_fitFirst vm_fitBeats vm_listenLeaves qm_there vm_metAt vm_metIn qm_wins vm_nightHoles vm_nightFirst vm_nightMud vm_nightSlips vm_drawnNow, (qm_lines, .inl (cI, 5, .inl (fm_lines)))] := ⟨hP, hD⟩
  have hz := hw
  clear hw
  rcases hz with ⟨hz, hz2⟩ | ⟨hz, hz2⟩
  · subst hz
    refine lv_if_eq (tgt := 54) hx hb dX12_meets_9 (by decide) (fun hc => absurd hc (by decide)) (fun _ => ?_)
    refine lv_iload_n hx hb dX12_meets_12 rfl (lv_at hl 1 rfl) ?_
    refine lv_i2l (v := _) hx hb dX12_meets_13 rfl ?_
    refine lv_topl (fun z2 ez2 => ?_)
    have fz2 : z2.toInt = a1.toInt := by rw [ez2]; exact tl_i rfl
    have hb3 := tq_lo a1
    refine lv_lconst (v := 0) hx hb dX12_meets_14 (by decide) ?_
    refine lv_aload_n hx hb dX12_meets_15 rfl (lv_at hl 0 rfl) ?_
    refine lv_iconst (v := 0) hx hb dX12_meets_16 (by decide) ?_
    refine ct_calli (D := D) (wr := [(qm_lines, .inl (cI, 5, .inl (fm_lines)))]) (va_runV (As := [.int 0]) (rest := [.long 0, .long z2]) ⟨hx, hb, hml, hown, hts⟩ (c_X12_lengthOf l D G cI cJ cB cZ cO qm 0 qm_width qm_many qm_cells qm_moved qm_tape vm_taped vm_at vm_token vm_place vm_value vm_word vm_bad vm_badPlace vm_fault vm_faultPlace qm_lines qm_has fm_has qm_round qm_meets qm_stumble qm_isMud qm_cell qm_tune qm_change qm_isKept qm_steps qm_places qm_danced vm_runMost vm_runBegins qm_heardBy vm_fitMany vm_fitFirst vm_fitBeats vm_listenLeaves qm_there vm_metAt vm_metIn qm_wins vm_nightHoles vm_nightFirst vm_nightMud vm_nightSlips vm_drawnNow 0 h_vm_taped h_vm_at h_vm_value h_fm_has (by decide) H.size) (cwV 1 hts gX12_meets_X12_lengthOf rfl rfl rfl (by decide +kernel) ⟨Nat.le_of_ble_eq_true rfl, Nat.le_of_ble_eq_true rfl⟩) (ct_preV (T := ct_T cI cJ cB cZ cO) (ci := 12) (q0 := 1) hE hH hP hD hS hA [1, 0] (by decide) rfl rfl rfl) rfl rfl hl.1 rfl (lv_room (Nat.le_of_ble_eq_true rfl)) dX12_meets_17 ⟨Nat.le_of_ble_eq_true rfl, Nat.le_of_ble_eq_true rfl⟩) hP hD hS hA [1, 0] [2] rfl rfl (by decide) (by decide) (fun r4 u H locs hw hP hD hS => ?_)
    obtain ⟨hP, hD⟩ : ct_B D A H [(qm_lines, .inl (cI, 5, .inl (fm_lines))), mo qm 0 qm_width qm_many qm_cells qm_moved qm_tape vm_taped vm_at vm_token vm_place vm_value vm_word vm_bad vm_badPlace vm_fault vm_faultPlace qm_lines qm_has qm_round qm_meets qm_stumble qm_isMud qm_cell qm_tune qm_change qm_isKept qm_steps qm_places qm_danced vm_runMost vm_runBegins qm_heardBy vm_fitMany vm_fitFirst vm_fitBeats vm_listenLeaves qm_there vm_metAt vm_metIn qm_wins vm_nightHoles vm_nightFirst vm_nightMud vm_nightSlips vm_drawnNow, (qm_has, .inl (cI, 55, .inl (fm_has)))] := ⟨hP, hD⟩
    have hk5 : (0 : Int32).toInt = 0 := by decide
    obtain ⟨hz, hp0⟩ := hw
    have hp_6 : r4 = fm_has (3 + (0 : Int32).toInt).toNat := hp0
    clear hp0
    have hl7 : r4.toInt = (fm_has 3).toInt := by rw [hp_6]; rfl
    have h_r4 : 0 ≤ r4.toInt ∧ r4.toInt ≤ 12 := hz
    clear hz
    refine lv_iconst (v := 1) hx hb dX12_meets_20 (by decide) ?_
    refine lv_isub hx hb dX12_meets_21 ?_
    refine lv_topi (fun z8 ez8 => ?_)
    have fz8 : z8.toInt = r4.toInt - 1 := by rw [ez8]; exact tq_subt rfl (by decide) (by omega)
    refine lv_i2l (v := _) hx hb dX12_meets_22 rfl ?_
    refine lv_topl (fun z9 ez9 => ?_)
    have fz9 : z9.toInt = z8.toInt := by rw [ez9]; exact tl_i rfl
    refine ct_calli (D := D) (wr := [(qm_lines, .inl (cI, 5, .inl (fm_lines))), mo qm 0 qm_width qm_many qm_cells qm_moved qm_tape vm_taped vm_at vm_token vm_place vm_value vm_word vm_bad vm_badPlace vm_fault vm_faultPlace qm_lines qm_has qm_round qm_meets qm_stumble qm_isMud qm_cell qm_tune qm_change qm_isKept qm_steps qm_places qm_danced vm_runMost vm_runBegins qm_heardBy vm_fitMany vm_fitFirst vm_fitBeats vm_listenLeaves qm_there vm_metAt vm_metIn qm_wins vm_nightHoles vm_nightFirst vm_nightMud vm_nightSlips vm_drawnNow, (qm_has, .inl (cI, 55, .inl (fm_has)))]) (va_runS (As := [.long z2, .long 0, .long z9]) (rest := []) ⟨hx, hb, hml, hown, hts⟩ (c_X12_in l D G cI cJ cB cZ cO z2 0 z9  H.size) (va_cwS 3 hts gX12_meets_X12_in rfl rfl rfl (by decide +kernel) ⟨Nat.le_of_ble_eq_true rfl, Nat.le_of_ble_eq_true rfl⟩) (ct_preS (T := ct_T cI cJ cB cZ cO) hE hH hP hD hS hA [] (by decide) rfl) rfl rfl hl.1 rfl (lv_room (Nat.le_of_ble_eq_true rfl)) dX12_meets_23 ⟨Nat.le_of_ble_eq_true rfl, Nat.le_of_ble_eq_true rfl⟩) hP hD hS hA [] [0, 1, 2] rfl rfl (by decide) (by decide) (fun r10 u H locs hw hP hD hS => ?_)
    obtain ⟨hP, hD⟩ : ct_B D A H [(qm_lines, .inl (cI, 5, .inl (fm_lines))), mo qm 0 qm_width qm_many qm_cells qm_moved qm_tape vm_taped vm_at vm_token vm_place vm_value vm_word vm_bad vm_badPlace vm_fault vm_faultPlace qm_lines qm_has qm_round qm_meets qm_stumble qm_isMud qm_cell qm_tune qm_change qm_isKept qm_steps qm_places qm_danced vm_runMost vm_runBegins qm_heardBy vm_fitMany vm_fitFirst vm_fitBeats vm_listenLeaves qm_there vm_metAt vm_metIn qm_wins vm_nightHoles vm_nightFirst vm_nightMud vm_nightSlips vm_drawnNow, (qm_has, .inl (cI, 55, .inl (fm_has)))] := ⟨hP, hD⟩
    have hk11 : (0 : Int64).toInt = 0 := by decide
    have hz := hw
    clear hw
    rcases hz with ⟨hz, hz2⟩ | ⟨hz, hz2⟩
    · subst hz
      have hz_12 : ((0 : Int64).toInt ≤ z2.toInt ∧ z2.toInt ≤ z9.toInt) := hz2
      refine lv_if_eq (tgt := 54) hx hb dX12_meets_26 (by decide) (fun hc => absurd hc (by decide)) (fun _ => ?_)
      refine lv_iload_n hx hb dX12_meets_29 rfl (lv_at hl 2 rfl) ?_
      refine lv_i2l (v := _) hx hb dX12_meets_30 rfl ?_
      refine lv_topl (fun z13 ez13 => ?_)
      have fz13 : z13.toInt = a2.toInt := by rw [ez13]; exact tl_i rfl
      have hb14 := tq_lo a2
      refine lv_lconst (v := 0) hx hb dX12_meets_31 (by decide) ?_
      refine lv_aload_n hx hb dX12_meets_32 rfl (lv_at hl 0 rfl) ?_
      refine lv_iconst (v := 1) hx hb dX12_meets_33 (by decide) ?_
      refine ct_calli (D := D) (wr := [(qm_lines, .inl (cI, 5, .inl (fm_lines)))]) (va_runV (As := [.int 1]) (rest := [.long 0, .long z13]) ⟨hx, hb, hml, hown, hts⟩ (c_X12_lengthOf l D G cI cJ cB cZ cO qm 0 qm_width qm_many qm_cells qm_moved qm_tape vm_taped vm_at vm_token vm_place vm_value vm_word vm_bad vm_badPlace vm_fault vm_faultPlace qm_lines qm_has fm_has qm_round qm_meets qm_stumble qm_isMud qm_cell qm_tune qm_change qm_isKept qm_steps qm_places qm_danced vm_runMost vm_runBegins qm_heardBy vm_fitMany vm_fitFirst vm_fitBeats vm_listenLeaves qm_there vm_metAt vm_metIn qm_wins vm_nightHoles vm_nightFirst vm_nightMud vm_nightSlips vm_drawnNow 1 h_vm_taped h_vm_at h_vm_value h_fm_has (by decide) H.size) (cwV 1 hts gX12_meets_X12_lengthOf rfl rfl rfl (by decide +kernel) ⟨Nat.le_of_ble_eq_true rfl, Nat.le_of_ble_eq_true rfl⟩) (ct_preV (T := ct_T cI cJ cB cZ cO) (ci := 12) (q0 := 1) hE hH hP hD hS hA [1, 2] (by decide) rfl rfl rfl) rfl rfl hl.1 rfl (lv_room (Nat.le_of_ble_eq_true rfl)) dX12_meets_34 ⟨Nat.le_of_ble_eq_true rfl, Nat.le_of_ble_eq_true rfl⟩) hP hD hS hA [1, 2] [0] rfl rfl (by decide) (by decide) (fun r15 u H locs hw hP hD hS => ?_)
      obtain ⟨hP, hD⟩ : ct_B D A H [(qm_lines, .inl (cI, 5, .inl (fm_lines))), mo qm 0 qm_width qm_many qm_cells qm_moved qm_tape vm_taped vm_at vm_token vm_place vm_value vm_word vm_bad vm_badPlace vm_fault vm_faultPlace qm_lines qm_has qm_round qm_meets qm_stumble qm_isMud qm_cell qm_tune qm_change qm_isKept qm_steps qm_places qm_danced vm_runMost vm_runBegins qm_heardBy vm_fitMany vm_fitFirst vm_fitBeats vm_listenLeaves qm_there vm_metAt vm_metIn qm_wins vm_nightHoles vm_nightFirst vm_nightMud vm_nightSlips vm_drawnNow, (qm_has, .inl (cI, 55, .inl (fm_has)))] := ⟨hP, hD⟩
      have hk16 : (1 : Int32).toInt = 1 := by decide
      obtain ⟨hz, hp0⟩ := hw
      have hp_17 : r15 = fm_has (3 + (1 : Int32).toInt).toNat := hp0
      clear hp0
      have hl18 : r15.toInt = (fm_has 4).toInt := by rw [hp_17]; rfl
      have h_r15 : 0 ≤ r15.toInt ∧ r15.toInt ≤ 12 := hz
      clear hz
      refine lv_iconst (v := 1) hx hb dX12_meets_37 (by decide) ?_
      refine lv_isub hx hb dX12_meets_38 ?_
      refine lv_topi (fun z19 ez19 => ?_)
      have fz19 : z19.toInt = r15.toInt - 1 := by rw [ez19]; exact tq_subt rfl (by decide) (by omega)
      refine lv_i2l (v := _) hx hb dX12_meets_39 rfl ?_
      refine lv_topl (fun z20 ez20 => ?_)
      have fz20 : z20.toInt = z19.toInt := by rw [ez20]; exact tl_i rfl
      refine ct_calli (D := D) (wr := [(qm_lines, .inl (cI, 5, .inl (fm_lines))), mo qm 0 qm_width qm_many qm_cells qm_moved qm_tape vm_taped vm_at vm_token vm_place vm_value vm_word vm_bad vm_badPlace vm_fault vm_faultPlace qm_lines qm_has qm_round qm_meets qm_stumble qm_isMud qm_cell qm_tune qm_change qm_isKept qm_steps qm_places qm_danced vm_runMost vm_runBegins qm_heardBy vm_fitMany vm_fitFirst vm_fitBeats vm_listenLeaves qm_there vm_metAt vm_metIn qm_wins vm_nightHoles vm_nightFirst vm_nightMud vm_nightSlips vm_drawnNow, (qm_has, .inl (cI, 55, .inl (fm_has)))]) (va_runS (As := [.long z13, .long 0, .long z20]) (rest := []) ⟨hx, hb, hml, hown, hts⟩ (c_X12_in l D G cI cJ cB cZ cO z13 0 z20  H.size) (va_cwS 3 hts gX12_meets_X12_in rfl rfl rfl (by decide +kernel) ⟨Nat.le_of_ble_eq_true rfl, Nat.le_of_ble_eq_true rfl⟩) (ct_preS (T := ct_T cI cJ cB cZ cO) hE hH hP hD hS hA [] (by decide) rfl) rfl rfl hl.1 rfl (lv_room (Nat.le_of_ble_eq_true rfl)) dX12_meets_40 ⟨Nat.le_of_ble_eq_true rfl, Nat.le_of_ble_eq_true rfl⟩) hP hD hS hA [] [0, 1, 2] rfl rfl (by decide) (by decide) (fun r21 u H locs hw hP hD hS => ?_)
      obtain ⟨hP, hD⟩ : ct_B D A H [(qm_lines, .inl (cI, 5, .inl (fm_lines))), mo qm 0 qm_width qm_many qm_cells qm_moved qm_tape vm_taped vm_at vm_token vm_place vm_value vm_word vm_bad vm_badPlace vm_fault vm_faultPlace qm_lines qm_has qm_round qm_meets qm_stumble qm_isMud qm_cell qm_tune qm_change qm_isKept qm_steps qm_places qm_danced vm_runMost vm_runBegins qm_heardBy vm_fitMany vm_fitFirst vm_fitBeats vm_listenLeaves qm_there vm_metAt vm_metIn qm_wins vm_nightHoles vm_nightFirst vm_nightMud vm_nightSlips vm_drawnNow, (qm_has, .inl (cI, 55, .inl (fm_has)))] := ⟨hP, hD⟩
      have hk22 : (0 : Int64).toInt = 0 := by decide
      have hz := hw
      clear hw
      rcases hz with ⟨hz, hz2⟩ | ⟨hz, hz2⟩
      · subst hz
        have hz_23 : ((0 : Int64).toInt ≤ z13.toInt ∧ z13.toInt ≤ z20.toInt) := hz2
        refine lv_if_eq (tgt := 54) hx hb dX12_meets_43 (by decide) (fun hc => absurd hc (by decide)) (fun _ => ?_)
        refine lv_iload_n hx hb dX12_meets_46 rfl (lv_at hl 3 rfl) ?_
        refine lv_i2l (v := _) hx hb dX12_meets_47 rfl ?_
        refine lv_topl (fun z24 ez24 => ?_)
        have fz24 : z24.toInt = a3.toInt := by rw [ez24]; exact tl_i rfl
        have hb25 := tq_lo a3
        refine ct_calli (D := D) (wr := [(qm_lines, .inl (cI, 5, .inl (fm_lines))), mo qm 0 qm_width qm_many qm_cells qm_moved qm_tape vm_taped vm_at vm_token vm_place vm_value vm_word vm_bad vm_badPlace vm_fault vm_faultPlace qm_lines qm_has qm_round qm_meets qm_stumble qm_isMud qm_cell qm_tune qm_change qm_isKept qm_steps qm_places qm_danced vm_runMost vm_runBegins qm_heardBy vm_fitMany vm_fitFirst vm_fitBeats vm_listenLeaves qm_there vm_metAt vm_metIn qm_wins vm_nightHoles vm_nightFirst vm_nightMud vm_nightSlips vm_drawnNow, (qm_has, .inl (cI, 55, .inl (fm_has)))]) (va_runS (As := [.long z24]) (rest := []) ⟨hx, hb, hml, hown, hts⟩ (c_X12_isBeat l D G cI cJ cB cZ cO z24  H.size) (va_cwS 1 hts gX12_meets_X12_isBeat rfl rfl rfl (by decide +kernel) ⟨Nat.le_of_ble_eq_true rfl, Nat.le_of_ble_eq_true rfl⟩) (ct_preS (T := ct_T cI cJ cB cZ cO) hE hH hP hD hS hA [] (by decide) rfl) rfl rfl hl.1 rfl (lv_room (Nat.le_of_ble_eq_true rfl)) dX12_meets_48 ⟨Nat.le_of_ble_eq_true rfl, Nat.le_of_ble_eq_true rfl⟩) hP hD hS hA [] [0, 1, 2] rfl rfl (by decide) (by decide) (fun r26 u H locs hw hP hD hS => ?_)
        obtain ⟨hP, hD⟩ : ct_B D A H [(qm_lines, .inl (cI, 5, .inl (fm_lines))), mo qm 0 qm_width qm_many qm_cells qm_moved qm_tape vm_taped vm_at vm_token vm_place vm_value vm_word vm_bad vm_badPlace vm_fault vm_faultPlace qm_lines qm_has qm_round qm_meets qm_stumble qm_isMud qm_cell qm_tune qm_change qm_isKept qm_steps qm_places qm_danced vm_runMost vm_runBegins qm_heardBy vm_fitMany vm_fitFirst vm_fitBeats vm_listenLeaves qm_there vm_metAt vm_metIn qm_wins vm_nightHoles vm_nightFirst vm_nightMud vm_nightSlips vm_drawnNow, (qm_has, .inl (cI, 55, .inl (fm_has)))] := ⟨hP, hD⟩
        have hz := hw
        clear hw
        rcases hz with ⟨hz, hz2⟩ | ⟨hz, hz2⟩
        · subst hz
          have hz_27 : (0 ≤ z24.toInt ∧ z24.toInt ≤ 199) := hz2
          refine lv_if_ne (tgt := 57) hx hb dX12_meets_51 (by decide) (fun _ => ?_) (fun hc => absurd hc (by decide))
          refine lv_iload_n hx hb dX12_meets_57 rfl (lv_at hl 3 rfl) ?_
          refine lv_istore (lv' := [(4, .int a3), (0, .ref qm), (1, .int a1), (2, .int a2), (3, .int a3)]) hx hb dX12_meets_58 hl (by decide) rfl (fun ls hl => ?_)
          refine ct_loop (X := Int32) (fun x => (343 - x.toInt).toNat) (fun x H locs ls => ((0 ≤ x.toInt ∧ x.toInt ≤ 343)) ∧ ct_B D A H [(qm_lines, .inl (cI, 5, .inl (fm_lines))), mo qm 0 qm_width qm_many qm_cells qm_moved qm_tape vm_taped vm_at vm_token vm_place vm_value vm_word vm_bad vm_badPlace vm_fault vm_faultPlace qm_lines qm_has qm_round qm_meets qm_stumble qm_isMud qm_cell qm_tune qm_change qm_isKept qm_steps qm_places qm_danced vm_runMost vm_runBegins qm_heardBy vm_fitMany vm_fitFirst vm_fitBeats vm_listenLeaves qm_there vm_metAt vm_metIn qm_wins vm_nightHoles vm_nightFirst vm_nightMud vm_nightSlips vm_drawnNow, (qm_has, .inl (cI, 55, .inl (fm_has)))] ∧ va_S A s.heap H locs ∧ lv_has ls 5 [(4, .int x), (0, .ref qm), (1, .int a1), (2, .int a2), (3, .int a3)]) 60 a3 ⟨(show 0 ≤ a3.toInt ∧ a3.toInt ≤ 343 by omega), ⟨hP, hD⟩, hS, lv_sub hl [0, 1, 2, 3, 4] rfl⟩ (fun x ih196 H locs ls hI => ?_)
          obtain ⟨x195, rfl⟩ : ∃ z, z = x := ⟨_, rfl⟩
          obtain ⟨h_x195, ⟨hP, hD⟩, hS, hl⟩ := hI
          change (0 ≤ x195.toInt ∧ x195.toInt ≤ 343) at h_x195
          obtain ⟨hP, hD⟩ : ct_B D A H [(qm_lines, .inl (cI, 5, .inl (fm_lines))), mo qm 0 qm_width qm_many qm_cells qm_moved qm_tape vm_taped vm_at vm_token vm_place vm_value vm_word vm_bad vm_badPlace vm_fault vm_faultPlace qm_lines qm_has qm_round qm_meets qm_stumble qm_isMud qm_cell qm_tune qm_change qm_isKept qm_steps qm_places qm_danced vm_runMost vm_runBegins qm_heardBy vm_fitMany vm_fitFirst vm_fitBeats vm_listenLeaves qm_there vm_metAt vm_metIn qm_wins vm_nightHoles vm_nightFirst vm_nightMud vm_nightSlips vm_drawnNow, (qm_has, .inl (cI, 55, .inl (fm_has)))] := ⟨hP, hD⟩
          have hl : lv_has ls 5 [(4, .int x195), (0, .ref qm), (1, .int a1), (2, .int a2), (3, .int a3)] := hl
          refine lv_iload hx hb dX12_meets_60 (lv_at hl 0 rfl) ?_
          refine lv_iload_n hx hb dX12_meets_62 rfl (lv_at hl 4 rfl) ?_
          refine lv_aload_n hx hb dX12_meets_63 rfl (lv_at hl 1 rfl) ?_
          refine ct_calli (D := D) (wr := [(qm_lines, .inl (cI, 5, .inl (fm_lines)))]) (va_runV (As := []) (rest := [.int a3, .int x195]) ⟨hx, hb, hml, hown, hts⟩ (c_X12_periodOf l D G cI cJ cB cZ cO qm 0 qm_width qm_many qm_cells qm_moved qm_tape vm_taped vm_at vm_token vm_place vm_value vm_word vm_bad vm_badPlace vm_fault vm_faultPlace qm_lines qm_has fm_has qm_round qm_meets qm_stumble qm_isMud qm_cell qm_tune qm_change qm_isKept qm_steps qm_places qm_danced vm_runMost vm_runBegins qm_heardBy vm_fitMany vm_fitFirst vm_fitBeats vm_listenLeaves qm_there vm_metAt vm_metIn qm_wins vm_nightHoles vm_nightFirst vm_nightMud vm_nightSlips vm_drawnNow h_vm_taped h_vm_at h_vm_value h_fm_has (by omega) H.size) (cwV 0 hts gX12_meets_X12_periodOf rfl rfl rfl (by decide +kernel) ⟨Nat.le_of_ble_eq_true rfl, Nat.le_of_ble_eq_true rfl⟩) (ct_preV (T := ct_T cI cJ cB cZ cO) (ci := 12) (q0 := 1) hE hH hP hD hS hA [1, 2] (by decide) rfl rfl rfl) rfl rfl hl.1 rfl (lv_room (Nat.le_of_ble_eq_true rfl)) dX12_meets_64 ⟨Nat.le_of_ble_eq_true rfl, Nat.le_of_ble_eq_true rfl⟩) hP hD hS hA [1, 2] [0] rfl rfl (by decide) (by decide) (fun r197 u H locs hw hP hD hS => ?_)
          obtain ⟨hP, hD⟩ : ct_B D A H [(qm_lines, .inl (cI, 5, .inl (fm_lines))), mo qm 0 qm_width qm_many qm_cells qm_moved qm_tape vm_taped vm_at vm_token vm_place vm_value vm_word vm_bad vm_badPlace vm_fault vm_faultPlace qm_lines qm_has qm_round qm_meets qm_stumble qm_isMud qm_cell qm_tune qm_change qm_isKept qm_steps qm_places qm_danced vm_runMost vm_runBegins qm_heardBy vm_fitMany vm_fitFirst vm_fitBeats vm_listenLeaves qm_there vm_metAt vm_metIn qm_wins vm_nightHoles vm_nightFirst vm_nightMud vm_nightSlips vm_drawnNow, (qm_has, .inl (cI, 55, .inl (fm_has)))] := ⟨hP, hD⟩
          have hz := hw
          clear hw
          have h_r197 : 0 ≤ r197.toInt ∧ r197.toInt ≤ 144 := hz
          clear hz
          refine lv_iadd hx hb dX12_meets_67 ?_
          refine lv_topi (fun z198 ez198 => ?_)
          have fz198 : z198.toInt = a3.toInt + r197.toInt := by rw [ez198]; exact tq_add rfl rfl (by omega)
          refine lv_icmp_ge (tgt := 119) hx hb dX12_meets_68 (by decide) (fun hc => ?_) (fun hc => ?_)
          · have hq199 : z198.toInt ≤ x195.toInt := tq_le rfl rfl hc
            refine lv_iconst (v := (-1)) hx hb dX12_meets_119 (by decide) ?_
            obtain ⟨hP9, hD9⟩ : ct_B D A H [mo qm 0 qm_width qm_many qm_cells qm_moved qm_tape vm_taped vm_at vm_token vm_place vm_value vm_word vm_bad vm_badPlace vm_fault vm_faultPlace qm_lines qm_has qm_round qm_meets qm_stumble qm_isMud qm_cell qm_tune qm_change qm_isKept qm_steps qm_places qm_danced vm_runMost vm_runBegins qm_heardBy vm_fitMany vm_fitFirst vm_fitBeats vm_listenLeaves qm_there vm_metAt vm_metIn qm_wins vm_nightHoles vm_nightFirst vm_nightMud vm_nightSlips vm_drawnNow, (qm_lines, .inl (cI, 5, .inl (fm_lines))), (qm_has, .inl (cI, 55, .inl (fm_has)))] := ⟨hP.sub [1, 0, 2] rfl, hD.sub [1, 0, 2] (by decide) rfl⟩
            exact W.iret (v := (-1)) hx hb hr (fun t ht hW => ⟨⟨(-1), (0 : Int32), rfl, (show (-2) ≤ (-1 : Int32).toInt ∧ (-1 : Int32).toInt ≤ 342 by decide), by rw [ht]; exact hP9, hD9⟩, hS.F ht⟩) hS.2.2 dX12_meets_120
          · have hq199 : x195.toInt < z198.toInt := tq_nle rfl rfl hc
            refine lv_aload_n hx hb dX12_meets_71 rfl (lv_at hl 1 rfl) ?_
            refine va_get (D := D) (ci := 12) (v := .ref qm_has) (C := RX12) (T := TX12) (N := 45) hx hb hts hi12 hown hK hP 1 rfl rfl 17 (by decide) (hts (.fieldLink RX12 34 "OverHillModel" "has" "[I") (by decide +kernel)) (fun _ h9 => h9) rfl dX12_meets_72 ?_
            refine lv_iconst (v := 5) hx hb dX12_meets_75 (by decide) ?_
            refine va_iald (D := D) hx hb hK hP 2 0 rfl rfl (tq_in (a := 5) (by decide) (by omega)) dX12_meets_76 ?_
            refine lv_topi (fun z200 ez200 => ?_)
            have fz200 : 0 ≤ z200.toInt ∧ z200.toInt ≤ 11 := by rw [ez200]; exact ar_get h_fm_has (5 : Int32) 5 (by decide) (by decide) rfl
            refine lv_iload hx hb dX12_meets_77 (lv_at hl 0 rfl) ?_
            refine lv_iadd hx hb dX12_meets_79 ?_
            refine lv_topi (fun z201 ez201 => ?_)
            have fz201 : z201.toInt = z200.toInt + x195.toInt := by rw [ez201]; exact tq_add rfl rfl (by omega)
            refine lv_aload_n hx hb dX12_meets_80 rfl (lv_at hl 1 rfl) ?_
            refine lv_iconst (v := 0) hx hb dX12_meets_81 (by decide) ?_
            refine ct_calli (D := D) (wr := [(qm_lines, .inl (cI, 5, .inl (fm_lines)))]) (va_runV (As := [.int 0]) (rest := [.int z201]) ⟨hx, hb, hml, hown, hts⟩ (c_X12_lengthOf l D G cI cJ cB cZ cO qm 0 qm_width qm_many qm_cells qm_moved qm_tape vm_taped vm_at vm_token vm_place vm_value vm_word vm_bad vm_badPlace vm_fault vm_faultPlace qm_lines qm_has fm_has qm_round qm_meets qm_stumble qm_isMud qm_cell qm_tune qm_change qm_isKept qm_steps qm_places qm_danced vm_runMost vm_runBegins qm_heardBy vm_fitMany vm_fitFirst vm_fitBeats vm_listenLeaves qm_there vm_metAt vm_metIn qm_wins vm_nightHoles vm_nightFirst vm_nightMud vm_nightSlips vm_drawnNow 0 h_vm_taped h_vm_at h_vm_value h_fm_has (by decide) H.size) (cwV 1 hts gX12_meets_X12_lengthOf rfl rfl rfl (by decide +kernel) ⟨Nat.le_of_ble_eq_true rfl, Nat.le_of_ble_eq_true rfl⟩) (ct_preV (T := ct_T cI cJ cB cZ cO) (ci := 12) (q0 := 1) hE hH hP hD hS hA [1, 2] (by decide) rfl rfl rfl) rfl rfl hl.1 rfl (lv_room (Nat.le_of_ble_eq_true rfl)) dX12_meets_82 ⟨Nat.le_of_ble_eq_true rfl, Nat.le_of_ble_eq_true rfl⟩) hP hD hS hA [1, 2] [0] rfl rfl (by decide) (by decide) (fun r202 u H locs hw hP hD hS => ?_)
            obtain ⟨hP, hD⟩ : ct_B D A H [(qm_lines, .inl (cI, 5, .inl (fm_lines))), mo qm 0 qm_width qm_many qm_cells qm_moved qm_tape vm_taped vm_at vm_token vm_place vm_value vm_word vm_bad vm_badPlace vm_fault vm_faultPlace qm_lines qm_has qm_round qm_meets qm_stumble qm_isMud qm_cell qm_tune qm_change qm_isKept qm_steps qm_places qm_danced vm_runMost vm_runBegins qm_heardBy vm_fitMany vm_fitFirst vm_fitBeats vm_listenLeaves qm_there vm_metAt vm_metIn qm_wins vm_nightHoles vm_nightFirst vm_nightMud vm_nightSlips vm_drawnNow, (qm_has, .inl (cI, 55, .inl (fm_has)))] := ⟨hP, hD⟩
            have hk203 : (0 : Int32).toInt = 0 := by decide
            obtain ⟨hz, hp0⟩ := hw
            have hp_204 : r202 = fm_has (3 + (0 : Int32).toInt).toNat := hp0
            clear hp0
            have hl205 : r202.toInt = (fm_has 3).toInt := by rw [hp_204]; rfl
            have h_r202 : 0 ≤ r202.toInt ∧ r202.toInt ≤ 12 := hz
            clear hz
            refine lv_irem hx hb dX12_meets_85 (tq_nz (by omega)) ?_
            refine lv_topi (fun z206 ez206 => ?_)
            refine lv_iload_n hx hb dX12_meets_86 rfl (lv_at hl 2 rfl) ?_
            refine lv_icmp_ne (tgt := 113) hx hb dX12_meets_87 (by decide) (fun hc => ?_) (fun hc => ?_)
            · have hq207 : z206.toInt ≠ a1.toInt := tq_ne rfl rfl hc
              have hb208 := tq_lo z206
              obtain ⟨z209, ez209⟩ : ∃ z : Int32, z = x195 + 1 := ⟨_, rfl⟩
              have fz209 : z209.toInt = x195.toInt + 1 := by rw [ez209]; exact tq_add rfl (by decide) (by omega)
              refine lv_iinc (v := z209) (lv' := [(4, .int z209), (0, .ref qm), (1, .int a1), (2, .int a2), (3, .int a3)]) hx hb dX12_meets_113 hl (k := 0) rfl ez209.symm (by decide) rfl (fun ls hl => ?_)
              refine lv_goto (tgt := 60) hx hb dX12_meets_116 (by decide) ?_
              exact ih196 z209 _ _ _ (show (343 - z209.toInt).toNat < (343 - x195.toInt).toNat by omega) ⟨(show 0 ≤ z209.toInt ∧ z209.toInt ≤ 343 by omega), ⟨hP, hD⟩, hS, lv_sub hl [0, 1, 2, 3, 4] rfl⟩
            · have hq207 : z206.toInt = a1.toInt := tq_eq rfl rfl hc
              have hb210 := tq_lo z206
              refine lv_aload_n hx hb dX12_meets_90 rfl (lv_at hl 1 rfl) ?_
              refine va_get (D := D) (ci := 12) (v := .ref qm_has) (C := RX12) (T := TX12) (N := 45) hx hb hts hi12 hown hK hP 1 rfl rfl 17 (by decide) (hts (.fieldLink RX12 34 "OverHillModel" "has" "[I") (by decide +kernel)) (fun _ h9 => h9) rfl dX12_meets_91 ?_
              refine lv_bipush (v := 6) hx hb dX12_meets_94 (by decide) ?_
              refine va_iald (D := D) hx hb hK hP 2 0 rfl rfl (tq_in (a := 6) (by decide) (by omega)) dX12_meets_96 ?_
              refine lv_topi (fun z211 ez211 => ?_)
              have fz211 : 0 ≤ z211.toInt ∧ z211.toInt ≤ 11 := by rw [ez211]; exact ar_get h_fm_has (6 : Int32) 6 (by decide) (by decide) rfl
              refine lv_iload hx hb dX12_meets_97 (lv_at hl 0 rfl) ?_
              refine lv_iadd hx hb dX12_meets_99 ?_
              refine lv_topi (fun z212 ez212 => ?_)
              have fz212 : z212.toInt = z211.toInt + x195.toInt := by rw [ez212]; exact tq_add rfl rfl (by omega)
              refine lv_aload_n hx hb dX12_meets_100 rfl (lv_at hl 1 rfl) ?_
              refine lv_iconst (v := 1) hx hb dX12_meets_101 (by decide) ?_
              refine ct_calli (D := D) (wr := [(qm_lines, .inl (cI, 5, .inl (fm_lines)))]) (va_runV (As := [.int 1]) (rest := [.int z212]) ⟨hx, hb, hml, hown, hts⟩ (c_X12_lengthOf l D G cI cJ cB cZ cO qm 0 qm_width qm_many qm_cells qm_moved qm_tape vm_taped vm_at vm_token vm_place vm_value vm_word vm_bad vm_badPlace vm_fault vm_faultPlace qm_lines qm_has fm_has qm_round qm_meets qm_stumble qm_isMud qm_cell qm_tune qm_change qm_isKept qm_steps qm_places qm_danced vm_runMost vm_runBegins qm_heardBy vm_fitMany vm_fitFirst vm_fitBeats vm_listenLeaves qm_there vm_metAt vm_metIn qm_wins vm_nightHoles vm_nightFirst vm_nightMud vm_nightSlips vm_drawnNow 1 h_vm_taped h_vm_at h_vm_value h_fm_has (by decide) H.size) (cwV 1 hts gX12_meets_X12_lengthOf rfl rfl rfl (by decide +kernel) ⟨Nat.le_of_ble_eq_true rfl, Nat.le_of_ble_eq_true rfl⟩) (ct_preV (T := ct_T cI cJ cB cZ cO) (ci := 12) (q0 := 1) hE hH hP hD hS hA [1, 2] (by decide) rfl rfl rfl) rfl rfl hl.1 rfl (lv_room (Nat.le_of_ble_eq_true rfl)) dX12_meets_102 ⟨Nat.le_of_ble_eq_true rfl, Nat.le_of_ble_eq_true rfl⟩) hP hD hS hA [1, 2] [0] rfl rfl (by decide) (by decide) (fun r213 u H locs hw hP hD hS => ?_)
              obtain ⟨hP, hD⟩ : ct_B D A H [(qm_lines, .inl (cI, 5, .inl (fm_lines))), mo qm 0 qm_width qm_many qm_cells qm_moved qm_tape vm_taped vm_at vm_token vm_place vm_value vm_word vm_bad vm_badPlace vm_fault vm_faultPlace qm_lines qm_has qm_round qm_meets qm_stumble qm_isMud qm_cell qm_tune qm_change qm_isKept qm_steps qm_places qm_danced vm_runMost vm_runBegins qm_heardBy vm_fitMany vm_fitFirst vm_fitBeats vm_listenLeaves qm_there vm_metAt vm_metIn qm_wins vm_nightHoles vm_nightFirst vm_nightMud vm_nightSlips vm_drawnNow, (qm_has, .inl (cI, 55, .inl (fm_has)))] := ⟨hP, hD⟩
              have hk214 : (1 : Int32).toInt = 1 := by decide
              obtain ⟨hz, hp0⟩ := hw
              have hp_215 : r213 = fm_has (3 + (1 : Int32).toInt).toNat := hp0
              clear hp0
              have hl216 : r213.toInt = (fm_has 4).toInt := by rw [hp_215]; rfl
              have h_r213 : 0 ≤ r213.toInt ∧ r213.toInt ≤ 12 := hz
              clear hz
              refine lv_irem hx hb dX12_meets_105 (tq_nz (by omega)) ?_
              refine lv_topi (fun z217 ez217 => ?_)
              refine lv_iload_n hx hb dX12_meets_106 rfl (lv_at hl 3 rfl) ?_
              refine lv_icmp_ne (tgt := 113) hx hb dX12_meets_107 (by decide) (fun hc => ?_) (fun hc => ?_)
              · have hq218 : z217.toInt ≠ a2.toInt := tq_ne rfl rfl hc
                have hb219 := tq_lo z217
                obtain ⟨z220, ez220⟩ : ∃ z : Int32, z = x195 + 1 := ⟨_, rfl⟩
                have fz220 : z220.toInt = x195.toInt + 1 := by rw [ez220]; exact tq_add rfl (by decide) (by omega)
                refine lv_iinc (v := z220) (lv' := [(4, .int z220), (0, .ref qm), (1, .int a1), (2, .int a2), (3, .int a3)]) hx hb dX12_meets_113 hl (k := 0) rfl ez220.symm (by decide) rfl (fun ls hl => ?_)
                refine lv_goto (tgt := 60) hx hb dX12_meets_116 (by decide) ?_
                exact ih196 z220 _ _ _ (show (343 - z220.toInt).toNat < (343 - x195.toInt).toNat by omega) ⟨(show 0 ≤ z220.toInt ∧ z220.toInt ≤ 343 by omega), ⟨hP, hD⟩, hS, lv_sub hl [0, 1, 2, 3, 4] rfl⟩
              · have hq218 : z217.toInt = a2.toInt := tq_eq rfl rfl hc
                have hb221 := tq_lo z217
                refine lv_iload hx hb dX12_meets_110 (lv_at hl 0 rfl) ?_
                obtain ⟨hP9, hD9⟩ : ct_B D A H [mo qm 0 qm_width qm_many qm_cells qm_moved qm_tape vm_taped vm_at vm_token vm_place vm_value vm_word vm_bad vm_badPlace vm_fault vm_faultPlace qm_lines qm_has qm_round qm_meets qm_stumble qm_isMud qm_cell qm_tune qm_change qm_isKept qm_steps qm_places qm_danced vm_runMost vm_runBegins qm_heardBy vm_fitMany vm_fitFirst vm_fitBeats vm_listenLeaves qm_there vm_metAt vm_metIn qm_wins vm_nightHoles vm_nightFirst vm_nightMud vm_nightSlips vm_drawnNow, (qm_lines, .inl (cI, 5, .inl (fm_lines))), (qm_has, .inl (cI, 55, .inl (fm_has)))] := ⟨hP.sub [1, 0, 2] rfl, hD.sub [1, 0, 2] (by decide) rfl⟩
                exact W.iret (v := x195) hx hb hr (fun t ht hW => ⟨⟨x195, (0 : Int32), rfl, (show (-2) ≤ x195.toInt ∧ x195.toInt ≤ 342 by omega), by rw [ht]; exact hP9, hD9⟩, hS.F ht⟩) hS.2.2 dX12_meets_112
        · subst hz
          have hz_222 : ¬ (0 ≤ z24.toInt ∧ z24.toInt ≤ 199) := hz2
          refine lv_if_ne (tgt := 57) hx hb dX12_meets_51 (by decide) (fun hc => absurd hc (by decide)) (fun _ => ?_)
          refine lv_bipush (v := (-2)) hx hb dX12_meets_54 (by decide) ?_
          obtain ⟨hP9, hD9⟩ : ct_B D A H [mo qm 0 qm_width qm_many qm_cells qm_moved qm_tape vm_taped vm_at vm_token vm_place vm_value vm_word vm_bad vm_badPlace vm_fault vm_faultPlace qm_lines qm_has qm_round qm_meets qm_stumble qm_isMud qm_cell qm_tune qm_change qm_isKept qm_steps qm_places qm_danced vm_runMost vm_runBegins qm_heardBy vm_fitMany vm_fitFirst vm_fitBeats vm_listenLeaves qm_there vm_metAt vm_metIn qm_wins vm_nightHoles vm_nightFirst vm_nightMud vm_nightSlips vm_drawnNow, (qm_lines, .inl (cI, 5, .inl (fm_lines))), (qm_has, .inl (cI, 55, .inl (fm_has)))] := ⟨hP.sub [1, 0, 2] rfl, hD.sub [1, 0, 2] (by decide) rfl⟩
          exact W.iret (v := (-2)) hx hb hr (fun t ht hW => ⟨⟨(-2), (0 : Int32), rfl, (show (-2) ≤ (-2 : Int32).toInt ∧ (-2 : Int32).toInt ≤ 342 by decide), by rw [ht]; exact hP9, hD9⟩, hS.F ht⟩) hS.2.2 dX12_meets_56
      · subst hz
        have hz_223 : ¬ ((0 : Int64).toInt ≤ z13.toInt ∧ z13.toInt ≤ z20.toInt) := hz2
        refine lv_if_eq (tgt := 54) hx hb dX12_meets_43 (by decide) (fun _ => ?_) (fun hc => absurd hc (by decide))
        refine lv_bipush (v := (-2)) hx hb dX12_meets_54 (by decide) ?_
        obtain ⟨hP9, hD9⟩ : ct_B D A H [mo qm 0 qm_width qm_many qm_cells qm_moved qm_tape vm_taped vm_at vm_token vm_place vm_value vm_word vm_bad vm_badPlace vm_fault vm_faultPlace qm_lines qm_has qm_round qm_meets qm_stumble qm_isMud qm_cell qm_tune qm_change qm_isKept qm_steps qm_places qm_danced vm_runMost vm_runBegins qm_heardBy vm_fitMany vm_fitFirst vm_fitBeats vm_listenLeaves qm_there vm_metAt vm_metIn qm_wins vm_nightHoles vm_nightFirst vm_nightMud vm_nightSlips vm_drawnNow, (qm_lines, .inl (cI, 5, .inl (fm_lines))), (qm_has, .inl (cI, 55, .inl (fm_has)))] := ⟨hP.sub [1, 0, 2] rfl, hD.sub [1, 0, 2] (by decide) rfl⟩
        exact W.iret (v := (-2)) hx hb hr (fun t ht hW => ⟨⟨(-2), (0 : Int32), rfl, (show (-2) ≤ (-2 : Int32).toInt ∧ (-2 : Int32).toInt ≤ 342 by decide), by rw [ht]; exact hP9, hD9⟩, hS.F ht⟩) hS.2.2 dX12_meets_56
    · subst hz
      have hz_224 : ¬ ((0 : Int64).toInt ≤ z2.toInt ∧ z2.toInt ≤ z9.toInt) := hz2
      refine lv_if_eq (tgt := 54) hx hb dX12_meets_26 (by decide) (fun _ => ?_) (fun hc => absurd hc (by decide))
      refine lv_bipush (v := (-2)) hx hb dX12_meets_54 (by decide) ?_
      obtain ⟨hP9, hD9⟩ : ct_B D A H [mo qm 0 qm_width qm_many qm_cells qm_moved qm_tape vm_taped vm_at vm_token vm_place vm_value vm_word vm_bad vm_badPlace vm_fault vm_faultPlace qm_lines qm_has qm_round qm_meets qm_stumble qm_isMud qm_cell qm_tune qm_change qm_isKept qm_steps qm_places qm_danced vm_runMost vm_runBegins qm_heardBy vm_fitMany vm_fitFirst vm_fitBeats vm_listenLeaves qm_there vm_metAt vm_metIn qm_wins vm_nightHoles vm_nightFirst vm_nightMud vm_nightSlips vm_drawnNow, (qm_lines, .inl (cI, 5, .inl (fm_lines))), (qm_has, .inl (cI, 55, .inl (fm_has)))] := ⟨hP.sub [1, 0, 2] rfl, hD.sub [1, 0, 2] (by decide) rfl⟩
      exact W.iret (v := (-2)) hx hb hr (fun t ht hW => ⟨⟨(-2), (0 : Int32), rfl, (show (-2) ≤ (-2 : Int32).toInt ∧ (-2 : Int32).toInt ≤ 342 by decide), by rw [ht]; exact hP9, hD9⟩, hS.F ht⟩) hS.2.2 dX12_meets_56
  · subst hz
    refine lv_if_eq (tgt := 54) hx hb dX12_meets_9 (by decide) (fun _ => ?_) (fun hc => absurd hc (by decide))
    refine lv_bipush (v := (-2)) hx hb dX12_meets_54 (by decide) ?_
    obtain ⟨hP9, hD9⟩ : ct_B D A H [mo qm 0 qm_width qm_many qm_cells qm_moved qm_tape vm_taped vm_at vm_token vm_place vm_value vm_word vm_bad vm_badPlace vm_fault vm_faultPlace qm_lines qm_has qm_round qm_meets qm_stumble qm_isMud qm_cell qm_tune qm_change qm_isKept qm_steps qm_places qm_danced vm_runMost vm_runBegins qm_heardBy vm_fitMany vm_fitFirst vm_fitBeats vm_listenLeaves qm_there vm_metAt vm_metIn qm_wins vm_nightHoles vm_nightFirst vm_nightMud vm_nightSlips vm_drawnNow, (qm_lines, .inl (cI, 5, .inl (fm_lines))), (qm_has, .inl (cI, 55, .inl (fm_has)))] := ⟨hP.sub [1, 2, 0] rfl, hD.sub [1, 2, 0] (by decide) rfl⟩
    exact W.iret (v := (-2)) hx hb hr (fun t ht hW => ⟨⟨(-2), (0 : Int32), rfl, (show (-2) ≤ (-2 : Int32).toInt ∧ (-2 : Int32).toInt ≤ 342 by decide), by rw [ht]; exact hP9, hD9⟩, hS.F ht⟩) hS.2.2 dX12_meets_56
abbrev w_c_X12_shiftedOf (cI cJ cB cZ cO : ClassId) (qm : Nat) (vm_thrown : Int32) (qm_width : Nat) (qm_many : Nat) (qm_cells : Nat) (qm_moved : Nat) (qm_tape : Nat) (vm_taped : Int32) (vm_at : Int32) (vm_token : Int32) (vm_place : Int32) (vm_value : Int32) (vm_word : Int64) (vm_bad : Int32) (vm_badPlace : Int32) (vm_fault : Int32) (vm_faultPlace : Int32) (qm_lines : Nat) (qm_has : Nat) (fm_has : Nat → Int32) (qm_round : Nat) (fm_round : Nat → Int32) (qm_meets : Nat) (fm_meets : Nat → Int32) (qm_stumble : Nat) (qm_isMud : Nat) (qm_cell : Nat) (qm_tune : Nat) (qm_change : Nat) (qm_isKept : Nat) (qm_steps : Nat) (qm_places : Nat) (qm_danced : Nat) (vm_runMost : Int32) (vm_runBegins : Int32) (qm_heardBy : Nat) (vm_fitMany : Int32) (vm_fitFirst : Int32) (vm_fitBeats : Int64) (vm_listenLeaves : Int32) (qm_there : Nat) (vm_metAt : Int32) (vm_metIn : Int32) (qm_wins : Nat) (vm_nightHoles : Int32) (vm_nightFirst : Int32) (vm_nightMud : Int32) (vm_nightSlips : Int32) (vm_drawnNow : Int64) : va_W := [mo qm vm_thrown qm_width qm_many qm_cells qm_moved qm_tape vm_taped vm_at vm_token vm_place vm_value vm_word vm_bad vm_badPlace vm_fault vm_faultPlace qm_lines qm_has qm_round qm_meets qm_stumble qm_isMud qm_cell qm_tune qm_change qm_isKept qm_steps qm_places qm_danced vm_runMost vm_runBegins qm_heardBy vm_fitMany vm_fitFirst vm_fitBeats vm_listenLeaves qm_there vm_metAt vm_metIn qm_wins vm_nightHoles vm_nightFirst vm_nightMud vm_nightSlips vm_drawnNow, (qm_has, .inl (cI, 55, .inl (fm_has))), (qm_round, .inl (cI, 120, .inl (fm_round))), (qm_meets, .inl (cI, 30, .inl (fm_meets)))]
set_option maxHeartbeats 4000000 in
set_option maxRecDepth 100000 in
/-- X12 shiftedOf -/
theorem c_X12_shiftedOf (l : Launch) (D : va_G) (G : ct_G) (cI cJ cB cZ cO : ClassId) (qm : Nat) (vm_thrown : Int32) (qm_width : Nat) (qm_many : Nat) (qm_cells : Nat) (qm_moved : Nat) (qm_tape : Nat) (vm_taped : Int32) (vm_at : Int32) (vm_token : Int32) (vm_place : Int32) (vm_value : Int32) (vm_word : Int64) (vm_bad : Int32) (vm_badPlace : Int32) (vm_fault : Int32) (vm_faultPlace : Int32) (qm_lines : Nat) (qm_has : Nat) (fm_has : Nat → Int32) (qm_round : Nat) (fm_round : Nat → Int32) (qm_meets : Nat) (fm_meets : Nat → Int32) (qm_stumble : Nat) (qm_isMud : Nat) (qm_cell : Nat) (qm_tune : Nat) (qm_change : Nat) (qm_isKept : Nat) (qm_steps : Nat) (qm_places : Nat) (qm_danced : Nat) (vm_runMost : Int32) (vm_runBegins : Int32) (qm_heardBy : Nat) (vm_fitMany : Int32) (vm_fitFirst : Int32) (vm_fitBeats : Int64) (vm_listenLeaves : Int32) (qm_there : Nat) (vm_metAt : Int32) (vm_metIn : Int32) (qm_wins : Nat) (vm_nightHoles : Int32) (vm_nightFirst : Int32) (vm_nightMud : Int32) (vm_nightSlips : Int32) (vm_drawnNow : Int64) (a1 : Int32) (h_vm_taped : 0 ≤ vm_taped.toInt ∧ vm_taped.toInt ≤ 1200) (h_vm_at : 0 ≤ vm_at.toInt ∧ vm_at.toInt ≤ 1200) (h_vm_value : 0 ≤ vm_value.toInt ∧ vm_value.toInt ≤ 1000009) (h_fm_has : ar_ok [0, (-2147483648), (-2147483648), 0, 0, 0, 0, 0, 0, 0, 0] [20, 2147483647, 2147483647, 12, 12, 11, 11, 8, 12, 5, 40] fm_has) (h_fm_round : ar_ok [0] [5] fm_round) (h_a1 : 0 ≤ a1.toInt ∧ a1.toInt ≤ 12) (h_rp : 1 ≤ (fm_has 3).toInt ∧ 1 ≤ (fm_has 4).toInt) (sz : Nat) : Met l yX12_shiftedOf wsX12_shiftedOf ({ frames := 14, cells := 0, slots := 0, locals := 293 }) (va_Pc [.ref qm, .int a1] (ct_P D (ct_T cI cJ cB cZ cO) G (w_c_X12_shiftedOf cI cJ cB cZ cO qm vm_thrown qm_width qm_many qm_cells qm_moved qm_tape vm_taped vm_at vm_token vm_place vm_value vm_word vm_bad vm_badPlace vm_fault vm_faultPlace qm_lines qm_has fm_has qm_round fm_round qm_meets fm_meets qm_stumble qm_isMud qm_cell qm_tune qm_change qm_isKept qm_steps qm_places qm_danced vm_runMost vm_runBegins qm_heardBy vm_fitMany vm_fitFirst vm_fitBeats vm_listenLeaves qm_there vm_metAt vm_metIn qm_wins vm_nightHoles vm_nightFirst vm_nightMud vm_nightSlips vm_drawnNow) sz)) (va_Qi (fun (rz : Int32) (u : Unit) => True) (fun (u : Unit) t => ct_Q D (va_A (w_c_X12_shiftedOf cI cJ cB cZ cO qm vm_thrown qm_width qm_many qm_cells qm_moved qm_tape vm_taped vm_at vm_token vm_place vm_value vm_word vm_bad vm_badPlace vm_fault vm_faultPlace qm_lines qm_has fm_has qm_round fm_round qm_meets fm_meets qm_stumble qm_isMud qm_cell qm_tune qm_change qm_isKept qm_steps qm_places qm_danced vm_runMost vm_runBegins qm_heardBy vm_fitMany vm_fitFirst vm_fitBeats vm_listenLeaves qm_there vm_metAt vm_metIn qm_wins vm_nightHoles vm_nightFirst vm_nightMud vm_nightSlips vm_drawnNow) sz) [mo qm vm_thrown qm_width qm_many qm_cells qm_moved qm_tape vm_taped vm_at vm_token vm_place vm_value vm_word vm_bad vm_badPlace vm_fault vm_faultPlace qm_lines qm_has qm_round qm_meets qm_stumble qm_isMud qm_cell qm_tune qm_change qm_isKept qm_steps qm_places qm_danced vm_runMost vm_runBegins qm_heardBy vm_fitMany vm_fitFirst vm_fitBeats vm_listenLeaves qm_there vm_metAt vm_metIn qm_wins vm_nightHoles vm_nightFirst vm_nightMud vm_nightSlips vm_drawnNow, (qm_has, .inl (cI, 55, .inl (fm_has))), (qm_round, .inl (cI, 120, .inl (fm_round))), (qm_meets, .inl (cI, 30, .inl (fm_meets)))] t) (va_A (w_c_X12_shiftedOf cI cJ cB cZ cO qm vm_thrown qm_width qm_many qm_cells qm_moved qm_tape vm_taped vm_at vm_token vm_place vm_value vm_word vm_bad vm_badPlace vm_fault vm_faultPlace qm_lines qm_has fm_has qm_round fm_round qm_meets fm_meets qm_stumble qm_isMud qm_cell qm_tune qm_change qm_isKept qm_steps qm_places qm_danced vm_runMost vm_runBegins qm_heardBy vm_fitMany vm_fitFirst vm_fitBeats vm_listenLeaves qm_there vm_metAt vm_metIn qm_wins vm_nightHoles vm_nightFirst vm_nightMud vm_nightSlips vm_drawnNow) sz)) 0 0 (va_A (w_c_X12_shiftedOf cI cJ cB cZ cO qm vm_thrown qm_width qm_many qm_cells qm_moved qm_tape vm_taped vm_at vm_token vm_place vm_value vm_word vm_bad vm_badPlace vm_fault vm_faultPlace qm_lines qm_has fm_has qm_round fm_round qm_meets fm_meets qm_stumble qm_isMud qm_cell qm_tune qm_change qm_isKept qm_steps qm_places qm_danced vm_runMost vm_runBegins qm_heardBy vm_fitMany vm_fitFirst vm_fitBeats vm_listenLeaves qm_there vm_metAt vm_metIn qm_wins vm_nightHoles vm_nightFirst vm_nightMud vm_nightSlips vm_drawnNow) sz) := by
  refine Met.ofW (cc := cX12_shiftedOf) (maxL := 5) (ret := (some .int)) (by decide) rfl ?_
  intro p e s m args below meth c s₁ B hml hv
  obtain ⟨rfl, hsz, hP, hE, hD0, hH⟩ := hv
  have hx := B.exec
  have hb := B.bytes
  have hr := B.returns
  have hts := atoms_spec (ws := wsX12_shiftedOf) B.pre
  have hown : s.vm.findClass RX12 = some m.cls := findClass_of_methodNamed B.named
  have hlocks := B.notSynchronized
  have hK := hE.1
  have hi12 : ∀ w ∈ u_ws RX12 TX12 45, w ∈ wsX12_shiftedOf := fun w h => List.mem_cons_of_mem _ (List.mem_append_right _ h)
  subst hsz
  have hD := hD0.self (sz := s.heap.size)
  generalize hAe : va_A (w_c_X12_shiftedOf cI cJ cB cZ cO qm vm_thrown qm_width qm_many qm_cells qm_moved qm_tape vm_taped vm_at vm_token vm_place vm_value vm_word vm_bad vm_badPlace vm_fault vm_faultPlace qm_lines qm_has fm_has qm_round fm_round qm_meets fm_meets qm_stumble qm_isMud qm_cell qm_tune qm_change qm_isKept qm_steps qm_places qm_danced vm_runMost vm_runBegins qm_heardBy vm_fitMany vm_fitFirst vm_fitBeats vm_listenLeaves qm_there vm_metAt vm_metIn qm_wins vm_nightHoles vm_nightFirst vm_nightMud vm_nightSlips vm_drawnNow) s.heap.size = A at hD hH ⊢
  have hA : ∀ q : Nat, s.heap.size ≤ q → A q := fun q h => by rw [← hAe]; exact Or.inr h
  have hS : va_S A s.heap s.heap [] := va_S.rf
  obtain ⟨hP, hD⟩ : ct_B D A s.heap [mo qm vm_thrown qm_width qm_many qm_cells qm_moved qm_tape vm_taped vm_at vm_token vm_place vm_value vm_word vm_bad vm_badPlace vm_fault vm_faultPlace qm_lines qm_has qm_round qm_meets qm_stumble qm_isMud qm_cell qm_tune qm_change qm_isKept qm_steps qm_places qm_danced vm_runMost vm_runBegins qm_heardBy vm_fitMany vm_fitFirst vm_fitBeats vm_listenLeaves qm_there vm_metAt vm_metIn qm_wins vm_nightHoles vm_nightFirst vm_nightMud vm_nightSlips vm_drawnNow, (qm_has, .inl (cI, 55, .inl (fm_has))), (qm_round, .inl (cI, 120, .inl (fm_round))), (qm_meets, .inl (cI, 30, .inl (fm_meets)))] := ⟨hP, hD⟩
  have hl := lv_entry ([.ref qm, .int a1]) (n := 5) (Nat.le_of_ble_eq_true rfl)
  rw [lg_entry_eq]
  generalize (lg_sl ([.ref qm, .int a1]) ++ List.replicate (5 - (lg_sl ([.ref qm, .int a1])).length) Slot.unset).toArray = ls at hl ⊢
  have hl : lv_has ls 5 [(0, .ref qm), (1, .int a1)] := hl
  obtain ⟨H, hHe⟩ : ∃ H : Heap, H = s.heap := ⟨_, rfl⟩
  rw [← hHe] at hP
  have hS : va_S A s.heap H [] := by rw [hHe]; exact va_S.rf
  refine ct_start hHe ?_
  refine lv_iconst (v := 0) hx hb dX12_shiftedOf_0 (by decide) ?_
  refine lv_istore_n (lv' := [(2, .int 0), (0, .ref qm), (1, .int a1)]) hx hb dX12_shiftedOf_1 rfl hl (by decide) rfl (fun ls hl => ?_)
  refine lv_aload_n hx hb dX12_shiftedOf_2 rfl (lv_at hl 1 rfl) ?_
  refine va_get (D := D) (ci := 12) (v := .ref qm_has) (C := RX12) (T := TX12) (N := 45) hx hb hts hi12 hown hK hP 0 rfl rfl 17 (by decide) (hts (.fieldLink RX12 34 "OverHillModel" "has" "[I") (by decide +kernel)) (fun _ h9 => h9) rfl dX12_shiftedOf_3 ?_
  refine lv_iconst (v := 0) hx hb dX12_shiftedOf_6 (by decide) ?_
  refine va_iald (D := D) hx hb hK hP 1 0 rfl rfl (tq_in (a := 0) (by decide) (by omega)) dX12_shiftedOf_7 ?_
  refine lv_topi (fun z1 ez1 => ?_)
  have fz1 : 0 ≤ z1.toInt ∧ z1.toInt ≤ 20 := by rw [ez1]; exact ar_get h_fm_has (0 : Int32) 0 (by decide) (by decide) rfl
  refine lv_istore_n (lv' := [(3, .int z1), (2, .int 0), (0, .ref qm), (1, .int a1)]) hx hb dX12_shiftedOf_8 rfl hl (by decide) rfl (fun ls hl => ?_)
  refine lv_iload_n hx hb dX12_shiftedOf_9 rfl (lv_at hl 0 rfl) ?_
  refine lv_istore (lv' := [(4, .int z1), (3, .int z1), (2, .int 0), (0, .ref qm), (1, .int a1)]) hx hb dX12_shiftedOf_10 hl (by decide) rfl (fun ls hl => ?_)
  refine ct_loop (X := Int32 × Int32) (fun x => (164 - x.2.toInt).toNat) (fun x H locs ls => ((0 ≤ x.2.toInt ∧ x.2.toInt ≤ 164)) ∧ (z1.toInt ≤ x.2.toInt) ∧ ct_B D A H [mo qm vm_thrown qm_width qm_many qm_cells qm_moved qm_tape vm_taped vm_at vm_token vm_place vm_value vm_word vm_bad vm_badPlace vm_fault vm_faultPlace qm_lines qm_has qm_round qm_meets qm_stumble qm_isMud qm_cell qm_tune qm_change qm_isKept qm_steps qm_places qm_danced vm_runMost vm_runBegins qm_heardBy vm_fitMany vm_fitFirst vm_fitBeats vm_listenLeaves qm_there vm_metAt vm_metIn qm_wins vm_nightHoles vm_nightFirst vm_nightMud vm_nightSlips vm_drawnNow, (qm_has, .inl (cI, 55, .inl (fm_has))), (qm_round, .inl (cI, 120, .inl (fm_round))), (qm_meets, .inl (cI, 30, .inl (fm_meets)))] ∧ va_S A s.heap H locs ∧ lv_has ls 5 [(4, .int x.2), (3, .int z1), (2, .int x.1), (0, .ref qm), (1, .int a1)]) 12 ((0 : Int32), z1) ⟨(show 0 ≤ z1.toInt ∧ z1.toInt ≤ 164 by omega), (show z1.toInt ≤ z1.toInt by omega), ⟨hP, hD⟩, hS, lv_sub hl [0, 1, 2, 3, 4] rfl⟩ (fun x ih245 H locs ls hI => ?_)
  obtain ⟨x243, x244⟩ := x
  obtain ⟨h_x244, he0, ⟨hP, hD⟩, hS, hl⟩ := hI
  change (0 ≤ x244.toInt ∧ x244.toInt ≤ 164) at h_x244
  change z1.toInt ≤ x244.toInt at he0
  obtain ⟨hP, hD⟩ : ct_B D A H [mo qm vm_thrown qm_width qm_many qm_cells qm_moved qm_tape vm_taped vm_at vm_token vm_place vm_value vm_word vm_bad vm_badPlace vm_fault vm_faultPlace qm_lines qm_has qm_round qm_meets qm_stumble qm_isMud qm_cell qm_tune qm_change qm_isKept qm_steps qm_places qm_danced vm_runMost vm_runBegins qm_heardBy vm_fitMany vm_fitFirst vm_fitBeats vm_listenLeaves qm_there vm_metAt vm_metIn qm_wins vm_nightHoles vm_nightFirst vm_nightMud vm_nightSlips vm_drawnNow, (qm_has, .inl (cI, 55, .inl (fm_has))), (qm_round, .inl (cI, 120, .inl (fm_round))), (qm_meets, .inl (cI, 30, .inl (fm_meets)))] := ⟨hP, hD⟩
  have hl : lv_has ls 5 [(4, .int x244), (3, .int z1), (2, .int x243), (0, .ref qm), (1, .int a1)] := hl
  refine lv_iload hx hb dX12_shiftedOf_12 (lv_at hl 0 rfl) ?_
  refine lv_iload_n hx hb dX12_shiftedOf_14 rfl (lv_at hl 1 rfl) ?_
  refine lv_aload_n hx hb dX12_shiftedOf_15 rfl (lv_at hl 3 rfl) ?_
  refine ct_calli (D := D) (wr := [(qm_round, .inl (cI, 120, .inl (fm_round))), (qm_meets, .inl (cI, 30, .inl (fm_meets)))]) (va_runV (As := []) (rest := [.int z1, .int x244]) ⟨hx, hb, hml, hown, hts⟩ (c_X12_periodOf l D G cI cJ cB cZ cO qm vm_thrown qm_width qm_many qm_cells qm_moved qm_tape vm_taped vm_at vm_token vm_place vm_value vm_word vm_bad vm_badPlace vm_fault vm_faultPlace qm_lines qm_has fm_has qm_round qm_meets qm_stumble qm_isMud qm_cell qm_tune qm_change qm_isKept qm_steps qm_places qm_danced vm_runMost vm_runBegins qm_heardBy vm_fitMany vm_fitFirst vm_fitBeats vm_listenLeaves qm_there vm_metAt vm_metIn qm_wins vm_nightHoles vm_nightFirst vm_nightMud vm_nightSlips vm_drawnNow h_vm_taped h_vm_at h_vm_value h_fm_has h_rp H.size) (cwV 0 hts gX12_shiftedOf_X12_periodOf rfl rfl rfl (by decide +kernel) ⟨Nat.le_of_ble_eq_true rfl, Nat.le_of_ble_eq_true rfl⟩) (ct_preV (T := ct_T cI cJ cB cZ cO) (ci := 12) (q0 := 0) hE hH hP hD hS hA [0, 1] (by decide) rfl rfl rfl) rfl rfl hl.1 rfl (lv_room (Nat.le_of_ble_eq_true rfl)) dX12_shiftedOf_16 ⟨Nat.le_of_ble_eq_true rfl, Nat.le_of_ble_eq_true rfl⟩) hP hD hS hA [0, 1] [2, 3] rfl rfl (by decide) (by decide) (fun r246 u H locs hw hP hD hS => ?_)
  obtain ⟨hP, hD⟩ : ct_B D A H [(qm_round, .inl (cI, 120, .inl (fm_round))), (qm_meets, .inl (cI, 30, .inl (fm_meets))), mo qm vm_thrown qm_width qm_many qm_cells qm_moved qm_tape vm_taped vm_at vm_token vm_place vm_value vm_word vm_bad vm_badPlace vm_fault vm_faultPlace qm_lines qm_has qm_round qm_meets qm_stumble qm_isMud qm_cell qm_tune qm_change qm_isKept qm_steps qm_places qm_danced vm_runMost vm_runBegins qm_heardBy vm_fitMany vm_fitFirst vm_fitBeats vm_listenLeaves qm_there vm_metAt vm_metIn qm_wins vm_nightHoles vm_nightFirst vm_nightMud vm_nightSlips vm_drawnNow, (qm_has, .inl (cI, 55, .inl (fm_has)))] := ⟨hP, hD⟩
  have hz := hw
  clear hw
  have h_r246 : 0 ≤ r246.toInt ∧ r246.toInt ≤ 144 := hz
  clear hz
  refine lv_iadd hx hb dX12_shiftedOf_19 ?_
  refine lv_topi (fun z247 ez247 => ?_)
  have fz247 : z247.toInt = z1.toInt + r246.toInt := by rw [ez247]; exact tq_add rfl rfl (by omega)
  refine lv_icmp_ge (tgt := 95) hx hb dX12_shiftedOf_20 (by decide) (fun hc => ?_) (fun hc => ?_)
  · have hq248 : z247.toInt ≤ x244.toInt := tq_le rfl rfl hc
    refine lv_iload_n hx hb dX12_shiftedOf_95 rfl (lv_at hl 2 rfl) ?_
    obtain ⟨hP9, hD9⟩ : ct_B D A H [mo qm vm_thrown qm_width qm_many qm_cells qm_moved qm_tape vm_taped vm_at vm_token vm_place vm_value vm_word vm_bad vm_badPlace vm_fault vm_faultPlace qm_lines qm_has qm_round qm_meets qm_stumble qm_isMud qm_cell qm_tune qm_change qm_isKept qm_steps qm_places qm_danced vm_runMost vm_runBegins qm_heardBy vm_fitMany vm_fitFirst vm_fitBeats vm_listenLeaves qm_there vm_metAt vm_metIn qm_wins vm_nightHoles vm_nightFirst vm_nightMud vm_nightSlips vm_drawnNow, (qm_has, .inl (cI, 55, .inl (fm_has))), (qm_round, .inl (cI, 120, .inl (fm_round))), (qm_meets, .inl (cI, 30, .inl (fm_meets)))] := ⟨hP.sub [2, 3, 0, 1] rfl, hD.sub [2, 3, 0, 1] (by decide) rfl⟩
    exact W.iret (v := x243) hx hb hr (fun t ht hW => ⟨⟨x243, (), rfl, trivial, by rw [ht]; exact hP9, hD9⟩, hS.F ht⟩) hS.2.2 dX12_shiftedOf_96
  · have hq248 : x244.toInt < z247.toInt := tq_nle rfl rfl hc
    refine lv_iload_n hx hb dX12_shiftedOf_23 rfl (lv_at hl 2 rfl) ?_
    refine lv_aload_n hx hb dX12_shiftedOf_24 rfl (lv_at hl 3 rfl) ?_
    refine lv_aload_n hx hb dX12_shiftedOf_25 rfl (lv_at hl 3 rfl) ?_
    refine lv_iconst (v := 0) hx hb dX12_shiftedOf_26 (by decide) ?_
    refine lv_iload hx hb dX12_shiftedOf_27 (lv_at hl 0 rfl) ?_
    refine lv_iconst (v := 0) hx hb dX12_shiftedOf_29 (by decide) ?_
    refine ct_calli (D := D) (wr := [(qm_meets, .inl (cI, 30, .inl (fm_meets)))]) (va_runV (As := [.int 0, .int x244, .int 0]) (rest := [.ref qm, .int x243]) ⟨hx, hb, hml, hown, hts⟩ (c_X12_plain l D G cI cJ cB cZ cO qm vm_thrown qm_width qm_many qm_cells qm_moved qm_tape vm_taped vm_at vm_token vm_place vm_value vm_word vm_bad vm_badPlace vm_fault vm_faultPlace qm_lines qm_has fm_has qm_round fm_round qm_meets qm_stumble qm_isMud qm_cell qm_tune qm_change qm_isKept qm_steps qm_places qm_danced vm_runMost vm_runBegins qm_heardBy vm_fitMany vm_fitFirst vm_fitBeats vm_listenLeaves qm_there vm_metAt vm_metIn qm_wins vm_nightHoles vm_nightFirst vm_nightMud vm_nightSlips vm_drawnNow 0 x244 0 h_vm_taped h_vm_at h_vm_value h_fm_has h_fm_round (by decide) (by omega) (by decide) h_rp H.size) (cwV 3 hts gX12_shiftedOf_X12_plain rfl rfl rfl (by decide +kernel) ⟨Nat.le_of_ble_eq_true rfl, Nat.le_of_ble_eq_true rfl⟩) (ct_preV (T := ct_T cI cJ cB cZ cO) (ci := 12) (q0 := 2) hE hH hP hD hS hA [2, 3, 0] (by decide) rfl rfl rfl) rfl rfl hl.1 rfl (lv_room (Nat.le_of_ble_eq_true rfl)) dX12_shiftedOf_30 ⟨Nat.le_of_ble_eq_true rfl, Nat.le_of_ble_eq_true rfl⟩) hP hD hS hA [2, 3, 0] [1] rfl rfl (by decide) (by decide) (fun r249 u H locs hw hP hD hS => ?_)
    obtain ⟨hP, hD⟩ : ct_B D A H [(qm_meets, .inl (cI, 30, .inl (fm_meets))), mo qm vm_thrown qm_width qm_many qm_cells qm_moved qm_tape vm_taped vm_at vm_token vm_place vm_value vm_word vm_bad vm_badPlace vm_fault vm_faultPlace qm_lines qm_has qm_round qm_meets qm_stumble qm_isMud qm_cell qm_tune qm_change qm_isKept qm_steps qm_places qm_danced vm_runMost vm_runBegins qm_heardBy vm_fitMany vm_fitFirst vm_fitBeats vm_listenLeaves qm_there vm_metAt vm_metIn qm_wins vm_nightHoles vm_nightFirst vm_nightMud vm_nightSlips vm_drawnNow, (qm_has, .inl (cI, 55, .inl (fm_has))), (qm_round, .inl (cI, 120, .inl (fm_round)))] := ⟨hP, hD⟩
    have hz := hw
    clear hw
    have h_r249 : 0 ≤ r249.toInt ∧ r249.toInt ≤ 5 := hz
    clear hz
    refine lv_aload_n hx hb dX12_shiftedOf_33 rfl (lv_at hl 3 rfl) ?_
    refine lv_iconst (v := 1) hx hb dX12_shiftedOf_34 (by decide) ?_
    refine lv_iload hx hb dX12_shiftedOf_35 (lv_at hl 0 rfl) ?_
    refine lv_iload_n hx hb dX12_shiftedOf_37 rfl (lv_at hl 1 rfl) ?_
    refine lv_isub hx hb dX12_shiftedOf_38 ?_
    refine lv_topi (fun z250 ez250 => ?_)
    have fz250 : z250.toInt = x244.toInt - z1.toInt := by rw [ez250]; exact tq_subt rfl rfl (by omega)
    refine lv_iload_n hx hb dX12_shiftedOf_39 rfl (lv_at hl 4 rfl) ?_
    refine ct_calli (D := D) (wr := [(qm_meets, .inl (cI, 30, .inl (fm_meets)))]) (va_runV (As := [.int 1, .int z250, .int a1]) (rest := [.int r249, .ref qm, .int x243]) ⟨hx, hb, hml, hown, hts⟩ (c_X12_plain l D G cI cJ cB cZ cO qm vm_thrown qm_width qm_many qm_cells qm_moved qm_tape vm_taped vm_at vm_token vm_place vm_value vm_word vm_bad vm_badPlace vm_fault vm_faultPlace qm_lines qm_has fm_has qm_round fm_round qm_meets qm_stumble qm_isMud qm_cell qm_tune qm_change qm_isKept qm_steps qm_places qm_danced vm_runMost vm_runBegins qm_heardBy vm_fitMany vm_fitFirst vm_fitBeats vm_listenLeaves qm_there vm_metAt vm_metIn qm_wins vm_nightHoles vm_nightFirst vm_nightMud vm_nightSlips vm_drawnNow 1 z250 a1 h_vm_taped h_vm_at h_vm_value h_fm_has h_fm_round (by decide) (by omega) h_a1 h_rp H.size) (cwV 3 hts gX12_shiftedOf_X12_plain rfl rfl rfl (by decide +kernel) ⟨Nat.le_of_ble_eq_true rfl, Nat.le_of_ble_eq_true rfl⟩) (ct_preV (T := ct_T cI cJ cB cZ cO) (ci := 12) (q0 := 1) hE hH hP hD hS hA [1, 2, 3] (by decide) rfl rfl rfl) rfl rfl hl.1 rfl (lv_room (Nat.le_of_ble_eq_true rfl)) dX12_shiftedOf_40 ⟨Nat.le_of_ble_eq_true rfl, Nat.le_of_ble_eq_true rfl⟩) hP hD hS hA [1, 2, 3] [0] rfl rfl (by decide) (by decide) (fun r251 u H locs hw hP hD hS => ?_)
    obtain ⟨hP, hD⟩ : ct_B D A H [(qm_meets, .inl (cI, 30, .inl (fm_meets))), mo qm vm_thrown qm_width qm_many qm_cells qm_moved qm_tape vm_taped vm_at vm_token vm_place vm_value vm_word vm_bad vm_badPlace vm_fault vm_faultPlace qm_lines qm_has qm_round qm_meets qm_stumble qm_isMud qm_cell qm_tune qm_change qm_isKept qm_steps qm_places qm_danced vm_runMost vm_runBegins qm_heardBy vm_fitMany vm_fitFirst vm_fitBeats vm_listenLeaves qm_there vm_metAt vm_metIn qm_wins vm_nightHoles vm_nightFirst vm_nightMud vm_nightSlips vm_drawnNow, (qm_has, .inl (cI, 55, .inl (fm_has))), (qm_round, .inl (cI, 120, .inl (fm_round)))] := ⟨hP, hD⟩
    have hz := hw
    clear hw
    have h_r251 : 0 ≤ r251.toInt ∧ r251.toInt ≤ 5 := hz
    clear hz
    refine ct_calli (D := D) (wr := [(qm_has, .inl (cI, 55, .inl (fm_has))), (qm_round, .inl (cI, 120, .inl (fm_round)))]) (va_runV (As := [.int r249, .int r251]) (rest := [.int x243]) ⟨hx, hb, hml, hown, hts⟩ (c_X12_clashes l D G cI cJ cB cZ cO qm vm_thrown qm_width qm_many qm_cells qm_moved qm_tape vm_taped vm_at vm_token vm_place vm_value vm_word vm_bad vm_badPlace vm_fault vm_faultPlace qm_lines qm_has qm_round qm_meets fm_meets qm_stumble qm_isMud qm_cell qm_tune qm_change qm_isKept qm_steps qm_places qm_danced vm_runMost vm_runBegins qm_heardBy vm_fitMany vm_fitFirst vm_fitBeats vm_listenLeaves qm_there vm_metAt vm_metIn qm_wins vm_nightHoles vm_nightFirst vm_nightMud vm_nightSlips vm_drawnNow r249 r251 h_vm_taped h_vm_at h_vm_value (by omega) H.size) (cwV 2 hts gX12_shiftedOf_X12_clashes rfl rfl rfl (by decide +kernel) ⟨Nat.le_of_ble_eq_true rfl, Nat.le_of_ble_eq_true rfl⟩) (ct_preV (T := ct_T cI cJ cB cZ cO) (ci := 12) (q0 := 1) hE hH hP hD hS hA [1, 0] (by decide) rfl rfl rfl) rfl rfl hl.1 rfl (lv_room (Nat.le_of_ble_eq_true rfl)) dX12_shiftedOf_43 ⟨Nat.le_of_ble_eq_true rfl, Nat.le_of_ble_eq_true rfl⟩) hP hD hS hA [1, 0] [2, 3] rfl rfl (by decide) (by decide) (fun r252 u H locs hw hP hD hS => ?_)
    obtain ⟨hP, hD⟩ : ct_B D A H [(qm_has, .inl (cI, 55, .inl (fm_has))), (qm_round, .inl (cI, 120, .inl (fm_round))), mo qm vm_thrown qm_width qm_many qm_cells qm_moved qm_tape vm_taped vm_at vm_token vm_place vm_value vm_word vm_bad vm_badPlace vm_fault vm_faultPlace qm_lines qm_has qm_round qm_meets qm_stumble qm_isMud qm_cell qm_tune qm_change qm_isKept qm_steps qm_places qm_danced vm_runMost vm_runBegins qm_heardBy vm_fitMany vm_fitFirst vm_fitBeats vm_listenLeaves qm_there vm_metAt vm_metIn qm_wins vm_nightHoles vm_nightFirst vm_nightMud vm_nightSlips vm_drawnNow, (qm_meets, .inl (cI, 30, .inl (fm_meets)))] := ⟨hP, hD⟩
    have hz := hw
    clear hw
    rcases hz with ⟨hz, hz2⟩ | ⟨hz, hz2⟩
    · subst hz
      refine lv_if_eq (tgt := 53) hx hb dX12_shiftedOf_46 (by decide) (fun hc => absurd hc (by decide)) (fun _ => ?_)
      refine lv_iconst (v := 1) hx hb dX12_shiftedOf_49 (by decide) ?_
      refine lv_goto (tgt := 54) hx hb dX12_shiftedOf_50 (by decide) ?_
      refine lv_iadd hx hb dX12_shiftedOf_54 ?_
      refine lv_topi (fun z253 ez253 => ?_)
      refine lv_istore_n (lv' := [(2, .int z253), (4, .int x244), (3, .int z1), (0, .ref qm), (1, .int a1)]) hx hb dX12_shiftedOf_55 rfl hl (by decide) rfl (fun ls hl => ?_)
      refine lv_iload_n hx hb dX12_shiftedOf_56 rfl (lv_at hl 0 rfl) ?_
      refine lv_aload_n hx hb dX12_shiftedOf_57 rfl (lv_at hl 3 rfl) ?_
      refine lv_aload_n hx hb dX12_shiftedOf_58 rfl (lv_at hl 3 rfl) ?_
      refine lv_iconst (v := 1) hx hb dX12_shiftedOf_59 (by decide) ?_
      refine lv_iload hx hb dX12_shiftedOf_60 (lv_at hl 1 rfl) ?_
      refine lv_iload_n hx hb dX12_shiftedOf_62 rfl (lv_at hl 4 rfl) ?_
      refine ct_calli (D := D) (wr := [(qm_meets, .inl (cI, 30, .inl (fm_meets)))]) (va_runV (As := [.int 1, .int x244, .int a1]) (rest := [.ref qm, .int z253]) ⟨hx, hb, hml, hown, hts⟩ (c_X12_plain l D G cI cJ cB cZ cO qm vm_thrown qm_width qm_many qm_cells qm_moved qm_tape vm_taped vm_at vm_token vm_place vm_value vm_word vm_bad vm_badPlace vm_fault vm_faultPlace qm_lines qm_has fm_has qm_round fm_round qm_meets qm_stumble qm_isMud qm_cell qm_tune qm_change qm_isKept qm_steps qm_places qm_danced vm_runMost vm_runBegins qm_heardBy vm_fitMany vm_fitFirst vm_fitBeats vm_listenLeaves qm_there vm_metAt vm_metIn qm_wins vm_nightHoles vm_nightFirst vm_nightMud vm_nightSlips vm_drawnNow 1 x244 a1 h_vm_taped h_vm_at h_vm_value h_fm_has h_fm_round (by decide) (by omega) h_a1 h_rp H.size) (cwV 3 hts gX12_shiftedOf_X12_plain rfl rfl rfl (by decide +kernel) ⟨Nat.le_of_ble_eq_true rfl, Nat.le_of_ble_eq_true rfl⟩) (ct_preV (T := ct_T cI cJ cB cZ cO) (ci := 12) (q0 := 2) hE hH hP hD hS hA [2, 0, 1] (by decide) rfl rfl rfl) rfl rfl hl.1 rfl (lv_room (Nat.le_of_ble_eq_true rfl)) dX12_shiftedOf_63 ⟨Nat.le_of_ble_eq_true rfl, Nat.le_of_ble_eq_true rfl⟩) hP hD hS hA [2, 0, 1] [3] rfl rfl (by decide) (by decide) (fun r254 u H locs hw hP hD hS => ?_)
      obtain ⟨hP, hD⟩ : ct_B D A H [(qm_meets, .inl (cI, 30, .inl (fm_meets))), mo qm vm_thrown qm_width qm_many qm_cells qm_moved qm_tape vm_taped vm_at vm_token vm_place vm_value vm_word vm_bad vm_badPlace vm_fault vm_faultPlace qm_lines qm_has qm_round qm_meets qm_stumble qm_isMud qm_cell qm_tune qm_change qm_isKept qm_steps qm_places qm_danced vm_runMost vm_runBegins qm_heardBy vm_fitMany vm_fitFirst vm_fitBeats vm_listenLeaves qm_there vm_metAt vm_metIn qm_wins vm_nightHoles vm_nightFirst vm_nightMud vm_nightSlips vm_drawnNow, (qm_has, .inl (cI, 55, .inl (fm_has))), (qm_round, .inl (cI, 120, .inl (fm_round)))] := ⟨hP, hD⟩
      have hz := hw
      clear hw
      have h_r254 : 0 ≤ r254.toInt ∧ r254.toInt ≤ 5 := hz
      clear hz
      refine lv_aload_n hx hb dX12_shiftedOf_66 rfl (lv_at hl 3 rfl) ?_
      refine lv_iconst (v := 0) hx hb dX12_shiftedOf_67 (by decide) ?_
      refine lv_iload hx hb dX12_shiftedOf_68 (lv_at hl 1 rfl) ?_
      refine lv_iload_n hx hb dX12_shiftedOf_70 rfl (lv_at hl 2 rfl) ?_
      refine lv_isub hx hb dX12_shiftedOf_71 ?_
      refine lv_topi (fun z255 ez255 => ?_)
      have fz255 : z255.toInt = x244.toInt - z1.toInt := by rw [ez255]; exact tq_subt rfl rfl (by omega)
      refine lv_iconst (v := 0) hx hb dX12_shiftedOf_72 (by decide) ?_
      refine ct_calli (D := D) (wr := [(qm_meets, .inl (cI, 30, .inl (fm_meets)))]) (va_runV (As := [.int 0, .int z255, .int 0]) (rest := [.int r254, .ref qm, .int z253]) ⟨hx, hb, hml, hown, hts⟩ (c_X12_plain l D G cI cJ cB cZ cO qm vm_thrown qm_width qm_many qm_cells qm_moved qm_tape vm_taped vm_at vm_token vm_place vm_value vm_word vm_bad vm_badPlace vm_fault vm_faultPlace qm_lines qm_has fm_has qm_round fm_round qm_meets qm_stumble qm_isMud qm_cell qm_tune qm_change qm_isKept qm_steps qm_places qm_danced vm_runMost vm_runBegins qm_heardBy vm_fitMany vm_fitFirst vm_fitBeats vm_listenLeaves qm_there vm_metAt vm_metIn qm_wins vm_nightHoles vm_nightFirst vm_nightMud vm_nightSlips vm_drawnNow 0 z255 0 h_vm_taped h_vm_at h_vm_value h_fm_has h_fm_round (by decide) (by omega) (by decide) h_rp H.size) (cwV 3 hts gX12_shiftedOf_X12_plain rfl rfl rfl (by decide +kernel) ⟨Nat.le_of_ble_eq_true rfl, Nat.le_of_ble_eq_true rfl⟩) (ct_preV (T := ct_T cI cJ cB cZ cO) (ci := 12) (q0 := 1) hE hH hP hD hS hA [1, 2, 3] (by decide) rfl rfl rfl) rfl rfl hl.1 rfl (lv_room (Nat.le_of_ble_eq_true rfl)) dX12_shiftedOf_73 ⟨Nat.le_of_ble_eq_true rfl, Nat.le_of_ble_eq_true rfl⟩) hP hD hS hA [1, 2, 3] [0] rfl rfl (by decide) (by decide) (fun r256 u H locs hw hP hD hS => ?_)
      obtain ⟨hP, hD⟩ : ct_B D A H [(qm_meets, .inl (cI, 30, .inl (fm_meets))), mo qm vm_thrown qm_width qm_many qm_cells qm_moved qm_tape vm_taped vm_at vm_token vm_place vm_value vm_word vm_bad vm_badPlace vm_fault vm_faultPlace qm_lines qm_has qm_round qm_meets qm_stumble qm_isMud qm_cell qm_tune qm_change qm_isKept qm_steps qm_places qm_danced vm_runMost vm_runBegins qm_heardBy vm_fitMany vm_fitFirst vm_fitBeats vm_listenLeaves qm_there vm_metAt vm_metIn qm_wins vm_nightHoles vm_nightFirst vm_nightMud vm_nightSlips vm_drawnNow, (qm_has, .inl (cI, 55, .inl (fm_has))), (qm_round, .inl (cI, 120, .inl (fm_round)))] := ⟨hP, hD⟩
      have hz := hw
      clear hw
      have h_r256 : 0 ≤ r256.toInt ∧ r256.toInt ≤ 5 := hz
      clear hz
      refine ct_calli (D := D) (wr := [(qm_has, .inl (cI, 55, .inl (fm_has))), (qm_round, .inl (cI, 120, .inl (fm_round)))]) (va_runV (As := [.int r254, .int r256]) (rest := [.int z253]) ⟨hx, hb, hml, hown, hts⟩ (c_X12_clashes l D G cI cJ cB cZ cO qm vm_thrown qm_width qm_many qm_cells qm_moved qm_tape vm_taped vm_at vm_token vm_place vm_value vm_word vm_bad vm_badPlace vm_fault vm_faultPlace qm_lines qm_has qm_round qm_meets fm_meets qm_stumble qm_isMud qm_cell qm_tune qm_change qm_isKept qm_steps qm_places qm_danced vm_runMost vm_runBegins qm_heardBy vm_fitMany vm_fitFirst vm_fitBeats vm_listenLeaves qm_there vm_metAt vm_metIn qm_wins vm_nightHoles vm_nightFirst vm_nightMud vm_nightSlips vm_drawnNow r254 r256 h_vm_taped h_vm_at h_vm_value (by omega) H.size) (cwV 2 hts gX12_shiftedOf_X12_clashes rfl rfl rfl (by decide +kernel) ⟨Nat.le_of_ble_eq_true rfl, Nat.le_of_ble_eq_true rfl⟩) (ct_preV (T := ct_T cI cJ cB cZ cO) (ci := 12) (q0 := 1) hE hH hP hD hS hA [1, 0] (by decide) rfl rfl rfl) rfl rfl hl.1 rfl (lv_room (Nat.le_of_ble_eq_true rfl)) dX12_shiftedOf_76 ⟨Nat.le_of_ble_eq_true rfl, Nat.le_of_ble_eq_true rfl⟩) hP hD hS hA [1, 0] [2, 3] rfl rfl (by decide) (by decide) (fun r257 u H locs hw hP hD hS => ?_)
      obtain ⟨hP, hD⟩ : ct_B D A H [(qm_has, .inl (cI, 55, .inl (fm_has))), (qm_round, .inl (cI, 120, .inl (fm_round))), mo qm vm_thrown qm_width qm_many qm_cells qm_moved qm_tape vm_taped vm_at vm_token vm_place vm_value vm_word vm_bad vm_badPlace vm_fault vm_faultPlace qm_lines qm_has qm_round qm_meets qm_stumble qm_isMud qm_cell qm_tune qm_change qm_isKept qm_steps qm_places qm_danced vm_runMost vm_runBegins qm_heardBy vm_fitMany vm_fitFirst vm_fitBeats vm_listenLeaves qm_there vm_metAt vm_metIn qm_wins vm_nightHoles vm_nightFirst vm_nightMud vm_nightSlips vm_drawnNow, (qm_meets, .inl (cI, 30, .inl (fm_meets)))] := ⟨hP, hD⟩
      have hz := hw
      clear hw
      rcases hz with ⟨hz, hz2⟩ | ⟨hz, hz2⟩
      · subst hz
        refine lv_if_eq (tgt := 86) hx hb dX12_shiftedOf_79 (by decide) (fun hc => absurd hc (by decide)) (fun _ => ?_)
        refine lv_iconst (v := 1) hx hb dX12_shiftedOf_82 (by decide) ?_
        refine lv_goto (tgt := 87) hx hb dX12_shiftedOf_83 (by decide) ?_
        refine lv_iadd hx hb dX12_shiftedOf_87 ?_
        refine lv_topi (fun z258 ez258 => ?_)
        refine lv_istore_n (lv' := [(2, .int z258), (4, .int x244), (3, .int z1), (0, .ref qm), (1, .int a1)]) hx hb dX12_shiftedOf_88 rfl hl (by decide) rfl (fun ls hl => ?_)
        obtain ⟨z259, ez259⟩ : ∃ z : Int32, z = x244 + 1 := ⟨_, rfl⟩
        have fz259 : z259.toInt = x244.toInt + 1 := by rw [ez259]; exact tq_add rfl (by decide) (by omega)
        refine lv_iinc (v := z259) (lv' := [(4, .int z259), (2, .int z258), (3, .int z1), (0, .ref qm), (1, .int a1)]) hx hb dX12_shiftedOf_89 hl (k := 1) rfl ez259.symm (by decide) rfl (fun ls hl => ?_)
        refine lv_goto (tgt := 12) hx hb dX12_shiftedOf_92 (by decide) ?_
        obtain ⟨hP9, hD9⟩ : ct_B D A H [mo qm vm_thrown qm_width qm_many qm_cells qm_moved qm_tape vm_taped vm_at vm_token vm_place vm_value vm_word vm_bad vm_badPlace vm_fault vm_faultPlace qm_lines qm_has qm_round qm_meets qm_stumble qm_isMud qm_cell qm_tune qm_change qm_isKept qm_steps qm_places qm_danced vm_runMost vm_runBegins qm_heardBy vm_fitMany vm_fitFirst vm_fitBeats vm_listenLeaves qm_there vm_metAt vm_metIn qm_wins vm_nightHoles vm_nightFirst vm_nightMud vm_nightSlips vm_drawnNow, (qm_has, .inl (cI, 55, .inl (fm_has))), (qm_round, .inl (cI, 120, .inl (fm_round))), (qm_meets, .inl (cI, 30, .inl (fm_meets)))] := ⟨hP.sub [2, 0, 1, 3] rfl, hD.sub [2, 0, 1, 3] (by decide) rfl⟩
        exact ih245 (z258, z259) _ _ _ (show (164 - z259.toInt).toNat < (164 - x244.toInt).toNat by omega) ⟨(show 0 ≤ z259.toInt ∧ z259.toInt ≤ 164 by omega), (show z1.toInt ≤ z259.toInt by omega), ⟨hP9, hD9⟩, hS, lv_sub hl [0, 2, 1, 3, 4] rfl⟩
      · subst hz
        refine lv_if_eq (tgt := 86) hx hb dX12_shiftedOf_79 (by decide) (fun _ => ?_) (fun hc => absurd hc (by decide))
        refine lv_iconst (v := 0) hx hb dX12_shiftedOf_86 (by decide) ?_
        refine lv_iadd hx hb dX12_shiftedOf_87 ?_
        refine lv_topi (fun z260 ez260 => ?_)
        refine lv_istore_n (lv' := [(2, .int z260), (4, .int x244), (3, .int z1), (0, .ref qm), (1, .int a1)]) hx hb dX12_shiftedOf_88 rfl hl (by decide) rfl (fun ls hl => ?_)
        obtain ⟨z261, ez261⟩ : ∃ z : Int32, z = x244 + 1 := ⟨_, rfl⟩
        have fz261 : z261.toInt = x244.toInt + 1 := by rw [ez261]; exact tq_add rfl (by decide) (by omega)
        refine lv_iinc (v := z261) (lv' := [(4, .int z261), (2, .int z260), (3, .int z1), (0, .ref qm), (1, .int a1)]) hx hb dX12_shiftedOf_89 hl (k := 1) rfl ez261.symm (by decide) rfl (fun ls hl => ?_)
        refine lv_goto (tgt := 12) hx hb dX12_shiftedOf_92 (by decide) ?_
        obtain ⟨hP9, hD9⟩ : ct_B D A H [mo qm vm_thrown qm_width qm_many qm_cells qm_moved qm_tape vm_taped vm_at vm_token vm_place vm_value vm_word vm_bad vm_badPlace vm_fault vm_faultPlace qm_lines qm_has qm_round qm_meets qm_stumble qm_isMud qm_cell qm_tune qm_change qm_isKept qm_steps qm_places qm_danced vm_runMost vm_runBegins qm_heardBy vm_fitMany vm_fitFirst vm_fitBeats vm_listenLeaves qm_there vm_metAt vm_metIn qm_wins vm_nightHoles vm_nightFirst vm_nightMud vm_nightSlips vm_drawnNow, (qm_has, .inl (cI, 55, .inl (fm_has))), (qm_round, .inl (cI, 120, .inl (fm_round))), (qm_meets, .inl (cI, 30, .inl (fm_meets)))] := ⟨hP.sub [2, 0, 1, 3] rfl, hD.sub [2, 0, 1, 3] (by decide) rfl⟩
        exact ih245 (z260, z261) _ _ _ (show (164 - z261.toInt).toNat < (164 - x244.toInt).toNat by omega) ⟨(show 0 ≤ z261.toInt ∧ z261.toInt ≤ 164 by omega), (show z1.toInt ≤ z261.toInt by omega), ⟨hP9, hD9⟩, hS, lv_sub hl [0, 2, 1, 3, 4] rfl⟩
    · subst hz
      refine lv_if_eq (tgt := 53) hx hb dX12_shiftedOf_46 (by decide) (fun _ => ?_) (fun hc => absurd hc (by decide))
      refine lv_iconst (v := 0) hx hb dX12_shiftedOf_53 (by decide) ?_
      refine lv_iadd hx hb dX12_shiftedOf_54 ?_
      refine lv_topi (fun z262 ez262 => ?_)
      refine lv_istore_n (lv' := [(2, .int z262), (4, .int x244), (3, .int z1), (0, .ref qm), (1, .int a1)]) hx hb dX12_shiftedOf_55 rfl hl (by decide) rfl (fun ls hl => ?_)
      refine lv_iload_n hx hb dX12_shiftedOf_56 rfl (lv_at hl 0 rfl) ?_
      refine lv_aload_n hx hb dX12_shiftedOf_57 rfl (lv_at hl 3 rfl) ?_
      refine lv_aload_n hx hb dX12_shiftedOf_58 rfl (lv_at hl 3 rfl) ?_
      refine lv_iconst (v := 1) hx hb dX12_shiftedOf_59 (by decide) ?_
      refine lv_iload hx hb dX12_shiftedOf_60 (lv_at hl 1 rfl) ?_
      refine lv_iload_n hx hb dX12_shiftedOf_62 rfl (lv_at hl 4 rfl) ?_
      refine ct_calli (D := D) (wr := [(qm_meets, .inl (cI, 30, .inl (fm_meets)))]) (va_runV (As := [.int 1, .int x244, .int a1]) (rest := [.ref qm, .int z262]) ⟨hx, hb, hml, hown, hts⟩ (c_X12_plain l D G cI cJ cB cZ cO qm vm_thrown qm_width qm_many qm_cells qm_moved qm_tape vm_taped vm_at vm_token vm_place vm_value vm_word vm_bad vm_badPlace vm_fault vm_faultPlace qm_lines qm_has fm_has qm_round fm_round qm_meets qm_stumble qm_isMud qm_cell qm_tune qm_change qm_isKept qm_steps qm_places qm_danced vm_runMost vm_runBegins qm_heardBy vm_fitMany vm_fitFirst vm_fitBeats vm_listenLeaves qm_there vm_metAt vm_metIn qm_wins vm_nightHoles vm_nightFirst vm_nightMud vm_nightSlips vm_drawnNow 1 x244 a1 h_vm_taped h_vm_at h_vm_value h_fm_has h_fm_round (by decide) (by omega) h_a1 h_rp H.size) (cwV 3 hts gX12_shiftedOf_X12_plain rfl rfl rfl (by decide +kernel) ⟨Nat.le_of_ble_eq_true rfl, Nat.le_of_ble_eq_true rfl⟩) (ct_preV (T := ct_T cI cJ cB cZ cO) (ci := 12) (q0 := 2) hE hH hP hD hS hA [2, 0, 1] (by decide) rfl rfl rfl) rfl rfl hl.1 rfl (lv_room (Nat.le_of_ble_eq_true rfl)) dX12_shiftedOf_63 ⟨Nat.le_of_ble_eq_true rfl, Nat.le_of_ble_eq_true rfl⟩) hP hD hS hA [2, 0, 1] [3] rfl rfl (by decide) (by decide) (fun r263 u H locs hw hP hD hS => ?_)
      obtain ⟨hP, hD⟩ : ct_B D A H [(qm_meets, .inl (cI, 30, .inl (fm_meets))), mo qm vm_thrown qm_width qm_many qm_cells qm_moved qm_tape vm_taped vm_at vm_token vm_place vm_value vm_word vm_bad vm_badPlace vm_fault vm_faultPlace qm_lines qm_has qm_round qm_meets qm_stumble qm_isMud qm_cell qm_tune qm_change qm_isKept qm_steps qm_places qm_danced vm_runMost vm_runBegins qm_heardBy vm_fitMany vm_fitFirst vm_fitBeats vm_listenLeaves qm_there vm_metAt vm_metIn qm_wins vm_nightHoles vm_nightFirst vm_nightMud vm_nightSlips vm_drawnNow, (qm_has, .inl (cI, 55, .inl (fm_has))), (qm_round, .inl (cI, 120, .inl (fm_round)))] := ⟨hP, hD⟩
      have hz := hw
      clear hw
      have h_r263 : 0 ≤ r263.toInt ∧ r263.toInt ≤ 5 := hz
      clear hz
      refine lv_aload_n hx hb dX12_shiftedOf_66 rfl (lv_at hl 3 rfl) ?_
      refine lv_iconst (v := 0) hx hb dX12_shiftedOf_67 (by decide) ?_
      refine lv_iload hx hb dX12_shiftedOf_68 (lv_at hl 1 rfl) ?_
      refine lv_iload_n hx hb dX12_shiftedOf_70 rfl (lv_at hl 2 rfl) ?_
      refine lv_isub hx hb dX12_shiftedOf_71 ?_
      refine lv_topi (fun z264 ez264 => ?_)
      have fz264 : z264.toInt = x244.toInt - z1.toInt := by rw [ez264]; exact tq_subt rfl rfl (by omega)
      refine lv_iconst (v := 0) hx hb dX12_shiftedOf_72 (by decide) ?_
      refine ct_calli (D := D) (wr := [(qm_meets, .inl (cI, 30, .inl (fm_meets)))]) (va_runV (As := [.int 0, .int z264, .int 0]) (rest := [.int r263, .ref qm, .int z262]) ⟨hx, hb, hml, hown, hts⟩ (c_X12_plain l D G cI cJ cB cZ cO qm vm_thrown qm_width qm_many qm_cells qm_moved qm_tape vm_taped vm_at vm_token vm_place vm_value vm_word vm_bad vm_badPlace vm_fault vm_faultPlace qm_lines qm_has fm_has qm_round fm_round qm_meets qm_stumble qm_isMud qm_cell qm_tune qm_change qm_isKept qm_steps qm_places qm_danced vm_runMost vm_runBegins qm_heardBy vm_fitMany vm_fitFirst vm_fitBeats vm_listenLeaves qm_there vm_metAt vm_metIn qm_wins vm_nightHoles vm_nightFirst vm_nightMud vm_nightSlips vm_drawnNow 0 z264 0 h_vm_taped h_vm_at h_vm_value h_fm_has h_fm_round (by decide) (by omega) (by decide) h_rp H.size) (cwV 3 hts gX12_shiftedOf_X12_plain rfl rfl rfl (by decide +kernel) ⟨Nat.le_of_ble_eq_true rfl, Nat.le_of_ble_eq_true rfl⟩) (ct_preV (T := ct_T cI cJ cB cZ cO) (ci := 12) (q0 := 1) hE hH hP hD hS hA [1, 2, 3] (by decide) rfl rfl rfl) rfl rfl hl.1 rfl (lv_room (Nat.le_of_ble_eq_true rfl)) dX12_shiftedOf_73 ⟨Nat.le_of_ble_eq_true rfl, Nat.le_of_ble_eq_true rfl⟩) hP hD hS hA [1, 2, 3] [0] rfl rfl (by decide) (by decide) (fun r265 u H locs hw hP hD hS => ?_)
      obtain ⟨hP, hD⟩ : ct_B D A H [(qm_meets, .inl (cI, 30, .inl (fm_meets))), mo qm vm_thrown qm_width qm_many qm_cells qm_moved qm_tape vm_taped vm_at vm_token vm_place vm_value vm_word vm_bad vm_badPlace vm_fault vm_faultPlace qm_lines qm_has qm_round qm_meets qm_stumble qm_isMud qm_cell qm_tune qm_change qm_isKept qm_steps qm_places qm_danced vm_runMost vm_runBegins qm_heardBy vm_fitMany vm_fitFirst vm_fitBeats vm_listenLeaves qm_there vm_metAt vm_metIn qm_wins vm_nightHoles vm_nightFirst vm_nightMud vm_nightSlips vm_drawnNow, (qm_has, .inl (cI, 55, .inl (fm_has))), (qm_round, .inl (cI, 120, .inl (fm_round)))] := ⟨hP, hD⟩
      have hz := hw
      clear hw
      have h_r265 : 0 ≤ r265.toInt ∧ r265.toInt ≤ 5 := hz
      clear hz
      refine ct_calli (D := D) (wr := [(qm_has, .inl (cI, 55, .inl (fm_has))), (qm_round, .inl (cI, 120, .inl (fm_round)))]) (va_runV (As := [.int r263, .int r265]) (rest := [.int z262]) ⟨hx, hb, hml, hown, hts⟩ (c_X12_clashes l D G cI cJ cB cZ cO qm vm_thrown qm_width qm_many qm_cells qm_moved qm_tape vm_taped vm_at vm_token vm_place vm_value vm_word vm_bad vm_badPlace vm_fault vm_faultPlace qm_lines qm_has qm_round qm_meets fm_meets qm_stumble qm_isMud qm_cell qm_tune qm_change qm_isKept qm_steps qm_places qm_danced vm_runMost vm_runBegins qm_heardBy vm_fitMany vm_fitFirst vm_fitBeats vm_listenLeaves qm_there vm_metAt vm_metIn qm_wins vm_nightHoles vm_nightFirst vm_nightMud vm_nightSlips vm_drawnNow r263 r265 h_vm_taped h_vm_at h_vm_value (by omega) H.size) (cwV 2 hts gX12_shiftedOf_X12_clashes rfl rfl rfl (by decide +kernel) ⟨Nat.le_of_ble_eq_true rfl, Nat.le_of_ble_eq_true rfl⟩) (ct_preV (T := ct_T cI cJ cB cZ cO) (ci := 12) (q0 := 1) hE hH hP hD hS hA [1, 0] (by decide) rfl rfl rfl) rfl rfl hl.1 rfl (lv_room (Nat.le_of_ble_eq_true rfl)) dX12_shiftedOf_76 ⟨Nat.le_of_ble_eq_true rfl, Nat.le_of_ble_eq_true rfl⟩) hP hD hS hA [1, 0] [2, 3] rfl rfl (by decide) (by decide) (fun r266 u H locs hw hP hD hS => ?_)
      obtain ⟨hP, hD⟩ : ct_B D A H [(qm_has, .inl (cI, 55, .inl (fm_has))), (qm_round, .inl (cI, 120, .inl (fm_round))), mo qm vm_thrown qm_width qm_many qm_cells qm_moved qm_tape vm_taped vm_at vm_token vm_place vm_value vm_word vm_bad vm_badPlace vm_fault vm_faultPlace qm_lines qm_has qm_round qm_meets qm_stumble qm_isMud qm_cell qm_tune qm_change qm_isKept qm_steps qm_places qm_danced vm_runMost vm_runBegins qm_heardBy vm_fitMany vm_fitFirst vm_fitBeats vm_listenLeaves qm_there vm_metAt vm_metIn qm_wins vm_nightHoles vm_nightFirst vm_nightMud vm_nightSlips vm_drawnNow, (qm_meets, .inl (cI, 30, .inl (fm_meets)))] := ⟨hP, hD⟩
      have hz := hw
      clear hw
      rcases hz with ⟨hz, hz2⟩ | ⟨hz, hz2⟩
      · subst hz
        refine lv_if_eq (tgt := 86) hx hb dX12_shiftedOf_79 (by decide) (fun hc => absurd hc (by decide)) (fun _ => ?_)
        refine lv_iconst (v := 1) hx hb dX12_shiftedOf_82 (by decide) ?_
        refine lv_goto (tgt := 87) hx hb dX12_shiftedOf_83 (by decide) ?_
        refine lv_iadd hx hb dX12_shiftedOf_87 ?_
        refine lv_topi (fun z267 ez267 => ?_)
        refine lv_istore_n (lv' := [(2, .int z267), (4, .int x244), (3, .int z1), (0, .ref qm), (1, .int a1)]) hx hb dX12_shiftedOf_88 rfl hl (by decide) rfl (fun ls hl => ?_)
        obtain ⟨z268, ez268⟩ : ∃ z : Int32, z = x244 + 1 := ⟨_, rfl⟩
        have fz268 : z268.toInt = x244.toInt + 1 := by rw [ez268]; exact tq_add rfl (by decide) (by omega)
        refine lv_iinc (v := z268) (lv' := [(4, .int z268), (2, .int z267), (3, .int z1), (0, .ref qm), (1, .int a1)]) hx hb dX12_shiftedOf_89 hl (k := 1) rfl ez268.symm (by decide) rfl (fun ls hl => ?_)
        refine lv_goto (tgt := 12) hx hb dX12_shiftedOf_92 (by decide) ?_
        obtain ⟨hP9, hD9⟩ : ct_B D A H [mo qm vm_thrown qm_width qm_many qm_cells qm_moved qm_tape vm_taped vm_at vm_token vm_place vm_value vm_word vm_bad vm_badPlace vm_fault vm_faultPlace qm_lines qm_has qm_round qm_meets qm_stumble qm_isMud qm_cell qm_tune qm_change qm_isKept qm_steps qm_places qm_danced vm_runMost vm_runBegins qm_heardBy vm_fitMany vm_fitFirst vm_fitBeats vm_listenLeaves qm_there vm_metAt vm_metIn qm_wins vm_nightHoles vm_nightFirst vm_nightMud vm_nightSlips vm_drawnNow, (qm_has, .inl (cI, 55, .inl (fm_has))), (qm_round, .inl (cI, 120, .inl (fm_round))), (qm_meets, .inl (cI, 30, .inl (fm_meets)))] := ⟨hP.sub [2, 0, 1, 3] rfl, hD.sub [2, 0, 1, 3] (by decide) rfl⟩
        exact ih245 (z267, z268) _ _ _ (show (164 - z268.toInt).toNat < (164 - x244.toInt).toNat by omega) ⟨(show 0 ≤ z268.toInt ∧ z268.toInt ≤ 164 by omega), (show z1.toInt ≤ z268.toInt by omega), ⟨hP9, hD9⟩, hS, lv_sub hl [0, 2, 1, 3, 4] rfl⟩
      · subst hz
        refine lv_if_eq (tgt := 86) hx hb dX12_shiftedOf_79 (by decide) (fun _ => ?_) (fun hc => absurd hc (by decide))
        refine lv_iconst (v := 0) hx hb dX12_shiftedOf_86 (by decide) ?_
        refine lv_iadd hx hb dX12_shiftedOf_87 ?_
        refine lv_topi (fun z269 ez269 => ?_)
        refine lv_istore_n (lv' := [(2, .int z269), (4, .int x244), (3, .int z1), (0, .ref qm), (1, .int a1)]) hx hb dX12_shiftedOf_88 rfl hl (by decide) rfl (fun ls hl => ?_)
        obtain ⟨z270, ez270⟩ : ∃ z : Int32, z = x244 + 1 := ⟨_, rfl⟩
        have fz270 : z270.toInt = x244.toInt + 1 := by rw [ez270]; exact tq_add rfl (by decide) (by omega)
        refine lv_iinc (v := z270) (lv' := [(4, .int z270), (2, .int z269), (3, .int z1), (0, .ref qm), (1, .int a1)]) hx hb dX12_shiftedOf_89 hl (k := 1) rfl ez270.symm (by decide) rfl (fun ls hl => ?_)
        refine lv_goto (tgt := 12) hx hb dX12_shiftedOf_92 (by decide) ?_
        obtain ⟨hP9, hD9⟩ : ct_B D A H [mo qm vm_thrown qm_width qm_many qm_cells qm_moved qm_tape vm_taped vm_at vm_token vm_place vm_value vm_word vm_bad vm_badPlace vm_fault vm_faultPlace qm_lines qm_has qm_round qm_meets qm_stumble qm_isMud qm_cell qm_tune qm_change qm_isKept qm_steps qm_places qm_danced vm_runMost vm_runBegins qm_heardBy vm_fitMany vm_fitFirst vm_fitBeats vm_listenLeaves qm_there vm_metAt vm_metIn qm_wins vm_nightHoles vm_nightFirst vm_nightMud vm_nightSlips vm_drawnNow, (qm_has, .inl (cI, 55, .inl (fm_has))), (qm_round, .inl (cI, 120, .inl (fm_round))), (qm_meets, .inl (cI, 30, .inl (fm_meets)))] := ⟨hP.sub [2, 0, 1, 3] rfl, hD.sub [2, 0, 1, 3] (by decide) rfl⟩
        exact ih245 (z269, z270) _ _ _ (show (164 - z270.toInt).toNat < (164 - x244.toInt).toNat by omega) ⟨(show 0 ≤ z270.toInt ∧ z270.toInt ≤ 164 by omega), (show z1.toInt ≤ z270.toInt by omega), ⟨hP9, hD9⟩, hS, lv_sub hl [0, 2, 1, 3, 4] rfl⟩
abbrev w_c_X12_shifted (cI cJ cB cZ cO : ClassId) (qm : Nat) (vm_thrown : Int32) (qm_width : Nat) (qm_many : Nat) (qm_cells : Nat) (qm_moved : Nat) (qm_tape : Nat) (vm_taped : Int32) (vm_at : Int32) (vm_token : Int32) (vm_place : Int32) (vm_value : Int32) (vm_word : Int64) (vm_bad : Int32) (vm_badPlace : Int32) (vm_fault : Int32) (vm_faultPlace : Int32) (qm_lines : Nat) (fm_lines : Nat → Int32) (qm_has : Nat) (fm_has : Nat → Int32) (qm_round : Nat) (fm_round : Nat → Int32) (qm_meets : Nat) (fm_meets : Nat → Int32) (qm_stumble : Nat) (qm_isMud : Nat) (qm_cell : Nat) (qm_tune : Nat) (qm_change : Nat) (qm_isKept : Nat) (qm_steps : Nat) (qm_places : Nat) (qm_danced : Nat) (vm_runMost : Int32) (vm_runBegins : Int32) (qm_heardBy : Nat) (vm_fitMany : Int32) (vm_fitFirst : Int32) (vm_fitBeats : Int64) (vm_listenLeaves : Int32) (qm_there : Nat) (vm_metAt : Int32) (vm_metIn : Int32) (qm_wins : Nat) (vm_nightHoles : Int32) (vm_nightFirst : Int32) (vm_nightMud : Int32) (vm_nightSlips : Int32) (vm_drawnNow : Int64) : va_W := [mo qm vm_thrown qm_width qm_many qm_cells qm_moved qm_tape vm_taped vm_at vm_token vm_place vm_value vm_word vm_bad vm_badPlace vm_fault vm_faultPlace qm_lines qm_has qm_round qm_meets qm_stumble qm_isMud qm_cell qm_tune qm_change qm_isKept qm_steps qm_places qm_danced vm_runMost vm_runBegins qm_heardBy vm_fitMany vm_fitFirst vm_fitBeats vm_listenLeaves qm_there vm_metAt vm_metIn qm_wins vm_nightHoles vm_nightFirst vm_nightMud vm_nightSlips vm_drawnNow, (qm_lines, .inl (cI, 5, .inl (fm_lines))), (qm_has, .inl (cI, 55, .inl (fm_has))), (qm_round, .inl (cI, 120, .inl (fm_round))), (qm_meets, .inl (cI, 30, .inl (fm_meets)))]
set_option maxHeartbeats 4000000 in
set_option maxRecDepth 100000 in
/-- X12 shifted -/
theorem c_X12_shifted (l : Launch) (D : va_G) (G : ct_G) (cI cJ cB cZ cO : ClassId) (qm : Nat) (vm_thrown : Int32) (qm_width : Nat) (qm_many : Nat) (qm_cells : Nat) (qm_moved : Nat) (qm_tape : Nat) (vm_taped : Int32) (vm_at : Int32) (vm_token : Int32) (vm_place : Int32) (vm_value : Int32) (vm_word : Int64) (vm_bad : Int32) (vm_badPlace : Int32) (vm_fault : Int32) (vm_faultPlace : Int32) (qm_lines : Nat) (fm_lines : Nat → Int32) (qm_has : Nat) (fm_has : Nat → Int32) (qm_round : Nat) (fm_round : Nat → Int32) (qm_meets : Nat) (fm_meets : Nat → Int32) (qm_stumble : Nat) (qm_isMud : Nat) (qm_cell : Nat) (qm_tune : Nat) (qm_change : Nat) (qm_isKept : Nat) (qm_steps : Nat) (qm_places : Nat) (qm_danced : Nat) (vm_runMost : Int32) (vm_runBegins : Int32) (qm_heardBy : Nat) (vm_fitMany : Int32) (vm_fitFirst : Int32) (vm_fitBeats : Int64) (vm_listenLeaves : Int32) (qm_there : Nat) (vm_metAt : Int32) (vm_metIn : Int32) (qm_wins : Nat) (vm_nightHoles : Int32) (vm_nightFirst : Int32) (vm_nightMud : Int32) (vm_nightSlips : Int32) (vm_drawnNow : Int64) (a1 : Int32) (h_vm_taped : 0 ≤ vm_taped.toInt ∧ vm_taped.toInt ≤ 1200) (h_vm_at : 0 ≤ vm_at.toInt ∧ vm_at.toInt ≤ 1200) (h_vm_value : 0 ≤ vm_value.toInt ∧ vm_value.toInt ≤ 1000009) (h_fm_has : ar_ok [0, (-2147483648), (-2147483648), 0, 0, 0, 0, 0, 0, 0, 0] [20, 2147483647, 2147483647, 12, 12, 11, 11, 8, 12, 5, 40] fm_has) (h_fm_round : ar_ok [0] [5] fm_round) (sz : Nat) : Met l yX12_shifted wsX12_shifted ({ frames := 15, cells := 0, slots := 0, locals := 317 }) (va_Pc [.ref qm, .int a1] (ct_P D (ct_T cI cJ cB cZ cO) G (w_c_X12_shifted cI cJ cB cZ cO qm vm_thrown qm_width qm_many qm_cells qm_moved qm_tape vm_taped vm_at vm_token vm_place vm_value vm_word vm_bad vm_badPlace vm_fault vm_faultPlace qm_lines fm_lines qm_has fm_has qm_round fm_round qm_meets fm_meets qm_stumble qm_isMud qm_cell qm_tune qm_change qm_isKept qm_steps qm_places qm_danced vm_runMost vm_runBegins qm_heardBy vm_fitMany vm_fitFirst vm_fitBeats vm_listenLeaves qm_there vm_metAt vm_metIn qm_wins vm_nightHoles vm_nightFirst vm_nightMud vm_nightSlips vm_drawnNow) sz)) (va_Qi (fun (rz : Int32) (u : Int32) => True) (fun (u : Int32) t => ct_Q D (va_A (w_c_X12_shifted cI cJ cB cZ cO qm vm_thrown qm_width qm_many qm_cells qm_moved qm_tape vm_taped vm_at vm_token vm_place vm_value vm_word vm_bad vm_badPlace vm_fault vm_faultPlace qm_lines fm_lines qm_has fm_has qm_round fm_round qm_meets fm_meets qm_stumble qm_isMud qm_cell qm_tune qm_change qm_isKept qm_steps qm_places qm_danced vm_runMost vm_runBegins qm_heardBy vm_fitMany vm_fitFirst vm_fitBeats vm_listenLeaves qm_there vm_metAt vm_metIn qm_wins vm_nightHoles vm_nightFirst vm_nightMud vm_nightSlips vm_drawnNow) sz) [mo qm u qm_width qm_many qm_cells qm_moved qm_tape vm_taped vm_at vm_token vm_place vm_value vm_word vm_bad vm_badPlace vm_fault vm_faultPlace qm_lines qm_has qm_round qm_meets qm_stumble qm_isMud qm_cell qm_tune qm_change qm_isKept qm_steps qm_places qm_danced vm_runMost vm_runBegins qm_heardBy vm_fitMany vm_fitFirst vm_fitBeats vm_listenLeaves qm_there vm_metAt vm_metIn qm_wins vm_nightHoles vm_nightFirst vm_nightMud vm_nightSlips vm_drawnNow, (qm_lines, .inl (cI, 5, .inl (fm_lines))), (qm_has, .inl (cI, 55, .inl (fm_has))), (qm_round, .inl (cI, 120, .inl (fm_round))), (qm_meets, .inl (cI, 30, .inl (fm_meets)))] t) (va_A (w_c_X12_shifted cI cJ cB cZ cO qm vm_thrown qm_width qm_many qm_cells qm_moved qm_tape vm_taped vm_at vm_token vm_place vm_value vm_word vm_bad vm_badPlace vm_fault vm_faultPlace qm_lines fm_lines qm_has fm_has qm_round fm_round qm_meets fm_meets qm_stumble qm_isMud qm_cell qm_tune qm_change qm_isKept qm_steps qm_places qm_danced vm_runMost vm_runBegins qm_heardBy vm_fitMany vm_fitFirst vm_fitBeats vm_listenLeaves qm_there vm_metAt vm_metIn qm_wins vm_nightHoles vm_nightFirst vm_nightMud vm_nightSlips vm_drawnNow) sz)) 0 0 (va_A (w_c_X12_shifted cI cJ cB cZ cO qm vm_thrown qm_width qm_many qm_cells qm_moved qm_tape vm_taped vm_at vm_token vm_place vm_value vm_word vm_bad vm_badPlace vm_fault vm_faultPlace qm_lines fm_lines qm_has fm_has qm_round fm_round qm_meets fm_meets qm_stumble qm_isMud qm_cell qm_tune qm_change qm_isKept qm_steps qm_places qm_danced vm_runMost vm_runBegins qm_heardBy vm_fitMany vm_fitFirst vm_fitBeats vm_listenLeaves qm_there vm_metAt vm_metIn qm_wins vm_nightHoles vm_nightFirst vm_nightMud vm_nightSlips vm_drawnNow) sz) := by
  refine Met.ofW (cc := cX12_shifted) (maxL := 2) (ret := (some .int)) (by decide) rfl ?_
  intro p e s m args below meth c s₁ B hml hv
  obtain ⟨rfl, hsz, hP, hE, hD0, hH⟩ := hv
  have hx := B.exec
  have hb := B.bytes
  have hr := B.returns
  have hts := atoms_spec (ws := wsX12_shifted) B.pre
  have hown : s.vm.findClass RX12 = some m.cls := findClass_of_methodNamed B.named
  have hlocks := B.notSynchronized
  have hK := hE.1
  have hi12 : ∀ w ∈ u_ws RX12 TX12 45, w ∈ wsX12_shifted := fun w h => List.mem_cons_of_mem _ (List.mem_append_right _ h)
  subst hsz
  have hD := hD0.self (sz := s.heap.size)
  generalize hAe : va_A (w_c_X12_shifted cI cJ cB cZ cO qm vm_thrown qm_width qm_many qm_cells qm_moved qm_tape vm_taped vm_at vm_token vm_place vm_value vm_word vm_bad vm_badPlace vm_fault vm_faultPlace qm_lines fm_lines qm_has fm_has qm_round fm_round qm_meets fm_meets qm_stumble qm_isMud qm_cell qm_tune qm_change qm_isKept qm_steps qm_places qm_danced vm_runMost vm_runBegins qm_heardBy vm_fitMany vm_fitFirst vm_fitBeats vm_listenLeaves qm_there vm_metAt vm_metIn qm_wins vm_nightHoles vm_nightFirst vm_nightMud vm_nightSlips vm_drawnNow) s.heap.size = A at hD hH ⊢
  have hA : ∀ q : Nat, s.heap.size ≤ q → A q := fun q h => by rw [← hAe]; exact Or.inr h
  have hS : va_S A s.heap s.heap [] := va_S.rf
  obtain ⟨hP, hD⟩ : ct_B D A s.heap [mo qm vm_thrown qm_width qm_many qm_cells qm_moved qm_tape vm_taped vm_at vm_token vm_place vm_value vm_word vm_bad vm_badPlace vm_fault vm_faultPlace qm_lines qm_has qm_round qm_meets qm_stumble qm_isMud qm_cell qm_tune qm_change qm_isKept qm_steps qm_places qm_danced vm_runMost vm_runBegins qm_heardBy vm_fitMany vm_fitFirst vm_fitBeats vm_listenLeaves qm_there vm_metAt vm_metIn qm_wins vm_nightHoles vm_nightFirst vm_nightMud vm_nightSlips vm_drawnNow, (qm_lines, .inl (cI, 5, .inl (fm_lines))), (qm_has, .inl (cI, 55, .inl (fm_has))), (qm_round, .inl (cI, 120, .inl (fm_round))), (qm_meets, .inl (cI, 30, .inl (fm_meets)))] := ⟨hP, hD⟩
  have hl := lv_entry ([.ref qm, .int a1]) (n := 2) (Nat.le_of_ble_eq_true rfl)
  rw [lg_entry_eq]
  generalize (lg_sl ([.ref qm, .int a1]) ++ List.replicate (2 - (lg_sl ([.ref qm, .int a1])).length) Slot.unset).toArray = ls at hl ⊢
  have hl : lv_has ls 2 [(0, .ref qm), (1, .int a1)] := hl
  obtain ⟨H, hHe⟩ : ∃ H : Heap, H = s.heap := ⟨_, rfl⟩
  rw [← hHe] at hP
  have hS : va_S A s.heap H [] := by rw [hHe]; exact va_S.rf
  refine ct_start hHe ?_
  refine lv_aload_n hx hb dX12_shifted_0 rfl (lv_at hl 0 rfl) ?_
  refine lv_iconst (v := 0) hx hb dX12_shifted_1 (by decide) ?_
  refine va_put (D := D) (ci := 12) (v := .int 0) (ty := .int) (C := RX12) (T := TX12) (N := 45) hx hb hts hi12 tyX12 tyX12_ok nmX12 hown hK hP hD hS 0 rfl rfl 0 (by decide) (hts (.fieldLink RX12 80 "OverHillModel" "thrown" "I") (by decide +kernel)) (fun _ h9 => h9) rfl (by decide +kernel) rfl rfl (Nat.le_of_ble_eq_true rfl) dX12_shifted_2 (fun H locs hP hD hS => ?_)
  obtain ⟨hP, hD⟩ : ct_B D A H [mo qm 0 qm_width qm_many qm_cells qm_moved qm_tape vm_taped vm_at vm_token vm_place vm_value vm_word vm_bad vm_badPlace vm_fault vm_faultPlace qm_lines qm_has qm_round qm_meets qm_stumble qm_isMud qm_cell qm_tune qm_change qm_isKept qm_steps qm_places qm_danced vm_runMost vm_runBegins qm_heardBy vm_fitMany vm_fitFirst vm_fitBeats vm_listenLeaves qm_there vm_metAt vm_metIn qm_wins vm_nightHoles vm_nightFirst vm_nightMud vm_nightSlips vm_drawnNow, (qm_lines, .inl (cI, 5, .inl (fm_lines))), (qm_has, .inl (cI, 55, .inl (fm_has))), (qm_round, .inl (cI, 120, .inl (fm_round))), (qm_meets, .inl (cI, 30, .inl (fm_meets)))] := ⟨hP, hD⟩
  refine lv_aload_n hx hb dX12_shifted_5 rfl (lv_at hl 0 rfl) ?_
  refine ct_calli (D := D) (wr := [(qm_has, .inl (cI, 55, .inl (fm_has))), (qm_round, .inl (cI, 120, .inl (fm_round))), (qm_meets, .inl (cI, 30, .inl (fm_meets)))]) (va_runV (As := []) (rest := []) ⟨hx, hb, hml, hown, hts⟩ (c_X12_isDance l D G cI cJ cB cZ cO qm 0 qm_width qm_many qm_cells qm_moved qm_tape vm_taped vm_at vm_token vm_place vm_value vm_word vm_bad vm_badPlace vm_fault vm_faultPlace qm_lines fm_lines qm_has qm_round qm_meets qm_stumble qm_isMud qm_cell qm_tune qm_change qm_isKept qm_steps qm_places qm_danced vm_runMost vm_runBegins qm_heardBy vm_fitMany vm_fitFirst vm_fitBeats vm_listenLeaves qm_there vm_metAt vm_metIn qm_wins vm_nightHoles vm_nightFirst vm_nightMud vm_nightSlips vm_drawnNow h_vm_taped h_vm_at h_vm_value H.size) (cwV 0 hts gX12_shifted_X12_isDance rfl rfl rfl (by decide +kernel) ⟨Nat.le_of_ble_eq_true rfl, Nat.le_of_ble_eq_true rfl⟩) (ct_preV (T := ct_T cI cJ cB cZ cO) (ci := 12) (q0 := 0) hE hH hP hD hS hA [0, 1] (by decide) rfl rfl rfl) rfl rfl hl.1 rfl (lv_room (Nat.le_of_ble_eq_true rfl)) dX12_shifted_6 ⟨Nat.le_of_ble_eq_true rfl, Nat.le_of_ble_eq_true rfl⟩) hP hD hS hA [0, 1] [2, 3, 4] rfl rfl (by decide) (by decide) (fun r1 u H locs hw hP hD hS => ?_)
  obtain ⟨hP, hD⟩ : ct_B D A H [(qm_has, .inl (cI, 55, .inl (fm_has))), (qm_round, .inl (cI, 120, .inl (fm_round))), (qm_meets, .inl (cI, 30, .inl (fm_meets))), mo qm 0 qm_width qm_many qm_cells qm_moved qm_tape vm_taped vm_at vm_token vm_place vm_value vm_word vm_bad vm_badPlace vm_fault vm_faultPlace qm_lines qm_has qm_round qm_meets qm_stumble qm_isMud qm_cell qm_tune qm_change qm_isKept qm_steps qm_places qm_danced vm_runMost vm_runBegins qm_heardBy vm_fitMany vm_fitFirst vm_fitBeats vm_listenLeaves qm_there vm_metAt vm_metIn qm_wins vm_nightHoles vm_nightFirst vm_nightMud vm_nightSlips vm_drawnNow, (qm_lines, .inl (cI, 5, .inl (fm_lines)))] := ⟨hP, hD⟩
  have hz := hw
  clear hw
  rcases hz with ⟨hz, hz2⟩ | ⟨hz, hz2⟩
  · subst hz
    refine lv_if_eq (tgt := 44) hx hb dX12_shifted_9 (by decide) (fun hc => absurd hc (by decide)) (fun _ => ?_)
    refine lv_aload_n hx hb dX12_shifted_12 rfl (lv_at hl 0 rfl) ?_
    refine ct_calli (D := D) (wr := [(qm_round, .inl (cI, 120, .inl (fm_round))), (qm_meets, .inl (cI, 30, .inl (fm_meets))), (qm_lines, .inl (cI, 5, .inl (fm_lines)))]) (va_runV (As := []) (rest := []) ⟨hx, hb, hml, hown, hts⟩ (c_X12_areRounds l D G cI cJ cB cZ cO qm 0 qm_width qm_many qm_cells qm_moved qm_tape vm_taped vm_at vm_token vm_place vm_value vm_word vm_bad vm_badPlace vm_fault vm_faultPlace qm_lines qm_has fm_has qm_round qm_meets qm_stumble qm_isMud qm_cell qm_tune qm_change qm_isKept qm_steps qm_places qm_danced vm_runMost vm_runBegins qm_heardBy vm_fitMany vm_fitFirst vm_fitBeats vm_listenLeaves qm_there vm_metAt vm_metIn qm_wins vm_nightHoles vm_nightFirst vm_nightMud vm_nightSlips vm_drawnNow h_vm_taped h_vm_at h_vm_value h_fm_has H.size) (cwV 0 hts gX12_shifted_X12_areRounds rfl rfl rfl (by decide +kernel) ⟨Nat.le_of_ble_eq_true rfl, Nat.le_of_ble_eq_true rfl⟩) (ct_preV (T := ct_T cI cJ cB cZ cO) (ci := 12) (q0 := 3) hE hH hP hD hS hA [3, 0] (by decide) rfl rfl rfl) rfl rfl hl.1 rfl (lv_room (Nat.le_of_ble_eq_true rfl)) dX12_shifted_13 ⟨Nat.le_of_ble_eq_true rfl, Nat.le_of_ble_eq_true rfl⟩) hP hD hS hA [3, 0] [1, 2, 4] rfl rfl (by decide) (by decide) (fun r2 u H locs hw hP hD hS => ?_)
    obtain ⟨hP, hD⟩ : ct_B D A H [(qm_round, .inl (cI, 120, .inl (fm_round))), (qm_meets, .inl (cI, 30, .inl (fm_meets))), (qm_lines, .inl (cI, 5, .inl (fm_lines))), mo qm 0 qm_width qm_many qm_cells qm_moved qm_tape vm_taped vm_at vm_token vm_place vm_value vm_word vm_bad vm_badPlace vm_fault vm_faultPlace qm_lines qm_has qm_round qm_meets qm_stumble qm_isMud qm_cell qm_tune qm_change qm_isKept qm_steps qm_places qm_danced vm_runMost vm_runBegins qm_heardBy vm_fitMany vm_fitFirst vm_fitBeats vm_listenLeaves qm_there vm_metAt vm_metIn qm_wins vm_nightHoles vm_nightFirst vm_nightMud vm_nightSlips vm_drawnNow, (qm_has, .inl (cI, 55, .inl (fm_has)))] := ⟨hP, hD⟩
    have hz := hw
    clear hw
    rcases hz with ⟨hz, hz2⟩ | ⟨hz, hz2⟩
    · subst hz
      have hz_3 : 1 ≤ (fm_has 3).toInt ∧ 1 ≤ (fm_has 4).toInt := hz2
      refine lv_if_eq (tgt := 44) hx hb dX12_shifted_16 (by decide) (fun hc => absurd hc (by decide)) (fun _ => ?_)
      refine lv_iload_n hx hb dX12_shifted_19 rfl (lv_at hl 1 rfl) ?_
      refine lv_i2l (v := _) hx hb dX12_shifted_20 rfl ?_
      refine lv_topl (fun z4 ez4 => ?_)
      have fz4 : z4.toInt = a1.toInt := by rw [ez4]; exact tl_i rfl
      have hb5 := tq_lo a1
      refine lv_lconst (v := 0) hx hb dX12_shifted_21 (by decide) ?_
      refine lv_aload_n hx hb dX12_shifted_22 rfl (lv_at hl 0 rfl) ?_
      refine lv_iconst (v := 1) hx hb dX12_shifted_23 (by decide) ?_
      refine ct_calli (D := D) (wr := [(qm_round, .inl (cI, 120, .inl (fm_round))), (qm_meets, .inl (cI, 30, .inl (fm_meets))), (qm_lines, .inl (cI, 5, .inl (fm_lines)))]) (va_runV (As := [.int 1]) (rest := [.long 0, .long z4]) ⟨hx, hb, hml, hown, hts⟩ (c_X12_lengthOfP l D G cI cJ cB cZ cO qm 0 qm_width qm_many qm_cells qm_moved qm_tape vm_taped vm_at vm_token vm_place vm_value vm_word vm_bad vm_badPlace vm_fault vm_faultPlace qm_lines qm_has fm_has qm_round qm_meets qm_stumble qm_isMud qm_cell qm_tune qm_change qm_isKept qm_steps qm_places qm_danced vm_runMost vm_runBegins qm_heardBy vm_fitMany vm_fitFirst vm_fitBeats vm_listenLeaves qm_there vm_metAt vm_metIn qm_wins vm_nightHoles vm_nightFirst vm_nightMud vm_nightSlips vm_drawnNow 1 h_vm_taped h_vm_at h_vm_value h_fm_has (by decide) hz_3 H.size) (cwV 1 hts gX12_shifted_X12_lengthOf rfl rfl rfl (by decide +kernel) ⟨Nat.le_of_ble_eq_true rfl, Nat.le_of_ble_eq_true rfl⟩) (ct_preV (T := ct_T cI cJ cB cZ cO) (ci := 12) (q0 := 3) hE hH hP hD hS hA [3, 4] (by decide) rfl rfl rfl) rfl rfl hl.1 rfl (lv_room (Nat.le_of_ble_eq_true rfl)) dX12_shifted_24 ⟨Nat.le_of_ble_eq_true rfl, Nat.le_of_ble_eq_true rfl⟩) hP hD hS hA [3, 4] [0, 1, 2] rfl rfl (by decide) (by decide) (fun r6 u H locs hw hP hD hS => ?_)
      obtain ⟨hP, hD⟩ : ct_B D A H [(qm_round, .inl (cI, 120, .inl (fm_round))), (qm_meets, .inl (cI, 30, .inl (fm_meets))), (qm_lines, .inl (cI, 5, .inl (fm_lines))), mo qm 0 qm_width qm_many qm_cells qm_moved qm_tape vm_taped vm_at vm_token vm_place vm_value vm_word vm_bad vm_badPlace vm_fault vm_faultPlace qm_lines qm_has qm_round qm_meets qm_stumble qm_isMud qm_cell qm_tune qm_change qm_isKept qm_steps qm_places qm_danced vm_runMost vm_runBegins qm_heardBy vm_fitMany vm_fitFirst vm_fitBeats vm_listenLeaves qm_there vm_metAt vm_metIn qm_wins vm_nightHoles vm_nightFirst vm_nightMud vm_nightSlips vm_drawnNow, (qm_has, .inl (cI, 55, .inl (fm_has)))] := ⟨hP, hD⟩
      have hz := hw
      clear hw
      have h_r6 : 1 ≤ r6.toInt ∧ r6.toInt ≤ 12 := hz
      clear hz
      refine lv_iconst (v := 1) hx hb dX12_shifted_27 (by decide) ?_
      refine lv_isub hx hb dX12_shifted_28 ?_
      refine lv_topi (fun z7 ez7 => ?_)
      have fz7 : z7.toInt = r6.toInt - 1 := by rw [ez7]; exact tq_subt rfl (by decide) (by omega)
      refine lv_i2l (v := _) hx hb dX12_shifted_29 rfl ?_
      refine lv_topl (fun z8 ez8 => ?_)
      have fz8 : z8.toInt = z7.toInt := by rw [ez8]; exact tl_i rfl
      refine ct_calli (D := D) (wr := [(qm_round, .inl (cI, 120, .inl (fm_round))), (qm_meets, .inl (cI, 30, .inl (fm_meets))), (qm_lines, .inl (cI, 5, .inl (fm_lines))), mo qm 0 qm_width qm_many qm_cells qm_moved qm_tape vm_taped vm_at vm_token vm_place vm_value vm_word vm_bad vm_badPlace vm_fault vm_faultPlace qm_lines qm_has qm_round qm_meets qm_stumble qm_isMud qm_cell qm_tune qm_change qm_isKept qm_steps qm_places qm_danced vm_runMost vm_runBegins qm_heardBy vm_fitMany vm_fitFirst vm_fitBeats vm_listenLeaves qm_there vm_metAt vm_metIn qm_wins vm_nightHoles vm_nightFirst vm_nightMud vm_nightSlips vm_drawnNow, (qm_has, .inl (cI, 55, .inl (fm_has)))]) (va_runS (As := [.long z4, .long 0, .long z8]) (rest := []) ⟨hx, hb, hml, hown, hts⟩ (c_X12_in l D G cI cJ cB cZ cO z4 0 z8  H.size) (va_cwS 3 hts gX12_shifted_X12_in rfl rfl rfl (by decide +kernel) ⟨Nat.le_of_ble_eq_true rfl, Nat.le_of_ble_eq_true rfl⟩) (ct_preS (T := ct_T cI cJ cB cZ cO) hE hH hP hD hS hA [] (by decide) rfl) rfl rfl hl.1 rfl (lv_room (Nat.le_of_ble_eq_true rfl)) dX12_shifted_30 ⟨Nat.le_of_ble_eq_true rfl, Nat.le_of_ble_eq_true rfl⟩) hP hD hS hA [] [0, 1, 2, 3, 4] rfl rfl (by decide) (by decide) (fun r9 u H locs hw hP hD hS => ?_)
      obtain ⟨hP, hD⟩ : ct_B D A H [(qm_round, .inl (cI, 120, .inl (fm_round))), (qm_meets, .inl (cI, 30, .inl (fm_meets))), (qm_lines, .inl (cI, 5, .inl (fm_lines))), mo qm 0 qm_width qm_many qm_cells qm_moved qm_tape vm_taped vm_at vm_token vm_place vm_value vm_word vm_bad vm_badPlace vm_fault vm_faultPlace qm_lines qm_has qm_round qm_meets qm_stumble qm_isMud qm_cell qm_tune qm_change qm_isKept qm_steps qm_places qm_danced vm_runMost vm_runBegins qm_heardBy vm_fitMany vm_fitFirst vm_fitBeats vm_listenLeaves qm_there vm_metAt vm_metIn qm_wins vm_nightHoles vm_nightFirst vm_nightMud vm_nightSlips vm_drawnNow, (qm_has, .inl (cI, 55, .inl (fm_has)))] := ⟨hP, hD⟩
      have hk10 : (0 : Int64).toInt = 0 := by decide
      have hz := hw
      clear hw
      rcases hz with ⟨hz, hz2⟩ | ⟨hz, hz2⟩
      · subst hz
        have hz_11 : ((0 : Int64).toInt ≤ z4.toInt ∧ z4.toInt ≤ z8.toInt) := hz2
        refine lv_if_eq (tgt := 44) hx hb dX12_shifted_33 (by decide) (fun hc => absurd hc (by decide)) (fun _ => ?_)
        refine lv_aload_n hx hb dX12_shifted_36 rfl (lv_at hl 0 rfl) ?_
        refine lv_iload_n hx hb dX12_shifted_37 rfl (lv_at hl 1 rfl) ?_
        refine ct_calli (D := D) (wr := [(qm_lines, .inl (cI, 5, .inl (fm_lines)))]) (va_runV (As := [.int a1]) (rest := []) ⟨hx, hb, hml, hown, hts⟩ (c_X12_shiftedOf l D G cI cJ cB cZ cO qm 0 qm_width qm_many qm_cells qm_moved qm_tape vm_taped vm_at vm_token vm_place vm_value vm_word vm_bad vm_badPlace vm_fault vm_faultPlace qm_lines qm_has fm_has qm_round fm_round qm_meets fm_meets qm_stumble qm_isMud qm_cell qm_tune qm_change qm_isKept qm_steps qm_places qm_danced vm_runMost vm_runBegins qm_heardBy vm_fitMany vm_fitFirst vm_fitBeats vm_listenLeaves qm_there vm_metAt vm_metIn qm_wins vm_nightHoles vm_nightFirst vm_nightMud vm_nightSlips vm_drawnNow a1 h_vm_taped h_vm_at h_vm_value h_fm_has h_fm_round (by omega) hz_3 H.size) (cwV 1 hts gX12_shifted_X12_shiftedOf rfl rfl rfl (by decide +kernel) ⟨Nat.le_of_ble_eq_true rfl, Nat.le_of_ble_eq_true rfl⟩) (ct_preV (T := ct_T cI cJ cB cZ cO) (ci := 12) (q0 := 3) hE hH hP hD hS hA [3, 4, 0, 1] (by decide) rfl rfl rfl) rfl rfl hl.1 rfl (lv_room (Nat.le_of_ble_eq_true rfl)) dX12_shifted_38 ⟨Nat.le_of_ble_eq_true rfl, Nat.le_of_ble_eq_true rfl⟩) hP hD hS hA [3, 4, 0, 1] [2] rfl rfl (by decide) (by decide) (fun r12 u H locs hw hP hD hS => ?_)
        obtain ⟨hP, hD⟩ : ct_B D A H [(qm_lines, .inl (cI, 5, .inl (fm_lines))), mo qm 0 qm_width qm_many qm_cells qm_moved qm_tape vm_taped vm_at vm_token vm_place vm_value vm_word vm_bad vm_badPlace vm_fault vm_faultPlace qm_lines qm_has qm_round qm_meets qm_stumble qm_isMud qm_cell qm_tune qm_change qm_isKept qm_steps qm_places qm_danced vm_runMost vm_runBegins qm_heardBy vm_fitMany vm_fitFirst vm_fitBeats vm_listenLeaves qm_there vm_metAt vm_metIn qm_wins vm_nightHoles vm_nightFirst vm_nightMud vm_nightSlips vm_drawnNow, (qm_has, .inl (cI, 55, .inl (fm_has))), (qm_round, .inl (cI, 120, .inl (fm_round))), (qm_meets, .inl (cI, 30, .inl (fm_meets)))] := ⟨hP, hD⟩
        refine lv_goto (tgt := 46) hx hb dX12_shifted_41 (by decide) ?_
        obtain ⟨hP9, hD9⟩ : ct_B D A H [mo qm 0 qm_width qm_many qm_cells qm_moved qm_tape vm_taped vm_at vm_token vm_place vm_value vm_word vm_bad vm_badPlace vm_fault vm_faultPlace qm_lines qm_has qm_round qm_meets qm_stumble qm_isMud qm_cell qm_tune qm_change qm_isKept qm_steps qm_places qm_danced vm_runMost vm_runBegins qm_heardBy vm_fitMany vm_fitFirst vm_fitBeats vm_listenLeaves qm_there vm_metAt vm_metIn qm_wins vm_nightHoles vm_nightFirst vm_nightMud vm_nightSlips vm_drawnNow, (qm_lines, .inl (cI, 5, .inl (fm_lines))), (qm_has, .inl (cI, 55, .inl (fm_has))), (qm_round, .inl (cI, 120, .inl (fm_round))), (qm_meets, .inl (cI, 30, .inl (fm_meets)))] := ⟨hP.sub [1, 0, 2, 3, 4] rfl, hD.sub [1, 0, 2, 3, 4] (by decide) rfl⟩
        exact W.iret (v := r12) hx hb hr (fun t ht hW => ⟨⟨r12, (0 : Int32), rfl, trivial, by rw [ht]; exact hP9, hD9⟩, hS.F ht⟩) hS.2.2 dX12_shifted_46
      · subst hz
        have hz_13 : ¬ ((0 : Int64).toInt ≤ z4.toInt ∧ z4.toInt ≤ z8.toInt) := hz2
        refine lv_if_eq (tgt := 44) hx hb dX12_shifted_33 (by decide) (fun _ => ?_) (fun hc => absurd hc (by decide))
        refine lv_bipush (v := (-2)) hx hb dX12_shifted_44 (by decide) ?_
        obtain ⟨hP9, hD9⟩ : ct_B D A H [mo qm 0 qm_width qm_many qm_cells qm_moved qm_tape vm_taped vm_at vm_token vm_place vm_value vm_word vm_bad vm_badPlace vm_fault vm_faultPlace qm_lines qm_has qm_round qm_meets qm_stumble qm_isMud qm_cell qm_tune qm_change qm_isKept qm_steps qm_places qm_danced vm_runMost vm_runBegins qm_heardBy vm_fitMany vm_fitFirst vm_fitBeats vm_listenLeaves qm_there vm_metAt vm_metIn qm_wins vm_nightHoles vm_nightFirst vm_nightMud vm_nightSlips vm_drawnNow, (qm_lines, .inl (cI, 5, .inl (fm_lines))), (qm_has, .inl (cI, 55, .inl (fm_has))), (qm_round, .inl (cI, 120, .inl (fm_round))), (qm_meets, .inl (cI, 30, .inl (fm_meets)))] := ⟨hP.sub [3, 2, 4, 0, 1] rfl, hD.sub [3, 2, 4, 0, 1] (by decide) rfl⟩
        exact W.iret (v := (-2)) hx hb hr (fun t ht hW => ⟨⟨(-2), (0 : Int32), rfl, trivial, by rw [ht]; exact hP9, hD9⟩, hS.F ht⟩) hS.2.2 dX12_shifted_46
    · subst hz
      refine lv_if_eq (tgt := 44) hx hb dX12_shifted_16 (by decide) (fun _ => ?_) (fun hc => absurd hc (by decide))
      refine lv_bipush (v := (-2)) hx hb dX12_shifted_44 (by decide) ?_
      obtain ⟨hP9, hD9⟩ : ct_B D A H [mo qm 0 qm_width qm_many qm_cells qm_moved qm_tape vm_taped vm_at vm_token vm_place vm_value vm_word vm_bad vm_badPlace vm_fault vm_faultPlace qm_lines qm_has qm_round qm_meets qm_stumble qm_isMud qm_cell qm_tune qm_change qm_isKept qm_steps qm_places qm_danced vm_runMost vm_runBegins qm_heardBy vm_fitMany vm_fitFirst vm_fitBeats vm_listenLeaves qm_there vm_metAt vm_metIn qm_wins vm_nightHoles vm_nightFirst vm_nightMud vm_nightSlips vm_drawnNow, (qm_lines, .inl (cI, 5, .inl (fm_lines))), (qm_has, .inl (cI, 55, .inl (fm_has))), (qm_round, .inl (cI, 120, .inl (fm_round))), (qm_meets, .inl (cI, 30, .inl (fm_meets)))] := ⟨hP.sub [3, 2, 4, 0, 1] rfl, hD.sub [3, 2, 4, 0, 1] (by decide) rfl⟩
      exact W.iret (v := (-2)) hx hb hr (fun t ht hW => ⟨⟨(-2), (0 : Int32), rfl, trivial, by rw [ht]; exact hP9, hD9⟩, hS.F ht⟩) hS.2.2 dX12_shifted_46
  · subst hz
    refine lv_if_eq (tgt := 44) hx hb dX12_shifted_9 (by decide) (fun _ => ?_) (fun hc => absurd hc (by decide))
    refine lv_bipush (v := (-2)) hx hb dX12_shifted_44 (by decide) ?_
    obtain ⟨hP9, hD9⟩ : ct_B D A H [mo qm 0 qm_width qm_many qm_cells qm_moved qm_tape vm_taped vm_at vm_token vm_place vm_value vm_word vm_bad vm_badPlace vm_fault vm_faultPlace qm_lines qm_has qm_round qm_meets qm_stumble qm_isMud qm_cell qm_tune qm_change qm_isKept qm_steps qm_places qm_danced vm_runMost vm_runBegins qm_heardBy vm_fitMany vm_fitFirst vm_fitBeats vm_listenLeaves qm_there vm_metAt vm_metIn qm_wins vm_nightHoles vm_nightFirst vm_nightMud vm_nightSlips vm_drawnNow, (qm_lines, .inl (cI, 5, .inl (fm_lines))), (qm_has, .inl (cI, 55, .inl (fm_has))), (qm_round, .inl (cI, 120, .inl (fm_round))), (qm_meets, .inl (cI, 30, .inl (fm_meets)))] := ⟨hP.sub [3, 4, 0, 1, 2] rfl, hD.sub [3, 4, 0, 1, 2] (by decide) rfl⟩
    exact W.iret (v := (-2)) hx hb hr (fun t ht hW => ⟨⟨(-2), (0 : Int32), rfl, trivial, by rw [ht]; exact hP9, hD9⟩, hS.F ht⟩) hS.2.2 dX12_shifted_46
abbrev w_c_X12_shift (cI cJ cB cZ cO : ClassId) (qm : Nat) (vm_thrown : Int32) (qm_width : Nat) (qm_many : Nat) (qm_cells : Nat) (qm_moved : Nat) (qm_tape : Nat) (vm_taped : Int32) (vm_at : Int32) (vm_token : Int32) (vm_place : Int32) (vm_value : Int32) (vm_word : Int64) (vm_bad : Int32) (vm_badPlace : Int32) (vm_fault : Int32) (vm_faultPlace : Int32) (qm_lines : Nat) (fm_lines : Nat → Int32) (qm_has : Nat) (fm_has : Nat → Int32) (qm_round : Nat) (fm_round : Nat → Int32) (qm_meets : Nat) (fm_meets : Nat → Int32) (qm_stumble : Nat) (qm_isMud : Nat) (qm_cell : Nat) (qm_tune : Nat) (qm_change : Nat) (qm_isKept : Nat) (qm_steps : Nat) (qm_places : Nat) (qm_danced : Nat) (vm_runMost : Int32) (vm_runBegins : Int32) (qm_heardBy : Nat) (vm_fitMany : Int32) (vm_fitFirst : Int32) (vm_fitBeats : Int64) (vm_listenLeaves : Int32) (qm_there : Nat) (vm_metAt : Int32) (vm_metIn : Int32) (qm_wins : Nat) (vm_nightHoles : Int32) (vm_nightFirst : Int32) (vm_nightMud : Int32) (vm_nightSlips : Int32) (vm_drawnNow : Int64) : va_W := [mo qm vm_thrown qm_width qm_many qm_cells qm_moved qm_tape vm_taped vm_at vm_token vm_place vm_value vm_word vm_bad vm_badPlace vm_fault vm_faultPlace qm_lines qm_has qm_round qm_meets qm_stumble qm_isMud qm_cell qm_tune qm_change qm_isKept qm_steps qm_places qm_danced vm_runMost vm_runBegins qm_heardBy vm_fitMany vm_fitFirst vm_fitBeats vm_listenLeaves qm_there vm_metAt vm_metIn qm_wins vm_nightHoles vm_nightFirst vm_nightMud vm_nightSlips vm_drawnNow, (qm_lines, .inl (cI, 5, .inl (fm_lines))), (qm_has, .inl (cI, 55, .inl (fm_has))), (qm_round, .inl (cI, 120, .inl (fm_round))), (qm_meets, .inl (cI, 30, .inl (fm_meets)))]
set_option maxHeartbeats 4000000 in
set_option maxRecDepth 100000 in
/-- X12 shift -/
theorem c_X12_shift (l : Launch) (D : va_G) (G : ct_G) (cI cJ cB cZ cO : ClassId) (qm : Nat) (vm_thrown : Int32) (qm_width : Nat) (qm_many : Nat) (qm_cells : Nat) (qm_moved : Nat) (qm_tape : Nat) (vm_taped : Int32) (vm_at : Int32) (vm_token : Int32) (vm_place : Int32) (vm_value : Int32) (vm_word : Int64) (vm_bad : Int32) (vm_badPlace : Int32) (vm_fault : Int32) (vm_faultPlace : Int32) (qm_lines : Nat) (fm_lines : Nat → Int32) (qm_has : Nat) (fm_has : Nat → Int32) (qm_round : Nat) (fm_round : Nat → Int32) (qm_meets : Nat) (fm_meets : Nat → Int32) (qm_stumble : Nat) (qm_isMud : Nat) (qm_cell : Nat) (qm_tune : Nat) (qm_change : Nat) (qm_isKept : Nat) (qm_steps : Nat) (qm_places : Nat) (qm_danced : Nat) (vm_runMost : Int32) (vm_runBegins : Int32) (qm_heardBy : Nat) (vm_fitMany : Int32) (vm_fitFirst : Int32) (vm_fitBeats : Int64) (vm_listenLeaves : Int32) (qm_there : Nat) (vm_metAt : Int32) (vm_metIn : Int32) (qm_wins : Nat) (vm_nightHoles : Int32) (vm_nightFirst : Int32) (vm_nightMud : Int32) (vm_nightSlips : Int32) (vm_drawnNow : Int64) (h_vm_taped : 0 ≤ vm_taped.toInt ∧ vm_taped.toInt ≤ 1200) (h_vm_at : 0 ≤ vm_at.toInt ∧ vm_at.toInt ≤ 1200) (h_vm_value : 0 ≤ vm_value.toInt ∧ vm_value.toInt ≤ 1000009) (h_fm_has : ar_ok [0, (-2147483648), (-2147483648), 0, 0, 0, 0, 0, 0, 0, 0] [20, 2147483647, 2147483647, 12, 12, 11, 11, 8, 12, 5, 40] fm_has) (h_fm_round : ar_ok [0] [5] fm_round) (sz : Nat) : Met l yX12_shift wsX12_shift ({ frames := 15, cells := 0, slots := 0, locals := 317 }) (va_Pc [.ref qm] (ct_P D (ct_T cI cJ cB cZ cO) G (w_c_X12_shift cI cJ cB cZ cO qm vm_thrown qm_width qm_many qm_cells qm_moved qm_tape vm_taped vm_at vm_token vm_place vm_value vm_word vm_bad vm_badPlace vm_fault vm_faultPlace qm_lines fm_lines qm_has fm_has qm_round fm_round qm_meets fm_meets qm_stumble qm_isMud qm_cell qm_tune qm_change qm_isKept qm_steps qm_places qm_danced vm_runMost vm_runBegins qm_heardBy vm_fitMany vm_fitFirst vm_fitBeats vm_listenLeaves qm_there vm_metAt vm_metIn qm_wins vm_nightHoles vm_nightFirst vm_nightMud vm_nightSlips vm_drawnNow) sz)) (va_Qi (fun (rz : Int32) (u : Int32) => ((-2) ≤ rz.toInt ∧ rz.toInt ≤ 11)) (fun (u : Int32) t => ct_Q D (va_A (w_c_X12_shift cI cJ cB cZ cO qm vm_thrown qm_width qm_many qm_cells qm_moved qm_tape vm_taped vm_at vm_token vm_place vm_value vm_word vm_bad vm_badPlace vm_fault vm_faultPlace qm_lines fm_lines qm_has fm_has qm_round fm_round qm_meets fm_meets qm_stumble qm_isMud qm_cell qm_tune qm_change qm_isKept qm_steps qm_places qm_danced vm_runMost vm_runBegins qm_heardBy vm_fitMany vm_fitFirst vm_fitBeats vm_listenLeaves qm_there vm_metAt vm_metIn qm_wins vm_nightHoles vm_nightFirst vm_nightMud vm_nightSlips vm_drawnNow) sz) [mo qm u qm_width qm_many qm_cells qm_moved qm_tape vm_taped vm_at vm_token vm_place vm_value vm_word vm_bad vm_badPlace vm_fault vm_faultPlace qm_lines qm_has qm_round qm_meets qm_stumble qm_isMud qm_cell qm_tune qm_change qm_isKept qm_steps qm_places qm_danced vm_runMost vm_runBegins qm_heardBy vm_fitMany vm_fitFirst vm_fitBeats vm_listenLeaves qm_there vm_metAt vm_metIn qm_wins vm_nightHoles vm_nightFirst vm_nightMud vm_nightSlips vm_drawnNow, (qm_lines, .inl (cI, 5, .inl (fm_lines))), (qm_has, .inl (cI, 55, .inl (fm_has))), (qm_round, .inl (cI, 120, .inl (fm_round))), (qm_meets, .inl (cI, 30, .inl (fm_meets)))] t) (va_A (w_c_X12_shift cI cJ cB cZ cO qm vm_thrown qm_width qm_many qm_cells qm_moved qm_tape vm_taped vm_at vm_token vm_place vm_value vm_word vm_bad vm_badPlace vm_fault vm_faultPlace qm_lines fm_lines qm_has fm_has qm_round fm_round qm_meets fm_meets qm_stumble qm_isMud qm_cell qm_tune qm_change qm_isKept qm_steps qm_places qm_danced vm_runMost vm_runBegins qm_heardBy vm_fitMany vm_fitFirst vm_fitBeats vm_listenLeaves qm_there vm_metAt vm_metIn qm_wins vm_nightHoles vm_nightFirst vm_nightMud vm_nightSlips vm_drawnNow) sz)) 0 0 (va_A (w_c_X12_shift cI cJ cB cZ cO qm vm_thrown qm_width qm_many qm_cells qm_moved qm_tape vm_taped vm_at vm_token vm_place vm_value vm_word vm_bad vm_badPlace vm_fault vm_faultPlace qm_lines fm_lines qm_has fm_has qm_round fm_round qm_meets fm_meets qm_stumble qm_isMud qm_cell qm_tune qm_change qm_isKept qm_steps qm_places qm_danced vm_runMost vm_runBegins qm_heardBy vm_fitMany vm_fitFirst vm_fitBeats vm_listenLeaves qm_there vm_metAt vm_metIn qm_wins vm_nightHoles vm_nightFirst vm_nightMud vm_nightSlips vm_drawnNow) sz) := by
  refine Met.ofW (cc := cX12_shift) (maxL := 2) (ret := (some .int)) (by decide) rfl ?_
  intro p e s m args below meth c s₁ B hml hv
  obtain ⟨rfl, hsz, hP, hE, hD0, hH⟩ := hv
  have hx := B.exec
  have hb := B.bytes
  have hr := B.returns
  have hts := atoms_spec (ws := wsX12_shift) B.pre
  have hown : s.vm.findClass RX12 = some m.cls := findClass_of_methodNamed B.named
  have hlocks := B.notSynchronized
  have hK := hE.1
  have hi12 : ∀ w ∈ u_ws RX12 TX12 45, w ∈ wsX12_shift := fun w h => List.mem_cons_of_mem _ (List.mem_append_right _ h)
  subst hsz
  have hD := hD0.self (sz := s.heap.size)
  generalize hAe : va_A (w_c_X12_shift cI cJ cB cZ cO qm vm_thrown qm_width qm_many qm_cells qm_moved qm_tape vm_taped vm_at vm_token vm_place vm_value vm_word vm_bad vm_badPlace vm_fault vm_faultPlace qm_lines fm_lines qm_has fm_has qm_round fm_round qm_meets fm_meets qm_stumble qm_isMud qm_cell qm_tune qm_change qm_isKept qm_steps qm_places qm_danced vm_runMost vm_runBegins qm_heardBy vm_fitMany vm_fitFirst vm_fitBeats vm_listenLeaves qm_there vm_metAt vm_metIn qm_wins vm_nightHoles vm_nightFirst vm_nightMud vm_nightSlips vm_drawnNow) s.heap.size = A at hD hH ⊢
  have hA : ∀ q : Nat, s.heap.size ≤ q → A q := fun q h => by rw [← hAe]; exact Or.inr h
  have hS : va_S A s.heap s.heap [] := va_S.rf
  obtain ⟨hP, hD⟩ : ct_B D A s.heap [mo qm vm_thrown qm_width qm_many qm_cells qm_moved qm_tape vm_taped vm_at vm_token vm_place vm_value vm_word vm_bad vm_badPlace vm_fault vm_faultPlace qm_lines qm_has qm_round qm_meets qm_stumble qm_isMud qm_cell qm_tune qm_change qm_isKept qm_steps qm_places qm_danced vm_runMost vm_runBegins qm_heardBy vm_fitMany vm_fitFirst vm_fitBeats vm_listenLeaves qm_there vm_metAt vm_metIn qm_wins vm_nightHoles vm_nightFirst vm_nightMud vm_nightSlips vm_drawnNow, (qm_lines, .inl (cI, 5, .inl (fm_lines))), (qm_has, .inl (cI, 55, .inl (fm_has))), (qm_round, .inl (cI, 120, .inl (fm_round))), (qm_meets, .inl (cI, 30, .inl (fm_meets)))] := ⟨hP, hD⟩
  have hl := lv_entry ([.ref qm]) (n := 2) (Nat.le_of_ble_eq_true rfl)
  rw [lg_entry_eq]
  generalize (lg_sl ([.ref qm]) ++ List.replicate (2 - (lg_sl ([.ref qm])).length) Slot.unset).toArray = ls at hl ⊢
  have hl : lv_has ls 2 [(0, .ref qm)] := hl
  obtain ⟨H, hHe⟩ : ∃ H : Heap, H = s.heap := ⟨_, rfl⟩
  rw [← hHe] at hP
  have hS : va_S A s.heap H [] := by rw [hHe]; exact va_S.rf
  refine ct_start hHe ?_
  refine lv_aload_n hx hb dX12_shift_0 rfl (lv_at hl 0 rfl) ?_
  refine lv_iconst (v := 0) hx hb dX12_shift_1 (by decide) ?_
  refine va_put (D := D) (ci := 12) (v := .int 0) (ty := .int) (C := RX12) (T := TX12) (N := 45) hx hb hts hi12 tyX12 tyX12_ok nmX12 hown hK hP hD hS 0 rfl rfl 0 (by decide) (hts (.fieldLink RX12 80 "OverHillModel" "thrown" "I") (by decide +kernel)) (fun _ h9 => h9) rfl (by decide +kernel) rfl rfl (Nat.le_of_ble_eq_true rfl) dX12_shift_2 (fun H locs hP hD hS => ?_)
  obtain ⟨hP, hD⟩ : ct_B D A H [mo qm 0 qm_width qm_many qm_cells qm_moved qm_tape vm_taped vm_at vm_token vm_place vm_value vm_word vm_bad vm_badPlace vm_fault vm_faultPlace qm_lines qm_has qm_round qm_meets qm_stumble qm_isMud qm_cell qm_tune qm_change qm_isKept qm_steps qm_places qm_danced vm_runMost vm_runBegins qm_heardBy vm_fitMany vm_fitFirst vm_fitBeats vm_listenLeaves qm_there vm_metAt vm_metIn qm_wins vm_nightHoles vm_nightFirst vm_nightMud vm_nightSlips vm_drawnNow, (qm_lines, .inl (cI, 5, .inl (fm_lines))), (qm_has, .inl (cI, 55, .inl (fm_has))), (qm_round, .inl (cI, 120, .inl (fm_round))), (qm_meets, .inl (cI, 30, .inl (fm_meets)))] := ⟨hP, hD⟩
  refine lv_aload_n hx hb dX12_shift_5 rfl (lv_at hl 0 rfl) ?_
  refine ct_calli (D := D) (wr := [(qm_has, .inl (cI, 55, .inl (fm_has))), (qm_round, .inl (cI, 120, .inl (fm_round))), (qm_meets, .inl (cI, 30, .inl (fm_meets)))]) (va_runV (As := []) (rest := []) ⟨hx, hb, hml, hown, hts⟩ (c_X12_isDance l D G cI cJ cB cZ cO qm 0 qm_width qm_many qm_cells qm_moved qm_tape vm_taped vm_at vm_token vm_place vm_value vm_word vm_bad vm_badPlace vm_fault vm_faultPlace qm_lines fm_lines qm_has qm_round qm_meets qm_stumble qm_isMud qm_cell qm_tune qm_change qm_isKept qm_steps qm_places qm_danced vm_runMost vm_runBegins qm_heardBy vm_fitMany vm_fitFirst vm_fitBeats vm_listenLeaves qm_there vm_metAt vm_metIn qm_wins vm_nightHoles vm_nightFirst vm_nightMud vm_nightSlips vm_drawnNow h_vm_taped h_vm_at h_vm_value H.size) (cwV 0 hts gX12_shift_X12_isDance rfl rfl rfl (by decide +kernel) ⟨Nat.le_of_ble_eq_true rfl, Nat.le_of_ble_eq_true rfl⟩) (ct_preV (T := ct_T cI cJ cB cZ cO) (ci := 12) (q0 := 0) hE hH hP hD hS hA [0, 1] (by decide) rfl rfl rfl) rfl rfl hl.1 rfl (lv_room (Nat.le_of_ble_eq_true rfl)) dX12_shift_6 ⟨Nat.le_of_ble_eq_true rfl, Nat.le_of_ble_eq_true rfl⟩) hP hD hS hA [0, 1] [2, 3, 4] rfl rfl (by decide) (by decide) (fun r1 u H locs hw hP hD hS => ?_)
  obtain ⟨hP, hD⟩ : ct_B D A H [(qm_has, .inl (cI, 55, .inl (fm_has))), (qm_round, .inl (cI, 120, .inl (fm_round))), (qm_meets, .inl (cI, 30, .inl (fm_meets))), mo qm 0 qm_width qm_many qm_cells qm_moved qm_tape vm_taped vm_at vm_token vm_place vm_value vm_word vm_bad vm_badPlace vm_fault vm_faultPlace qm_lines qm_has qm_round qm_meets qm_stumble qm_isMud qm_cell qm_tune qm_change qm_isKept qm_steps qm_places qm_danced vm_runMost vm_runBegins qm_heardBy vm_fitMany vm_fitFirst vm_fitBeats vm_listenLeaves qm_there vm_metAt vm_metIn qm_wins vm_nightHoles vm_nightFirst vm_nightMud vm_nightSlips vm_drawnNow, (qm_lines, .inl (cI, 5, .inl (fm_lines)))] := ⟨hP, hD⟩
  have hz := hw
  clear hw
  rcases hz with ⟨hz, hz2⟩ | ⟨hz, hz2⟩
  · subst hz
    refine lv_if_eq (tgt := 19) hx hb dX12_shift_9 (by decide) (fun hc => absurd hc (by decide)) (fun _ => ?_)
    refine lv_aload_n hx hb dX12_shift_12 rfl (lv_at hl 0 rfl) ?_
    refine ct_calli (D := D) (wr := [(qm_round, .inl (cI, 120, .inl (fm_round))), (qm_meets, .inl (cI, 30, .inl (fm_meets))), (qm_lines, .inl (cI, 5, .inl (fm_lines)))]) (va_runV (As := []) (rest := []) ⟨hx, hb, hml, hown, hts⟩ (c_X12_areRounds l D G cI cJ cB cZ cO qm 0 qm_width qm_many qm_cells qm_moved qm_tape vm_taped vm_at vm_token vm_place vm_value vm_word vm_bad vm_badPlace vm_fault vm_faultPlace qm_lines qm_has fm_has qm_round qm_meets qm_stumble qm_isMud qm_cell qm_tune qm_change qm_isKept qm_steps qm_places qm_danced vm_runMost vm_runBegins qm_heardBy vm_fitMany vm_fitFirst vm_fitBeats vm_listenLeaves qm_there vm_metAt vm_metIn qm_wins vm_nightHoles vm_nightFirst vm_nightMud vm_nightSlips vm_drawnNow h_vm_taped h_vm_at h_vm_value h_fm_has H.size) (cwV 0 hts gX12_shift_X12_areRounds rfl rfl rfl (by decide +kernel) ⟨Nat.le_of_ble_eq_true rfl, Nat.le_of_ble_eq_true rfl⟩) (ct_preV (T := ct_T cI cJ cB cZ cO) (ci := 12) (q0 := 3) hE hH hP hD hS hA [3, 0] (by decide) rfl rfl rfl) rfl rfl hl.1 rfl (lv_room (Nat.le_of_ble_eq_true rfl)) dX12_shift_13 ⟨Nat.le_of_ble_eq_true rfl, Nat.le_of_ble_eq_true rfl⟩) hP hD hS hA [3, 0] [1, 2, 4] rfl rfl (by decide) (by decide) (fun r2 u H locs hw hP hD hS => ?_)
    obtain ⟨hP, hD⟩ : ct_B D A H [(qm_round, .inl (cI, 120, .inl (fm_round))), (qm_meets, .inl (cI, 30, .inl (fm_meets))), (qm_lines, .inl (cI, 5, .inl (fm_lines))), mo qm 0 qm_width qm_many qm_cells qm_moved qm_tape vm_taped vm_at vm_token vm_place vm_value vm_word vm_bad vm_badPlace vm_fault vm_faultPlace qm_lines qm_has qm_round qm_meets qm_stumble qm_isMud qm_cell qm_tune qm_change qm_isKept qm_steps qm_places qm_danced vm_runMost vm_runBegins qm_heardBy vm_fitMany vm_fitFirst vm_fitBeats vm_listenLeaves qm_there vm_metAt vm_metIn qm_wins vm_nightHoles vm_nightFirst vm_nightMud vm_nightSlips vm_drawnNow, (qm_has, .inl (cI, 55, .inl (fm_has)))] := ⟨hP, hD⟩
    have hz := hw
    clear hw
    rcases hz with ⟨hz, hz2⟩ | ⟨hz, hz2⟩
    · subst hz
      have hz_3 : 1 ≤ (fm_has 3).toInt ∧ 1 ≤ (fm_has 4).toInt := hz2
      refine lv_if_ne (tgt := 22) hx hb dX12_shift_16 (by decide) (fun _ => ?_) (fun hc => absurd hc (by decide))
      refine lv_iconst (v := 0) hx hb dX12_shift_22 (by decide) ?_
      refine lv_istore_n (lv' := [(1, .int 0), (0, .ref qm)]) hx hb dX12_shift_23 rfl hl (by decide) rfl (fun ls hl => ?_)
      refine ct_loop (X := Int32) (fun x => (12 - x.toInt).toNat) (fun x H locs ls => ((0 ≤ x.toInt ∧ x.toInt ≤ 12)) ∧ ct_B D A H [(qm_round, .inl (cI, 120, .inl (fm_round))), (qm_meets, .inl (cI, 30, .inl (fm_meets))), (qm_lines, .inl (cI, 5, .inl (fm_lines))), mo qm 0 qm_width qm_many qm_cells qm_moved qm_tape vm_taped vm_at vm_token vm_place vm_value vm_word vm_bad vm_badPlace vm_fault vm_faultPlace qm_lines qm_has qm_round qm_meets qm_stumble qm_isMud qm_cell qm_tune qm_change qm_isKept qm_steps qm_places qm_danced vm_runMost vm_runBegins qm_heardBy vm_fitMany vm_fitFirst vm_fitBeats vm_listenLeaves qm_there vm_metAt vm_metIn qm_wins vm_nightHoles vm_nightFirst vm_nightMud vm_nightSlips vm_drawnNow, (qm_has, .inl (cI, 55, .inl (fm_has)))] ∧ va_S A s.heap H locs ∧ lv_has ls 2 [(1, .int x), (0, .ref qm)]) 24 (0 : Int32) ⟨(show 0 ≤ (0 : Int32).toInt ∧ (0 : Int32).toInt ≤ 12 by decide), ⟨hP, hD⟩, hS, lv_sub hl [0, 1] rfl⟩ (fun x ih59 H locs ls hI => ?_)
      obtain ⟨x58, rfl⟩ : ∃ z, z = x := ⟨_, rfl⟩
      obtain ⟨h_x58, ⟨hP, hD⟩, hS, hl⟩ := hI
      change (0 ≤ x58.toInt ∧ x58.toInt ≤ 12) at h_x58
      obtain ⟨hP, hD⟩ : ct_B D A H [(qm_round, .inl (cI, 120, .inl (fm_round))), (qm_meets, .inl (cI, 30, .inl (fm_meets))), (qm_lines, .inl (cI, 5, .inl (fm_lines))), mo qm 0 qm_width qm_many qm_cells qm_moved qm_tape vm_taped vm_at vm_token vm_place vm_value vm_word vm_bad vm_badPlace vm_fault vm_faultPlace qm_lines qm_has qm_round qm_meets qm_stumble qm_isMud qm_cell qm_tune qm_change qm_isKept qm_steps qm_places qm_danced vm_runMost vm_runBegins qm_heardBy vm_fitMany vm_fitFirst vm_fitBeats vm_listenLeaves qm_there vm_metAt vm_metIn qm_wins vm_nightHoles vm_nightFirst vm_nightMud vm_nightSlips vm_drawnNow, (qm_has, .inl (cI, 55, .inl (fm_has)))] := ⟨hP, hD⟩
      have hl : lv_has ls 2 [(1, .int x58), (0, .ref qm)] := hl
      refine lv_iload_n hx hb dX12_shift_24 rfl (lv_at hl 0 rfl) ?_
      refine lv_aload_n hx hb dX12_shift_25 rfl (lv_at hl 1 rfl) ?_
      refine lv_iconst (v := 1) hx hb dX12_shift_26 (by decide) ?_
      refine ct_calli (D := D) (wr := [(qm_round, .inl (cI, 120, .inl (fm_round))), (qm_meets, .inl (cI, 30, .inl (fm_meets))), (qm_lines, .inl (cI, 5, .inl (fm_lines)))]) (va_runV (As := [.int 1]) (rest := [.int x58]) ⟨hx, hb, hml, hown, hts⟩ (c_X12_lengthOfP l D G cI cJ cB cZ cO qm 0 qm_width qm_many qm_cells qm_moved qm_tape vm_taped vm_at vm_token vm_place vm_value vm_word vm_bad vm_badPlace vm_fault vm_faultPlace qm_lines qm_has fm_has qm_round qm_meets qm_stumble qm_isMud qm_cell qm_tune qm_change qm_isKept qm_steps qm_places qm_danced vm_runMost vm_runBegins qm_heardBy vm_fitMany vm_fitFirst vm_fitBeats vm_listenLeaves qm_there vm_metAt vm_metIn qm_wins vm_nightHoles vm_nightFirst vm_nightMud vm_nightSlips vm_drawnNow 1 h_vm_taped h_vm_at h_vm_value h_fm_has (by decide) hz_3 H.size) (cwV 1 hts gX12_shift_X12_lengthOf rfl rfl rfl (by decide +kernel) ⟨Nat.le_of_ble_eq_true rfl, Nat.le_of_ble_eq_true rfl⟩) (ct_preV (T := ct_T cI cJ cB cZ cO) (ci := 12) (q0 := 3) hE hH hP hD hS hA [3, 4] (by decide) rfl rfl rfl) rfl rfl hl.1 rfl (lv_room (Nat.le_of_ble_eq_true rfl)) dX12_shift_27 ⟨Nat.le_of_ble_eq_true rfl, Nat.le_of_ble_eq_true rfl⟩) hP hD hS hA [3, 4] [0, 1, 2] rfl rfl (by decide) (by decide) (fun r60 u H locs hw hP hD hS => ?_)
      obtain ⟨hP, hD⟩ : ct_B D A H [(qm_round, .inl (cI, 120, .inl (fm_round))), (qm_meets, .inl (cI, 30, .inl (fm_meets))), (qm_lines, .inl (cI, 5, .inl (fm_lines))), mo qm 0 qm_width qm_many qm_cells qm_moved qm_tape vm_taped vm_at vm_token vm_place vm_value vm_word vm_bad vm_badPlace vm_fault vm_faultPlace qm_lines qm_has qm_round qm_meets qm_stumble qm_isMud qm_cell qm_tune qm_change qm_isKept qm_steps qm_places qm_danced vm_runMost vm_runBegins qm_heardBy vm_fitMany vm_fitFirst vm_fitBeats vm_listenLeaves qm_there vm_metAt vm_metIn qm_wins vm_nightHoles vm_nightFirst vm_nightMud vm_nightSlips vm_drawnNow, (qm_has, .inl (cI, 55, .inl (fm_has)))] := ⟨hP, hD⟩
      have hz := hw
      clear hw
      have h_r60 : 1 ≤ r60.toInt ∧ r60.toInt ≤ 12 := hz
      clear hz
      refine lv_icmp_ge (tgt := 49) hx hb dX12_shift_30 (by decide) (fun hc => ?_) (fun hc => ?_)
      · have hq61 : r60.toInt ≤ x58.toInt := tq_le rfl rfl hc
        refine lv_iconst (v := (-1)) hx hb dX12_shift_49 (by decide) ?_
        obtain ⟨hP9, hD9⟩ : ct_B D A H [mo qm 0 qm_width qm_many qm_cells qm_moved qm_tape vm_taped vm_at vm_token vm_place vm_value vm_word vm_bad vm_badPlace vm_fault vm_faultPlace qm_lines qm_has qm_round qm_meets qm_stumble qm_isMud qm_cell qm_tune qm_change qm_isKept qm_steps qm_places qm_danced vm_runMost vm_runBegins qm_heardBy vm_fitMany vm_fitFirst vm_fitBeats vm_listenLeaves qm_there vm_metAt vm_metIn qm_wins vm_nightHoles vm_nightFirst vm_nightMud vm_nightSlips vm_drawnNow, (qm_lines, .inl (cI, 5, .inl (fm_lines))), (qm_has, .inl (cI, 55, .inl (fm_has))), (qm_round, .inl (cI, 120, .inl (fm_round))), (qm_meets, .inl (cI, 30, .inl (fm_meets)))] := ⟨hP.sub [3, 2, 4, 0, 1] rfl, hD.sub [3, 2, 4, 0, 1] (by decide) rfl⟩
        exact W.iret (v := (-1)) hx hb hr (fun t ht hW => ⟨⟨(-1), (0 : Int32), rfl, (show (-2) ≤ (-1 : Int32).toInt ∧ (-1 : Int32).toInt ≤ 11 by decide), by rw [ht]; exact hP9, hD9⟩, hS.F ht⟩) hS.2.2 dX12_shift_50
      · have hq61 : x58.toInt < r60.toInt := tq_nle rfl rfl hc
        refine lv_aload_n hx hb dX12_shift_33 rfl (lv_at hl 1 rfl) ?_
        refine lv_iload_n hx hb dX12_shift_34 rfl (lv_at hl 0 rfl) ?_
        refine ct_calli (D := D) (wr := [(qm_lines, .inl (cI, 5, .inl (fm_lines)))]) (va_runV (As := [.int x58]) (rest := []) ⟨hx, hb, hml, hown, hts⟩ (c_X12_shiftedOf l D G cI cJ cB cZ cO qm 0 qm_width qm_many qm_cells qm_moved qm_tape vm_taped vm_at vm_token vm_place vm_value vm_word vm_bad vm_badPlace vm_fault vm_faultPlace qm_lines qm_has fm_has qm_round fm_round qm_meets fm_meets qm_stumble qm_isMud qm_cell qm_tune qm_change qm_isKept qm_steps qm_places qm_danced vm_runMost vm_runBegins qm_heardBy vm_fitMany vm_fitFirst vm_fitBeats vm_listenLeaves qm_there vm_metAt vm_metIn qm_wins vm_nightHoles vm_nightFirst vm_nightMud vm_nightSlips vm_drawnNow x58 h_vm_taped h_vm_at h_vm_value h_fm_has h_fm_round h_x58 hz_3 H.size) (cwV 1 hts gX12_shift_X12_shiftedOf rfl rfl rfl (by decide +kernel) ⟨Nat.le_of_ble_eq_true rfl, Nat.le_of_ble_eq_true rfl⟩) (ct_preV (T := ct_T cI cJ cB cZ cO) (ci := 12) (q0 := 3) hE hH hP hD hS hA [3, 4, 0, 1] (by decide) rfl rfl rfl) rfl rfl hl.1 rfl (lv_room (Nat.le_of_ble_eq_true rfl)) dX12_shift_35 ⟨Nat.le_of_ble_eq_true rfl, Nat.le_of_ble_eq_true rfl⟩) hP hD hS hA [3, 4, 0, 1] [2] rfl rfl (by decide) (by decide) (fun r62 u H locs hw hP hD hS => ?_)
        obtain ⟨hP, hD⟩ : ct_B D A H [(qm_lines, .inl (cI, 5, .inl (fm_lines))), mo qm 0 qm_width qm_many qm_cells qm_moved qm_tape vm_taped vm_at vm_token vm_place vm_value vm_word vm_bad vm_badPlace vm_fault vm_faultPlace qm_lines qm_has qm_round qm_meets qm_stumble qm_isMud qm_cell qm_tune qm_change qm_isKept qm_steps qm_places qm_danced vm_runMost vm_runBegins qm_heardBy vm_fitMany vm_fitFirst vm_fitBeats vm_listenLeaves qm_there vm_metAt vm_metIn qm_wins vm_nightHoles vm_nightFirst vm_nightMud vm_nightSlips vm_drawnNow, (qm_has, .inl (cI, 55, .inl (fm_has))), (qm_round, .inl (cI, 120, .inl (fm_round))), (qm_meets, .inl (cI, 30, .inl (fm_meets)))] := ⟨hP, hD⟩
        refine lv_if_ne (tgt := 43) hx hb dX12_shift_38 (by decide) (fun hc => ?_) (fun hc => ?_)
        · have hq63 : r62.toInt ≠ 0 := tq_ne rfl (by decide) hc
          have hb64 := tq_lo r62
          obtain ⟨z65, ez65⟩ : ∃ z : Int32, z = x58 + 1 := ⟨_, rfl⟩
          have fz65 : z65.toInt = x58.toInt + 1 := by rw [ez65]; exact tq_add rfl (by decide) (by omega)
          refine lv_iinc (v := z65) (lv' := [(1, .int z65), (0, .ref qm)]) hx hb dX12_shift_43 hl (k := 0) rfl ez65.symm (by decide) rfl (fun ls hl => ?_)
          refine lv_goto (tgt := 24) hx hb dX12_shift_46 (by decide) ?_
          obtain ⟨hP9, hD9⟩ : ct_B D A H [(qm_round, .inl (cI, 120, .inl (fm_round))), (qm_meets, .inl (cI, 30, .inl (fm_meets))), (qm_lines, .inl (cI, 5, .inl (fm_lines))), mo qm 0 qm_width qm_many qm_cells qm_moved qm_tape vm_taped vm_at vm_token vm_place vm_value vm_word vm_bad vm_badPlace vm_fault vm_faultPlace qm_lines qm_has qm_round qm_meets qm_stumble qm_isMud qm_cell qm_tune qm_change qm_isKept qm_steps qm_places qm_danced vm_runMost vm_runBegins qm_heardBy vm_fitMany vm_fitFirst vm_fitBeats vm_listenLeaves qm_there vm_metAt vm_metIn qm_wins vm_nightHoles vm_nightFirst vm_nightMud vm_nightSlips vm_drawnNow, (qm_has, .inl (cI, 55, .inl (fm_has)))] := ⟨hP.sub [3, 4, 0, 1, 2] rfl, hD.sub [3, 4, 0, 1, 2] (by decide) rfl⟩
          exact ih59 z65 _ _ _ (show (12 - z65.toInt).toNat < (12 - x58.toInt).toNat by omega) ⟨(show 0 ≤ z65.toInt ∧ z65.toInt ≤ 12 by omega), ⟨hP9, hD9⟩, hS, lv_sub hl [0, 1] rfl⟩
        · have hq63 : r62.toInt = 0 := tq_eq rfl (by decide) hc
          have hb66 := tq_lo r62
          refine lv_iload_n hx hb dX12_shift_41 rfl (lv_at hl 0 rfl) ?_
          obtain ⟨hP9, hD9⟩ : ct_B D A H [mo qm 0 qm_width qm_many qm_cells qm_moved qm_tape vm_taped vm_at vm_token vm_place vm_value vm_word vm_bad vm_badPlace vm_fault vm_faultPlace qm_lines qm_has qm_round qm_meets qm_stumble qm_isMud qm_cell qm_tune qm_change qm_isKept qm_steps qm_places qm_danced vm_runMost vm_runBegins qm_heardBy vm_fitMany vm_fitFirst vm_fitBeats vm_listenLeaves qm_there vm_metAt vm_metIn qm_wins vm_nightHoles vm_nightFirst vm_nightMud vm_nightSlips vm_drawnNow, (qm_lines, .inl (cI, 5, .inl (fm_lines))), (qm_has, .inl (cI, 55, .inl (fm_has))), (qm_round, .inl (cI, 120, .inl (fm_round))), (qm_meets, .inl (cI, 30, .inl (fm_meets)))] := ⟨hP.sub [1, 0, 2, 3, 4] rfl, hD.sub [1, 0, 2, 3, 4] (by decide) rfl⟩
          exact W.iret (v := x58) hx hb hr (fun t ht hW => ⟨⟨x58, (0 : Int32), rfl, (show (-2) ≤ x58.toInt ∧ x58.toInt ≤ 11 by omega), by rw [ht]; exact hP9, hD9⟩, hS.F ht⟩) hS.2.2 dX12_shift_42
    · subst hz
      refine lv_if_ne (tgt := 22) hx hb dX12_shift_16 (by decide) (fun hc => absurd hc (by decide)) (fun _ => ?_)
      refine lv_bipush (v := (-2)) hx hb dX12_shift_19 (by decide) ?_
      obtain ⟨hP9, hD9⟩ : ct_B D A H [mo qm 0 qm_width qm_many qm_cells qm_moved qm_tape vm_taped vm_at vm_token vm_place vm_value vm_word vm_bad vm_badPlace vm_fault vm_faultPlace qm_lines qm_has qm_round qm_meets qm_stumble qm_isMud qm_cell qm_tune qm_change qm_isKept qm_steps qm_places qm_danced vm_runMost vm_runBegins qm_heardBy vm_fitMany vm_fitFirst vm_fitBeats vm_listenLeaves qm_there vm_metAt vm_metIn qm_wins vm_nightHoles vm_nightFirst vm_nightMud vm_nightSlips vm_drawnNow, (qm_lines, .inl (cI, 5, .inl (fm_lines))), (qm_has, .inl (cI, 55, .inl (fm_has))), (qm_round, .inl (cI, 120, .inl (fm_round))), (qm_meets, .inl (cI, 30, .inl (fm_meets)))] := ⟨hP.sub [3, 2, 4, 0, 1] rfl, hD.sub [3, 2, 4, 0, 1] (by decide) rfl⟩
      exact W.iret (v := (-2)) hx hb hr (fun t ht hW => ⟨⟨(-2), (0 : Int32), rfl, (show (-2) ≤ (-2 : Int32).toInt ∧ (-2 : Int32).toInt ≤ 11 by decide), by rw [ht]; exact hP9, hD9⟩, hS.F ht⟩) hS.2.2 dX12_shift_21
  · subst hz
    refine lv_if_eq (tgt := 19) hx hb dX12_shift_9 (by decide) (fun _ => ?_) (fun hc => absurd hc (by decide))
    refine lv_bipush (v := (-2)) hx hb dX12_shift_19 (by decide) ?_
    obtain ⟨hP9, hD9⟩ : ct_B D A H [mo qm 0 qm_width qm_many qm_cells qm_moved qm_tape vm_taped vm_at vm_token vm_place vm_value vm_word vm_bad vm_badPlace vm_fault vm_faultPlace qm_lines qm_has qm_round qm_meets qm_stumble qm_isMud qm_cell qm_tune qm_change qm_isKept qm_steps qm_places qm_danced vm_runMost vm_runBegins qm_heardBy vm_fitMany vm_fitFirst vm_fitBeats vm_listenLeaves qm_there vm_metAt vm_metIn qm_wins vm_nightHoles vm_nightFirst vm_nightMud vm_nightSlips vm_drawnNow, (qm_lines, .inl (cI, 5, .inl (fm_lines))), (qm_has, .inl (cI, 55, .inl (fm_has))), (qm_round, .inl (cI, 120, .inl (fm_round))), (qm_meets, .inl (cI, 30, .inl (fm_meets)))] := ⟨hP.sub [3, 4, 0, 1, 2] rfl, hD.sub [3, 4, 0, 1, 2] (by decide) rfl⟩
    exact W.iret (v := (-2)) hx hb hr (fun t ht hW => ⟨⟨(-2), (0 : Int32), rfl, (show (-2) ≤ (-2 : Int32).toInt ∧ (-2 : Int32).toInt ≤ 11 by decide), by rw [ht]; exact hP9, hD9⟩, hS.F ht⟩) hS.2.2 dX12_shift_21
abbrev w_c_X12_least (cI cJ cB cZ cO : ClassId) (qm : Nat) (vm_thrown : Int32) (qm_width : Nat) (qm_many : Nat) (qm_cells : Nat) (qm_moved : Nat) (qm_tape : Nat) (vm_taped : Int32) (vm_at : Int32) (vm_token : Int32) (vm_place : Int32) (vm_value : Int32) (vm_word : Int64) (vm_bad : Int32) (vm_badPlace : Int32) (vm_fault : Int32) (vm_faultPlace : Int32) (qm_lines : Nat) (fm_lines : Nat → Int32) (qm_has : Nat) (fm_has : Nat → Int32) (qm_round : Nat) (fm_round : Nat → Int32) (qm_meets : Nat) (fm_meets : Nat → Int32) (qm_stumble : Nat) (qm_isMud : Nat) (qm_cell : Nat) (qm_tune : Nat) (qm_change : Nat) (qm_isKept : Nat) (qm_steps : Nat) (qm_places : Nat) (qm_danced : Nat) (vm_runMost : Int32) (vm_runBegins : Int32) (qm_heardBy : Nat) (vm_fitMany : Int32) (vm_fitFirst : Int32) (vm_fitBeats : Int64) (vm_listenLeaves : Int32) (qm_there : Nat) (vm_metAt : Int32) (vm_metIn : Int32) (qm_wins : Nat) (vm_nightHoles : Int32) (vm_nightFirst : Int32) (vm_nightMud : Int32) (vm_nightSlips : Int32) (vm_drawnNow : Int64) : va_W := [mo qm vm_thrown qm_width qm_many qm_cells qm_moved qm_tape vm_taped vm_at vm_token vm_place vm_value vm_word vm_bad vm_badPlace vm_fault vm_faultPlace qm_lines qm_has qm_round qm_meets qm_stumble qm_isMud qm_cell qm_tune qm_change qm_isKept qm_steps qm_places qm_danced vm_runMost vm_runBegins qm_heardBy vm_fitMany vm_fitFirst vm_fitBeats vm_listenLeaves qm_there vm_metAt vm_metIn qm_wins vm_nightHoles vm_nightFirst vm_nightMud vm_nightSlips vm_drawnNow, (qm_lines, .inl (cI, 5, .inl (fm_lines))), (qm_has, .inl (cI, 55, .inl (fm_has))), (qm_round, .inl (cI, 120, .inl (fm_round))), (qm_meets, .inl (cI, 30, .inl (fm_meets)))]
set_option maxHeartbeats 4000000 in
set_option maxRecDepth 100000 in
/-- X12 least -/
theorem c_X12_least (l : Launch) (D : va_G) (G : ct_G) (cI cJ cB cZ cO : ClassId) (qm : Nat) (vm_thrown : Int32) (qm_width : Nat) (qm_many : Nat) (qm_cells : Nat) (qm_moved : Nat) (qm_tape : Nat) (vm_taped : Int32) (vm_at : Int32) (vm_token : Int32) (vm_place : Int32) (vm_value : Int32) (vm_word : Int64) (vm_bad : Int32) (vm_badPlace : Int32) (vm_fault : Int32) (vm_faultPlace : Int32) (qm_lines : Nat) (fm_lines : Nat → Int32) (qm_has : Nat) (fm_has : Nat → Int32) (qm_round : Nat) (fm_round : Nat → Int32) (qm_meets : Nat) (fm_meets : Nat → Int32) (qm_stumble : Nat) (qm_isMud : Nat) (qm_cell : Nat) (qm_tune : Nat) (qm_change : Nat) (qm_isKept : Nat) (qm_steps : Nat) (qm_places : Nat) (qm_danced : Nat) (vm_runMost : Int32) (vm_runBegins : Int32) (qm_heardBy : Nat) (vm_fitMany : Int32) (vm_fitFirst : Int32) (vm_fitBeats : Int64) (vm_listenLeaves : Int32) (qm_there : Nat) (vm_metAt : Int32) (vm_metIn : Int32) (qm_wins : Nat) (vm_nightHoles : Int32) (vm_nightFirst : Int32) (vm_nightMud : Int32) (vm_nightSlips : Int32) (vm_drawnNow : Int64) (h_vm_taped : 0 ≤ vm_taped.toInt ∧ vm_taped.toInt ≤ 1200) (h_vm_at : 0 ≤ vm_at.toInt ∧ vm_at.toInt ≤ 1200) (h_vm_value : 0 ≤ vm_value.toInt ∧ vm_value.toInt ≤ 1000009) (h_fm_has : ar_ok [0, (-2147483648), (-2147483648), 0, 0, 0, 0, 0, 0, 0, 0] [20, 2147483647, 2147483647, 12, 12, 11, 11, 8, 12, 5, 40] fm_has) (h_fm_round : ar_ok [0] [5] fm_round) (sz : Nat) : Met l yX12_least wsX12_least ({ frames := 15, cells := 0, slots := 0, locals := 317 }) (va_Pc [.ref qm] (ct_P D (ct_T cI cJ cB cZ cO) G (w_c_X12_least cI cJ cB cZ cO qm vm_thrown qm_width qm_many qm_cells qm_moved qm_tape vm_taped vm_at vm_token vm_place vm_value vm_word vm_bad vm_badPlace vm_fault vm_faultPlace qm_lines fm_lines qm_has fm_has qm_round fm_round qm_meets fm_meets qm_stumble qm_isMud qm_cell qm_tune qm_change qm_isKept qm_steps qm_places qm_danced vm_runMost vm_runBegins qm_heardBy vm_fitMany vm_fitFirst vm_fitBeats vm_listenLeaves qm_there vm_metAt vm_metIn qm_wins vm_nightHoles vm_nightFirst vm_nightMud vm_nightSlips vm_drawnNow) sz)) (va_Qi (fun (rz : Int32) (u : Int32) => ((-2) ≤ rz.toInt ∧ rz.toInt ≤ 11)) (fun (u : Int32) t => ct_Q D (va_A (w_c_X12_least cI cJ cB cZ cO qm vm_thrown qm_width qm_many qm_cells qm_moved qm_tape vm_taped vm_at vm_token vm_place vm_value vm_word vm_bad vm_badPlace vm_fault vm_faultPlace qm_lines fm_lines qm_has fm_has qm_round fm_round qm_meets fm_meets qm_stumble qm_isMud qm_cell qm_tune qm_change qm_isKept qm_steps qm_places qm_danced vm_runMost vm_runBegins qm_heardBy vm_fitMany vm_fitFirst vm_fitBeats vm_listenLeaves qm_there vm_metAt vm_metIn qm_wins vm_nightHoles vm_nightFirst vm_nightMud vm_nightSlips vm_drawnNow) sz) [mo qm u qm_width qm_many qm_cells qm_moved qm_tape vm_taped vm_at vm_token vm_place vm_value vm_word vm_bad vm_badPlace vm_fault vm_faultPlace qm_lines qm_has qm_round qm_meets qm_stumble qm_isMud qm_cell qm_tune qm_change qm_isKept qm_steps qm_places qm_danced vm_runMost vm_runBegins qm_heardBy vm_fitMany vm_fitFirst vm_fitBeats vm_listenLeaves qm_there vm_metAt vm_metIn qm_wins vm_nightHoles vm_nightFirst vm_nightMud vm_nightSlips vm_drawnNow, (qm_lines, .inl (cI, 5, .inl (fm_lines))), (qm_has, .inl (cI, 55, .inl (fm_has))), (qm_round, .inl (cI, 120, .inl (fm_round))), (qm_meets, .inl (cI, 30, .inl (fm_meets)))] t) (va_A (w_c_X12_least cI cJ cB cZ cO qm vm_thrown qm_width qm_many qm_cells qm_moved qm_tape vm_taped vm_at vm_token vm_place vm_value vm_word vm_bad vm_badPlace vm_fault vm_faultPlace qm_lines fm_lines qm_has fm_has qm_round fm_round qm_meets fm_meets qm_stumble qm_isMud qm_cell qm_tune qm_change qm_isKept qm_steps qm_places qm_danced vm_runMost vm_runBegins qm_heardBy vm_fitMany vm_fitFirst vm_fitBeats vm_listenLeaves qm_there vm_metAt vm_metIn qm_wins vm_nightHoles vm_nightFirst vm_nightMud vm_nightSlips vm_drawnNow) sz)) 0 0 (va_A (w_c_X12_least cI cJ cB cZ cO qm vm_thrown qm_width qm_many qm_cells qm_moved qm_tape vm_taped vm_at vm_token vm_place vm_value vm_word vm_bad vm_badPlace vm_fault vm_faultPlace qm_lines fm_lines qm_has fm_has qm_round fm_round qm_meets fm_meets qm_stumble qm_isMud qm_cell qm_tune qm_change qm_isKept qm_steps qm_places qm_danced vm_runMost vm_runBegins qm_heardBy vm_fitMany vm_fitFirst vm_fitBeats vm_listenLeaves qm_there vm_metAt vm_metIn qm_wins vm_nightHoles vm_nightFirst vm_nightMud vm_nightSlips vm_drawnNow) sz) := by
  refine Met.ofW (cc := cX12_least) (maxL := 3) (ret := (some .int)) (by decide) rfl ?_
  intro p e s m args below meth c s₁ B hml hv
  obtain ⟨rfl, hsz, hP, hE, hD0, hH⟩ := hv
  have hx := B.exec
  have hb := B.bytes
  have hr := B.returns
  have hts := atoms_spec (ws := wsX12_least) B.pre
  have hown : s.vm.findClass RX12 = some m.cls := findClass_of_methodNamed B.named
  have hlocks := B.notSynchronized
  have hK := hE.1
  have hi12 : ∀ w ∈ u_ws RX12 TX12 45, w ∈ wsX12_least := fun w h => List.mem_cons_of_mem _ (List.mem_append_right _ h)
  subst hsz
  have hD := hD0.self (sz := s.heap.size)
  generalize hAe : va_A (w_c_X12_least cI cJ cB cZ cO qm vm_thrown qm_width qm_many qm_cells qm_moved qm_tape vm_taped vm_at vm_token vm_place vm_value vm_word vm_bad vm_badPlace vm_fault vm_faultPlace qm_lines fm_lines qm_has fm_has qm_round fm_round qm_meets fm_meets qm_stumble qm_isMud qm_cell qm_tune qm_change qm_isKept qm_steps qm_places qm_danced vm_runMost vm_runBegins qm_heardBy vm_fitMany vm_fitFirst vm_fitBeats vm_listenLeaves qm_there vm_metAt vm_metIn qm_wins vm_nightHoles vm_nightFirst vm_nightMud vm_nightSlips vm_drawnNow) s.heap.size = A at hD hH ⊢
  have hA : ∀ q : Nat, s.heap.size ≤ q → A q := fun q h => by rw [← hAe]; exact Or.inr h
  have hS : va_S A s.heap s.heap [] := va_S.rf
  obtain ⟨hP, hD⟩ : ct_B D A s.heap [mo qm vm_thrown qm_width qm_many qm_cells qm_moved qm_tape vm_taped vm_at vm_token vm_place vm_value vm_word vm_bad vm_badPlace vm_fault vm_faultPlace qm_lines qm_has qm_round qm_meets qm_stumble qm_isMud qm_cell qm_tune qm_change qm_isKept qm_steps qm_places qm_danced vm_runMost vm_runBegins qm_heardBy vm_fitMany vm_fitFirst vm_fitBeats vm_listenLeaves qm_there vm_metAt vm_metIn qm_wins vm_nightHoles vm_nightFirst vm_nightMud vm_nightSlips vm_drawnNow, (qm_lines, .inl (cI, 5, .inl (fm_lines))), (qm_has, .inl (cI, 55, .inl (fm_has))), (qm_round, .inl (cI, 120, .inl (fm_round))), (qm_meets, .inl (cI, 30, .inl (fm_meets)))] := ⟨hP, hD⟩
  have hl := lv_entry ([.ref qm]) (n := 3) (Nat.le_of_ble_eq_true rfl)
  rw [lg_entry_eq]
  generalize (lg_sl ([.ref qm]) ++ List.replicate (3 - (lg_sl ([.ref qm])).length) Slot.unset).toArray = ls at hl ⊢
  have hl : lv_has ls 3 [(0, .ref qm)] := hl
  obtain ⟨H, hHe⟩ : ∃ H : Heap, H = s.heap := ⟨_, rfl⟩
  rw [← hHe] at hP
  have hS : va_S A s.heap H [] := by rw [hHe]; exact va_S.rf
  refine ct_start hHe ?_
  refine lv_aload_n hx hb dX12_least_0 rfl (lv_at hl 0 rfl) ?_
  refine lv_iconst (v := 0) hx hb dX12_least_1 (by decide) ?_
  refine va_put (D := D) (ci := 12) (v := .int 0) (ty := .int) (C := RX12) (T := TX12) (N := 45) hx hb hts hi12 tyX12 tyX12_ok nmX12 hown hK hP hD hS 0 rfl rfl 0 (by decide) (hts (.fieldLink RX12 80 "OverHillModel" "thrown" "I") (by decide +kernel)) (fun _ h9 => h9) rfl (by decide +kernel) rfl rfl (Nat.le_of_ble_eq_true rfl) dX12_least_2 (fun H locs hP hD hS => ?_)
  obtain ⟨hP, hD⟩ : ct_B D A H [mo qm 0 qm_width qm_many qm_cells qm_moved qm_tape vm_taped vm_at vm_token vm_place vm_value vm_word vm_bad vm_badPlace vm_fault vm_faultPlace qm_lines qm_has qm_round qm_meets qm_stumble qm_isMud qm_cell qm_tune qm_change qm_isKept qm_steps qm_places qm_danced vm_runMost vm_runBegins qm_heardBy vm_fitMany vm_fitFirst vm_fitBeats vm_listenLeaves qm_there vm_metAt vm_metIn qm_wins vm_nightHoles vm_nightFirst vm_nightMud vm_nightSlips vm_drawnNow, (qm_lines, .inl (cI, 5, .inl (fm_lines))), (qm_has, .inl (cI, 55, .inl (fm_has))), (qm_round, .inl (cI, 120, .inl (fm_round))), (qm_meets, .inl (cI, 30, .inl (fm_meets)))] := ⟨hP, hD⟩
  refine lv_aload_n hx hb dX12_least_5 rfl (lv_at hl 0 rfl) ?_
  refine ct_calli (D := D) (wr := [(qm_has, .inl (cI, 55, .inl (fm_has))), (qm_round, .inl (cI, 120, .inl (fm_round))), (qm_meets, .inl (cI, 30, .inl (fm_meets)))]) (va_runV (As := []) (rest := []) ⟨hx, hb, hml, hown, hts⟩ (c_X12_isDance l D G cI cJ cB cZ cO qm 0 qm_width qm_many qm_cells qm_moved qm_tape vm_taped vm_at vm_token vm_place vm_value vm_word vm_bad vm_badPlace vm_fault vm_faultPlace qm_lines fm_lines qm_has qm_round qm_meets qm_stumble qm_isMud qm_cell qm_tune qm_change qm_isKept qm_steps qm_places qm_danced vm_runMost vm_runBegins qm_heardBy vm_fitMany vm_fitFirst vm_fitBeats vm_listenLeaves qm_there vm_metAt vm_metIn qm_wins vm_nightHoles vm_nightFirst vm_nightMud vm_nightSlips vm_drawnNow h_vm_taped h_vm_at h_vm_value H.size) (cwV 0 hts gX12_least_X12_isDance rfl rfl rfl (by decide +kernel) ⟨Nat.le_of_ble_eq_true rfl, Nat.le_of_ble_eq_true rfl⟩) (ct_preV (T := ct_T cI cJ cB cZ cO) (ci := 12) (q0 := 0) hE hH hP hD hS hA [0, 1] (by decide) rfl rfl rfl) rfl rfl hl.1 rfl (lv_room (Nat.le_of_ble_eq_true rfl)) dX12_least_6 ⟨Nat.le_of_ble_eq_true rfl, Nat.le_of_ble_eq_true rfl⟩) hP hD hS hA [0, 1] [2, 3, 4] rfl rfl (by decide) (by decide) (fun r1 u H locs hw hP hD hS => ?_)
  obtain ⟨hP, hD⟩ : ct_B D A H [(qm_has, .inl (cI, 55, .inl (fm_has))), (qm_round, .inl (cI, 120, .inl (fm_round))), (qm_meets, .inl (cI, 30, .inl (fm_meets))), mo qm 0 qm_width qm_many qm_cells qm_moved qm_tape vm_taped vm_at vm_token vm_place vm_value vm_word vm_bad vm_badPlace vm_fault vm_faultPlace qm_lines qm_has qm_round qm_meets qm_stumble qm_isMud qm_cell qm_tune qm_change qm_isKept qm_steps qm_places qm_danced vm_runMost vm_runBegins qm_heardBy vm_fitMany vm_fitFirst vm_fitBeats vm_listenLeaves qm_there vm_metAt vm_metIn qm_wins vm_nightHoles vm_nightFirst vm_nightMud vm_nightSlips vm_drawnNow, (qm_lines, .inl (cI, 5, .inl (fm_lines)))] := ⟨hP, hD⟩
  have hz := hw
  clear hw
  rcases hz with ⟨hz, hz2⟩ | ⟨hz, hz2⟩
  · subst hz
    refine lv_if_eq (tgt := 19) hx hb dX12_least_9 (by decide) (fun hc => absurd hc (by decide)) (fun _ => ?_)
    refine lv_aload_n hx hb dX12_least_12 rfl (lv_at hl 0 rfl) ?_
    refine ct_calli (D := D) (wr := [(qm_round, .inl (cI, 120, .inl (fm_round))), (qm_meets, .inl (cI, 30, .inl (fm_meets))), (qm_lines, .inl (cI, 5, .inl (fm_lines)))]) (va_runV (As := []) (rest := []) ⟨hx, hb, hml, hown, hts⟩ (c_X12_areRounds l D G cI cJ cB cZ cO qm 0 qm_width qm_many qm_cells qm_moved qm_tape vm_taped vm_at vm_token vm_place vm_value vm_word vm_bad vm_badPlace vm_fault vm_faultPlace qm_lines qm_has fm_has qm_round qm_meets qm_stumble qm_isMud qm_cell qm_tune qm_change qm_isKept qm_steps qm_places qm_danced vm_runMost vm_runBegins qm_heardBy vm_fitMany vm_fitFirst vm_fitBeats vm_listenLeaves qm_there vm_metAt vm_metIn qm_wins vm_nightHoles vm_nightFirst vm_nightMud vm_nightSlips vm_drawnNow h_vm_taped h_vm_at h_vm_value h_fm_has H.size) (cwV 0 hts gX12_least_X12_areRounds rfl rfl rfl (by decide +kernel) ⟨Nat.le_of_ble_eq_true rfl, Nat.le_of_ble_eq_true rfl⟩) (ct_preV (T := ct_T cI cJ cB cZ cO) (ci := 12) (q0 := 3) hE hH hP hD hS hA [3, 0] (by decide) rfl rfl rfl) rfl rfl hl.1 rfl (lv_room (Nat.le_of_ble_eq_true rfl)) dX12_least_13 ⟨Nat.le_of_ble_eq_true rfl, Nat.le_of_ble_eq_true rfl⟩) hP hD hS hA [3, 0] [1, 2, 4] rfl rfl (by decide) (by decide) (fun r2 u H locs hw hP hD hS => ?_)
    obtain ⟨hP, hD⟩ : ct_B D A H [(qm_round, .inl (cI, 120, .inl (fm_round))), (qm_meets, .inl (cI, 30, .inl (fm_meets))), (qm_lines, .inl (cI, 5, .inl (fm_lines))), mo qm 0 qm_width qm_many qm_cells qm_moved qm_tape vm_taped vm_at vm_token vm_place vm_value vm_word vm_bad vm_badPlace vm_fault vm_faultPlace qm_lines qm_has qm_round qm_meets qm_stumble qm_isMud qm_cell qm_tune qm_change qm_isKept qm_steps qm_places qm_danced vm_runMost vm_runBegins qm_heardBy vm_fitMany vm_fitFirst vm_fitBeats vm_listenLeaves qm_there vm_metAt vm_metIn qm_wins vm_nightHoles vm_nightFirst vm_nightMud vm_nightSlips vm_drawnNow, (qm_has, .inl (cI, 55, .inl (fm_has)))] := ⟨hP, hD⟩
    have hz := hw
    clear hw
    rcases hz with ⟨hz, hz2⟩ | ⟨hz, hz2⟩
    · subst hz
      have hz_3 : 1 ≤ (fm_has 3).toInt ∧ 1 ≤ (fm_has 4).toInt := hz2
      refine lv_if_ne (tgt := 22) hx hb dX12_least_16 (by decide) (fun _ => ?_) (fun hc => absurd hc (by decide))
      refine lv_iconst (v := 0) hx hb dX12_least_22 (by decide) ?_
      refine lv_istore_n (lv' := [(1, .int 0), (0, .ref qm)]) hx hb dX12_least_23 rfl hl (by decide) rfl (fun ls hl => ?_)
      refine lv_iconst (v := 1) hx hb dX12_least_24 (by decide) ?_
      refine lv_istore_n (lv' := [(2, .int 1), (1, .int 0), (0, .ref qm)]) hx hb dX12_least_25 rfl hl (by decide) rfl (fun ls hl => ?_)
      refine ct_loop (X := Int32 × Int32) (fun x => (12 - x.2.toInt).toNat) (fun x H locs ls => ((0 ≤ x.1.toInt ∧ x.1.toInt ≤ 11)) ∧ ((1 ≤ x.2.toInt ∧ x.2.toInt ≤ 12)) ∧ ct_B D A H [(qm_round, .inl (cI, 120, .inl (fm_round))), (qm_meets, .inl (cI, 30, .inl (fm_meets))), (qm_lines, .inl (cI, 5, .inl (fm_lines))), mo qm 0 qm_width qm_many qm_cells qm_moved qm_tape vm_taped vm_at vm_token vm_place vm_value vm_word vm_bad vm_badPlace vm_fault vm_faultPlace qm_lines qm_has qm_round qm_meets qm_stumble qm_isMud qm_cell qm_tune qm_change qm_isKept qm_steps qm_places qm_danced vm_runMost vm_runBegins qm_heardBy vm_fitMany vm_fitFirst vm_fitBeats vm_listenLeaves qm_there vm_metAt vm_metIn qm_wins vm_nightHoles vm_nightFirst vm_nightMud vm_nightSlips vm_drawnNow, (qm_has, .inl (cI, 55, .inl (fm_has)))] ∧ va_S A s.heap H locs ∧ lv_has ls 3 [(2, .int x.2), (1, .int x.1), (0, .ref qm)]) 26 ((0 : Int32), (1 : Int32)) ⟨(show 0 ≤ (0 : Int32).toInt ∧ (0 : Int32).toInt ≤ 11 by decide), (show 1 ≤ (1 : Int32).toInt ∧ (1 : Int32).toInt ≤ 12 by decide), ⟨hP, hD⟩, hS, lv_sub hl [0, 1, 2] rfl⟩ (fun x ih119 H locs ls hI => ?_)
      obtain ⟨x117, x118⟩ := x
      obtain ⟨h_x117, h_x118, ⟨hP, hD⟩, hS, hl⟩ := hI
      change (0 ≤ x117.toInt ∧ x117.toInt ≤ 11) at h_x117
      change (1 ≤ x118.toInt ∧ x118.toInt ≤ 12) at h_x118
      obtain ⟨hP, hD⟩ : ct_B D A H [(qm_round, .inl (cI, 120, .inl (fm_round))), (qm_meets, .inl (cI, 30, .inl (fm_meets))), (qm_lines, .inl (cI, 5, .inl (fm_lines))), mo qm 0 qm_width qm_many qm_cells qm_moved qm_tape vm_taped vm_at vm_token vm_place vm_value vm_word vm_bad vm_badPlace vm_fault vm_faultPlace qm_lines qm_has qm_round qm_meets qm_stumble qm_isMud qm_cell qm_tune qm_change qm_isKept qm_steps qm_places qm_danced vm_runMost vm_runBegins qm_heardBy vm_fitMany vm_fitFirst vm_fitBeats vm_listenLeaves qm_there vm_metAt vm_metIn qm_wins vm_nightHoles vm_nightFirst vm_nightMud vm_nightSlips vm_drawnNow, (qm_has, .inl (cI, 55, .inl (fm_has)))] := ⟨hP, hD⟩
      have hl : lv_has ls 3 [(2, .int x118), (1, .int x117), (0, .ref qm)] := hl
      refine lv_iload_n hx hb dX12_least_26 rfl (lv_at hl 0 rfl) ?_
      refine lv_aload_n hx hb dX12_least_27 rfl (lv_at hl 2 rfl) ?_
      refine lv_iconst (v := 1) hx hb dX12_least_28 (by decide) ?_
      refine ct_calli (D := D) (wr := [(qm_round, .inl (cI, 120, .inl (fm_round))), (qm_meets, .inl (cI, 30, .inl (fm_meets))), (qm_lines, .inl (cI, 5, .inl (fm_lines)))]) (va_runV (As := [.int 1]) (rest := [.int x118]) ⟨hx, hb, hml, hown, hts⟩ (c_X12_lengthOfP l D G cI cJ cB cZ cO qm 0 qm_width qm_many qm_cells qm_moved qm_tape vm_taped vm_at vm_token vm_place vm_value vm_word vm_bad vm_badPlace vm_fault vm_faultPlace qm_lines qm_has fm_has qm_round qm_meets qm_stumble qm_isMud qm_cell qm_tune qm_change qm_isKept qm_steps qm_places qm_danced vm_runMost vm_runBegins qm_heardBy vm_fitMany vm_fitFirst vm_fitBeats vm_listenLeaves qm_there vm_metAt vm_metIn qm_wins vm_nightHoles vm_nightFirst vm_nightMud vm_nightSlips vm_drawnNow 1 h_vm_taped h_vm_at h_vm_value h_fm_has (by decide) hz_3 H.size) (cwV 1 hts gX12_least_X12_lengthOf rfl rfl rfl (by decide +kernel) ⟨Nat.le_of_ble_eq_true rfl, Nat.le_of_ble_eq_true rfl⟩) (ct_preV (T := ct_T cI cJ cB cZ cO) (ci := 12) (q0 := 3) hE hH hP hD hS hA [3, 4] (by decide) rfl rfl rfl) rfl rfl hl.1 rfl (lv_room (Nat.le_of_ble_eq_true rfl)) dX12_least_29 ⟨Nat.le_of_ble_eq_true rfl, Nat.le_of_ble_eq_true rfl⟩) hP hD hS hA [3, 4] [0, 1, 2] rfl rfl (by decide) (by decide) (fun r120 u H locs hw hP hD hS => ?_)
      obtain ⟨hP, hD⟩ : ct_B D A H [(qm_round, .inl (cI, 120, .inl (fm_round))), (qm_meets, .inl (cI, 30, .inl (fm_meets))), (qm_lines, .inl (cI, 5, .inl (fm_lines))), mo qm 0 qm_width qm_many qm_cells qm_moved qm_tape vm_taped vm_at vm_token vm_place vm_value vm_word vm_bad vm_badPlace vm_fault vm_faultPlace qm_lines qm_has qm_round qm_meets qm_stumble qm_isMud qm_cell qm_tune qm_change qm_isKept qm_steps qm_places qm_danced vm_runMost vm_runBegins qm_heardBy vm_fitMany vm_fitFirst vm_fitBeats vm_listenLeaves qm_there vm_metAt vm_metIn qm_wins vm_nightHoles vm_nightFirst vm_nightMud vm_nightSlips vm_drawnNow, (qm_has, .inl (cI, 55, .inl (fm_has)))] := ⟨hP, hD⟩
      have hz := hw
      clear hw
      have h_r120 : 1 ≤ r120.toInt ∧ r120.toInt ≤ 12 := hz
      clear hz
      refine lv_icmp_ge (tgt := 56) hx hb dX12_least_32 (by decide) (fun hc => ?_) (fun hc => ?_)
      · have hq121 : r120.toInt ≤ x118.toInt := tq_le rfl rfl hc
        refine lv_iload_n hx hb dX12_least_56 rfl (lv_at hl 1 rfl) ?_
        obtain ⟨hP9, hD9⟩ : ct_B D A H [mo qm 0 qm_width qm_many qm_cells qm_moved qm_tape vm_taped vm_at vm_token vm_place vm_value vm_word vm_bad vm_badPlace vm_fault vm_faultPlace qm_lines qm_has qm_round qm_meets qm_stumble qm_isMud qm_cell qm_tune qm_change qm_isKept qm_steps qm_places qm_danced vm_runMost vm_runBegins qm_heardBy vm_fitMany vm_fitFirst vm_fitBeats vm_listenLeaves qm_there vm_metAt vm_metIn qm_wins vm_nightHoles vm_nightFirst vm_nightMud vm_nightSlips vm_drawnNow, (qm_lines, .inl (cI, 5, .inl (fm_lines))), (qm_has, .inl (cI, 55, .inl (fm_has))), (qm_round, .inl (cI, 120, .inl (fm_round))), (qm_meets, .inl (cI, 30, .inl (fm_meets)))] := ⟨hP.sub [3, 2, 4, 0, 1] rfl, hD.sub [3, 2, 4, 0, 1] (by decide) rfl⟩
        exact W.iret (v := x117) hx hb hr (fun t ht hW => ⟨⟨x117, (0 : Int32), rfl, (show (-2) ≤ x117.toInt ∧ x117.toInt ≤ 11 by omega), by rw [ht]; exact hP9, hD9⟩, hS.F ht⟩) hS.2.2 dX12_least_57
      · have hq121 : x118.toInt < r120.toInt := tq_nle rfl rfl hc
        refine lv_aload_n hx hb dX12_least_35 rfl (lv_at hl 2 rfl) ?_
        refine lv_iload_n hx hb dX12_least_36 rfl (lv_at hl 0 rfl) ?_
        refine ct_calli (D := D) (wr := [(qm_lines, .inl (cI, 5, .inl (fm_lines)))]) (va_runV (As := [.int x118]) (rest := []) ⟨hx, hb, hml, hown, hts⟩ (c_X12_shiftedOf l D G cI cJ cB cZ cO qm 0 qm_width qm_many qm_cells qm_moved qm_tape vm_taped vm_at vm_token vm_place vm_value vm_word vm_bad vm_badPlace vm_fault vm_faultPlace qm_lines qm_has fm_has qm_round fm_round qm_meets fm_meets qm_stumble qm_isMud qm_cell qm_tune qm_change qm_isKept qm_steps qm_places qm_danced vm_runMost vm_runBegins qm_heardBy vm_fitMany vm_fitFirst vm_fitBeats vm_listenLeaves qm_there vm_metAt vm_metIn qm_wins vm_nightHoles vm_nightFirst vm_nightMud vm_nightSlips vm_drawnNow x118 h_vm_taped h_vm_at h_vm_value h_fm_has h_fm_round (by omega) hz_3 H.size) (cwV 1 hts gX12_least_X12_shiftedOf rfl rfl rfl (by decide +kernel) ⟨Nat.le_of_ble_eq_true rfl, Nat.le_of_ble_eq_true rfl⟩) (ct_preV (T := ct_T cI cJ cB cZ cO) (ci := 12) (q0 := 3) hE hH hP hD hS hA [3, 4, 0, 1] (by decide) rfl rfl rfl) rfl rfl hl.1 rfl (lv_room (Nat.le_of_ble_eq_true rfl)) dX12_least_37 ⟨Nat.le_of_ble_eq_true rfl, Nat.le_of_ble_eq_true rfl⟩) hP hD hS hA [3, 4, 0, 1] [2] rfl rfl (by decide) (by decide) (fun r122 u H locs hw hP hD hS => ?_)
        obtain ⟨hP, hD⟩ : ct_B D A H [(qm_lines, .inl (cI, 5, .inl (fm_lines))), mo qm 0 qm_width qm_many qm_cells qm_moved qm_tape vm_taped vm_at vm_token vm_place vm_value vm_word vm_bad vm_badPlace vm_fault vm_faultPlace qm_lines qm_has qm_round qm_meets qm_stumble qm_isMud qm_cell qm_tune qm_change qm_isKept qm_steps qm_places qm_danced vm_runMost vm_runBegins qm_heardBy vm_fitMany vm_fitFirst vm_fitBeats vm_listenLeaves qm_there vm_metAt vm_metIn qm_wins vm_nightHoles vm_nightFirst vm_nightMud vm_nightSlips vm_drawnNow, (qm_has, .inl (cI, 55, .inl (fm_has))), (qm_round, .inl (cI, 120, .inl (fm_round))), (qm_meets, .inl (cI, 30, .inl (fm_meets)))] := ⟨hP, hD⟩
        refine lv_aload_n hx hb dX12_least_40 rfl (lv_at hl 2 rfl) ?_
        refine lv_iload_n hx hb dX12_least_41 rfl (lv_at hl 1 rfl) ?_
        refine ct_calli (D := D) (wr := [(qm_lines, .inl (cI, 5, .inl (fm_lines)))]) (va_runV (As := [.int x117]) (rest := [.int r122]) ⟨hx, hb, hml, hown, hts⟩ (c_X12_shiftedOf l D G cI cJ cB cZ cO qm 0 qm_width qm_many qm_cells qm_moved qm_tape vm_taped vm_at vm_token vm_place vm_value vm_word vm_bad vm_badPlace vm_fault vm_faultPlace qm_lines qm_has fm_has qm_round fm_round qm_meets fm_meets qm_stumble qm_isMud qm_cell qm_tune qm_change qm_isKept qm_steps qm_places qm_danced vm_runMost vm_runBegins qm_heardBy vm_fitMany vm_fitFirst vm_fitBeats vm_listenLeaves qm_there vm_metAt vm_metIn qm_wins vm_nightHoles vm_nightFirst vm_nightMud vm_nightSlips vm_drawnNow x117 h_vm_taped h_vm_at h_vm_value h_fm_has h_fm_round (by omega) hz_3 H.size) (cwV 1 hts gX12_least_X12_shiftedOf rfl rfl rfl (by decide +kernel) ⟨Nat.le_of_ble_eq_true rfl, Nat.le_of_ble_eq_true rfl⟩) (ct_preV (T := ct_T cI cJ cB cZ cO) (ci := 12) (q0 := 1) hE hH hP hD hS hA [1, 2, 3, 4] (by decide) rfl rfl rfl) rfl rfl hl.1 rfl (lv_room (Nat.le_of_ble_eq_true rfl)) dX12_least_42 ⟨Nat.le_of_ble_eq_true rfl, Nat.le_of_ble_eq_true rfl⟩) hP hD hS hA [1, 2, 3, 4] [0] rfl rfl (by decide) (by decide) (fun r123 u H locs hw hP hD hS => ?_)
        obtain ⟨hP, hD⟩ : ct_B D A H [(qm_lines, .inl (cI, 5, .inl (fm_lines))), mo qm 0 qm_width qm_many qm_cells qm_moved qm_tape vm_taped vm_at vm_token vm_place vm_value vm_word vm_bad vm_badPlace vm_fault vm_faultPlace qm_lines qm_has qm_round qm_meets qm_stumble qm_isMud qm_cell qm_tune qm_change qm_isKept qm_steps qm_places qm_danced vm_runMost vm_runBegins qm_heardBy vm_fitMany vm_fitFirst vm_fitBeats vm_listenLeaves qm_there vm_metAt vm_metIn qm_wins vm_nightHoles vm_nightFirst vm_nightMud vm_nightSlips vm_drawnNow, (qm_has, .inl (cI, 55, .inl (fm_has))), (qm_round, .inl (cI, 120, .inl (fm_round))), (qm_meets, .inl (cI, 30, .inl (fm_meets)))] := ⟨hP, hD⟩
        refine lv_icmp_ge (tgt := 50) hx hb dX12_least_45 (by decide) (fun hc => ?_) (fun hc => ?_)
        · have hq124 : r123.toInt ≤ r122.toInt := tq_le rfl rfl hc
          have hb125 := tq_lo r122
          have hb126 := tq_lo r123
          obtain ⟨z127, ez127⟩ : ∃ z : Int32, z = x118 + 1 := ⟨_, rfl⟩
          have fz127 : z127.toInt = x118.toInt + 1 := by rw [ez127]; exact tq_add rfl (by decide) (by omega)
          refine lv_iinc (v := z127) (lv' := [(2, .int z127), (1, .int x117), (0, .ref qm)]) hx hb dX12_least_50 hl (k := 0) rfl ez127.symm (by decide) rfl (fun ls hl => ?_)
          refine lv_goto (tgt := 26) hx hb dX12_least_53 (by decide) ?_
          obtain ⟨hP9, hD9⟩ : ct_B D A H [(qm_round, .inl (cI, 120, .inl (fm_round))), (qm_meets, .inl (cI, 30, .inl (fm_meets))), (qm_lines, .inl (cI, 5, .inl (fm_lines))), mo qm 0 qm_width qm_many qm_cells qm_moved qm_tape vm_taped vm_at vm_token vm_place vm_value vm_word vm_bad vm_badPlace vm_fault vm_faultPlace qm_lines qm_has qm_round qm_meets qm_stumble qm_isMud qm_cell qm_tune qm_change qm_isKept qm_steps qm_places qm_danced vm_runMost vm_runBegins qm_heardBy vm_fitMany vm_fitFirst vm_fitBeats vm_listenLeaves qm_there vm_metAt vm_metIn qm_wins vm_nightHoles vm_nightFirst vm_nightMud vm_nightSlips vm_drawnNow, (qm_has, .inl (cI, 55, .inl (fm_has)))] := ⟨hP.sub [3, 4, 0, 1, 2] rfl, hD.sub [3, 4, 0, 1, 2] (by decide) rfl⟩
          exact ih119 (x117, z127) _ _ _ (show (12 - z127.toInt).toNat < (12 - x118.toInt).toNat by omega) ⟨h_x117, (show 1 ≤ z127.toInt ∧ z127.toInt ≤ 12 by omega), ⟨hP9, hD9⟩, hS, lv_sub hl [0, 1, 2] rfl⟩
        · have hq124 : r122.toInt < r123.toInt := tq_nle rfl rfl hc
          have hb128 := tq_lo r122
          have hb129 := tq_lo r123
          refine lv_iload_n hx hb dX12_least_48 rfl (lv_at hl 0 rfl) ?_
          refine lv_istore_n (lv' := [(1, .int x118), (2, .int x118), (0, .ref qm)]) hx hb dX12_least_49 rfl hl (by decide) rfl (fun ls hl => ?_)
          obtain ⟨z130, ez130⟩ : ∃ z : Int32, z = x118 + 1 := ⟨_, rfl⟩
          have fz130 : z130.toInt = x118.toInt + 1 := by rw [ez130]; exact tq_add rfl (by decide) (by omega)
          refine lv_iinc (v := z130) (lv' := [(2, .int z130), (1, .int x118), (0, .ref qm)]) hx hb dX12_least_50 hl (k := 1) rfl ez130.symm (by decide) rfl (fun ls hl => ?_)
          refine lv_goto (tgt := 26) hx hb dX12_least_53 (by decide) ?_
          obtain ⟨hP9, hD9⟩ : ct_B D A H [(qm_round, .inl (cI, 120, .inl (fm_round))), (qm_meets, .inl (cI, 30, .inl (fm_meets))), (qm_lines, .inl (cI, 5, .inl (fm_lines))), mo qm 0 qm_width qm_many qm_cells qm_moved qm_tape vm_taped vm_at vm_token vm_place vm_value vm_word vm_bad vm_badPlace vm_fault vm_faultPlace qm_lines qm_has qm_round qm_meets qm_stumble qm_isMud qm_cell qm_tune qm_change qm_isKept qm_steps qm_places qm_danced vm_runMost vm_runBegins qm_heardBy vm_fitMany vm_fitFirst vm_fitBeats vm_listenLeaves qm_there vm_metAt vm_metIn qm_wins vm_nightHoles vm_nightFirst vm_nightMud vm_nightSlips vm_drawnNow, (qm_has, .inl (cI, 55, .inl (fm_has)))] := ⟨hP.sub [3, 4, 0, 1, 2] rfl, hD.sub [3, 4, 0, 1, 2] (by decide) rfl⟩
          exact ih119 (x118, z130) _ _ _ (show (12 - z130.toInt).toNat < (12 - x118.toInt).toNat by omega) ⟨(show 0 ≤ x118.toInt ∧ x118.toInt ≤ 11 by omega), (show 1 ≤ z130.toInt ∧ z130.toInt ≤ 12 by omega), ⟨hP9, hD9⟩, hS, lv_sub hl [0, 1, 2] rfl⟩
    · subst hz
      refine lv_if_ne (tgt := 22) hx hb dX12_least_16 (by decide) (fun hc => absurd hc (by decide)) (fun _ => ?_)
      refine lv_bipush (v := (-2)) hx hb dX12_least_19 (by decide) ?_
      obtain ⟨hP9, hD9⟩ : ct_B D A H [mo qm 0 qm_width qm_many qm_cells qm_moved qm_tape vm_taped vm_at vm_token vm_place vm_value vm_word vm_bad vm_badPlace vm_fault vm_faultPlace qm_lines qm_has qm_round qm_meets qm_stumble qm_isMud qm_cell qm_tune qm_change qm_isKept qm_steps qm_places qm_danced vm_runMost vm_runBegins qm_heardBy vm_fitMany vm_fitFirst vm_fitBeats vm_listenLeaves qm_there vm_metAt vm_metIn qm_wins vm_nightHoles vm_nightFirst vm_nightMud vm_nightSlips vm_drawnNow, (qm_lines, .inl (cI, 5, .inl (fm_lines))), (qm_has, .inl (cI, 55, .inl (fm_has))), (qm_round, .inl (cI, 120, .inl (fm_round))), (qm_meets, .inl (cI, 30, .inl (fm_meets)))] := ⟨hP.sub [3, 2, 4, 0, 1] rfl, hD.sub [3, 2, 4, 0, 1] (by decide) rfl⟩
      exact W.iret (v := (-2)) hx hb hr (fun t ht hW => ⟨⟨(-2), (0 : Int32), rfl, (show (-2) ≤ (-2 : Int32).toInt ∧ (-2 : Int32).toInt ≤ 11 by decide), by rw [ht]; exact hP9, hD9⟩, hS.F ht⟩) hS.2.2 dX12_least_21
  · subst hz
    refine lv_if_eq (tgt := 19) hx hb dX12_least_9 (by decide) (fun _ => ?_) (fun hc => absurd hc (by decide))
    refine lv_bipush (v := (-2)) hx hb dX12_least_19 (by decide) ?_
    obtain ⟨hP9, hD9⟩ : ct_B D A H [mo qm 0 qm_width qm_many qm_cells qm_moved qm_tape vm_taped vm_at vm_token vm_place vm_value vm_word vm_bad vm_badPlace vm_fault vm_faultPlace qm_lines qm_has qm_round qm_meets qm_stumble qm_isMud qm_cell qm_tune qm_change qm_isKept qm_steps qm_places qm_danced vm_runMost vm_runBegins qm_heardBy vm_fitMany vm_fitFirst vm_fitBeats vm_listenLeaves qm_there vm_metAt vm_metIn qm_wins vm_nightHoles vm_nightFirst vm_nightMud vm_nightSlips vm_drawnNow, (qm_lines, .inl (cI, 5, .inl (fm_lines))), (qm_has, .inl (cI, 55, .inl (fm_has))), (qm_round, .inl (cI, 120, .inl (fm_round))), (qm_meets, .inl (cI, 30, .inl (fm_meets)))] := ⟨hP.sub [3, 4, 0, 1, 2] rfl, hD.sub [3, 4, 0, 1, 2] (by decide) rfl⟩
    exact W.iret (v := (-2)) hx hb hr (fun t ht hW => ⟨⟨(-2), (0 : Int32), rfl, (show (-2) ≤ (-2 : Int32).toInt ∧ (-2 : Int32).toInt ≤ 11 by decide), by rw [ht]; exact hP9, hD9⟩, hS.F ht⟩) hS.2.2 dX12_least_21
