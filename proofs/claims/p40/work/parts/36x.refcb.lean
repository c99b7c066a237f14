abbrev w_c_X12_clears (cI cJ cB cZ cO : ClassId) (qm : Nat) (vm_thrown : Int32) (qm_width : Nat) (qm_many : Nat) (qm_cells : Nat) (qm_moved : Nat) (qm_tape : Nat) (vm_taped : Int32) (vm_at : Int32) (vm_token : Int32) (vm_place : Int32) (vm_value : Int32) (vm_word : Int64) (vm_bad : Int32) (vm_badPlace : Int32) (vm_fault : Int32) (vm_faultPlace : Int32) (qm_lines : Nat) (fm_lines : Nat → Int32) (qm_has : Nat) (fm_has : Nat → Int32) (qm_round : Nat) (qm_meets : Nat) (fm_meets : Nat → Int32) (qm_stumble : Nat) (qm_isMud : Nat) (fm_isMud : Nat → Int32) (qm_cell : Nat) (fm_cell : Nat → Int32) (qm_tune : Nat) (fm_tune : Nat → Int32) (qm_change : Nat) (fm_change : Nat → Int32) (qm_isKept : Nat) (qm_steps : Nat) (qm_places : Nat) (qm_danced : Nat) (vm_runMost : Int32) (vm_runBegins : Int32) (qm_heardBy : Nat) (vm_fitMany : Int32) (vm_fitFirst : Int32) (vm_fitBeats : Int64) (vm_listenLeaves : Int32) (qm_there : Nat) (vm_metAt : Int32) (vm_metIn : Int32) (qm_wins : Nat) (vm_nightHoles : Int32) (vm_nightFirst : Int32) (vm_nightMud : Int32) (vm_nightSlips : Int32) (vm_drawnNow : Int64) : va_W := [mo qm vm_thrown qm_width qm_many qm_cells qm_moved qm_tape vm_taped vm_at vm_token vm_place vm_value vm_word vm_bad vm_badPlace vm_fault vm_faultPlace qm_lines qm_has qm_round qm_meets qm_stumble qm_isMud qm_cell qm_tune qm_change qm_isKept qm_steps qm_places qm_danced vm_runMost vm_runBegins qm_heardBy vm_fitMany vm_fitFirst vm_fitBeats vm_listenLeaves qm_there vm_metAt vm_metIn qm_wins vm_nightHoles vm_nightFirst vm_nightMud vm_nightSlips vm_drawnNow, (qm_lines, .inl (cI, 5, .inl (fm_lines))), (qm_has, .inl (cI, 55, .inl (fm_has))), (qm_meets, .inl (cI, 30, .inl (fm_meets))), (qm_isMud, .inl (cZ, 1000, .inl (fm_isMud))), (qm_cell, .inl (cI, 120, .inl (fm_cell))), (qm_tune, .inl (cI, 50, .inl (fm_tune))), (qm_change, .inl (cI, 800, .inl (fm_change)))]
set_option maxHeartbeats 4000000 in
set_option maxRecDepth 100000 in
/-- X12 clears -/
theorem c_X12_clears (l : Launch) (D : va_G) (G : ct_G) (cI cJ cB cZ cO : ClassId) (qm : Nat) (vm_thrown : Int32) (qm_width : Nat) (qm_many : Nat) (qm_cells : Nat) (qm_moved : Nat) (qm_tape : Nat) (vm_taped : Int32) (vm_at : Int32) (vm_token : Int32) (vm_place : Int32) (vm_value : Int32) (vm_word : Int64) (vm_bad : Int32) (vm_badPlace : Int32) (vm_fault : Int32) (vm_faultPlace : Int32) (qm_lines : Nat) (fm_lines : Nat → Int32) (qm_has : Nat) (fm_has : Nat → Int32) (qm_round : Nat) (qm_meets : Nat) (fm_meets : Nat → Int32) (qm_stumble : Nat) (qm_isMud : Nat) (fm_isMud : Nat → Int32) (qm_cell : Nat) (fm_cell : Nat → Int32) (qm_tune : Nat) (fm_tune : Nat → Int32) (qm_change : Nat) (fm_change : Nat → Int32) (qm_isKept : Nat) (qm_steps : Nat) (qm_places : Nat) (qm_danced : Nat) (vm_runMost : Int32) (vm_runBegins : Int32) (qm_heardBy : Nat) (vm_fitMany : Int32) (vm_fitFirst : Int32) (vm_fitBeats : Int64) (vm_listenLeaves : Int32) (qm_there : Nat) (vm_metAt : Int32) (vm_metIn : Int32) (qm_wins : Nat) (vm_nightHoles : Int32) (vm_nightFirst : Int32) (vm_nightMud : Int32) (vm_nightSlips : Int32) (vm_drawnNow : Int64) (h_vm_taped : 0 ≤ vm_taped.toInt ∧ vm_taped.toInt ≤ 1200) (h_vm_at : 0 ≤ vm_at.toInt ∧ vm_at.toInt ≤ 1200) (h_vm_value : 0 ≤ vm_value.toInt ∧ vm_value.toInt ≤ 1000009) (h_fm_has : ar_ok [0, (-2147483648), (-2147483648), 0, 0, 0, 0, 0, 0, 0, 0] [20, 2147483647, 2147483647, 12, 12, 11, 11, 8, 12, 5, 40] fm_has) (h_rfc : rf_c fm_has fm_cell) (h_rft : rf_t fm_has fm_tune) (h_rfg : rf_g fm_has fm_change) (sz : Nat) : Met l yX12_clears wsX12_clears ({ frames := 1, cells := 0, slots := 0, locals := 22 }) (va_Pc [.ref qm] (ct_P D (ct_T cI cJ cB cZ cO) G (w_c_X12_clears cI cJ cB cZ cO qm vm_thrown qm_width qm_many qm_cells qm_moved qm_tape vm_taped vm_at vm_token vm_place vm_value vm_word vm_bad vm_badPlace vm_fault vm_faultPlace qm_lines fm_lines qm_has fm_has qm_round qm_meets fm_meets qm_stumble qm_isMud fm_isMud qm_cell fm_cell qm_tune fm_tune qm_change fm_change qm_isKept qm_steps qm_places qm_danced vm_runMost vm_runBegins qm_heardBy vm_fitMany vm_fitFirst vm_fitBeats vm_listenLeaves qm_there vm_metAt vm_metIn qm_wins vm_nightHoles vm_nightFirst vm_nightMud vm_nightSlips vm_drawnNow) sz)) (va_Qv (fun (u : (Nat → Int32) × (Nat → Int32) × (Nat → Int32) × (Nat → Int32)) => (ar_ok [0, (-2147483648), (-2147483648), 0, 0, 0, 0, 0, 0, 0, 0] [20, 2147483647, 2147483647, 12, 12, 11, 11, 8, 12, 5, 40] u.2.1) ∧ (rf_c u.2.1 fm_cell) ∧ (rf_t u.2.1 fm_tune) ∧ (rf_g u.2.1 fm_change) ∧ ((u.2.1 54).toInt = 0)) (fun (u : (Nat → Int32) × (Nat → Int32) × (Nat → Int32) × (Nat → Int32)) t => ct_Q D (va_A (w_c_X12_clears cI cJ cB cZ cO qm vm_thrown qm_width qm_many qm_cells qm_moved qm_tape vm_taped vm_at vm_token vm_place vm_value vm_word vm_bad vm_badPlace vm_fault vm_faultPlace qm_lines fm_lines qm_has fm_has qm_round qm_meets fm_meets qm_stumble qm_isMud fm_isMud qm_cell fm_cell qm_tune fm_tune qm_change fm_change qm_isKept qm_steps qm_places qm_danced vm_runMost vm_runBegins qm_heardBy vm_fitMany vm_fitFirst vm_fitBeats vm_listenLeaves qm_there vm_metAt vm_metIn qm_wins vm_nightHoles vm_nightFirst vm_nightMud vm_nightSlips vm_drawnNow) sz) [mo qm vm_thrown qm_width qm_many qm_cells qm_moved qm_tape vm_taped vm_at vm_token vm_place vm_value vm_word vm_bad vm_badPlace vm_fault vm_faultPlace qm_lines qm_has qm_round qm_meets qm_stumble qm_isMud qm_cell qm_tune qm_change qm_isKept qm_steps qm_places qm_danced vm_runMost vm_runBegins qm_heardBy vm_fitMany vm_fitFirst vm_fitBeats vm_listenLeaves qm_there vm_metAt vm_metIn qm_wins vm_nightHoles vm_nightFirst vm_nightMud vm_nightSlips vm_drawnNow, (qm_lines, .inl (cI, 5, .inl (u.1))), (qm_has, .inl (cI, 55, .inl (u.2.1))), (qm_meets, .inl (cI, 30, .inl (u.2.2.1))), (qm_isMud, .inl (cZ, 1000, .inl (u.2.2.2))), (qm_cell, .inl (cI, 120, .inl (fm_cell))), (qm_tune, .inl (cI, 50, .inl (fm_tune))), (qm_change, .inl (cI, 800, .inl (fm_change)))] t) (va_A (w_c_X12_clears cI cJ cB cZ cO qm vm_thrown qm_width qm_many qm_cells qm_moved qm_tape vm_taped vm_at vm_token vm_place vm_value vm_word vm_bad vm_badPlace vm_fault vm_faultPlace qm_lines fm_lines qm_has fm_has qm_round qm_meets fm_meets qm_stumble qm_isMud fm_isMud qm_cell fm_cell qm_tune fm_tune qm_change fm_change qm_isKept qm_steps qm_places qm_danced vm_runMost vm_runBegins qm_heardBy vm_fitMany vm_fitFirst vm_fitBeats vm_listenLeaves qm_there vm_metAt vm_metIn qm_wins vm_nightHoles vm_nightFirst vm_nightMud vm_nightSlips vm_drawnNow) sz)) 0 0 (va_A (w_c_X12_clears cI cJ cB cZ cO qm vm_thrown qm_width qm_many qm_cells qm_moved qm_tape vm_taped vm_at vm_token vm_place vm_value vm_word vm_bad vm_badPlace vm_fault vm_faultPlace qm_lines fm_lines qm_has fm_has qm_round qm_meets fm_meets qm_stumble qm_isMud fm_isMud qm_cell fm_cell qm_tune fm_tune qm_change fm_change qm_isKept qm_steps qm_places qm_danced vm_runMost vm_runBegins qm_heardBy vm_fitMany vm_fitFirst vm_fitBeats vm_listenLeaves qm_there vm_metAt vm_metIn qm_wins vm_nightHoles vm_nightFirst vm_nightMud vm_nightSlips vm_drawnNow) sz) := by
  refine Met.ofW (cc := cX12_clears) (maxL := 2) (ret := none) (by decide) rfl ?_
  intro p e s m args below meth c s₁ B hml hv
  obtain ⟨rfl, hsz, hP, hE, hD0, hH⟩ := hv
  have hx := B.exec
  have hb := B.bytes
  have hr := B.returns
  have hts := atoms_spec (ws := wsX12_clears) B.pre
  have hown : s.vm.findClass RX12 = some m.cls := findClass_of_methodNamed B.named
  have hlocks := B.notSynchronized
  have hK := hE.1
  have hi12 : ∀ w ∈ u_ws RX12 TX12 45, w ∈ wsX12_clears := fun w h => List.mem_cons_of_mem _ (List.mem_append_right _ h)
  subst hsz
  have hD := hD0.self (sz := s.heap.size)
  generalize hAe : va_A (w_c_X12_clears cI cJ cB cZ cO qm vm_thrown qm_width qm_many qm_cells qm_moved qm_tape vm_taped vm_at vm_token vm_place vm_value vm_word vm_bad vm_badPlace vm_fault vm_faultPlace qm_lines fm_lines qm_has fm_has qm_round qm_meets fm_meets qm_stumble qm_isMud fm_isMud qm_cell fm_cell qm_tune fm_tune qm_change fm_change qm_isKept qm_steps qm_places qm_danced vm_runMost vm_runBegins qm_heardBy vm_fitMany vm_fitFirst vm_fitBeats vm_listenLeaves qm_there vm_metAt vm_metIn qm_wins vm_nightHoles vm_nightFirst vm_nightMud vm_nightSlips vm_drawnNow) s.heap.size = A at hD hH ⊢
  have hA : ∀ q : Nat, s.heap.size ≤ q → A q := fun q h => by rw [← hAe]; exact Or.inr h
  have hS : va_S A s.heap s.heap [] := va_S.rf
  obtain ⟨hP, hD⟩ : ct_B D A s.heap [mo qm vm_thrown qm_width qm_many qm_cells qm_moved qm_tape vm_taped vm_at vm_token vm_place vm_value vm_word vm_bad vm_badPlace vm_fault vm_faultPlace qm_lines qm_has qm_round qm_meets qm_stumble qm_isMud qm_cell qm_tune qm_change qm_isKept qm_steps qm_places qm_danced vm_runMost vm_runBegins qm_heardBy vm_fitMany vm_fitFirst vm_fitBeats vm_listenLeaves qm_there vm_metAt vm_metIn qm_wins vm_nightHoles vm_nightFirst vm_nightMud vm_nightSlips vm_drawnNow, (qm_lines, .inl (cI, 5, .inl (fm_lines))), (qm_has, .inl (cI, 55, .inl (fm_has))), (qm_meets, .inl (cI, 30, .inl (fm_meets))), (qm_isMud, .inl (cZ, 1000, .inl (fm_isMud))), (qm_cell, .inl (cI, 120, .inl (fm_cell))), (qm_tune, .inl (cI, 50, .inl (fm_tune))), (qm_change, .inl (cI, 800, .inl (fm_change)))] := ⟨hP, hD⟩
  have hl := lv_entry ([.ref qm]) (n := 2) (Nat.le_of_ble_eq_true rfl)
  rw [lg_entry_eq]
  generalize (lg_sl ([.ref qm]) ++ List.replicate (2 - (lg_sl ([.ref qm])).length) Slot.unset).toArray = ls at hl ⊢
  have hl : lv_has ls 2 [(0, .ref qm)] := hl
  obtain ⟨H, hHe⟩ : ∃ H : Heap, H = s.heap := ⟨_, rfl⟩
  rw [← hHe] at hP
  have hS : va_S A s.heap H [] := by rw [hHe]; exact va_S.rf
  refine ct_start hHe ?_
  refine lv_aload_n hx hb dX12_clears_0 rfl (lv_at hl 0 rfl) ?_
  refine va_get (D := D) (ci := 12) (v := .ref qm_lines) (C := RX12) (T := TX12) (N := 45) hx hb hts hi12 hown hK hP 0 rfl rfl 16 (by decide) (hts (.fieldLink RX12 31 "OverHillModel" "lines" "[I") (by decide +kernel)) (fun _ h9 => h9) rfl dX12_clears_1 ?_
  refine lv_iconst (v := 4) hx hb dX12_clears_4 (by decide) ?_
  refine lv_iconst (v := 0) hx hb dX12_clears_5 (by decide) ?_
  refine va_iast (D := D) hx hb hK hP hD hS 1 0 rfl rfl (tq_in (a := 4) (by decide) (by omega)) dX12_clears_6 (fun H locs hP hD hS => ?_)
  obtain ⟨g1, hP, hD⟩ : ∃ g1 : Nat → Int32, ct_B D A H [mo qm vm_thrown qm_width qm_many qm_cells qm_moved qm_tape vm_taped vm_at vm_token vm_place vm_value vm_word vm_bad vm_badPlace vm_fault vm_faultPlace qm_lines qm_has qm_round qm_meets qm_stumble qm_isMud qm_cell qm_tune qm_change qm_isKept qm_steps qm_places qm_danced vm_runMost vm_runBegins qm_heardBy vm_fitMany vm_fitFirst vm_fitBeats vm_listenLeaves qm_there vm_metAt vm_metIn qm_wins vm_nightHoles vm_nightFirst vm_nightMud vm_nightSlips vm_drawnNow, (qm_lines, .inl (cI, 5, .inl (g1))), (qm_has, .inl (cI, 55, .inl (fm_has))), (qm_meets, .inl (cI, 30, .inl (fm_meets))), (qm_isMud, .inl (cZ, 1000, .inl (fm_isMud))), (qm_cell, .inl (cI, 120, .inl (fm_cell))), (qm_tune, .inl (cI, 50, .inl (fm_tune))), (qm_change, .inl (cI, 800, .inl (fm_change)))] := ⟨_, hP, hD⟩
  refine lv_iconst (v := 0) hx hb dX12_clears_7 (by decide) ?_
  refine lv_istore_n (lv' := [(1, .int 0), (0, .ref qm)]) hx hb dX12_clears_8 rfl hl (by decide) rfl (fun ls hl => ?_)
  refine ct_loop (X := (Nat → Int32) × Int32) (fun x => (11 - x.2.toInt).toNat) (fun x H locs ls => (ar_ok [0, (-2147483648), (-2147483648), 0, 0, 0, 0, 0, 0, 0, 0] [20, 2147483647, 2147483647, 12, 12, 11, 11, 8, 12, 5, 40] x.1) ∧ ((0 ≤ x.2.toInt ∧ x.2.toInt ≤ 11)) ∧ (rf_c x.1 fm_cell) ∧ (rf_t x.1 fm_tune) ∧ (rf_g x.1 fm_change) ∧ ((x.2.toInt ≤ 10 ∨ (x.1 54).toInt = 0)) ∧ ct_B D A H [mo qm vm_thrown qm_width qm_many qm_cells qm_moved qm_tape vm_taped vm_at vm_token vm_place vm_value vm_word vm_bad vm_badPlace vm_fault vm_faultPlace qm_lines qm_has qm_round qm_meets qm_stumble qm_isMud qm_cell qm_tune qm_change qm_isKept qm_steps qm_places qm_danced vm_runMost vm_runBegins qm_heardBy vm_fitMany vm_fitFirst vm_fitBeats vm_listenLeaves qm_there vm_metAt vm_metIn qm_wins vm_nightHoles vm_nightFirst vm_nightMud vm_nightSlips vm_drawnNow, (qm_lines, .inl (cI, 5, .inl (g1))), (qm_has, .inl (cI, 55, .inl (x.1))), (qm_meets, .inl (cI, 30, .inl (fm_meets))), (qm_isMud, .inl (cZ, 1000, .inl (fm_isMud))), (qm_cell, .inl (cI, 120, .inl (fm_cell))), (qm_tune, .inl (cI, 50, .inl (fm_tune))), (qm_change, .inl (cI, 800, .inl (fm_change)))] ∧ va_S A s.heap H locs ∧ lv_has ls 2 [(1, .int x.2), (0, .ref qm)]) 9 (fm_has, (0 : Int32)) ⟨h_fm_has, (show 0 ≤ (0 : Int32).toInt ∧ (0 : Int32).toInt ≤ 11 by decide), (show rf_c fm_has fm_cell by exact h_rfc), (show rf_t fm_has fm_tune by exact h_rft), (show rf_g fm_has fm_change by exact h_rfg), (show ((0 : Int32).toInt ≤ 10 ∨ (fm_has 54).toInt = 0) by (left; decide)), ⟨hP, hD⟩, hS, lv_sub hl [0, 1] rfl⟩ (fun x ih950 H locs ls hI => ?_)
  obtain ⟨g948, x949⟩ := x
  obtain ⟨h_g948, h_x949, he0, he1, he2, he3, ⟨hP, hD⟩, hS, hl⟩ := hI
  change ar_ok [0, (-2147483648), (-2147483648), 0, 0, 0, 0, 0, 0, 0, 0] [20, 2147483647, 2147483647, 12, 12, 11, 11, 8, 12, 5, 40] g948 at h_g948
  change (0 ≤ x949.toInt ∧ x949.toInt ≤ 11) at h_x949
  change rf_c g948 fm_cell at he0
  change rf_t g948 fm_tune at he1
  change rf_g g948 fm_change at he2
  change (x949.toInt ≤ 10 ∨ (g948 54).toInt = 0) at he3
  obtain ⟨hP, hD⟩ : ct_B D A H [mo qm vm_thrown qm_width qm_many qm_cells qm_moved qm_tape vm_taped vm_at vm_token vm_place vm_value vm_word vm_bad vm_badPlace vm_fault vm_faultPlace qm_lines qm_has qm_round qm_meets qm_stumble qm_isMud qm_cell qm_tune qm_change qm_isKept qm_steps qm_places qm_danced vm_runMost vm_runBegins qm_heardBy vm_fitMany vm_fitFirst vm_fitBeats vm_listenLeaves qm_there vm_metAt vm_metIn qm_wins vm_nightHoles vm_nightFirst vm_nightMud vm_nightSlips vm_drawnNow, (qm_lines, .inl (cI, 5, .inl (g1))), (qm_has, .inl (cI, 55, .inl (g948))), (qm_meets, .inl (cI, 30, .inl (fm_meets))), (qm_isMud, .inl (cZ, 1000, .inl (fm_isMud))), (qm_cell, .inl (cI, 120, .inl (fm_cell))), (qm_tune, .inl (cI, 50, .inl (fm_tune))), (qm_change, .inl (cI, 800, .inl (fm_change)))] := ⟨hP, hD⟩
  have hl : lv_has ls 2 [(1, .int x949), (0, .ref qm)] := hl
  refine lv_iload_n hx hb dX12_clears_9 rfl (lv_at hl 0 rfl) ?_
  refine lv_bipush (v := 11) hx hb dX12_clears_10 (by decide) ?_
  refine lv_icmp_ge (tgt := 27) hx hb dX12_clears_12 (by decide) (fun hc => ?_) (fun hc => ?_)
  · have hq951 : 11 ≤ x949.toInt := tq_le (by decide) rfl hc
    have hz54 : (g948 54).toInt = 0 := by omega
    refine lv_iconst (v := 0) hx hb dX12_clears_27 (by decide) ?_
    refine lv_istore_n (lv' := [(1, .int 0), (0, .ref qm)]) hx hb dX12_clears_28 rfl hl (by decide) rfl (fun ls hl => ?_)
    refine ct_loop (X := (Nat → Int32) × Int32) (fun x => (6 - x.2.toInt).toNat) (fun x H locs ls => ((0 ≤ x.2.toInt ∧ x.2.toInt ≤ 6)) ∧ ct_B D A H [mo qm vm_thrown qm_width qm_many qm_cells qm_moved qm_tape vm_taped vm_at vm_token vm_place vm_value vm_word vm_bad vm_badPlace vm_fault vm_faultPlace qm_lines qm_has qm_round qm_meets qm_stumble qm_isMud qm_cell qm_tune qm_change qm_isKept qm_steps qm_places qm_danced vm_runMost vm_runBegins qm_heardBy vm_fitMany vm_fitFirst vm_fitBeats vm_listenLeaves qm_there vm_metAt vm_metIn qm_wins vm_nightHoles vm_nightFirst vm_nightMud vm_nightSlips vm_drawnNow, (qm_lines, .inl (cI, 5, .inl (g1))), (qm_has, .inl (cI, 55, .inl (g948))), (qm_meets, .inl (cI, 30, .inl (x.1))), (qm_isMud, .inl (cZ, 1000, .inl (fm_isMud))), (qm_cell, .inl (cI, 120, .inl (fm_cell))), (qm_tune, .inl (cI, 50, .inl (fm_tune))), (qm_change, .inl (cI, 800, .inl (fm_change)))] ∧ va_S A s.heap H locs ∧ lv_has ls 2 [(1, .int x.2), (0, .ref qm)]) 29 (fm_meets, (0 : Int32)) ⟨(show 0 ≤ (0 : Int32).toInt ∧ (0 : Int32).toInt ≤ 6 by decide), ⟨hP, hD⟩, hS, lv_sub hl [0, 1] rfl⟩ (fun x ih1244 H locs ls hI => ?_)
    obtain ⟨g1242, x1243⟩ := x
    obtain ⟨h_x1243, ⟨hP, hD⟩, hS, hl⟩ := hI
    change (0 ≤ x1243.toInt ∧ x1243.toInt ≤ 6) at h_x1243
    obtain ⟨hP, hD⟩ : ct_B D A H [mo qm vm_thrown qm_width qm_many qm_cells qm_moved qm_tape vm_taped vm_at vm_token vm_place vm_value vm_word vm_bad vm_badPlace vm_fault vm_faultPlace qm_lines qm_has qm_round qm_meets qm_stumble qm_isMud qm_cell qm_tune qm_change qm_isKept qm_steps qm_places qm_danced vm_runMost vm_runBegins qm_heardBy vm_fitMany vm_fitFirst vm_fitBeats vm_listenLeaves qm_there vm_metAt vm_metIn qm_wins vm_nightHoles vm_nightFirst vm_nightMud vm_nightSlips vm_drawnNow, (qm_lines, .inl (cI, 5, .inl (g1))), (qm_has, .inl (cI, 55, .inl (g948))), (qm_meets, .inl (cI, 30, .inl (g1242))), (qm_isMud, .inl (cZ, 1000, .inl (fm_isMud))), (qm_cell, .inl (cI, 120, .inl (fm_cell))), (qm_tune, .inl (cI, 50, .inl (fm_tune))), (qm_change, .inl (cI, 800, .inl (fm_change)))] := ⟨hP, hD⟩
    have hl : lv_has ls 2 [(1, .int x1243), (0, .ref qm)] := hl
    refine lv_iload_n hx hb dX12_clears_29 rfl (lv_at hl 0 rfl) ?_
    refine lv_bipush (v := 6) hx hb dX12_clears_30 (by decide) ?_
    refine lv_icmp_ge (tgt := 52) hx hb dX12_clears_32 (by decide) (fun hc => ?_) (fun hc => ?_)
    · have hq1245 : 6 ≤ x1243.toInt := tq_le (by decide) rfl hc
      refine lv_iconst (v := 0) hx hb dX12_clears_52 (by decide) ?_
      refine lv_istore_n (lv' := [(1, .int 0), (0, .ref qm)]) hx hb dX12_clears_53 rfl hl (by decide) rfl (fun ls hl => ?_)
      refine ct_loop (X := (Nat → Int32) × Int32) (fun x => (200 - x.2.toInt).toNat) (fun x H locs ls => ((0 ≤ x.2.toInt ∧ x.2.toInt ≤ 200)) ∧ ct_B D A H [mo qm vm_thrown qm_width qm_many qm_cells qm_moved qm_tape vm_taped vm_at vm_token vm_place vm_value vm_word vm_bad vm_badPlace vm_fault vm_faultPlace qm_lines qm_has qm_round qm_meets qm_stumble qm_isMud qm_cell qm_tune qm_change qm_isKept qm_steps qm_places qm_danced vm_runMost vm_runBegins qm_heardBy vm_fitMany vm_fitFirst vm_fitBeats vm_listenLeaves qm_there vm_metAt vm_metIn qm_wins vm_nightHoles vm_nightFirst vm_nightMud vm_nightSlips vm_drawnNow, (qm_lines, .inl (cI, 5, .inl (g1))), (qm_has, .inl (cI, 55, .inl (g948))), (qm_meets, .inl (cI, 30, .inl (g1242))), (qm_isMud, .inl (cZ, 1000, .inl (x.1))), (qm_cell, .inl (cI, 120, .inl (fm_cell))), (qm_tune, .inl (cI, 50, .inl (fm_tune))), (qm_change, .inl (cI, 800, .inl (fm_change)))] ∧ va_S A s.heap H locs ∧ lv_has ls 2 [(1, .int x.2), (0, .ref qm)]) 54 (fm_isMud, (0 : Int32)) ⟨(show 0 ≤ (0 : Int32).toInt ∧ (0 : Int32).toInt ≤ 200 by decide), ⟨hP, hD⟩, hS, lv_sub hl [0, 1] rfl⟩ (fun x ih1364 H locs ls hI => ?_)
      obtain ⟨g1362, x1363⟩ := x
      obtain ⟨h_x1363, ⟨hP, hD⟩, hS, hl⟩ := hI
      change (0 ≤ x1363.toInt ∧ x1363.toInt ≤ 200) at h_x1363
      obtain ⟨hP, hD⟩ : ct_B D A H [mo qm vm_thrown qm_width qm_many qm_cells qm_moved qm_tape vm_taped vm_at vm_token vm_place vm_value vm_word vm_bad vm_badPlace vm_fault vm_faultPlace qm_lines qm_has qm_round qm_meets qm_stumble qm_isMud qm_cell qm_tune qm_change qm_isKept qm_steps qm_places qm_danced vm_runMost vm_runBegins qm_heardBy vm_fitMany vm_fitFirst vm_fitBeats vm_listenLeaves qm_there vm_metAt vm_metIn qm_wins vm_nightHoles vm_nightFirst vm_nightMud vm_nightSlips vm_drawnNow, (qm_lines, .inl (cI, 5, .inl (g1))), (qm_has, .inl (cI, 55, .inl (g948))), (qm_meets, .inl (cI, 30, .inl (g1242))), (qm_isMud, .inl (cZ, 1000, .inl (g1362))), (qm_cell, .inl (cI, 120, .inl (fm_cell))), (qm_tune, .inl (cI, 50, .inl (fm_tune))), (qm_change, .inl (cI, 800, .inl (fm_change)))] := ⟨hP, hD⟩
      have hl : lv_has ls 2 [(1, .int x1363), (0, .ref qm)] := hl
      refine lv_iload_n hx hb dX12_clears_54 rfl (lv_at hl 0 rfl) ?_
      refine lv_sipush (v := 200) hx hb dX12_clears_55 (by decide) ?_
      refine lv_icmp_ge (tgt := 78) hx hb dX12_clears_58 (by decide) (fun hc => ?_) (fun hc => ?_)
      · have hq1365 : 200 ≤ x1363.toInt := tq_le (by decide) rfl hc
        obtain ⟨hP9, hD9⟩ : ct_B D A H [mo qm vm_thrown qm_width qm_many qm_cells qm_moved qm_tape vm_taped vm_at vm_token vm_place vm_value vm_word vm_bad vm_badPlace vm_fault vm_faultPlace qm_lines qm_has qm_round qm_meets qm_stumble qm_isMud qm_cell qm_tune qm_change qm_isKept qm_steps qm_places qm_danced vm_runMost vm_runBegins qm_heardBy vm_fitMany vm_fitFirst vm_fitBeats vm_listenLeaves qm_there vm_metAt vm_metIn qm_wins vm_nightHoles vm_nightFirst vm_nightMud vm_nightSlips vm_drawnNow, (qm_lines, .inl (cI, 5, .inl (g1))), (qm_has, .inl (cI, 55, .inl (g948))), (qm_meets, .inl (cI, 30, .inl (g1242))), (qm_isMud, .inl (cZ, 1000, .inl (g1362))), (qm_cell, .inl (cI, 120, .inl (fm_cell))), (qm_tune, .inl (cI, 50, .inl (fm_tune))), (qm_change, .inl (cI, 800, .inl (fm_change)))] := ⟨hP.sub [0, 1, 2, 3, 4, 5, 6, 7] rfl, hD.sub [0, 1, 2, 3, 4, 5, 6, 7] (by decide) rfl⟩
        exact W.vret hx hb hr (fun t ht hW => ⟨⟨(g1, g948, g1242, g1362), rfl, ⟨h_g948, (show rf_c g948 fm_cell by exact he0), (show rf_t g948 fm_tune by exact he1), (show rf_g g948 fm_change by exact he2), (show (g948 54).toInt = 0 by exact hz54)⟩, by rw [ht]; exact hP9, hD9⟩, hS.F ht⟩) hS.2.2 dX12_clears_78
      · have hq1365 : x1363.toInt < 200 := tq_nle (by decide) rfl hc
        refine lv_aload_n hx hb dX12_clears_61 rfl (lv_at hl 1 rfl) ?_
        refine va_get (D := D) (ci := 12) (v := .ref qm_isMud) (C := RX12) (T := TX12) (N := 45) hx hb hts hi12 hown hK hP 0 rfl rfl 21 (by decide) (hts (.fieldLink RX12 46 "OverHillModel" "isMud" "[Z") (by decide +kernel)) (fun _ h9 => h9) rfl dX12_clears_62 ?_
        refine lv_sipush (v := 800) hx hb dX12_clears_65 (by decide) ?_
        refine lv_iload_n hx hb dX12_clears_68 rfl (lv_at hl 0 rfl) ?_
        refine lv_iadd hx hb dX12_clears_69 ?_
        refine lv_topi (fun z1366 ez1366 => ?_)
        have fz1366 : z1366.toInt = 800 + x1363.toInt := by rw [ez1366]; exact tq_add (by decide) rfl (by omega)
        refine lv_iconst (v := 0) hx hb dX12_clears_70 (by decide) ?_
        refine va_zast (D := D) hx hb hK hP hD hS 4 3 rfl rfl (tq_in rfl (by omega)) dX12_clears_71 (fun H locs hP hD hS => ?_)
        obtain ⟨g1367, hP, hD⟩ : ∃ g1367 : Nat → Int32, ct_B D A H [mo qm vm_thrown qm_width qm_many qm_cells qm_moved qm_tape vm_taped vm_at vm_token vm_place vm_value vm_word vm_bad vm_badPlace vm_fault vm_faultPlace qm_lines qm_has qm_round qm_meets qm_stumble qm_isMud qm_cell qm_tune qm_change qm_isKept qm_steps qm_places qm_danced vm_runMost vm_runBegins qm_heardBy vm_fitMany vm_fitFirst vm_fitBeats vm_listenLeaves qm_there vm_metAt vm_metIn qm_wins vm_nightHoles vm_nightFirst vm_nightMud vm_nightSlips vm_drawnNow, (qm_lines, .inl (cI, 5, .inl (g1))), (qm_has, .inl (cI, 55, .inl (g948))), (qm_meets, .inl (cI, 30, .inl (g1242))), (qm_isMud, .inl (cZ, 1000, .inl (g1367))), (qm_cell, .inl (cI, 120, .inl (fm_cell))), (qm_tune, .inl (cI, 50, .inl (fm_tune))), (qm_change, .inl (cI, 800, .inl (fm_change)))] := ⟨_, hP, hD⟩
        obtain ⟨z1368, ez1368⟩ : ∃ z : Int32, z = x1363 + 1 := ⟨_, rfl⟩
        have fz1368 : z1368.toInt = x1363.toInt + 1 := by rw [ez1368]; exact tq_add rfl (by decide) (by omega)
        refine lv_iinc (v := z1368) (lv' := [(1, .int z1368), (0, .ref qm)]) hx hb dX12_clears_72 hl (k := 0) rfl ez1368.symm (by decide) rfl (fun ls hl => ?_)
        refine lv_goto (tgt := 54) hx hb dX12_clears_75 (by decide) ?_
        exact ih1364 (g1367, z1368) _ _ _ (show (200 - z1368.toInt).toNat < (200 - x1363.toInt).toNat by omega) ⟨(show 0 ≤ z1368.toInt ∧ z1368.toInt ≤ 200 by omega), ⟨hP, hD⟩, hS, lv_sub hl [0, 1] rfl⟩
    · have hq1245 : x1243.toInt < 6 := tq_nle (by decide) rfl hc
      refine lv_aload_n hx hb dX12_clears_35 rfl (lv_at hl 1 rfl) ?_
      refine va_get (D := D) (ci := 12) (v := .ref qm_meets) (C := RX12) (T := TX12) (N := 45) hx hb hts hi12 hown hK hP 0 rfl rfl 19 (by decide) (hts (.fieldLink RX12 40 "OverHillModel" "meets" "[I") (by decide +kernel)) (fun _ h9 => h9) rfl dX12_clears_36 ?_
      refine lv_bipush (v := 24) hx hb dX12_clears_39 (by decide) ?_
      refine lv_iload_n hx hb dX12_clears_41 rfl (lv_at hl 0 rfl) ?_
      refine lv_iadd hx hb dX12_clears_42 ?_
      refine lv_topi (fun z1369 ez1369 => ?_)
      have fz1369 : z1369.toInt = 24 + x1243.toInt := by rw [ez1369]; exact tq_add (by decide) rfl (by omega)
      refine lv_bipush (v := 63) hx hb dX12_clears_43 (by decide) ?_
      refine va_iast (D := D) hx hb hK hP hD hS 3 0 rfl rfl (tq_in rfl (by omega)) dX12_clears_45 (fun H locs hP hD hS => ?_)
      obtain ⟨g1370, hP, hD⟩ : ∃ g1370 : Nat → Int32, ct_B D A H [mo qm vm_thrown qm_width qm_many qm_cells qm_moved qm_tape vm_taped vm_at vm_token vm_place vm_value vm_word vm_bad vm_badPlace vm_fault vm_faultPlace qm_lines qm_has qm_round qm_meets qm_stumble qm_isMud qm_cell qm_tune qm_change qm_isKept qm_steps qm_places qm_danced vm_runMost vm_runBegins qm_heardBy vm_fitMany vm_fitFirst vm_fitBeats vm_listenLeaves qm_there vm_metAt vm_metIn qm_wins vm_nightHoles vm_nightFirst vm_nightMud vm_nightSlips vm_drawnNow, (qm_lines, .inl (cI, 5, .inl (g1))), (qm_has, .inl (cI, 55, .inl (g948))), (qm_meets, .inl (cI, 30, .inl (g1370))), (qm_isMud, .inl (cZ, 1000, .inl (fm_isMud))), (qm_cell, .inl (cI, 120, .inl (fm_cell))), (qm_tune, .inl (cI, 50, .inl (fm_tune))), (qm_change, .inl (cI, 800, .inl (fm_change)))] := ⟨_, hP, hD⟩
      obtain ⟨z1371, ez1371⟩ : ∃ z : Int32, z = x1243 + 1 := ⟨_, rfl⟩
      have fz1371 : z1371.toInt = x1243.toInt + 1 := by rw [ez1371]; exact tq_add rfl (by decide) (by omega)
      refine lv_iinc (v := z1371) (lv' := [(1, .int z1371), (0, .ref qm)]) hx hb dX12_clears_46 hl (k := 0) rfl ez1371.symm (by decide) rfl (fun ls hl => ?_)
      refine lv_goto (tgt := 29) hx hb dX12_clears_49 (by decide) ?_
      exact ih1244 (g1370, z1371) _ _ _ (show (6 - z1371.toInt).toNat < (6 - x1243.toInt).toNat by omega) ⟨(show 0 ≤ z1371.toInt ∧ z1371.toInt ≤ 6 by omega), ⟨hP, hD⟩, hS, lv_sub hl [0, 1] rfl⟩
  · have hq951 : x949.toInt < 11 := tq_nle (by decide) rfl hc
    refine lv_aload_n hx hb dX12_clears_15 rfl (lv_at hl 1 rfl) ?_
    refine lv_iload_n hx hb dX12_clears_16 rfl (lv_at hl 0 rfl) ?_
    refine lv_iconst (v := 0) hx hb dX12_clears_17 (by decide) ?_
    refine ct_callv (D := D) (wr := [(qm_lines, .inl (cI, 5, .inl (g1))), (qm_meets, .inl (cI, 30, .inl (fm_meets))), (qm_isMud, .inl (cZ, 1000, .inl (fm_isMud))), (qm_cell, .inl (cI, 120, .inl (fm_cell))), (qm_tune, .inl (cI, 50, .inl (fm_tune))), (qm_change, .inl (cI, 800, .inl (fm_change)))]) (va_runV (As := [.int x949, .int 0]) (rest := []) ⟨hx, hb, hml, hown, hts⟩ (c_X12_reads l D G cI cJ cB cZ cO qm vm_thrown qm_width qm_many qm_cells qm_moved qm_tape vm_taped vm_at vm_token vm_place vm_value vm_word vm_bad vm_badPlace vm_fault vm_faultPlace qm_lines qm_has g948 qm_round qm_meets qm_stumble qm_isMud qm_cell qm_tune qm_change qm_isKept qm_steps qm_places qm_danced vm_runMost vm_runBegins qm_heardBy vm_fitMany vm_fitFirst vm_fitBeats vm_listenLeaves qm_there vm_metAt vm_metIn qm_wins vm_nightHoles vm_nightFirst vm_nightMud vm_nightSlips vm_drawnNow x949 0 h_vm_taped h_vm_at h_vm_value (by omega) H.size) (cwV 2 hts gX12_clears_X12_reads rfl rfl rfl (by decide +kernel) ⟨Nat.le_of_ble_eq_true rfl, Nat.le_of_ble_eq_true rfl⟩) (ct_preV (T := ct_T cI cJ cB cZ cO) (ci := 12) (q0 := 0) hE hH hP hD hS hA [0, 2] (by decide) rfl rfl rfl) rfl rfl hl.1 rfl (lv_room (Nat.le_of_ble_eq_true rfl)) dX12_clears_18 ⟨Nat.le_of_ble_eq_true rfl, Nat.le_of_ble_eq_true rfl⟩) hP hD hS hA [0, 2] [1, 3, 4, 5, 6, 7] rfl rfl (by decide) (by decide) (fun u H locs hw hP hD hS => ?_)
    obtain ⟨g1372, rfl⟩ : ∃ z, z = u := ⟨_, rfl⟩
    obtain ⟨hP, hD⟩ : ct_B D A H [(qm_lines, .inl (cI, 5, .inl (g1))), (qm_meets, .inl (cI, 30, .inl (fm_meets))), (qm_isMud, .inl (cZ, 1000, .inl (fm_isMud))), (qm_cell, .inl (cI, 120, .inl (fm_cell))), (qm_tune, .inl (cI, 50, .inl (fm_tune))), (qm_change, .inl (cI, 800, .inl (fm_change))), mo qm vm_thrown qm_width qm_many qm_cells qm_moved qm_tape vm_taped vm_at vm_token vm_place vm_value vm_word vm_bad vm_badPlace vm_fault vm_faultPlace qm_lines qm_has qm_round qm_meets qm_stumble qm_isMud qm_cell qm_tune qm_change qm_isKept qm_steps qm_places qm_danced vm_runMost vm_runBegins qm_heardBy vm_fitMany vm_fitFirst vm_fitBeats vm_listenLeaves qm_there vm_metAt vm_metIn qm_wins vm_nightHoles vm_nightFirst vm_nightMud vm_nightSlips vm_drawnNow, (qm_has, .inl (cI, 55, .inl (g1372)))] := ⟨hP, hD⟩
    have hp0 := hw
    clear hw
    have hp_1373 : g1372 = upd g948 (44 + x949.toInt).toNat (0 : Int32) := hp0
    clear hp0
    have hg1374 : g1372 = upd g948 (44 + x949.toInt).toNat (0 : Int32) := hp_1373
    have h_g1372 : ar_ok [0, (-2147483648), (-2147483648), 0, 0, 0, 0, 0, 0, 0, 0] [20, 2147483647, 2147483647, 12, 12, 11, 11, 8, 12, 5, 40] g1372 := by rw [hg1374]; exact ar_putr h_g948 ((44 + x949.toInt).toNat) (0 : Int32) 44 54 (by omega) (by omega) (show 0 ≤ (0 : Int32).toInt ∧ (0 : Int32).toInt ≤ 5 by decide) (by decide)
    have hrel1375 : rf_c g1372 fm_cell := by rw [hg1374]; exact rf_c_z he0 _
    have hrel1376 : rf_t g1372 fm_tune := by rw [hg1374]; exact rf_t_z he1 _
    have hrel1377 : rf_g g1372 fm_change := by rw [hg1374]; exact rf_g_hi he2 _ (by omega)
    obtain ⟨z1378, ez1378⟩ : ∃ z : Int32, z = x949 + 1 := ⟨_, rfl⟩
    have fz1378 : z1378.toInt = x949.toInt + 1 := by rw [ez1378]; exact tq_add rfl (by decide) (by omega)
    refine lv_iinc (v := z1378) (lv' := [(1, .int z1378), (0, .ref qm)]) hx hb dX12_clears_21 hl (k := 0) rfl ez1378.symm (by decide) rfl (fun ls hl => ?_)
    refine lv_goto (tgt := 9) hx hb dX12_clears_24 (by decide) ?_
    obtain ⟨hP9, hD9⟩ : ct_B D A H [mo qm vm_thrown qm_width qm_many qm_cells qm_moved qm_tape vm_taped vm_at vm_token vm_place vm_value vm_word vm_bad vm_badPlace vm_fault vm_faultPlace qm_lines qm_has qm_round qm_meets qm_stumble qm_isMud qm_cell qm_tune qm_change qm_isKept qm_steps qm_places qm_danced vm_runMost vm_runBegins qm_heardBy vm_fitMany vm_fitFirst vm_fitBeats vm_listenLeaves qm_there vm_metAt vm_metIn qm_wins vm_nightHoles vm_nightFirst vm_nightMud vm_nightSlips vm_drawnNow, (qm_lines, .inl (cI, 5, .inl (g1))), (qm_has, .inl (cI, 55, .inl (g1372))), (qm_meets, .inl (cI, 30, .inl (fm_meets))), (qm_isMud, .inl (cZ, 1000, .inl (fm_isMud))), (qm_cell, .inl (cI, 120, .inl (fm_cell))), (qm_tune, .inl (cI, 50, .inl (fm_tune))), (qm_change, .inl (cI, 800, .inl (fm_change)))] := ⟨hP.sub [6, 0, 7, 1, 2, 3, 4, 5] rfl, hD.sub [6, 0, 7, 1, 2, 3, 4, 5] (by decide) rfl⟩
    exact ih950 (g1372, z1378) _ _ _ (show (11 - z1378.toInt).toNat < (11 - x949.toInt).toNat by omega) ⟨h_g1372, (show 0 ≤ z1378.toInt ∧ z1378.toInt ≤ 11 by omega), (show rf_c g1372 fm_cell by exact hrel1375), (show rf_t g1372 fm_tune by exact hrel1376), (show rf_g g1372 fm_change by exact hrel1377), (show (z1378.toInt ≤ 10 ∨ (g1372 54).toInt = 0) by exact z54_step hg1374 (by omega) (by omega) (by omega)), ⟨hP9, hD9⟩, hS, lv_sub hl [0, 1] rfl⟩
abbrev w_c_copyRow1 (cI cJ cB cZ cO : ClassId) (qa : Nat) (na : Nat) (fa : Nat → Int32) : va_W := [(qa, .inl (cI, na, .inl (fa)))]
set_option maxHeartbeats 4000000 in
set_option maxRecDepth 100000 in
/-- X12 copyRow -/
theorem c_copyRow1 (l : Launch) (D : va_G) (G : ct_G) (cI cJ cB cZ cO : ClassId) (qa : Nat) (na : Nat) (fa : Nat → Int32) (a3 : Int32) (a4 : Int32) (h_a3 : 0 ≤ a3.toInt ∧ a3.toInt ≤ 4) (h_a4 : 0 ≤ a4.toInt ∧ a4.toInt ≤ 4) (h_ne : a3.toInt ≠ a4.toInt) (h_na : 5 ≤ na) (sz : Nat) : Met l yX12_copyRow wsX12_copyRow ({ frames := 0, cells := 0, slots := 0, locals := 0 }) (va_Pc [.ref qa, .int 1, .int a3, .int a4] (ct_P D (ct_T cI cJ cB cZ cO) G (w_c_copyRow1 cI cJ cB cZ cO qa na fa) sz)) (va_Qv (fun (u : (Nat → Int32)) => (u = cr fa 1 a3.toInt.toNat a4.toInt.toNat 1)) (fun (u : (Nat → Int32)) t => ct_Q D (va_A (w_c_copyRow1 cI cJ cB cZ cO qa na fa) sz) [(qa, .inl (cI, na, .inl (u)))] t) (va_A (w_c_copyRow1 cI cJ cB cZ cO qa na fa) sz)) 0 0 (va_A (w_c_copyRow1 cI cJ cB cZ cO qa na fa) sz) := by
  refine Met.ofW (cc := cX12_copyRow) (maxL := 5) (ret := none) (by decide) rfl ?_
  intro p e s m args below meth c s₁ B hml hv
  obtain ⟨rfl, hsz, hP, hE, hD0, hH⟩ := hv
  have hx := B.exec
  have hb := B.bytes
  have hr := B.returns
  have hts := atoms_spec (ws := wsX12_copyRow) B.pre
  have hown : s.vm.findClass RX12 = some m.cls := findClass_of_methodNamed B.named
  have hlocks := B.notSynchronized
  have hK := hE.1
  subst hsz
  have hD := hD0.self (sz := s.heap.size)
  generalize hAe : va_A (w_c_copyRow1 cI cJ cB cZ cO qa na fa) s.heap.size = A at hD hH ⊢
  have hA : ∀ q : Nat, s.heap.size ≤ q → A q := fun q h => by rw [← hAe]; exact Or.inr h
  have hS : va_S A s.heap s.heap [] := va_S.rf
  obtain ⟨hP, hD⟩ : ct_B D A s.heap [(qa, .inl (cI, na, .inl (fa)))] := ⟨hP, hD⟩
  have hl := lv_entry ([.ref qa, .int 1, .int a3, .int a4]) (n := 5) (Nat.le_of_ble_eq_true rfl)
  rw [lg_entry_eq]
  generalize (lg_sl ([.ref qa, .int 1, .int a3, .int a4]) ++ List.replicate (5 - (lg_sl ([.ref qa, .int 1, .int a3, .int a4])).length) Slot.unset).toArray = ls at hl ⊢
  have hl : lv_has ls 5 [(0, .ref qa), (1, .int 1), (2, .int a3), (3, .int a4)] := hl
  obtain ⟨H, hHe⟩ : ∃ H : Heap, H = s.heap := ⟨_, rfl⟩
  rw [← hHe] at hP
  have hS : va_S A s.heap H [] := by rw [hHe]; exact va_S.rf
  refine ct_start hHe ?_
  refine lv_iconst (v := 0) hx hb dX12_copyRow_0 (by decide) ?_
  refine lv_istore (lv' := [(4, .int 0), (0, .ref qa), (1, .int 1), (2, .int a3), (3, .int a4)]) hx hb dX12_copyRow_1 hl (by decide) rfl (fun ls hl => ?_)
  refine ct_loop (X := (Nat → Int32) × Int32) (fun x => (1 - x.2.toInt).toNat) (fun x H locs ls => ((0 ≤ x.2.toInt ∧ x.2.toInt ≤ 1)) ∧ (x.1 = cr fa 1 a3.toInt.toNat a4.toInt.toNat (x.2.toInt).toNat) ∧ ct_B D A H [(qa, .inl (cI, na, .inl (x.1)))] ∧ va_S A s.heap H locs ∧ lv_has ls 5 [(4, .int x.2), (0, .ref qa), (1, .int 1), (2, .int a3), (3, .int a4)]) 3 (fa, (0 : Int32)) ⟨(show 0 ≤ (0 : Int32).toInt ∧ (0 : Int32).toInt ≤ 1 by decide), (show fa = cr fa 1 a3.toInt.toNat a4.toInt.toNat ((0 : Int32).toInt).toNat by exact cr_zero _ _ _ _), ⟨hP, hD⟩, hS, lv_sub hl [0, 1, 2, 3, 4] rfl⟩ (fun x ih29 H locs ls hI => ?_)
  obtain ⟨g27, x28⟩ := x
  obtain ⟨h_x28, he0, ⟨hP, hD⟩, hS, hl⟩ := hI
  change (0 ≤ x28.toInt ∧ x28.toInt ≤ 1) at h_x28
  change g27 = cr fa 1 a3.toInt.toNat a4.toInt.toNat (x28.toInt).toNat at he0
  obtain ⟨hP, hD⟩ : ct_B D A H [(qa, .inl (cI, na, .inl (g27)))] := ⟨hP, hD⟩
  have hl : lv_has ls 5 [(4, .int x28), (0, .ref qa), (1, .int 1), (2, .int a3), (3, .int a4)] := hl
  refine lv_iload hx hb dX12_copyRow_3 (lv_at hl 0 rfl) ?_
  refine lv_iload_n hx hb dX12_copyRow_5 rfl (lv_at hl 2 rfl) ?_
  refine lv_icmp_ge (tgt := 31) hx hb dX12_copyRow_6 (by decide) (fun hc => ?_) (fun hc => ?_)
  · have hq30 : 1 ≤ x28.toInt := tq_le (by decide) rfl hc
    obtain ⟨hP9, hD9⟩ : ct_B D A H [(qa, .inl (cI, na, .inl (g27)))] := ⟨hP.sub [0] rfl, hD.sub [0] (by decide) rfl⟩
    exact W.vret hx hb hr (fun t ht hW => ⟨⟨g27, rfl, (show g27 = cr fa 1 a3.toInt.toNat a4.toInt.toNat 1 by rw [he0]; exact congrArg (cr fa 1 a3.toInt.toNat a4.toInt.toNat) (by omega)), by rw [ht]; exact hP9, hD9⟩, hS.F ht⟩) hS.2.2 dX12_copyRow_31
  · have hq30 : x28.toInt < 1 := tq_nle (by decide) rfl hc
    refine lv_aload_n hx hb dX12_copyRow_9 rfl (lv_at hl 1 rfl) ?_
    refine lv_iload_n hx hb dX12_copyRow_10 rfl (lv_at hl 2 rfl) ?_
    refine lv_iload_n hx hb dX12_copyRow_11 rfl (lv_at hl 4 rfl) ?_
    refine lv_imul hx hb dX12_copyRow_12 ?_
    refine lv_topi (fun z31 ez31 => ?_)
    have fz31 : z31.toInt = 1 * a4.toInt := by rw [ez31]; exact tq_mul (by decide) rfl (by omega)
    refine lv_iload hx hb dX12_copyRow_13 (lv_at hl 0 rfl) ?_
    refine lv_iadd hx hb dX12_copyRow_15 ?_
    refine lv_topi (fun z32 ez32 => ?_)
    have fz32 : z32.toInt = z31.toInt + x28.toInt := by rw [ez32]; exact tq_add rfl rfl (by omega)
    refine lv_aload_n hx hb dX12_copyRow_16 rfl (lv_at hl 1 rfl) ?_
    refine lv_iload_n hx hb dX12_copyRow_17 rfl (lv_at hl 2 rfl) ?_
    refine lv_iload_n hx hb dX12_copyRow_18 rfl (lv_at hl 3 rfl) ?_
    refine lv_imul hx hb dX12_copyRow_19 ?_
    refine lv_topi (fun z33 ez33 => ?_)
    have fz33 : z33.toInt = 1 * a3.toInt := by rw [ez33]; exact tq_mul (by decide) rfl (by omega)
    refine lv_iload hx hb dX12_copyRow_20 (lv_at hl 0 rfl) ?_
    refine lv_iadd hx hb dX12_copyRow_22 ?_
    refine lv_topi (fun z34 ez34 => ?_)
    have fz34 : z34.toInt = z33.toInt + x28.toInt := by rw [ez34]; exact tq_add rfl rfl (by omega)
    refine va_iald (D := D) hx hb hK hP 0 0 rfl rfl (tq_in rfl (by omega)) dX12_copyRow_23 ?_
    refine lv_topi (fun z35 ez35 => ?_)
    refine va_iast (D := D) hx hb hK hP hD hS 0 0 rfl rfl (tq_in rfl (by omega)) dX12_copyRow_24 (fun H locs hP hD hS => ?_)
    obtain ⟨g36, hcr, hP, hD⟩ : ∃ g36 : Nat → Int32, g36 = cr fa 1 a3.toInt.toNat a4.toInt.toNat (x28.toInt + 1).toNat ∧ ct_B D A H [(qa, .inl (cI, na, .inl (g36)))] := ⟨_, cr_step2 he0 (by omega) (by omega) (by omega) ez35 (by omega) (by omega), hP, hD⟩
    obtain ⟨z37, ez37⟩ : ∃ z : Int32, z = x28 + 1 := ⟨_, rfl⟩
    have fz37 : z37.toInt = x28.toInt + 1 := by rw [ez37]; exact tq_add rfl (by decide) (by omega)
    refine lv_iinc (v := z37) (lv' := [(4, .int z37), (0, .ref qa), (1, .int 1), (2, .int a3), (3, .int a4)]) hx hb dX12_copyRow_25 hl (k := 0) rfl ez37.symm (by decide) rfl (fun ls hl => ?_)
    refine lv_goto (tgt := 3) hx hb dX12_copyRow_28 (by decide) ?_
    exact ih29 (g36, z37) _ _ _ (show (1 - z37.toInt).toNat < (1 - x28.toInt).toNat by omega) ⟨(show 0 ≤ z37.toInt ∧ z37.toInt ≤ 1 by omega), (show g36 = cr fa 1 a3.toInt.toNat a4.toInt.toNat (z37.toInt).toNat by (rw [hcr]; congr 1; omega)), ⟨hP, hD⟩, hS, lv_sub hl [0, 1, 2, 3, 4] rfl⟩
abbrev w_c_copyRow6 (cI cJ cB cZ cO : ClassId) (qa : Nat) (na : Nat) (fa : Nat → Int32) : va_W := [(qa, .inl (cI, na, .inl (fa)))]
set_option maxHeartbeats 4000000 in
set_option maxRecDepth 100000 in
/-- X12 copyRow -/
theorem c_copyRow6 (l : Launch) (D : va_G) (G : ct_G) (cI cJ cB cZ cO : ClassId) (qa : Nat) (na : Nat) (fa : Nat → Int32) (a3 : Int32) (a4 : Int32) (h_a3 : 0 ≤ a3.toInt ∧ a3.toInt ≤ 4) (h_a4 : 0 ≤ a4.toInt ∧ a4.toInt ≤ 4) (h_ne : a3.toInt ≠ a4.toInt) (h_na : 30 ≤ na) (sz : Nat) : Met l yX12_copyRow wsX12_copyRow ({ frames := 0, cells := 0, slots := 0, locals := 0 }) (va_Pc [.ref qa, .int 6, .int a3, .int a4] (ct_P D (ct_T cI cJ cB cZ cO) G (w_c_copyRow6 cI cJ cB cZ cO qa na fa) sz)) (va_Qv (fun (u : (Nat → Int32)) => (u = cr fa 6 a3.toInt.toNat a4.toInt.toNat 6)) (fun (u : (Nat → Int32)) t => ct_Q D (va_A (w_c_copyRow6 cI cJ cB cZ cO qa na fa) sz) [(qa, .inl (cI, na, .inl (u)))] t) (va_A (w_c_copyRow6 cI cJ cB cZ cO qa na fa) sz)) 0 0 (va_A (w_c_copyRow6 cI cJ cB cZ cO qa na fa) sz) := by
  refine Met.ofW (cc := cX12_copyRow) (maxL := 5) (ret := none) (by decide) rfl ?_
  intro p e s m args below meth c s₁ B hml hv
  obtain ⟨rfl, hsz, hP, hE, hD0, hH⟩ := hv
  have hx := B.exec
  have hb := B.bytes
  have hr := B.returns
  have hts := atoms_spec (ws := wsX12_copyRow) B.pre
  have hown : s.vm.findClass RX12 = some m.cls := findClass_of_methodNamed B.named
  have hlocks := B.notSynchronized
  have hK := hE.1
  subst hsz
  have hD := hD0.self (sz := s.heap.size)
  generalize hAe : va_A (w_c_copyRow6 cI cJ cB cZ cO qa na fa) s.heap.size = A at hD hH ⊢
  have hA : ∀ q : Nat, s.heap.size ≤ q → A q := fun q h => by rw [← hAe]; exact Or.inr h
  have hS : va_S A s.heap s.heap [] := va_S.rf
  obtain ⟨hP, hD⟩ : ct_B D A s.heap [(qa, .inl (cI, na, .inl (fa)))] := ⟨hP, hD⟩
  have hl := lv_entry ([.ref qa, .int 6, .int a3, .int a4]) (n := 5) (Nat.le_of_ble_eq_true rfl)
  rw [lg_entry_eq]
  generalize (lg_sl ([.ref qa, .int 6, .int a3, .int a4]) ++ List.replicate (5 - (lg_sl ([.ref qa, .int 6, .int a3, .int a4])).length) Slot.unset).toArray = ls at hl ⊢
  have hl : lv_has ls 5 [(0, .ref qa), (1, .int 6), (2, .int a3), (3, .int a4)] := hl
  obtain ⟨H, hHe⟩ : ∃ H : Heap, H = s.heap := ⟨_, rfl⟩
  rw [← hHe] at hP
  have hS : va_S A s.heap H [] := by rw [hHe]; exact va_S.rf
  refine ct_start hHe ?_
  refine lv_iconst (v := 0) hx hb dX12_copyRow_0 (by decide) ?_
  refine lv_istore (lv' := [(4, .int 0), (0, .ref qa), (1, .int 6), (2, .int a3), (3, .int a4)]) hx hb dX12_copyRow_1 hl (by decide) rfl (fun ls hl => ?_)
  refine ct_loop (X := (Nat → Int32) × Int32) (fun x => (6 - x.2.toInt).toNat) (fun x H locs ls => ((0 ≤ x.2.toInt ∧ x.2.toInt ≤ 6)) ∧ (x.1 = cr fa 6 a3.toInt.toNat a4.toInt.toNat (x.2.toInt).toNat) ∧ ct_B D A H [(qa, .inl (cI, na, .inl (x.1)))] ∧ va_S A s.heap H locs ∧ lv_has ls 5 [(4, .int x.2), (0, .ref qa), (1, .int 6), (2, .int a3), (3, .int a4)]) 3 (fa, (0 : Int32)) ⟨(show 0 ≤ (0 : Int32).toInt ∧ (0 : Int32).toInt ≤ 6 by decide), (show fa = cr fa 6 a3.toInt.toNat a4.toInt.toNat ((0 : Int32).toInt).toNat by exact cr_zero _ _ _ _), ⟨hP, hD⟩, hS, lv_sub hl [0, 1, 2, 3, 4] rfl⟩ (fun x ih71 H locs ls hI => ?_)
  obtain ⟨g69, x70⟩ := x
  obtain ⟨h_x70, he0, ⟨hP, hD⟩, hS, hl⟩ := hI
  change (0 ≤ x70.toInt ∧ x70.toInt ≤ 6) at h_x70
  change g69 = cr fa 6 a3.toInt.toNat a4.toInt.toNat (x70.toInt).toNat at he0
  obtain ⟨hP, hD⟩ : ct_B D A H [(qa, .inl (cI, na, .inl (g69)))] := ⟨hP, hD⟩
  have hl : lv_has ls 5 [(4, .int x70), (0, .ref qa), (1, .int 6), (2, .int a3), (3, .int a4)] := hl
  refine lv_iload hx hb dX12_copyRow_3 (lv_at hl 0 rfl) ?_
  refine lv_iload_n hx hb dX12_copyRow_5 rfl (lv_at hl 2 rfl) ?_
  refine lv_icmp_ge (tgt := 31) hx hb dX12_copyRow_6 (by decide) (fun hc => ?_) (fun hc => ?_)
  · have hq72 : 6 ≤ x70.toInt := tq_le (by decide) rfl hc
    obtain ⟨hP9, hD9⟩ : ct_B D A H [(qa, .inl (cI, na, .inl (g69)))] := ⟨hP.sub [0] rfl, hD.sub [0] (by decide) rfl⟩
    exact W.vret hx hb hr (fun t ht hW => ⟨⟨g69, rfl, (show g69 = cr fa 6 a3.toInt.toNat a4.toInt.toNat 6 by rw [he0]; exact congrArg (cr fa 6 a3.toInt.toNat a4.toInt.toNat) (by omega)), by rw [ht]; exact hP9, hD9⟩, hS.F ht⟩) hS.2.2 dX12_copyRow_31
  · have hq72 : x70.toInt < 6 := tq_nle (by decide) rfl hc
    refine lv_aload_n hx hb dX12_copyRow_9 rfl (lv_at hl 1 rfl) ?_
    refine lv_iload_n hx hb dX12_copyRow_10 rfl (lv_at hl 2 rfl) ?_
    refine lv_iload_n hx hb dX12_copyRow_11 rfl (lv_at hl 4 rfl) ?_
    refine lv_imul hx hb dX12_copyRow_12 ?_
    refine lv_topi (fun z73 ez73 => ?_)
    have fz73 : z73.toInt = 6 * a4.toInt := by rw [ez73]; exact tq_mul (by decide) rfl (by omega)
    refine lv_iload hx hb dX12_copyRow_13 (lv_at hl 0 rfl) ?_
    refine lv_iadd hx hb dX12_copyRow_15 ?_
    refine lv_topi (fun z74 ez74 => ?_)
    have fz74 : z74.toInt = z73.toInt + x70.toInt := by rw [ez74]; exact tq_add rfl rfl (by omega)
    refine lv_aload_n hx hb dX12_copyRow_16 rfl (lv_at hl 1 rfl) ?_
    refine lv_iload_n hx hb dX12_copyRow_17 rfl (lv_at hl 2 rfl) ?_
    refine lv_iload_n hx hb dX12_copyRow_18 rfl (lv_at hl 3 rfl) ?_
    refine lv_imul hx hb dX12_copyRow_19 ?_
    refine lv_topi (fun z75 ez75 => ?_)
    have fz75 : z75.toInt = 6 * a3.toInt := by rw [ez75]; exact tq_mul (by decide) rfl (by omega)
    refine lv_iload hx hb dX12_copyRow_20 (lv_at hl 0 rfl) ?_
    refine lv_iadd hx hb dX12_copyRow_22 ?_
    refine lv_topi (fun z76 ez76 => ?_)
    have fz76 : z76.toInt = z75.toInt + x70.toInt := by rw [ez76]; exact tq_add rfl rfl (by omega)
    refine va_iald (D := D) hx hb hK hP 0 0 rfl rfl (tq_in rfl (by omega)) dX12_copyRow_23 ?_
    refine lv_topi (fun z77 ez77 => ?_)
    refine va_iast (D := D) hx hb hK hP hD hS 0 0 rfl rfl (tq_in rfl (by omega)) dX12_copyRow_24 (fun H locs hP hD hS => ?_)
    obtain ⟨g78, hcr, hP, hD⟩ : ∃ g78 : Nat → Int32, g78 = cr fa 6 a3.toInt.toNat a4.toInt.toNat (x70.toInt + 1).toNat ∧ ct_B D A H [(qa, .inl (cI, na, .inl (g78)))] := ⟨_, cr_step2 he0 (by omega) (by omega) (by omega) ez77 (by omega) (by omega), hP, hD⟩
    obtain ⟨z79, ez79⟩ : ∃ z : Int32, z = x70 + 1 := ⟨_, rfl⟩
    have fz79 : z79.toInt = x70.toInt + 1 := by rw [ez79]; exact tq_add rfl (by decide) (by omega)
    refine lv_iinc (v := z79) (lv' := [(4, .int z79), (0, .ref qa), (1, .int 6), (2, .int a3), (3, .int a4)]) hx hb dX12_copyRow_25 hl (k := 0) rfl ez79.symm (by decide) rfl (fun ls hl => ?_)
    refine lv_goto (tgt := 3) hx hb dX12_copyRow_28 (by decide) ?_
    exact ih71 (g78, z79) _ _ _ (show (6 - z79.toInt).toNat < (6 - x70.toInt).toNat by omega) ⟨(show 0 ≤ z79.toInt ∧ z79.toInt ≤ 6 by omega), (show g78 = cr fa 6 a3.toInt.toNat a4.toInt.toNat (z79.toInt).toNat by (rw [hcr]; congr 1; omega)), ⟨hP, hD⟩, hS, lv_sub hl [0, 1, 2, 3, 4] rfl⟩
abbrev w_c_copyRow10 (cI cJ cB cZ cO : ClassId) (qa : Nat) (na : Nat) (fa : Nat → Int32) : va_W := [(qa, .inl (cI, na, .inl (fa)))]
set_option maxHeartbeats 4000000 in
set_option maxRecDepth 100000 in
/-- X12 copyRow -/
theorem c_copyRow10 (l : Launch) (D : va_G) (G : ct_G) (cI cJ cB cZ cO : ClassId) (qa : Nat) (na : Nat) (fa : Nat → Int32) (a3 : Int32) (a4 : Int32) (h_a3 : 0 ≤ a3.toInt ∧ a3.toInt ≤ 4) (h_a4 : 0 ≤ a4.toInt ∧ a4.toInt ≤ 4) (h_ne : a3.toInt ≠ a4.toInt) (h_na : 50 ≤ na) (sz : Nat) : Met l yX12_copyRow wsX12_copyRow ({ frames := 0, cells := 0, slots := 0, locals := 0 }) (va_Pc [.ref qa, .int 10, .int a3, .int a4] (ct_P D (ct_T cI cJ cB cZ cO) G (w_c_copyRow10 cI cJ cB cZ cO qa na fa) sz)) (va_Qv (fun (u : (Nat → Int32)) => (u = cr fa 10 a3.toInt.toNat a4.toInt.toNat 10)) (fun (u : (Nat → Int32)) t => ct_Q D (va_A (w_c_copyRow10 cI cJ cB cZ cO qa na fa) sz) [(qa, .inl (cI, na, .inl (u)))] t) (va_A (w_c_copyRow10 cI cJ cB cZ cO qa na fa) sz)) 0 0 (va_A (w_c_copyRow10 cI cJ cB cZ cO qa na fa) sz) := by
  refine Met.ofW (cc := cX12_copyRow) (maxL := 5) (ret := none) (by decide) rfl ?_
  intro p e s m args below meth c s₁ B hml hv
  obtain ⟨rfl, hsz, hP, hE, hD0, hH⟩ := hv
  have hx := B.exec
  have hb := B.bytes
  have hr := B.returns
  have hts := atoms_spec (ws := wsX12_copyRow) B.pre
  have hown : s.vm.findClass RX12 = some m.cls := findClass_of_methodNamed B.named
  have hlocks := B.notSynchronized
  have hK := hE.1
  subst hsz
  have hD := hD0.self (sz := s.heap.size)
  generalize hAe : va_A (w_c_copyRow10 cI cJ cB cZ cO qa na fa) s.heap.size = A at hD hH ⊢
  have hA : ∀ q : Nat, s.heap.size ≤ q → A q := fun q h => by rw [← hAe]; exact Or.inr h
  have hS : va_S A s.heap s.heap [] := va_S.rf
  obtain ⟨hP, hD⟩ : ct_B D A s.heap [(qa, .inl (cI, na, .inl (fa)))] := ⟨hP, hD⟩
  have hl := lv_entry ([.ref qa, .int 10, .int a3, .int a4]) (n := 5) (Nat.le_of_ble_eq_true rfl)
  rw [lg_entry_eq]
  generalize (lg_sl ([.ref qa, .int 10, .int a3, .int a4]) ++ List.replicate (5 - (lg_sl ([.ref qa, .int 10, .int a3, .int a4])).length) Slot.unset).toArray = ls at hl ⊢
  have hl : lv_has ls 5 [(0, .ref qa), (1, .int 10), (2, .int a3), (3, .int a4)] := hl
  obtain ⟨H, hHe⟩ : ∃ H : Heap, H = s.heap := ⟨_, rfl⟩
  rw [← hHe] at hP
  have hS : va_S A s.heap H [] := by rw [hHe]; exact va_S.rf
  refine ct_start hHe ?_
  refine lv_iconst (v := 0) hx hb dX12_copyRow_0 (by decide) ?_
  refine lv_istore (lv' := [(4, .int 0), (0, .ref qa), (1, .int 10), (2, .int a3), (3, .int a4)]) hx hb dX12_copyRow_1 hl (by decide) rfl (fun ls hl => ?_)
  refine ct_loop (X := (Nat → Int32) × Int32) (fun x => (10 - x.2.toInt).toNat) (fun x H locs ls => ((0 ≤ x.2.toInt ∧ x.2.toInt ≤ 10)) ∧ (x.1 = cr fa 10 a3.toInt.toNat a4.toInt.toNat (x.2.toInt).toNat) ∧ ct_B D A H [(qa, .inl (cI, na, .inl (x.1)))] ∧ va_S A s.heap H locs ∧ lv_has ls 5 [(4, .int x.2), (0, .ref qa), (1, .int 10), (2, .int a3), (3, .int a4)]) 3 (fa, (0 : Int32)) ⟨(show 0 ≤ (0 : Int32).toInt ∧ (0 : Int32).toInt ≤ 10 by decide), (show fa = cr fa 10 a3.toInt.toNat a4.toInt.toNat ((0 : Int32).toInt).toNat by exact cr_zero _ _ _ _), ⟨hP, hD⟩, hS, lv_sub hl [0, 1, 2, 3, 4] rfl⟩ (fun x ih71 H locs ls hI => ?_)
  obtain ⟨g69, x70⟩ := x
  obtain ⟨h_x70, he0, ⟨hP, hD⟩, hS, hl⟩ := hI
  change (0 ≤ x70.toInt ∧ x70.toInt ≤ 10) at h_x70
  change g69 = cr fa 10 a3.toInt.toNat a4.toInt.toNat (x70.toInt).toNat at he0
  obtain ⟨hP, hD⟩ : ct_B D A H [(qa, .inl (cI, na, .inl (g69)))] := ⟨hP, hD⟩
  have hl : lv_has ls 5 [(4, .int x70), (0, .ref qa), (1, .int 10), (2, .int a3), (3, .int a4)] := hl
  refine lv_iload hx hb dX12_copyRow_3 (lv_at hl 0 rfl) ?_
  refine lv_iload_n hx hb dX12_copyRow_5 rfl (lv_at hl 2 rfl) ?_
  refine lv_icmp_ge (tgt := 31) hx hb dX12_copyRow_6 (by decide) (fun hc => ?_) (fun hc => ?_)
  · have hq72 : 10 ≤ x70.toInt := tq_le (by decide) rfl hc
    obtain ⟨hP9, hD9⟩ : ct_B D A H [(qa, .inl (cI, na, .inl (g69)))] := ⟨hP.sub [0] rfl, hD.sub [0] (by decide) rfl⟩
    exact W.vret hx hb hr (fun t ht hW => ⟨⟨g69, rfl, (show g69 = cr fa 10 a3.toInt.toNat a4.toInt.toNat 10 by rw [he0]; exact congrArg (cr fa 10 a3.toInt.toNat a4.toInt.toNat) (by omega)), by rw [ht]; exact hP9, hD9⟩, hS.F ht⟩) hS.2.2 dX12_copyRow_31
  · have hq72 : x70.toInt < 10 := tq_nle (by decide) rfl hc
    refine lv_aload_n hx hb dX12_copyRow_9 rfl (lv_at hl 1 rfl) ?_
    refine lv_iload_n hx hb dX12_copyRow_10 rfl (lv_at hl 2 rfl) ?_
    refine lv_iload_n hx hb dX12_copyRow_11 rfl (lv_at hl 4 rfl) ?_
    refine lv_imul hx hb dX12_copyRow_12 ?_
    refine lv_topi (fun z73 ez73 => ?_)
    have fz73 : z73.toInt = 10 * a4.toInt := by rw [ez73]; exact tq_mul (by decide) rfl (by omega)
    refine lv_iload hx hb dX12_copyRow_13 (lv_at hl 0 rfl) ?_
    refine lv_iadd hx hb dX12_copyRow_15 ?_
    refine lv_topi (fun z74 ez74 => ?_)
    have fz74 : z74.toInt = z73.toInt + x70.toInt := by rw [ez74]; exact tq_add rfl rfl (by omega)
    refine lv_aload_n hx hb dX12_copyRow_16 rfl (lv_at hl 1 rfl) ?_
    refine lv_iload_n hx hb dX12_copyRow_17 rfl (lv_at hl 2 rfl) ?_
    refine lv_iload_n hx hb dX12_copyRow_18 rfl (lv_at hl 3 rfl) ?_
    refine lv_imul hx hb dX12_copyRow_19 ?_
    refine lv_topi (fun z75 ez75 => ?_)
    have fz75 : z75.toInt = 10 * a3.toInt := by rw [ez75]; exact tq_mul (by decide) rfl (by omega)
    refine lv_iload hx hb dX12_copyRow_20 (lv_at hl 0 rfl) ?_
    refine lv_iadd hx hb dX12_copyRow_22 ?_
    refine lv_topi (fun z76 ez76 => ?_)
    have fz76 : z76.toInt = z75.toInt + x70.toInt := by rw [ez76]; exact tq_add rfl rfl (by omega)
    refine va_iald (D := D) hx hb hK hP 0 0 rfl rfl (tq_in rfl (by omega)) dX12_copyRow_23 ?_
    refine lv_topi (fun z77 ez77 => ?_)
    refine va_iast (D := D) hx hb hK hP hD hS 0 0 rfl rfl (tq_in rfl (by omega)) dX12_copyRow_24 (fun H locs hP hD hS => ?_)
    obtain ⟨g78, hcr, hP, hD⟩ : ∃ g78 : Nat → Int32, g78 = cr fa 10 a3.toInt.toNat a4.toInt.toNat (x70.toInt + 1).toNat ∧ ct_B D A H [(qa, .inl (cI, na, .inl (g78)))] := ⟨_, cr_step2 he0 (by omega) (by omega) (by omega) ez77 (by omega) (by omega), hP, hD⟩
    obtain ⟨z79, ez79⟩ : ∃ z : Int32, z = x70 + 1 := ⟨_, rfl⟩
    have fz79 : z79.toInt = x70.toInt + 1 := by rw [ez79]; exact tq_add rfl (by decide) (by omega)
    refine lv_iinc (v := z79) (lv' := [(4, .int z79), (0, .ref qa), (1, .int 10), (2, .int a3), (3, .int a4)]) hx hb dX12_copyRow_25 hl (k := 0) rfl ez79.symm (by decide) rfl (fun ls hl => ?_)
    refine lv_goto (tgt := 3) hx hb dX12_copyRow_28 (by decide) ?_
    exact ih71 (g78, z79) _ _ _ (show (10 - z79.toInt).toNat < (10 - x70.toInt).toNat by omega) ⟨(show 0 ≤ z79.toInt ∧ z79.toInt ≤ 10 by omega), (show g78 = cr fa 10 a3.toInt.toNat a4.toInt.toNat (z79.toInt).toNat by (rw [hcr]; congr 1; omega)), ⟨hP, hD⟩, hS, lv_sub hl [0, 1, 2, 3, 4] rfl⟩
abbrev w_c_copyRow11 (cI cJ cB cZ cO : ClassId) (qa : Nat) (na : Nat) (fa : Nat → Int32) : va_W := [(qa, .inl (cI, na, .inl (fa)))]
set_option maxHeartbeats 4000000 in
set_option maxRecDepth 100000 in
/-- X12 copyRow -/
theorem c_copyRow11 (l : Launch) (D : va_G) (G : ct_G) (cI cJ cB cZ cO : ClassId) (qa : Nat) (na : Nat) (fa : Nat → Int32) (a3 : Int32) (a4 : Int32) (h_a3 : 0 ≤ a3.toInt ∧ a3.toInt ≤ 4) (h_a4 : 0 ≤ a4.toInt ∧ a4.toInt ≤ 4) (h_ne : a3.toInt ≠ a4.toInt) (h_na : 55 ≤ na) (sz : Nat) : Met l yX12_copyRow wsX12_copyRow ({ frames := 0, cells := 0, slots := 0, locals := 0 }) (va_Pc [.ref qa, .int 11, .int a3, .int a4] (ct_P D (ct_T cI cJ cB cZ cO) G (w_c_copyRow11 cI cJ cB cZ cO qa na fa) sz)) (va_Qv (fun (u : (Nat → Int32)) => (u = cr fa 11 a3.toInt.toNat a4.toInt.toNat 11)) (fun (u : (Nat → Int32)) t => ct_Q D (va_A (w_c_copyRow11 cI cJ cB cZ cO qa na fa) sz) [(qa, .inl (cI, na, .inl (u)))] t) (va_A (w_c_copyRow11 cI cJ cB cZ cO qa na fa) sz)) 0 0 (va_A (w_c_copyRow11 cI cJ cB cZ cO qa na fa) sz) := by
  refine Met.ofW (cc := cX12_copyRow) (maxL := 5) (ret := none) (by decide) rfl ?_
  intro p e s m args below meth c s₁ B hml hv
  obtain ⟨rfl, hsz, hP, hE, hD0, hH⟩ := hv
  have hx := B.exec
  have hb := B.bytes
  have hr := B.returns
  have hts := atoms_spec (ws := wsX12_copyRow) B.pre
  have hown : s.vm.findClass RX12 = some m.cls := findClass_of_methodNamed B.named
  have hlocks := B.notSynchronized
  have hK := hE.1
  subst hsz
  have hD := hD0.self (sz := s.heap.size)
  generalize hAe : va_A (w_c_copyRow11 cI cJ cB cZ cO qa na fa) s.heap.size = A at hD hH ⊢
  have hA : ∀ q : Nat, s.heap.size ≤ q → A q := fun q h => by rw [← hAe]; exact Or.inr h
  have hS : va_S A s.heap s.heap [] := va_S.rf
  obtain ⟨hP, hD⟩ : ct_B D A s.heap [(qa, .inl (cI, na, .inl (fa)))] := ⟨hP, hD⟩
  have hl := lv_entry ([.ref qa, .int 11, .int a3, .int a4]) (n := 5) (Nat.le_of_ble_eq_true rfl)
  rw [lg_entry_eq]
  generalize (lg_sl ([.ref qa, .int 11, .int a3, .int a4]) ++ List.replicate (5 - (lg_sl ([.ref qa, .int 11, .int a3, .int a4])).length) Slot.unset).toArray = ls at hl ⊢
  have hl : lv_has ls 5 [(0, .ref qa), (1, .int 11), (2, .int a3), (3, .int a4)] := hl
  obtain ⟨H, hHe⟩ : ∃ H : Heap, H = s.heap := ⟨_, rfl⟩
  rw [← hHe] at hP
  have hS : va_S A s.heap H [] := by rw [hHe]; exact va_S.rf
  refine ct_start hHe ?_
  refine lv_iconst (v := 0) hx hb dX12_copyRow_0 (by decide) ?_
  refine lv_istore (lv' := [(4, .int 0), (0, .ref qa), (1, .int 11), (2, .int a3), (3, .int a4)]) hx hb dX12_copyRow_1 hl (by decide) rfl (fun ls hl => ?_)
  refine ct_loop (X := (Nat → Int32) × Int32) (fun x => (11 - x.2.toInt).toNat) (fun x H locs ls => ((0 ≤ x.2.toInt ∧ x.2.toInt ≤ 11)) ∧ (x.1 = cr fa 11 a3.toInt.toNat a4.toInt.toNat (x.2.toInt).toNat) ∧ ct_B D A H [(qa, .inl (cI, na, .inl (x.1)))] ∧ va_S A s.heap H locs ∧ lv_has ls 5 [(4, .int x.2), (0, .ref qa), (1, .int 11), (2, .int a3), (3, .int a4)]) 3 (fa, (0 : Int32)) ⟨(show 0 ≤ (0 : Int32).toInt ∧ (0 : Int32).toInt ≤ 11 by decide), (show fa = cr fa 11 a3.toInt.toNat a4.toInt.toNat ((0 : Int32).toInt).toNat by exact cr_zero _ _ _ _), ⟨hP, hD⟩, hS, lv_sub hl [0, 1, 2, 3, 4] rfl⟩ (fun x ih71 H locs ls hI => ?_)
  obtain ⟨g69, x70⟩ := x
  obtain ⟨h_x70, he0, ⟨hP, hD⟩, hS, hl⟩ := hI
  change (0 ≤ x70.toInt ∧ x70.toInt ≤ 11) at h_x70
  change g69 = cr fa 11 a3.toInt.toNat a4.toInt.toNat (x70.toInt).toNat at he0
  obtain ⟨hP, hD⟩ : ct_B D A H [(qa, .inl (cI, na, .inl (g69)))] := ⟨hP, hD⟩
  have hl : lv_has ls 5 [(4, .int x70), (0, .ref qa), (1, .int 11), (2, .int a3), (3, .int a4)] := hl
  refine lv_iload hx hb dX12_copyRow_3 (lv_at hl 0 rfl) ?_
  refine lv_iload_n hx hb dX12_copyRow_5 rfl (lv_at hl 2 rfl) ?_
  refine lv_icmp_ge (tgt := 31) hx hb dX12_copyRow_6 (by decide) (fun hc => ?_) (fun hc => ?_)
  · have hq72 : 11 ≤ x70.toInt := tq_le (by decide) rfl hc
    obtain ⟨hP9, hD9⟩ : ct_B D A H [(qa, .inl (cI, na, .inl (g69)))] := ⟨hP.sub [0] rfl, hD.sub [0] (by decide) rfl⟩
    exact W.vret hx hb hr (fun t ht hW => ⟨⟨g69, rfl, (show g69 = cr fa 11 a3.toInt.toNat a4.toInt.toNat 11 by rw [he0]; exact congrArg (cr fa 11 a3.toInt.toNat a4.toInt.toNat) (by omega)), by rw [ht]; exact hP9, hD9⟩, hS.F ht⟩) hS.2.2 dX12_copyRow_31
  · have hq72 : x70.toInt < 11 := tq_nle (by decide) rfl hc
    refine lv_aload_n hx hb dX12_copyRow_9 rfl (lv_at hl 1 rfl) ?_
    refine lv_iload_n hx hb dX12_copyRow_10 rfl (lv_at hl 2 rfl) ?_
    refine lv_iload_n hx hb dX12_copyRow_11 rfl (lv_at hl 4 rfl) ?_
    refine lv_imul hx hb dX12_copyRow_12 ?_
    refine lv_topi (fun z73 ez73 => ?_)
    have fz73 : z73.toInt = 11 * a4.toInt := by rw [ez73]; exact tq_mul (by decide) rfl (by omega)
    refine lv_iload hx hb dX12_copyRow_13 (lv_at hl 0 rfl) ?_
    refine lv_iadd hx hb dX12_copyRow_15 ?_
    refine lv_topi (fun z74 ez74 => ?_)
    have fz74 : z74.toInt = z73.toInt + x70.toInt := by rw [ez74]; exact tq_add rfl rfl (by omega)
    refine lv_aload_n hx hb dX12_copyRow_16 rfl (lv_at hl 1 rfl) ?_
    refine lv_iload_n hx hb dX12_copyRow_17 rfl (lv_at hl 2 rfl) ?_
    refine lv_iload_n hx hb dX12_copyRow_18 rfl (lv_at hl 3 rfl) ?_
    refine lv_imul hx hb dX12_copyRow_19 ?_
    refine lv_topi (fun z75 ez75 => ?_)
    have fz75 : z75.toInt = 11 * a3.toInt := by rw [ez75]; exact tq_mul (by decide) rfl (by omega)
    refine lv_iload hx hb dX12_copyRow_20 (lv_at hl 0 rfl) ?_
    refine lv_iadd hx hb dX12_copyRow_22 ?_
    refine lv_topi (fun z76 ez76 => ?_)
    have fz76 : z76.toInt = z75.toInt + x70.toInt := by rw [ez76]; exact tq_add rfl rfl (by omega)
    refine va_iald (D := D) hx hb hK hP 0 0 rfl rfl (tq_in rfl (by omega)) dX12_copyRow_23 ?_
    refine lv_topi (fun z77 ez77 => ?_)
    refine va_iast (D := D) hx hb hK hP hD hS 0 0 rfl rfl (tq_in rfl (by omega)) dX12_copyRow_24 (fun H locs hP hD hS => ?_)
    obtain ⟨g78, hcr, hP, hD⟩ : ∃ g78 : Nat → Int32, g78 = cr fa 11 a3.toInt.toNat a4.toInt.toNat (x70.toInt + 1).toNat ∧ ct_B D A H [(qa, .inl (cI, na, .inl (g78)))] := ⟨_, cr_step2 he0 (by omega) (by omega) (by omega) ez77 (by omega) (by omega), hP, hD⟩
    obtain ⟨z79, ez79⟩ : ∃ z : Int32, z = x70 + 1 := ⟨_, rfl⟩
    have fz79 : z79.toInt = x70.toInt + 1 := by rw [ez79]; exact tq_add rfl (by decide) (by omega)
    refine lv_iinc (v := z79) (lv' := [(4, .int z79), (0, .ref qa), (1, .int 11), (2, .int a3), (3, .int a4)]) hx hb dX12_copyRow_25 hl (k := 0) rfl ez79.symm (by decide) rfl (fun ls hl => ?_)
    refine lv_goto (tgt := 3) hx hb dX12_copyRow_28 (by decide) ?_
    exact ih71 (g78, z79) _ _ _ (show (11 - z79.toInt).toNat < (11 - x70.toInt).toNat by omega) ⟨(show 0 ≤ z79.toInt ∧ z79.toInt ≤ 11 by omega), (show g78 = cr fa 11 a3.toInt.toNat a4.toInt.toNat (z79.toInt).toNat by (rw [hcr]; congr 1; omega)), ⟨hP, hD⟩, hS, lv_sub hl [0, 1, 2, 3, 4] rfl⟩
abbrev w_c_copyRow24 (cI cJ cB cZ cO : ClassId) (qa : Nat) (na : Nat) (fa : Nat → Int32) : va_W := [(qa, .inl (cI, na, .inl (fa)))]
set_option maxHeartbeats 4000000 in
set_option maxRecDepth 100000 in
/-- X12 copyRow -/
theorem c_copyRow24 (l : Launch) (D : va_G) (G : ct_G) (cI cJ cB cZ cO : ClassId) (qa : Nat) (na : Nat) (fa : Nat → Int32) (a3 : Int32) (a4 : Int32) (h_a3 : 0 ≤ a3.toInt ∧ a3.toInt ≤ 4) (h_a4 : 0 ≤ a4.toInt ∧ a4.toInt ≤ 4) (h_ne : a3.toInt ≠ a4.toInt) (h_na : 120 ≤ na) (sz : Nat) : Met l yX12_copyRow wsX12_copyRow ({ frames := 0, cells := 0, slots := 0, locals := 0 }) (va_Pc [.ref qa, .int 24, .int a3, .int a4] (ct_P D (ct_T cI cJ cB cZ cO) G (w_c_copyRow24 cI cJ cB cZ cO qa na fa) sz)) (va_Qv (fun (u : (Nat → Int32)) => (u = cr fa 24 a3.toInt.toNat a4.toInt.toNat 24)) (fun (u : (Nat → Int32)) t => ct_Q D (va_A (w_c_copyRow24 cI cJ cB cZ cO qa na fa) sz) [(qa, .inl (cI, na, .inl (u)))] t) (va_A (w_c_copyRow24 cI cJ cB cZ cO qa na fa) sz)) 0 0 (va_A (w_c_copyRow24 cI cJ cB cZ cO qa na fa) sz) := by
  refine Met.ofW (cc := cX12_copyRow) (maxL := 5) (ret := none) (by decide) rfl ?_
  intro p e s m args below meth c s₁ B hml hv
  obtain ⟨rfl, hsz, hP, hE, hD0, hH⟩ := hv
  have hx := B.exec
  have hb := B.bytes
  have hr := B.returns
  have hts := atoms_spec (ws := wsX12_copyRow) B.pre
  have hown : s.vm.findClass RX12 = some m.cls := findClass_of_methodNamed B.named
  have hlocks := B.notSynchronized
  have hK := hE.1
  subst hsz
  have hD := hD0.self (sz := s.heap.size)
  generalize hAe : va_A (w_c_copyRow24 cI cJ cB cZ cO qa na fa) s.heap.size = A at hD hH ⊢
  have hA : ∀ q : Nat, s.heap.size ≤ q → A q := fun q h => by rw [← hAe]; exact Or.inr h
  have hS : va_S A s.heap s.heap [] := va_S.rf
  obtain ⟨hP, hD⟩ : ct_B D A s.heap [(qa, .inl (cI, na, .inl (fa)))] := ⟨hP, hD⟩
  have hl := lv_entry ([.ref qa, .int 24, .int a3, .int a4]) (n := 5) (Nat.le_of_ble_eq_true rfl)
  rw [lg_entry_eq]
  generalize (lg_sl ([.ref qa, .int 24, .int a3, .int a4]) ++ List.replicate (5 - (lg_sl ([.ref qa, .int 24, .int a3, .int a4])).length) Slot.unset).toArray = ls at hl ⊢
  have hl : lv_has ls 5 [(0, .ref qa), (1, .int 24), (2, .int a3), (3, .int a4)] := hl
  obtain ⟨H, hHe⟩ : ∃ H : Heap, H = s.heap := ⟨_, rfl⟩
  rw [← hHe] at hP
  have hS : va_S A s.heap H [] := by rw [hHe]; exact va_S.rf
  refine ct_start hHe ?_
  refine lv_iconst (v := 0) hx hb dX12_copyRow_0 (by decide) ?_
  refine lv_istore (lv' := [(4, .int 0), (0, .ref qa), (1, .int 24), (2, .int a3), (3, .int a4)]) hx hb dX12_copyRow_1 hl (by decide) rfl (fun ls hl => ?_)
  refine ct_loop (X := (Nat → Int32) × Int32) (fun x => (24 - x.2.toInt).toNat) (fun x H locs ls => ((0 ≤ x.2.toInt ∧ x.2.toInt ≤ 24)) ∧ (x.1 = cr fa 24 a3.toInt.toNat a4.toInt.toNat (x.2.toInt).toNat) ∧ ct_B D A H [(qa, .inl (cI, na, .inl (x.1)))] ∧ va_S A s.heap H locs ∧ lv_has ls 5 [(4, .int x.2), (0, .ref qa), (1, .int 24), (2, .int a3), (3, .int a4)]) 3 (fa, (0 : Int32)) ⟨(show 0 ≤ (0 : Int32).toInt ∧ (0 : Int32).toInt ≤ 24 by decide), (show fa = cr fa 24 a3.toInt.toNat a4.toInt.toNat ((0 : Int32).toInt).toNat by exact cr_zero _ _ _ _), ⟨hP, hD⟩, hS, lv_sub hl [0, 1, 2, 3, 4] rfl⟩ (fun x ih71 H locs ls hI => ?_)
  obtain ⟨g69, x70⟩ := x
  obtain ⟨h_x70, he0, ⟨hP, hD⟩, hS, hl⟩ := hI
  change (0 ≤ x70.toInt ∧ x70.toInt ≤ 24) at h_x70
  change g69 = cr fa 24 a3.toInt.toNat a4.toInt.toNat (x70.toInt).toNat at he0
  obtain ⟨hP, hD⟩ : ct_B D A H [(qa, .inl (cI, na, .inl (g69)))] := ⟨hP, hD⟩
  have hl : lv_has ls 5 [(4, .int x70), (0, .ref qa), (1, .int 24), (2, .int a3), (3, .int a4)] := hl
  refine lv_iload hx hb dX12_copyRow_3 (lv_at hl 0 rfl) ?_
  refine lv_iload_n hx hb dX12_copyRow_5 rfl (lv_at hl 2 rfl) ?_
  refine lv_icmp_ge (tgt := 31) hx hb dX12_copyRow_6 (by decide) (fun hc => ?_) (fun hc => ?_)
  · have hq72 : 24 ≤ x70.toInt := tq_le (by decide) rfl hc
    obtain ⟨hP9, hD9⟩ : ct_B D A H [(qa, .inl (cI, na, .inl (g69)))] := ⟨hP.sub [0] rfl, hD.sub [0] (by decide) rfl⟩
    exact W.vret hx hb hr (fun t ht hW => ⟨⟨g69, rfl, (show g69 = cr fa 24 a3.toInt.toNat a4.toInt.toNat 24 by rw [he0]; exact congrArg (cr fa 24 a3.toInt.toNat a4.toInt.toNat) (by omega)), by rw [ht]; exact hP9, hD9⟩, hS.F ht⟩) hS.2.2 dX12_copyRow_31
  · have hq72 : x70.toInt < 24 := tq_nle (by decide) rfl hc
    refine lv_aload_n hx hb dX12_copyRow_9 rfl (lv_at hl 1 rfl) ?_
    refine lv_iload_n hx hb dX12_copyRow_10 rfl (lv_at hl 2 rfl) ?_
    refine lv_iload_n hx hb dX12_copyRow_11 rfl (lv_at hl 4 rfl) ?_
    refine lv_imul hx hb dX12_copyRow_12 ?_
    refine lv_topi (fun z73 ez73 => ?_)
    have fz73 : z73.toInt = 24 * a4.toInt := by rw [ez73]; exact tq_mul (by decide) rfl (by omega)
    refine lv_iload hx hb dX12_copyRow_13 (lv_at hl 0 rfl) ?_
    refine lv_iadd hx hb dX12_copyRow_15 ?_
    refine lv_topi (fun z74 ez74 => ?_)
    have fz74 : z74.toInt = z73.toInt + x70.toInt := by rw [ez74]; exact tq_add rfl rfl (by omega)
    refine lv_aload_n hx hb dX12_copyRow_16 rfl (lv_at hl 1 rfl) ?_
    refine lv_iload_n hx hb dX12_copyRow_17 rfl (lv_at hl 2 rfl) ?_
    refine lv_iload_n hx hb dX12_copyRow_18 rfl (lv_at hl 3 rfl) ?_
    refine lv_imul hx hb dX12_copyRow_19 ?_
    refine lv_topi (fun z75 ez75 => ?_)
    have fz75 : z75.toInt = 24 * a3.toInt := by rw [ez75]; exact tq_mul (by decide) rfl (by omega)
    refine lv_iload hx hb dX12_copyRow_20 (lv_at hl 0 rfl) ?_
    refine lv_iadd hx hb dX12_copyRow_22 ?_
    refine lv_topi (fun z76 ez76 => ?_)
    have fz76 : z76.toInt = z75.toInt + x70.toInt := by rw [ez76]; exact tq_add rfl rfl (by omega)
    refine va_iald (D := D) hx hb hK hP 0 0 rfl rfl (tq_in rfl (by omega)) dX12_copyRow_23 ?_
    refine lv_topi (fun z77 ez77 => ?_)
    refine va_iast (D := D) hx hb hK hP hD hS 0 0 rfl rfl (tq_in rfl (by omega)) dX12_copyRow_24 (fun H locs hP hD hS => ?_)
    obtain ⟨g78, hcr, hP, hD⟩ : ∃ g78 : Nat → Int32, g78 = cr fa 24 a3.toInt.toNat a4.toInt.toNat (x70.toInt + 1).toNat ∧ ct_B D A H [(qa, .inl (cI, na, .inl (g78)))] := ⟨_, cr_step2 he0 (by omega) (by omega) (by omega) ez77 (by omega) (by omega), hP, hD⟩
    obtain ⟨z79, ez79⟩ : ∃ z : Int32, z = x70 + 1 := ⟨_, rfl⟩
    have fz79 : z79.toInt = x70.toInt + 1 := by rw [ez79]; exact tq_add rfl (by decide) (by omega)
    refine lv_iinc (v := z79) (lv' := [(4, .int z79), (0, .ref qa), (1, .int 24), (2, .int a3), (3, .int a4)]) hx hb dX12_copyRow_25 hl (k := 0) rfl ez79.symm (by decide) rfl (fun ls hl => ?_)
    refine lv_goto (tgt := 3) hx hb dX12_copyRow_28 (by decide) ?_
    exact ih71 (g78, z79) _ _ _ (show (24 - z79.toInt).toNat < (24 - x70.toInt).toNat by omega) ⟨(show 0 ≤ z79.toInt ∧ z79.toInt ≤ 24 by omega), (show g78 = cr fa 24 a3.toInt.toNat a4.toInt.toNat (z79.toInt).toNat by (rw [hcr]; congr 1; omega)), ⟨hP, hD⟩, hS, lv_sub hl [0, 1, 2, 3, 4] rfl⟩
abbrev w_c_copyRow32 (cI cJ cB cZ cO : ClassId) (qa : Nat) (na : Nat) (fa : Nat → Int32) : va_W := [(qa, .inl (cI, na, .inl (fa)))]
set_option maxHeartbeats 4000000 in
set_option maxRecDepth 100000 in
/-- X12 copyRow -/
theorem c_copyRow32 (l : Launch) (D : va_G) (G : ct_G) (cI cJ cB cZ cO : ClassId) (qa : Nat) (na : Nat) (fa : Nat → Int32) (a3 : Int32) (a4 : Int32) (h_a3 : 0 ≤ a3.toInt ∧ a3.toInt ≤ 4) (h_a4 : 0 ≤ a4.toInt ∧ a4.toInt ≤ 4) (h_ne : a3.toInt ≠ a4.toInt) (h_na : 160 ≤ na) (sz : Nat) : Met l yX12_copyRow wsX12_copyRow ({ frames := 0, cells := 0, slots := 0, locals := 0 }) (va_Pc [.ref qa, .int 32, .int a3, .int a4] (ct_P D (ct_T cI cJ cB cZ cO) G (w_c_copyRow32 cI cJ cB cZ cO qa na fa) sz)) (va_Qv (fun (u : (Nat → Int32)) => (u = cr fa 32 a3.toInt.toNat a4.toInt.toNat 32)) (fun (u : (Nat → Int32)) t => ct_Q D (va_A (w_c_copyRow32 cI cJ cB cZ cO qa na fa) sz) [(qa, .inl (cI, na, .inl (u)))] t) (va_A (w_c_copyRow32 cI cJ cB cZ cO qa na fa) sz)) 0 0 (va_A (w_c_copyRow32 cI cJ cB cZ cO qa na fa) sz) := by
  refine Met.ofW (cc := cX12_copyRow) (maxL := 5) (ret := none) (by decide) rfl ?_
  intro p e s m args below meth c s₁ B hml hv
  obtain ⟨rfl, hsz, hP, hE, hD0, hH⟩ := hv
  have hx := B.exec
  have hb := B.bytes
  have hr := B.returns
  have hts := atoms_spec (ws := wsX12_copyRow) B.pre
  have hown : s.vm.findClass RX12 = some m.cls := findClass_of_methodNamed B.named
  have hlocks := B.notSynchronized
  have hK := hE.1
  subst hsz
  have hD := hD0.self (sz := s.heap.size)
  generalize hAe : va_A (w_c_copyRow32 cI cJ cB cZ cO qa na fa) s.heap.size = A at hD hH ⊢
  have hA : ∀ q : Nat, s.heap.size ≤ q → A q := fun q h => by rw [← hAe]; exact Or.inr h
  have hS : va_S A s.heap s.heap [] := va_S.rf
  obtain ⟨hP, hD⟩ : ct_B D A s.heap [(qa, .inl (cI, na, .inl (fa)))] := ⟨hP, hD⟩
  have hl := lv_entry ([.ref qa, .int 32, .int a3, .int a4]) (n := 5) (Nat.le_of_ble_eq_true rfl)
  rw [lg_entry_eq]
  generalize (lg_sl ([.ref qa, .int 32, .int a3, .int a4]) ++ List.replicate (5 - (lg_sl ([.ref qa, .int 32, .int a3, .int a4])).length) Slot.unset).toArray = ls at hl ⊢
  have hl : lv_has ls 5 [(0, .ref qa), (1, .int 32), (2, .int a3), (3, .int a4)] := hl
  obtain ⟨H, hHe⟩ : ∃ H : Heap, H = s.heap := ⟨_, rfl⟩
  rw [← hHe] at hP
  have hS : va_S A s.heap H [] := by rw [hHe]; exact va_S.rf
  refine ct_start hHe ?_
  refine lv_iconst (v := 0) hx hb dX12_copyRow_0 (by decide) ?_
  refine lv_istore (lv' := [(4, .int 0), (0, .ref qa), (1, .int 32), (2, .int a3), (3, .int a4)]) hx hb dX12_copyRow_1 hl (by decide) rfl (fun ls hl => ?_)
  refine ct_loop (X := (Nat → Int32) × Int32) (fun x => (32 - x.2.toInt).toNat) (fun x H locs ls => ((0 ≤ x.2.toInt ∧ x.2.toInt ≤ 32)) ∧ (x.1 = cr fa 32 a3.toInt.toNat a4.toInt.toNat (x.2.toInt).toNat) ∧ ct_B D A H [(qa, .inl (cI, na, .inl (x.1)))] ∧ va_S A s.heap H locs ∧ lv_has ls 5 [(4, .int x.2), (0, .ref qa), (1, .int 32), (2, .int a3), (3, .int a4)]) 3 (fa, (0 : Int32)) ⟨(show 0 ≤ (0 : Int32).toInt ∧ (0 : Int32).toInt ≤ 32 by decide), (show fa = cr fa 32 a3.toInt.toNat a4.toInt.toNat ((0 : Int32).toInt).toNat by exact cr_zero _ _ _ _), ⟨hP, hD⟩, hS, lv_sub hl [0, 1, 2, 3, 4] rfl⟩ (fun x ih71 H locs ls hI => ?_)
  obtain ⟨g69, x70⟩ := x
  obtain ⟨h_x70, he0, ⟨hP, hD⟩, hS, hl⟩ := hI
  change (0 ≤ x70.toInt ∧ x70.toInt ≤ 32) at h_x70
  change g69 = cr fa 32 a3.toInt.toNat a4.toInt.toNat (x70.toInt).toNat at he0
  obtain ⟨hP, hD⟩ : ct_B D A H [(qa, .inl (cI, na, .inl (g69)))] := ⟨hP, hD⟩
  have hl : lv_has ls 5 [(4, .int x70), (0, .ref qa), (1, .int 32), (2, .int a3), (3, .int a4)] := hl
  refine lv_iload hx hb dX12_copyRow_3 (lv_at hl 0 rfl) ?_
  refine lv_iload_n hx hb dX12_copyRow_5 rfl (lv_at hl 2 rfl) ?_
  refine lv_icmp_ge (tgt := 31) hx hb dX12_copyRow_6 (by decide) (fun hc => ?_) (fun hc => ?_)
  · have hq72 : 32 ≤ x70.toInt := tq_le (by decide) rfl hc
    obtain ⟨hP9, hD9⟩ : ct_B D A H [(qa, .inl (cI, na, .inl (g69)))] := ⟨hP.sub [0] rfl, hD.sub [0] (by decide) rfl⟩
    exact W.vret hx hb hr (fun t ht hW => ⟨⟨g69, rfl, (show g69 = cr fa 32 a3.toInt.toNat a4.toInt.toNat 32 by rw [he0]; exact congrArg (cr fa 32 a3.toInt.toNat a4.toInt.toNat) (by omega)), by rw [ht]; exact hP9, hD9⟩, hS.F ht⟩) hS.2.2 dX12_copyRow_31
  · have hq72 : x70.toInt < 32 := tq_nle (by decide) rfl hc
    refine lv_aload_n hx hb dX12_copyRow_9 rfl (lv_at hl 1 rfl) ?_
    refine lv_iload_n hx hb dX12_copyRow_10 rfl (lv_at hl 2 rfl) ?_
    refine lv_iload_n hx hb dX12_copyRow_11 rfl (lv_at hl 4 rfl) ?_
    refine lv_imul hx hb dX12_copyRow_12 ?_
    refine lv_topi (fun z73 ez73 => ?_)
    have fz73 : z73.toInt = 32 * a4.toInt := by rw [ez73]; exact tq_mul (by decide) rfl (by omega)
    refine lv_iload hx hb dX12_copyRow_13 (lv_at hl 0 rfl) ?_
    refine lv_iadd hx hb dX12_copyRow_15 ?_
    refine lv_topi (fun z74 ez74 => ?_)
    have fz74 : z74.toInt = z73.toInt + x70.toInt := by rw [ez74]; exact tq_add rfl rfl (by omega)
    refine lv_aload_n hx hb dX12_copyRow_16 rfl (lv_at hl 1 rfl) ?_
    refine lv_iload_n hx hb dX12_copyRow_17 rfl (lv_at hl 2 rfl) ?_
    refine lv_iload_n hx hb dX12_copyRow_18 rfl (lv_at hl 3 rfl) ?_
    refine lv_imul hx hb dX12_copyRow_19 ?_
    refine lv_topi (fun z75 ez75 => ?_)
    have fz75 : z75.toInt = 32 * a3.toInt := by rw [ez75]; exact tq_mul (by decide) rfl (by omega)
    refine lv_iload hx hb dX12_copyRow_20 (lv_at hl 0 rfl) ?_
    refine lv_iadd hx hb dX12_copyRow_22 ?_
    refine lv_topi (fun z76 ez76 => ?_)
    have fz76 : z76.toInt = z75.toInt + x70.toInt := by rw [ez76]; exact tq_add rfl rfl (by omega)
    refine va_iald (D := D) hx hb hK hP 0 0 rfl rfl (tq_in rfl (by omega)) dX12_copyRow_23 ?_
    refine lv_topi (fun z77 ez77 => ?_)
    refine va_iast (D := D) hx hb hK hP hD hS 0 0 rfl rfl (tq_in rfl (by omega)) dX12_copyRow_24 (fun H locs hP hD hS => ?_)
    obtain ⟨g78, hcr, hP, hD⟩ : ∃ g78 : Nat → Int32, g78 = cr fa 32 a3.toInt.toNat a4.toInt.toNat (x70.toInt + 1).toNat ∧ ct_B D A H [(qa, .inl (cI, na, .inl (g78)))] := ⟨_, cr_step2 he0 (by omega) (by omega) (by omega) ez77 (by omega) (by omega), hP, hD⟩
    obtain ⟨z79, ez79⟩ : ∃ z : Int32, z = x70 + 1 := ⟨_, rfl⟩
    have fz79 : z79.toInt = x70.toInt + 1 := by rw [ez79]; exact tq_add rfl (by decide) (by omega)
    refine lv_iinc (v := z79) (lv' := [(4, .int z79), (0, .ref qa), (1, .int 32), (2, .int a3), (3, .int a4)]) hx hb dX12_copyRow_25 hl (k := 0) rfl ez79.symm (by decide) rfl (fun ls hl => ?_)
    refine lv_goto (tgt := 3) hx hb dX12_copyRow_28 (by decide) ?_
    exact ih71 (g78, z79) _ _ _ (show (32 - z79.toInt).toNat < (32 - x70.toInt).toNat by omega) ⟨(show 0 ≤ z79.toInt ∧ z79.toInt ≤ 32 by omega), (show g78 = cr fa 32 a3.toInt.toNat a4.toInt.toNat (z79.toInt).toNat by (rw [hcr]; congr 1; omega)), ⟨hP, hD⟩, hS, lv_sub hl [0, 1, 2, 3, 4] rfl⟩
abbrev w_c_copyRow160 (cI cJ cB cZ cO : ClassId) (qa : Nat) (na : Nat) (fa : Nat → Int32) : va_W := [(qa, .inl (cI, na, .inl (fa)))]
set_option maxHeartbeats 4000000 in
set_option maxRecDepth 100000 in
/-- X12 copyRow -/
theorem c_copyRow160 (l : Launch) (D : va_G) (G : ct_G) (cI cJ cB cZ cO : ClassId) (qa : Nat) (na : Nat) (fa : Nat → Int32) (a3 : Int32) (a4 : Int32) (h_a3 : 0 ≤ a3.toInt ∧ a3.toInt ≤ 4) (h_a4 : 0 ≤ a4.toInt ∧ a4.toInt ≤ 4) (h_ne : a3.toInt ≠ a4.toInt) (h_na : 800 ≤ na) (sz : Nat) : Met l yX12_copyRow wsX12_copyRow ({ frames := 0, cells := 0, slots := 0, locals := 0 }) (va_Pc [.ref qa, .int 160, .int a3, .int a4] (ct_P D (ct_T cI cJ cB cZ cO) G (w_c_copyRow160 cI cJ cB cZ cO qa na fa) sz)) (va_Qv (fun (u : (Nat → Int32)) => (u = cr fa 160 a3.toInt.toNat a4.toInt.toNat 160)) (fun (u : (Nat → Int32)) t => ct_Q D (va_A (w_c_copyRow160 cI cJ cB cZ cO qa na fa) sz) [(qa, .inl (cI, na, .inl (u)))] t) (va_A (w_c_copyRow160 cI cJ cB cZ cO qa na fa) sz)) 0 0 (va_A (w_c_copyRow160 cI cJ cB cZ cO qa na fa) sz) := by
  refine Met.ofW (cc := cX12_copyRow) (maxL := 5) (ret := none) (by decide) rfl ?_
  intro p e s m args below meth c s₁ B hml hv
  obtain ⟨rfl, hsz, hP, hE, hD0, hH⟩ := hv
  have hx := B.exec
  have hb := B.bytes
  have hr := B.returns
  have hts := atoms_spec (ws := wsX12_copyRow) B.pre
  have hown : s.vm.findClass RX12 = some m.cls := findClass_of_methodNamed B.named
  have hlocks := B.notSynchronized
  have hK := hE.1
  subst hsz
  have hD := hD0.self (sz := s.heap.size)
  generalize hAe : va_A (w_c_copyRow160 cI cJ cB cZ cO qa na fa) s.heap.size = A at hD hH ⊢
  have hA : ∀ q : Nat, s.heap.size ≤ q → A q := fun q h => by rw [← hAe]; exact Or.inr h
  have hS : va_S A s.heap s.heap [] := va_S.rf
  obtain ⟨hP, hD⟩ : ct_B D A s.heap [(qa, .inl (cI, na, .inl (fa)))] := ⟨hP, hD⟩
  have hl := lv_entry ([.ref qa, .int 160, .int a3, .int a4]) (n := 5) (Nat.le_of_ble_eq_true rfl)
  rw [lg_entry_eq]
  generalize (lg_sl ([.ref qa, .int 160, .int a3, .int a4]) ++ List.replicate (5 - (lg_sl ([.ref qa, .int 160, .int a3, .int a4])).length) Slot.unset).toArray = ls at hl ⊢
  have hl : lv_has ls 5 [(0, .ref qa), (1, .int 160), (2, .int a3), (3, .int a4)] := hl
  obtain ⟨H, hHe⟩ : ∃ H : Heap, H = s.heap := ⟨_, rfl⟩
  rw [← hHe] at hP
  have hS : va_S A s.heap H [] := by rw [hHe]; exact va_S.rf
  refine ct_start hHe ?_
  refine lv_iconst (v := 0) hx hb dX12_copyRow_0 (by decide) ?_
  refine lv_istore (lv' := [(4, .int 0), (0, .ref qa), (1, .int 160), (2, .int a3), (3, .int a4)]) hx hb dX12_copyRow_1 hl (by decide) rfl (fun ls hl => ?_)
  refine ct_loop (X := (Nat → Int32) × Int32) (fun x => (160 - x.2.toInt).toNat) (fun x H locs ls => ((0 ≤ x.2.toInt ∧ x.2.toInt ≤ 160)) ∧ (x.1 = cr fa 160 a3.toInt.toNat a4.toInt.toNat (x.2.toInt).toNat) ∧ ct_B D A H [(qa, .inl (cI, na, .inl (x.1)))] ∧ va_S A s.heap H locs ∧ lv_has ls 5 [(4, .int x.2), (0, .ref qa), (1, .int 160), (2, .int a3), (3, .int a4)]) 3 (fa, (0 : Int32)) ⟨(show 0 ≤ (0 : Int32).toInt ∧ (0 : Int32).toInt ≤ 160 by decide), (show fa = cr fa 160 a3.toInt.toNat a4.toInt.toNat ((0 : Int32).toInt).toNat by exact cr_zero _ _ _ _), ⟨hP, hD⟩, hS, lv_sub hl [0, 1, 2, 3, 4] rfl⟩ (fun x ih71 H locs ls hI => ?_)
  obtain ⟨g69, x70⟩ := x
  obtain ⟨h_x70, he0, ⟨hP, hD⟩, hS, hl⟩ := hI
  change (0 ≤ x70.toInt ∧ x70.toInt ≤ 160) at h_x70
  change g69 = cr fa 160 a3.toInt.toNat a4.toInt.toNat (x70.toInt).toNat at he0
  obtain ⟨hP, hD⟩ : ct_B D A H [(qa, .inl (cI, na, .inl (g69)))] := ⟨hP, hD⟩
  have hl : lv_has ls 5 [(4, .int x70), (0, .ref qa), (1, .int 160), (2, .int a3), (3, .int a4)] := hl
  refine lv_iload hx hb dX12_copyRow_3 (lv_at hl 0 rfl) ?_
  refine lv_iload_n hx hb dX12_copyRow_5 rfl (lv_at hl 2 rfl) ?_
  refine lv_icmp_ge (tgt := 31) hx hb dX12_copyRow_6 (by decide) (fun hc => ?_) (fun hc => ?_)
  · have hq72 : 160 ≤ x70.toInt := tq_le (by decide) rfl hc
    obtain ⟨hP9, hD9⟩ : ct_B D A H [(qa, .inl (cI, na, .inl (g69)))] := ⟨hP.sub [0] rfl, hD.sub [0] (by decide) rfl⟩
    exact W.vret hx hb hr (fun t ht hW => ⟨⟨g69, rfl, (show g69 = cr fa 160 a3.toInt.toNat a4.toInt.toNat 160 by rw [he0]; exact congrArg (cr fa 160 a3.toInt.toNat a4.toInt.toNat) (by omega)), by rw [ht]; exact hP9, hD9⟩, hS.F ht⟩) hS.2.2 dX12_copyRow_31
  · have hq72 : x70.toInt < 160 := tq_nle (by decide) rfl hc
    refine lv_aload_n hx hb dX12_copyRow_9 rfl (lv_at hl 1 rfl) ?_
    refine lv_iload_n hx hb dX12_copyRow_10 rfl (lv_at hl 2 rfl) ?_
    refine lv_iload_n hx hb dX12_copyRow_11 rfl (lv_at hl 4 rfl) ?_
    refine lv_imul hx hb dX12_copyRow_12 ?_
    refine lv_topi (fun z73 ez73 => ?_)
    have fz73 : z73.toInt = 160 * a4.toInt := by rw [ez73]; exact tq_mul (by decide) rfl (by omega)
    refine lv_iload hx hb dX12_copyRow_13 (lv_at hl 0 rfl) ?_
    refine lv_iadd hx hb dX12_copyRow_15 ?_
    refine lv_topi (fun z74 ez74 => ?_)
    have fz74 : z74.toInt = z73.toInt + x70.toInt := by rw [ez74]; exact tq_add rfl rfl (by omega)
    refine lv_aload_n hx hb dX12_copyRow_16 rfl (lv_at hl 1 rfl) ?_
    refine lv_iload_n hx hb dX12_copyRow_17 rfl (lv_at hl 2 rfl) ?_
    refine lv_iload_n hx hb dX12_copyRow_18 rfl (lv_at hl 3 rfl) ?_
    refine lv_imul hx hb dX12_copyRow_19 ?_
    refine lv_topi (fun z75 ez75 => ?_)
    have fz75 : z75.toInt = 160 * a3.toInt := by rw [ez75]; exact tq_mul (by decide) rfl (by omega)
    refine lv_iload hx hb dX12_copyRow_20 (lv_at hl 0 rfl) ?_
    refine lv_iadd hx hb dX12_copyRow_22 ?_
    refine lv_topi (fun z76 ez76 => ?_)
    have fz76 : z76.toInt = z75.toInt + x70.toInt := by rw [ez76]; exact tq_add rfl rfl (by omega)
    refine va_iald (D := D) hx hb hK hP 0 0 rfl rfl (tq_in rfl (by omega)) dX12_copyRow_23 ?_
    refine lv_topi (fun z77 ez77 => ?_)
    refine va_iast (D := D) hx hb hK hP hD hS 0 0 rfl rfl (tq_in rfl (by omega)) dX12_copyRow_24 (fun H locs hP hD hS => ?_)
    obtain ⟨g78, hcr, hP, hD⟩ : ∃ g78 : Nat → Int32, g78 = cr fa 160 a3.toInt.toNat a4.toInt.toNat (x70.toInt + 1).toNat ∧ ct_B D A H [(qa, .inl (cI, na, .inl (g78)))] := ⟨_, cr_step2 he0 (by omega) (by omega) (by omega) ez77 (by omega) (by omega), hP, hD⟩
    obtain ⟨z79, ez79⟩ : ∃ z : Int32, z = x70 + 1 := ⟨_, rfl⟩
    have fz79 : z79.toInt = x70.toInt + 1 := by rw [ez79]; exact tq_add rfl (by decide) (by omega)
    refine lv_iinc (v := z79) (lv' := [(4, .int z79), (0, .ref qa), (1, .int 160), (2, .int a3), (3, .int a4)]) hx hb dX12_copyRow_25 hl (k := 0) rfl ez79.symm (by decide) rfl (fun ls hl => ?_)
    refine lv_goto (tgt := 3) hx hb dX12_copyRow_28 (by decide) ?_
    exact ih71 (g78, z79) _ _ _ (show (160 - z79.toInt).toNat < (160 - x70.toInt).toNat by omega) ⟨(show 0 ≤ z79.toInt ∧ z79.toInt ≤ 160 by omega), (show g78 = cr fa 160 a3.toInt.toNat a4.toInt.toNat (z79.toInt).toNat by (rw [hcr]; congr 1; omega)), ⟨hP, hD⟩, hS, lv_sub hl [0, 1, 2, 3, 4] rfl⟩
abbrev w_c_X12_copyDance (cI cJ cB cZ cO : ClassId) (qm : Nat) (vm_thrown : Int32) (qm_width : Nat) (qm_many : Nat) (qm_cells : Nat) (qm_moved : Nat) (qm_tape : Nat) (vm_taped : Int32) (vm_at : Int32) (vm_token : Int32) (vm_place : Int32) (vm_value : Int32) (vm_word : Int64) (vm_bad : Int32) (vm_badPlace : Int32) (vm_fault : Int32) (vm_faultPlace : Int32) (qm_lines : Nat) (fm_lines : Nat → Int32) (qm_has : Nat) (fm_has : Nat → Int32) (qm_round : Nat) (fm_round : Nat → Int32) (qm_meets : Nat) (fm_meets : Nat → Int32) (qm_stumble : Nat) (fm_stumble : Nat → Int32) (qm_isMud : Nat) (fm_isMud : Nat → Int32) (qm_cell : Nat) (fm_cell : Nat → Int32) (qm_tune : Nat) (fm_tune : Nat → Int32) (qm_change : Nat) (fm_change : Nat → Int32) (qm_isKept : Nat) (qm_steps : Nat) (qm_places : Nat) (qm_danced : Nat) (vm_runMost : Int32) (vm_runBegins : Int32) (qm_heardBy : Nat) (vm_fitMany : Int32) (vm_fitFirst : Int32) (vm_fitBeats : Int64) (vm_listenLeaves : Int32) (qm_there : Nat) (vm_metAt : Int32) (vm_metIn : Int32) (qm_wins : Nat) (vm_nightHoles : Int32) (vm_nightFirst : Int32) (vm_nightMud : Int32) (vm_nightSlips : Int32) (vm_drawnNow : Int64) : va_W := [mo qm vm_thrown qm_width qm_many qm_cells qm_moved qm_tape vm_taped vm_at vm_token vm_place vm_value vm_word vm_bad vm_badPlace vm_fault vm_faultPlace qm_lines qm_has qm_round qm_meets qm_stumble qm_isMud qm_cell qm_tune qm_change qm_isKept qm_steps qm_places qm_danced vm_runMost vm_runBegins qm_heardBy vm_fitMany vm_fitFirst vm_fitBeats vm_listenLeaves qm_there vm_metAt vm_metIn qm_wins vm_nightHoles vm_nightFirst vm_nightMud vm_nightSlips vm_drawnNow, (qm_lines, .inl (cI, 5, .inl (fm_lines))), (qm_has, .inl (cI, 55, .inl (fm_has))), (qm_round, .inl (cI, 120, .inl (fm_round))), (qm_meets, .inl (cI, 30, .inl (fm_meets))), (qm_stumble, .inl (cI, 160, .inl (fm_stumble))), (qm_isMud, .inl (cZ, 1000, .inl (fm_isMud))), (qm_cell, .inl (cI, 120, .inl (fm_cell))), (qm_tune, .inl (cI, 50, .inl (fm_tune))), (qm_change, .inl (cI, 800, .inl (fm_change)))]
set_option maxHeartbeats 4000000 in
set_option maxRecDepth 100000 in
/-- X12 copyDance -/
theorem c_X12_copyDance (l : Launch) (D : va_G) (G : ct_G) (cI cJ cB cZ cO : ClassId) (qm : Nat) (vm_thrown : Int32) (qm_width : Nat) (qm_many : Nat) (qm_cells : Nat) (qm_moved : Nat) (qm_tape : Nat) (vm_taped : Int32) (vm_at : Int32) (vm_token : Int32) (vm_place : Int32) (vm_value : Int32) (vm_word : Int64) (vm_bad : Int32) (vm_badPlace : Int32) (vm_fault : Int32) (vm_faultPlace : Int32) (qm_lines : Nat) (fm_lines : Nat → Int32) (qm_has : Nat) (fm_has : Nat → Int32) (qm_round : Nat) (fm_round : Nat → Int32) (qm_meets : Nat) (fm_meets : Nat → Int32) (qm_stumble : Nat) (fm_stumble : Nat → Int32) (qm_isMud : Nat) (fm_isMud : Nat → Int32) (qm_cell : Nat) (fm_cell : Nat → Int32) (qm_tune : Nat) (fm_tune : Nat → Int32) (qm_change : Nat) (fm_change : Nat → Int32) (qm_isKept : Nat) (qm_steps : Nat) (qm_places : Nat) (qm_danced : Nat) (vm_runMost : Int32) (vm_runBegins : Int32) (qm_heardBy : Nat) (vm_fitMany : Int32) (vm_fitFirst : Int32) (vm_fitBeats : Int64) (vm_listenLeaves : Int32) (qm_there : Nat) (vm_metAt : Int32) (vm_metIn : Int32) (qm_wins : Nat) (vm_nightHoles : Int32) (vm_nightFirst : Int32) (vm_nightMud : Int32) (vm_nightSlips : Int32) (vm_drawnNow : Int64) (a1 : Int32) (a2 : Int32) (h_vm_taped : 0 ≤ vm_taped.toInt ∧ vm_taped.toInt ≤ 1200) (h_vm_at : 0 ≤ vm_at.toInt ∧ vm_at.toInt ≤ 1200) (h_vm_value : 0 ≤ vm_value.toInt ∧ vm_value.toInt ≤ 1000009) (h_fm_has : ar_ok [0, (-2147483648), (-2147483648), 0, 0, 0, 0, 0, 0, 0, 0] [20, 2147483647, 2147483647, 12, 12, 11, 11, 8, 12, 5, 40] fm_has) (h_fm_round : ar_ok [0] [5] fm_round) (h_fm_stumble : ar_ok [(-2147483648), (-2147483648), 0, (-2147483648)] [2147483647, 2147483647, 5, 2147483647] fm_stumble) (h_a1 : 0 ≤ a1.toInt ∧ a1.toInt ≤ 4) (h_a2 : 0 ≤ a2.toInt ∧ a2.toInt ≤ 3) (h_rfc : rf_c fm_has fm_cell) (h_rft : rf_t fm_has fm_tune) (h_rfg : rf_g fm_has fm_change) (h_ne : a1.toInt ≠ a2.toInt) (h_54 : a1.toInt ≤ 3 ∨ (fm_has 54).toInt = 0) (sz : Nat) : Met l yX12_copyDance wsX12_copyDance ({ frames := 1, cells := 0, slots := 0, locals := 24 }) (va_Pc [.ref qm, .int a1, .int a2] (ct_P D (ct_T cI cJ cB cZ cO) G (w_c_X12_copyDance cI cJ cB cZ cO qm vm_thrown qm_width qm_many qm_cells qm_moved qm_tape vm_taped vm_at vm_token vm_place vm_value vm_word vm_bad vm_badPlace vm_fault vm_faultPlace qm_lines fm_lines qm_has fm_has qm_round fm_round qm_meets fm_meets qm_stumble fm_stumble qm_isMud fm_isMud qm_cell fm_cell qm_tune fm_tune qm_change fm_change qm_isKept qm_steps qm_places qm_danced vm_runMost vm_runBegins qm_heardBy vm_fitMany vm_fitFirst vm_fitBeats vm_listenLeaves qm_there vm_metAt vm_metIn qm_wins vm_nightHoles vm_nightFirst vm_nightMud vm_nightSlips vm_drawnNow) sz)) (va_Qv (fun (u : (Nat → Int32) × (Nat → Int32) × (Nat → Int32) × (Nat → Int32) × (Nat → Int32) × (Nat → Int32) × (Nat → Int32) × (Nat → Int32) × (Nat → Int32)) => (ar_ok [0, (-2147483648), (-2147483648), 0, 0, 0, 0, 0, 0, 0, 0] [20, 2147483647, 2147483647, 12, 12, 11, 11, 8, 12, 5, 40] u.2.1) ∧ (ar_ok [0] [5] u.2.2.1) ∧ (ar_ok [(-2147483648), (-2147483648), 0, (-2147483648)] [2147483647, 2147483647, 5, 2147483647] u.2.2.2.2.1) ∧ (rf_c u.2.1 u.2.2.2.2.2.2.1) ∧ (rf_t u.2.1 u.2.2.2.2.2.2.2.1) ∧ (rf_g u.2.1 u.2.2.2.2.2.2.2.2)) (fun (u : (Nat → Int32) × (Nat → Int32) × (Nat → Int32) × (Nat → Int32) × (Nat → Int32) × (Nat → Int32) × (Nat → Int32) × (Nat → Int32) × (Nat → Int32)) t => ct_Q D (va_A (w_c_X12_copyDance cI cJ cB cZ cO qm vm_thrown qm_width qm_many qm_cells qm_moved qm_tape vm_taped vm_at vm_token vm_place vm_value vm_word vm_bad vm_badPlace vm_fault vm_faultPlace qm_lines fm_lines qm_has fm_has qm_round fm_round qm_meets fm_meets qm_stumble fm_stumble qm_isMud fm_isMud qm_cell fm_cell qm_tune fm_tune qm_change fm_change qm_isKept qm_steps qm_places qm_danced vm_runMost vm_runBegins qm_heardBy vm_fitMany vm_fitFirst vm_fitBeats vm_listenLeaves qm_there vm_metAt vm_metIn qm_wins vm_nightHoles vm_nightFirst vm_nightMud vm_nightSlips vm_drawnNow) sz) [mo qm vm_thrown qm_width qm_many qm_cells qm_moved qm_tape vm_taped vm_at vm_token vm_place vm_value vm_word vm_bad vm_badPlace vm_fault vm_faultPlace qm_lines qm_has qm_round qm_meets qm_stumble qm_isMud qm_cell qm_tune qm_change qm_isKept qm_steps qm_places qm_danced vm_runMost vm_runBegins qm_heardBy vm_fitMany vm_fitFirst vm_fitBeats vm_listenLeaves qm_there vm_metAt vm_metIn qm_wins vm_nightHoles vm_nightFirst vm_nightMud vm_nightSlips vm_drawnNow, (qm_lines, .inl (cI, 5, .inl (u.1))), (qm_has, .inl (cI, 55, .inl (u.2.1))), (qm_round, .inl (cI, 120, .inl (u.2.2.1))), (qm_meets, .inl (cI, 30, .inl (u.2.2.2.1))), (qm_stumble, .inl (cI, 160, .inl (u.2.2.2.2.1))), (qm_isMud, .inl (cZ, 1000, .inl (u.2.2.2.2.2.1))), (qm_cell, .inl (cI, 120, .inl (u.2.2.2.2.2.2.1))), (qm_tune, .inl (cI, 50, .inl (u.2.2.2.2.2.2.2.1))), (qm_change, .inl (cI, 800, .inl (u.2.2.2.2.2.2.2.2)))] t) (va_A (w_c_X12_copyDance cI cJ cB cZ cO qm vm_thrown qm_width qm_many qm_cells qm_moved qm_tape vm_taped vm_at vm_token vm_place vm_value vm_word vm_bad vm_badPlace vm_fault vm_faultPlace qm_lines fm_lines qm_has fm_has qm_round fm_round qm_meets fm_meets qm_stumble fm_stumble qm_isMud fm_isMud qm_cell fm_cell qm_tune fm_tune qm_change fm_change qm_isKept qm_steps qm_places qm_danced vm_runMost vm_runBegins qm_heardBy vm_fitMany vm_fitFirst vm_fitBeats vm_listenLeaves qm_there vm_metAt vm_metIn qm_wins vm_nightHoles vm_nightFirst vm_nightMud vm_nightSlips vm_drawnNow) sz)) 0 0 (va_A (w_c_X12_copyDance cI cJ cB cZ cO qm vm_thrown qm_width qm_many qm_cells qm_moved qm_tape vm_taped vm_at vm_token vm_place vm_value vm_word vm_bad vm_badPlace vm_fault vm_faultPlace qm_lines fm_lines qm_has fm_has qm_round fm_round qm_meets fm_meets qm_stumble fm_stumble qm_isMud fm_isMud qm_cell fm_cell qm_tune fm_tune qm_change fm_change qm_isKept qm_steps qm_places qm_danced vm_runMost vm_runBegins qm_heardBy vm_fitMany vm_fitFirst vm_fitBeats vm_listenLeaves qm_there vm_metAt vm_metIn qm_wins vm_nightHoles vm_nightFirst vm_nightMud vm_nightSlips vm_drawnNow) sz) := by
  refine Met.ofW (cc := cX12_copyDance) (maxL := 4) (ret := none) (by decide) rfl ?_
  intro p e s m args below meth c s₁ B hml hv
  obtain ⟨rfl, hsz, hP, hE, hD0, hH⟩ := hv
  have hx := B.exec
  have hb := B.bytes
  have hr := B.returns
  have hts := atoms_spec (ws := wsX12_copyDance) B.pre
  have hown : s.vm.findClass RX12 = some m.cls := findClass_of_methodNamed B.named
  have hlocks := B.notSynchronized
  have hK := hE.1
  have hi12 : ∀ w ∈ u_ws RX12 TX12 45, w ∈ wsX12_copyDance := fun w h => List.mem_cons_of_mem _ (List.mem_append_right _ h)
  subst hsz
  have hD := hD0.self (sz := s.heap.size)
  generalize hAe : va_A (w_c_X12_copyDance cI cJ cB cZ cO qm vm_thrown qm_width qm_many qm_cells qm_moved qm_tape vm_taped vm_at vm_token vm_place vm_value vm_word vm_bad vm_badPlace vm_fault vm_faultPlace qm_lines fm_lines qm_has fm_has qm_round fm_round qm_meets fm_meets qm_stumble fm_stumble qm_isMud fm_isMud qm_cell fm_cell qm_tune fm_tune qm_change fm_change qm_isKept qm_steps qm_places qm_danced vm_runMost vm_runBegins qm_heardBy vm_fitMany vm_fitFirst vm_fitBeats vm_listenLeaves qm_there vm_metAt vm_metIn qm_wins vm_nightHoles vm_nightFirst vm_nightMud vm_nightSlips vm_drawnNow) s.heap.size = A at hD hH ⊢
  have hA : ∀ q : Nat, s.heap.size ≤ q → A q := fun q h => by rw [← hAe]; exact Or.inr h
  have hS : va_S A s.heap s.heap [] := va_S.rf
  obtain ⟨hP, hD⟩ : ct_B D A s.heap [mo qm vm_thrown qm_width qm_many qm_cells qm_moved qm_tape vm_taped vm_at vm_token vm_place vm_value vm_word vm_bad vm_badPlace vm_fault vm_faultPlace qm_lines qm_has qm_round qm_meets qm_stumble qm_isMud qm_cell qm_tune qm_change qm_isKept qm_steps qm_places qm_danced vm_runMost vm_runBegins qm_heardBy vm_fitMany vm_fitFirst vm_fitBeats vm_listenLeaves qm_there vm_metAt vm_metIn qm_wins vm_nightHoles vm_nightFirst vm_nightMud vm_nightSlips vm_drawnNow, (qm_lines, .inl (cI, 5, .inl (fm_lines))), (qm_has, .inl (cI, 55, .inl (fm_has))), (qm_round, .inl (cI, 120, .inl (fm_round))), (qm_meets, .inl (cI, 30, .inl (fm_meets))), (qm_stumble, .inl (cI, 160, .inl (fm_stumble))), (qm_isMud, .inl (cZ, 1000, .inl (fm_isMud))), (qm_cell, .inl (cI, 120, .inl (fm_cell))), (qm_tune, .inl (cI, 50, .inl (fm_tune))), (qm_change, .inl (cI, 800, .inl (fm_change)))] := ⟨hP, hD⟩
  have hl := lv_entry ([.ref qm, .int a1, .int a2]) (n := 4) (Nat.le_of_ble_eq_true rfl)
  rw [lg_entry_eq]
  generalize (lg_sl ([.ref qm, .int a1, .int a2]) ++ List.replicate (4 - (lg_sl ([.ref qm, .int a1, .int a2])).length) Slot.unset).toArray = ls at hl ⊢
  have hl : lv_has ls 4 [(0, .ref qm), (1, .int a1), (2, .int a2)] := hl
  obtain ⟨H, hHe⟩ : ∃ H : Heap, H = s.heap := ⟨_, rfl⟩
  rw [← hHe] at hP
  have hS : va_S A s.heap H [] := by rw [hHe]; exact va_S.rf
  refine ct_start hHe ?_
  refine lv_aload_n hx hb dX12_copyDance_0 rfl (lv_at hl 0 rfl) ?_
  refine va_get (D := D) (ci := 12) (v := .ref qm_lines) (C := RX12) (T := TX12) (N := 45) hx hb hts hi12 hown hK hP 0 rfl rfl 16 (by decide) (hts (.fieldLink RX12 31 "OverHillModel" "lines" "[I") (by decide +kernel)) (fun _ h9 => h9) rfl dX12_copyDance_1 ?_
  refine lv_iconst (v := 1) hx hb dX12_copyDance_4 (by decide) ?_
  refine lv_iload_n hx hb dX12_copyDance_5 rfl (lv_at hl 1 rfl) ?_
  refine lv_iload_n hx hb dX12_copyDance_6 rfl (lv_at hl 2 rfl) ?_
  refine ct_callv (D := D) (wr := [mo qm vm_thrown qm_width qm_many qm_cells qm_moved qm_tape vm_taped vm_at vm_token vm_place vm_value vm_word vm_bad vm_badPlace vm_fault vm_faultPlace qm_lines qm_has qm_round qm_meets qm_stumble qm_isMud qm_cell qm_tune qm_change qm_isKept qm_steps qm_places qm_danced vm_runMost vm_runBegins qm_heardBy vm_fitMany vm_fitFirst vm_fitBeats vm_listenLeaves qm_there vm_metAt vm_metIn qm_wins vm_nightHoles vm_nightFirst vm_nightMud vm_nightSlips vm_drawnNow, (qm_has, .inl (cI, 55, .inl (fm_has))), (qm_round, .inl (cI, 120, .inl (fm_round))), (qm_meets, .inl (cI, 30, .inl (fm_meets))), (qm_stumble, .inl (cI, 160, .inl (fm_stumble))), (qm_isMud, .inl (cZ, 1000, .inl (fm_isMud))), (qm_cell, .inl (cI, 120, .inl (fm_cell))), (qm_tune, .inl (cI, 50, .inl (fm_tune))), (qm_change, .inl (cI, 800, .inl (fm_change)))]) (va_runS (As := [.ref qm_lines, .int 1, .int a1, .int a2]) (rest := []) ⟨hx, hb, hml, hown, hts⟩ (c_copyRow1 l D G cI cJ cB cZ cO qm_lines 5 fm_lines a1 a2 h_a1 (by omega) (by omega) (by omega) H.size) (va_cwS 4 hts gX12_copyDance_X12_copyRow rfl rfl rfl (by decide +kernel) ⟨Nat.le_of_ble_eq_true rfl, Nat.le_of_ble_eq_true rfl⟩) (ct_preS (T := ct_T cI cJ cB cZ cO) hE hH hP hD hS hA [1] (by decide) rfl) rfl rfl hl.1 rfl (lv_room (Nat.le_of_ble_eq_true rfl)) dX12_copyDance_7 ⟨Nat.le_of_ble_eq_true rfl, Nat.le_of_ble_eq_true rfl⟩) hP hD hS hA [1] [0, 2, 3, 4, 5, 6, 7, 8, 9] rfl rfl (by decide) (by decide) (fun u H locs hw hP hD hS => ?_)
  obtain ⟨g1, rfl⟩ : ∃ z, z = u := ⟨_, rfl⟩
  obtain ⟨hP, hD⟩ : ct_B D A H [mo qm vm_thrown qm_width qm_many qm_cells qm_moved qm_tape vm_taped vm_at vm_token vm_place vm_value vm_word vm_bad vm_badPlace vm_fault vm_faultPlace qm_lines qm_has qm_round qm_meets qm_stumble qm_isMud qm_cell qm_tune qm_change qm_isKept qm_steps qm_places qm_danced vm_runMost vm_runBegins qm_heardBy vm_fitMany vm_fitFirst vm_fitBeats vm_listenLeaves qm_there vm_metAt vm_metIn qm_wins vm_nightHoles vm_nightFirst vm_nightMud vm_nightSlips vm_drawnNow, (qm_has, .inl (cI, 55, .inl (fm_has))), (qm_round, .inl (cI, 120, .inl (fm_round))), (qm_meets, .inl (cI, 30, .inl (fm_meets))), (qm_stumble, .inl (cI, 160, .inl (fm_stumble))), (qm_isMud, .inl (cZ, 1000, .inl (fm_isMud))), (qm_cell, .inl (cI, 120, .inl (fm_cell))), (qm_tune, .inl (cI, 50, .inl (fm_tune))), (qm_change, .inl (cI, 800, .inl (fm_change))), (qm_lines, .inl (cI, 5, .inl (g1)))] := ⟨hP, hD⟩
  have hp0 := hw
  clear hw
  have hp_2 : g1 = cr fm_lines 1 a1.toInt.toNat a2.toInt.toNat 1 := hp0
  clear hp0
  refine lv_aload_n hx hb dX12_copyDance_10 rfl (lv_at hl 0 rfl) ?_
  refine va_get (D := D) (ci := 12) (v := .ref qm_has) (C := RX12) (T := TX12) (N := 45) hx hb hts hi12 hown hK hP 0 rfl rfl 17 (by decide) (hts (.fieldLink RX12 34 "OverHillModel" "has" "[I") (by decide +kernel)) (fun _ h9 => h9) rfl dX12_copyDance_11 ?_
  refine lv_bipush (v := 11) hx hb dX12_copyDance_14 (by decide) ?_
  refine lv_iload_n hx hb dX12_copyDance_16 rfl (lv_at hl 1 rfl) ?_
  refine lv_iload_n hx hb dX12_copyDance_17 rfl (lv_at hl 2 rfl) ?_
  refine ct_callv (D := D) (wr := [mo qm vm_thrown qm_width qm_many qm_cells qm_moved qm_tape vm_taped vm_at vm_token vm_place vm_value vm_word vm_bad vm_badPlace vm_fault vm_faultPlace qm_lines qm_has qm_round qm_meets qm_stumble qm_isMud qm_cell qm_tune qm_change qm_isKept qm_steps qm_places qm_danced vm_runMost vm_runBegins qm_heardBy vm_fitMany vm_fitFirst vm_fitBeats vm_listenLeaves qm_there vm_metAt vm_metIn qm_wins vm_nightHoles vm_nightFirst vm_nightMud vm_nightSlips vm_drawnNow, (qm_round, .inl (cI, 120, .inl (fm_round))), (qm_meets, .inl (cI, 30, .inl (fm_meets))), (qm_stumble, .inl (cI, 160, .inl (fm_stumble))), (qm_isMud, .inl (cZ, 1000, .inl (fm_isMud))), (qm_cell, .inl (cI, 120, .inl (fm_cell))), (qm_tune, .inl (cI, 50, .inl (fm_tune))), (qm_change, .inl (cI, 800, .inl (fm_change))), (qm_lines, .inl (cI, 5, .inl (g1)))]) (va_runS (As := [.ref qm_has, .int 11, .int a1, .int a2]) (rest := []) ⟨hx, hb, hml, hown, hts⟩ (c_copyRow11 l D G cI cJ cB cZ cO qm_has 55 fm_has a1 a2 h_a1 (by omega) (by omega) (by omega) H.size) (va_cwS 4 hts gX12_copyDance_X12_copyRow rfl rfl rfl (by decide +kernel) ⟨Nat.le_of_ble_eq_true rfl, Nat.le_of_ble_eq_true rfl⟩) (ct_preS (T := ct_T cI cJ cB cZ cO) hE hH hP hD hS hA [1] (by decide) rfl) rfl rfl hl.1 rfl (lv_room (Nat.le_of_ble_eq_true rfl)) dX12_copyDance_18 ⟨Nat.le_of_ble_eq_true rfl, Nat.le_of_ble_eq_true rfl⟩) hP hD hS hA [1] [0, 2, 3, 4, 5, 6, 7, 8, 9] rfl rfl (by decide) (by decide) (fun u H locs hw hP hD hS => ?_)
  obtain ⟨g3, rfl⟩ : ∃ z, z = u := ⟨_, rfl⟩
  obtain ⟨hP, hD⟩ : ct_B D A H [mo qm vm_thrown qm_width qm_many qm_cells qm_moved qm_tape vm_taped vm_at vm_token vm_place vm_value vm_word vm_bad vm_badPlace vm_fault vm_faultPlace qm_lines qm_has qm_round qm_meets qm_stumble qm_isMud qm_cell qm_tune qm_change qm_isKept qm_steps qm_places qm_danced vm_runMost vm_runBegins qm_heardBy vm_fitMany vm_fitFirst vm_fitBeats vm_listenLeaves qm_there vm_metAt vm_metIn qm_wins vm_nightHoles vm_nightFirst vm_nightMud vm_nightSlips vm_drawnNow, (qm_round, .inl (cI, 120, .inl (fm_round))), (qm_meets, .inl (cI, 30, .inl (fm_meets))), (qm_stumble, .inl (cI, 160, .inl (fm_stumble))), (qm_isMud, .inl (cZ, 1000, .inl (fm_isMud))), (qm_cell, .inl (cI, 120, .inl (fm_cell))), (qm_tune, .inl (cI, 50, .inl (fm_tune))), (qm_change, .inl (cI, 800, .inl (fm_change))), (qm_lines, .inl (cI, 5, .inl (g1))), (qm_has, .inl (cI, 55, .inl (g3)))] := ⟨hP, hD⟩
  have hp0 := hw
  clear hw
  have hp_4 : g3 = cr fm_has 11 a1.toInt.toNat a2.toInt.toNat 11 := hp0
  clear hp0
  have h_g3 : ar_ok [0, (-2147483648), (-2147483648), 0, 0, 0, 0, 0, 0, 0, 0] [20, 2147483647, 2147483647, 12, 12, 11, 11, 8, 12, 5, 40] g3 := by rw [hp_4]; exact ar_cr h_fm_has (by decide)
  refine lv_aload_n hx hb dX12_copyDance_21 rfl (lv_at hl 0 rfl) ?_
  refine va_get (D := D) (ci := 12) (v := .ref qm_round) (C := RX12) (T := TX12) (N := 45) hx hb hts hi12 hown hK hP 0 rfl rfl 18 (by decide) (hts (.fieldLink RX12 37 "OverHillModel" "round" "[I") (by decide +kernel)) (fun _ h9 => h9) rfl dX12_copyDance_22 ?_
  refine lv_bipush (v := 24) hx hb dX12_copyDance_25 (by decide) ?_
  refine lv_iload_n hx hb dX12_copyDance_27 rfl (lv_at hl 1 rfl) ?_
  refine lv_iload_n hx hb dX12_copyDance_28 rfl (lv_at hl 2 rfl) ?_
  refine ct_callv (D := D) (wr := [mo qm vm_thrown qm_width qm_many qm_cells qm_moved qm_tape vm_taped vm_at vm_token vm_place vm_value vm_word vm_bad vm_badPlace vm_fault vm_faultPlace qm_lines qm_has qm_round qm_meets qm_stumble qm_isMud qm_cell qm_tune qm_change qm_isKept qm_steps qm_places qm_danced vm_runMost vm_runBegins qm_heardBy vm_fitMany vm_fitFirst vm_fitBeats vm_listenLeaves qm_there vm_metAt vm_metIn qm_wins vm_nightHoles vm_nightFirst vm_nightMud vm_nightSlips vm_drawnNow, (qm_meets, .inl (cI, 30, .inl (fm_meets))), (qm_stumble, .inl (cI, 160, .inl (fm_stumble))), (qm_isMud, .inl (cZ, 1000, .inl (fm_isMud))), (qm_cell, .inl (cI, 120, .inl (fm_cell))), (qm_tune, .inl (cI, 50, .inl (fm_tune))), (qm_change, .inl (cI, 800, .inl (fm_change))), (qm_lines, .inl (cI, 5, .inl (g1))), (qm_has, .inl (cI, 55, .inl (g3)))]) (va_runS (As := [.ref qm_round, .int 24, .int a1, .int a2]) (rest := []) ⟨hx, hb, hml, hown, hts⟩ (c_copyRow24 l D G cI cJ cB cZ cO qm_round 120 fm_round a1 a2 h_a1 (by omega) (by omega) (by omega) H.size) (va_cwS 4 hts gX12_copyDance_X12_copyRow rfl rfl rfl (by decide +kernel) ⟨Nat.le_of_ble_eq_true rfl, Nat.le_of_ble_eq_true rfl⟩) (ct_preS (T := ct_T cI cJ cB cZ cO) hE hH hP hD hS hA [1] (by decide) rfl) rfl rfl hl.1 rfl (lv_room (Nat.le_of_ble_eq_true rfl)) dX12_copyDance_29 ⟨Nat.le_of_ble_eq_true rfl, Nat.le_of_ble_eq_true rfl⟩) hP hD hS hA [1] [0, 2, 3, 4, 5, 6, 7, 8, 9] rfl rfl (by decide) (by decide) (fun u H locs hw hP hD hS => ?_)
  obtain ⟨g5, rfl⟩ : ∃ z, z = u := ⟨_, rfl⟩
  obtain ⟨hP, hD⟩ : ct_B D A H [mo qm vm_thrown qm_width qm_many qm_cells qm_moved qm_tape vm_taped vm_at vm_token vm_place vm_value vm_word vm_bad vm_badPlace vm_fault vm_faultPlace qm_lines qm_has qm_round qm_meets qm_stumble qm_isMud qm_cell qm_tune qm_change qm_isKept qm_steps qm_places qm_danced vm_runMost vm_runBegins qm_heardBy vm_fitMany vm_fitFirst vm_fitBeats vm_listenLeaves qm_there vm_metAt vm_metIn qm_wins vm_nightHoles vm_nightFirst vm_nightMud vm_nightSlips vm_drawnNow, (qm_meets, .inl (cI, 30, .inl (fm_meets))), (qm_stumble, .inl (cI, 160, .inl (fm_stumble))), (qm_isMud, .inl (cZ, 1000, .inl (fm_isMud))), (qm_cell, .inl (cI, 120, .inl (fm_cell))), (qm_tune, .inl (cI, 50, .inl (fm_tune))), (qm_change, .inl (cI, 800, .inl (fm_change))), (qm_lines, .inl (cI, 5, .inl (g1))), (qm_has, .inl (cI, 55, .inl (g3))), (qm_round, .inl (cI, 120, .inl (g5)))] := ⟨hP, hD⟩
  have hp0 := hw
  clear hw
  have hp_6 : g5 = cr fm_round 24 a1.toInt.toNat a2.toInt.toNat 24 := hp0
  clear hp0
  have h_g5 : ar_ok [0] [5] g5 := by rw [hp_6]; exact ar_cr h_fm_round (by decide)
  refine lv_aload_n hx hb dX12_copyDance_32 rfl (lv_at hl 0 rfl) ?_
  refine va_get (D := D) (ci := 12) (v := .ref qm_meets) (C := RX12) (T := TX12) (N := 45) hx hb hts hi12 hown hK hP 0 rfl rfl 19 (by decide) (hts (.fieldLink RX12 40 "OverHillModel" "meets" "[I") (by decide +kernel)) (fun _ h9 => h9) rfl dX12_copyDance_33 ?_
  refine lv_bipush (v := 6) hx hb dX12_copyDance_36 (by decide) ?_
  refine lv_iload_n hx hb dX12_copyDance_38 rfl (lv_at hl 1 rfl) ?_
  refine lv_iload_n hx hb dX12_copyDance_39 rfl (lv_at hl 2 rfl) ?_
  refine ct_callv (D := D) (wr := [mo qm vm_thrown qm_width qm_many qm_cells qm_moved qm_tape vm_taped vm_at vm_token vm_place vm_value vm_word vm_bad vm_badPlace vm_fault vm_faultPlace qm_lines qm_has qm_round qm_meets qm_stumble qm_isMud qm_cell qm_tune qm_change qm_isKept qm_steps qm_places qm_danced vm_runMost vm_runBegins qm_heardBy vm_fitMany vm_fitFirst vm_fitBeats vm_listenLeaves qm_there vm_metAt vm_metIn qm_wins vm_nightHoles vm_nightFirst vm_nightMud vm_nightSlips vm_drawnNow, (qm_stumble, .inl (cI, 160, .inl (fm_stumble))), (qm_isMud, .inl (cZ, 1000, .inl (fm_isMud))), (qm_cell, .inl (cI, 120, .inl (fm_cell))), (qm_tune, .inl (cI, 50, .inl (fm_tune))), (qm_change, .inl (cI, 800, .inl (fm_change))), (qm_lines, .inl (cI, 5, .inl (g1))), (qm_has, .inl (cI, 55, .inl (g3))), (qm_round, .inl (cI, 120, .inl (g5)))]) (va_runS (As := [.ref qm_meets, .int 6, .int a1, .int a2]) (rest := []) ⟨hx, hb, hml, hown, hts⟩ (c_copyRow6 l D G cI cJ cB cZ cO qm_meets 30 fm_meets a1 a2 h_a1 (by omega) (by omega) (by omega) H.size) (va_cwS 4 hts gX12_copyDance_X12_copyRow rfl rfl rfl (by decide +kernel) ⟨Nat.le_of_ble_eq_true rfl, Nat.le_of_ble_eq_true rfl⟩) (ct_preS (T := ct_T cI cJ cB cZ cO) hE hH hP hD hS hA [1] (by decide) rfl) rfl rfl hl.1 rfl (lv_room (Nat.le_of_ble_eq_true rfl)) dX12_copyDance_40 ⟨Nat.le_of_ble_eq_true rfl, Nat.le_of_ble_eq_true rfl⟩) hP hD hS hA [1] [0, 2, 3, 4, 5, 6, 7, 8, 9] rfl rfl (by decide) (by decide) (fun u H locs hw hP hD hS => ?_)
  obtain ⟨g7, rfl⟩ : ∃ z, z = u := ⟨_, rfl⟩
  obtain ⟨hP, hD⟩ : ct_B D A H [mo qm vm_thrown qm_width qm_many qm_cells qm_moved qm_tape vm_taped vm_at vm_token vm_place vm_value vm_word vm_bad vm_badPlace vm_fault vm_faultPlace qm_lines qm_has qm_round qm_meets qm_stumble qm_isMud qm_cell qm_tune qm_change qm_isKept qm_steps qm_places qm_danced vm_runMost vm_runBegins qm_heardBy vm_fitMany vm_fitFirst vm_fitBeats vm_listenLeaves qm_there vm_metAt vm_metIn qm_wins vm_nightHoles vm_nightFirst vm_nightMud vm_nightSlips vm_drawnNow, (qm_stumble, .inl (cI, 160, .inl (fm_stumble))), (qm_isMud, .inl (cZ, 1000, .inl (fm_isMud))), (qm_cell, .inl (cI, 120, .inl (fm_cell))), (qm_tune, .inl (cI, 50, .inl (fm_tune))), (qm_change, .inl (cI, 800, .inl (fm_change))), (qm_lines, .inl (cI, 5, .inl (g1))), (qm_has, .inl (cI, 55, .inl (g3))), (qm_round, .inl (cI, 120, .inl (g5))), (qm_meets, .inl (cI, 30, .inl (g7)))] := ⟨hP, hD⟩
  have hp0 := hw
  clear hw
  have hp_8 : g7 = cr fm_meets 6 a1.toInt.toNat a2.toInt.toNat 6 := hp0
  clear hp0
  refine lv_aload_n hx hb dX12_copyDance_43 rfl (lv_at hl 0 rfl) ?_
  refine va_get (D := D) (ci := 12) (v := .ref qm_stumble) (C := RX12) (T := TX12) (N := 45) hx hb hts hi12 hown hK hP 0 rfl rfl 20 (by decide) (hts (.fieldLink RX12 43 "OverHillModel" "stumble" "[I") (by decide +kernel)) (fun _ h9 => h9) rfl dX12_copyDance_44 ?_
  refine lv_bipush (v := 32) hx hb dX12_copyDance_47 (by decide) ?_
  refine lv_iload_n hx hb dX12_copyDance_49 rfl (lv_at hl 1 rfl) ?_
  refine lv_iload_n hx hb dX12_copyDance_50 rfl (lv_at hl 2 rfl) ?_
  refine ct_callv (D := D) (wr := [mo qm vm_thrown qm_width qm_many qm_cells qm_moved qm_tape vm_taped vm_at vm_token vm_place vm_value vm_word vm_bad vm_badPlace vm_fault vm_faultPlace qm_lines qm_has qm_round qm_meets qm_stumble qm_isMud qm_cell qm_tune qm_change qm_isKept qm_steps qm_places qm_danced vm_runMost vm_runBegins qm_heardBy vm_fitMany vm_fitFirst vm_fitBeats vm_listenLeaves qm_there vm_metAt vm_metIn qm_wins vm_nightHoles vm_nightFirst vm_nightMud vm_nightSlips vm_drawnNow, (qm_isMud, .inl (cZ, 1000, .inl (fm_isMud))), (qm_cell, .inl (cI, 120, .inl (fm_cell))), (qm_tune, .inl (cI, 50, .inl (fm_tune))), (qm_change, .inl (cI, 800, .inl (fm_change))), (qm_lines, .inl (cI, 5, .inl (g1))), (qm_has, .inl (cI, 55, .inl (g3))), (qm_round, .inl (cI, 120, .inl (g5))), (qm_meets, .inl (cI, 30, .inl (g7)))]) (va_runS (As := [.ref qm_stumble, .int 32, .int a1, .int a2]) (rest := []) ⟨hx, hb, hml, hown, hts⟩ (c_copyRow32 l D G cI cJ cB cZ cO qm_stumble 160 fm_stumble a1 a2 h_a1 (by omega) (by omega) (by omega) H.size) (va_cwS 4 hts gX12_copyDance_X12_copyRow rfl rfl rfl (by decide +kernel) ⟨Nat.le_of_ble_eq_true rfl, Nat.le_of_ble_eq_true rfl⟩) (ct_preS (T := ct_T cI cJ cB cZ cO) hE hH hP hD hS hA [1] (by decide) rfl) rfl rfl hl.1 rfl (lv_room (Nat.le_of_ble_eq_true rfl)) dX12_copyDance_51 ⟨Nat.le_of_ble_eq_true rfl, Nat.le_of_ble_eq_true rfl⟩) hP hD hS hA [1] [0, 2, 3, 4, 5, 6, 7, 8, 9] rfl rfl (by decide) (by decide) (fun u H locs hw hP hD hS => ?_)
  obtain ⟨g9, rfl⟩ : ∃ z, z = u := ⟨_, rfl⟩
  obtain ⟨hP, hD⟩ : ct_B D A H [mo qm vm_thrown qm_width qm_many qm_cells qm_moved qm_tape vm_taped vm_at vm_token vm_place vm_value vm_word vm_bad vm_badPlace vm_fault vm_faultPlace qm_lines qm_has qm_round qm_meets qm_stumble qm_isMud qm_cell qm_tune qm_change qm_isKept qm_steps qm_places qm_danced vm_runMost vm_runBegins qm_heardBy vm_fitMany vm_fitFirst vm_fitBeats vm_listenLeaves qm_there vm_metAt vm_metIn qm_wins vm_nightHoles vm_nightFirst vm_nightMud vm_nightSlips vm_drawnNow, (qm_isMud, .inl (cZ, 1000, .inl (fm_isMud))), (qm_cell, .inl (cI, 120, .inl (fm_cell))), (qm_tune, .inl (cI, 50, .inl (fm_tune))), (qm_change, .inl (cI, 800, .inl (fm_change))), (qm_lines, .inl (cI, 5, .inl (g1))), (qm_has, .inl (cI, 55, .inl (g3))), (qm_round, .inl (cI, 120, .inl (g5))), (qm_meets, .inl (cI, 30, .inl (g7))), (qm_stumble, .inl (cI, 160, .inl (g9)))] := ⟨hP, hD⟩
  have hp0 := hw
  clear hw
  have hp_10 : g9 = cr fm_stumble 32 a1.toInt.toNat a2.toInt.toNat 32 := hp0
  clear hp0
  have h_g9 : ar_ok [(-2147483648), (-2147483648), 0, (-2147483648)] [2147483647, 2147483647, 5, 2147483647] g9 := by rw [hp_10]; exact ar_cr h_fm_stumble (by decide)
  refine lv_aload_n hx hb dX12_copyDance_54 rfl (lv_at hl 0 rfl) ?_
  refine va_get (D := D) (ci := 12) (v := .ref qm_cell) (C := RX12) (T := TX12) (N := 45) hx hb hts hi12 hown hK hP 0 rfl rfl 22 (by decide) (hts (.fieldLink RX12 50 "OverHillModel" "cell" "[I") (by decide +kernel)) (fun _ h9 => h9) rfl dX12_copyDance_55 ?_
  refine lv_bipush (v := 24) hx hb dX12_copyDance_58 (by decide) ?_
  refine lv_iload_n hx hb dX12_copyDance_60 rfl (lv_at hl 1 rfl) ?_
  refine lv_iload_n hx hb dX12_copyDance_61 rfl (lv_at hl 2 rfl) ?_
  refine ct_callv (D := D) (wr := [mo qm vm_thrown qm_width qm_many qm_cells qm_moved qm_tape vm_taped vm_at vm_token vm_place vm_value vm_word vm_bad vm_badPlace vm_fault vm_faultPlace qm_lines qm_has qm_round qm_meets qm_stumble qm_isMud qm_cell qm_tune qm_change qm_isKept qm_steps qm_places qm_danced vm_runMost vm_runBegins qm_heardBy vm_fitMany vm_fitFirst vm_fitBeats vm_listenLeaves qm_there vm_metAt vm_metIn qm_wins vm_nightHoles vm_nightFirst vm_nightMud vm_nightSlips vm_drawnNow, (qm_isMud, .inl (cZ, 1000, .inl (fm_isMud))), (qm_tune, .inl (cI, 50, .inl (fm_tune))), (qm_change, .inl (cI, 800, .inl (fm_change))), (qm_lines, .inl (cI, 5, .inl (g1))), (qm_has, .inl (cI, 55, .inl (g3))), (qm_round, .inl (cI, 120, .inl (g5))), (qm_meets, .inl (cI, 30, .inl (g7))), (qm_stumble, .inl (cI, 160, .inl (g9)))]) (va_runS (As := [.ref qm_cell, .int 24, .int a1, .int a2]) (rest := []) ⟨hx, hb, hml, hown, hts⟩ (c_copyRow24 l D G cI cJ cB cZ cO qm_cell 120 fm_cell a1 a2 h_a1 (by omega) (by omega) (by omega) H.size) (va_cwS 4 hts gX12_copyDance_X12_copyRow rfl rfl rfl (by decide +kernel) ⟨Nat.le_of_ble_eq_true rfl, Nat.le_of_ble_eq_true rfl⟩) (ct_preS (T := ct_T cI cJ cB cZ cO) hE hH hP hD hS hA [2] (by decide) rfl) rfl rfl hl.1 rfl (lv_room (Nat.le_of_ble_eq_true rfl)) dX12_copyDance_62 ⟨Nat.le_of_ble_eq_true rfl, Nat.le_of_ble_eq_true rfl⟩) hP hD hS hA [2] [0, 1, 3, 4, 5, 6, 7, 8, 9] rfl rfl (by decide) (by decide) (fun u H locs hw hP hD hS => ?_)
  obtain ⟨g11, rfl⟩ : ∃ z, z = u := ⟨_, rfl⟩
  obtain ⟨hP, hD⟩ : ct_B D A H [mo qm vm_thrown qm_width qm_many qm_cells qm_moved qm_tape vm_taped vm_at vm_token vm_place vm_value vm_word vm_bad vm_badPlace vm_fault vm_faultPlace qm_lines qm_has qm_round qm_meets qm_stumble qm_isMud qm_cell qm_tune qm_change qm_isKept qm_steps qm_places qm_danced vm_runMost vm_runBegins qm_heardBy vm_fitMany vm_fitFirst vm_fitBeats vm_listenLeaves qm_there vm_metAt vm_metIn qm_wins vm_nightHoles vm_nightFirst vm_nightMud vm_nightSlips vm_drawnNow, (qm_isMud, .inl (cZ, 1000, .inl (fm_isMud))), (qm_tune, .inl (cI, 50, .inl (fm_tune))), (qm_change, .inl (cI, 800, .inl (fm_change))), (qm_lines, .inl (cI, 5, .inl (g1))), (qm_has, .inl (cI, 55, .inl (g3))), (qm_round, .inl (cI, 120, .inl (g5))), (qm_meets, .inl (cI, 30, .inl (g7))), (qm_stumble, .inl (cI, 160, .inl (g9))), (qm_cell, .inl (cI, 120, .inl (g11)))] := ⟨hP, hD⟩
  have hp0 := hw
  clear hw
  have hp_12 : g11 = cr fm_cell 24 a1.toInt.toNat a2.toInt.toNat 24 := hp0
  clear hp0
  have hrel13 : rf_c g3 g11 := by rw [hp_4, hp_12]; exact rf_c_cr h_rfc (hs8 h_fm_has) (by omega)
  refine lv_aload_n hx hb dX12_copyDance_65 rfl (lv_at hl 0 rfl) ?_
  refine va_get (D := D) (ci := 12) (v := .ref qm_tune) (C := RX12) (T := TX12) (N := 45) hx hb hts hi12 hown hK hP 0 rfl rfl 23 (by decide) (hts (.fieldLink RX12 53 "OverHillModel" "tune" "[I") (by decide +kernel)) (fun _ h9 => h9) rfl dX12_copyDance_66 ?_
  refine lv_bipush (v := 10) hx hb dX12_copyDance_69 (by decide) ?_
  refine lv_iload_n hx hb dX12_copyDance_71 rfl (lv_at hl 1 rfl) ?_
  refine lv_iload_n hx hb dX12_copyDance_72 rfl (lv_at hl 2 rfl) ?_
  refine ct_callv (D := D) (wr := [mo qm vm_thrown qm_width qm_many qm_cells qm_moved qm_tape vm_taped vm_at vm_token vm_place vm_value vm_word vm_bad vm_badPlace vm_fault vm_faultPlace qm_lines qm_has qm_round qm_meets qm_stumble qm_isMud qm_cell qm_tune qm_change qm_isKept qm_steps qm_places qm_danced vm_runMost vm_runBegins qm_heardBy vm_fitMany vm_fitFirst vm_fitBeats vm_listenLeaves qm_there vm_metAt vm_metIn qm_wins vm_nightHoles vm_nightFirst vm_nightMud vm_nightSlips vm_drawnNow, (qm_isMud, .inl (cZ, 1000, .inl (fm_isMud))), (qm_change, .inl (cI, 800, .inl (fm_change))), (qm_lines, .inl (cI, 5, .inl (g1))), (qm_has, .inl (cI, 55, .inl (g3))), (qm_round, .inl (cI, 120, .inl (g5))), (qm_meets, .inl (cI, 30, .inl (g7))), (qm_stumble, .inl (cI, 160, .inl (g9))), (qm_cell, .inl (cI, 120, .inl (g11)))]) (va_runS (As := [.ref qm_tune, .int 10, .int a1, .int a2]) (rest := []) ⟨hx, hb, hml, hown, hts⟩ (c_copyRow10 l D G cI cJ cB cZ cO qm_tune 50 fm_tune a1 a2 h_a1 (by omega) (by omega) (by omega) H.size) (va_cwS 4 hts gX12_copyDance_X12_copyRow rfl rfl rfl (by decide +kernel) ⟨Nat.le_of_ble_eq_true rfl, Nat.le_of_ble_eq_true rfl⟩) (ct_preS (T := ct_T cI cJ cB cZ cO) hE hH hP hD hS hA [2] (by decide) rfl) rfl rfl hl.1 rfl (lv_room (Nat.le_of_ble_eq_true rfl)) dX12_copyDance_73 ⟨Nat.le_of_ble_eq_true rfl, Nat.le_of_ble_eq_true rfl⟩) hP hD hS hA [2] [0, 1, 3, 4, 5, 6, 7, 8, 9] rfl rfl (by decide) (by decide) (fun u H locs hw hP hD hS => ?_)
  obtain ⟨g14, rfl⟩ : ∃ z, z = u := ⟨_, rfl⟩
  obtain ⟨hP, hD⟩ : ct_B D A H [mo qm vm_thrown qm_width qm_many qm_cells qm_moved qm_tape vm_taped vm_at vm_token vm_place vm_value vm_word vm_bad vm_badPlace vm_fault vm_faultPlace qm_lines qm_has qm_round qm_meets qm_stumble qm_isMud qm_cell qm_tune qm_change qm_isKept qm_steps qm_places qm_danced vm_runMost vm_runBegins qm_heardBy vm_fitMany vm_fitFirst vm_fitBeats vm_listenLeaves qm_there vm_metAt vm_metIn qm_wins vm_nightHoles vm_nightFirst vm_nightMud vm_nightSlips vm_drawnNow, (qm_isMud, .inl (cZ, 1000, .inl (fm_isMud))), (qm_change, .inl (cI, 800, .inl (fm_change))), (qm_lines, .inl (cI, 5, .inl (g1))), (qm_has, .inl (cI, 55, .inl (g3))), (qm_round, .inl (cI, 120, .inl (g5))), (qm_meets, .inl (cI, 30, .inl (g7))), (qm_stumble, .inl (cI, 160, .inl (g9))), (qm_cell, .inl (cI, 120, .inl (g11))), (qm_tune, .inl (cI, 50, .inl (g14)))] := ⟨hP, hD⟩
  have hp0 := hw
  clear hw
  have hp_15 : g14 = cr fm_tune 10 a1.toInt.toNat a2.toInt.toNat 10 := hp0
  clear hp0
  have hrel16 : rf_t g3 g14 := by rw [hp_4, hp_15]; exact rf_t_cr h_rft (hs9 h_fm_has) (by omega)
  refine lv_aload_n hx hb dX12_copyDance_76 rfl (lv_at hl 0 rfl) ?_
  refine va_get (D := D) (ci := 12) (v := .ref qm_change) (C := RX12) (T := TX12) (N := 45) hx hb hts hi12 hown hK hP 0 rfl rfl 24 (by decide) (hts (.fieldLink RX12 56 "OverHillModel" "change" "[I") (by decide +kernel)) (fun _ h9 => h9) rfl dX12_copyDance_77 ?_
  refine lv_sipush (v := 160) hx hb dX12_copyDance_80 (by decide) ?_
  refine lv_iload_n hx hb dX12_copyDance_83 rfl (lv_at hl 1 rfl) ?_
  refine lv_iload_n hx hb dX12_copyDance_84 rfl (lv_at hl 2 rfl) ?_
  refine ct_callv (D := D) (wr := [mo qm vm_thrown qm_width qm_many qm_cells qm_moved qm_tape vm_taped vm_at vm_token vm_place vm_value vm_word vm_bad vm_badPlace vm_fault vm_faultPlace qm_lines qm_has qm_round qm_meets qm_stumble qm_isMud qm_cell qm_tune qm_change qm_isKept qm_steps qm_places qm_danced vm_runMost vm_runBegins qm_heardBy vm_fitMany vm_fitFirst vm_fitBeats vm_listenLeaves qm_there vm_metAt vm_metIn qm_wins vm_nightHoles vm_nightFirst vm_nightMud vm_nightSlips vm_drawnNow, (qm_isMud, .inl (cZ, 1000, .inl (fm_isMud))), (qm_lines, .inl (cI, 5, .inl (g1))), (qm_has, .inl (cI, 55, .inl (g3))), (qm_round, .inl (cI, 120, .inl (g5))), (qm_meets, .inl (cI, 30, .inl (g7))), (qm_stumble, .inl (cI, 160, .inl (g9))), (qm_cell, .inl (cI, 120, .inl (g11))), (qm_tune, .inl (cI, 50, .inl (g14)))]) (va_runS (As := [.ref qm_change, .int 160, .int a1, .int a2]) (rest := []) ⟨hx, hb, hml, hown, hts⟩ (c_copyRow160 l D G cI cJ cB cZ cO qm_change 800 fm_change a1 a2 h_a1 (by omega) (by omega) (by omega) H.size) (va_cwS 4 hts gX12_copyDance_X12_copyRow rfl rfl rfl (by decide +kernel) ⟨Nat.le_of_ble_eq_true rfl, Nat.le_of_ble_eq_true rfl⟩) (ct_preS (T := ct_T cI cJ cB cZ cO) hE hH hP hD hS hA [2] (by decide) rfl) rfl rfl hl.1 rfl (lv_room (Nat.le_of_ble_eq_true rfl)) dX12_copyDance_85 ⟨Nat.le_of_ble_eq_true rfl, Nat.le_of_ble_eq_true rfl⟩) hP hD hS hA [2] [0, 1, 3, 4, 5, 6, 7, 8, 9] rfl rfl (by decide) (by decide) (fun u H locs hw hP hD hS => ?_)
  obtain ⟨g17, rfl⟩ : ∃ z, z = u := ⟨_, rfl⟩
  obtain ⟨hP, hD⟩ : ct_B D A H [mo qm vm_thrown qm_width qm_many qm_cells qm_moved qm_tape vm_taped vm_at vm_token vm_place vm_value vm_word vm_bad vm_badPlace vm_fault vm_faultPlace qm_lines qm_has qm_round qm_meets qm_stumble qm_isMud qm_cell qm_tune qm_change qm_isKept qm_steps qm_places qm_danced vm_runMost vm_runBegins qm_heardBy vm_fitMany vm_fitFirst vm_fitBeats vm_listenLeaves qm_there vm_metAt vm_metIn qm_wins vm_nightHoles vm_nightFirst vm_nightMud vm_nightSlips vm_drawnNow, (qm_isMud, .inl (cZ, 1000, .inl (fm_isMud))), (qm_lines, .inl (cI, 5, .inl (g1))), (qm_has, .inl (cI, 55, .inl (g3))), (qm_round, .inl (cI, 120, .inl (g5))), (qm_meets, .inl (cI, 30, .inl (g7))), (qm_stumble, .inl (cI, 160, .inl (g9))), (qm_cell, .inl (cI, 120, .inl (g11))), (qm_tune, .inl (cI, 50, .inl (g14))), (qm_change, .inl (cI, 800, .inl (g17)))] := ⟨hP, hD⟩
  have hp0 := hw
  clear hw
  have hp_18 : g17 = cr fm_change 160 a1.toInt.toNat a2.toInt.toNat 160 := hp0
  clear hp0
  have hrel19 : rf_g g3 g17 := by rw [hp_4, hp_18]; exact rf_g_cr h_rfg (hs10 h_fm_has) (by omega)
  refine lv_iconst (v := 0) hx hb dX12_copyDance_88 (by decide) ?_
  refine lv_istore_n (lv' := [(3, .int 0), (0, .ref qm), (1, .int a1), (2, .int a2)]) hx hb dX12_copyDance_89 rfl hl (by decide) rfl (fun ls hl => ?_)
  refine ct_loop (X := (Nat → Int32) × Int32) (fun x => (200 - x.2.toInt).toNat) (fun x H locs ls => ((0 ≤ x.2.toInt ∧ x.2.toInt ≤ 200)) ∧ ct_B D A H [mo qm vm_thrown qm_width qm_many qm_cells qm_moved qm_tape vm_taped vm_at vm_token vm_place vm_value vm_word vm_bad vm_badPlace vm_fault vm_faultPlace qm_lines qm_has qm_round qm_meets qm_stumble qm_isMud qm_cell qm_tune qm_change qm_isKept qm_steps qm_places qm_danced vm_runMost vm_runBegins qm_heardBy vm_fitMany vm_fitFirst vm_fitBeats vm_listenLeaves qm_there vm_metAt vm_metIn qm_wins vm_nightHoles vm_nightFirst vm_nightMud vm_nightSlips vm_drawnNow, (qm_isMud, .inl (cZ, 1000, .inl (x.1))), (qm_lines, .inl (cI, 5, .inl (g1))), (qm_has, .inl (cI, 55, .inl (g3))), (qm_round, .inl (cI, 120, .inl (g5))), (qm_meets, .inl (cI, 30, .inl (g7))), (qm_stumble, .inl (cI, 160, .inl (g9))), (qm_cell, .inl (cI, 120, .inl (g11))), (qm_tune, .inl (cI, 50, .inl (g14))), (qm_change, .inl (cI, 800, .inl (g17)))] ∧ va_S A s.heap H locs ∧ lv_has ls 4 [(3, .int x.2), (0, .ref qm), (1, .int a1), (2, .int a2)]) 90 (fm_isMud, (0 : Int32)) ⟨(show 0 ≤ (0 : Int32).toInt ∧ (0 : Int32).toInt ≤ 200 by decide), ⟨hP, hD⟩, hS, lv_sub hl [0, 1, 2, 3] rfl⟩ (fun x ih248 H locs ls hI => ?_)
  obtain ⟨g246, x247⟩ := x
  obtain ⟨h_x247, ⟨hP, hD⟩, hS, hl⟩ := hI
  change (0 ≤ x247.toInt ∧ x247.toInt ≤ 200) at h_x247
  obtain ⟨hP, hD⟩ : ct_B D A H [mo qm vm_thrown qm_width qm_many qm_cells qm_moved qm_tape vm_taped vm_at vm_token vm_place vm_value vm_word vm_bad vm_badPlace vm_fault vm_faultPlace qm_lines qm_has qm_round qm_meets qm_stumble qm_isMud qm_cell qm_tune qm_change qm_isKept qm_steps qm_places qm_danced vm_runMost vm_runBegins qm_heardBy vm_fitMany vm_fitFirst vm_fitBeats vm_listenLeaves qm_there vm_metAt vm_metIn qm_wins vm_nightHoles vm_nightFirst vm_nightMud vm_nightSlips vm_drawnNow, (qm_isMud, .inl (cZ, 1000, .inl (g246))), (qm_lines, .inl (cI, 5, .inl (g1))), (qm_has, .inl (cI, 55, .inl (g3))), (qm_round, .inl (cI, 120, .inl (g5))), (qm_meets, .inl (cI, 30, .inl (g7))), (qm_stumble, .inl (cI, 160, .inl (g9))), (qm_cell, .inl (cI, 120, .inl (g11))), (qm_tune, .inl (cI, 50, .inl (g14))), (qm_change, .inl (cI, 800, .inl (g17)))] := ⟨hP, hD⟩
  have hl : lv_has ls 4 [(3, .int x247), (0, .ref qm), (1, .int a1), (2, .int a2)] := hl
  refine lv_iload_n hx hb dX12_copyDance_90 rfl (lv_at hl 0 rfl) ?_
  refine lv_sipush (v := 200) hx hb dX12_copyDance_91 (by decide) ?_
  refine lv_icmp_ge (tgt := 127) hx hb dX12_copyDance_94 (by decide) (fun hc => ?_) (fun hc => ?_)
  · have hq249 : 200 ≤ x247.toInt := tq_le (by decide) rfl hc
    obtain ⟨hP9, hD9⟩ : ct_B D A H [mo qm vm_thrown qm_width qm_many qm_cells qm_moved qm_tape vm_taped vm_at vm_token vm_place vm_value vm_word vm_bad vm_badPlace vm_fault vm_faultPlace qm_lines qm_has qm_round qm_meets qm_stumble qm_isMud qm_cell qm_tune qm_change qm_isKept qm_steps qm_places qm_danced vm_runMost vm_runBegins qm_heardBy vm_fitMany vm_fitFirst vm_fitBeats vm_listenLeaves qm_there vm_metAt vm_metIn qm_wins vm_nightHoles vm_nightFirst vm_nightMud vm_nightSlips vm_drawnNow, (qm_lines, .inl (cI, 5, .inl (g1))), (qm_has, .inl (cI, 55, .inl (g3))), (qm_round, .inl (cI, 120, .inl (g5))), (qm_meets, .inl (cI, 30, .inl (g7))), (qm_stumble, .inl (cI, 160, .inl (g9))), (qm_isMud, .inl (cZ, 1000, .inl (g246))), (qm_cell, .inl (cI, 120, .inl (g11))), (qm_tune, .inl (cI, 50, .inl (g14))), (qm_change, .inl (cI, 800, .inl (g17)))] := ⟨hP.sub [0, 2, 3, 4, 5, 6, 1, 7, 8, 9] rfl, hD.sub [0, 2, 3, 4, 5, 6, 1, 7, 8, 9] (by decide) rfl⟩
    exact W.vret hx hb hr (fun t ht hW => ⟨⟨(g1, g3, g5, g7, g9, g246, g11, g14, g17), rfl, ⟨h_g3, h_g5, h_g9, (show rf_c g3 g11 by exact hrel13), (show rf_t g3 g14 by exact hrel16), (show rf_g g3 g17 by exact hrel19)⟩, by rw [ht]; exact hP9, hD9⟩, hS.F ht⟩) hS.2.2 dX12_copyDance_127
  · have hq249 : x247.toInt < 200 := tq_nle (by decide) rfl hc
    refine lv_aload_n hx hb dX12_copyDance_97 rfl (lv_at hl 1 rfl) ?_
    refine va_get (D := D) (ci := 12) (v := .ref qm_isMud) (C := RX12) (T := TX12) (N := 45) hx hb hts hi12 hown hK hP 0 rfl rfl 21 (by decide) (hts (.fieldLink RX12 46 "OverHillModel" "isMud" "[Z") (by decide +kernel)) (fun _ h9 => h9) rfl dX12_copyDance_98 ?_
    refine lv_sipush (v := 200) hx hb dX12_copyDance_101 (by decide) ?_
    refine lv_iload_n hx hb dX12_copyDance_104 rfl (lv_at hl 3 rfl) ?_
    refine lv_imul hx hb dX12_copyDance_105 ?_
    refine lv_topi (fun z250 ez250 => ?_)
    have fz250 : z250.toInt = 200 * a2.toInt := by rw [ez250]; exact tq_mul (by decide) rfl (by omega)
    refine lv_iload_n hx hb dX12_copyDance_106 rfl (lv_at hl 0 rfl) ?_
    refine lv_iadd hx hb dX12_copyDance_107 ?_
    refine lv_topi (fun z251 ez251 => ?_)
    have fz251 : z251.toInt = z250.toInt + x247.toInt := by rw [ez251]; exact tq_add rfl rfl (by omega)
    refine lv_aload_n hx hb dX12_copyDance_108 rfl (lv_at hl 1 rfl) ?_
    refine va_get (D := D) (ci := 12) (v := .ref qm_isMud) (C := RX12) (T := TX12) (N := 45) hx hb hts hi12 hown hK hP 0 rfl rfl 21 (by decide) (hts (.fieldLink RX12 46 "OverHillModel" "isMud" "[Z") (by decide +kernel)) (fun _ h9 => h9) rfl dX12_copyDance_109 ?_
    refine lv_sipush (v := 200) hx hb dX12_copyDance_112 (by decide) ?_
    refine lv_iload_n hx hb dX12_copyDance_115 rfl (lv_at hl 2 rfl) ?_
    refine lv_imul hx hb dX12_copyDance_116 ?_
    refine lv_topi (fun z252 ez252 => ?_)
    have fz252 : z252.toInt = 200 * a1.toInt := by rw [ez252]; exact tq_mul (by decide) rfl (by omega)
    refine lv_iload_n hx hb dX12_copyDance_117 rfl (lv_at hl 0 rfl) ?_
    refine lv_iadd hx hb dX12_copyDance_118 ?_
    refine lv_topi (fun z253 ez253 => ?_)
    have fz253 : z253.toInt = z252.toInt + x247.toInt := by rw [ez253]; exact tq_add rfl rfl (by omega)
    refine va_zald (D := D) hx hb hK hP 1 3 rfl rfl (tq_in rfl (by omega)) dX12_copyDance_119 ?_
    refine lv_topi (fun z254 ez254 => ?_)
    refine va_zast (D := D) hx hb hK hP hD hS 1 3 rfl rfl (tq_in rfl (by omega)) dX12_copyDance_120 (fun H locs hP hD hS => ?_)
    obtain ⟨g255, hP, hD⟩ : ∃ g255 : Nat → Int32, ct_B D A H [mo qm vm_thrown qm_width qm_many qm_cells qm_moved qm_tape vm_taped vm_at vm_token vm_place vm_value vm_word vm_bad vm_badPlace vm_fault vm_faultPlace qm_lines qm_has qm_round qm_meets qm_stumble qm_isMud qm_cell qm_tune qm_change qm_isKept qm_steps qm_places qm_danced vm_runMost vm_runBegins qm_heardBy vm_fitMany vm_fitFirst vm_fitBeats vm_listenLeaves qm_there vm_metAt vm_metIn qm_wins vm_nightHoles vm_nightFirst vm_nightMud vm_nightSlips vm_drawnNow, (qm_isMud, .inl (cZ, 1000, .inl (g255))), (qm_lines, .inl (cI, 5, .inl (g1))), (qm_has, .inl (cI, 55, .inl (g3))), (qm_round, .inl (cI, 120, .inl (g5))), (qm_meets, .inl (cI, 30, .inl (g7))), (qm_stumble, .inl (cI, 160, .inl (g9))), (qm_cell, .inl (cI, 120, .inl (g11))), (qm_tune, .inl (cI, 50, .inl (g14))), (qm_change, .inl (cI, 800, .inl (g17)))] := ⟨_, hP, hD⟩
    obtain ⟨z256, ez256⟩ : ∃ z : Int32, z = x247 + 1 := ⟨_, rfl⟩
    have fz256 : z256.toInt = x247.toInt + 1 := by rw [ez256]; exact tq_add rfl (by decide) (by omega)
    refine lv_iinc (v := z256) (lv' := [(3, .int z256), (0, .ref qm), (1, .int a1), (2, .int a2)]) hx hb dX12_copyDance_121 hl (k := 0) rfl ez256.symm (by decide) rfl (fun ls hl => ?_)
    refine lv_goto (tgt := 90) hx hb dX12_copyDance_124 (by decide) ?_
    exact ih248 (g255, z256) _ _ _ (show (200 - z256.toInt).toNat < (200 - x247.toInt).toNat by omega) ⟨(show 0 ≤ z256.toInt ∧ z256.toInt ≤ 200 by omega), ⟨hP, hD⟩, hS, lv_sub hl [0, 1, 2, 3] rfl⟩
