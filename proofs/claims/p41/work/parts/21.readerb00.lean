abbrev w_c_X5_fail (cI cJ cB cZ cO : ClassId) (qr : Nat) (vr_numberPlace : Int32) (vr_fault : Int32) (vr_faultPlace : Int32) (qt : Nat) : va_W := [(qr, .inr (5, [.ref qt, .int vr_numberPlace, .int vr_fault, .int vr_faultPlace]))]
set_option maxHeartbeats 4000000 in
set_option maxRecDepth 100000 in
/-- X5 fail -/
theorem c_X5_fail (l : Launch) (D : va_G) (G : ct_G) (cI cJ cB cZ cO : ClassId) (qr : Nat) (vr_numberPlace : Int32) (vr_fault : Int32) (vr_faultPlace : Int32) (qt : Nat) (a1 : Int32) (a2 : Int32) (h_a1 : 1 ≤ a1.toInt ∧ a1.toInt ≤ 3) (sz : Nat) : Met l yX5_fail wsX5_fail ({ frames := 0, cells := 0, slots := 0, locals := 0 }) (va_Pc [.ref qr, .int a1, .int a2] (ct_P D (ct_T cI cJ cB cZ cO) G (w_c_X5_fail cI cJ cB cZ cO qr vr_numberPlace vr_fault vr_faultPlace qt) sz)) (va_Qv (fun (u : Int32 × Int32) => (u.1.toInt ≠ 0)) (fun (u : Int32 × Int32) t => ct_Q D (va_A (w_c_X5_fail cI cJ cB cZ cO qr vr_numberPlace vr_fault vr_faultPlace qt) sz) [(qr, .inr (5, [.ref qt, .int vr_numberPlace, .int u.1, .int u.2]))] t) (va_A (w_c_X5_fail cI cJ cB cZ cO qr vr_numberPlace vr_fault vr_faultPlace qt) sz)) 0 0 (va_A (w_c_X5_fail cI cJ cB cZ cO qr vr_numberPlace vr_fault vr_faultPlace qt) sz) := by
  refine Met.ofW (cc := cX5_fail) (maxL := 3) (ret := none) (by decide) rfl ?_
  intro p e s m args below meth c s₁ B hml hv
  obtain ⟨rfl, hsz, hP, hE, hD0, hH⟩ := hv
  have hx := B.exec
  have hb := B.bytes
  have hr := B.returns
  have hts := atoms_spec (ws := wsX5_fail) B.pre
  have hown : s.vm.findClass RX5 = some m.cls := findClass_of_methodNamed B.named
  have hlocks := B.notSynchronized
  have hK := hE.1
  have hi5 : ∀ w ∈ u_ws RX5 TX5 4, w ∈ wsX5_fail := fun w h => List.mem_cons_of_mem _ (List.mem_append_right _ h)
  subst hsz
  have hD := hD0.self (sz := s.heap.size)
  generalize hAe : va_A (w_c_X5_fail cI cJ cB cZ cO qr vr_numberPlace vr_fault vr_faultPlace qt) s.heap.size = A at hD hH ⊢
  have hA : ∀ q : Nat, s.heap.size ≤ q → A q := fun q h => by rw [← hAe]; exact Or.inr h
  have hS : va_S A s.heap s.heap [] := va_S.rf
  obtain ⟨hP, hD⟩ : ct_B D A s.heap [(qr, .inr (5, [.ref qt, .int vr_numberPlace, .int vr_fault, .int vr_faultPlace]))] := ⟨hP, hD⟩
  have hl := lv_entry ([.ref qr, .int a1, .int a2]) (n := 3) (Nat.le_of_ble_eq_true rfl)
  rw [lg_entry_eq]
  generalize (lg_sl ([.ref qr, .int a1, .int a2]) ++ List.replicate (3 - (lg_sl ([.ref qr, .int a1, .int a2])).length) Slot.unset).toArray = ls at hl ⊢
  have hl : lv_has ls 3 [(0, .ref qr), (1, .int a1), (2, .int a2)] := hl
  obtain ⟨H, hHe⟩ : ∃ H : Heap, H = s.heap := ⟨_, rfl⟩
  rw [← hHe] at hP
  have hS : va_S A s.heap H [] := by rw [hHe]; exact va_S.rf
  refine ct_start hHe ?_
  refine lv_aload_n hx hb dX5_fail_0 rfl (lv_at hl 0 rfl) ?_
  refine va_get (D := D) (ci := 5) (v := .int vr_fault) (C := RX5) (T := TX5) (N := 4) hx hb hts hi5 hown hK hP 0 rfl rfl 2 (by decide) (hts (.fieldLink RX5 27 "OverHill$Reader" "fault" "I") (by decide +kernel)) (fun _ h9 => h9) rfl dX5_fail_1 ?_
  refine lv_if_ne (tgt := 17) hx hb dX5_fail_4 (by decide) (fun hc => ?_) (fun hc => ?_)
  · have hq1 : vr_fault.toInt ≠ 0 := tq_ne rfl (by decide) hc
    have hb2 := tq_lo vr_fault
    obtain ⟨hP9, hD9⟩ : ct_B D A H [(qr, .inr (5, [.ref qt, .int vr_numberPlace, .int vr_fault, .int vr_faultPlace]))] := ⟨hP.sub [0] rfl, hD.sub [0] (by decide) rfl⟩
    exact W.vret hx hb hr (fun t ht hW => ⟨⟨(vr_fault, vr_faultPlace), rfl, (show vr_fault.toInt ≠ 0 by omega), by rw [ht]; exact hP9, hD9⟩, hS.F ht⟩) hS.2.2 dX5_fail_17
  · have hq1 : vr_fault.toInt = 0 := tq_eq rfl (by decide) hc
    have hb3 := tq_lo vr_fault
    refine lv_aload_n hx hb dX5_fail_7 rfl (lv_at hl 0 rfl) ?_
    refine lv_iload_n hx hb dX5_fail_8 rfl (lv_at hl 1 rfl) ?_
    refine va_put (D := D) (ci := 5) (v := .int a1) (ty := .int) (C := RX5) (T := TX5) (N := 4) hx hb hts hi5 tyX5 tyX5_ok nmX5 hown hK hP hD hS 0 rfl rfl 2 (by decide) (hts (.fieldLink RX5 27 "OverHill$Reader" "fault" "I") (by decide +kernel)) (fun _ h9 => h9) rfl (by decide +kernel) rfl rfl (Nat.le_of_ble_eq_true rfl) dX5_fail_9 (fun H locs hP hD hS => ?_)
    obtain ⟨hP, hD⟩ : ct_B D A H [(qr, .inr (5, [.ref qt, .int vr_numberPlace, .int a1, .int vr_faultPlace]))] := ⟨hP, hD⟩
    refine lv_aload_n hx hb dX5_fail_12 rfl (lv_at hl 0 rfl) ?_
    refine lv_iload_n hx hb dX5_fail_13 rfl (lv_at hl 2 rfl) ?_
    refine va_put (D := D) (ci := 5) (v := .int a2) (ty := .int) (C := RX5) (T := TX5) (N := 4) hx hb hts hi5 tyX5 tyX5_ok nmX5 hown hK hP hD hS 0 rfl rfl 3 (by decide) (hts (.fieldLink RX5 18 "OverHill$Reader" "faultPlace" "I") (by decide +kernel)) (fun _ h9 => h9) rfl (by decide +kernel) rfl rfl (Nat.le_of_ble_eq_true rfl) dX5_fail_14 (fun H locs hP hD hS => ?_)
    obtain ⟨hP, hD⟩ : ct_B D A H [(qr, .inr (5, [.ref qt, .int vr_numberPlace, .int a1, .int a2]))] := ⟨hP, hD⟩
    obtain ⟨hP9, hD9⟩ : ct_B D A H [(qr, .inr (5, [.ref qt, .int vr_numberPlace, .int a1, .int a2]))] := ⟨hP.sub [0] rfl, hD.sub [0] (by decide) rfl⟩
    exact W.vret hx hb hr (fun t ht hW => ⟨⟨(a1, a2), rfl, (show a1.toInt ≠ 0 by omega), by rw [ht]; exact hP9, hD9⟩, hS.F ht⟩) hS.2.2 dX5_fail_17
abbrev w_c_X5_seesNumber (cI cJ cB cZ cO : ClassId) (qr : Nat) (vr_numberPlace : Int32) (vr_fault : Int32) (vr_faultPlace : Int32) (qt : Nat) (qt_bytes : Nat) (vt_length : Int32) (vt_kind : Int32) (vt_from : Int32) (vt_upto : Int32) (vt_value : Int32) : va_W := [(qr, .inr (5, [.ref qt, .int vr_numberPlace, .int vr_fault, .int vr_faultPlace])), (qt, .inr (8, [.ref qt_bytes, .int vt_length, .int vt_kind, .int vt_from, .int vt_upto, .int vt_value]))]
set_option maxHeartbeats 4000000 in
set_option maxRecDepth 100000 in
/-- X5 seesNumber -/
theorem c_X5_seesNumber (l : Launch) (D : va_G) (G : ct_G) (cI cJ cB cZ cO : ClassId) (qr : Nat) (vr_numberPlace : Int32) (vr_fault : Int32) (vr_faultPlace : Int32) (qt : Nat) (qt_bytes : Nat) (vt_length : Int32) (vt_kind : Int32) (vt_from : Int32) (vt_upto : Int32) (vt_value : Int32) (h_vt_length : 0 ≤ vt_length.toInt ∧ vt_length.toInt ≤ 1200) (h_vt_from : 0 ≤ vt_from.toInt ∧ vt_from.toInt ≤ 1200) (h_vt_upto : 0 ≤ vt_upto.toInt ∧ vt_upto.toInt ≤ 1200) (sz : Nat) : Met l yX5_seesNumber wsX5_seesNumber ({ frames := 0, cells := 0, slots := 0, locals := 0 }) (va_Pc [.ref qr] (ct_P D (ct_T cI cJ cB cZ cO) G (w_c_X5_seesNumber cI cJ cB cZ cO qr vr_numberPlace vr_fault vr_faultPlace qt qt_bytes vt_length vt_kind vt_from vt_upto vt_value) sz)) (va_Qi (fun (rz : Int32) (u : Unit) => ((rz = 1 ∧ True) ∨ (rz = 0 ∧ True))) (fun (u : Unit) t => ct_Q D (va_A (w_c_X5_seesNumber cI cJ cB cZ cO qr vr_numberPlace vr_fault vr_faultPlace qt qt_bytes vt_length vt_kind vt_from vt_upto vt_value) sz) [(qr, .inr (5, [.ref qt, .int vr_numberPlace, .int vr_fault, .int vr_faultPlace])), (qt, .inr (8, [.ref qt_bytes, .int vt_length, .int vt_kind, .int vt_from, .int vt_upto, .int vt_value]))] t) (va_A (w_c_X5_seesNumber cI cJ cB cZ cO qr vr_numberPlace vr_fault vr_faultPlace qt qt_bytes vt_length vt_kind vt_from vt_upto vt_value) sz)) 0 0 (va_A (w_c_X5_seesNumber cI cJ cB cZ cO qr vr_numberPlace vr_fault vr_faultPlace qt qt_bytes vt_length vt_kind vt_from vt_upto vt_value) sz) := by
  refine Met.ofW (cc := cX5_seesNumber) (maxL := 1) (ret := (some .boolean)) (by decide) rfl ?_
  intro p e s m args below meth c s₁ B hml hv
  obtain ⟨rfl, hsz, hP, hE, hD0, hH⟩ := hv
  have hx := B.exec
  have hb := B.bytes
  have hr := B.returns
  have hts := atoms_spec (ws := wsX5_seesNumber) B.pre
  have hown : s.vm.findClass RX5 = some m.cls := findClass_of_methodNamed B.named
  have hlocks := B.notSynchronized
  have hK := hE.1
  have hi5 : ∀ w ∈ u_ws RX5 TX5 4, w ∈ wsX5_seesNumber := fun w h => List.mem_cons_of_mem _ (List.mem_append_left _ (List.mem_append_right _ h))
  have hi8 : ∀ w ∈ u_ws RX8 TX8 6, w ∈ wsX5_seesNumber := fun w h => List.mem_cons_of_mem _ (List.mem_append_right _ h)
  subst hsz
  have hD := hD0.self (sz := s.heap.size)
  generalize hAe : va_A (w_c_X5_seesNumber cI cJ cB cZ cO qr vr_numberPlace vr_fault vr_faultPlace qt qt_bytes vt_length vt_kind vt_from vt_upto vt_value) s.heap.size = A at hD hH ⊢
  have hA : ∀ q : Nat, s.heap.size ≤ q → A q := fun q h => by rw [← hAe]; exact Or.inr h
  have hS : va_S A s.heap s.heap [] := va_S.rf
  obtain ⟨hP, hD⟩ : ct_B D A s.heap [(qr, .inr (5, [.ref qt, .int vr_numberPlace, .int vr_fault, .int vr_faultPlace])), (qt, .inr (8, [.ref qt_bytes, .int vt_length, .int vt_kind, .int vt_from, .int vt_upto, .int vt_value]))] := ⟨hP, hD⟩
  have hl := lv_entry ([.ref qr]) (n := 1) (Nat.le_of_ble_eq_true rfl)
  rw [lg_entry_eq]
  generalize (lg_sl ([.ref qr]) ++ List.replicate (1 - (lg_sl ([.ref qr])).length) Slot.unset).toArray = ls at hl ⊢
  have hl : lv_has ls 1 [(0, .ref qr)] := hl
  obtain ⟨H, hHe⟩ : ∃ H : Heap, H = s.heap := ⟨_, rfl⟩
  rw [← hHe] at hP
  have hS : va_S A s.heap H [] := by rw [hHe]; exact va_S.rf
  refine ct_start hHe ?_
  refine lv_aload_n hx hb dX5_seesNumber_0 rfl (lv_at hl 0 rfl) ?_
  refine va_get (D := D) (ci := 5) (v := .int vr_fault) (C := RX5) (T := TX5) (N := 4) hx hb hts hi5 hown hK hP 0 rfl rfl 2 (by decide) (hts (.fieldLink RX5 27 "OverHill$Reader" "fault" "I") (by decide +kernel)) (fun _ h9 => h9) rfl dX5_seesNumber_1 ?_
  refine lv_if_ne (tgt := 22) hx hb dX5_seesNumber_4 (by decide) (fun hc => ?_) (fun hc => ?_)
  · have hq1 : vr_fault.toInt ≠ 0 := tq_ne rfl (by decide) hc
    have hb2 := tq_lo vr_fault
    refine lv_iconst (v := 0) hx hb dX5_seesNumber_22 (by decide) ?_
    obtain ⟨hP9, hD9⟩ : ct_B D A H [(qr, .inr (5, [.ref qt, .int vr_numberPlace, .int vr_fault, .int vr_faultPlace])), (qt, .inr (8, [.ref qt_bytes, .int vt_length, .int vt_kind, .int vt_from, .int vt_upto, .int vt_value]))] := ⟨hP.sub [0, 1] rfl, hD.sub [0, 1] (by decide) rfl⟩
    exact W.zret (v := 0) (ty := .boolean) hx hb hr rfl (fun t ht hW => ⟨⟨0, (), rfl, (Or.inr (⟨rfl, trivial⟩)), by rw [ht]; exact hP9, hD9⟩, hS.F ht⟩) hS.2.2 dX5_seesNumber_23
  · have hq1 : vr_fault.toInt = 0 := tq_eq rfl (by decide) hc
    have hb3 := tq_lo vr_fault
    refine lv_aload_n hx hb dX5_seesNumber_7 rfl (lv_at hl 0 rfl) ?_
    refine va_get (D := D) (ci := 5) (v := .ref qt) (C := RX5) (T := TX5) (N := 4) hx hb hts hi5 hown hK hP 0 rfl rfl 0 (by decide) (hts (.fieldLink RX5 12 "OverHill$Reader" "tape" "LOverHill$Tape;") (by decide +kernel)) (fun _ h9 => h9) rfl dX5_seesNumber_8 ?_
    refine va_get (D := D) (ci := 8) (v := .int vt_kind) (C := RX8) (T := TX8) (N := 6) hx hb hts hi8 hown hK hP 1 rfl rfl 2 (by decide) (hts (.fieldLink RX5 33 "OverHill$Tape" "kind" "I") (by decide +kernel)) (fun _ h9 => h9) rfl dX5_seesNumber_11 ?_
    refine lv_iconst (v := 2) hx hb dX5_seesNumber_14 (by decide) ?_
    refine lv_icmp_ne (tgt := 22) hx hb dX5_seesNumber_15 (by decide) (fun hc => ?_) (fun hc => ?_)
    · have hq4 : vt_kind.toInt ≠ 2 := tq_ne rfl (by decide) hc
      have hb5 := tq_lo vt_kind
      refine lv_iconst (v := 0) hx hb dX5_seesNumber_22 (by decide) ?_
      obtain ⟨hP9, hD9⟩ : ct_B D A H [(qr, .inr (5, [.ref qt, .int vr_numberPlace, .int vr_fault, .int vr_faultPlace])), (qt, .inr (8, [.ref qt_bytes, .int vt_length, .int vt_kind, .int vt_from, .int vt_upto, .int vt_value]))] := ⟨hP.sub [0, 1] rfl, hD.sub [0, 1] (by decide) rfl⟩
      exact W.zret (v := 0) (ty := .boolean) hx hb hr rfl (fun t ht hW => ⟨⟨0, (), rfl, (Or.inr (⟨rfl, trivial⟩)), by rw [ht]; exact hP9, hD9⟩, hS.F ht⟩) hS.2.2 dX5_seesNumber_23
    · have hq4 : vt_kind.toInt = 2 := tq_eq rfl (by decide) hc
      have hb6 := tq_lo vt_kind
      refine lv_iconst (v := 1) hx hb dX5_seesNumber_18 (by decide) ?_
      refine lv_goto (tgt := 23) hx hb dX5_seesNumber_19 (by decide) ?_
      obtain ⟨hP9, hD9⟩ : ct_B D A H [(qr, .inr (5, [.ref qt, .int vr_numberPlace, .int vr_fault, .int vr_faultPlace])), (qt, .inr (8, [.ref qt_bytes, .int vt_length, .int vt_kind, .int vt_from, .int vt_upto, .int vt_value]))] := ⟨hP.sub [0, 1] rfl, hD.sub [0, 1] (by decide) rfl⟩
      exact W.zret (v := 1) (ty := .boolean) hx hb hr rfl (fun t ht hW => ⟨⟨1, (), rfl, (Or.inl ⟨rfl, trivial⟩), by rw [ht]; exact hP9, hD9⟩, hS.F ht⟩) hS.2.2 dX5_seesNumber_23
abbrev w_c_X5_takeNumber (cI cJ cB cZ cO : ClassId) (qr : Nat) (vr_numberPlace : Int32) (vr_fault : Int32) (vr_faultPlace : Int32) (qt : Nat) (qt_bytes : Nat) (ft_bytes : Nat → Int32) (vt_length : Int32) (vt_kind : Int32) (vt_from : Int32) (vt_upto : Int32) (vt_value : Int32) : va_W := [(qr, .inr (5, [.ref qt, .int vr_numberPlace, .int vr_fault, .int vr_faultPlace])), (qt, .inr (8, [.ref qt_bytes, .int vt_length, .int vt_kind, .int vt_from, .int vt_upto, .int vt_value])), (qt_bytes, .inl (cB, 1200, .inl (ft_bytes)))]
set_option maxHeartbeats 4000000 in
set_option maxRecDepth 100000 in
/-- X5 takeNumber -/
theorem c_X5_takeNumber (l : Launch) (D : va_G) (G : ct_G) (cI cJ cB cZ cO : ClassId) (qr : Nat) (vr_numberPlace : Int32) (vr_fault : Int32) (vr_faultPlace : Int32) (qt : Nat) (qt_bytes : Nat) (ft_bytes : Nat → Int32) (vt_length : Int32) (vt_kind : Int32) (vt_from : Int32) (vt_upto : Int32) (vt_value : Int32) (a1 : Int32) (a2 : Int32) (h_vt_length : 0 ≤ vt_length.toInt ∧ vt_length.toInt ≤ 1200) (h_vt_from : 0 ≤ vt_from.toInt ∧ vt_from.toInt ≤ 1200) (h_vt_upto : 0 ≤ vt_upto.toInt ∧ vt_upto.toInt ≤ 1200) (sz : Nat) : Met l yX5_takeNumber wsX5_takeNumber ({ frames := 2, cells := 0, slots := 0, locals := 44 }) (va_Pc [.ref qr, .int a1, .int a2] (ct_P D (ct_T cI cJ cB cZ cO) G (w_c_X5_takeNumber cI cJ cB cZ cO qr vr_numberPlace vr_fault vr_faultPlace qt qt_bytes ft_bytes vt_length vt_kind vt_from vt_upto vt_value) sz)) (va_Qi (fun (rz : Int32) (u : Int32 × Int32 × Int32 × Int32 × Int32 × Int32 × Int32) => (rz.toInt = a1.toInt ∨ (a1.toInt ≤ rz.toInt ∧ rz.toInt ≤ a2.toInt)) ∧ (0 ≤ u.2.2.2.2.1.toInt ∧ u.2.2.2.2.1.toInt ≤ 1200) ∧ (0 ≤ u.2.2.2.2.2.1.toInt ∧ u.2.2.2.2.2.1.toInt ≤ 1200)) (fun (u : Int32 × Int32 × Int32 × Int32 × Int32 × Int32 × Int32) t => ct_Q D (va_A (w_c_X5_takeNumber cI cJ cB cZ cO qr vr_numberPlace vr_fault vr_faultPlace qt qt_bytes ft_bytes vt_length vt_kind vt_from vt_upto vt_value) sz) [(qr, .inr (5, [.ref qt, .int u.1, .int u.2.1, .int u.2.2.1])), (qt, .inr (8, [.ref qt_bytes, .int vt_length, .int u.2.2.2.1, .int u.2.2.2.2.1, .int u.2.2.2.2.2.1, .int u.2.2.2.2.2.2])), (qt_bytes, .inl (cB, 1200, .inl (ft_bytes)))] t) (va_A (w_c_X5_takeNumber cI cJ cB cZ cO qr vr_numberPlace vr_fault vr_faultPlace qt qt_bytes ft_bytes vt_length vt_kind vt_from vt_upto vt_value) sz)) 0 0 (va_A (w_c_X5_takeNumber cI cJ cB cZ cO qr vr_numberPlace vr_fault vr_faultPlace qt qt_bytes ft_bytes vt_length vt_kind vt_from vt_upto vt_value) sz) := by
  refine Met.ofW (cc := cX5_takeNumber) (maxL := 4) (ret := (some .int)) (by decide) rfl ?_
  intro p e s m args below meth c s₁ B hml hv
  obtain ⟨rfl, hsz, hP, hE, hD0, hH⟩ := hv
  have hx := B.exec
  have hb := B.bytes
  have hr := B.returns
  have hts := atoms_spec (ws := wsX5_takeNumber) B.pre
  have hown : s.vm.findClass RX5 = some m.cls := findClass_of_methodNamed B.named
  have hlocks := B.notSynchronized
  have hK := hE.1
  have hi5 : ∀ w ∈ u_ws RX5 TX5 4, w ∈ wsX5_takeNumber := fun w h => List.mem_cons_of_mem _ (List.mem_append_left _ (List.mem_append_right _ h))
  have hi8 : ∀ w ∈ u_ws RX8 TX8 6, w ∈ wsX5_takeNumber := fun w h => List.mem_cons_of_mem _ (List.mem_append_right _ h)
  subst hsz
  have hD := hD0.self (sz := s.heap.size)
  generalize hAe : va_A (w_c_X5_takeNumber cI cJ cB cZ cO qr vr_numberPlace vr_fault vr_faultPlace qt qt_bytes ft_bytes vt_length vt_kind vt_from vt_upto vt_value) s.heap.size = A at hD hH ⊢
  have hA : ∀ q : Nat, s.heap.size ≤ q → A q := fun q h => by rw [← hAe]; exact Or.inr h
  have hS : va_S A s.heap s.heap [] := va_S.rf
  obtain ⟨hP, hD⟩ : ct_B D A s.heap [(qr, .inr (5, [.ref qt, .int vr_numberPlace, .int vr_fault, .int vr_faultPlace])), (qt, .inr (8, [.ref qt_bytes, .int vt_length, .int vt_kind, .int vt_from, .int vt_upto, .int vt_value])), (qt_bytes, .inl (cB, 1200, .inl (ft_bytes)))] := ⟨hP, hD⟩
  have hl := lv_entry ([.ref qr, .int a1, .int a2]) (n := 4) (Nat.le_of_ble_eq_true rfl)
  rw [lg_entry_eq]
  generalize (lg_sl ([.ref qr, .int a1, .int a2]) ++ List.replicate (4 - (lg_sl ([.ref qr, .int a1, .int a2])).length) Slot.unset).toArray = ls at hl ⊢
  have hl : lv_has ls 4 [(0, .ref qr), (1, .int a1), (2, .int a2)] := hl
  obtain ⟨H, hHe⟩ : ∃ H : Heap, H = s.heap := ⟨_, rfl⟩
  rw [← hHe] at hP
  have hS : va_S A s.heap H [] := by rw [hHe]; exact va_S.rf
  refine ct_start hHe ?_
  refine lv_aload_n hx hb dX5_takeNumber_0 rfl (lv_at hl 0 rfl) ?_
  refine va_get (D := D) (ci := 5) (v := .ref qt) (C := RX5) (T := TX5) (N := 4) hx hb hts hi5 hown hK hP 0 rfl rfl 0 (by decide) (hts (.fieldLink RX5 12 "OverHill$Reader" "tape" "LOverHill$Tape;") (by decide +kernel)) (fun _ h9 => h9) rfl dX5_takeNumber_1 ?_
  refine va_get (D := D) (ci := 8) (v := .int vt_value) (C := RX8) (T := TX8) (N := 6) hx hb hts hi8 hown hK hP 1 rfl rfl 5 (by decide) (hts (.fieldLink RX5 175 "OverHill$Tape" "value" "I") (by decide +kernel)) (fun _ h9 => h9) rfl dX5_takeNumber_4 ?_
  refine lv_istore_n (lv' := [(3, .int vt_value), (0, .ref qr), (1, .int a1), (2, .int a2)]) hx hb dX5_takeNumber_7 rfl hl (by decide) rfl (fun ls hl => ?_)
  refine lv_aload_n hx hb dX5_takeNumber_8 rfl (lv_at hl 1 rfl) ?_
  refine lv_aload_n hx hb dX5_takeNumber_9 rfl (lv_at hl 1 rfl) ?_
  refine va_get (D := D) (ci := 5) (v := .ref qt) (C := RX5) (T := TX5) (N := 4) hx hb hts hi5 hown hK hP 0 rfl rfl 0 (by decide) (hts (.fieldLink RX5 12 "OverHill$Reader" "tape" "LOverHill$Tape;") (by decide +kernel)) (fun _ h9 => h9) rfl dX5_takeNumber_10 ?_
  refine va_get (D := D) (ci := 8) (v := .int vt_from) (C := RX8) (T := TX8) (N := 6) hx hb hts hi8 hown hK hP 1 rfl rfl 3 (by decide) (hts (.fieldLink RX5 52 "OverHill$Tape" "from" "I") (by decide +kernel)) (fun _ h9 => h9) rfl dX5_takeNumber_13 ?_
  refine va_put (D := D) (ci := 5) (v := .int vt_from) (ty := .int) (C := RX5) (T := TX5) (N := 4) hx hb hts hi5 tyX5 tyX5_ok nmX5 hown hK hP hD hS 0 rfl rfl 1 (by decide) (hts (.fieldLink RX5 121 "OverHill$Reader" "numberPlace" "I") (by decide +kernel)) (fun _ h9 => h9) rfl (by decide +kernel) rfl rfl (Nat.le_of_ble_eq_true rfl) dX5_takeNumber_16 (fun H locs hP hD hS => ?_)
  obtain ⟨hP, hD⟩ : ct_B D A H [(qr, .inr (5, [.ref qt, .int vt_from, .int vr_fault, .int vr_faultPlace])), (qt, .inr (8, [.ref qt_bytes, .int vt_length, .int vt_kind, .int vt_from, .int vt_upto, .int vt_value])), (qt_bytes, .inl (cB, 1200, .inl (ft_bytes)))] := ⟨hP, hD⟩
  refine lv_aload_n hx hb dX5_takeNumber_19 rfl (lv_at hl 1 rfl) ?_
  refine va_get (D := D) (ci := 5) (v := .ref qt) (C := RX5) (T := TX5) (N := 4) hx hb hts hi5 hown hK hP 0 rfl rfl 0 (by decide) (hts (.fieldLink RX5 12 "OverHill$Reader" "tape" "LOverHill$Tape;") (by decide +kernel)) (fun _ h9 => h9) rfl dX5_takeNumber_20 ?_
  refine va_get (D := D) (ci := 8) (v := .int vt_kind) (C := RX8) (T := TX8) (N := 6) hx hb hts hi8 hown hK hP 1 rfl rfl 2 (by decide) (hts (.fieldLink RX5 33 "OverHill$Tape" "kind" "I") (by decide +kernel)) (fun _ h9 => h9) rfl dX5_takeNumber_23 ?_
  refine lv_iconst (v := 2) hx hb dX5_takeNumber_26 (by decide) ?_
  refine lv_icmp_eq (tgt := 42) hx hb dX5_takeNumber_27 (by decide) (fun hc => ?_) (fun hc => ?_)
  · have hq1 : vt_kind.toInt = 2 := tq_eq rfl (by decide) hc
    have hb2 := tq_lo vt_kind
    refine lv_iload_n hx hb dX5_takeNumber_42 rfl (lv_at hl 0 rfl) ?_
    refine lv_iload_n hx hb dX5_takeNumber_43 rfl (lv_at hl 2 rfl) ?_
    refine lv_icmp_lt (tgt := 52) hx hb dX5_takeNumber_44 (by decide) (fun hc => ?_) (fun hc => ?_)
    · have hq3 : vt_value.toInt < a1.toInt := tq_lt rfl rfl hc
      have hb4 := tq_lo vt_value
      have hb5 := tq_lo a1
      refine lv_aload_n hx hb dX5_takeNumber_52 rfl (lv_at hl 1 rfl) ?_
      refine lv_iconst (v := 2) hx hb dX5_takeNumber_53 (by decide) ?_
      refine lv_aload_n hx hb dX5_takeNumber_54 rfl (lv_at hl 1 rfl) ?_
      refine va_get (D := D) (ci := 5) (v := .int vt_from) (C := RX5) (T := TX5) (N := 4) hx hb hts hi5 hown hK hP 0 rfl rfl 1 (by decide) (hts (.fieldLink RX5 121 "OverHill$Reader" "numberPlace" "I") (by decide +kernel)) (fun _ h9 => h9) rfl dX5_takeNumber_55 ?_
      refine ct_callv (D := D) (wr := [(qt, .inr (8, [.ref qt_bytes, .int vt_length, .int vt_kind, .int vt_from, .int vt_upto, .int vt_value])), (qt_bytes, .inl (cB, 1200, .inl (ft_bytes)))]) (va_runV (As := [.int 2, .int vt_from]) (rest := []) ⟨hx, hb, hml, hown, hts⟩ (c_X5_fail l D G cI cJ cB cZ cO qr vt_from vr_fault vr_faultPlace qt 2 vt_from (by decide) H.size) (cwV 2 hts gX5_takeNumber_X5_fail rfl rfl rfl (by decide +kernel) ⟨Nat.le_of_ble_eq_true rfl, Nat.le_of_ble_eq_true rfl⟩) (ct_preV (T := ct_T cI cJ cB cZ cO) (ci := 5) (q0 := 0) hE hH hP hD hS hA [0] (by decide) rfl rfl rfl) rfl rfl hl.1 rfl (lv_room (Nat.le_of_ble_eq_true rfl)) dX5_takeNumber_58 ⟨Nat.le_of_ble_eq_true rfl, Nat.le_of_ble_eq_true rfl⟩) hP hD hS hA [0] [1, 2] rfl rfl (by decide) (by decide) (fun u H locs hw hP hD hS => ?_)
      obtain ⟨y6, y7⟩ := u
      obtain ⟨hP, hD⟩ : ct_B D A H [(qt, .inr (8, [.ref qt_bytes, .int vt_length, .int vt_kind, .int vt_from, .int vt_upto, .int vt_value])), (qt_bytes, .inl (cB, 1200, .inl (ft_bytes))), (qr, .inr (5, [.ref qt, .int vt_from, .int y6, .int y7]))] := ⟨hP, hD⟩
      have hp0 := hw
      have hp_8 : y6.toInt ≠ 0 := hp0
      refine lv_aload_n hx hb dX5_takeNumber_61 rfl (lv_at hl 1 rfl) ?_
      refine va_get (D := D) (ci := 5) (v := .ref qt) (C := RX5) (T := TX5) (N := 4) hx hb hts hi5 hown hK hP 2 rfl rfl 0 (by decide) (hts (.fieldLink RX5 12 "OverHill$Reader" "tape" "LOverHill$Tape;") (by decide +kernel)) (fun _ h9 => h9) rfl dX5_takeNumber_62 ?_
      refine ct_callv (D := D) (wr := [(qr, .inr (5, [.ref qt, .int vt_from, .int y6, .int y7]))]) (va_runV (As := []) (rest := []) ⟨hx, hb, hml, hown, hts⟩ (c_X8_advance l D G cI cJ cB cZ cO qt qt_bytes ft_bytes vt_length vt_kind vt_from vt_upto vt_value h_vt_length h_vt_from h_vt_upto H.size) (cwV 0 hts gX5_takeNumber_X8_advance rfl rfl rfl (by decide +kernel) ⟨Nat.le_of_ble_eq_true rfl, Nat.le_of_ble_eq_true rfl⟩) (ct_preV (T := ct_T cI cJ cB cZ cO) (ci := 8) (q0 := 0) hE hH hP hD hS hA [0, 1] (by decide) rfl rfl rfl) rfl rfl hl.1 rfl (lv_room (Nat.le_of_ble_eq_true rfl)) dX5_takeNumber_65 ⟨Nat.le_of_ble_eq_true rfl, Nat.le_of_ble_eq_true rfl⟩) hP hD hS hA [0, 1] [2] rfl rfl (by decide) (by decide) (fun u H locs hw hP hD hS => ?_)
      obtain ⟨y9, y10, y11, y12⟩ := u
      obtain ⟨hP, hD⟩ : ct_B D A H [(qr, .inr (5, [.ref qt, .int vt_from, .int y6, .int y7])), (qt, .inr (8, [.ref qt_bytes, .int vt_length, .int y9, .int y10, .int y11, .int y12])), (qt_bytes, .inl (cB, 1200, .inl (ft_bytes)))] := ⟨hP, hD⟩
      obtain ⟨hp0, hp1⟩ := hw
      have h_y10 : 0 ≤ y10.toInt ∧ y10.toInt ≤ 1200 := hp0
      have h_y11 : 0 ≤ y11.toInt ∧ y11.toInt ≤ 1200 := hp1
      refine lv_aload_n hx hb dX5_takeNumber_68 rfl (lv_at hl 1 rfl) ?_
      refine va_get (D := D) (ci := 5) (v := .int y6) (C := RX5) (T := TX5) (N := 4) hx hb hts hi5 hown hK hP 0 rfl rfl 2 (by decide) (hts (.fieldLink RX5 27 "OverHill$Reader" "fault" "I") (by decide +kernel)) (fun _ h9 => h9) rfl dX5_takeNumber_69 ?_
      refine lv_if_ne (tgt := 79) hx hb dX5_takeNumber_72 (by decide) (fun hc => ?_) (fun hc => ?_)
      · have hq13 : y6.toInt ≠ 0 := tq_ne rfl (by decide) hc
        have hb14 := tq_lo y6
        refine lv_iload_n hx hb dX5_takeNumber_79 rfl (lv_at hl 2 rfl) ?_
        obtain ⟨hP9, hD9⟩ : ct_B D A H [(qr, .inr (5, [.ref qt, .int vt_from, .int y6, .int y7])), (qt, .inr (8, [.ref qt_bytes, .int vt_length, .int y9, .int y10, .int y11, .int y12])), (qt_bytes, .inl (cB, 1200, .inl (ft_bytes)))] := ⟨hP.sub [0, 1, 2] rfl, hD.sub [0, 1, 2] (by decide) rfl⟩
        exact W.iret (v := a1) hx hb hr (fun t ht hW => ⟨⟨a1, (vt_from, y6, y7, y9, y10, y11, y12), rfl, ⟨(show a1.toInt = a1.toInt ∨ (a1.toInt ≤ a1.toInt ∧ a1.toInt ≤ a2.toInt) by omega), h_y10, h_y11⟩, by rw [ht]; exact hP9, hD9⟩, hS.F ht⟩) hS.2.2 dX5_takeNumber_80
      · have hq13 : y6.toInt = 0 := tq_eq rfl (by decide) hc
        have hb15 := tq_lo y6
        refine lv_iload_n hx hb dX5_takeNumber_75 rfl (lv_at hl 0 rfl) ?_
        refine lv_goto (tgt := 80) hx hb dX5_takeNumber_76 (by decide) ?_
        obtain ⟨hP9, hD9⟩ : ct_B D A H [(qr, .inr (5, [.ref qt, .int vt_from, .int y6, .int y7])), (qt, .inr (8, [.ref qt_bytes, .int vt_length, .int y9, .int y10, .int y11, .int y12])), (qt_bytes, .inl (cB, 1200, .inl (ft_bytes)))] := ⟨hP.sub [0, 1, 2] rfl, hD.sub [0, 1, 2] (by decide) rfl⟩
        exact W.iret (v := vt_value) hx hb hr (fun t ht hW => ⟨⟨vt_value, (vt_from, y6, y7, y9, y10, y11, y12), rfl, ⟨(show vt_value.toInt = a1.toInt ∨ (a1.toInt ≤ vt_value.toInt ∧ vt_value.toInt ≤ a2.toInt) by omega), h_y10, h_y11⟩, by rw [ht]; exact hP9, hD9⟩, hS.F ht⟩) hS.2.2 dX5_takeNumber_80
    · have hq3 : a1.toInt ≤ vt_value.toInt := tq_nlt rfl rfl hc
      have hb16 := tq_lo vt_value
      have hb17 := tq_lo a1
      refine lv_iload_n hx hb dX5_takeNumber_47 rfl (lv_at hl 0 rfl) ?_
      refine lv_iload_n hx hb dX5_takeNumber_48 rfl (lv_at hl 3 rfl) ?_
      refine lv_icmp_le (tgt := 61) hx hb dX5_takeNumber_49 (by decide) (fun hc => ?_) (fun hc => ?_)
      · have hq18 : vt_value.toInt ≤ a2.toInt := tq_le rfl rfl hc
        have hb19 := tq_lo vt_value
        have hb20 := tq_lo a2
        refine lv_aload_n hx hb dX5_takeNumber_61 rfl (lv_at hl 1 rfl) ?_
        refine va_get (D := D) (ci := 5) (v := .ref qt) (C := RX5) (T := TX5) (N := 4) hx hb hts hi5 hown hK hP 0 rfl rfl 0 (by decide) (hts (.fieldLink RX5 12 "OverHill$Reader" "tape" "LOverHill$Tape;") (by decide +kernel)) (fun _ h9 => h9) rfl dX5_takeNumber_62 ?_
        refine ct_callv (D := D) (wr := [(qr, .inr (5, [.ref qt, .int vt_from, .int vr_fault, .int vr_faultPlace]))]) (va_runV (As := []) (rest := []) ⟨hx, hb, hml, hown, hts⟩ (c_X8_advance l D G cI cJ cB cZ cO qt qt_bytes ft_bytes vt_length vt_kind vt_from vt_upto vt_value h_vt_length h_vt_from h_vt_upto H.size) (cwV 0 hts gX5_takeNumber_X8_advance rfl rfl rfl (by decide +kernel) ⟨Nat.le_of_ble_eq_true rfl, Nat.le_of_ble_eq_true rfl⟩) (ct_preV (T := ct_T cI cJ cB cZ cO) (ci := 8) (q0 := 1) hE hH hP hD hS hA [1, 2] (by decide) rfl rfl rfl) rfl rfl hl.1 rfl (lv_room (Nat.le_of_ble_eq_true rfl)) dX5_takeNumber_65 ⟨Nat.le_of_ble_eq_true rfl, Nat.le_of_ble_eq_true rfl⟩) hP hD hS hA [1, 2] [0] rfl rfl (by decide) (by decide) (fun u H locs hw hP hD hS => ?_)
        obtain ⟨y21, y22, y23, y24⟩ := u
        obtain ⟨hP, hD⟩ : ct_B D A H [(qr, .inr (5, [.ref qt, .int vt_from, .int vr_fault, .int vr_faultPlace])), (qt, .inr (8, [.ref qt_bytes, .int vt_length, .int y21, .int y22, .int y23, .int y24])), (qt_bytes, .inl (cB, 1200, .inl (ft_bytes)))] := ⟨hP, hD⟩
        obtain ⟨hp0, hp1⟩ := hw
        have h_y22 : 0 ≤ y22.toInt ∧ y22.toInt ≤ 1200 := hp0
        have h_y23 : 0 ≤ y23.toInt ∧ y23.toInt ≤ 1200 := hp1
        refine lv_aload_n hx hb dX5_takeNumber_68 rfl (lv_at hl 1 rfl) ?_
        refine va_get (D := D) (ci := 5) (v := .int vr_fault) (C := RX5) (T := TX5) (N := 4) hx hb hts hi5 hown hK hP 0 rfl rfl 2 (by decide) (hts (.fieldLink RX5 27 "OverHill$Reader" "fault" "I") (by decide +kernel)) (fun _ h9 => h9) rfl dX5_takeNumber_69 ?_
        refine lv_if_ne (tgt := 79) hx hb dX5_takeNumber_72 (by decide) (fun hc => ?_) (fun hc => ?_)
        · have hq25 : vr_fault.toInt ≠ 0 := tq_ne rfl (by decide) hc
          have hb26 := tq_lo vr_fault
          refine lv_iload_n hx hb dX5_takeNumber_79 rfl (lv_at hl 2 rfl) ?_
          obtain ⟨hP9, hD9⟩ : ct_B D A H [(qr, .inr (5, [.ref qt, .int vt_from, .int vr_fault, .int vr_faultPlace])), (qt, .inr (8, [.ref qt_bytes, .int vt_length, .int y21, .int y22, .int y23, .int y24])), (qt_bytes, .inl (cB, 1200, .inl (ft_bytes)))] := ⟨hP.sub [0, 1, 2] rfl, hD.sub [0, 1, 2] (by decide) rfl⟩
          exact W.iret (v := a1) hx hb hr (fun t ht hW => ⟨⟨a1, (vt_from, vr_fault, vr_faultPlace, y21, y22, y23, y24), rfl, ⟨(show a1.toInt = a1.toInt ∨ (a1.toInt ≤ a1.toInt ∧ a1.toInt ≤ a2.toInt) by omega), h_y22, h_y23⟩, by rw [ht]; exact hP9, hD9⟩, hS.F ht⟩) hS.2.2 dX5_takeNumber_80
        · have hq25 : vr_fault.toInt = 0 := tq_eq rfl (by decide) hc
          have hb27 := tq_lo vr_fault
          refine lv_iload_n hx hb dX5_takeNumber_75 rfl (lv_at hl 0 rfl) ?_
          refine lv_goto (tgt := 80) hx hb dX5_takeNumber_76 (by decide) ?_
          obtain ⟨hP9, hD9⟩ : ct_B D A H [(qr, .inr (5, [.ref qt, .int vt_from, .int vr_fault, .int vr_faultPlace])), (qt, .inr (8, [.ref qt_bytes, .int vt_length, .int y21, .int y22, .int y23, .int y24])), (qt_bytes, .inl (cB, 1200, .inl (ft_bytes)))] := ⟨hP.sub [0, 1, 2] rfl, hD.sub [0, 1, 2] (by decide) rfl⟩
          exact W.iret (v := vt_value) hx hb hr (fun t ht hW => ⟨⟨vt_value, (vt_from, vr_fault, vr_faultPlace, y21, y22, y23, y24), rfl, ⟨(show vt_value.toInt = a1.toInt ∨ (a1.toInt ≤ vt_value.toInt ∧ vt_value.toInt ≤ a2.toInt) by omega), h_y22, h_y23⟩, by rw [ht]; exact hP9, hD9⟩, hS.F ht⟩) hS.2.2 dX5_takeNumber_80
      · have hq18 : a2.toInt < vt_value.toInt := tq_nle rfl rfl hc
        have hb28 := tq_lo vt_value
        have hb29 := tq_lo a2
        refine lv_aload_n hx hb dX5_takeNumber_52 rfl (lv_at hl 1 rfl) ?_
        refine lv_iconst (v := 2) hx hb dX5_takeNumber_53 (by decide) ?_
        refine lv_aload_n hx hb dX5_takeNumber_54 rfl (lv_at hl 1 rfl) ?_
        refine va_get (D := D) (ci := 5) (v := .int vt_from) (C := RX5) (T := TX5) (N := 4) hx hb hts hi5 hown hK hP 0 rfl rfl 1 (by decide) (hts (.fieldLink RX5 121 "OverHill$Reader" "numberPlace" "I") (by decide +kernel)) (fun _ h9 => h9) rfl dX5_takeNumber_55 ?_
        refine ct_callv (D := D) (wr := [(qt, .inr (8, [.ref qt_bytes, .int vt_length, .int vt_kind, .int vt_from, .int vt_upto, .int vt_value])), (qt_bytes, .inl (cB, 1200, .inl (ft_bytes)))]) (va_runV (As := [.int 2, .int vt_from]) (rest := []) ⟨hx, hb, hml, hown, hts⟩ (c_X5_fail l D G cI cJ cB cZ cO qr vt_from vr_fault vr_faultPlace qt 2 vt_from (by decide) H.size) (cwV 2 hts gX5_takeNumber_X5_fail rfl rfl rfl (by decide +kernel) ⟨Nat.le_of_ble_eq_true rfl, Nat.le_of_ble_eq_true rfl⟩) (ct_preV (T := ct_T cI cJ cB cZ cO) (ci := 5) (q0 := 0) hE hH hP hD hS hA [0] (by decide) rfl rfl rfl) rfl rfl hl.1 rfl (lv_room (Nat.le_of_ble_eq_true rfl)) dX5_takeNumber_58 ⟨Nat.le_of_ble_eq_true rfl, Nat.le_of_ble_eq_true rfl⟩) hP hD hS hA [0] [1, 2] rfl rfl (by decide) (by decide) (fun u H locs hw hP hD hS => ?_)
        obtain ⟨y30, y31⟩ := u
        obtain ⟨hP, hD⟩ : ct_B D A H [(qt, .inr (8, [.ref qt_bytes, .int vt_length, .int vt_kind, .int vt_from, .int vt_upto, .int vt_value])), (qt_bytes, .inl (cB, 1200, .inl (ft_bytes))), (qr, .inr (5, [.ref qt, .int vt_from, .int y30, .int y31]))] := ⟨hP, hD⟩
        have hp0 := hw
        have hp_32 : y30.toInt ≠ 0 := hp0
        refine lv_aload_n hx hb dX5_takeNumber_61 rfl (lv_at hl 1 rfl) ?_
        refine va_get (D := D) (ci := 5) (v := .ref qt) (C := RX5) (T := TX5) (N := 4) hx hb hts hi5 hown hK hP 2 rfl rfl 0 (by decide) (hts (.fieldLink RX5 12 "OverHill$Reader" "tape" "LOverHill$Tape;") (by decide +kernel)) (fun _ h9 => h9) rfl dX5_takeNumber_62 ?_
        refine ct_callv (D := D) (wr := [(qr, .inr (5, [.ref qt, .int vt_from, .int y30, .int y31]))]) (va_runV (As := []) (rest := []) ⟨hx, hb, hml, hown, hts⟩ (c_X8_advance l D G cI cJ cB cZ cO qt qt_bytes ft_bytes vt_length vt_kind vt_from vt_upto vt_value h_vt_length h_vt_from h_vt_upto H.size) (cwV 0 hts gX5_takeNumber_X8_advance rfl rfl rfl (by decide +kernel) ⟨Nat.le_of_ble_eq_true rfl, Nat.le_of_ble_eq_true rfl⟩) (ct_preV (T := ct_T cI cJ cB cZ cO) (ci := 8) (q0 := 0) hE hH hP hD hS hA [0, 1] (by decide) rfl rfl rfl) rfl rfl hl.1 rfl (lv_room (Nat.le_of_ble_eq_true rfl)) dX5_takeNumber_65 ⟨Nat.le_of_ble_eq_true rfl, Nat.le_of_ble_eq_true rfl⟩) hP hD hS hA [0, 1] [2] rfl rfl (by decide) (by decide) (fun u H locs hw hP hD hS => ?_)
        obtain ⟨y33, y34, y35, y36⟩ := u
        obtain ⟨hP, hD⟩ : ct_B D A H [(qr, .inr (5, [.ref qt, .int vt_from, .int y30, .int y31])), (qt, .inr (8, [.ref qt_bytes, .int vt_length, .int y33, .int y34, .int y35, .int y36])), (qt_bytes, .inl (cB, 1200, .inl (ft_bytes)))] := ⟨hP, hD⟩
        obtain ⟨hp0, hp1⟩ := hw
        have h_y34 : 0 ≤ y34.toInt ∧ y34.toInt ≤ 1200 := hp0
        have h_y35 : 0 ≤ y35.toInt ∧ y35.toInt ≤ 1200 := hp1
        refine lv_aload_n hx hb dX5_takeNumber_68 rfl (lv_at hl 1 rfl) ?_
        refine va_get (D := D) (ci := 5) (v := .int y30) (C := RX5) (T := TX5) (N := 4) hx hb hts hi5 hown hK hP 0 rfl rfl 2 (by decide) (hts (.fieldLink RX5 27 "OverHill$Reader" "fault" "I") (by decide +kernel)) (fun _ h9 => h9) rfl dX5_takeNumber_69 ?_
        refine lv_if_ne (tgt := 79) hx hb dX5_takeNumber_72 (by decide) (fun hc => ?_) (fun hc => ?_)
        · have hq37 : y30.toInt ≠ 0 := tq_ne rfl (by decide) hc
          have hb38 := tq_lo y30
          refine lv_iload_n hx hb dX5_takeNumber_79 rfl (lv_at hl 2 rfl) ?_
          obtain ⟨hP9, hD9⟩ : ct_B D A H [(qr, .inr (5, [.ref qt, .int vt_from, .int y30, .int y31])), (qt, .inr (8, [.ref qt_bytes, .int vt_length, .int y33, .int y34, .int y35, .int y36])), (qt_bytes, .inl (cB, 1200, .inl (ft_bytes)))] := ⟨hP.sub [0, 1, 2] rfl, hD.sub [0, 1, 2] (by decide) rfl⟩
          exact W.iret (v := a1) hx hb hr (fun t ht hW => ⟨⟨a1, (vt_from, y30, y31, y33, y34, y35, y36), rfl, ⟨(show a1.toInt = a1.toInt ∨ (a1.toInt ≤ a1.toInt ∧ a1.toInt ≤ a2.toInt) by omega), h_y34, h_y35⟩, by rw [ht]; exact hP9, hD9⟩, hS.F ht⟩) hS.2.2 dX5_takeNumber_80
        · have hq37 : y30.toInt = 0 := tq_eq rfl (by decide) hc
          have hb39 := tq_lo y30
          refine lv_iload_n hx hb dX5_takeNumber_75 rfl (lv_at hl 0 rfl) ?_
          refine lv_goto (tgt := 80) hx hb dX5_takeNumber_76 (by decide) ?_
          obtain ⟨hP9, hD9⟩ : ct_B D A H [(qr, .inr (5, [.ref qt, .int vt_from, .int y30, .int y31])), (qt, .inr (8, [.ref qt_bytes, .int vt_length, .int y33, .int y34, .int y35, .int y36])), (qt_bytes, .inl (cB, 1200, .inl (ft_bytes)))] := ⟨hP.sub [0, 1, 2] rfl, hD.sub [0, 1, 2] (by decide) rfl⟩
          exact W.iret (v := vt_value) hx hb hr (fun t ht hW => ⟨⟨vt_value, (vt_from, y30, y31, y33, y34, y35, y36), rfl, ⟨(show vt_value.toInt = a1.toInt ∨ (a1.toInt ≤ vt_value.toInt ∧ vt_value.toInt ≤ a2.toInt) by omega), h_y34, h_y35⟩, by rw [ht]; exact hP9, hD9⟩, hS.F ht⟩) hS.2.2 dX5_takeNumber_80
  · have hq1 : vt_kind.toInt ≠ 2 := tq_ne rfl (by decide) hc
    have hb40 := tq_lo vt_kind
    refine lv_aload_n hx hb dX5_takeNumber_30 rfl (lv_at hl 1 rfl) ?_
    refine lv_iconst (v := 1) hx hb dX5_takeNumber_31 (by decide) ?_
    refine lv_aload_n hx hb dX5_takeNumber_32 rfl (lv_at hl 1 rfl) ?_
    refine va_get (D := D) (ci := 5) (v := .int vt_from) (C := RX5) (T := TX5) (N := 4) hx hb hts hi5 hown hK hP 0 rfl rfl 1 (by decide) (hts (.fieldLink RX5 121 "OverHill$Reader" "numberPlace" "I") (by decide +kernel)) (fun _ h9 => h9) rfl dX5_takeNumber_33 ?_
    refine ct_callv (D := D) (wr := [(qt, .inr (8, [.ref qt_bytes, .int vt_length, .int vt_kind, .int vt_from, .int vt_upto, .int vt_value])), (qt_bytes, .inl (cB, 1200, .inl (ft_bytes)))]) (va_runV (As := [.int 1, .int vt_from]) (rest := []) ⟨hx, hb, hml, hown, hts⟩ (c_X5_fail l D G cI cJ cB cZ cO qr vt_from vr_fault vr_faultPlace qt 1 vt_from (by decide) H.size) (cwV 2 hts gX5_takeNumber_X5_fail rfl rfl rfl (by decide +kernel) ⟨Nat.le_of_ble_eq_true rfl, Nat.le_of_ble_eq_true rfl⟩) (ct_preV (T := ct_T cI cJ cB cZ cO) (ci := 5) (q0 := 0) hE hH hP hD hS hA [0] (by decide) rfl rfl rfl) rfl rfl hl.1 rfl (lv_room (Nat.le_of_ble_eq_true rfl)) dX5_takeNumber_36 ⟨Nat.le_of_ble_eq_true rfl, Nat.le_of_ble_eq_true rfl⟩) hP hD hS hA [0] [1, 2] rfl rfl (by decide) (by decide) (fun u H locs hw hP hD hS => ?_)
    obtain ⟨y41, y42⟩ := u
    obtain ⟨hP, hD⟩ : ct_B D A H [(qt, .inr (8, [.ref qt_bytes, .int vt_length, .int vt_kind, .int vt_from, .int vt_upto, .int vt_value])), (qt_bytes, .inl (cB, 1200, .inl (ft_bytes))), (qr, .inr (5, [.ref qt, .int vt_from, .int y41, .int y42]))] := ⟨hP, hD⟩
    have hp0 := hw
    have hp_43 : y41.toInt ≠ 0 := hp0
    refine lv_goto (tgt := 61) hx hb dX5_takeNumber_39 (by decide) ?_
    refine lv_aload_n hx hb dX5_takeNumber_61 rfl (lv_at hl 1 rfl) ?_
    refine va_get (D := D) (ci := 5) (v := .ref qt) (C := RX5) (T := TX5) (N := 4) hx hb hts hi5 hown hK hP 2 rfl rfl 0 (by decide) (hts (.fieldLink RX5 12 "OverHill$Reader" "tape" "LOverHill$Tape;") (by decide +kernel)) (fun _ h9 => h9) rfl dX5_takeNumber_62 ?_
    refine ct_callv (D := D) (wr := [(qr, .inr (5, [.ref qt, .int vt_from, .int y41, .int y42]))]) (va_runV (As := []) (rest := []) ⟨hx, hb, hml, hown, hts⟩ (c_X8_advance l D G cI cJ cB cZ cO qt qt_bytes ft_bytes vt_length vt_kind vt_from vt_upto vt_value h_vt_length h_vt_from h_vt_upto H.size) (cwV 0 hts gX5_takeNumber_X8_advance rfl rfl rfl (by decide +kernel) ⟨Nat.le_of_ble_eq_true rfl, Nat.le_of_ble_eq_true rfl⟩) (ct_preV (T := ct_T cI cJ cB cZ cO) (ci := 8) (q0 := 0) hE hH hP hD hS hA [0, 1] (by decide) rfl rfl rfl) rfl rfl hl.1 rfl (lv_room (Nat.le_of_ble_eq_true rfl)) dX5_takeNumber_65 ⟨Nat.le_of_ble_eq_true rfl, Nat.le_of_ble_eq_true rfl⟩) hP hD hS hA [0, 1] [2] rfl rfl (by decide) (by decide) (fun u H locs hw hP hD hS => ?_)
    obtain ⟨y44, y45, y46, y47⟩ := u
    obtain ⟨hP, hD⟩ : ct_B D A H [(qr, .inr (5, [.ref qt, .int vt_from, .int y41, .int y42])), (qt, .inr (8, [.ref qt_bytes, .int vt_length, .int y44, .int y45, .int y46, .int y47])), (qt_bytes, .inl (cB, 1200, .inl (ft_bytes)))] := ⟨hP, hD⟩
    obtain ⟨hp0, hp1⟩ := hw
    have h_y45 : 0 ≤ y45.toInt ∧ y45.toInt ≤ 1200 := hp0
    have h_y46 : 0 ≤ y46.toInt ∧ y46.toInt ≤ 1200 := hp1
    refine lv_aload_n hx hb dX5_takeNumber_68 rfl (lv_at hl 1 rfl) ?_
    refine va_get (D := D) (ci := 5) (v := .int y41) (C := RX5) (T := TX5) (N := 4) hx hb hts hi5 hown hK hP 0 rfl rfl 2 (by decide) (hts (.fieldLink RX5 27 "OverHill$Reader" "fault" "I") (by decide +kernel)) (fun _ h9 => h9) rfl dX5_takeNumber_69 ?_
    refine lv_if_ne (tgt := 79) hx hb dX5_takeNumber_72 (by decide) (fun hc => ?_) (fun hc => ?_)
    · have hq48 : y41.toInt ≠ 0 := tq_ne rfl (by decide) hc
      have hb49 := tq_lo y41
      refine lv_iload_n hx hb dX5_takeNumber_79 rfl (lv_at hl 2 rfl) ?_
      obtain ⟨hP9, hD9⟩ : ct_B D A H [(qr, .inr (5, [.ref qt, .int vt_from, .int y41, .int y42])), (qt, .inr (8, [.ref qt_bytes, .int vt_length, .int y44, .int y45, .int y46, .int y47])), (qt_bytes, .inl (cB, 1200, .inl (ft_bytes)))] := ⟨hP.sub [0, 1, 2] rfl, hD.sub [0, 1, 2] (by decide) rfl⟩
      exact W.iret (v := a1) hx hb hr (fun t ht hW => ⟨⟨a1, (vt_from, y41, y42, y44, y45, y46, y47), rfl, ⟨(show a1.toInt = a1.toInt ∨ (a1.toInt ≤ a1.toInt ∧ a1.toInt ≤ a2.toInt) by omega), h_y45, h_y46⟩, by rw [ht]; exact hP9, hD9⟩, hS.F ht⟩) hS.2.2 dX5_takeNumber_80
    · have hq48 : y41.toInt = 0 := tq_eq rfl (by decide) hc
      have hb50 := tq_lo y41
      refine lv_iload_n hx hb dX5_takeNumber_75 rfl (lv_at hl 0 rfl) ?_
      refine lv_goto (tgt := 80) hx hb dX5_takeNumber_76 (by decide) ?_
      obtain ⟨hP9, hD9⟩ : ct_B D A H [(qr, .inr (5, [.ref qt, .int vt_from, .int y41, .int y42])), (qt, .inr (8, [.ref qt_bytes, .int vt_length, .int y44, .int y45, .int y46, .int y47])), (qt_bytes, .inl (cB, 1200, .inl (ft_bytes)))] := ⟨hP.sub [0, 1, 2] rfl, hD.sub [0, 1, 2] (by decide) rfl⟩
      exact W.iret (v := vt_value) hx hb hr (fun t ht hW => ⟨⟨vt_value, (vt_from, y41, y42, y44, y45, y46, y47), rfl, ⟨(show vt_value.toInt = a1.toInt ∨ (a1.toInt ≤ vt_value.toInt ∧ vt_value.toInt ≤ a2.toInt) by omega), h_y45, h_y46⟩, by rw [ht]; exact hP9, hD9⟩, hS.F ht⟩) hS.2.2 dX5_takeNumber_80
abbrev w_c_X5_takeSemicolon (cI cJ cB cZ cO : ClassId) (qr : Nat) (vr_numberPlace : Int32) (vr_fault : Int32) (vr_faultPlace : Int32) (qt : Nat) (qt_bytes : Nat) (ft_bytes : Nat → Int32) (vt_length : Int32) (vt_kind : Int32) (vt_from : Int32) (vt_upto : Int32) (vt_value : Int32) : va_W := [(qr, .inr (5, [.ref qt, .int vr_numberPlace, .int vr_fault, .int vr_faultPlace])), (qt, .inr (8, [.ref qt_bytes, .int vt_length, .int vt_kind, .int vt_from, .int vt_upto, .int vt_value])), (qt_bytes, .inl (cB, 1200, .inl (ft_bytes)))]
set_option maxHeartbeats 4000000 in
set_option maxRecDepth 100000 in
/-- X5 takeSemicolon -/
theorem c_X5_takeSemicolon (l : Launch) (D : va_G) (G : ct_G) (cI cJ cB cZ cO : ClassId) (qr : Nat) (vr_numberPlace : Int32) (vr_fault : Int32) (vr_faultPlace : Int32) (qt : Nat) (qt_bytes : Nat) (ft_bytes : Nat → Int32) (vt_length : Int32) (vt_kind : Int32) (vt_from : Int32) (vt_upto : Int32) (vt_value : Int32) (h_vt_length : 0 ≤ vt_length.toInt ∧ vt_length.toInt ≤ 1200) (h_vt_from : 0 ≤ vt_from.toInt ∧ vt_from.toInt ≤ 1200) (h_vt_upto : 0 ≤ vt_upto.toInt ∧ vt_upto.toInt ≤ 1200) (sz : Nat) : Met l yX5_takeSemicolon wsX5_takeSemicolon ({ frames := 2, cells := 0, slots := 0, locals := 44 }) (va_Pc [.ref qr] (ct_P D (ct_T cI cJ cB cZ cO) G (w_c_X5_takeSemicolon cI cJ cB cZ cO qr vr_numberPlace vr_fault vr_faultPlace qt qt_bytes ft_bytes vt_length vt_kind vt_from vt_upto vt_value) sz)) (va_Qv (fun (u : Int32 × Int32 × Int32 × Int32 × Int32 × Int32) => (0 ≤ u.2.2.2.1.toInt ∧ u.2.2.2.1.toInt ≤ 1200) ∧ (0 ≤ u.2.2.2.2.1.toInt ∧ u.2.2.2.2.1.toInt ≤ 1200)) (fun (u : Int32 × Int32 × Int32 × Int32 × Int32 × Int32) t => ct_Q D (va_A (w_c_X5_takeSemicolon cI cJ cB cZ cO qr vr_numberPlace vr_fault vr_faultPlace qt qt_bytes ft_bytes vt_length vt_kind vt_from vt_upto vt_value) sz) [(qr, .inr (5, [.ref qt, .int vr_numberPlace, .int u.1, .int u.2.1])), (qt, .inr (8, [.ref qt_bytes, .int vt_length, .int u.2.2.1, .int u.2.2.2.1, .int u.2.2.2.2.1, .int u.2.2.2.2.2])), (qt_bytes, .inl (cB, 1200, .inl (ft_bytes)))] t) (va_A (w_c_X5_takeSemicolon cI cJ cB cZ cO qr vr_numberPlace vr_fault vr_faultPlace qt qt_bytes ft_bytes vt_length vt_kind vt_from vt_upto vt_value) sz)) 0 0 (va_A (w_c_X5_takeSemicolon cI cJ cB cZ cO qr vr_numberPlace vr_fault vr_faultPlace qt qt_bytes ft_bytes vt_length vt_kind vt_from vt_upto vt_value) sz) := by
  refine Met.ofW (cc := cX5_takeSemicolon) (maxL := 1) (ret := none) (by decide) rfl ?_
  intro p e s m args below meth c s₁ B hml hv
  obtain ⟨rfl, hsz, hP, hE, hD0, hH⟩ := hv
  have hx := B.exec
  have hb := B.bytes
  have hr := B.returns
  have hts := atoms_spec (ws := wsX5_takeSemicolon) B.pre
  have hown : s.vm.findClass RX5 = some m.cls := findClass_of_methodNamed B.named
  have hlocks := B.notSynchronized
  have hK := hE.1
  have hi5 : ∀ w ∈ u_ws RX5 TX5 4, w ∈ wsX5_takeSemicolon := fun w h => List.mem_cons_of_mem _ (List.mem_append_left _ (List.mem_append_right _ h))
  have hi8 : ∀ w ∈ u_ws RX8 TX8 6, w ∈ wsX5_takeSemicolon := fun w h => List.mem_cons_of_mem _ (List.mem_append_right _ h)
  subst hsz
  have hD := hD0.self (sz := s.heap.size)
  generalize hAe : va_A (w_c_X5_takeSemicolon cI cJ cB cZ cO qr vr_numberPlace vr_fault vr_faultPlace qt qt_bytes ft_bytes vt_length vt_kind vt_from vt_upto vt_value) s.heap.size = A at hD hH ⊢
  have hA : ∀ q : Nat, s.heap.size ≤ q → A q := fun q h => by rw [← hAe]; exact Or.inr h
  have hS : va_S A s.heap s.heap [] := va_S.rf
  obtain ⟨hP, hD⟩ : ct_B D A s.heap [(qr, .inr (5, [.ref qt, .int vr_numberPlace, .int vr_fault, .int vr_faultPlace])), (qt, .inr (8, [.ref qt_bytes, .int vt_length, .int vt_kind, .int vt_from, .int vt_upto, .int vt_value])), (qt_bytes, .inl (cB, 1200, .inl (ft_bytes)))] := ⟨hP, hD⟩
  have hl := lv_entry ([.ref qr]) (n := 1) (Nat.le_of_ble_eq_true rfl)
  rw [lg_entry_eq]
  generalize (lg_sl ([.ref qr]) ++ List.replicate (1 - (lg_sl ([.ref qr])).length) Slot.unset).toArray = ls at hl ⊢
  have hl : lv_has ls 1 [(0, .ref qr)] := hl
  obtain ⟨H, hHe⟩ : ∃ H : Heap, H = s.heap := ⟨_, rfl⟩
  rw [← hHe] at hP
  have hS : va_S A s.heap H [] := by rw [hHe]; exact va_S.rf
  refine ct_start hHe ?_
  refine lv_aload_n hx hb dX5_takeSemicolon_0 rfl (lv_at hl 0 rfl) ?_
  refine va_get (D := D) (ci := 5) (v := .ref qt) (C := RX5) (T := TX5) (N := 4) hx hb hts hi5 hown hK hP 0 rfl rfl 0 (by decide) (hts (.fieldLink RX5 12 "OverHill$Reader" "tape" "LOverHill$Tape;") (by decide +kernel)) (fun _ h9 => h9) rfl dX5_takeSemicolon_1 ?_
  refine va_get (D := D) (ci := 8) (v := .int vt_kind) (C := RX8) (T := TX8) (N := 6) hx hb hts hi8 hown hK hP 1 rfl rfl 2 (by decide) (hts (.fieldLink RX5 33 "OverHill$Tape" "kind" "I") (by decide +kernel)) (fun _ h9 => h9) rfl dX5_takeSemicolon_4 ?_
  refine lv_iconst (v := 3) hx hb dX5_takeSemicolon_7 (by decide) ?_
  refine lv_icmp_eq (tgt := 23) hx hb dX5_takeSemicolon_8 (by decide) (fun hc => ?_) (fun hc => ?_)
  · have hq1 : vt_kind.toInt = 3 := tq_eq rfl (by decide) hc
    have hb2 := tq_lo vt_kind
    refine lv_aload_n hx hb dX5_takeSemicolon_23 rfl (lv_at hl 0 rfl) ?_
    refine va_get (D := D) (ci := 5) (v := .ref qt) (C := RX5) (T := TX5) (N := 4) hx hb hts hi5 hown hK hP 0 rfl rfl 0 (by decide) (hts (.fieldLink RX5 12 "OverHill$Reader" "tape" "LOverHill$Tape;") (by decide +kernel)) (fun _ h9 => h9) rfl dX5_takeSemicolon_24 ?_
    refine ct_callv (D := D) (wr := [(qr, .inr (5, [.ref qt, .int vr_numberPlace, .int vr_fault, .int vr_faultPlace]))]) (va_runV (As := []) (rest := []) ⟨hx, hb, hml, hown, hts⟩ (c_X8_advance l D G cI cJ cB cZ cO qt qt_bytes ft_bytes vt_length vt_kind vt_from vt_upto vt_value h_vt_length h_vt_from h_vt_upto H.size) (cwV 0 hts gX5_takeSemicolon_X8_advance rfl rfl rfl (by decide +kernel) ⟨Nat.le_of_ble_eq_true rfl, Nat.le_of_ble_eq_true rfl⟩) (ct_preV (T := ct_T cI cJ cB cZ cO) (ci := 8) (q0 := 1) hE hH hP hD hS hA [1, 2] (by decide) rfl rfl rfl) rfl rfl hl.1 rfl (lv_room (Nat.le_of_ble_eq_true rfl)) dX5_takeSemicolon_27 ⟨Nat.le_of_ble_eq_true rfl, Nat.le_of_ble_eq_true rfl⟩) hP hD hS hA [1, 2] [0] rfl rfl (by decide) (by decide) (fun u H locs hw hP hD hS => ?_)
    obtain ⟨y3, y4, y5, y6⟩ := u
    obtain ⟨hP, hD⟩ : ct_B D A H [(qr, .inr (5, [.ref qt, .int vr_numberPlace, .int vr_fault, .int vr_faultPlace])), (qt, .inr (8, [.ref qt_bytes, .int vt_length, .int y3, .int y4, .int y5, .int y6])), (qt_bytes, .inl (cB, 1200, .inl (ft_bytes)))] := ⟨hP, hD⟩
    obtain ⟨hp0, hp1⟩ := hw
    have h_y4 : 0 ≤ y4.toInt ∧ y4.toInt ≤ 1200 := hp0
    have h_y5 : 0 ≤ y5.toInt ∧ y5.toInt ≤ 1200 := hp1
    obtain ⟨hP9, hD9⟩ : ct_B D A H [(qr, .inr (5, [.ref qt, .int vr_numberPlace, .int vr_fault, .int vr_faultPlace])), (qt, .inr (8, [.ref qt_bytes, .int vt_length, .int y3, .int y4, .int y5, .int y6])), (qt_bytes, .inl (cB, 1200, .inl (ft_bytes)))] := ⟨hP.sub [0, 1, 2] rfl, hD.sub [0, 1, 2] (by decide) rfl⟩
    exact W.vret hx hb hr (fun t ht hW => ⟨⟨(vr_fault, vr_faultPlace, y3, y4, y5, y6), rfl, ⟨h_y4, h_y5⟩, by rw [ht]; exact hP9, hD9⟩, hS.F ht⟩) hS.2.2 dX5_takeSemicolon_30
  · have hq1 : vt_kind.toInt ≠ 3 := tq_ne rfl (by decide) hc
    have hb7 := tq_lo vt_kind
    refine lv_aload_n hx hb dX5_takeSemicolon_11 rfl (lv_at hl 0 rfl) ?_
    refine lv_iconst (v := 1) hx hb dX5_takeSemicolon_12 (by decide) ?_
    refine lv_aload_n hx hb dX5_takeSemicolon_13 rfl (lv_at hl 0 rfl) ?_
    refine va_get (D := D) (ci := 5) (v := .ref qt) (C := RX5) (T := TX5) (N := 4) hx hb hts hi5 hown hK hP 0 rfl rfl 0 (by decide) (hts (.fieldLink RX5 12 "OverHill$Reader" "tape" "LOverHill$Tape;") (by decide +kernel)) (fun _ h9 => h9) rfl dX5_takeSemicolon_14 ?_
    refine va_get (D := D) (ci := 8) (v := .int vt_from) (C := RX8) (T := TX8) (N := 6) hx hb hts hi8 hown hK hP 1 rfl rfl 3 (by decide) (hts (.fieldLink RX5 52 "OverHill$Tape" "from" "I") (by decide +kernel)) (fun _ h9 => h9) rfl dX5_takeSemicolon_17 ?_
    refine ct_callv (D := D) (wr := [(qt, .inr (8, [.ref qt_bytes, .int vt_length, .int vt_kind, .int vt_from, .int vt_upto, .int vt_value])), (qt_bytes, .inl (cB, 1200, .inl (ft_bytes)))]) (va_runV (As := [.int 1, .int vt_from]) (rest := []) ⟨hx, hb, hml, hown, hts⟩ (c_X5_fail l D G cI cJ cB cZ cO qr vr_numberPlace vr_fault vr_faultPlace qt 1 vt_from (by decide) H.size) (cwV 2 hts gX5_takeSemicolon_X5_fail rfl rfl rfl (by decide +kernel) ⟨Nat.le_of_ble_eq_true rfl, Nat.le_of_ble_eq_true rfl⟩) (ct_preV (T := ct_T cI cJ cB cZ cO) (ci := 5) (q0 := 0) hE hH hP hD hS hA [0] (by decide) rfl rfl rfl) rfl rfl hl.1 rfl (lv_room (Nat.le_of_ble_eq_true rfl)) dX5_takeSemicolon_20 ⟨Nat.le_of_ble_eq_true rfl, Nat.le_of_ble_eq_true rfl⟩) hP hD hS hA [0] [1, 2] rfl rfl (by decide) (by decide) (fun u H locs hw hP hD hS => ?_)
    obtain ⟨y8, y9⟩ := u
    obtain ⟨hP, hD⟩ : ct_B D A H [(qt, .inr (8, [.ref qt_bytes, .int vt_length, .int vt_kind, .int vt_from, .int vt_upto, .int vt_value])), (qt_bytes, .inl (cB, 1200, .inl (ft_bytes))), (qr, .inr (5, [.ref qt, .int vr_numberPlace, .int y8, .int y9]))] := ⟨hP, hD⟩
    have hp0 := hw
    have hp_10 : y8.toInt ≠ 0 := hp0
    refine lv_aload_n hx hb dX5_takeSemicolon_23 rfl (lv_at hl 0 rfl) ?_
    refine va_get (D := D) (ci := 5) (v := .ref qt) (C := RX5) (T := TX5) (N := 4) hx hb hts hi5 hown hK hP 2 rfl rfl 0 (by decide) (hts (.fieldLink RX5 12 "OverHill$Reader" "tape" "LOverHill$Tape;") (by decide +kernel)) (fun _ h9 => h9) rfl dX5_takeSemicolon_24 ?_
    refine ct_callv (D := D) (wr := [(qr, .inr (5, [.ref qt, .int vr_numberPlace, .int y8, .int y9]))]) (va_runV (As := []) (rest := []) ⟨hx, hb, hml, hown, hts⟩ (c_X8_advance l D G cI cJ cB cZ cO qt qt_bytes ft_bytes vt_length vt_kind vt_from vt_upto vt_value h_vt_length h_vt_from h_vt_upto H.size) (cwV 0 hts gX5_takeSemicolon_X8_advance rfl rfl rfl (by decide +kernel) ⟨Nat.le_of_ble_eq_true rfl, Nat.le_of_ble_eq_true rfl⟩) (ct_preV (T := ct_T cI cJ cB cZ cO) (ci := 8) (q0 := 0) hE hH hP hD hS hA [0, 1] (by decide) rfl rfl rfl) rfl rfl hl.1 rfl (lv_room (Nat.le_of_ble_eq_true rfl)) dX5_takeSemicolon_27 ⟨Nat.le_of_ble_eq_true rfl, Nat.le_of_ble_eq_true rfl⟩) hP hD hS hA [0, 1] [2] rfl rfl (by decide) (by decide) (fun u H locs hw hP hD hS => ?_)
    obtain ⟨y11, y12, y13, y14⟩ := u
    obtain ⟨hP, hD⟩ : ct_B D A H [(qr, .inr (5, [.ref qt, .int vr_numberPlace, .int y8, .int y9])), (qt, .inr (8, [.ref qt_bytes, .int vt_length, .int y11, .int y12, .int y13, .int y14])), (qt_bytes, .inl (cB, 1200, .inl (ft_bytes)))] := ⟨hP, hD⟩
    obtain ⟨hp0, hp1⟩ := hw
    have h_y12 : 0 ≤ y12.toInt ∧ y12.toInt ≤ 1200 := hp0
    have h_y13 : 0 ≤ y13.toInt ∧ y13.toInt ≤ 1200 := hp1
    obtain ⟨hP9, hD9⟩ : ct_B D A H [(qr, .inr (5, [.ref qt, .int vr_numberPlace, .int y8, .int y9])), (qt, .inr (8, [.ref qt_bytes, .int vt_length, .int y11, .int y12, .int y13, .int y14])), (qt_bytes, .inl (cB, 1200, .inl (ft_bytes)))] := ⟨hP.sub [0, 1, 2] rfl, hD.sub [0, 1, 2] (by decide) rfl⟩
    exact W.vret hx hb hr (fun t ht hW => ⟨⟨(y8, y9, y11, y12, y13, y14), rfl, ⟨h_y12, h_y13⟩, by rw [ht]; exact hP9, hD9⟩, hS.F ht⟩) hS.2.2 dX5_takeSemicolon_30
abbrev w_c_X5_takeWord (cI cJ cB cZ cO : ClassId) (qr : Nat) (vr_numberPlace : Int32) (vr_fault : Int32) (vr_faultPlace : Int32) (qt : Nat) (qt_bytes : Nat) (ft_bytes : Nat → Int32) (vt_length : Int32) (vt_kind : Int32) (vt_from : Int32) (vt_upto : Int32) (vt_value : Int32) : va_W := [(qr, .inr (5, [.ref qt, .int vr_numberPlace, .int vr_fault, .int vr_faultPlace])), (qt, .inr (8, [.ref qt_bytes, .int vt_length, .int vt_kind, .int vt_from, .int vt_upto, .int vt_value])), (qt_bytes, .inl (cB, 1200, .inl (ft_bytes)))]
set_option maxHeartbeats 4000000 in
set_option maxRecDepth 100000 in
/-- X5 takeWord -/
theorem c_X5_takeWord (l : Launch) (D : va_G) (G : ct_G) (cI cJ cB cZ cO : ClassId) (qr : Nat) (vr_numberPlace : Int32) (vr_fault : Int32) (vr_faultPlace : Int32) (qt : Nat) (qt_bytes : Nat) (ft_bytes : Nat → Int32) (vt_length : Int32) (vt_kind : Int32) (vt_from : Int32) (vt_upto : Int32) (vt_value : Int32) (k : Nat) (h_vt_length : 0 ≤ vt_length.toInt ∧ vt_length.toInt ≤ 1200) (h_vt_from : 0 ≤ vt_from.toInt ∧ vt_from.toInt ≤ 1200) (h_vt_upto : 0 ≤ vt_upto.toInt ∧ vt_upto.toInt ≤ 1200) (hk : k < 16) (sz : Nat) : Met l yX5_takeWord wsX5_takeWord ({ frames := 5, cells := 0, slots := 0, locals := 107 }) (va_Pc [.ref qr, .ref (G.1 k)] (ct_P D (ct_T cI cJ cB cZ cO) G (w_c_X5_takeWord cI cJ cB cZ cO qr vr_numberPlace vr_fault vr_faultPlace qt qt_bytes ft_bytes vt_length vt_kind vt_from vt_upto vt_value) sz)) (va_Qv (fun (u : Int32 × Int32 × Int32 × Int32 × Int32 × Int32) => (0 ≤ u.2.2.2.1.toInt ∧ u.2.2.2.1.toInt ≤ 1200) ∧ (0 ≤ u.2.2.2.2.1.toInt ∧ u.2.2.2.2.1.toInt ≤ 1200)) (fun (u : Int32 × Int32 × Int32 × Int32 × Int32 × Int32) t => ct_Q D (va_A (w_c_X5_takeWord cI cJ cB cZ cO qr vr_numberPlace vr_fault vr_faultPlace qt qt_bytes ft_bytes vt_length vt_kind vt_from vt_upto vt_value) sz) [(qr, .inr (5, [.ref qt, .int vr_numberPlace, .int u.1, .int u.2.1])), (qt, .inr (8, [.ref qt_bytes, .int vt_length, .int u.2.2.1, .int u.2.2.2.1, .int u.2.2.2.2.1, .int u.2.2.2.2.2])), (qt_bytes, .inl (cB, 1200, .inl (ft_bytes)))] t) (va_A (w_c_X5_takeWord cI cJ cB cZ cO qr vr_numberPlace vr_fault vr_faultPlace qt qt_bytes ft_bytes vt_length vt_kind vt_from vt_upto vt_value) sz)) 0 0 (va_A (w_c_X5_takeWord cI cJ cB cZ cO qr vr_numberPlace vr_fault vr_faultPlace qt qt_bytes ft_bytes vt_length vt_kind vt_from vt_upto vt_value) sz) := by
  refine Met.ofW (cc := cX5_takeWord) (maxL := 2) (ret := none) (by decide) rfl ?_
  intro p e s m args below meth c s₁ B hml hv
  obtain ⟨rfl, hsz, hP, hE, hD0, hH⟩ := hv
  have hx := B.exec
  have hb := B.bytes
  have hr := B.returns
  have hts := atoms_spec (ws := wsX5_takeWord) B.pre
  have hown : s.vm.findClass RX5 = some m.cls := findClass_of_methodNamed B.named
  have hlocks := B.notSynchronized
  have hK := hE.1
  have hi5 : ∀ w ∈ u_ws RX5 TX5 4, w ∈ wsX5_takeWord := fun w h => List.mem_cons_of_mem _ (List.mem_append_left _ (List.mem_append_right _ h))
  have hi8 : ∀ w ∈ u_ws RX8 TX8 6, w ∈ wsX5_takeWord := fun w h => List.mem_cons_of_mem _ (List.mem_append_right _ h)
  subst hsz
  have hD := hD0.self (sz := s.heap.size)
  generalize hAe : va_A (w_c_X5_takeWord cI cJ cB cZ cO qr vr_numberPlace vr_fault vr_faultPlace qt qt_bytes ft_bytes vt_length vt_kind vt_from vt_upto vt_value) s.heap.size = A at hD hH ⊢
  have hA : ∀ q : Nat, s.heap.size ≤ q → A q := fun q h => by rw [← hAe]; exact Or.inr h
  have hS : va_S A s.heap s.heap [] := va_S.rf
  obtain ⟨hP, hD⟩ : ct_B D A s.heap [(qr, .inr (5, [.ref qt, .int vr_numberPlace, .int vr_fault, .int vr_faultPlace])), (qt, .inr (8, [.ref qt_bytes, .int vt_length, .int vt_kind, .int vt_from, .int vt_upto, .int vt_value])), (qt_bytes, .inl (cB, 1200, .inl (ft_bytes)))] := ⟨hP, hD⟩
  have hl := lv_entry ([.ref qr, .ref (G.1 k)]) (n := 2) (Nat.le_of_ble_eq_true rfl)
  rw [lg_entry_eq]
  generalize (lg_sl ([.ref qr, .ref (G.1 k)]) ++ List.replicate (2 - (lg_sl ([.ref qr, .ref (G.1 k)])).length) Slot.unset).toArray = ls at hl ⊢
  have hl : lv_has ls 2 [(0, .ref qr), (1, .ref (G.1 k))] := hl
  obtain ⟨H, hHe⟩ : ∃ H : Heap, H = s.heap := ⟨_, rfl⟩
  rw [← hHe] at hP
  have hS : va_S A s.heap H [] := by rw [hHe]; exact va_S.rf
  refine ct_start hHe ?_
  refine lv_aload_n hx hb dX5_takeWord_0 rfl (lv_at hl 0 rfl) ?_
  refine va_get (D := D) (ci := 5) (v := .ref qt) (C := RX5) (T := TX5) (N := 4) hx hb hts hi5 hown hK hP 0 rfl rfl 0 (by decide) (hts (.fieldLink RX5 12 "OverHill$Reader" "tape" "LOverHill$Tape;") (by decide +kernel)) (fun _ h9 => h9) rfl dX5_takeWord_1 ?_
  refine lv_aload_n hx hb dX5_takeWord_4 rfl (lv_at hl 1 rfl) ?_
  refine ct_calli (D := D) (wr := [(qr, .inr (5, [.ref qt, .int vr_numberPlace, .int vr_fault, .int vr_faultPlace]))]) (va_runV (As := [.ref (G.1 k)]) (rest := []) ⟨hx, hb, hml, hown, hts⟩ (c_X8_isWord l D G cI cJ cB cZ cO qt qt_bytes ft_bytes vt_length vt_kind vt_from vt_upto vt_value k h_vt_length h_vt_from h_vt_upto hk H.size) (cwV 1 hts gX5_takeWord_X8_isWord rfl rfl rfl (by decide +kernel) ⟨Nat.le_of_ble_eq_true rfl, Nat.le_of_ble_eq_true rfl⟩) (ct_preV (T := ct_T cI cJ cB cZ cO) (ci := 8) (q0 := 1) hE hH hP hD hS hA [1, 2] (by decide) rfl rfl rfl) rfl rfl hl.1 rfl (lv_room (Nat.le_of_ble_eq_true rfl)) dX5_takeWord_5 ⟨Nat.le_of_ble_eq_true rfl, Nat.le_of_ble_eq_true rfl⟩) hP hD hS hA [1, 2] [0] rfl rfl (by decide) (by decide) (fun r1 u H locs hw hP hD hS => ?_)
  obtain ⟨hP, hD⟩ : ct_B D A H [(qr, .inr (5, [.ref qt, .int vr_numberPlace, .int vr_fault, .int vr_faultPlace])), (qt, .inr (8, [.ref qt_bytes, .int vt_length, .int vt_kind, .int vt_from, .int vt_upto, .int vt_value])), (qt_bytes, .inl (cB, 1200, .inl (ft_bytes)))] := ⟨hP, hD⟩
  have hz := hw
  rcases hz with ⟨hz, hz2⟩ | ⟨hz, hz2⟩
  · subst hz
    refine lv_if_ne (tgt := 23) hx hb dX5_takeWord_8 (by decide) (fun _ => ?_) (fun hc => absurd hc (by decide))
    refine lv_aload_n hx hb dX5_takeWord_23 rfl (lv_at hl 0 rfl) ?_
    refine va_get (D := D) (ci := 5) (v := .ref qt) (C := RX5) (T := TX5) (N := 4) hx hb hts hi5 hown hK hP 0 rfl rfl 0 (by decide) (hts (.fieldLink RX5 12 "OverHill$Reader" "tape" "LOverHill$Tape;") (by decide +kernel)) (fun _ h9 => h9) rfl dX5_takeWord_24 ?_
    refine ct_callv (D := D) (wr := [(qr, .inr (5, [.ref qt, .int vr_numberPlace, .int vr_fault, .int vr_faultPlace]))]) (va_runV (As := []) (rest := []) ⟨hx, hb, hml, hown, hts⟩ (c_X8_advance l D G cI cJ cB cZ cO qt qt_bytes ft_bytes vt_length vt_kind vt_from vt_upto vt_value h_vt_length h_vt_from h_vt_upto H.size) (cwV 0 hts gX5_takeWord_X8_advance rfl rfl rfl (by decide +kernel) ⟨Nat.le_of_ble_eq_true rfl, Nat.le_of_ble_eq_true rfl⟩) (ct_preV (T := ct_T cI cJ cB cZ cO) (ci := 8) (q0 := 1) hE hH hP hD hS hA [1, 2] (by decide) rfl rfl rfl) rfl rfl hl.1 rfl (lv_room (Nat.le_of_ble_eq_true rfl)) dX5_takeWord_27 ⟨Nat.le_of_ble_eq_true rfl, Nat.le_of_ble_eq_true rfl⟩) hP hD hS hA [1, 2] [0] rfl rfl (by decide) (by decide) (fun u H locs hw hP hD hS => ?_)
    obtain ⟨y2, y3, y4, y5⟩ := u
    obtain ⟨hP, hD⟩ : ct_B D A H [(qr, .inr (5, [.ref qt, .int vr_numberPlace, .int vr_fault, .int vr_faultPlace])), (qt, .inr (8, [.ref qt_bytes, .int vt_length, .int y2, .int y3, .int y4, .int y5])), (qt_bytes, .inl (cB, 1200, .inl (ft_bytes)))] := ⟨hP, hD⟩
    obtain ⟨hp0, hp1⟩ := hw
    have h_y3 : 0 ≤ y3.toInt ∧ y3.toInt ≤ 1200 := hp0
    have h_y4 : 0 ≤ y4.toInt ∧ y4.toInt ≤ 1200 := hp1
    obtain ⟨hP9, hD9⟩ : ct_B D A H [(qr, .inr (5, [.ref qt, .int vr_numberPlace, .int vr_fault, .int vr_faultPlace])), (qt, .inr (8, [.ref qt_bytes, .int vt_length, .int y2, .int y3, .int y4, .int y5])), (qt_bytes, .inl (cB, 1200, .inl (ft_bytes)))] := ⟨hP.sub [0, 1, 2] rfl, hD.sub [0, 1, 2] (by decide) rfl⟩
    exact W.vret hx hb hr (fun t ht hW => ⟨⟨(vr_fault, vr_faultPlace, y2, y3, y4, y5), rfl, ⟨h_y3, h_y4⟩, by rw [ht]; exact hP9, hD9⟩, hS.F ht⟩) hS.2.2 dX5_takeWord_30
  · subst hz
    refine lv_if_ne (tgt := 23) hx hb dX5_takeWord_8 (by decide) (fun hc => absurd hc (by decide)) (fun _ => ?_)
    refine lv_aload_n hx hb dX5_takeWord_11 rfl (lv_at hl 0 rfl) ?_
    refine lv_iconst (v := 1) hx hb dX5_takeWord_12 (by decide) ?_
    refine lv_aload_n hx hb dX5_takeWord_13 rfl (lv_at hl 0 rfl) ?_
    refine va_get (D := D) (ci := 5) (v := .ref qt) (C := RX5) (T := TX5) (N := 4) hx hb hts hi5 hown hK hP 0 rfl rfl 0 (by decide) (hts (.fieldLink RX5 12 "OverHill$Reader" "tape" "LOverHill$Tape;") (by decide +kernel)) (fun _ h9 => h9) rfl dX5_takeWord_14 ?_
    refine va_get (D := D) (ci := 8) (v := .int vt_from) (C := RX8) (T := TX8) (N := 6) hx hb hts hi8 hown hK hP 1 rfl rfl 3 (by decide) (hts (.fieldLink RX5 52 "OverHill$Tape" "from" "I") (by decide +kernel)) (fun _ h9 => h9) rfl dX5_takeWord_17 ?_
    refine ct_callv (D := D) (wr := [(qt, .inr (8, [.ref qt_bytes, .int vt_length, .int vt_kind, .int vt_from, .int vt_upto, .int vt_value])), (qt_bytes, .inl (cB, 1200, .inl (ft_bytes)))]) (va_runV (As := [.int 1, .int vt_from]) (rest := []) ⟨hx, hb, hml, hown, hts⟩ (c_X5_fail l D G cI cJ cB cZ cO qr vr_numberPlace vr_fault vr_faultPlace qt 1 vt_from (by decide) H.size) (cwV 2 hts gX5_takeWord_X5_fail rfl rfl rfl (by decide +kernel) ⟨Nat.le_of_ble_eq_true rfl, Nat.le_of_ble_eq_true rfl⟩) (ct_preV (T := ct_T cI cJ cB cZ cO) (ci := 5) (q0 := 0) hE hH hP hD hS hA [0] (by decide) rfl rfl rfl) rfl rfl hl.1 rfl (lv_room (Nat.le_of_ble_eq_true rfl)) dX5_takeWord_20 ⟨Nat.le_of_ble_eq_true rfl, Nat.le_of_ble_eq_true rfl⟩) hP hD hS hA [0] [1, 2] rfl rfl (by decide) (by decide) (fun u H locs hw hP hD hS => ?_)
    obtain ⟨y6, y7⟩ := u
    obtain ⟨hP, hD⟩ : ct_B D A H [(qt, .inr (8, [.ref qt_bytes, .int vt_length, .int vt_kind, .int vt_from, .int vt_upto, .int vt_value])), (qt_bytes, .inl (cB, 1200, .inl (ft_bytes))), (qr, .inr (5, [.ref qt, .int vr_numberPlace, .int y6, .int y7]))] := ⟨hP, hD⟩
    have hp0 := hw
    have hp_8 : y6.toInt ≠ 0 := hp0
    refine lv_aload_n hx hb dX5_takeWord_23 rfl (lv_at hl 0 rfl) ?_
    refine va_get (D := D) (ci := 5) (v := .ref qt) (C := RX5) (T := TX5) (N := 4) hx hb hts hi5 hown hK hP 2 rfl rfl 0 (by decide) (hts (.fieldLink RX5 12 "OverHill$Reader" "tape" "LOverHill$Tape;") (by decide +kernel)) (fun _ h9 => h9) rfl dX5_takeWord_24 ?_
    refine ct_callv (D := D) (wr := [(qr, .inr (5, [.ref qt, .int vr_numberPlace, .int y6, .int y7]))]) (va_runV (As := []) (rest := []) ⟨hx, hb, hml, hown, hts⟩ (c_X8_advance l D G cI cJ cB cZ cO qt qt_bytes ft_bytes vt_length vt_kind vt_from vt_upto vt_value h_vt_length h_vt_from h_vt_upto H.size) (cwV 0 hts gX5_takeWord_X8_advance rfl rfl rfl (by decide +kernel) ⟨Nat.le_of_ble_eq_true rfl, Nat.le_of_ble_eq_true rfl⟩) (ct_preV (T := ct_T cI cJ cB cZ cO) (ci := 8) (q0 := 0) hE hH hP hD hS hA [0, 1] (by decide) rfl rfl rfl) rfl rfl hl.1 rfl (lv_room (Nat.le_of_ble_eq_true rfl)) dX5_takeWord_27 ⟨Nat.le_of_ble_eq_true rfl, Nat.le_of_ble_eq_true rfl⟩) hP hD hS hA [0, 1] [2] rfl rfl (by decide) (by decide) (fun u H locs hw hP hD hS => ?_)
    obtain ⟨y9, y10, y11, y12⟩ := u
    obtain ⟨hP, hD⟩ : ct_B D A H [(qr, .inr (5, [.ref qt, .int vr_numberPlace, .int y6, .int y7])), (qt, .inr (8, [.ref qt_bytes, .int vt_length, .int y9, .int y10, .int y11, .int y12])), (qt_bytes, .inl (cB, 1200, .inl (ft_bytes)))] := ⟨hP, hD⟩
    obtain ⟨hp0, hp1⟩ := hw
    have h_y10 : 0 ≤ y10.toInt ∧ y10.toInt ≤ 1200 := hp0
    have h_y11 : 0 ≤ y11.toInt ∧ y11.toInt ≤ 1200 := hp1
    obtain ⟨hP9, hD9⟩ : ct_B D A H [(qr, .inr (5, [.ref qt, .int vr_numberPlace, .int y6, .int y7])), (qt, .inr (8, [.ref qt_bytes, .int vt_length, .int y9, .int y10, .int y11, .int y12])), (qt_bytes, .inl (cB, 1200, .inl (ft_bytes)))] := ⟨hP.sub [0, 1, 2] rfl, hD.sub [0, 1, 2] (by decide) rfl⟩
    exact W.vret hx hb hr (fun t ht hW => ⟨⟨(y6, y7, y9, y10, y11, y12), rfl, ⟨h_y10, h_y11⟩, by rw [ht]; exact hP9, hD9⟩, hS.F ht⟩) hS.2.2 dX5_takeWord_30
abbrev w_c_X5_beginOneOf (cI cJ cB cZ cO : ClassId) (qr : Nat) (vr_numberPlace : Int32) (vr_fault : Int32) (vr_faultPlace : Int32) (qt : Nat) (qt_bytes : Nat) (ft_bytes : Nat → Int32) (vt_length : Int32) (vt_kind : Int32) (vt_from : Int32) (vt_upto : Int32) (vt_value : Int32) : va_W := [(qr, .inr (5, [.ref qt, .int vr_numberPlace, .int vr_fault, .int vr_faultPlace])), (qt, .inr (8, [.ref qt_bytes, .int vt_length, .int vt_kind, .int vt_from, .int vt_upto, .int vt_value])), (qt_bytes, .inl (cB, 1200, .inl (ft_bytes)))]
set_option maxHeartbeats 4000000 in
set_option maxRecDepth 100000 in
/-- X5 beginOneOf -/
theorem c_X5_beginOneOf (l : Launch) (D : va_G) (G : ct_G) (cI cJ cB cZ cO : ClassId) (qr : Nat) (vr_numberPlace : Int32) (vr_fault : Int32) (vr_faultPlace : Int32) (qt : Nat) (qt_bytes : Nat) (ft_bytes : Nat → Int32) (vt_length : Int32) (vt_kind : Int32) (vt_from : Int32) (vt_upto : Int32) (vt_value : Int32) (a1 : Int32) (a2 : Int32) (h_vt_length : 0 ≤ vt_length.toInt ∧ vt_length.toInt ≤ 1200) (h_vt_from : 0 ≤ vt_from.toInt ∧ vt_from.toInt ≤ 1200) (h_vt_upto : 0 ≤ vt_upto.toInt ∧ vt_upto.toInt ≤ 1200) (sz : Nat) : Met l yX5_beginOneOf wsX5_beginOneOf ({ frames := 2, cells := 0, slots := 0, locals := 44 }) (va_Pc [.ref qr, .int a1, .int a2] (ct_P D (ct_T cI cJ cB cZ cO) G (w_c_X5_beginOneOf cI cJ cB cZ cO qr vr_numberPlace vr_fault vr_faultPlace qt qt_bytes ft_bytes vt_length vt_kind vt_from vt_upto vt_value) sz)) (va_Qv (fun (u : Int32 × Int32 × Int32 × Int32 × Int32 × Int32) => (0 ≤ u.2.2.2.1.toInt ∧ u.2.2.2.1.toInt ≤ 1200) ∧ (0 ≤ u.2.2.2.2.1.toInt ∧ u.2.2.2.2.1.toInt ≤ 1200)) (fun (u : Int32 × Int32 × Int32 × Int32 × Int32 × Int32) t => ct_Q D (va_A (w_c_X5_beginOneOf cI cJ cB cZ cO qr vr_numberPlace vr_fault vr_faultPlace qt qt_bytes ft_bytes vt_length vt_kind vt_from vt_upto vt_value) sz) [(qr, .inr (5, [.ref qt, .int vr_numberPlace, .int u.1, .int u.2.1])), (qt, .inr (8, [.ref qt_bytes, .int vt_length, .int u.2.2.1, .int u.2.2.2.1, .int u.2.2.2.2.1, .int u.2.2.2.2.2])), (qt_bytes, .inl (cB, 1200, .inl (ft_bytes)))] t) (va_A (w_c_X5_beginOneOf cI cJ cB cZ cO qr vr_numberPlace vr_fault vr_faultPlace qt qt_bytes ft_bytes vt_length vt_kind vt_from vt_upto vt_value) sz)) 0 0 (va_A (w_c_X5_beginOneOf cI cJ cB cZ cO qr vr_numberPlace vr_fault vr_faultPlace qt qt_bytes ft_bytes vt_length vt_kind vt_from vt_upto vt_value) sz) := by
  refine Met.ofW (cc := cX5_beginOneOf) (maxL := 3) (ret := none) (by decide) rfl ?_
  intro p e s m args below meth c s₁ B hml hv
  obtain ⟨rfl, hsz, hP, hE, hD0, hH⟩ := hv
  have hx := B.exec
  have hb := B.bytes
  have hr := B.returns
  have hts := atoms_spec (ws := wsX5_beginOneOf) B.pre
  have hown : s.vm.findClass RX5 = some m.cls := findClass_of_methodNamed B.named
  have hlocks := B.notSynchronized
  have hK := hE.1
  have hi5 : ∀ w ∈ u_ws RX5 TX5 4, w ∈ wsX5_beginOneOf := fun w h => List.mem_cons_of_mem _ (List.mem_append_left _ (List.mem_append_right _ h))
  have hi8 : ∀ w ∈ u_ws RX8 TX8 6, w ∈ wsX5_beginOneOf := fun w h => List.mem_cons_of_mem _ (List.mem_append_right _ h)
  subst hsz
  have hD := hD0.self (sz := s.heap.size)
  generalize hAe : va_A (w_c_X5_beginOneOf cI cJ cB cZ cO qr vr_numberPlace vr_fault vr_faultPlace qt qt_bytes ft_bytes vt_length vt_kind vt_from vt_upto vt_value) s.heap.size = A at hD hH ⊢
  have hA : ∀ q : Nat, s.heap.size ≤ q → A q := fun q h => by rw [← hAe]; exact Or.inr h
  have hS : va_S A s.heap s.heap [] := va_S.rf
  obtain ⟨hP, hD⟩ : ct_B D A s.heap [(qr, .inr (5, [.ref qt, .int vr_numberPlace, .int vr_fault, .int vr_faultPlace])), (qt, .inr (8, [.ref qt_bytes, .int vt_length, .int vt_kind, .int vt_from, .int vt_upto, .int vt_value])), (qt_bytes, .inl (cB, 1200, .inl (ft_bytes)))] := ⟨hP, hD⟩
  have hl := lv_entry ([.ref qr, .int a1, .int a2]) (n := 3) (Nat.le_of_ble_eq_true rfl)
  rw [lg_entry_eq]
  generalize (lg_sl ([.ref qr, .int a1, .int a2]) ++ List.replicate (3 - (lg_sl ([.ref qr, .int a1, .int a2])).length) Slot.unset).toArray = ls at hl ⊢
  have hl : lv_has ls 3 [(0, .ref qr), (1, .int a1), (2, .int a2)] := hl
  obtain ⟨H, hHe⟩ : ∃ H : Heap, H = s.heap := ⟨_, rfl⟩
  rw [← hHe] at hP
  have hS : va_S A s.heap H [] := by rw [hHe]; exact va_S.rf
  refine ct_start hHe ?_
  refine lv_iload_n hx hb dX5_beginOneOf_0 rfl (lv_at hl 1 rfl) ?_
  refine lv_iload_n hx hb dX5_beginOneOf_1 rfl (lv_at hl 2 rfl) ?_
  refine lv_icmp_lt (tgt := 17) hx hb dX5_beginOneOf_2 (by decide) (fun hc => ?_) (fun hc => ?_)
  · have hq1 : a1.toInt < a2.toInt := tq_lt rfl rfl hc
    have hb2 := tq_lo a1
    have hb3 := tq_lo a2
    refine lv_aload_n hx hb dX5_beginOneOf_17 rfl (lv_at hl 0 rfl) ?_
    refine va_get (D := D) (ci := 5) (v := .ref qt) (C := RX5) (T := TX5) (N := 4) hx hb hts hi5 hown hK hP 0 rfl rfl 0 (by decide) (hts (.fieldLink RX5 12 "OverHill$Reader" "tape" "LOverHill$Tape;") (by decide +kernel)) (fun _ h9 => h9) rfl dX5_beginOneOf_18 ?_
    refine ct_callv (D := D) (wr := [(qr, .inr (5, [.ref qt, .int vr_numberPlace, .int vr_fault, .int vr_faultPlace]))]) (va_runV (As := []) (rest := []) ⟨hx, hb, hml, hown, hts⟩ (c_X8_advance l D G cI cJ cB cZ cO qt qt_bytes ft_bytes vt_length vt_kind vt_from vt_upto vt_value h_vt_length h_vt_from h_vt_upto H.size) (cwV 0 hts gX5_beginOneOf_X8_advance rfl rfl rfl (by decide +kernel) ⟨Nat.le_of_ble_eq_true rfl, Nat.le_of_ble_eq_true rfl⟩) (ct_preV (T := ct_T cI cJ cB cZ cO) (ci := 8) (q0 := 1) hE hH hP hD hS hA [1, 2] (by decide) rfl rfl rfl) rfl rfl hl.1 rfl (lv_room (Nat.le_of_ble_eq_true rfl)) dX5_beginOneOf_21 ⟨Nat.le_of_ble_eq_true rfl, Nat.le_of_ble_eq_true rfl⟩) hP hD hS hA [1, 2] [0] rfl rfl (by decide) (by decide) (fun u H locs hw hP hD hS => ?_)
    obtain ⟨y4, y5, y6, y7⟩ := u
    obtain ⟨hP, hD⟩ : ct_B D A H [(qr, .inr (5, [.ref qt, .int vr_numberPlace, .int vr_fault, .int vr_faultPlace])), (qt, .inr (8, [.ref qt_bytes, .int vt_length, .int y4, .int y5, .int y6, .int y7])), (qt_bytes, .inl (cB, 1200, .inl (ft_bytes)))] := ⟨hP, hD⟩
    obtain ⟨hp0, hp1⟩ := hw
    have h_y5 : 0 ≤ y5.toInt ∧ y5.toInt ≤ 1200 := hp0
    have h_y6 : 0 ≤ y6.toInt ∧ y6.toInt ≤ 1200 := hp1
    obtain ⟨hP9, hD9⟩ : ct_B D A H [(qr, .inr (5, [.ref qt, .int vr_numberPlace, .int vr_fault, .int vr_faultPlace])), (qt, .inr (8, [.ref qt_bytes, .int vt_length, .int y4, .int y5, .int y6, .int y7])), (qt_bytes, .inl (cB, 1200, .inl (ft_bytes)))] := ⟨hP.sub [0, 1, 2] rfl, hD.sub [0, 1, 2] (by decide) rfl⟩
    exact W.vret hx hb hr (fun t ht hW => ⟨⟨(vr_fault, vr_faultPlace, y4, y5, y6, y7), rfl, ⟨h_y5, h_y6⟩, by rw [ht]; exact hP9, hD9⟩, hS.F ht⟩) hS.2.2 dX5_beginOneOf_24
  · have hq1 : a2.toInt ≤ a1.toInt := tq_nlt rfl rfl hc
    have hb8 := tq_lo a1
    have hb9 := tq_lo a2
    refine lv_aload_n hx hb dX5_beginOneOf_5 rfl (lv_at hl 0 rfl) ?_
    refine lv_iconst (v := 3) hx hb dX5_beginOneOf_6 (by decide) ?_
    refine lv_aload_n hx hb dX5_beginOneOf_7 rfl (lv_at hl 0 rfl) ?_
    refine va_get (D := D) (ci := 5) (v := .ref qt) (C := RX5) (T := TX5) (N := 4) hx hb hts hi5 hown hK hP 0 rfl rfl 0 (by decide) (hts (.fieldLink RX5 12 "OverHill$Reader" "tape" "LOverHill$Tape;") (by decide +kernel)) (fun _ h9 => h9) rfl dX5_beginOneOf_8 ?_
    refine va_get (D := D) (ci := 8) (v := .int vt_from) (C := RX8) (T := TX8) (N := 6) hx hb hts hi8 hown hK hP 1 rfl rfl 3 (by decide) (hts (.fieldLink RX5 52 "OverHill$Tape" "from" "I") (by decide +kernel)) (fun _ h9 => h9) rfl dX5_beginOneOf_11 ?_
    refine ct_callv (D := D) (wr := [(qt, .inr (8, [.ref qt_bytes, .int vt_length, .int vt_kind, .int vt_from, .int vt_upto, .int vt_value])), (qt_bytes, .inl (cB, 1200, .inl (ft_bytes)))]) (va_runV (As := [.int 3, .int vt_from]) (rest := []) ⟨hx, hb, hml, hown, hts⟩ (c_X5_fail l D G cI cJ cB cZ cO qr vr_numberPlace vr_fault vr_faultPlace qt 3 vt_from (by decide) H.size) (cwV 2 hts gX5_beginOneOf_X5_fail rfl rfl rfl (by decide +kernel) ⟨Nat.le_of_ble_eq_true rfl, Nat.le_of_ble_eq_true rfl⟩) (ct_preV (T := ct_T cI cJ cB cZ cO) (ci := 5) (q0 := 0) hE hH hP hD hS hA [0] (by decide) rfl rfl rfl) rfl rfl hl.1 rfl (lv_room (Nat.le_of_ble_eq_true rfl)) dX5_beginOneOf_14 ⟨Nat.le_of_ble_eq_true rfl, Nat.le_of_ble_eq_true rfl⟩) hP hD hS hA [0] [1, 2] rfl rfl (by decide) (by decide) (fun u H locs hw hP hD hS => ?_)
    obtain ⟨y10, y11⟩ := u
    obtain ⟨hP, hD⟩ : ct_B D A H [(qt, .inr (8, [.ref qt_bytes, .int vt_length, .int vt_kind, .int vt_from, .int vt_upto, .int vt_value])), (qt_bytes, .inl (cB, 1200, .inl (ft_bytes))), (qr, .inr (5, [.ref qt, .int vr_numberPlace, .int y10, .int y11]))] := ⟨hP, hD⟩
    have hp0 := hw
    have hp_12 : y10.toInt ≠ 0 := hp0
    refine lv_aload_n hx hb dX5_beginOneOf_17 rfl (lv_at hl 0 rfl) ?_
    refine va_get (D := D) (ci := 5) (v := .ref qt) (C := RX5) (T := TX5) (N := 4) hx hb hts hi5 hown hK hP 2 rfl rfl 0 (by decide) (hts (.fieldLink RX5 12 "OverHill$Reader" "tape" "LOverHill$Tape;") (by decide +kernel)) (fun _ h9 => h9) rfl dX5_beginOneOf_18 ?_
    refine ct_callv (D := D) (wr := [(qr, .inr (5, [.ref qt, .int vr_numberPlace, .int y10, .int y11]))]) (va_runV (As := []) (rest := []) ⟨hx, hb, hml, hown, hts⟩ (c_X8_advance l D G cI cJ cB cZ cO qt qt_bytes ft_bytes vt_length vt_kind vt_from vt_upto vt_value h_vt_length h_vt_from h_vt_upto H.size) (cwV 0 hts gX5_beginOneOf_X8_advance rfl rfl rfl (by decide +kernel) ⟨Nat.le_of_ble_eq_true rfl, Nat.le_of_ble_eq_true rfl⟩) (ct_preV (T := ct_T cI cJ cB cZ cO) (ci := 8) (q0 := 0) hE hH hP hD hS hA [0, 1] (by decide) rfl rfl rfl) rfl rfl hl.1 rfl (lv_room (Nat.le_of_ble_eq_true rfl)) dX5_beginOneOf_21 ⟨Nat.le_of_ble_eq_true rfl, Nat.le_of_ble_eq_true rfl⟩) hP hD hS hA [0, 1] [2] rfl rfl (by decide) (by decide) (fun u H locs hw hP hD hS => ?_)
    obtain ⟨y13, y14, y15, y16⟩ := u
    obtain ⟨hP, hD⟩ : ct_B D A H [(qr, .inr (5, [.ref qt, .int vr_numberPlace, .int y10, .int y11])), (qt, .inr (8, [.ref qt_bytes, .int vt_length, .int y13, .int y14, .int y15, .int y16])), (qt_bytes, .inl (cB, 1200, .inl (ft_bytes)))] := ⟨hP, hD⟩
    obtain ⟨hp0, hp1⟩ := hw
    have h_y14 : 0 ≤ y14.toInt ∧ y14.toInt ≤ 1200 := hp0
    have h_y15 : 0 ≤ y15.toInt ∧ y15.toInt ≤ 1200 := hp1
    obtain ⟨hP9, hD9⟩ : ct_B D A H [(qr, .inr (5, [.ref qt, .int vr_numberPlace, .int y10, .int y11])), (qt, .inr (8, [.ref qt_bytes, .int vt_length, .int y13, .int y14, .int y15, .int y16])), (qt_bytes, .inl (cB, 1200, .inl (ft_bytes)))] := ⟨hP.sub [0, 1, 2] rfl, hD.sub [0, 1, 2] (by decide) rfl⟩
    exact W.vret hx hb hr (fun t ht hW => ⟨⟨(y10, y11, y13, y14, y15, y16), rfl, ⟨h_y14, h_y15⟩, by rw [ht]; exact hP9, hD9⟩, hS.F ht⟩) hS.2.2 dX5_beginOneOf_24
abbrev w_c_X5_readDance (cI cJ cB cZ cO : ClassId) (qr : Nat) (vr_numberPlace : Int32) (vr_fault : Int32) (vr_faultPlace : Int32) (qt : Nat) (qt_bytes : Nat) (ft_bytes : Nat → Int32) (vt_length : Int32) (vt_kind : Int32) (vt_from : Int32) (vt_upto : Int32) (vt_value : Int32) (qd : Nat) (vd_gap : Int32) (vd_odds : Int32) (vd_rain : Int32) (vd_lines : Int32) (qd_steps : Nat) (qd_lengths : Nat) (qd_starts : Nat) (qd_met : Nat) (qd_stumbles : Nat) (vd_stumbleCount : Int32) (qd_muds : Nat) (qd_cells : Nat) (vd_cellCount : Int32) (qd_tunes : Nat) (vd_tuneCount : Int32) (qd_changes : Nat) (vd_changeCount : Int32) : va_W := [(qr, .inr (5, [.ref qt, .int vr_numberPlace, .int vr_fault, .int vr_faultPlace])), (qt, .inr (8, [.ref qt_bytes, .int vt_length, .int vt_kind, .int vt_from, .int vt_upto, .int vt_value])), (qt_bytes, .inl (cB, 1200, .inl (ft_bytes))), dn qd vd_gap vd_odds vd_rain vd_lines qd_steps qd_lengths qd_starts qd_met qd_stumbles vd_stumbleCount qd_muds qd_cells vd_cellCount qd_tunes vd_tuneCount qd_changes vd_changeCount]
set_option maxHeartbeats 4000000 in
set_option maxRecDepth 100000 in
/-- X5 readDance -/
theorem c_X5_readDance (l : Launch) (D : va_G) (G : ct_G) (cI cJ cB cZ cO : ClassId) (qr : Nat) (vr_numberPlace : Int32) (vr_fault : Int32) (vr_faultPlace : Int32) (qt : Nat) (qt_bytes : Nat) (ft_bytes : Nat → Int32) (vt_length : Int32) (vt_kind : Int32) (vt_from : Int32) (vt_upto : Int32) (vt_value : Int32) (qd : Nat) (vd_gap : Int32) (vd_odds : Int32) (vd_rain : Int32) (vd_lines : Int32) (qd_steps : Nat) (qd_lengths : Nat) (qd_starts : Nat) (qd_met : Nat) (qd_stumbles : Nat) (vd_stumbleCount : Int32) (qd_muds : Nat) (qd_cells : Nat) (vd_cellCount : Int32) (qd_tunes : Nat) (vd_tuneCount : Int32) (qd_changes : Nat) (vd_changeCount : Int32) (h_vt_length : 0 ≤ vt_length.toInt ∧ vt_length.toInt ≤ 1200) (h_vt_from : 0 ≤ vt_from.toInt ∧ vt_from.toInt ≤ 1200) (h_vt_upto : 0 ≤ vt_upto.toInt ∧ vt_upto.toInt ≤ 1200) (h_vd_gap : 0 ≤ vd_gap.toInt ∧ vd_gap.toInt ≤ 20) (h_vd_stumbleCount : 0 ≤ vd_stumbleCount.toInt ∧ vd_stumbleCount.toInt ≤ 8) (h_vd_cellCount : 0 ≤ vd_cellCount.toInt ∧ vd_cellCount.toInt ≤ 12) (h_vd_tuneCount : 0 ≤ vd_tuneCount.toInt ∧ vd_tuneCount.toInt ≤ 5) (h_vd_changeCount : 0 ≤ vd_changeCount.toInt ∧ vd_changeCount.toInt ≤ 40) (sz : Nat) : Met l yX5_readDance wsX5_readDance ({ frames := 6, cells := 0, slots := 0, locals := 128 }) (va_Pc [.ref qr, .ref qd] (ct_P D (ct_T cI cJ cB cZ cO) G (w_c_X5_readDance cI cJ cB cZ cO qr vr_numberPlace vr_fault vr_faultPlace qt qt_bytes ft_bytes vt_length vt_kind vt_from vt_upto vt_value qd vd_gap vd_odds vd_rain vd_lines qd_steps qd_lengths qd_starts qd_met qd_stumbles vd_stumbleCount qd_muds qd_cells vd_cellCount qd_tunes vd_tuneCount qd_changes vd_changeCount) sz)) (va_Qv (fun (u : Int32 × Int32 × Int32 × Int32 × Int32 × Int32 × Int32 × Int32 × Int32 × Int32) => (0 ≤ u.2.2.2.2.1.toInt ∧ u.2.2.2.2.1.toInt ≤ 1200) ∧ (0 ≤ u.2.2.2.2.2.1.toInt ∧ u.2.2.2.2.2.1.toInt ≤ 1200) ∧ (0 ≤ u.2.2.2.2.2.2.2.1.toInt ∧ u.2.2.2.2.2.2.2.1.toInt ≤ 20)) (fun (u : Int32 × Int32 × Int32 × Int32 × Int32 × Int32 × Int32 × Int32 × Int32 × Int32) t => ct_Q D (va_A (w_c_X5_readDance cI cJ cB cZ cO qr vr_numberPlace vr_fault vr_faultPlace qt qt_bytes ft_bytes vt_length vt_kind vt_from vt_upto vt_value qd vd_gap vd_odds vd_rain vd_lines qd_steps qd_lengths qd_starts qd_met qd_stumbles vd_stumbleCount qd_muds qd_cells vd_cellCount qd_tunes vd_tuneCount qd_changes vd_changeCount) sz) [(qr, .inr (5, [.ref qt, .int u.1, .int u.2.1, .int u.2.2.1])), (qt, .inr (8, [.ref qt_bytes, .int vt_length, .int u.2.2.2.1, .int u.2.2.2.2.1, .int u.2.2.2.2.2.1, .int u.2.2.2.2.2.2.1])), (qt_bytes, .inl (cB, 1200, .inl (ft_bytes))), dn qd u.2.2.2.2.2.2.2.1 u.2.2.2.2.2.2.2.2.1 u.2.2.2.2.2.2.2.2.2 vd_lines qd_steps qd_lengths qd_starts qd_met qd_stumbles vd_stumbleCount qd_muds qd_cells vd_cellCount qd_tunes vd_tuneCount qd_changes vd_changeCount] t) (va_A (w_c_X5_readDance cI cJ cB cZ cO qr vr_numberPlace vr_fault vr_faultPlace qt qt_bytes ft_bytes vt_length vt_kind vt_from vt_upto vt_value qd vd_gap vd_odds vd_rain vd_lines qd_steps qd_lengths qd_starts qd_met qd_stumbles vd_stumbleCount qd_muds qd_cells vd_cellCount qd_tunes vd_tuneCount qd_changes vd_changeCount) sz)) 0 0 (va_A (w_c_X5_readDance cI cJ cB cZ cO qr vr_numberPlace vr_fault vr_faultPlace qt qt_bytes ft_bytes vt_length vt_kind vt_from vt_upto vt_value qd vd_gap vd_odds vd_rain vd_lines qd_steps qd_lengths qd_starts qd_met qd_stumbles vd_stumbleCount qd_muds qd_cells vd_cellCount qd_tunes vd_tuneCount qd_changes vd_changeCount) sz) := by
  refine Met.ofW (cc := cX5_readDance) (maxL := 2) (ret := none) (by decide) rfl ?_
  intro p e s m args below meth c s₁ B hml hv
  obtain ⟨rfl, hsz, hP, hE, hD0, hH⟩ := hv
  have hx := B.exec
  have hb := B.bytes
  have hr := B.returns
  have hts := atoms_spec (ws := wsX5_readDance) B.pre
  have hown : s.vm.findClass RX5 = some m.cls := findClass_of_methodNamed B.named
  have hlocks := B.notSynchronized
  have hK := hE.1
  have hi0 : ∀ w ∈ u_ws RX0 TX0 17, w ∈ wsX5_readDance := fun w h => List.mem_cons_of_mem _ (List.mem_append_left _ (List.mem_append_right _ h))
  have hi5 : ∀ w ∈ u_ws RX5 TX5 4, w ∈ wsX5_readDance := fun w h => List.mem_cons_of_mem _ (List.mem_append_left _ (List.mem_append_left _ (List.mem_append_right _ h)))
  subst hsz
  have hD := hD0.self (sz := s.heap.size)
  generalize hAe : va_A (w_c_X5_readDance cI cJ cB cZ cO qr vr_numberPlace vr_fault vr_faultPlace qt qt_bytes ft_bytes vt_length vt_kind vt_from vt_upto vt_value qd vd_gap vd_odds vd_rain vd_lines qd_steps qd_lengths qd_starts qd_met qd_stumbles vd_stumbleCount qd_muds qd_cells vd_cellCount qd_tunes vd_tuneCount qd_changes vd_changeCount) s.heap.size = A at hD hH ⊢
  have hA : ∀ q : Nat, s.heap.size ≤ q → A q := fun q h => by rw [← hAe]; exact Or.inr h
  have hS : va_S A s.heap s.heap [] := va_S.rf
  obtain ⟨hP, hD⟩ : ct_B D A s.heap [(qr, .inr (5, [.ref qt, .int vr_numberPlace, .int vr_fault, .int vr_faultPlace])), (qt, .inr (8, [.ref qt_bytes, .int vt_length, .int vt_kind, .int vt_from, .int vt_upto, .int vt_value])), (qt_bytes, .inl (cB, 1200, .inl (ft_bytes))), dn qd vd_gap vd_odds vd_rain vd_lines qd_steps qd_lengths qd_starts qd_met qd_stumbles vd_stumbleCount qd_muds qd_cells vd_cellCount qd_tunes vd_tuneCount qd_changes vd_changeCount] := ⟨hP, hD⟩
  have hl := lv_entry ([.ref qr, .ref qd]) (n := 2) (Nat.le_of_ble_eq_true rfl)
  rw [lg_entry_eq]
  generalize (lg_sl ([.ref qr, .ref qd]) ++ List.replicate (2 - (lg_sl ([.ref qr, .ref qd])).length) Slot.unset).toArray = ls at hl ⊢
  have hl : lv_has ls 2 [(0, .ref qr), (1, .ref qd)] := hl
  obtain ⟨H, hHe⟩ : ∃ H : Heap, H = s.heap := ⟨_, rfl⟩
  rw [← hHe] at hP
  have hS : va_S A s.heap H [] := by rw [hHe]; exact va_S.rf
  refine ct_start hHe ?_
  refine lv_aload_n hx hb dX5_readDance_0 rfl (lv_at hl 0 rfl) ?_
  refine va_get (D := D) (ci := 5) (v := .ref qt) (C := RX5) (T := TX5) (N := 4) hx hb hts hi5 hown hK hP 0 rfl rfl 0 (by decide) (hts (.fieldLink RX5 12 "OverHill$Reader" "tape" "LOverHill$Tape;") (by decide +kernel)) (fun _ h9 => h9) rfl dX5_readDance_1 ?_
  refine ct_callv (D := D) (wr := [(qr, .inr (5, [.ref qt, .int vr_numberPlace, .int vr_fault, .int vr_faultPlace])), dn qd vd_gap vd_odds vd_rain vd_lines qd_steps qd_lengths qd_starts qd_met qd_stumbles vd_stumbleCount qd_muds qd_cells vd_cellCount qd_tunes vd_tuneCount qd_changes vd_changeCount]) (va_runV (As := []) (rest := []) ⟨hx, hb, hml, hown, hts⟩ (c_X8_advance l D G cI cJ cB cZ cO qt qt_bytes ft_bytes vt_length vt_kind vt_from vt_upto vt_value h_vt_length h_vt_from h_vt_upto H.size) (cwV 0 hts gX5_readDance_X8_advance rfl rfl rfl (by decide +kernel) ⟨Nat.le_of_ble_eq_true rfl, Nat.le_of_ble_eq_true rfl⟩) (ct_preV (T := ct_T cI cJ cB cZ cO) (ci := 8) (q0 := 1) hE hH hP hD hS hA [1, 2] (by decide) rfl rfl rfl) rfl rfl hl.1 rfl (lv_room (Nat.le_of_ble_eq_true rfl)) dX5_readDance_4 ⟨Nat.le_of_ble_eq_true rfl, Nat.le_of_ble_eq_true rfl⟩) hP hD hS hA [1, 2] [0, 3] rfl rfl (by decide) (by decide) (fun u H locs hw hP hD hS => ?_)
  obtain ⟨y1, y2, y3, y4⟩ := u
  obtain ⟨hP, hD⟩ : ct_B D A H [(qr, .inr (5, [.ref qt, .int vr_numberPlace, .int vr_fault, .int vr_faultPlace])), dn qd vd_gap vd_odds vd_rain vd_lines qd_steps qd_lengths qd_starts qd_met qd_stumbles vd_stumbleCount qd_muds qd_cells vd_cellCount qd_tunes vd_tuneCount qd_changes vd_changeCount, (qt, .inr (8, [.ref qt_bytes, .int vt_length, .int y1, .int y2, .int y3, .int y4])), (qt_bytes, .inl (cB, 1200, .inl (ft_bytes)))] := ⟨hP, hD⟩
  obtain ⟨hp0, hp1⟩ := hw
  have h_y2 : 0 ≤ y2.toInt ∧ y2.toInt ≤ 1200 := hp0
  have h_y3 : 0 ≤ y3.toInt ∧ y3.toInt ≤ 1200 := hp1
  refine lv_aload_n hx hb dX5_readDance_7 rfl (lv_at hl 0 rfl) ?_
  refine va_ldcS hx hb hown (hE.2.2.2 1 (by decide)) dX5_readDance_8 ?_
  refine ct_callv (D := D) (wr := [dn qd vd_gap vd_odds vd_rain vd_lines qd_steps qd_lengths qd_starts qd_met qd_stumbles vd_stumbleCount qd_muds qd_cells vd_cellCount qd_tunes vd_tuneCount qd_changes vd_changeCount]) (va_runV (As := [.ref (G.1 1)]) (rest := []) ⟨hx, hb, hml, hown, hts⟩ (c_X5_takeWord l D G cI cJ cB cZ cO qr vr_numberPlace vr_fault vr_faultPlace qt qt_bytes ft_bytes vt_length y1 y2 y3 y4 1 h_vt_length h_y2 h_y3 (by decide) H.size) (cwV 1 hts gX5_readDance_X5_takeWord rfl rfl rfl (by decide +kernel) ⟨Nat.le_of_ble_eq_true rfl, Nat.le_of_ble_eq_true rfl⟩) (ct_preV (T := ct_T cI cJ cB cZ cO) (ci := 5) (q0 := 0) hE hH hP hD hS hA [0, 2, 3] (by decide) rfl rfl rfl) rfl rfl hl.1 rfl (lv_room (Nat.le_of_ble_eq_true rfl)) dX5_readDance_10 ⟨Nat.le_of_ble_eq_true rfl, Nat.le_of_ble_eq_true rfl⟩) hP hD hS hA [0, 2, 3] [1] rfl rfl (by decide) (by decide) (fun u H locs hw hP hD hS => ?_)
  obtain ⟨y5, y6, y7, y8, y9, y10⟩ := u
  obtain ⟨hP, hD⟩ : ct_B D A H [dn qd vd_gap vd_odds vd_rain vd_lines qd_steps qd_lengths qd_starts qd_met qd_stumbles vd_stumbleCount qd_muds qd_cells vd_cellCount qd_tunes vd_tuneCount qd_changes vd_changeCount, (qr, .inr (5, [.ref qt, .int vr_numberPlace, .int y5, .int y6])), (qt, .inr (8, [.ref qt_bytes, .int vt_length, .int y7, .int y8, .int y9, .int y10])), (qt_bytes, .inl (cB, 1200, .inl (ft_bytes)))] := ⟨hP, hD⟩
  obtain ⟨hp0, hp1⟩ := hw
  have h_y8 : 0 ≤ y8.toInt ∧ y8.toInt ≤ 1200 := hp0
  have h_y9 : 0 ≤ y9.toInt ∧ y9.toInt ≤ 1200 := hp1
  refine lv_aload_n hx hb dX5_readDance_13 rfl (lv_at hl 1 rfl) ?_
  refine lv_aload_n hx hb dX5_readDance_14 rfl (lv_at hl 0 rfl) ?_
  refine lv_iconst (v := 0) hx hb dX5_readDance_15 (by decide) ?_
  refine lv_bipush (v := 20) hx hb dX5_readDance_16 (by decide) ?_
  refine ct_calli (D := D) (wr := [dn qd vd_gap vd_odds vd_rain vd_lines qd_steps qd_lengths qd_starts qd_met qd_stumbles vd_stumbleCount qd_muds qd_cells vd_cellCount qd_tunes vd_tuneCount qd_changes vd_changeCount]) (va_runV (As := [.int 0, .int 20]) (rest := [.ref qd]) ⟨hx, hb, hml, hown, hts⟩ (c_X5_takeNumber l D G cI cJ cB cZ cO qr vr_numberPlace y5 y6 qt qt_bytes ft_bytes vt_length y7 y8 y9 y10 0 20 h_vt_length h_y8 h_y9 H.size) (cwV 2 hts gX5_readDance_X5_takeNumber rfl rfl rfl (by decide +kernel) ⟨Nat.le_of_ble_eq_true rfl, Nat.le_of_ble_eq_true rfl⟩) (ct_preV (T := ct_T cI cJ cB cZ cO) (ci := 5) (q0 := 1) hE hH hP hD hS hA [1, 2, 3] (by decide) rfl rfl rfl) rfl rfl hl.1 rfl (lv_room (Nat.le_of_ble_eq_true rfl)) dX5_readDance_18 ⟨Nat.le_of_ble_eq_true rfl, Nat.le_of_ble_eq_true rfl⟩) hP hD hS hA [1, 2, 3] [0] rfl rfl (by decide) (by decide) (fun r11 u H locs hw hP hD hS => ?_)
  obtain ⟨y12, y13, y14, y15, y16, y17, y18⟩ := u
  obtain ⟨hP, hD⟩ : ct_B D A H [dn qd vd_gap vd_odds vd_rain vd_lines qd_steps qd_lengths qd_starts qd_met qd_stumbles vd_stumbleCount qd_muds qd_cells vd_cellCount qd_tunes vd_tuneCount qd_changes vd_changeCount, (qr, .inr (5, [.ref qt, .int y12, .int y13, .int y14])), (qt, .inr (8, [.ref qt_bytes, .int vt_length, .int y15, .int y16, .int y17, .int y18])), (qt_bytes, .inl (cB, 1200, .inl (ft_bytes)))] := ⟨hP, hD⟩
  have hk19 : (0 : Int32).toInt = 0 := by decide
  have hk20 : (20 : Int32).toInt = 20 := by decide
  obtain ⟨hz, hp0, hp1⟩ := hw
  have h_y16 : 0 ≤ y16.toInt ∧ y16.toInt ≤ 1200 := hp0
  have h_y17 : 0 ≤ y17.toInt ∧ y17.toInt ≤ 1200 := hp1
  have h_r11 : r11.toInt = (0 : Int32).toInt ∨ ((0 : Int32).toInt ≤ r11.toInt ∧ r11.toInt ≤ (20 : Int32).toInt) := hz
  refine va_put (D := D) (ci := 0) (v := .int r11) (ty := .int) (C := RX0) (T := TX0) (N := 17) hx hb hts hi0 tyX0 tyX0_ok nmX0 hown hK hP hD hS 0 rfl rfl 0 (by decide) (hts (.fieldLink RX5 105 "OverHill$Dance" "gap" "I") (by decide +kernel)) (fun _ h9 => h9) rfl (by decide +kernel) rfl rfl (Nat.le_of_ble_eq_true rfl) dX5_readDance_21 (fun H locs hP hD hS => ?_)
  obtain ⟨hP, hD⟩ : ct_B D A H [dn qd r11 vd_odds vd_rain vd_lines qd_steps qd_lengths qd_starts qd_met qd_stumbles vd_stumbleCount qd_muds qd_cells vd_cellCount qd_tunes vd_tuneCount qd_changes vd_changeCount, (qr, .inr (5, [.ref qt, .int y12, .int y13, .int y14])), (qt, .inr (8, [.ref qt_bytes, .int vt_length, .int y15, .int y16, .int y17, .int y18])), (qt_bytes, .inl (cB, 1200, .inl (ft_bytes)))] := ⟨hP, hD⟩
  refine lv_aload_n hx hb dX5_readDance_24 rfl (lv_at hl 0 rfl) ?_
  refine va_ldcS hx hb hown (hE.2.2.2 2 (by decide)) dX5_readDance_25 ?_
  refine ct_callv (D := D) (wr := [dn qd r11 vd_odds vd_rain vd_lines qd_steps qd_lengths qd_starts qd_met qd_stumbles vd_stumbleCount qd_muds qd_cells vd_cellCount qd_tunes vd_tuneCount qd_changes vd_changeCount]) (va_runV (As := [.ref (G.1 2)]) (rest := []) ⟨hx, hb, hml, hown, hts⟩ (c_X5_takeWord l D G cI cJ cB cZ cO qr y12 y13 y14 qt qt_bytes ft_bytes vt_length y15 y16 y17 y18 2 h_vt_length h_y16 h_y17 (by decide) H.size) (cwV 1 hts gX5_readDance_X5_takeWord rfl rfl rfl (by decide +kernel) ⟨Nat.le_of_ble_eq_true rfl, Nat.le_of_ble_eq_true rfl⟩) (ct_preV (T := ct_T cI cJ cB cZ cO) (ci := 5) (q0 := 1) hE hH hP hD hS hA [1, 2, 3] (by decide) rfl rfl rfl) rfl rfl hl.1 rfl (lv_room (Nat.le_of_ble_eq_true rfl)) dX5_readDance_27 ⟨Nat.le_of_ble_eq_true rfl, Nat.le_of_ble_eq_true rfl⟩) hP hD hS hA [1, 2, 3] [0] rfl rfl (by decide) (by decide) (fun u H locs hw hP hD hS => ?_)
  obtain ⟨y21, y22, y23, y24, y25, y26⟩ := u
  obtain ⟨hP, hD⟩ : ct_B D A H [dn qd r11 vd_odds vd_rain vd_lines qd_steps qd_lengths qd_starts qd_met qd_stumbles vd_stumbleCount qd_muds qd_cells vd_cellCount qd_tunes vd_tuneCount qd_changes vd_changeCount, (qr, .inr (5, [.ref qt, .int y12, .int y21, .int y22])), (qt, .inr (8, [.ref qt_bytes, .int vt_length, .int y23, .int y24, .int y25, .int y26])), (qt_bytes, .inl (cB, 1200, .inl (ft_bytes)))] := ⟨hP, hD⟩
  obtain ⟨hp0, hp1⟩ := hw
  have h_y24 : 0 ≤ y24.toInt ∧ y24.toInt ≤ 1200 := hp0
  have h_y25 : 0 ≤ y25.toInt ∧ y25.toInt ≤ 1200 := hp1
  refine lv_aload_n hx hb dX5_readDance_30 rfl (lv_at hl 1 rfl) ?_
  refine lv_aload_n hx hb dX5_readDance_31 rfl (lv_at hl 0 rfl) ?_
  refine lv_iconst (v := 0) hx hb dX5_readDance_32 (by decide) ?_
  refine lv_bipush (v := 100) hx hb dX5_readDance_33 (by decide) ?_
  refine ct_calli (D := D) (wr := [dn qd r11 vd_odds vd_rain vd_lines qd_steps qd_lengths qd_starts qd_met qd_stumbles vd_stumbleCount qd_muds qd_cells vd_cellCount qd_tunes vd_tuneCount qd_changes vd_changeCount]) (va_runV (As := [.int 0, .int 100]) (rest := [.ref qd]) ⟨hx, hb, hml, hown, hts⟩ (c_X5_takeNumber l D G cI cJ cB cZ cO qr y12 y21 y22 qt qt_bytes ft_bytes vt_length y23 y24 y25 y26 0 100 h_vt_length h_y24 h_y25 H.size) (cwV 2 hts gX5_readDance_X5_takeNumber rfl rfl rfl (by decide +kernel) ⟨Nat.le_of_ble_eq_true rfl, Nat.le_of_ble_eq_true rfl⟩) (ct_preV (T := ct_T cI cJ cB cZ cO) (ci := 5) (q0 := 1) hE hH hP hD hS hA [1, 2, 3] (by decide) rfl rfl rfl) rfl rfl hl.1 rfl (lv_room (Nat.le_of_ble_eq_true rfl)) dX5_readDance_35 ⟨Nat.le_of_ble_eq_true rfl, Nat.le_of_ble_eq_true rfl⟩) hP hD hS hA [1, 2, 3] [0] rfl rfl (by decide) (by decide) (fun r27 u H locs hw hP hD hS => ?_)
  obtain ⟨y28, y29, y30, y31, y32, y33, y34⟩ := u
  obtain ⟨hP, hD⟩ : ct_B D A H [dn qd r11 vd_odds vd_rain vd_lines qd_steps qd_lengths qd_starts qd_met qd_stumbles vd_stumbleCount qd_muds qd_cells vd_cellCount qd_tunes vd_tuneCount qd_changes vd_changeCount, (qr, .inr (5, [.ref qt, .int y28, .int y29, .int y30])), (qt, .inr (8, [.ref qt_bytes, .int vt_length, .int y31, .int y32, .int y33, .int y34])), (qt_bytes, .inl (cB, 1200, .inl (ft_bytes)))] := ⟨hP, hD⟩
  have hk35 : (0 : Int32).toInt = 0 := by decide
  have hk36 : (100 : Int32).toInt = 100 := by decide
  obtain ⟨hz, hp0, hp1⟩ := hw
  have h_y32 : 0 ≤ y32.toInt ∧ y32.toInt ≤ 1200 := hp0
  have h_y33 : 0 ≤ y33.toInt ∧ y33.toInt ≤ 1200 := hp1
  have h_r27 : r27.toInt = (0 : Int32).toInt ∨ ((0 : Int32).toInt ≤ r27.toInt ∧ r27.toInt ≤ (100 : Int32).toInt) := hz
  refine va_put (D := D) (ci := 0) (v := .int r27) (ty := .int) (C := RX0) (T := TX0) (N := 17) hx hb hts hi0 tyX0 tyX0_ok nmX0 hown hK hP hD hS 0 rfl rfl 1 (by decide) (hts (.fieldLink RX5 109 "OverHill$Dance" "odds" "I") (by decide +kernel)) (fun _ h9 => h9) rfl (by decide +kernel) rfl rfl (Nat.le_of_ble_eq_true rfl) dX5_readDance_38 (fun H locs hP hD hS => ?_)
  obtain ⟨hP, hD⟩ : ct_B D A H [dn qd r11 r27 vd_rain vd_lines qd_steps qd_lengths qd_starts qd_met qd_stumbles vd_stumbleCount qd_muds qd_cells vd_cellCount qd_tunes vd_tuneCount qd_changes vd_changeCount, (qr, .inr (5, [.ref qt, .int y28, .int y29, .int y30])), (qt, .inr (8, [.ref qt_bytes, .int vt_length, .int y31, .int y32, .int y33, .int y34])), (qt_bytes, .inl (cB, 1200, .inl (ft_bytes)))] := ⟨hP, hD⟩
  refine lv_aload_n hx hb dX5_readDance_41 rfl (lv_at hl 0 rfl) ?_
  refine va_ldcS hx hb hown (hE.2.2.2 3 (by decide)) dX5_readDance_42 ?_
  refine ct_callv (D := D) (wr := [dn qd r11 r27 vd_rain vd_lines qd_steps qd_lengths qd_starts qd_met qd_stumbles vd_stumbleCount qd_muds qd_cells vd_cellCount qd_tunes vd_tuneCount qd_changes vd_changeCount]) (va_runV (As := [.ref (G.1 3)]) (rest := []) ⟨hx, hb, hml, hown, hts⟩ (c_X5_takeWord l D G cI cJ cB cZ cO qr y28 y29 y30 qt qt_bytes ft_bytes vt_length y31 y32 y33 y34 3 h_vt_length h_y32 h_y33 (by decide) H.size) (cwV 1 hts gX5_readDance_X5_takeWord rfl rfl rfl (by decide +kernel) ⟨Nat.le_of_ble_eq_true rfl, Nat.le_of_ble_eq_true rfl⟩) (ct_preV (T := ct_T cI cJ cB cZ cO) (ci := 5) (q0 := 1) hE hH hP hD hS hA [1, 2, 3] (by decide) rfl rfl rfl) rfl rfl hl.1 rfl (lv_room (Nat.le_of_ble_eq_true rfl)) dX5_readDance_44 ⟨Nat.le_of_ble_eq_true rfl, Nat.le_of_ble_eq_true rfl⟩) hP hD hS hA [1, 2, 3] [0] rfl rfl (by decide) (by decide) (fun u H locs hw hP hD hS => ?_)
  obtain ⟨y37, y38, y39, y40, y41, y42⟩ := u
  obtain ⟨hP, hD⟩ : ct_B D A H [dn qd r11 r27 vd_rain vd_lines qd_steps qd_lengths qd_starts qd_met qd_stumbles vd_stumbleCount qd_muds qd_cells vd_cellCount qd_tunes vd_tuneCount qd_changes vd_changeCount, (qr, .inr (5, [.ref qt, .int y28, .int y37, .int y38])), (qt, .inr (8, [.ref qt_bytes, .int vt_length, .int y39, .int y40, .int y41, .int y42])), (qt_bytes, .inl (cB, 1200, .inl (ft_bytes)))] := ⟨hP, hD⟩
  obtain ⟨hp0, hp1⟩ := hw
  have h_y40 : 0 ≤ y40.toInt ∧ y40.toInt ≤ 1200 := hp0
  have h_y41 : 0 ≤ y41.toInt ∧ y41.toInt ≤ 1200 := hp1
  refine lv_aload_n hx hb dX5_readDance_47 rfl (lv_at hl 1 rfl) ?_
  refine lv_aload_n hx hb dX5_readDance_48 rfl (lv_at hl 0 rfl) ?_
  refine lv_iconst (v := 0) hx hb dX5_readDance_49 (by decide) ?_
  refine lv_bipush (v := 100) hx hb dX5_readDance_50 (by decide) ?_
  refine ct_calli (D := D) (wr := [dn qd r11 r27 vd_rain vd_lines qd_steps qd_lengths qd_starts qd_met qd_stumbles vd_stumbleCount qd_muds qd_cells vd_cellCount qd_tunes vd_tuneCount qd_changes vd_changeCount]) (va_runV (As := [.int 0, .int 100]) (rest := [.ref qd]) ⟨hx, hb, hml, hown, hts⟩ (c_X5_takeNumber l D G cI cJ cB cZ cO qr y28 y37 y38 qt qt_bytes ft_bytes vt_length y39 y40 y41 y42 0 100 h_vt_length h_y40 h_y41 H.size) (cwV 2 hts gX5_readDance_X5_takeNumber rfl rfl rfl (by decide +kernel) ⟨Nat.le_of_ble_eq_true rfl, Nat.le_of_ble_eq_true rfl⟩) (ct_preV (T := ct_T cI cJ cB cZ cO) (ci := 5) (q0 := 1) hE hH hP hD hS hA [1, 2, 3] (by decide) rfl rfl rfl) rfl rfl hl.1 rfl (lv_room (Nat.le_of_ble_eq_true rfl)) dX5_readDance_52 ⟨Nat.le_of_ble_eq_true rfl, Nat.le_of_ble_eq_true rfl⟩) hP hD hS hA [1, 2, 3] [0] rfl rfl (by decide) (by decide) (fun r43 u H locs hw hP hD hS => ?_)
  obtain ⟨y44, y45, y46, y47, y48, y49, y50⟩ := u
  obtain ⟨hP, hD⟩ : ct_B D A H [dn qd r11 r27 vd_rain vd_lines qd_steps qd_lengths qd_starts qd_met qd_stumbles vd_stumbleCount qd_muds qd_cells vd_cellCount qd_tunes vd_tuneCount qd_changes vd_changeCount, (qr, .inr (5, [.ref qt, .int y44, .int y45, .int y46])), (qt, .inr (8, [.ref qt_bytes, .int vt_length, .int y47, .int y48, .int y49, .int y50])), (qt_bytes, .inl (cB, 1200, .inl (ft_bytes)))] := ⟨hP, hD⟩
  have hk51 : (0 : Int32).toInt = 0 := by decide
  have hk52 : (100 : Int32).toInt = 100 := by decide
  obtain ⟨hz, hp0, hp1⟩ := hw
  have h_y48 : 0 ≤ y48.toInt ∧ y48.toInt ≤ 1200 := hp0
  have h_y49 : 0 ≤ y49.toInt ∧ y49.toInt ≤ 1200 := hp1
  have h_r43 : r43.toInt = (0 : Int32).toInt ∨ ((0 : Int32).toInt ≤ r43.toInt ∧ r43.toInt ≤ (100 : Int32).toInt) := hz
  refine va_put (D := D) (ci := 0) (v := .int r43) (ty := .int) (C := RX0) (T := TX0) (N := 17) hx hb hts hi0 tyX0 tyX0_ok nmX0 hown hK hP hD hS 0 rfl rfl 2 (by decide) (hts (.fieldLink RX5 113 "OverHill$Dance" "rain" "I") (by decide +kernel)) (fun _ h9 => h9) rfl (by decide +kernel) rfl rfl (Nat.le_of_ble_eq_true rfl) dX5_readDance_55 (fun H locs hP hD hS => ?_)
  obtain ⟨hP, hD⟩ : ct_B D A H [dn qd r11 r27 r43 vd_lines qd_steps qd_lengths qd_starts qd_met qd_stumbles vd_stumbleCount qd_muds qd_cells vd_cellCount qd_tunes vd_tuneCount qd_changes vd_changeCount, (qr, .inr (5, [.ref qt, .int y44, .int y45, .int y46])), (qt, .inr (8, [.ref qt_bytes, .int vt_length, .int y47, .int y48, .int y49, .int y50])), (qt_bytes, .inl (cB, 1200, .inl (ft_bytes)))] := ⟨hP, hD⟩
  obtain ⟨hP9, hD9⟩ : ct_B D A H [(qr, .inr (5, [.ref qt, .int y44, .int y45, .int y46])), (qt, .inr (8, [.ref qt_bytes, .int vt_length, .int y47, .int y48, .int y49, .int y50])), (qt_bytes, .inl (cB, 1200, .inl (ft_bytes))), dn qd r11 r27 r43 vd_lines qd_steps qd_lengths qd_starts qd_met qd_stumbles vd_stumbleCount qd_muds qd_cells vd_cellCount qd_tunes vd_tuneCount qd_changes vd_changeCount] := ⟨hP.sub [1, 2, 3, 0] rfl, hD.sub [1, 2, 3, 0] (by decide) rfl⟩
  exact W.vret hx hb hr (fun t ht hW => ⟨⟨(y44, y45, y46, y47, y48, y49, y50, r11, r27, r43), rfl, ⟨h_y48, h_y49, (show 0 ≤ r11.toInt ∧ r11.toInt ≤ 20 by omega)⟩, by rw [ht]; exact hP9, hD9⟩, hS.F ht⟩) hS.2.2 dX5_readDance_58
abbrev w_c_X5_readRound (cI cJ cB cZ cO : ClassId) (qr : Nat) (vr_numberPlace : Int32) (vr_fault : Int32) (vr_faultPlace : Int32) (qt : Nat) (qt_bytes : Nat) (ft_bytes : Nat → Int32) (vt_length : Int32) (vt_kind : Int32) (vt_from : Int32) (vt_upto : Int32) (vt_value : Int32) (qd : Nat) (vd_gap : Int32) (vd_odds : Int32) (vd_rain : Int32) (vd_lines : Int32) (qd_steps : Nat) (fd_steps : Nat → Int32) (qd_lengths : Nat) (fd_lengths : Nat → Int32) (qd_starts : Nat) (fd_starts : Nat → Int32) (qd_met : Nat) (qd_stumbles : Nat) (vd_stumbleCount : Int32) (qd_muds : Nat) (qd_cells : Nat) (vd_cellCount : Int32) (qd_tunes : Nat) (vd_tuneCount : Int32) (qd_changes : Nat) (vd_changeCount : Int32) : va_W := [(qr, .inr (5, [.ref qt, .int vr_numberPlace, .int vr_fault, .int vr_faultPlace])), (qt, .inr (8, [.ref qt_bytes, .int vt_length, .int vt_kind, .int vt_from, .int vt_upto, .int vt_value])), (qt_bytes, .inl (cB, 1200, .inl (ft_bytes))), dn qd vd_gap vd_odds vd_rain vd_lines qd_steps qd_lengths qd_starts qd_met qd_stumbles vd_stumbleCount qd_muds qd_cells vd_cellCount qd_tunes vd_tuneCount qd_changes vd_changeCount, (qd_steps, .inl (cI, 24, .inl (fd_steps))), (qd_lengths, .inl (cI, 2, .inl (fd_lengths))), (qd_starts, .inl (cI, 2, .inl (fd_starts)))]
set_option maxHeartbeats 4000000 in
set_option maxRecDepth 100000 in
/-- X5 readRound -/
theorem c_X5_readRound (l : Launch) (D : va_G) (G : ct_G) (cI cJ cB cZ cO : ClassId) (qr : Nat) (vr_numberPlace : Int32) (vr_fault : Int32) (vr_faultPlace : Int32) (qt : Nat) (qt_bytes : Nat) (ft_bytes : Nat → Int32) (vt_length : Int32) (vt_kind : Int32) (vt_from : Int32) (vt_upto : Int32) (vt_value : Int32) (qd : Nat) (vd_gap : Int32) (vd_odds : Int32) (vd_rain : Int32) (vd_lines : Int32) (qd_steps : Nat) (fd_steps : Nat → Int32) (qd_lengths : Nat) (fd_lengths : Nat → Int32) (qd_starts : Nat) (fd_starts : Nat → Int32) (qd_met : Nat) (qd_stumbles : Nat) (vd_stumbleCount : Int32) (qd_muds : Nat) (qd_cells : Nat) (vd_cellCount : Int32) (qd_tunes : Nat) (vd_tuneCount : Int32) (qd_changes : Nat) (vd_changeCount : Int32) (h_vt_length : 0 ≤ vt_length.toInt ∧ vt_length.toInt ≤ 1200) (h_vt_from : 0 ≤ vt_from.toInt ∧ vt_from.toInt ≤ 1200) (h_vt_upto : 0 ≤ vt_upto.toInt ∧ vt_upto.toInt ≤ 1200) (h_vd_gap : 0 ≤ vd_gap.toInt ∧ vd_gap.toInt ≤ 20) (h_fd_steps : ar_ok [0] [5] fd_steps) (h_fd_lengths : ar_ok [0] [12] fd_lengths) (h_fd_starts : ar_ok [0] [11] fd_starts) (h_vd_stumbleCount : 0 ≤ vd_stumbleCount.toInt ∧ vd_stumbleCount.toInt ≤ 8) (h_vd_cellCount : 0 ≤ vd_cellCount.toInt ∧ vd_cellCount.toInt ≤ 12) (h_vd_tuneCount : 0 ≤ vd_tuneCount.toInt ∧ vd_tuneCount.toInt ≤ 5) (h_vd_changeCount : 0 ≤ vd_changeCount.toInt ∧ vd_changeCount.toInt ≤ 40) (sz : Nat) : Met l yX5_readRound wsX5_readRound ({ frames := 6, cells := 0, slots := 0, locals := 128 }) (va_Pc [.ref qr, .ref qd] (ct_P D (ct_T cI cJ cB cZ cO) G (w_c_X5_readRound cI cJ cB cZ cO qr vr_numberPlace vr_fault vr_faultPlace qt qt_bytes ft_bytes vt_length vt_kind vt_from vt_upto vt_value qd vd_gap vd_odds vd_rain vd_lines qd_steps fd_steps qd_lengths fd_lengths qd_starts fd_starts qd_met qd_stumbles vd_stumbleCount qd_muds qd_cells vd_cellCount qd_tunes vd_tuneCount qd_changes vd_changeCount) sz)) (va_Qv (fun (u : Int32 × Int32 × Int32 × Int32 × Int32 × Int32 × Int32 × (Nat → Int32) × (Nat → Int32) × (Nat → Int32)) => (0 ≤ u.2.2.2.2.1.toInt ∧ u.2.2.2.2.1.toInt ≤ 1200) ∧ (0 ≤ u.2.2.2.2.2.1.toInt ∧ u.2.2.2.2.2.1.toInt ≤ 1200) ∧ (ar_ok [0] [5] u.2.2.2.2.2.2.2.1) ∧ (ar_ok [0] [12] u.2.2.2.2.2.2.2.2.1) ∧ (ar_ok [0] [11] u.2.2.2.2.2.2.2.2.2)) (fun (u : Int32 × Int32 × Int32 × Int32 × Int32 × Int32 × Int32 × (Nat → Int32) × (Nat → Int32) × (Nat → Int32)) t => ct_Q D (va_A (w_c_X5_readRound cI cJ cB cZ cO qr vr_numberPlace vr_fault vr_faultPlace qt qt_bytes ft_bytes vt_length vt_kind vt_from vt_upto vt_value qd vd_gap vd_odds vd_rain vd_lines qd_steps fd_steps qd_lengths fd_lengths qd_starts fd_starts qd_met qd_stumbles vd_stumbleCount qd_muds qd_cells vd_cellCount qd_tunes vd_tuneCount qd_changes vd_changeCount) sz) [(qr, .inr (5, [.ref qt, .int u.1, .int u.2.1, .int u.2.2.1])), (qt, .inr (8, [.ref qt_bytes, .int vt_length, .int u.2.2.2.1, .int u.2.2.2.2.1, .int u.2.2.2.2.2.1, .int u.2.2.2.2.2.2.1])), (qt_bytes, .inl (cB, 1200, .inl (ft_bytes))), dn qd vd_gap vd_odds vd_rain vd_lines qd_steps qd_lengths qd_starts qd_met qd_stumbles vd_stumbleCount qd_muds qd_cells vd_cellCount qd_tunes vd_tuneCount qd_changes vd_changeCount, (qd_steps, .inl (cI, 24, .inl (u.2.2.2.2.2.2.2.1))), (qd_lengths, .inl (cI, 2, .inl (u.2.2.2.2.2.2.2.2.1))), (qd_starts, .inl (cI, 2, .inl (u.2.2.2.2.2.2.2.2.2)))] t) (va_A (w_c_X5_readRound cI cJ cB cZ cO qr vr_numberPlace vr_fault vr_faultPlace qt qt_bytes ft_bytes vt_length vt_kind vt_from vt_upto vt_value qd vd_gap vd_odds vd_rain vd_lines qd_steps fd_steps qd_lengths fd_lengths qd_starts fd_starts qd_met qd_stumbles vd_stumbleCount qd_muds qd_cells vd_cellCount qd_tunes vd_tuneCount qd_changes vd_changeCount) sz)) 0 0 (va_A (w_c_X5_readRound cI cJ cB cZ cO qr vr_numberPlace vr_fault vr_faultPlace qt qt_bytes ft_bytes vt_length vt_kind vt_from vt_upto vt_value qd vd_gap vd_odds vd_rain vd_lines qd_steps fd_steps qd_lengths fd_lengths qd_starts fd_starts qd_met qd_stumbles vd_stumbleCount qd_muds qd_cells vd_cellCount qd_tunes vd_tuneCount qd_changes vd_changeCount) sz) := by
  refine Met.ofW (cc := cX5_readRound) (maxL := 6) (ret := none) (by decide) rfl ?_
  intro p e s m args below meth c s₁ B hml hv
  obtain ⟨rfl, hsz, hP, hE, hD0, hH⟩ := hv
  have hx := B.exec
  have hb := B.bytes
  have hr := B.returns
  have hts := atoms_spec (ws := wsX5_readRound) B.pre
  have hown : s.vm.findClass RX5 = some m.cls := findClass_of_methodNamed B.named
  have hlocks := B.notSynchronized
  have hK := hE.1
  have hi0 : ∀ w ∈ u_ws RX0 TX0 17, w ∈ wsX5_readRound := fun w h => List.mem_cons_of_mem _ (List.mem_append_left _ (List.mem_append_right _ h))
  have hi5 : ∀ w ∈ u_ws RX5 TX5 4, w ∈ wsX5_readRound := fun w h => List.mem_cons_of_mem _ (List.mem_append_left _ (List.mem_append_left _ (List.mem_append_right _ h)))
  subst hsz
  have hD := hD0.self (sz := s.heap.size)
  generalize hAe : va_A (w_c_X5_readRound cI cJ cB cZ cO qr vr_numberPlace vr_fault vr_faultPlace qt qt_bytes ft_bytes vt_length vt_kind vt_from vt_upto vt_value qd vd_gap vd_odds vd_rain vd_lines qd_steps fd_steps qd_lengths fd_lengths qd_starts fd_starts qd_met qd_stumbles vd_stumbleCount qd_muds qd_cells vd_cellCount qd_tunes vd_tuneCount qd_changes vd_changeCount) s.heap.size = A at hD hH ⊢
  have hA : ∀ q : Nat, s.heap.size ≤ q → A q := fun q h => by rw [← hAe]; exact Or.inr h
  have hS : va_S A s.heap s.heap [] := va_S.rf
  obtain ⟨hP, hD⟩ : ct_B D A s.heap [(qr, .inr (5, [.ref qt, .int vr_numberPlace, .int vr_fault, .int vr_faultPlace])), (qt, .inr (8, [.ref qt_bytes, .int vt_length, .int vt_kind, .int vt_from, .int vt_upto, .int vt_value])), (qt_bytes, .inl (cB, 1200, .inl (ft_bytes))), dn qd vd_gap vd_odds vd_rain vd_lines qd_steps qd_lengths qd_starts qd_met qd_stumbles vd_stumbleCount qd_muds qd_cells vd_cellCount qd_tunes vd_tuneCount qd_changes vd_changeCount, (qd_steps, .inl (cI, 24, .inl (fd_steps))), (qd_lengths, .inl (cI, 2, .inl (fd_lengths))), (qd_starts, .inl (cI, 2, .inl (fd_starts)))] := ⟨hP, hD⟩
  have hl := lv_entry ([.ref qr, .ref qd]) (n := 6) (Nat.le_of_ble_eq_true rfl)
  rw [lg_entry_eq]
  generalize (lg_sl ([.ref qr, .ref qd]) ++ List.replicate (6 - (lg_sl ([.ref qr, .ref qd])).length) Slot.unset).toArray = ls at hl ⊢
  have hl : lv_has ls 6 [(0, .ref qr), (1, .ref qd)] := hl
  obtain ⟨H, hHe⟩ : ∃ H : Heap, H = s.heap := ⟨_, rfl⟩
  rw [← hHe] at hP
  have hS : va_S A s.heap H [] := by rw [hHe]; exact va_S.rf
  refine ct_start hHe ?_
  refine lv_aload_n hx hb dX5_readRound_0 rfl (lv_at hl 0 rfl) ?_
  refine va_get (D := D) (ci := 5) (v := .ref qt) (C := RX5) (T := TX5) (N := 4) hx hb hts hi5 hown hK hP 0 rfl rfl 0 (by decide) (hts (.fieldLink RX5 12 "OverHill$Reader" "tape" "LOverHill$Tape;") (by decide +kernel)) (fun _ h9 => h9) rfl dX5_readRound_1 ?_
  refine ct_callv (D := D) (wr := [(qr, .inr (5, [.ref qt, .int vr_numberPlace, .int vr_fault, .int vr_faultPlace])), dn qd vd_gap vd_odds vd_rain vd_lines qd_steps qd_lengths qd_starts qd_met qd_stumbles vd_stumbleCount qd_muds qd_cells vd_cellCount qd_tunes vd_tuneCount qd_changes vd_changeCount, (qd_steps, .inl (cI, 24, .inl (fd_steps))), (qd_lengths, .inl (cI, 2, .inl (fd_lengths))), (qd_starts, .inl (cI, 2, .inl (fd_starts)))]) (va_runV (As := []) (rest := []) ⟨hx, hb, hml, hown, hts⟩ (c_X8_advance l D G cI cJ cB cZ cO qt qt_bytes ft_bytes vt_length vt_kind vt_from vt_upto vt_value h_vt_length h_vt_from h_vt_upto H.size) (cwV 0 hts gX5_readRound_X8_advance rfl rfl rfl (by decide +kernel) ⟨Nat.le_of_ble_eq_true rfl, Nat.le_of_ble_eq_true rfl⟩) (ct_preV (T := ct_T cI cJ cB cZ cO) (ci := 8) (q0 := 1) hE hH hP hD hS hA [1, 2] (by decide) rfl rfl rfl) rfl rfl hl.1 rfl (lv_room (Nat.le_of_ble_eq_true rfl)) dX5_readRound_4 ⟨Nat.le_of_ble_eq_true rfl, Nat.le_of_ble_eq_true rfl⟩) hP hD hS hA [1, 2] [0, 3, 4, 5, 6] rfl rfl (by decide) (by decide) (fun u H locs hw hP hD hS => ?_)
  obtain ⟨y1, y2, y3, y4⟩ := u
  obtain ⟨hP, hD⟩ : ct_B D A H [(qr, .inr (5, [.ref qt, .int vr_numberPlace, .int vr_fault, .int vr_faultPlace])), dn qd vd_gap vd_odds vd_rain vd_lines qd_steps qd_lengths qd_starts qd_met qd_stumbles vd_stumbleCount qd_muds qd_cells vd_cellCount qd_tunes vd_tuneCount qd_changes vd_changeCount, (qd_steps, .inl (cI, 24, .inl (fd_steps))), (qd_lengths, .inl (cI, 2, .inl (fd_lengths))), (qd_starts, .inl (cI, 2, .inl (fd_starts))), (qt, .inr (8, [.ref qt_bytes, .int vt_length, .int y1, .int y2, .int y3, .int y4])), (qt_bytes, .inl (cB, 1200, .inl (ft_bytes)))] := ⟨hP, hD⟩
  obtain ⟨hp0, hp1⟩ := hw
  have h_y2 : 0 ≤ y2.toInt ∧ y2.toInt ≤ 1200 := hp0
  have h_y3 : 0 ≤ y3.toInt ∧ y3.toInt ≤ 1200 := hp1
  refine lv_aload_n hx hb dX5_readRound_7 rfl (lv_at hl 0 rfl) ?_
  refine lv_iconst (v := 0) hx hb dX5_readRound_8 (by decide) ?_
  refine lv_iconst (v := 1) hx hb dX5_readRound_9 (by decide) ?_
  refine ct_calli (D := D) (wr := [dn qd vd_gap vd_odds vd_rain vd_lines qd_steps qd_lengths qd_starts qd_met qd_stumbles vd_stumbleCount qd_muds qd_cells vd_cellCount qd_tunes vd_tuneCount qd_changes vd_changeCount, (qd_steps, .inl (cI, 24, .inl (fd_steps))), (qd_lengths, .inl (cI, 2, .inl (fd_lengths))), (qd_starts, .inl (cI, 2, .inl (fd_starts)))]) (va_runV (As := [.int 0, .int 1]) (rest := []) ⟨hx, hb, hml, hown, hts⟩ (c_X5_takeNumber l D G cI cJ cB cZ cO qr vr_numberPlace vr_fault vr_faultPlace qt qt_bytes ft_bytes vt_length y1 y2 y3 y4 0 1 h_vt_length h_y2 h_y3 H.size) (cwV 2 hts gX5_readRound_X5_takeNumber rfl rfl rfl (by decide +kernel) ⟨Nat.le_of_ble_eq_true rfl, Nat.le_of_ble_eq_true rfl⟩) (ct_preV (T := ct_T cI cJ cB cZ cO) (ci := 5) (q0 := 0) hE hH hP hD hS hA [0, 5, 6] (by decide) rfl rfl rfl) rfl rfl hl.1 rfl (lv_room (Nat.le_of_ble_eq_true rfl)) dX5_readRound_10 ⟨Nat.le_of_ble_eq_true rfl, Nat.le_of_ble_eq_true rfl⟩) hP hD hS hA [0, 5, 6] [1, 2, 3, 4] rfl rfl (by decide) (by decide) (fun r5 u H locs hw hP hD hS => ?_)
  obtain ⟨y6, y7, y8, y9, y10, y11, y12⟩ := u
  obtain ⟨hP, hD⟩ : ct_B D A H [dn qd vd_gap vd_odds vd_rain vd_lines qd_steps qd_lengths qd_starts qd_met qd_stumbles vd_stumbleCount qd_muds qd_cells vd_cellCount qd_tunes vd_tuneCount qd_changes vd_changeCount, (qd_steps, .inl (cI, 24, .inl (fd_steps))), (qd_lengths, .inl (cI, 2, .inl (fd_lengths))), (qd_starts, .inl (cI, 2, .inl (fd_starts))), (qr, .inr (5, [.ref qt, .int y6, .int y7, .int y8])), (qt, .inr (8, [.ref qt_bytes, .int vt_length, .int y9, .int y10, .int y11, .int y12])), (qt_bytes, .inl (cB, 1200, .inl (ft_bytes)))] := ⟨hP, hD⟩
  have hk13 : (0 : Int32).toInt = 0 := by decide
  have hk14 : (1 : Int32).toInt = 1 := by decide
  obtain ⟨hz, hp0, hp1⟩ := hw
  have h_y10 : 0 ≤ y10.toInt ∧ y10.toInt ≤ 1200 := hp0
  have h_y11 : 0 ≤ y11.toInt ∧ y11.toInt ≤ 1200 := hp1
  have h_r5 : r5.toInt = (0 : Int32).toInt ∨ ((0 : Int32).toInt ≤ r5.toInt ∧ r5.toInt ≤ (1 : Int32).toInt) := hz
  refine lv_istore_n (lv' := [(2, .int r5), (0, .ref qr), (1, .ref qd)]) hx hb dX5_readRound_13 rfl hl (by decide) rfl (fun ls hl => ?_)
  refine lv_aload_n hx hb dX5_readRound_14 rfl (lv_at hl 1 rfl) ?_
  refine va_ldcS hx hb hown (hE.2.2.2 5 (by decide)) dX5_readRound_15 ?_
  refine ct_callv (D := D) (wr := [dn qd vd_gap vd_odds vd_rain vd_lines qd_steps qd_lengths qd_starts qd_met qd_stumbles vd_stumbleCount qd_muds qd_cells vd_cellCount qd_tunes vd_tuneCount qd_changes vd_changeCount, (qd_steps, .inl (cI, 24, .inl (fd_steps))), (qd_lengths, .inl (cI, 2, .inl (fd_lengths))), (qd_starts, .inl (cI, 2, .inl (fd_starts)))]) (va_runV (As := [.ref (G.1 5)]) (rest := []) ⟨hx, hb, hml, hown, hts⟩ (c_X5_takeWord l D G cI cJ cB cZ cO qr y6 y7 y8 qt qt_bytes ft_bytes vt_length y9 y10 y11 y12 5 h_vt_length h_y10 h_y11 (by decide) H.size) (cwV 1 hts gX5_readRound_X5_takeWord rfl rfl rfl (by decide +kernel) ⟨Nat.le_of_ble_eq_true rfl, Nat.le_of_ble_eq_true rfl⟩) (ct_preV (T := ct_T cI cJ cB cZ cO) (ci := 5) (q0 := 4) hE hH hP hD hS hA [4, 5, 6] (by decide) rfl rfl rfl) rfl rfl hl.1 rfl (lv_room (Nat.le_of_ble_eq_true rfl)) dX5_readRound_17 ⟨Nat.le_of_ble_eq_true rfl, Nat.le_of_ble_eq_true rfl⟩) hP hD hS hA [4, 5, 6] [0, 1, 2, 3] rfl rfl (by decide) (by decide) (fun u H locs hw hP hD hS => ?_)
  obtain ⟨y15, y16, y17, y18, y19, y20⟩ := u
  obtain ⟨hP, hD⟩ : ct_B D A H [dn qd vd_gap vd_odds vd_rain vd_lines qd_steps qd_lengths qd_starts qd_met qd_stumbles vd_stumbleCount qd_muds qd_cells vd_cellCount qd_tunes vd_tuneCount qd_changes vd_changeCount, (qd_steps, .inl (cI, 24, .inl (fd_steps))), (qd_lengths, .inl (cI, 2, .inl (fd_lengths))), (qd_starts, .inl (cI, 2, .inl (fd_starts))), (qr, .inr (5, [.ref qt, .int y6, .int y15, .int y16])), (qt, .inr (8, [.ref qt_bytes, .int vt_length, .int y17, .int y18, .int y19, .int y20])), (qt_bytes, .inl (cB, 1200, .inl (ft_bytes)))] := ⟨hP, hD⟩
  obtain ⟨hp0, hp1⟩ := hw
  have h_y18 : 0 ≤ y18.toInt ∧ y18.toInt ≤ 1200 := hp0
  have h_y19 : 0 ≤ y19.toInt ∧ y19.toInt ≤ 1200 := hp1
  refine lv_iconst (v := 0) hx hb dX5_readRound_20 (by decide) ?_
  refine lv_istore_n (lv' := [(3, .int 0), (2, .int r5), (0, .ref qr), (1, .ref qd)]) hx hb dX5_readRound_21 rfl hl (by decide) rfl (fun ls hl => ?_)
  refine lv_iconst (v := 0) hx hb dX5_readRound_22 (by decide) ?_
  refine lv_istore (lv' := [(4, .int 0), (3, .int 0), (2, .int r5), (0, .ref qr), (1, .ref qd)]) hx hb dX5_readRound_23 hl (by decide) rfl (fun ls hl => ?_)
  refine ct_loop (X := (Nat → Int32) × Int32 × Int32 × Int32 × Int32 × Int32 × Int32 × Int32 × Int32 × Int32) (fun x => (13 - x.2.2.2.2.2.2.2.2.2.toInt).toNat) (fun x H locs ls => (ar_ok [0] [5] x.1) ∧ ((0 ≤ x.2.2.2.2.2.1.toInt ∧ x.2.2.2.2.2.1.toInt ≤ 1200)) ∧ ((0 ≤ x.2.2.2.2.2.2.1.toInt ∧ x.2.2.2.2.2.2.1.toInt ≤ 1200)) ∧ ((0 ≤ x.2.2.2.2.2.2.2.2.1.toInt ∧ x.2.2.2.2.2.2.2.2.1.toInt ≤ 12)) ∧ ((0 ≤ x.2.2.2.2.2.2.2.2.2.toInt ∧ x.2.2.2.2.2.2.2.2.2.toInt ≤ 13)) ∧ ct_B D A H [dn qd vd_gap vd_odds vd_rain vd_lines qd_steps qd_lengths qd_starts qd_met qd_stumbles vd_stumbleCount qd_muds qd_cells vd_cellCount qd_tunes vd_tuneCount qd_changes vd_changeCount, (qd_steps, .inl (cI, 24, .inl (x.1))), (qd_lengths, .inl (cI, 2, .inl (fd_lengths))), (qd_starts, .inl (cI, 2, .inl (fd_starts))), (qr, .inr (5, [.ref qt, .int x.2.1, .int x.2.2.1, .int x.2.2.2.1])), (qt, .inr (8, [.ref qt_bytes, .int vt_length, .int x.2.2.2.2.1, .int x.2.2.2.2.2.1, .int x.2.2.2.2.2.2.1, .int x.2.2.2.2.2.2.2.1])), (qt_bytes, .inl (cB, 1200, .inl (ft_bytes)))] ∧ va_S A s.heap H locs ∧ lv_has ls 6 [(4, .int x.2.2.2.2.2.2.2.2.2), (3, .int x.2.2.2.2.2.2.2.2.1), (2, .int r5), (0, .ref qr), (1, .ref qd)]) 25 (fd_steps, y6, y15, y16, y17, y18, y19, y20, (0 : Int32), (0 : Int32)) ⟨h_fd_steps, h_y18, h_y19, (show 0 ≤ (0 : Int32).toInt ∧ (0 : Int32).toInt ≤ 12 by decide), (show 0 ≤ (0 : Int32).toInt ∧ (0 : Int32).toInt ≤ 13 by decide), ⟨hP, hD⟩, hS, lv_sub hl [0, 1, 2, 3, 4] rfl⟩ (fun x ih785 H locs ls hI => ?_)
  obtain ⟨g775, x776, x777, x778, x779, x780, x781, x782, x783, x784⟩ := x
  obtain ⟨h_g775, h_x780, h_x781, h_x783, h_x784, ⟨hP, hD⟩, hS, hl⟩ := hI
  have h_g775 : ar_ok [0] [5] g775 := h_g775
  have h_x780 : (0 ≤ x780.toInt ∧ x780.toInt ≤ 1200) := h_x780
  have h_x781 : (0 ≤ x781.toInt ∧ x781.toInt ≤ 1200) := h_x781
  have h_x783 : (0 ≤ x783.toInt ∧ x783.toInt ≤ 12) := h_x783
  have h_x784 : (0 ≤ x784.toInt ∧ x784.toInt ≤ 13) := h_x784
  obtain ⟨hP, hD⟩ : ct_B D A H [dn qd vd_gap vd_odds vd_rain vd_lines qd_steps qd_lengths qd_starts qd_met qd_stumbles vd_stumbleCount qd_muds qd_cells vd_cellCount qd_tunes vd_tuneCount qd_changes vd_changeCount, (qd_steps, .inl (cI, 24, .inl (g775))), (qd_lengths, .inl (cI, 2, .inl (fd_lengths))), (qd_starts, .inl (cI, 2, .inl (fd_starts))), (qr, .inr (5, [.ref qt, .int x776, .int x777, .int x778])), (qt, .inr (8, [.ref qt_bytes, .int vt_length, .int x779, .int x780, .int x781, .int x782])), (qt_bytes, .inl (cB, 1200, .inl (ft_bytes)))] := ⟨hP, hD⟩
  have hl : lv_has ls 6 [(4, .int x784), (3, .int x783), (2, .int r5), (0, .ref qr), (1, .ref qd)] := hl
  refine lv_iload hx hb dX5_readRound_25 (lv_at hl 0 rfl) ?_
  refine lv_bipush (v := 12) hx hb dX5_readRound_27 (by decide) ?_
  refine lv_icmp_gt (tgt := 96) hx hb dX5_readRound_29 (by decide) (fun hc => ?_) (fun hc => ?_)
  · have hq786 : 12 < x784.toInt := tq_lt (by decide) rfl hc
    refine lv_aload_n hx hb dX5_readRound_96 rfl (lv_at hl 3 rfl) ?_
    refine va_ldcS hx hb hown (hE.2.2.2 6 (by decide)) dX5_readRound_97 ?_
    refine ct_callv (D := D) (wr := [dn qd vd_gap vd_odds vd_rain vd_lines qd_steps qd_lengths qd_starts qd_met qd_stumbles vd_stumbleCount qd_muds qd_cells vd_cellCount qd_tunes vd_tuneCount qd_changes vd_changeCount, (qd_steps, .inl (cI, 24, .inl (g775))), (qd_lengths, .inl (cI, 2, .inl (fd_lengths))), (qd_starts, .inl (cI, 2, .inl (fd_starts)))]) (va_runV (As := [.ref (G.1 6)]) (rest := []) ⟨hx, hb, hml, hown, hts⟩ (c_X5_takeWord l D G cI cJ cB cZ cO qr x776 x777 x778 qt qt_bytes ft_bytes vt_length x779 x780 x781 x782 6 h_vt_length h_x780 h_x781 (by decide) H.size) (cwV 1 hts gX5_readRound_X5_takeWord rfl rfl rfl (by decide +kernel) ⟨Nat.le_of_ble_eq_true rfl, Nat.le_of_ble_eq_true rfl⟩) (ct_preV (T := ct_T cI cJ cB cZ cO) (ci := 5) (q0 := 4) hE hH hP hD hS hA [4, 5, 6] (by decide) rfl rfl rfl) rfl rfl hl.1 rfl (lv_room (Nat.le_of_ble_eq_true rfl)) dX5_readRound_99 ⟨Nat.le_of_ble_eq_true rfl, Nat.le_of_ble_eq_true rfl⟩) hP hD hS hA [4, 5, 6] [0, 1, 2, 3] rfl rfl (by decide) (by decide) (fun u H locs hw hP hD hS => ?_)
    obtain ⟨y787, y788, y789, y790, y791, y792⟩ := u
    obtain ⟨hP, hD⟩ : ct_B D A H [dn qd vd_gap vd_odds vd_rain vd_lines qd_steps qd_lengths qd_starts qd_met qd_stumbles vd_stumbleCount qd_muds qd_cells vd_cellCount qd_tunes vd_tuneCount qd_changes vd_changeCount, (qd_steps, .inl (cI, 24, .inl (g775))), (qd_lengths, .inl (cI, 2, .inl (fd_lengths))), (qd_starts, .inl (cI, 2, .inl (fd_starts))), (qr, .inr (5, [.ref qt, .int x776, .int y787, .int y788])), (qt, .inr (8, [.ref qt_bytes, .int vt_length, .int y789, .int y790, .int y791, .int y792])), (qt_bytes, .inl (cB, 1200, .inl (ft_bytes)))] := ⟨hP, hD⟩
    obtain ⟨hp0, hp1⟩ := hw
    have h_y790 : 0 ≤ y790.toInt ∧ y790.toInt ≤ 1200 := hp0
    have h_y791 : 0 ≤ y791.toInt ∧ y791.toInt ≤ 1200 := hp1
    refine lv_aload_n hx hb dX5_readRound_102 rfl (lv_at hl 4 rfl) ?_
    refine va_get (D := D) (ci := 0) (v := .ref qd_starts) (C := RX0) (T := TX0) (N := 17) hx hb hts hi0 hown hK hP 0 rfl rfl 6 (by decide) (hts (.fieldLink RX5 130 "OverHill$Dance" "starts" "[I") (by decide +kernel)) (fun _ h9 => h9) rfl dX5_readRound_103 ?_
    refine lv_iload_n hx hb dX5_readRound_106 rfl (lv_at hl 2 rfl) ?_
    refine lv_aload_n hx hb dX5_readRound_107 rfl (lv_at hl 3 rfl) ?_
    refine lv_iconst (v := 0) hx hb dX5_readRound_108 (by decide) ?_
    refine lv_iload_n hx hb dX5_readRound_109 rfl (lv_at hl 1 rfl) ?_
    refine lv_iconst (v := 1) hx hb dX5_readRound_110 (by decide) ?_
    refine lv_isub hx hb dX5_readRound_111 ?_
    refine lv_topi (fun z793 ez793 => ?_)
    have fz793 : z793.toInt = x783.toInt - 1 := by rw [ez793]; exact tq_subt rfl (by decide) (by omega)
    refine ct_calli (D := D) (wr := [dn qd vd_gap vd_odds vd_rain vd_lines qd_steps qd_lengths qd_starts qd_met qd_stumbles vd_stumbleCount qd_muds qd_cells vd_cellCount qd_tunes vd_tuneCount qd_changes vd_changeCount, (qd_steps, .inl (cI, 24, .inl (g775))), (qd_lengths, .inl (cI, 2, .inl (fd_lengths))), (qd_starts, .inl (cI, 2, .inl (fd_starts)))]) (va_runV (As := [.int 0, .int z793]) (rest := [.int r5, .ref qd_starts]) ⟨hx, hb, hml, hown, hts⟩ (c_X5_takeNumber l D G cI cJ cB cZ cO qr x776 y787 y788 qt qt_bytes ft_bytes vt_length y789 y790 y791 y792 0 z793 h_vt_length h_y790 h_y791 H.size) (cwV 2 hts gX5_readRound_X5_takeNumber rfl rfl rfl (by decide +kernel) ⟨Nat.le_of_ble_eq_true rfl, Nat.le_of_ble_eq_true rfl⟩) (ct_preV (T := ct_T cI cJ cB cZ cO) (ci := 5) (q0 := 4) hE hH hP hD hS hA [4, 5, 6] (by decide) rfl rfl rfl) rfl rfl hl.1 rfl (lv_room (Nat.le_of_ble_eq_true rfl)) dX5_readRound_112 ⟨Nat.le_of_ble_eq_true rfl, Nat.le_of_ble_eq_true rfl⟩) hP hD hS hA [4, 5, 6] [0, 1, 2, 3] rfl rfl (by decide) (by decide) (fun r794 u H locs hw hP hD hS => ?_)
    obtain ⟨y795, y796, y797, y798, y799, y800, y801⟩ := u
    obtain ⟨hP, hD⟩ : ct_B D A H [dn qd vd_gap vd_odds vd_rain vd_lines qd_steps qd_lengths qd_starts qd_met qd_stumbles vd_stumbleCount qd_muds qd_cells vd_cellCount qd_tunes vd_tuneCount qd_changes vd_changeCount, (qd_steps, .inl (cI, 24, .inl (g775))), (qd_lengths, .inl (cI, 2, .inl (fd_lengths))), (qd_starts, .inl (cI, 2, .inl (fd_starts))), (qr, .inr (5, [.ref qt, .int y795, .int y796, .int y797])), (qt, .inr (8, [.ref qt_bytes, .int vt_length, .int y798, .int y799, .int y800, .int y801])), (qt_bytes, .inl (cB, 1200, .inl (ft_bytes)))] := ⟨hP, hD⟩
    have hk802 : (0 : Int32).toInt = 0 := by decide
    obtain ⟨hz, hp0, hp1⟩ := hw
    have h_y799 : 0 ≤ y799.toInt ∧ y799.toInt ≤ 1200 := hp0
    have h_y800 : 0 ≤ y800.toInt ∧ y800.toInt ≤ 1200 := hp1
    have h_r794 : r794.toInt = (0 : Int32).toInt ∨ ((0 : Int32).toInt ≤ r794.toInt ∧ r794.toInt ≤ z793.toInt) := hz
    refine va_iast (D := D) hx hb hK hP hD hS 3 0 rfl rfl (tq_in rfl (by omega)) dX5_readRound_115 (fun H locs hP hD hS => ?_)
    obtain ⟨g803, h_g803, hP, hD⟩ : ∃ g803 : Nat → Int32, ar_ok [0] [11] g803 ∧ ct_B D A H [dn qd vd_gap vd_odds vd_rain vd_lines qd_steps qd_lengths qd_starts qd_met qd_stumbles vd_stumbleCount qd_muds qd_cells vd_cellCount qd_tunes vd_tuneCount qd_changes vd_changeCount, (qd_steps, .inl (cI, 24, .inl (g775))), (qd_lengths, .inl (cI, 2, .inl (fd_lengths))), (qd_starts, .inl (cI, 2, .inl (g803))), (qr, .inr (5, [.ref qt, .int y795, .int y796, .int y797])), (qt, .inr (8, [.ref qt_bytes, .int vt_length, .int y798, .int y799, .int y800, .int y801])), (qt_bytes, .inl (cB, 1200, .inl (ft_bytes)))] := ⟨_, ar_set h_fd_starts r5 r794 0 (by omega) (show r5.toInt % 1 = 0 by omega) rfl (show 0 ≤ r794.toInt ∧ r794.toInt ≤ 11 by omega), hP, hD⟩
    refine lv_aload_n hx hb dX5_readRound_116 rfl (lv_at hl 4 rfl) ?_
    refine va_get (D := D) (ci := 0) (v := .ref qd_lengths) (C := RX0) (T := TX0) (N := 17) hx hb hts hi0 hown hK hP 0 rfl rfl 5 (by decide) (hts (.fieldLink RX5 133 "OverHill$Dance" "lengths" "[I") (by decide +kernel)) (fun _ h9 => h9) rfl dX5_readRound_117 ?_
    refine lv_iload_n hx hb dX5_readRound_120 rfl (lv_at hl 2 rfl) ?_
    refine lv_iload_n hx hb dX5_readRound_121 rfl (lv_at hl 1 rfl) ?_
    refine va_iast (D := D) hx hb hK hP hD hS 2 0 rfl rfl (tq_in rfl (by omega)) dX5_readRound_122 (fun H locs hP hD hS => ?_)
    obtain ⟨g804, h_g804, hP, hD⟩ : ∃ g804 : Nat → Int32, ar_ok [0] [12] g804 ∧ ct_B D A H [dn qd vd_gap vd_odds vd_rain vd_lines qd_steps qd_lengths qd_starts qd_met qd_stumbles vd_stumbleCount qd_muds qd_cells vd_cellCount qd_tunes vd_tuneCount qd_changes vd_changeCount, (qd_steps, .inl (cI, 24, .inl (g775))), (qd_lengths, .inl (cI, 2, .inl (g804))), (qd_starts, .inl (cI, 2, .inl (g803))), (qr, .inr (5, [.ref qt, .int y795, .int y796, .int y797])), (qt, .inr (8, [.ref qt_bytes, .int vt_length, .int y798, .int y799, .int y800, .int y801])), (qt_bytes, .inl (cB, 1200, .inl (ft_bytes)))] := ⟨_, ar_set h_fd_lengths r5 x783 0 (by omega) (show r5.toInt % 1 = 0 by omega) rfl (show 0 ≤ x783.toInt ∧ x783.toInt ≤ 12 by omega), hP, hD⟩
    obtain ⟨hP9, hD9⟩ : ct_B D A H [(qr, .inr (5, [.ref qt, .int y795, .int y796, .int y797])), (qt, .inr (8, [.ref qt_bytes, .int vt_length, .int y798, .int y799, .int y800, .int y801])), (qt_bytes, .inl (cB, 1200, .inl (ft_bytes))), dn qd vd_gap vd_odds vd_rain vd_lines qd_steps qd_lengths qd_starts qd_met qd_stumbles vd_stumbleCount qd_muds qd_cells vd_cellCount qd_tunes vd_tuneCount qd_changes vd_changeCount, (qd_steps, .inl (cI, 24, .inl (g775))), (qd_lengths, .inl (cI, 2, .inl (g804))), (qd_starts, .inl (cI, 2, .inl (g803)))] := ⟨hP.sub [4, 5, 6, 0, 1, 2, 3] rfl, hD.sub [4, 5, 6, 0, 1, 2, 3] (by decide) rfl⟩
    exact W.vret hx hb hr (fun t ht hW => ⟨⟨(y795, y796, y797, y798, y799, y800, y801, g775, g804, g803), rfl, ⟨h_y799, h_y800, h_g775, h_g804, h_g803⟩, by rw [ht]; exact hP9, hD9⟩, hS.F ht⟩) hS.2.2 dX5_readRound_123
  · have hq786 : x784.toInt ≤ 12 := tq_nlt (by decide) rfl hc
    refine lv_iload hx hb dX5_readRound_32 (lv_at hl 0 rfl) ?_
    refine lv_if_eq (tgt := 44) hx hb dX5_readRound_34 (by decide) (fun hc => ?_) (fun hc => ?_)
    · have hq805 : x784.toInt = 0 := tq_eq rfl (by decide) hc
      refine lv_aload_n hx hb dX5_readRound_44 rfl (lv_at hl 3 rfl) ?_
      refine lv_iconst (v := 0) hx hb dX5_readRound_45 (by decide) ?_
      refine lv_iconst (v := 5) hx hb dX5_readRound_46 (by decide) ?_
      refine ct_calli (D := D) (wr := [dn qd vd_gap vd_odds vd_rain vd_lines qd_steps qd_lengths qd_starts qd_met qd_stumbles vd_stumbleCount qd_muds qd_cells vd_cellCount qd_tunes vd_tuneCount qd_changes vd_changeCount, (qd_steps, .inl (cI, 24, .inl (g775))), (qd_lengths, .inl (cI, 2, .inl (fd_lengths))), (qd_starts, .inl (cI, 2, .inl (fd_starts)))]) (va_runV (As := [.int 0, .int 5]) (rest := []) ⟨hx, hb, hml, hown, hts⟩ (c_X5_takeNumber l D G cI cJ cB cZ cO qr x776 x777 x778 qt qt_bytes ft_bytes vt_length x779 x780 x781 x782 0 5 h_vt_length h_x780 h_x781 H.size) (cwV 2 hts gX5_readRound_X5_takeNumber rfl rfl rfl (by decide +kernel) ⟨Nat.le_of_ble_eq_true rfl, Nat.le_of_ble_eq_true rfl⟩) (ct_preV (T := ct_T cI cJ cB cZ cO) (ci := 5) (q0 := 4) hE hH hP hD hS hA [4, 5, 6] (by decide) rfl rfl rfl) rfl rfl hl.1 rfl (lv_room (Nat.le_of_ble_eq_true rfl)) dX5_readRound_47 ⟨Nat.le_of_ble_eq_true rfl, Nat.le_of_ble_eq_true rfl⟩) hP hD hS hA [4, 5, 6] [0, 1, 2, 3] rfl rfl (by decide) (by decide) (fun r806 u H locs hw hP hD hS => ?_)
      obtain ⟨y807, y808, y809, y810, y811, y812, y813⟩ := u
      obtain ⟨hP, hD⟩ : ct_B D A H [dn qd vd_gap vd_odds vd_rain vd_lines qd_steps qd_lengths qd_starts qd_met qd_stumbles vd_stumbleCount qd_muds qd_cells vd_cellCount qd_tunes vd_tuneCount qd_changes vd_changeCount, (qd_steps, .inl (cI, 24, .inl (g775))), (qd_lengths, .inl (cI, 2, .inl (fd_lengths))), (qd_starts, .inl (cI, 2, .inl (fd_starts))), (qr, .inr (5, [.ref qt, .int y807, .int y808, .int y809])), (qt, .inr (8, [.ref qt_bytes, .int vt_length, .int y810, .int y811, .int y812, .int y813])), (qt_bytes, .inl (cB, 1200, .inl (ft_bytes)))] := ⟨hP, hD⟩
      have hk814 : (0 : Int32).toInt = 0 := by decide
      have hk815 : (5 : Int32).toInt = 5 := by decide
      obtain ⟨hz, hp0, hp1⟩ := hw
      have h_y811 : 0 ≤ y811.toInt ∧ y811.toInt ≤ 1200 := hp0
      have h_y812 : 0 ≤ y812.toInt ∧ y812.toInt ≤ 1200 := hp1
      have h_r806 : r806.toInt = (0 : Int32).toInt ∨ ((0 : Int32).toInt ≤ r806.toInt ∧ r806.toInt ≤ (5 : Int32).toInt) := hz
      refine lv_istore (lv' := [(5, .int r806), (4, .int x784), (3, .int x783), (2, .int r5), (0, .ref qr), (1, .ref qd)]) hx hb dX5_readRound_50 hl (by decide) rfl (fun ls hl => ?_)
      refine lv_iload hx hb dX5_readRound_52 (lv_at hl 1 rfl) ?_
      refine lv_bipush (v := 12) hx hb dX5_readRound_54 (by decide) ?_
      refine lv_icmp_ne (tgt := 71) hx hb dX5_readRound_56 (by decide) (fun hc => ?_) (fun hc => ?_)
      · have hq816 : x784.toInt ≠ 12 := tq_ne rfl (by decide) hc
        refine lv_aload_n hx hb dX5_readRound_71 rfl (lv_at hl 5 rfl) ?_
        refine va_get (D := D) (ci := 0) (v := .ref qd_steps) (C := RX0) (T := TX0) (N := 17) hx hb hts hi0 hown hK hP 0 rfl rfl 4 (by decide) (hts (.fieldLink RX5 124 "OverHill$Dance" "steps" "[I") (by decide +kernel)) (fun _ h9 => h9) rfl dX5_readRound_72 ?_
        refine lv_iload_n hx hb dX5_readRound_75 rfl (lv_at hl 3 rfl) ?_
        refine lv_bipush (v := 12) hx hb dX5_readRound_76 (by decide) ?_
        refine lv_imul hx hb dX5_readRound_78 ?_
        refine lv_topi (fun z817 ez817 => ?_)
        have fz817 : z817.toInt = r5.toInt * 12 := by rw [ez817]; exact tq_mul rfl (by decide) (by omega)
        refine lv_iload hx hb dX5_readRound_79 (lv_at hl 1 rfl) ?_
        refine lv_iadd hx hb dX5_readRound_81 ?_
        refine lv_topi (fun z818 ez818 => ?_)
        have fz818 : z818.toInt = z817.toInt + x784.toInt := by rw [ez818]; exact tq_add rfl rfl (by omega)
        refine lv_iload hx hb dX5_readRound_82 (lv_at hl 0 rfl) ?_
        refine va_iast (D := D) hx hb hK hP hD hS 1 0 rfl rfl (tq_in rfl (by omega)) dX5_readRound_84 (fun H locs hP hD hS => ?_)
        obtain ⟨g819, h_g819, hP, hD⟩ : ∃ g819 : Nat → Int32, ar_ok [0] [5] g819 ∧ ct_B D A H [dn qd vd_gap vd_odds vd_rain vd_lines qd_steps qd_lengths qd_starts qd_met qd_stumbles vd_stumbleCount qd_muds qd_cells vd_cellCount qd_tunes vd_tuneCount qd_changes vd_changeCount, (qd_steps, .inl (cI, 24, .inl (g819))), (qd_lengths, .inl (cI, 2, .inl (fd_lengths))), (qd_starts, .inl (cI, 2, .inl (fd_starts))), (qr, .inr (5, [.ref qt, .int y807, .int y808, .int y809])), (qt, .inr (8, [.ref qt_bytes, .int vt_length, .int y810, .int y811, .int y812, .int y813])), (qt_bytes, .inl (cB, 1200, .inl (ft_bytes)))] := ⟨_, ar_set h_g775 z818 r806 0 (by omega) (show z818.toInt % 1 = 0 by omega) rfl (show 0 ≤ r806.toInt ∧ r806.toInt ≤ 5 by omega), hP, hD⟩
        refine lv_iload hx hb dX5_readRound_85 (lv_at hl 1 rfl) ?_
        refine lv_iconst (v := 1) hx hb dX5_readRound_87 (by decide) ?_
        refine lv_iadd hx hb dX5_readRound_88 ?_
        refine lv_topi (fun z820 ez820 => ?_)
        have fz820 : z820.toInt = x784.toInt + 1 := by rw [ez820]; exact tq_add rfl (by decide) (by omega)
        refine lv_istore_n (lv' := [(3, .int z820), (5, .int r806), (4, .int x784), (2, .int r5), (0, .ref qr), (1, .ref qd)]) hx hb dX5_readRound_89 rfl hl (by decide) rfl (fun ls hl => ?_)
        obtain ⟨z821, ez821⟩ : ∃ z : Int32, z = x784 + 1 := ⟨_, rfl⟩
        have fz821 : z821.toInt = x784.toInt + 1 := by rw [ez821]; exact tq_add rfl (by decide) (by omega)
        refine lv_iinc (v := z821) (lv' := [(4, .int z821), (3, .int z820), (5, .int r806), (2, .int r5), (0, .ref qr), (1, .ref qd)]) hx hb dX5_readRound_90 hl (k := 2) rfl ez821.symm (by decide) rfl (fun ls hl => ?_)
        refine lv_goto (tgt := 25) hx hb dX5_readRound_93 (by decide) ?_
        exact ih785 (g819, y807, y808, y809, y810, y811, y812, y813, z820, z821) _ _ _ (show (13 - z821.toInt).toNat < (13 - x784.toInt).toNat by omega) ⟨h_g819, h_y811, h_y812, (show 0 ≤ z820.toInt ∧ z820.toInt ≤ 12 by omega), (show 0 ≤ z821.toInt ∧ z821.toInt ≤ 13 by omega), ⟨hP, hD⟩, hS, lv_sub hl [0, 1, 3, 4, 5] rfl⟩
      · have hq816 : x784.toInt = 12 := tq_eq rfl (by decide) hc
        omega
    · have hq805 : x784.toInt ≠ 0 := tq_ne rfl (by decide) hc
      refine lv_aload_n hx hb dX5_readRound_37 rfl (lv_at hl 3 rfl) ?_
      refine ct_calli (D := D) (wr := [dn qd vd_gap vd_odds vd_rain vd_lines qd_steps qd_lengths qd_starts qd_met qd_stumbles vd_stumbleCount qd_muds qd_cells vd_cellCount qd_tunes vd_tuneCount qd_changes vd_changeCount, (qd_steps, .inl (cI, 24, .inl (g775))), (qd_lengths, .inl (cI, 2, .inl (fd_lengths))), (qd_starts, .inl (cI, 2, .inl (fd_starts))), (qt_bytes, .inl (cB, 1200, .inl (ft_bytes)))]) (va_runV (As := []) (rest := []) ⟨hx, hb, hml, hown, hts⟩ (c_X5_seesNumber l D G cI cJ cB cZ cO qr x776 x777 x778 qt qt_bytes vt_length x779 x780 x781 x782 h_vt_length h_x780 h_x781 H.size) (cwV 0 hts gX5_readRound_X5_seesNumber rfl rfl rfl (by decide +kernel) ⟨Nat.le_of_ble_eq_true rfl, Nat.le_of_ble_eq_true rfl⟩) (ct_preV (T := ct_T cI cJ cB cZ cO) (ci := 5) (q0 := 4) hE hH hP hD hS hA [4, 5] (by decide) rfl rfl rfl) rfl rfl hl.1 rfl (lv_room (Nat.le_of_ble_eq_true rfl)) dX5_readRound_38 ⟨Nat.le_of_ble_eq_true rfl, Nat.le_of_ble_eq_true rfl⟩) hP hD hS hA [4, 5] [0, 1, 2, 3, 6] rfl rfl (by decide) (by decide) (fun r822 u H locs hw hP hD hS => ?_)
      obtain ⟨hP, hD⟩ : ct_B D A H [dn qd vd_gap vd_odds vd_rain vd_lines qd_steps qd_lengths qd_starts qd_met qd_stumbles vd_stumbleCount qd_muds qd_cells vd_cellCount qd_tunes vd_tuneCount qd_changes vd_changeCount, (qd_steps, .inl (cI, 24, .inl (g775))), (qd_lengths, .inl (cI, 2, .inl (fd_lengths))), (qd_starts, .inl (cI, 2, .inl (fd_starts))), (qt_bytes, .inl (cB, 1200, .inl (ft_bytes))), (qr, .inr (5, [.ref qt, .int x776, .int x777, .int x778])), (qt, .inr (8, [.ref qt_bytes, .int vt_length, .int x779, .int x780, .int x781, .int x782]))] := ⟨hP, hD⟩
      have hz := hw
      rcases hz with ⟨hz, hz2⟩ | ⟨hz, hz2⟩
      · subst hz
        refine lv_if_eq (tgt := 96) hx hb dX5_readRound_41 (by decide) (fun hc => absurd hc (by decide)) (fun _ => ?_)
        refine lv_aload_n hx hb dX5_readRound_44 rfl (lv_at hl 3 rfl) ?_
        refine lv_iconst (v := 0) hx hb dX5_readRound_45 (by decide) ?_
        refine lv_iconst (v := 5) hx hb dX5_readRound_46 (by decide) ?_
        refine ct_calli (D := D) (wr := [dn qd vd_gap vd_odds vd_rain vd_lines qd_steps qd_lengths qd_starts qd_met qd_stumbles vd_stumbleCount qd_muds qd_cells vd_cellCount qd_tunes vd_tuneCount qd_changes vd_changeCount, (qd_steps, .inl (cI, 24, .inl (g775))), (qd_lengths, .inl (cI, 2, .inl (fd_lengths))), (qd_starts, .inl (cI, 2, .inl (fd_starts)))]) (va_runV (As := [.int 0, .int 5]) (rest := []) ⟨hx, hb, hml, hown, hts⟩ (c_X5_takeNumber l D G cI cJ cB cZ cO qr x776 x777 x778 qt qt_bytes ft_bytes vt_length x779 x780 x781 x782 0 5 h_vt_length h_x780 h_x781 H.size) (cwV 2 hts gX5_readRound_X5_takeNumber rfl rfl rfl (by decide +kernel) ⟨Nat.le_of_ble_eq_true rfl, Nat.le_of_ble_eq_true rfl⟩) (ct_preV (T := ct_T cI cJ cB cZ cO) (ci := 5) (q0 := 5) hE hH hP hD hS hA [5, 6, 4] (by decide) rfl rfl rfl) rfl rfl hl.1 rfl (lv_room (Nat.le_of_ble_eq_true rfl)) dX5_readRound_47 ⟨Nat.le_of_ble_eq_true rfl, Nat.le_of_ble_eq_true rfl⟩) hP hD hS hA [5, 6, 4] [0, 1, 2, 3] rfl rfl (by decide) (by decide) (fun r823 u H locs hw hP hD hS => ?_)
        obtain ⟨y824, y825, y826, y827, y828, y829, y830⟩ := u
        obtain ⟨hP, hD⟩ : ct_B D A H [dn qd vd_gap vd_odds vd_rain vd_lines qd_steps qd_lengths qd_starts qd_met qd_stumbles vd_stumbleCount qd_muds qd_cells vd_cellCount qd_tunes vd_tuneCount qd_changes vd_changeCount, (qd_steps, .inl (cI, 24, .inl (g775))), (qd_lengths, .inl (cI, 2, .inl (fd_lengths))), (qd_starts, .inl (cI, 2, .inl (fd_starts))), (qr, .inr (5, [.ref qt, .int y824, .int y825, .int y826])), (qt, .inr (8, [.ref qt_bytes, .int vt_length, .int y827, .int y828, .int y829, .int y830])), (qt_bytes, .inl (cB, 1200, .inl (ft_bytes)))] := ⟨hP, hD⟩
        have hk831 : (0 : Int32).toInt = 0 := by decide
        have hk832 : (5 : Int32).toInt = 5 := by decide
        obtain ⟨hz, hp0, hp1⟩ := hw
        have h_y828 : 0 ≤ y828.toInt ∧ y828.toInt ≤ 1200 := hp0
        have h_y829 : 0 ≤ y829.toInt ∧ y829.toInt ≤ 1200 := hp1
        have h_r823 : r823.toInt = (0 : Int32).toInt ∨ ((0 : Int32).toInt ≤ r823.toInt ∧ r823.toInt ≤ (5 : Int32).toInt) := hz
        refine lv_istore (lv' := [(5, .int r823), (4, .int x784), (3, .int x783), (2, .int r5), (0, .ref qr), (1, .ref qd)]) hx hb dX5_readRound_50 hl (by decide) rfl (fun ls hl => ?_)
        refine lv_iload hx hb dX5_readRound_52 (lv_at hl 1 rfl) ?_
        refine lv_bipush (v := 12) hx hb dX5_readRound_54 (by decide) ?_
        refine lv_icmp_ne (tgt := 71) hx hb dX5_readRound_56 (by decide) (fun hc => ?_) (fun hc => ?_)
        · have hq833 : x784.toInt ≠ 12 := tq_ne rfl (by decide) hc
          refine lv_aload_n hx hb dX5_readRound_71 rfl (lv_at hl 5 rfl) ?_
          refine va_get (D := D) (ci := 0) (v := .ref qd_steps) (C := RX0) (T := TX0) (N := 17) hx hb hts hi0 hown hK hP 0 rfl rfl 4 (by decide) (hts (.fieldLink RX5 124 "OverHill$Dance" "steps" "[I") (by decide +kernel)) (fun _ h9 => h9) rfl dX5_readRound_72 ?_
          refine lv_iload_n hx hb dX5_readRound_75 rfl (lv_at hl 3 rfl) ?_
          refine lv_bipush (v := 12) hx hb dX5_readRound_76 (by decide) ?_
          refine lv_imul hx hb dX5_readRound_78 ?_
          refine lv_topi (fun z834 ez834 => ?_)
          have fz834 : z834.toInt = r5.toInt * 12 := by rw [ez834]; exact tq_mul rfl (by decide) (by omega)
          refine lv_iload hx hb dX5_readRound_79 (lv_at hl 1 rfl) ?_
          refine lv_iadd hx hb dX5_readRound_81 ?_
          refine lv_topi (fun z835 ez835 => ?_)
          have fz835 : z835.toInt = z834.toInt + x784.toInt := by rw [ez835]; exact tq_add rfl rfl (by omega)
          refine lv_iload hx hb dX5_readRound_82 (lv_at hl 0 rfl) ?_
          refine va_iast (D := D) hx hb hK hP hD hS 1 0 rfl rfl (tq_in rfl (by omega)) dX5_readRound_84 (fun H locs hP hD hS => ?_)
          obtain ⟨g836, h_g836, hP, hD⟩ : ∃ g836 : Nat → Int32, ar_ok [0] [5] g836 ∧ ct_B D A H [dn qd vd_gap vd_odds vd_rain vd_lines qd_steps qd_lengths qd_starts qd_met qd_stumbles vd_stumbleCount qd_muds qd_cells vd_cellCount qd_tunes vd_tuneCount qd_changes vd_changeCount, (qd_steps, .inl (cI, 24, .inl (g836))), (qd_lengths, .inl (cI, 2, .inl (fd_lengths))), (qd_starts, .inl (cI, 2, .inl (fd_starts))), (qr, .inr (5, [.ref qt, .int y824, .int y825, .int y826])), (qt, .inr (8, [.ref qt_bytes, .int vt_length, .int y827, .int y828, .int y829, .int y830])), (qt_bytes, .inl (cB, 1200, .inl (ft_bytes)))] := ⟨_, ar_set h_g775 z835 r823 0 (by omega) (show z835.toInt % 1 = 0 by omega) rfl (show 0 ≤ r823.toInt ∧ r823.toInt ≤ 5 by omega), hP, hD⟩
          refine lv_iload hx hb dX5_readRound_85 (lv_at hl 1 rfl) ?_
          refine lv_iconst (v := 1) hx hb dX5_readRound_87 (by decide) ?_
          refine lv_iadd hx hb dX5_readRound_88 ?_
          refine lv_topi (fun z837 ez837 => ?_)
          have fz837 : z837.toInt = x784.toInt + 1 := by rw [ez837]; exact tq_add rfl (by decide) (by omega)
          refine lv_istore_n (lv' := [(3, .int z837), (5, .int r823), (4, .int x784), (2, .int r5), (0, .ref qr), (1, .ref qd)]) hx hb dX5_readRound_89 rfl hl (by decide) rfl (fun ls hl => ?_)
          obtain ⟨z838, ez838⟩ : ∃ z : Int32, z = x784 + 1 := ⟨_, rfl⟩
          have fz838 : z838.toInt = x784.toInt + 1 := by rw [ez838]; exact tq_add rfl (by decide) (by omega)
          refine lv_iinc (v := z838) (lv' := [(4, .int z838), (3, .int z837), (5, .int r823), (2, .int r5), (0, .ref qr), (1, .ref qd)]) hx hb dX5_readRound_90 hl (k := 2) rfl ez838.symm (by decide) rfl (fun ls hl => ?_)
          refine lv_goto (tgt := 25) hx hb dX5_readRound_93 (by decide) ?_
          exact ih785 (g836, y824, y825, y826, y827, y828, y829, y830, z837, z838) _ _ _ (show (13 - z838.toInt).toNat < (13 - x784.toInt).toNat by omega) ⟨h_g836, h_y828, h_y829, (show 0 ≤ z837.toInt ∧ z837.toInt ≤ 12 by omega), (show 0 ≤ z838.toInt ∧ z838.toInt ≤ 13 by omega), ⟨hP, hD⟩, hS, lv_sub hl [0, 1, 3, 4, 5] rfl⟩
        · have hq833 : x784.toInt = 12 := tq_eq rfl (by decide) hc
          refine lv_aload_n hx hb dX5_readRound_59 rfl (lv_at hl 4 rfl) ?_
          refine lv_iconst (v := 3) hx hb dX5_readRound_60 (by decide) ?_
          refine lv_aload_n hx hb dX5_readRound_61 rfl (lv_at hl 4 rfl) ?_
          refine va_get (D := D) (ci := 5) (v := .int y824) (C := RX5) (T := TX5) (N := 4) hx hb hts hi5 hown hK hP 4 rfl rfl 1 (by decide) (hts (.fieldLink RX5 121 "OverHill$Reader" "numberPlace" "I") (by decide +kernel)) (fun _ h9 => h9) rfl dX5_readRound_62 ?_
          refine ct_callv (D := D) (wr := [dn qd vd_gap vd_odds vd_rain vd_lines qd_steps qd_lengths qd_starts qd_met qd_stumbles vd_stumbleCount qd_muds qd_cells vd_cellCount qd_tunes vd_tuneCount qd_changes vd_changeCount, (qd_steps, .inl (cI, 24, .inl (g775))), (qd_lengths, .inl (cI, 2, .inl (fd_lengths))), (qd_starts, .inl (cI, 2, .inl (fd_starts))), (qt, .inr (8, [.ref qt_bytes, .int vt_length, .int y827, .int y828, .int y829, .int y830])), (qt_bytes, .inl (cB, 1200, .inl (ft_bytes)))]) (va_runV (As := [.int 3, .int y824]) (rest := []) ⟨hx, hb, hml, hown, hts⟩ (c_X5_fail l D G cI cJ cB cZ cO qr y824 y825 y826 qt 3 y824 (by decide) H.size) (cwV 2 hts gX5_readRound_X5_fail rfl rfl rfl (by decide +kernel) ⟨Nat.le_of_ble_eq_true rfl, Nat.le_of_ble_eq_true rfl⟩) (ct_preV (T := ct_T cI cJ cB cZ cO) (ci := 5) (q0 := 4) hE hH hP hD hS hA [4] (by decide) rfl rfl rfl) rfl rfl hl.1 rfl (lv_room (Nat.le_of_ble_eq_true rfl)) dX5_readRound_65 ⟨Nat.le_of_ble_eq_true rfl, Nat.le_of_ble_eq_true rfl⟩) hP hD hS hA [4] [0, 1, 2, 3, 5, 6] rfl rfl (by decide) (by decide) (fun u H locs hw hP hD hS => ?_)
          obtain ⟨y839, y840⟩ := u
          obtain ⟨hP, hD⟩ : ct_B D A H [dn qd vd_gap vd_odds vd_rain vd_lines qd_steps qd_lengths qd_starts qd_met qd_stumbles vd_stumbleCount qd_muds qd_cells vd_cellCount qd_tunes vd_tuneCount qd_changes vd_changeCount, (qd_steps, .inl (cI, 24, .inl (g775))), (qd_lengths, .inl (cI, 2, .inl (fd_lengths))), (qd_starts, .inl (cI, 2, .inl (fd_starts))), (qt, .inr (8, [.ref qt_bytes, .int vt_length, .int y827, .int y828, .int y829, .int y830])), (qt_bytes, .inl (cB, 1200, .inl (ft_bytes))), (qr, .inr (5, [.ref qt, .int y824, .int y839, .int y840]))] := ⟨hP, hD⟩
          have hp0 := hw
          have hp_841 : y839.toInt ≠ 0 := hp0
          refine lv_goto (tgt := 90) hx hb dX5_readRound_68 (by decide) ?_
          obtain ⟨z842, ez842⟩ : ∃ z : Int32, z = x784 + 1 := ⟨_, rfl⟩
          have fz842 : z842.toInt = x784.toInt + 1 := by rw [ez842]; exact tq_add rfl (by decide) (by omega)
          refine lv_iinc (v := z842) (lv' := [(4, .int z842), (5, .int r823), (3, .int x783), (2, .int r5), (0, .ref qr), (1, .ref qd)]) hx hb dX5_readRound_90 hl (k := 1) rfl ez842.symm (by decide) rfl (fun ls hl => ?_)
          refine lv_goto (tgt := 25) hx hb dX5_readRound_93 (by decide) ?_
          obtain ⟨hP9, hD9⟩ : ct_B D A H [dn qd vd_gap vd_odds vd_rain vd_lines qd_steps qd_lengths qd_starts qd_met qd_stumbles vd_stumbleCount qd_muds qd_cells vd_cellCount qd_tunes vd_tuneCount qd_changes vd_changeCount, (qd_steps, .inl (cI, 24, .inl (g775))), (qd_lengths, .inl (cI, 2, .inl (fd_lengths))), (qd_starts, .inl (cI, 2, .inl (fd_starts))), (qr, .inr (5, [.ref qt, .int y824, .int y839, .int y840])), (qt, .inr (8, [.ref qt_bytes, .int vt_length, .int y827, .int y828, .int y829, .int y830])), (qt_bytes, .inl (cB, 1200, .inl (ft_bytes)))] := ⟨hP.sub [0, 1, 2, 3, 6, 4, 5] rfl, hD.sub [0, 1, 2, 3, 6, 4, 5] (by decide) rfl⟩
          exact ih785 (g775, y824, y839, y840, y827, y828, y829, y830, x783, z842) _ _ _ (show (13 - z842.toInt).toNat < (13 - x784.toInt).toNat by omega) ⟨h_g775, h_y828, h_y829, h_x783, (show 0 ≤ z842.toInt ∧ z842.toInt ≤ 13 by omega), ⟨hP9, hD9⟩, hS, lv_sub hl [0, 2, 3, 4, 5] rfl⟩
      · subst hz
        refine lv_if_eq (tgt := 96) hx hb dX5_readRound_41 (by decide) (fun _ => ?_) (fun hc => absurd hc (by decide))
        refine lv_aload_n hx hb dX5_readRound_96 rfl (lv_at hl 3 rfl) ?_
        refine va_ldcS hx hb hown (hE.2.2.2 6 (by decide)) dX5_readRound_97 ?_
        refine ct_callv (D := D) (wr := [dn qd vd_gap vd_odds vd_rain vd_lines qd_steps qd_lengths qd_starts qd_met qd_stumbles vd_stumbleCount qd_muds qd_cells vd_cellCount qd_tunes vd_tuneCount qd_changes vd_changeCount, (qd_steps, .inl (cI, 24, .inl (g775))), (qd_lengths, .inl (cI, 2, .inl (fd_lengths))), (qd_starts, .inl (cI, 2, .inl (fd_starts)))]) (va_runV (As := [.ref (G.1 6)]) (rest := []) ⟨hx, hb, hml, hown, hts⟩ (c_X5_takeWord l D G cI cJ cB cZ cO qr x776 x777 x778 qt qt_bytes ft_bytes vt_length x779 x780 x781 x782 6 h_vt_length h_x780 h_x781 (by decide) H.size) (cwV 1 hts gX5_readRound_X5_takeWord rfl rfl rfl (by decide +kernel) ⟨Nat.le_of_ble_eq_true rfl, Nat.le_of_ble_eq_true rfl⟩) (ct_preV (T := ct_T cI cJ cB cZ cO) (ci := 5) (q0 := 5) hE hH hP hD hS hA [5, 6, 4] (by decide) rfl rfl rfl) rfl rfl hl.1 rfl (lv_room (Nat.le_of_ble_eq_true rfl)) dX5_readRound_99 ⟨Nat.le_of_ble_eq_true rfl, Nat.le_of_ble_eq_true rfl⟩) hP hD hS hA [5, 6, 4] [0, 1, 2, 3] rfl rfl (by decide) (by decide) (fun u H locs hw hP hD hS => ?_)
        obtain ⟨y843, y844, y845, y846, y847, y848⟩ := u
        obtain ⟨hP, hD⟩ : ct_B D A H [dn qd vd_gap vd_odds vd_rain vd_lines qd_steps qd_lengths qd_starts qd_met qd_stumbles vd_stumbleCount qd_muds qd_cells vd_cellCount qd_tunes vd_tuneCount qd_changes vd_changeCount, (qd_steps, .inl (cI, 24, .inl (g775))), (qd_lengths, .inl (cI, 2, .inl (fd_lengths))), (qd_starts, .inl (cI, 2, .inl (fd_starts))), (qr, .inr (5, [.ref qt, .int x776, .int y843, .int y844])), (qt, .inr (8, [.ref qt_bytes, .int vt_length, .int y845, .int y846, .int y847, .int y848])), (qt_bytes, .inl (cB, 1200, .inl (ft_bytes)))] := ⟨hP, hD⟩
        obtain ⟨hp0, hp1⟩ := hw
        have h_y846 : 0 ≤ y846.toInt ∧ y846.toInt ≤ 1200 := hp0
        have h_y847 : 0 ≤ y847.toInt ∧ y847.toInt ≤ 1200 := hp1
        refine lv_aload_n hx hb dX5_readRound_102 rfl (lv_at hl 4 rfl) ?_
        refine va_get (D := D) (ci := 0) (v := .ref qd_starts) (C := RX0) (T := TX0) (N := 17) hx hb hts hi0 hown hK hP 0 rfl rfl 6 (by decide) (hts (.fieldLink RX5 130 "OverHill$Dance" "starts" "[I") (by decide +kernel)) (fun _ h9 => h9) rfl dX5_readRound_103 ?_
        refine lv_iload_n hx hb dX5_readRound_106 rfl (lv_at hl 2 rfl) ?_
        refine lv_aload_n hx hb dX5_readRound_107 rfl (lv_at hl 3 rfl) ?_
        refine lv_iconst (v := 0) hx hb dX5_readRound_108 (by decide) ?_
        refine lv_iload_n hx hb dX5_readRound_109 rfl (lv_at hl 1 rfl) ?_
        refine lv_iconst (v := 1) hx hb dX5_readRound_110 (by decide) ?_
        refine lv_isub hx hb dX5_readRound_111 ?_
        refine lv_topi (fun z849 ez849 => ?_)
        have fz849 : z849.toInt = x783.toInt - 1 := by rw [ez849]; exact tq_subt rfl (by decide) (by omega)
        refine ct_calli (D := D) (wr := [dn qd vd_gap vd_odds vd_rain vd_lines qd_steps qd_lengths qd_starts qd_met qd_stumbles vd_stumbleCount qd_muds qd_cells vd_cellCount qd_tunes vd_tuneCount qd_changes vd_changeCount, (qd_steps, .inl (cI, 24, .inl (g775))), (qd_lengths, .inl (cI, 2, .inl (fd_lengths))), (qd_starts, .inl (cI, 2, .inl (fd_starts)))]) (va_runV (As := [.int 0, .int z849]) (rest := [.int r5, .ref qd_starts]) ⟨hx, hb, hml, hown, hts⟩ (c_X5_takeNumber l D G cI cJ cB cZ cO qr x776 y843 y844 qt qt_bytes ft_bytes vt_length y845 y846 y847 y848 0 z849 h_vt_length h_y846 h_y847 H.size) (cwV 2 hts gX5_readRound_X5_takeNumber rfl rfl rfl (by decide +kernel) ⟨Nat.le_of_ble_eq_true rfl, Nat.le_of_ble_eq_true rfl⟩) (ct_preV (T := ct_T cI cJ cB cZ cO) (ci := 5) (q0 := 4) hE hH hP hD hS hA [4, 5, 6] (by decide) rfl rfl rfl) rfl rfl hl.1 rfl (lv_room (Nat.le_of_ble_eq_true rfl)) dX5_readRound_112 ⟨Nat.le_of_ble_eq_true rfl, Nat.le_of_ble_eq_true rfl⟩) hP hD hS hA [4, 5, 6] [0, 1, 2, 3] rfl rfl (by decide) (by decide) (fun r850 u H locs hw hP hD hS => ?_)
        obtain ⟨y851, y852, y853, y854, y855, y856, y857⟩ := u
        obtain ⟨hP, hD⟩ : ct_B D A H [dn qd vd_gap vd_odds vd_rain vd_lines qd_steps qd_lengths qd_starts qd_met qd_stumbles vd_stumbleCount qd_muds qd_cells vd_cellCount qd_tunes vd_tuneCount qd_changes vd_changeCount, (qd_steps, .inl (cI, 24, .inl (g775))), (qd_lengths, .inl (cI, 2, .inl (fd_lengths))), (qd_starts, .inl (cI, 2, .inl (fd_starts))), (qr, .inr (5, [.ref qt, .int y851, .int y852, .int y853])), (qt, .inr (8, [.ref qt_bytes, .int vt_length, .int y854, .int y855, .int y856, .int y857])), (qt_bytes, .inl (cB, 1200, .inl (ft_bytes)))] := ⟨hP, hD⟩
        have hk858 : (0 : Int32).toInt = 0 := by decide
        obtain ⟨hz, hp0, hp1⟩ := hw
        have h_y855 : 0 ≤ y855.toInt ∧ y855.toInt ≤ 1200 := hp0
        have h_y856 : 0 ≤ y856.toInt ∧ y856.toInt ≤ 1200 := hp1
        have h_r850 : r850.toInt = (0 : Int32).toInt ∨ ((0 : Int32).toInt ≤ r850.toInt ∧ r850.toInt ≤ z849.toInt) := hz
        refine va_iast (D := D) hx hb hK hP hD hS 3 0 rfl rfl (tq_in rfl (by omega)) dX5_readRound_115 (fun H locs hP hD hS => ?_)
        obtain ⟨g859, h_g859, hP, hD⟩ : ∃ g859 : Nat → Int32, ar_ok [0] [11] g859 ∧ ct_B D A H [dn qd vd_gap vd_odds vd_rain vd_lines qd_steps qd_lengths qd_starts qd_met qd_stumbles vd_stumbleCount qd_muds qd_cells vd_cellCount qd_tunes vd_tuneCount qd_changes vd_changeCount, (qd_steps, .inl (cI, 24, .inl (g775))), (qd_lengths, .inl (cI, 2, .inl (fd_lengths))), (qd_starts, .inl (cI, 2, .inl (g859))), (qr, .inr (5, [.ref qt, .int y851, .int y852, .int y853])), (qt, .inr (8, [.ref qt_bytes, .int vt_length, .int y854, .int y855, .int y856, .int y857])), (qt_bytes, .inl (cB, 1200, .inl (ft_bytes)))] := ⟨_, ar_set h_fd_starts r5 r850 0 (by omega) (show r5.toInt % 1 = 0 by omega) rfl (show 0 ≤ r850.toInt ∧ r850.toInt ≤ 11 by omega), hP, hD⟩
        refine lv_aload_n hx hb dX5_readRound_116 rfl (lv_at hl 4 rfl) ?_
        refine va_get (D := D) (ci := 0) (v := .ref qd_lengths) (C := RX0) (T := TX0) (N := 17) hx hb hts hi0 hown hK hP 0 rfl rfl 5 (by decide) (hts (.fieldLink RX5 133 "OverHill$Dance" "lengths" "[I") (by decide +kernel)) (fun _ h9 => h9) rfl dX5_readRound_117 ?_
        refine lv_iload_n hx hb dX5_readRound_120 rfl (lv_at hl 2 rfl) ?_
        refine lv_iload_n hx hb dX5_readRound_121 rfl (lv_at hl 1 rfl) ?_
        refine va_iast (D := D) hx hb hK hP hD hS 2 0 rfl rfl (tq_in rfl (by omega)) dX5_readRound_122 (fun H locs hP hD hS => ?_)
        obtain ⟨g860, h_g860, hP, hD⟩ : ∃ g860 : Nat → Int32, ar_ok [0] [12] g860 ∧ ct_B D A H [dn qd vd_gap vd_odds vd_rain vd_lines qd_steps qd_lengths qd_starts qd_met qd_stumbles vd_stumbleCount qd_muds qd_cells vd_cellCount qd_tunes vd_tuneCount qd_changes vd_changeCount, (qd_steps, .inl (cI, 24, .inl (g775))), (qd_lengths, .inl (cI, 2, .inl (g860))), (qd_starts, .inl (cI, 2, .inl (g859))), (qr, .inr (5, [.ref qt, .int y851, .int y852, .int y853])), (qt, .inr (8, [.ref qt_bytes, .int vt_length, .int y854, .int y855, .int y856, .int y857])), (qt_bytes, .inl (cB, 1200, .inl (ft_bytes)))] := ⟨_, ar_set h_fd_lengths r5 x783 0 (by omega) (show r5.toInt % 1 = 0 by omega) rfl (show 0 ≤ x783.toInt ∧ x783.toInt ≤ 12 by omega), hP, hD⟩
        obtain ⟨hP9, hD9⟩ : ct_B D A H [(qr, .inr (5, [.ref qt, .int y851, .int y852, .int y853])), (qt, .inr (8, [.ref qt_bytes, .int vt_length, .int y854, .int y855, .int y856, .int y857])), (qt_bytes, .inl (cB, 1200, .inl (ft_bytes))), dn qd vd_gap vd_odds vd_rain vd_lines qd_steps qd_lengths qd_starts qd_met qd_stumbles vd_stumbleCount qd_muds qd_cells vd_cellCount qd_tunes vd_tuneCount qd_changes vd_changeCount, (qd_steps, .inl (cI, 24, .inl (g775))), (qd_lengths, .inl (cI, 2, .inl (g860))), (qd_starts, .inl (cI, 2, .inl (g859)))] := ⟨hP.sub [4, 5, 6, 0, 1, 2, 3] rfl, hD.sub [4, 5, 6, 0, 1, 2, 3] (by decide) rfl⟩
        exact W.vret hx hb hr (fun t ht hW => ⟨⟨(y851, y852, y853, y854, y855, y856, y857, g775, g860, g859), rfl, ⟨h_y855, h_y856, h_g775, h_g860, h_g859⟩, by rw [ht]; exact hP9, hD9⟩, hS.F ht⟩) hS.2.2 dX5_readRound_123
abbrev w_c_X5_readAnswers (cI cJ cB cZ cO : ClassId) (qr : Nat) (vr_numberPlace : Int32) (vr_fault : Int32) (vr_faultPlace : Int32) (qt : Nat) (qt_bytes : Nat) (ft_bytes : Nat → Int32) (vt_length : Int32) (vt_kind : Int32) (vt_from : Int32) (vt_upto : Int32) (vt_value : Int32) (qd : Nat) (vd_gap : Int32) (vd_odds : Int32) (vd_rain : Int32) (vd_lines : Int32) (qd_steps : Nat) (qd_lengths : Nat) (qd_starts : Nat) (qd_met : Nat) (fd_met : Nat → Int32) (qd_stumbles : Nat) (vd_stumbleCount : Int32) (qd_muds : Nat) (qd_cells : Nat) (vd_cellCount : Int32) (qd_tunes : Nat) (vd_tuneCount : Int32) (qd_changes : Nat) (vd_changeCount : Int32) : va_W := [(qr, .inr (5, [.ref qt, .int vr_numberPlace, .int vr_fault, .int vr_faultPlace])), (qt, .inr (8, [.ref qt_bytes, .int vt_length, .int vt_kind, .int vt_from, .int vt_upto, .int vt_value])), (qt_bytes, .inl (cB, 1200, .inl (ft_bytes))), dn qd vd_gap vd_odds vd_rain vd_lines qd_steps qd_lengths qd_starts qd_met qd_stumbles vd_stumbleCount qd_muds qd_cells vd_cellCount qd_tunes vd_tuneCount qd_changes vd_changeCount, (qd_met, .inl (cI, 6, .inl (fd_met)))]
set_option maxHeartbeats 4000000 in
set_option maxRecDepth 100000 in
/-- X5 readAnswers -/
theorem c_X5_readAnswers (l : Launch) (D : va_G) (G : ct_G) (cI cJ cB cZ cO : ClassId) (qr : Nat) (vr_numberPlace : Int32) (vr_fault : Int32) (vr_faultPlace : Int32) (qt : Nat) (qt_bytes : Nat) (ft_bytes : Nat → Int32) (vt_length : Int32) (vt_kind : Int32) (vt_from : Int32) (vt_upto : Int32) (vt_value : Int32) (qd : Nat) (vd_gap : Int32) (vd_odds : Int32) (vd_rain : Int32) (vd_lines : Int32) (qd_steps : Nat) (qd_lengths : Nat) (qd_starts : Nat) (qd_met : Nat) (fd_met : Nat → Int32) (qd_stumbles : Nat) (vd_stumbleCount : Int32) (qd_muds : Nat) (qd_cells : Nat) (vd_cellCount : Int32) (qd_tunes : Nat) (vd_tuneCount : Int32) (qd_changes : Nat) (vd_changeCount : Int32) (h_vt_length : 0 ≤ vt_length.toInt ∧ vt_length.toInt ≤ 1200) (h_vt_from : 0 ≤ vt_from.toInt ∧ vt_from.toInt ≤ 1200) (h_vt_upto : 0 ≤ vt_upto.toInt ∧ vt_upto.toInt ≤ 1200) (h_vd_gap : 0 ≤ vd_gap.toInt ∧ vd_gap.toInt ≤ 20) (h_vd_stumbleCount : 0 ≤ vd_stumbleCount.toInt ∧ vd_stumbleCount.toInt ≤ 8) (h_vd_cellCount : 0 ≤ vd_cellCount.toInt ∧ vd_cellCount.toInt ≤ 12) (h_vd_tuneCount : 0 ≤ vd_tuneCount.toInt ∧ vd_tuneCount.toInt ≤ 5) (h_vd_changeCount : 0 ≤ vd_changeCount.toInt ∧ vd_changeCount.toInt ≤ 40) (sz : Nat) : Met l yX5_readAnswers wsX5_readAnswers ({ frames := 3, cells := 0, slots := 0, locals := 67 }) (va_Pc [.ref qr, .ref qd] (ct_P D (ct_T cI cJ cB cZ cO) G (w_c_X5_readAnswers cI cJ cB cZ cO qr vr_numberPlace vr_fault vr_faultPlace qt qt_bytes ft_bytes vt_length vt_kind vt_from vt_upto vt_value qd vd_gap vd_odds vd_rain vd_lines qd_steps qd_lengths qd_starts qd_met fd_met qd_stumbles vd_stumbleCount qd_muds qd_cells vd_cellCount qd_tunes vd_tuneCount qd_changes vd_changeCount) sz)) (va_Qv (fun (u : Int32 × Int32 × Int32 × Int32 × Int32 × Int32 × Int32 × (Nat → Int32)) => (0 ≤ u.2.2.2.2.1.toInt ∧ u.2.2.2.2.1.toInt ≤ 1200) ∧ (0 ≤ u.2.2.2.2.2.1.toInt ∧ u.2.2.2.2.2.1.toInt ≤ 1200)) (fun (u : Int32 × Int32 × Int32 × Int32 × Int32 × Int32 × Int32 × (Nat → Int32)) t => ct_Q D (va_A (w_c_X5_readAnswers cI cJ cB cZ cO qr vr_numberPlace vr_fault vr_faultPlace qt qt_bytes ft_bytes vt_length vt_kind vt_from vt_upto vt_value qd vd_gap vd_odds vd_rain vd_lines qd_steps qd_lengths qd_starts qd_met fd_met qd_stumbles vd_stumbleCount qd_muds qd_cells vd_cellCount qd_tunes vd_tuneCount qd_changes vd_changeCount) sz) [(qr, .inr (5, [.ref qt, .int u.1, .int u.2.1, .int u.2.2.1])), (qt, .inr (8, [.ref qt_bytes, .int vt_length, .int u.2.2.2.1, .int u.2.2.2.2.1, .int u.2.2.2.2.2.1, .int u.2.2.2.2.2.2.1])), (qt_bytes, .inl (cB, 1200, .inl (ft_bytes))), dn qd vd_gap vd_odds vd_rain vd_lines qd_steps qd_lengths qd_starts qd_met qd_stumbles vd_stumbleCount qd_muds qd_cells vd_cellCount qd_tunes vd_tuneCount qd_changes vd_changeCount, (qd_met, .inl (cI, 6, .inl (u.2.2.2.2.2.2.2)))] t) (va_A (w_c_X5_readAnswers cI cJ cB cZ cO qr vr_numberPlace vr_fault vr_faultPlace qt qt_bytes ft_bytes vt_length vt_kind vt_from vt_upto vt_value qd vd_gap vd_odds vd_rain vd_lines qd_steps qd_lengths qd_starts qd_met fd_met qd_stumbles vd_stumbleCount qd_muds qd_cells vd_cellCount qd_tunes vd_tuneCount qd_changes vd_changeCount) sz)) 0 0 (va_A (w_c_X5_readAnswers cI cJ cB cZ cO qr vr_numberPlace vr_fault vr_faultPlace qt qt_bytes ft_bytes vt_length vt_kind vt_from vt_upto vt_value qd vd_gap vd_odds vd_rain vd_lines qd_steps qd_lengths qd_starts qd_met fd_met qd_stumbles vd_stumbleCount qd_muds qd_cells vd_cellCount qd_tunes vd_tuneCount qd_changes vd_changeCount) sz) := by
  refine Met.ofW (cc := cX5_readAnswers) (maxL := 5) (ret := none) (by decide) rfl ?_
  intro p e s m args below meth c s₁ B hml hv
  obtain ⟨rfl, hsz, hP, hE, hD0, hH⟩ := hv
  have hx := B.exec
  have hb := B.bytes
  have hr := B.returns
  have hts := atoms_spec (ws := wsX5_readAnswers) B.pre
  have hown : s.vm.findClass RX5 = some m.cls := findClass_of_methodNamed B.named
  have hlocks := B.notSynchronized
  have hK := hE.1
  have hi0 : ∀ w ∈ u_ws RX0 TX0 17, w ∈ wsX5_readAnswers := fun w h => List.mem_cons_of_mem _ (List.mem_append_left _ (List.mem_append_right _ h))
  have hi5 : ∀ w ∈ u_ws RX5 TX5 4, w ∈ wsX5_readAnswers := fun w h => List.mem_cons_of_mem _ (List.mem_append_left _ (List.mem_append_left _ (List.mem_append_right _ h)))
  subst hsz
  have hD := hD0.self (sz := s.heap.size)
  generalize hAe : va_A (w_c_X5_readAnswers cI cJ cB cZ cO qr vr_numberPlace vr_fault vr_faultPlace qt qt_bytes ft_bytes vt_length vt_kind vt_from vt_upto vt_value qd vd_gap vd_odds vd_rain vd_lines qd_steps qd_lengths qd_starts qd_met fd_met qd_stumbles vd_stumbleCount qd_muds qd_cells vd_cellCount qd_tunes vd_tuneCount qd_changes vd_changeCount) s.heap.size = A at hD hH ⊢
  have hA : ∀ q : Nat, s.heap.size ≤ q → A q := fun q h => by rw [← hAe]; exact Or.inr h
  have hS : va_S A s.heap s.heap [] := va_S.rf
  obtain ⟨hP, hD⟩ : ct_B D A s.heap [(qr, .inr (5, [.ref qt, .int vr_numberPlace, .int vr_fault, .int vr_faultPlace])), (qt, .inr (8, [.ref qt_bytes, .int vt_length, .int vt_kind, .int vt_from, .int vt_upto, .int vt_value])), (qt_bytes, .inl (cB, 1200, .inl (ft_bytes))), dn qd vd_gap vd_odds vd_rain vd_lines qd_steps qd_lengths qd_starts qd_met qd_stumbles vd_stumbleCount qd_muds qd_cells vd_cellCount qd_tunes vd_tuneCount qd_changes vd_changeCount, (qd_met, .inl (cI, 6, .inl (fd_met)))] := ⟨hP, hD⟩
  have hl := lv_entry ([.ref qr, .ref qd]) (n := 5) (Nat.le_of_ble_eq_true rfl)
  rw [lg_entry_eq]
  generalize (lg_sl ([.ref qr, .ref qd]) ++ List.replicate (5 - (lg_sl ([.ref qr, .ref qd])).length) Slot.unset).toArray = ls at hl ⊢
  have hl : lv_has ls 5 [(0, .ref qr), (1, .ref qd)] := hl
  obtain ⟨H, hHe⟩ : ∃ H : Heap, H = s.heap := ⟨_, rfl⟩
  rw [← hHe] at hP
  have hS : va_S A s.heap H [] := by rw [hHe]; exact va_S.rf
  refine ct_start hHe ?_
  refine lv_aload_n hx hb dX5_readAnswers_0 rfl (lv_at hl 0 rfl) ?_
  refine va_get (D := D) (ci := 5) (v := .ref qt) (C := RX5) (T := TX5) (N := 4) hx hb hts hi5 hown hK hP 0 rfl rfl 0 (by decide) (hts (.fieldLink RX5 12 "OverHill$Reader" "tape" "LOverHill$Tape;") (by decide +kernel)) (fun _ h9 => h9) rfl dX5_readAnswers_1 ?_
  refine ct_callv (D := D) (wr := [(qr, .inr (5, [.ref qt, .int vr_numberPlace, .int vr_fault, .int vr_faultPlace])), dn qd vd_gap vd_odds vd_rain vd_lines qd_steps qd_lengths qd_starts qd_met qd_stumbles vd_stumbleCount qd_muds qd_cells vd_cellCount qd_tunes vd_tuneCount qd_changes vd_changeCount, (qd_met, .inl (cI, 6, .inl (fd_met)))]) (va_runV (As := []) (rest := []) ⟨hx, hb, hml, hown, hts⟩ (c_X8_advance l D G cI cJ cB cZ cO qt qt_bytes ft_bytes vt_length vt_kind vt_from vt_upto vt_value h_vt_length h_vt_from h_vt_upto H.size) (cwV 0 hts gX5_readAnswers_X8_advance rfl rfl rfl (by decide +kernel) ⟨Nat.le_of_ble_eq_true rfl, Nat.le_of_ble_eq_true rfl⟩) (ct_preV (T := ct_T cI cJ cB cZ cO) (ci := 8) (q0 := 1) hE hH hP hD hS hA [1, 2] (by decide) rfl rfl rfl) rfl rfl hl.1 rfl (lv_room (Nat.le_of_ble_eq_true rfl)) dX5_readAnswers_4 ⟨Nat.le_of_ble_eq_true rfl, Nat.le_of_ble_eq_true rfl⟩) hP hD hS hA [1, 2] [0, 3, 4] rfl rfl (by decide) (by decide) (fun u H locs hw hP hD hS => ?_)
  obtain ⟨y1, y2, y3, y4⟩ := u
  obtain ⟨hP, hD⟩ : ct_B D A H [(qr, .inr (5, [.ref qt, .int vr_numberPlace, .int vr_fault, .int vr_faultPlace])), dn qd vd_gap vd_odds vd_rain vd_lines qd_steps qd_lengths qd_starts qd_met qd_stumbles vd_stumbleCount qd_muds qd_cells vd_cellCount qd_tunes vd_tuneCount qd_changes vd_changeCount, (qd_met, .inl (cI, 6, .inl (fd_met))), (qt, .inr (8, [.ref qt_bytes, .int vt_length, .int y1, .int y2, .int y3, .int y4])), (qt_bytes, .inl (cB, 1200, .inl (ft_bytes)))] := ⟨hP, hD⟩
  obtain ⟨hp0, hp1⟩ := hw
  have h_y2 : 0 ≤ y2.toInt ∧ y2.toInt ≤ 1200 := hp0
  have h_y3 : 0 ≤ y3.toInt ∧ y3.toInt ≤ 1200 := hp1
  refine lv_aload_n hx hb dX5_readAnswers_7 rfl (lv_at hl 0 rfl) ?_
  refine lv_iconst (v := 0) hx hb dX5_readAnswers_8 (by decide) ?_
  refine lv_iconst (v := 5) hx hb dX5_readAnswers_9 (by decide) ?_
  refine ct_calli (D := D) (wr := [dn qd vd_gap vd_odds vd_rain vd_lines qd_steps qd_lengths qd_starts qd_met qd_stumbles vd_stumbleCount qd_muds qd_cells vd_cellCount qd_tunes vd_tuneCount qd_changes vd_changeCount, (qd_met, .inl (cI, 6, .inl (fd_met)))]) (va_runV (As := [.int 0, .int 5]) (rest := []) ⟨hx, hb, hml, hown, hts⟩ (c_X5_takeNumber l D G cI cJ cB cZ cO qr vr_numberPlace vr_fault vr_faultPlace qt qt_bytes ft_bytes vt_length y1 y2 y3 y4 0 5 h_vt_length h_y2 h_y3 H.size) (cwV 2 hts gX5_readAnswers_X5_takeNumber rfl rfl rfl (by decide +kernel) ⟨Nat.le_of_ble_eq_true rfl, Nat.le_of_ble_eq_true rfl⟩) (ct_preV (T := ct_T cI cJ cB cZ cO) (ci := 5) (q0 := 0) hE hH hP hD hS hA [0, 3, 4] (by decide) rfl rfl rfl) rfl rfl hl.1 rfl (lv_room (Nat.le_of_ble_eq_true rfl)) dX5_readAnswers_10 ⟨Nat.le_of_ble_eq_true rfl, Nat.le_of_ble_eq_true rfl⟩) hP hD hS hA [0, 3, 4] [1, 2] rfl rfl (by decide) (by decide) (fun r5 u H locs hw hP hD hS => ?_)
  obtain ⟨y6, y7, y8, y9, y10, y11, y12⟩ := u
  obtain ⟨hP, hD⟩ : ct_B D A H [dn qd vd_gap vd_odds vd_rain vd_lines qd_steps qd_lengths qd_starts qd_met qd_stumbles vd_stumbleCount qd_muds qd_cells vd_cellCount qd_tunes vd_tuneCount qd_changes vd_changeCount, (qd_met, .inl (cI, 6, .inl (fd_met))), (qr, .inr (5, [.ref qt, .int y6, .int y7, .int y8])), (qt, .inr (8, [.ref qt_bytes, .int vt_length, .int y9, .int y10, .int y11, .int y12])), (qt_bytes, .inl (cB, 1200, .inl (ft_bytes)))] := ⟨hP, hD⟩
  have hk13 : (0 : Int32).toInt = 0 := by decide
  have hk14 : (5 : Int32).toInt = 5 := by decide
  obtain ⟨hz, hp0, hp1⟩ := hw
  have h_y10 : 0 ≤ y10.toInt ∧ y10.toInt ≤ 1200 := hp0
  have h_y11 : 0 ≤ y11.toInt ∧ y11.toInt ≤ 1200 := hp1
  have h_r5 : r5.toInt = (0 : Int32).toInt ∨ ((0 : Int32).toInt ≤ r5.toInt ∧ r5.toInt ≤ (5 : Int32).toInt) := hz
  refine lv_istore_n (lv' := [(2, .int r5), (0, .ref qr), (1, .ref qd)]) hx hb dX5_readAnswers_13 rfl hl (by decide) rfl (fun ls hl => ?_)
  refine lv_iconst (v := 0) hx hb dX5_readAnswers_14 (by decide) ?_
  refine lv_istore_n (lv' := [(3, .int 0), (2, .int r5), (0, .ref qr), (1, .ref qd)]) hx hb dX5_readAnswers_15 rfl hl (by decide) rfl (fun ls hl => ?_)
  refine lv_iconst (v := 0) hx hb dX5_readAnswers_16 (by decide) ?_
  refine lv_istore (lv' := [(4, .int 0), (3, .int 0), (2, .int r5), (0, .ref qr), (1, .ref qd)]) hx hb dX5_readAnswers_17 hl (by decide) rfl (fun ls hl => ?_)
  refine ct_loop (X := Int32 × Int32 × Int32 × Int32 × Int32 × Int32 × Int32 × Int32 × Int32) (fun x => (1200 - x.2.2.2.2.2.2.2.2.toInt).toNat) (fun x H locs ls => ((0 ≤ x.2.2.2.2.1.toInt ∧ x.2.2.2.2.1.toInt ≤ 1200)) ∧ ((0 ≤ x.2.2.2.2.2.1.toInt ∧ x.2.2.2.2.2.1.toInt ≤ 1200)) ∧ ((0 ≤ x.2.2.2.2.2.2.2.2.toInt ∧ x.2.2.2.2.2.2.2.2.toInt ≤ 1200)) ∧ ct_B D A H [dn qd vd_gap vd_odds vd_rain vd_lines qd_steps qd_lengths qd_starts qd_met qd_stumbles vd_stumbleCount qd_muds qd_cells vd_cellCount qd_tunes vd_tuneCount qd_changes vd_changeCount, (qd_met, .inl (cI, 6, .inl (fd_met))), (qr, .inr (5, [.ref qt, .int x.1, .int x.2.1, .int x.2.2.1])), (qt, .inr (8, [.ref qt_bytes, .int vt_length, .int x.2.2.2.1, .int x.2.2.2.2.1, .int x.2.2.2.2.2.1, .int x.2.2.2.2.2.2.1])), (qt_bytes, .inl (cB, 1200, .inl (ft_bytes)))] ∧ va_S A s.heap H locs ∧ lv_has ls 5 [(4, .int x.2.2.2.2.2.2.2.2), (3, .int x.2.2.2.2.2.2.2.1), (2, .int r5), (0, .ref qr), (1, .ref qd)]) 19 (y6, y7, y8, y9, y10, y11, y12, (0 : Int32), (0 : Int32)) ⟨h_y10, h_y11, (show 0 ≤ (0 : Int32).toInt ∧ (0 : Int32).toInt ≤ 1200 by decide), ⟨hP, hD⟩, hS, lv_sub hl [0, 1, 2, 3, 4] rfl⟩ (fun x ih429 H locs ls hI => ?_)
  obtain ⟨x420, x421, x422, x423, x424, x425, x426, x427, x428⟩ := x
  obtain ⟨h_x424, h_x425, h_x428, ⟨hP, hD⟩, hS, hl⟩ := hI
  have h_x424 : (0 ≤ x424.toInt ∧ x424.toInt ≤ 1200) := h_x424
  have h_x425 : (0 ≤ x425.toInt ∧ x425.toInt ≤ 1200) := h_x425
  have h_x428 : (0 ≤ x428.toInt ∧ x428.toInt ≤ 1200) := h_x428
  obtain ⟨hP, hD⟩ : ct_B D A H [dn qd vd_gap vd_odds vd_rain vd_lines qd_steps qd_lengths qd_starts qd_met qd_stumbles vd_stumbleCount qd_muds qd_cells vd_cellCount qd_tunes vd_tuneCount qd_changes vd_changeCount, (qd_met, .inl (cI, 6, .inl (fd_met))), (qr, .inr (5, [.ref qt, .int x420, .int x421, .int x422])), (qt, .inr (8, [.ref qt_bytes, .int vt_length, .int x423, .int x424, .int x425, .int x426])), (qt_bytes, .inl (cB, 1200, .inl (ft_bytes)))] := ⟨hP, hD⟩
  have hl : lv_has ls 5 [(4, .int x428), (3, .int x427), (2, .int r5), (0, .ref qr), (1, .ref qd)] := hl
  refine lv_iload hx hb dX5_readAnswers_19 (lv_at hl 0 rfl) ?_
  refine lv_sipush (v := 1200) hx hb dX5_readAnswers_21 (by decide) ?_
  refine lv_icmp_ge (tgt := 51) hx hb dX5_readAnswers_24 (by decide) (fun hc => ?_) (fun hc => ?_)
  · have hq430 : 1200 ≤ x428.toInt := tq_le (by decide) rfl hc
    refine lv_aload_n hx hb dX5_readAnswers_51 rfl (lv_at hl 4 rfl) ?_
    refine va_get (D := D) (ci := 0) (v := .ref qd_met) (C := RX0) (T := TX0) (N := 17) hx hb hts hi0 hown hK hP 0 rfl rfl 7 (by decide) (hts (.fieldLink RX5 136 "OverHill$Dance" "met" "[I") (by decide +kernel)) (fun _ h9 => h9) rfl dX5_readAnswers_52 ?_
    refine lv_iload_n hx hb dX5_readAnswers_55 rfl (lv_at hl 2 rfl) ?_
    refine lv_iload_n hx hb dX5_readAnswers_56 rfl (lv_at hl 1 rfl) ?_
    refine va_iast (D := D) hx hb hK hP hD hS 1 0 rfl rfl (tq_in rfl (by omega)) dX5_readAnswers_57 (fun H locs hP hD hS => ?_)
    obtain ⟨g431, hP, hD⟩ : ∃ g431 : Nat → Int32, ct_B D A H [dn qd vd_gap vd_odds vd_rain vd_lines qd_steps qd_lengths qd_starts qd_met qd_stumbles vd_stumbleCount qd_muds qd_cells vd_cellCount qd_tunes vd_tuneCount qd_changes vd_changeCount, (qd_met, .inl (cI, 6, .inl (g431))), (qr, .inr (5, [.ref qt, .int x420, .int x421, .int x422])), (qt, .inr (8, [.ref qt_bytes, .int vt_length, .int x423, .int x424, .int x425, .int x426])), (qt_bytes, .inl (cB, 1200, .inl (ft_bytes)))] := ⟨_, hP, hD⟩
    obtain ⟨hP9, hD9⟩ : ct_B D A H [(qr, .inr (5, [.ref qt, .int x420, .int x421, .int x422])), (qt, .inr (8, [.ref qt_bytes, .int vt_length, .int x423, .int x424, .int x425, .int x426])), (qt_bytes, .inl (cB, 1200, .inl (ft_bytes))), dn qd vd_gap vd_odds vd_rain vd_lines qd_steps qd_lengths qd_starts qd_met qd_stumbles vd_stumbleCount qd_muds qd_cells vd_cellCount qd_tunes vd_tuneCount qd_changes vd_changeCount, (qd_met, .inl (cI, 6, .inl (g431)))] := ⟨hP.sub [2, 3, 4, 0, 1] rfl, hD.sub [2, 3, 4, 0, 1] (by decide) rfl⟩
    exact W.vret hx hb hr (fun t ht hW => ⟨⟨(x420, x421, x422, x423, x424, x425, x426, g431), rfl, ⟨h_x424, h_x425⟩, by rw [ht]; exact hP9, hD9⟩, hS.F ht⟩) hS.2.2 dX5_readAnswers_58
  · have hq430 : x428.toInt < 1200 := tq_nle (by decide) rfl hc
    refine lv_aload_n hx hb dX5_readAnswers_27 rfl (lv_at hl 3 rfl) ?_
    refine ct_calli (D := D) (wr := [dn qd vd_gap vd_odds vd_rain vd_lines qd_steps qd_lengths qd_starts qd_met qd_stumbles vd_stumbleCount qd_muds qd_cells vd_cellCount qd_tunes vd_tuneCount qd_changes vd_changeCount, (qd_met, .inl (cI, 6, .inl (fd_met))), (qt_bytes, .inl (cB, 1200, .inl (ft_bytes)))]) (va_runV (As := []) (rest := []) ⟨hx, hb, hml, hown, hts⟩ (c_X5_seesNumber l D G cI cJ cB cZ cO qr x420 x421 x422 qt qt_bytes vt_length x423 x424 x425 x426 h_vt_length h_x424 h_x425 H.size) (cwV 0 hts gX5_readAnswers_X5_seesNumber rfl rfl rfl (by decide +kernel) ⟨Nat.le_of_ble_eq_true rfl, Nat.le_of_ble_eq_true rfl⟩) (ct_preV (T := ct_T cI cJ cB cZ cO) (ci := 5) (q0 := 2) hE hH hP hD hS hA [2, 3] (by decide) rfl rfl rfl) rfl rfl hl.1 rfl (lv_room (Nat.le_of_ble_eq_true rfl)) dX5_readAnswers_28 ⟨Nat.le_of_ble_eq_true rfl, Nat.le_of_ble_eq_true rfl⟩) hP hD hS hA [2, 3] [0, 1, 4] rfl rfl (by decide) (by decide) (fun r432 u H locs hw hP hD hS => ?_)
    obtain ⟨hP, hD⟩ : ct_B D A H [dn qd vd_gap vd_odds vd_rain vd_lines qd_steps qd_lengths qd_starts qd_met qd_stumbles vd_stumbleCount qd_muds qd_cells vd_cellCount qd_tunes vd_tuneCount qd_changes vd_changeCount, (qd_met, .inl (cI, 6, .inl (fd_met))), (qt_bytes, .inl (cB, 1200, .inl (ft_bytes))), (qr, .inr (5, [.ref qt, .int x420, .int x421, .int x422])), (qt, .inr (8, [.ref qt_bytes, .int vt_length, .int x423, .int x424, .int x425, .int x426]))] := ⟨hP, hD⟩
    have hz := hw
    rcases hz with ⟨hz, hz2⟩ | ⟨hz, hz2⟩
    · subst hz
      refine lv_if_eq (tgt := 51) hx hb dX5_readAnswers_31 (by decide) (fun hc => absurd hc (by decide)) (fun _ => ?_)
      refine lv_iload_n hx hb dX5_readAnswers_34 rfl (lv_at hl 1 rfl) ?_
      refine lv_iconst (v := 1) hx hb dX5_readAnswers_35 (by decide) ?_
      refine lv_aload_n hx hb dX5_readAnswers_36 rfl (lv_at hl 3 rfl) ?_
      refine lv_iconst (v := 0) hx hb dX5_readAnswers_37 (by decide) ?_
      refine lv_iconst (v := 5) hx hb dX5_readAnswers_38 (by decide) ?_
      refine ct_calli (D := D) (wr := [dn qd vd_gap vd_odds vd_rain vd_lines qd_steps qd_lengths qd_starts qd_met qd_stumbles vd_stumbleCount qd_muds qd_cells vd_cellCount qd_tunes vd_tuneCount qd_changes vd_changeCount, (qd_met, .inl (cI, 6, .inl (fd_met)))]) (va_runV (As := [.int 0, .int 5]) (rest := [.int 1, .int x427]) ⟨hx, hb, hml, hown, hts⟩ (c_X5_takeNumber l D G cI cJ cB cZ cO qr x420 x421 x422 qt qt_bytes ft_bytes vt_length x423 x424 x425 x426 0 5 h_vt_length h_x424 h_x425 H.size) (cwV 2 hts gX5_readAnswers_X5_takeNumber rfl rfl rfl (by decide +kernel) ⟨Nat.le_of_ble_eq_true rfl, Nat.le_of_ble_eq_true rfl⟩) (ct_preV (T := ct_T cI cJ cB cZ cO) (ci := 5) (q0 := 3) hE hH hP hD hS hA [3, 4, 2] (by decide) rfl rfl rfl) rfl rfl hl.1 rfl (lv_room (Nat.le_of_ble_eq_true rfl)) dX5_readAnswers_39 ⟨Nat.le_of_ble_eq_true rfl, Nat.le_of_ble_eq_true rfl⟩) hP hD hS hA [3, 4, 2] [0, 1] rfl rfl (by decide) (by decide) (fun r433 u H locs hw hP hD hS => ?_)
      obtain ⟨y434, y435, y436, y437, y438, y439, y440⟩ := u
      obtain ⟨hP, hD⟩ : ct_B D A H [dn qd vd_gap vd_odds vd_rain vd_lines qd_steps qd_lengths qd_starts qd_met qd_stumbles vd_stumbleCount qd_muds qd_cells vd_cellCount qd_tunes vd_tuneCount qd_changes vd_changeCount, (qd_met, .inl (cI, 6, .inl (fd_met))), (qr, .inr (5, [.ref qt, .int y434, .int y435, .int y436])), (qt, .inr (8, [.ref qt_bytes, .int vt_length, .int y437, .int y438, .int y439, .int y440])), (qt_bytes, .inl (cB, 1200, .inl (ft_bytes)))] := ⟨hP, hD⟩
      have hk441 : (0 : Int32).toInt = 0 := by decide
      have hk442 : (5 : Int32).toInt = 5 := by decide
      obtain ⟨hz, hp0, hp1⟩ := hw
      have h_y438 : 0 ≤ y438.toInt ∧ y438.toInt ≤ 1200 := hp0
      have h_y439 : 0 ≤ y439.toInt ∧ y439.toInt ≤ 1200 := hp1
      have h_r433 : r433.toInt = (0 : Int32).toInt ∨ ((0 : Int32).toInt ≤ r433.toInt ∧ r433.toInt ≤ (5 : Int32).toInt) := hz
      refine lv_ishl hx hb dX5_readAnswers_42 ?_
      refine lv_topi (fun z443 ez443 => ?_)
      have fz443 : 1 ≤ z443.toInt ∧ z443.toInt ≤ 32 := by rw [ez443]; exact tq_shl5 rfl (by omega)
      refine lv_ior hx hb dX5_readAnswers_43 ?_
      refine lv_topi (fun z444 ez444 => ?_)
      refine lv_istore_n (lv' := [(3, .int z444), (4, .int x428), (2, .int r5), (0, .ref qr), (1, .ref qd)]) hx hb dX5_readAnswers_44 rfl hl (by decide) rfl (fun ls hl => ?_)
      obtain ⟨z445, ez445⟩ : ∃ z : Int32, z = x428 + 1 := ⟨_, rfl⟩
      have fz445 : z445.toInt = x428.toInt + 1 := by rw [ez445]; exact tq_add rfl (by decide) (by omega)
      refine lv_iinc (v := z445) (lv' := [(4, .int z445), (3, .int z444), (2, .int r5), (0, .ref qr), (1, .ref qd)]) hx hb dX5_readAnswers_45 hl (k := 1) rfl ez445.symm (by decide) rfl (fun ls hl => ?_)
      refine lv_goto (tgt := 19) hx hb dX5_readAnswers_48 (by decide) ?_
      exact ih429 (y434, y435, y436, y437, y438, y439, y440, z444, z445) _ _ _ (show (1200 - z445.toInt).toNat < (1200 - x428.toInt).toNat by omega) ⟨h_y438, h_y439, (show 0 ≤ z445.toInt ∧ z445.toInt ≤ 1200 by omega), ⟨hP, hD⟩, hS, lv_sub hl [0, 1, 2, 3, 4] rfl⟩
    · subst hz
      refine lv_if_eq (tgt := 51) hx hb dX5_readAnswers_31 (by decide) (fun _ => ?_) (fun hc => absurd hc (by decide))
      refine lv_aload_n hx hb dX5_readAnswers_51 rfl (lv_at hl 4 rfl) ?_
      refine va_get (D := D) (ci := 0) (v := .ref qd_met) (C := RX0) (T := TX0) (N := 17) hx hb hts hi0 hown hK hP 0 rfl rfl 7 (by decide) (hts (.fieldLink RX5 136 "OverHill$Dance" "met" "[I") (by decide +kernel)) (fun _ h9 => h9) rfl dX5_readAnswers_52 ?_
      refine lv_iload_n hx hb dX5_readAnswers_55 rfl (lv_at hl 2 rfl) ?_
      refine lv_iload_n hx hb dX5_readAnswers_56 rfl (lv_at hl 1 rfl) ?_
      refine va_iast (D := D) hx hb hK hP hD hS 1 0 rfl rfl (tq_in rfl (by omega)) dX5_readAnswers_57 (fun H locs hP hD hS => ?_)
      obtain ⟨g446, hP, hD⟩ : ∃ g446 : Nat → Int32, ct_B D A H [dn qd vd_gap vd_odds vd_rain vd_lines qd_steps qd_lengths qd_starts qd_met qd_stumbles vd_stumbleCount qd_muds qd_cells vd_cellCount qd_tunes vd_tuneCount qd_changes vd_changeCount, (qd_met, .inl (cI, 6, .inl (g446))), (qt_bytes, .inl (cB, 1200, .inl (ft_bytes))), (qr, .inr (5, [.ref qt, .int x420, .int x421, .int x422])), (qt, .inr (8, [.ref qt_bytes, .int vt_length, .int x423, .int x424, .int x425, .int x426]))] := ⟨_, hP, hD⟩
      obtain ⟨hP9, hD9⟩ : ct_B D A H [(qr, .inr (5, [.ref qt, .int x420, .int x421, .int x422])), (qt, .inr (8, [.ref qt_bytes, .int vt_length, .int x423, .int x424, .int x425, .int x426])), (qt_bytes, .inl (cB, 1200, .inl (ft_bytes))), dn qd vd_gap vd_odds vd_rain vd_lines qd_steps qd_lengths qd_starts qd_met qd_stumbles vd_stumbleCount qd_muds qd_cells vd_cellCount qd_tunes vd_tuneCount qd_changes vd_changeCount, (qd_met, .inl (cI, 6, .inl (g446)))] := ⟨hP.sub [3, 4, 2, 0, 1] rfl, hD.sub [3, 4, 2, 0, 1] (by decide) rfl⟩
      exact W.vret hx hb hr (fun t ht hW => ⟨⟨(x420, x421, x422, x423, x424, x425, x426, g446), rfl, ⟨h_x424, h_x425⟩, by rw [ht]; exact hP9, hD9⟩, hS.F ht⟩) hS.2.2 dX5_readAnswers_58
abbrev w_c_X5_readStumble (cI cJ cB cZ cO : ClassId) (qr : Nat) (vr_numberPlace : Int32) (vr_fault : Int32) (vr_faultPlace : Int32) (qt : Nat) (qt_bytes : Nat) (ft_bytes : Nat → Int32) (vt_length : Int32) (vt_kind : Int32) (vt_from : Int32) (vt_upto : Int32) (vt_value : Int32) (qd : Nat) (vd_gap : Int32) (vd_odds : Int32) (vd_rain : Int32) (vd_lines : Int32) (qd_steps : Nat) (qd_lengths : Nat) (qd_starts : Nat) (qd_met : Nat) (qd_stumbles : Nat) (fd_stumbles : Nat → Int32) (vd_stumbleCount : Int32) (qd_muds : Nat) (qd_cells : Nat) (vd_cellCount : Int32) (qd_tunes : Nat) (vd_tuneCount : Int32) (qd_changes : Nat) (vd_changeCount : Int32) : va_W := [(qr, .inr (5, [.ref qt, .int vr_numberPlace, .int vr_fault, .int vr_faultPlace])), (qt, .inr (8, [.ref qt_bytes, .int vt_length, .int vt_kind, .int vt_from, .int vt_upto, .int vt_value])), (qt_bytes, .inl (cB, 1200, .inl (ft_bytes))), dn qd vd_gap vd_odds vd_rain vd_lines qd_steps qd_lengths qd_starts qd_met qd_stumbles vd_stumbleCount qd_muds qd_cells vd_cellCount qd_tunes vd_tuneCount qd_changes vd_changeCount, (qd_stumbles, .inl (cI, 32, .inl (fd_stumbles)))]
set_option maxHeartbeats 4000000 in
set_option maxRecDepth 100000 in
/-- X5 readStumble -/
theorem c_X5_readStumble (l : Launch) (D : va_G) (G : ct_G) (cI cJ cB cZ cO : ClassId) (qr : Nat) (vr_numberPlace : Int32) (vr_fault : Int32) (vr_faultPlace : Int32) (qt : Nat) (qt_bytes : Nat) (ft_bytes : Nat → Int32) (vt_length : Int32) (vt_kind : Int32) (vt_from : Int32) (vt_upto : Int32) (vt_value : Int32) (qd : Nat) (vd_gap : Int32) (vd_odds : Int32) (vd_rain : Int32) (vd_lines : Int32) (qd_steps : Nat) (qd_lengths : Nat) (qd_starts : Nat) (qd_met : Nat) (qd_stumbles : Nat) (fd_stumbles : Nat → Int32) (vd_stumbleCount : Int32) (qd_muds : Nat) (qd_cells : Nat) (vd_cellCount : Int32) (qd_tunes : Nat) (vd_tuneCount : Int32) (qd_changes : Nat) (vd_changeCount : Int32) (h_vt_length : 0 ≤ vt_length.toInt ∧ vt_length.toInt ≤ 1200) (h_vt_from : 0 ≤ vt_from.toInt ∧ vt_from.toInt ≤ 1200) (h_vt_upto : 0 ≤ vt_upto.toInt ∧ vt_upto.toInt ≤ 1200) (h_vd_gap : 0 ≤ vd_gap.toInt ∧ vd_gap.toInt ≤ 20) (h_fd_stumbles : ar_ok [(-2147483648), 0, 0, (-2147483648)] [2147483647, 199, 5, 2147483647] fd_stumbles) (h_vd_stumbleCount : 0 ≤ vd_stumbleCount.toInt ∧ vd_stumbleCount.toInt ≤ 8) (h_vd_cellCount : 0 ≤ vd_cellCount.toInt ∧ vd_cellCount.toInt ≤ 12) (h_vd_tuneCount : 0 ≤ vd_tuneCount.toInt ∧ vd_tuneCount.toInt ≤ 5) (h_vd_changeCount : 0 ≤ vd_changeCount.toInt ∧ vd_changeCount.toInt ≤ 40) (sz : Nat) : Met l yX5_readStumble wsX5_readStumble ({ frames := 6, cells := 0, slots := 0, locals := 128 }) (va_Pc [.ref qr, .ref qd] (ct_P D (ct_T cI cJ cB cZ cO) G (w_c_X5_readStumble cI cJ cB cZ cO qr vr_numberPlace vr_fault vr_faultPlace qt qt_bytes ft_bytes vt_length vt_kind vt_from vt_upto vt_value qd vd_gap vd_odds vd_rain vd_lines qd_steps qd_lengths qd_starts qd_met qd_stumbles fd_stumbles vd_stumbleCount qd_muds qd_cells vd_cellCount qd_tunes vd_tuneCount qd_changes vd_changeCount) sz)) (va_Qv (fun (u : Int32 × Int32 × Int32 × Int32 × Int32 × Int32 × Int32 × Int32 × (Nat → Int32)) => (0 ≤ u.2.2.2.2.1.toInt ∧ u.2.2.2.2.1.toInt ≤ 1200) ∧ (0 ≤ u.2.2.2.2.2.1.toInt ∧ u.2.2.2.2.2.1.toInt ≤ 1200) ∧ (0 ≤ u.2.2.2.2.2.2.2.1.toInt ∧ u.2.2.2.2.2.2.2.1.toInt ≤ 8) ∧ (ar_ok [(-2147483648), 0, 0, (-2147483648)] [2147483647, 199, 5, 2147483647] u.2.2.2.2.2.2.2.2)) (fun (u : Int32 × Int32 × Int32 × Int32 × Int32 × Int32 × Int32 × Int32 × (Nat → Int32)) t => ct_Q D (va_A (w_c_X5_readStumble cI cJ cB cZ cO qr vr_numberPlace vr_fault vr_faultPlace qt qt_bytes ft_bytes vt_length vt_kind vt_from vt_upto vt_value qd vd_gap vd_odds vd_rain vd_lines qd_steps qd_lengths qd_starts qd_met qd_stumbles fd_stumbles vd_stumbleCount qd_muds qd_cells vd_cellCount qd_tunes vd_tuneCount qd_changes vd_changeCount) sz) [(qr, .inr (5, [.ref qt, .int u.1, .int u.2.1, .int u.2.2.1])), (qt, .inr (8, [.ref qt_bytes, .int vt_length, .int u.2.2.2.1, .int u.2.2.2.2.1, .int u.2.2.2.2.2.1, .int u.2.2.2.2.2.2.1])), (qt_bytes, .inl (cB, 1200, .inl (ft_bytes))), dn qd vd_gap vd_odds vd_rain vd_lines qd_steps qd_lengths qd_starts qd_met qd_stumbles u.2.2.2.2.2.2.2.1 qd_muds qd_cells vd_cellCount qd_tunes vd_tuneCount qd_changes vd_changeCount, (qd_stumbles, .inl (cI, 32, .inl (u.2.2.2.2.2.2.2.2)))] t) (va_A (w_c_X5_readStumble cI cJ cB cZ cO qr vr_numberPlace vr_fault vr_faultPlace qt qt_bytes ft_bytes vt_length vt_kind vt_from vt_upto vt_value qd vd_gap vd_odds vd_rain vd_lines qd_steps qd_lengths qd_starts qd_met qd_stumbles fd_stumbles vd_stumbleCount qd_muds qd_cells vd_cellCount qd_tunes vd_tuneCount qd_changes vd_changeCount) sz)) 0 0 (va_A (w_c_X5_readStumble cI cJ cB cZ cO qr vr_numberPlace vr_fault vr_faultPlace qt qt_bytes ft_bytes vt_length vt_kind vt_from vt_upto vt_value qd vd_gap vd_odds vd_rain vd_lines qd_steps qd_lengths qd_starts qd_met qd_stumbles fd_stumbles vd_stumbleCount qd_muds qd_cells vd_cellCount qd_tunes vd_tuneCount qd_changes vd_changeCount) sz) := by
  refine Met.ofW (cc := cX5_readStumble) (maxL := 6) (ret := none) (by decide) rfl ?_
  intro p e s m args below meth c s₁ B hml hv
  obtain ⟨rfl, hsz, hP, hE, hD0, hH⟩ := hv
  have hx := B.exec
  have hb := B.bytes
  have hr := B.returns
  have hts := atoms_spec (ws := wsX5_readStumble) B.pre
  have hown : s.vm.findClass RX5 = some m.cls := findClass_of_methodNamed B.named
  have hlocks := B.notSynchronized
  have hK := hE.1
  have hi0 : ∀ w ∈ u_ws RX0 TX0 17, w ∈ wsX5_readStumble := fun w h => List.mem_cons_of_mem _ (List.mem_append_left _ (List.mem_append_left _ (List.mem_append_right _ h)))
  have hi5 : ∀ w ∈ u_ws RX5 TX5 4, w ∈ wsX5_readStumble := fun w h => List.mem_cons_of_mem _ (List.mem_append_left _ (List.mem_append_right _ h))
  subst hsz
  have hD := hD0.self (sz := s.heap.size)
  generalize hAe : va_A (w_c_X5_readStumble cI cJ cB cZ cO qr vr_numberPlace vr_fault vr_faultPlace qt qt_bytes ft_bytes vt_length vt_kind vt_from vt_upto vt_value qd vd_gap vd_odds vd_rain vd_lines qd_steps qd_lengths qd_starts qd_met qd_stumbles fd_stumbles vd_stumbleCount qd_muds qd_cells vd_cellCount qd_tunes vd_tuneCount qd_changes vd_changeCount) s.heap.size = A at hD hH ⊢
  have hA : ∀ q : Nat, s.heap.size ≤ q → A q := fun q h => by rw [← hAe]; exact Or.inr h
  have hS : va_S A s.heap s.heap [] := va_S.rf
  obtain ⟨hP, hD⟩ : ct_B D A s.heap [(qr, .inr (5, [.ref qt, .int vr_numberPlace, .int vr_fault, .int vr_faultPlace])), (qt, .inr (8, [.ref qt_bytes, .int vt_length, .int vt_kind, .int vt_from, .int vt_upto, .int vt_value])), (qt_bytes, .inl (cB, 1200, .inl (ft_bytes))), dn qd vd_gap vd_odds vd_rain vd_lines qd_steps qd_lengths qd_starts qd_met qd_stumbles vd_stumbleCount qd_muds qd_cells vd_cellCount qd_tunes vd_tuneCount qd_changes vd_changeCount, (qd_stumbles, .inl (cI, 32, .inl (fd_stumbles)))] := ⟨hP, hD⟩
  have hl := lv_entry ([.ref qr, .ref qd]) (n := 6) (Nat.le_of_ble_eq_true rfl)
  rw [lg_entry_eq]
  generalize (lg_sl ([.ref qr, .ref qd]) ++ List.replicate (6 - (lg_sl ([.ref qr, .ref qd])).length) Slot.unset).toArray = ls at hl ⊢
  have hl : lv_has ls 6 [(0, .ref qr), (1, .ref qd)] := hl
  obtain ⟨H, hHe⟩ : ∃ H : Heap, H = s.heap := ⟨_, rfl⟩
  rw [← hHe] at hP
  have hS : va_S A s.heap H [] := by rw [hHe]; exact va_S.rf
  refine ct_start hHe ?_
  refine lv_aload_n hx hb dX5_readStumble_0 rfl (lv_at hl 0 rfl) ?_
  refine lv_aload_n hx hb dX5_readStumble_1 rfl (lv_at hl 1 rfl) ?_
  refine va_get (D := D) (ci := 0) (v := .int vd_stumbleCount) (C := RX0) (T := TX0) (N := 17) hx hb hts hi0 hown hK hP 3 rfl rfl 9 (by decide) (hts (.fieldLink RX5 139 "OverHill$Dance" "stumbleCount" "I") (by decide +kernel)) (fun _ h9 => h9) rfl dX5_readStumble_2 ?_
  refine lv_bipush (v := 8) hx hb dX5_readStumble_5 (by decide) ?_
  refine ct_callv (D := D) (wr := [dn qd vd_gap vd_odds vd_rain vd_lines qd_steps qd_lengths qd_starts qd_met qd_stumbles vd_stumbleCount qd_muds qd_cells vd_cellCount qd_tunes vd_tuneCount qd_changes vd_changeCount, (qd_stumbles, .inl (cI, 32, .inl (fd_stumbles)))]) (va_runV (As := [.int vd_stumbleCount, .int 8]) (rest := []) ⟨hx, hb, hml, hown, hts⟩ (c_X5_beginOneOf l D G cI cJ cB cZ cO qr vr_numberPlace vr_fault vr_faultPlace qt qt_bytes ft_bytes vt_length vt_kind vt_from vt_upto vt_value vd_stumbleCount 8 h_vt_length h_vt_from h_vt_upto H.size) (cwV 2 hts gX5_readStumble_X5_beginOneOf rfl rfl rfl (by decide +kernel) ⟨Nat.le_of_ble_eq_true rfl, Nat.le_of_ble_eq_true rfl⟩) (ct_preV (T := ct_T cI cJ cB cZ cO) (ci := 5) (q0 := 0) hE hH hP hD hS hA [0, 1, 2] (by decide) rfl rfl rfl) rfl rfl hl.1 rfl (lv_room (Nat.le_of_ble_eq_true rfl)) dX5_readStumble_7 ⟨Nat.le_of_ble_eq_true rfl, Nat.le_of_ble_eq_true rfl⟩) hP hD hS hA [0, 1, 2] [3, 4] rfl rfl (by decide) (by decide) (fun u H locs hw hP hD hS => ?_)
  obtain ⟨y1, y2, y3, y4, y5, y6⟩ := u
  obtain ⟨hP, hD⟩ : ct_B D A H [dn qd vd_gap vd_odds vd_rain vd_lines qd_steps qd_lengths qd_starts qd_met qd_stumbles vd_stumbleCount qd_muds qd_cells vd_cellCount qd_tunes vd_tuneCount qd_changes vd_changeCount, (qd_stumbles, .inl (cI, 32, .inl (fd_stumbles))), (qr, .inr (5, [.ref qt, .int vr_numberPlace, .int y1, .int y2])), (qt, .inr (8, [.ref qt_bytes, .int vt_length, .int y3, .int y4, .int y5, .int y6])), (qt_bytes, .inl (cB, 1200, .inl (ft_bytes)))] := ⟨hP, hD⟩
  obtain ⟨hp0, hp1⟩ := hw
  have h_y4 : 0 ≤ y4.toInt ∧ y4.toInt ≤ 1200 := hp0
  have h_y5 : 0 ≤ y5.toInt ∧ y5.toInt ≤ 1200 := hp1
  refine lv_aload_n hx hb dX5_readStumble_10 rfl (lv_at hl 0 rfl) ?_
  refine lv_iconst (v := 0) hx hb dX5_readStumble_11 (by decide) ?_
  refine lv_iconst (v := 1) hx hb dX5_readStumble_12 (by decide) ?_
  refine ct_calli (D := D) (wr := [dn qd vd_gap vd_odds vd_rain vd_lines qd_steps qd_lengths qd_starts qd_met qd_stumbles vd_stumbleCount qd_muds qd_cells vd_cellCount qd_tunes vd_tuneCount qd_changes vd_changeCount, (qd_stumbles, .inl (cI, 32, .inl (fd_stumbles)))]) (va_runV (As := [.int 0, .int 1]) (rest := []) ⟨hx, hb, hml, hown, hts⟩ (c_X5_takeNumber l D G cI cJ cB cZ cO qr vr_numberPlace y1 y2 qt qt_bytes ft_bytes vt_length y3 y4 y5 y6 0 1 h_vt_length h_y4 h_y5 H.size) (cwV 2 hts gX5_readStumble_X5_takeNumber rfl rfl rfl (by decide +kernel) ⟨Nat.le_of_ble_eq_true rfl, Nat.le_of_ble_eq_true rfl⟩) (ct_preV (T := ct_T cI cJ cB cZ cO) (ci := 5) (q0 := 2) hE hH hP hD hS hA [2, 3, 4] (by decide) rfl rfl rfl) rfl rfl hl.1 rfl (lv_room (Nat.le_of_ble_eq_true rfl)) dX5_readStumble_13 ⟨Nat.le_of_ble_eq_true rfl, Nat.le_of_ble_eq_true rfl⟩) hP hD hS hA [2, 3, 4] [0, 1] rfl rfl (by decide) (by decide) (fun r7 u H locs hw hP hD hS => ?_)
  obtain ⟨y8, y9, y10, y11, y12, y13, y14⟩ := u
  obtain ⟨hP, hD⟩ : ct_B D A H [dn qd vd_gap vd_odds vd_rain vd_lines qd_steps qd_lengths qd_starts qd_met qd_stumbles vd_stumbleCount qd_muds qd_cells vd_cellCount qd_tunes vd_tuneCount qd_changes vd_changeCount, (qd_stumbles, .inl (cI, 32, .inl (fd_stumbles))), (qr, .inr (5, [.ref qt, .int y8, .int y9, .int y10])), (qt, .inr (8, [.ref qt_bytes, .int vt_length, .int y11, .int y12, .int y13, .int y14])), (qt_bytes, .inl (cB, 1200, .inl (ft_bytes)))] := ⟨hP, hD⟩
  have hk15 : (0 : Int32).toInt = 0 := by decide
  have hk16 : (1 : Int32).toInt = 1 := by decide
  obtain ⟨hz, hp0, hp1⟩ := hw
  have h_y12 : 0 ≤ y12.toInt ∧ y12.toInt ≤ 1200 := hp0
  have h_y13 : 0 ≤ y13.toInt ∧ y13.toInt ≤ 1200 := hp1
  have h_r7 : r7.toInt = (0 : Int32).toInt ∨ ((0 : Int32).toInt ≤ r7.toInt ∧ r7.toInt ≤ (1 : Int32).toInt) := hz
  refine lv_istore_n (lv' := [(2, .int r7), (0, .ref qr), (1, .ref qd)]) hx hb dX5_readStumble_16 rfl hl (by decide) rfl (fun ls hl => ?_)
  refine lv_aload_n hx hb dX5_readStumble_17 rfl (lv_at hl 1 rfl) ?_
  refine va_ldcS hx hb hown (hE.2.2.2 9 (by decide)) dX5_readStumble_18 ?_
  refine ct_callv (D := D) (wr := [dn qd vd_gap vd_odds vd_rain vd_lines qd_steps qd_lengths qd_starts qd_met qd_stumbles vd_stumbleCount qd_muds qd_cells vd_cellCount qd_tunes vd_tuneCount qd_changes vd_changeCount, (qd_stumbles, .inl (cI, 32, .inl (fd_stumbles)))]) (va_runV (As := [.ref (G.1 9)]) (rest := []) ⟨hx, hb, hml, hown, hts⟩ (c_X5_takeWord l D G cI cJ cB cZ cO qr y8 y9 y10 qt qt_bytes ft_bytes vt_length y11 y12 y13 y14 9 h_vt_length h_y12 h_y13 (by decide) H.size) (cwV 1 hts gX5_readStumble_X5_takeWord rfl rfl rfl (by decide +kernel) ⟨Nat.le_of_ble_eq_true rfl, Nat.le_of_ble_eq_true rfl⟩) (ct_preV (T := ct_T cI cJ cB cZ cO) (ci := 5) (q0 := 2) hE hH hP hD hS hA [2, 3, 4] (by decide) rfl rfl rfl) rfl rfl hl.1 rfl (lv_room (Nat.le_of_ble_eq_true rfl)) dX5_readStumble_20 ⟨Nat.le_of_ble_eq_true rfl, Nat.le_of_ble_eq_true rfl⟩) hP hD hS hA [2, 3, 4] [0, 1] rfl rfl (by decide) (by decide) (fun u H locs hw hP hD hS => ?_)
  obtain ⟨y17, y18, y19, y20, y21, y22⟩ := u
  obtain ⟨hP, hD⟩ : ct_B D A H [dn qd vd_gap vd_odds vd_rain vd_lines qd_steps qd_lengths qd_starts qd_met qd_stumbles vd_stumbleCount qd_muds qd_cells vd_cellCount qd_tunes vd_tuneCount qd_changes vd_changeCount, (qd_stumbles, .inl (cI, 32, .inl (fd_stumbles))), (qr, .inr (5, [.ref qt, .int y8, .int y17, .int y18])), (qt, .inr (8, [.ref qt_bytes, .int vt_length, .int y19, .int y20, .int y21, .int y22])), (qt_bytes, .inl (cB, 1200, .inl (ft_bytes)))] := ⟨hP, hD⟩
  obtain ⟨hp0, hp1⟩ := hw
  have h_y20 : 0 ≤ y20.toInt ∧ y20.toInt ≤ 1200 := hp0
  have h_y21 : 0 ≤ y21.toInt ∧ y21.toInt ≤ 1200 := hp1
  refine lv_aload_n hx hb dX5_readStumble_23 rfl (lv_at hl 1 rfl) ?_
  refine lv_iconst (v := 0) hx hb dX5_readStumble_24 (by decide) ?_
  refine lv_sipush (v := 199) hx hb dX5_readStumble_25 (by decide) ?_
  refine ct_calli (D := D) (wr := [dn qd vd_gap vd_odds vd_rain vd_lines qd_steps qd_lengths qd_starts qd_met qd_stumbles vd_stumbleCount qd_muds qd_cells vd_cellCount qd_tunes vd_tuneCount qd_changes vd_changeCount, (qd_stumbles, .inl (cI, 32, .inl (fd_stumbles)))]) (va_runV (As := [.int 0, .int 199]) (rest := []) ⟨hx, hb, hml, hown, hts⟩ (c_X5_takeNumber l D G cI cJ cB cZ cO qr y8 y17 y18 qt qt_bytes ft_bytes vt_length y19 y20 y21 y22 0 199 h_vt_length h_y20 h_y21 H.size) (cwV 2 hts gX5_readStumble_X5_takeNumber rfl rfl rfl (by decide +kernel) ⟨Nat.le_of_ble_eq_true rfl, Nat.le_of_ble_eq_true rfl⟩) (ct_preV (T := ct_T cI cJ cB cZ cO) (ci := 5) (q0 := 2) hE hH hP hD hS hA [2, 3, 4] (by decide) rfl rfl rfl) rfl rfl hl.1 rfl (lv_room (Nat.le_of_ble_eq_true rfl)) dX5_readStumble_28 ⟨Nat.le_of_ble_eq_true rfl, Nat.le_of_ble_eq_true rfl⟩) hP hD hS hA [2, 3, 4] [0, 1] rfl rfl (by decide) (by decide) (fun r23 u H locs hw hP hD hS => ?_)
  obtain ⟨y24, y25, y26, y27, y28, y29, y30⟩ := u
  obtain ⟨hP, hD⟩ : ct_B D A H [dn qd vd_gap vd_odds vd_rain vd_lines qd_steps qd_lengths qd_starts qd_met qd_stumbles vd_stumbleCount qd_muds qd_cells vd_cellCount qd_tunes vd_tuneCount qd_changes vd_changeCount, (qd_stumbles, .inl (cI, 32, .inl (fd_stumbles))), (qr, .inr (5, [.ref qt, .int y24, .int y25, .int y26])), (qt, .inr (8, [.ref qt_bytes, .int vt_length, .int y27, .int y28, .int y29, .int y30])), (qt_bytes, .inl (cB, 1200, .inl (ft_bytes)))] := ⟨hP, hD⟩
  have hk31 : (0 : Int32).toInt = 0 := by decide
  have hk32 : (199 : Int32).toInt = 199 := by decide
  obtain ⟨hz, hp0, hp1⟩ := hw
  have h_y28 : 0 ≤ y28.toInt ∧ y28.toInt ≤ 1200 := hp0
  have h_y29 : 0 ≤ y29.toInt ∧ y29.toInt ≤ 1200 := hp1
  have h_r23 : r23.toInt = (0 : Int32).toInt ∨ ((0 : Int32).toInt ≤ r23.toInt ∧ r23.toInt ≤ (199 : Int32).toInt) := hz
  refine lv_istore_n (lv' := [(3, .int r23), (2, .int r7), (0, .ref qr), (1, .ref qd)]) hx hb dX5_readStumble_31 rfl hl (by decide) rfl (fun ls hl => ?_)
  refine lv_aload_n hx hb dX5_readStumble_32 rfl (lv_at hl 3 rfl) ?_
  refine lv_iload_n hx hb dX5_readStumble_33 rfl (lv_at hl 1 rfl) ?_
  refine lv_iload_n hx hb dX5_readStumble_34 rfl (lv_at hl 0 rfl) ?_
  refine ct_calli (D := D) (wr := [(qr, .inr (5, [.ref qt, .int y24, .int y25, .int y26])), (qt, .inr (8, [.ref qt_bytes, .int vt_length, .int y27, .int y28, .int y29, .int y30])), (qt_bytes, .inl (cB, 1200, .inl (ft_bytes)))]) (va_runV (As := [.int r7, .int r23]) (rest := []) ⟨hx, hb, hml, hown, hts⟩ (c_X0_stumbleOf l D G cI cJ cB cZ cO qd vd_gap vd_odds vd_rain vd_lines qd_steps qd_lengths qd_starts qd_met qd_stumbles fd_stumbles vd_stumbleCount qd_muds qd_cells vd_cellCount qd_tunes vd_tuneCount qd_changes vd_changeCount r7 r23 h_vd_gap h_fd_stumbles h_vd_stumbleCount h_vd_cellCount h_vd_tuneCount h_vd_changeCount H.size) (cwV 2 hts gX5_readStumble_X0_stumbleOf rfl rfl rfl (by decide +kernel) ⟨Nat.le_of_ble_eq_true rfl, Nat.le_of_ble_eq_true rfl⟩) (ct_preV (T := ct_T cI cJ cB cZ cO) (ci := 0) (q0 := 0) hE hH hP hD hS hA [0, 1] (by decide) rfl rfl rfl) rfl rfl hl.1 rfl (lv_room (Nat.le_of_ble_eq_true rfl)) dX5_readStumble_35 ⟨Nat.le_of_ble_eq_true rfl, Nat.le_of_ble_eq_true rfl⟩) hP hD hS hA [0, 1] [2, 3, 4] rfl rfl (by decide) (by decide) (fun r33 u H locs hw hP hD hS => ?_)
  obtain ⟨hP, hD⟩ : ct_B D A H [(qr, .inr (5, [.ref qt, .int y24, .int y25, .int y26])), (qt, .inr (8, [.ref qt_bytes, .int vt_length, .int y27, .int y28, .int y29, .int y30])), (qt_bytes, .inl (cB, 1200, .inl (ft_bytes))), dn qd vd_gap vd_odds vd_rain vd_lines qd_steps qd_lengths qd_starts qd_met qd_stumbles vd_stumbleCount qd_muds qd_cells vd_cellCount qd_tunes vd_tuneCount qd_changes vd_changeCount, (qd_stumbles, .inl (cI, 32, .inl (fd_stumbles)))] := ⟨hP, hD⟩
  have hz := hw
  have h_r33 : (-1) ≤ r33.toInt ∧ r33.toInt ≤ 7 := hz
  refine lv_iconst (v := (-1)) hx hb dX5_readStumble_38 (by decide) ?_
  refine lv_icmp_eq (tgt := 51) hx hb dX5_readStumble_39 (by decide) (fun hc => ?_) (fun hc => ?_)
  · have hq34 : r33.toInt = (-1) := tq_eq rfl (by decide) hc
    refine lv_aload_n hx hb dX5_readStumble_51 rfl (lv_at hl 2 rfl) ?_
    refine va_ldcS hx hb hown (hE.2.2.2 10 (by decide)) dX5_readStumble_52 ?_
    refine ct_callv (D := D) (wr := [dn qd vd_gap vd_odds vd_rain vd_lines qd_steps qd_lengths qd_starts qd_met qd_stumbles vd_stumbleCount qd_muds qd_cells vd_cellCount qd_tunes vd_tuneCount qd_changes vd_changeCount, (qd_stumbles, .inl (cI, 32, .inl (fd_stumbles)))]) (va_runV (As := [.ref (G.1 10)]) (rest := []) ⟨hx, hb, hml, hown, hts⟩ (c_X5_takeWord l D G cI cJ cB cZ cO qr y24 y25 y26 qt qt_bytes ft_bytes vt_length y27 y28 y29 y30 10 h_vt_length h_y28 h_y29 (by decide) H.size) (cwV 1 hts gX5_readStumble_X5_takeWord rfl rfl rfl (by decide +kernel) ⟨Nat.le_of_ble_eq_true rfl, Nat.le_of_ble_eq_true rfl⟩) (ct_preV (T := ct_T cI cJ cB cZ cO) (ci := 5) (q0 := 0) hE hH hP hD hS hA [0, 1, 2] (by decide) rfl rfl rfl) rfl rfl hl.1 rfl (lv_room (Nat.le_of_ble_eq_true rfl)) dX5_readStumble_54 ⟨Nat.le_of_ble_eq_true rfl, Nat.le_of_ble_eq_true rfl⟩) hP hD hS hA [0, 1, 2] [3, 4] rfl rfl (by decide) (by decide) (fun u H locs hw hP hD hS => ?_)
    obtain ⟨y35, y36, y37, y38, y39, y40⟩ := u
    obtain ⟨hP, hD⟩ : ct_B D A H [dn qd vd_gap vd_odds vd_rain vd_lines qd_steps qd_lengths qd_starts qd_met qd_stumbles vd_stumbleCount qd_muds qd_cells vd_cellCount qd_tunes vd_tuneCount qd_changes vd_changeCount, (qd_stumbles, .inl (cI, 32, .inl (fd_stumbles))), (qr, .inr (5, [.ref qt, .int y24, .int y35, .int y36])), (qt, .inr (8, [.ref qt_bytes, .int vt_length, .int y37, .int y38, .int y39, .int y40])), (qt_bytes, .inl (cB, 1200, .inl (ft_bytes)))] := ⟨hP, hD⟩
    obtain ⟨hp0, hp1⟩ := hw
    have h_y38 : 0 ≤ y38.toInt ∧ y38.toInt ≤ 1200 := hp0
    have h_y39 : 0 ≤ y39.toInt ∧ y39.toInt ≤ 1200 := hp1
    refine lv_aload_n hx hb dX5_readStumble_57 rfl (lv_at hl 2 rfl) ?_
    refine lv_iconst (v := 0) hx hb dX5_readStumble_58 (by decide) ?_
    refine lv_iconst (v := 5) hx hb dX5_readStumble_59 (by decide) ?_
    refine ct_calli (D := D) (wr := [dn qd vd_gap vd_odds vd_rain vd_lines qd_steps qd_lengths qd_starts qd_met qd_stumbles vd_stumbleCount qd_muds qd_cells vd_cellCount qd_tunes vd_tuneCount qd_changes vd_changeCount, (qd_stumbles, .inl (cI, 32, .inl (fd_stumbles)))]) (va_runV (As := [.int 0, .int 5]) (rest := []) ⟨hx, hb, hml, hown, hts⟩ (c_X5_takeNumber l D G cI cJ cB cZ cO qr y24 y35 y36 qt qt_bytes ft_bytes vt_length y37 y38 y39 y40 0 5 h_vt_length h_y38 h_y39 H.size) (cwV 2 hts gX5_readStumble_X5_takeNumber rfl rfl rfl (by decide +kernel) ⟨Nat.le_of_ble_eq_true rfl, Nat.le_of_ble_eq_true rfl⟩) (ct_preV (T := ct_T cI cJ cB cZ cO) (ci := 5) (q0 := 2) hE hH hP hD hS hA [2, 3, 4] (by decide) rfl rfl rfl) rfl rfl hl.1 rfl (lv_room (Nat.le_of_ble_eq_true rfl)) dX5_readStumble_60 ⟨Nat.le_of_ble_eq_true rfl, Nat.le_of_ble_eq_true rfl⟩) hP hD hS hA [2, 3, 4] [0, 1] rfl rfl (by decide) (by decide) (fun r41 u H locs hw hP hD hS => ?_)
    obtain ⟨y42, y43, y44, y45, y46, y47, y48⟩ := u
    obtain ⟨hP, hD⟩ : ct_B D A H [dn qd vd_gap vd_odds vd_rain vd_lines qd_steps qd_lengths qd_starts qd_met qd_stumbles vd_stumbleCount qd_muds qd_cells vd_cellCount qd_tunes vd_tuneCount qd_changes vd_changeCount, (qd_stumbles, .inl (cI, 32, .inl (fd_stumbles))), (qr, .inr (5, [.ref qt, .int y42, .int y43, .int y44])), (qt, .inr (8, [.ref qt_bytes, .int vt_length, .int y45, .int y46, .int y47, .int y48])), (qt_bytes, .inl (cB, 1200, .inl (ft_bytes)))] := ⟨hP, hD⟩
    have hk49 : (0 : Int32).toInt = 0 := by decide
    have hk50 : (5 : Int32).toInt = 5 := by decide
    obtain ⟨hz, hp0, hp1⟩ := hw
    have h_y46 : 0 ≤ y46.toInt ∧ y46.toInt ≤ 1200 := hp0
    have h_y47 : 0 ≤ y47.toInt ∧ y47.toInt ≤ 1200 := hp1
    have h_r41 : r41.toInt = (0 : Int32).toInt ∨ ((0 : Int32).toInt ≤ r41.toInt ∧ r41.toInt ≤ (5 : Int32).toInt) := hz
    refine lv_istore (lv' := [(4, .int r41), (3, .int r23), (2, .int r7), (0, .ref qr), (1, .ref qd)]) hx hb dX5_readStumble_63 hl (by decide) rfl (fun ls hl => ?_)
    refine lv_aload_n hx hb dX5_readStumble_65 rfl (lv_at hl 3 rfl) ?_
    refine va_ldcS hx hb hown (hE.2.2.2 11 (by decide)) dX5_readStumble_66 ?_
    refine ct_callv (D := D) (wr := [dn qd vd_gap vd_odds vd_rain vd_lines qd_steps qd_lengths qd_starts qd_met qd_stumbles vd_stumbleCount qd_muds qd_cells vd_cellCount qd_tunes vd_tuneCount qd_changes vd_changeCount, (qd_stumbles, .inl (cI, 32, .inl (fd_stumbles)))]) (va_runV (As := [.ref (G.1 11)]) (rest := []) ⟨hx, hb, hml, hown, hts⟩ (c_X5_takeWord l D G cI cJ cB cZ cO qr y42 y43 y44 qt qt_bytes ft_bytes vt_length y45 y46 y47 y48 11 h_vt_length h_y46 h_y47 (by decide) H.size) (cwV 1 hts gX5_readStumble_X5_takeWord rfl rfl rfl (by decide +kernel) ⟨Nat.le_of_ble_eq_true rfl, Nat.le_of_ble_eq_true rfl⟩) (ct_preV (T := ct_T cI cJ cB cZ cO) (ci := 5) (q0 := 2) hE hH hP hD hS hA [2, 3, 4] (by decide) rfl rfl rfl) rfl rfl hl.1 rfl (lv_room (Nat.le_of_ble_eq_true rfl)) dX5_readStumble_68 ⟨Nat.le_of_ble_eq_true rfl, Nat.le_of_ble_eq_true rfl⟩) hP hD hS hA [2, 3, 4] [0, 1] rfl rfl (by decide) (by decide) (fun u H locs hw hP hD hS => ?_)
    obtain ⟨y51, y52, y53, y54, y55, y56⟩ := u
    obtain ⟨hP, hD⟩ : ct_B D A H [dn qd vd_gap vd_odds vd_rain vd_lines qd_steps qd_lengths qd_starts qd_met qd_stumbles vd_stumbleCount qd_muds qd_cells vd_cellCount qd_tunes vd_tuneCount qd_changes vd_changeCount, (qd_stumbles, .inl (cI, 32, .inl (fd_stumbles))), (qr, .inr (5, [.ref qt, .int y42, .int y51, .int y52])), (qt, .inr (8, [.ref qt_bytes, .int vt_length, .int y53, .int y54, .int y55, .int y56])), (qt_bytes, .inl (cB, 1200, .inl (ft_bytes)))] := ⟨hP, hD⟩
    obtain ⟨hp0, hp1⟩ := hw
    have h_y54 : 0 ≤ y54.toInt ∧ y54.toInt ≤ 1200 := hp0
    have h_y55 : 0 ≤ y55.toInt ∧ y55.toInt ≤ 1200 := hp1
    refine lv_aload_n hx hb dX5_readStumble_71 rfl (lv_at hl 3 rfl) ?_
    refine lv_iconst (v := 0) hx hb dX5_readStumble_72 (by decide) ?_
    refine lv_bipush (v := 9) hx hb dX5_readStumble_73 (by decide) ?_
    refine ct_calli (D := D) (wr := [dn qd vd_gap vd_odds vd_rain vd_lines qd_steps qd_lengths qd_starts qd_met qd_stumbles vd_stumbleCount qd_muds qd_cells vd_cellCount qd_tunes vd_tuneCount qd_changes vd_changeCount, (qd_stumbles, .inl (cI, 32, .inl (fd_stumbles)))]) (va_runV (As := [.int 0, .int 9]) (rest := []) ⟨hx, hb, hml, hown, hts⟩ (c_X5_takeNumber l D G cI cJ cB cZ cO qr y42 y51 y52 qt qt_bytes ft_bytes vt_length y53 y54 y55 y56 0 9 h_vt_length h_y54 h_y55 H.size) (cwV 2 hts gX5_readStumble_X5_takeNumber rfl rfl rfl (by decide +kernel) ⟨Nat.le_of_ble_eq_true rfl, Nat.le_of_ble_eq_true rfl⟩) (ct_preV (T := ct_T cI cJ cB cZ cO) (ci := 5) (q0 := 2) hE hH hP hD hS hA [2, 3, 4] (by decide) rfl rfl rfl) rfl rfl hl.1 rfl (lv_room (Nat.le_of_ble_eq_true rfl)) dX5_readStumble_75 ⟨Nat.le_of_ble_eq_true rfl, Nat.le_of_ble_eq_true rfl⟩) hP hD hS hA [2, 3, 4] [0, 1] rfl rfl (by decide) (by decide) (fun r57 u H locs hw hP hD hS => ?_)
    obtain ⟨y58, y59, y60, y61, y62, y63, y64⟩ := u
    obtain ⟨hP, hD⟩ : ct_B D A H [dn qd vd_gap vd_odds vd_rain vd_lines qd_steps qd_lengths qd_starts qd_met qd_stumbles vd_stumbleCount qd_muds qd_cells vd_cellCount qd_tunes vd_tuneCount qd_changes vd_changeCount, (qd_stumbles, .inl (cI, 32, .inl (fd_stumbles))), (qr, .inr (5, [.ref qt, .int y58, .int y59, .int y60])), (qt, .inr (8, [.ref qt_bytes, .int vt_length, .int y61, .int y62, .int y63, .int y64])), (qt_bytes, .inl (cB, 1200, .inl (ft_bytes)))] := ⟨hP, hD⟩
    have hk65 : (0 : Int32).toInt = 0 := by decide
    have hk66 : (9 : Int32).toInt = 9 := by decide
    obtain ⟨hz, hp0, hp1⟩ := hw
    have h_y62 : 0 ≤ y62.toInt ∧ y62.toInt ≤ 1200 := hp0
    have h_y63 : 0 ≤ y63.toInt ∧ y63.toInt ≤ 1200 := hp1
    have h_r57 : r57.toInt = (0 : Int32).toInt ∨ ((0 : Int32).toInt ≤ r57.toInt ∧ r57.toInt ≤ (9 : Int32).toInt) := hz
    refine lv_istore (lv' := [(5, .int r57), (4, .int r41), (3, .int r23), (2, .int r7), (0, .ref qr), (1, .ref qd)]) hx hb dX5_readStumble_78 hl (by decide) rfl (fun ls hl => ?_)
    refine lv_aload_n hx hb dX5_readStumble_80 rfl (lv_at hl 5 rfl) ?_
    refine lv_iload_n hx hb dX5_readStumble_81 rfl (lv_at hl 3 rfl) ?_
    refine lv_iload_n hx hb dX5_readStumble_82 rfl (lv_at hl 2 rfl) ?_
    refine lv_iload hx hb dX5_readStumble_83 (lv_at hl 1 rfl) ?_
    refine lv_iload hx hb dX5_readStumble_85 (lv_at hl 0 rfl) ?_
    refine ct_callv (D := D) (wr := [(qr, .inr (5, [.ref qt, .int y58, .int y59, .int y60])), (qt, .inr (8, [.ref qt_bytes, .int vt_length, .int y61, .int y62, .int y63, .int y64])), (qt_bytes, .inl (cB, 1200, .inl (ft_bytes)))]) (va_runV (As := [.int r7, .int r23, .int r41, .int r57]) (rest := []) ⟨hx, hb, hml, hown, hts⟩ (c_X0_addStumble l D G cI cJ cB cZ cO qd vd_gap vd_odds vd_rain vd_lines qd_steps qd_lengths qd_starts qd_met qd_stumbles fd_stumbles vd_stumbleCount qd_muds qd_cells vd_cellCount qd_tunes vd_tuneCount qd_changes vd_changeCount r7 r23 r41 r57 h_vd_gap h_fd_stumbles h_vd_stumbleCount h_vd_cellCount h_vd_tuneCount h_vd_changeCount (by omega) (by omega) H.size) (cwV 4 hts gX5_readStumble_X0_addStumble rfl rfl rfl (by decide +kernel) ⟨Nat.le_of_ble_eq_true rfl, Nat.le_of_ble_eq_true rfl⟩) (ct_preV (T := ct_T cI cJ cB cZ cO) (ci := 0) (q0 := 0) hE hH hP hD hS hA [0, 1] (by decide) rfl rfl rfl) rfl rfl hl.1 rfl (lv_room (Nat.le_of_ble_eq_true rfl)) dX5_readStumble_87 ⟨Nat.le_of_ble_eq_true rfl, Nat.le_of_ble_eq_true rfl⟩) hP hD hS hA [0, 1] [2, 3, 4] rfl rfl (by decide) (by decide) (fun u H locs hw hP hD hS => ?_)
    obtain ⟨y67, g68⟩ := u
    obtain ⟨hP, hD⟩ : ct_B D A H [(qr, .inr (5, [.ref qt, .int y58, .int y59, .int y60])), (qt, .inr (8, [.ref qt_bytes, .int vt_length, .int y61, .int y62, .int y63, .int y64])), (qt_bytes, .inl (cB, 1200, .inl (ft_bytes))), dn qd vd_gap vd_odds vd_rain vd_lines qd_steps qd_lengths qd_starts qd_met qd_stumbles y67 qd_muds qd_cells vd_cellCount qd_tunes vd_tuneCount qd_changes vd_changeCount, (qd_stumbles, .inl (cI, 32, .inl (g68)))] := ⟨hP, hD⟩
    obtain ⟨hp0, hp1, hp2⟩ := hw
    have h_y67 : 0 ≤ y67.toInt ∧ y67.toInt ≤ 8 := hp0
    have h_g68 : ar_ok [(-2147483648), 0, 0, (-2147483648)] [2147483647, 199, 5, 2147483647] g68 := hp1
    have hp_69 : 8 ≤ vd_stumbleCount.toInt ∨ y67.toInt = vd_stumbleCount.toInt + 1 := hp2
    obtain ⟨hP9, hD9⟩ : ct_B D A H [(qr, .inr (5, [.ref qt, .int y58, .int y59, .int y60])), (qt, .inr (8, [.ref qt_bytes, .int vt_length, .int y61, .int y62, .int y63, .int y64])), (qt_bytes, .inl (cB, 1200, .inl (ft_bytes))), dn qd vd_gap vd_odds vd_rain vd_lines qd_steps qd_lengths qd_starts qd_met qd_stumbles y67 qd_muds qd_cells vd_cellCount qd_tunes vd_tuneCount qd_changes vd_changeCount, (qd_stumbles, .inl (cI, 32, .inl (g68)))] := ⟨hP.sub [0, 1, 2, 3, 4] rfl, hD.sub [0, 1, 2, 3, 4] (by decide) rfl⟩
    exact W.vret hx hb hr (fun t ht hW => ⟨⟨(y58, y59, y60, y61, y62, y63, y64, y67, g68), rfl, ⟨h_y62, h_y63, h_y67, h_g68⟩, by rw [ht]; exact hP9, hD9⟩, hS.F ht⟩) hS.2.2 dX5_readStumble_90
  · have hq34 : r33.toInt ≠ (-1) := tq_ne rfl (by decide) hc
    refine lv_aload_n hx hb dX5_readStumble_42 rfl (lv_at hl 2 rfl) ?_
    refine lv_iconst (v := 2) hx hb dX5_readStumble_43 (by decide) ?_
    refine lv_aload_n hx hb dX5_readStumble_44 rfl (lv_at hl 2 rfl) ?_
    refine va_get (D := D) (ci := 5) (v := .int y24) (C := RX5) (T := TX5) (N := 4) hx hb hts hi5 hown hK hP 0 rfl rfl 1 (by decide) (hts (.fieldLink RX5 121 "OverHill$Reader" "numberPlace" "I") (by decide +kernel)) (fun _ h9 => h9) rfl dX5_readStumble_45 ?_
    refine ct_callv (D := D) (wr := [(qt, .inr (8, [.ref qt_bytes, .int vt_length, .int y27, .int y28, .int y29, .int y30])), (qt_bytes, .inl (cB, 1200, .inl (ft_bytes))), dn qd vd_gap vd_odds vd_rain vd_lines qd_steps qd_lengths qd_starts qd_met qd_stumbles vd_stumbleCount qd_muds qd_cells vd_cellCount qd_tunes vd_tuneCount qd_changes vd_changeCount, (qd_stumbles, .inl (cI, 32, .inl (fd_stumbles)))]) (va_runV (As := [.int 2, .int y24]) (rest := []) ⟨hx, hb, hml, hown, hts⟩ (c_X5_fail l D G cI cJ cB cZ cO qr y24 y25 y26 qt 2 y24 (by decide) H.size) (cwV 2 hts gX5_readStumble_X5_fail rfl rfl rfl (by decide +kernel) ⟨Nat.le_of_ble_eq_true rfl, Nat.le_of_ble_eq_true rfl⟩) (ct_preV (T := ct_T cI cJ cB cZ cO) (ci := 5) (q0 := 0) hE hH hP hD hS hA [0] (by decide) rfl rfl rfl) rfl rfl hl.1 rfl (lv_room (Nat.le_of_ble_eq_true rfl)) dX5_readStumble_48 ⟨Nat.le_of_ble_eq_true rfl, Nat.le_of_ble_eq_true rfl⟩) hP hD hS hA [0] [1, 2, 3, 4] rfl rfl (by decide) (by decide) (fun u H locs hw hP hD hS => ?_)
    obtain ⟨y70, y71⟩ := u
    obtain ⟨hP, hD⟩ : ct_B D A H [(qt, .inr (8, [.ref qt_bytes, .int vt_length, .int y27, .int y28, .int y29, .int y30])), (qt_bytes, .inl (cB, 1200, .inl (ft_bytes))), dn qd vd_gap vd_odds vd_rain vd_lines qd_steps qd_lengths qd_starts qd_met qd_stumbles vd_stumbleCount qd_muds qd_cells vd_cellCount qd_tunes vd_tuneCount qd_changes vd_changeCount, (qd_stumbles, .inl (cI, 32, .inl (fd_stumbles))), (qr, .inr (5, [.ref qt, .int y24, .int y70, .int y71]))] := ⟨hP, hD⟩
    have hp0 := hw
    have hp_72 : y70.toInt ≠ 0 := hp0
    refine lv_aload_n hx hb dX5_readStumble_51 rfl (lv_at hl 2 rfl) ?_
    refine va_ldcS hx hb hown (hE.2.2.2 10 (by decide)) dX5_readStumble_52 ?_
    refine ct_callv (D := D) (wr := [dn qd vd_gap vd_odds vd_rain vd_lines qd_steps qd_lengths qd_starts qd_met qd_stumbles vd_stumbleCount qd_muds qd_cells vd_cellCount qd_tunes vd_tuneCount qd_changes vd_changeCount, (qd_stumbles, .inl (cI, 32, .inl (fd_stumbles)))]) (va_runV (As := [.ref (G.1 10)]) (rest := []) ⟨hx, hb, hml, hown, hts⟩ (c_X5_takeWord l D G cI cJ cB cZ cO qr y24 y70 y71 qt qt_bytes ft_bytes vt_length y27 y28 y29 y30 10 h_vt_length h_y28 h_y29 (by decide) H.size) (cwV 1 hts gX5_readStumble_X5_takeWord rfl rfl rfl (by decide +kernel) ⟨Nat.le_of_ble_eq_true rfl, Nat.le_of_ble_eq_true rfl⟩) (ct_preV (T := ct_T cI cJ cB cZ cO) (ci := 5) (q0 := 4) hE hH hP hD hS hA [4, 0, 1] (by decide) rfl rfl rfl) rfl rfl hl.1 rfl (lv_room (Nat.le_of_ble_eq_true rfl)) dX5_readStumble_54 ⟨Nat.le_of_ble_eq_true rfl, Nat.le_of_ble_eq_true rfl⟩) hP hD hS hA [4, 0, 1] [2, 3] rfl rfl (by decide) (by decide) (fun u H locs hw hP hD hS => ?_)
    obtain ⟨y73, y74, y75, y76, y77, y78⟩ := u
    obtain ⟨hP, hD⟩ : ct_B D A H [dn qd vd_gap vd_odds vd_rain vd_lines qd_steps qd_lengths qd_starts qd_met qd_stumbles vd_stumbleCount qd_muds qd_cells vd_cellCount qd_tunes vd_tuneCount qd_changes vd_changeCount, (qd_stumbles, .inl (cI, 32, .inl (fd_stumbles))), (qr, .inr (5, [.ref qt, .int y24, .int y73, .int y74])), (qt, .inr (8, [.ref qt_bytes, .int vt_length, .int y75, .int y76, .int y77, .int y78])), (qt_bytes, .inl (cB, 1200, .inl (ft_bytes)))] := ⟨hP, hD⟩
    obtain ⟨hp0, hp1⟩ := hw
    have h_y76 : 0 ≤ y76.toInt ∧ y76.toInt ≤ 1200 := hp0
    have h_y77 : 0 ≤ y77.toInt ∧ y77.toInt ≤ 1200 := hp1
    refine lv_aload_n hx hb dX5_readStumble_57 rfl (lv_at hl 2 rfl) ?_
    refine lv_iconst (v := 0) hx hb dX5_readStumble_58 (by decide) ?_
    refine lv_iconst (v := 5) hx hb dX5_readStumble_59 (by decide) ?_
    refine ct_calli (D := D) (wr := [dn qd vd_gap vd_odds vd_rain vd_lines qd_steps qd_lengths qd_starts qd_met qd_stumbles vd_stumbleCount qd_muds qd_cells vd_cellCount qd_tunes vd_tuneCount qd_changes vd_changeCount, (qd_stumbles, .inl (cI, 32, .inl (fd_stumbles)))]) (va_runV (As := [.int 0, .int 5]) (rest := []) ⟨hx, hb, hml, hown, hts⟩ (c_X5_takeNumber l D G cI cJ cB cZ cO qr y24 y73 y74 qt qt_bytes ft_bytes vt_length y75 y76 y77 y78 0 5 h_vt_length h_y76 h_y77 H.size) (cwV 2 hts gX5_readStumble_X5_takeNumber rfl rfl rfl (by decide +kernel) ⟨Nat.le_of_ble_eq_true rfl, Nat.le_of_ble_eq_true rfl⟩) (ct_preV (T := ct_T cI cJ cB cZ cO) (ci := 5) (q0 := 2) hE hH hP hD hS hA [2, 3, 4] (by decide) rfl rfl rfl) rfl rfl hl.1 rfl (lv_room (Nat.le_of_ble_eq_true rfl)) dX5_readStumble_60 ⟨Nat.le_of_ble_eq_true rfl, Nat.le_of_ble_eq_true rfl⟩) hP hD hS hA [2, 3, 4] [0, 1] rfl rfl (by decide) (by decide) (fun r79 u H locs hw hP hD hS => ?_)
    obtain ⟨y80, y81, y82, y83, y84, y85, y86⟩ := u
    obtain ⟨hP, hD⟩ : ct_B D A H [dn qd vd_gap vd_odds vd_rain vd_lines qd_steps qd_lengths qd_starts qd_met qd_stumbles vd_stumbleCount qd_muds qd_cells vd_cellCount qd_tunes vd_tuneCount qd_changes vd_changeCount, (qd_stumbles, .inl (cI, 32, .inl (fd_stumbles))), (qr, .inr (5, [.ref qt, .int y80, .int y81, .int y82])), (qt, .inr (8, [.ref qt_bytes, .int vt_length, .int y83, .int y84, .int y85, .int y86])), (qt_bytes, .inl (cB, 1200, .inl (ft_bytes)))] := ⟨hP, hD⟩
    have hk87 : (0 : Int32).toInt = 0 := by decide
    have hk88 : (5 : Int32).toInt = 5 := by decide
    obtain ⟨hz, hp0, hp1⟩ := hw
    have h_y84 : 0 ≤ y84.toInt ∧ y84.toInt ≤ 1200 := hp0
    have h_y85 : 0 ≤ y85.toInt ∧ y85.toInt ≤ 1200 := hp1
    have h_r79 : r79.toInt = (0 : Int32).toInt ∨ ((0 : Int32).toInt ≤ r79.toInt ∧ r79.toInt ≤ (5 : Int32).toInt) := hz
    refine lv_istore (lv' := [(4, .int r79), (3, .int r23), (2, .int r7), (0, .ref qr), (1, .ref qd)]) hx hb dX5_readStumble_63 hl (by decide) rfl (fun ls hl => ?_)
    refine lv_aload_n hx hb dX5_readStumble_65 rfl (lv_at hl 3 rfl) ?_
    refine va_ldcS hx hb hown (hE.2.2.2 11 (by decide)) dX5_readStumble_66 ?_
    refine ct_callv (D := D) (wr := [dn qd vd_gap vd_odds vd_rain vd_lines qd_steps qd_lengths qd_starts qd_met qd_stumbles vd_stumbleCount qd_muds qd_cells vd_cellCount qd_tunes vd_tuneCount qd_changes vd_changeCount, (qd_stumbles, .inl (cI, 32, .inl (fd_stumbles)))]) (va_runV (As := [.ref (G.1 11)]) (rest := []) ⟨hx, hb, hml, hown, hts⟩ (c_X5_takeWord l D G cI cJ cB cZ cO qr y80 y81 y82 qt qt_bytes ft_bytes vt_length y83 y84 y85 y86 11 h_vt_length h_y84 h_y85 (by decide) H.size) (cwV 1 hts gX5_readStumble_X5_takeWord rfl rfl rfl (by decide +kernel) ⟨Nat.le_of_ble_eq_true rfl, Nat.le_of_ble_eq_true rfl⟩) (ct_preV (T := ct_T cI cJ cB cZ cO) (ci := 5) (q0 := 2) hE hH hP hD hS hA [2, 3, 4] (by decide) rfl rfl rfl) rfl rfl hl.1 rfl (lv_room (Nat.le_of_ble_eq_true rfl)) dX5_readStumble_68 ⟨Nat.le_of_ble_eq_true rfl, Nat.le_of_ble_eq_true rfl⟩) hP hD hS hA [2, 3, 4] [0, 1] rfl rfl (by decide) (by decide) (fun u H locs hw hP hD hS => ?_)
    obtain ⟨y89, y90, y91, y92, y93, y94⟩ := u
    obtain ⟨hP, hD⟩ : ct_B D A H [dn qd vd_gap vd_odds vd_rain vd_lines qd_steps qd_lengths qd_starts qd_met qd_stumbles vd_stumbleCount qd_muds qd_cells vd_cellCount qd_tunes vd_tuneCount qd_changes vd_changeCount, (qd_stumbles, .inl (cI, 32, .inl (fd_stumbles))), (qr, .inr (5, [.ref qt, .int y80, .int y89, .int y90])), (qt, .inr (8, [.ref qt_bytes, .int vt_length, .int y91, .int y92, .int y93, .int y94])), (qt_bytes, .inl (cB, 1200, .inl (ft_bytes)))] := ⟨hP, hD⟩
    obtain ⟨hp0, hp1⟩ := hw
    have h_y92 : 0 ≤ y92.toInt ∧ y92.toInt ≤ 1200 := hp0
    have h_y93 : 0 ≤ y93.toInt ∧ y93.toInt ≤ 1200 := hp1
    refine lv_aload_n hx hb dX5_readStumble_71 rfl (lv_at hl 3 rfl) ?_
    refine lv_iconst (v := 0) hx hb dX5_readStumble_72 (by decide) ?_
    refine lv_bipush (v := 9) hx hb dX5_readStumble_73 (by decide) ?_
    refine ct_calli (D := D) (wr := [dn qd vd_gap vd_odds vd_rain vd_lines qd_steps qd_lengths qd_starts qd_met qd_stumbles vd_stumbleCount qd_muds qd_cells vd_cellCount qd_tunes vd_tuneCount qd_changes vd_changeCount, (qd_stumbles, .inl (cI, 32, .inl (fd_stumbles)))]) (va_runV (As := [.int 0, .int 9]) (rest := []) ⟨hx, hb, hml, hown, hts⟩ (c_X5_takeNumber l D G cI cJ cB cZ cO qr y80 y89 y90 qt qt_bytes ft_bytes vt_length y91 y92 y93 y94 0 9 h_vt_length h_y92 h_y93 H.size) (cwV 2 hts gX5_readStumble_X5_takeNumber rfl rfl rfl (by decide +kernel) ⟨Nat.le_of_ble_eq_true rfl, Nat.le_of_ble_eq_true rfl⟩) (ct_preV (T := ct_T cI cJ cB cZ cO) (ci := 5) (q0 := 2) hE hH hP hD hS hA [2, 3, 4] (by decide) rfl rfl rfl) rfl rfl hl.1 rfl (lv_room (Nat.le_of_ble_eq_true rfl)) dX5_readStumble_75 ⟨Nat.le_of_ble_eq_true rfl, Nat.le_of_ble_eq_true rfl⟩) hP hD hS hA [2, 3, 4] [0, 1] rfl rfl (by decide) (by decide) (fun r95 u H locs hw hP hD hS => ?_)
    obtain ⟨y96, y97, y98, y99, y100, y101, y102⟩ := u
    obtain ⟨hP, hD⟩ : ct_B D A H [dn qd vd_gap vd_odds vd_rain vd_lines qd_steps qd_lengths qd_starts qd_met qd_stumbles vd_stumbleCount qd_muds qd_cells vd_cellCount qd_tunes vd_tuneCount qd_changes vd_changeCount, (qd_stumbles, .inl (cI, 32, .inl (fd_stumbles))), (qr, .inr (5, [.ref qt, .int y96, .int y97, .int y98])), (qt, .inr (8, [.ref qt_bytes, .int vt_length, .int y99, .int y100, .int y101, .int y102])), (qt_bytes, .inl (cB, 1200, .inl (ft_bytes)))] := ⟨hP, hD⟩
    have hk103 : (0 : Int32).toInt = 0 := by decide
    have hk104 : (9 : Int32).toInt = 9 := by decide
    obtain ⟨hz, hp0, hp1⟩ := hw
    have h_y100 : 0 ≤ y100.toInt ∧ y100.toInt ≤ 1200 := hp0
    have h_y101 : 0 ≤ y101.toInt ∧ y101.toInt ≤ 1200 := hp1
    have h_r95 : r95.toInt = (0 : Int32).toInt ∨ ((0 : Int32).toInt ≤ r95.toInt ∧ r95.toInt ≤ (9 : Int32).toInt) := hz
    refine lv_istore (lv' := [(5, .int r95), (4, .int r79), (3, .int r23), (2, .int r7), (0, .ref qr), (1, .ref qd)]) hx hb dX5_readStumble_78 hl (by decide) rfl (fun ls hl => ?_)
    refine lv_aload_n hx hb dX5_readStumble_80 rfl (lv_at hl 5 rfl) ?_
    refine lv_iload_n hx hb dX5_readStumble_81 rfl (lv_at hl 3 rfl) ?_
    refine lv_iload_n hx hb dX5_readStumble_82 rfl (lv_at hl 2 rfl) ?_
    refine lv_iload hx hb dX5_readStumble_83 (lv_at hl 1 rfl) ?_
    refine lv_iload hx hb dX5_readStumble_85 (lv_at hl 0 rfl) ?_
    refine ct_callv (D := D) (wr := [(qr, .inr (5, [.ref qt, .int y96, .int y97, .int y98])), (qt, .inr (8, [.ref qt_bytes, .int vt_length, .int y99, .int y100, .int y101, .int y102])), (qt_bytes, .inl (cB, 1200, .inl (ft_bytes)))]) (va_runV (As := [.int r7, .int r23, .int r79, .int r95]) (rest := []) ⟨hx, hb, hml, hown, hts⟩ (c_X0_addStumble l D G cI cJ cB cZ cO qd vd_gap vd_odds vd_rain vd_lines qd_steps qd_lengths qd_starts qd_met qd_stumbles fd_stumbles vd_stumbleCount qd_muds qd_cells vd_cellCount qd_tunes vd_tuneCount qd_changes vd_changeCount r7 r23 r79 r95 h_vd_gap h_fd_stumbles h_vd_stumbleCount h_vd_cellCount h_vd_tuneCount h_vd_changeCount (by omega) (by omega) H.size) (cwV 4 hts gX5_readStumble_X0_addStumble rfl rfl rfl (by decide +kernel) ⟨Nat.le_of_ble_eq_true rfl, Nat.le_of_ble_eq_true rfl⟩) (ct_preV (T := ct_T cI cJ cB cZ cO) (ci := 0) (q0 := 0) hE hH hP hD hS hA [0, 1] (by decide) rfl rfl rfl) rfl rfl hl.1 rfl (lv_room (Nat.le_of_ble_eq_true rfl)) dX5_readStumble_87 ⟨Nat.le_of_ble_eq_true rfl, Nat.le_of_ble_eq_true rfl⟩) hP hD hS hA [0, 1] [2, 3, 4] rfl rfl (by decide) (by decide) (fun u H locs hw hP hD hS => ?_)
    obtain ⟨y105, g106⟩ := u
    obtain ⟨hP, hD⟩ : ct_B D A H [(qr, .inr (5, [.ref qt, .int y96, .int y97, .int y98])), (qt, .inr (8, [.ref qt_bytes, .int vt_length, .int y99, .int y100, .int y101, .int y102])), (qt_bytes, .inl (cB, 1200, .inl (ft_bytes))), dn qd vd_gap vd_odds vd_rain vd_lines qd_steps qd_lengths qd_starts qd_met qd_stumbles y105 qd_muds qd_cells vd_cellCount qd_tunes vd_tuneCount qd_changes vd_changeCount, (qd_stumbles, .inl (cI, 32, .inl (g106)))] := ⟨hP, hD⟩
    obtain ⟨hp0, hp1, hp2⟩ := hw
    have h_y105 : 0 ≤ y105.toInt ∧ y105.toInt ≤ 8 := hp0
    have h_g106 : ar_ok [(-2147483648), 0, 0, (-2147483648)] [2147483647, 199, 5, 2147483647] g106 := hp1
    have hp_107 : 8 ≤ vd_stumbleCount.toInt ∨ y105.toInt = vd_stumbleCount.toInt + 1 := hp2
    obtain ⟨hP9, hD9⟩ : ct_B D A H [(qr, .inr (5, [.ref qt, .int y96, .int y97, .int y98])), (qt, .inr (8, [.ref qt_bytes, .int vt_length, .int y99, .int y100, .int y101, .int y102])), (qt_bytes, .inl (cB, 1200, .inl (ft_bytes))), dn qd vd_gap vd_odds vd_rain vd_lines qd_steps qd_lengths qd_starts qd_met qd_stumbles y105 qd_muds qd_cells vd_cellCount qd_tunes vd_tuneCount qd_changes vd_changeCount, (qd_stumbles, .inl (cI, 32, .inl (g106)))] := ⟨hP.sub [0, 1, 2, 3, 4] rfl, hD.sub [0, 1, 2, 3, 4] (by decide) rfl⟩
    exact W.vret hx hb hr (fun t ht hW => ⟨⟨(y96, y97, y98, y99, y100, y101, y102, y105, g106), rfl, ⟨h_y100, h_y101, h_y105, h_g106⟩, by rw [ht]; exact hP9, hD9⟩, hS.F ht⟩) hS.2.2 dX5_readStumble_90
