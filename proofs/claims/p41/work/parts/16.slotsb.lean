abbrev w_c_X7_isSlot (cI cJ cB cZ cO : ClassId)  : va_W := []
set_option maxHeartbeats 4000000 in
set_option maxRecDepth 100000 in
/-- X7 isSlot -/
theorem c_X7_isSlot (l : Launch) (D : va_G) (G : ct_G) (cI cJ cB cZ cO : ClassId) (v : Int32)  (sz : Nat) : Met l yX7_isSlot wsX7_isSlot ({ frames := 1, cells := 0, slots := 0, locals := 21 }) (va_Pc [.int v] (ct_P D (ct_T cI cJ cB cZ cO) G (w_c_X7_isSlot cI cJ cB cZ cO ) sz)) (va_Qi (fun (rz : Int32) (u : Unit) => ((rz = 1 ∧ (0 ≤ v.toInt ∧ v.toInt < 4)) ∨ (rz = 0 ∧ ¬ (0 ≤ v.toInt ∧ v.toInt < 4)))) (fun (u : Unit) t => ct_Q D (va_A (w_c_X7_isSlot cI cJ cB cZ cO ) sz) [] t) (va_A (w_c_X7_isSlot cI cJ cB cZ cO ) sz)) 0 0 (va_A (w_c_X7_isSlot cI cJ cB cZ cO ) sz) := by
  refine Met.ofW (cc := cX7_isSlot) (maxL := 1) (ret := (some .boolean)) (by decide) rfl ?_
  intro p e s m args below meth c s₁ B hml hv
  obtain ⟨rfl, hsz, hP, hE, hD0, hH⟩ := hv
  have hx := B.exec
  have hb := B.bytes
  have hr := B.returns
  have hts := atoms_spec (ws := wsX7_isSlot) B.pre
  have hown : s.vm.findClass RX7 = some m.cls := findClass_of_methodNamed B.named
  have hlocks := B.notSynchronized
  have hK := hE.1
  subst hsz
  have hD := hD0.self (sz := s.heap.size)
  generalize hAe : va_A (w_c_X7_isSlot cI cJ cB cZ cO ) s.heap.size = A at hD hH ⊢
  have hA : ∀ q : Nat, s.heap.size ≤ q → A q := fun q h => by rw [← hAe]; exact Or.inr h
  have hS : va_S A s.heap s.heap [] := va_S.rf
  obtain ⟨hP, hD⟩ : ct_B D A s.heap [] := ⟨hP, hD⟩
  have hl := lv_entry ([.int v]) (n := 1) (Nat.le_of_ble_eq_true rfl)
  rw [lg_entry_eq]
  generalize (lg_sl ([.int v]) ++ List.replicate (1 - (lg_sl ([.int v])).length) Slot.unset).toArray = ls at hl ⊢
  have hl : lv_has ls 1 [(0, .int v)] := hl
  obtain ⟨H, hHe⟩ : ∃ H : Heap, H = s.heap := ⟨_, rfl⟩
  rw [← hHe] at hP
  have hS : va_S A s.heap H [] := by rw [hHe]; exact va_S.rf
  refine ct_start hHe ?_
  refine lv_iload_n hx hb dX7_isSlot_0 rfl (lv_at hl 0 rfl) ?_
  refine lv_iconst (v := 4) hx hb dX7_isSlot_1 (by decide) ?_
  refine ct_calli (D := D) (wr := []) (va_runSN (As := [.int v, .int 4]) (rest := []) ⟨hx, hb, hml, hown, hts⟩ (c_X11_isWithin l D G cI cJ cB cZ cO v 4  H.size) ⟨va_cnB 2 hts gX7_isSlot_X11_isWithin_n22 rfl rfl rfl (hE.2.1 (RX7, 22, yX11_isWithin, "OverHill") (List.mem_of_getElem? (i := 15) rfl)) (hts (.initialized RX11) (by decide +kernel)) (by decide +kernel) ⟨Nat.le_of_ble_eq_true rfl, Nat.le_of_ble_eq_true rfl⟩, (hts (.static yX11_isWithin) (by decide +kernel)), trivial⟩ (ct_preS (T := ct_T cI cJ cB cZ cO) hE hH hP hD hS hA [] (by decide) rfl) rfl rfl hl.1 rfl (lv_room (Nat.le_of_ble_eq_true rfl)) dX7_isSlot_2 ⟨Nat.le_of_ble_eq_true rfl, Nat.le_of_ble_eq_true rfl⟩) hP hD hS hA [] [] rfl rfl (by decide) (by decide) (fun r1 u H locs hw hP hD hS => ?_)
  obtain ⟨hP, hD⟩ : ct_B D A H [] := ⟨hP, hD⟩
  have hk2 : (4 : Int32).toInt = 4 := by decide
  have hz := hw
  rcases hz with ⟨hz, hz2⟩ | ⟨hz, hz2⟩
  · subst hz
    have hz_3 : (0 ≤ v.toInt ∧ v.toInt < (4 : Int32).toInt) := hz2
    obtain ⟨hP9, hD9⟩ : ct_B D A H [] := ⟨hP.sub [] rfl, hD.sub [] (by decide) rfl⟩
    exact W.zret (v := 1) (ty := .boolean) hx hb hr rfl (fun t ht hW => ⟨⟨1, (), rfl, (Or.inl ⟨rfl, (show (0 ≤ v.toInt ∧ v.toInt < 4) by omega)⟩), by rw [ht]; exact hP9, hD9⟩, hS.F ht⟩) hS.2.2 dX7_isSlot_5
  · subst hz
    have hz_4 : ¬ (0 ≤ v.toInt ∧ v.toInt < (4 : Int32).toInt) := hz2
    obtain ⟨hP9, hD9⟩ : ct_B D A H [] := ⟨hP.sub [] rfl, hD.sub [] (by decide) rfl⟩
    exact W.zret (v := 0) (ty := .boolean) hx hb hr rfl (fun t ht hW => ⟨⟨0, (), rfl, (Or.inr (⟨rfl, (show ¬ (0 ≤ v.toInt ∧ v.toInt < 4) by omega)⟩)), by rw [ht]; exact hP9, hD9⟩, hS.F ht⟩) hS.2.2 dX7_isSlot_5
abbrev w_c_X7_has (cI cJ cB cZ cO : ClassId) (qs : Nat) (qs_widths : Nat) (qs_sizes : Nat) (fs_sizes : Nat → Int32) (qs_numbers : Nat) : va_W := [(qs, .inr (7, [.ref qs_widths, .ref qs_sizes, .ref qs_numbers])), (qs_sizes, .inl (cI, 4, .inl (fs_sizes)))]
set_option maxHeartbeats 4000000 in
set_option maxRecDepth 100000 in
/-- X7 has -/
theorem c_X7_has (l : Launch) (D : va_G) (G : ct_G) (cI cJ cB cZ cO : ClassId) (qs : Nat) (qs_widths : Nat) (qs_sizes : Nat) (fs_sizes : Nat → Int32) (qs_numbers : Nat) (a1 : Int32) (h_fs_sizes : ar_ok [(-1)] [60] fs_sizes) (h_a1 : 0 ≤ a1.toInt ∧ a1.toInt ≤ 3) (sz : Nat) : Met l yX7_has wsX7_has ({ frames := 0, cells := 0, slots := 0, locals := 0 }) (va_Pc [.ref qs, .int a1] (ct_P D (ct_T cI cJ cB cZ cO) G (w_c_X7_has cI cJ cB cZ cO qs qs_widths qs_sizes fs_sizes qs_numbers) sz)) (va_Qi (fun (rz : Int32) (u : Unit) => ((rz = 1 ∧ ((fs_sizes a1.toNatClampNeg).toInt ≠ -1)) ∨ (rz = 0 ∧ ¬ ((fs_sizes a1.toNatClampNeg).toInt ≠ -1)))) (fun (u : Unit) t => ct_Q D (va_A (w_c_X7_has cI cJ cB cZ cO qs qs_widths qs_sizes fs_sizes qs_numbers) sz) [(qs, .inr (7, [.ref qs_widths, .ref qs_sizes, .ref qs_numbers])), (qs_sizes, .inl (cI, 4, .inl (fs_sizes)))] t) (va_A (w_c_X7_has cI cJ cB cZ cO qs qs_widths qs_sizes fs_sizes qs_numbers) sz)) 0 0 (va_A (w_c_X7_has cI cJ cB cZ cO qs qs_widths qs_sizes fs_sizes qs_numbers) sz) := by
  refine Met.ofW (cc := cX7_has) (maxL := 2) (ret := (some .boolean)) (by decide) rfl ?_
  intro p e s m args below meth c s₁ B hml hv
  obtain ⟨rfl, hsz, hP, hE, hD0, hH⟩ := hv
  have hx := B.exec
  have hb := B.bytes
  have hr := B.returns
  have hts := atoms_spec (ws := wsX7_has) B.pre
  have hown : s.vm.findClass RX7 = some m.cls := findClass_of_methodNamed B.named
  have hlocks := B.notSynchronized
  have hK := hE.1
  have hi7 : ∀ w ∈ u_ws RX7 TX7 3, w ∈ wsX7_has := fun w h => List.mem_cons_of_mem _ (List.mem_append_right _ h)
  subst hsz
  have hD := hD0.self (sz := s.heap.size)
  generalize hAe : va_A (w_c_X7_has cI cJ cB cZ cO qs qs_widths qs_sizes fs_sizes qs_numbers) s.heap.size = A at hD hH ⊢
  have hA : ∀ q : Nat, s.heap.size ≤ q → A q := fun q h => by rw [← hAe]; exact Or.inr h
  have hS : va_S A s.heap s.heap [] := va_S.rf
  obtain ⟨hP, hD⟩ : ct_B D A s.heap [(qs, .inr (7, [.ref qs_widths, .ref qs_sizes, .ref qs_numbers])), (qs_sizes, .inl (cI, 4, .inl (fs_sizes)))] := ⟨hP, hD⟩
  have hl := lv_entry ([.ref qs, .int a1]) (n := 2) (Nat.le_of_ble_eq_true rfl)
  rw [lg_entry_eq]
  generalize (lg_sl ([.ref qs, .int a1]) ++ List.replicate (2 - (lg_sl ([.ref qs, .int a1])).length) Slot.unset).toArray = ls at hl ⊢
  have hl : lv_has ls 2 [(0, .ref qs), (1, .int a1)] := hl
  obtain ⟨H, hHe⟩ : ∃ H : Heap, H = s.heap := ⟨_, rfl⟩
  rw [← hHe] at hP
  have hS : va_S A s.heap H [] := by rw [hHe]; exact va_S.rf
  refine ct_start hHe ?_
  refine lv_aload_n hx hb dX7_has_0 rfl (lv_at hl 0 rfl) ?_
  refine va_get (D := D) (ci := 7) (v := .ref qs_sizes) (C := RX7) (T := TX7) (N := 3) hx hb hts hi7 hown hK hP 0 rfl rfl 1 (by decide) (hts (.fieldLink RX7 15 "OverHill$Slots" "sizes" "[I") (by decide +kernel)) (fun _ h9 => h9) rfl dX7_has_1 ?_
  refine lv_iload_n hx hb dX7_has_4 rfl (lv_at hl 1 rfl) ?_
  refine va_iald (D := D) hx hb hK hP 1 0 rfl rfl (tq_in rfl (by omega)) dX7_has_5 ?_
  refine lv_topi (fun z1 ez1 => ?_)
  have fz1 : (-1) ≤ z1.toInt ∧ z1.toInt ≤ 60 := by rw [ez1]; exact ar_get h_fs_sizes a1 0 (by omega) (show a1.toInt % 1 = 0 by omega) rfl
  have gz1 : z1.toInt = (fs_sizes a1.toNatClampNeg).toInt := by rw [ez1]
  refine lv_iconst (v := (-1)) hx hb dX7_has_6 (by decide) ?_
  refine lv_icmp_eq (tgt := 14) hx hb dX7_has_7 (by decide) (fun hc => ?_) (fun hc => ?_)
  · have hq2 : z1.toInt = (-1) := tq_eq rfl (by decide) hc
    refine lv_iconst (v := 0) hx hb dX7_has_14 (by decide) ?_
    obtain ⟨hP9, hD9⟩ : ct_B D A H [(qs, .inr (7, [.ref qs_widths, .ref qs_sizes, .ref qs_numbers])), (qs_sizes, .inl (cI, 4, .inl (fs_sizes)))] := ⟨hP.sub [0, 1] rfl, hD.sub [0, 1] (by decide) rfl⟩
    exact W.zret (v := 0) (ty := .boolean) hx hb hr rfl (fun t ht hW => ⟨⟨0, (), rfl, (Or.inr (⟨rfl, (show ¬ ((fs_sizes a1.toNatClampNeg).toInt ≠ -1) by omega)⟩)), by rw [ht]; exact hP9, hD9⟩, hS.F ht⟩) hS.2.2 dX7_has_15
  · have hq2 : z1.toInt ≠ (-1) := tq_ne rfl (by decide) hc
    refine lv_iconst (v := 1) hx hb dX7_has_10 (by decide) ?_
    refine lv_goto (tgt := 15) hx hb dX7_has_11 (by decide) ?_
    obtain ⟨hP9, hD9⟩ : ct_B D A H [(qs, .inr (7, [.ref qs_widths, .ref qs_sizes, .ref qs_numbers])), (qs_sizes, .inl (cI, 4, .inl (fs_sizes)))] := ⟨hP.sub [0, 1] rfl, hD.sub [0, 1] (by decide) rfl⟩
    exact W.zret (v := 1) (ty := .boolean) hx hb hr rfl (fun t ht hW => ⟨⟨1, (), rfl, (Or.inl ⟨rfl, (show ((fs_sizes a1.toNatClampNeg).toInt ≠ -1) by omega)⟩), by rw [ht]; exact hP9, hD9⟩, hS.F ht⟩) hS.2.2 dX7_has_15
abbrev w_c_X7_countRows (cI cJ cB cZ cO : ClassId) (qs : Nat) (qs_widths : Nat) (qs_sizes : Nat) (fs_sizes : Nat → Int32) (qs_numbers : Nat) : va_W := [(qs, .inr (7, [.ref qs_widths, .ref qs_sizes, .ref qs_numbers])), (qs_sizes, .inl (cI, 4, .inl (fs_sizes)))]
set_option maxHeartbeats 4000000 in
set_option maxRecDepth 100000 in
/-- X7 countRows -/
theorem c_X7_countRows (l : Launch) (D : va_G) (G : ct_G) (cI cJ cB cZ cO : ClassId) (qs : Nat) (qs_widths : Nat) (qs_sizes : Nat) (fs_sizes : Nat → Int32) (qs_numbers : Nat) (h_fs_sizes : ar_ok [(-1)] [60] fs_sizes) (sz : Nat) : Met l yX7_countRows wsX7_countRows ({ frames := 1, cells := 0, slots := 0, locals := 21 }) (va_Pc [.ref qs] (ct_P D (ct_T cI cJ cB cZ cO) G (w_c_X7_countRows cI cJ cB cZ cO qs qs_widths qs_sizes fs_sizes qs_numbers) sz)) (va_Qi (fun (rz : Int32) (u : Unit) => True) (fun (u : Unit) t => ct_Q D (va_A (w_c_X7_countRows cI cJ cB cZ cO qs qs_widths qs_sizes fs_sizes qs_numbers) sz) [(qs, .inr (7, [.ref qs_widths, .ref qs_sizes, .ref qs_numbers])), (qs_sizes, .inl (cI, 4, .inl (fs_sizes)))] t) (va_A (w_c_X7_countRows cI cJ cB cZ cO qs qs_widths qs_sizes fs_sizes qs_numbers) sz)) 0 0 (va_A (w_c_X7_countRows cI cJ cB cZ cO qs qs_widths qs_sizes fs_sizes qs_numbers) sz) := by
  refine Met.ofW (cc := cX7_countRows) (maxL := 3) (ret := (some .int)) (by decide) rfl ?_
  intro p e s m args below meth c s₁ B hml hv
  obtain ⟨rfl, hsz, hP, hE, hD0, hH⟩ := hv
  have hx := B.exec
  have hb := B.bytes
  have hr := B.returns
  have hts := atoms_spec (ws := wsX7_countRows) B.pre
  have hown : s.vm.findClass RX7 = some m.cls := findClass_of_methodNamed B.named
  have hlocks := B.notSynchronized
  have hK := hE.1
  subst hsz
  have hD := hD0.self (sz := s.heap.size)
  generalize hAe : va_A (w_c_X7_countRows cI cJ cB cZ cO qs qs_widths qs_sizes fs_sizes qs_numbers) s.heap.size = A at hD hH ⊢
  have hA : ∀ q : Nat, s.heap.size ≤ q → A q := fun q h => by rw [← hAe]; exact Or.inr h
  have hS : va_S A s.heap s.heap [] := va_S.rf
  obtain ⟨hP, hD⟩ : ct_B D A s.heap [(qs, .inr (7, [.ref qs_widths, .ref qs_sizes, .ref qs_numbers])), (qs_sizes, .inl (cI, 4, .inl (fs_sizes)))] := ⟨hP, hD⟩
  have hl := lv_entry ([.ref qs]) (n := 3) (Nat.le_of_ble_eq_true rfl)
  rw [lg_entry_eq]
  generalize (lg_sl ([.ref qs]) ++ List.replicate (3 - (lg_sl ([.ref qs])).length) Slot.unset).toArray = ls at hl ⊢
  have hl : lv_has ls 3 [(0, .ref qs)] := hl
  obtain ⟨H, hHe⟩ : ∃ H : Heap, H = s.heap := ⟨_, rfl⟩
  rw [← hHe] at hP
  have hS : va_S A s.heap H [] := by rw [hHe]; exact va_S.rf
  refine ct_start hHe ?_
  refine lv_iconst (v := 0) hx hb dX7_countRows_0 (by decide) ?_
  refine lv_istore_n (lv' := [(1, .int 0), (0, .ref qs)]) hx hb dX7_countRows_1 rfl hl (by decide) rfl (fun ls hl => ?_)
  refine lv_iconst (v := 0) hx hb dX7_countRows_2 (by decide) ?_
  refine lv_istore_n (lv' := [(2, .int 0), (1, .int 0), (0, .ref qs)]) hx hb dX7_countRows_3 rfl hl (by decide) rfl (fun ls hl => ?_)
  refine ct_loop (X := Int32 × Int32) (fun x => (4 - x.2.toInt).toNat) (fun x H locs ls => ((0 ≤ x.2.toInt ∧ x.2.toInt ≤ 4)) ∧ ct_B D A H [(qs, .inr (7, [.ref qs_widths, .ref qs_sizes, .ref qs_numbers])), (qs_sizes, .inl (cI, 4, .inl (fs_sizes)))] ∧ va_S A s.heap H locs ∧ lv_has ls 3 [(2, .int x.2), (1, .int x.1), (0, .ref qs)]) 4 ((0 : Int32), (0 : Int32)) ⟨(show 0 ≤ (0 : Int32).toInt ∧ (0 : Int32).toInt ≤ 4 by decide), ⟨hP, hD⟩, hS, lv_sub hl [0, 1, 2] rfl⟩ (fun x ih88 H locs ls hI => ?_)
  obtain ⟨x86, x87⟩ := x
  obtain ⟨h_x87, ⟨hP, hD⟩, hS, hl⟩ := hI
  have h_x87 : (0 ≤ x87.toInt ∧ x87.toInt ≤ 4) := h_x87
  obtain ⟨hP, hD⟩ : ct_B D A H [(qs, .inr (7, [.ref qs_widths, .ref qs_sizes, .ref qs_numbers])), (qs_sizes, .inl (cI, 4, .inl (fs_sizes)))] := ⟨hP, hD⟩
  have hl : lv_has ls 3 [(2, .int x87), (1, .int x86), (0, .ref qs)] := hl
  refine lv_iload_n hx hb dX7_countRows_4 rfl (lv_at hl 0 rfl) ?_
  refine lv_iconst (v := 4) hx hb dX7_countRows_5 (by decide) ?_
  refine lv_icmp_ge (tgt := 31) hx hb dX7_countRows_6 (by decide) (fun hc => ?_) (fun hc => ?_)
  · have hq89 : 4 ≤ x87.toInt := tq_le (by decide) rfl hc
    refine lv_iload_n hx hb dX7_countRows_31 rfl (lv_at hl 1 rfl) ?_
    obtain ⟨hP9, hD9⟩ : ct_B D A H [(qs, .inr (7, [.ref qs_widths, .ref qs_sizes, .ref qs_numbers])), (qs_sizes, .inl (cI, 4, .inl (fs_sizes)))] := ⟨hP.sub [0, 1] rfl, hD.sub [0, 1] (by decide) rfl⟩
    exact W.iret (v := x86) hx hb hr (fun t ht hW => ⟨⟨x86, (), rfl, trivial, by rw [ht]; exact hP9, hD9⟩, hS.F ht⟩) hS.2.2 dX7_countRows_32
  · have hq89 : x87.toInt < 4 := tq_nle (by decide) rfl hc
    refine lv_iload_n hx hb dX7_countRows_9 rfl (lv_at hl 1 rfl) ?_
    refine lv_aload_n hx hb dX7_countRows_10 rfl (lv_at hl 2 rfl) ?_
    refine lv_iload_n hx hb dX7_countRows_11 rfl (lv_at hl 0 rfl) ?_
    refine ct_calli (D := D) (wr := []) (va_runV (As := [.int x87]) (rest := [.int x86]) ⟨hx, hb, hml, hown, hts⟩ (c_X7_has l D G cI cJ cB cZ cO qs qs_widths qs_sizes fs_sizes qs_numbers x87 h_fs_sizes (by omega) H.size) (cwV 1 hts gX7_countRows_X7_has rfl rfl rfl (by decide +kernel) ⟨Nat.le_of_ble_eq_true rfl, Nat.le_of_ble_eq_true rfl⟩) (ct_preV (T := ct_T cI cJ cB cZ cO) (ci := 7) (q0 := 0) hE hH hP hD hS hA [0, 1] (by decide) rfl rfl rfl) rfl rfl hl.1 rfl (lv_room (Nat.le_of_ble_eq_true rfl)) dX7_countRows_12 ⟨Nat.le_of_ble_eq_true rfl, Nat.le_of_ble_eq_true rfl⟩) hP hD hS hA [0, 1] [] rfl rfl (by decide) (by decide) (fun r90 u H locs hw hP hD hS => ?_)
    obtain ⟨hP, hD⟩ : ct_B D A H [(qs, .inr (7, [.ref qs_widths, .ref qs_sizes, .ref qs_numbers])), (qs_sizes, .inl (cI, 4, .inl (fs_sizes)))] := ⟨hP, hD⟩
    have hz := hw
    rcases hz with ⟨hz, hz2⟩ | ⟨hz, hz2⟩
    · subst hz
      have hz_91 : ((fs_sizes x87.toNatClampNeg).toInt ≠ -1) := hz2
      refine lv_if_eq (tgt := 22) hx hb dX7_countRows_15 (by decide) (fun hc => absurd hc (by decide)) (fun _ => ?_)
      refine lv_iconst (v := 1) hx hb dX7_countRows_18 (by decide) ?_
      refine lv_goto (tgt := 23) hx hb dX7_countRows_19 (by decide) ?_
      refine lv_iadd hx hb dX7_countRows_23 ?_
      refine lv_topi (fun z92 ez92 => ?_)
      refine lv_istore_n (lv' := [(1, .int z92), (2, .int x87), (0, .ref qs)]) hx hb dX7_countRows_24 rfl hl (by decide) rfl (fun ls hl => ?_)
      obtain ⟨z93, ez93⟩ : ∃ z : Int32, z = x87 + 1 := ⟨_, rfl⟩
      have fz93 : z93.toInt = x87.toInt + 1 := by rw [ez93]; exact tq_add rfl (by decide) (by omega)
      refine lv_iinc (v := z93) (lv' := [(2, .int z93), (1, .int z92), (0, .ref qs)]) hx hb dX7_countRows_25 hl (k := 1) rfl ez93.symm (by decide) rfl (fun ls hl => ?_)
      refine lv_goto (tgt := 4) hx hb dX7_countRows_28 (by decide) ?_
      exact ih88 (z92, z93) _ _ _ (show (4 - z93.toInt).toNat < (4 - x87.toInt).toNat by omega) ⟨(show 0 ≤ z93.toInt ∧ z93.toInt ≤ 4 by omega), ⟨hP, hD⟩, hS, lv_sub hl [0, 1, 2] rfl⟩
    · subst hz
      have hz_94 : ¬ ((fs_sizes x87.toNatClampNeg).toInt ≠ -1) := hz2
      refine lv_if_eq (tgt := 22) hx hb dX7_countRows_15 (by decide) (fun _ => ?_) (fun hc => absurd hc (by decide))
      refine lv_iconst (v := 0) hx hb dX7_countRows_22 (by decide) ?_
      refine lv_iadd hx hb dX7_countRows_23 ?_
      refine lv_topi (fun z95 ez95 => ?_)
      refine lv_istore_n (lv' := [(1, .int z95), (2, .int x87), (0, .ref qs)]) hx hb dX7_countRows_24 rfl hl (by decide) rfl (fun ls hl => ?_)
      obtain ⟨z96, ez96⟩ : ∃ z : Int32, z = x87 + 1 := ⟨_, rfl⟩
      have fz96 : z96.toInt = x87.toInt + 1 := by rw [ez96]; exact tq_add rfl (by decide) (by omega)
      refine lv_iinc (v := z96) (lv' := [(2, .int z96), (1, .int z95), (0, .ref qs)]) hx hb dX7_countRows_25 hl (k := 1) rfl ez96.symm (by decide) rfl (fun ls hl => ?_)
      refine lv_goto (tgt := 4) hx hb dX7_countRows_28 (by decide) ?_
      exact ih88 (z95, z96) _ _ _ (show (4 - z96.toInt).toNat < (4 - x87.toInt).toNat by omega) ⟨(show 0 ≤ z96.toInt ∧ z96.toInt ≤ 4 by omega), ⟨hP, hD⟩, hS, lv_sub hl [0, 1, 2] rfl⟩
abbrev w_c_X7_at (cI cJ cB cZ cO : ClassId) (qs : Nat) (qs_widths : Nat) (qs_sizes : Nat) (qs_numbers : Nat) (fs_numbers : Nat → Int64) : va_W := [(qs, .inr (7, [.ref qs_widths, .ref qs_sizes, .ref qs_numbers])), (qs_numbers, .inl (cJ, 240, .inr (.inl (fs_numbers))))]
set_option maxHeartbeats 4000000 in
set_option maxRecDepth 100000 in
/-- X7 at -/
theorem c_X7_at (l : Launch) (D : va_G) (G : ct_G) (cI cJ cB cZ cO : ClassId) (qs : Nat) (qs_widths : Nat) (qs_sizes : Nat) (qs_numbers : Nat) (fs_numbers : Nat → Int64) (a1 : Int32) (a2 : Int32) (h_a1 : 0 ≤ a1.toInt ∧ a1.toInt ≤ 3) (h_a2 : 0 ≤ a2.toInt ∧ a2.toInt ≤ 59) (sz : Nat) : Met l yX7_at wsX7_at ({ frames := 0, cells := 0, slots := 0, locals := 0 }) (va_Pc [.ref qs, .int a1, .int a2] (ct_P D (ct_T cI cJ cB cZ cO) G (w_c_X7_at cI cJ cB cZ cO qs qs_widths qs_sizes qs_numbers fs_numbers) sz)) (va_Ql (fun (rz : Int64) (u : Unit) => (rz = fs_numbers (60 * a1.toInt + a2.toInt).toNat)) (fun (u : Unit) t => ct_Q D (va_A (w_c_X7_at cI cJ cB cZ cO qs qs_widths qs_sizes qs_numbers fs_numbers) sz) [(qs, .inr (7, [.ref qs_widths, .ref qs_sizes, .ref qs_numbers])), (qs_numbers, .inl (cJ, 240, .inr (.inl (fs_numbers))))] t) (va_A (w_c_X7_at cI cJ cB cZ cO qs qs_widths qs_sizes qs_numbers fs_numbers) sz)) 0 0 (va_A (w_c_X7_at cI cJ cB cZ cO qs qs_widths qs_sizes qs_numbers fs_numbers) sz) := by
  refine Met.ofW (cc := cX7_at) (maxL := 3) (ret := (some .long)) (by decide) rfl ?_
  intro p e s m args below meth c s₁ B hml hv
  obtain ⟨rfl, hsz, hP, hE, hD0, hH⟩ := hv
  have hx := B.exec
  have hb := B.bytes
  have hr := B.returns
  have hts := atoms_spec (ws := wsX7_at) B.pre
  have hown : s.vm.findClass RX7 = some m.cls := findClass_of_methodNamed B.named
  have hlocks := B.notSynchronized
  have hK := hE.1
  have hi7 : ∀ w ∈ u_ws RX7 TX7 3, w ∈ wsX7_at := fun w h => List.mem_cons_of_mem _ (List.mem_append_right _ h)
  subst hsz
  have hD := hD0.self (sz := s.heap.size)
  generalize hAe : va_A (w_c_X7_at cI cJ cB cZ cO qs qs_widths qs_sizes qs_numbers fs_numbers) s.heap.size = A at hD hH ⊢
  have hA : ∀ q : Nat, s.heap.size ≤ q → A q := fun q h => by rw [← hAe]; exact Or.inr h
  have hS : va_S A s.heap s.heap [] := va_S.rf
  obtain ⟨hP, hD⟩ : ct_B D A s.heap [(qs, .inr (7, [.ref qs_widths, .ref qs_sizes, .ref qs_numbers])), (qs_numbers, .inl (cJ, 240, .inr (.inl (fs_numbers))))] := ⟨hP, hD⟩
  have hl := lv_entry ([.ref qs, .int a1, .int a2]) (n := 3) (Nat.le_of_ble_eq_true rfl)
  rw [lg_entry_eq]
  generalize (lg_sl ([.ref qs, .int a1, .int a2]) ++ List.replicate (3 - (lg_sl ([.ref qs, .int a1, .int a2])).length) Slot.unset).toArray = ls at hl ⊢
  have hl : lv_has ls 3 [(0, .ref qs), (1, .int a1), (2, .int a2)] := hl
  obtain ⟨H, hHe⟩ : ∃ H : Heap, H = s.heap := ⟨_, rfl⟩
  rw [← hHe] at hP
  have hS : va_S A s.heap H [] := by rw [hHe]; exact va_S.rf
  refine ct_start hHe ?_
  refine lv_aload_n hx hb dX7_at_0 rfl (lv_at hl 0 rfl) ?_
  refine va_get (D := D) (ci := 7) (v := .ref qs_numbers) (C := RX7) (T := TX7) (N := 3) hx hb hts hi7 hown hK hP 0 rfl rfl 2 (by decide) (hts (.fieldLink RX7 18 "OverHill$Slots" "numbers" "[J") (by decide +kernel)) (fun _ h9 => h9) rfl dX7_at_1 ?_
  refine lv_iload_n hx hb dX7_at_4 rfl (lv_at hl 1 rfl) ?_
  refine lv_bipush (v := 60) hx hb dX7_at_5 (by decide) ?_
  refine lv_imul hx hb dX7_at_7 ?_
  refine lv_topi (fun z1 ez1 => ?_)
  have fz1 : z1.toInt = a1.toInt * 60 := by rw [ez1]; exact tq_mul rfl (by decide) (by omega)
  refine lv_iload_n hx hb dX7_at_8 rfl (lv_at hl 2 rfl) ?_
  refine lv_iadd hx hb dX7_at_9 ?_
  refine lv_topi (fun z2 ez2 => ?_)
  have fz2 : z2.toInt = z1.toInt + a2.toInt := by rw [ez2]; exact tq_add rfl rfl (by omega)
  refine va_lald (D := D) hx hb hK hP 1 1 rfl rfl (tq_in rfl (by omega)) dX7_at_10 ?_
  refine lv_topl (fun z3 ez3 => ?_)
  obtain ⟨hP9, hD9⟩ : ct_B D A H [(qs, .inr (7, [.ref qs_widths, .ref qs_sizes, .ref qs_numbers])), (qs_numbers, .inl (cJ, 240, .inr (.inl (fs_numbers))))] := ⟨hP.sub [0, 1] rfl, hD.sub [0, 1] (by decide) rfl⟩
  exact W.lret (v := z3) hx hb hr (fun t ht hW => ⟨⟨z3, (), rfl, (show z3 = fs_numbers (60 * a1.toInt + a2.toInt).toNat by rw [ez3]; exact congrArg fs_numbers (show z2.toInt.toNat = (60 * a1.toInt + a2.toInt).toNat by omega)), by rw [ht]; exact hP9, hD9⟩, hS.F ht⟩) hS.2.2 dX7_at_11
abbrev w_c_X7_isBetween (cI cJ cB cZ cO : ClassId)  : va_W := []
set_option maxHeartbeats 4000000 in
set_option maxRecDepth 100000 in
/-- X7 isBetween -/
theorem c_X7_isBetween (l : Launch) (D : va_G) (G : ct_G) (cI cJ cB cZ cO : ClassId) (x : Int64) (y : Int64) (z : Int64)  (sz : Nat) : Met l yX7_isBetween wsX7_isBetween ({ frames := 0, cells := 0, slots := 0, locals := 0 }) (va_Pc [.long x, .long y, .long z] (ct_P D (ct_T cI cJ cB cZ cO) G (w_c_X7_isBetween cI cJ cB cZ cO ) sz)) (va_Qi (fun (rz : Int32) (u : Unit) => ((rz = 1 ∧ (y.toInt ≤ x.toInt ∧ x.toInt ≤ z.toInt)) ∨ (rz = 0 ∧ ¬ (y.toInt ≤ x.toInt ∧ x.toInt ≤ z.toInt)))) (fun (u : Unit) t => ct_Q D (va_A (w_c_X7_isBetween cI cJ cB cZ cO ) sz) [] t) (va_A (w_c_X7_isBetween cI cJ cB cZ cO ) sz)) 0 0 (va_A (w_c_X7_isBetween cI cJ cB cZ cO ) sz) := by
  refine Met.ofW (cc := cX7_isBetween) (maxL := 6) (ret := (some .boolean)) (by decide) rfl ?_
  intro p e s m args below meth c s₁ B hml hv
  obtain ⟨rfl, hsz, hP, hE, hD0, hH⟩ := hv
  have hx := B.exec
  have hb := B.bytes
  have hr := B.returns
  have hts := atoms_spec (ws := wsX7_isBetween) B.pre
  have hown : s.vm.findClass RX7 = some m.cls := findClass_of_methodNamed B.named
  have hlocks := B.notSynchronized
  have hK := hE.1
  subst hsz
  have hD := hD0.self (sz := s.heap.size)
  generalize hAe : va_A (w_c_X7_isBetween cI cJ cB cZ cO ) s.heap.size = A at hD hH ⊢
  have hA : ∀ q : Nat, s.heap.size ≤ q → A q := fun q h => by rw [← hAe]; exact Or.inr h
  have hS : va_S A s.heap s.heap [] := va_S.rf
  obtain ⟨hP, hD⟩ : ct_B D A s.heap [] := ⟨hP, hD⟩
  have hl := lv_entry ([.long x, .long y, .long z]) (n := 6) (Nat.le_of_ble_eq_true rfl)
  rw [lg_entry_eq]
  generalize (lg_sl ([.long x, .long y, .long z]) ++ List.replicate (6 - (lg_sl ([.long x, .long y, .long z])).length) Slot.unset).toArray = ls at hl ⊢
  have hl : lv_has ls 6 [(0, .long x), (2, .long y), (4, .long z)] := hl
  obtain ⟨H, hHe⟩ : ∃ H : Heap, H = s.heap := ⟨_, rfl⟩
  rw [← hHe] at hP
  have hS : va_S A s.heap H [] := by rw [hHe]; exact va_S.rf
  refine ct_start hHe ?_
  refine lv_lload_n hx hb dX7_isBetween_0 rfl (lv_at hl 0 rfl) ?_
  refine lv_lload_n hx hb dX7_isBetween_1 rfl (lv_at hl 1 rfl) ?_
  refine W.lcmp hx hb dX7_isBetween_2 ?_
  refine lv_if_lt (tgt := 17) hx hb dX7_isBetween_3 (by decide) (fun hc => ?_) (fun hc => ?_)
  · have hq1 : x.toInt < y.toInt := tl_lt rfl rfl ((lg_cmp_lt _ _).mp hc)
    refine lv_iconst (v := 0) hx hb dX7_isBetween_17 (by decide) ?_
    obtain ⟨hP9, hD9⟩ : ct_B D A H [] := ⟨hP.sub [] rfl, hD.sub [] (by decide) rfl⟩
    exact W.zret (v := 0) (ty := .boolean) hx hb hr rfl (fun t ht hW => ⟨⟨0, (), rfl, (Or.inr (⟨rfl, (show ¬ (y.toInt ≤ x.toInt ∧ x.toInt ≤ z.toInt) by omega)⟩)), by rw [ht]; exact hP9, hD9⟩, hS.F ht⟩) hS.2.2 dX7_isBetween_18
  · have hq1 : y.toInt ≤ x.toInt := tl_nlt rfl rfl (fun z => hc ((lg_cmp_lt _ _).mpr z))
    refine lv_lload_n hx hb dX7_isBetween_6 rfl (lv_at hl 0 rfl) ?_
    refine lv_lload hx hb dX7_isBetween_7 (lv_at hl 2 rfl) ?_
    refine W.lcmp hx hb dX7_isBetween_9 ?_
    refine lv_if_gt (tgt := 17) hx hb dX7_isBetween_10 (by decide) (fun hc => ?_) (fun hc => ?_)
    · have hq2 : z.toInt < x.toInt := tl_lt rfl rfl ((lg_cmp_gt _ _).mp hc)
      refine lv_iconst (v := 0) hx hb dX7_isBetween_17 (by decide) ?_
      obtain ⟨hP9, hD9⟩ : ct_B D A H [] := ⟨hP.sub [] rfl, hD.sub [] (by decide) rfl⟩
      exact W.zret (v := 0) (ty := .boolean) hx hb hr rfl (fun t ht hW => ⟨⟨0, (), rfl, (Or.inr (⟨rfl, (show ¬ (y.toInt ≤ x.toInt ∧ x.toInt ≤ z.toInt) by omega)⟩)), by rw [ht]; exact hP9, hD9⟩, hS.F ht⟩) hS.2.2 dX7_isBetween_18
    · have hq2 : x.toInt ≤ z.toInt := tl_nlt rfl rfl (fun z => hc ((lg_cmp_gt _ _).mpr z))
      refine lv_iconst (v := 1) hx hb dX7_isBetween_13 (by decide) ?_
      refine lv_goto (tgt := 18) hx hb dX7_isBetween_14 (by decide) ?_
      obtain ⟨hP9, hD9⟩ : ct_B D A H [] := ⟨hP.sub [] rfl, hD.sub [] (by decide) rfl⟩
      exact W.zret (v := 1) (ty := .boolean) hx hb hr rfl (fun t ht hW => ⟨⟨1, (), rfl, (Or.inl ⟨rfl, (show (y.toInt ≤ x.toInt ∧ x.toInt ≤ z.toInt) by omega)⟩), by rw [ht]; exact hP9, hD9⟩, hS.F ht⟩) hS.2.2 dX7_isBetween_18
abbrev w_c_X7_isTold (cI cJ cB cZ cO : ClassId)  : va_W := []
set_option maxHeartbeats 4000000 in
set_option maxRecDepth 100000 in
/-- X7 isTold -/
theorem c_X7_isTold (l : Launch) (D : va_G) (G : ct_G) (cI cJ cB cZ cO : ClassId) (x : Int64)  (sz : Nat) : Met l yX7_isTold wsX7_isTold ({ frames := 1, cells := 0, slots := 0, locals := 25 }) (va_Pc [.long x] (ct_P D (ct_T cI cJ cB cZ cO) G (w_c_X7_isTold cI cJ cB cZ cO ) sz)) (va_Qi (fun (rz : Int32) (u : Unit) => ((rz = 1 ∧ (-1 ≤ x.toInt ∧ x.toInt ≤ 5)) ∨ (rz = 0 ∧ ¬ (-1 ≤ x.toInt ∧ x.toInt ≤ 5)))) (fun (u : Unit) t => ct_Q D (va_A (w_c_X7_isTold cI cJ cB cZ cO ) sz) [] t) (va_A (w_c_X7_isTold cI cJ cB cZ cO ) sz)) 0 0 (va_A (w_c_X7_isTold cI cJ cB cZ cO ) sz) := by
  refine Met.ofW (cc := cX7_isTold) (maxL := 2) (ret := (some .boolean)) (by decide) rfl ?_
  intro p e s m args below meth c s₁ B hml hv
  obtain ⟨rfl, hsz, hP, hE, hD0, hH⟩ := hv
  have hx := B.exec
  have hb := B.bytes
  have hr := B.returns
  have hts := atoms_spec (ws := wsX7_isTold) B.pre
  have hown : s.vm.findClass RX7 = some m.cls := findClass_of_methodNamed B.named
  have hlocks := B.notSynchronized
  have hK := hE.1
  subst hsz
  have hD := hD0.self (sz := s.heap.size)
  generalize hAe : va_A (w_c_X7_isTold cI cJ cB cZ cO ) s.heap.size = A at hD hH ⊢
  have hA : ∀ q : Nat, s.heap.size ≤ q → A q := fun q h => by rw [← hAe]; exact Or.inr h
  have hS : va_S A s.heap s.heap [] := va_S.rf
  obtain ⟨hP, hD⟩ : ct_B D A s.heap [] := ⟨hP, hD⟩
  have hl := lv_entry ([.long x]) (n := 2) (Nat.le_of_ble_eq_true rfl)
  rw [lg_entry_eq]
  generalize (lg_sl ([.long x]) ++ List.replicate (2 - (lg_sl ([.long x])).length) Slot.unset).toArray = ls at hl ⊢
  have hl : lv_has ls 2 [(0, .long x)] := hl
  obtain ⟨H, hHe⟩ : ∃ H : Heap, H = s.heap := ⟨_, rfl⟩
  rw [← hHe] at hP
  have hS : va_S A s.heap H [] := by rw [hHe]; exact va_S.rf
  refine ct_start hHe ?_
  refine lv_lload_n hx hb dX7_isTold_0 rfl (lv_at hl 0 rfl) ?_
  refine lv_ldc2 (v := (-1)) hx hb hown (hts (.constantLong RX7 60 (-1)) (by decide +kernel)) dX7_isTold_1 ?_
  refine lv_ldc2 (v := 5) hx hb hown (hts (.constantLong RX7 70 (5)) (by decide +kernel)) dX7_isTold_4 ?_
  refine ct_calli (D := D) (wr := []) (va_runS (As := [.long x, .long (-1), .long 5]) (rest := []) ⟨hx, hb, hml, hown, hts⟩ (c_X7_isBetween l D G cI cJ cB cZ cO x (-1) 5  H.size) (va_cwS 3 hts gX7_isTold_X7_isBetween rfl rfl rfl (by decide +kernel) ⟨Nat.le_of_ble_eq_true rfl, Nat.le_of_ble_eq_true rfl⟩) (ct_preS (T := ct_T cI cJ cB cZ cO) hE hH hP hD hS hA [] (by decide) rfl) rfl rfl hl.1 rfl (lv_room (Nat.le_of_ble_eq_true rfl)) dX7_isTold_7 ⟨Nat.le_of_ble_eq_true rfl, Nat.le_of_ble_eq_true rfl⟩) hP hD hS hA [] [] rfl rfl (by decide) (by decide) (fun r1 u H locs hw hP hD hS => ?_)
  obtain ⟨hP, hD⟩ : ct_B D A H [] := ⟨hP, hD⟩
  have hk2 : (-1 : Int64).toInt = -1 := by decide
  have hk3 : (5 : Int64).toInt = 5 := by decide
  have hz := hw
  rcases hz with ⟨hz, hz2⟩ | ⟨hz, hz2⟩
  · subst hz
    have hz_4 : ((-1 : Int64).toInt ≤ x.toInt ∧ x.toInt ≤ (5 : Int64).toInt) := hz2
    obtain ⟨hP9, hD9⟩ : ct_B D A H [] := ⟨hP.sub [] rfl, hD.sub [] (by decide) rfl⟩
    exact W.zret (v := 1) (ty := .boolean) hx hb hr rfl (fun t ht hW => ⟨⟨1, (), rfl, (Or.inl ⟨rfl, (show (-1 ≤ x.toInt ∧ x.toInt ≤ 5) by omega)⟩), by rw [ht]; exact hP9, hD9⟩, hS.F ht⟩) hS.2.2 dX7_isTold_10
  · subst hz
    have hz_5 : ¬ ((-1 : Int64).toInt ≤ x.toInt ∧ x.toInt ≤ (5 : Int64).toInt) := hz2
    obtain ⟨hP9, hD9⟩ : ct_B D A H [] := ⟨hP.sub [] rfl, hD.sub [] (by decide) rfl⟩
    exact W.zret (v := 0) (ty := .boolean) hx hb hr rfl (fun t ht hW => ⟨⟨0, (), rfl, (Or.inr (⟨rfl, (show ¬ (-1 ≤ x.toInt ∧ x.toInt ≤ 5) by omega)⟩)), by rw [ht]; exact hP9, hD9⟩, hS.F ht⟩) hS.2.2 dX7_isTold_10
abbrev w_c_X7_cut (cI cJ cB cZ cO : ClassId)  : va_W := []
set_option maxHeartbeats 4000000 in
set_option maxRecDepth 100000 in
/-- X7 cut -/
theorem c_X7_cut (l : Launch) (D : va_G) (G : ct_G) (cI cJ cB cZ cO : ClassId) (a1 : Int64) (a2 : Int32)  (sz : Nat) : Met l yX7_cut wsX7_cut ({ frames := 0, cells := 0, slots := 0, locals := 0 }) (va_Pc [.long a1, .int a2] (ct_P D (ct_T cI cJ cB cZ cO) G (w_c_X7_cut cI cJ cB cZ cO ) sz)) (va_Ql (fun (rz : Int64) (u : Unit) => (rz = cu a1 a2)) (fun (u : Unit) t => ct_Q D (va_A (w_c_X7_cut cI cJ cB cZ cO ) sz) [] t) (va_A (w_c_X7_cut cI cJ cB cZ cO ) sz)) 0 0 (va_A (w_c_X7_cut cI cJ cB cZ cO ) sz) := by
  refine Met.ofW (cc := cX7_cut) (maxL := 3) (ret := (some .long)) (by decide) rfl ?_
  intro p e s m args below meth c s₁ B hml hv
  obtain ⟨rfl, hsz, hP, hE, hD0, hH⟩ := hv
  have hx := B.exec
  have hb := B.bytes
  have hr := B.returns
  have hts := atoms_spec (ws := wsX7_cut) B.pre
  have hown : s.vm.findClass RX7 = some m.cls := findClass_of_methodNamed B.named
  have hlocks := B.notSynchronized
  have hK := hE.1
  subst hsz
  have hD := hD0.self (sz := s.heap.size)
  generalize hAe : va_A (w_c_X7_cut cI cJ cB cZ cO ) s.heap.size = A at hD hH ⊢
  have hA : ∀ q : Nat, s.heap.size ≤ q → A q := fun q h => by rw [← hAe]; exact Or.inr h
  have hS : va_S A s.heap s.heap [] := va_S.rf
  obtain ⟨hP, hD⟩ : ct_B D A s.heap [] := ⟨hP, hD⟩
  have hl := lv_entry ([.long a1, .int a2]) (n := 3) (Nat.le_of_ble_eq_true rfl)
  rw [lg_entry_eq]
  generalize (lg_sl ([.long a1, .int a2]) ++ List.replicate (3 - (lg_sl ([.long a1, .int a2])).length) Slot.unset).toArray = ls at hl ⊢
  have hl : lv_has ls 3 [(0, .long a1), (2, .int a2)] := hl
  obtain ⟨H, hHe⟩ : ∃ H : Heap, H = s.heap := ⟨_, rfl⟩
  rw [← hHe] at hP
  have hS : va_S A s.heap H [] := by rw [hHe]; exact va_S.rf
  refine ct_start hHe ?_
  refine lv_iload_n hx hb dX7_cut_0 rfl (lv_at hl 1 rfl) ?_
  by_cases hq1 : a2.toInt = 0
  · refine lv_tableIn (tgt := 28) (off := 27) hx hb dX7_cut_1 (by omega) (by omega) (by rw [hq1]; decide) (by decide) ?_
    refine lv_lload_n hx hb dX7_cut_28 rfl (lv_at hl 0 rfl) ?_
    refine lv_l2i (v := _) hx hb dX7_cut_29 rfl ?_
    refine lv_topi (fun z2 ez2 => ?_)
    refine lv_i2b (v := _) hx hb dX7_cut_30 rfl ?_
    refine lv_topi (fun z3 ez3 => ?_)
    refine lv_i2l (v := _) hx hb dX7_cut_31 rfl ?_
    refine lv_topl (fun z4 ez4 => ?_)
    have fz4 : z4.toInt = z3.toInt := by rw [ez4]; exact tl_i rfl
    have hb5 := tq_lo z3
    obtain ⟨hP9, hD9⟩ : ct_B D A H [] := ⟨hP.sub [] rfl, hD.sub [] (by decide) rfl⟩
    exact W.lret (v := z4) hx hb hr (fun t ht hW => ⟨⟨z4, (), rfl, (show z4 = cu a1 a2 by exact cu_0 (by omega) ez2 ez3 ez4), by rw [ht]; exact hP9, hD9⟩, hS.F ht⟩) hS.2.2 dX7_cut_32
  by_cases hq6 : a2.toInt = 1
  · refine lv_tableIn (tgt := 33) (off := 32) hx hb dX7_cut_1 (by omega) (by omega) (by rw [hq6]; decide) (by decide) ?_
    refine lv_lload_n hx hb dX7_cut_33 rfl (lv_at hl 0 rfl) ?_
    refine lv_l2i (v := _) hx hb dX7_cut_34 rfl ?_
    refine lv_topi (fun z7 ez7 => ?_)
    refine lv_i2s (v := _) hx hb dX7_cut_35 rfl ?_
    refine lv_topi (fun z8 ez8 => ?_)
    refine lv_i2l (v := _) hx hb dX7_cut_36 rfl ?_
    refine lv_topl (fun z9 ez9 => ?_)
    have fz9 : z9.toInt = z8.toInt := by rw [ez9]; exact tl_i rfl
    have hb10 := tq_lo z8
    obtain ⟨hP9, hD9⟩ : ct_B D A H [] := ⟨hP.sub [] rfl, hD.sub [] (by decide) rfl⟩
    exact W.lret (v := z9) hx hb hr (fun t ht hW => ⟨⟨z9, (), rfl, (show z9 = cu a1 a2 by exact cu_1 (by omega) ez7 ez8 ez9), by rw [ht]; exact hP9, hD9⟩, hS.F ht⟩) hS.2.2 dX7_cut_37
  by_cases hq11 : a2.toInt = 2
  · refine lv_tableIn (tgt := 38) (off := 37) hx hb dX7_cut_1 (by omega) (by omega) (by rw [hq11]; decide) (by decide) ?_
    refine lv_lload_n hx hb dX7_cut_38 rfl (lv_at hl 0 rfl) ?_
    refine lv_l2i (v := _) hx hb dX7_cut_39 rfl ?_
    refine lv_topi (fun z12 ez12 => ?_)
    refine lv_i2l (v := _) hx hb dX7_cut_40 rfl ?_
    refine lv_topl (fun z13 ez13 => ?_)
    have fz13 : z13.toInt = z12.toInt := by rw [ez13]; exact tl_i rfl
    have hb14 := tq_lo z12
    obtain ⟨hP9, hD9⟩ : ct_B D A H [] := ⟨hP.sub [] rfl, hD.sub [] (by decide) rfl⟩
    exact W.lret (v := z13) hx hb hr (fun t ht hW => ⟨⟨z13, (), rfl, (show z13 = cu a1 a2 by exact cu_2 (by omega) ez12 ez13), by rw [ht]; exact hP9, hD9⟩, hS.F ht⟩) hS.2.2 dX7_cut_41
  refine lv_tableOut (tgt := 42) hx hb dX7_cut_1 (by omega) (by decide) ?_
  refine lv_lload_n hx hb dX7_cut_42 rfl (lv_at hl 0 rfl) ?_
  obtain ⟨hP9, hD9⟩ : ct_B D A H [] := ⟨hP.sub [] rfl, hD.sub [] (by decide) rfl⟩
  exact W.lret (v := a1) hx hb hr (fun t ht hW => ⟨⟨a1, (), rfl, (show a1 = cu a1 a2 by exact cu_3 (by omega) (by omega) (by omega)), by rw [ht]; exact hP9, hD9⟩, hS.F ht⟩) hS.2.2 dX7_cut_43
abbrev w_c_X7_put (cI cJ cB cZ cO : ClassId) (qs : Nat) (qs_widths : Nat) (fs_widths : Nat → Int32) (qs_sizes : Nat) (qs_numbers : Nat) (fs_numbers : Nat → Int64) : va_W := [(qs, .inr (7, [.ref qs_widths, .ref qs_sizes, .ref qs_numbers])), (qs_widths, .inl (cI, 4, .inl (fs_widths))), (qs_numbers, .inl (cJ, 240, .inr (.inl (fs_numbers))))]
set_option maxHeartbeats 4000000 in
set_option maxRecDepth 100000 in
/-- X7 put -/
theorem c_X7_put (l : Launch) (D : va_G) (G : ct_G) (cI cJ cB cZ cO : ClassId) (qs : Nat) (qs_widths : Nat) (fs_widths : Nat → Int32) (qs_sizes : Nat) (qs_numbers : Nat) (fs_numbers : Nat → Int64) (a1 : Int32) (a2 : Int32) (a3 : Int64) (h_a1 : 0 ≤ a1.toInt ∧ a1.toInt ≤ 3) (h_a2 : 0 ≤ a2.toInt ∧ a2.toInt ≤ 59) (sz : Nat) : Met l yX7_put wsX7_put ({ frames := 1, cells := 0, slots := 0, locals := 22 }) (va_Pc [.ref qs, .int a1, .int a2, .long a3] (ct_P D (ct_T cI cJ cB cZ cO) G (w_c_X7_put cI cJ cB cZ cO qs qs_widths fs_widths qs_sizes qs_numbers fs_numbers) sz)) (va_Qv (fun (u : (Nat → Int64)) => (u = vp_updL fs_numbers (60 * a1.toInt + a2.toInt).toNat (cu a3 (fs_widths a1.toNatClampNeg)))) (fun (u : (Nat → Int64)) t => ct_Q D (va_A (w_c_X7_put cI cJ cB cZ cO qs qs_widths fs_widths qs_sizes qs_numbers fs_numbers) sz) [(qs, .inr (7, [.ref qs_widths, .ref qs_sizes, .ref qs_numbers])), (qs_widths, .inl (cI, 4, .inl (fs_widths))), (qs_numbers, .inl (cJ, 240, .inr (.inl (u))))] t) (va_A (w_c_X7_put cI cJ cB cZ cO qs qs_widths fs_widths qs_sizes qs_numbers fs_numbers) sz)) 0 0 (va_A (w_c_X7_put cI cJ cB cZ cO qs qs_widths fs_widths qs_sizes qs_numbers fs_numbers) sz) := by
  refine Met.ofW (cc := cX7_put) (maxL := 5) (ret := none) (by decide) rfl ?_
  intro p e s m args below meth c s₁ B hml hv
  obtain ⟨rfl, hsz, hP, hE, hD0, hH⟩ := hv
  have hx := B.exec
  have hb := B.bytes
  have hr := B.returns
  have hts := atoms_spec (ws := wsX7_put) B.pre
  have hown : s.vm.findClass RX7 = some m.cls := findClass_of_methodNamed B.named
  have hlocks := B.notSynchronized
  have hK := hE.1
  have hi7 : ∀ w ∈ u_ws RX7 TX7 3, w ∈ wsX7_put := fun w h => List.mem_cons_of_mem _ (List.mem_append_right _ h)
  subst hsz
  have hD := hD0.self (sz := s.heap.size)
  generalize hAe : va_A (w_c_X7_put cI cJ cB cZ cO qs qs_widths fs_widths qs_sizes qs_numbers fs_numbers) s.heap.size = A at hD hH ⊢
  have hA : ∀ q : Nat, s.heap.size ≤ q → A q := fun q h => by rw [← hAe]; exact Or.inr h
  have hS : va_S A s.heap s.heap [] := va_S.rf
  obtain ⟨hP, hD⟩ : ct_B D A s.heap [(qs, .inr (7, [.ref qs_widths, .ref qs_sizes, .ref qs_numbers])), (qs_widths, .inl (cI, 4, .inl (fs_widths))), (qs_numbers, .inl (cJ, 240, .inr (.inl (fs_numbers))))] := ⟨hP, hD⟩
  have hl := lv_entry ([.ref qs, .int a1, .int a2, .long a3]) (n := 5) (Nat.le_of_ble_eq_true rfl)
  rw [lg_entry_eq]
  generalize (lg_sl ([.ref qs, .int a1, .int a2, .long a3]) ++ List.replicate (5 - (lg_sl ([.ref qs, .int a1, .int a2, .long a3])).length) Slot.unset).toArray = ls at hl ⊢
  have hl : lv_has ls 5 [(0, .ref qs), (1, .int a1), (2, .int a2), (3, .long a3)] := hl
  obtain ⟨H, hHe⟩ : ∃ H : Heap, H = s.heap := ⟨_, rfl⟩
  rw [← hHe] at hP
  have hS : va_S A s.heap H [] := by rw [hHe]; exact va_S.rf
  refine ct_start hHe ?_
  refine lv_aload_n hx hb dX7_put_0 rfl (lv_at hl 0 rfl) ?_
  refine va_get (D := D) (ci := 7) (v := .ref qs_numbers) (C := RX7) (T := TX7) (N := 3) hx hb hts hi7 hown hK hP 0 rfl rfl 2 (by decide) (hts (.fieldLink RX7 18 "OverHill$Slots" "numbers" "[J") (by decide +kernel)) (fun _ h9 => h9) rfl dX7_put_1 ?_
  refine lv_iload_n hx hb dX7_put_4 rfl (lv_at hl 1 rfl) ?_
  refine lv_bipush (v := 60) hx hb dX7_put_5 (by decide) ?_
  refine lv_imul hx hb dX7_put_7 ?_
  refine lv_topi (fun z1 ez1 => ?_)
  have fz1 : z1.toInt = a1.toInt * 60 := by rw [ez1]; exact tq_mul rfl (by decide) (by omega)
  refine lv_iload_n hx hb dX7_put_8 rfl (lv_at hl 2 rfl) ?_
  refine lv_iadd hx hb dX7_put_9 ?_
  refine lv_topi (fun z2 ez2 => ?_)
  have fz2 : z2.toInt = z1.toInt + a2.toInt := by rw [ez2]; exact tq_add rfl rfl (by omega)
  refine lv_lload_n hx hb dX7_put_10 rfl (lv_at hl 3 rfl) ?_
  refine lv_aload_n hx hb dX7_put_11 rfl (lv_at hl 0 rfl) ?_
  refine va_get (D := D) (ci := 7) (v := .ref qs_widths) (C := RX7) (T := TX7) (N := 3) hx hb hts hi7 hown hK hP 0 rfl rfl 0 (by decide) (hts (.fieldLink RX7 11 "OverHill$Slots" "widths" "[I") (by decide +kernel)) (fun _ h9 => h9) rfl dX7_put_12 ?_
  refine lv_iload_n hx hb dX7_put_15 rfl (lv_at hl 1 rfl) ?_
  refine va_iald (D := D) hx hb hK hP 1 0 rfl rfl (tq_in rfl (by omega)) dX7_put_16 ?_
  refine lv_topi (fun z3 ez3 => ?_)
  refine ct_calll (D := D) (wr := [(qs, .inr (7, [.ref qs_widths, .ref qs_sizes, .ref qs_numbers])), (qs_widths, .inl (cI, 4, .inl (fs_widths))), (qs_numbers, .inl (cJ, 240, .inr (.inl (fs_numbers))))]) (va_runS (As := [.long a3, .int z3]) (rest := [.int z2, .ref qs_numbers]) ⟨hx, hb, hml, hown, hts⟩ (c_X7_cut l D G cI cJ cB cZ cO a3 z3  H.size) (va_cwS 2 hts gX7_put_X7_cut rfl rfl rfl (by decide +kernel) ⟨Nat.le_of_ble_eq_true rfl, Nat.le_of_ble_eq_true rfl⟩) (ct_preS (T := ct_T cI cJ cB cZ cO) hE hH hP hD hS hA [] (by decide) rfl) rfl rfl hl.1 rfl (lv_room (Nat.le_of_ble_eq_true rfl)) dX7_put_17 ⟨Nat.le_of_ble_eq_true rfl, Nat.le_of_ble_eq_true rfl⟩) hP hD hS hA [] [0, 1, 2] rfl rfl (by decide) (by decide) (fun r4 u H locs hw hP hD hS => ?_)
  obtain ⟨hP, hD⟩ : ct_B D A H [(qs, .inr (7, [.ref qs_widths, .ref qs_sizes, .ref qs_numbers])), (qs_widths, .inl (cI, 4, .inl (fs_widths))), (qs_numbers, .inl (cJ, 240, .inr (.inl (fs_numbers))))] := ⟨hP, hD⟩
  have hp0 := hw
  have hp_5 : r4 = cu a3 z3 := hp0
  refine va_last (D := D) hx hb hK hP hD hS 2 1 rfl rfl (tq_in rfl (by omega)) dX7_put_20 (fun H locs hP hD hS => ?_)
  obtain ⟨hP, hD⟩ : ct_B D A H [(qs, .inr (7, [.ref qs_widths, .ref qs_sizes, .ref qs_numbers])), (qs_widths, .inl (cI, 4, .inl (fs_widths))), (qs_numbers, .inl (cJ, 240, .inr (.inl (vp_updL fs_numbers z2.toNatClampNeg r4))))] := ⟨hP, hD⟩
  obtain ⟨hP9, hD9⟩ : ct_B D A H [(qs, .inr (7, [.ref qs_widths, .ref qs_sizes, .ref qs_numbers])), (qs_widths, .inl (cI, 4, .inl (fs_widths))), (qs_numbers, .inl (cJ, 240, .inr (.inl (vp_updL fs_numbers z2.toNatClampNeg r4))))] := ⟨hP.sub [0, 1, 2] rfl, hD.sub [0, 1, 2] (by decide) rfl⟩
  exact W.vret hx hb hr (fun t ht hW => ⟨⟨(vp_updL fs_numbers z2.toNatClampNeg r4), rfl, (show (vp_updL fs_numbers z2.toNatClampNeg r4) = vp_updL fs_numbers (60 * a1.toInt + a2.toInt).toNat (cu a3 (fs_widths a1.toNatClampNeg)) by exact uL_put (show z2.toInt = 60 * a1.toInt + a2.toInt by omega) hp_5 ez3), by rw [ht]; exact hP9, hD9⟩, hS.F ht⟩) hS.2.2 dX7_put_21
abbrev w_c_X7_make (cI cJ cB cZ cO : ClassId) (qs : Nat) (qs_widths : Nat) (fs_widths : Nat → Int32) (qs_sizes : Nat) (fs_sizes : Nat → Int32) (qs_numbers : Nat) (fs_numbers : Nat → Int64) : va_W := [(qs, .inr (7, [.ref qs_widths, .ref qs_sizes, .ref qs_numbers])), (qs_widths, .inl (cI, 4, .inl (fs_widths))), (qs_sizes, .inl (cI, 4, .inl (fs_sizes))), (qs_numbers, .inl (cJ, 240, .inr (.inl (fs_numbers))))]
set_option maxHeartbeats 4000000 in
set_option maxRecDepth 100000 in
/-- X7 make -/
theorem c_X7_make (l : Launch) (D : va_G) (G : ct_G) (cI cJ cB cZ cO : ClassId) (qs : Nat) (qs_widths : Nat) (fs_widths : Nat → Int32) (qs_sizes : Nat) (fs_sizes : Nat → Int32) (qs_numbers : Nat) (fs_numbers : Nat → Int64) (a1 : Int32) (a2 : Int32) (a3 : Int32) (h_fs_sizes : ar_ok [(-1)] [60] fs_sizes) (h_a1 : 0 ≤ a1.toInt ∧ a1.toInt ≤ 3) (h_a3 : 0 ≤ a3.toInt ∧ a3.toInt ≤ 60) (sz : Nat) : Met l yX7_make wsX7_make ({ frames := 0, cells := 0, slots := 0, locals := 0 }) (va_Pc [.ref qs, .int a1, .int a2, .int a3] (ct_P D (ct_T cI cJ cB cZ cO) G (w_c_X7_make cI cJ cB cZ cO qs qs_widths fs_widths qs_sizes fs_sizes qs_numbers fs_numbers) sz)) (va_Qv (fun (u : (Nat → Int32) × (Nat → Int32) × (Nat → Int64)) => (ar_ok [(-1)] [60] u.2.1) ∧ (u.1 = upd fs_widths a1.toNatClampNeg a2) ∧ (u.2.1 = upd fs_sizes a1.toNatClampNeg a3) ∧ (rowN a1.toInt 60 fs_numbers u.2.2)) (fun (u : (Nat → Int32) × (Nat → Int32) × (Nat → Int64)) t => ct_Q D (va_A (w_c_X7_make cI cJ cB cZ cO qs qs_widths fs_widths qs_sizes fs_sizes qs_numbers fs_numbers) sz) [(qs, .inr (7, [.ref qs_widths, .ref qs_sizes, .ref qs_numbers])), (qs_widths, .inl (cI, 4, .inl (u.1))), (qs_sizes, .inl (cI, 4, .inl (u.2.1))), (qs_numbers, .inl (cJ, 240, .inr (.inl (u.2.2))))] t) (va_A (w_c_X7_make cI cJ cB cZ cO qs qs_widths fs_widths qs_sizes fs_sizes qs_numbers fs_numbers) sz)) 0 0 (va_A (w_c_X7_make cI cJ cB cZ cO qs qs_widths fs_widths qs_sizes fs_sizes qs_numbers fs_numbers) sz) := by
  refine Met.ofW (cc := cX7_make) (maxL := 5) (ret := none) (by decide) rfl ?_
  intro p e s m args below meth c s₁ B hml hv
  obtain ⟨rfl, hsz, hP, hE, hD0, hH⟩ := hv
  have hx := B.exec
  have hb := B.bytes
  have hr := B.returns
  have hts := atoms_spec (ws := wsX7_make) B.pre
  have hown : s.vm.findClass RX7 = some m.cls := findClass_of_methodNamed B.named
  have hlocks := B.notSynchronized
  have hK := hE.1
  have hi7 : ∀ w ∈ u_ws RX7 TX7 3, w ∈ wsX7_make := fun w h => List.mem_cons_of_mem _ (List.mem_append_right _ h)
  subst hsz
  have hD := hD0.self (sz := s.heap.size)
  generalize hAe : va_A (w_c_X7_make cI cJ cB cZ cO qs qs_widths fs_widths qs_sizes fs_sizes qs_numbers fs_numbers) s.heap.size = A at hD hH ⊢
  have hA : ∀ q : Nat, s.heap.size ≤ q → A q := fun q h => by rw [← hAe]; exact Or.inr h
  have hS : va_S A s.heap s.heap [] := va_S.rf
  obtain ⟨hP, hD⟩ : ct_B D A s.heap [(qs, .inr (7, [.ref qs_widths, .ref qs_sizes, .ref qs_numbers])), (qs_widths, .inl (cI, 4, .inl (fs_widths))), (qs_sizes, .inl (cI, 4, .inl (fs_sizes))), (qs_numbers, .inl (cJ, 240, .inr (.inl (fs_numbers))))] := ⟨hP, hD⟩
  have hl := lv_entry ([.ref qs, .int a1, .int a2, .int a3]) (n := 5) (Nat.le_of_ble_eq_true rfl)
  rw [lg_entry_eq]
  generalize (lg_sl ([.ref qs, .int a1, .int a2, .int a3]) ++ List.replicate (5 - (lg_sl ([.ref qs, .int a1, .int a2, .int a3])).length) Slot.unset).toArray = ls at hl ⊢
  have hl : lv_has ls 5 [(0, .ref qs), (1, .int a1), (2, .int a2), (3, .int a3)] := hl
  obtain ⟨H, hHe⟩ : ∃ H : Heap, H = s.heap := ⟨_, rfl⟩
  rw [← hHe] at hP
  have hS : va_S A s.heap H [] := by rw [hHe]; exact va_S.rf
  refine ct_start hHe ?_
  refine lv_aload_n hx hb dX7_make_0 rfl (lv_at hl 0 rfl) ?_
  refine va_get (D := D) (ci := 7) (v := .ref qs_widths) (C := RX7) (T := TX7) (N := 3) hx hb hts hi7 hown hK hP 0 rfl rfl 0 (by decide) (hts (.fieldLink RX7 11 "OverHill$Slots" "widths" "[I") (by decide +kernel)) (fun _ h9 => h9) rfl dX7_make_1 ?_
  refine lv_iload_n hx hb dX7_make_4 rfl (lv_at hl 1 rfl) ?_
  refine lv_iload_n hx hb dX7_make_5 rfl (lv_at hl 2 rfl) ?_
  refine va_iast (D := D) hx hb hK hP hD hS 1 0 rfl rfl (tq_in rfl (by omega)) dX7_make_6 (fun H locs hP hD hS => ?_)
  obtain ⟨hP, hD⟩ : ct_B D A H [(qs, .inr (7, [.ref qs_widths, .ref qs_sizes, .ref qs_numbers])), (qs_widths, .inl (cI, 4, .inl (upd fs_widths a1.toNatClampNeg a2))), (qs_sizes, .inl (cI, 4, .inl (fs_sizes))), (qs_numbers, .inl (cJ, 240, .inr (.inl (fs_numbers))))] := ⟨hP, hD⟩
  refine lv_aload_n hx hb dX7_make_7 rfl (lv_at hl 0 rfl) ?_
  refine va_get (D := D) (ci := 7) (v := .ref qs_sizes) (C := RX7) (T := TX7) (N := 3) hx hb hts hi7 hown hK hP 0 rfl rfl 1 (by decide) (hts (.fieldLink RX7 15 "OverHill$Slots" "sizes" "[I") (by decide +kernel)) (fun _ h9 => h9) rfl dX7_make_8 ?_
  refine lv_iload_n hx hb dX7_make_11 rfl (lv_at hl 1 rfl) ?_
  refine lv_iload_n hx hb dX7_make_12 rfl (lv_at hl 3 rfl) ?_
  refine va_iast (D := D) hx hb hK hP hD hS 2 0 rfl rfl (tq_in rfl (by omega)) dX7_make_13 (fun H locs hP hD hS => ?_)
  obtain ⟨g1, heq2, h_g1, hP, hD⟩ : ∃ g1 : Nat → Int32, g1 = upd fs_sizes a1.toNatClampNeg a3 ∧ ar_ok [(-1)] [60] g1 ∧ ct_B D A H [(qs, .inr (7, [.ref qs_widths, .ref qs_sizes, .ref qs_numbers])), (qs_widths, .inl (cI, 4, .inl (upd fs_widths a1.toNatClampNeg a2))), (qs_sizes, .inl (cI, 4, .inl (g1))), (qs_numbers, .inl (cJ, 240, .inr (.inl (fs_numbers))))] := ⟨_, rfl, ar_set h_fs_sizes a1 a3 0 (by omega) (show a1.toInt % 1 = 0 by omega) rfl (show (-1) ≤ a3.toInt ∧ a3.toInt ≤ 60 by omega), hP, hD⟩
  refine lv_iconst (v := 0) hx hb dX7_make_14 (by decide) ?_
  refine lv_istore (lv' := [(4, .int 0), (0, .ref qs), (1, .int a1), (2, .int a2), (3, .int a3)]) hx hb dX7_make_15 hl (by decide) rfl (fun ls hl => ?_)
  refine ct_loop (X := (Nat → Int64) × Int32) (fun x => (60 - x.2.toInt).toNat) (fun x H locs ls => ((0 ≤ x.2.toInt ∧ x.2.toInt ≤ 60)) ∧ (rowN a1.toInt x.2.toInt fs_numbers x.1) ∧ ct_B D A H [(qs, .inr (7, [.ref qs_widths, .ref qs_sizes, .ref qs_numbers])), (qs_widths, .inl (cI, 4, .inl (upd fs_widths a1.toNatClampNeg a2))), (qs_sizes, .inl (cI, 4, .inl (g1))), (qs_numbers, .inl (cJ, 240, .inr (.inl (x.1))))] ∧ va_S A s.heap H locs ∧ lv_has ls 5 [(4, .int x.2), (0, .ref qs), (1, .int a1), (2, .int a2), (3, .int a3)]) 17 (fs_numbers, (0 : Int32)) ⟨(show 0 ≤ (0 : Int32).toInt ∧ (0 : Int32).toInt ≤ 60 by decide), (show rowN a1.toInt (0 : Int32).toInt fs_numbers fs_numbers by exact rowN_zero (by decide)), ⟨hP, hD⟩, hS, lv_sub hl [0, 1, 2, 3, 4] rfl⟩ (fun x ih43 H locs ls hI => ?_)
  obtain ⟨g41, x42⟩ := x
  obtain ⟨h_x42, he0, ⟨hP, hD⟩, hS, hl⟩ := hI
  have h_x42 : (0 ≤ x42.toInt ∧ x42.toInt ≤ 60) := h_x42
  have he0 : rowN a1.toInt x42.toInt fs_numbers g41 := he0
  obtain ⟨hP, hD⟩ : ct_B D A H [(qs, .inr (7, [.ref qs_widths, .ref qs_sizes, .ref qs_numbers])), (qs_widths, .inl (cI, 4, .inl (upd fs_widths a1.toNatClampNeg a2))), (qs_sizes, .inl (cI, 4, .inl (g1))), (qs_numbers, .inl (cJ, 240, .inr (.inl (g41))))] := ⟨hP, hD⟩
  have hl : lv_has ls 5 [(4, .int x42), (0, .ref qs), (1, .int a1), (2, .int a2), (3, .int a3)] := hl
  refine lv_iload hx hb dX7_make_17 (lv_at hl 0 rfl) ?_
  refine lv_bipush (v := 60) hx hb dX7_make_19 (by decide) ?_
  refine lv_icmp_ge (tgt := 43) hx hb dX7_make_21 (by decide) (fun hc => ?_) (fun hc => ?_)
  · have hq44 : 60 ≤ x42.toInt := tq_le (by decide) rfl hc
    obtain ⟨hP9, hD9⟩ : ct_B D A H [(qs, .inr (7, [.ref qs_widths, .ref qs_sizes, .ref qs_numbers])), (qs_widths, .inl (cI, 4, .inl (upd fs_widths a1.toNatClampNeg a2))), (qs_sizes, .inl (cI, 4, .inl (g1))), (qs_numbers, .inl (cJ, 240, .inr (.inl (g41))))] := ⟨hP.sub [0, 1, 2, 3] rfl, hD.sub [0, 1, 2, 3] (by decide) rfl⟩
    exact W.vret hx hb hr (fun t ht hW => ⟨⟨((upd fs_widths a1.toNatClampNeg a2), g1, g41), rfl, ⟨h_g1, (show (upd fs_widths a1.toNatClampNeg a2) = upd fs_widths a1.toNatClampNeg a2 by exact rfl), (show g1 = upd fs_sizes a1.toNatClampNeg a3 by exact heq2), (show rowN a1.toInt 60 fs_numbers g41 by exact rowN_le he0 (by omega))⟩, by rw [ht]; exact hP9, hD9⟩, hS.F ht⟩) hS.2.2 dX7_make_43
  · have hq44 : x42.toInt < 60 := tq_nle (by decide) rfl hc
    refine lv_aload_n hx hb dX7_make_24 rfl (lv_at hl 1 rfl) ?_
    refine va_get (D := D) (ci := 7) (v := .ref qs_numbers) (C := RX7) (T := TX7) (N := 3) hx hb hts hi7 hown hK hP 0 rfl rfl 2 (by decide) (hts (.fieldLink RX7 18 "OverHill$Slots" "numbers" "[J") (by decide +kernel)) (fun _ h9 => h9) rfl dX7_make_25 ?_
    refine lv_iload_n hx hb dX7_make_28 rfl (lv_at hl 2 rfl) ?_
    refine lv_bipush (v := 60) hx hb dX7_make_29 (by decide) ?_
    refine lv_imul hx hb dX7_make_31 ?_
    refine lv_topi (fun z45 ez45 => ?_)
    have fz45 : z45.toInt = a1.toInt * 60 := by rw [ez45]; exact tq_mul rfl (by decide) (by omega)
    refine lv_iload hx hb dX7_make_32 (lv_at hl 0 rfl) ?_
    refine lv_iadd hx hb dX7_make_34 ?_
    refine lv_topi (fun z46 ez46 => ?_)
    have fz46 : z46.toInt = z45.toInt + x42.toInt := by rw [ez46]; exact tq_add rfl rfl (by omega)
    refine lv_lconst (v := 0) hx hb dX7_make_35 (by decide) ?_
    refine va_last (D := D) hx hb hK hP hD hS 3 1 rfl rfl (tq_in rfl (by omega)) dX7_make_36 (fun H locs hP hD hS => ?_)
    obtain ⟨hP, hD⟩ : ct_B D A H [(qs, .inr (7, [.ref qs_widths, .ref qs_sizes, .ref qs_numbers])), (qs_widths, .inl (cI, 4, .inl (upd fs_widths a1.toNatClampNeg a2))), (qs_sizes, .inl (cI, 4, .inl (g1))), (qs_numbers, .inl (cJ, 240, .inr (.inl (vp_updL g41 z46.toNatClampNeg (0 : Int64)))))] := ⟨hP, hD⟩
    obtain ⟨z47, ez47⟩ : ∃ z : Int32, z = x42 + 1 := ⟨_, rfl⟩
    have fz47 : z47.toInt = x42.toInt + 1 := by rw [ez47]; exact tq_add rfl (by decide) (by omega)
    refine lv_iinc (v := z47) (lv' := [(4, .int z47), (0, .ref qs), (1, .int a1), (2, .int a2), (3, .int a3)]) hx hb dX7_make_37 hl (k := 0) rfl ez47.symm (by decide) rfl (fun ls hl => ?_)
    refine lv_goto (tgt := 17) hx hb dX7_make_40 (by decide) ?_
    exact ih43 ((vp_updL g41 z46.toNatClampNeg (0 : Int64)), z47) _ _ _ (show (60 - z47.toInt).toNat < (60 - x42.toInt).toNat by omega) ⟨(show 0 ≤ z47.toInt ∧ z47.toInt ≤ 60 by omega), (show rowN a1.toInt z47.toInt fs_numbers (vp_updL g41 z46.toNatClampNeg (0 : Int64)) by exact rowN_step he0 (by omega) (by omega) (by omega) (by omega)), ⟨hP, hD⟩, hS, lv_sub hl [0, 1, 2, 3, 4] rfl⟩
abbrev w_c_X7_holds (cI cJ cB cZ cO : ClassId) (qs : Nat) (qs_widths : Nat) (qs_sizes : Nat) (fs_sizes : Nat → Int32) (qs_numbers : Nat) : va_W := [(qs, .inr (7, [.ref qs_widths, .ref qs_sizes, .ref qs_numbers])), (qs_sizes, .inl (cI, 4, .inl (fs_sizes)))]
set_option maxHeartbeats 4000000 in
set_option maxRecDepth 100000 in
/-- X7 holds -/
theorem c_X7_holds (l : Launch) (D : va_G) (G : ct_G) (cI cJ cB cZ cO : ClassId) (qs : Nat) (qs_widths : Nat) (qs_sizes : Nat) (fs_sizes : Nat → Int32) (qs_numbers : Nat) (a1 : Int32) (a2 : Int32) (a3 : Int32) (h_fs_sizes : ar_ok [(-1)] [60] fs_sizes) (h_a1 : 0 ≤ a1.toInt ∧ a1.toInt ≤ 3) (sz : Nat) : Met l yX7_holds wsX7_holds ({ frames := 0, cells := 0, slots := 0, locals := 0 }) (va_Pc [.ref qs, .int a1, .int a2, .int a3] (ct_P D (ct_T cI cJ cB cZ cO) G (w_c_X7_holds cI cJ cB cZ cO qs qs_widths qs_sizes fs_sizes qs_numbers) sz)) (va_Qi (fun (rz : Int32) (u : Unit) => ((rz = 1 ∧ (0 ≤ a2.toInt ∧ 0 ≤ a3.toInt ∧ a2.toInt + a3.toInt ≤ 60 ∧ a2.toInt + a3.toInt ≤ (fs_sizes a1.toNatClampNeg).toInt)) ∨ (rz = 0 ∧ ¬ (0 ≤ a2.toInt ∧ 0 ≤ a3.toInt ∧ a2.toInt + a3.toInt ≤ (fs_sizes a1.toNatClampNeg).toInt)))) (fun (u : Unit) t => ct_Q D (va_A (w_c_X7_holds cI cJ cB cZ cO qs qs_widths qs_sizes fs_sizes qs_numbers) sz) [(qs, .inr (7, [.ref qs_widths, .ref qs_sizes, .ref qs_numbers])), (qs_sizes, .inl (cI, 4, .inl (fs_sizes)))] t) (va_A (w_c_X7_holds cI cJ cB cZ cO qs qs_widths qs_sizes fs_sizes qs_numbers) sz)) 0 0 (va_A (w_c_X7_holds cI cJ cB cZ cO qs qs_widths qs_sizes fs_sizes qs_numbers) sz) := by
  refine Met.ofW (cc := cX7_holds) (maxL := 4) (ret := (some .boolean)) (by decide) rfl ?_
  intro p e s m args below meth c s₁ B hml hv
  obtain ⟨rfl, hsz, hP, hE, hD0, hH⟩ := hv
  have hx := B.exec
  have hb := B.bytes
  have hr := B.returns
  have hts := atoms_spec (ws := wsX7_holds) B.pre
  have hown : s.vm.findClass RX7 = some m.cls := findClass_of_methodNamed B.named
  have hlocks := B.notSynchronized
  have hK := hE.1
  have hi7 : ∀ w ∈ u_ws RX7 TX7 3, w ∈ wsX7_holds := fun w h => List.mem_cons_of_mem _ (List.mem_append_right _ h)
  subst hsz
  have hD := hD0.self (sz := s.heap.size)
  generalize hAe : va_A (w_c_X7_holds cI cJ cB cZ cO qs qs_widths qs_sizes fs_sizes qs_numbers) s.heap.size = A at hD hH ⊢
  have hA : ∀ q : Nat, s.heap.size ≤ q → A q := fun q h => by rw [← hAe]; exact Or.inr h
  have hS : va_S A s.heap s.heap [] := va_S.rf
  obtain ⟨hP, hD⟩ : ct_B D A s.heap [(qs, .inr (7, [.ref qs_widths, .ref qs_sizes, .ref qs_numbers])), (qs_sizes, .inl (cI, 4, .inl (fs_sizes)))] := ⟨hP, hD⟩
  have hl := lv_entry ([.ref qs, .int a1, .int a2, .int a3]) (n := 4) (Nat.le_of_ble_eq_true rfl)
  rw [lg_entry_eq]
  generalize (lg_sl ([.ref qs, .int a1, .int a2, .int a3]) ++ List.replicate (4 - (lg_sl ([.ref qs, .int a1, .int a2, .int a3])).length) Slot.unset).toArray = ls at hl ⊢
  have hl : lv_has ls 4 [(0, .ref qs), (1, .int a1), (2, .int a2), (3, .int a3)] := hl
  obtain ⟨H, hHe⟩ : ∃ H : Heap, H = s.heap := ⟨_, rfl⟩
  rw [← hHe] at hP
  have hS : va_S A s.heap H [] := by rw [hHe]; exact va_S.rf
  refine ct_start hHe ?_
  refine lv_iload_n hx hb dX7_holds_0 rfl (lv_at hl 2 rfl) ?_
  refine lv_if_lt (tgt := 34) hx hb dX7_holds_1 (by decide) (fun hc => ?_) (fun hc => ?_)
  · have hq1 : a2.toInt < 0 := tq_lt rfl (by decide) hc
    have hb2 := tq_lo a2
    refine lv_iconst (v := 0) hx hb dX7_holds_34 (by decide) ?_
    obtain ⟨hP9, hD9⟩ : ct_B D A H [(qs, .inr (7, [.ref qs_widths, .ref qs_sizes, .ref qs_numbers])), (qs_sizes, .inl (cI, 4, .inl (fs_sizes)))] := ⟨hP.sub [0, 1] rfl, hD.sub [0, 1] (by decide) rfl⟩
    exact W.zret (v := 0) (ty := .boolean) hx hb hr rfl (fun t ht hW => ⟨⟨0, (), rfl, (Or.inr (⟨rfl, (show ¬ (0 ≤ a2.toInt ∧ 0 ≤ a3.toInt ∧ a2.toInt + a3.toInt ≤ (fs_sizes a1.toNatClampNeg).toInt) by omega)⟩)), by rw [ht]; exact hP9, hD9⟩, hS.F ht⟩) hS.2.2 dX7_holds_35
  · have hq1 : 0 ≤ a2.toInt := tq_nlt rfl (by decide) hc
    have hb3 := tq_lo a2
    refine lv_iload_n hx hb dX7_holds_4 rfl (lv_at hl 3 rfl) ?_
    refine lv_if_lt (tgt := 34) hx hb dX7_holds_5 (by decide) (fun hc => ?_) (fun hc => ?_)
    · have hq4 : a3.toInt < 0 := tq_lt rfl (by decide) hc
      have hb5 := tq_lo a3
      refine lv_iconst (v := 0) hx hb dX7_holds_34 (by decide) ?_
      obtain ⟨hP9, hD9⟩ : ct_B D A H [(qs, .inr (7, [.ref qs_widths, .ref qs_sizes, .ref qs_numbers])), (qs_sizes, .inl (cI, 4, .inl (fs_sizes)))] := ⟨hP.sub [0, 1] rfl, hD.sub [0, 1] (by decide) rfl⟩
      exact W.zret (v := 0) (ty := .boolean) hx hb hr rfl (fun t ht hW => ⟨⟨0, (), rfl, (Or.inr (⟨rfl, (show ¬ (0 ≤ a2.toInt ∧ 0 ≤ a3.toInt ∧ a2.toInt + a3.toInt ≤ (fs_sizes a1.toNatClampNeg).toInt) by omega)⟩)), by rw [ht]; exact hP9, hD9⟩, hS.F ht⟩) hS.2.2 dX7_holds_35
    · have hq4 : 0 ≤ a3.toInt := tq_nlt rfl (by decide) hc
      have hb6 := tq_lo a3
      refine lv_iload_n hx hb dX7_holds_8 rfl (lv_at hl 3 rfl) ?_
      refine lv_aload_n hx hb dX7_holds_9 rfl (lv_at hl 0 rfl) ?_
      refine va_get (D := D) (ci := 7) (v := .ref qs_sizes) (C := RX7) (T := TX7) (N := 3) hx hb hts hi7 hown hK hP 0 rfl rfl 1 (by decide) (hts (.fieldLink RX7 15 "OverHill$Slots" "sizes" "[I") (by decide +kernel)) (fun _ h9 => h9) rfl dX7_holds_10 ?_
      refine lv_iload_n hx hb dX7_holds_13 rfl (lv_at hl 1 rfl) ?_
      refine va_iald (D := D) hx hb hK hP 1 0 rfl rfl (tq_in rfl (by omega)) dX7_holds_14 ?_
      refine lv_topi (fun z7 ez7 => ?_)
      have fz7 : (-1) ≤ z7.toInt ∧ z7.toInt ≤ 60 := by rw [ez7]; exact ar_get h_fs_sizes a1 0 (by omega) (show a1.toInt % 1 = 0 by omega) rfl
      have gz7 : z7.toInt = (fs_sizes a1.toNatClampNeg).toInt := by rw [ez7]
      refine lv_icmp_gt (tgt := 34) hx hb dX7_holds_15 (by decide) (fun hc => ?_) (fun hc => ?_)
      · have hq8 : z7.toInt < a3.toInt := tq_lt rfl rfl hc
        have hb9 := tq_lo a3
        refine lv_iconst (v := 0) hx hb dX7_holds_34 (by decide) ?_
        obtain ⟨hP9, hD9⟩ : ct_B D A H [(qs, .inr (7, [.ref qs_widths, .ref qs_sizes, .ref qs_numbers])), (qs_sizes, .inl (cI, 4, .inl (fs_sizes)))] := ⟨hP.sub [0, 1] rfl, hD.sub [0, 1] (by decide) rfl⟩
        exact W.zret (v := 0) (ty := .boolean) hx hb hr rfl (fun t ht hW => ⟨⟨0, (), rfl, (Or.inr (⟨rfl, (show ¬ (0 ≤ a2.toInt ∧ 0 ≤ a3.toInt ∧ a2.toInt + a3.toInt ≤ (fs_sizes a1.toNatClampNeg).toInt) by omega)⟩)), by rw [ht]; exact hP9, hD9⟩, hS.F ht⟩) hS.2.2 dX7_holds_35
      · have hq8 : a3.toInt ≤ z7.toInt := tq_nlt rfl rfl hc
        have hb10 := tq_lo a3
        refine lv_iload_n hx hb dX7_holds_18 rfl (lv_at hl 2 rfl) ?_
        refine lv_aload_n hx hb dX7_holds_19 rfl (lv_at hl 0 rfl) ?_
        refine va_get (D := D) (ci := 7) (v := .ref qs_sizes) (C := RX7) (T := TX7) (N := 3) hx hb hts hi7 hown hK hP 0 rfl rfl 1 (by decide) (hts (.fieldLink RX7 15 "OverHill$Slots" "sizes" "[I") (by decide +kernel)) (fun _ h9 => h9) rfl dX7_holds_20 ?_
        refine lv_iload_n hx hb dX7_holds_23 rfl (lv_at hl 1 rfl) ?_
        refine va_iald (D := D) hx hb hK hP 1 0 rfl rfl (tq_in rfl (by omega)) dX7_holds_24 ?_
        refine lv_topi (fun z11 ez11 => ?_)
        have qz11 : z11.toInt = z7.toInt := by rw [ez11, ez7]
        have fz11 : (-1) ≤ z11.toInt ∧ z11.toInt ≤ 60 := by rw [ez11]; exact ar_get h_fs_sizes a1 0 (by omega) (show a1.toInt % 1 = 0 by omega) rfl
        have gz11 : z11.toInt = (fs_sizes a1.toNatClampNeg).toInt := by rw [ez11]
        refine lv_iload_n hx hb dX7_holds_25 rfl (lv_at hl 3 rfl) ?_
        refine lv_isub hx hb dX7_holds_26 ?_
        refine lv_topi (fun z12 ez12 => ?_)
        have fz12 : z12.toInt = z11.toInt - a3.toInt := by rw [ez12]; exact tq_subt rfl rfl (by omega)
        refine lv_icmp_gt (tgt := 34) hx hb dX7_holds_27 (by decide) (fun hc => ?_) (fun hc => ?_)
        · have hq13 : z12.toInt < a2.toInt := tq_lt rfl rfl hc
          have hb14 := tq_lo a2
          refine lv_iconst (v := 0) hx hb dX7_holds_34 (by decide) ?_
          obtain ⟨hP9, hD9⟩ : ct_B D A H [(qs, .inr (7, [.ref qs_widths, .ref qs_sizes, .ref qs_numbers])), (qs_sizes, .inl (cI, 4, .inl (fs_sizes)))] := ⟨hP.sub [0, 1] rfl, hD.sub [0, 1] (by decide) rfl⟩
          exact W.zret (v := 0) (ty := .boolean) hx hb hr rfl (fun t ht hW => ⟨⟨0, (), rfl, (Or.inr (⟨rfl, (show ¬ (0 ≤ a2.toInt ∧ 0 ≤ a3.toInt ∧ a2.toInt + a3.toInt ≤ (fs_sizes a1.toNatClampNeg).toInt) by omega)⟩)), by rw [ht]; exact hP9, hD9⟩, hS.F ht⟩) hS.2.2 dX7_holds_35
        · have hq13 : a2.toInt ≤ z12.toInt := tq_nlt rfl rfl hc
          have hb15 := tq_lo a2
          refine lv_iconst (v := 1) hx hb dX7_holds_30 (by decide) ?_
          refine lv_goto (tgt := 35) hx hb dX7_holds_31 (by decide) ?_
          obtain ⟨hP9, hD9⟩ : ct_B D A H [(qs, .inr (7, [.ref qs_widths, .ref qs_sizes, .ref qs_numbers])), (qs_sizes, .inl (cI, 4, .inl (fs_sizes)))] := ⟨hP.sub [0, 1] rfl, hD.sub [0, 1] (by decide) rfl⟩
          exact W.zret (v := 1) (ty := .boolean) hx hb hr rfl (fun t ht hW => ⟨⟨1, (), rfl, (Or.inl ⟨rfl, (show (0 ≤ a2.toInt ∧ 0 ≤ a3.toInt ∧ a2.toInt + a3.toInt ≤ 60 ∧ a2.toInt + a3.toInt ≤ (fs_sizes a1.toNatClampNeg).toInt) by omega)⟩), by rw [ht]; exact hP9, hD9⟩, hS.F ht⟩) hS.2.2 dX7_holds_35
abbrev w_c_X7_move (cI cJ cB cZ cO : ClassId) (qs : Nat) (qs_widths : Nat) (qs_sizes : Nat) (qs_numbers : Nat) (fs_numbers : Nat → Int64) : va_W := [(qs, .inr (7, [.ref qs_widths, .ref qs_sizes, .ref qs_numbers])), (qs_numbers, .inl (cJ, 240, .inr (.inl (fs_numbers))))]
set_option maxHeartbeats 4000000 in
set_option maxRecDepth 100000 in
/-- X7 move -/
theorem c_X7_move (l : Launch) (D : va_G) (G : ct_G) (cI cJ cB cZ cO : ClassId) (qs : Nat) (qs_widths : Nat) (qs_sizes : Nat) (qs_numbers : Nat) (fs_numbers : Nat → Int64) (a1 : Int32) (a2 : Int32) (a3 : Int32) (a4 : Int32) (a5 : Int32) (h_a1 : 0 ≤ a1.toInt ∧ a1.toInt ≤ 3) (h_a2 : 0 ≤ a2.toInt ∧ a2.toInt ≤ 60) (h_a3 : 0 ≤ a3.toInt ∧ a3.toInt ≤ 3) (h_a4 : 0 ≤ a4.toInt ∧ a4.toInt ≤ 60) (h_a5 : 0 ≤ a5.toInt ∧ a5.toInt ≤ 60) (h_s1 : a2.toInt + a5.toInt ≤ 60) (h_s2 : a4.toInt + a5.toInt ≤ 60) (sz : Nat) : Met l yX7_move wsX7_move ({ frames := 1, cells := 0, slots := 0, locals := 60 }) (va_Pc [.ref qs, .int a1, .int a2, .int a3, .int a4, .int a5] (ct_P D (ct_T cI cJ cB cZ cO) G (w_c_X7_move cI cJ cB cZ cO qs qs_widths qs_sizes qs_numbers fs_numbers) sz)) (va_Qv (fun (u : (Nat → Int64)) => (paN (60 * a1.toInt + a2.toInt) (60 * a3.toInt + a4.toInt) a5.toInt fs_numbers u)) (fun (u : (Nat → Int64)) t => ct_Q D (va_A (w_c_X7_move cI cJ cB cZ cO qs qs_widths qs_sizes qs_numbers fs_numbers) sz) [(qs, .inr (7, [.ref qs_widths, .ref qs_sizes, .ref qs_numbers])), (qs_numbers, .inl (cJ, 240, .inr (.inl (u))))] t) (va_A (w_c_X7_move cI cJ cB cZ cO qs qs_widths qs_sizes qs_numbers fs_numbers) sz)) 0 0 (va_A (w_c_X7_move cI cJ cB cZ cO qs qs_widths qs_sizes qs_numbers fs_numbers) sz) := by
  refine Met.ofW (cc := cX7_move) (maxL := 6) (ret := none) (by decide) rfl ?_
  intro p e s m args below meth c s₁ B hml hv
  obtain ⟨rfl, hsz, hP, hE, hD0, hH⟩ := hv
  have hx := B.exec
  have hb := B.bytes
  have hr := B.returns
  have hts := atoms_spec (ws := wsX7_move) B.pre
  have hown : s.vm.findClass RX7 = some m.cls := findClass_of_methodNamed B.named
  have hlocks := B.notSynchronized
  have hK := hE.1
  have hi7 : ∀ w ∈ u_ws RX7 TX7 3, w ∈ wsX7_move := fun w h => List.mem_cons_of_mem _ (List.mem_append_right _ h)
  subst hsz
  have hD := hD0.self (sz := s.heap.size)
  generalize hAe : va_A (w_c_X7_move cI cJ cB cZ cO qs qs_widths qs_sizes qs_numbers fs_numbers) s.heap.size = A at hD hH ⊢
  have hA : ∀ q : Nat, s.heap.size ≤ q → A q := fun q h => by rw [← hAe]; exact Or.inr h
  have hS : va_S A s.heap s.heap [] := va_S.rf
  obtain ⟨hP, hD⟩ : ct_B D A s.heap [(qs, .inr (7, [.ref qs_widths, .ref qs_sizes, .ref qs_numbers])), (qs_numbers, .inl (cJ, 240, .inr (.inl (fs_numbers))))] := ⟨hP, hD⟩
  have hl := lv_entry ([.ref qs, .int a1, .int a2, .int a3, .int a4, .int a5]) (n := 6) (Nat.le_of_ble_eq_true rfl)
  rw [lg_entry_eq]
  generalize (lg_sl ([.ref qs, .int a1, .int a2, .int a3, .int a4, .int a5]) ++ List.replicate (6 - (lg_sl ([.ref qs, .int a1, .int a2, .int a3, .int a4, .int a5])).length) Slot.unset).toArray = ls at hl ⊢
  have hl : lv_has ls 6 [(0, .ref qs), (1, .int a1), (2, .int a2), (3, .int a3), (4, .int a4), (5, .int a5)] := hl
  obtain ⟨H, hHe⟩ : ∃ H : Heap, H = s.heap := ⟨_, rfl⟩
  rw [← hHe] at hP
  have hS : va_S A s.heap H [] := by rw [hHe]; exact va_S.rf
  refine ct_start hHe ?_
  refine lv_aload_n hx hb dX7_move_0 rfl (lv_at hl 0 rfl) ?_
  refine va_get (D := D) (ci := 7) (v := .ref qs_numbers) (C := RX7) (T := TX7) (N := 3) hx hb hts hi7 hown hK hP 0 rfl rfl 2 (by decide) (hts (.fieldLink RX7 18 "OverHill$Slots" "numbers" "[J") (by decide +kernel)) (fun _ h9 => h9) rfl dX7_move_1 ?_
  refine lv_iload_n hx hb dX7_move_4 rfl (lv_at hl 1 rfl) ?_
  refine lv_bipush (v := 60) hx hb dX7_move_5 (by decide) ?_
  refine lv_imul hx hb dX7_move_7 ?_
  refine lv_topi (fun z1 ez1 => ?_)
  have fz1 : z1.toInt = a1.toInt * 60 := by rw [ez1]; exact tq_mul rfl (by decide) (by omega)
  refine lv_iload_n hx hb dX7_move_8 rfl (lv_at hl 2 rfl) ?_
  refine lv_iadd hx hb dX7_move_9 ?_
  refine lv_topi (fun z2 ez2 => ?_)
  have fz2 : z2.toInt = z1.toInt + a2.toInt := by rw [ez2]; exact tq_add rfl rfl (by omega)
  refine lv_aload_n hx hb dX7_move_10 rfl (lv_at hl 0 rfl) ?_
  refine va_get (D := D) (ci := 7) (v := .ref qs_numbers) (C := RX7) (T := TX7) (N := 3) hx hb hts hi7 hown hK hP 0 rfl rfl 2 (by decide) (hts (.fieldLink RX7 18 "OverHill$Slots" "numbers" "[J") (by decide +kernel)) (fun _ h9 => h9) rfl dX7_move_11 ?_
  refine lv_iload_n hx hb dX7_move_14 rfl (lv_at hl 3 rfl) ?_
  refine lv_bipush (v := 60) hx hb dX7_move_15 (by decide) ?_
  refine lv_imul hx hb dX7_move_17 ?_
  refine lv_topi (fun z3 ez3 => ?_)
  have fz3 : z3.toInt = a3.toInt * 60 := by rw [ez3]; exact tq_mul rfl (by decide) (by omega)
  refine lv_iload hx hb dX7_move_18 (lv_at hl 4 rfl) ?_
  refine lv_iadd hx hb dX7_move_20 ?_
  refine lv_topi (fun z4 ez4 => ?_)
  have fz4 : z4.toInt = z3.toInt + a4.toInt := by rw [ez4]; exact tq_add rfl rfl (by omega)
  refine lv_iload hx hb dX7_move_21 (lv_at hl 5 rfl) ?_
  refine va_copyl (D := D) (ty := .long) hx hb (hml.trans hl.1.symm) hown (hts (.methodLink RX7 34 arraycopyName) (by decide +kernel)) (hts (.native arraycopyName) (by decide +kernel)) (hts (.static arraycopyName) (by decide +kernel)) (hts (.initialized "java/lang/System") (by decide +kernel)) hK hP hD hS 1 1 1 1 rfl rfl rfl rfl rfl (tq_nn (by omega)) (tq_nn (by omega)) (tq_nn (by omega)) (tq_fit (a := z2.toInt) (b := a5.toInt) rfl rfl (by omega) (by omega) (by omega)) (tq_fit (a := z4.toInt) (b := a5.toInt) rfl rfl (by omega) (by omega) (by omega)) (fun _ _ => rfl) (Nat.le_of_ble_eq_true rfl) (Nat.le_of_ble_eq_true rfl) dX7_move_23 (fun H locs hP hD hS => ?_)
  obtain ⟨hP, hD⟩ : ct_B D A H [(qs, .inr (7, [.ref qs_widths, .ref qs_sizes, .ref qs_numbers])), (qs_numbers, .inl (cJ, 240, .inr (.inl (va_cpy fs_numbers fs_numbers z2.toNatClampNeg z4.toNatClampNeg a5.toNatClampNeg))))] := ⟨hP, hD⟩
  obtain ⟨hP9, hD9⟩ : ct_B D A H [(qs, .inr (7, [.ref qs_widths, .ref qs_sizes, .ref qs_numbers])), (qs_numbers, .inl (cJ, 240, .inr (.inl (va_cpy fs_numbers fs_numbers z2.toNatClampNeg z4.toNatClampNeg a5.toNatClampNeg))))] := ⟨hP.sub [0, 1] rfl, hD.sub [0, 1] (by decide) rfl⟩
  exact W.vret hx hb hr (fun t ht hW => ⟨⟨(va_cpy fs_numbers fs_numbers z2.toNatClampNeg z4.toNatClampNeg a5.toNatClampNeg), rfl, (show paN (60 * a1.toInt + a2.toInt) (60 * a3.toInt + a4.toInt) a5.toInt fs_numbers (va_cpy fs_numbers fs_numbers z2.toNatClampNeg z4.toNatClampNeg a5.toNatClampNeg) by exact paN_cpy (by omega) (by omega) rfl (by omega) (by omega) (by omega)), by rw [ht]; exact hP9, hD9⟩, hS.F ht⟩) hS.2.2 dX7_move_26
abbrev w_c_X7_told (cI cJ cB cZ cO : ClassId) (qs : Nat) (qs_widths : Nat) (qs_sizes : Nat) (fs_sizes : Nat → Int32) (qs_numbers : Nat) (fs_numbers : Nat → Int64) : va_W := [(qs, .inr (7, [.ref qs_widths, .ref qs_sizes, .ref qs_numbers])), (qs_sizes, .inl (cI, 4, .inl (fs_sizes))), (qs_numbers, .inl (cJ, 240, .inr (.inl (fs_numbers))))]
set_option maxHeartbeats 4000000 in
set_option maxRecDepth 100000 in
/-- X7 told -/
theorem c_X7_told (l : Launch) (D : va_G) (G : ct_G) (cI cJ cB cZ cO : ClassId) (qs : Nat) (qs_widths : Nat) (qs_sizes : Nat) (fs_sizes : Nat → Int32) (qs_numbers : Nat) (fs_numbers : Nat → Int64) (a1 : Int32) (a2 : Int32) (a3 : Int32) (h_fs_sizes : ar_ok [(-1)] [60] fs_sizes) (h_a1 : 0 ≤ a1.toInt ∧ a1.toInt ≤ 3) (h_a2 : 1 ≤ a2.toInt ∧ a2.toInt ≤ 12) (h_a3 : 0 ≤ a3.toInt ∧ a3.toInt ≤ 11) (h_lt : a3.toInt < a2.toInt) (h_st : st_ok fs_numbers a1.toInt (fs_sizes a1.toNatClampNeg).toInt) (sz : Nat) : Met l yX7_told wsX7_told ({ frames := 1, cells := 0, slots := 0, locals := 22 }) (va_Pc [.ref qs, .int a1, .int a2, .int a3] (ct_P D (ct_T cI cJ cB cZ cO) G (w_c_X7_told cI cJ cB cZ cO qs qs_widths qs_sizes fs_sizes qs_numbers fs_numbers) sz)) (va_Qi (fun (rz : Int32) (u : Unit) => ((-1) ≤ rz.toInt ∧ rz.toInt ≤ 5) ∧ (rz.toInt = tv (ra fs_numbers a1.toInt) a2.toInt.toNat a3.toInt.toNat (fs_sizes a1.toNatClampNeg).toInt.toNat)) (fun (u : Unit) t => ct_Q D (va_A (w_c_X7_told cI cJ cB cZ cO qs qs_widths qs_sizes fs_sizes qs_numbers fs_numbers) sz) [(qs, .inr (7, [.ref qs_widths, .ref qs_sizes, .ref qs_numbers])), (qs_sizes, .inl (cI, 4, .inl (fs_sizes))), (qs_numbers, .inl (cJ, 240, .inr (.inl (fs_numbers))))] t) (va_A (w_c_X7_told cI cJ cB cZ cO qs qs_widths qs_sizes fs_sizes qs_numbers fs_numbers) sz)) 0 0 (va_A (w_c_X7_told cI cJ cB cZ cO qs qs_widths qs_sizes fs_sizes qs_numbers fs_numbers) sz) := by
  refine Met.ofW (cc := cX7_told) (maxL := 5) (ret := (some .int)) (by decide) rfl ?_
  intro p e s m args below meth c s₁ B hml hv
  obtain ⟨rfl, hsz, hP, hE, hD0, hH⟩ := hv
  have hx := B.exec
  have hb := B.bytes
  have hr := B.returns
  have hts := atoms_spec (ws := wsX7_told) B.pre
  have hown : s.vm.findClass RX7 = some m.cls := findClass_of_methodNamed B.named
  have hlocks := B.notSynchronized
  have hK := hE.1
  have hi7 : ∀ w ∈ u_ws RX7 TX7 3, w ∈ wsX7_told := fun w h => List.mem_cons_of_mem _ (List.mem_append_right _ h)
  subst hsz
  have hD := hD0.self (sz := s.heap.size)
  generalize hAe : va_A (w_c_X7_told cI cJ cB cZ cO qs qs_widths qs_sizes fs_sizes qs_numbers fs_numbers) s.heap.size = A at hD hH ⊢
  have hA : ∀ q : Nat, s.heap.size ≤ q → A q := fun q h => by rw [← hAe]; exact Or.inr h
  have hS : va_S A s.heap s.heap [] := va_S.rf
  obtain ⟨hP, hD⟩ : ct_B D A s.heap [(qs, .inr (7, [.ref qs_widths, .ref qs_sizes, .ref qs_numbers])), (qs_sizes, .inl (cI, 4, .inl (fs_sizes))), (qs_numbers, .inl (cJ, 240, .inr (.inl (fs_numbers))))] := ⟨hP, hD⟩
  have hl := lv_entry ([.ref qs, .int a1, .int a2, .int a3]) (n := 5) (Nat.le_of_ble_eq_true rfl)
  rw [lg_entry_eq]
  generalize (lg_sl ([.ref qs, .int a1, .int a2, .int a3]) ++ List.replicate (5 - (lg_sl ([.ref qs, .int a1, .int a2, .int a3])).length) Slot.unset).toArray = ls at hl ⊢
  have hl : lv_has ls 5 [(0, .ref qs), (1, .int a1), (2, .int a2), (3, .int a3)] := hl
  obtain ⟨H, hHe⟩ : ∃ H : Heap, H = s.heap := ⟨_, rfl⟩
  rw [← hHe] at hP
  have hS : va_S A s.heap H [] := by rw [hHe]; exact va_S.rf
  refine ct_start hHe ?_
  refine lv_iload_n hx hb dX7_told_0 rfl (lv_at hl 2 rfl) ?_
  refine lv_iconst (v := 1) hx hb dX7_told_1 (by decide) ?_
  refine lv_icmp_ge (tgt := 7) hx hb dX7_told_2 (by decide) (fun hc => ?_) (fun hc => ?_)
  · have hq1 : 1 ≤ a2.toInt := tq_le (by decide) rfl hc
    refine lv_iload_n hx hb dX7_told_7 rfl (lv_at hl 3 rfl) ?_
    refine lv_istore (lv' := [(4, .int a3), (0, .ref qs), (1, .int a1), (2, .int a2), (3, .int a3)]) hx hb dX7_told_8 hl (by decide) rfl (fun ls hl => ?_)
    refine ct_loop (X := Int32) (fun x => (80 - x.toInt).toNat) (fun x H locs ls => ((0 ≤ x.toInt ∧ x.toInt ≤ 71)) ∧ (to_ok fs_numbers a1.toInt a2.toInt a3.toInt x.toInt) ∧ ct_B D A H [(qs, .inr (7, [.ref qs_widths, .ref qs_sizes, .ref qs_numbers])), (qs_sizes, .inl (cI, 4, .inl (fs_sizes))), (qs_numbers, .inl (cJ, 240, .inr (.inl (fs_numbers))))] ∧ va_S A s.heap H locs ∧ lv_has ls 5 [(4, .int x), (0, .ref qs), (1, .int a1), (2, .int a2), (3, .int a3)]) 10 a3 ⟨(show 0 ≤ a3.toInt ∧ a3.toInt ≤ 71 by omega), (show to_ok fs_numbers a1.toInt a2.toInt a3.toInt a3.toInt by exact to_start _ _ (by omega) (by omega)), ⟨hP, hD⟩, hS, lv_sub hl [0, 1, 2, 3, 4] rfl⟩ (fun x ih44 H locs ls hI => ?_)
    obtain ⟨x43, rfl⟩ : ∃ z, z = x := ⟨_, rfl⟩
    obtain ⟨h_x43, he0, ⟨hP, hD⟩, hS, hl⟩ := hI
    have h_x43 : (0 ≤ x43.toInt ∧ x43.toInt ≤ 71) := h_x43
    have he0 : to_ok fs_numbers a1.toInt a2.toInt a3.toInt x43.toInt := he0
    obtain ⟨hP, hD⟩ : ct_B D A H [(qs, .inr (7, [.ref qs_widths, .ref qs_sizes, .ref qs_numbers])), (qs_sizes, .inl (cI, 4, .inl (fs_sizes))), (qs_numbers, .inl (cJ, 240, .inr (.inl (fs_numbers))))] := ⟨hP, hD⟩
    have hl : lv_has ls 5 [(4, .int x43), (0, .ref qs), (1, .int a1), (2, .int a2), (3, .int a3)] := hl
    refine lv_iload hx hb dX7_told_10 (lv_at hl 0 rfl) ?_
    refine lv_aload_n hx hb dX7_told_12 rfl (lv_at hl 1 rfl) ?_
    refine va_get (D := D) (ci := 7) (v := .ref qs_sizes) (C := RX7) (T := TX7) (N := 3) hx hb hts hi7 hown hK hP 0 rfl rfl 1 (by decide) (hts (.fieldLink RX7 15 "OverHill$Slots" "sizes" "[I") (by decide +kernel)) (fun _ h9 => h9) rfl dX7_told_13 ?_
    refine lv_iload_n hx hb dX7_told_16 rfl (lv_at hl 2 rfl) ?_
    refine va_iald (D := D) hx hb hK hP 1 0 rfl rfl (tq_in rfl (by omega)) dX7_told_17 ?_
    refine lv_topi (fun z45 ez45 => ?_)
    have fz45 : (-1) ≤ z45.toInt ∧ z45.toInt ≤ 60 := by rw [ez45]; exact ar_get h_fs_sizes a1 0 (by omega) (show a1.toInt % 1 = 0 by omega) rfl
    have gz45 : z45.toInt = (fs_sizes a1.toNatClampNeg).toInt := by rw [ez45]
    refine lv_icmp_ge (tgt := 53) hx hb dX7_told_18 (by decide) (fun hc => ?_) (fun hc => ?_)
    · have hq46 : z45.toInt ≤ x43.toInt := tq_le rfl rfl hc
      refine lv_iconst (v := (-1)) hx hb dX7_told_53 (by decide) ?_
      have hk47 : (-1 : Int32).toInt = (-1) := by decide
      obtain ⟨hP9, hD9⟩ : ct_B D A H [(qs, .inr (7, [.ref qs_widths, .ref qs_sizes, .ref qs_numbers])), (qs_sizes, .inl (cI, 4, .inl (fs_sizes))), (qs_numbers, .inl (cJ, 240, .inr (.inl (fs_numbers))))] := ⟨hP.sub [0, 1, 2] rfl, hD.sub [0, 1, 2] (by decide) rfl⟩
      exact W.iret (v := (-1)) hx hb hr (fun t ht hW => ⟨⟨(-1), (), rfl, ⟨(show (-1) ≤ (-1 : Int32).toInt ∧ (-1 : Int32).toInt ≤ 5 by decide), (show (-1 : Int32).toInt = tv (ra fs_numbers a1.toInt) a2.toInt.toNat a3.toInt.toNat (fs_sizes a1.toNatClampNeg).toInt.toNat by have h9 := to_none (n := (fs_sizes a1.toNatClampNeg).toInt) he0 (by omega); omega)⟩, by rw [ht]; exact hP9, hD9⟩, hS.F ht⟩) hS.2.2 dX7_told_54
    · have hq46 : x43.toInt < z45.toInt := tq_nle rfl rfl hc
      refine lv_aload_n hx hb dX7_told_21 rfl (lv_at hl 1 rfl) ?_
      refine lv_iload_n hx hb dX7_told_22 rfl (lv_at hl 2 rfl) ?_
      refine lv_iload hx hb dX7_told_23 (lv_at hl 0 rfl) ?_
      refine ct_calll (D := D) (wr := [(qs_sizes, .inl (cI, 4, .inl (fs_sizes)))]) (va_runV (As := [.int a1, .int x43]) (rest := []) ⟨hx, hb, hml, hown, hts⟩ (c_X7_at l D G cI cJ cB cZ cO qs qs_widths qs_sizes qs_numbers fs_numbers a1 x43 h_a1 (by omega) H.size) (cwV 2 hts gX7_told_X7_at rfl rfl rfl (by decide +kernel) ⟨Nat.le_of_ble_eq_true rfl, Nat.le_of_ble_eq_true rfl⟩) (ct_preV (T := ct_T cI cJ cB cZ cO) (ci := 7) (q0 := 0) hE hH hP hD hS hA [0, 2] (by decide) rfl rfl rfl) rfl rfl hl.1 rfl (lv_room (Nat.le_of_ble_eq_true rfl)) dX7_told_25 ⟨Nat.le_of_ble_eq_true rfl, Nat.le_of_ble_eq_true rfl⟩) hP hD hS hA [0, 2] [1] rfl rfl (by decide) (by decide) (fun r48 u H locs hw hP hD hS => ?_)
      obtain ⟨hP, hD⟩ : ct_B D A H [(qs_sizes, .inl (cI, 4, .inl (fs_sizes))), (qs, .inr (7, [.ref qs_widths, .ref qs_sizes, .ref qs_numbers])), (qs_numbers, .inl (cJ, 240, .inr (.inl (fs_numbers))))] := ⟨hP, hD⟩
      have hp0 := hw
      have hp_49 : r48 = fs_numbers (60 * a1.toInt + x43.toInt).toNat := hp0
      have hh50 : ra fs_numbers a1.toInt x43.toInt.toNat = r48.toInt := ra_at (by omega) hp_49
      have hh51 : -1 ≤ r48.toInt ∧ r48.toInt ≤ 5 := st_at h_st (by omega) (by omega) hh50
      refine lv_ldc2 (v := (-1)) hx hb hown (hts (.constantLong RX7 60 (-1)) (by decide +kernel)) dX7_told_28 ?_
      refine W.lcmp hx hb dX7_told_31 ?_
      refine lv_if_eq (tgt := 44) hx hb dX7_told_32 (by decide) (fun hc => ?_) (fun hc => ?_)
      · have hq52 : r48.toInt = (-1) := tl_eq rfl (by decide) ((lg_cmp_eq _ _).mp hc)
        refine lv_iload hx hb dX7_told_44 (lv_at hl 0 rfl) ?_
        refine lv_iload_n hx hb dX7_told_46 rfl (lv_at hl 3 rfl) ?_
        refine lv_iadd hx hb dX7_told_47 ?_
        refine lv_topi (fun z53 ez53 => ?_)
        have fz53 : z53.toInt = x43.toInt + a2.toInt := by rw [ez53]; exact tq_add rfl rfl (by omega)
        refine lv_istore (lv' := [(4, .int z53), (0, .ref qs), (1, .int a1), (2, .int a2), (3, .int a3)]) hx hb dX7_told_48 hl (by decide) rfl (fun ls hl => ?_)
        refine lv_goto (tgt := 10) hx hb dX7_told_50 (by decide) ?_
        obtain ⟨hP9, hD9⟩ : ct_B D A H [(qs, .inr (7, [.ref qs_widths, .ref qs_sizes, .ref qs_numbers])), (qs_sizes, .inl (cI, 4, .inl (fs_sizes))), (qs_numbers, .inl (cJ, 240, .inr (.inl (fs_numbers))))] := ⟨hP.sub [1, 0, 2] rfl, hD.sub [1, 0, 2] (by decide) rfl⟩
        exact ih44 z53 _ _ _ (show (80 - z53.toInt).toNat < (80 - x43.toInt).toNat by omega) ⟨(show 0 ≤ z53.toInt ∧ z53.toInt ≤ 71 by omega), (show to_ok fs_numbers a1.toInt a2.toInt a3.toInt z53.toInt by exact to_step he0 (by omega) (by omega) (by omega) (by omega)), ⟨hP9, hD9⟩, hS, lv_sub hl [0, 1, 2, 3, 4] rfl⟩
      · have hq52 : r48.toInt ≠ (-1) := tl_ne rfl (by decide) (fun z => hc ((lg_cmp_eq _ _).mpr z))
        refine lv_aload_n hx hb dX7_told_35 rfl (lv_at hl 1 rfl) ?_
        refine lv_iload_n hx hb dX7_told_36 rfl (lv_at hl 2 rfl) ?_
        refine lv_iload hx hb dX7_told_37 (lv_at hl 0 rfl) ?_
        refine ct_calll (D := D) (wr := [(qs_sizes, .inl (cI, 4, .inl (fs_sizes)))]) (va_runV (As := [.int a1, .int x43]) (rest := []) ⟨hx, hb, hml, hown, hts⟩ (c_X7_at l D G cI cJ cB cZ cO qs qs_widths qs_sizes qs_numbers fs_numbers a1 x43 h_a1 (by omega) H.size) (cwV 2 hts gX7_told_X7_at rfl rfl rfl (by decide +kernel) ⟨Nat.le_of_ble_eq_true rfl, Nat.le_of_ble_eq_true rfl⟩) (ct_preV (T := ct_T cI cJ cB cZ cO) (ci := 7) (q0 := 1) hE hH hP hD hS hA [1, 2] (by decide) rfl rfl rfl) rfl rfl hl.1 rfl (lv_room (Nat.le_of_ble_eq_true rfl)) dX7_told_39 ⟨Nat.le_of_ble_eq_true rfl, Nat.le_of_ble_eq_true rfl⟩) hP hD hS hA [1, 2] [0] rfl rfl (by decide) (by decide) (fun r54 u H locs hw hP hD hS => ?_)
        obtain ⟨hP, hD⟩ : ct_B D A H [(qs_sizes, .inl (cI, 4, .inl (fs_sizes))), (qs, .inr (7, [.ref qs_widths, .ref qs_sizes, .ref qs_numbers])), (qs_numbers, .inl (cJ, 240, .inr (.inl (fs_numbers))))] := ⟨hP, hD⟩
        have hp0 := hw
        have hp_55 : r54 = fs_numbers (60 * a1.toInt + x43.toInt).toNat := hp0
        have hh56 : ra fs_numbers a1.toInt x43.toInt.toNat = r54.toInt := ra_at (by omega) hp_55
        have hh57 : -1 ≤ r54.toInt ∧ r54.toInt ≤ 5 := st_at h_st (by omega) (by omega) hh56
        refine lv_l2i (v := _) hx hb dX7_told_42 rfl ?_
        refine lv_topi (fun z58 ez58 => ?_)
        have fz58 : z58.toInt = r54.toInt := by rw [ez58]; exact tl_l2i rfl (by omega)
        obtain ⟨hP9, hD9⟩ : ct_B D A H [(qs, .inr (7, [.ref qs_widths, .ref qs_sizes, .ref qs_numbers])), (qs_sizes, .inl (cI, 4, .inl (fs_sizes))), (qs_numbers, .inl (cJ, 240, .inr (.inl (fs_numbers))))] := ⟨hP.sub [1, 0, 2] rfl, hD.sub [1, 0, 2] (by decide) rfl⟩
        exact W.iret (v := z58) hx hb hr (fun t ht hW => ⟨⟨z58, (), rfl, ⟨(show (-1) ≤ z58.toInt ∧ z58.toInt ≤ 5 by omega), (show z58.toInt = tv (ra fs_numbers a1.toInt) a2.toInt.toNat a3.toInt.toNat (fs_sizes a1.toNatClampNeg).toInt.toNat by have h9 := to_hit (n := (fs_sizes a1.toNatClampNeg).toInt) he0 (by omega) (by omega) (by omega); omega)⟩, by rw [ht]; exact hP9, hD9⟩, hS.F ht⟩) hS.2.2 dX7_told_43
  · have hq1 : a2.toInt < 1 := tq_nle (by decide) rfl hc
    omega
abbrev w_c_X7_countUntold (cI cJ cB cZ cO : ClassId) (qs : Nat) (qs_widths : Nat) (qs_sizes : Nat) (fs_sizes : Nat → Int32) (qs_numbers : Nat) (fs_numbers : Nat → Int64) : va_W := [(qs, .inr (7, [.ref qs_widths, .ref qs_sizes, .ref qs_numbers])), (qs_sizes, .inl (cI, 4, .inl (fs_sizes))), (qs_numbers, .inl (cJ, 240, .inr (.inl (fs_numbers))))]
set_option maxHeartbeats 4000000 in
set_option maxRecDepth 100000 in
/-- X7 countUntold -/
theorem c_X7_countUntold (l : Launch) (D : va_G) (G : ct_G) (cI cJ cB cZ cO : ClassId) (qs : Nat) (qs_widths : Nat) (qs_sizes : Nat) (fs_sizes : Nat → Int32) (qs_numbers : Nat) (fs_numbers : Nat → Int64) (a1 : Int32) (a2 : Int32) (h_fs_sizes : ar_ok [(-1)] [60] fs_sizes) (h_a1 : 0 ≤ a1.toInt ∧ a1.toInt ≤ 3) (h_a2 : 1 ≤ a2.toInt ∧ a2.toInt ≤ 12) (h_st : st_ok fs_numbers a1.toInt (fs_sizes a1.toNatClampNeg).toInt) (sz : Nat) : Met l yX7_countUntold wsX7_countUntold ({ frames := 2, cells := 0, slots := 0, locals := 46 }) (va_Pc [.ref qs, .int a1, .int a2] (ct_P D (ct_T cI cJ cB cZ cO) G (w_c_X7_countUntold cI cJ cB cZ cO qs qs_widths qs_sizes fs_sizes qs_numbers fs_numbers) sz)) (va_Qi (fun (rz : Int32) (u : Unit) => (0 ≤ rz.toInt ∧ rz.toInt ≤ 12) ∧ (rz.toInt = oc (ra fs_numbers a1.toInt) a2.toInt.toNat (fs_sizes a1.toNatClampNeg).toInt.toNat a2.toInt.toNat)) (fun (u : Unit) t => ct_Q D (va_A (w_c_X7_countUntold cI cJ cB cZ cO qs qs_widths qs_sizes fs_sizes qs_numbers fs_numbers) sz) [(qs, .inr (7, [.ref qs_widths, .ref qs_sizes, .ref qs_numbers])), (qs_sizes, .inl (cI, 4, .inl (fs_sizes))), (qs_numbers, .inl (cJ, 240, .inr (.inl (fs_numbers))))] t) (va_A (w_c_X7_countUntold cI cJ cB cZ cO qs qs_widths qs_sizes fs_sizes qs_numbers fs_numbers) sz)) 0 0 (va_A (w_c_X7_countUntold cI cJ cB cZ cO qs qs_widths qs_sizes fs_sizes qs_numbers fs_numbers) sz) := by
  refine Met.ofW (cc := cX7_countUntold) (maxL := 5) (ret := (some .int)) (by decide) rfl ?_
  intro p e s m args below meth c s₁ B hml hv
  obtain ⟨rfl, hsz, hP, hE, hD0, hH⟩ := hv
  have hx := B.exec
  have hb := B.bytes
  have hr := B.returns
  have hts := atoms_spec (ws := wsX7_countUntold) B.pre
  have hown : s.vm.findClass RX7 = some m.cls := findClass_of_methodNamed B.named
  have hlocks := B.notSynchronized
  have hK := hE.1
  subst hsz
  have hD := hD0.self (sz := s.heap.size)
  generalize hAe : va_A (w_c_X7_countUntold cI cJ cB cZ cO qs qs_widths qs_sizes fs_sizes qs_numbers fs_numbers) s.heap.size = A at hD hH ⊢
  have hA : ∀ q : Nat, s.heap.size ≤ q → A q := fun q h => by rw [← hAe]; exact Or.inr h
  have hS : va_S A s.heap s.heap [] := va_S.rf
  obtain ⟨hP, hD⟩ : ct_B D A s.heap [(qs, .inr (7, [.ref qs_widths, .ref qs_sizes, .ref qs_numbers])), (qs_sizes, .inl (cI, 4, .inl (fs_sizes))), (qs_numbers, .inl (cJ, 240, .inr (.inl (fs_numbers))))] := ⟨hP, hD⟩
  have hl := lv_entry ([.ref qs, .int a1, .int a2]) (n := 5) (Nat.le_of_ble_eq_true rfl)
  rw [lg_entry_eq]
  generalize (lg_sl ([.ref qs, .int a1, .int a2]) ++ List.replicate (5 - (lg_sl ([.ref qs, .int a1, .int a2])).length) Slot.unset).toArray = ls at hl ⊢
  have hl : lv_has ls 5 [(0, .ref qs), (1, .int a1), (2, .int a2)] := hl
  obtain ⟨H, hHe⟩ : ∃ H : Heap, H = s.heap := ⟨_, rfl⟩
  rw [← hHe] at hP
  have hS : va_S A s.heap H [] := by rw [hHe]; exact va_S.rf
  refine ct_start hHe ?_
  refine lv_iconst (v := 0) hx hb dX7_countUntold_0 (by decide) ?_
  refine lv_istore_n (lv' := [(3, .int 0), (0, .ref qs), (1, .int a1), (2, .int a2)]) hx hb dX7_countUntold_1 rfl hl (by decide) rfl (fun ls hl => ?_)
  refine lv_iconst (v := 0) hx hb dX7_countUntold_2 (by decide) ?_
  refine lv_istore (lv' := [(4, .int 0), (3, .int 0), (0, .ref qs), (1, .int a1), (2, .int a2)]) hx hb dX7_countUntold_3 hl (by decide) rfl (fun ls hl => ?_)
  refine ct_loop (X := Int32 × Int32) (fun x => (12 - x.2.toInt).toNat) (fun x H locs ls => ((0 ≤ x.1.toInt ∧ x.1.toInt ≤ 12)) ∧ ((0 ≤ x.2.toInt ∧ x.2.toInt ≤ 12)) ∧ (x.1.toInt = oc (ra fs_numbers a1.toInt) a2.toInt.toNat (fs_sizes a1.toNatClampNeg).toInt.toNat x.2.toInt.toNat) ∧ (x.2.toInt ≤ a2.toInt) ∧ (x.1.toInt ≤ x.2.toInt) ∧ ct_B D A H [(qs, .inr (7, [.ref qs_widths, .ref qs_sizes, .ref qs_numbers])), (qs_sizes, .inl (cI, 4, .inl (fs_sizes))), (qs_numbers, .inl (cJ, 240, .inr (.inl (fs_numbers))))] ∧ va_S A s.heap H locs ∧ lv_has ls 5 [(4, .int x.2), (3, .int x.1), (0, .ref qs), (1, .int a1), (2, .int a2)]) 5 ((0 : Int32), (0 : Int32)) ⟨(show 0 ≤ (0 : Int32).toInt ∧ (0 : Int32).toInt ≤ 12 by decide), (show 0 ≤ (0 : Int32).toInt ∧ (0 : Int32).toInt ≤ 12 by decide), (show (0 : Int32).toInt = oc (ra fs_numbers a1.toInt) a2.toInt.toNat (fs_sizes a1.toNatClampNeg).toInt.toNat (0 : Int32).toInt.toNat by exact oc_0 (by decide) (by decide)), (show (0 : Int32).toInt ≤ a2.toInt by have h0 : (0 : Int32).toInt = 0 := (by decide); omega), (show (0 : Int32).toInt ≤ (0 : Int32).toInt by decide), ⟨hP, hD⟩, hS, lv_sub hl [0, 1, 2, 3, 4] rfl⟩ (fun x ih71 H locs ls hI => ?_)
  obtain ⟨x69, x70⟩ := x
  obtain ⟨h_x69, h_x70, he0, he1, he2, ⟨hP, hD⟩, hS, hl⟩ := hI
  have h_x69 : (0 ≤ x69.toInt ∧ x69.toInt ≤ 12) := h_x69
  have h_x70 : (0 ≤ x70.toInt ∧ x70.toInt ≤ 12) := h_x70
  have he0 : x69.toInt = oc (ra fs_numbers a1.toInt) a2.toInt.toNat (fs_sizes a1.toNatClampNeg).toInt.toNat x70.toInt.toNat := he0
  have he1 : x70.toInt ≤ a2.toInt := he1
  have he2 : x69.toInt ≤ x70.toInt := he2
  obtain ⟨hP, hD⟩ : ct_B D A H [(qs, .inr (7, [.ref qs_widths, .ref qs_sizes, .ref qs_numbers])), (qs_sizes, .inl (cI, 4, .inl (fs_sizes))), (qs_numbers, .inl (cJ, 240, .inr (.inl (fs_numbers))))] := ⟨hP, hD⟩
  have hl : lv_has ls 5 [(4, .int x70), (3, .int x69), (0, .ref qs), (1, .int a1), (2, .int a2)] := hl
  refine lv_iload hx hb dX7_countUntold_5 (lv_at hl 0 rfl) ?_
  refine lv_iload_n hx hb dX7_countUntold_7 rfl (lv_at hl 4 rfl) ?_
  refine lv_icmp_ge (tgt := 37) hx hb dX7_countUntold_8 (by decide) (fun hc => ?_) (fun hc => ?_)
  · have hq72 : a2.toInt ≤ x70.toInt := tq_le rfl rfl hc
    refine lv_iload_n hx hb dX7_countUntold_37 rfl (lv_at hl 1 rfl) ?_
    obtain ⟨hP9, hD9⟩ : ct_B D A H [(qs, .inr (7, [.ref qs_widths, .ref qs_sizes, .ref qs_numbers])), (qs_sizes, .inl (cI, 4, .inl (fs_sizes))), (qs_numbers, .inl (cJ, 240, .inr (.inl (fs_numbers))))] := ⟨hP.sub [0, 1, 2] rfl, hD.sub [0, 1, 2] (by decide) rfl⟩
    exact W.iret (v := x69) hx hb hr (fun t ht hW => ⟨⟨x69, (), rfl, ⟨h_x69, (show x69.toInt = oc (ra fs_numbers a1.toInt) a2.toInt.toNat (fs_sizes a1.toNatClampNeg).toInt.toNat a2.toInt.toNat by exact oc_to he0 (by omega))⟩, by rw [ht]; exact hP9, hD9⟩, hS.F ht⟩) hS.2.2 dX7_countUntold_38
  · have hq72 : x70.toInt < a2.toInt := tq_nle rfl rfl hc
    refine lv_iload_n hx hb dX7_countUntold_11 rfl (lv_at hl 1 rfl) ?_
    refine lv_aload_n hx hb dX7_countUntold_12 rfl (lv_at hl 2 rfl) ?_
    refine lv_iload_n hx hb dX7_countUntold_13 rfl (lv_at hl 3 rfl) ?_
    refine lv_iload_n hx hb dX7_countUntold_14 rfl (lv_at hl 4 rfl) ?_
    refine lv_iload hx hb dX7_countUntold_15 (lv_at hl 0 rfl) ?_
    refine ct_calli (D := D) (wr := []) (va_runV (As := [.int a1, .int a2, .int x70]) (rest := [.int x69]) ⟨hx, hb, hml, hown, hts⟩ (c_X7_told l D G cI cJ cB cZ cO qs qs_widths qs_sizes fs_sizes qs_numbers fs_numbers a1 a2 x70 h_fs_sizes h_a1 h_a2 (by omega) (by omega) h_st H.size) (cwV 3 hts gX7_countUntold_X7_told rfl rfl rfl (by decide +kernel) ⟨Nat.le_of_ble_eq_true rfl, Nat.le_of_ble_eq_true rfl⟩) (ct_preV (T := ct_T cI cJ cB cZ cO) (ci := 7) (q0 := 0) hE hH hP hD hS hA [0, 1, 2] (by decide) rfl rfl rfl) rfl rfl hl.1 rfl (lv_room (Nat.le_of_ble_eq_true rfl)) dX7_countUntold_17 ⟨Nat.le_of_ble_eq_true rfl, Nat.le_of_ble_eq_true rfl⟩) hP hD hS hA [0, 1, 2] [] rfl rfl (by decide) (by decide) (fun r73 u H locs hw hP hD hS => ?_)
    obtain ⟨hP, hD⟩ : ct_B D A H [(qs, .inr (7, [.ref qs_widths, .ref qs_sizes, .ref qs_numbers])), (qs_sizes, .inl (cI, 4, .inl (fs_sizes))), (qs_numbers, .inl (cJ, 240, .inr (.inl (fs_numbers))))] := ⟨hP, hD⟩
    obtain ⟨hz, hp0⟩ := hw
    have hp_74 : r73.toInt = tv (ra fs_numbers a1.toInt) a2.toInt.toNat x70.toInt.toNat (fs_sizes a1.toNatClampNeg).toInt.toNat := hp0
    have h_r73 : (-1) ≤ r73.toInt ∧ r73.toInt ≤ 5 := hz
    refine lv_iconst (v := (-1)) hx hb dX7_countUntold_20 (by decide) ?_
    refine lv_icmp_ne (tgt := 28) hx hb dX7_countUntold_21 (by decide) (fun hc => ?_) (fun hc => ?_)
    · have hq75 : r73.toInt ≠ (-1) := tq_ne rfl (by decide) hc
      refine lv_iconst (v := 0) hx hb dX7_countUntold_28 (by decide) ?_
      refine lv_iadd hx hb dX7_countUntold_29 ?_
      refine lv_topi (fun z76 ez76 => ?_)
      have fz76 : z76.toInt = x69.toInt + 0 := by rw [ez76]; exact tq_add rfl (by decide) (by omega)
      refine lv_istore_n (lv' := [(3, .int z76), (4, .int x70), (0, .ref qs), (1, .int a1), (2, .int a2)]) hx hb dX7_countUntold_30 rfl hl (by decide) rfl (fun ls hl => ?_)
      obtain ⟨z77, ez77⟩ : ∃ z : Int32, z = x70 + 1 := ⟨_, rfl⟩
      have fz77 : z77.toInt = x70.toInt + 1 := by rw [ez77]; exact tq_add rfl (by decide) (by omega)
      refine lv_iinc (v := z77) (lv' := [(4, .int z77), (3, .int z76), (0, .ref qs), (1, .int a1), (2, .int a2)]) hx hb dX7_countUntold_31 hl (k := 1) rfl ez77.symm (by decide) rfl (fun ls hl => ?_)
      refine lv_goto (tgt := 5) hx hb dX7_countUntold_34 (by decide) ?_
      exact ih71 (z76, z77) _ _ _ (show (12 - z77.toInt).toNat < (12 - x70.toInt).toNat by omega) ⟨(show 0 ≤ z76.toInt ∧ z76.toInt ≤ 12 by omega), (show 0 ≤ z77.toInt ∧ z77.toInt ≤ 12 by omega), (show z76.toInt = oc (ra fs_numbers a1.toInt) a2.toInt.toNat (fs_sizes a1.toNatClampNeg).toInt.toNat z77.toInt.toNat by first | exact oc_s1 he0 (by omega) (by omega) (by omega) (by omega) | exact oc_s0 he0 (by omega) (by omega) (by omega) (by omega)), (show z77.toInt ≤ a2.toInt by omega), (show z76.toInt ≤ z77.toInt by omega), ⟨hP, hD⟩, hS, lv_sub hl [0, 1, 2, 3, 4] rfl⟩
    · have hq75 : r73.toInt = (-1) := tq_eq rfl (by decide) hc
      refine lv_iconst (v := 1) hx hb dX7_countUntold_24 (by decide) ?_
      refine lv_goto (tgt := 29) hx hb dX7_countUntold_25 (by decide) ?_
      refine lv_iadd hx hb dX7_countUntold_29 ?_
      refine lv_topi (fun z78 ez78 => ?_)
      have fz78 : z78.toInt = x69.toInt + 1 := by rw [ez78]; exact tq_add rfl (by decide) (by omega)
      refine lv_istore_n (lv' := [(3, .int z78), (4, .int x70), (0, .ref qs), (1, .int a1), (2, .int a2)]) hx hb dX7_countUntold_30 rfl hl (by decide) rfl (fun ls hl => ?_)
      obtain ⟨z79, ez79⟩ : ∃ z : Int32, z = x70 + 1 := ⟨_, rfl⟩
      have fz79 : z79.toInt = x70.toInt + 1 := by rw [ez79]; exact tq_add rfl (by decide) (by omega)
      refine lv_iinc (v := z79) (lv' := [(4, .int z79), (3, .int z78), (0, .ref qs), (1, .int a1), (2, .int a2)]) hx hb dX7_countUntold_31 hl (k := 1) rfl ez79.symm (by decide) rfl (fun ls hl => ?_)
      refine lv_goto (tgt := 5) hx hb dX7_countUntold_34 (by decide) ?_
      exact ih71 (z78, z79) _ _ _ (show (12 - z79.toInt).toNat < (12 - x70.toInt).toNat by omega) ⟨(show 0 ≤ z78.toInt ∧ z78.toInt ≤ 12 by omega), (show 0 ≤ z79.toInt ∧ z79.toInt ≤ 12 by omega), (show z78.toInt = oc (ra fs_numbers a1.toInt) a2.toInt.toNat (fs_sizes a1.toNatClampNeg).toInt.toNat z79.toInt.toNat by first | exact oc_s1 he0 (by omega) (by omega) (by omega) (by omega) | exact oc_s0 he0 (by omega) (by omega) (by omega) (by omega)), (show z79.toInt ≤ a2.toInt by omega), (show z78.toInt ≤ z79.toInt by omega), ⟨hP, hD⟩, hS, lv_sub hl [0, 1, 2, 3, 4] rfl⟩
abbrev w_c_X7_goesRound (cI cJ cB cZ cO : ClassId) (qs : Nat) (qs_widths : Nat) (qs_sizes : Nat) (fs_sizes : Nat → Int32) (qs_numbers : Nat) (fs_numbers : Nat → Int64) : va_W := [(qs, .inr (7, [.ref qs_widths, .ref qs_sizes, .ref qs_numbers])), (qs_sizes, .inl (cI, 4, .inl (fs_sizes))), (qs_numbers, .inl (cJ, 240, .inr (.inl (fs_numbers))))]
set_option maxHeartbeats 4000000 in
set_option maxRecDepth 100000 in
/-- X7 goesRound -/
theorem c_X7_goesRound (l : Launch) (D : va_G) (G : ct_G) (cI cJ cB cZ cO : ClassId) (qs : Nat) (qs_widths : Nat) (qs_sizes : Nat) (fs_sizes : Nat → Int32) (qs_numbers : Nat) (fs_numbers : Nat → Int64) (a1 : Int32) (a2 : Int32) (h_fs_sizes : ar_ok [(-1)] [60] fs_sizes) (h_a1 : 0 ≤ a1.toInt ∧ a1.toInt ≤ 3) (h_a2 : 1 ≤ a2.toInt ∧ a2.toInt ≤ 12) (h_st : st_ok fs_numbers a1.toInt (fs_sizes a1.toNatClampNeg).toInt) (sz : Nat) : Met l yX7_goesRound wsX7_goesRound ({ frames := 2, cells := 0, slots := 0, locals := 46 }) (va_Pc [.ref qs, .int a1, .int a2] (ct_P D (ct_T cI cJ cB cZ cO) G (w_c_X7_goesRound cI cJ cB cZ cO qs qs_widths qs_sizes fs_sizes qs_numbers fs_numbers) sz)) (va_Qi (fun (rz : Int32) (u : Unit) => ((rz = 1 ∧ gr (ra fs_numbers a1.toInt) (fs_sizes a1.toNatClampNeg).toInt.toNat a2.toInt.toNat) ∨ (rz = 0 ∧ ¬ gr (ra fs_numbers a1.toInt) (fs_sizes a1.toNatClampNeg).toInt.toNat a2.toInt.toNat))) (fun (u : Unit) t => ct_Q D (va_A (w_c_X7_goesRound cI cJ cB cZ cO qs qs_widths qs_sizes fs_sizes qs_numbers fs_numbers) sz) [(qs, .inr (7, [.ref qs_widths, .ref qs_sizes, .ref qs_numbers])), (qs_sizes, .inl (cI, 4, .inl (fs_sizes))), (qs_numbers, .inl (cJ, 240, .inr (.inl (fs_numbers))))] t) (va_A (w_c_X7_goesRound cI cJ cB cZ cO qs qs_widths qs_sizes fs_sizes qs_numbers fs_numbers) sz)) 0 0 (va_A (w_c_X7_goesRound cI cJ cB cZ cO qs qs_widths qs_sizes fs_sizes qs_numbers fs_numbers) sz) := by
  refine Met.ofW (cc := cX7_goesRound) (maxL := 6) (ret := (some .boolean)) (by decide) rfl ?_
  intro p e s m args below meth c s₁ B hml hv
  obtain ⟨rfl, hsz, hP, hE, hD0, hH⟩ := hv
  have hx := B.exec
  have hb := B.bytes
  have hr := B.returns
  have hts := atoms_spec (ws := wsX7_goesRound) B.pre
  have hown : s.vm.findClass RX7 = some m.cls := findClass_of_methodNamed B.named
  have hlocks := B.notSynchronized
  have hK := hE.1
  have hi7 : ∀ w ∈ u_ws RX7 TX7 3, w ∈ wsX7_goesRound := fun w h => List.mem_cons_of_mem _ (List.mem_append_right _ h)
  subst hsz
  have hD := hD0.self (sz := s.heap.size)
  generalize hAe : va_A (w_c_X7_goesRound cI cJ cB cZ cO qs qs_widths qs_sizes fs_sizes qs_numbers fs_numbers) s.heap.size = A at hD hH ⊢
  have hA : ∀ q : Nat, s.heap.size ≤ q → A q := fun q h => by rw [← hAe]; exact Or.inr h
  have hS : va_S A s.heap s.heap [] := va_S.rf
  obtain ⟨hP, hD⟩ : ct_B D A s.heap [(qs, .inr (7, [.ref qs_widths, .ref qs_sizes, .ref qs_numbers])), (qs_sizes, .inl (cI, 4, .inl (fs_sizes))), (qs_numbers, .inl (cJ, 240, .inr (.inl (fs_numbers))))] := ⟨hP, hD⟩
  have hl := lv_entry ([.ref qs, .int a1, .int a2]) (n := 6) (Nat.le_of_ble_eq_true rfl)
  rw [lg_entry_eq]
  generalize (lg_sl ([.ref qs, .int a1, .int a2]) ++ List.replicate (6 - (lg_sl ([.ref qs, .int a1, .int a2])).length) Slot.unset).toArray = ls at hl ⊢
  have hl : lv_has ls 6 [(0, .ref qs), (1, .int a1), (2, .int a2)] := hl
  obtain ⟨H, hHe⟩ : ∃ H : Heap, H = s.heap := ⟨_, rfl⟩
  rw [← hHe] at hP
  have hS : va_S A s.heap H [] := by rw [hHe]; exact va_S.rf
  refine ct_start hHe ?_
  refine lv_iconst (v := 0) hx hb dX7_goesRound_0 (by decide) ?_
  refine lv_istore_n (lv' := [(3, .int 0), (0, .ref qs), (1, .int a1), (2, .int a2)]) hx hb dX7_goesRound_1 rfl hl (by decide) rfl (fun ls hl => ?_)
  refine ct_loop (X := Int32) (fun x => (60 - x.toInt).toNat) (fun x H locs ls => ((0 ≤ x.toInt ∧ x.toInt ≤ 60)) ∧ (go_ok fs_numbers a1.toInt a2.toInt (fs_sizes a1.toNatClampNeg).toInt x.toInt) ∧ ct_B D A H [(qs, .inr (7, [.ref qs_widths, .ref qs_sizes, .ref qs_numbers])), (qs_sizes, .inl (cI, 4, .inl (fs_sizes))), (qs_numbers, .inl (cJ, 240, .inr (.inl (fs_numbers))))] ∧ va_S A s.heap H locs ∧ lv_has ls 6 [(3, .int x), (0, .ref qs), (1, .int a1), (2, .int a2)]) 2 (0 : Int32) ⟨(show 0 ≤ (0 : Int32).toInt ∧ (0 : Int32).toInt ≤ 60 by decide), (show go_ok fs_numbers a1.toInt a2.toInt (fs_sizes a1.toNatClampNeg).toInt (0 : Int32).toInt by exact go_0 (by decide)), ⟨hP, hD⟩, hS, lv_sub hl [0, 1, 2, 3] rfl⟩ (fun x ih120 H locs ls hI => ?_)
  obtain ⟨x119, rfl⟩ : ∃ z, z = x := ⟨_, rfl⟩
  obtain ⟨h_x119, he0, ⟨hP, hD⟩, hS, hl⟩ := hI
  have h_x119 : (0 ≤ x119.toInt ∧ x119.toInt ≤ 60) := h_x119
  have he0 : go_ok fs_numbers a1.toInt a2.toInt (fs_sizes a1.toNatClampNeg).toInt x119.toInt := he0
  obtain ⟨hP, hD⟩ : ct_B D A H [(qs, .inr (7, [.ref qs_widths, .ref qs_sizes, .ref qs_numbers])), (qs_sizes, .inl (cI, 4, .inl (fs_sizes))), (qs_numbers, .inl (cJ, 240, .inr (.inl (fs_numbers))))] := ⟨hP, hD⟩
  have hl : lv_has ls 6 [(3, .int x119), (0, .ref qs), (1, .int a1), (2, .int a2)] := hl
  refine lv_iload_n hx hb dX7_goesRound_2 rfl (lv_at hl 0 rfl) ?_
  refine lv_aload_n hx hb dX7_goesRound_3 rfl (lv_at hl 1 rfl) ?_
  refine va_get (D := D) (ci := 7) (v := .ref qs_sizes) (C := RX7) (T := TX7) (N := 3) hx hb hts hi7 hown hK hP 0 rfl rfl 1 (by decide) (hts (.fieldLink RX7 15 "OverHill$Slots" "sizes" "[I") (by decide +kernel)) (fun _ h9 => h9) rfl dX7_goesRound_4 ?_
  refine lv_iload_n hx hb dX7_goesRound_7 rfl (lv_at hl 2 rfl) ?_
  refine va_iald (D := D) hx hb hK hP 1 0 rfl rfl (tq_in rfl (by omega)) dX7_goesRound_8 ?_
  refine lv_topi (fun z121 ez121 => ?_)
  have fz121 : (-1) ≤ z121.toInt ∧ z121.toInt ≤ 60 := by rw [ez121]; exact ar_get h_fs_sizes a1 0 (by omega) (show a1.toInt % 1 = 0 by omega) rfl
  have gz121 : z121.toInt = (fs_sizes a1.toNatClampNeg).toInt := by rw [ez121]
  refine lv_icmp_ge (tgt := 55) hx hb dX7_goesRound_9 (by decide) (fun hc => ?_) (fun hc => ?_)
  · have hq122 : z121.toInt ≤ x119.toInt := tq_le rfl rfl hc
    refine lv_iconst (v := 1) hx hb dX7_goesRound_55 (by decide) ?_
    obtain ⟨hP9, hD9⟩ : ct_B D A H [(qs, .inr (7, [.ref qs_widths, .ref qs_sizes, .ref qs_numbers])), (qs_sizes, .inl (cI, 4, .inl (fs_sizes))), (qs_numbers, .inl (cJ, 240, .inr (.inl (fs_numbers))))] := ⟨hP.sub [0, 1, 2] rfl, hD.sub [0, 1, 2] (by decide) rfl⟩
    exact W.zret (v := 1) (ty := .boolean) hx hb hr rfl (fun t ht hW => ⟨⟨1, (), rfl, (Or.inl ⟨rfl, (show gr (ra fs_numbers a1.toInt) (fs_sizes a1.toNatClampNeg).toInt.toNat a2.toInt.toNat by exact go_all he0 (by omega))⟩), by rw [ht]; exact hP9, hD9⟩, hS.F ht⟩) hS.2.2 dX7_goesRound_56
  · have hq122 : x119.toInt < z121.toInt := tq_nle rfl rfl hc
    refine lv_aload_n hx hb dX7_goesRound_12 rfl (lv_at hl 1 rfl) ?_
    refine lv_iload_n hx hb dX7_goesRound_13 rfl (lv_at hl 2 rfl) ?_
    refine lv_iload_n hx hb dX7_goesRound_14 rfl (lv_at hl 0 rfl) ?_
    refine ct_calll (D := D) (wr := [(qs_sizes, .inl (cI, 4, .inl (fs_sizes)))]) (va_runV (As := [.int a1, .int x119]) (rest := []) ⟨hx, hb, hml, hown, hts⟩ (c_X7_at l D G cI cJ cB cZ cO qs qs_widths qs_sizes qs_numbers fs_numbers a1 x119 h_a1 (by omega) H.size) (cwV 2 hts gX7_goesRound_X7_at rfl rfl rfl (by decide +kernel) ⟨Nat.le_of_ble_eq_true rfl, Nat.le_of_ble_eq_true rfl⟩) (ct_preV (T := ct_T cI cJ cB cZ cO) (ci := 7) (q0 := 0) hE hH hP hD hS hA [0, 2] (by decide) rfl rfl rfl) rfl rfl hl.1 rfl (lv_room (Nat.le_of_ble_eq_true rfl)) dX7_goesRound_15 ⟨Nat.le_of_ble_eq_true rfl, Nat.le_of_ble_eq_true rfl⟩) hP hD hS hA [0, 2] [1] rfl rfl (by decide) (by decide) (fun r123 u H locs hw hP hD hS => ?_)
    obtain ⟨hP, hD⟩ : ct_B D A H [(qs_sizes, .inl (cI, 4, .inl (fs_sizes))), (qs, .inr (7, [.ref qs_widths, .ref qs_sizes, .ref qs_numbers])), (qs_numbers, .inl (cJ, 240, .inr (.inl (fs_numbers))))] := ⟨hP, hD⟩
    have hp0 := hw
    have hp_124 : r123 = fs_numbers (60 * a1.toInt + x119.toInt).toNat := hp0
    have hh125 : ra fs_numbers a1.toInt x119.toInt.toNat = r123.toInt := ra_at (by omega) hp_124
    have hh126 : -1 ≤ r123.toInt ∧ r123.toInt ≤ 5 := st_at h_st (by omega) (by omega) hh125
    refine lv_lstore (lv' := [(4, .long r123), (3, .int x119), (0, .ref qs), (1, .int a1), (2, .int a2)]) hx hb dX7_goesRound_18 hl (by decide) rfl (fun ls hl => ?_)
    refine lv_lload hx hb dX7_goesRound_20 (lv_at hl 0 rfl) ?_
    refine lv_ldc2 (v := (-1)) hx hb hown (hts (.constantLong RX7 60 (-1)) (by decide +kernel)) dX7_goesRound_22 ?_
    refine W.lcmp hx hb dX7_goesRound_25 ?_
    refine lv_if_eq (tgt := 49) hx hb dX7_goesRound_26 (by decide) (fun hc => ?_) (fun hc => ?_)
    · have hq127 : r123.toInt = (-1) := tl_eq rfl (by decide) ((lg_cmp_eq _ _).mp hc)
      obtain ⟨z128, ez128⟩ : ∃ z : Int32, z = x119 + 1 := ⟨_, rfl⟩
      have fz128 : z128.toInt = x119.toInt + 1 := by rw [ez128]; exact tq_add rfl (by decide) (by omega)
      refine lv_iinc (v := z128) (lv' := [(3, .int z128), (4, .long r123), (0, .ref qs), (1, .int a1), (2, .int a2)]) hx hb dX7_goesRound_49 hl (k := 1) rfl ez128.symm (by decide) rfl (fun ls hl => ?_)
      refine lv_goto (tgt := 2) hx hb dX7_goesRound_52 (by decide) ?_
      obtain ⟨hP9, hD9⟩ : ct_B D A H [(qs, .inr (7, [.ref qs_widths, .ref qs_sizes, .ref qs_numbers])), (qs_sizes, .inl (cI, 4, .inl (fs_sizes))), (qs_numbers, .inl (cJ, 240, .inr (.inl (fs_numbers))))] := ⟨hP.sub [1, 0, 2] rfl, hD.sub [1, 0, 2] (by decide) rfl⟩
      exact ih120 z128 _ _ _ (show (60 - z128.toInt).toNat < (60 - x119.toInt).toNat by omega) ⟨(show 0 ≤ z128.toInt ∧ z128.toInt ≤ 60 by omega), (show go_ok fs_numbers a1.toInt a2.toInt (fs_sizes a1.toNatClampNeg).toInt z128.toInt by exact go_step he0 (by omega) (Or.inl (by omega)) (by omega)), ⟨hP9, hD9⟩, hS, lv_sub hl [0, 2, 3, 4] rfl⟩
    · have hq127 : r123.toInt ≠ (-1) := tl_ne rfl (by decide) (fun z => hc ((lg_cmp_eq _ _).mpr z))
      refine lv_lload hx hb dX7_goesRound_29 (lv_at hl 0 rfl) ?_
      refine lv_aload_n hx hb dX7_goesRound_31 rfl (lv_at hl 2 rfl) ?_
      refine lv_iload_n hx hb dX7_goesRound_32 rfl (lv_at hl 3 rfl) ?_
      refine lv_iload_n hx hb dX7_goesRound_33 rfl (lv_at hl 4 rfl) ?_
      refine lv_iload_n hx hb dX7_goesRound_34 rfl (lv_at hl 1 rfl) ?_
      refine lv_iload_n hx hb dX7_goesRound_35 rfl (lv_at hl 4 rfl) ?_
      refine ct_calli (D := D) (wr := [(qs_sizes, .inl (cI, 4, .inl (fs_sizes))), (qs, .inr (7, [.ref qs_widths, .ref qs_sizes, .ref qs_numbers])), (qs_numbers, .inl (cJ, 240, .inr (.inl (fs_numbers))))]) (va_runSN (As := [.int x119, .int a2]) (rest := [.int a2, .int a1, .ref qs, .long r123]) ⟨hx, hb, hml, hown, hts⟩ (c_X11_wrap l D G cI cJ cB cZ cO x119 a2  H.size) ⟨va_cnB 2 hts gX7_goesRound_X11_wrap_n66 rfl rfl rfl (hE.2.1 (RX7, 66, yX11_wrap, "OverHill") (List.mem_of_getElem? (i := 18) rfl)) (hts (.initialized RX11) (by decide +kernel)) (by decide +kernel) ⟨Nat.le_of_ble_eq_true rfl, Nat.le_of_ble_eq_true rfl⟩, (hts (.static yX11_wrap) (by decide +kernel)), trivial⟩ (ct_preS (T := ct_T cI cJ cB cZ cO) hE hH hP hD hS hA [] (by decide) rfl) rfl rfl hl.1 rfl (lv_room (Nat.le_of_ble_eq_true rfl)) dX7_goesRound_36 ⟨Nat.le_of_ble_eq_true rfl, Nat.le_of_ble_eq_true rfl⟩) hP hD hS hA [] [0, 1, 2] rfl rfl (by decide) (by decide) (fun r129 u H locs hw hP hD hS => ?_)
      obtain ⟨hP, hD⟩ : ct_B D A H [(qs_sizes, .inl (cI, 4, .inl (fs_sizes))), (qs, .inr (7, [.ref qs_widths, .ref qs_sizes, .ref qs_numbers])), (qs_numbers, .inl (cJ, 240, .inr (.inl (fs_numbers))))] := ⟨hP, hD⟩
      obtain ⟨hz, hp0⟩ := hw
      have hp_130 : wr_ok x119.toInt a2.toInt r129.toInt := hp0
      have h_r129 : 0 ≤ r129.toInt ∧ (r129.toInt < a2.toInt ∨ r129.toInt = 0) := hz
      refine ct_calli (D := D) (wr := []) (va_runV (As := [.int a1, .int a2, .int r129]) (rest := [.long r123]) ⟨hx, hb, hml, hown, hts⟩ (c_X7_told l D G cI cJ cB cZ cO qs qs_widths qs_sizes fs_sizes qs_numbers fs_numbers a1 a2 r129 h_fs_sizes h_a1 h_a2 (by omega) (by omega) h_st H.size) (cwV 3 hts gX7_goesRound_X7_told rfl rfl rfl (by decide +kernel) ⟨Nat.le_of_ble_eq_true rfl, Nat.le_of_ble_eq_true rfl⟩) (ct_preV (T := ct_T cI cJ cB cZ cO) (ci := 7) (q0 := 1) hE hH hP hD hS hA [1, 0, 2] (by decide) rfl rfl rfl) rfl rfl hl.1 rfl (lv_room (Nat.le_of_ble_eq_true rfl)) dX7_goesRound_39 ⟨Nat.le_of_ble_eq_true rfl, Nat.le_of_ble_eq_true rfl⟩) hP hD hS hA [1, 0, 2] [] rfl rfl (by decide) (by decide) (fun r131 u H locs hw hP hD hS => ?_)
      obtain ⟨hP, hD⟩ : ct_B D A H [(qs, .inr (7, [.ref qs_widths, .ref qs_sizes, .ref qs_numbers])), (qs_sizes, .inl (cI, 4, .inl (fs_sizes))), (qs_numbers, .inl (cJ, 240, .inr (.inl (fs_numbers))))] := ⟨hP, hD⟩
      obtain ⟨hz, hp0⟩ := hw
      have hp_132 : r131.toInt = tv (ra fs_numbers a1.toInt) a2.toInt.toNat r129.toInt.toNat (fs_sizes a1.toNatClampNeg).toInt.toNat := hp0
      have hh133 : r131.toInt = tv (ra fs_numbers a1.toInt) a2.toInt.toNat (x119.toInt.toNat % a2.toInt.toNat) (fs_sizes a1.toNatClampNeg).toInt.toNat := go_tv (by omega) (by omega) hp_130 hp_132
      have h_r131 : (-1) ≤ r131.toInt ∧ r131.toInt ≤ 5 := hz
      refine lv_i2l (v := _) hx hb dX7_goesRound_42 rfl ?_
      refine lv_topl (fun z134 ez134 => ?_)
      have fz134 : z134.toInt = r131.toInt := by rw [ez134]; exact tl_i rfl
      refine W.lcmp hx hb dX7_goesRound_43 ?_
      refine lv_if_eq (tgt := 49) hx hb dX7_goesRound_44 (by decide) (fun hc => ?_) (fun hc => ?_)
      · have hq135 : r123.toInt = z134.toInt := tl_eq rfl rfl ((lg_cmp_eq _ _).mp hc)
        obtain ⟨z136, ez136⟩ : ∃ z : Int32, z = x119 + 1 := ⟨_, rfl⟩
        have fz136 : z136.toInt = x119.toInt + 1 := by rw [ez136]; exact tq_add rfl (by decide) (by omega)
        refine lv_iinc (v := z136) (lv' := [(3, .int z136), (4, .long r123), (0, .ref qs), (1, .int a1), (2, .int a2)]) hx hb dX7_goesRound_49 hl (k := 1) rfl ez136.symm (by decide) rfl (fun ls hl => ?_)
        refine lv_goto (tgt := 2) hx hb dX7_goesRound_52 (by decide) ?_
        exact ih120 z136 _ _ _ (show (60 - z136.toInt).toNat < (60 - x119.toInt).toNat by omega) ⟨(show 0 ≤ z136.toInt ∧ z136.toInt ≤ 60 by omega), (show go_ok fs_numbers a1.toInt a2.toInt (fs_sizes a1.toNatClampNeg).toInt z136.toInt by exact go_step he0 (by omega) (Or.inr (by omega)) (by omega)), ⟨hP, hD⟩, hS, lv_sub hl [0, 2, 3, 4] rfl⟩
      · have hq135 : r123.toInt ≠ z134.toInt := tl_ne rfl rfl (fun z => hc ((lg_cmp_eq _ _).mpr z))
        refine lv_iconst (v := 0) hx hb dX7_goesRound_47 (by decide) ?_
        obtain ⟨hP9, hD9⟩ : ct_B D A H [(qs, .inr (7, [.ref qs_widths, .ref qs_sizes, .ref qs_numbers])), (qs_sizes, .inl (cI, 4, .inl (fs_sizes))), (qs_numbers, .inl (cJ, 240, .inr (.inl (fs_numbers))))] := ⟨hP.sub [0, 1, 2] rfl, hD.sub [0, 1, 2] (by decide) rfl⟩
        exact W.zret (v := 0) (ty := .boolean) hx hb hr rfl (fun t ht hW => ⟨⟨0, (), rfl, (Or.inr (⟨rfl, (show ¬ gr (ra fs_numbers a1.toInt) (fs_sizes a1.toNatClampNeg).toInt.toNat a2.toInt.toNat by exact go_not (i := x119.toInt) (by omega) (by omega) (by omega) (by omega))⟩)), by rw [ht]; exact hP9, hD9⟩, hS.F ht⟩) hS.2.2 dX7_goesRound_48
abbrev w_c_X7_shortest (cI cJ cB cZ cO : ClassId) (qs : Nat) (qs_widths : Nat) (qs_sizes : Nat) (fs_sizes : Nat → Int32) (qs_numbers : Nat) (fs_numbers : Nat → Int64) : va_W := [(qs, .inr (7, [.ref qs_widths, .ref qs_sizes, .ref qs_numbers])), (qs_sizes, .inl (cI, 4, .inl (fs_sizes))), (qs_numbers, .inl (cJ, 240, .inr (.inl (fs_numbers))))]
set_option maxHeartbeats 4000000 in
set_option maxRecDepth 100000 in
/-- X7 shortest -/
theorem c_X7_shortest (l : Launch) (D : va_G) (G : ct_G) (cI cJ cB cZ cO : ClassId) (qs : Nat) (qs_widths : Nat) (qs_sizes : Nat) (fs_sizes : Nat → Int32) (qs_numbers : Nat) (fs_numbers : Nat → Int64) (a1 : Int32) (h_fs_sizes : ar_ok [(-1)] [60] fs_sizes) (h_a1 : 0 ≤ a1.toInt ∧ a1.toInt ≤ 3) (h_st : st_ok fs_numbers a1.toInt (fs_sizes a1.toNatClampNeg).toInt) (sz : Nat) : Met l yX7_shortest wsX7_shortest ({ frames := 3, cells := 0, slots := 0, locals := 71 }) (va_Pc [.ref qs, .int a1] (ct_P D (ct_T cI cJ cB cZ cO) G (w_c_X7_shortest cI cJ cB cZ cO qs qs_widths qs_sizes fs_sizes qs_numbers fs_numbers) sz)) (va_Qi (fun (rz : Int32) (u : Unit) => ((-1) ≤ rz.toInt ∧ rz.toInt ≤ 12) ∧ (HS (ra fs_numbers a1.toInt) (fs_sizes a1.toNatClampNeg).toInt.toNat rz.toInt)) (fun (u : Unit) t => ct_Q D (va_A (w_c_X7_shortest cI cJ cB cZ cO qs qs_widths qs_sizes fs_sizes qs_numbers fs_numbers) sz) [(qs, .inr (7, [.ref qs_widths, .ref qs_sizes, .ref qs_numbers])), (qs_sizes, .inl (cI, 4, .inl (fs_sizes))), (qs_numbers, .inl (cJ, 240, .inr (.inl (fs_numbers))))] t) (va_A (w_c_X7_shortest cI cJ cB cZ cO qs qs_widths qs_sizes fs_sizes qs_numbers fs_numbers) sz)) 0 0 (va_A (w_c_X7_shortest cI cJ cB cZ cO qs qs_widths qs_sizes fs_sizes qs_numbers fs_numbers) sz) := by
  refine Met.ofW (cc := cX7_shortest) (maxL := 3) (ret := (some .int)) (by decide) rfl ?_
  intro p e s m args below meth c s₁ B hml hv
  obtain ⟨rfl, hsz, hP, hE, hD0, hH⟩ := hv
  have hx := B.exec
  have hb := B.bytes
  have hr := B.returns
  have hts := atoms_spec (ws := wsX7_shortest) B.pre
  have hown : s.vm.findClass RX7 = some m.cls := findClass_of_methodNamed B.named
  have hlocks := B.notSynchronized
  have hK := hE.1
  subst hsz
  have hD := hD0.self (sz := s.heap.size)
  generalize hAe : va_A (w_c_X7_shortest cI cJ cB cZ cO qs qs_widths qs_sizes fs_sizes qs_numbers fs_numbers) s.heap.size = A at hD hH ⊢
  have hA : ∀ q : Nat, s.heap.size ≤ q → A q := fun q h => by rw [← hAe]; exact Or.inr h
  have hS : va_S A s.heap s.heap [] := va_S.rf
  obtain ⟨hP, hD⟩ : ct_B D A s.heap [(qs, .inr (7, [.ref qs_widths, .ref qs_sizes, .ref qs_numbers])), (qs_sizes, .inl (cI, 4, .inl (fs_sizes))), (qs_numbers, .inl (cJ, 240, .inr (.inl (fs_numbers))))] := ⟨hP, hD⟩
  have hl := lv_entry ([.ref qs, .int a1]) (n := 3) (Nat.le_of_ble_eq_true rfl)
  rw [lg_entry_eq]
  generalize (lg_sl ([.ref qs, .int a1]) ++ List.replicate (3 - (lg_sl ([.ref qs, .int a1])).length) Slot.unset).toArray = ls at hl ⊢
  have hl : lv_has ls 3 [(0, .ref qs), (1, .int a1)] := hl
  obtain ⟨H, hHe⟩ : ∃ H : Heap, H = s.heap := ⟨_, rfl⟩
  rw [← hHe] at hP
  have hS : va_S A s.heap H [] := by rw [hHe]; exact va_S.rf
  refine ct_start hHe ?_
  refine lv_iconst (v := 1) hx hb dX7_shortest_0 (by decide) ?_
  refine lv_istore_n (lv' := [(2, .int 1), (0, .ref qs), (1, .int a1)]) hx hb dX7_shortest_1 rfl hl (by decide) rfl (fun ls hl => ?_)
  refine ct_loop (X := Int32) (fun x => (13 - x.toInt).toNat) (fun x H locs ls => ((1 ≤ x.toInt ∧ x.toInt ≤ 13)) ∧ (hs_ok (ra fs_numbers a1.toInt) (fs_sizes a1.toNatClampNeg).toInt.toNat x.toInt) ∧ ct_B D A H [(qs, .inr (7, [.ref qs_widths, .ref qs_sizes, .ref qs_numbers])), (qs_sizes, .inl (cI, 4, .inl (fs_sizes))), (qs_numbers, .inl (cJ, 240, .inr (.inl (fs_numbers))))] ∧ va_S A s.heap H locs ∧ lv_has ls 3 [(2, .int x), (0, .ref qs), (1, .int a1)]) 2 (1 : Int32) ⟨(show 1 ≤ (1 : Int32).toInt ∧ (1 : Int32).toInt ≤ 13 by decide), (show hs_ok (ra fs_numbers a1.toInt) (fs_sizes a1.toNatClampNeg).toInt.toNat (1 : Int32).toInt by exact hs_1 (by decide)), ⟨hP, hD⟩, hS, lv_sub hl [0, 1, 2] rfl⟩ (fun x ih47 H locs ls hI => ?_)
  obtain ⟨x46, rfl⟩ : ∃ z, z = x := ⟨_, rfl⟩
  obtain ⟨h_x46, he0, ⟨hP, hD⟩, hS, hl⟩ := hI
  have h_x46 : (1 ≤ x46.toInt ∧ x46.toInt ≤ 13) := h_x46
  have he0 : hs_ok (ra fs_numbers a1.toInt) (fs_sizes a1.toNatClampNeg).toInt.toNat x46.toInt := he0
  obtain ⟨hP, hD⟩ : ct_B D A H [(qs, .inr (7, [.ref qs_widths, .ref qs_sizes, .ref qs_numbers])), (qs_sizes, .inl (cI, 4, .inl (fs_sizes))), (qs_numbers, .inl (cJ, 240, .inr (.inl (fs_numbers))))] := ⟨hP, hD⟩
  have hl : lv_has ls 3 [(2, .int x46), (0, .ref qs), (1, .int a1)] := hl
  refine lv_iload_n hx hb dX7_shortest_2 rfl (lv_at hl 0 rfl) ?_
  refine lv_bipush (v := 12) hx hb dX7_shortest_3 (by decide) ?_
  refine lv_icmp_gt (tgt := 25) hx hb dX7_shortest_5 (by decide) (fun hc => ?_) (fun hc => ?_)
  · have hq48 : 12 < x46.toInt := tq_lt (by decide) rfl hc
    refine lv_iconst (v := (-1)) hx hb dX7_shortest_25 (by decide) ?_
    have hk49 : (-1 : Int32).toInt = (-1) := by decide
    obtain ⟨hP9, hD9⟩ : ct_B D A H [(qs, .inr (7, [.ref qs_widths, .ref qs_sizes, .ref qs_numbers])), (qs_sizes, .inl (cI, 4, .inl (fs_sizes))), (qs_numbers, .inl (cJ, 240, .inr (.inl (fs_numbers))))] := ⟨hP.sub [0, 1, 2] rfl, hD.sub [0, 1, 2] (by decide) rfl⟩
    exact W.iret (v := (-1)) hx hb hr (fun t ht hW => ⟨⟨(-1), (), rfl, ⟨(show (-1) ≤ (-1 : Int32).toInt ∧ (-1 : Int32).toInt ≤ 12 by decide), (show HS (ra fs_numbers a1.toInt) (fs_sizes a1.toNatClampNeg).toInt.toNat (-1 : Int32).toInt by exact HS_out he0 (by omega) (by decide))⟩, by rw [ht]; exact hP9, hD9⟩, hS.F ht⟩) hS.2.2 dX7_shortest_26
  · have hq48 : x46.toInt ≤ 12 := tq_nlt (by decide) rfl hc
    refine lv_aload_n hx hb dX7_shortest_8 rfl (lv_at hl 1 rfl) ?_
    refine lv_iload_n hx hb dX7_shortest_9 rfl (lv_at hl 2 rfl) ?_
    refine lv_iload_n hx hb dX7_shortest_10 rfl (lv_at hl 0 rfl) ?_
    refine ct_calli (D := D) (wr := []) (va_runV (As := [.int a1, .int x46]) (rest := []) ⟨hx, hb, hml, hown, hts⟩ (c_X7_goesRound l D G cI cJ cB cZ cO qs qs_widths qs_sizes fs_sizes qs_numbers fs_numbers a1 x46 h_fs_sizes h_a1 (by omega) h_st H.size) (cwV 2 hts gX7_shortest_X7_goesRound rfl rfl rfl (by decide +kernel) ⟨Nat.le_of_ble_eq_true rfl, Nat.le_of_ble_eq_true rfl⟩) (ct_preV (T := ct_T cI cJ cB cZ cO) (ci := 7) (q0 := 0) hE hH hP hD hS hA [0, 1, 2] (by decide) rfl rfl rfl) rfl rfl hl.1 rfl (lv_room (Nat.le_of_ble_eq_true rfl)) dX7_shortest_11 ⟨Nat.le_of_ble_eq_true rfl, Nat.le_of_ble_eq_true rfl⟩) hP hD hS hA [0, 1, 2] [] rfl rfl (by decide) (by decide) (fun r50 u H locs hw hP hD hS => ?_)
    obtain ⟨hP, hD⟩ : ct_B D A H [(qs, .inr (7, [.ref qs_widths, .ref qs_sizes, .ref qs_numbers])), (qs_sizes, .inl (cI, 4, .inl (fs_sizes))), (qs_numbers, .inl (cJ, 240, .inr (.inl (fs_numbers))))] := ⟨hP, hD⟩
    have hz := hw
    rcases hz with ⟨hz, hz2⟩ | ⟨hz, hz2⟩
    · subst hz
      have hz_51 : gr (ra fs_numbers a1.toInt) (fs_sizes a1.toNatClampNeg).toInt.toNat x46.toInt.toNat := hz2
      refine lv_if_eq (tgt := 19) hx hb dX7_shortest_14 (by decide) (fun hc => absurd hc (by decide)) (fun _ => ?_)
      refine lv_iload_n hx hb dX7_shortest_17 rfl (lv_at hl 0 rfl) ?_
      obtain ⟨hP9, hD9⟩ : ct_B D A H [(qs, .inr (7, [.ref qs_widths, .ref qs_sizes, .ref qs_numbers])), (qs_sizes, .inl (cI, 4, .inl (fs_sizes))), (qs_numbers, .inl (cJ, 240, .inr (.inl (fs_numbers))))] := ⟨hP.sub [0, 1, 2] rfl, hD.sub [0, 1, 2] (by decide) rfl⟩
      exact W.iret (v := x46) hx hb hr (fun t ht hW => ⟨⟨x46, (), rfl, ⟨(show (-1) ≤ x46.toInt ∧ x46.toInt ≤ 12 by omega), (show HS (ra fs_numbers a1.toInt) (fs_sizes a1.toNatClampNeg).toInt.toNat x46.toInt by exact HS_in he0 (by omega) (by omega) hz_51)⟩, by rw [ht]; exact hP9, hD9⟩, hS.F ht⟩) hS.2.2 dX7_shortest_18
    · subst hz
      have hz_52 : ¬ gr (ra fs_numbers a1.toInt) (fs_sizes a1.toNatClampNeg).toInt.toNat x46.toInt.toNat := hz2
      refine lv_if_eq (tgt := 19) hx hb dX7_shortest_14 (by decide) (fun _ => ?_) (fun hc => absurd hc (by decide))
      obtain ⟨z53, ez53⟩ : ∃ z : Int32, z = x46 + 1 := ⟨_, rfl⟩
      have fz53 : z53.toInt = x46.toInt + 1 := by rw [ez53]; exact tq_add rfl (by decide) (by omega)
      refine lv_iinc (v := z53) (lv' := [(2, .int z53), (0, .ref qs), (1, .int a1)]) hx hb dX7_shortest_19 hl (k := 0) rfl ez53.symm (by decide) rfl (fun ls hl => ?_)
      refine lv_goto (tgt := 2) hx hb dX7_shortest_22 (by decide) ?_
      exact ih47 z53 _ _ _ (show (13 - z53.toInt).toNat < (13 - x46.toInt).toNat by omega) ⟨(show 1 ≤ z53.toInt ∧ z53.toInt ≤ 13 by omega), (show hs_ok (ra fs_numbers a1.toInt) (fs_sizes a1.toNatClampNeg).toInt.toNat z53.toInt by exact hs_step he0 (by omega) hz_52 (by omega)), ⟨hP, hD⟩, hS, lv_sub hl [0, 1, 2] rfl⟩
abbrev w_c_X7_refusalOfSteps (cI cJ cB cZ cO : ClassId) (qs : Nat) (qs_widths : Nat) (qs_sizes : Nat) (fs_sizes : Nat → Int32) (qs_numbers : Nat) (fs_numbers : Nat → Int64) : va_W := [(qs, .inr (7, [.ref qs_widths, .ref qs_sizes, .ref qs_numbers])), (qs_sizes, .inl (cI, 4, .inl (fs_sizes))), (qs_numbers, .inl (cJ, 240, .inr (.inl (fs_numbers))))]
set_option maxHeartbeats 4000000 in
set_option maxRecDepth 100000 in
/-- X7 refusalOfSteps -/
theorem c_X7_refusalOfSteps (l : Launch) (D : va_G) (G : ct_G) (cI cJ cB cZ cO : ClassId) (qs : Nat) (qs_widths : Nat) (qs_sizes : Nat) (fs_sizes : Nat → Int32) (qs_numbers : Nat) (fs_numbers : Nat → Int64) (a1 : Int32) (h_fs_sizes : ar_ok [(-1)] [60] fs_sizes) (sz : Nat) : Met l yX7_refusalOfSteps wsX7_refusalOfSteps ({ frames := 2, cells := 0, slots := 0, locals := 46 }) (va_Pc [.ref qs, .int a1] (ct_P D (ct_T cI cJ cB cZ cO) G (w_c_X7_refusalOfSteps cI cJ cB cZ cO qs qs_widths qs_sizes fs_sizes qs_numbers fs_numbers) sz)) (va_Qi (fun (rz : Int32) (u : Unit) => ((rz = 0 ∧ ((0 ≤ a1.toInt ∧ a1.toInt < 4) ∧ ((fs_sizes a1.toNatClampNeg).toInt ≠ -1) ∧ st_ok fs_numbers a1.toInt (fs_sizes a1.toNatClampNeg).toInt)) ∨ (rz = (-6) ∧ ((0 ≤ a1.toInt ∧ a1.toInt < 4) ∧ ¬ ((fs_sizes a1.toNatClampNeg).toInt ≠ -1))) ∨ (rz = (-2) ∧ (¬ (0 ≤ a1.toInt ∧ a1.toInt < 4) ∨ ((0 ≤ a1.toInt ∧ a1.toInt < 4) ∧ ((fs_sizes a1.toNatClampNeg).toInt ≠ -1) ∧ ¬ st_ok fs_numbers a1.toInt (fs_sizes a1.toNatClampNeg).toInt))))) (fun (u : Unit) t => ct_Q D (va_A (w_c_X7_refusalOfSteps cI cJ cB cZ cO qs qs_widths qs_sizes fs_sizes qs_numbers fs_numbers) sz) [(qs, .inr (7, [.ref qs_widths, .ref qs_sizes, .ref qs_numbers])), (qs_sizes, .inl (cI, 4, .inl (fs_sizes))), (qs_numbers, .inl (cJ, 240, .inr (.inl (fs_numbers))))] t) (va_A (w_c_X7_refusalOfSteps cI cJ cB cZ cO qs qs_widths qs_sizes fs_sizes qs_numbers fs_numbers) sz)) 0 0 (va_A (w_c_X7_refusalOfSteps cI cJ cB cZ cO qs qs_widths qs_sizes fs_sizes qs_numbers fs_numbers) sz) := by
  refine Met.ofW (cc := cX7_refusalOfSteps) (maxL := 3) (ret := (some .int)) (by decide) rfl ?_
  intro p e s m args below meth c s₁ B hml hv
  obtain ⟨rfl, hsz, hP, hE, hD0, hH⟩ := hv
  have hx := B.exec
  have hb := B.bytes
  have hr := B.returns
  have hts := atoms_spec (ws := wsX7_refusalOfSteps) B.pre
  have hown : s.vm.findClass RX7 = some m.cls := findClass_of_methodNamed B.named
  have hlocks := B.notSynchronized
  have hK := hE.1
  have hi7 : ∀ w ∈ u_ws RX7 TX7 3, w ∈ wsX7_refusalOfSteps := fun w h => List.mem_cons_of_mem _ (List.mem_append_right _ h)
  subst hsz
  have hD := hD0.self (sz := s.heap.size)
  generalize hAe : va_A (w_c_X7_refusalOfSteps cI cJ cB cZ cO qs qs_widths qs_sizes fs_sizes qs_numbers fs_numbers) s.heap.size = A at hD hH ⊢
  have hA : ∀ q : Nat, s.heap.size ≤ q → A q := fun q h => by rw [← hAe]; exact Or.inr h
  have hS : va_S A s.heap s.heap [] := va_S.rf
  obtain ⟨hP, hD⟩ : ct_B D A s.heap [(qs, .inr (7, [.ref qs_widths, .ref qs_sizes, .ref qs_numbers])), (qs_sizes, .inl (cI, 4, .inl (fs_sizes))), (qs_numbers, .inl (cJ, 240, .inr (.inl (fs_numbers))))] := ⟨hP, hD⟩
  have hl := lv_entry ([.ref qs, .int a1]) (n := 3) (Nat.le_of_ble_eq_true rfl)
  rw [lg_entry_eq]
  generalize (lg_sl ([.ref qs, .int a1]) ++ List.replicate (3 - (lg_sl ([.ref qs, .int a1])).length) Slot.unset).toArray = ls at hl ⊢
  have hl : lv_has ls 3 [(0, .ref qs), (1, .int a1)] := hl
  obtain ⟨H, hHe⟩ : ∃ H : Heap, H = s.heap := ⟨_, rfl⟩
  rw [← hHe] at hP
  have hS : va_S A s.heap H [] := by rw [hHe]; exact va_S.rf
  refine ct_start hHe ?_
  refine lv_iload_n hx hb dX7_refusalOfSteps_0 rfl (lv_at hl 1 rfl) ?_
  refine ct_calli (D := D) (wr := [(qs, .inr (7, [.ref qs_widths, .ref qs_sizes, .ref qs_numbers])), (qs_sizes, .inl (cI, 4, .inl (fs_sizes))), (qs_numbers, .inl (cJ, 240, .inr (.inl (fs_numbers))))]) (va_runS (As := [.int a1]) (rest := []) ⟨hx, hb, hml, hown, hts⟩ (c_X7_isSlot l D G cI cJ cB cZ cO a1  H.size) (va_cwS 1 hts gX7_refusalOfSteps_X7_isSlot rfl rfl rfl (by decide +kernel) ⟨Nat.le_of_ble_eq_true rfl, Nat.le_of_ble_eq_true rfl⟩) (ct_preS (T := ct_T cI cJ cB cZ cO) hE hH hP hD hS hA [] (by decide) rfl) rfl rfl hl.1 rfl (lv_room (Nat.le_of_ble_eq_true rfl)) dX7_refusalOfSteps_1 ⟨Nat.le_of_ble_eq_true rfl, Nat.le_of_ble_eq_true rfl⟩) hP hD hS hA [] [0, 1, 2] rfl rfl (by decide) (by decide) (fun r1 u H locs hw hP hD hS => ?_)
  obtain ⟨hP, hD⟩ : ct_B D A H [(qs, .inr (7, [.ref qs_widths, .ref qs_sizes, .ref qs_numbers])), (qs_sizes, .inl (cI, 4, .inl (fs_sizes))), (qs_numbers, .inl (cJ, 240, .inr (.inl (fs_numbers))))] := ⟨hP, hD⟩
  have hz := hw
  rcases hz with ⟨hz, hz2⟩ | ⟨hz, hz2⟩
  · subst hz
    have hz_2 : (0 ≤ a1.toInt ∧ a1.toInt < 4) := hz2
    refine lv_if_ne (tgt := 10) hx hb dX7_refusalOfSteps_4 (by decide) (fun _ => ?_) (fun hc => absurd hc (by decide))
    refine lv_aload_n hx hb dX7_refusalOfSteps_10 rfl (lv_at hl 0 rfl) ?_
    refine lv_iload_n hx hb dX7_refusalOfSteps_11 rfl (lv_at hl 1 rfl) ?_
    refine ct_calli (D := D) (wr := [(qs_numbers, .inl (cJ, 240, .inr (.inl (fs_numbers))))]) (va_runV (As := [.int a1]) (rest := []) ⟨hx, hb, hml, hown, hts⟩ (c_X7_has l D G cI cJ cB cZ cO qs qs_widths qs_sizes fs_sizes qs_numbers a1 h_fs_sizes (by omega) H.size) (cwV 1 hts gX7_refusalOfSteps_X7_has rfl rfl rfl (by decide +kernel) ⟨Nat.le_of_ble_eq_true rfl, Nat.le_of_ble_eq_true rfl⟩) (ct_preV (T := ct_T cI cJ cB cZ cO) (ci := 7) (q0 := 0) hE hH hP hD hS hA [0, 1] (by decide) rfl rfl rfl) rfl rfl hl.1 rfl (lv_room (Nat.le_of_ble_eq_true rfl)) dX7_refusalOfSteps_12 ⟨Nat.le_of_ble_eq_true rfl, Nat.le_of_ble_eq_true rfl⟩) hP hD hS hA [0, 1] [2] rfl rfl (by decide) (by decide) (fun r3 u H locs hw hP hD hS => ?_)
    obtain ⟨hP, hD⟩ : ct_B D A H [(qs_numbers, .inl (cJ, 240, .inr (.inl (fs_numbers)))), (qs, .inr (7, [.ref qs_widths, .ref qs_sizes, .ref qs_numbers])), (qs_sizes, .inl (cI, 4, .inl (fs_sizes)))] := ⟨hP, hD⟩
    have hz := hw
    rcases hz with ⟨hz, hz2⟩ | ⟨hz, hz2⟩
    · subst hz
      have hz_4 : ((fs_sizes a1.toNatClampNeg).toInt ≠ -1) := hz2
      refine lv_if_ne (tgt := 21) hx hb dX7_refusalOfSteps_15 (by decide) (fun _ => ?_) (fun hc => absurd hc (by decide))
      refine lv_iconst (v := 0) hx hb dX7_refusalOfSteps_21 (by decide) ?_
      refine lv_istore_n (lv' := [(2, .int 0), (0, .ref qs), (1, .int a1)]) hx hb dX7_refusalOfSteps_22 rfl hl (by decide) rfl (fun ls hl => ?_)
      refine ct_loop (X := Int32) (fun x => (60 - x.toInt).toNat) (fun x H locs ls => ((0 ≤ x.toInt ∧ x.toInt ≤ 60)) ∧ (st_ok fs_numbers a1.toInt x.toInt) ∧ ct_B D A H [(qs_numbers, .inl (cJ, 240, .inr (.inl (fs_numbers)))), (qs, .inr (7, [.ref qs_widths, .ref qs_sizes, .ref qs_numbers])), (qs_sizes, .inl (cI, 4, .inl (fs_sizes)))] ∧ va_S A s.heap H locs ∧ lv_has ls 3 [(2, .int x), (0, .ref qs), (1, .int a1)]) 23 (0 : Int32) ⟨(show 0 ≤ (0 : Int32).toInt ∧ (0 : Int32).toInt ≤ 60 by decide), (show st_ok fs_numbers a1.toInt (0 : Int32).toInt by exact st_0 (by decide)), ⟨hP, hD⟩, hS, lv_sub hl [0, 1, 2] rfl⟩ (fun x ih76 H locs ls hI => ?_)
      obtain ⟨x75, rfl⟩ : ∃ z, z = x := ⟨_, rfl⟩
      obtain ⟨h_x75, he0, ⟨hP, hD⟩, hS, hl⟩ := hI
      have h_x75 : (0 ≤ x75.toInt ∧ x75.toInt ≤ 60) := h_x75
      have he0 : st_ok fs_numbers a1.toInt x75.toInt := he0
      obtain ⟨hP, hD⟩ : ct_B D A H [(qs_numbers, .inl (cJ, 240, .inr (.inl (fs_numbers)))), (qs, .inr (7, [.ref qs_widths, .ref qs_sizes, .ref qs_numbers])), (qs_sizes, .inl (cI, 4, .inl (fs_sizes)))] := ⟨hP, hD⟩
      have hl : lv_has ls 3 [(2, .int x75), (0, .ref qs), (1, .int a1)] := hl
      refine lv_iload_n hx hb dX7_refusalOfSteps_23 rfl (lv_at hl 0 rfl) ?_
      refine lv_aload_n hx hb dX7_refusalOfSteps_24 rfl (lv_at hl 1 rfl) ?_
      refine va_get (D := D) (ci := 7) (v := .ref qs_sizes) (C := RX7) (T := TX7) (N := 3) hx hb hts hi7 hown hK hP 1 rfl rfl 1 (by decide) (hts (.fieldLink RX7 15 "OverHill$Slots" "sizes" "[I") (by decide +kernel)) (fun _ h9 => h9) rfl dX7_refusalOfSteps_25 ?_
      refine lv_iload_n hx hb dX7_refusalOfSteps_28 rfl (lv_at hl 2 rfl) ?_
      refine va_iald (D := D) hx hb hK hP 2 0 rfl rfl (tq_in rfl (by omega)) dX7_refusalOfSteps_29 ?_
      refine lv_topi (fun z77 ez77 => ?_)
      have fz77 : (-1) ≤ z77.toInt ∧ z77.toInt ≤ 60 := by rw [ez77]; exact ar_get h_fs_sizes a1 0 (by omega) (show a1.toInt % 1 = 0 by omega) rfl
      have gz77 : z77.toInt = (fs_sizes a1.toNatClampNeg).toInt := by rw [ez77]
      refine lv_icmp_ge (tgt := 54) hx hb dX7_refusalOfSteps_30 (by decide) (fun hc => ?_) (fun hc => ?_)
      · have hq78 : z77.toInt ≤ x75.toInt := tq_le rfl rfl hc
        refine lv_iconst (v := 0) hx hb dX7_refusalOfSteps_54 (by decide) ?_
        obtain ⟨hP9, hD9⟩ : ct_B D A H [(qs, .inr (7, [.ref qs_widths, .ref qs_sizes, .ref qs_numbers])), (qs_sizes, .inl (cI, 4, .inl (fs_sizes))), (qs_numbers, .inl (cJ, 240, .inr (.inl (fs_numbers))))] := ⟨hP.sub [1, 2, 0] rfl, hD.sub [1, 2, 0] (by decide) rfl⟩
        exact W.iret (v := 0) hx hb hr (fun t ht hW => ⟨⟨0, (), rfl, (Or.inl ⟨rfl, (show ((0 ≤ a1.toInt ∧ a1.toInt < 4) ∧ ((fs_sizes a1.toNatClampNeg).toInt ≠ -1) ∧ st_ok fs_numbers a1.toInt (fs_sizes a1.toNatClampNeg).toInt) by exact ⟨by omega, by omega, st_le he0 (by omega)⟩)⟩), by rw [ht]; exact hP9, hD9⟩, hS.F ht⟩) hS.2.2 dX7_refusalOfSteps_55
      · have hq78 : x75.toInt < z77.toInt := tq_nle rfl rfl hc
        refine lv_aload_n hx hb dX7_refusalOfSteps_33 rfl (lv_at hl 1 rfl) ?_
        refine lv_iload_n hx hb dX7_refusalOfSteps_34 rfl (lv_at hl 2 rfl) ?_
        refine lv_iload_n hx hb dX7_refusalOfSteps_35 rfl (lv_at hl 0 rfl) ?_
        refine ct_calll (D := D) (wr := [(qs_sizes, .inl (cI, 4, .inl (fs_sizes)))]) (va_runV (As := [.int a1, .int x75]) (rest := []) ⟨hx, hb, hml, hown, hts⟩ (c_X7_at l D G cI cJ cB cZ cO qs qs_widths qs_sizes qs_numbers fs_numbers a1 x75 (by omega) (by omega) H.size) (cwV 2 hts gX7_refusalOfSteps_X7_at rfl rfl rfl (by decide +kernel) ⟨Nat.le_of_ble_eq_true rfl, Nat.le_of_ble_eq_true rfl⟩) (ct_preV (T := ct_T cI cJ cB cZ cO) (ci := 7) (q0 := 1) hE hH hP hD hS hA [1, 0] (by decide) rfl rfl rfl) rfl rfl hl.1 rfl (lv_room (Nat.le_of_ble_eq_true rfl)) dX7_refusalOfSteps_36 ⟨Nat.le_of_ble_eq_true rfl, Nat.le_of_ble_eq_true rfl⟩) hP hD hS hA [1, 0] [2] rfl rfl (by decide) (by decide) (fun r79 u H locs hw hP hD hS => ?_)
        obtain ⟨hP, hD⟩ : ct_B D A H [(qs_sizes, .inl (cI, 4, .inl (fs_sizes))), (qs, .inr (7, [.ref qs_widths, .ref qs_sizes, .ref qs_numbers])), (qs_numbers, .inl (cJ, 240, .inr (.inl (fs_numbers))))] := ⟨hP, hD⟩
        have hp0 := hw
        have hp_80 : r79 = fs_numbers (60 * a1.toInt + x75.toInt).toNat := hp0
        have hh81 : ra fs_numbers a1.toInt x75.toInt.toNat = r79.toInt := ra_at (by omega) hp_80
        refine ct_calli (D := D) (wr := [(qs_sizes, .inl (cI, 4, .inl (fs_sizes))), (qs, .inr (7, [.ref qs_widths, .ref qs_sizes, .ref qs_numbers])), (qs_numbers, .inl (cJ, 240, .inr (.inl (fs_numbers))))]) (va_runS (As := [.long r79]) (rest := []) ⟨hx, hb, hml, hown, hts⟩ (c_X7_isTold l D G cI cJ cB cZ cO r79  H.size) (va_cwS 1 hts gX7_refusalOfSteps_X7_isTold rfl rfl rfl (by decide +kernel) ⟨Nat.le_of_ble_eq_true rfl, Nat.le_of_ble_eq_true rfl⟩) (ct_preS (T := ct_T cI cJ cB cZ cO) hE hH hP hD hS hA [] (by decide) rfl) rfl rfl hl.1 rfl (lv_room (Nat.le_of_ble_eq_true rfl)) dX7_refusalOfSteps_39 ⟨Nat.le_of_ble_eq_true rfl, Nat.le_of_ble_eq_true rfl⟩) hP hD hS hA [] [0, 1, 2] rfl rfl (by decide) (by decide) (fun r82 u H locs hw hP hD hS => ?_)
        obtain ⟨hP, hD⟩ : ct_B D A H [(qs_sizes, .inl (cI, 4, .inl (fs_sizes))), (qs, .inr (7, [.ref qs_widths, .ref qs_sizes, .ref qs_numbers])), (qs_numbers, .inl (cJ, 240, .inr (.inl (fs_numbers))))] := ⟨hP, hD⟩
        have hz := hw
        rcases hz with ⟨hz, hz2⟩ | ⟨hz, hz2⟩
        · subst hz
          have hz_83 : (-1 ≤ r79.toInt ∧ r79.toInt ≤ 5) := hz2
          refine lv_if_ne (tgt := 48) hx hb dX7_refusalOfSteps_42 (by decide) (fun _ => ?_) (fun hc => absurd hc (by decide))
          obtain ⟨z84, ez84⟩ : ∃ z : Int32, z = x75 + 1 := ⟨_, rfl⟩
          have fz84 : z84.toInt = x75.toInt + 1 := by rw [ez84]; exact tq_add rfl (by decide) (by omega)
          refine lv_iinc (v := z84) (lv' := [(2, .int z84), (0, .ref qs), (1, .int a1)]) hx hb dX7_refusalOfSteps_48 hl (k := 0) rfl ez84.symm (by decide) rfl (fun ls hl => ?_)
          refine lv_goto (tgt := 23) hx hb dX7_refusalOfSteps_51 (by decide) ?_
          obtain ⟨hP9, hD9⟩ : ct_B D A H [(qs_numbers, .inl (cJ, 240, .inr (.inl (fs_numbers)))), (qs, .inr (7, [.ref qs_widths, .ref qs_sizes, .ref qs_numbers])), (qs_sizes, .inl (cI, 4, .inl (fs_sizes)))] := ⟨hP.sub [2, 1, 0] rfl, hD.sub [2, 1, 0] (by decide) rfl⟩
          exact ih76 z84 _ _ _ (show (60 - z84.toInt).toNat < (60 - x75.toInt).toNat by omega) ⟨(show 0 ≤ z84.toInt ∧ z84.toInt ≤ 60 by omega), (show st_ok fs_numbers a1.toInt z84.toInt by exact st_step he0 (by omega) (by omega) (by omega)), ⟨hP9, hD9⟩, hS, lv_sub hl [0, 1, 2] rfl⟩
        · subst hz
          have hz_85 : ¬ (-1 ≤ r79.toInt ∧ r79.toInt ≤ 5) := hz2
          refine lv_if_ne (tgt := 48) hx hb dX7_refusalOfSteps_42 (by decide) (fun hc => absurd hc (by decide)) (fun _ => ?_)
          refine lv_bipush (v := (-2)) hx hb dX7_refusalOfSteps_45 (by decide) ?_
          obtain ⟨hP9, hD9⟩ : ct_B D A H [(qs, .inr (7, [.ref qs_widths, .ref qs_sizes, .ref qs_numbers])), (qs_sizes, .inl (cI, 4, .inl (fs_sizes))), (qs_numbers, .inl (cJ, 240, .inr (.inl (fs_numbers))))] := ⟨hP.sub [1, 0, 2] rfl, hD.sub [1, 0, 2] (by decide) rfl⟩
          exact W.iret (v := (-2)) hx hb hr (fun t ht hW => ⟨⟨(-2), (), rfl, (Or.inr (Or.inr (⟨rfl, (show (¬ (0 ≤ a1.toInt ∧ a1.toInt < 4) ∨ ((0 ≤ a1.toInt ∧ a1.toInt < 4) ∧ ((fs_sizes a1.toNatClampNeg).toInt ≠ -1) ∧ ¬ st_ok fs_numbers a1.toInt (fs_sizes a1.toNatClampNeg).toInt)) by exact Or.inr ⟨by omega, by omega, st_not (i := x75.toInt) (by omega) (by omega) (by omega)⟩)⟩))), by rw [ht]; exact hP9, hD9⟩, hS.F ht⟩) hS.2.2 dX7_refusalOfSteps_47
    · subst hz
      have hz_86 : ¬ ((fs_sizes a1.toNatClampNeg).toInt ≠ -1) := hz2
      refine lv_if_ne (tgt := 21) hx hb dX7_refusalOfSteps_15 (by decide) (fun hc => absurd hc (by decide)) (fun _ => ?_)
      refine lv_bipush (v := (-6)) hx hb dX7_refusalOfSteps_18 (by decide) ?_
      obtain ⟨hP9, hD9⟩ : ct_B D A H [(qs, .inr (7, [.ref qs_widths, .ref qs_sizes, .ref qs_numbers])), (qs_sizes, .inl (cI, 4, .inl (fs_sizes))), (qs_numbers, .inl (cJ, 240, .inr (.inl (fs_numbers))))] := ⟨hP.sub [1, 2, 0] rfl, hD.sub [1, 2, 0] (by decide) rfl⟩
      exact W.iret (v := (-6)) hx hb hr (fun t ht hW => ⟨⟨(-6), (), rfl, (Or.inr (Or.inl ⟨rfl, (show ((0 ≤ a1.toInt ∧ a1.toInt < 4) ∧ ¬ ((fs_sizes a1.toNatClampNeg).toInt ≠ -1)) by exact ⟨by omega, by omega⟩)⟩)), by rw [ht]; exact hP9, hD9⟩, hS.F ht⟩) hS.2.2 dX7_refusalOfSteps_20
  · subst hz
    have hz_87 : ¬ (0 ≤ a1.toInt ∧ a1.toInt < 4) := hz2
    refine lv_if_ne (tgt := 10) hx hb dX7_refusalOfSteps_4 (by decide) (fun hc => absurd hc (by decide)) (fun _ => ?_)
    refine lv_bipush (v := (-2)) hx hb dX7_refusalOfSteps_7 (by decide) ?_
    obtain ⟨hP9, hD9⟩ : ct_B D A H [(qs, .inr (7, [.ref qs_widths, .ref qs_sizes, .ref qs_numbers])), (qs_sizes, .inl (cI, 4, .inl (fs_sizes))), (qs_numbers, .inl (cJ, 240, .inr (.inl (fs_numbers))))] := ⟨hP.sub [0, 1, 2] rfl, hD.sub [0, 1, 2] (by decide) rfl⟩
    exact W.iret (v := (-2)) hx hb hr (fun t ht hW => ⟨⟨(-2), (), rfl, (Or.inr (Or.inr (⟨rfl, (show (¬ (0 ≤ a1.toInt ∧ a1.toInt < 4) ∨ ((0 ≤ a1.toInt ∧ a1.toInt < 4) ∧ ((fs_sizes a1.toNatClampNeg).toInt ≠ -1) ∧ ¬ st_ok fs_numbers a1.toInt (fs_sizes a1.toNatClampNeg).toInt)) by exact Or.inl (by omega))⟩))), by rw [ht]; exact hP9, hD9⟩, hS.F ht⟩) hS.2.2 dX7_refusalOfSteps_9
