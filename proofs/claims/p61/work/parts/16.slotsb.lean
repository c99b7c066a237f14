abbrev w_c_X7_isSlot (cI cJ cB cZ cO : ClassId)  : va_W := []
set_option maxHeartbeats 4000000 in
set_option maxRecDepth 100000 in
/-- X7 isSlot -/
theorem c_X7_isSlot (l : Launch) (D : va_G) (G : ct_G) (cI cJ cB cZ cO : ClassId) (v : Int32)  (sz : Nat) : Met l yX7_isSlot wsX7_isSlot ({ frames := 1, cells := 0, slots := 0, locals := 21 }) (va_Pc [.int v] (ct_P D (ct_T cI cJ cB cZ cO) G (w_c_X7_isSlot cI cJ cB cZ cO ) sz)) (va_Qi (fun (rz : Int32) (u : Unit) => ((rz = 1 ∧ (0 ≤ v.toInt ∧ v.toInt < 4)) ∨ (rz = 0 ∧ ¬ (0 ≤ v.toInt ∧ v.toInt < 4)))) (fun (u : Unit) t => ct_Q D (va_A (w_c_X7_isSlot cI cJ cB cZ cO ) sz) [] t) (va_A (w_c_X7_isSlot cI cJ cB cZ cO ) sz)) 0 0 (va_A (w_c_X7_isSlot cI cJ cB cZ cO ) sz) := by
  refine Met.ofW (cc := cX7_isSlot) (maxL := 1) (ret := (some .boolean)) (by decide) rfl ?_
  intro p e s m args below meth c s₁ B hml hv
  obtain ⟨rfl, hsz, hP, hE, hD0, hH⟩ := hv
  have hx := B.exec
  have hb := B.bytes
  have hr := B.returns
  have hts := atoms_spec (ws := wsX7_isSlot) B.pre
  have hown : s.vm.findClass RX7 = some m.cls := findClass_of_methodNamed B.named
  have hlocks := B.notSynchronized
  have hK := hE.1
  subst hsz
  have hD := hD0.self (sz := s.heap.size)
  generalize hAe : va_A (w_c_X7_isSlot cI cJ cB cZ cO ) s.heap.size = A at hD hH ⊢
  have hA : ∀ q : Nat, s.heap.size ≤ q → A q := fun q h => by rw [← hAe]; exact Or.inr h
  have hS : va_S A s.heap s.heap [] := va_S.rf
  have hP : va_P D vwCl [] s.heap := hP
  have hD : va_D A [] := hD
  have hl := lv_entry ([.int v]) (n := 1) (Nat.le_of_ble_eq_true rfl)
  rw [lg_entry_eq]
  generalize (lg_sl ([.int v]) ++ List.replicate (1 - (lg_sl ([.int v])).length) Slot.unset).toArray = ls at hl ⊢
  have hl : lv_has ls 1 [(0, .int v)] := hl
  obtain ⟨H, hHe⟩ : ∃ H : Heap, H = s.heap := ⟨_, rfl⟩
  rw [← hHe] at hP
  have hS : va_S A s.heap H [] := by rw [hHe]; exact va_S.rf
  refine ct_start hHe ?_
  refine lv_iload_n hx hb dX7_isSlot_0 rfl (lv_at hl 0 rfl) ?_
  refine lv_iconst (v := 4) hx hb dX7_isSlot_1 (by decide) ?_
  refine ct_calli (D := D) (wc := (w_c_X11_isWithin cI cJ cB cZ cO )) (wr := []) (va_runSN (As := [.int v, .int 4]) (rest := []) ⟨hx, hb, hml, hown, hts⟩ (c_X11_isWithin l D G cI cJ cB cZ cO v 4  H.size) ⟨va_cnB 2 hts gX7_isSlot_X11_isWithin_n22 rfl rfl rfl (hE.2.1 (RX7, 22, yX11_isWithin, "OverHill") (List.mem_of_getElem? (i := 15) rfl)) (hts (.initialized RX11) (by decide +kernel)) (by decide +kernel) ⟨Nat.le_of_ble_eq_true rfl, Nat.le_of_ble_eq_true rfl⟩, (hts (.static yX11_isWithin) (by decide +kernel)), trivial⟩ (ct_preS (T := ct_T cI cJ cB cZ cO) hE hH hP hD hS hA [] (by decide) rfl) rfl rfl hl.1 rfl (lv_room (Nat.le_of_ble_eq_true rfl)) dX7_isSlot_2 ⟨Nat.le_of_ble_eq_true rfl, Nat.le_of_ble_eq_true rfl⟩) hP hD hS hA [] [] rfl rfl (by decide) (by decide) (fun r1 u H locs hw hP hD hS => ?_)
  have hP : va_P D vwCl [] H := hP
  have hD : va_D A [] := hD
  have hk2 : (4 : Int32).toInt = 4 := by decide
  have hz := hw
  rcases hz with ⟨hz, hz2⟩ | ⟨hz, hz2⟩
  · subst hz
    have hz_3 : (0 ≤ v.toInt ∧ v.toInt < (4 : Int32).toInt) := hz2
    have hP9 := hP.sub (ws' := []) [] rfl
    have hD9 := hD.sub (ws' := []) [] (by decide) rfl
    exact W.zret (v := 1) (ty := .boolean) hx hb hr rfl (fun t ht hW => ⟨⟨1, (), rfl, (Or.inl ⟨rfl, (show (0 ≤ v.toInt ∧ v.toInt < 4) by omega)⟩), by rw [ht]; exact hP9, hD9⟩, hS.F ht⟩) hS.2.2 dX7_isSlot_5
  · subst hz
    have hz_4 : ¬ (0 ≤ v.toInt ∧ v.toInt < (4 : Int32).toInt) := hz2
    have hP9 := hP.sub (ws' := []) [] rfl
    have hD9 := hD.sub (ws' := []) [] (by decide) rfl
    exact W.zret (v := 0) (ty := .boolean) hx hb hr rfl (fun t ht hW => ⟨⟨0, (), rfl, (Or.inr (⟨rfl, (show ¬ (0 ≤ v.toInt ∧ v.toInt < 4) by omega)⟩)), by rw [ht]; exact hP9, hD9⟩, hS.F ht⟩) hS.2.2 dX7_isSlot_5
abbrev w_c_X7_has (cI cJ cB cZ cO : ClassId) (qs : Nat) (qs_widths : Nat) (qs_sizes : Nat) (fs_sizes : Nat → Int32) (qs_numbers : Nat) : va_W := [(qs, .inr (7, [.ref qs_widths, .ref qs_sizes, .ref qs_numbers])), (qs_sizes, .inl (cI, 4, .inl (fs_sizes)))]
set_option maxHeartbeats 4000000 in
set_option maxRecDepth 100000 in
/-- X7 has -/
theorem c_X7_has (l : Launch) (D : va_G) (G : ct_G) (cI cJ cB cZ cO : ClassId) (qs : Nat) (qs_widths : Nat) (qs_sizes : Nat) (fs_sizes : Nat → Int32) (qs_numbers : Nat) (a1 : Int32) (h_fs_sizes : ar_ok [(-1)] [60] fs_sizes) (h_a1 : 0 ≤ a1.toInt ∧ a1.toInt ≤ 3) (sz : Nat) : Met l yX7_has wsX7_has ({ frames := 0, cells := 0, slots := 0, locals := 0 }) (va_Pc [.ref qs, .int a1] (ct_P D (ct_T cI cJ cB cZ cO) G (w_c_X7_has cI cJ cB cZ cO qs qs_widths qs_sizes fs_sizes qs_numbers) sz)) (va_Qi (fun (rz : Int32) (u : Unit) => ((rz = 1 ∧ True) ∨ (rz = 0 ∧ True))) (fun (u : Unit) t => ct_Q D (va_A (w_c_X7_has cI cJ cB cZ cO qs qs_widths qs_sizes fs_sizes qs_numbers) sz) [(qs, .inr (7, [.ref qs_widths, .ref qs_sizes, .ref qs_numbers])), (qs_sizes, .inl (cI, 4, .inl (fs_sizes)))] t) (va_A (w_c_X7_has cI cJ cB cZ cO qs qs_widths qs_sizes fs_sizes qs_numbers) sz)) 0 0 (va_A (w_c_X7_has cI cJ cB cZ cO qs qs_widths qs_sizes fs_sizes qs_numbers) sz) := by
  refine Met.ofW (cc := cX7_has) (maxL := 2) (ret := (some .boolean)) (by decide) rfl ?_
  intro p e s m args below meth c s₁ B hml hv
  obtain ⟨rfl, hsz, hP, hE, hD0, hH⟩ := hv
  have hx := B.exec
  have hb := B.bytes
  have hr := B.returns
  have hts := atoms_spec (ws := wsX7_has) B.pre
  have hown : s.vm.findClass RX7 = some m.cls := findClass_of_methodNamed B.named
  have hlocks := B.notSynchronized
  have hK := hE.1
  have hi7 : ∀ w ∈ u_ws RX7 TX7 3, w ∈ wsX7_has := fun w h => List.mem_cons_of_mem _ (List.mem_append_right _ h)
  subst hsz
  have hD := hD0.self (sz := s.heap.size)
  generalize hAe : va_A (w_c_X7_has cI cJ cB cZ cO qs qs_widths qs_sizes fs_sizes qs_numbers) s.heap.size = A at hD hH ⊢
  have hA : ∀ q : Nat, s.heap.size ≤ q → A q := fun q h => by rw [← hAe]; exact Or.inr h
  have hS : va_S A s.heap s.heap [] := va_S.rf
  have hP : va_P D vwCl [(qs, .inr (7, [.ref qs_widths, .ref qs_sizes, .ref qs_numbers])), (qs_sizes, .inl (cI, 4, .inl (fs_sizes)))] s.heap := hP
  have hD : va_D A [(qs, .inr (7, [.ref qs_widths, .ref qs_sizes, .ref qs_numbers])), (qs_sizes, .inl (cI, 4, .inl (fs_sizes)))] := hD
  have hl := lv_entry ([.ref qs, .int a1]) (n := 2) (Nat.le_of_ble_eq_true rfl)
  rw [lg_entry_eq]
  generalize (lg_sl ([.ref qs, .int a1]) ++ List.replicate (2 - (lg_sl ([.ref qs, .int a1])).length) Slot.unset).toArray = ls at hl ⊢
  have hl : lv_has ls 2 [(0, .ref qs), (1, .int a1)] := hl
  obtain ⟨H, hHe⟩ : ∃ H : Heap, H = s.heap := ⟨_, rfl⟩
  rw [← hHe] at hP
  have hS : va_S A s.heap H [] := by rw [hHe]; exact va_S.rf
  refine ct_start hHe ?_
  refine lv_aload_n hx hb dX7_has_0 rfl (lv_at hl 0 rfl) ?_
  refine va_get (D := D) (ci := 7) (v := .ref qs_sizes) (C := RX7) (T := TX7) (N := 3) hx hb hts hi7 hown hK hP 0 rfl rfl 1 (by decide) (hts (.fieldLink RX7 15 "OverHill$Slots" "sizes" "[I") (by decide +kernel)) (fun _ h9 => h9) rfl dX7_has_1 ?_
  refine lv_iload_n hx hb dX7_has_4 rfl (lv_at hl 1 rfl) ?_
  refine va_iald (D := D) hx hb hK hP 1 0 rfl rfl (tq_in rfl (by omega)) dX7_has_5 ?_
  refine lv_topi (fun z1 ez1 => ?_)
  have fz1 : (-1) ≤ z1.toInt ∧ z1.toInt ≤ 60 := by rw [ez1]; exact ar_get h_fs_sizes a1 0 (by omega) (show a1.toInt % 1 = 0 by omega) rfl
  refine lv_iconst (v := (-1)) hx hb dX7_has_6 (by decide) ?_
  refine lv_icmp_eq (tgt := 14) hx hb dX7_has_7 (by decide) (fun hc => ?_) (fun hc => ?_)
  · have hq2 : z1.toInt = (-1) := tq_eq rfl (by decide) hc
    refine lv_iconst (v := 0) hx hb dX7_has_14 (by decide) ?_
    have hP9 := hP.sub (ws' := [(qs, .inr (7, [.ref qs_widths, .ref qs_sizes, .ref qs_numbers])), (qs_sizes, .inl (cI, 4, .inl (fs_sizes)))]) [0, 1] rfl
    have hD9 := hD.sub (ws' := [(qs, .inr (7, [.ref qs_widths, .ref qs_sizes, .ref qs_numbers])), (qs_sizes, .inl (cI, 4, .inl (fs_sizes)))]) [0, 1] (by decide) rfl
    exact W.zret (v := 0) (ty := .boolean) hx hb hr rfl (fun t ht hW => ⟨⟨0, (), rfl, (Or.inr (⟨rfl, trivial⟩)), by rw [ht]; exact hP9, hD9⟩, hS.F ht⟩) hS.2.2 dX7_has_15
  · have hq2 : z1.toInt ≠ (-1) := tq_ne rfl (by decide) hc
    refine lv_iconst (v := 1) hx hb dX7_has_10 (by decide) ?_
    refine lv_goto (tgt := 15) hx hb dX7_has_11 (by decide) ?_
    have hP9 := hP.sub (ws' := [(qs, .inr (7, [.ref qs_widths, .ref qs_sizes, .ref qs_numbers])), (qs_sizes, .inl (cI, 4, .inl (fs_sizes)))]) [0, 1] rfl
    have hD9 := hD.sub (ws' := [(qs, .inr (7, [.ref qs_widths, .ref qs_sizes, .ref qs_numbers])), (qs_sizes, .inl (cI, 4, .inl (fs_sizes)))]) [0, 1] (by decide) rfl
    exact W.zret (v := 1) (ty := .boolean) hx hb hr rfl (fun t ht hW => ⟨⟨1, (), rfl, (Or.inl ⟨rfl, trivial⟩), by rw [ht]; exact hP9, hD9⟩, hS.F ht⟩) hS.2.2 dX7_has_15
abbrev w_c_X7_countRows (cI cJ cB cZ cO : ClassId) (qs : Nat) (qs_widths : Nat) (qs_sizes : Nat) (fs_sizes : Nat → Int32) (qs_numbers : Nat) : va_W := [(qs, .inr (7, [.ref qs_widths, .ref qs_sizes, .ref qs_numbers])), (qs_sizes, .inl (cI, 4, .inl (fs_sizes)))]
set_option maxHeartbeats 4000000 in
set_option maxRecDepth 100000 in
/-- X7 countRows -/
theorem c_X7_countRows (l : Launch) (D : va_G) (G : ct_G) (cI cJ cB cZ cO : ClassId) (qs : Nat) (qs_widths : Nat) (qs_sizes : Nat) (fs_sizes : Nat → Int32) (qs_numbers : Nat) (h_fs_sizes : ar_ok [(-1)] [60] fs_sizes) (sz : Nat) : Met l yX7_countRows wsX7_countRows ({ frames := 1, cells := 0, slots := 0, locals := 21 }) (va_Pc [.ref qs] (ct_P D (ct_T cI cJ cB cZ cO) G (w_c_X7_countRows cI cJ cB cZ cO qs qs_widths qs_sizes fs_sizes qs_numbers) sz)) (va_Qi (fun (rz : Int32) (u : Unit) => True) (fun (u : Unit) t => ct_Q D (va_A (w_c_X7_countRows cI cJ cB cZ cO qs qs_widths qs_sizes fs_sizes qs_numbers) sz) [(qs, .inr (7, [.ref qs_widths, .ref qs_sizes, .ref qs_numbers])), (qs_sizes, .inl (cI, 4, .inl (fs_sizes)))] t) (va_A (w_c_X7_countRows cI cJ cB cZ cO qs qs_widths qs_sizes fs_sizes qs_numbers) sz)) 0 0 (va_A (w_c_X7_countRows cI cJ cB cZ cO qs qs_widths qs_sizes fs_sizes qs_numbers) sz) := by
  refine Met.ofW (cc := cX7_countRows) (maxL := 3) (ret := (some .int)) (by decide) rfl ?_
  intro p e s m args below meth c s₁ B hml hv
  obtain ⟨rfl, hsz, hP, hE, hD0, hH⟩ := hv
  have hx := B.exec
  have hb := B.bytes
  have hr := B.returns
  have hts := atoms_spec (ws := wsX7_countRows) B.pre
  have hown : s.vm.findClass RX7 = some m.cls := findClass_of_methodNamed B.named
  have hlocks := B.notSynchronized
  have hK := hE.1
  subst hsz
  have hD := hD0.self (sz := s.heap.size)
  generalize hAe : va_A (w_c_X7_countRows cI cJ cB cZ cO qs qs_widths qs_sizes fs_sizes qs_numbers) s.heap.size = A at hD hH ⊢
  have hA : ∀ q : Nat, s.heap.size ≤ q → A q := fun q h => by rw [← hAe]; exact Or.inr h
  have hS : va_S A s.heap s.heap [] := va_S.rf
  have hP : va_P D vwCl [(qs, .inr (7, [.ref qs_widths, .ref qs_sizes, .ref qs_numbers])), (qs_sizes, .inl (cI, 4, .inl (fs_sizes)))] s.heap := hP
  have hD : va_D A [(qs, .inr (7, [.ref qs_widths, .ref qs_sizes, .ref qs_numbers])), (qs_sizes, .inl (cI, 4, .inl (fs_sizes)))] := hD
  have hl := lv_entry ([.ref qs]) (n := 3) (Nat.le_of_ble_eq_true rfl)
  rw [lg_entry_eq]
  generalize (lg_sl ([.ref qs]) ++ List.replicate (3 - (lg_sl ([.ref qs])).length) Slot.unset).toArray = ls at hl ⊢
  have hl : lv_has ls 3 [(0, .ref qs)] := hl
  obtain ⟨H, hHe⟩ : ∃ H : Heap, H = s.heap := ⟨_, rfl⟩
  rw [← hHe] at hP
  have hS : va_S A s.heap H [] := by rw [hHe]; exact va_S.rf
  refine ct_start hHe ?_
  refine lv_iconst (v := 0) hx hb dX7_countRows_0 (by decide) ?_
  refine lv_istore_n (lv' := [(1, .int 0), (0, .ref qs)]) hx hb dX7_countRows_1 rfl hl (by decide) rfl (fun ls hl => ?_)
  refine lv_iconst (v := 0) hx hb dX7_countRows_2 (by decide) ?_
  refine lv_istore_n (lv' := [(2, .int 0), (1, .int 0), (0, .ref qs)]) hx hb dX7_countRows_3 rfl hl (by decide) rfl (fun ls hl => ?_)
  refine ct_loop (X := Int32 × Int32) (fun x => (4 - x.2.toInt).toNat) (fun x H locs ls => ((0 ≤ x.2.toInt ∧ x.2.toInt ≤ 4)) ∧ va_P D vwCl [(qs, .inr (7, [.ref qs_widths, .ref qs_sizes, .ref qs_numbers])), (qs_sizes, .inl (cI, 4, .inl (fs_sizes)))] H ∧ va_D A [(qs, .inr (7, [.ref qs_widths, .ref qs_sizes, .ref qs_numbers])), (qs_sizes, .inl (cI, 4, .inl (fs_sizes)))] ∧ va_S A s.heap H locs ∧ lv_has ls 3 [(2, .int x.2), (1, .int x.1), (0, .ref qs)]) 4 ((0 : Int32), (0 : Int32)) ⟨(show 0 ≤ (0 : Int32).toInt ∧ (0 : Int32).toInt ≤ 4 by decide), hP, hD, hS, lv_sub hl [0, 1, 2] rfl⟩ (fun x ih62 H locs ls hI => ?_)
  obtain ⟨x60, x61⟩ := x
  obtain ⟨h_x61, hP, hD, hS, hl⟩ := hI
  have h_x61 : (0 ≤ x61.toInt ∧ x61.toInt ≤ 4) := h_x61
  have hP : va_P D vwCl [(qs, .inr (7, [.ref qs_widths, .ref qs_sizes, .ref qs_numbers])), (qs_sizes, .inl (cI, 4, .inl (fs_sizes)))] H := hP
  have hD : va_D A [(qs, .inr (7, [.ref qs_widths, .ref qs_sizes, .ref qs_numbers])), (qs_sizes, .inl (cI, 4, .inl (fs_sizes)))] := hD
  have hl : lv_has ls 3 [(2, .int x61), (1, .int x60), (0, .ref qs)] := hl
  refine lv_iload_n hx hb dX7_countRows_4 rfl (lv_at hl 0 rfl) ?_
  refine lv_iconst (v := 4) hx hb dX7_countRows_5 (by decide) ?_
  refine lv_icmp_ge (tgt := 31) hx hb dX7_countRows_6 (by decide) (fun hc => ?_) (fun hc => ?_)
  · have hq63 : 4 ≤ x61.toInt := tq_le (by decide) rfl hc
    refine lv_iload_n hx hb dX7_countRows_31 rfl (lv_at hl 1 rfl) ?_
    have hP9 := hP.sub (ws' := [(qs, .inr (7, [.ref qs_widths, .ref qs_sizes, .ref qs_numbers])), (qs_sizes, .inl (cI, 4, .inl (fs_sizes)))]) [0, 1] rfl
    have hD9 := hD.sub (ws' := [(qs, .inr (7, [.ref qs_widths, .ref qs_sizes, .ref qs_numbers])), (qs_sizes, .inl (cI, 4, .inl (fs_sizes)))]) [0, 1] (by decide) rfl
    exact W.iret (v := x60) hx hb hr (fun t ht hW => ⟨⟨x60, (), rfl, trivial, by rw [ht]; exact hP9, hD9⟩, hS.F ht⟩) hS.2.2 dX7_countRows_32
  · have hq63 : x61.toInt < 4 := tq_nle (by decide) rfl hc
    refine lv_iload_n hx hb dX7_countRows_9 rfl (lv_at hl 1 rfl) ?_
    refine lv_aload_n hx hb dX7_countRows_10 rfl (lv_at hl 2 rfl) ?_
    refine lv_iload_n hx hb dX7_countRows_11 rfl (lv_at hl 0 rfl) ?_
    refine ct_calli (D := D) (wc := (w_c_X7_has cI cJ cB cZ cO qs qs_widths qs_sizes fs_sizes qs_numbers)) (wr := []) (va_runV (As := [.int x61]) (rest := [.int x60]) ⟨hx, hb, hml, hown, hts⟩ (c_X7_has l D G cI cJ cB cZ cO qs qs_widths qs_sizes fs_sizes qs_numbers x61 h_fs_sizes (by omega) H.size) (cwV 1 hts gX7_countRows_X7_has rfl rfl rfl (by decide +kernel) ⟨Nat.le_of_ble_eq_true rfl, Nat.le_of_ble_eq_true rfl⟩) (ct_preV (T := ct_T cI cJ cB cZ cO) (ci := 7) (q0 := 0) hE hH hP hD hS hA [0, 1] (by decide) rfl rfl rfl) rfl rfl hl.1 rfl (lv_room (Nat.le_of_ble_eq_true rfl)) dX7_countRows_12 ⟨Nat.le_of_ble_eq_true rfl, Nat.le_of_ble_eq_true rfl⟩) hP hD hS hA [0, 1] [] rfl rfl (by decide) (by decide) (fun r64 u H locs hw hP hD hS => ?_)
    have hP : va_P D vwCl [(qs, .inr (7, [.ref qs_widths, .ref qs_sizes, .ref qs_numbers])), (qs_sizes, .inl (cI, 4, .inl (fs_sizes)))] H := hP
    have hD : va_D A [(qs, .inr (7, [.ref qs_widths, .ref qs_sizes, .ref qs_numbers])), (qs_sizes, .inl (cI, 4, .inl (fs_sizes)))] := hD
    have hz := hw
    rcases hz with ⟨hz, hz2⟩ | ⟨hz, hz2⟩
    · subst hz
      refine lv_if_eq (tgt := 22) hx hb dX7_countRows_15 (by decide) (fun hc => absurd hc (by decide)) (fun _ => ?_)
      refine lv_iconst (v := 1) hx hb dX7_countRows_18 (by decide) ?_
      refine lv_goto (tgt := 23) hx hb dX7_countRows_19 (by decide) ?_
      refine lv_iadd hx hb dX7_countRows_23 ?_
      refine lv_topi (fun z65 ez65 => ?_)
      refine lv_istore_n (lv' := [(1, .int z65), (2, .int x61), (0, .ref qs)]) hx hb dX7_countRows_24 rfl hl (by decide) rfl (fun ls hl => ?_)
      obtain ⟨z66, ez66⟩ : ∃ z : Int32, z = x61 + 1 := ⟨_, rfl⟩
      have fz66 : z66.toInt = x61.toInt + 1 := by rw [ez66]; exact tq_add rfl (by decide) (by omega)
      refine lv_iinc (v := z66) (lv' := [(2, .int z66), (1, .int z65), (0, .ref qs)]) hx hb dX7_countRows_25 hl (k := 1) rfl ez66.symm (by decide) rfl (fun ls hl => ?_)
      refine lv_goto (tgt := 4) hx hb dX7_countRows_28 (by decide) ?_
      exact ih62 (z65, z66) _ _ _ (show (4 - z66.toInt).toNat < (4 - x61.toInt).toNat by omega) ⟨(show 0 ≤ z66.toInt ∧ z66.toInt ≤ 4 by omega), hP, hD, hS, lv_sub hl [0, 1, 2] rfl⟩
    · subst hz
      refine lv_if_eq (tgt := 22) hx hb dX7_countRows_15 (by decide) (fun _ => ?_) (fun hc => absurd hc (by decide))
      refine lv_iconst (v := 0) hx hb dX7_countRows_22 (by decide) ?_
      refine lv_iadd hx hb dX7_countRows_23 ?_
      refine lv_topi (fun z67 ez67 => ?_)
      have fz67 : z67.toInt = x60.toInt + 0 := by rw [ez67]; exact tq_add rfl (by decide) (by omega)
      refine lv_istore_n (lv' := [(1, .int z67), (2, .int x61), (0, .ref qs)]) hx hb dX7_countRows_24 rfl hl (by decide) rfl (fun ls hl => ?_)
      obtain ⟨z68, ez68⟩ : ∃ z : Int32, z = x61 + 1 := ⟨_, rfl⟩
      have fz68 : z68.toInt = x61.toInt + 1 := by rw [ez68]; exact tq_add rfl (by decide) (by omega)
      refine lv_iinc (v := z68) (lv' := [(2, .int z68), (1, .int z67), (0, .ref qs)]) hx hb dX7_countRows_25 hl (k := 1) rfl ez68.symm (by decide) rfl (fun ls hl => ?_)
      refine lv_goto (tgt := 4) hx hb dX7_countRows_28 (by decide) ?_
      exact ih62 (z67, z68) _ _ _ (show (4 - z68.toInt).toNat < (4 - x61.toInt).toNat by omega) ⟨(show 0 ≤ z68.toInt ∧ z68.toInt ≤ 4 by omega), hP, hD, hS, lv_sub hl [0, 1, 2] rfl⟩
abbrev w_c_X7_at (cI cJ cB cZ cO : ClassId) (qs : Nat) (qs_widths : Nat) (qs_sizes : Nat) (qs_numbers : Nat) (fs_numbers : Nat → Int64) : va_W := [(qs, .inr (7, [.ref qs_widths, .ref qs_sizes, .ref qs_numbers])), (qs_numbers, .inl (cJ, 240, .inr (.inl (fs_numbers))))]
set_option maxHeartbeats 4000000 in
set_option maxRecDepth 100000 in
/-- X7 at -/
theorem c_X7_at (l : Launch) (D : va_G) (G : ct_G) (cI cJ cB cZ cO : ClassId) (qs : Nat) (qs_widths : Nat) (qs_sizes : Nat) (qs_numbers : Nat) (fs_numbers : Nat → Int64) (a1 : Int32) (a2 : Int32) (h_a1 : 0 ≤ a1.toInt ∧ a1.toInt ≤ 3) (h_a2 : 0 ≤ a2.toInt ∧ a2.toInt ≤ 59) (sz : Nat) : Met l yX7_at wsX7_at ({ frames := 0, cells := 0, slots := 0, locals := 0 }) (va_Pc [.ref qs, .int a1, .int a2] (ct_P D (ct_T cI cJ cB cZ cO) G (w_c_X7_at cI cJ cB cZ cO qs qs_widths qs_sizes qs_numbers fs_numbers) sz)) (va_Ql (fun (rz : Int64) (u : Unit) => (rz = fs_numbers (60 * a1.toInt + a2.toInt).toNat)) (fun (u : Unit) t => ct_Q D (va_A (w_c_X7_at cI cJ cB cZ cO qs qs_widths qs_sizes qs_numbers fs_numbers) sz) [(qs, .inr (7, [.ref qs_widths, .ref qs_sizes, .ref qs_numbers])), (qs_numbers, .inl (cJ, 240, .inr (.inl (fs_numbers))))] t) (va_A (w_c_X7_at cI cJ cB cZ cO qs qs_widths qs_sizes qs_numbers fs_numbers) sz)) 0 0 (va_A (w_c_X7_at cI cJ cB cZ cO qs qs_widths qs_sizes qs_numbers fs_numbers) sz) := by
  refine Met.ofW (cc := cX7_at) (maxL := 3) (ret := (some .long)) (by decide) rfl ?_
  intro p e s m args below meth c s₁ B hml hv
  obtain ⟨rfl, hsz, hP, hE, hD0, hH⟩ := hv
  have hx := B.exec
  have hb := B.bytes
  have hr := B.returns
  have hts := atoms_spec (ws := wsX7_at) B.pre
  have hown : s.vm.findClass RX7 = some m.cls := findClass_of_methodNamed B.named
  have hlocks := B.notSynchronized
  have hK := hE.1
  have hi7 : ∀ w ∈ u_ws RX7 TX7 3, w ∈ wsX7_at := fun w h => List.mem_cons_of_mem _ (List.mem_append_right _ h)
  subst hsz
  have hD := hD0.self (sz := s.heap.size)
  generalize hAe : va_A (w_c_X7_at cI cJ cB cZ cO qs qs_widths qs_sizes qs_numbers fs_numbers) s.heap.size = A at hD hH ⊢
  have hA : ∀ q : Nat, s.heap.size ≤ q → A q := fun q h => by rw [← hAe]; exact Or.inr h
  have hS : va_S A s.heap s.heap [] := va_S.rf
  have hP : va_P D vwCl [(qs, .inr (7, [.ref qs_widths, .ref qs_sizes, .ref qs_numbers])), (qs_numbers, .inl (cJ, 240, .inr (.inl (fs_numbers))))] s.heap := hP
  have hD : va_D A [(qs, .inr (7, [.ref qs_widths, .ref qs_sizes, .ref qs_numbers])), (qs_numbers, .inl (cJ, 240, .inr (.inl (fs_numbers))))] := hD
  have hl := lv_entry ([.ref qs, .int a1, .int a2]) (n := 3) (Nat.le_of_ble_eq_true rfl)
  rw [lg_entry_eq]
  generalize (lg_sl ([.ref qs, .int a1, .int a2]) ++ List.replicate (3 - (lg_sl ([.ref qs, .int a1, .int a2])).length) Slot.unset).toArray = ls at hl ⊢
  have hl : lv_has ls 3 [(0, .ref qs), (1, .int a1), (2, .int a2)] := hl
  obtain ⟨H, hHe⟩ : ∃ H : Heap, H = s.heap := ⟨_, rfl⟩
  rw [← hHe] at hP
  have hS : va_S A s.heap H [] := by rw [hHe]; exact va_S.rf
  refine ct_start hHe ?_
  refine lv_aload_n hx hb dX7_at_0 rfl (lv_at hl 0 rfl) ?_
  refine va_get (D := D) (ci := 7) (v := .ref qs_numbers) (C := RX7) (T := TX7) (N := 3) hx hb hts hi7 hown hK hP 0 rfl rfl 2 (by decide) (hts (.fieldLink RX7 18 "OverHill$Slots" "numbers" "[J") (by decide +kernel)) (fun _ h9 => h9) rfl dX7_at_1 ?_
  refine lv_iload_n hx hb dX7_at_4 rfl (lv_at hl 1 rfl) ?_
  refine lv_bipush (v := 60) hx hb dX7_at_5 (by decide) ?_
  refine lv_imul hx hb dX7_at_7 ?_
  refine lv_topi (fun z1 ez1 => ?_)
  have fz1 : z1.toInt = a1.toInt * 60 := by rw [ez1]; exact tq_mul rfl (by decide) (by omega)
  refine lv_iload_n hx hb dX7_at_8 rfl (lv_at hl 2 rfl) ?_
  refine lv_iadd hx hb dX7_at_9 ?_
  refine lv_topi (fun z2 ez2 => ?_)
  have fz2 : z2.toInt = z1.toInt + a2.toInt := by rw [ez2]; exact tq_add rfl rfl (by omega)
  refine va_lald (D := D) hx hb hK hP 1 1 rfl rfl (tq_in rfl (by omega)) dX7_at_10 ?_
  refine lv_topl (fun z3 ez3 => ?_)
  have hP9 := hP.sub (ws' := [(qs, .inr (7, [.ref qs_widths, .ref qs_sizes, .ref qs_numbers])), (qs_numbers, .inl (cJ, 240, .inr (.inl (fs_numbers))))]) [0, 1] rfl
  have hD9 := hD.sub (ws' := [(qs, .inr (7, [.ref qs_widths, .ref qs_sizes, .ref qs_numbers])), (qs_numbers, .inl (cJ, 240, .inr (.inl (fs_numbers))))]) [0, 1] (by decide) rfl
  exact W.lret (v := z3) hx hb hr (fun t ht hW => ⟨⟨z3, (), rfl, (show z3 = fs_numbers (60 * a1.toInt + a2.toInt).toNat by rw [ez3]; exact congrArg fs_numbers (show z2.toInt.toNat = (60 * a1.toInt + a2.toInt).toNat by omega)), by rw [ht]; exact hP9, hD9⟩, hS.F ht⟩) hS.2.2 dX7_at_11
abbrev w_c_X7_isBetween (cI cJ cB cZ cO : ClassId)  : va_W := []
set_option maxHeartbeats 4000000 in
set_option maxRecDepth 100000 in
/-- X7 isBetween -/
theorem c_X7_isBetween (l : Launch) (D : va_G) (G : ct_G) (cI cJ cB cZ cO : ClassId) (x : Int64) (y : Int64) (z : Int64)  (sz : Nat) : Met l yX7_isBetween wsX7_isBetween ({ frames := 0, cells := 0, slots := 0, locals := 0 }) (va_Pc [.long x, .long y, .long z] (ct_P D (ct_T cI cJ cB cZ cO) G (w_c_X7_isBetween cI cJ cB cZ cO ) sz)) (va_Qi (fun (rz : Int32) (u : Unit) => ((rz = 1 ∧ (y.toInt ≤ x.toInt ∧ x.toInt ≤ z.toInt)) ∨ (rz = 0 ∧ ¬ (y.toInt ≤ x.toInt ∧ x.toInt ≤ z.toInt)))) (fun (u : Unit) t => ct_Q D (va_A (w_c_X7_isBetween cI cJ cB cZ cO ) sz) [] t) (va_A (w_c_X7_isBetween cI cJ cB cZ cO ) sz)) 0 0 (va_A (w_c_X7_isBetween cI cJ cB cZ cO ) sz) := by
  refine Met.ofW (cc := cX7_isBetween) (maxL := 6) (ret := (some .boolean)) (by decide) rfl ?_
  intro p e s m args below meth c s₁ B hml hv
  obtain ⟨rfl, hsz, hP, hE, hD0, hH⟩ := hv
  have hx := B.exec
  have hb := B.bytes
  have hr := B.returns
  have hts := atoms_spec (ws := wsX7_isBetween) B.pre
  have hown : s.vm.findClass RX7 = some m.cls := findClass_of_methodNamed B.named
  have hlocks := B.notSynchronized
  have hK := hE.1
  subst hsz
  have hD := hD0.self (sz := s.heap.size)
  generalize hAe : va_A (w_c_X7_isBetween cI cJ cB cZ cO ) s.heap.size = A at hD hH ⊢
  have hA : ∀ q : Nat, s.heap.size ≤ q → A q := fun q h => by rw [← hAe]; exact Or.inr h
  have hS : va_S A s.heap s.heap [] := va_S.rf
  have hP : va_P D vwCl [] s.heap := hP
  have hD : va_D A [] := hD
  have hl := lv_entry ([.long x, .long y, .long z]) (n := 6) (Nat.le_of_ble_eq_true rfl)
  rw [lg_entry_eq]
  generalize (lg_sl ([.long x, .long y, .long z]) ++ List.replicate (6 - (lg_sl ([.long x, .long y, .long z])).length) Slot.unset).toArray = ls at hl ⊢
  have hl : lv_has ls 6 [(0, .long x), (2, .long y), (4, .long z)] := hl
  obtain ⟨H, hHe⟩ : ∃ H : Heap, H = s.heap := ⟨_, rfl⟩
  rw [← hHe] at hP
  have hS : va_S A s.heap H [] := by rw [hHe]; exact va_S.rf
  refine ct_start hHe ?_
  refine lv_lload_n hx hb dX7_isBetween_0 rfl (lv_at hl 0 rfl) ?_
  refine lv_lload_n hx hb dX7_isBetween_1 rfl (lv_at hl 1 rfl) ?_
  refine W.lcmp hx hb dX7_isBetween_2 ?_
  refine lv_if_lt (tgt := 17) hx hb dX7_isBetween_3 (by decide) (fun hc => ?_) (fun hc => ?_)
  · have hq1 : x.toInt < y.toInt := tl_lt rfl rfl ((lg_cmp_lt _ _).mp hc)
    refine lv_iconst (v := 0) hx hb dX7_isBetween_17 (by decide) ?_
    have hP9 := hP.sub (ws' := []) [] rfl
    have hD9 := hD.sub (ws' := []) [] (by decide) rfl
    exact W.zret (v := 0) (ty := .boolean) hx hb hr rfl (fun t ht hW => ⟨⟨0, (), rfl, (Or.inr (⟨rfl, (show ¬ (y.toInt ≤ x.toInt ∧ x.toInt ≤ z.toInt) by omega)⟩)), by rw [ht]; exact hP9, hD9⟩, hS.F ht⟩) hS.2.2 dX7_isBetween_18
  · have hq1 : y.toInt ≤ x.toInt := tl_nlt rfl rfl (fun z => hc ((lg_cmp_lt _ _).mpr z))
    refine lv_lload_n hx hb dX7_isBetween_6 rfl (lv_at hl 0 rfl) ?_
    refine lv_lload hx hb dX7_isBetween_7 (lv_at hl 2 rfl) ?_
    refine W.lcmp hx hb dX7_isBetween_9 ?_
    refine lv_if_gt (tgt := 17) hx hb dX7_isBetween_10 (by decide) (fun hc => ?_) (fun hc => ?_)
    · have hq2 : z.toInt < x.toInt := tl_lt rfl rfl ((lg_cmp_gt _ _).mp hc)
      refine lv_iconst (v := 0) hx hb dX7_isBetween_17 (by decide) ?_
      have hP9 := hP.sub (ws' := []) [] rfl
      have hD9 := hD.sub (ws' := []) [] (by decide) rfl
      exact W.zret (v := 0) (ty := .boolean) hx hb hr rfl (fun t ht hW => ⟨⟨0, (), rfl, (Or.inr (⟨rfl, (show ¬ (y.toInt ≤ x.toInt ∧ x.toInt ≤ z.toInt) by omega)⟩)), by rw [ht]; exact hP9, hD9⟩, hS.F ht⟩) hS.2.2 dX7_isBetween_18
    · have hq2 : x.toInt ≤ z.toInt := tl_nlt rfl rfl (fun z => hc ((lg_cmp_gt _ _).mpr z))
      refine lv_iconst (v := 1) hx hb dX7_isBetween_13 (by decide) ?_
      refine lv_goto (tgt := 18) hx hb dX7_isBetween_14 (by decide) ?_
      have hP9 := hP.sub (ws' := []) [] rfl
      have hD9 := hD.sub (ws' := []) [] (by decide) rfl
      exact W.zret (v := 1) (ty := .boolean) hx hb hr rfl (fun t ht hW => ⟨⟨1, (), rfl, (Or.inl ⟨rfl, (show (y.toInt ≤ x.toInt ∧ x.toInt ≤ z.toInt) by omega)⟩), by rw [ht]; exact hP9, hD9⟩, hS.F ht⟩) hS.2.2 dX7_isBetween_18
abbrev w_c_X7_isTold (cI cJ cB cZ cO : ClassId)  : va_W := []
set_option maxHeartbeats 4000000 in
set_option maxRecDepth 100000 in
/-- X7 isTold -/
theorem c_X7_isTold (l : Launch) (D : va_G) (G : ct_G) (cI cJ cB cZ cO : ClassId) (x : Int64)  (sz : Nat) : Met l yX7_isTold wsX7_isTold ({ frames := 1, cells := 0, slots := 0, locals := 25 }) (va_Pc [.long x] (ct_P D (ct_T cI cJ cB cZ cO) G (w_c_X7_isTold cI cJ cB cZ cO ) sz)) (va_Qi (fun (rz : Int32) (u : Unit) => ((rz = 1 ∧ (-1 ≤ x.toInt ∧ x.toInt ≤ 5)) ∨ (rz = 0 ∧ ¬ (-1 ≤ x.toInt ∧ x.toInt ≤ 5)))) (fun (u : Unit) t => ct_Q D (va_A (w_c_X7_isTold cI cJ cB cZ cO ) sz) [] t) (va_A (w_c_X7_isTold cI cJ cB cZ cO ) sz)) 0 0 (va_A (w_c_X7_isTold cI cJ cB cZ cO ) sz) := by
  refine Met.ofW (cc := cX7_isTold) (maxL := 2) (ret := (some .boolean)) (by decide) rfl ?_
  intro p e s m args below meth c s₁ B hml hv
  obtain ⟨rfl, hsz, hP, hE, hD0, hH⟩ := hv
  have hx := B.exec
  have hb := B.bytes
  have hr := B.returns
  have hts := atoms_spec (ws := wsX7_isTold) B.pre
  have hown : s.vm.findClass RX7 = some m.cls := findClass_of_methodNamed B.named
  have hlocks := B.notSynchronized
  have hK := hE.1
  subst hsz
  have hD := hD0.self (sz := s.heap.size)
  generalize hAe : va_A (w_c_X7_isTold cI cJ cB cZ cO ) s.heap.size = A at hD hH ⊢
  have hA : ∀ q : Nat, s.heap.size ≤ q → A q := fun q h => by rw [← hAe]; exact Or.inr h
  have hS : va_S A s.heap s.heap [] := va_S.rf
  have hP : va_P D vwCl [] s.heap := hP
  have hD : va_D A [] := hD
  have hl := lv_entry ([.long x]) (n := 2) (Nat.le_of_ble_eq_true rfl)
  rw [lg_entry_eq]
  generalize (lg_sl ([.long x]) ++ List.replicate (2 - (lg_sl ([.long x])).length) Slot.unset).toArray = ls at hl ⊢
  have hl : lv_has ls 2 [(0, .long x)] := hl
  obtain ⟨H, hHe⟩ : ∃ H : Heap, H = s.heap := ⟨_, rfl⟩
  rw [← hHe] at hP
  have hS : va_S A s.heap H [] := by rw [hHe]; exact va_S.rf
  refine ct_start hHe ?_
  refine lv_lload_n hx hb dX7_isTold_0 rfl (lv_at hl 0 rfl) ?_
  refine lv_ldc2 (v := (-1)) hx hb hown (hts (.constantLong RX7 60 (-1)) (by decide +kernel)) dX7_isTold_1 ?_
  refine lv_ldc2 (v := 5) hx hb hown (hts (.constantLong RX7 70 (5)) (by decide +kernel)) dX7_isTold_4 ?_
  refine ct_calli (D := D) (wc := (w_c_X7_isBetween cI cJ cB cZ cO )) (wr := []) (va_runS (As := [.long x, .long (-1), .long 5]) (rest := []) ⟨hx, hb, hml, hown, hts⟩ (c_X7_isBetween l D G cI cJ cB cZ cO x (-1) 5  H.size) (va_cwS 3 hts gX7_isTold_X7_isBetween rfl rfl rfl (by decide +kernel) ⟨Nat.le_of_ble_eq_true rfl, Nat.le_of_ble_eq_true rfl⟩) (ct_preS (T := ct_T cI cJ cB cZ cO) hE hH hP hD hS hA [] (by decide) rfl) rfl rfl hl.1 rfl (lv_room (Nat.le_of_ble_eq_true rfl)) dX7_isTold_7 ⟨Nat.le_of_ble_eq_true rfl, Nat.le_of_ble_eq_true rfl⟩) hP hD hS hA [] [] rfl rfl (by decide) (by decide) (fun r1 u H locs hw hP hD hS => ?_)
  have hP : va_P D vwCl [] H := hP
  have hD : va_D A [] := hD
  have hk2 : (-1 : Int64).toInt = -1 := by decide
  have hk3 : (5 : Int64).toInt = 5 := by decide
  have hz := hw
  rcases hz with ⟨hz, hz2⟩ | ⟨hz, hz2⟩
  · subst hz
    have hz_4 : ((-1 : Int64).toInt ≤ x.toInt ∧ x.toInt ≤ (5 : Int64).toInt) := hz2
    have hP9 := hP.sub (ws' := []) [] rfl
    have hD9 := hD.sub (ws' := []) [] (by decide) rfl
    exact W.zret (v := 1) (ty := .boolean) hx hb hr rfl (fun t ht hW => ⟨⟨1, (), rfl, (Or.inl ⟨rfl, (show (-1 ≤ x.toInt ∧ x.toInt ≤ 5) by omega)⟩), by rw [ht]; exact hP9, hD9⟩, hS.F ht⟩) hS.2.2 dX7_isTold_10
  · subst hz
    have hz_5 : ¬ ((-1 : Int64).toInt ≤ x.toInt ∧ x.toInt ≤ (5 : Int64).toInt) := hz2
    have hP9 := hP.sub (ws' := []) [] rfl
    have hD9 := hD.sub (ws' := []) [] (by decide) rfl
    exact W.zret (v := 0) (ty := .boolean) hx hb hr rfl (fun t ht hW => ⟨⟨0, (), rfl, (Or.inr (⟨rfl, (show ¬ (-1 ≤ x.toInt ∧ x.toInt ≤ 5) by omega)⟩)), by rw [ht]; exact hP9, hD9⟩, hS.F ht⟩) hS.2.2 dX7_isTold_10
abbrev w_c_X7_cut (cI cJ cB cZ cO : ClassId)  : va_W := []
set_option maxHeartbeats 4000000 in
set_option maxRecDepth 100000 in
/-- X7 cut -/
theorem c_X7_cut (l : Launch) (D : va_G) (G : ct_G) (cI cJ cB cZ cO : ClassId) (a1 : Int64) (a2 : Int32)  (sz : Nat) : Met l yX7_cut wsX7_cut ({ frames := 0, cells := 0, slots := 0, locals := 0 }) (va_Pc [.long a1, .int a2] (ct_P D (ct_T cI cJ cB cZ cO) G (w_c_X7_cut cI cJ cB cZ cO ) sz)) (va_Ql (fun (rz : Int64) (u : Unit) => True) (fun (u : Unit) t => ct_Q D (va_A (w_c_X7_cut cI cJ cB cZ cO ) sz) [] t) (va_A (w_c_X7_cut cI cJ cB cZ cO ) sz)) 0 0 (va_A (w_c_X7_cut cI cJ cB cZ cO ) sz) := by
  refine Met.ofW (cc := cX7_cut) (maxL := 3) (ret := (some .long)) (by decide) rfl ?_
  intro p e s m args below meth c s₁ B hml hv
  obtain ⟨rfl, hsz, hP, hE, hD0, hH⟩ := hv
  have hx := B.exec
  have hb := B.bytes
  have hr := B.returns
  have hts := atoms_spec (ws := wsX7_cut) B.pre
  have hown : s.vm.findClass RX7 = some m.cls := findClass_of_methodNamed B.named
  have hlocks := B.notSynchronized
  have hK := hE.1
  subst hsz
  have hD := hD0.self (sz := s.heap.size)
  generalize hAe : va_A (w_c_X7_cut cI cJ cB cZ cO ) s.heap.size = A at hD hH ⊢
  have hA : ∀ q : Nat, s.heap.size ≤ q → A q := fun q h => by rw [← hAe]; exact Or.inr h
  have hS : va_S A s.heap s.heap [] := va_S.rf
  have hP : va_P D vwCl [] s.heap := hP
  have hD : va_D A [] := hD
  have hl := lv_entry ([.long a1, .int a2]) (n := 3) (Nat.le_of_ble_eq_true rfl)
  rw [lg_entry_eq]
  generalize (lg_sl ([.long a1, .int a2]) ++ List.replicate (3 - (lg_sl ([.long a1, .int a2])).length) Slot.unset).toArray = ls at hl ⊢
  have hl : lv_has ls 3 [(0, .long a1), (2, .int a2)] := hl
  obtain ⟨H, hHe⟩ : ∃ H : Heap, H = s.heap := ⟨_, rfl⟩
  rw [← hHe] at hP
  have hS : va_S A s.heap H [] := by rw [hHe]; exact va_S.rf
  refine ct_start hHe ?_
  refine lv_iload_n hx hb dX7_cut_0 rfl (lv_at hl 1 rfl) ?_
  by_cases hq1 : a2.toInt = 0
  · refine lv_tableIn (tgt := 28) (off := 27) hx hb dX7_cut_1 (by omega) (by omega) (by rw [hq1]; decide) (by decide) ?_
    refine lv_lload_n hx hb dX7_cut_28 rfl (lv_at hl 0 rfl) ?_
    refine lv_l2i (v := _) hx hb dX7_cut_29 rfl ?_
    refine lv_topi (fun z2 ez2 => ?_)
    refine lv_i2b (v := _) hx hb dX7_cut_30 rfl ?_
    refine lv_topi (fun z3 ez3 => ?_)
    refine lv_i2l (v := _) hx hb dX7_cut_31 rfl ?_
    refine lv_topl (fun z4 ez4 => ?_)
    have fz4 : z4.toInt = z3.toInt := by rw [ez4]; exact tl_i rfl
    have hP9 := hP.sub (ws' := []) [] rfl
    have hD9 := hD.sub (ws' := []) [] (by decide) rfl
    exact W.lret (v := z4) hx hb hr (fun t ht hW => ⟨⟨z4, (), rfl, trivial, by rw [ht]; exact hP9, hD9⟩, hS.F ht⟩) hS.2.2 dX7_cut_32
  by_cases hq5 : a2.toInt = 1
  · refine lv_tableIn (tgt := 33) (off := 32) hx hb dX7_cut_1 (by omega) (by omega) (by rw [hq5]; decide) (by decide) ?_
    refine lv_lload_n hx hb dX7_cut_33 rfl (lv_at hl 0 rfl) ?_
    refine lv_l2i (v := _) hx hb dX7_cut_34 rfl ?_
    refine lv_topi (fun z6 ez6 => ?_)
    refine lv_i2s (v := _) hx hb dX7_cut_35 rfl ?_
    refine lv_topi (fun z7 ez7 => ?_)
    refine lv_i2l (v := _) hx hb dX7_cut_36 rfl ?_
    refine lv_topl (fun z8 ez8 => ?_)
    have fz8 : z8.toInt = z7.toInt := by rw [ez8]; exact tl_i rfl
    have hP9 := hP.sub (ws' := []) [] rfl
    have hD9 := hD.sub (ws' := []) [] (by decide) rfl
    exact W.lret (v := z8) hx hb hr (fun t ht hW => ⟨⟨z8, (), rfl, trivial, by rw [ht]; exact hP9, hD9⟩, hS.F ht⟩) hS.2.2 dX7_cut_37
  by_cases hq9 : a2.toInt = 2
  · refine lv_tableIn (tgt := 38) (off := 37) hx hb dX7_cut_1 (by omega) (by omega) (by rw [hq9]; decide) (by decide) ?_
    refine lv_lload_n hx hb dX7_cut_38 rfl (lv_at hl 0 rfl) ?_
    refine lv_l2i (v := _) hx hb dX7_cut_39 rfl ?_
    refine lv_topi (fun z10 ez10 => ?_)
    refine lv_i2l (v := _) hx hb dX7_cut_40 rfl ?_
    refine lv_topl (fun z11 ez11 => ?_)
    have fz11 : z11.toInt = z10.toInt := by rw [ez11]; exact tl_i rfl
    have hP9 := hP.sub (ws' := []) [] rfl
    have hD9 := hD.sub (ws' := []) [] (by decide) rfl
    exact W.lret (v := z11) hx hb hr (fun t ht hW => ⟨⟨z11, (), rfl, trivial, by rw [ht]; exact hP9, hD9⟩, hS.F ht⟩) hS.2.2 dX7_cut_41
  refine lv_tableOut (tgt := 42) hx hb dX7_cut_1 (by omega) (by decide) ?_
  refine lv_lload_n hx hb dX7_cut_42 rfl (lv_at hl 0 rfl) ?_
  have hP9 := hP.sub (ws' := []) [] rfl
  have hD9 := hD.sub (ws' := []) [] (by decide) rfl
  exact W.lret (v := a1) hx hb hr (fun t ht hW => ⟨⟨a1, (), rfl, trivial, by rw [ht]; exact hP9, hD9⟩, hS.F ht⟩) hS.2.2 dX7_cut_43
abbrev w_c_X7_put (cI cJ cB cZ cO : ClassId) (qs : Nat) (qs_widths : Nat) (fs_widths : Nat → Int32) (qs_sizes : Nat) (qs_numbers : Nat) (fs_numbers : Nat → Int64) : va_W := [(qs, .inr (7, [.ref qs_widths, .ref qs_sizes, .ref qs_numbers])), (qs_widths, .inl (cI, 4, .inl (fs_widths))), (qs_numbers, .inl (cJ, 240, .inr (.inl (fs_numbers))))]
set_option maxHeartbeats 4000000 in
set_option maxRecDepth 100000 in
/-- X7 put -/
theorem c_X7_put (l : Launch) (D : va_G) (G : ct_G) (cI cJ cB cZ cO : ClassId) (qs : Nat) (qs_widths : Nat) (fs_widths : Nat → Int32) (qs_sizes : Nat) (qs_numbers : Nat) (fs_numbers : Nat → Int64) (a1 : Int32) (a2 : Int32) (a3 : Int64) (h_a1 : 0 ≤ a1.toInt ∧ a1.toInt ≤ 3) (h_a2 : 0 ≤ a2.toInt ∧ a2.toInt ≤ 59) (sz : Nat) : Met l yX7_put wsX7_put ({ frames := 1, cells := 0, slots := 0, locals := 22 }) (va_Pc [.ref qs, .int a1, .int a2, .long a3] (ct_P D (ct_T cI cJ cB cZ cO) G (w_c_X7_put cI cJ cB cZ cO qs qs_widths fs_widths qs_sizes qs_numbers fs_numbers) sz)) (va_Qv (fun (u : (Nat → Int64)) => True) (fun (u : (Nat → Int64)) t => ct_Q D (va_A (w_c_X7_put cI cJ cB cZ cO qs qs_widths fs_widths qs_sizes qs_numbers fs_numbers) sz) [(qs, .inr (7, [.ref qs_widths, .ref qs_sizes, .ref qs_numbers])), (qs_widths, .inl (cI, 4, .inl (fs_widths))), (qs_numbers, .inl (cJ, 240, .inr (.inl (u))))] t) (va_A (w_c_X7_put cI cJ cB cZ cO qs qs_widths fs_widths qs_sizes qs_numbers fs_numbers) sz)) 0 0 (va_A (w_c_X7_put cI cJ cB cZ cO qs qs_widths fs_widths qs_sizes qs_numbers fs_numbers) sz) := by
  refine Met.ofW (cc := cX7_put) (maxL := 5) (ret := none) (by decide) rfl ?_
  intro p e s m args below meth c s₁ B hml hv
  obtain ⟨rfl, hsz, hP, hE, hD0, hH⟩ := hv
  have hx := B.exec
  have hb := B.bytes
  have hr := B.returns
  have hts := atoms_spec (ws := wsX7_put) B.pre
  have hown : s.vm.findClass RX7 = some m.cls := findClass_of_methodNamed B.named
  have hlocks := B.notSynchronized
  have hK := hE.1
  have hi7 : ∀ w ∈ u_ws RX7 TX7 3, w ∈ wsX7_put := fun w h => List.mem_cons_of_mem _ (List.mem_append_right _ h)
  subst hsz
  have hD := hD0.self (sz := s.heap.size)
  generalize hAe : va_A (w_c_X7_put cI cJ cB cZ cO qs qs_widths fs_widths qs_sizes qs_numbers fs_numbers) s.heap.size = A at hD hH ⊢
  have hA : ∀ q : Nat, s.heap.size ≤ q → A q := fun q h => by rw [← hAe]; exact Or.inr h
  have hS : va_S A s.heap s.heap [] := va_S.rf
  have hP : va_P D vwCl [(qs, .inr (7, [.ref qs_widths, .ref qs_sizes, .ref qs_numbers])), (qs_widths, .inl (cI, 4, .inl (fs_widths))), (qs_numbers, .inl (cJ, 240, .inr (.inl (fs_numbers))))] s.heap := hP
  have hD : va_D A [(qs, .inr (7, [.ref qs_widths, .ref qs_sizes, .ref qs_numbers])), (qs_widths, .inl (cI, 4, .inl (fs_widths))), (qs_numbers, .inl (cJ, 240, .inr (.inl (fs_numbers))))] := hD
  have hl := lv_entry ([.ref qs, .int a1, .int a2, .long a3]) (n := 5) (Nat.le_of_ble_eq_true rfl)
  rw [lg_entry_eq]
  generalize (lg_sl ([.ref qs, .int a1, .int a2, .long a3]) ++ List.replicate (5 - (lg_sl ([.ref qs, .int a1, .int a2, .long a3])).length) Slot.unset).toArray = ls at hl ⊢
  have hl : lv_has ls 5 [(0, .ref qs), (1, .int a1), (2, .int a2), (3, .long a3)] := hl
  obtain ⟨H, hHe⟩ : ∃ H : Heap, H = s.heap := ⟨_, rfl⟩
  rw [← hHe] at hP
  have hS : va_S A s.heap H [] := by rw [hHe]; exact va_S.rf
  refine ct_start hHe ?_
  refine lv_aload_n hx hb dX7_put_0 rfl (lv_at hl 0 rfl) ?_
  refine va_get (D := D) (ci := 7) (v := .ref qs_numbers) (C := RX7) (T := TX7) (N := 3) hx hb hts hi7 hown hK hP 0 rfl rfl 2 (by decide) (hts (.fieldLink RX7 18 "OverHill$Slots" "numbers" "[J") (by decide +kernel)) (fun _ h9 => h9) rfl dX7_put_1 ?_
  refine lv_iload_n hx hb dX7_put_4 rfl (lv_at hl 1 rfl) ?_
  refine lv_bipush (v := 60) hx hb dX7_put_5 (by decide) ?_
  refine lv_imul hx hb dX7_put_7 ?_
  refine lv_topi (fun z1 ez1 => ?_)
  have fz1 : z1.toInt = a1.toInt * 60 := by rw [ez1]; exact tq_mul rfl (by decide) (by omega)
  refine lv_iload_n hx hb dX7_put_8 rfl (lv_at hl 2 rfl) ?_
  refine lv_iadd hx hb dX7_put_9 ?_
  refine lv_topi (fun z2 ez2 => ?_)
  have fz2 : z2.toInt = z1.toInt + a2.toInt := by rw [ez2]; exact tq_add rfl rfl (by omega)
  refine lv_lload_n hx hb dX7_put_10 rfl (lv_at hl 3 rfl) ?_
  refine lv_aload_n hx hb dX7_put_11 rfl (lv_at hl 0 rfl) ?_
  refine va_get (D := D) (ci := 7) (v := .ref qs_widths) (C := RX7) (T := TX7) (N := 3) hx hb hts hi7 hown hK hP 0 rfl rfl 0 (by decide) (hts (.fieldLink RX7 11 "OverHill$Slots" "widths" "[I") (by decide +kernel)) (fun _ h9 => h9) rfl dX7_put_12 ?_
  refine lv_iload_n hx hb dX7_put_15 rfl (lv_at hl 1 rfl) ?_
  refine va_iald (D := D) hx hb hK hP 1 0 rfl rfl (tq_in rfl (by omega)) dX7_put_16 ?_
  refine lv_topi (fun z3 ez3 => ?_)
  refine ct_calll (D := D) (wc := (w_c_X7_cut cI cJ cB cZ cO )) (wr := [(qs, .inr (7, [.ref qs_widths, .ref qs_sizes, .ref qs_numbers])), (qs_widths, .inl (cI, 4, .inl (fs_widths))), (qs_numbers, .inl (cJ, 240, .inr (.inl (fs_numbers))))]) (va_runS (As := [.long a3, .int z3]) (rest := [.int z2, .ref qs_numbers]) ⟨hx, hb, hml, hown, hts⟩ (c_X7_cut l D G cI cJ cB cZ cO a3 z3  H.size) (va_cwS 2 hts gX7_put_X7_cut rfl rfl rfl (by decide +kernel) ⟨Nat.le_of_ble_eq_true rfl, Nat.le_of_ble_eq_true rfl⟩) (ct_preS (T := ct_T cI cJ cB cZ cO) hE hH hP hD hS hA [] (by decide) rfl) rfl rfl hl.1 rfl (lv_room (Nat.le_of_ble_eq_true rfl)) dX7_put_17 ⟨Nat.le_of_ble_eq_true rfl, Nat.le_of_ble_eq_true rfl⟩) hP hD hS hA [] [0, 1, 2] rfl rfl (by decide) (by decide) (fun r4 u H locs hw hP hD hS => ?_)
  have hP : va_P D vwCl [(qs, .inr (7, [.ref qs_widths, .ref qs_sizes, .ref qs_numbers])), (qs_widths, .inl (cI, 4, .inl (fs_widths))), (qs_numbers, .inl (cJ, 240, .inr (.inl (fs_numbers))))] H := hP
  have hD : va_D A [(qs, .inr (7, [.ref qs_widths, .ref qs_sizes, .ref qs_numbers])), (qs_widths, .inl (cI, 4, .inl (fs_widths))), (qs_numbers, .inl (cJ, 240, .inr (.inl (fs_numbers))))] := hD
  refine va_last (D := D) hx hb hK hP hD hS 2 1 rfl rfl (tq_in rfl (by omega)) dX7_put_20 (fun H locs hP hD hS => ?_)
  obtain ⟨g5, hP, hD⟩ : ∃ g5 : Nat → Int64, va_P D vwCl [(qs, .inr (7, [.ref qs_widths, .ref qs_sizes, .ref qs_numbers])), (qs_widths, .inl (cI, 4, .inl (fs_widths))), (qs_numbers, .inl (cJ, 240, .inr (.inl (g5))))] H ∧ va_D A [(qs, .inr (7, [.ref qs_widths, .ref qs_sizes, .ref qs_numbers])), (qs_widths, .inl (cI, 4, .inl (fs_widths))), (qs_numbers, .inl (cJ, 240, .inr (.inl (g5))))] := ⟨_, hP, hD⟩
  have hP9 := hP.sub (ws' := [(qs, .inr (7, [.ref qs_widths, .ref qs_sizes, .ref qs_numbers])), (qs_widths, .inl (cI, 4, .inl (fs_widths))), (qs_numbers, .inl (cJ, 240, .inr (.inl (g5))))]) [0, 1, 2] rfl
  have hD9 := hD.sub (ws' := [(qs, .inr (7, [.ref qs_widths, .ref qs_sizes, .ref qs_numbers])), (qs_widths, .inl (cI, 4, .inl (fs_widths))), (qs_numbers, .inl (cJ, 240, .inr (.inl (g5))))]) [0, 1, 2] (by decide) rfl
  exact W.vret hx hb hr (fun t ht hW => ⟨⟨g5, rfl, trivial, by rw [ht]; exact hP9, hD9⟩, hS.F ht⟩) hS.2.2 dX7_put_21
abbrev w_c_X7_make (cI cJ cB cZ cO : ClassId) (qs : Nat) (qs_widths : Nat) (fs_widths : Nat → Int32) (qs_sizes : Nat) (fs_sizes : Nat → Int32) (qs_numbers : Nat) (fs_numbers : Nat → Int64) : va_W := [(qs, .inr (7, [.ref qs_widths, .ref qs_sizes, .ref qs_numbers])), (qs_widths, .inl (cI, 4, .inl (fs_widths))), (qs_sizes, .inl (cI, 4, .inl (fs_sizes))), (qs_numbers, .inl (cJ, 240, .inr (.inl (fs_numbers))))]
set_option maxHeartbeats 4000000 in
set_option maxRecDepth 100000 in
/-- X7 make -/
theorem c_X7_make (l : Launch) (D : va_G) (G : ct_G) (cI cJ cB cZ cO : ClassId) (qs : Nat) (qs_widths : Nat) (fs_widths : Nat → Int32) (qs_sizes : Nat) (fs_sizes : Nat → Int32) (qs_numbers : Nat) (fs_numbers : Nat → Int64) (a1 : Int32) (a2 : Int32) (a3 : Int32) (h_fs_sizes : ar_ok [(-1)] [60] fs_sizes) (h_a1 : 0 ≤ a1.toInt ∧ a1.toInt ≤ 3) (h_a3 : 0 ≤ a3.toInt ∧ a3.toInt ≤ 60) (sz : Nat) : Met l yX7_make wsX7_make ({ frames := 0, cells := 0, slots := 0, locals := 0 }) (va_Pc [.ref qs, .int a1, .int a2, .int a3] (ct_P D (ct_T cI cJ cB cZ cO) G (w_c_X7_make cI cJ cB cZ cO qs qs_widths fs_widths qs_sizes fs_sizes qs_numbers fs_numbers) sz)) (va_Qv (fun (u : (Nat → Int32) × (Nat → Int32) × (Nat → Int64)) => (ar_ok [(-1)] [60] u.2.1)) (fun (u : (Nat → Int32) × (Nat → Int32) × (Nat → Int64)) t => ct_Q D (va_A (w_c_X7_make cI cJ cB cZ cO qs qs_widths fs_widths qs_sizes fs_sizes qs_numbers fs_numbers) sz) [(qs, .inr (7, [.ref qs_widths, .ref qs_sizes, .ref qs_numbers])), (qs_widths, .inl (cI, 4, .inl (u.1))), (qs_sizes, .inl (cI, 4, .inl (u.2.1))), (qs_numbers, .inl (cJ, 240, .inr (.inl (u.2.2))))] t) (va_A (w_c_X7_make cI cJ cB cZ cO qs qs_widths fs_widths qs_sizes fs_sizes qs_numbers fs_numbers) sz)) 0 0 (va_A (w_c_X7_make cI cJ cB cZ cO qs qs_widths fs_widths qs_sizes fs_sizes qs_numbers fs_numbers) sz) := by
  refine Met.ofW (cc := cX7_make) (maxL := 5) (ret := none) (by decide) rfl ?_
  intro p e s m args below meth c s₁ B hml hv
  obtain ⟨rfl, hsz, hP, hE, hD0, hH⟩ := hv
  have hx := B.exec
  have hb := B.bytes
  have hr := B.returns
  have hts := atoms_spec (ws := wsX7_make) B.pre
  have hown : s.vm.findClass RX7 = some m.cls := findClass_of_methodNamed B.named
  have hlocks := B.notSynchronized
  have hK := hE.1
  have hi7 : ∀ w ∈ u_ws RX7 TX7 3, w ∈ wsX7_make := fun w h => List.mem_cons_of_mem _ (List.mem_append_right _ h)
  subst hsz
  have hD := hD0.self (sz := s.heap.size)
  generalize hAe : va_A (w_c_X7_make cI cJ cB cZ cO qs qs_widths fs_widths qs_sizes fs_sizes qs_numbers fs_numbers) s.heap.size = A at hD hH ⊢
  have hA : ∀ q : Nat, s.heap.size ≤ q → A q := fun q h => by rw [← hAe]; exact Or.inr h
  have hS : va_S A s.heap s.heap [] := va_S.rf
  have hP : va_P D vwCl [(qs, .inr (7, [.ref qs_widths, .ref qs_sizes, .ref qs_numbers])), (qs_widths, .inl (cI, 4, .inl (fs_widths))), (qs_sizes, .inl (cI, 4, .inl (fs_sizes))), (qs_numbers, .inl (cJ, 240, .inr (.inl (fs_numbers))))] s.heap := hP
  have hD : va_D A [(qs, .inr (7, [.ref qs_widths, .ref qs_sizes, .ref qs_numbers])), (qs_widths, .inl (cI, 4, .inl (fs_widths))), (qs_sizes, .inl (cI, 4, .inl (fs_sizes))), (qs_numbers, .inl (cJ, 240, .inr (.inl (fs_numbers))))] := hD
  have hl := lv_entry ([.ref qs, .int a1, .int a2, .int a3]) (n := 5) (Nat.le_of_ble_eq_true rfl)
  rw [lg_entry_eq]
  generalize (lg_sl ([.ref qs, .int a1, .int a2, .int a3]) ++ List.replicate (5 - (lg_sl ([.ref qs, .int a1, .int a2, .int a3])).length) Slot.unset).toArray = ls at hl ⊢
  have hl : lv_has ls 5 [(0, .ref qs), (1, .int a1), (2, .int a2), (3, .int a3)] := hl
  obtain ⟨H, hHe⟩ : ∃ H : Heap, H = s.heap := ⟨_, rfl⟩
  rw [← hHe] at hP
  have hS : va_S A s.heap H [] := by rw [hHe]; exact va_S.rf
  refine ct_start hHe ?_
  refine lv_aload_n hx hb dX7_make_0 rfl (lv_at hl 0 rfl) ?_
  refine va_get (D := D) (ci := 7) (v := .ref qs_widths) (C := RX7) (T := TX7) (N := 3) hx hb hts hi7 hown hK hP 0 rfl rfl 0 (by decide) (hts (.fieldLink RX7 11 "OverHill$Slots" "widths" "[I") (by decide +kernel)) (fun _ h9 => h9) rfl dX7_make_1 ?_
  refine lv_iload_n hx hb dX7_make_4 rfl (lv_at hl 1 rfl) ?_
  refine lv_iload_n hx hb dX7_make_5 rfl (lv_at hl 2 rfl) ?_
  refine va_iast (D := D) hx hb hK hP hD hS 1 0 rfl rfl (tq_in rfl (by omega)) dX7_make_6 (fun H locs hP hD hS => ?_)
  obtain ⟨g1, hP, hD⟩ : ∃ g1 : Nat → Int32, va_P D vwCl [(qs, .inr (7, [.ref qs_widths, .ref qs_sizes, .ref qs_numbers])), (qs_widths, .inl (cI, 4, .inl (g1))), (qs_sizes, .inl (cI, 4, .inl (fs_sizes))), (qs_numbers, .inl (cJ, 240, .inr (.inl (fs_numbers))))] H ∧ va_D A [(qs, .inr (7, [.ref qs_widths, .ref qs_sizes, .ref qs_numbers])), (qs_widths, .inl (cI, 4, .inl (g1))), (qs_sizes, .inl (cI, 4, .inl (fs_sizes))), (qs_numbers, .inl (cJ, 240, .inr (.inl (fs_numbers))))] := ⟨_, hP, hD⟩
  refine lv_aload_n hx hb dX7_make_7 rfl (lv_at hl 0 rfl) ?_
  refine va_get (D := D) (ci := 7) (v := .ref qs_sizes) (C := RX7) (T := TX7) (N := 3) hx hb hts hi7 hown hK hP 0 rfl rfl 1 (by decide) (hts (.fieldLink RX7 15 "OverHill$Slots" "sizes" "[I") (by decide +kernel)) (fun _ h9 => h9) rfl dX7_make_8 ?_
  refine lv_iload_n hx hb dX7_make_11 rfl (lv_at hl 1 rfl) ?_
  refine lv_iload_n hx hb dX7_make_12 rfl (lv_at hl 3 rfl) ?_
  refine va_iast (D := D) hx hb hK hP hD hS 2 0 rfl rfl (tq_in rfl (by omega)) dX7_make_13 (fun H locs hP hD hS => ?_)
  obtain ⟨g2, h_g2, hP, hD⟩ : ∃ g2 : Nat → Int32, ar_ok [(-1)] [60] g2 ∧ va_P D vwCl [(qs, .inr (7, [.ref qs_widths, .ref qs_sizes, .ref qs_numbers])), (qs_widths, .inl (cI, 4, .inl (g1))), (qs_sizes, .inl (cI, 4, .inl (g2))), (qs_numbers, .inl (cJ, 240, .inr (.inl (fs_numbers))))] H ∧ va_D A [(qs, .inr (7, [.ref qs_widths, .ref qs_sizes, .ref qs_numbers])), (qs_widths, .inl (cI, 4, .inl (g1))), (qs_sizes, .inl (cI, 4, .inl (g2))), (qs_numbers, .inl (cJ, 240, .inr (.inl (fs_numbers))))] := ⟨_, ar_set h_fs_sizes a1 a3 0 (by omega) (show a1.toInt % 1 = 0 by omega) rfl (show (-1) ≤ a3.toInt ∧ a3.toInt ≤ 60 by omega), hP, hD⟩
  refine lv_iconst (v := 0) hx hb dX7_make_14 (by decide) ?_
  refine lv_istore (lv' := [(4, .int 0), (0, .ref qs), (1, .int a1), (2, .int a2), (3, .int a3)]) hx hb dX7_make_15 hl (by decide) rfl (fun ls hl => ?_)
  refine ct_loop (X := (Nat → Int64) × Int32) (fun x => (60 - x.2.toInt).toNat) (fun x H locs ls => ((0 ≤ x.2.toInt ∧ x.2.toInt ≤ 60)) ∧ va_P D vwCl [(qs, .inr (7, [.ref qs_widths, .ref qs_sizes, .ref qs_numbers])), (qs_widths, .inl (cI, 4, .inl (g1))), (qs_sizes, .inl (cI, 4, .inl (g2))), (qs_numbers, .inl (cJ, 240, .inr (.inl (x.1))))] H ∧ va_D A [(qs, .inr (7, [.ref qs_widths, .ref qs_sizes, .ref qs_numbers])), (qs_widths, .inl (cI, 4, .inl (g1))), (qs_sizes, .inl (cI, 4, .inl (g2))), (qs_numbers, .inl (cJ, 240, .inr (.inl (x.1))))] ∧ va_S A s.heap H locs ∧ lv_has ls 5 [(4, .int x.2), (0, .ref qs), (1, .int a1), (2, .int a2), (3, .int a3)]) 17 (fs_numbers, (0 : Int32)) ⟨(show 0 ≤ (0 : Int32).toInt ∧ (0 : Int32).toInt ≤ 60 by decide), hP, hD, hS, lv_sub hl [0, 1, 2, 3, 4] rfl⟩ (fun x ih43 H locs ls hI => ?_)
  obtain ⟨g41, x42⟩ := x
  obtain ⟨h_x42, hP, hD, hS, hl⟩ := hI
  have h_x42 : (0 ≤ x42.toInt ∧ x42.toInt ≤ 60) := h_x42
  have hP : va_P D vwCl [(qs, .inr (7, [.ref qs_widths, .ref qs_sizes, .ref qs_numbers])), (qs_widths, .inl (cI, 4, .inl (g1))), (qs_sizes, .inl (cI, 4, .inl (g2))), (qs_numbers, .inl (cJ, 240, .inr (.inl (g41))))] H := hP
  have hD : va_D A [(qs, .inr (7, [.ref qs_widths, .ref qs_sizes, .ref qs_numbers])), (qs_widths, .inl (cI, 4, .inl (g1))), (qs_sizes, .inl (cI, 4, .inl (g2))), (qs_numbers, .inl (cJ, 240, .inr (.inl (g41))))] := hD
  have hl : lv_has ls 5 [(4, .int x42), (0, .ref qs), (1, .int a1), (2, .int a2), (3, .int a3)] := hl
  refine lv_iload hx hb dX7_make_17 (lv_at hl 0 rfl) ?_
  refine lv_bipush (v := 60) hx hb dX7_make_19 (by decide) ?_
  refine lv_icmp_ge (tgt := 43) hx hb dX7_make_21 (by decide) (fun hc => ?_) (fun hc => ?_)
  · have hq44 : 60 ≤ x42.toInt := tq_le (by decide) rfl hc
    have hP9 := hP.sub (ws' := [(qs, .inr (7, [.ref qs_widths, .ref qs_sizes, .ref qs_numbers])), (qs_widths, .inl (cI, 4, .inl (g1))), (qs_sizes, .inl (cI, 4, .inl (g2))), (qs_numbers, .inl (cJ, 240, .inr (.inl (g41))))]) [0, 1, 2, 3] rfl
    have hD9 := hD.sub (ws' := [(qs, .inr (7, [.ref qs_widths, .ref qs_sizes, .ref qs_numbers])), (qs_widths, .inl (cI, 4, .inl (g1))), (qs_sizes, .inl (cI, 4, .inl (g2))), (qs_numbers, .inl (cJ, 240, .inr (.inl (g41))))]) [0, 1, 2, 3] (by decide) rfl
    exact W.vret hx hb hr (fun t ht hW => ⟨⟨(g1, g2, g41), rfl, h_g2, by rw [ht]; exact hP9, hD9⟩, hS.F ht⟩) hS.2.2 dX7_make_43
  · have hq44 : x42.toInt < 60 := tq_nle (by decide) rfl hc
    refine lv_aload_n hx hb dX7_make_24 rfl (lv_at hl 1 rfl) ?_
    refine va_get (D := D) (ci := 7) (v := .ref qs_numbers) (C := RX7) (T := TX7) (N := 3) hx hb hts hi7 hown hK hP 0 rfl rfl 2 (by decide) (hts (.fieldLink RX7 18 "OverHill$Slots" "numbers" "[J") (by decide +kernel)) (fun _ h9 => h9) rfl dX7_make_25 ?_
    refine lv_iload_n hx hb dX7_make_28 rfl (lv_at hl 2 rfl) ?_
    refine lv_bipush (v := 60) hx hb dX7_make_29 (by decide) ?_
    refine lv_imul hx hb dX7_make_31 ?_
    refine lv_topi (fun z45 ez45 => ?_)
    have fz45 : z45.toInt = a1.toInt * 60 := by rw [ez45]; exact tq_mul rfl (by decide) (by omega)
    refine lv_iload hx hb dX7_make_32 (lv_at hl 0 rfl) ?_
    refine lv_iadd hx hb dX7_make_34 ?_
    refine lv_topi (fun z46 ez46 => ?_)
    have fz46 : z46.toInt = z45.toInt + x42.toInt := by rw [ez46]; exact tq_add rfl rfl (by omega)
    refine lv_lconst (v := 0) hx hb dX7_make_35 (by decide) ?_
    refine va_last (D := D) hx hb hK hP hD hS 3 1 rfl rfl (tq_in rfl (by omega)) dX7_make_36 (fun H locs hP hD hS => ?_)
    obtain ⟨g47, hP, hD⟩ : ∃ g47 : Nat → Int64, va_P D vwCl [(qs, .inr (7, [.ref qs_widths, .ref qs_sizes, .ref qs_numbers])), (qs_widths, .inl (cI, 4, .inl (g1))), (qs_sizes, .inl (cI, 4, .inl (g2))), (qs_numbers, .inl (cJ, 240, .inr (.inl (g47))))] H ∧ va_D A [(qs, .inr (7, [.ref qs_widths, .ref qs_sizes, .ref qs_numbers])), (qs_widths, .inl (cI, 4, .inl (g1))), (qs_sizes, .inl (cI, 4, .inl (g2))), (qs_numbers, .inl (cJ, 240, .inr (.inl (g47))))] := ⟨_, hP, hD⟩
    obtain ⟨z48, ez48⟩ : ∃ z : Int32, z = x42 + 1 := ⟨_, rfl⟩
    have fz48 : z48.toInt = x42.toInt + 1 := by rw [ez48]; exact tq_add rfl (by decide) (by omega)
    refine lv_iinc (v := z48) (lv' := [(4, .int z48), (0, .ref qs), (1, .int a1), (2, .int a2), (3, .int a3)]) hx hb dX7_make_37 hl (k := 0) rfl ez48.symm (by decide) rfl (fun ls hl => ?_)
    refine lv_goto (tgt := 17) hx hb dX7_make_40 (by decide) ?_
    exact ih43 (g47, z48) _ _ _ (show (60 - z48.toInt).toNat < (60 - x42.toInt).toNat by omega) ⟨(show 0 ≤ z48.toInt ∧ z48.toInt ≤ 60 by omega), hP, hD, hS, lv_sub hl [0, 1, 2, 3, 4] rfl⟩
abbrev w_c_X7_holds (cI cJ cB cZ cO : ClassId) (qs : Nat) (qs_widths : Nat) (qs_sizes : Nat) (fs_sizes : Nat → Int32) (qs_numbers : Nat) : va_W := [(qs, .inr (7, [.ref qs_widths, .ref qs_sizes, .ref qs_numbers])), (qs_sizes, .inl (cI, 4, .inl (fs_sizes)))]
set_option maxHeartbeats 4000000 in
set_option maxRecDepth 100000 in
/-- X7 holds -/
theorem c_X7_holds (l : Launch) (D : va_G) (G : ct_G) (cI cJ cB cZ cO : ClassId) (qs : Nat) (qs_widths : Nat) (qs_sizes : Nat) (fs_sizes : Nat → Int32) (qs_numbers : Nat) (a1 : Int32) (a2 : Int32) (a3 : Int32) (h_fs_sizes : ar_ok [(-1)] [60] fs_sizes) (h_a1 : 0 ≤ a1.toInt ∧ a1.toInt ≤ 3) (sz : Nat) : Met l yX7_holds wsX7_holds ({ frames := 0, cells := 0, slots := 0, locals := 0 }) (va_Pc [.ref qs, .int a1, .int a2, .int a3] (ct_P D (ct_T cI cJ cB cZ cO) G (w_c_X7_holds cI cJ cB cZ cO qs qs_widths qs_sizes fs_sizes qs_numbers) sz)) (va_Qi (fun (rz : Int32) (u : Unit) => ((rz = 1 ∧ (0 ≤ a2.toInt ∧ 0 ≤ a3.toInt ∧ a2.toInt + a3.toInt ≤ 60)) ∨ (rz = 0 ∧ True))) (fun (u : Unit) t => ct_Q D (va_A (w_c_X7_holds cI cJ cB cZ cO qs qs_widths qs_sizes fs_sizes qs_numbers) sz) [(qs, .inr (7, [.ref qs_widths, .ref qs_sizes, .ref qs_numbers])), (qs_sizes, .inl (cI, 4, .inl (fs_sizes)))] t) (va_A (w_c_X7_holds cI cJ cB cZ cO qs qs_widths qs_sizes fs_sizes qs_numbers) sz)) 0 0 (va_A (w_c_X7_holds cI cJ cB cZ cO qs qs_widths qs_sizes fs_sizes qs_numbers) sz) := by
  refine Met.ofW (cc := cX7_holds) (maxL := 4) (ret := (some .boolean)) (by decide) rfl ?_
  intro p e s m args below meth c s₁ B hml hv
  obtain ⟨rfl, hsz, hP, hE, hD0, hH⟩ := hv
  have hx := B.exec
  have hb := B.bytes
  have hr := B.returns
  have hts := atoms_spec (ws := wsX7_holds) B.pre
  have hown : s.vm.findClass RX7 = some m.cls := findClass_of_methodNamed B.named
  have hlocks := B.notSynchronized
  have hK := hE.1
  have hi7 : ∀ w ∈ u_ws RX7 TX7 3, w ∈ wsX7_holds := fun w h => List.mem_cons_of_mem _ (List.mem_append_right _ h)
  subst hsz
  have hD := hD0.self (sz := s.heap.size)
  generalize hAe : va_A (w_c_X7_holds cI cJ cB cZ cO qs qs_widths qs_sizes fs_sizes qs_numbers) s.heap.size = A at hD hH ⊢
  have hA : ∀ q : Nat, s.heap.size ≤ q → A q := fun q h => by rw [← hAe]; exact Or.inr h
  have hS : va_S A s.heap s.heap [] := va_S.rf
  have hP : va_P D vwCl [(qs, .inr (7, [.ref qs_widths, .ref qs_sizes, .ref qs_numbers])), (qs_sizes, .inl (cI, 4, .inl (fs_sizes)))] s.heap := hP
  have hD : va_D A [(qs, .inr (7, [.ref qs_widths, .ref qs_sizes, .ref qs_numbers])), (qs_sizes, .inl (cI, 4, .inl (fs_sizes)))] := hD
  have hl := lv_entry ([.ref qs, .int a1, .int a2, .int a3]) (n := 4) (Nat.le_of_ble_eq_true rfl)
  rw [lg_entry_eq]
  generalize (lg_sl ([.ref qs, .int a1, .int a2, .int a3]) ++ List.replicate (4 - (lg_sl ([.ref qs, .int a1, .int a2, .int a3])).length) Slot.unset).toArray = ls at hl ⊢
  have hl : lv_has ls 4 [(0, .ref qs), (1, .int a1), (2, .int a2), (3, .int a3)] := hl
  obtain ⟨H, hHe⟩ : ∃ H : Heap, H = s.heap := ⟨_, rfl⟩
  rw [← hHe] at hP
  have hS : va_S A s.heap H [] := by rw [hHe]; exact va_S.rf
  refine ct_start hHe ?_
  refine lv_iload_n hx hb dX7_holds_0 rfl (lv_at hl 2 rfl) ?_
  refine lv_if_lt (tgt := 34) hx hb dX7_holds_1 (by decide) (fun hc => ?_) (fun hc => ?_)
  · have hq1 : a2.toInt < 0 := tq_lt rfl (by decide) hc
    have hb2 := tq_lo a2
    refine lv_iconst (v := 0) hx hb dX7_holds_34 (by decide) ?_
    have hP9 := hP.sub (ws' := [(qs, .inr (7, [.ref qs_widths, .ref qs_sizes, .ref qs_numbers])), (qs_sizes, .inl (cI, 4, .inl (fs_sizes)))]) [0, 1] rfl
    have hD9 := hD.sub (ws' := [(qs, .inr (7, [.ref qs_widths, .ref qs_sizes, .ref qs_numbers])), (qs_sizes, .inl (cI, 4, .inl (fs_sizes)))]) [0, 1] (by decide) rfl
    exact W.zret (v := 0) (ty := .boolean) hx hb hr rfl (fun t ht hW => ⟨⟨0, (), rfl, (Or.inr (⟨rfl, trivial⟩)), by rw [ht]; exact hP9, hD9⟩, hS.F ht⟩) hS.2.2 dX7_holds_35
  · have hq1 : 0 ≤ a2.toInt := tq_nlt rfl (by decide) hc
    have hb3 := tq_lo a2
    refine lv_iload_n hx hb dX7_holds_4 rfl (lv_at hl 3 rfl) ?_
    refine lv_if_lt (tgt := 34) hx hb dX7_holds_5 (by decide) (fun hc => ?_) (fun hc => ?_)
    · have hq4 : a3.toInt < 0 := tq_lt rfl (by decide) hc
      have hb5 := tq_lo a3
      refine lv_iconst (v := 0) hx hb dX7_holds_34 (by decide) ?_
      have hP9 := hP.sub (ws' := [(qs, .inr (7, [.ref qs_widths, .ref qs_sizes, .ref qs_numbers])), (qs_sizes, .inl (cI, 4, .inl (fs_sizes)))]) [0, 1] rfl
      have hD9 := hD.sub (ws' := [(qs, .inr (7, [.ref qs_widths, .ref qs_sizes, .ref qs_numbers])), (qs_sizes, .inl (cI, 4, .inl (fs_sizes)))]) [0, 1] (by decide) rfl
      exact W.zret (v := 0) (ty := .boolean) hx hb hr rfl (fun t ht hW => ⟨⟨0, (), rfl, (Or.inr (⟨rfl, trivial⟩)), by rw [ht]; exact hP9, hD9⟩, hS.F ht⟩) hS.2.2 dX7_holds_35
    · have hq4 : 0 ≤ a3.toInt := tq_nlt rfl (by decide) hc
      have hb6 := tq_lo a3
      refine lv_iload_n hx hb dX7_holds_8 rfl (lv_at hl 3 rfl) ?_
      refine lv_aload_n hx hb dX7_holds_9 rfl (lv_at hl 0 rfl) ?_
      refine va_get (D := D) (ci := 7) (v := .ref qs_sizes) (C := RX7) (T := TX7) (N := 3) hx hb hts hi7 hown hK hP 0 rfl rfl 1 (by decide) (hts (.fieldLink RX7 15 "OverHill$Slots" "sizes" "[I") (by decide +kernel)) (fun _ h9 => h9) rfl dX7_holds_10 ?_
      refine lv_iload_n hx hb dX7_holds_13 rfl (lv_at hl 1 rfl) ?_
      refine va_iald (D := D) hx hb hK hP 1 0 rfl rfl (tq_in rfl (by omega)) dX7_holds_14 ?_
      refine lv_topi (fun z7 ez7 => ?_)
      have fz7 : (-1) ≤ z7.toInt ∧ z7.toInt ≤ 60 := by rw [ez7]; exact ar_get h_fs_sizes a1 0 (by omega) (show a1.toInt % 1 = 0 by omega) rfl
      refine lv_icmp_gt (tgt := 34) hx hb dX7_holds_15 (by decide) (fun hc => ?_) (fun hc => ?_)
      · have hq8 : z7.toInt < a3.toInt := tq_lt rfl rfl hc
        have hb9 := tq_lo a3
        refine lv_iconst (v := 0) hx hb dX7_holds_34 (by decide) ?_
        have hP9 := hP.sub (ws' := [(qs, .inr (7, [.ref qs_widths, .ref qs_sizes, .ref qs_numbers])), (qs_sizes, .inl (cI, 4, .inl (fs_sizes)))]) [0, 1] rfl
        have hD9 := hD.sub (ws' := [(qs, .inr (7, [.ref qs_widths, .ref qs_sizes, .ref qs_numbers])), (qs_sizes, .inl (cI, 4, .inl (fs_sizes)))]) [0, 1] (by decide) rfl
        exact W.zret (v := 0) (ty := .boolean) hx hb hr rfl (fun t ht hW => ⟨⟨0, (), rfl, (Or.inr (⟨rfl, trivial⟩)), by rw [ht]; exact hP9, hD9⟩, hS.F ht⟩) hS.2.2 dX7_holds_35
      · have hq8 : a3.toInt ≤ z7.toInt := tq_nlt rfl rfl hc
        have hb10 := tq_lo a3
        refine lv_iload_n hx hb dX7_holds_18 rfl (lv_at hl 2 rfl) ?_
        refine lv_aload_n hx hb dX7_holds_19 rfl (lv_at hl 0 rfl) ?_
        refine va_get (D := D) (ci := 7) (v := .ref qs_sizes) (C := RX7) (T := TX7) (N := 3) hx hb hts hi7 hown hK hP 0 rfl rfl 1 (by decide) (hts (.fieldLink RX7 15 "OverHill$Slots" "sizes" "[I") (by decide +kernel)) (fun _ h9 => h9) rfl dX7_holds_20 ?_
        refine lv_iload_n hx hb dX7_holds_23 rfl (lv_at hl 1 rfl) ?_
        refine va_iald (D := D) hx hb hK hP 1 0 rfl rfl (tq_in rfl (by omega)) dX7_holds_24 ?_
        refine lv_topi (fun z11 ez11 => ?_)
        have fz11 : (-1) ≤ z11.toInt ∧ z11.toInt ≤ 60 := by rw [ez11]; exact ar_get h_fs_sizes a1 0 (by omega) (show a1.toInt % 1 = 0 by omega) rfl
        refine lv_iload_n hx hb dX7_holds_25 rfl (lv_at hl 3 rfl) ?_
        refine lv_isub hx hb dX7_holds_26 ?_
        refine lv_topi (fun z12 ez12 => ?_)
        have fz12 : z12.toInt = z11.toInt - a3.toInt := by rw [ez12]; exact tq_subt rfl rfl (by omega)
        refine lv_icmp_gt (tgt := 34) hx hb dX7_holds_27 (by decide) (fun hc => ?_) (fun hc => ?_)
        · have hq13 : z12.toInt < a2.toInt := tq_lt rfl rfl hc
          have hb14 := tq_lo a2
          refine lv_iconst (v := 0) hx hb dX7_holds_34 (by decide) ?_
          have hP9 := hP.sub (ws' := [(qs, .inr (7, [.ref qs_widths, .ref qs_sizes, .ref qs_numbers])), (qs_sizes, .inl (cI, 4, .inl (fs_sizes)))]) [0, 1] rfl
          have hD9 := hD.sub (ws' := [(qs, .inr (7, [.ref qs_widths, .ref qs_sizes, .ref qs_numbers])), (qs_sizes, .inl (cI, 4, .inl (fs_sizes)))]) [0, 1] (by decide) rfl
          exact W.zret (v := 0) (ty := .boolean) hx hb hr rfl (fun t ht hW => ⟨⟨0, (), rfl, (Or.inr (⟨rfl, trivial⟩)), by rw [ht]; exact hP9, hD9⟩, hS.F ht⟩) hS.2.2 dX7_holds_35
        · have hq13 : a2.toInt ≤ z12.toInt := tq_nlt rfl rfl hc
          have hb15 := tq_lo a2
          refine lv_iconst (v := 1) hx hb dX7_holds_30 (by decide) ?_
          refine lv_goto (tgt := 35) hx hb dX7_holds_31 (by decide) ?_
          have hP9 := hP.sub (ws' := [(qs, .inr (7, [.ref qs_widths, .ref qs_sizes, .ref qs_numbers])), (qs_sizes, .inl (cI, 4, .inl (fs_sizes)))]) [0, 1] rfl
          have hD9 := hD.sub (ws' := [(qs, .inr (7, [.ref qs_widths, .ref qs_sizes, .ref qs_numbers])), (qs_sizes, .inl (cI, 4, .inl (fs_sizes)))]) [0, 1] (by decide) rfl
          exact W.zret (v := 1) (ty := .boolean) hx hb hr rfl (fun t ht hW => ⟨⟨1, (), rfl, (Or.inl ⟨rfl, (show (0 ≤ a2.toInt ∧ 0 ≤ a3.toInt ∧ a2.toInt + a3.toInt ≤ 60) by omega)⟩), by rw [ht]; exact hP9, hD9⟩, hS.F ht⟩) hS.2.2 dX7_holds_35
abbrev w_c_X7_move (cI cJ cB cZ cO : ClassId) (qs : Nat) (qs_widths : Nat) (qs_sizes : Nat) (qs_numbers : Nat) (fs_numbers : Nat → Int64) : va_W := [(qs, .inr (7, [.ref qs_widths, .ref qs_sizes, .ref qs_numbers])), (qs_numbers, .inl (cJ, 240, .inr (.inl (fs_numbers))))]
set_option maxHeartbeats 4000000 in
set_option maxRecDepth 100000 in
/-- X7 move -/
theorem c_X7_move (l : Launch) (D : va_G) (G : ct_G) (cI cJ cB cZ cO : ClassId) (qs : Nat) (qs_widths : Nat) (qs_sizes : Nat) (qs_numbers : Nat) (fs_numbers : Nat → Int64) (a1 : Int32) (a2 : Int32) (a3 : Int32) (a4 : Int32) (a5 : Int32) (h_a1 : 0 ≤ a1.toInt ∧ a1.toInt ≤ 3) (h_a2 : 0 ≤ a2.toInt ∧ a2.toInt ≤ 60) (h_a3 : 0 ≤ a3.toInt ∧ a3.toInt ≤ 3) (h_a4 : 0 ≤ a4.toInt ∧ a4.toInt ≤ 60) (h_a5 : 0 ≤ a5.toInt ∧ a5.toInt ≤ 60) (h_s1 : a2.toInt + a5.toInt ≤ 60) (h_s2 : a4.toInt + a5.toInt ≤ 60) (sz : Nat) : Met l yX7_move wsX7_move ({ frames := 1, cells := 0, slots := 0, locals := 60 }) (va_Pc [.ref qs, .int a1, .int a2, .int a3, .int a4, .int a5] (ct_P D (ct_T cI cJ cB cZ cO) G (w_c_X7_move cI cJ cB cZ cO qs qs_widths qs_sizes qs_numbers fs_numbers) sz)) (va_Qv (fun (u : (Nat → Int64)) => True) (fun (u : (Nat → Int64)) t => ct_Q D (va_A (w_c_X7_move cI cJ cB cZ cO qs qs_widths qs_sizes qs_numbers fs_numbers) sz) [(qs, .inr (7, [.ref qs_widths, .ref qs_sizes, .ref qs_numbers])), (qs_numbers, .inl (cJ, 240, .inr (.inl (u))))] t) (va_A (w_c_X7_move cI cJ cB cZ cO qs qs_widths qs_sizes qs_numbers fs_numbers) sz)) 0 0 (va_A (w_c_X7_move cI cJ cB cZ cO qs qs_widths qs_sizes qs_numbers fs_numbers) sz) := by
  refine Met.ofW (cc := cX7_move) (maxL := 6) (ret := none) (by decide) rfl ?_
  intro p e s m args below meth c s₁ B hml hv
  obtain ⟨rfl, hsz, hP, hE, hD0, hH⟩ := hv
  have hx := B.exec
  have hb := B.bytes
  have hr := B.returns
  have hts := atoms_spec (ws := wsX7_move) B.pre
  have hown : s.vm.findClass RX7 = some m.cls := findClass_of_methodNamed B.named
  have hlocks := B.notSynchronized
  have hK := hE.1
  have hi7 : ∀ w ∈ u_ws RX7 TX7 3, w ∈ wsX7_move := fun w h => List.mem_cons_of_mem _ (List.mem_append_right _ h)
  subst hsz
  have hD := hD0.self (sz := s.heap.size)
  generalize hAe : va_A (w_c_X7_move cI cJ cB cZ cO qs qs_widths qs_sizes qs_numbers fs_numbers) s.heap.size = A at hD hH ⊢
  have hA : ∀ q : Nat, s.heap.size ≤ q → A q := fun q h => by rw [← hAe]; exact Or.inr h
  have hS : va_S A s.heap s.heap [] := va_S.rf
  have hP : va_P D vwCl [(qs, .inr (7, [.ref qs_widths, .ref qs_sizes, .ref qs_numbers])), (qs_numbers, .inl (cJ, 240, .inr (.inl (fs_numbers))))] s.heap := hP
  have hD : va_D A [(qs, .inr (7, [.ref qs_widths, .ref qs_sizes, .ref qs_numbers])), (qs_numbers, .inl (cJ, 240, .inr (.inl (fs_numbers))))] := hD
  have hl := lv_entry ([.ref qs, .int a1, .int a2, .int a3, .int a4, .int a5]) (n := 6) (Nat.le_of_ble_eq_true rfl)
  rw [lg_entry_eq]
  generalize (lg_sl ([.ref qs, .int a1, .int a2, .int a3, .int a4, .int a5]) ++ List.replicate (6 - (lg_sl ([.ref qs, .int a1, .int a2, .int a3, .int a4, .int a5])).length) Slot.unset).toArray = ls at hl ⊢
  have hl : lv_has ls 6 [(0, .ref qs), (1, .int a1), (2, .int a2), (3, .int a3), (4, .int a4), (5, .int a5)] := hl
  obtain ⟨H, hHe⟩ : ∃ H : Heap, H = s.heap := ⟨_, rfl⟩
  rw [← hHe] at hP
  have hS : va_S A s.heap H [] := by rw [hHe]; exact va_S.rf
  refine ct_start hHe ?_
  refine lv_aload_n hx hb dX7_move_0 rfl (lv_at hl 0 rfl) ?_
  refine va_get (D := D) (ci := 7) (v := .ref qs_numbers) (C := RX7) (T := TX7) (N := 3) hx hb hts hi7 hown hK hP 0 rfl rfl 2 (by decide) (hts (.fieldLink RX7 18 "OverHill$Slots" "numbers" "[J") (by decide +kernel)) (fun _ h9 => h9) rfl dX7_move_1 ?_
  refine lv_iload_n hx hb dX7_move_4 rfl (lv_at hl 1 rfl) ?_
  refine lv_bipush (v := 60) hx hb dX7_move_5 (by decide) ?_
  refine lv_imul hx hb dX7_move_7 ?_
  refine lv_topi (fun z1 ez1 => ?_)
  have fz1 : z1.toInt = a1.toInt * 60 := by rw [ez1]; exact tq_mul rfl (by decide) (by omega)
  refine lv_iload_n hx hb dX7_move_8 rfl (lv_at hl 2 rfl) ?_
  refine lv_iadd hx hb dX7_move_9 ?_
  refine lv_topi (fun z2 ez2 => ?_)
  have fz2 : z2.toInt = z1.toInt + a2.toInt := by rw [ez2]; exact tq_add rfl rfl (by omega)
  refine lv_aload_n hx hb dX7_move_10 rfl (lv_at hl 0 rfl) ?_
  refine va_get (D := D) (ci := 7) (v := .ref qs_numbers) (C := RX7) (T := TX7) (N := 3) hx hb hts hi7 hown hK hP 0 rfl rfl 2 (by decide) (hts (.fieldLink RX7 18 "OverHill$Slots" "numbers" "[J") (by decide +kernel)) (fun _ h9 => h9) rfl dX7_move_11 ?_
  refine lv_iload_n hx hb dX7_move_14 rfl (lv_at hl 3 rfl) ?_
  refine lv_bipush (v := 60) hx hb dX7_move_15 (by decide) ?_
  refine lv_imul hx hb dX7_move_17 ?_
  refine lv_topi (fun z3 ez3 => ?_)
  have fz3 : z3.toInt = a3.toInt * 60 := by rw [ez3]; exact tq_mul rfl (by decide) (by omega)
  refine lv_iload hx hb dX7_move_18 (lv_at hl 4 rfl) ?_
  refine lv_iadd hx hb dX7_move_20 ?_
  refine lv_topi (fun z4 ez4 => ?_)
  have fz4 : z4.toInt = z3.toInt + a4.toInt := by rw [ez4]; exact tq_add rfl rfl (by omega)
  refine lv_iload hx hb dX7_move_21 (lv_at hl 5 rfl) ?_
  refine va_copyl (D := D) hx hb (hml.trans hl.1.symm) hown (hts (.methodLink RX7 34 arraycopyName) (by decide +kernel)) (hts (.native arraycopyName) (by decide +kernel)) (hts (.static arraycopyName) (by decide +kernel)) (hts (.initialized "java/lang/System") (by decide +kernel)) hK hP hD hS 1 1 1 1 rfl rfl rfl rfl (tq_nn (by omega)) (tq_nn (by omega)) (tq_nn (by omega)) (tq_fit rfl rfl (by omega) (by omega) (by omega)) (tq_fit rfl rfl (by omega) (by omega) (by omega)) (Nat.le_of_ble_eq_true rfl) (Nat.le_of_ble_eq_true rfl) dX7_move_23 (fun H locs hP hD hS => ?_)
  obtain ⟨g5, hP, hD⟩ : ∃ g5 : Nat → Int64, va_P D vwCl [(qs, .inr (7, [.ref qs_widths, .ref qs_sizes, .ref qs_numbers])), (qs_numbers, .inl (cJ, 240, .inr (.inl (g5))))] H ∧ va_D A [(qs, .inr (7, [.ref qs_widths, .ref qs_sizes, .ref qs_numbers])), (qs_numbers, .inl (cJ, 240, .inr (.inl (g5))))] := ⟨_, hP, hD⟩
  have hP9 := hP.sub (ws' := [(qs, .inr (7, [.ref qs_widths, .ref qs_sizes, .ref qs_numbers])), (qs_numbers, .inl (cJ, 240, .inr (.inl (g5))))]) [0, 1] rfl
  have hD9 := hD.sub (ws' := [(qs, .inr (7, [.ref qs_widths, .ref qs_sizes, .ref qs_numbers])), (qs_numbers, .inl (cJ, 240, .inr (.inl (g5))))]) [0, 1] (by decide) rfl
  exact W.vret hx hb hr (fun t ht hW => ⟨⟨g5, rfl, trivial, by rw [ht]; exact hP9, hD9⟩, hS.F ht⟩) hS.2.2 dX7_move_26
abbrev w_c_X7_told (cI cJ cB cZ cO : ClassId) (qs : Nat) (qs_widths : Nat) (qs_sizes : Nat) (fs_sizes : Nat → Int32) (qs_numbers : Nat) (fs_numbers : Nat → Int64) : va_W := [(qs, .inr (7, [.ref qs_widths, .ref qs_sizes, .ref qs_numbers])), (qs_sizes, .inl (cI, 4, .inl (fs_sizes))), (qs_numbers, .inl (cJ, 240, .inr (.inl (fs_numbers))))]
set_option maxHeartbeats 4000000 in
set_option maxRecDepth 100000 in
/-- X7 told -/
theorem c_X7_told (l : Launch) (D : va_G) (G : ct_G) (cI cJ cB cZ cO : ClassId) (qs : Nat) (qs_widths : Nat) (qs_sizes : Nat) (fs_sizes : Nat → Int32) (qs_numbers : Nat) (fs_numbers : Nat → Int64) (a1 : Int32) (a2 : Int32) (a3 : Int32) (h_fs_sizes : ar_ok [(-1)] [60] fs_sizes) (h_a1 : 0 ≤ a1.toInt ∧ a1.toInt ≤ 3) (h_a2 : (-1) ≤ a2.toInt ∧ a2.toInt ≤ 12) (h_a3 : 0 ≤ a3.toInt ∧ a3.toInt ≤ 60) (sz : Nat) : Met l yX7_told wsX7_told ({ frames := 1, cells := 0, slots := 0, locals := 22 }) (va_Pc [.ref qs, .int a1, .int a2, .int a3] (ct_P D (ct_T cI cJ cB cZ cO) G (w_c_X7_told cI cJ cB cZ cO qs qs_widths qs_sizes fs_sizes qs_numbers fs_numbers) sz)) (va_Qi (fun (rz : Int32) (u : Unit) => True) (fun (u : Unit) t => ct_Q D (va_A (w_c_X7_told cI cJ cB cZ cO qs qs_widths qs_sizes fs_sizes qs_numbers fs_numbers) sz) [(qs, .inr (7, [.ref qs_widths, .ref qs_sizes, .ref qs_numbers])), (qs_sizes, .inl (cI, 4, .inl (fs_sizes))), (qs_numbers, .inl (cJ, 240, .inr (.inl (fs_numbers))))] t) (va_A (w_c_X7_told cI cJ cB cZ cO qs qs_widths qs_sizes fs_sizes qs_numbers fs_numbers) sz)) 0 0 (va_A (w_c_X7_told cI cJ cB cZ cO qs qs_widths qs_sizes fs_sizes qs_numbers fs_numbers) sz) := by
  refine Met.ofW (cc := cX7_told) (maxL := 5) (ret := (some .int)) (by decide) rfl ?_
  intro p e s m args below meth c s₁ B hml hv
  obtain ⟨rfl, hsz, hP, hE, hD0, hH⟩ := hv
  have hx := B.exec
  have hb := B.bytes
  have hr := B.returns
  have hts := atoms_spec (ws := wsX7_told) B.pre
  have hown : s.vm.findClass RX7 = some m.cls := findClass_of_methodNamed B.named
  have hlocks := B.notSynchronized
  have hK := hE.1
  have hi7 : ∀ w ∈ u_ws RX7 TX7 3, w ∈ wsX7_told := fun w h => List.mem_cons_of_mem _ (List.mem_append_right _ h)
  subst hsz
  have hD := hD0.self (sz := s.heap.size)
  generalize hAe : va_A (w_c_X7_told cI cJ cB cZ cO qs qs_widths qs_sizes fs_sizes qs_numbers fs_numbers) s.heap.size = A at hD hH ⊢
  have hA : ∀ q : Nat, s.heap.size ≤ q → A q := fun q h => by rw [← hAe]; exact Or.inr h
  have hS : va_S A s.heap s.heap [] := va_S.rf
  have hP : va_P D vwCl [(qs, .inr (7, [.ref qs_widths, .ref qs_sizes, .ref qs_numbers])), (qs_sizes, .inl (cI, 4, .inl (fs_sizes))), (qs_numbers, .inl (cJ, 240, .inr (.inl (fs_numbers))))] s.heap := hP
  have hD : va_D A [(qs, .inr (7, [.ref qs_widths, .ref qs_sizes, .ref qs_numbers])), (qs_sizes, .inl (cI, 4, .inl (fs_sizes))), (qs_numbers, .inl (cJ, 240, .inr (.inl (fs_numbers))))] := hD
  have hl := lv_entry ([.ref qs, .int a1, .int a2, .int a3]) (n := 5) (Nat.le_of_ble_eq_true rfl)
  rw [lg_entry_eq]
  generalize (lg_sl ([.ref qs, .int a1, .int a2, .int a3]) ++ List.replicate (5 - (lg_sl ([.ref qs, .int a1, .int a2, .int a3])).length) Slot.unset).toArray = ls at hl ⊢
  have hl : lv_has ls 5 [(0, .ref qs), (1, .int a1), (2, .int a2), (3, .int a3)] := hl
  obtain ⟨H, hHe⟩ : ∃ H : Heap, H = s.heap := ⟨_, rfl⟩
  rw [← hHe] at hP
  have hS : va_S A s.heap H [] := by rw [hHe]; exact va_S.rf
  refine ct_start hHe ?_
  refine lv_iload_n hx hb dX7_told_0 rfl (lv_at hl 2 rfl) ?_
  refine lv_iconst (v := 1) hx hb dX7_told_1 (by decide) ?_
  refine lv_icmp_ge (tgt := 7) hx hb dX7_told_2 (by decide) (fun hc => ?_) (fun hc => ?_)
  · have hq1 : 1 ≤ a2.toInt := tq_le (by decide) rfl hc
    refine lv_iload_n hx hb dX7_told_7 rfl (lv_at hl 3 rfl) ?_
    refine lv_istore (lv' := [(4, .int a3), (0, .ref qs), (1, .int a1), (2, .int a2), (3, .int a3)]) hx hb dX7_told_8 hl (by decide) rfl (fun ls hl => ?_)
    refine ct_loop (X := Int32) (fun x => (71 - x.toInt).toNat) (fun x H locs ls => ((0 ≤ x.toInt ∧ x.toInt ≤ 71)) ∧ va_P D vwCl [(qs, .inr (7, [.ref qs_widths, .ref qs_sizes, .ref qs_numbers])), (qs_sizes, .inl (cI, 4, .inl (fs_sizes))), (qs_numbers, .inl (cJ, 240, .inr (.inl (fs_numbers))))] H ∧ va_D A [(qs, .inr (7, [.ref qs_widths, .ref qs_sizes, .ref qs_numbers])), (qs_sizes, .inl (cI, 4, .inl (fs_sizes))), (qs_numbers, .inl (cJ, 240, .inr (.inl (fs_numbers))))] ∧ va_S A s.heap H locs ∧ lv_has ls 5 [(4, .int x), (0, .ref qs), (1, .int a1), (2, .int a2), (3, .int a3)]) 10 a3 ⟨(show 0 ≤ a3.toInt ∧ a3.toInt ≤ 71 by omega), hP, hD, hS, lv_sub hl [0, 1, 2, 3, 4] rfl⟩ (fun x ih22 H locs ls hI => ?_)
    obtain ⟨x21, rfl⟩ : ∃ z, z = x := ⟨_, rfl⟩
    obtain ⟨h_x21, hP, hD, hS, hl⟩ := hI
    have h_x21 : (0 ≤ x21.toInt ∧ x21.toInt ≤ 71) := h_x21
    have hP : va_P D vwCl [(qs, .inr (7, [.ref qs_widths, .ref qs_sizes, .ref qs_numbers])), (qs_sizes, .inl (cI, 4, .inl (fs_sizes))), (qs_numbers, .inl (cJ, 240, .inr (.inl (fs_numbers))))] H := hP
    have hD : va_D A [(qs, .inr (7, [.ref qs_widths, .ref qs_sizes, .ref qs_numbers])), (qs_sizes, .inl (cI, 4, .inl (fs_sizes))), (qs_numbers, .inl (cJ, 240, .inr (.inl (fs_numbers))))] := hD
    have hl : lv_has ls 5 [(4, .int x21), (0, .ref qs), (1, .int a1), (2, .int a2), (3, .int a3)] := hl
    refine lv_iload hx hb dX7_told_10 (lv_at hl 0 rfl) ?_
    refine lv_aload_n hx hb dX7_told_12 rfl (lv_at hl 1 rfl) ?_
    refine va_get (D := D) (ci := 7) (v := .ref qs_sizes) (C := RX7) (T := TX7) (N := 3) hx hb hts hi7 hown hK hP 0 rfl rfl 1 (by decide) (hts (.fieldLink RX7 15 "OverHill$Slots" "sizes" "[I") (by decide +kernel)) (fun _ h9 => h9) rfl dX7_told_13 ?_
    refine lv_iload_n hx hb dX7_told_16 rfl (lv_at hl 2 rfl) ?_
    refine va_iald (D := D) hx hb hK hP 1 0 rfl rfl (tq_in rfl (by omega)) dX7_told_17 ?_
    refine lv_topi (fun z23 ez23 => ?_)
    have fz23 : (-1) ≤ z23.toInt ∧ z23.toInt ≤ 60 := by rw [ez23]; exact ar_get h_fs_sizes a1 0 (by omega) (show a1.toInt % 1 = 0 by omega) rfl
    refine lv_icmp_ge (tgt := 53) hx hb dX7_told_18 (by decide) (fun hc => ?_) (fun hc => ?_)
    · have hq24 : z23.toInt ≤ x21.toInt := tq_le rfl rfl hc
      refine lv_iconst (v := (-1)) hx hb dX7_told_53 (by decide) ?_
      have hP9 := hP.sub (ws' := [(qs, .inr (7, [.ref qs_widths, .ref qs_sizes, .ref qs_numbers])), (qs_sizes, .inl (cI, 4, .inl (fs_sizes))), (qs_numbers, .inl (cJ, 240, .inr (.inl (fs_numbers))))]) [0, 1, 2] rfl
      have hD9 := hD.sub (ws' := [(qs, .inr (7, [.ref qs_widths, .ref qs_sizes, .ref qs_numbers])), (qs_sizes, .inl (cI, 4, .inl (fs_sizes))), (qs_numbers, .inl (cJ, 240, .inr (.inl (fs_numbers))))]) [0, 1, 2] (by decide) rfl
      exact W.iret (v := (-1)) hx hb hr (fun t ht hW => ⟨⟨(-1), (), rfl, trivial, by rw [ht]; exact hP9, hD9⟩, hS.F ht⟩) hS.2.2 dX7_told_54
    · have hq24 : x21.toInt < z23.toInt := tq_nle rfl rfl hc
      refine lv_aload_n hx hb dX7_told_21 rfl (lv_at hl 1 rfl) ?_
      refine lv_iload_n hx hb dX7_told_22 rfl (lv_at hl 2 rfl) ?_
      refine lv_iload hx hb dX7_told_23 (lv_at hl 0 rfl) ?_
      refine ct_calll (D := D) (wc := (w_c_X7_at cI cJ cB cZ cO qs qs_widths qs_sizes qs_numbers fs_numbers)) (wr := [(qs_sizes, .inl (cI, 4, .inl (fs_sizes)))]) (va_runV (As := [.int a1, .int x21]) (rest := []) ⟨hx, hb, hml, hown, hts⟩ (c_X7_at l D G cI cJ cB cZ cO qs qs_widths qs_sizes qs_numbers fs_numbers a1 x21 (by omega) (by omega) H.size) (cwV 2 hts gX7_told_X7_at rfl rfl rfl (by decide +kernel) ⟨Nat.le_of_ble_eq_true rfl, Nat.le_of_ble_eq_true rfl⟩) (ct_preV (T := ct_T cI cJ cB cZ cO) (ci := 7) (q0 := 0) hE hH hP hD hS hA [0, 2] (by decide) rfl rfl rfl) rfl rfl hl.1 rfl (lv_room (Nat.le_of_ble_eq_true rfl)) dX7_told_25 ⟨Nat.le_of_ble_eq_true rfl, Nat.le_of_ble_eq_true rfl⟩) hP hD hS hA [0, 2] [1] rfl rfl (by decide) (by decide) (fun r25 u H locs hw hP hD hS => ?_)
      have hP : va_P D vwCl [(qs_sizes, .inl (cI, 4, .inl (fs_sizes))), (qs, .inr (7, [.ref qs_widths, .ref qs_sizes, .ref qs_numbers])), (qs_numbers, .inl (cJ, 240, .inr (.inl (fs_numbers))))] H := hP
      have hD : va_D A [(qs_sizes, .inl (cI, 4, .inl (fs_sizes))), (qs, .inr (7, [.ref qs_widths, .ref qs_sizes, .ref qs_numbers])), (qs_numbers, .inl (cJ, 240, .inr (.inl (fs_numbers))))] := hD
      have hp0 := hw
      have hp_26 : r25 = fs_numbers (60 * a1.toInt + x21.toInt).toNat := hp0
      refine lv_ldc2 (v := (-1)) hx hb hown (hts (.constantLong RX7 60 (-1)) (by decide +kernel)) dX7_told_28 ?_
      refine W.lcmp hx hb dX7_told_31 ?_
      refine lv_if_eq (tgt := 44) hx hb dX7_told_32 (by decide) (fun hc => ?_) (fun hc => ?_)
      · have hq27 : r25.toInt = (-1) := tl_eq rfl (by decide) ((lg_cmp_eq _ _).mp hc)
        refine lv_iload hx hb dX7_told_44 (lv_at hl 0 rfl) ?_
        refine lv_iload_n hx hb dX7_told_46 rfl (lv_at hl 3 rfl) ?_
        refine lv_iadd hx hb dX7_told_47 ?_
        refine lv_topi (fun z28 ez28 => ?_)
        have fz28 : z28.toInt = x21.toInt + a2.toInt := by rw [ez28]; exact tq_add rfl rfl (by omega)
        refine lv_istore (lv' := [(4, .int z28), (0, .ref qs), (1, .int a1), (2, .int a2), (3, .int a3)]) hx hb dX7_told_48 hl (by decide) rfl (fun ls hl => ?_)
        refine lv_goto (tgt := 10) hx hb dX7_told_50 (by decide) ?_
        have hP9 := hP.sub (ws' := [(qs, .inr (7, [.ref qs_widths, .ref qs_sizes, .ref qs_numbers])), (qs_sizes, .inl (cI, 4, .inl (fs_sizes))), (qs_numbers, .inl (cJ, 240, .inr (.inl (fs_numbers))))]) [1, 0, 2] rfl
        have hD9 := hD.sub (ws' := [(qs, .inr (7, [.ref qs_widths, .ref qs_sizes, .ref qs_numbers])), (qs_sizes, .inl (cI, 4, .inl (fs_sizes))), (qs_numbers, .inl (cJ, 240, .inr (.inl (fs_numbers))))]) [1, 0, 2] (by decide) rfl
        exact ih22 z28 _ _ _ (show (71 - z28.toInt).toNat < (71 - x21.toInt).toNat by omega) ⟨(show 0 ≤ z28.toInt ∧ z28.toInt ≤ 71 by omega), hP9, hD9, hS, lv_sub hl [0, 1, 2, 3, 4] rfl⟩
      · have hq27 : r25.toInt ≠ (-1) := tl_ne rfl (by decide) (fun z => hc ((lg_cmp_eq _ _).mpr z))
        refine lv_aload_n hx hb dX7_told_35 rfl (lv_at hl 1 rfl) ?_
        refine lv_iload_n hx hb dX7_told_36 rfl (lv_at hl 2 rfl) ?_
        refine lv_iload hx hb dX7_told_37 (lv_at hl 0 rfl) ?_
        refine ct_calll (D := D) (wc := (w_c_X7_at cI cJ cB cZ cO qs qs_widths qs_sizes qs_numbers fs_numbers)) (wr := [(qs_sizes, .inl (cI, 4, .inl (fs_sizes)))]) (va_runV (As := [.int a1, .int x21]) (rest := []) ⟨hx, hb, hml, hown, hts⟩ (c_X7_at l D G cI cJ cB cZ cO qs qs_widths qs_sizes qs_numbers fs_numbers a1 x21 (by omega) (by omega) H.size) (cwV 2 hts gX7_told_X7_at rfl rfl rfl (by decide +kernel) ⟨Nat.le_of_ble_eq_true rfl, Nat.le_of_ble_eq_true rfl⟩) (ct_preV (T := ct_T cI cJ cB cZ cO) (ci := 7) (q0 := 1) hE hH hP hD hS hA [1, 2] (by decide) rfl rfl rfl) rfl rfl hl.1 rfl (lv_room (Nat.le_of_ble_eq_true rfl)) dX7_told_39 ⟨Nat.le_of_ble_eq_true rfl, Nat.le_of_ble_eq_true rfl⟩) hP hD hS hA [1, 2] [0] rfl rfl (by decide) (by decide) (fun r29 u H locs hw hP hD hS => ?_)
        have hP : va_P D vwCl [(qs_sizes, .inl (cI, 4, .inl (fs_sizes))), (qs, .inr (7, [.ref qs_widths, .ref qs_sizes, .ref qs_numbers])), (qs_numbers, .inl (cJ, 240, .inr (.inl (fs_numbers))))] H := hP
        have hD : va_D A [(qs_sizes, .inl (cI, 4, .inl (fs_sizes))), (qs, .inr (7, [.ref qs_widths, .ref qs_sizes, .ref qs_numbers])), (qs_numbers, .inl (cJ, 240, .inr (.inl (fs_numbers))))] := hD
        have hp0 := hw
        have hp_30 : r29 = fs_numbers (60 * a1.toInt + x21.toInt).toNat := hp0
        refine lv_l2i (v := _) hx hb dX7_told_42 rfl ?_
        refine lv_topi (fun z31 ez31 => ?_)
        have hP9 := hP.sub (ws' := [(qs, .inr (7, [.ref qs_widths, .ref qs_sizes, .ref qs_numbers])), (qs_sizes, .inl (cI, 4, .inl (fs_sizes))), (qs_numbers, .inl (cJ, 240, .inr (.inl (fs_numbers))))]) [1, 0, 2] rfl
        have hD9 := hD.sub (ws' := [(qs, .inr (7, [.ref qs_widths, .ref qs_sizes, .ref qs_numbers])), (qs_sizes, .inl (cI, 4, .inl (fs_sizes))), (qs_numbers, .inl (cJ, 240, .inr (.inl (fs_numbers))))]) [1, 0, 2] (by decide) rfl
        exact W.iret (v := z31) hx hb hr (fun t ht hW => ⟨⟨z31, (), rfl, trivial, by rw [ht]; exact hP9, hD9⟩, hS.F ht⟩) hS.2.2 dX7_told_43
  · have hq1 : a2.toInt < 1 := tq_nle (by decide) rfl hc
    refine lv_iconst (v := (-1)) hx hb dX7_told_5 (by decide) ?_
    have hP9 := hP.sub (ws' := [(qs, .inr (7, [.ref qs_widths, .ref qs_sizes, .ref qs_numbers])), (qs_sizes, .inl (cI, 4, .inl (fs_sizes))), (qs_numbers, .inl (cJ, 240, .inr (.inl (fs_numbers))))]) [0, 1, 2] rfl
    have hD9 := hD.sub (ws' := [(qs, .inr (7, [.ref qs_widths, .ref qs_sizes, .ref qs_numbers])), (qs_sizes, .inl (cI, 4, .inl (fs_sizes))), (qs_numbers, .inl (cJ, 240, .inr (.inl (fs_numbers))))]) [0, 1, 2] (by decide) rfl
    exact W.iret (v := (-1)) hx hb hr (fun t ht hW => ⟨⟨(-1), (), rfl, trivial, by rw [ht]; exact hP9, hD9⟩, hS.F ht⟩) hS.2.2 dX7_told_6
abbrev w_c_X7_countUntold (cI cJ cB cZ cO : ClassId) (qs : Nat) (qs_widths : Nat) (qs_sizes : Nat) (fs_sizes : Nat → Int32) (qs_numbers : Nat) (fs_numbers : Nat → Int64) : va_W := [(qs, .inr (7, [.ref qs_widths, .ref qs_sizes, .ref qs_numbers])), (qs_sizes, .inl (cI, 4, .inl (fs_sizes))), (qs_numbers, .inl (cJ, 240, .inr (.inl (fs_numbers))))]
set_option maxHeartbeats 4000000 in
set_option maxRecDepth 100000 in
/-- X7 countUntold -/
theorem c_X7_countUntold (l : Launch) (D : va_G) (G : ct_G) (cI cJ cB cZ cO : ClassId) (qs : Nat) (qs_widths : Nat) (qs_sizes : Nat) (fs_sizes : Nat → Int32) (qs_numbers : Nat) (fs_numbers : Nat → Int64) (a1 : Int32) (a2 : Int32) (h_fs_sizes : ar_ok [(-1)] [60] fs_sizes) (h_a1 : 0 ≤ a1.toInt ∧ a1.toInt ≤ 3) (h_a2 : (-1) ≤ a2.toInt ∧ a2.toInt ≤ 12) (sz : Nat) : Met l yX7_countUntold wsX7_countUntold ({ frames := 2, cells := 0, slots := 0, locals := 46 }) (va_Pc [.ref qs, .int a1, .int a2] (ct_P D (ct_T cI cJ cB cZ cO) G (w_c_X7_countUntold cI cJ cB cZ cO qs qs_widths qs_sizes fs_sizes qs_numbers fs_numbers) sz)) (va_Qi (fun (rz : Int32) (u : Unit) => True) (fun (u : Unit) t => ct_Q D (va_A (w_c_X7_countUntold cI cJ cB cZ cO qs qs_widths qs_sizes fs_sizes qs_numbers fs_numbers) sz) [(qs, .inr (7, [.ref qs_widths, .ref qs_sizes, .ref qs_numbers])), (qs_sizes, .inl (cI, 4, .inl (fs_sizes))), (qs_numbers, .inl (cJ, 240, .inr (.inl (fs_numbers))))] t) (va_A (w_c_X7_countUntold cI cJ cB cZ cO qs qs_widths qs_sizes fs_sizes qs_numbers fs_numbers) sz)) 0 0 (va_A (w_c_X7_countUntold cI cJ cB cZ cO qs qs_widths qs_sizes fs_sizes qs_numbers fs_numbers) sz) := by
  refine Met.ofW (cc := cX7_countUntold) (maxL := 5) (ret := (some .int)) (by decide) rfl ?_
  intro p e s m args below meth c s₁ B hml hv
  obtain ⟨rfl, hsz, hP, hE, hD0, hH⟩ := hv
  have hx := B.exec
  have hb := B.bytes
  have hr := B.returns
  have hts := atoms_spec (ws := wsX7_countUntold) B.pre
  have hown : s.vm.findClass RX7 = some m.cls := findClass_of_methodNamed B.named
  have hlocks := B.notSynchronized
  have hK := hE.1
  subst hsz
  have hD := hD0.self (sz := s.heap.size)
  generalize hAe : va_A (w_c_X7_countUntold cI cJ cB cZ cO qs qs_widths qs_sizes fs_sizes qs_numbers fs_numbers) s.heap.size = A at hD hH ⊢
  have hA : ∀ q : Nat, s.heap.size ≤ q → A q := fun q h => by rw [← hAe]; exact Or.inr h
  have hS : va_S A s.heap s.heap [] := va_S.rf
  have hP : va_P D vwCl [(qs, .inr (7, [.ref qs_widths, .ref qs_sizes, .ref qs_numbers])), (qs_sizes, .inl (cI, 4, .inl (fs_sizes))), (qs_numbers, .inl (cJ, 240, .inr (.inl (fs_numbers))))] s.heap := hP
  have hD : va_D A [(qs, .inr (7, [.ref qs_widths, .ref qs_sizes, .ref qs_numbers])), (qs_sizes, .inl (cI, 4, .inl (fs_sizes))), (qs_numbers, .inl (cJ, 240, .inr (.inl (fs_numbers))))] := hD
  have hl := lv_entry ([.ref qs, .int a1, .int a2]) (n := 5) (Nat.le_of_ble_eq_true rfl)
  rw [lg_entry_eq]
  generalize (lg_sl ([.ref qs, .int a1, .int a2]) ++ List.replicate (5 - (lg_sl ([.ref qs, .int a1, .int a2])).length) Slot.unset).toArray = ls at hl ⊢
  have hl : lv_has ls 5 [(0, .ref qs), (1, .int a1), (2, .int a2)] := hl
  obtain ⟨H, hHe⟩ : ∃ H : Heap, H = s.heap := ⟨_, rfl⟩
  rw [← hHe] at hP
  have hS : va_S A s.heap H [] := by rw [hHe]; exact va_S.rf
  refine ct_start hHe ?_
  refine lv_iconst (v := 0) hx hb dX7_countUntold_0 (by decide) ?_
  refine lv_istore_n (lv' := [(3, .int 0), (0, .ref qs), (1, .int a1), (2, .int a2)]) hx hb dX7_countUntold_1 rfl hl (by decide) rfl (fun ls hl => ?_)
  refine lv_iconst (v := 0) hx hb dX7_countUntold_2 (by decide) ?_
  refine lv_istore (lv' := [(4, .int 0), (3, .int 0), (0, .ref qs), (1, .int a1), (2, .int a2)]) hx hb dX7_countUntold_3 hl (by decide) rfl (fun ls hl => ?_)
  refine ct_loop (X := Int32 × Int32) (fun x => (12 - x.2.toInt).toNat) (fun x H locs ls => ((0 ≤ x.2.toInt ∧ x.2.toInt ≤ 12)) ∧ va_P D vwCl [(qs, .inr (7, [.ref qs_widths, .ref qs_sizes, .ref qs_numbers])), (qs_sizes, .inl (cI, 4, .inl (fs_sizes))), (qs_numbers, .inl (cJ, 240, .inr (.inl (fs_numbers))))] H ∧ va_D A [(qs, .inr (7, [.ref qs_widths, .ref qs_sizes, .ref qs_numbers])), (qs_sizes, .inl (cI, 4, .inl (fs_sizes))), (qs_numbers, .inl (cJ, 240, .inr (.inl (fs_numbers))))] ∧ va_S A s.heap H locs ∧ lv_has ls 5 [(4, .int x.2), (3, .int x.1), (0, .ref qs), (1, .int a1), (2, .int a2)]) 5 ((0 : Int32), (0 : Int32)) ⟨(show 0 ≤ (0 : Int32).toInt ∧ (0 : Int32).toInt ≤ 12 by decide), hP, hD, hS, lv_sub hl [0, 1, 2, 3, 4] rfl⟩ (fun x ih67 H locs ls hI => ?_)
  obtain ⟨x65, x66⟩ := x
  obtain ⟨h_x66, hP, hD, hS, hl⟩ := hI
  have h_x66 : (0 ≤ x66.toInt ∧ x66.toInt ≤ 12) := h_x66
  have hP : va_P D vwCl [(qs, .inr (7, [.ref qs_widths, .ref qs_sizes, .ref qs_numbers])), (qs_sizes, .inl (cI, 4, .inl (fs_sizes))), (qs_numbers, .inl (cJ, 240, .inr (.inl (fs_numbers))))] H := hP
  have hD : va_D A [(qs, .inr (7, [.ref qs_widths, .ref qs_sizes, .ref qs_numbers])), (qs_sizes, .inl (cI, 4, .inl (fs_sizes))), (qs_numbers, .inl (cJ, 240, .inr (.inl (fs_numbers))))] := hD
  have hl : lv_has ls 5 [(4, .int x66), (3, .int x65), (0, .ref qs), (1, .int a1), (2, .int a2)] := hl
  refine lv_iload hx hb dX7_countUntold_5 (lv_at hl 0 rfl) ?_
  refine lv_iload_n hx hb dX7_countUntold_7 rfl (lv_at hl 4 rfl) ?_
  refine lv_icmp_ge (tgt := 37) hx hb dX7_countUntold_8 (by decide) (fun hc => ?_) (fun hc => ?_)
  · have hq68 : a2.toInt ≤ x66.toInt := tq_le rfl rfl hc
    refine lv_iload_n hx hb dX7_countUntold_37 rfl (lv_at hl 1 rfl) ?_
    have hP9 := hP.sub (ws' := [(qs, .inr (7, [.ref qs_widths, .ref qs_sizes, .ref qs_numbers])), (qs_sizes, .inl (cI, 4, .inl (fs_sizes))), (qs_numbers, .inl (cJ, 240, .inr (.inl (fs_numbers))))]) [0, 1, 2] rfl
    have hD9 := hD.sub (ws' := [(qs, .inr (7, [.ref qs_widths, .ref qs_sizes, .ref qs_numbers])), (qs_sizes, .inl (cI, 4, .inl (fs_sizes))), (qs_numbers, .inl (cJ, 240, .inr (.inl (fs_numbers))))]) [0, 1, 2] (by decide) rfl
    exact W.iret (v := x65) hx hb hr (fun t ht hW => ⟨⟨x65, (), rfl, trivial, by rw [ht]; exact hP9, hD9⟩, hS.F ht⟩) hS.2.2 dX7_countUntold_38
  · have hq68 : x66.toInt < a2.toInt := tq_nle rfl rfl hc
    refine lv_iload_n hx hb dX7_countUntold_11 rfl (lv_at hl 1 rfl) ?_
    refine lv_aload_n hx hb dX7_countUntold_12 rfl (lv_at hl 2 rfl) ?_
    refine lv_iload_n hx hb dX7_countUntold_13 rfl (lv_at hl 3 rfl) ?_
    refine lv_iload_n hx hb dX7_countUntold_14 rfl (lv_at hl 4 rfl) ?_
    refine lv_iload hx hb dX7_countUntold_15 (lv_at hl 0 rfl) ?_
    refine ct_calli (D := D) (wc := (w_c_X7_told cI cJ cB cZ cO qs qs_widths qs_sizes fs_sizes qs_numbers fs_numbers)) (wr := []) (va_runV (As := [.int a1, .int a2, .int x66]) (rest := [.int x65]) ⟨hx, hb, hml, hown, hts⟩ (c_X7_told l D G cI cJ cB cZ cO qs qs_widths qs_sizes fs_sizes qs_numbers fs_numbers a1 a2 x66 h_fs_sizes (by omega) (by omega) (by omega) H.size) (cwV 3 hts gX7_countUntold_X7_told rfl rfl rfl (by decide +kernel) ⟨Nat.le_of_ble_eq_true rfl, Nat.le_of_ble_eq_true rfl⟩) (ct_preV (T := ct_T cI cJ cB cZ cO) (ci := 7) (q0 := 0) hE hH hP hD hS hA [0, 1, 2] (by decide) rfl rfl rfl) rfl rfl hl.1 rfl (lv_room (Nat.le_of_ble_eq_true rfl)) dX7_countUntold_17 ⟨Nat.le_of_ble_eq_true rfl, Nat.le_of_ble_eq_true rfl⟩) hP hD hS hA [0, 1, 2] [] rfl rfl (by decide) (by decide) (fun r69 u H locs hw hP hD hS => ?_)
    have hP : va_P D vwCl [(qs, .inr (7, [.ref qs_widths, .ref qs_sizes, .ref qs_numbers])), (qs_sizes, .inl (cI, 4, .inl (fs_sizes))), (qs_numbers, .inl (cJ, 240, .inr (.inl (fs_numbers))))] H := hP
    have hD : va_D A [(qs, .inr (7, [.ref qs_widths, .ref qs_sizes, .ref qs_numbers])), (qs_sizes, .inl (cI, 4, .inl (fs_sizes))), (qs_numbers, .inl (cJ, 240, .inr (.inl (fs_numbers))))] := hD
    refine lv_iconst (v := (-1)) hx hb dX7_countUntold_20 (by decide) ?_
    refine lv_icmp_ne (tgt := 28) hx hb dX7_countUntold_21 (by decide) (fun hc => ?_) (fun hc => ?_)
    · have hq70 : r69.toInt ≠ (-1) := tq_ne rfl (by decide) hc
      have hb71 := tq_lo r69
      refine lv_iconst (v := 0) hx hb dX7_countUntold_28 (by decide) ?_
      refine lv_iadd hx hb dX7_countUntold_29 ?_
      refine lv_topi (fun z72 ez72 => ?_)
      have fz72 : z72.toInt = x65.toInt + 0 := by rw [ez72]; exact tq_add rfl (by decide) (by omega)
      refine lv_istore_n (lv' := [(3, .int z72), (4, .int x66), (0, .ref qs), (1, .int a1), (2, .int a2)]) hx hb dX7_countUntold_30 rfl hl (by decide) rfl (fun ls hl => ?_)
      obtain ⟨z73, ez73⟩ : ∃ z : Int32, z = x66 + 1 := ⟨_, rfl⟩
      have fz73 : z73.toInt = x66.toInt + 1 := by rw [ez73]; exact tq_add rfl (by decide) (by omega)
      refine lv_iinc (v := z73) (lv' := [(4, .int z73), (3, .int z72), (0, .ref qs), (1, .int a1), (2, .int a2)]) hx hb dX7_countUntold_31 hl (k := 1) rfl ez73.symm (by decide) rfl (fun ls hl => ?_)
      refine lv_goto (tgt := 5) hx hb dX7_countUntold_34 (by decide) ?_
      exact ih67 (z72, z73) _ _ _ (show (12 - z73.toInt).toNat < (12 - x66.toInt).toNat by omega) ⟨(show 0 ≤ z73.toInt ∧ z73.toInt ≤ 12 by omega), hP, hD, hS, lv_sub hl [0, 1, 2, 3, 4] rfl⟩
    · have hq70 : r69.toInt = (-1) := tq_eq rfl (by decide) hc
      have hb74 := tq_lo r69
      refine lv_iconst (v := 1) hx hb dX7_countUntold_24 (by decide) ?_
      refine lv_goto (tgt := 29) hx hb dX7_countUntold_25 (by decide) ?_
      refine lv_iadd hx hb dX7_countUntold_29 ?_
      refine lv_topi (fun z75 ez75 => ?_)
      refine lv_istore_n (lv' := [(3, .int z75), (4, .int x66), (0, .ref qs), (1, .int a1), (2, .int a2)]) hx hb dX7_countUntold_30 rfl hl (by decide) rfl (fun ls hl => ?_)
      obtain ⟨z76, ez76⟩ : ∃ z : Int32, z = x66 + 1 := ⟨_, rfl⟩
      have fz76 : z76.toInt = x66.toInt + 1 := by rw [ez76]; exact tq_add rfl (by decide) (by omega)
      refine lv_iinc (v := z76) (lv' := [(4, .int z76), (3, .int z75), (0, .ref qs), (1, .int a1), (2, .int a2)]) hx hb dX7_countUntold_31 hl (k := 1) rfl ez76.symm (by decide) rfl (fun ls hl => ?_)
      refine lv_goto (tgt := 5) hx hb dX7_countUntold_34 (by decide) ?_
      exact ih67 (z75, z76) _ _ _ (show (12 - z76.toInt).toNat < (12 - x66.toInt).toNat by omega) ⟨(show 0 ≤ z76.toInt ∧ z76.toInt ≤ 12 by omega), hP, hD, hS, lv_sub hl [0, 1, 2, 3, 4] rfl⟩
abbrev w_c_X7_goesRound (cI cJ cB cZ cO : ClassId) (qs : Nat) (qs_widths : Nat) (qs_sizes : Nat) (fs_sizes : Nat → Int32) (qs_numbers : Nat) (fs_numbers : Nat → Int64) : va_W := [(qs, .inr (7, [.ref qs_widths, .ref qs_sizes, .ref qs_numbers])), (qs_sizes, .inl (cI, 4, .inl (fs_sizes))), (qs_numbers, .inl (cJ, 240, .inr (.inl (fs_numbers))))]
set_option maxHeartbeats 4000000 in
set_option maxRecDepth 100000 in
/-- X7 goesRound -/
theorem c_X7_goesRound (l : Launch) (D : va_G) (G : ct_G) (cI cJ cB cZ cO : ClassId) (qs : Nat) (qs_widths : Nat) (qs_sizes : Nat) (fs_sizes : Nat → Int32) (qs_numbers : Nat) (fs_numbers : Nat → Int64) (a1 : Int32) (a2 : Int32) (h_fs_sizes : ar_ok [(-1)] [60] fs_sizes) (h_a1 : 0 ≤ a1.toInt ∧ a1.toInt ≤ 3) (h_a2 : 1 ≤ a2.toInt ∧ a2.toInt ≤ 12) (sz : Nat) : Met l yX7_goesRound wsX7_goesRound ({ frames := 2, cells := 0, slots := 0, locals := 46 }) (va_Pc [.ref qs, .int a1, .int a2] (ct_P D (ct_T cI cJ cB cZ cO) G (w_c_X7_goesRound cI cJ cB cZ cO qs qs_widths qs_sizes fs_sizes qs_numbers fs_numbers) sz)) (va_Qi (fun (rz : Int32) (u : Unit) => ((rz = 1 ∧ True) ∨ (rz = 0 ∧ True))) (fun (u : Unit) t => ct_Q D (va_A (w_c_X7_goesRound cI cJ cB cZ cO qs qs_widths qs_sizes fs_sizes qs_numbers fs_numbers) sz) [(qs, .inr (7, [.ref qs_widths, .ref qs_sizes, .ref qs_numbers])), (qs_sizes, .inl (cI, 4, .inl (fs_sizes))), (qs_numbers, .inl (cJ, 240, .inr (.inl (fs_numbers))))] t) (va_A (w_c_X7_goesRound cI cJ cB cZ cO qs qs_widths qs_sizes fs_sizes qs_numbers fs_numbers) sz)) 0 0 (va_A (w_c_X7_goesRound cI cJ cB cZ cO qs qs_widths qs_sizes fs_sizes qs_numbers fs_numbers) sz) := by
  refine Met.ofW (cc := cX7_goesRound) (maxL := 6) (ret := (some .boolean)) (by decide) rfl ?_
  intro p e s m args below meth c s₁ B hml hv
  obtain ⟨rfl, hsz, hP, hE, hD0, hH⟩ := hv
  have hx := B.exec
  have hb := B.bytes
  have hr := B.returns
  have hts := atoms_spec (ws := wsX7_goesRound) B.pre
  have hown : s.vm.findClass RX7 = some m.cls := findClass_of_methodNamed B.named
  have hlocks := B.notSynchronized
  have hK := hE.1
  have hi7 : ∀ w ∈ u_ws RX7 TX7 3, w ∈ wsX7_goesRound := fun w h => List.mem_cons_of_mem _ (List.mem_append_right _ h)
  subst hsz
  have hD := hD0.self (sz := s.heap.size)
  generalize hAe : va_A (w_c_X7_goesRound cI cJ cB cZ cO qs qs_widths qs_sizes fs_sizes qs_numbers fs_numbers) s.heap.size = A at hD hH ⊢
  have hA : ∀ q : Nat, s.heap.size ≤ q → A q := fun q h => by rw [← hAe]; exact Or.inr h
  have hS : va_S A s.heap s.heap [] := va_S.rf
  have hP : va_P D vwCl [(qs, .inr (7, [.ref qs_widths, .ref qs_sizes, .ref qs_numbers])), (qs_sizes, .inl (cI, 4, .inl (fs_sizes))), (qs_numbers, .inl (cJ, 240, .inr (.inl (fs_numbers))))] s.heap := hP
  have hD : va_D A [(qs, .inr (7, [.ref qs_widths, .ref qs_sizes, .ref qs_numbers])), (qs_sizes, .inl (cI, 4, .inl (fs_sizes))), (qs_numbers, .inl (cJ, 240, .inr (.inl (fs_numbers))))] := hD
  have hl := lv_entry ([.ref qs, .int a1, .int a2]) (n := 6) (Nat.le_of_ble_eq_true rfl)
  rw [lg_entry_eq]
  generalize (lg_sl ([.ref qs, .int a1, .int a2]) ++ List.replicate (6 - (lg_sl ([.ref qs, .int a1, .int a2])).length) Slot.unset).toArray = ls at hl ⊢
  have hl : lv_has ls 6 [(0, .ref qs), (1, .int a1), (2, .int a2)] := hl
  obtain ⟨H, hHe⟩ : ∃ H : Heap, H = s.heap := ⟨_, rfl⟩
  rw [← hHe] at hP
  have hS : va_S A s.heap H [] := by rw [hHe]; exact va_S.rf
  refine ct_start hHe ?_
  refine lv_iconst (v := 0) hx hb dX7_goesRound_0 (by decide) ?_
  refine lv_istore_n (lv' := [(3, .int 0), (0, .ref qs), (1, .int a1), (2, .int a2)]) hx hb dX7_goesRound_1 rfl hl (by decide) rfl (fun ls hl => ?_)
  refine ct_loop (X := Int32) (fun x => (60 - x.toInt).toNat) (fun x H locs ls => ((0 ≤ x.toInt ∧ x.toInt ≤ 60)) ∧ va_P D vwCl [(qs, .inr (7, [.ref qs_widths, .ref qs_sizes, .ref qs_numbers])), (qs_sizes, .inl (cI, 4, .inl (fs_sizes))), (qs_numbers, .inl (cJ, 240, .inr (.inl (fs_numbers))))] H ∧ va_D A [(qs, .inr (7, [.ref qs_widths, .ref qs_sizes, .ref qs_numbers])), (qs_sizes, .inl (cI, 4, .inl (fs_sizes))), (qs_numbers, .inl (cJ, 240, .inr (.inl (fs_numbers))))] ∧ va_S A s.heap H locs ∧ lv_has ls 6 [(3, .int x), (0, .ref qs), (1, .int a1), (2, .int a2)]) 2 (0 : Int32) ⟨(show 0 ≤ (0 : Int32).toInt ∧ (0 : Int32).toInt ≤ 60 by decide), hP, hD, hS, lv_sub hl [0, 1, 2, 3] rfl⟩ (fun x ih73 H locs ls hI => ?_)
  obtain ⟨x72, rfl⟩ : ∃ z, z = x := ⟨_, rfl⟩
  obtain ⟨h_x72, hP, hD, hS, hl⟩ := hI
  have h_x72 : (0 ≤ x72.toInt ∧ x72.toInt ≤ 60) := h_x72
  have hP : va_P D vwCl [(qs, .inr (7, [.ref qs_widths, .ref qs_sizes, .ref qs_numbers])), (qs_sizes, .inl (cI, 4, .inl (fs_sizes))), (qs_numbers, .inl (cJ, 240, .inr (.inl (fs_numbers))))] H := hP
  have hD : va_D A [(qs, .inr (7, [.ref qs_widths, .ref qs_sizes, .ref qs_numbers])), (qs_sizes, .inl (cI, 4, .inl (fs_sizes))), (qs_numbers, .inl (cJ, 240, .inr (.inl (fs_numbers))))] := hD
  have hl : lv_has ls 6 [(3, .int x72), (0, .ref qs), (1, .int a1), (2, .int a2)] := hl
  refine lv_iload_n hx hb dX7_goesRound_2 rfl (lv_at hl 0 rfl) ?_
  refine lv_aload_n hx hb dX7_goesRound_3 rfl (lv_at hl 1 rfl) ?_
  refine va_get (D := D) (ci := 7) (v := .ref qs_sizes) (C := RX7) (T := TX7) (N := 3) hx hb hts hi7 hown hK hP 0 rfl rfl 1 (by decide) (hts (.fieldLink RX7 15 "OverHill$Slots" "sizes" "[I") (by decide +kernel)) (fun _ h9 => h9) rfl dX7_goesRound_4 ?_
  refine lv_iload_n hx hb dX7_goesRound_7 rfl (lv_at hl 2 rfl) ?_
  refine va_iald (D := D) hx hb hK hP 1 0 rfl rfl (tq_in rfl (by omega)) dX7_goesRound_8 ?_
  refine lv_topi (fun z74 ez74 => ?_)
  have fz74 : (-1) ≤ z74.toInt ∧ z74.toInt ≤ 60 := by rw [ez74]; exact ar_get h_fs_sizes a1 0 (by omega) (show a1.toInt % 1 = 0 by omega) rfl
  refine lv_icmp_ge (tgt := 55) hx hb dX7_goesRound_9 (by decide) (fun hc => ?_) (fun hc => ?_)
  · have hq75 : z74.toInt ≤ x72.toInt := tq_le rfl rfl hc
    refine lv_iconst (v := 1) hx hb dX7_goesRound_55 (by decide) ?_
    have hP9 := hP.sub (ws' := [(qs, .inr (7, [.ref qs_widths, .ref qs_sizes, .ref qs_numbers])), (qs_sizes, .inl (cI, 4, .inl (fs_sizes))), (qs_numbers, .inl (cJ, 240, .inr (.inl (fs_numbers))))]) [0, 1, 2] rfl
    have hD9 := hD.sub (ws' := [(qs, .inr (7, [.ref qs_widths, .ref qs_sizes, .ref qs_numbers])), (qs_sizes, .inl (cI, 4, .inl (fs_sizes))), (qs_numbers, .inl (cJ, 240, .inr (.inl (fs_numbers))))]) [0, 1, 2] (by decide) rfl
    exact W.zret (v := 1) (ty := .boolean) hx hb hr rfl (fun t ht hW => ⟨⟨1, (), rfl, (Or.inl ⟨rfl, trivial⟩), by rw [ht]; exact hP9, hD9⟩, hS.F ht⟩) hS.2.2 dX7_goesRound_56
  · have hq75 : x72.toInt < z74.toInt := tq_nle rfl rfl hc
    refine lv_aload_n hx hb dX7_goesRound_12 rfl (lv_at hl 1 rfl) ?_
    refine lv_iload_n hx hb dX7_goesRound_13 rfl (lv_at hl 2 rfl) ?_
    refine lv_iload_n hx hb dX7_goesRound_14 rfl (lv_at hl 0 rfl) ?_
    refine ct_calll (D := D) (wc := (w_c_X7_at cI cJ cB cZ cO qs qs_widths qs_sizes qs_numbers fs_numbers)) (wr := [(qs_sizes, .inl (cI, 4, .inl (fs_sizes)))]) (va_runV (As := [.int a1, .int x72]) (rest := []) ⟨hx, hb, hml, hown, hts⟩ (c_X7_at l D G cI cJ cB cZ cO qs qs_widths qs_sizes qs_numbers fs_numbers a1 x72 (by omega) (by omega) H.size) (cwV 2 hts gX7_goesRound_X7_at rfl rfl rfl (by decide +kernel) ⟨Nat.le_of_ble_eq_true rfl, Nat.le_of_ble_eq_true rfl⟩) (ct_preV (T := ct_T cI cJ cB cZ cO) (ci := 7) (q0 := 0) hE hH hP hD hS hA [0, 2] (by decide) rfl rfl rfl) rfl rfl hl.1 rfl (lv_room (Nat.le_of_ble_eq_true rfl)) dX7_goesRound_15 ⟨Nat.le_of_ble_eq_true rfl, Nat.le_of_ble_eq_true rfl⟩) hP hD hS hA [0, 2] [1] rfl rfl (by decide) (by decide) (fun r76 u H locs hw hP hD hS => ?_)
    have hP : va_P D vwCl [(qs_sizes, .inl (cI, 4, .inl (fs_sizes))), (qs, .inr (7, [.ref qs_widths, .ref qs_sizes, .ref qs_numbers])), (qs_numbers, .inl (cJ, 240, .inr (.inl (fs_numbers))))] H := hP
    have hD : va_D A [(qs_sizes, .inl (cI, 4, .inl (fs_sizes))), (qs, .inr (7, [.ref qs_widths, .ref qs_sizes, .ref qs_numbers])), (qs_numbers, .inl (cJ, 240, .inr (.inl (fs_numbers))))] := hD
    have hp0 := hw
    have hp_77 : r76 = fs_numbers (60 * a1.toInt + x72.toInt).toNat := hp0
    refine lv_lstore (lv' := [(4, .long r76), (3, .int x72), (0, .ref qs), (1, .int a1), (2, .int a2)]) hx hb dX7_goesRound_18 hl (by decide) rfl (fun ls hl => ?_)
    refine lv_lload hx hb dX7_goesRound_20 (lv_at hl 0 rfl) ?_
    refine lv_ldc2 (v := (-1)) hx hb hown (hts (.constantLong RX7 60 (-1)) (by decide +kernel)) dX7_goesRound_22 ?_
    refine W.lcmp hx hb dX7_goesRound_25 ?_
    refine lv_if_eq (tgt := 49) hx hb dX7_goesRound_26 (by decide) (fun hc => ?_) (fun hc => ?_)
    · have hq78 : r76.toInt = (-1) := tl_eq rfl (by decide) ((lg_cmp_eq _ _).mp hc)
      obtain ⟨z79, ez79⟩ : ∃ z : Int32, z = x72 + 1 := ⟨_, rfl⟩
      have fz79 : z79.toInt = x72.toInt + 1 := by rw [ez79]; exact tq_add rfl (by decide) (by omega)
      refine lv_iinc (v := z79) (lv' := [(3, .int z79), (4, .long r76), (0, .ref qs), (1, .int a1), (2, .int a2)]) hx hb dX7_goesRound_49 hl (k := 1) rfl ez79.symm (by decide) rfl (fun ls hl => ?_)
      refine lv_goto (tgt := 2) hx hb dX7_goesRound_52 (by decide) ?_
      have hP9 := hP.sub (ws' := [(qs, .inr (7, [.ref qs_widths, .ref qs_sizes, .ref qs_numbers])), (qs_sizes, .inl (cI, 4, .inl (fs_sizes))), (qs_numbers, .inl (cJ, 240, .inr (.inl (fs_numbers))))]) [1, 0, 2] rfl
      have hD9 := hD.sub (ws' := [(qs, .inr (7, [.ref qs_widths, .ref qs_sizes, .ref qs_numbers])), (qs_sizes, .inl (cI, 4, .inl (fs_sizes))), (qs_numbers, .inl (cJ, 240, .inr (.inl (fs_numbers))))]) [1, 0, 2] (by decide) rfl
      exact ih73 z79 _ _ _ (show (60 - z79.toInt).toNat < (60 - x72.toInt).toNat by omega) ⟨(show 0 ≤ z79.toInt ∧ z79.toInt ≤ 60 by omega), hP9, hD9, hS, lv_sub hl [0, 2, 3, 4] rfl⟩
    · have hq78 : r76.toInt ≠ (-1) := tl_ne rfl (by decide) (fun z => hc ((lg_cmp_eq _ _).mpr z))
      refine lv_lload hx hb dX7_goesRound_29 (lv_at hl 0 rfl) ?_
      refine lv_aload_n hx hb dX7_goesRound_31 rfl (lv_at hl 2 rfl) ?_
      refine lv_iload_n hx hb dX7_goesRound_32 rfl (lv_at hl 3 rfl) ?_
      refine lv_iload_n hx hb dX7_goesRound_33 rfl (lv_at hl 4 rfl) ?_
      refine lv_iload_n hx hb dX7_goesRound_34 rfl (lv_at hl 1 rfl) ?_
      refine lv_iload_n hx hb dX7_goesRound_35 rfl (lv_at hl 4 rfl) ?_
      refine ct_calli (D := D) (wc := (w_c_X11_wrap cI cJ cB cZ cO )) (wr := [(qs_sizes, .inl (cI, 4, .inl (fs_sizes))), (qs, .inr (7, [.ref qs_widths, .ref qs_sizes, .ref qs_numbers])), (qs_numbers, .inl (cJ, 240, .inr (.inl (fs_numbers))))]) (va_runSN (As := [.int x72, .int a2]) (rest := [.int a2, .int a1, .ref qs, .long r76]) ⟨hx, hb, hml, hown, hts⟩ (c_X11_wrap l D G cI cJ cB cZ cO x72 a2  H.size) ⟨va_cnB 2 hts gX7_goesRound_X11_wrap_n66 rfl rfl rfl (hE.2.1 (RX7, 66, yX11_wrap, "OverHill") (List.mem_of_getElem? (i := 18) rfl)) (hts (.initialized RX11) (by decide +kernel)) (by decide +kernel) ⟨Nat.le_of_ble_eq_true rfl, Nat.le_of_ble_eq_true rfl⟩, (hts (.static yX11_wrap) (by decide +kernel)), trivial⟩ (ct_preS (T := ct_T cI cJ cB cZ cO) hE hH hP hD hS hA [] (by decide) rfl) rfl rfl hl.1 rfl (lv_room (Nat.le_of_ble_eq_true rfl)) dX7_goesRound_36 ⟨Nat.le_of_ble_eq_true rfl, Nat.le_of_ble_eq_true rfl⟩) hP hD hS hA [] [0, 1, 2] rfl rfl (by decide) (by decide) (fun r80 u H locs hw hP hD hS => ?_)
      have hP : va_P D vwCl [(qs_sizes, .inl (cI, 4, .inl (fs_sizes))), (qs, .inr (7, [.ref qs_widths, .ref qs_sizes, .ref qs_numbers])), (qs_numbers, .inl (cJ, 240, .inr (.inl (fs_numbers))))] H := hP
      have hD : va_D A [(qs_sizes, .inl (cI, 4, .inl (fs_sizes))), (qs, .inr (7, [.ref qs_widths, .ref qs_sizes, .ref qs_numbers])), (qs_numbers, .inl (cJ, 240, .inr (.inl (fs_numbers))))] := hD
      have hz := hw
      have h_r80 : 0 ≤ r80.toInt ∧ (r80.toInt < a2.toInt ∨ r80.toInt = 0) := hz
      refine ct_calli (D := D) (wc := (w_c_X7_told cI cJ cB cZ cO qs qs_widths qs_sizes fs_sizes qs_numbers fs_numbers)) (wr := []) (va_runV (As := [.int a1, .int a2, .int r80]) (rest := [.long r76]) ⟨hx, hb, hml, hown, hts⟩ (c_X7_told l D G cI cJ cB cZ cO qs qs_widths qs_sizes fs_sizes qs_numbers fs_numbers a1 a2 r80 h_fs_sizes (by omega) (by omega) (by omega) H.size) (cwV 3 hts gX7_goesRound_X7_told rfl rfl rfl (by decide +kernel) ⟨Nat.le_of_ble_eq_true rfl, Nat.le_of_ble_eq_true rfl⟩) (ct_preV (T := ct_T cI cJ cB cZ cO) (ci := 7) (q0 := 1) hE hH hP hD hS hA [1, 0, 2] (by decide) rfl rfl rfl) rfl rfl hl.1 rfl (lv_room (Nat.le_of_ble_eq_true rfl)) dX7_goesRound_39 ⟨Nat.le_of_ble_eq_true rfl, Nat.le_of_ble_eq_true rfl⟩) hP hD hS hA [1, 0, 2] [] rfl rfl (by decide) (by decide) (fun r81 u H locs hw hP hD hS => ?_)
      have hP : va_P D vwCl [(qs, .inr (7, [.ref qs_widths, .ref qs_sizes, .ref qs_numbers])), (qs_sizes, .inl (cI, 4, .inl (fs_sizes))), (qs_numbers, .inl (cJ, 240, .inr (.inl (fs_numbers))))] H := hP
      have hD : va_D A [(qs, .inr (7, [.ref qs_widths, .ref qs_sizes, .ref qs_numbers])), (qs_sizes, .inl (cI, 4, .inl (fs_sizes))), (qs_numbers, .inl (cJ, 240, .inr (.inl (fs_numbers))))] := hD
      refine lv_i2l (v := _) hx hb dX7_goesRound_42 rfl ?_
      refine lv_topl (fun z82 ez82 => ?_)
      have fz82 : z82.toInt = r81.toInt := by rw [ez82]; exact tl_i rfl
      refine W.lcmp hx hb dX7_goesRound_43 ?_
      refine lv_if_eq (tgt := 49) hx hb dX7_goesRound_44 (by decide) (fun hc => ?_) (fun hc => ?_)
      · have hq83 : r76.toInt = z82.toInt := tl_eq rfl rfl ((lg_cmp_eq _ _).mp hc)
        obtain ⟨z84, ez84⟩ : ∃ z : Int32, z = x72 + 1 := ⟨_, rfl⟩
        have fz84 : z84.toInt = x72.toInt + 1 := by rw [ez84]; exact tq_add rfl (by decide) (by omega)
        refine lv_iinc (v := z84) (lv' := [(3, .int z84), (4, .long r76), (0, .ref qs), (1, .int a1), (2, .int a2)]) hx hb dX7_goesRound_49 hl (k := 1) rfl ez84.symm (by decide) rfl (fun ls hl => ?_)
        refine lv_goto (tgt := 2) hx hb dX7_goesRound_52 (by decide) ?_
        exact ih73 z84 _ _ _ (show (60 - z84.toInt).toNat < (60 - x72.toInt).toNat by omega) ⟨(show 0 ≤ z84.toInt ∧ z84.toInt ≤ 60 by omega), hP, hD, hS, lv_sub hl [0, 2, 3, 4] rfl⟩
      · have hq83 : r76.toInt ≠ z82.toInt := tl_ne rfl rfl (fun z => hc ((lg_cmp_eq _ _).mpr z))
        refine lv_iconst (v := 0) hx hb dX7_goesRound_47 (by decide) ?_
        have hP9 := hP.sub (ws' := [(qs, .inr (7, [.ref qs_widths, .ref qs_sizes, .ref qs_numbers])), (qs_sizes, .inl (cI, 4, .inl (fs_sizes))), (qs_numbers, .inl (cJ, 240, .inr (.inl (fs_numbers))))]) [0, 1, 2] rfl
        have hD9 := hD.sub (ws' := [(qs, .inr (7, [.ref qs_widths, .ref qs_sizes, .ref qs_numbers])), (qs_sizes, .inl (cI, 4, .inl (fs_sizes))), (qs_numbers, .inl (cJ, 240, .inr (.inl (fs_numbers))))]) [0, 1, 2] (by decide) rfl
        exact W.zret (v := 0) (ty := .boolean) hx hb hr rfl (fun t ht hW => ⟨⟨0, (), rfl, (Or.inr (⟨rfl, trivial⟩)), by rw [ht]; exact hP9, hD9⟩, hS.F ht⟩) hS.2.2 dX7_goesRound_48
abbrev w_c_X7_shortest (cI cJ cB cZ cO : ClassId) (qs : Nat) (qs_widths : Nat) (qs_sizes : Nat) (fs_sizes : Nat → Int32) (qs_numbers : Nat) (fs_numbers : Nat → Int64) : va_W := [(qs, .inr (7, [.ref qs_widths, .ref qs_sizes, .ref qs_numbers])), (qs_sizes, .inl (cI, 4, .inl (fs_sizes))), (qs_numbers, .inl (cJ, 240, .inr (.inl (fs_numbers))))]
set_option maxHeartbeats 4000000 in
set_option maxRecDepth 100000 in
/-- X7 shortest -/
theorem c_X7_shortest (l : Launch) (D : va_G) (G : ct_G) (cI cJ cB cZ cO : ClassId) (qs : Nat) (qs_widths : Nat) (qs_sizes : Nat) (fs_sizes : Nat → Int32) (qs_numbers : Nat) (fs_numbers : Nat → Int64) (a1 : Int32) (h_fs_sizes : ar_ok [(-1)] [60] fs_sizes) (h_a1 : 0 ≤ a1.toInt ∧ a1.toInt ≤ 3) (sz : Nat) : Met l yX7_shortest wsX7_shortest ({ frames := 3, cells := 0, slots := 0, locals := 71 }) (va_Pc [.ref qs, .int a1] (ct_P D (ct_T cI cJ cB cZ cO) G (w_c_X7_shortest cI cJ cB cZ cO qs qs_widths qs_sizes fs_sizes qs_numbers fs_numbers) sz)) (va_Qi (fun (rz : Int32) (u : Unit) => ((-1) ≤ rz.toInt ∧ rz.toInt ≤ 12)) (fun (u : Unit) t => ct_Q D (va_A (w_c_X7_shortest cI cJ cB cZ cO qs qs_widths qs_sizes fs_sizes qs_numbers fs_numbers) sz) [(qs, .inr (7, [.ref qs_widths, .ref qs_sizes, .ref qs_numbers])), (qs_sizes, .inl (cI, 4, .inl (fs_sizes))), (qs_numbers, .inl (cJ, 240, .inr (.inl (fs_numbers))))] t) (va_A (w_c_X7_shortest cI cJ cB cZ cO qs qs_widths qs_sizes fs_sizes qs_numbers fs_numbers) sz)) 0 0 (va_A (w_c_X7_shortest cI cJ cB cZ cO qs qs_widths qs_sizes fs_sizes qs_numbers fs_numbers) sz) := by
  refine Met.ofW (cc := cX7_shortest) (maxL := 3) (ret := (some .int)) (by decide) rfl ?_
  intro p e s m args below meth c s₁ B hml hv
  obtain ⟨rfl, hsz, hP, hE, hD0, hH⟩ := hv
  have hx := B.exec
  have hb := B.bytes
  have hr := B.returns
  have hts := atoms_spec (ws := wsX7_shortest) B.pre
  have hown : s.vm.findClass RX7 = some m.cls := findClass_of_methodNamed B.named
  have hlocks := B.notSynchronized
  have hK := hE.1
  subst hsz
  have hD := hD0.self (sz := s.heap.size)
  generalize hAe : va_A (w_c_X7_shortest cI cJ cB cZ cO qs qs_widths qs_sizes fs_sizes qs_numbers fs_numbers) s.heap.size = A at hD hH ⊢
  have hA : ∀ q : Nat, s.heap.size ≤ q → A q := fun q h => by rw [← hAe]; exact Or.inr h
  have hS : va_S A s.heap s.heap [] := va_S.rf
  have hP : va_P D vwCl [(qs, .inr (7, [.ref qs_widths, .ref qs_sizes, .ref qs_numbers])), (qs_sizes, .inl (cI, 4, .inl (fs_sizes))), (qs_numbers, .inl (cJ, 240, .inr (.inl (fs_numbers))))] s.heap := hP
  have hD : va_D A [(qs, .inr (7, [.ref qs_widths, .ref qs_sizes, .ref qs_numbers])), (qs_sizes, .inl (cI, 4, .inl (fs_sizes))), (qs_numbers, .inl (cJ, 240, .inr (.inl (fs_numbers))))] := hD
  have hl := lv_entry ([.ref qs, .int a1]) (n := 3) (Nat.le_of_ble_eq_true rfl)
  rw [lg_entry_eq]
  generalize (lg_sl ([.ref qs, .int a1]) ++ List.replicate (3 - (lg_sl ([.ref qs, .int a1])).length) Slot.unset).toArray = ls at hl ⊢
  have hl : lv_has ls 3 [(0, .ref qs), (1, .int a1)] := hl
  obtain ⟨H, hHe⟩ : ∃ H : Heap, H = s.heap := ⟨_, rfl⟩
  rw [← hHe] at hP
  have hS : va_S A s.heap H [] := by rw [hHe]; exact va_S.rf
  refine ct_start hHe ?_
  refine lv_iconst (v := 1) hx hb dX7_shortest_0 (by decide) ?_
  refine lv_istore_n (lv' := [(2, .int 1), (0, .ref qs), (1, .int a1)]) hx hb dX7_shortest_1 rfl hl (by decide) rfl (fun ls hl => ?_)
  refine ct_loop (X := Int32) (fun x => (13 - x.toInt).toNat) (fun x H locs ls => ((1 ≤ x.toInt ∧ x.toInt ≤ 13)) ∧ va_P D vwCl [(qs, .inr (7, [.ref qs_widths, .ref qs_sizes, .ref qs_numbers])), (qs_sizes, .inl (cI, 4, .inl (fs_sizes))), (qs_numbers, .inl (cJ, 240, .inr (.inl (fs_numbers))))] H ∧ va_D A [(qs, .inr (7, [.ref qs_widths, .ref qs_sizes, .ref qs_numbers])), (qs_sizes, .inl (cI, 4, .inl (fs_sizes))), (qs_numbers, .inl (cJ, 240, .inr (.inl (fs_numbers))))] ∧ va_S A s.heap H locs ∧ lv_has ls 3 [(2, .int x), (0, .ref qs), (1, .int a1)]) 2 (1 : Int32) ⟨(show 1 ≤ (1 : Int32).toInt ∧ (1 : Int32).toInt ≤ 13 by decide), hP, hD, hS, lv_sub hl [0, 1, 2] rfl⟩ (fun x ih27 H locs ls hI => ?_)
  obtain ⟨x26, rfl⟩ : ∃ z, z = x := ⟨_, rfl⟩
  obtain ⟨h_x26, hP, hD, hS, hl⟩ := hI
  have h_x26 : (1 ≤ x26.toInt ∧ x26.toInt ≤ 13) := h_x26
  have hP : va_P D vwCl [(qs, .inr (7, [.ref qs_widths, .ref qs_sizes, .ref qs_numbers])), (qs_sizes, .inl (cI, 4, .inl (fs_sizes))), (qs_numbers, .inl (cJ, 240, .inr (.inl (fs_numbers))))] H := hP
  have hD : va_D A [(qs, .inr (7, [.ref qs_widths, .ref qs_sizes, .ref qs_numbers])), (qs_sizes, .inl (cI, 4, .inl (fs_sizes))), (qs_numbers, .inl (cJ, 240, .inr (.inl (fs_numbers))))] := hD
  have hl : lv_has ls 3 [(2, .int x26), (0, .ref qs), (1, .int a1)] := hl
  refine lv_iload_n hx hb dX7_shortest_2 rfl (lv_at hl 0 rfl) ?_
  refine lv_bipush (v := 12) hx hb dX7_shortest_3 (by decide) ?_
  refine lv_icmp_gt (tgt := 25) hx hb dX7_shortest_5 (by decide) (fun hc => ?_) (fun hc => ?_)
  · have hq28 : 12 < x26.toInt := tq_lt (by decide) rfl hc
    refine lv_iconst (v := (-1)) hx hb dX7_shortest_25 (by decide) ?_
    have hP9 := hP.sub (ws' := [(qs, .inr (7, [.ref qs_widths, .ref qs_sizes, .ref qs_numbers])), (qs_sizes, .inl (cI, 4, .inl (fs_sizes))), (qs_numbers, .inl (cJ, 240, .inr (.inl (fs_numbers))))]) [0, 1, 2] rfl
    have hD9 := hD.sub (ws' := [(qs, .inr (7, [.ref qs_widths, .ref qs_sizes, .ref qs_numbers])), (qs_sizes, .inl (cI, 4, .inl (fs_sizes))), (qs_numbers, .inl (cJ, 240, .inr (.inl (fs_numbers))))]) [0, 1, 2] (by decide) rfl
    exact W.iret (v := (-1)) hx hb hr (fun t ht hW => ⟨⟨(-1), (), rfl, (show (-1) ≤ (-1 : Int32).toInt ∧ (-1 : Int32).toInt ≤ 12 by decide), by rw [ht]; exact hP9, hD9⟩, hS.F ht⟩) hS.2.2 dX7_shortest_26
  · have hq28 : x26.toInt ≤ 12 := tq_nlt (by decide) rfl hc
    refine lv_aload_n hx hb dX7_shortest_8 rfl (lv_at hl 1 rfl) ?_
    refine lv_iload_n hx hb dX7_shortest_9 rfl (lv_at hl 2 rfl) ?_
    refine lv_iload_n hx hb dX7_shortest_10 rfl (lv_at hl 0 rfl) ?_
    refine ct_calli (D := D) (wc := (w_c_X7_goesRound cI cJ cB cZ cO qs qs_widths qs_sizes fs_sizes qs_numbers fs_numbers)) (wr := []) (va_runV (As := [.int a1, .int x26]) (rest := []) ⟨hx, hb, hml, hown, hts⟩ (c_X7_goesRound l D G cI cJ cB cZ cO qs qs_widths qs_sizes fs_sizes qs_numbers fs_numbers a1 x26 h_fs_sizes (by omega) (by omega) H.size) (cwV 2 hts gX7_shortest_X7_goesRound rfl rfl rfl (by decide +kernel) ⟨Nat.le_of_ble_eq_true rfl, Nat.le_of_ble_eq_true rfl⟩) (ct_preV (T := ct_T cI cJ cB cZ cO) (ci := 7) (q0 := 0) hE hH hP hD hS hA [0, 1, 2] (by decide) rfl rfl rfl) rfl rfl hl.1 rfl (lv_room (Nat.le_of_ble_eq_true rfl)) dX7_shortest_11 ⟨Nat.le_of_ble_eq_true rfl, Nat.le_of_ble_eq_true rfl⟩) hP hD hS hA [0, 1, 2] [] rfl rfl (by decide) (by decide) (fun r29 u H locs hw hP hD hS => ?_)
    have hP : va_P D vwCl [(qs, .inr (7, [.ref qs_widths, .ref qs_sizes, .ref qs_numbers])), (qs_sizes, .inl (cI, 4, .inl (fs_sizes))), (qs_numbers, .inl (cJ, 240, .inr (.inl (fs_numbers))))] H := hP
    have hD : va_D A [(qs, .inr (7, [.ref qs_widths, .ref qs_sizes, .ref qs_numbers])), (qs_sizes, .inl (cI, 4, .inl (fs_sizes))), (qs_numbers, .inl (cJ, 240, .inr (.inl (fs_numbers))))] := hD
    have hz := hw
    rcases hz with ⟨hz, hz2⟩ | ⟨hz, hz2⟩
    · subst hz
      refine lv_if_eq (tgt := 19) hx hb dX7_shortest_14 (by decide) (fun hc => absurd hc (by decide)) (fun _ => ?_)
      refine lv_iload_n hx hb dX7_shortest_17 rfl (lv_at hl 0 rfl) ?_
      have hP9 := hP.sub (ws' := [(qs, .inr (7, [.ref qs_widths, .ref qs_sizes, .ref qs_numbers])), (qs_sizes, .inl (cI, 4, .inl (fs_sizes))), (qs_numbers, .inl (cJ, 240, .inr (.inl (fs_numbers))))]) [0, 1, 2] rfl
      have hD9 := hD.sub (ws' := [(qs, .inr (7, [.ref qs_widths, .ref qs_sizes, .ref qs_numbers])), (qs_sizes, .inl (cI, 4, .inl (fs_sizes))), (qs_numbers, .inl (cJ, 240, .inr (.inl (fs_numbers))))]) [0, 1, 2] (by decide) rfl
      exact W.iret (v := x26) hx hb hr (fun t ht hW => ⟨⟨x26, (), rfl, (show (-1) ≤ x26.toInt ∧ x26.toInt ≤ 12 by omega), by rw [ht]; exact hP9, hD9⟩, hS.F ht⟩) hS.2.2 dX7_shortest_18
    · subst hz
      refine lv_if_eq (tgt := 19) hx hb dX7_shortest_14 (by decide) (fun _ => ?_) (fun hc => absurd hc (by decide))
      obtain ⟨z30, ez30⟩ : ∃ z : Int32, z = x26 + 1 := ⟨_, rfl⟩
      have fz30 : z30.toInt = x26.toInt + 1 := by rw [ez30]; exact tq_add rfl (by decide) (by omega)
      refine lv_iinc (v := z30) (lv' := [(2, .int z30), (0, .ref qs), (1, .int a1)]) hx hb dX7_shortest_19 hl (k := 0) rfl ez30.symm (by decide) rfl (fun ls hl => ?_)
      refine lv_goto (tgt := 2) hx hb dX7_shortest_22 (by decide) ?_
      exact ih27 z30 _ _ _ (show (13 - z30.toInt).toNat < (13 - x26.toInt).toNat by omega) ⟨(show 1 ≤ z30.toInt ∧ z30.toInt ≤ 13 by omega), hP, hD, hS, lv_sub hl [0, 1, 2] rfl⟩
abbrev w_c_X7_refusalOfSteps (cI cJ cB cZ cO : ClassId) (qs : Nat) (qs_widths : Nat) (qs_sizes : Nat) (fs_sizes : Nat → Int32) (qs_numbers : Nat) (fs_numbers : Nat → Int64) : va_W := [(qs, .inr (7, [.ref qs_widths, .ref qs_sizes, .ref qs_numbers])), (qs_sizes, .inl (cI, 4, .inl (fs_sizes))), (qs_numbers, .inl (cJ, 240, .inr (.inl (fs_numbers))))]
set_option maxHeartbeats 4000000 in
set_option maxRecDepth 100000 in
/-- X7 refusalOfSteps -/
theorem c_X7_refusalOfSteps (l : Launch) (D : va_G) (G : ct_G) (cI cJ cB cZ cO : ClassId) (qs : Nat) (qs_widths : Nat) (qs_sizes : Nat) (fs_sizes : Nat → Int32) (qs_numbers : Nat) (fs_numbers : Nat → Int64) (a1 : Int32) (h_fs_sizes : ar_ok [(-1)] [60] fs_sizes) (sz : Nat) : Met l yX7_refusalOfSteps wsX7_refusalOfSteps ({ frames := 2, cells := 0, slots := 0, locals := 46 }) (va_Pc [.ref qs, .int a1] (ct_P D (ct_T cI cJ cB cZ cO) G (w_c_X7_refusalOfSteps cI cJ cB cZ cO qs qs_widths qs_sizes fs_sizes qs_numbers fs_numbers) sz)) (va_Qi (fun (rz : Int32) (u : Unit) => ((rz = 0 ∧ (0 ≤ a1.toInt ∧ a1.toInt < 4)) ∨ (rz = (-6) ∧ (0 ≤ a1.toInt ∧ a1.toInt < 4)) ∨ (rz = (-2) ∧ True))) (fun (u : Unit) t => ct_Q D (va_A (w_c_X7_refusalOfSteps cI cJ cB cZ cO qs qs_widths qs_sizes fs_sizes qs_numbers fs_numbers) sz) [(qs, .inr (7, [.ref qs_widths, .ref qs_sizes, .ref qs_numbers])), (qs_sizes, .inl (cI, 4, .inl (fs_sizes))), (qs_numbers, .inl (cJ, 240, .inr (.inl (fs_numbers))))] t) (va_A (w_c_X7_refusalOfSteps cI cJ cB cZ cO qs qs_widths qs_sizes fs_sizes qs_numbers fs_numbers) sz)) 0 0 (va_A (w_c_X7_refusalOfSteps cI cJ cB cZ cO qs qs_widths qs_sizes fs_sizes qs_numbers fs_numbers) sz) := by
  refine Met.ofW (cc := cX7_refusalOfSteps) (maxL := 3) (ret := (some .int)) (by decide) rfl ?_
  intro p e s m args below meth c s₁ B hml hv
  obtain ⟨rfl, hsz, hP, hE, hD0, hH⟩ := hv
  have hx := B.exec
  have hb := B.bytes
  have hr := B.returns
  have hts := atoms_spec (ws := wsX7_refusalOfSteps) B.pre
  have hown : s.vm.findClass RX7 = some m.cls := findClass_of_methodNamed B.named
  have hlocks := B.notSynchronized
  have hK := hE.1
  have hi7 : ∀ w ∈ u_ws RX7 TX7 3, w ∈ wsX7_refusalOfSteps := fun w h => List.mem_cons_of_mem _ (List.mem_append_right _ h)
  subst hsz
  have hD := hD0.self (sz := s.heap.size)
  generalize hAe : va_A (w_c_X7_refusalOfSteps cI cJ cB cZ cO qs qs_widths qs_sizes fs_sizes qs_numbers fs_numbers) s.heap.size = A at hD hH ⊢
  have hA : ∀ q : Nat, s.heap.size ≤ q → A q := fun q h => by rw [← hAe]; exact Or.inr h
  have hS : va_S A s.heap s.heap [] := va_S.rf
  have hP : va_P D vwCl [(qs, .inr (7, [.ref qs_widths, .ref qs_sizes, .ref qs_numbers])), (qs_sizes, .inl (cI, 4, .inl (fs_sizes))), (qs_numbers, .inl (cJ, 240, .inr (.inl (fs_numbers))))] s.heap := hP
  have hD : va_D A [(qs, .inr (7, [.ref qs_widths, .ref qs_sizes, .ref qs_numbers])), (qs_sizes, .inl (cI, 4, .inl (fs_sizes))), (qs_numbers, .inl (cJ, 240, .inr (.inl (fs_numbers))))] := hD
  have hl := lv_entry ([.ref qs, .int a1]) (n := 3) (Nat.le_of_ble_eq_true rfl)
  rw [lg_entry_eq]
  generalize (lg_sl ([.ref qs, .int a1]) ++ List.replicate (3 - (lg_sl ([.ref qs, .int a1])).length) Slot.unset).toArray = ls at hl ⊢
  have hl : lv_has ls 3 [(0, .ref qs), (1, .int a1)] := hl
  obtain ⟨H, hHe⟩ : ∃ H : Heap, H = s.heap := ⟨_, rfl⟩
  rw [← hHe] at hP
  have hS : va_S A s.heap H [] := by rw [hHe]; exact va_S.rf
  refine ct_start hHe ?_
  refine lv_iload_n hx hb dX7_refusalOfSteps_0 rfl (lv_at hl 1 rfl) ?_
  refine ct_calli (D := D) (wc := (w_c_X7_isSlot cI cJ cB cZ cO )) (wr := [(qs, .inr (7, [.ref qs_widths, .ref qs_sizes, .ref qs_numbers])), (qs_sizes, .inl (cI, 4, .inl (fs_sizes))), (qs_numbers, .inl (cJ, 240, .inr (.inl (fs_numbers))))]) (va_runS (As := [.int a1]) (rest := []) ⟨hx, hb, hml, hown, hts⟩ (c_X7_isSlot l D G cI cJ cB cZ cO a1  H.size) (va_cwS 1 hts gX7_refusalOfSteps_X7_isSlot rfl rfl rfl (by decide +kernel) ⟨Nat.le_of_ble_eq_true rfl, Nat.le_of_ble_eq_true rfl⟩) (ct_preS (T := ct_T cI cJ cB cZ cO) hE hH hP hD hS hA [] (by decide) rfl) rfl rfl hl.1 rfl (lv_room (Nat.le_of_ble_eq_true rfl)) dX7_refusalOfSteps_1 ⟨Nat.le_of_ble_eq_true rfl, Nat.le_of_ble_eq_true rfl⟩) hP hD hS hA [] [0, 1, 2] rfl rfl (by decide) (by decide) (fun r1 u H locs hw hP hD hS => ?_)
  have hP : va_P D vwCl [(qs, .inr (7, [.ref qs_widths, .ref qs_sizes, .ref qs_numbers])), (qs_sizes, .inl (cI, 4, .inl (fs_sizes))), (qs_numbers, .inl (cJ, 240, .inr (.inl (fs_numbers))))] H := hP
  have hD : va_D A [(qs, .inr (7, [.ref qs_widths, .ref qs_sizes, .ref qs_numbers])), (qs_sizes, .inl (cI, 4, .inl (fs_sizes))), (qs_numbers, .inl (cJ, 240, .inr (.inl (fs_numbers))))] := hD
  have hz := hw
  rcases hz with ⟨hz, hz2⟩ | ⟨hz, hz2⟩
  · subst hz
    have hz_2 : (0 ≤ a1.toInt ∧ a1.toInt < 4) := hz2
    refine lv_if_ne (tgt := 10) hx hb dX7_refusalOfSteps_4 (by decide) (fun _ => ?_) (fun hc => absurd hc (by decide))
    refine lv_aload_n hx hb dX7_refusalOfSteps_10 rfl (lv_at hl 0 rfl) ?_
    refine lv_iload_n hx hb dX7_refusalOfSteps_11 rfl (lv_at hl 1 rfl) ?_
    refine ct_calli (D := D) (wc := (w_c_X7_has cI cJ cB cZ cO qs qs_widths qs_sizes fs_sizes qs_numbers)) (wr := [(qs_numbers, .inl (cJ, 240, .inr (.inl (fs_numbers))))]) (va_runV (As := [.int a1]) (rest := []) ⟨hx, hb, hml, hown, hts⟩ (c_X7_has l D G cI cJ cB cZ cO qs qs_widths qs_sizes fs_sizes qs_numbers a1 h_fs_sizes (by omega) H.size) (cwV 1 hts gX7_refusalOfSteps_X7_has rfl rfl rfl (by decide +kernel) ⟨Nat.le_of_ble_eq_true rfl, Nat.le_of_ble_eq_true rfl⟩) (ct_preV (T := ct_T cI cJ cB cZ cO) (ci := 7) (q0 := 0) hE hH hP hD hS hA [0, 1] (by decide) rfl rfl rfl) rfl rfl hl.1 rfl (lv_room (Nat.le_of_ble_eq_true rfl)) dX7_refusalOfSteps_12 ⟨Nat.le_of_ble_eq_true rfl, Nat.le_of_ble_eq_true rfl⟩) hP hD hS hA [0, 1] [2] rfl rfl (by decide) (by decide) (fun r3 u H locs hw hP hD hS => ?_)
    have hP : va_P D vwCl [(qs_numbers, .inl (cJ, 240, .inr (.inl (fs_numbers)))), (qs, .inr (7, [.ref qs_widths, .ref qs_sizes, .ref qs_numbers])), (qs_sizes, .inl (cI, 4, .inl (fs_sizes)))] H := hP
    have hD : va_D A [(qs_numbers, .inl (cJ, 240, .inr (.inl (fs_numbers)))), (qs, .inr (7, [.ref qs_widths, .ref qs_sizes, .ref qs_numbers])), (qs_sizes, .inl (cI, 4, .inl (fs_sizes)))] := hD
    have hz := hw
    rcases hz with ⟨hz, hz2⟩ | ⟨hz, hz2⟩
    · subst hz
      refine lv_if_ne (tgt := 21) hx hb dX7_refusalOfSteps_15 (by decide) (fun _ => ?_) (fun hc => absurd hc (by decide))
      refine lv_iconst (v := 0) hx hb dX7_refusalOfSteps_21 (by decide) ?_
      refine lv_istore_n (lv' := [(2, .int 0), (0, .ref qs), (1, .int a1)]) hx hb dX7_refusalOfSteps_22 rfl hl (by decide) rfl (fun ls hl => ?_)
      refine ct_loop (X := Int32) (fun x => (60 - x.toInt).toNat) (fun x H locs ls => ((0 ≤ x.toInt ∧ x.toInt ≤ 60)) ∧ va_P D vwCl [(qs_numbers, .inl (cJ, 240, .inr (.inl (fs_numbers)))), (qs, .inr (7, [.ref qs_widths, .ref qs_sizes, .ref qs_numbers])), (qs_sizes, .inl (cI, 4, .inl (fs_sizes)))] H ∧ va_D A [(qs_numbers, .inl (cJ, 240, .inr (.inl (fs_numbers)))), (qs, .inr (7, [.ref qs_widths, .ref qs_sizes, .ref qs_numbers])), (qs_sizes, .inl (cI, 4, .inl (fs_sizes)))] ∧ va_S A s.heap H locs ∧ lv_has ls 3 [(2, .int x), (0, .ref qs), (1, .int a1)]) 23 (0 : Int32) ⟨(show 0 ≤ (0 : Int32).toInt ∧ (0 : Int32).toInt ≤ 60 by decide), hP, hD, hS, lv_sub hl [0, 1, 2] rfl⟩ (fun x ih59 H locs ls hI => ?_)
      obtain ⟨x58, rfl⟩ : ∃ z, z = x := ⟨_, rfl⟩
      obtain ⟨h_x58, hP, hD, hS, hl⟩ := hI
      have h_x58 : (0 ≤ x58.toInt ∧ x58.toInt ≤ 60) := h_x58
      have hP : va_P D vwCl [(qs_numbers, .inl (cJ, 240, .inr (.inl (fs_numbers)))), (qs, .inr (7, [.ref qs_widths, .ref qs_sizes, .ref qs_numbers])), (qs_sizes, .inl (cI, 4, .inl (fs_sizes)))] H := hP
      have hD : va_D A [(qs_numbers, .inl (cJ, 240, .inr (.inl (fs_numbers)))), (qs, .inr (7, [.ref qs_widths, .ref qs_sizes, .ref qs_numbers])), (qs_sizes, .inl (cI, 4, .inl (fs_sizes)))] := hD
      have hl : lv_has ls 3 [(2, .int x58), (0, .ref qs), (1, .int a1)] := hl
      refine lv_iload_n hx hb dX7_refusalOfSteps_23 rfl (lv_at hl 0 rfl) ?_
      refine lv_aload_n hx hb dX7_refusalOfSteps_24 rfl (lv_at hl 1 rfl) ?_
      refine va_get (D := D) (ci := 7) (v := .ref qs_sizes) (C := RX7) (T := TX7) (N := 3) hx hb hts hi7 hown hK hP 1 rfl rfl 1 (by decide) (hts (.fieldLink RX7 15 "OverHill$Slots" "sizes" "[I") (by decide +kernel)) (fun _ h9 => h9) rfl dX7_refusalOfSteps_25 ?_
      refine lv_iload_n hx hb dX7_refusalOfSteps_28 rfl (lv_at hl 2 rfl) ?_
      refine va_iald (D := D) hx hb hK hP 2 0 rfl rfl (tq_in rfl (by omega)) dX7_refusalOfSteps_29 ?_
      refine lv_topi (fun z60 ez60 => ?_)
      have fz60 : (-1) ≤ z60.toInt ∧ z60.toInt ≤ 60 := by rw [ez60]; exact ar_get h_fs_sizes a1 0 (by omega) (show a1.toInt % 1 = 0 by omega) rfl
      refine lv_icmp_ge (tgt := 54) hx hb dX7_refusalOfSteps_30 (by decide) (fun hc => ?_) (fun hc => ?_)
      · have hq61 : z60.toInt ≤ x58.toInt := tq_le rfl rfl hc
        refine lv_iconst (v := 0) hx hb dX7_refusalOfSteps_54 (by decide) ?_
        have hP9 := hP.sub (ws' := [(qs, .inr (7, [.ref qs_widths, .ref qs_sizes, .ref qs_numbers])), (qs_sizes, .inl (cI, 4, .inl (fs_sizes))), (qs_numbers, .inl (cJ, 240, .inr (.inl (fs_numbers))))]) [1, 2, 0] rfl
        have hD9 := hD.sub (ws' := [(qs, .inr (7, [.ref qs_widths, .ref qs_sizes, .ref qs_numbers])), (qs_sizes, .inl (cI, 4, .inl (fs_sizes))), (qs_numbers, .inl (cJ, 240, .inr (.inl (fs_numbers))))]) [1, 2, 0] (by decide) rfl
        exact W.iret (v := 0) hx hb hr (fun t ht hW => ⟨⟨0, (), rfl, (Or.inl ⟨rfl, (show (0 ≤ a1.toInt ∧ a1.toInt < 4) by omega)⟩), by rw [ht]; exact hP9, hD9⟩, hS.F ht⟩) hS.2.2 dX7_refusalOfSteps_55
      · have hq61 : x58.toInt < z60.toInt := tq_nle rfl rfl hc
        refine lv_aload_n hx hb dX7_refusalOfSteps_33 rfl (lv_at hl 1 rfl) ?_
        refine lv_iload_n hx hb dX7_refusalOfSteps_34 rfl (lv_at hl 2 rfl) ?_
        refine lv_iload_n hx hb dX7_refusalOfSteps_35 rfl (lv_at hl 0 rfl) ?_
        refine ct_calll (D := D) (wc := (w_c_X7_at cI cJ cB cZ cO qs qs_widths qs_sizes qs_numbers fs_numbers)) (wr := [(qs_sizes, .inl (cI, 4, .inl (fs_sizes)))]) (va_runV (As := [.int a1, .int x58]) (rest := []) ⟨hx, hb, hml, hown, hts⟩ (c_X7_at l D G cI cJ cB cZ cO qs qs_widths qs_sizes qs_numbers fs_numbers a1 x58 (by omega) (by omega) H.size) (cwV 2 hts gX7_refusalOfSteps_X7_at rfl rfl rfl (by decide +kernel) ⟨Nat.le_of_ble_eq_true rfl, Nat.le_of_ble_eq_true rfl⟩) (ct_preV (T := ct_T cI cJ cB cZ cO) (ci := 7) (q0 := 1) hE hH hP hD hS hA [1, 0] (by decide) rfl rfl rfl) rfl rfl hl.1 rfl (lv_room (Nat.le_of_ble_eq_true rfl)) dX7_refusalOfSteps_36 ⟨Nat.le_of_ble_eq_true rfl, Nat.le_of_ble_eq_true rfl⟩) hP hD hS hA [1, 0] [2] rfl rfl (by decide) (by decide) (fun r62 u H locs hw hP hD hS => ?_)
        have hP : va_P D vwCl [(qs_sizes, .inl (cI, 4, .inl (fs_sizes))), (qs, .inr (7, [.ref qs_widths, .ref qs_sizes, .ref qs_numbers])), (qs_numbers, .inl (cJ, 240, .inr (.inl (fs_numbers))))] H := hP
        have hD : va_D A [(qs_sizes, .inl (cI, 4, .inl (fs_sizes))), (qs, .inr (7, [.ref qs_widths, .ref qs_sizes, .ref qs_numbers])), (qs_numbers, .inl (cJ, 240, .inr (.inl (fs_numbers))))] := hD
        have hp0 := hw
        have hp_63 : r62 = fs_numbers (60 * a1.toInt + x58.toInt).toNat := hp0
        refine ct_calli (D := D) (wc := (w_c_X7_isTold cI cJ cB cZ cO )) (wr := [(qs_sizes, .inl (cI, 4, .inl (fs_sizes))), (qs, .inr (7, [.ref qs_widths, .ref qs_sizes, .ref qs_numbers])), (qs_numbers, .inl (cJ, 240, .inr (.inl (fs_numbers))))]) (va_runS (As := [.long r62]) (rest := []) ⟨hx, hb, hml, hown, hts⟩ (c_X7_isTold l D G cI cJ cB cZ cO r62  H.size) (va_cwS 1 hts gX7_refusalOfSteps_X7_isTold rfl rfl rfl (by decide +kernel) ⟨Nat.le_of_ble_eq_true rfl, Nat.le_of_ble_eq_true rfl⟩) (ct_preS (T := ct_T cI cJ cB cZ cO) hE hH hP hD hS hA [] (by decide) rfl) rfl rfl hl.1 rfl (lv_room (Nat.le_of_ble_eq_true rfl)) dX7_refusalOfSteps_39 ⟨Nat.le_of_ble_eq_true rfl, Nat.le_of_ble_eq_true rfl⟩) hP hD hS hA [] [0, 1, 2] rfl rfl (by decide) (by decide) (fun r64 u H locs hw hP hD hS => ?_)
        have hP : va_P D vwCl [(qs_sizes, .inl (cI, 4, .inl (fs_sizes))), (qs, .inr (7, [.ref qs_widths, .ref qs_sizes, .ref qs_numbers])), (qs_numbers, .inl (cJ, 240, .inr (.inl (fs_numbers))))] H := hP
        have hD : va_D A [(qs_sizes, .inl (cI, 4, .inl (fs_sizes))), (qs, .inr (7, [.ref qs_widths, .ref qs_sizes, .ref qs_numbers])), (qs_numbers, .inl (cJ, 240, .inr (.inl (fs_numbers))))] := hD
        have hz := hw
        rcases hz with ⟨hz, hz2⟩ | ⟨hz, hz2⟩
        · subst hz
          have hz_65 : (-1 ≤ r62.toInt ∧ r62.toInt ≤ 5) := hz2
          refine lv_if_ne (tgt := 48) hx hb dX7_refusalOfSteps_42 (by decide) (fun _ => ?_) (fun hc => absurd hc (by decide))
          obtain ⟨z66, ez66⟩ : ∃ z : Int32, z = x58 + 1 := ⟨_, rfl⟩
          have fz66 : z66.toInt = x58.toInt + 1 := by rw [ez66]; exact tq_add rfl (by decide) (by omega)
          refine lv_iinc (v := z66) (lv' := [(2, .int z66), (0, .ref qs), (1, .int a1)]) hx hb dX7_refusalOfSteps_48 hl (k := 0) rfl ez66.symm (by decide) rfl (fun ls hl => ?_)
          refine lv_goto (tgt := 23) hx hb dX7_refusalOfSteps_51 (by decide) ?_
          have hP9 := hP.sub (ws' := [(qs_numbers, .inl (cJ, 240, .inr (.inl (fs_numbers)))), (qs, .inr (7, [.ref qs_widths, .ref qs_sizes, .ref qs_numbers])), (qs_sizes, .inl (cI, 4, .inl (fs_sizes)))]) [2, 1, 0] rfl
          have hD9 := hD.sub (ws' := [(qs_numbers, .inl (cJ, 240, .inr (.inl (fs_numbers)))), (qs, .inr (7, [.ref qs_widths, .ref qs_sizes, .ref qs_numbers])), (qs_sizes, .inl (cI, 4, .inl (fs_sizes)))]) [2, 1, 0] (by decide) rfl
          exact ih59 z66 _ _ _ (show (60 - z66.toInt).toNat < (60 - x58.toInt).toNat by omega) ⟨(show 0 ≤ z66.toInt ∧ z66.toInt ≤ 60 by omega), hP9, hD9, hS, lv_sub hl [0, 1, 2] rfl⟩
        · subst hz
          have hz_67 : ¬ (-1 ≤ r62.toInt ∧ r62.toInt ≤ 5) := hz2
          refine lv_if_ne (tgt := 48) hx hb dX7_refusalOfSteps_42 (by decide) (fun hc => absurd hc (by decide)) (fun _ => ?_)
          refine lv_bipush (v := (-2)) hx hb dX7_refusalOfSteps_45 (by decide) ?_
          have hP9 := hP.sub (ws' := [(qs, .inr (7, [.ref qs_widths, .ref qs_sizes, .ref qs_numbers])), (qs_sizes, .inl (cI, 4, .inl (fs_sizes))), (qs_numbers, .inl (cJ, 240, .inr (.inl (fs_numbers))))]) [1, 0, 2] rfl
          have hD9 := hD.sub (ws' := [(qs, .inr (7, [.ref qs_widths, .ref qs_sizes, .ref qs_numbers])), (qs_sizes, .inl (cI, 4, .inl (fs_sizes))), (qs_numbers, .inl (cJ, 240, .inr (.inl (fs_numbers))))]) [1, 0, 2] (by decide) rfl
          exact W.iret (v := (-2)) hx hb hr (fun t ht hW => ⟨⟨(-2), (), rfl, (Or.inr (Or.inr (⟨rfl, trivial⟩))), by rw [ht]; exact hP9, hD9⟩, hS.F ht⟩) hS.2.2 dX7_refusalOfSteps_47
    · subst hz
      refine lv_if_ne (tgt := 21) hx hb dX7_refusalOfSteps_15 (by decide) (fun hc => absurd hc (by decide)) (fun _ => ?_)
      refine lv_bipush (v := (-6)) hx hb dX7_refusalOfSteps_18 (by decide) ?_
      have hP9 := hP.sub (ws' := [(qs, .inr (7, [.ref qs_widths, .ref qs_sizes, .ref qs_numbers])), (qs_sizes, .inl (cI, 4, .inl (fs_sizes))), (qs_numbers, .inl (cJ, 240, .inr (.inl (fs_numbers))))]) [1, 2, 0] rfl
      have hD9 := hD.sub (ws' := [(qs, .inr (7, [.ref qs_widths, .ref qs_sizes, .ref qs_numbers])), (qs_sizes, .inl (cI, 4, .inl (fs_sizes))), (qs_numbers, .inl (cJ, 240, .inr (.inl (fs_numbers))))]) [1, 2, 0] (by decide) rfl
      exact W.iret (v := (-6)) hx hb hr (fun t ht hW => ⟨⟨(-6), (), rfl, (Or.inr (Or.inl ⟨rfl, (show (0 ≤ a1.toInt ∧ a1.toInt < 4) by omega)⟩)), by rw [ht]; exact hP9, hD9⟩, hS.F ht⟩) hS.2.2 dX7_refusalOfSteps_20
  · subst hz
    have hz_68 : ¬ (0 ≤ a1.toInt ∧ a1.toInt < 4) := hz2
    refine lv_if_ne (tgt := 10) hx hb dX7_refusalOfSteps_4 (by decide) (fun hc => absurd hc (by decide)) (fun _ => ?_)
    refine lv_bipush (v := (-2)) hx hb dX7_refusalOfSteps_7 (by decide) ?_
    have hP9 := hP.sub (ws' := [(qs, .inr (7, [.ref qs_widths, .ref qs_sizes, .ref qs_numbers])), (qs_sizes, .inl (cI, 4, .inl (fs_sizes))), (qs_numbers, .inl (cJ, 240, .inr (.inl (fs_numbers))))]) [0, 1, 2] rfl
    have hD9 := hD.sub (ws' := [(qs, .inr (7, [.ref qs_widths, .ref qs_sizes, .ref qs_numbers])), (qs_sizes, .inl (cI, 4, .inl (fs_sizes))), (qs_numbers, .inl (cJ, 240, .inr (.inl (fs_numbers))))]) [0, 1, 2] (by decide) rfl
    exact W.iret (v := (-2)) hx hb hr (fun t ht hW => ⟨⟨(-2), (), rfl, (Or.inr (Or.inr (⟨rfl, trivial⟩))), by rw [ht]; exact hP9, hD9⟩, hS.F ht⟩) hS.2.2 dX7_refusalOfSteps_9
