abbrev w_c_X7_refusalOfHeard (cI cJ cB cZ cO : ClassId) (qs : Nat) (qs_widths : Nat) (qs_sizes : Nat) (fs_sizes : Nat → Int32) (qs_numbers : Nat) (fs_numbers : Nat → Int64) : va_W := [(qs, .inr (7, [.ref qs_widths, .ref qs_sizes, .ref qs_numbers])), (qs_sizes, .inl (cI, 4, .inl (fs_sizes))), (qs_numbers, .inl (cJ, 240, .inr (.inl (fs_numbers))))]
set_option maxHeartbeats 4000000 in
set_option maxRecDepth 100000 in
/-- X7 refusalOfHeard -/
theorem c_X7_refusalOfHeard (l : Launch) (D : va_G) (G : ct_G) (cI cJ cB cZ cO : ClassId) (qs : Nat) (qs_widths : Nat) (qs_sizes : Nat) (fs_sizes : Nat → Int32) (qs_numbers : Nat) (fs_numbers : Nat → Int64) (a1 : Int32) (h_fs_sizes : ar_ok [(-1)] [60] fs_sizes) (sz : Nat) : Met l yX7_refusalOfHeard wsX7_refusalOfHeard ({ frames := 2, cells := 0, slots := 0, locals := 46 }) (va_Pc [.ref qs, .int a1] (ct_P D (ct_T cI cJ cB cZ cO) G (w_c_X7_refusalOfHeard cI cJ cB cZ cO qs qs_widths qs_sizes fs_sizes qs_numbers fs_numbers) sz)) (va_Qi (fun (rz : Int32) (u : Unit) => ((rz = 0 ∧ (0 ≤ a1.toInt ∧ a1.toInt < 4) ∧ hd_ok fs_numbers a1.toInt 1 (fs_sizes a1.toNatClampNeg).toInt) ∨ (rz = (-6) ∧ True) ∨ (rz = (-2) ∧ True))) (fun (u : Unit) t => ct_Q D (va_A (w_c_X7_refusalOfHeard cI cJ cB cZ cO qs qs_widths qs_sizes fs_sizes qs_numbers fs_numbers) sz) [(qs, .inr (7, [.ref qs_widths, .ref qs_sizes, .ref qs_numbers])), (qs_sizes, .inl (cI, 4, .inl (fs_sizes))), (qs_numbers, .inl (cJ, 240, .inr (.inl (fs_numbers))))] t) (va_A (w_c_X7_refusalOfHeard cI cJ cB cZ cO qs qs_widths qs_sizes fs_sizes qs_numbers fs_numbers) sz)) 0 0 (va_A (w_c_X7_refusalOfHeard cI cJ cB cZ cO qs qs_widths qs_sizes fs_sizes qs_numbers fs_numbers) sz) := by
  refine Met.ofW (cc := cX7_refusalOfHeard) (maxL := 5) (ret := (some .int)) (by decide) rfl ?_
  intro p e s m args below meth c s₁ B hml hv
  obtain ⟨rfl, hsz, hP, hE, hD0, hH⟩ := hv
  have hx := B.exec
  have hb := B.bytes
  have hr := B.returns
  have hts := atoms_spec (ws := wsX7_refusalOfHeard) B.pre
  have hown : s.vm.findClass RX7 = some m.cls := findClass_of_methodNamed B.named
  have hlocks := B.notSynchronized
  have hK := hE.1
  have hi7 : ∀ w ∈ u_ws RX7 TX7 3, w ∈ wsX7_refusalOfHeard := fun w h => List.mem_cons_of_mem _ (List.mem_append_right _ h)
  subst hsz
  have hD := hD0.self (sz := s.heap.size)
  generalize hAe : va_A (w_c_X7_refusalOfHeard cI cJ cB cZ cO qs qs_widths qs_sizes fs_sizes qs_numbers fs_numbers) s.heap.size = A at hD hH ⊢
  have hA : ∀ q : Nat, s.heap.size ≤ q → A q := fun q h => by rw [← hAe]; exact Or.inr h
  have hS : va_S A s.heap s.heap [] := va_S.rf
  have hP : va_P D vwCl [(qs, .inr (7, [.ref qs_widths, .ref qs_sizes, .ref qs_numbers])), (qs_sizes, .inl (cI, 4, .inl (fs_sizes))), (qs_numbers, .inl (cJ, 240, .inr (.inl (fs_numbers))))] s.heap := hP
  have hD : va_D A [(qs, .inr (7, [.ref qs_widths, .ref qs_sizes, .ref qs_numbers])), (qs_sizes, .inl (cI, 4, .inl (fs_sizes))), (qs_numbers, .inl (cJ, 240, .inr (.inl (fs_numbers))))] := hD
  have hl := lv_entry ([.ref qs, .int a1]) (n := 5) (Nat.le_of_ble_eq_true rfl)
  rw [lg_entry_eq]
  generalize (lg_sl ([.ref qs, .int a1]) ++ List.replicate (5 - (lg_sl ([.ref qs, .int a1])).length) Slot.unset).toArray = ls at hl ⊢
  have hl : lv_has ls 5 [(0, .ref qs), (1, .int a1)] := hl
  obtain ⟨H, hHe⟩ : ∃ H : Heap, H = s.heap := ⟨_, rfl⟩
  rw [← hHe] at hP
  have hS : va_S A s.heap H [] := by rw [hHe]; exact va_S.rf
  refine ct_start hHe ?_
  refine lv_iload_n hx hb dX7_refusalOfHeard_0 rfl (lv_at hl 1 rfl) ?_
  refine ct_calli (D := D) (wc := (w_c_X7_isSlot cI cJ cB cZ cO )) (wr := [(qs, .inr (7, [.ref qs_widths, .ref qs_sizes, .ref qs_numbers])), (qs_sizes, .inl (cI, 4, .inl (fs_sizes))), (qs_numbers, .inl (cJ, 240, .inr (.inl (fs_numbers))))]) (va_runS (As := [.int a1]) (rest := []) ⟨hx, hb, hml, hown, hts⟩ (c_X7_isSlot l D G cI cJ cB cZ cO a1  H.size) (va_cwS 1 hts gX7_refusalOfHeard_X7_isSlot rfl rfl rfl (by decide +kernel) ⟨Nat.le_of_ble_eq_true rfl, Nat.le_of_ble_eq_true rfl⟩) (ct_preS (T := ct_T cI cJ cB cZ cO) hE hH hP hD hS hA [] (by decide) rfl) rfl rfl hl.1 rfl (lv_room (Nat.le_of_ble_eq_true rfl)) dX7_refusalOfHeard_1 ⟨Nat.le_of_ble_eq_true rfl, Nat.le_of_ble_eq_true rfl⟩) hP hD hS hA [] [0, 1, 2] rfl rfl (by decide) (by decide) (fun r1 u H locs hw hP hD hS => ?_)
  have hP : va_P D vwCl [(qs, .inr (7, [.ref qs_widths, .ref qs_sizes, .ref qs_numbers])), (qs_sizes, .inl (cI, 4, .inl (fs_sizes))), (qs_numbers, .inl (cJ, 240, .inr (.inl (fs_numbers))))] H := hP
  have hD : va_D A [(qs, .inr (7, [.ref qs_widths, .ref qs_sizes, .ref qs_numbers])), (qs_sizes, .inl (cI, 4, .inl (fs_sizes))), (qs_numbers, .inl (cJ, 240, .inr (.inl (fs_numbers))))] := hD
  have hz := hw
  rcases hz with ⟨hz, hz2⟩ | ⟨hz, hz2⟩
  · subst hz
    have hz_2 : (0 ≤ a1.toInt ∧ a1.toInt < 4) := hz2
    refine lv_if_ne (tgt := 10) hx hb dX7_refusalOfHeard_4 (by decide) (fun _ => ?_) (fun hc => absurd hc (by decide))
    refine lv_aload_n hx hb dX7_refusalOfHeard_10 rfl (lv_at hl 0 rfl) ?_
    refine lv_iload_n hx hb dX7_refusalOfHeard_11 rfl (lv_at hl 1 rfl) ?_
    refine ct_calli (D := D) (wc := (w_c_X7_has cI cJ cB cZ cO qs qs_widths qs_sizes fs_sizes qs_numbers)) (wr := [(qs_numbers, .inl (cJ, 240, .inr (.inl (fs_numbers))))]) (va_runV (As := [.int a1]) (rest := []) ⟨hx, hb, hml, hown, hts⟩ (c_X7_has l D G cI cJ cB cZ cO qs qs_widths qs_sizes fs_sizes qs_numbers a1 h_fs_sizes (by omega) H.size) (cwV 1 hts gX7_refusalOfHeard_X7_has rfl rfl rfl (by decide +kernel) ⟨Nat.le_of_ble_eq_true rfl, Nat.le_of_ble_eq_true rfl⟩) (ct_preV (T := ct_T cI cJ cB cZ cO) (ci := 7) (q0 := 0) hE hH hP hD hS hA [0, 1] (by decide) rfl rfl rfl) rfl rfl hl.1 rfl (lv_room (Nat.le_of_ble_eq_true rfl)) dX7_refusalOfHeard_12 ⟨Nat.le_of_ble_eq_true rfl, Nat.le_of_ble_eq_true rfl⟩) hP hD hS hA [0, 1] [2] rfl rfl (by decide) (by decide) (fun r3 u H locs hw hP hD hS => ?_)
    have hP : va_P D vwCl [(qs_numbers, .inl (cJ, 240, .inr (.inl (fs_numbers)))), (qs, .inr (7, [.ref qs_widths, .ref qs_sizes, .ref qs_numbers])), (qs_sizes, .inl (cI, 4, .inl (fs_sizes)))] H := hP
    have hD : va_D A [(qs_numbers, .inl (cJ, 240, .inr (.inl (fs_numbers)))), (qs, .inr (7, [.ref qs_widths, .ref qs_sizes, .ref qs_numbers])), (qs_sizes, .inl (cI, 4, .inl (fs_sizes)))] := hD
    have hz := hw
    rcases hz with ⟨hz, hz2⟩ | ⟨hz, hz2⟩
    · subst hz
      refine lv_if_ne (tgt := 21) hx hb dX7_refusalOfHeard_15 (by decide) (fun _ => ?_) (fun hc => absurd hc (by decide))
      refine lv_aload_n hx hb dX7_refusalOfHeard_21 rfl (lv_at hl 0 rfl) ?_
      refine va_get (D := D) (ci := 7) (v := .ref qs_sizes) (C := RX7) (T := TX7) (N := 3) hx hb hts hi7 hown hK hP 1 rfl rfl 1 (by decide) (hts (.fieldLink RX7 15 "OverHill$Slots" "sizes" "[I") (by decide +kernel)) (fun _ h9 => h9) rfl dX7_refusalOfHeard_22 ?_
      refine lv_iload_n hx hb dX7_refusalOfHeard_25 rfl (lv_at hl 1 rfl) ?_
      refine va_iald (D := D) hx hb hK hP 2 0 rfl rfl (tq_in rfl (by omega)) dX7_refusalOfHeard_26 ?_
      refine lv_topi (fun z4 ez4 => ?_)
      have fz4 : (-1) ≤ z4.toInt ∧ z4.toInt ≤ 60 := by rw [ez4]; exact ar_get h_fs_sizes a1 0 (by omega) (show a1.toInt % 1 = 0 by omega) rfl
      refine lv_iconst (v := 2) hx hb dX7_refusalOfHeard_27 (by decide) ?_
      refine lv_irem hx hb dX7_refusalOfHeard_28 (by decide) ?_
      refine lv_topi (fun z5 ez5 => ?_)
      have fz5 : -2 < z5.toInt ∧ z5.toInt < 2 := by rw [ez5]; exact tq_rema rfl (by decide) (by omega)
      refine lv_if_ne (tgt := 36) hx hb dX7_refusalOfHeard_29 (by decide) (fun hc => ?_) (fun hc => ?_)
      · have hq6 : z5.toInt ≠ 0 := tq_ne rfl (by decide) hc
        refine lv_iconst (v := 0) hx hb dX7_refusalOfHeard_36 (by decide) ?_
        refine lv_istore_n (lv' := [(2, .int 0), (0, .ref qs), (1, .int a1)]) hx hb dX7_refusalOfHeard_37 rfl hl (by decide) rfl (fun ls hl => ?_)
        refine lv_iconst (v := 0) hx hb dX7_refusalOfHeard_38 (by decide) ?_
        refine lv_istore_n (lv' := [(3, .int 0), (2, .int 0), (0, .ref qs), (1, .int a1)]) hx hb dX7_refusalOfHeard_39 rfl hl (by decide) rfl (fun ls hl => ?_)
        refine ct_loop (X := Int32) (fun x => (60 - x.toInt).toNat) (fun x H locs ls => ((0 ≤ x.toInt ∧ x.toInt ≤ 60)) ∧ (hd_ok fs_numbers a1.toInt 0 x.toInt) ∧ va_P D vwCl [(qs_numbers, .inl (cJ, 240, .inr (.inl (fs_numbers)))), (qs, .inr (7, [.ref qs_widths, .ref qs_sizes, .ref qs_numbers])), (qs_sizes, .inl (cI, 4, .inl (fs_sizes)))] H ∧ va_D A [(qs_numbers, .inl (cJ, 240, .inr (.inl (fs_numbers)))), (qs, .inr (7, [.ref qs_widths, .ref qs_sizes, .ref qs_numbers])), (qs_sizes, .inl (cI, 4, .inl (fs_sizes)))] ∧ va_S A s.heap H locs ∧ lv_has ls 5 [(3, .int x), (2, .int 0), (0, .ref qs), (1, .int a1)]) 40 (0 : Int32) ⟨(show 0 ≤ (0 : Int32).toInt ∧ (0 : Int32).toInt ≤ 60 by decide), (show hd_ok fs_numbers a1.toInt 0 (0 : Int32).toInt by exact fun _ k hk => absurd hk (by have h0 : (0 : Int32).toInt = 0 := by decide
                                                                    omega)), hP, hD, hS, lv_sub hl [0, 1, 2, 3] rfl⟩ (fun x ih113 H locs ls hI => ?_)
        obtain ⟨x112, rfl⟩ : ∃ z, z = x := ⟨_, rfl⟩
        obtain ⟨h_x112, he0, hP, hD, hS, hl⟩ := hI
        have h_x112 : (0 ≤ x112.toInt ∧ x112.toInt ≤ 60) := h_x112
        have he0 : hd_ok fs_numbers a1.toInt 0 x112.toInt := he0
        have hP : va_P D vwCl [(qs_numbers, .inl (cJ, 240, .inr (.inl (fs_numbers)))), (qs, .inr (7, [.ref qs_widths, .ref qs_sizes, .ref qs_numbers])), (qs_sizes, .inl (cI, 4, .inl (fs_sizes)))] H := hP
        have hD : va_D A [(qs_numbers, .inl (cJ, 240, .inr (.inl (fs_numbers)))), (qs, .inr (7, [.ref qs_widths, .ref qs_sizes, .ref qs_numbers])), (qs_sizes, .inl (cI, 4, .inl (fs_sizes)))] := hD
        have hl : lv_has ls 5 [(3, .int x112), (2, .int 0), (0, .ref qs), (1, .int a1)] := hl
        refine lv_iload_n hx hb dX7_refusalOfHeard_40 rfl (lv_at hl 0 rfl) ?_
        refine lv_aload_n hx hb dX7_refusalOfHeard_41 rfl (lv_at hl 2 rfl) ?_
        refine va_get (D := D) (ci := 7) (v := .ref qs_sizes) (C := RX7) (T := TX7) (N := 3) hx hb hts hi7 hown hK hP 1 rfl rfl 1 (by decide) (hts (.fieldLink RX7 15 "OverHill$Slots" "sizes" "[I") (by decide +kernel)) (fun _ h9 => h9) rfl dX7_refusalOfHeard_42 ?_
        refine lv_iload_n hx hb dX7_refusalOfHeard_45 rfl (lv_at hl 3 rfl) ?_
        refine va_iald (D := D) hx hb hK hP 2 0 rfl rfl (tq_in rfl (by omega)) dX7_refusalOfHeard_46 ?_
        refine lv_topi (fun z114 ez114 => ?_)
        have fz114 : (-1) ≤ z114.toInt ∧ z114.toInt ≤ 60 := by rw [ez114]; exact ar_get h_fs_sizes a1 0 (by omega) (show a1.toInt % 1 = 0 by omega) rfl
        refine lv_icmp_ge (tgt := 104) hx hb dX7_refusalOfHeard_47 (by decide) (fun hc => ?_) (fun hc => ?_)
        · have hq115 : z114.toInt ≤ x112.toInt := tq_le rfl rfl hc
          refine lv_iload_n hx hb dX7_refusalOfHeard_104 rfl (lv_at hl 1 rfl) ?_
          refine lv_if_eq (tgt := 112) hx hb dX7_refusalOfHeard_105 (by decide) (fun _ => ?_) (fun hc => absurd hc (by decide))
          refine lv_bipush (v := (-2)) hx hb dX7_refusalOfHeard_112 (by decide) ?_
          have hP9 := hP.sub (ws' := [(qs, .inr (7, [.ref qs_widths, .ref qs_sizes, .ref qs_numbers])), (qs_sizes, .inl (cI, 4, .inl (fs_sizes))), (qs_numbers, .inl (cJ, 240, .inr (.inl (fs_numbers))))]) [1, 2, 0] rfl
          have hD9 := hD.sub (ws' := [(qs, .inr (7, [.ref qs_widths, .ref qs_sizes, .ref qs_numbers])), (qs_sizes, .inl (cI, 4, .inl (fs_sizes))), (qs_numbers, .inl (cJ, 240, .inr (.inl (fs_numbers))))]) [1, 2, 0] (by decide) rfl
          exact W.iret (v := (-2)) hx hb hr (fun t ht hW => ⟨⟨(-2), (), rfl, (Or.inr (Or.inr (⟨rfl, trivial⟩))), by rw [ht]; exact hP9, hD9⟩, hS.F ht⟩) hS.2.2 dX7_refusalOfHeard_114
        · have hq115 : x112.toInt < z114.toInt := tq_nle rfl rfl hc
          refine lv_iload_n hx hb dX7_refusalOfHeard_50 rfl (lv_at hl 0 rfl) ?_
          refine lv_iconst (v := 2) hx hb dX7_refusalOfHeard_51 (by decide) ?_
          refine lv_irem hx hb dX7_refusalOfHeard_52 (by decide) ?_
          refine lv_topi (fun z116 ez116 => ?_)
          have fz116 : z116.toInt = x112.toInt % 2 := by rw [ez116]; exact tq_remc (c := 2) rfl (by decide) (by omega) (by omega)
          refine lv_if_ne (tgt := 72) hx hb dX7_refusalOfHeard_53 (by decide) (fun hc => ?_) (fun hc => ?_)
          · have hq117 : z116.toInt ≠ 0 := tq_ne rfl (by decide) hc
            refine lv_aload_n hx hb dX7_refusalOfHeard_72 rfl (lv_at hl 2 rfl) ?_
            refine lv_iload_n hx hb dX7_refusalOfHeard_73 rfl (lv_at hl 3 rfl) ?_
            refine lv_iload_n hx hb dX7_refusalOfHeard_74 rfl (lv_at hl 0 rfl) ?_
            refine ct_calll (D := D) (wc := (w_c_X7_at cI cJ cB cZ cO qs qs_widths qs_sizes qs_numbers fs_numbers)) (wr := [(qs_sizes, .inl (cI, 4, .inl (fs_sizes)))]) (va_runV (As := [.int a1, .int x112]) (rest := []) ⟨hx, hb, hml, hown, hts⟩ (c_X7_at l D G cI cJ cB cZ cO qs qs_widths qs_sizes qs_numbers fs_numbers a1 x112 (by omega) (by omega) H.size) (cwV 2 hts gX7_refusalOfHeard_X7_at rfl rfl rfl (by decide +kernel) ⟨Nat.le_of_ble_eq_true rfl, Nat.le_of_ble_eq_true rfl⟩) (ct_preV (T := ct_T cI cJ cB cZ cO) (ci := 7) (q0 := 1) hE hH hP hD hS hA [1, 0] (by decide) rfl rfl rfl) rfl rfl hl.1 rfl (lv_room (Nat.le_of_ble_eq_true rfl)) dX7_refusalOfHeard_75 ⟨Nat.le_of_ble_eq_true rfl, Nat.le_of_ble_eq_true rfl⟩) hP hD hS hA [1, 0] [2] rfl rfl (by decide) (by decide) (fun r118 u H locs hw hP hD hS => ?_)
            have hP : va_P D vwCl [(qs_sizes, .inl (cI, 4, .inl (fs_sizes))), (qs, .inr (7, [.ref qs_widths, .ref qs_sizes, .ref qs_numbers])), (qs_numbers, .inl (cJ, 240, .inr (.inl (fs_numbers))))] H := hP
            have hD : va_D A [(qs_sizes, .inl (cI, 4, .inl (fs_sizes))), (qs, .inr (7, [.ref qs_widths, .ref qs_sizes, .ref qs_numbers])), (qs_numbers, .inl (cJ, 240, .inr (.inl (fs_numbers))))] := hD
            have hp0 := hw
            have hp_119 : r118 = fs_numbers (60 * a1.toInt + x112.toInt).toNat := hp0
            refine ct_calli (D := D) (wc := (w_c_X7_isTold cI cJ cB cZ cO )) (wr := [(qs_sizes, .inl (cI, 4, .inl (fs_sizes))), (qs, .inr (7, [.ref qs_widths, .ref qs_sizes, .ref qs_numbers])), (qs_numbers, .inl (cJ, 240, .inr (.inl (fs_numbers))))]) (va_runS (As := [.long r118]) (rest := []) ⟨hx, hb, hml, hown, hts⟩ (c_X7_isTold l D G cI cJ cB cZ cO r118  H.size) (va_cwS 1 hts gX7_refusalOfHeard_X7_isTold rfl rfl rfl (by decide +kernel) ⟨Nat.le_of_ble_eq_true rfl, Nat.le_of_ble_eq_true rfl⟩) (ct_preS (T := ct_T cI cJ cB cZ cO) hE hH hP hD hS hA [] (by decide) rfl) rfl rfl hl.1 rfl (lv_room (Nat.le_of_ble_eq_true rfl)) dX7_refusalOfHeard_78 ⟨Nat.le_of_ble_eq_true rfl, Nat.le_of_ble_eq_true rfl⟩) hP hD hS hA [] [0, 1, 2] rfl rfl (by decide) (by decide) (fun r120 u H locs hw hP hD hS => ?_)
            have hP : va_P D vwCl [(qs_sizes, .inl (cI, 4, .inl (fs_sizes))), (qs, .inr (7, [.ref qs_widths, .ref qs_sizes, .ref qs_numbers])), (qs_numbers, .inl (cJ, 240, .inr (.inl (fs_numbers))))] H := hP
            have hD : va_D A [(qs_sizes, .inl (cI, 4, .inl (fs_sizes))), (qs, .inr (7, [.ref qs_widths, .ref qs_sizes, .ref qs_numbers])), (qs_numbers, .inl (cJ, 240, .inr (.inl (fs_numbers))))] := hD
            have hz := hw
            rcases hz with ⟨hz, hz2⟩ | ⟨hz, hz2⟩
            · subst hz
              have hz_121 : (-1 ≤ r118.toInt ∧ r118.toInt ≤ 5) := hz2
              refine lv_istore (lv' := [(4, .int 1), (3, .int x112), (2, .int 0), (0, .ref qs), (1, .int a1)]) hx hb dX7_refusalOfHeard_81 hl (by decide) rfl (fun ls hl => ?_)
              refine lv_iload_n hx hb dX7_refusalOfHeard_83 rfl (lv_at hl 2 rfl) ?_
              refine lv_if_eq (tgt := 96) hx hb dX7_refusalOfHeard_84 (by decide) (fun _ => ?_) (fun hc => absurd hc (by decide))
              refine lv_iconst (v := 0) hx hb dX7_refusalOfHeard_96 (by decide) ?_
              refine lv_istore_n (lv' := [(2, .int 0), (4, .int 1), (3, .int x112), (0, .ref qs), (1, .int a1)]) hx hb dX7_refusalOfHeard_97 rfl hl (by decide) rfl (fun ls hl => ?_)
              obtain ⟨z122, ez122⟩ : ∃ z : Int32, z = x112 + 1 := ⟨_, rfl⟩
              have fz122 : z122.toInt = x112.toInt + 1 := by rw [ez122]; exact tq_add rfl (by decide) (by omega)
              refine lv_iinc (v := z122) (lv' := [(3, .int z122), (2, .int 0), (4, .int 1), (0, .ref qs), (1, .int a1)]) hx hb dX7_refusalOfHeard_98 hl (k := 2) rfl ez122.symm (by decide) rfl (fun ls hl => ?_)
              refine lv_goto (tgt := 40) hx hb dX7_refusalOfHeard_101 (by decide) ?_
              have hP9 := hP.sub (ws' := [(qs_numbers, .inl (cJ, 240, .inr (.inl (fs_numbers)))), (qs, .inr (7, [.ref qs_widths, .ref qs_sizes, .ref qs_numbers])), (qs_sizes, .inl (cI, 4, .inl (fs_sizes)))]) [2, 1, 0] rfl
              have hD9 := hD.sub (ws' := [(qs_numbers, .inl (cJ, 240, .inr (.inl (fs_numbers)))), (qs, .inr (7, [.ref qs_widths, .ref qs_sizes, .ref qs_numbers])), (qs_sizes, .inl (cI, 4, .inl (fs_sizes)))]) [2, 1, 0] (by decide) rfl
              exact ih113 z122 _ _ _ (show (60 - z122.toInt).toNat < (60 - x112.toInt).toNat by omega) ⟨(show 0 ≤ z122.toInt ∧ z122.toInt ≤ 60 by omega), (show hd_ok fs_numbers a1.toInt 0 z122.toInt by first | exact fun h => absurd h (by decide) | exact hd_step he0 (by omega) (by omega) hp_119 (by omega) _ _ (by omega)), hP9, hD9, hS, lv_sub hl [0, 1, 3, 4] rfl⟩
            · subst hz
              have hz_123 : ¬ (-1 ≤ r118.toInt ∧ r118.toInt ≤ 5) := hz2
              refine lv_istore (lv' := [(4, .int 0), (3, .int x112), (2, .int 0), (0, .ref qs), (1, .int a1)]) hx hb dX7_refusalOfHeard_81 hl (by decide) rfl (fun ls hl => ?_)
              refine lv_iload_n hx hb dX7_refusalOfHeard_83 rfl (lv_at hl 2 rfl) ?_
              refine lv_if_eq (tgt := 96) hx hb dX7_refusalOfHeard_84 (by decide) (fun _ => ?_) (fun hc => absurd hc (by decide))
              refine lv_iconst (v := 0) hx hb dX7_refusalOfHeard_96 (by decide) ?_
              refine lv_istore_n (lv' := [(2, .int 0), (4, .int 0), (3, .int x112), (0, .ref qs), (1, .int a1)]) hx hb dX7_refusalOfHeard_97 rfl hl (by decide) rfl (fun ls hl => ?_)
              obtain ⟨z124, ez124⟩ : ∃ z : Int32, z = x112 + 1 := ⟨_, rfl⟩
              have fz124 : z124.toInt = x112.toInt + 1 := by rw [ez124]; exact tq_add rfl (by decide) (by omega)
              refine lv_iinc (v := z124) (lv' := [(3, .int z124), (2, .int 0), (4, .int 0), (0, .ref qs), (1, .int a1)]) hx hb dX7_refusalOfHeard_98 hl (k := 2) rfl ez124.symm (by decide) rfl (fun ls hl => ?_)
              refine lv_goto (tgt := 40) hx hb dX7_refusalOfHeard_101 (by decide) ?_
              have hP9 := hP.sub (ws' := [(qs_numbers, .inl (cJ, 240, .inr (.inl (fs_numbers)))), (qs, .inr (7, [.ref qs_widths, .ref qs_sizes, .ref qs_numbers])), (qs_sizes, .inl (cI, 4, .inl (fs_sizes)))]) [2, 1, 0] rfl
              have hD9 := hD.sub (ws' := [(qs_numbers, .inl (cJ, 240, .inr (.inl (fs_numbers)))), (qs, .inr (7, [.ref qs_widths, .ref qs_sizes, .ref qs_numbers])), (qs_sizes, .inl (cI, 4, .inl (fs_sizes)))]) [2, 1, 0] (by decide) rfl
              exact ih113 z124 _ _ _ (show (60 - z124.toInt).toNat < (60 - x112.toInt).toNat by omega) ⟨(show 0 ≤ z124.toInt ∧ z124.toInt ≤ 60 by omega), (show hd_ok fs_numbers a1.toInt 0 z124.toInt by first | exact fun h => absurd h (by decide) | exact hd_step he0 (by omega) (by omega) hp_119 (by omega) _ _ (by omega)), hP9, hD9, hS, lv_sub hl [0, 1, 3, 4] rfl⟩
          · have hq117 : z116.toInt = 0 := tq_eq rfl (by decide) hc
            refine lv_aload_n hx hb dX7_refusalOfHeard_56 rfl (lv_at hl 2 rfl) ?_
            refine lv_iload_n hx hb dX7_refusalOfHeard_57 rfl (lv_at hl 3 rfl) ?_
            refine lv_iload_n hx hb dX7_refusalOfHeard_58 rfl (lv_at hl 0 rfl) ?_
            refine ct_calll (D := D) (wc := (w_c_X7_at cI cJ cB cZ cO qs qs_widths qs_sizes qs_numbers fs_numbers)) (wr := [(qs_sizes, .inl (cI, 4, .inl (fs_sizes)))]) (va_runV (As := [.int a1, .int x112]) (rest := []) ⟨hx, hb, hml, hown, hts⟩ (c_X7_at l D G cI cJ cB cZ cO qs qs_widths qs_sizes qs_numbers fs_numbers a1 x112 (by omega) (by omega) H.size) (cwV 2 hts gX7_refusalOfHeard_X7_at rfl rfl rfl (by decide +kernel) ⟨Nat.le_of_ble_eq_true rfl, Nat.le_of_ble_eq_true rfl⟩) (ct_preV (T := ct_T cI cJ cB cZ cO) (ci := 7) (q0 := 1) hE hH hP hD hS hA [1, 0] (by decide) rfl rfl rfl) rfl rfl hl.1 rfl (lv_room (Nat.le_of_ble_eq_true rfl)) dX7_refusalOfHeard_59 ⟨Nat.le_of_ble_eq_true rfl, Nat.le_of_ble_eq_true rfl⟩) hP hD hS hA [1, 0] [2] rfl rfl (by decide) (by decide) (fun r125 u H locs hw hP hD hS => ?_)
            have hP : va_P D vwCl [(qs_sizes, .inl (cI, 4, .inl (fs_sizes))), (qs, .inr (7, [.ref qs_widths, .ref qs_sizes, .ref qs_numbers])), (qs_numbers, .inl (cJ, 240, .inr (.inl (fs_numbers))))] H := hP
            have hD : va_D A [(qs_sizes, .inl (cI, 4, .inl (fs_sizes))), (qs, .inr (7, [.ref qs_widths, .ref qs_sizes, .ref qs_numbers])), (qs_numbers, .inl (cJ, 240, .inr (.inl (fs_numbers))))] := hD
            have hp0 := hw
            have hp_126 : r125 = fs_numbers (60 * a1.toInt + x112.toInt).toNat := hp0
            refine lv_lconst (v := 0) hx hb dX7_refusalOfHeard_62 (by decide) ?_
            refine lv_ldc2 (v := 199) hx hb hown (hts (.constantLong RX7 47 (199)) (by decide +kernel)) dX7_refusalOfHeard_63 ?_
            refine ct_calli (D := D) (wc := (w_c_X7_isBetween cI cJ cB cZ cO )) (wr := [(qs_sizes, .inl (cI, 4, .inl (fs_sizes))), (qs, .inr (7, [.ref qs_widths, .ref qs_sizes, .ref qs_numbers])), (qs_numbers, .inl (cJ, 240, .inr (.inl (fs_numbers))))]) (va_runS (As := [.long r125, .long 0, .long 199]) (rest := []) ⟨hx, hb, hml, hown, hts⟩ (c_X7_isBetween l D G cI cJ cB cZ cO r125 0 199  H.size) (va_cwS 3 hts gX7_refusalOfHeard_X7_isBetween rfl rfl rfl (by decide +kernel) ⟨Nat.le_of_ble_eq_true rfl, Nat.le_of_ble_eq_true rfl⟩) (ct_preS (T := ct_T cI cJ cB cZ cO) hE hH hP hD hS hA [] (by decide) rfl) rfl rfl hl.1 rfl (lv_room (Nat.le_of_ble_eq_true rfl)) dX7_refusalOfHeard_66 ⟨Nat.le_of_ble_eq_true rfl, Nat.le_of_ble_eq_true rfl⟩) hP hD hS hA [] [0, 1, 2] rfl rfl (by decide) (by decide) (fun r127 u H locs hw hP hD hS => ?_)
            have hP : va_P D vwCl [(qs_sizes, .inl (cI, 4, .inl (fs_sizes))), (qs, .inr (7, [.ref qs_widths, .ref qs_sizes, .ref qs_numbers])), (qs_numbers, .inl (cJ, 240, .inr (.inl (fs_numbers))))] H := hP
            have hD : va_D A [(qs_sizes, .inl (cI, 4, .inl (fs_sizes))), (qs, .inr (7, [.ref qs_widths, .ref qs_sizes, .ref qs_numbers])), (qs_numbers, .inl (cJ, 240, .inr (.inl (fs_numbers))))] := hD
            have hk128 : (0 : Int64).toInt = 0 := by decide
            have hk129 : (199 : Int64).toInt = 199 := by decide
            have hz := hw
            rcases hz with ⟨hz, hz2⟩ | ⟨hz, hz2⟩
            · subst hz
              have hz_130 : ((0 : Int64).toInt ≤ r125.toInt ∧ r125.toInt ≤ (199 : Int64).toInt) := hz2
              refine lv_goto (tgt := 81) hx hb dX7_refusalOfHeard_69 (by decide) ?_
              refine lv_istore (lv' := [(4, .int 1), (3, .int x112), (2, .int 0), (0, .ref qs), (1, .int a1)]) hx hb dX7_refusalOfHeard_81 hl (by decide) rfl (fun ls hl => ?_)
              refine lv_iload_n hx hb dX7_refusalOfHeard_83 rfl (lv_at hl 2 rfl) ?_
              refine lv_if_eq (tgt := 96) hx hb dX7_refusalOfHeard_84 (by decide) (fun _ => ?_) (fun hc => absurd hc (by decide))
              refine lv_iconst (v := 0) hx hb dX7_refusalOfHeard_96 (by decide) ?_
              refine lv_istore_n (lv' := [(2, .int 0), (4, .int 1), (3, .int x112), (0, .ref qs), (1, .int a1)]) hx hb dX7_refusalOfHeard_97 rfl hl (by decide) rfl (fun ls hl => ?_)
              obtain ⟨z131, ez131⟩ : ∃ z : Int32, z = x112 + 1 := ⟨_, rfl⟩
              have fz131 : z131.toInt = x112.toInt + 1 := by rw [ez131]; exact tq_add rfl (by decide) (by omega)
              refine lv_iinc (v := z131) (lv' := [(3, .int z131), (2, .int 0), (4, .int 1), (0, .ref qs), (1, .int a1)]) hx hb dX7_refusalOfHeard_98 hl (k := 2) rfl ez131.symm (by decide) rfl (fun ls hl => ?_)
              refine lv_goto (tgt := 40) hx hb dX7_refusalOfHeard_101 (by decide) ?_
              have hP9 := hP.sub (ws' := [(qs_numbers, .inl (cJ, 240, .inr (.inl (fs_numbers)))), (qs, .inr (7, [.ref qs_widths, .ref qs_sizes, .ref qs_numbers])), (qs_sizes, .inl (cI, 4, .inl (fs_sizes)))]) [2, 1, 0] rfl
              have hD9 := hD.sub (ws' := [(qs_numbers, .inl (cJ, 240, .inr (.inl (fs_numbers)))), (qs, .inr (7, [.ref qs_widths, .ref qs_sizes, .ref qs_numbers])), (qs_sizes, .inl (cI, 4, .inl (fs_sizes)))]) [2, 1, 0] (by decide) rfl
              exact ih113 z131 _ _ _ (show (60 - z131.toInt).toNat < (60 - x112.toInt).toNat by omega) ⟨(show 0 ≤ z131.toInt ∧ z131.toInt ≤ 60 by omega), (show hd_ok fs_numbers a1.toInt 0 z131.toInt by first | exact fun h => absurd h (by decide) | exact hd_step he0 (by omega) (by omega) hp_126 (by omega) _ _ (by omega)), hP9, hD9, hS, lv_sub hl [0, 1, 3, 4] rfl⟩
            · subst hz
              have hz_132 : ¬ ((0 : Int64).toInt ≤ r125.toInt ∧ r125.toInt ≤ (199 : Int64).toInt) := hz2
              refine lv_goto (tgt := 81) hx hb dX7_refusalOfHeard_69 (by decide) ?_
              refine lv_istore (lv' := [(4, .int 0), (3, .int x112), (2, .int 0), (0, .ref qs), (1, .int a1)]) hx hb dX7_refusalOfHeard_81 hl (by decide) rfl (fun ls hl => ?_)
              refine lv_iload_n hx hb dX7_refusalOfHeard_83 rfl (lv_at hl 2 rfl) ?_
              refine lv_if_eq (tgt := 96) hx hb dX7_refusalOfHeard_84 (by decide) (fun _ => ?_) (fun hc => absurd hc (by decide))
              refine lv_iconst (v := 0) hx hb dX7_refusalOfHeard_96 (by decide) ?_
              refine lv_istore_n (lv' := [(2, .int 0), (4, .int 0), (3, .int x112), (0, .ref qs), (1, .int a1)]) hx hb dX7_refusalOfHeard_97 rfl hl (by decide) rfl (fun ls hl => ?_)
              obtain ⟨z133, ez133⟩ : ∃ z : Int32, z = x112 + 1 := ⟨_, rfl⟩
              have fz133 : z133.toInt = x112.toInt + 1 := by rw [ez133]; exact tq_add rfl (by decide) (by omega)
              refine lv_iinc (v := z133) (lv' := [(3, .int z133), (2, .int 0), (4, .int 0), (0, .ref qs), (1, .int a1)]) hx hb dX7_refusalOfHeard_98 hl (k := 2) rfl ez133.symm (by decide) rfl (fun ls hl => ?_)
              refine lv_goto (tgt := 40) hx hb dX7_refusalOfHeard_101 (by decide) ?_
              have hP9 := hP.sub (ws' := [(qs_numbers, .inl (cJ, 240, .inr (.inl (fs_numbers)))), (qs, .inr (7, [.ref qs_widths, .ref qs_sizes, .ref qs_numbers])), (qs_sizes, .inl (cI, 4, .inl (fs_sizes)))]) [2, 1, 0] rfl
              have hD9 := hD.sub (ws' := [(qs_numbers, .inl (cJ, 240, .inr (.inl (fs_numbers)))), (qs, .inr (7, [.ref qs_widths, .ref qs_sizes, .ref qs_numbers])), (qs_sizes, .inl (cI, 4, .inl (fs_sizes)))]) [2, 1, 0] (by decide) rfl
              exact ih113 z133 _ _ _ (show (60 - z133.toInt).toNat < (60 - x112.toInt).toNat by omega) ⟨(show 0 ≤ z133.toInt ∧ z133.toInt ≤ 60 by omega), (show hd_ok fs_numbers a1.toInt 0 z133.toInt by first | exact fun h => absurd h (by decide) | exact hd_step he0 (by omega) (by omega) hp_126 (by omega) _ _ (by omega)), hP9, hD9, hS, lv_sub hl [0, 1, 3, 4] rfl⟩
      · have hq6 : z5.toInt = 0 := tq_eq rfl (by decide) hc
        refine lv_iconst (v := 1) hx hb dX7_refusalOfHeard_32 (by decide) ?_
        refine lv_goto (tgt := 37) hx hb dX7_refusalOfHeard_33 (by decide) ?_
        refine lv_istore_n (lv' := [(2, .int 1), (0, .ref qs), (1, .int a1)]) hx hb dX7_refusalOfHeard_37 rfl hl (by decide) rfl (fun ls hl => ?_)
        refine lv_iconst (v := 0) hx hb dX7_refusalOfHeard_38 (by decide) ?_
        refine lv_istore_n (lv' := [(3, .int 0), (2, .int 1), (0, .ref qs), (1, .int a1)]) hx hb dX7_refusalOfHeard_39 rfl hl (by decide) rfl (fun ls hl => ?_)
        refine ct_loop (X := Int32 × Int32) (fun x => (60 - x.2.toInt).toNat) (fun x H locs ls => ((0 ≤ x.1.toInt ∧ x.1.toInt ≤ 1)) ∧ ((0 ≤ x.2.toInt ∧ x.2.toInt ≤ 60)) ∧ (hd_ok fs_numbers a1.toInt x.1.toInt x.2.toInt) ∧ va_P D vwCl [(qs_numbers, .inl (cJ, 240, .inr (.inl (fs_numbers)))), (qs, .inr (7, [.ref qs_widths, .ref qs_sizes, .ref qs_numbers])), (qs_sizes, .inl (cI, 4, .inl (fs_sizes)))] H ∧ va_D A [(qs_numbers, .inl (cJ, 240, .inr (.inl (fs_numbers)))), (qs, .inr (7, [.ref qs_widths, .ref qs_sizes, .ref qs_numbers])), (qs_sizes, .inl (cI, 4, .inl (fs_sizes)))] ∧ va_S A s.heap H locs ∧ lv_has ls 5 [(3, .int x.2), (2, .int x.1), (0, .ref qs), (1, .int a1)]) 40 ((1 : Int32), (0 : Int32)) ⟨(show 0 ≤ (1 : Int32).toInt ∧ (1 : Int32).toInt ≤ 1 by decide), (show 0 ≤ (0 : Int32).toInt ∧ (0 : Int32).toInt ≤ 60 by decide), (show hd_ok fs_numbers a1.toInt (1 : Int32).toInt (0 : Int32).toInt by exact fun _ k hk => absurd hk (by have h0 : (0 : Int32).toInt = 0 := by decide
                                                                    omega)), hP, hD, hS, lv_sub hl [0, 1, 2, 3] rfl⟩ (fun x ih291 H locs ls hI => ?_)
        obtain ⟨x289, x290⟩ := x
        obtain ⟨h_x289, h_x290, he0, hP, hD, hS, hl⟩ := hI
        have h_x289 : (0 ≤ x289.toInt ∧ x289.toInt ≤ 1) := h_x289
        have h_x290 : (0 ≤ x290.toInt ∧ x290.toInt ≤ 60) := h_x290
        have he0 : hd_ok fs_numbers a1.toInt x289.toInt x290.toInt := he0
        have hP : va_P D vwCl [(qs_numbers, .inl (cJ, 240, .inr (.inl (fs_numbers)))), (qs, .inr (7, [.ref qs_widths, .ref qs_sizes, .ref qs_numbers])), (qs_sizes, .inl (cI, 4, .inl (fs_sizes)))] H := hP
        have hD : va_D A [(qs_numbers, .inl (cJ, 240, .inr (.inl (fs_numbers)))), (qs, .inr (7, [.ref qs_widths, .ref qs_sizes, .ref qs_numbers])), (qs_sizes, .inl (cI, 4, .inl (fs_sizes)))] := hD
        have hl : lv_has ls 5 [(3, .int x290), (2, .int x289), (0, .ref qs), (1, .int a1)] := hl
        refine lv_iload_n hx hb dX7_refusalOfHeard_40 rfl (lv_at hl 0 rfl) ?_
        refine lv_aload_n hx hb dX7_refusalOfHeard_41 rfl (lv_at hl 2 rfl) ?_
        refine va_get (D := D) (ci := 7) (v := .ref qs_sizes) (C := RX7) (T := TX7) (N := 3) hx hb hts hi7 hown hK hP 1 rfl rfl 1 (by decide) (hts (.fieldLink RX7 15 "OverHill$Slots" "sizes" "[I") (by decide +kernel)) (fun _ h9 => h9) rfl dX7_refusalOfHeard_42 ?_
        refine lv_iload_n hx hb dX7_refusalOfHeard_45 rfl (lv_at hl 3 rfl) ?_
        refine va_iald (D := D) hx hb hK hP 2 0 rfl rfl (tq_in rfl (by omega)) dX7_refusalOfHeard_46 ?_
        refine lv_topi (fun z292 ez292 => ?_)
        have fz292 : (-1) ≤ z292.toInt ∧ z292.toInt ≤ 60 := by rw [ez292]; exact ar_get h_fs_sizes a1 0 (by omega) (show a1.toInt % 1 = 0 by omega) rfl
        refine lv_icmp_ge (tgt := 104) hx hb dX7_refusalOfHeard_47 (by decide) (fun hc => ?_) (fun hc => ?_)
        · have hq293 : z292.toInt ≤ x290.toInt := tq_le rfl rfl hc
          refine lv_iload_n hx hb dX7_refusalOfHeard_104 rfl (lv_at hl 1 rfl) ?_
          refine lv_if_eq (tgt := 112) hx hb dX7_refusalOfHeard_105 (by decide) (fun hc => ?_) (fun hc => ?_)
          · have hq294 : x289.toInt = 0 := tq_eq rfl (by decide) hc
            refine lv_bipush (v := (-2)) hx hb dX7_refusalOfHeard_112 (by decide) ?_
            have hP9 := hP.sub (ws' := [(qs, .inr (7, [.ref qs_widths, .ref qs_sizes, .ref qs_numbers])), (qs_sizes, .inl (cI, 4, .inl (fs_sizes))), (qs_numbers, .inl (cJ, 240, .inr (.inl (fs_numbers))))]) [1, 2, 0] rfl
            have hD9 := hD.sub (ws' := [(qs, .inr (7, [.ref qs_widths, .ref qs_sizes, .ref qs_numbers])), (qs_sizes, .inl (cI, 4, .inl (fs_sizes))), (qs_numbers, .inl (cJ, 240, .inr (.inl (fs_numbers))))]) [1, 2, 0] (by decide) rfl
            exact W.iret (v := (-2)) hx hb hr (fun t ht hW => ⟨⟨(-2), (), rfl, (Or.inr (Or.inr (⟨rfl, trivial⟩))), by rw [ht]; exact hP9, hD9⟩, hS.F ht⟩) hS.2.2 dX7_refusalOfHeard_114
          · have hq294 : x289.toInt ≠ 0 := tq_ne rfl (by decide) hc
            refine lv_iconst (v := 0) hx hb dX7_refusalOfHeard_108 (by decide) ?_
            refine lv_goto (tgt := 114) hx hb dX7_refusalOfHeard_109 (by decide) ?_
            have hP9 := hP.sub (ws' := [(qs, .inr (7, [.ref qs_widths, .ref qs_sizes, .ref qs_numbers])), (qs_sizes, .inl (cI, 4, .inl (fs_sizes))), (qs_numbers, .inl (cJ, 240, .inr (.inl (fs_numbers))))]) [1, 2, 0] rfl
            have hD9 := hD.sub (ws' := [(qs, .inr (7, [.ref qs_widths, .ref qs_sizes, .ref qs_numbers])), (qs_sizes, .inl (cI, 4, .inl (fs_sizes))), (qs_numbers, .inl (cJ, 240, .inr (.inl (fs_numbers))))]) [1, 2, 0] (by decide) rfl
            exact W.iret (v := 0) hx hb hr (fun t ht hW => ⟨⟨0, (), rfl, (Or.inl ⟨rfl, (show (0 ≤ a1.toInt ∧ a1.toInt < 4) ∧ hd_ok fs_numbers a1.toInt 1 (fs_sizes a1.toNatClampNeg).toInt by exact ⟨by omega, fun _ k hk => he0 (by omega) k (by rw [← ez292] at hk; omega)⟩)⟩), by rw [ht]; exact hP9, hD9⟩, hS.F ht⟩) hS.2.2 dX7_refusalOfHeard_114
        · have hq293 : x290.toInt < z292.toInt := tq_nle rfl rfl hc
          refine lv_iload_n hx hb dX7_refusalOfHeard_50 rfl (lv_at hl 0 rfl) ?_
          refine lv_iconst (v := 2) hx hb dX7_refusalOfHeard_51 (by decide) ?_
          refine lv_irem hx hb dX7_refusalOfHeard_52 (by decide) ?_
          refine lv_topi (fun z295 ez295 => ?_)
          have fz295 : z295.toInt = x290.toInt % 2 := by rw [ez295]; exact tq_remc (c := 2) rfl (by decide) (by omega) (by omega)
          refine lv_if_ne (tgt := 72) hx hb dX7_refusalOfHeard_53 (by decide) (fun hc => ?_) (fun hc => ?_)
          · have hq296 : z295.toInt ≠ 0 := tq_ne rfl (by decide) hc
            refine lv_aload_n hx hb dX7_refusalOfHeard_72 rfl (lv_at hl 2 rfl) ?_
            refine lv_iload_n hx hb dX7_refusalOfHeard_73 rfl (lv_at hl 3 rfl) ?_
            refine lv_iload_n hx hb dX7_refusalOfHeard_74 rfl (lv_at hl 0 rfl) ?_
            refine ct_calll (D := D) (wc := (w_c_X7_at cI cJ cB cZ cO qs qs_widths qs_sizes qs_numbers fs_numbers)) (wr := [(qs_sizes, .inl (cI, 4, .inl (fs_sizes)))]) (va_runV (As := [.int a1, .int x290]) (rest := []) ⟨hx, hb, hml, hown, hts⟩ (c_X7_at l D G cI cJ cB cZ cO qs qs_widths qs_sizes qs_numbers fs_numbers a1 x290 (by omega) (by omega) H.size) (cwV 2 hts gX7_refusalOfHeard_X7_at rfl rfl rfl (by decide +kernel) ⟨Nat.le_of_ble_eq_true rfl, Nat.le_of_ble_eq_true rfl⟩) (ct_preV (T := ct_T cI cJ cB cZ cO) (ci := 7) (q0 := 1) hE hH hP hD hS hA [1, 0] (by decide) rfl rfl rfl) rfl rfl hl.1 rfl (lv_room (Nat.le_of_ble_eq_true rfl)) dX7_refusalOfHeard_75 ⟨Nat.le_of_ble_eq_true rfl, Nat.le_of_ble_eq_true rfl⟩) hP hD hS hA [1, 0] [2] rfl rfl (by decide) (by decide) (fun r297 u H locs hw hP hD hS => ?_)
            have hP : va_P D vwCl [(qs_sizes, .inl (cI, 4, .inl (fs_sizes))), (qs, .inr (7, [.ref qs_widths, .ref qs_sizes, .ref qs_numbers])), (qs_numbers, .inl (cJ, 240, .inr (.inl (fs_numbers))))] H := hP
            have hD : va_D A [(qs_sizes, .inl (cI, 4, .inl (fs_sizes))), (qs, .inr (7, [.ref qs_widths, .ref qs_sizes, .ref qs_numbers])), (qs_numbers, .inl (cJ, 240, .inr (.inl (fs_numbers))))] := hD
            have hp0 := hw
            have hp_298 : r297 = fs_numbers (60 * a1.toInt + x290.toInt).toNat := hp0
            refine ct_calli (D := D) (wc := (w_c_X7_isTold cI cJ cB cZ cO )) (wr := [(qs_sizes, .inl (cI, 4, .inl (fs_sizes))), (qs, .inr (7, [.ref qs_widths, .ref qs_sizes, .ref qs_numbers])), (qs_numbers, .inl (cJ, 240, .inr (.inl (fs_numbers))))]) (va_runS (As := [.long r297]) (rest := []) ⟨hx, hb, hml, hown, hts⟩ (c_X7_isTold l D G cI cJ cB cZ cO r297  H.size) (va_cwS 1 hts gX7_refusalOfHeard_X7_isTold rfl rfl rfl (by decide +kernel) ⟨Nat.le_of_ble_eq_true rfl, Nat.le_of_ble_eq_true rfl⟩) (ct_preS (T := ct_T cI cJ cB cZ cO) hE hH hP hD hS hA [] (by decide) rfl) rfl rfl hl.1 rfl (lv_room (Nat.le_of_ble_eq_true rfl)) dX7_refusalOfHeard_78 ⟨Nat.le_of_ble_eq_true rfl, Nat.le_of_ble_eq_true rfl⟩) hP hD hS hA [] [0, 1, 2] rfl rfl (by decide) (by decide) (fun r299 u H locs hw hP hD hS => ?_)
            have hP : va_P D vwCl [(qs_sizes, .inl (cI, 4, .inl (fs_sizes))), (qs, .inr (7, [.ref qs_widths, .ref qs_sizes, .ref qs_numbers])), (qs_numbers, .inl (cJ, 240, .inr (.inl (fs_numbers))))] H := hP
            have hD : va_D A [(qs_sizes, .inl (cI, 4, .inl (fs_sizes))), (qs, .inr (7, [.ref qs_widths, .ref qs_sizes, .ref qs_numbers])), (qs_numbers, .inl (cJ, 240, .inr (.inl (fs_numbers))))] := hD
            have hz := hw
            rcases hz with ⟨hz, hz2⟩ | ⟨hz, hz2⟩
            · subst hz
              have hz_300 : (-1 ≤ r297.toInt ∧ r297.toInt ≤ 5) := hz2
              refine lv_istore (lv' := [(4, .int 1), (3, .int x290), (2, .int x289), (0, .ref qs), (1, .int a1)]) hx hb dX7_refusalOfHeard_81 hl (by decide) rfl (fun ls hl => ?_)
              refine lv_iload_n hx hb dX7_refusalOfHeard_83 rfl (lv_at hl 2 rfl) ?_
              refine lv_if_eq (tgt := 96) hx hb dX7_refusalOfHeard_84 (by decide) (fun hc => ?_) (fun hc => ?_)
              · have hq301 : x289.toInt = 0 := tq_eq rfl (by decide) hc
                refine lv_iconst (v := 0) hx hb dX7_refusalOfHeard_96 (by decide) ?_
                refine lv_istore_n (lv' := [(2, .int 0), (4, .int 1), (3, .int x290), (0, .ref qs), (1, .int a1)]) hx hb dX7_refusalOfHeard_97 rfl hl (by decide) rfl (fun ls hl => ?_)
                obtain ⟨z302, ez302⟩ : ∃ z : Int32, z = x290 + 1 := ⟨_, rfl⟩
                have fz302 : z302.toInt = x290.toInt + 1 := by rw [ez302]; exact tq_add rfl (by decide) (by omega)
                refine lv_iinc (v := z302) (lv' := [(3, .int z302), (2, .int 0), (4, .int 1), (0, .ref qs), (1, .int a1)]) hx hb dX7_refusalOfHeard_98 hl (k := 2) rfl ez302.symm (by decide) rfl (fun ls hl => ?_)
                refine lv_goto (tgt := 40) hx hb dX7_refusalOfHeard_101 (by decide) ?_
                have hP9 := hP.sub (ws' := [(qs_numbers, .inl (cJ, 240, .inr (.inl (fs_numbers)))), (qs, .inr (7, [.ref qs_widths, .ref qs_sizes, .ref qs_numbers])), (qs_sizes, .inl (cI, 4, .inl (fs_sizes)))]) [2, 1, 0] rfl
                have hD9 := hD.sub (ws' := [(qs_numbers, .inl (cJ, 240, .inr (.inl (fs_numbers)))), (qs, .inr (7, [.ref qs_widths, .ref qs_sizes, .ref qs_numbers])), (qs_sizes, .inl (cI, 4, .inl (fs_sizes)))]) [2, 1, 0] (by decide) rfl
                exact ih291 ((0 : Int32), z302) _ _ _ (show (60 - z302.toInt).toNat < (60 - x290.toInt).toNat by omega) ⟨(show 0 ≤ (0 : Int32).toInt ∧ (0 : Int32).toInt ≤ 1 by decide), (show 0 ≤ z302.toInt ∧ z302.toInt ≤ 60 by omega), (show hd_ok fs_numbers a1.toInt (0 : Int32).toInt z302.toInt by first | exact fun h => absurd h (by decide) | exact hd_step he0 (by omega) (by omega) hp_298 (by omega) _ _ (by omega)), hP9, hD9, hS, lv_sub hl [0, 1, 3, 4] rfl⟩
              · have hq301 : x289.toInt ≠ 0 := tq_ne rfl (by decide) hc
                refine lv_iload hx hb dX7_refusalOfHeard_87 (lv_at hl 0 rfl) ?_
                refine lv_if_eq (tgt := 96) hx hb dX7_refusalOfHeard_89 (by decide) (fun hc => absurd hc (by decide)) (fun _ => ?_)
                refine lv_iconst (v := 1) hx hb dX7_refusalOfHeard_92 (by decide) ?_
                refine lv_goto (tgt := 97) hx hb dX7_refusalOfHeard_93 (by decide) ?_
                refine lv_istore_n (lv' := [(2, .int 1), (4, .int 1), (3, .int x290), (0, .ref qs), (1, .int a1)]) hx hb dX7_refusalOfHeard_97 rfl hl (by decide) rfl (fun ls hl => ?_)
                obtain ⟨z303, ez303⟩ : ∃ z : Int32, z = x290 + 1 := ⟨_, rfl⟩
                have fz303 : z303.toInt = x290.toInt + 1 := by rw [ez303]; exact tq_add rfl (by decide) (by omega)
                refine lv_iinc (v := z303) (lv' := [(3, .int z303), (2, .int 1), (4, .int 1), (0, .ref qs), (1, .int a1)]) hx hb dX7_refusalOfHeard_98 hl (k := 2) rfl ez303.symm (by decide) rfl (fun ls hl => ?_)
                refine lv_goto (tgt := 40) hx hb dX7_refusalOfHeard_101 (by decide) ?_
                have hP9 := hP.sub (ws' := [(qs_numbers, .inl (cJ, 240, .inr (.inl (fs_numbers)))), (qs, .inr (7, [.ref qs_widths, .ref qs_sizes, .ref qs_numbers])), (qs_sizes, .inl (cI, 4, .inl (fs_sizes)))]) [2, 1, 0] rfl
                have hD9 := hD.sub (ws' := [(qs_numbers, .inl (cJ, 240, .inr (.inl (fs_numbers)))), (qs, .inr (7, [.ref qs_widths, .ref qs_sizes, .ref qs_numbers])), (qs_sizes, .inl (cI, 4, .inl (fs_sizes)))]) [2, 1, 0] (by decide) rfl
                exact ih291 ((1 : Int32), z303) _ _ _ (show (60 - z303.toInt).toNat < (60 - x290.toInt).toNat by omega) ⟨(show 0 ≤ (1 : Int32).toInt ∧ (1 : Int32).toInt ≤ 1 by decide), (show 0 ≤ z303.toInt ∧ z303.toInt ≤ 60 by omega), (show hd_ok fs_numbers a1.toInt (1 : Int32).toInt z303.toInt by first | exact fun h => absurd h (by decide) | exact hd_step he0 (by omega) (by omega) hp_298 (by omega) _ _ (by omega)), hP9, hD9, hS, lv_sub hl [0, 1, 3, 4] rfl⟩
            · subst hz
              have hz_304 : ¬ (-1 ≤ r297.toInt ∧ r297.toInt ≤ 5) := hz2
              refine lv_istore (lv' := [(4, .int 0), (3, .int x290), (2, .int x289), (0, .ref qs), (1, .int a1)]) hx hb dX7_refusalOfHeard_81 hl (by decide) rfl (fun ls hl => ?_)
              refine lv_iload_n hx hb dX7_refusalOfHeard_83 rfl (lv_at hl 2 rfl) ?_
              refine lv_if_eq (tgt := 96) hx hb dX7_refusalOfHeard_84 (by decide) (fun hc => ?_) (fun hc => ?_)
              · have hq305 : x289.toInt = 0 := tq_eq rfl (by decide) hc
                refine lv_iconst (v := 0) hx hb dX7_refusalOfHeard_96 (by decide) ?_
                refine lv_istore_n (lv' := [(2, .int 0), (4, .int 0), (3, .int x290), (0, .ref qs), (1, .int a1)]) hx hb dX7_refusalOfHeard_97 rfl hl (by decide) rfl (fun ls hl => ?_)
                obtain ⟨z306, ez306⟩ : ∃ z : Int32, z = x290 + 1 := ⟨_, rfl⟩
                have fz306 : z306.toInt = x290.toInt + 1 := by rw [ez306]; exact tq_add rfl (by decide) (by omega)
                refine lv_iinc (v := z306) (lv' := [(3, .int z306), (2, .int 0), (4, .int 0), (0, .ref qs), (1, .int a1)]) hx hb dX7_refusalOfHeard_98 hl (k := 2) rfl ez306.symm (by decide) rfl (fun ls hl => ?_)
                refine lv_goto (tgt := 40) hx hb dX7_refusalOfHeard_101 (by decide) ?_
                have hP9 := hP.sub (ws' := [(qs_numbers, .inl (cJ, 240, .inr (.inl (fs_numbers)))), (qs, .inr (7, [.ref qs_widths, .ref qs_sizes, .ref qs_numbers])), (qs_sizes, .inl (cI, 4, .inl (fs_sizes)))]) [2, 1, 0] rfl
                have hD9 := hD.sub (ws' := [(qs_numbers, .inl (cJ, 240, .inr (.inl (fs_numbers)))), (qs, .inr (7, [.ref qs_widths, .ref qs_sizes, .ref qs_numbers])), (qs_sizes, .inl (cI, 4, .inl (fs_sizes)))]) [2, 1, 0] (by decide) rfl
                exact ih291 ((0 : Int32), z306) _ _ _ (show (60 - z306.toInt).toNat < (60 - x290.toInt).toNat by omega) ⟨(show 0 ≤ (0 : Int32).toInt ∧ (0 : Int32).toInt ≤ 1 by decide), (show 0 ≤ z306.toInt ∧ z306.toInt ≤ 60 by omega), (show hd_ok fs_numbers a1.toInt (0 : Int32).toInt z306.toInt by first | exact fun h => absurd h (by decide) | exact hd_step he0 (by omega) (by omega) hp_298 (by omega) _ _ (by omega)), hP9, hD9, hS, lv_sub hl [0, 1, 3, 4] rfl⟩
              · have hq305 : x289.toInt ≠ 0 := tq_ne rfl (by decide) hc
                refine lv_iload hx hb dX7_refusalOfHeard_87 (lv_at hl 0 rfl) ?_
                refine lv_if_eq (tgt := 96) hx hb dX7_refusalOfHeard_89 (by decide) (fun _ => ?_) (fun hc => absurd hc (by decide))
                refine lv_iconst (v := 0) hx hb dX7_refusalOfHeard_96 (by decide) ?_
                refine lv_istore_n (lv' := [(2, .int 0), (4, .int 0), (3, .int x290), (0, .ref qs), (1, .int a1)]) hx hb dX7_refusalOfHeard_97 rfl hl (by decide) rfl (fun ls hl => ?_)
                obtain ⟨z307, ez307⟩ : ∃ z : Int32, z = x290 + 1 := ⟨_, rfl⟩
                have fz307 : z307.toInt = x290.toInt + 1 := by rw [ez307]; exact tq_add rfl (by decide) (by omega)
                refine lv_iinc (v := z307) (lv' := [(3, .int z307), (2, .int 0), (4, .int 0), (0, .ref qs), (1, .int a1)]) hx hb dX7_refusalOfHeard_98 hl (k := 2) rfl ez307.symm (by decide) rfl (fun ls hl => ?_)
                refine lv_goto (tgt := 40) hx hb dX7_refusalOfHeard_101 (by decide) ?_
                have hP9 := hP.sub (ws' := [(qs_numbers, .inl (cJ, 240, .inr (.inl (fs_numbers)))), (qs, .inr (7, [.ref qs_widths, .ref qs_sizes, .ref qs_numbers])), (qs_sizes, .inl (cI, 4, .inl (fs_sizes)))]) [2, 1, 0] rfl
                have hD9 := hD.sub (ws' := [(qs_numbers, .inl (cJ, 240, .inr (.inl (fs_numbers)))), (qs, .inr (7, [.ref qs_widths, .ref qs_sizes, .ref qs_numbers])), (qs_sizes, .inl (cI, 4, .inl (fs_sizes)))]) [2, 1, 0] (by decide) rfl
                exact ih291 ((0 : Int32), z307) _ _ _ (show (60 - z307.toInt).toNat < (60 - x290.toInt).toNat by omega) ⟨(show 0 ≤ (0 : Int32).toInt ∧ (0 : Int32).toInt ≤ 1 by decide), (show 0 ≤ z307.toInt ∧ z307.toInt ≤ 60 by omega), (show hd_ok fs_numbers a1.toInt (0 : Int32).toInt z307.toInt by first | exact fun h => absurd h (by decide) | exact hd_step he0 (by omega) (by omega) hp_298 (by omega) _ _ (by omega)), hP9, hD9, hS, lv_sub hl [0, 1, 3, 4] rfl⟩
          · have hq296 : z295.toInt = 0 := tq_eq rfl (by decide) hc
            refine lv_aload_n hx hb dX7_refusalOfHeard_56 rfl (lv_at hl 2 rfl) ?_
            refine lv_iload_n hx hb dX7_refusalOfHeard_57 rfl (lv_at hl 3 rfl) ?_
            refine lv_iload_n hx hb dX7_refusalOfHeard_58 rfl (lv_at hl 0 rfl) ?_
            refine ct_calll (D := D) (wc := (w_c_X7_at cI cJ cB cZ cO qs qs_widths qs_sizes qs_numbers fs_numbers)) (wr := [(qs_sizes, .inl (cI, 4, .inl (fs_sizes)))]) (va_runV (As := [.int a1, .int x290]) (rest := []) ⟨hx, hb, hml, hown, hts⟩ (c_X7_at l D G cI cJ cB cZ cO qs qs_widths qs_sizes qs_numbers fs_numbers a1 x290 (by omega) (by omega) H.size) (cwV 2 hts gX7_refusalOfHeard_X7_at rfl rfl rfl (by decide +kernel) ⟨Nat.le_of_ble_eq_true rfl, Nat.le_of_ble_eq_true rfl⟩) (ct_preV (T := ct_T cI cJ cB cZ cO) (ci := 7) (q0 := 1) hE hH hP hD hS hA [1, 0] (by decide) rfl rfl rfl) rfl rfl hl.1 rfl (lv_room (Nat.le_of_ble_eq_true rfl)) dX7_refusalOfHeard_59 ⟨Nat.le_of_ble_eq_true rfl, Nat.le_of_ble_eq_true rfl⟩) hP hD hS hA [1, 0] [2] rfl rfl (by decide) (by decide) (fun r308 u H locs hw hP hD hS => ?_)
            have hP : va_P D vwCl [(qs_sizes, .inl (cI, 4, .inl (fs_sizes))), (qs, .inr (7, [.ref qs_widths, .ref qs_sizes, .ref qs_numbers])), (qs_numbers, .inl (cJ, 240, .inr (.inl (fs_numbers))))] H := hP
            have hD : va_D A [(qs_sizes, .inl (cI, 4, .inl (fs_sizes))), (qs, .inr (7, [.ref qs_widths, .ref qs_sizes, .ref qs_numbers])), (qs_numbers, .inl (cJ, 240, .inr (.inl (fs_numbers))))] := hD
            have hp0 := hw
            have hp_309 : r308 = fs_numbers (60 * a1.toInt + x290.toInt).toNat := hp0
            refine lv_lconst (v := 0) hx hb dX7_refusalOfHeard_62 (by decide) ?_
            refine lv_ldc2 (v := 199) hx hb hown (hts (.constantLong RX7 47 (199)) (by decide +kernel)) dX7_refusalOfHeard_63 ?_
            refine ct_calli (D := D) (wc := (w_c_X7_isBetween cI cJ cB cZ cO )) (wr := [(qs_sizes, .inl (cI, 4, .inl (fs_sizes))), (qs, .inr (7, [.ref qs_widths, .ref qs_sizes, .ref qs_numbers])), (qs_numbers, .inl (cJ, 240, .inr (.inl (fs_numbers))))]) (va_runS (As := [.long r308, .long 0, .long 199]) (rest := []) ⟨hx, hb, hml, hown, hts⟩ (c_X7_isBetween l D G cI cJ cB cZ cO r308 0 199  H.size) (va_cwS 3 hts gX7_refusalOfHeard_X7_isBetween rfl rfl rfl (by decide +kernel) ⟨Nat.le_of_ble_eq_true rfl, Nat.le_of_ble_eq_true rfl⟩) (ct_preS (T := ct_T cI cJ cB cZ cO) hE hH hP hD hS hA [] (by decide) rfl) rfl rfl hl.1 rfl (lv_room (Nat.le_of_ble_eq_true rfl)) dX7_refusalOfHeard_66 ⟨Nat.le_of_ble_eq_true rfl, Nat.le_of_ble_eq_true rfl⟩) hP hD hS hA [] [0, 1, 2] rfl rfl (by decide) (by decide) (fun r310 u H locs hw hP hD hS => ?_)
            have hP : va_P D vwCl [(qs_sizes, .inl (cI, 4, .inl (fs_sizes))), (qs, .inr (7, [.ref qs_widths, .ref qs_sizes, .ref qs_numbers])), (qs_numbers, .inl (cJ, 240, .inr (.inl (fs_numbers))))] H := hP
            have hD : va_D A [(qs_sizes, .inl (cI, 4, .inl (fs_sizes))), (qs, .inr (7, [.ref qs_widths, .ref qs_sizes, .ref qs_numbers])), (qs_numbers, .inl (cJ, 240, .inr (.inl (fs_numbers))))] := hD
            have hk311 : (0 : Int64).toInt = 0 := by decide
            have hk312 : (199 : Int64).toInt = 199 := by decide
            have hz := hw
            rcases hz with ⟨hz, hz2⟩ | ⟨hz, hz2⟩
            · subst hz
              have hz_313 : ((0 : Int64).toInt ≤ r308.toInt ∧ r308.toInt ≤ (199 : Int64).toInt) := hz2
              refine lv_goto (tgt := 81) hx hb dX7_refusalOfHeard_69 (by decide) ?_
              refine lv_istore (lv' := [(4, .int 1), (3, .int x290), (2, .int x289), (0, .ref qs), (1, .int a1)]) hx hb dX7_refusalOfHeard_81 hl (by decide) rfl (fun ls hl => ?_)
              refine lv_iload_n hx hb dX7_refusalOfHeard_83 rfl (lv_at hl 2 rfl) ?_
              refine lv_if_eq (tgt := 96) hx hb dX7_refusalOfHeard_84 (by decide) (fun hc => ?_) (fun hc => ?_)
              · have hq314 : x289.toInt = 0 := tq_eq rfl (by decide) hc
                refine lv_iconst (v := 0) hx hb dX7_refusalOfHeard_96 (by decide) ?_
                refine lv_istore_n (lv' := [(2, .int 0), (4, .int 1), (3, .int x290), (0, .ref qs), (1, .int a1)]) hx hb dX7_refusalOfHeard_97 rfl hl (by decide) rfl (fun ls hl => ?_)
                obtain ⟨z315, ez315⟩ : ∃ z : Int32, z = x290 + 1 := ⟨_, rfl⟩
                have fz315 : z315.toInt = x290.toInt + 1 := by rw [ez315]; exact tq_add rfl (by decide) (by omega)
                refine lv_iinc (v := z315) (lv' := [(3, .int z315), (2, .int 0), (4, .int 1), (0, .ref qs), (1, .int a1)]) hx hb dX7_refusalOfHeard_98 hl (k := 2) rfl ez315.symm (by decide) rfl (fun ls hl => ?_)
                refine lv_goto (tgt := 40) hx hb dX7_refusalOfHeard_101 (by decide) ?_
                have hP9 := hP.sub (ws' := [(qs_numbers, .inl (cJ, 240, .inr (.inl (fs_numbers)))), (qs, .inr (7, [.ref qs_widths, .ref qs_sizes, .ref qs_numbers])), (qs_sizes, .inl (cI, 4, .inl (fs_sizes)))]) [2, 1, 0] rfl
                have hD9 := hD.sub (ws' := [(qs_numbers, .inl (cJ, 240, .inr (.inl (fs_numbers)))), (qs, .inr (7, [.ref qs_widths, .ref qs_sizes, .ref qs_numbers])), (qs_sizes, .inl (cI, 4, .inl (fs_sizes)))]) [2, 1, 0] (by decide) rfl
                exact ih291 ((0 : Int32), z315) _ _ _ (show (60 - z315.toInt).toNat < (60 - x290.toInt).toNat by omega) ⟨(show 0 ≤ (0 : Int32).toInt ∧ (0 : Int32).toInt ≤ 1 by decide), (show 0 ≤ z315.toInt ∧ z315.toInt ≤ 60 by omega), (show hd_ok fs_numbers a1.toInt (0 : Int32).toInt z315.toInt by first | exact fun h => absurd h (by decide) | exact hd_step he0 (by omega) (by omega) hp_309 (by omega) _ _ (by omega)), hP9, hD9, hS, lv_sub hl [0, 1, 3, 4] rfl⟩
              · have hq314 : x289.toInt ≠ 0 := tq_ne rfl (by decide) hc
                refine lv_iload hx hb dX7_refusalOfHeard_87 (lv_at hl 0 rfl) ?_
                refine lv_if_eq (tgt := 96) hx hb dX7_refusalOfHeard_89 (by decide) (fun hc => absurd hc (by decide)) (fun _ => ?_)
                refine lv_iconst (v := 1) hx hb dX7_refusalOfHeard_92 (by decide) ?_
                refine lv_goto (tgt := 97) hx hb dX7_refusalOfHeard_93 (by decide) ?_
                refine lv_istore_n (lv' := [(2, .int 1), (4, .int 1), (3, .int x290), (0, .ref qs), (1, .int a1)]) hx hb dX7_refusalOfHeard_97 rfl hl (by decide) rfl (fun ls hl => ?_)
                obtain ⟨z316, ez316⟩ : ∃ z : Int32, z = x290 + 1 := ⟨_, rfl⟩
                have fz316 : z316.toInt = x290.toInt + 1 := by rw [ez316]; exact tq_add rfl (by decide) (by omega)
                refine lv_iinc (v := z316) (lv' := [(3, .int z316), (2, .int 1), (4, .int 1), (0, .ref qs), (1, .int a1)]) hx hb dX7_refusalOfHeard_98 hl (k := 2) rfl ez316.symm (by decide) rfl (fun ls hl => ?_)
                refine lv_goto (tgt := 40) hx hb dX7_refusalOfHeard_101 (by decide) ?_
                have hP9 := hP.sub (ws' := [(qs_numbers, .inl (cJ, 240, .inr (.inl (fs_numbers)))), (qs, .inr (7, [.ref qs_widths, .ref qs_sizes, .ref qs_numbers])), (qs_sizes, .inl (cI, 4, .inl (fs_sizes)))]) [2, 1, 0] rfl
                have hD9 := hD.sub (ws' := [(qs_numbers, .inl (cJ, 240, .inr (.inl (fs_numbers)))), (qs, .inr (7, [.ref qs_widths, .ref qs_sizes, .ref qs_numbers])), (qs_sizes, .inl (cI, 4, .inl (fs_sizes)))]) [2, 1, 0] (by decide) rfl
                exact ih291 ((1 : Int32), z316) _ _ _ (show (60 - z316.toInt).toNat < (60 - x290.toInt).toNat by omega) ⟨(show 0 ≤ (1 : Int32).toInt ∧ (1 : Int32).toInt ≤ 1 by decide), (show 0 ≤ z316.toInt ∧ z316.toInt ≤ 60 by omega), (show hd_ok fs_numbers a1.toInt (1 : Int32).toInt z316.toInt by first | exact fun h => absurd h (by decide) | exact hd_step he0 (by omega) (by omega) hp_309 (by omega) _ _ (by omega)), hP9, hD9, hS, lv_sub hl [0, 1, 3, 4] rfl⟩
            · subst hz
              have hz_317 : ¬ ((0 : Int64).toInt ≤ r308.toInt ∧ r308.toInt ≤ (199 : Int64).toInt) := hz2
              refine lv_goto (tgt := 81) hx hb dX7_refusalOfHeard_69 (by decide) ?_
              refine lv_istore (lv' := [(4, .int 0), (3, .int x290), (2, .int x289), (0, .ref qs), (1, .int a1)]) hx hb dX7_refusalOfHeard_81 hl (by decide) rfl (fun ls hl => ?_)
              refine lv_iload_n hx hb dX7_refusalOfHeard_83 rfl (lv_at hl 2 rfl) ?_
              refine lv_if_eq (tgt := 96) hx hb dX7_refusalOfHeard_84 (by decide) (fun hc => ?_) (fun hc => ?_)
              · have hq318 : x289.toInt = 0 := tq_eq rfl (by decide) hc
                refine lv_iconst (v := 0) hx hb dX7_refusalOfHeard_96 (by decide) ?_
                refine lv_istore_n (lv' := [(2, .int 0), (4, .int 0), (3, .int x290), (0, .ref qs), (1, .int a1)]) hx hb dX7_refusalOfHeard_97 rfl hl (by decide) rfl (fun ls hl => ?_)
                obtain ⟨z319, ez319⟩ : ∃ z : Int32, z = x290 + 1 := ⟨_, rfl⟩
                have fz319 : z319.toInt = x290.toInt + 1 := by rw [ez319]; exact tq_add rfl (by decide) (by omega)
                refine lv_iinc (v := z319) (lv' := [(3, .int z319), (2, .int 0), (4, .int 0), (0, .ref qs), (1, .int a1)]) hx hb dX7_refusalOfHeard_98 hl (k := 2) rfl ez319.symm (by decide) rfl (fun ls hl => ?_)
                refine lv_goto (tgt := 40) hx hb dX7_refusalOfHeard_101 (by decide) ?_
                have hP9 := hP.sub (ws' := [(qs_numbers, .inl (cJ, 240, .inr (.inl (fs_numbers)))), (qs, .inr (7, [.ref qs_widths, .ref qs_sizes, .ref qs_numbers])), (qs_sizes, .inl (cI, 4, .inl (fs_sizes)))]) [2, 1, 0] rfl
                have hD9 := hD.sub (ws' := [(qs_numbers, .inl (cJ, 240, .inr (.inl (fs_numbers)))), (qs, .inr (7, [.ref qs_widths, .ref qs_sizes, .ref qs_numbers])), (qs_sizes, .inl (cI, 4, .inl (fs_sizes)))]) [2, 1, 0] (by decide) rfl
                exact ih291 ((0 : Int32), z319) _ _ _ (show (60 - z319.toInt).toNat < (60 - x290.toInt).toNat by omega) ⟨(show 0 ≤ (0 : Int32).toInt ∧ (0 : Int32).toInt ≤ 1 by decide), (show 0 ≤ z319.toInt ∧ z319.toInt ≤ 60 by omega), (show hd_ok fs_numbers a1.toInt (0 : Int32).toInt z319.toInt by first | exact fun h => absurd h (by decide) | exact hd_step he0 (by omega) (by omega) hp_309 (by omega) _ _ (by omega)), hP9, hD9, hS, lv_sub hl [0, 1, 3, 4] rfl⟩
              · have hq318 : x289.toInt ≠ 0 := tq_ne rfl (by decide) hc
                refine lv_iload hx hb dX7_refusalOfHeard_87 (lv_at hl 0 rfl) ?_
                refine lv_if_eq (tgt := 96) hx hb dX7_refusalOfHeard_89 (by decide) (fun _ => ?_) (fun hc => absurd hc (by decide))
                refine lv_iconst (v := 0) hx hb dX7_refusalOfHeard_96 (by decide) ?_
                refine lv_istore_n (lv' := [(2, .int 0), (4, .int 0), (3, .int x290), (0, .ref qs), (1, .int a1)]) hx hb dX7_refusalOfHeard_97 rfl hl (by decide) rfl (fun ls hl => ?_)
                obtain ⟨z320, ez320⟩ : ∃ z : Int32, z = x290 + 1 := ⟨_, rfl⟩
                have fz320 : z320.toInt = x290.toInt + 1 := by rw [ez320]; exact tq_add rfl (by decide) (by omega)
                refine lv_iinc (v := z320) (lv' := [(3, .int z320), (2, .int 0), (4, .int 0), (0, .ref qs), (1, .int a1)]) hx hb dX7_refusalOfHeard_98 hl (k := 2) rfl ez320.symm (by decide) rfl (fun ls hl => ?_)
                refine lv_goto (tgt := 40) hx hb dX7_refusalOfHeard_101 (by decide) ?_
                have hP9 := hP.sub (ws' := [(qs_numbers, .inl (cJ, 240, .inr (.inl (fs_numbers)))), (qs, .inr (7, [.ref qs_widths, .ref qs_sizes, .ref qs_numbers])), (qs_sizes, .inl (cI, 4, .inl (fs_sizes)))]) [2, 1, 0] rfl
                have hD9 := hD.sub (ws' := [(qs_numbers, .inl (cJ, 240, .inr (.inl (fs_numbers)))), (qs, .inr (7, [.ref qs_widths, .ref qs_sizes, .ref qs_numbers])), (qs_sizes, .inl (cI, 4, .inl (fs_sizes)))]) [2, 1, 0] (by decide) rfl
                exact ih291 ((0 : Int32), z320) _ _ _ (show (60 - z320.toInt).toNat < (60 - x290.toInt).toNat by omega) ⟨(show 0 ≤ (0 : Int32).toInt ∧ (0 : Int32).toInt ≤ 1 by decide), (show 0 ≤ z320.toInt ∧ z320.toInt ≤ 60 by omega), (show hd_ok fs_numbers a1.toInt (0 : Int32).toInt z320.toInt by first | exact fun h => absurd h (by decide) | exact hd_step he0 (by omega) (by omega) hp_309 (by omega) _ _ (by omega)), hP9, hD9, hS, lv_sub hl [0, 1, 3, 4] rfl⟩
    · subst hz
      refine lv_if_ne (tgt := 21) hx hb dX7_refusalOfHeard_15 (by decide) (fun hc => absurd hc (by decide)) (fun _ => ?_)
      refine lv_bipush (v := (-6)) hx hb dX7_refusalOfHeard_18 (by decide) ?_
      have hP9 := hP.sub (ws' := [(qs, .inr (7, [.ref qs_widths, .ref qs_sizes, .ref qs_numbers])), (qs_sizes, .inl (cI, 4, .inl (fs_sizes))), (qs_numbers, .inl (cJ, 240, .inr (.inl (fs_numbers))))]) [1, 2, 0] rfl
      have hD9 := hD.sub (ws' := [(qs, .inr (7, [.ref qs_widths, .ref qs_sizes, .ref qs_numbers])), (qs_sizes, .inl (cI, 4, .inl (fs_sizes))), (qs_numbers, .inl (cJ, 240, .inr (.inl (fs_numbers))))]) [1, 2, 0] (by decide) rfl
      exact W.iret (v := (-6)) hx hb hr (fun t ht hW => ⟨⟨(-6), (), rfl, (Or.inr (Or.inl ⟨rfl, trivial⟩)), by rw [ht]; exact hP9, hD9⟩, hS.F ht⟩) hS.2.2 dX7_refusalOfHeard_20
  · subst hz
    have hz_321 : ¬ (0 ≤ a1.toInt ∧ a1.toInt < 4) := hz2
    refine lv_if_ne (tgt := 10) hx hb dX7_refusalOfHeard_4 (by decide) (fun hc => absurd hc (by decide)) (fun _ => ?_)
    refine lv_bipush (v := (-2)) hx hb dX7_refusalOfHeard_7 (by decide) ?_
    have hP9 := hP.sub (ws' := [(qs, .inr (7, [.ref qs_widths, .ref qs_sizes, .ref qs_numbers])), (qs_sizes, .inl (cI, 4, .inl (fs_sizes))), (qs_numbers, .inl (cJ, 240, .inr (.inl (fs_numbers))))]) [0, 1, 2] rfl
    have hD9 := hD.sub (ws' := [(qs, .inr (7, [.ref qs_widths, .ref qs_sizes, .ref qs_numbers])), (qs_sizes, .inl (cI, 4, .inl (fs_sizes))), (qs_numbers, .inl (cJ, 240, .inr (.inl (fs_numbers))))]) [0, 1, 2] (by decide) rfl
    exact W.iret (v := (-2)) hx hb hr (fun t ht hW => ⟨⟨(-2), (), rfl, (Or.inr (Or.inr (⟨rfl, trivial⟩))), by rw [ht]; exact hP9, hD9⟩, hS.F ht⟩) hS.2.2 dX7_refusalOfHeard_9
