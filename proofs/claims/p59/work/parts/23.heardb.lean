abbrev w_c_X7_refusalOfHeard (cI cJ cB cZ cO : ClassId) (qs : Nat) (qs_widths : Nat) (qs_sizes : Nat) (fs_sizes : Nat → Int32) (qs_numbers : Nat) (fs_numbers : Nat → Int64) : va_W := [(qs, .inr (7, [.ref qs_widths, .ref qs_sizes, .ref qs_numbers])), (qs_sizes, .inl (cI, 4, .inl (fs_sizes))), (qs_numbers, .inl (cJ, 240, .inr (.inl (fs_numbers))))]
set_option maxHeartbeats 4000000 in
set_option maxRecDepth 100000 in
/-- X7 refusalOfHeard -/
theorem c_X7_refusalOfHeard (l : Launch) (D : va_G) (G : ct_G) (cI cJ cB cZ cO : ClassId) (qs : Nat) (qs_widths : Nat) (qs_sizes : Nat) (fs_sizes : Nat → Int32) (qs_numbers : Nat) (fs_numbers : Nat → Int64) (a1 : Int32) (h_fs_sizes : ar_ok [(-1)] [60] fs_sizes) (sz : Nat) : Met l yX7_refusalOfHeard wsX7_refusalOfHeard ({ frames := 2, cells := 0, slots := 0, locals := 46 }) (va_Pc [.ref qs, .int a1] (ct_P D (ct_T cI cJ cB cZ cO) G (w_c_X7_refusalOfHeard cI cJ cB cZ cO qs qs_widths qs_sizes fs_sizes qs_numbers fs_numbers) sz)) (va_Qi (fun (rz : Int32) (u : Unit) => ((rz = 0 ∧ (0 ≤ a1.toInt ∧ a1.toInt < 4) ∧ hd_ok fs_numbers a1.toInt 1 (fs_sizes a1.toNatClampNeg).toInt) ∨ (rz = (-6) ∧ True) ∨ (rz = (-2) ∧ True))) (fun (u : Unit) t => ct_Q D (va_A (w_c_X7_refusalOfHeard cI cJ cB cZ cO qs qs_widths qs_sizes fs_sizes qs_numbers fs_numbers) sz) [(qs, .inr (7, [.ref qs_widths, .ref qs_sizes, .ref qs_numbers])), (qs_sizes, .inl (cI, 4, .inl (fs_sizes))), (qs_numbers, .inl (cJ, 240, .inr (.inl (fs_numbers))))] t) (va_A (w_c_X7_refusalOfHeard cI cJ cB cZ cO qs qs_widths qs_sizes fs_sizes qs_numbers fs_numbers) sz)) 0 0 (va_A (w_c_X7_refusalOfHeard cI cJ cB cZ cO qs qs_widths qs_sizes fs_sizes qs_numbers fs_numbers) sz) := by
  refine Met.ofW (cc := cX7_refusalOfHeard) (maxL := 5) (ret := (some .int)) (by decide) rfl ?_
  intro p e s m args below meth c s₁ B hml hv
  obtain ⟨rfl, hsz, hP, hE, hD0, hH⟩ := hv
  have hx := B.exec
  have hb := B.bytes
  have hr := B.returns
  have hts := atoms_spec (ws := wsX7_refusalOfHeard) B.pre
  have hown : s.vm.findClass RX7 = some m.cls := findClass_of_methodNamed B.named
  have hlocks := B.notSynchronized
  have hK := hE.1
  have hi7 : ∀ w ∈ u_ws RX7 TX7 3, w ∈ wsX7_refusalOfHeard := fun w h => List.mem_cons_of_mem _ (List.mem_append_right _ h)
  subst hsz
  have hD := hD0.self (sz := s.heap.size)
  generalize hAe : va_A (w_c_X7_refusalOfHeard cI cJ cB cZ cO qs qs_widths qs_sizes fs_sizes qs_numbers fs_numbers) s.heap.size = A at hD hH ⊢
  have hA : ∀ q : Nat, s.heap.size ≤ q → A q := fun q h => by rw [← hAe]; exact Or.inr h
  have hS : va_S A s.heap s.heap [] := va_S.rf
  obtain ⟨hP, hD⟩ : ct_B D A s.heap [(qs, .inr (7, [.ref qs_widths, .ref qs_sizes, .ref qs_numbers])), (qs_sizes, .inl (cI, 4, .inl (fs_sizes))), (qs_numbers, .inl (cJ, 240, .inr (.inl (fs_numbers))))] := ⟨hP, hD⟩
  have hl := lv_entry ([.ref qs, .int a1]) (n := 5) (Nat.le_of_ble_eq_true rfl)
  rw [lg_entry_eq]
  generalize (lg_sl ([.ref qs, .int a1]) ++ List.replicate (5 - (lg_sl ([.ref qs, .int a1])).length) Slot.unset).toArray = ls at hl ⊢
  have hl : lv_has ls 5 [(0, .ref qs), (1, .int a1)] := hl
  obtain ⟨H, hHe⟩ : ∃ H : Heap, H = s.heap := ⟨_, rfl⟩
  rw [← hHe] at hP
  have hS : va_S A s.heap H [] := by rw [hHe]; exact va_S.rf
  refine ct_start hHe ?_
  refine lv_iload_n hx hb dX7_refusalOfHeard_0 rfl (lv_at hl 1 rfl) ?_
  refine ct_calli (D := D) (wr := [(qs, .inr (7, [.ref qs_widths, .ref qs_sizes, .ref qs_numbers])), (qs_sizes, .inl (cI, 4, .inl (fs_sizes))), (qs_numbers, .inl (cJ, 240, .inr (.inl (fs_numbers))))]) (va_runS (As := [.int a1]) (rest := []) ⟨hx, hb, hml, hown, hts⟩ (c_X7_isSlot l D G cI cJ cB cZ cO a1  H.size) (va_cwS 1 hts gX7_refusalOfHeard_X7_isSlot rfl rfl rfl (by decide +kernel) ⟨Nat.le_of_ble_eq_true rfl, Nat.le_of_ble_eq_true rfl⟩) (ct_preS (T := ct_T cI cJ cB cZ cO) hE hH hP hD hS hA [] (by decide) rfl) rfl rfl hl.1 rfl (lv_room (Nat.le_of_ble_eq_true rfl)) dX7_refusalOfHeard_1 ⟨Nat.le_of_ble_eq_true rfl, Nat.le_of_ble_eq_true rfl⟩) hP hD hS hA [] [0, 1, 2] rfl rfl (by decide) (by decide) (fun r1 u H locs hw hP hD hS => ?_)
  obtain ⟨hP, hD⟩ : ct_B D A H [(qs, .inr (7, [.ref qs_widths, .ref qs_sizes, .ref qs_numbers])), (qs_sizes, .inl (cI, 4, .inl (fs_sizes))), (qs_numbers, .inl (cJ, 240, .inr (.inl (fs_numbers))))] := ⟨hP, hD⟩
  have hz := hw
  rcases hz with ⟨hz, hz2⟩ | ⟨hz, hz2⟩
  · subst hz
    have hz_2 : (0 ≤ a1.toInt ∧ a1.toInt < 4) := hz2
    refine lv_if_ne (tgt := 10) hx hb dX7_refusalOfHeard_4 (by decide) (fun _ => ?_) (fun hc => absurd hc (by decide))
    refine lv_aload_n hx hb dX7_refusalOfHeard_10 rfl (lv_at hl 0 rfl) ?_
    refine lv_iload_n hx hb dX7_refusalOfHeard_11 rfl (lv_at hl 1 rfl) ?_
    refine ct_calli (D := D) (wr := [(qs_numbers, .inl (cJ, 240, .inr (.inl (fs_numbers))))]) (va_runV (As := [.int a1]) (rest := []) ⟨hx, hb, hml, hown, hts⟩ (c_X7_has l D G cI cJ cB cZ cO qs qs_widths qs_sizes fs_sizes qs_numbers a1 h_fs_sizes (by omega) H.size) (cwV 1 hts gX7_refusalOfHeard_X7_has rfl rfl rfl (by decide +kernel) ⟨Nat.le_of_ble_eq_true rfl, Nat.le_of_ble_eq_true rfl⟩) (ct_preV (T := ct_T cI cJ cB cZ cO) (ci := 7) (q0 := 0) hE hH hP hD hS hA [0, 1] (by decide) rfl rfl rfl) rfl rfl hl.1 rfl (lv_room (Nat.le_of_ble_eq_true rfl)) dX7_refusalOfHeard_12 ⟨Nat.le_of_ble_eq_true rfl, Nat.le_of_ble_eq_true rfl⟩) hP hD hS hA [0, 1] [2] rfl rfl (by decide) (by decide) (fun r3 u H locs hw hP hD hS => ?_)
    obtain ⟨hP, hD⟩ : ct_B D A H [(qs_numbers, .inl (cJ, 240, .inr (.inl (fs_numbers)))), (qs, .inr (7, [.ref qs_widths, .ref qs_sizes, .ref qs_numbers])), (qs_sizes, .inl (cI, 4, .inl (fs_sizes)))] := ⟨hP, hD⟩
    have hz := hw
    rcases hz with ⟨hz, hz2⟩ | ⟨hz, hz2⟩
    · subst hz
      refine lv_if_ne (tgt := 21) hx hb dX7_refusalOfHeard_15 (by decide) (fun _ => ?_) (fun hc => absurd hc (by decide))
      refine lv_aload_n hx hb dX7_refusalOfHeard_21 rfl (lv_at hl 0 rfl) ?_
      refine va_get (D := D) (ci := 7) (v := .ref qs_sizes) (C := RX7) (T := TX7) (N := 3) hx hb hts hi7 hown hK hP 1 rfl rfl 1 (by decide) (hts (.fieldLink RX7 15 "OverHill$Slots" "sizes" "[I") (by decide +kernel)) (fun _ h9 => h9) rfl dX7_refusalOfHeard_22 ?_
      refine lv_iload_n hx hb dX7_refusalOfHeard_25 rfl (lv_at hl 1 rfl) ?_
      refine va_iald (D := D) hx hb hK hP 2 0 rfl rfl (tq_in rfl (by omega)) dX7_refusalOfHeard_26 ?_
      refine lv_topi (fun z4 ez4 => ?_)
      have fz4 : (-1) ≤ z4.toInt ∧ z4.toInt ≤ 60 := by rw [ez4]; exact ar_get h_fs_sizes a1 0 (by omega) (show a1.toInt % 1 = 0 by omega) rfl
      refine lv_iconst (v := 2) hx hb dX7_refusalOfHeard_27 (by decide) ?_
      refine lv_irem hx hb dX7_refusalOfHeard_28 (by decide) ?_
      refine lv_topi (fun z5 ez5 => ?_)
      have fz5 : -2 < z5.toInt ∧ z5.toInt < 2 := by rw [ez5]; exact tq_rema rfl (by decide) (by omega)
      refine lv_if_ne (tgt := 36) hx hb dX7_refusalOfHeard_29 (by decide) (fun hc => ?_) (fun hc => ?_)
      · have hq6 : z5.toInt ≠ 0 := tq_ne rfl (by decide) hc
        refine lv_iconst (v := 0) hx hb dX7_refusalOfHeard_36 (by decide) ?_
        refine lv_istore_n (lv' := [(2, .int 0), (0, .ref qs), (1, .int a1)]) hx hb dX7_refusalOfHeard_37 rfl hl (by decide) rfl (fun ls hl => ?_)
        refine lv_iconst (v := 0) hx hb dX7_refusalOfHeard_38 (by decide) ?_
        refine lv_istore_n (lv' := [(3, .int 0), (2, .int 0), (0, .ref qs), (1, .int a1)]) hx hb dX7_refusalOfHeard_39 rfl hl (by decide) rfl (fun ls hl => ?_)
        refine ct_loop (X := Int32) (fun x => (60 - x.toInt).toNat) (fun x H locs ls => ((0 ≤ x.toInt ∧ x.toInt ≤ 60)) ∧ (hd_ok fs_numbers a1.toInt 0 x.toInt) ∧ ct_B D A H [(qs_numbers, .inl (cJ, 240, .inr (.inl (fs_numbers)))), (qs, .inr (7, [.ref qs_widths, .ref qs_sizes, .ref qs_numbers])), (qs_sizes, .inl (cI, 4, .inl (fs_sizes)))] ∧ va_S A s.heap H locs ∧ lv_has ls 5 [(3, .int x), (2, .int 0), (0, .ref qs), (1, .int a1)]) 40 (0 : Int32) ⟨(show 0 ≤ (0 : Int32).toInt ∧ (0 : Int32).toInt ≤ 60 by decide), (show hd_ok fs_numbers a1.toInt 0 (0 : Int32).toInt by exact fun _ k hk => absurd hk (by have h0 : (0 : Int32).toInt = 0 := (by decide); omega)), ⟨hP, hD⟩, hS, lv_sub hl [0, 1, 2, 3] rfl⟩ (fun x ih132 H locs ls hI => ?_)
        obtain ⟨x131, rfl⟩ : ∃ z, z = x := ⟨_, rfl⟩
        obtain ⟨h_x131, he0, ⟨hP, hD⟩, hS, hl⟩ := hI
        have h_x131 : (0 ≤ x131.toInt ∧ x131.toInt ≤ 60) := h_x131
        have he0 : hd_ok fs_numbers a1.toInt 0 x131.toInt := he0
        obtain ⟨hP, hD⟩ : ct_B D A H [(qs_numbers, .inl (cJ, 240, .inr (.inl (fs_numbers)))), (qs, .inr (7, [.ref qs_widths, .ref qs_sizes, .ref qs_numbers])), (qs_sizes, .inl (cI, 4, .inl (fs_sizes)))] := ⟨hP, hD⟩
        have hl : lv_has ls 5 [(3, .int x131), (2, .int 0), (0, .ref qs), (1, .int a1)] := hl
        refine lv_iload_n hx hb dX7_refusalOfHeard_40 rfl (lv_at hl 0 rfl) ?_
        refine lv_aload_n hx hb dX7_refusalOfHeard_41 rfl (lv_at hl 2 rfl) ?_
        refine va_get (D := D) (ci := 7) (v := .ref qs_sizes) (C := RX7) (T := TX7) (N := 3) hx hb hts hi7 hown hK hP 1 rfl rfl 1 (by decide) (hts (.fieldLink RX7 15 "OverHill$Slots" "sizes" "[I") (by decide +kernel)) (fun _ h9 => h9) rfl dX7_refusalOfHeard_42 ?_
        refine lv_iload_n hx hb dX7_refusalOfHeard_45 rfl (lv_at hl 3 rfl) ?_
        refine va_iald (D := D) hx hb hK hP 2 0 rfl rfl (tq_in rfl (by omega)) dX7_refusalOfHeard_46 ?_
        refine lv_topi (fun z133 ez133 => ?_)
        have qz133 : z133.toInt = z4.toInt := by rw [ez133, ez4]
        have fz133 : (-1) ≤ z133.toInt ∧ z133.toInt ≤ 60 := by rw [ez133]; exact ar_get h_fs_sizes a1 0 (by omega) (show a1.toInt % 1 = 0 by omega) rfl
        refine lv_icmp_ge (tgt := 104) hx hb dX7_refusalOfHeard_47 (by decide) (fun hc => ?_) (fun hc => ?_)
        · have hq134 : z133.toInt ≤ x131.toInt := tq_le rfl rfl hc
          refine lv_iload_n hx hb dX7_refusalOfHeard_104 rfl (lv_at hl 1 rfl) ?_
          refine lv_if_eq (tgt := 112) hx hb dX7_refusalOfHeard_105 (by decide) (fun _ => ?_) (fun hc => absurd hc (by decide))
          refine lv_bipush (v := (-2)) hx hb dX7_refusalOfHeard_112 (by decide) ?_
          obtain ⟨hP9, hD9⟩ : ct_B D A H [(qs, .inr (7, [.ref qs_widths, .ref qs_sizes, .ref qs_numbers])), (qs_sizes, .inl (cI, 4, .inl (fs_sizes))), (qs_numbers, .inl (cJ, 240, .inr (.inl (fs_numbers))))] := ⟨hP.sub [1, 2, 0] rfl, hD.sub [1, 2, 0] (by decide) rfl⟩
          exact W.iret (v := (-2)) hx hb hr (fun t ht hW => ⟨⟨(-2), (), rfl, (Or.inr (Or.inr (⟨rfl, trivial⟩))), by rw [ht]; exact hP9, hD9⟩, hS.F ht⟩) hS.2.2 dX7_refusalOfHeard_114
        · have hq134 : x131.toInt < z133.toInt := tq_nle rfl rfl hc
          refine lv_iload_n hx hb dX7_refusalOfHeard_50 rfl (lv_at hl 0 rfl) ?_
          refine lv_iconst (v := 2) hx hb dX7_refusalOfHeard_51 (by decide) ?_
          refine lv_irem hx hb dX7_refusalOfHeard_52 (by decide) ?_
          refine lv_topi (fun z135 ez135 => ?_)
          have fz135 : z135.toInt = x131.toInt % 2 := by rw [ez135]; exact tq_remc (c := 2) rfl (by decide) (by omega) (by omega)
          refine lv_if_ne (tgt := 72) hx hb dX7_refusalOfHeard_53 (by decide) (fun hc => ?_) (fun hc => ?_)
          · have hq136 : z135.toInt ≠ 0 := tq_ne rfl (by decide) hc
            refine lv_aload_n hx hb dX7_refusalOfHeard_72 rfl (lv_at hl 2 rfl) ?_
            refine lv_iload_n hx hb dX7_refusalOfHeard_73 rfl (lv_at hl 3 rfl) ?_
            refine lv_iload_n hx hb dX7_refusalOfHeard_74 rfl (lv_at hl 0 rfl) ?_
            refine ct_calll (D := D) (wr := [(qs_sizes, .inl (cI, 4, .inl (fs_sizes)))]) (va_runV (As := [.int a1, .int x131]) (rest := []) ⟨hx, hb, hml, hown, hts⟩ (c_X7_at l D G cI cJ cB cZ cO qs qs_widths qs_sizes qs_numbers fs_numbers a1 x131 (by omega) (by omega) H.size) (cwV 2 hts gX7_refusalOfHeard_X7_at rfl rfl rfl (by decide +kernel) ⟨Nat.le_of_ble_eq_true rfl, Nat.le_of_ble_eq_true rfl⟩) (ct_preV (T := ct_T cI cJ cB cZ cO) (ci := 7) (q0 := 1) hE hH hP hD hS hA [1, 0] (by decide) rfl rfl rfl) rfl rfl hl.1 rfl (lv_room (Nat.le_of_ble_eq_true rfl)) dX7_refusalOfHeard_75 ⟨Nat.le_of_ble_eq_true rfl, Nat.le_of_ble_eq_true rfl⟩) hP hD hS hA [1, 0] [2] rfl rfl (by decide) (by decide) (fun r137 u H locs hw hP hD hS => ?_)
            obtain ⟨hP, hD⟩ : ct_B D A H [(qs_sizes, .inl (cI, 4, .inl (fs_sizes))), (qs, .inr (7, [.ref qs_widths, .ref qs_sizes, .ref qs_numbers])), (qs_numbers, .inl (cJ, 240, .inr (.inl (fs_numbers))))] := ⟨hP, hD⟩
            have hp0 := hw
            have hp_138 : r137 = fs_numbers (60 * a1.toInt + x131.toInt).toNat := hp0
            refine ct_calli (D := D) (wr := [(qs_sizes, .inl (cI, 4, .inl (fs_sizes))), (qs, .inr (7, [.ref qs_widths, .ref qs_sizes, .ref qs_numbers])), (qs_numbers, .inl (cJ, 240, .inr (.inl (fs_numbers))))]) (va_runS (As := [.long r137]) (rest := []) ⟨hx, hb, hml, hown, hts⟩ (c_X7_isTold l D G cI cJ cB cZ cO r137  H.size) (va_cwS 1 hts gX7_refusalOfHeard_X7_isTold rfl rfl rfl (by decide +kernel) ⟨Nat.le_of_ble_eq_true rfl, Nat.le_of_ble_eq_true rfl⟩) (ct_preS (T := ct_T cI cJ cB cZ cO) hE hH hP hD hS hA [] (by decide) rfl) rfl rfl hl.1 rfl (lv_room (Nat.le_of_ble_eq_true rfl)) dX7_refusalOfHeard_78 ⟨Nat.le_of_ble_eq_true rfl, Nat.le_of_ble_eq_true rfl⟩) hP hD hS hA [] [0, 1, 2] rfl rfl (by decide) (by decide) (fun r139 u H locs hw hP hD hS => ?_)
            obtain ⟨hP, hD⟩ : ct_B D A H [(qs_sizes, .inl (cI, 4, .inl (fs_sizes))), (qs, .inr (7, [.ref qs_widths, .ref qs_sizes, .ref qs_numbers])), (qs_numbers, .inl (cJ, 240, .inr (.inl (fs_numbers))))] := ⟨hP, hD⟩
            have hz := hw
            rcases hz with ⟨hz, hz2⟩ | ⟨hz, hz2⟩
            · subst hz
              have hz_140 : (-1 ≤ r137.toInt ∧ r137.toInt ≤ 5) := hz2
              refine lv_istore (lv' := [(4, .int 1), (3, .int x131), (2, .int 0), (0, .ref qs), (1, .int a1)]) hx hb dX7_refusalOfHeard_81 hl (by decide) rfl (fun ls hl => ?_)
              refine lv_iload_n hx hb dX7_refusalOfHeard_83 rfl (lv_at hl 2 rfl) ?_
              refine lv_if_eq (tgt := 96) hx hb dX7_refusalOfHeard_84 (by decide) (fun _ => ?_) (fun hc => absurd hc (by decide))
              refine lv_iconst (v := 0) hx hb dX7_refusalOfHeard_96 (by decide) ?_
              refine lv_istore_n (lv' := [(2, .int 0), (4, .int 1), (3, .int x131), (0, .ref qs), (1, .int a1)]) hx hb dX7_refusalOfHeard_97 rfl hl (by decide) rfl (fun ls hl => ?_)
              obtain ⟨z141, ez141⟩ : ∃ z : Int32, z = x131 + 1 := ⟨_, rfl⟩
              have fz141 : z141.toInt = x131.toInt + 1 := by rw [ez141]; exact tq_add rfl (by decide) (by omega)
              refine lv_iinc (v := z141) (lv' := [(3, .int z141), (2, .int 0), (4, .int 1), (0, .ref qs), (1, .int a1)]) hx hb dX7_refusalOfHeard_98 hl (k := 2) rfl ez141.symm (by decide) rfl (fun ls hl => ?_)
              refine lv_goto (tgt := 40) hx hb dX7_refusalOfHeard_101 (by decide) ?_
              obtain ⟨hP9, hD9⟩ : ct_B D A H [(qs_numbers, .inl (cJ, 240, .inr (.inl (fs_numbers)))), (qs, .inr (7, [.ref qs_widths, .ref qs_sizes, .ref qs_numbers])), (qs_sizes, .inl (cI, 4, .inl (fs_sizes)))] := ⟨hP.sub [2, 1, 0] rfl, hD.sub [2, 1, 0] (by decide) rfl⟩
              exact ih132 z141 _ _ _ (show (60 - z141.toInt).toNat < (60 - x131.toInt).toNat by omega) ⟨(show 0 ≤ z141.toInt ∧ z141.toInt ≤ 60 by omega), (show hd_ok fs_numbers a1.toInt 0 z141.toInt by first | exact fun h => absurd h (by decide) | exact hd_step he0 (by omega) (by omega) hp_138 (by omega) _ _ (by omega)), ⟨hP9, hD9⟩, hS, lv_sub hl [0, 1, 3, 4] rfl⟩
            · subst hz
              have hz_142 : ¬ (-1 ≤ r137.toInt ∧ r137.toInt ≤ 5) := hz2
              refine lv_istore (lv' := [(4, .int 0), (3, .int x131), (2, .int 0), (0, .ref qs), (1, .int a1)]) hx hb dX7_refusalOfHeard_81 hl (by decide) rfl (fun ls hl => ?_)
              refine lv_iload_n hx hb dX7_refusalOfHeard_83 rfl (lv_at hl 2 rfl) ?_
              refine lv_if_eq (tgt := 96) hx hb dX7_refusalOfHeard_84 (by decide) (fun _ => ?_) (fun hc => absurd hc (by decide))
              refine lv_iconst (v := 0) hx hb dX7_refusalOfHeard_96 (by decide) ?_
              refine lv_istore_n (lv' := [(2, .int 0), (4, .int 0), (3, .int x131), (0, .ref qs), (1, .int a1)]) hx hb dX7_refusalOfHeard_97 rfl hl (by decide) rfl (fun ls hl => ?_)
              obtain ⟨z143, ez143⟩ : ∃ z : Int32, z = x131 + 1 := ⟨_, rfl⟩
              have fz143 : z143.toInt = x131.toInt + 1 := by rw [ez143]; exact tq_add rfl (by decide) (by omega)
              refine lv_iinc (v := z143) (lv' := [(3, .int z143), (2, .int 0), (4, .int 0), (0, .ref qs), (1, .int a1)]) hx hb dX7_refusalOfHeard_98 hl (k := 2) rfl ez143.symm (by decide) rfl (fun ls hl => ?_)
              refine lv_goto (tgt := 40) hx hb dX7_refusalOfHeard_101 (by decide) ?_
              obtain ⟨hP9, hD9⟩ : ct_B D A H [(qs_numbers, .inl (cJ, 240, .inr (.inl (fs_numbers)))), (qs, .inr (7, [.ref qs_widths, .ref qs_sizes, .ref qs_numbers])), (qs_sizes, .inl (cI, 4, .inl (fs_sizes)))] := ⟨hP.sub [2, 1, 0] rfl, hD.sub [2, 1, 0] (by decide) rfl⟩
              exact ih132 z143 _ _ _ (show (60 - z143.toInt).toNat < (60 - x131.toInt).toNat by omega) ⟨(show 0 ≤ z143.toInt ∧ z143.toInt ≤ 60 by omega), (show hd_ok fs_numbers a1.toInt 0 z143.toInt by first | exact fun h => absurd h (by decide) | exact hd_step he0 (by omega) (by omega) hp_138 (by omega) _ _ (by omega)), ⟨hP9, hD9⟩, hS, lv_sub hl [0, 1, 3, 4] rfl⟩
          · have hq136 : z135.toInt = 0 := tq_eq rfl (by decide) hc
            refine lv_aload_n hx hb dX7_refusalOfHeard_56 rfl (lv_at hl 2 rfl) ?_
            refine lv_iload_n hx hb dX7_refusalOfHeard_57 rfl (lv_at hl 3 rfl) ?_
            refine lv_iload_n hx hb dX7_refusalOfHeard_58 rfl (lv_at hl 0 rfl) ?_
            refine ct_calll (D := D) (wr := [(qs_sizes, .inl (cI, 4, .inl (fs_sizes)))]) (va_runV (As := [.int a1, .int x131]) (rest := []) ⟨hx, hb, hml, hown, hts⟩ (c_X7_at l D G cI cJ cB cZ cO qs qs_widths qs_sizes qs_numbers fs_numbers a1 x131 (by omega) (by omega) H.size) (cwV 2 hts gX7_refusalOfHeard_X7_at rfl rfl rfl (by decide +kernel) ⟨Nat.le_of_ble_eq_true rfl, Nat.le_of_ble_eq_true rfl⟩) (ct_preV (T := ct_T cI cJ cB cZ cO) (ci := 7) (q0 := 1) hE hH hP hD hS hA [1, 0] (by decide) rfl rfl rfl) rfl rfl hl.1 rfl (lv_room (Nat.le_of_ble_eq_true rfl)) dX7_refusalOfHeard_59 ⟨Nat.le_of_ble_eq_true rfl, Nat.le_of_ble_eq_true rfl⟩) hP hD hS hA [1, 0] [2] rfl rfl (by decide) (by decide) (fun r144 u H locs hw hP hD hS => ?_)
            obtain ⟨hP, hD⟩ : ct_B D A H [(qs_sizes, .inl (cI, 4, .inl (fs_sizes))), (qs, .inr (7, [.ref qs_widths, .ref qs_sizes, .ref qs_numbers])), (qs_numbers, .inl (cJ, 240, .inr (.inl (fs_numbers))))] := ⟨hP, hD⟩
            have hp0 := hw
            have hp_145 : r144 = fs_numbers (60 * a1.toInt + x131.toInt).toNat := hp0
            refine lv_lconst (v := 0) hx hb dX7_refusalOfHeard_62 (by decide) ?_
            refine lv_ldc2 (v := 199) hx hb hown (hts (.constantLong RX7 47 (199)) (by decide +kernel)) dX7_refusalOfHeard_63 ?_
            refine ct_calli (D := D) (wr := [(qs_sizes, .inl (cI, 4, .inl (fs_sizes))), (qs, .inr (7, [.ref qs_widths, .ref qs_sizes, .ref qs_numbers])), (qs_numbers, .inl (cJ, 240, .inr (.inl (fs_numbers))))]) (va_runS (As := [.long r144, .long 0, .long 199]) (rest := []) ⟨hx, hb, hml, hown, hts⟩ (c_X7_isBetween l D G cI cJ cB cZ cO r144 0 199  H.size) (va_cwS 3 hts gX7_refusalOfHeard_X7_isBetween rfl rfl rfl (by decide +kernel) ⟨Nat.le_of_ble_eq_true rfl, Nat.le_of_ble_eq_true rfl⟩) (ct_preS (T := ct_T cI cJ cB cZ cO) hE hH hP hD hS hA [] (by decide) rfl) rfl rfl hl.1 rfl (lv_room (Nat.le_of_ble_eq_true rfl)) dX7_refusalOfHeard_66 ⟨Nat.le_of_ble_eq_true rfl, Nat.le_of_ble_eq_true rfl⟩) hP hD hS hA [] [0, 1, 2] rfl rfl (by decide) (by decide) (fun r146 u H locs hw hP hD hS => ?_)
            obtain ⟨hP, hD⟩ : ct_B D A H [(qs_sizes, .inl (cI, 4, .inl (fs_sizes))), (qs, .inr (7, [.ref qs_widths, .ref qs_sizes, .ref qs_numbers])), (qs_numbers, .inl (cJ, 240, .inr (.inl (fs_numbers))))] := ⟨hP, hD⟩
            have hk147 : (0 : Int64).toInt = 0 := by decide
            have hk148 : (199 : Int64).toInt = 199 := by decide
            have hz := hw
            rcases hz with ⟨hz, hz2⟩ | ⟨hz, hz2⟩
            · subst hz
              have hz_149 : ((0 : Int64).toInt ≤ r144.toInt ∧ r144.toInt ≤ (199 : Int64).toInt) := hz2
              refine lv_goto (tgt := 81) hx hb dX7_refusalOfHeard_69 (by decide) ?_
              refine lv_istore (lv' := [(4, .int 1), (3, .int x131), (2, .int 0), (0, .ref qs), (1, .int a1)]) hx hb dX7_refusalOfHeard_81 hl (by decide) rfl (fun ls hl => ?_)
              refine lv_iload_n hx hb dX7_refusalOfHeard_83 rfl (lv_at hl 2 rfl) ?_
              refine lv_if_eq (tgt := 96) hx hb dX7_refusalOfHeard_84 (by decide) (fun _ => ?_) (fun hc => absurd hc (by decide))
              refine lv_iconst (v := 0) hx hb dX7_refusalOfHeard_96 (by decide) ?_
              refine lv_istore_n (lv' := [(2, .int 0), (4, .int 1), (3, .int x131), (0, .ref qs), (1, .int a1)]) hx hb dX7_refusalOfHeard_97 rfl hl (by decide) rfl (fun ls hl => ?_)
              obtain ⟨z150, ez150⟩ : ∃ z : Int32, z = x131 + 1 := ⟨_, rfl⟩
              have fz150 : z150.toInt = x131.toInt + 1 := by rw [ez150]; exact tq_add rfl (by decide) (by omega)
              refine lv_iinc (v := z150) (lv' := [(3, .int z150), (2, .int 0), (4, .int 1), (0, .ref qs), (1, .int a1)]) hx hb dX7_refusalOfHeard_98 hl (k := 2) rfl ez150.symm (by decide) rfl (fun ls hl => ?_)
              refine lv_goto (tgt := 40) hx hb dX7_refusalOfHeard_101 (by decide) ?_
              obtain ⟨hP9, hD9⟩ : ct_B D A H [(qs_numbers, .inl (cJ, 240, .inr (.inl (fs_numbers)))), (qs, .inr (7, [.ref qs_widths, .ref qs_sizes, .ref qs_numbers])), (qs_sizes, .inl (cI, 4, .inl (fs_sizes)))] := ⟨hP.sub [2, 1, 0] rfl, hD.sub [2, 1, 0] (by decide) rfl⟩
              exact ih132 z150 _ _ _ (show (60 - z150.toInt).toNat < (60 - x131.toInt).toNat by omega) ⟨(show 0 ≤ z150.toInt ∧ z150.toInt ≤ 60 by omega), (show hd_ok fs_numbers a1.toInt 0 z150.toInt by first | exact fun h => absurd h (by decide) | exact hd_step he0 (by omega) (by omega) hp_145 (by omega) _ _ (by omega)), ⟨hP9, hD9⟩, hS, lv_sub hl [0, 1, 3, 4] rfl⟩
            · subst hz
              have hz_151 : ¬ ((0 : Int64).toInt ≤ r144.toInt ∧ r144.toInt ≤ (199 : Int64).toInt) := hz2
              refine lv_goto (tgt := 81) hx hb dX7_refusalOfHeard_69 (by decide) ?_
              refine lv_istore (lv' := [(4, .int 0), (3, .int x131), (2, .int 0), (0, .ref qs), (1, .int a1)]) hx hb dX7_refusalOfHeard_81 hl (by decide) rfl (fun ls hl => ?_)
              refine lv_iload_n hx hb dX7_refusalOfHeard_83 rfl (lv_at hl 2 rfl) ?_
              refine lv_if_eq (tgt := 96) hx hb dX7_refusalOfHeard_84 (by decide) (fun _ => ?_) (fun hc => absurd hc (by decide))
              refine lv_iconst (v := 0) hx hb dX7_refusalOfHeard_96 (by decide) ?_
              refine lv_istore_n (lv' := [(2, .int 0), (4, .int 0), (3, .int x131), (0, .ref qs), (1, .int a1)]) hx hb dX7_refusalOfHeard_97 rfl hl (by decide) rfl (fun ls hl => ?_)
              obtain ⟨z152, ez152⟩ : ∃ z : Int32, z = x131 + 1 := ⟨_, rfl⟩
              have fz152 : z152.toInt = x131.toInt + 1 := by rw [ez152]; exact tq_add rfl (by decide) (by omega)
              refine lv_iinc (v := z152) (lv' := [(3, .int z152), (2, .int 0), (4, .int 0), (0, .ref qs), (1, .int a1)]) hx hb dX7_refusalOfHeard_98 hl (k := 2) rfl ez152.symm (by decide) rfl (fun ls hl => ?_)
              refine lv_goto (tgt := 40) hx hb dX7_refusalOfHeard_101 (by decide) ?_
              obtain ⟨hP9, hD9⟩ : ct_B D A H [(qs_numbers, .inl (cJ, 240, .inr (.inl (fs_numbers)))), (qs, .inr (7, [.ref qs_widths, .ref qs_sizes, .ref qs_numbers])), (qs_sizes, .inl (cI, 4, .inl (fs_sizes)))] := ⟨hP.sub [2, 1, 0] rfl, hD.sub [2, 1, 0] (by decide) rfl⟩
              exact ih132 z152 _ _ _ (show (60 - z152.toInt).toNat < (60 - x131.toInt).toNat by omega) ⟨(show 0 ≤ z152.toInt ∧ z152.toInt ≤ 60 by omega), (show hd_ok fs_numbers a1.toInt 0 z152.toInt by first | exact fun h => absurd h (by decide) | exact hd_step he0 (by omega) (by omega) hp_145 (by omega) _ _ (by omega)), ⟨hP9, hD9⟩, hS, lv_sub hl [0, 1, 3, 4] rfl⟩
      · have hq6 : z5.toInt = 0 := tq_eq rfl (by decide) hc
        refine lv_iconst (v := 1) hx hb dX7_refusalOfHeard_32 (by decide) ?_
        refine lv_goto (tgt := 37) hx hb dX7_refusalOfHeard_33 (by decide) ?_
        refine lv_istore_n (lv' := [(2, .int 1), (0, .ref qs), (1, .int a1)]) hx hb dX7_refusalOfHeard_37 rfl hl (by decide) rfl (fun ls hl => ?_)
        refine lv_iconst (v := 0) hx hb dX7_refusalOfHeard_38 (by decide) ?_
        refine lv_istore_n (lv' := [(3, .int 0), (2, .int 1), (0, .ref qs), (1, .int a1)]) hx hb dX7_refusalOfHeard_39 rfl hl (by decide) rfl (fun ls hl => ?_)
        refine ct_loop (X := Int32 × Int32) (fun x => (60 - x.2.toInt).toNat) (fun x H locs ls => ((0 ≤ x.1.toInt ∧ x.1.toInt ≤ 1)) ∧ ((0 ≤ x.2.toInt ∧ x.2.toInt ≤ 60)) ∧ (hd_ok fs_numbers a1.toInt x.1.toInt x.2.toInt) ∧ ct_B D A H [(qs_numbers, .inl (cJ, 240, .inr (.inl (fs_numbers)))), (qs, .inr (7, [.ref qs_widths, .ref qs_sizes, .ref qs_numbers])), (qs_sizes, .inl (cI, 4, .inl (fs_sizes)))] ∧ va_S A s.heap H locs ∧ lv_has ls 5 [(3, .int x.2), (2, .int x.1), (0, .ref qs), (1, .int a1)]) 40 ((1 : Int32), (0 : Int32)) ⟨(show 0 ≤ (1 : Int32).toInt ∧ (1 : Int32).toInt ≤ 1 by decide), (show 0 ≤ (0 : Int32).toInt ∧ (0 : Int32).toInt ≤ 60 by decide), (show hd_ok fs_numbers a1.toInt (1 : Int32).toInt (0 : Int32).toInt by exact fun _ k hk => absurd hk (by have h0 : (0 : Int32).toInt = 0 := (by decide); omega)), ⟨hP, hD⟩, hS, lv_sub hl [0, 1, 2, 3] rfl⟩ (fun x ih339 H locs ls hI => ?_)
        obtain ⟨x337, x338⟩ := x
        obtain ⟨h_x337, h_x338, he0, ⟨hP, hD⟩, hS, hl⟩ := hI
        have h_x337 : (0 ≤ x337.toInt ∧ x337.toInt ≤ 1) := h_x337
        have h_x338 : (0 ≤ x338.toInt ∧ x338.toInt ≤ 60) := h_x338
        have he0 : hd_ok fs_numbers a1.toInt x337.toInt x338.toInt := he0
        obtain ⟨hP, hD⟩ : ct_B D A H [(qs_numbers, .inl (cJ, 240, .inr (.inl (fs_numbers)))), (qs, .inr (7, [.ref qs_widths, .ref qs_sizes, .ref qs_numbers])), (qs_sizes, .inl (cI, 4, .inl (fs_sizes)))] := ⟨hP, hD⟩
        have hl : lv_has ls 5 [(3, .int x338), (2, .int x337), (0, .ref qs), (1, .int a1)] := hl
        refine lv_iload_n hx hb dX7_refusalOfHeard_40 rfl (lv_at hl 0 rfl) ?_
        refine lv_aload_n hx hb dX7_refusalOfHeard_41 rfl (lv_at hl 2 rfl) ?_
        refine va_get (D := D) (ci := 7) (v := .ref qs_sizes) (C := RX7) (T := TX7) (N := 3) hx hb hts hi7 hown hK hP 1 rfl rfl 1 (by decide) (hts (.fieldLink RX7 15 "OverHill$Slots" "sizes" "[I") (by decide +kernel)) (fun _ h9 => h9) rfl dX7_refusalOfHeard_42 ?_
        refine lv_iload_n hx hb dX7_refusalOfHeard_45 rfl (lv_at hl 3 rfl) ?_
        refine va_iald (D := D) hx hb hK hP 2 0 rfl rfl (tq_in rfl (by omega)) dX7_refusalOfHeard_46 ?_
        refine lv_topi (fun z340 ez340 => ?_)
        have qz340 : z340.toInt = z4.toInt := by rw [ez340, ez4]
        have fz340 : (-1) ≤ z340.toInt ∧ z340.toInt ≤ 60 := by rw [ez340]; exact ar_get h_fs_sizes a1 0 (by omega) (show a1.toInt % 1 = 0 by omega) rfl
        refine lv_icmp_ge (tgt := 104) hx hb dX7_refusalOfHeard_47 (by decide) (fun hc => ?_) (fun hc => ?_)
        · have hq341 : z340.toInt ≤ x338.toInt := tq_le rfl rfl hc
          refine lv_iload_n hx hb dX7_refusalOfHeard_104 rfl (lv_at hl 1 rfl) ?_
          refine lv_if_eq (tgt := 112) hx hb dX7_refusalOfHeard_105 (by decide) (fun hc => ?_) (fun hc => ?_)
          · have hq342 : x337.toInt = 0 := tq_eq rfl (by decide) hc
            refine lv_bipush (v := (-2)) hx hb dX7_refusalOfHeard_112 (by decide) ?_
            obtain ⟨hP9, hD9⟩ : ct_B D A H [(qs, .inr (7, [.ref qs_widths, .ref qs_sizes, .ref qs_numbers])), (qs_sizes, .inl (cI, 4, .inl (fs_sizes))), (qs_numbers, .inl (cJ, 240, .inr (.inl (fs_numbers))))] := ⟨hP.sub [1, 2, 0] rfl, hD.sub [1, 2, 0] (by decide) rfl⟩
            exact W.iret (v := (-2)) hx hb hr (fun t ht hW => ⟨⟨(-2), (), rfl, (Or.inr (Or.inr (⟨rfl, trivial⟩))), by rw [ht]; exact hP9, hD9⟩, hS.F ht⟩) hS.2.2 dX7_refusalOfHeard_114
          · have hq342 : x337.toInt ≠ 0 := tq_ne rfl (by decide) hc
            refine lv_iconst (v := 0) hx hb dX7_refusalOfHeard_108 (by decide) ?_
            refine lv_goto (tgt := 114) hx hb dX7_refusalOfHeard_109 (by decide) ?_
            obtain ⟨hP9, hD9⟩ : ct_B D A H [(qs, .inr (7, [.ref qs_widths, .ref qs_sizes, .ref qs_numbers])), (qs_sizes, .inl (cI, 4, .inl (fs_sizes))), (qs_numbers, .inl (cJ, 240, .inr (.inl (fs_numbers))))] := ⟨hP.sub [1, 2, 0] rfl, hD.sub [1, 2, 0] (by decide) rfl⟩
            exact W.iret (v := 0) hx hb hr (fun t ht hW => ⟨⟨0, (), rfl, (Or.inl ⟨rfl, (show (0 ≤ a1.toInt ∧ a1.toInt < 4) ∧ hd_ok fs_numbers a1.toInt 1 (fs_sizes a1.toNatClampNeg).toInt by exact ⟨by omega, fun _ k hk => he0 (by omega) k (by rw [← ez340] at hk; omega)⟩)⟩), by rw [ht]; exact hP9, hD9⟩, hS.F ht⟩) hS.2.2 dX7_refusalOfHeard_114
        · have hq341 : x338.toInt < z340.toInt := tq_nle rfl rfl hc
          refine lv_iload_n hx hb dX7_refusalOfHeard_50 rfl (lv_at hl 0 rfl) ?_
          refine lv_iconst (v := 2) hx hb dX7_refusalOfHeard_51 (by decide) ?_
          refine lv_irem hx hb dX7_refusalOfHeard_52 (by decide) ?_
          refine lv_topi (fun z343 ez343 => ?_)
          have fz343 : z343.toInt = x338.toInt % 2 := by rw [ez343]; exact tq_remc (c := 2) rfl (by decide) (by omega) (by omega)
          refine lv_if_ne (tgt := 72) hx hb dX7_refusalOfHeard_53 (by decide) (fun hc => ?_) (fun hc => ?_)
          · have hq344 : z343.toInt ≠ 0 := tq_ne rfl (by decide) hc
            refine lv_aload_n hx hb dX7_refusalOfHeard_72 rfl (lv_at hl 2 rfl) ?_
            refine lv_iload_n hx hb dX7_refusalOfHeard_73 rfl (lv_at hl 3 rfl) ?_
            refine lv_iload_n hx hb dX7_refusalOfHeard_74 rfl (lv_at hl 0 rfl) ?_
            refine ct_calll (D := D) (wr := [(qs_sizes, .inl (cI, 4, .inl (fs_sizes)))]) (va_runV (As := [.int a1, .int x338]) (rest := []) ⟨hx, hb, hml, hown, hts⟩ (c_X7_at l D G cI cJ cB cZ cO qs qs_widths qs_sizes qs_numbers fs_numbers a1 x338 (by omega) (by omega) H.size) (cwV 2 hts gX7_refusalOfHeard_X7_at rfl rfl rfl (by decide +kernel) ⟨Nat.le_of_ble_eq_true rfl, Nat.le_of_ble_eq_true rfl⟩) (ct_preV (T := ct_T cI cJ cB cZ cO) (ci := 7) (q0 := 1) hE hH hP hD hS hA [1, 0] (by decide) rfl rfl rfl) rfl rfl hl.1 rfl (lv_room (Nat.le_of_ble_eq_true rfl)) dX7_refusalOfHeard_75 ⟨Nat.le_of_ble_eq_true rfl, Nat.le_of_ble_eq_true rfl⟩) hP hD hS hA [1, 0] [2] rfl rfl (by decide) (by decide) (fun r345 u H locs hw hP hD hS => ?_)
            obtain ⟨hP, hD⟩ : ct_B D A H [(qs_sizes, .inl (cI, 4, .inl (fs_sizes))), (qs, .inr (7, [.ref qs_widths, .ref qs_sizes, .ref qs_numbers])), (qs_numbers, .inl (cJ, 240, .inr (.inl (fs_numbers))))] := ⟨hP, hD⟩
            have hp0 := hw
            have hp_346 : r345 = fs_numbers (60 * a1.toInt + x338.toInt).toNat := hp0
            refine ct_calli (D := D) (wr := [(qs_sizes, .inl (cI, 4, .inl (fs_sizes))), (qs, .inr (7, [.ref qs_widths, .ref qs_sizes, .ref qs_numbers])), (qs_numbers, .inl (cJ, 240, .inr (.inl (fs_numbers))))]) (va_runS (As := [.long r345]) (rest := []) ⟨hx, hb, hml, hown, hts⟩ (c_X7_isTold l D G cI cJ cB cZ cO r345  H.size) (va_cwS 1 hts gX7_refusalOfHeard_X7_isTold rfl rfl rfl (by decide +kernel) ⟨Nat.le_of_ble_eq_true rfl, Nat.le_of_ble_eq_true rfl⟩) (ct_preS (T := ct_T cI cJ cB cZ cO) hE hH hP hD hS hA [] (by decide) rfl) rfl rfl hl.1 rfl (lv_room (Nat.le_of_ble_eq_true rfl)) dX7_refusalOfHeard_78 ⟨Nat.le_of_ble_eq_true rfl, Nat.le_of_ble_eq_true rfl⟩) hP hD hS hA [] [0, 1, 2] rfl rfl (by decide) (by decide) (fun r347 u H locs hw hP hD hS => ?_)
            obtain ⟨hP, hD⟩ : ct_B D A H [(qs_sizes, .inl (cI, 4, .inl (fs_sizes))), (qs, .inr (7, [.ref qs_widths, .ref qs_sizes, .ref qs_numbers])), (qs_numbers, .inl (cJ, 240, .inr (.inl (fs_numbers))))] := ⟨hP, hD⟩
            have hz := hw
            rcases hz with ⟨hz, hz2⟩ | ⟨hz, hz2⟩
            · subst hz
              have hz_348 : (-1 ≤ r345.toInt ∧ r345.toInt ≤ 5) := hz2
              refine lv_istore (lv' := [(4, .int 1), (3, .int x338), (2, .int x337), (0, .ref qs), (1, .int a1)]) hx hb dX7_refusalOfHeard_81 hl (by decide) rfl (fun ls hl => ?_)
              refine lv_iload_n hx hb dX7_refusalOfHeard_83 rfl (lv_at hl 2 rfl) ?_
              refine lv_if_eq (tgt := 96) hx hb dX7_refusalOfHeard_84 (by decide) (fun hc => ?_) (fun hc => ?_)
              · have hq349 : x337.toInt = 0 := tq_eq rfl (by decide) hc
                refine lv_iconst (v := 0) hx hb dX7_refusalOfHeard_96 (by decide) ?_
                refine lv_istore_n (lv' := [(2, .int 0), (4, .int 1), (3, .int x338), (0, .ref qs), (1, .int a1)]) hx hb dX7_refusalOfHeard_97 rfl hl (by decide) rfl (fun ls hl => ?_)
                obtain ⟨z350, ez350⟩ : ∃ z : Int32, z = x338 + 1 := ⟨_, rfl⟩
                have fz350 : z350.toInt = x338.toInt + 1 := by rw [ez350]; exact tq_add rfl (by decide) (by omega)
                refine lv_iinc (v := z350) (lv' := [(3, .int z350), (2, .int 0), (4, .int 1), (0, .ref qs), (1, .int a1)]) hx hb dX7_refusalOfHeard_98 hl (k := 2) rfl ez350.symm (by decide) rfl (fun ls hl => ?_)
                refine lv_goto (tgt := 40) hx hb dX7_refusalOfHeard_101 (by decide) ?_
                have hk351 : (0 : Int32).toInt = 0 := by decide
                obtain ⟨hP9, hD9⟩ : ct_B D A H [(qs_numbers, .inl (cJ, 240, .inr (.inl (fs_numbers)))), (qs, .inr (7, [.ref qs_widths, .ref qs_sizes, .ref qs_numbers])), (qs_sizes, .inl (cI, 4, .inl (fs_sizes)))] := ⟨hP.sub [2, 1, 0] rfl, hD.sub [2, 1, 0] (by decide) rfl⟩
                exact ih339 ((0 : Int32), z350) _ _ _ (show (60 - z350.toInt).toNat < (60 - x338.toInt).toNat by omega) ⟨(show 0 ≤ (0 : Int32).toInt ∧ (0 : Int32).toInt ≤ 1 by decide), (show 0 ≤ z350.toInt ∧ z350.toInt ≤ 60 by omega), (show hd_ok fs_numbers a1.toInt (0 : Int32).toInt z350.toInt by first | exact fun h => absurd h (by decide) | exact hd_step he0 (by omega) (by omega) hp_346 (by omega) _ _ (by omega)), ⟨hP9, hD9⟩, hS, lv_sub hl [0, 1, 3, 4] rfl⟩
              · have hq349 : x337.toInt ≠ 0 := tq_ne rfl (by decide) hc
                refine lv_iload hx hb dX7_refusalOfHeard_87 (lv_at hl 0 rfl) ?_
                refine lv_if_eq (tgt := 96) hx hb dX7_refusalOfHeard_89 (by decide) (fun hc => absurd hc (by decide)) (fun _ => ?_)
                refine lv_iconst (v := 1) hx hb dX7_refusalOfHeard_92 (by decide) ?_
                refine lv_goto (tgt := 97) hx hb dX7_refusalOfHeard_93 (by decide) ?_
                refine lv_istore_n (lv' := [(2, .int 1), (4, .int 1), (3, .int x338), (0, .ref qs), (1, .int a1)]) hx hb dX7_refusalOfHeard_97 rfl hl (by decide) rfl (fun ls hl => ?_)
                obtain ⟨z352, ez352⟩ : ∃ z : Int32, z = x338 + 1 := ⟨_, rfl⟩
                have fz352 : z352.toInt = x338.toInt + 1 := by rw [ez352]; exact tq_add rfl (by decide) (by omega)
                refine lv_iinc (v := z352) (lv' := [(3, .int z352), (2, .int 1), (4, .int 1), (0, .ref qs), (1, .int a1)]) hx hb dX7_refusalOfHeard_98 hl (k := 2) rfl ez352.symm (by decide) rfl (fun ls hl => ?_)
                refine lv_goto (tgt := 40) hx hb dX7_refusalOfHeard_101 (by decide) ?_
                have hk353 : (1 : Int32).toInt = 1 := by decide
                obtain ⟨hP9, hD9⟩ : ct_B D A H [(qs_numbers, .inl (cJ, 240, .inr (.inl (fs_numbers)))), (qs, .inr (7, [.ref qs_widths, .ref qs_sizes, .ref qs_numbers])), (qs_sizes, .inl (cI, 4, .inl (fs_sizes)))] := ⟨hP.sub [2, 1, 0] rfl, hD.sub [2, 1, 0] (by decide) rfl⟩
                exact ih339 ((1 : Int32), z352) _ _ _ (show (60 - z352.toInt).toNat < (60 - x338.toInt).toNat by omega) ⟨(show 0 ≤ (1 : Int32).toInt ∧ (1 : Int32).toInt ≤ 1 by decide), (show 0 ≤ z352.toInt ∧ z352.toInt ≤ 60 by omega), (show hd_ok fs_numbers a1.toInt (1 : Int32).toInt z352.toInt by first | exact fun h => absurd h (by decide) | exact hd_step he0 (by omega) (by omega) hp_346 (by omega) _ _ (by omega)), ⟨hP9, hD9⟩, hS, lv_sub hl [0, 1, 3, 4] rfl⟩
            · subst hz
              have hz_354 : ¬ (-1 ≤ r345.toInt ∧ r345.toInt ≤ 5) := hz2
              refine lv_istore (lv' := [(4, .int 0), (3, .int x338), (2, .int x337), (0, .ref qs), (1, .int a1)]) hx hb dX7_refusalOfHeard_81 hl (by decide) rfl (fun ls hl => ?_)
              refine lv_iload_n hx hb dX7_refusalOfHeard_83 rfl (lv_at hl 2 rfl) ?_
              refine lv_if_eq (tgt := 96) hx hb dX7_refusalOfHeard_84 (by decide) (fun hc => ?_) (fun hc => ?_)
              · have hq355 : x337.toInt = 0 := tq_eq rfl (by decide) hc
                refine lv_iconst (v := 0) hx hb dX7_refusalOfHeard_96 (by decide) ?_
                refine lv_istore_n (lv' := [(2, .int 0), (4, .int 0), (3, .int x338), (0, .ref qs), (1, .int a1)]) hx hb dX7_refusalOfHeard_97 rfl hl (by decide) rfl (fun ls hl => ?_)
                obtain ⟨z356, ez356⟩ : ∃ z : Int32, z = x338 + 1 := ⟨_, rfl⟩
                have fz356 : z356.toInt = x338.toInt + 1 := by rw [ez356]; exact tq_add rfl (by decide) (by omega)
                refine lv_iinc (v := z356) (lv' := [(3, .int z356), (2, .int 0), (4, .int 0), (0, .ref qs), (1, .int a1)]) hx hb dX7_refusalOfHeard_98 hl (k := 2) rfl ez356.symm (by decide) rfl (fun ls hl => ?_)
                refine lv_goto (tgt := 40) hx hb dX7_refusalOfHeard_101 (by decide) ?_
                have hk357 : (0 : Int32).toInt = 0 := by decide
                obtain ⟨hP9, hD9⟩ : ct_B D A H [(qs_numbers, .inl (cJ, 240, .inr (.inl (fs_numbers)))), (qs, .inr (7, [.ref qs_widths, .ref qs_sizes, .ref qs_numbers])), (qs_sizes, .inl (cI, 4, .inl (fs_sizes)))] := ⟨hP.sub [2, 1, 0] rfl, hD.sub [2, 1, 0] (by decide) rfl⟩
                exact ih339 ((0 : Int32), z356) _ _ _ (show (60 - z356.toInt).toNat < (60 - x338.toInt).toNat by omega) ⟨(show 0 ≤ (0 : Int32).toInt ∧ (0 : Int32).toInt ≤ 1 by decide), (show 0 ≤ z356.toInt ∧ z356.toInt ≤ 60 by omega), (show hd_ok fs_numbers a1.toInt (0 : Int32).toInt z356.toInt by first | exact fun h => absurd h (by decide) | exact hd_step he0 (by omega) (by omega) hp_346 (by omega) _ _ (by omega)), ⟨hP9, hD9⟩, hS, lv_sub hl [0, 1, 3, 4] rfl⟩
              · have hq355 : x337.toInt ≠ 0 := tq_ne rfl (by decide) hc
                refine lv_iload hx hb dX7_refusalOfHeard_87 (lv_at hl 0 rfl) ?_
                refine lv_if_eq (tgt := 96) hx hb dX7_refusalOfHeard_89 (by decide) (fun _ => ?_) (fun hc => absurd hc (by decide))
                refine lv_iconst (v := 0) hx hb dX7_refusalOfHeard_96 (by decide) ?_
                refine lv_istore_n (lv' := [(2, .int 0), (4, .int 0), (3, .int x338), (0, .ref qs), (1, .int a1)]) hx hb dX7_refusalOfHeard_97 rfl hl (by decide) rfl (fun ls hl => ?_)
                obtain ⟨z358, ez358⟩ : ∃ z : Int32, z = x338 + 1 := ⟨_, rfl⟩
                have fz358 : z358.toInt = x338.toInt + 1 := by rw [ez358]; exact tq_add rfl (by decide) (by omega)
                refine lv_iinc (v := z358) (lv' := [(3, .int z358), (2, .int 0), (4, .int 0), (0, .ref qs), (1, .int a1)]) hx hb dX7_refusalOfHeard_98 hl (k := 2) rfl ez358.symm (by decide) rfl (fun ls hl => ?_)
                refine lv_goto (tgt := 40) hx hb dX7_refusalOfHeard_101 (by decide) ?_
                have hk359 : (0 : Int32).toInt = 0 := by decide
                obtain ⟨hP9, hD9⟩ : ct_B D A H [(qs_numbers, .inl (cJ, 240, .inr (.inl (fs_numbers)))), (qs, .inr (7, [.ref qs_widths, .ref qs_sizes, .ref qs_numbers])), (qs_sizes, .inl (cI, 4, .inl (fs_sizes)))] := ⟨hP.sub [2, 1, 0] rfl, hD.sub [2, 1, 0] (by decide) rfl⟩
                exact ih339 ((0 : Int32), z358) _ _ _ (show (60 - z358.toInt).toNat < (60 - x338.toInt).toNat by omega) ⟨(show 0 ≤ (0 : Int32).toInt ∧ (0 : Int32).toInt ≤ 1 by decide), (show 0 ≤ z358.toInt ∧ z358.toInt ≤ 60 by omega), (show hd_ok fs_numbers a1.toInt (0 : Int32).toInt z358.toInt by first | exact fun h => absurd h (by decide) | exact hd_step he0 (by omega) (by omega) hp_346 (by omega) _ _ (by omega)), ⟨hP9, hD9⟩, hS, lv_sub hl [0, 1, 3, 4] rfl⟩
          · have hq344 : z343.toInt = 0 := tq_eq rfl (by decide) hc
            refine lv_aload_n hx hb dX7_refusalOfHeard_56 rfl (lv_at hl 2 rfl) ?_
            refine lv_iload_n hx hb dX7_refusalOfHeard_57 rfl (lv_at hl 3 rfl) ?_
            refine lv_iload_n hx hb dX7_refusalOfHeard_58 rfl (lv_at hl 0 rfl) ?_
            refine ct_calll (D := D) (wr := [(qs_sizes, .inl (cI, 4, .inl (fs_sizes)))]) (va_runV (As := [.int a1, .int x338]) (rest := []) ⟨hx, hb, hml, hown, hts⟩ (c_X7_at l D G cI cJ cB cZ cO qs qs_widths qs_sizes qs_numbers fs_numbers a1 x338 (by omega) (by omega) H.size) (cwV 2 hts gX7_refusalOfHeard_X7_at rfl rfl rfl (by decide +kernel) ⟨Nat.le_of_ble_eq_true rfl, Nat.le_of_ble_eq_true rfl⟩) (ct_preV (T := ct_T cI cJ cB cZ cO) (ci := 7) (q0 := 1) hE hH hP hD hS hA [1, 0] (by decide) rfl rfl rfl) rfl rfl hl.1 rfl (lv_room (Nat.le_of_ble_eq_true rfl)) dX7_refusalOfHeard_59 ⟨Nat.le_of_ble_eq_true rfl, Nat.le_of_ble_eq_true rfl⟩) hP hD hS hA [1, 0] [2] rfl rfl (by decide) (by decide) (fun r360 u H locs hw hP hD hS => ?_)
            obtain ⟨hP, hD⟩ : ct_B D A H [(qs_sizes, .inl (cI, 4, .inl (fs_sizes))), (qs, .inr (7, [.ref qs_widths, .ref qs_sizes, .ref qs_numbers])), (qs_numbers, .inl (cJ, 240, .inr (.inl (fs_numbers))))] := ⟨hP, hD⟩
            have hp0 := hw
            have hp_361 : r360 = fs_numbers (60 * a1.toInt + x338.toInt).toNat := hp0
            refine lv_lconst (v := 0) hx hb dX7_refusalOfHeard_62 (by decide) ?_
            refine lv_ldc2 (v := 199) hx hb hown (hts (.constantLong RX7 47 (199)) (by decide +kernel)) dX7_refusalOfHeard_63 ?_
            refine ct_calli (D := D) (wr := [(qs_sizes, .inl (cI, 4, .inl (fs_sizes))), (qs, .inr (7, [.ref qs_widths, .ref qs_sizes, .ref qs_numbers])), (qs_numbers, .inl (cJ, 240, .inr (.inl (fs_numbers))))]) (va_runS (As := [.long r360, .long 0, .long 199]) (rest := []) ⟨hx, hb, hml, hown, hts⟩ (c_X7_isBetween l D G cI cJ cB cZ cO r360 0 199  H.size) (va_cwS 3 hts gX7_refusalOfHeard_X7_isBetween rfl rfl rfl (by decide +kernel) ⟨Nat.le_of_ble_eq_true rfl, Nat.le_of_ble_eq_true rfl⟩) (ct_preS (T := ct_T cI cJ cB cZ cO) hE hH hP hD hS hA [] (by decide) rfl) rfl rfl hl.1 rfl (lv_room (Nat.le_of_ble_eq_true rfl)) dX7_refusalOfHeard_66 ⟨Nat.le_of_ble_eq_true rfl, Nat.le_of_ble_eq_true rfl⟩) hP hD hS hA [] [0, 1, 2] rfl rfl (by decide) (by decide) (fun r362 u H locs hw hP hD hS => ?_)
            obtain ⟨hP, hD⟩ : ct_B D A H [(qs_sizes, .inl (cI, 4, .inl (fs_sizes))), (qs, .inr (7, [.ref qs_widths, .ref qs_sizes, .ref qs_numbers])), (qs_numbers, .inl (cJ, 240, .inr (.inl (fs_numbers))))] := ⟨hP, hD⟩
            have hk363 : (0 : Int64).toInt = 0 := by decide
            have hk364 : (199 : Int64).toInt = 199 := by decide
            have hz := hw
            rcases hz with ⟨hz, hz2⟩ | ⟨hz, hz2⟩
            · subst hz
              have hz_365 : ((0 : Int64).toInt ≤ r360.toInt ∧ r360.toInt ≤ (199 : Int64).toInt) := hz2
              refine lv_goto (tgt := 81) hx hb dX7_refusalOfHeard_69 (by decide) ?_
              refine lv_istore (lv' := [(4, .int 1), (3, .int x338), (2, .int x337), (0, .ref qs), (1, .int a1)]) hx hb dX7_refusalOfHeard_81 hl (by decide) rfl (fun ls hl => ?_)
              refine lv_iload_n hx hb dX7_refusalOfHeard_83 rfl (lv_at hl 2 rfl) ?_
              refine lv_if_eq (tgt := 96) hx hb dX7_refusalOfHeard_84 (by decide) (fun hc => ?_) (fun hc => ?_)
              · have hq366 : x337.toInt = 0 := tq_eq rfl (by decide) hc
                refine lv_iconst (v := 0) hx hb dX7_refusalOfHeard_96 (by decide) ?_
                refine lv_istore_n (lv' := [(2, .int 0), (4, .int 1), (3, .int x338), (0, .ref qs), (1, .int a1)]) hx hb dX7_refusalOfHeard_97 rfl hl (by decide) rfl (fun ls hl => ?_)
                obtain ⟨z367, ez367⟩ : ∃ z : Int32, z = x338 + 1 := ⟨_, rfl⟩
                have fz367 : z367.toInt = x338.toInt + 1 := by rw [ez367]; exact tq_add rfl (by decide) (by omega)
                refine lv_iinc (v := z367) (lv' := [(3, .int z367), (2, .int 0), (4, .int 1), (0, .ref qs), (1, .int a1)]) hx hb dX7_refusalOfHeard_98 hl (k := 2) rfl ez367.symm (by decide) rfl (fun ls hl => ?_)
                refine lv_goto (tgt := 40) hx hb dX7_refusalOfHeard_101 (by decide) ?_
                have hk368 : (0 : Int32).toInt = 0 := by decide
                obtain ⟨hP9, hD9⟩ : ct_B D A H [(qs_numbers, .inl (cJ, 240, .inr (.inl (fs_numbers)))), (qs, .inr (7, [.ref qs_widths, .ref qs_sizes, .ref qs_numbers])), (qs_sizes, .inl (cI, 4, .inl (fs_sizes)))] := ⟨hP.sub [2, 1, 0] rfl, hD.sub [2, 1, 0] (by decide) rfl⟩
                exact ih339 ((0 : Int32), z367) _ _ _ (show (60 - z367.toInt).toNat < (60 - x338.toInt).toNat by omega) ⟨(show 0 ≤ (0 : Int32).toInt ∧ (0 : Int32).toInt ≤ 1 by decide), (show 0 ≤ z367.toInt ∧ z367.toInt ≤ 60 by omega), (show hd_ok fs_numbers a1.toInt (0 : Int32).toInt z367.toInt by first | exact fun h => absurd h (by decide) | exact hd_step he0 (by omega) (by omega) hp_361 (by omega) _ _ (by omega)), ⟨hP9, hD9⟩, hS, lv_sub hl [0, 1, 3, 4] rfl⟩
              · have hq366 : x337.toInt ≠ 0 := tq_ne rfl (by decide) hc
                refine lv_iload hx hb dX7_refusalOfHeard_87 (lv_at hl 0 rfl) ?_
                refine lv_if_eq (tgt := 96) hx hb dX7_refusalOfHeard_89 (by decide) (fun hc => absurd hc (by decide)) (fun _ => ?_)
                refine lv_iconst (v := 1) hx hb dX7_refusalOfHeard_92 (by decide) ?_
                refine lv_goto (tgt := 97) hx hb dX7_refusalOfHeard_93 (by decide) ?_
                refine lv_istore_n (lv' := [(2, .int 1), (4, .int 1), (3, .int x338), (0, .ref qs), (1, .int a1)]) hx hb dX7_refusalOfHeard_97 rfl hl (by decide) rfl (fun ls hl => ?_)
                obtain ⟨z369, ez369⟩ : ∃ z : Int32, z = x338 + 1 := ⟨_, rfl⟩
                have fz369 : z369.toInt = x338.toInt + 1 := by rw [ez369]; exact tq_add rfl (by decide) (by omega)
                refine lv_iinc (v := z369) (lv' := [(3, .int z369), (2, .int 1), (4, .int 1), (0, .ref qs), (1, .int a1)]) hx hb dX7_refusalOfHeard_98 hl (k := 2) rfl ez369.symm (by decide) rfl (fun ls hl => ?_)
                refine lv_goto (tgt := 40) hx hb dX7_refusalOfHeard_101 (by decide) ?_
                have hk370 : (1 : Int32).toInt = 1 := by decide
                obtain ⟨hP9, hD9⟩ : ct_B D A H [(qs_numbers, .inl (cJ, 240, .inr (.inl (fs_numbers)))), (qs, .inr (7, [.ref qs_widths, .ref qs_sizes, .ref qs_numbers])), (qs_sizes, .inl (cI, 4, .inl (fs_sizes)))] := ⟨hP.sub [2, 1, 0] rfl, hD.sub [2, 1, 0] (by decide) rfl⟩
                exact ih339 ((1 : Int32), z369) _ _ _ (show (60 - z369.toInt).toNat < (60 - x338.toInt).toNat by omega) ⟨(show 0 ≤ (1 : Int32).toInt ∧ (1 : Int32).toInt ≤ 1 by decide), (show 0 ≤ z369.toInt ∧ z369.toInt ≤ 60 by omega), (show hd_ok fs_numbers a1.toInt (1 : Int32).toInt z369.toInt by first | exact fun h => absurd h (by decide) | exact hd_step he0 (by omega) (by omega) hp_361 (by omega) _ _ (by omega)), ⟨hP9, hD9⟩, hS, lv_sub hl [0, 1, 3, 4] rfl⟩
            · subst hz
              have hz_371 : ¬ ((0 : Int64).toInt ≤ r360.toInt ∧ r360.toInt ≤ (199 : Int64).toInt) := hz2
              refine lv_goto (tgt := 81) hx hb dX7_refusalOfHeard_69 (by decide) ?_
              refine lv_istore (lv' := [(4, .int 0), (3, .int x338), (2, .int x337), (0, .ref qs), (1, .int a1)]) hx hb dX7_refusalOfHeard_81 hl (by decide) rfl (fun ls hl => ?_)
              refine lv_iload_n hx hb dX7_refusalOfHeard_83 rfl (lv_at hl 2 rfl) ?_
              refine lv_if_eq (tgt := 96) hx hb dX7_refusalOfHeard_84 (by decide) (fun hc => ?_) (fun hc => ?_)
              · have hq372 : x337.toInt = 0 := tq_eq rfl (by decide) hc
                refine lv_iconst (v := 0) hx hb dX7_refusalOfHeard_96 (by decide) ?_
                refine lv_istore_n (lv' := [(2, .int 0), (4, .int 0), (3, .int x338), (0, .ref qs), (1, .int a1)]) hx hb dX7_refusalOfHeard_97 rfl hl (by decide) rfl (fun ls hl => ?_)
                obtain ⟨z373, ez373⟩ : ∃ z : Int32, z = x338 + 1 := ⟨_, rfl⟩
                have fz373 : z373.toInt = x338.toInt + 1 := by rw [ez373]; exact tq_add rfl (by decide) (by omega)
                refine lv_iinc (v := z373) (lv' := [(3, .int z373), (2, .int 0), (4, .int 0), (0, .ref qs), (1, .int a1)]) hx hb dX7_refusalOfHeard_98 hl (k := 2) rfl ez373.symm (by decide) rfl (fun ls hl => ?_)
                refine lv_goto (tgt := 40) hx hb dX7_refusalOfHeard_101 (by decide) ?_
                have hk374 : (0 : Int32).toInt = 0 := by decide
                obtain ⟨hP9, hD9⟩ : ct_B D A H [(qs_numbers, .inl (cJ, 240, .inr (.inl (fs_numbers)))), (qs, .inr (7, [.ref qs_widths, .ref qs_sizes, .ref qs_numbers])), (qs_sizes, .inl (cI, 4, .inl (fs_sizes)))] := ⟨hP.sub [2, 1, 0] rfl, hD.sub [2, 1, 0] (by decide) rfl⟩
                exact ih339 ((0 : Int32), z373) _ _ _ (show (60 - z373.toInt).toNat < (60 - x338.toInt).toNat by omega) ⟨(show 0 ≤ (0 : Int32).toInt ∧ (0 : Int32).toInt ≤ 1 by decide), (show 0 ≤ z373.toInt ∧ z373.toInt ≤ 60 by omega), (show hd_ok fs_numbers a1.toInt (0 : Int32).toInt z373.toInt by first | exact fun h => absurd h (by decide) | exact hd_step he0 (by omega) (by omega) hp_361 (by omega) _ _ (by omega)), ⟨hP9, hD9⟩, hS, lv_sub hl [0, 1, 3, 4] rfl⟩
              · have hq372 : x337.toInt ≠ 0 := tq_ne rfl (by decide) hc
                refine lv_iload hx hb dX7_refusalOfHeard_87 (lv_at hl 0 rfl) ?_
                refine lv_if_eq (tgt := 96) hx hb dX7_refusalOfHeard_89 (by decide) (fun _ => ?_) (fun hc => absurd hc (by decide))
                refine lv_iconst (v := 0) hx hb dX7_refusalOfHeard_96 (by decide) ?_
                refine lv_istore_n (lv' := [(2, .int 0), (4, .int 0), (3, .int x338), (0, .ref qs), (1, .int a1)]) hx hb dX7_refusalOfHeard_97 rfl hl (by decide) rfl (fun ls hl => ?_)
                obtain ⟨z375, ez375⟩ : ∃ z : Int32, z = x338 + 1 := ⟨_, rfl⟩
                have fz375 : z375.toInt = x338.toInt + 1 := by rw [ez375]; exact tq_add rfl (by decide) (by omega)
                refine lv_iinc (v := z375) (lv' := [(3, .int z375), (2, .int 0), (4, .int 0), (0, .ref qs), (1, .int a1)]) hx hb dX7_refusalOfHeard_98 hl (k := 2) rfl ez375.symm (by decide) rfl (fun ls hl => ?_)
                refine lv_goto (tgt := 40) hx hb dX7_refusalOfHeard_101 (by decide) ?_
                have hk376 : (0 : Int32).toInt = 0 := by decide
                obtain ⟨hP9, hD9⟩ : ct_B D A H [(qs_numbers, .inl (cJ, 240, .inr (.inl (fs_numbers)))), (qs, .inr (7, [.ref qs_widths, .ref qs_sizes, .ref qs_numbers])), (qs_sizes, .inl (cI, 4, .inl (fs_sizes)))] := ⟨hP.sub [2, 1, 0] rfl, hD.sub [2, 1, 0] (by decide) rfl⟩
                exact ih339 ((0 : Int32), z375) _ _ _ (show (60 - z375.toInt).toNat < (60 - x338.toInt).toNat by omega) ⟨(show 0 ≤ (0 : Int32).toInt ∧ (0 : Int32).toInt ≤ 1 by decide), (show 0 ≤ z375.toInt ∧ z375.toInt ≤ 60 by omega), (show hd_ok fs_numbers a1.toInt (0 : Int32).toInt z375.toInt by first | exact fun h => absurd h (by decide) | exact hd_step he0 (by omega) (by omega) hp_361 (by omega) _ _ (by omega)), ⟨hP9, hD9⟩, hS, lv_sub hl [0, 1, 3, 4] rfl⟩
    · subst hz
      refine lv_if_ne (tgt := 21) hx hb dX7_refusalOfHeard_15 (by decide) (fun hc => absurd hc (by decide)) (fun _ => ?_)
      refine lv_bipush (v := (-6)) hx hb dX7_refusalOfHeard_18 (by decide) ?_
      obtain ⟨hP9, hD9⟩ : ct_B D A H [(qs, .inr (7, [.ref qs_widths, .ref qs_sizes, .ref qs_numbers])), (qs_sizes, .inl (cI, 4, .inl (fs_sizes))), (qs_numbers, .inl (cJ, 240, .inr (.inl (fs_numbers))))] := ⟨hP.sub [1, 2, 0] rfl, hD.sub [1, 2, 0] (by decide) rfl⟩
      exact W.iret (v := (-6)) hx hb hr (fun t ht hW => ⟨⟨(-6), (), rfl, (Or.inr (Or.inl ⟨rfl, trivial⟩)), by rw [ht]; exact hP9, hD9⟩, hS.F ht⟩) hS.2.2 dX7_refusalOfHeard_20
  · subst hz
    have hz_377 : ¬ (0 ≤ a1.toInt ∧ a1.toInt < 4) := hz2
    refine lv_if_ne (tgt := 10) hx hb dX7_refusalOfHeard_4 (by decide) (fun hc => absurd hc (by decide)) (fun _ => ?_)
    refine lv_bipush (v := (-2)) hx hb dX7_refusalOfHeard_7 (by decide) ?_
    obtain ⟨hP9, hD9⟩ : ct_B D A H [(qs, .inr (7, [.ref qs_widths, .ref qs_sizes, .ref qs_numbers])), (qs_sizes, .inl (cI, 4, .inl (fs_sizes))), (qs_numbers, .inl (cJ, 240, .inr (.inl (fs_numbers))))] := ⟨hP.sub [0, 1, 2] rfl, hD.sub [0, 1, 2] (by decide) rfl⟩
    exact W.iret (v := (-2)) hx hb hr (fun t ht hW => ⟨⟨(-2), (), rfl, (Or.inr (Or.inr (⟨rfl, trivial⟩))), by rw [ht]; exact hP9, hD9⟩, hS.F ht⟩) hS.2.2 dX7_refusalOfHeard_9
