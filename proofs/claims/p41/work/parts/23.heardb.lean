abbrev w_c_X7_refusalOfHeard (cI cJ cB cZ cO : ClassId) (qs : Nat) (qs_widths : Nat) (qs_sizes : Nat) (fs_sizes : Nat → Int32) (qs_numbers : Nat) (fs_numbers : Nat → Int64) : va_W := [(qs, .inr (7, [.ref qs_widths, .ref qs_sizes, .ref qs_numbers])), (qs_sizes, .inl (cI, 4, .inl (fs_sizes))), (qs_numbers, .inl (cJ, 240, .inr (.inl (fs_numbers))))]
set_option maxHeartbeats 4000000 in
set_option maxRecDepth 100000 in
/-- X7 refusalOfHeard -/
theorem c_X7_refusalOfHeard (l : Launch) (D : va_G) (G : ct_G) (cI cJ cB cZ cO : ClassId) (qs : Nat) (qs_widths : Nat) (qs_sizes : Nat) (fs_sizes : Nat → Int32) (qs_numbers : Nat) (fs_numbers : Nat → Int64) (a1 : Int32) (h_fs_sizes : ar_ok [(-1)] [60] fs_sizes) (sz : Nat) : Met l yX7_refusalOfHeard wsX7_refusalOfHeard ({ frames := 2, cells := 0, slots := 0, locals := 46 }) (va_Pc [.ref qs, .int a1] (ct_P D (ct_T cI cJ cB cZ cO) G (w_c_X7_refusalOfHeard cI cJ cB cZ cO qs qs_widths qs_sizes fs_sizes qs_numbers fs_numbers) sz)) (va_Qi (fun (rz : Int32) (u : Unit) => ((rz = 0 ∧ (0 ≤ a1.toInt ∧ a1.toInt < 4) ∧ hd_ok fs_numbers a1.toInt 1 (fs_sizes a1.toNatClampNeg).toInt) ∨ (rz = (-6) ∧ True) ∨ (rz = (-2) ∧ True))) (fun (u : Unit) t => ct_Q D (va_A (w_c_X7_refusalOfHeard cI cJ cB cZ cO qs qs_widths qs_sizes fs_sizes qs_numbers fs_numbers) sz) [(qs, .inr (7, [.ref qs_widths, .ref qs_sizes, .ref qs_numbers])), (qs_sizes, .inl (cI, 4, .inl (fs_sizes))), (qs_numbers, .inl (cJ, 240, .inr (.inl (fs_numbers))))] t) (va_A (w_c_X7_refusalOfHeard cI cJ cB cZ cO qs qs_widths qs_sizes fs_sizes qs_numbers fs_numbers) sz)) 0 0 (va_A (w_c_X7_refusalOfHeard cI cJ cB cZ cO qs qs_widths qs_sizes fs_sizes qs_numbers fs_numbers) sz) := by
  refine Met.ofW (cc := cX7_refusalOfHeard) (maxL := 5) (ret := (some .int)) (by decide) rfl ?_
  intro p e s m args below meth c s₁ B hml hv
  obtain ⟨rfl, hsz, hP, hE, hD0, hH⟩ := hv
  have hx := B.exec
  have hb := B.bytes
  have hr := B.returns
  have hts := atoms_spec (ws := wsX7_refusalOfHeard) B.pre
  have hown : s.vm.findClass RX7 = some m.cls := findClass_of_methodNamed B.named
  have hlocks := B.notSynchronized
  have hK := hE.1
  have hi7 : ∀ w ∈ u_ws RX7 TX7 3, w ∈ wsX7_refusalOfHeard := fun w h => List.mem_cons_of_mem _ (List.mem_append_right _ h)
  subst hsz
  have hD := hD0.self (sz := s.heap.size)
  generalize hAe : va_A (w_c_X7_refusalOfHeard cI cJ cB cZ cO qs qs_widths qs_sizes fs_sizes qs_numbers fs_numbers) s.heap.size = A at hD hH ⊢
  have hA : ∀ q : Nat, s.heap.size ≤ q → A q := fun q h => by rw [← hAe]; exact Or.inr h
  have hS : va_S A s.heap s.heap [] := va_S.rf
  obtain ⟨hP, hD⟩ : ct_B D A s.heap [(qs, .inr (7, [.ref qs_widths, .ref qs_sizes, .ref qs_numbers])), (qs_sizes, .inl (cI, 4, .inl (fs_sizes))), (qs_numbers, .inl (cJ, 240, .inr (.inl (fs_numbers))))] := ⟨hP, hD⟩
  have hl := lv_entry ([.ref qs, .int a1]) (n := 5) (Nat.le_of_ble_eq_true rfl)
  rw [lg_entry_eq]
  generalize (lg_sl ([.ref qs, .int a1]) ++ List.replicate (5 - (lg_sl ([.ref qs, .int a1])).length) Slot.unset).toArray = ls at hl ⊢
  have hl : lv_has ls 5 [(0, .ref qs), (1, .int a1)] := hl
  obtain ⟨H, hHe⟩ : ∃ H : Heap, H = s.heap := ⟨_, rfl⟩
  rw [← hHe] at hP
  have hS : va_S A s.heap H [] := by rw [hHe]; exact va_S.rf
  refine ct_start hHe ?_
  refine lv_iload_n hx hb dX7_refusalOfHeard_0 rfl (lv_at hl 1 rfl) ?_
  refine ct_calli (D := D) (wr := [(qs, .inr (7, [.ref qs_widths, .ref qs_sizes, .ref qs_numbers])), (qs_sizes, .inl (cI, 4, .inl (fs_sizes))), (qs_numbers, .inl (cJ, 240, .inr (.inl (fs_numbers))))]) (va_runS (As := [.int a1]) (rest := []) ⟨hx, hb, hml, hown, hts⟩ (c_X7_isSlot l D G cI cJ cB cZ cO a1  H.size) (va_cwS 1 hts gX7_refusalOfHeard_X7_isSlot rfl rfl rfl (by decide +kernel) ⟨Nat.le_of_ble_eq_true rfl, Nat.le_of_ble_eq_true rfl⟩) (ct_preS (T := ct_T cI cJ cB cZ cO) hE hH hP hD hS hA [] (by decide) rfl) rfl rfl hl.1 rfl (lv_room (Nat.le_of_ble_eq_true rfl)) dX7_refusalOfHeard_1 ⟨Nat.le_of_ble_eq_true rfl, Nat.le_of_ble_eq_true rfl⟩) hP hD hS hA [] [0, 1, 2] rfl rfl (by decide) (by decide) (fun r1 u H locs hw hP hD hS => ?_)
  obtain ⟨hP, hD⟩ : ct_B D A H [(qs, .inr (7, [.ref qs_widths, .ref qs_sizes, .ref qs_numbers])), (qs_sizes, .inl (cI, 4, .inl (fs_sizes))), (qs_numbers, .inl (cJ, 240, .inr (.inl (fs_numbers))))] := ⟨hP, hD⟩
  have hz := hw
  rcases hz with ⟨hz, hz2⟩ | ⟨hz, hz2⟩
  · subst hz
    have hz_2 : (0 ≤ a1.toInt ∧ a1.toInt < 4) := hz2
    refine lv_if_ne (tgt := 10) hx hb dX7_refusalOfHeard_4 (by decide) (fun _ => ?_) (fun hc => absurd hc (by decide))
    refine lv_aload_n hx hb dX7_refusalOfHeard_10 rfl (lv_at hl 0 rfl) ?_
    refine lv_iload_n hx hb dX7_refusalOfHeard_11 rfl (lv_at hl 1 rfl) ?_
    refine ct_calli (D := D) (wr := [(qs_numbers, .inl (cJ, 240, .inr (.inl (fs_numbers))))]) (va_runV (As := [.int a1]) (rest := []) ⟨hx, hb, hml, hown, hts⟩ (c_X7_has l D G cI cJ cB cZ cO qs qs_widths qs_sizes fs_sizes qs_numbers a1 h_fs_sizes (by omega) H.size) (cwV 1 hts gX7_refusalOfHeard_X7_has rfl rfl rfl (by decide +kernel) ⟨Nat.le_of_ble_eq_true rfl, Nat.le_of_ble_eq_true rfl⟩) (ct_preV (T := ct_T cI cJ cB cZ cO) (ci := 7) (q0 := 0) hE hH hP hD hS hA [0, 1] (by decide) rfl rfl rfl) rfl rfl hl.1 rfl (lv_room (Nat.le_of_ble_eq_true rfl)) dX7_refusalOfHeard_12 ⟨Nat.le_of_ble_eq_true rfl, Nat.le_of_ble_eq_true rfl⟩) hP hD hS hA [0, 1] [2] rfl rfl (by decide) (by decide) (fun r3 u H locs hw hP hD hS => ?_)
    obtain ⟨hP, hD⟩ : ct_B D A H [(qs_numbers, .inl (cJ, 240, .inr (.inl (fs_numbers)))), (qs, .inr (7, [.ref qs_widths, .ref qs_sizes, .ref qs_numbers])), (qs_sizes, .inl (cI, 4, .inl (fs_sizes)))] := ⟨hP, hD⟩
    have hz := hw
    rcases hz with ⟨hz, hz2⟩ | ⟨hz, hz2⟩
    · subst hz
      have hz_4 : ((fs_sizes a1.toNatClampNeg).toInt ≠ -1) := hz2
      refine lv_if_ne (tgt := 21) hx hb dX7_refusalOfHeard_15 (by decide) (fun _ => ?_) (fun hc => absurd hc (by decide))
      refine lv_aload_n hx hb dX7_refusalOfHeard_21 rfl (lv_at hl 0 rfl) ?_
      refine va_get (D := D) (ci := 7) (v := .ref qs_sizes) (C := RX7) (T := TX7) (N := 3) hx hb hts hi7 hown hK hP 1 rfl rfl 1 (by decide) (hts (.fieldLink RX7 15 "OverHill$Slots" "sizes" "[I") (by decide +kernel)) (fun _ h9 => h9) rfl dX7_refusalOfHeard_22 ?_
      refine lv_iload_n hx hb dX7_refusalOfHeard_25 rfl (lv_at hl 1 rfl) ?_
      refine va_iald (D := D) hx hb hK hP 2 0 rfl rfl (tq_in rfl (by omega)) dX7_refusalOfHeard_26 ?_
      refine lv_topi (fun z5 ez5 => ?_)
      have fz5 : (-1) ≤ z5.toInt ∧ z5.toInt ≤ 60 := by rw [ez5]; exact ar_get h_fs_sizes a1 0 (by omega) (show a1.toInt % 1 = 0 by omega) rfl
      refine lv_iconst (v := 2) hx hb dX7_refusalOfHeard_27 (by decide) ?_
      refine lv_irem hx hb dX7_refusalOfHeard_28 (by decide) ?_
      refine lv_topi (fun z6 ez6 => ?_)
      have fz6 : -2 < z6.toInt ∧ z6.toInt < 2 := by rw [ez6]; exact tq_rema rfl (by decide) (by omega)
      refine lv_if_ne (tgt := 36) hx hb dX7_refusalOfHeard_29 (by decide) (fun hc => ?_) (fun hc => ?_)
      · have hq7 : z6.toInt ≠ 0 := tq_ne rfl (by decide) hc
        refine lv_iconst (v := 0) hx hb dX7_refusalOfHeard_36 (by decide) ?_
        refine lv_istore_n (lv' := [(2, .int 0), (0, .ref qs), (1, .int a1)]) hx hb dX7_refusalOfHeard_37 rfl hl (by decide) rfl (fun ls hl => ?_)
        refine lv_iconst (v := 0) hx hb dX7_refusalOfHeard_38 (by decide) ?_
        refine lv_istore_n (lv' := [(3, .int 0), (2, .int 0), (0, .ref qs), (1, .int a1)]) hx hb dX7_refusalOfHeard_39 rfl hl (by decide) rfl (fun ls hl => ?_)
        refine ct_loop (X := Int32) (fun x => (60 - x.toInt).toNat) (fun x H locs ls => ((0 ≤ x.toInt ∧ x.toInt ≤ 60)) ∧ (hd_ok fs_numbers a1.toInt 0 x.toInt) ∧ ct_B D A H [(qs_numbers, .inl (cJ, 240, .inr (.inl (fs_numbers)))), (qs, .inr (7, [.ref qs_widths, .ref qs_sizes, .ref qs_numbers])), (qs_sizes, .inl (cI, 4, .inl (fs_sizes)))] ∧ va_S A s.heap H locs ∧ lv_has ls 5 [(3, .int x), (2, .int 0), (0, .ref qs), (1, .int a1)]) 40 (0 : Int32) ⟨(show 0 ≤ (0 : Int32).toInt ∧ (0 : Int32).toInt ≤ 60 by decide), (show hd_ok fs_numbers a1.toInt 0 (0 : Int32).toInt by exact fun _ k hk => absurd hk (by have h0 : (0 : Int32).toInt = 0 := (by decide); omega)), ⟨hP, hD⟩, hS, lv_sub hl [0, 1, 2, 3] rfl⟩ (fun x ih133 H locs ls hI => ?_)
        obtain ⟨x132, rfl⟩ : ∃ z, z = x := ⟨_, rfl⟩
        obtain ⟨h_x132, he0, ⟨hP, hD⟩, hS, hl⟩ := hI
        have h_x132 : (0 ≤ x132.toInt ∧ x132.toInt ≤ 60) := h_x132
        have he0 : hd_ok fs_numbers a1.toInt 0 x132.toInt := he0
        obtain ⟨hP, hD⟩ : ct_B D A H [(qs_numbers, .inl (cJ, 240, .inr (.inl (fs_numbers)))), (qs, .inr (7, [.ref qs_widths, .ref qs_sizes, .ref qs_numbers])), (qs_sizes, .inl (cI, 4, .inl (fs_sizes)))] := ⟨hP, hD⟩
        have hl : lv_has ls 5 [(3, .int x132), (2, .int 0), (0, .ref qs), (1, .int a1)] := hl
        refine lv_iload_n hx hb dX7_refusalOfHeard_40 rfl (lv_at hl 0 rfl) ?_
        refine lv_aload_n hx hb dX7_refusalOfHeard_41 rfl (lv_at hl 2 rfl) ?_
        refine va_get (D := D) (ci := 7) (v := .ref qs_sizes) (C := RX7) (T := TX7) (N := 3) hx hb hts hi7 hown hK hP 1 rfl rfl 1 (by decide) (hts (.fieldLink RX7 15 "OverHill$Slots" "sizes" "[I") (by decide +kernel)) (fun _ h9 => h9) rfl dX7_refusalOfHeard_42 ?_
        refine lv_iload_n hx hb dX7_refusalOfHeard_45 rfl (lv_at hl 3 rfl) ?_
        refine va_iald (D := D) hx hb hK hP 2 0 rfl rfl (tq_in rfl (by omega)) dX7_refusalOfHeard_46 ?_
        refine lv_topi (fun z134 ez134 => ?_)
        have qz134 : z134.toInt = z5.toInt := by rw [ez134, ez5]
        have fz134 : (-1) ≤ z134.toInt ∧ z134.toInt ≤ 60 := by rw [ez134]; exact ar_get h_fs_sizes a1 0 (by omega) (show a1.toInt % 1 = 0 by omega) rfl
        refine lv_icmp_ge (tgt := 104) hx hb dX7_refusalOfHeard_47 (by decide) (fun hc => ?_) (fun hc => ?_)
        · have hq135 : z134.toInt ≤ x132.toInt := tq_le rfl rfl hc
          refine lv_iload_n hx hb dX7_refusalOfHeard_104 rfl (lv_at hl 1 rfl) ?_
          refine lv_if_eq (tgt := 112) hx hb dX7_refusalOfHeard_105 (by decide) (fun _ => ?_) (fun hc => absurd hc (by decide))
          refine lv_bipush (v := (-2)) hx hb dX7_refusalOfHeard_112 (by decide) ?_
          obtain ⟨hP9, hD9⟩ : ct_B D A H [(qs, .inr (7, [.ref qs_widths, .ref qs_sizes, .ref qs_numbers])), (qs_sizes, .inl (cI, 4, .inl (fs_sizes))), (qs_numbers, .inl (cJ, 240, .inr (.inl (fs_numbers))))] := ⟨hP.sub [1, 2, 0] rfl, hD.sub [1, 2, 0] (by decide) rfl⟩
          exact W.iret (v := (-2)) hx hb hr (fun t ht hW => ⟨⟨(-2), (), rfl, (Or.inr (Or.inr (⟨rfl, trivial⟩))), by rw [ht]; exact hP9, hD9⟩, hS.F ht⟩) hS.2.2 dX7_refusalOfHeard_114
        · have hq135 : x132.toInt < z134.toInt := tq_nle rfl rfl hc
          refine lv_iload_n hx hb dX7_refusalOfHeard_50 rfl (lv_at hl 0 rfl) ?_
          refine lv_iconst (v := 2) hx hb dX7_refusalOfHeard_51 (by decide) ?_
          refine lv_irem hx hb dX7_refusalOfHeard_52 (by decide) ?_
          refine lv_topi (fun z136 ez136 => ?_)
          have fz136 : z136.toInt = x132.toInt % 2 := by rw [ez136]; exact tq_remc (c := 2) rfl (by decide) (by omega) (by omega)
          refine lv_if_ne (tgt := 72) hx hb dX7_refusalOfHeard_53 (by decide) (fun hc => ?_) (fun hc => ?_)
          · have hq137 : z136.toInt ≠ 0 := tq_ne rfl (by decide) hc
            refine lv_aload_n hx hb dX7_refusalOfHeard_72 rfl (lv_at hl 2 rfl) ?_
            refine lv_iload_n hx hb dX7_refusalOfHeard_73 rfl (lv_at hl 3 rfl) ?_
            refine lv_iload_n hx hb dX7_refusalOfHeard_74 rfl (lv_at hl 0 rfl) ?_
            refine ct_calll (D := D) (wr := [(qs_sizes, .inl (cI, 4, .inl (fs_sizes)))]) (va_runV (As := [.int a1, .int x132]) (rest := []) ⟨hx, hb, hml, hown, hts⟩ (c_X7_at l D G cI cJ cB cZ cO qs qs_widths qs_sizes qs_numbers fs_numbers a1 x132 (by omega) (by omega) H.size) (cwV 2 hts gX7_refusalOfHeard_X7_at rfl rfl rfl (by decide +kernel) ⟨Nat.le_of_ble_eq_true rfl, Nat.le_of_ble_eq_true rfl⟩) (ct_preV (T := ct_T cI cJ cB cZ cO) (ci := 7) (q0 := 1) hE hH hP hD hS hA [1, 0] (by decide) rfl rfl rfl) rfl rfl hl.1 rfl (lv_room (Nat.le_of_ble_eq_true rfl)) dX7_refusalOfHeard_75 ⟨Nat.le_of_ble_eq_true rfl, Nat.le_of_ble_eq_true rfl⟩) hP hD hS hA [1, 0] [2] rfl rfl (by decide) (by decide) (fun r138 u H locs hw hP hD hS => ?_)
            obtain ⟨hP, hD⟩ : ct_B D A H [(qs_sizes, .inl (cI, 4, .inl (fs_sizes))), (qs, .inr (7, [.ref qs_widths, .ref qs_sizes, .ref qs_numbers])), (qs_numbers, .inl (cJ, 240, .inr (.inl (fs_numbers))))] := ⟨hP, hD⟩
            have hp0 := hw
            have hp_139 : r138 = fs_numbers (60 * a1.toInt + x132.toInt).toNat := hp0
            refine ct_calli (D := D) (wr := [(qs_sizes, .inl (cI, 4, .inl (fs_sizes))), (qs, .inr (7, [.ref qs_widths, .ref qs_sizes, .ref qs_numbers])), (qs_numbers, .inl (cJ, 240, .inr (.inl (fs_numbers))))]) (va_runS (As := [.long r138]) (rest := []) ⟨hx, hb, hml, hown, hts⟩ (c_X7_isTold l D G cI cJ cB cZ cO r138  H.size) (va_cwS 1 hts gX7_refusalOfHeard_X7_isTold rfl rfl rfl (by decide +kernel) ⟨Nat.le_of_ble_eq_true rfl, Nat.le_of_ble_eq_true rfl⟩) (ct_preS (T := ct_T cI cJ cB cZ cO) hE hH hP hD hS hA [] (by decide) rfl) rfl rfl hl.1 rfl (lv_room (Nat.le_of_ble_eq_true rfl)) dX7_refusalOfHeard_78 ⟨Nat.le_of_ble_eq_true rfl, Nat.le_of_ble_eq_true rfl⟩) hP hD hS hA [] [0, 1, 2] rfl rfl (by decide) (by decide) (fun r140 u H locs hw hP hD hS => ?_)
            obtain ⟨hP, hD⟩ : ct_B D A H [(qs_sizes, .inl (cI, 4, .inl (fs_sizes))), (qs, .inr (7, [.ref qs_widths, .ref qs_sizes, .ref qs_numbers])), (qs_numbers, .inl (cJ, 240, .inr (.inl (fs_numbers))))] := ⟨hP, hD⟩
            have hz := hw
            rcases hz with ⟨hz, hz2⟩ | ⟨hz, hz2⟩
            · subst hz
              have hz_141 : (-1 ≤ r138.toInt ∧ r138.toInt ≤ 5) := hz2
              refine lv_istore (lv' := [(4, .int 1), (3, .int x132), (2, .int 0), (0, .ref qs), (1, .int a1)]) hx hb dX7_refusalOfHeard_81 hl (by decide) rfl (fun ls hl => ?_)
              refine lv_iload_n hx hb dX7_refusalOfHeard_83 rfl (lv_at hl 2 rfl) ?_
              refine lv_if_eq (tgt := 96) hx hb dX7_refusalOfHeard_84 (by decide) (fun _ => ?_) (fun hc => absurd hc (by decide))
              refine lv_iconst (v := 0) hx hb dX7_refusalOfHeard_96 (by decide) ?_
              refine lv_istore_n (lv' := [(2, .int 0), (4, .int 1), (3, .int x132), (0, .ref qs), (1, .int a1)]) hx hb dX7_refusalOfHeard_97 rfl hl (by decide) rfl (fun ls hl => ?_)
              obtain ⟨z142, ez142⟩ : ∃ z : Int32, z = x132 + 1 := ⟨_, rfl⟩
              have fz142 : z142.toInt = x132.toInt + 1 := by rw [ez142]; exact tq_add rfl (by decide) (by omega)
              refine lv_iinc (v := z142) (lv' := [(3, .int z142), (2, .int 0), (4, .int 1), (0, .ref qs), (1, .int a1)]) hx hb dX7_refusalOfHeard_98 hl (k := 2) rfl ez142.symm (by decide) rfl (fun ls hl => ?_)
              refine lv_goto (tgt := 40) hx hb dX7_refusalOfHeard_101 (by decide) ?_
              obtain ⟨hP9, hD9⟩ : ct_B D A H [(qs_numbers, .inl (cJ, 240, .inr (.inl (fs_numbers)))), (qs, .inr (7, [.ref qs_widths, .ref qs_sizes, .ref qs_numbers])), (qs_sizes, .inl (cI, 4, .inl (fs_sizes)))] := ⟨hP.sub [2, 1, 0] rfl, hD.sub [2, 1, 0] (by decide) rfl⟩
              exact ih133 z142 _ _ _ (show (60 - z142.toInt).toNat < (60 - x132.toInt).toNat by omega) ⟨(show 0 ≤ z142.toInt ∧ z142.toInt ≤ 60 by omega), (show hd_ok fs_numbers a1.toInt 0 z142.toInt by first | exact fun h => absurd h (by decide) | exact hd_step he0 (by omega) (by omega) hp_139 (by omega) _ _ (by omega)), ⟨hP9, hD9⟩, hS, lv_sub hl [0, 1, 3, 4] rfl⟩
            · subst hz
              have hz_143 : ¬ (-1 ≤ r138.toInt ∧ r138.toInt ≤ 5) := hz2
              refine lv_istore (lv' := [(4, .int 0), (3, .int x132), (2, .int 0), (0, .ref qs), (1, .int a1)]) hx hb dX7_refusalOfHeard_81 hl (by decide) rfl (fun ls hl => ?_)
              refine lv_iload_n hx hb dX7_refusalOfHeard_83 rfl (lv_at hl 2 rfl) ?_
              refine lv_if_eq (tgt := 96) hx hb dX7_refusalOfHeard_84 (by decide) (fun _ => ?_) (fun hc => absurd hc (by decide))
              refine lv_iconst (v := 0) hx hb dX7_refusalOfHeard_96 (by decide) ?_
              refine lv_istore_n (lv' := [(2, .int 0), (4, .int 0), (3, .int x132), (0, .ref qs), (1, .int a1)]) hx hb dX7_refusalOfHeard_97 rfl hl (by decide) rfl (fun ls hl => ?_)
              obtain ⟨z144, ez144⟩ : ∃ z : Int32, z = x132 + 1 := ⟨_, rfl⟩
              have fz144 : z144.toInt = x132.toInt + 1 := by rw [ez144]; exact tq_add rfl (by decide) (by omega)
              refine lv_iinc (v := z144) (lv' := [(3, .int z144), (2, .int 0), (4, .int 0), (0, .ref qs), (1, .int a1)]) hx hb dX7_refusalOfHeard_98 hl (k := 2) rfl ez144.symm (by decide) rfl (fun ls hl => ?_)
              refine lv_goto (tgt := 40) hx hb dX7_refusalOfHeard_101 (by decide) ?_
              obtain ⟨hP9, hD9⟩ : ct_B D A H [(qs_numbers, .inl (cJ, 240, .inr (.inl (fs_numbers)))), (qs, .inr (7, [.ref qs_widths, .ref qs_sizes, .ref qs_numbers])), (qs_sizes, .inl (cI, 4, .inl (fs_sizes)))] := ⟨hP.sub [2, 1, 0] rfl, hD.sub [2, 1, 0] (by decide) rfl⟩
              exact ih133 z144 _ _ _ (show (60 - z144.toInt).toNat < (60 - x132.toInt).toNat by omega) ⟨(show 0 ≤ z144.toInt ∧ z144.toInt ≤ 60 by omega), (show hd_ok fs_numbers a1.toInt 0 z144.toInt by first | exact fun h => absurd h (by decide) | exact hd_step he0 (by omega) (by omega) hp_139 (by omega) _ _ (by omega)), ⟨hP9, hD9⟩, hS, lv_sub hl [0, 1, 3, 4] rfl⟩
          · have hq137 : z136.toInt = 0 := tq_eq rfl (by decide) hc
            refine lv_aload_n hx hb dX7_refusalOfHeard_56 rfl (lv_at hl 2 rfl) ?_
            refine lv_iload_n hx hb dX7_refusalOfHeard_57 rfl (lv_at hl 3 rfl) ?_
            refine lv_iload_n hx hb dX7_refusalOfHeard_58 rfl (lv_at hl 0 rfl) ?_
            refine ct_calll (D := D) (wr := [(qs_sizes, .inl (cI, 4, .inl (fs_sizes)))]) (va_runV (As := [.int a1, .int x132]) (rest := []) ⟨hx, hb, hml, hown, hts⟩ (c_X7_at l D G cI cJ cB cZ cO qs qs_widths qs_sizes qs_numbers fs_numbers a1 x132 (by omega) (by omega) H.size) (cwV 2 hts gX7_refusalOfHeard_X7_at rfl rfl rfl (by decide +kernel) ⟨Nat.le_of_ble_eq_true rfl, Nat.le_of_ble_eq_true rfl⟩) (ct_preV (T := ct_T cI cJ cB cZ cO) (ci := 7) (q0 := 1) hE hH hP hD hS hA [1, 0] (by decide) rfl rfl rfl) rfl rfl hl.1 rfl (lv_room (Nat.le_of_ble_eq_true rfl)) dX7_refusalOfHeard_59 ⟨Nat.le_of_ble_eq_true rfl, Nat.le_of_ble_eq_true rfl⟩) hP hD hS hA [1, 0] [2] rfl rfl (by decide) (by decide) (fun r145 u H locs hw hP hD hS => ?_)
            obtain ⟨hP, hD⟩ : ct_B D A H [(qs_sizes, .inl (cI, 4, .inl (fs_sizes))), (qs, .inr (7, [.ref qs_widths, .ref qs_sizes, .ref qs_numbers])), (qs_numbers, .inl (cJ, 240, .inr (.inl (fs_numbers))))] := ⟨hP, hD⟩
            have hp0 := hw
            have hp_146 : r145 = fs_numbers (60 * a1.toInt + x132.toInt).toNat := hp0
            refine lv_lconst (v := 0) hx hb dX7_refusalOfHeard_62 (by decide) ?_
            refine lv_ldc2 (v := 199) hx hb hown (hts (.constantLong RX7 47 (199)) (by decide +kernel)) dX7_refusalOfHeard_63 ?_
            refine ct_calli (D := D) (wr := [(qs_sizes, .inl (cI, 4, .inl (fs_sizes))), (qs, .inr (7, [.ref qs_widths, .ref qs_sizes, .ref qs_numbers])), (qs_numbers, .inl (cJ, 240, .inr (.inl (fs_numbers))))]) (va_runS (As := [.long r145, .long 0, .long 199]) (rest := []) ⟨hx, hb, hml, hown, hts⟩ (c_X7_isBetween l D G cI cJ cB cZ cO r145 0 199  H.size) (va_cwS 3 hts gX7_refusalOfHeard_X7_isBetween rfl rfl rfl (by decide +kernel) ⟨Nat.le_of_ble_eq_true rfl, Nat.le_of_ble_eq_true rfl⟩) (ct_preS (T := ct_T cI cJ cB cZ cO) hE hH hP hD hS hA [] (by decide) rfl) rfl rfl hl.1 rfl (lv_room (Nat.le_of_ble_eq_true rfl)) dX7_refusalOfHeard_66 ⟨Nat.le_of_ble_eq_true rfl, Nat.le_of_ble_eq_true rfl⟩) hP hD hS hA [] [0, 1, 2] rfl rfl (by decide) (by decide) (fun r147 u H locs hw hP hD hS => ?_)
            obtain ⟨hP, hD⟩ : ct_B D A H [(qs_sizes, .inl (cI, 4, .inl (fs_sizes))), (qs, .inr (7, [.ref qs_widths, .ref qs_sizes, .ref qs_numbers])), (qs_numbers, .inl (cJ, 240, .inr (.inl (fs_numbers))))] := ⟨hP, hD⟩
            have hk148 : (0 : Int64).toInt = 0 := by decide
            have hk149 : (199 : Int64).toInt = 199 := by decide
            have hz := hw
            rcases hz with ⟨hz, hz2⟩ | ⟨hz, hz2⟩
            · subst hz
              have hz_150 : ((0 : Int64).toInt ≤ r145.toInt ∧ r145.toInt ≤ (199 : Int64).toInt) := hz2
              refine lv_goto (tgt := 81) hx hb dX7_refusalOfHeard_69 (by decide) ?_
              refine lv_istore (lv' := [(4, .int 1), (3, .int x132), (2, .int 0), (0, .ref qs), (1, .int a1)]) hx hb dX7_refusalOfHeard_81 hl (by decide) rfl (fun ls hl => ?_)
              refine lv_iload_n hx hb dX7_refusalOfHeard_83 rfl (lv_at hl 2 rfl) ?_
              refine lv_if_eq (tgt := 96) hx hb dX7_refusalOfHeard_84 (by decide) (fun _ => ?_) (fun hc => absurd hc (by decide))
              refine lv_iconst (v := 0) hx hb dX7_refusalOfHeard_96 (by decide) ?_
              refine lv_istore_n (lv' := [(2, .int 0), (4, .int 1), (3, .int x132), (0, .ref qs), (1, .int a1)]) hx hb dX7_refusalOfHeard_97 rfl hl (by decide) rfl (fun ls hl => ?_)
              obtain ⟨z151, ez151⟩ : ∃ z : Int32, z = x132 + 1 := ⟨_, rfl⟩
              have fz151 : z151.toInt = x132.toInt + 1 := by rw [ez151]; exact tq_add rfl (by decide) (by omega)
              refine lv_iinc (v := z151) (lv' := [(3, .int z151), (2, .int 0), (4, .int 1), (0, .ref qs), (1, .int a1)]) hx hb dX7_refusalOfHeard_98 hl (k := 2) rfl ez151.symm (by decide) rfl (fun ls hl => ?_)
              refine lv_goto (tgt := 40) hx hb dX7_refusalOfHeard_101 (by decide) ?_
              obtain ⟨hP9, hD9⟩ : ct_B D A H [(qs_numbers, .inl (cJ, 240, .inr (.inl (fs_numbers)))), (qs, .inr (7, [.ref qs_widths, .ref qs_sizes, .ref qs_numbers])), (qs_sizes, .inl (cI, 4, .inl (fs_sizes)))] := ⟨hP.sub [2, 1, 0] rfl, hD.sub [2, 1, 0] (by decide) rfl⟩
              exact ih133 z151 _ _ _ (show (60 - z151.toInt).toNat < (60 - x132.toInt).toNat by omega) ⟨(show 0 ≤ z151.toInt ∧ z151.toInt ≤ 60 by omega), (show hd_ok fs_numbers a1.toInt 0 z151.toInt by first | exact fun h => absurd h (by decide) | exact hd_step he0 (by omega) (by omega) hp_146 (by omega) _ _ (by omega)), ⟨hP9, hD9⟩, hS, lv_sub hl [0, 1, 3, 4] rfl⟩
            · subst hz
              have hz_152 : ¬ ((0 : Int64).toInt ≤ r145.toInt ∧ r145.toInt ≤ (199 : Int64).toInt) := hz2
              refine lv_goto (tgt := 81) hx hb dX7_refusalOfHeard_69 (by decide) ?_
              refine lv_istore (lv' := [(4, .int 0), (3, .int x132), (2, .int 0), (0, .ref qs), (1, .int a1)]) hx hb dX7_refusalOfHeard_81 hl (by decide) rfl (fun ls hl => ?_)
              refine lv_iload_n hx hb dX7_refusalOfHeard_83 rfl (lv_at hl 2 rfl) ?_
              refine lv_if_eq (tgt := 96) hx hb dX7_refusalOfHeard_84 (by decide) (fun _ => ?_) (fun hc => absurd hc (by decide))
              refine lv_iconst (v := 0) hx hb dX7_refusalOfHeard_96 (by decide) ?_
              refine lv_istore_n (lv' := [(2, .int 0), (4, .int 0), (3, .int x132), (0, .ref qs), (1, .int a1)]) hx hb dX7_refusalOfHeard_97 rfl hl (by decide) rfl (fun ls hl => ?_)
              obtain ⟨z153, ez153⟩ : ∃ z : Int32, z = x132 + 1 := ⟨_, rfl⟩
              have fz153 : z153.toInt = x132.toInt + 1 := by rw [ez153]; exact tq_add rfl (by decide) (by omega)
              refine lv_iinc (v := z153) (lv' := [(3, .int z153), (2, .int 0), (4, .int 0), (0, .ref qs), (1, .int a1)]) hx hb dX7_refusalOfHeard_98 hl (k := 2) rfl ez153.symm (by decide) rfl (fun ls hl => ?_)
              refine lv_goto (tgt := 40) hx hb dX7_refusalOfHeard_101 (by decide) ?_
              obtain ⟨hP9, hD9⟩ : ct_B D A H [(qs_numbers, .inl (cJ, 240, .inr (.inl (fs_numbers)))), (qs, .inr (7, [.ref qs_widths, .ref qs_sizes, .ref qs_numbers])), (qs_sizes, .inl (cI, 4, .inl (fs_sizes)))] := ⟨hP.sub [2, 1, 0] rfl, hD.sub [2, 1, 0] (by decide) rfl⟩
              exact ih133 z153 _ _ _ (show (60 - z153.toInt).toNat < (60 - x132.toInt).toNat by omega) ⟨(show 0 ≤ z153.toInt ∧ z153.toInt ≤ 60 by omega), (show hd_ok fs_numbers a1.toInt 0 z153.toInt by first | exact fun h => absurd h (by decide) | exact hd_step he0 (by omega) (by omega) hp_146 (by omega) _ _ (by omega)), ⟨hP9, hD9⟩, hS, lv_sub hl [0, 1, 3, 4] rfl⟩
      · have hq7 : z6.toInt = 0 := tq_eq rfl (by decide) hc
        refine lv_iconst (v := 1) hx hb dX7_refusalOfHeard_32 (by decide) ?_
        refine lv_goto (tgt := 37) hx hb dX7_refusalOfHeard_33 (by decide) ?_
        refine lv_istore_n (lv' := [(2, .int 1), (0, .ref qs), (1, .int a1)]) hx hb dX7_refusalOfHeard_37 rfl hl (by decide) rfl (fun ls hl => ?_)
        refine lv_iconst (v := 0) hx hb dX7_refusalOfHeard_38 (by decide) ?_
        refine lv_istore_n (lv' := [(3, .int 0), (2, .int 1), (0, .ref qs), (1, .int a1)]) hx hb dX7_refusalOfHeard_39 rfl hl (by decide) rfl (fun ls hl => ?_)
        refine ct_loop (X := Int32 × Int32) (fun x => (60 - x.2.toInt).toNat) (fun x H locs ls => ((0 ≤ x.1.toInt ∧ x.1.toInt ≤ 1)) ∧ ((0 ≤ x.2.toInt ∧ x.2.toInt ≤ 60)) ∧ (hd_ok fs_numbers a1.toInt x.1.toInt x.2.toInt) ∧ ct_B D A H [(qs_numbers, .inl (cJ, 240, .inr (.inl (fs_numbers)))), (qs, .inr (7, [.ref qs_widths, .ref qs_sizes, .ref qs_numbers])), (qs_sizes, .inl (cI, 4, .inl (fs_sizes)))] ∧ va_S A s.heap H locs ∧ lv_has ls 5 [(3, .int x.2), (2, .int x.1), (0, .ref qs), (1, .int a1)]) 40 ((1 : Int32), (0 : Int32)) ⟨(show 0 ≤ (1 : Int32).toInt ∧ (1 : Int32).toInt ≤ 1 by decide), (show 0 ≤ (0 : Int32).toInt ∧ (0 : Int32).toInt ≤ 60 by decide), (show hd_ok fs_numbers a1.toInt (1 : Int32).toInt (0 : Int32).toInt by exact fun _ k hk => absurd hk (by have h0 : (0 : Int32).toInt = 0 := (by decide); omega)), ⟨hP, hD⟩, hS, lv_sub hl [0, 1, 2, 3] rfl⟩ (fun x ih340 H locs ls hI => ?_)
        obtain ⟨x338, x339⟩ := x
        obtain ⟨h_x338, h_x339, he0, ⟨hP, hD⟩, hS, hl⟩ := hI
        have h_x338 : (0 ≤ x338.toInt ∧ x338.toInt ≤ 1) := h_x338
        have h_x339 : (0 ≤ x339.toInt ∧ x339.toInt ≤ 60) := h_x339
        have he0 : hd_ok fs_numbers a1.toInt x338.toInt x339.toInt := he0
        obtain ⟨hP, hD⟩ : ct_B D A H [(qs_numbers, .inl (cJ, 240, .inr (.inl (fs_numbers)))), (qs, .inr (7, [.ref qs_widths, .ref qs_sizes, .ref qs_numbers])), (qs_sizes, .inl (cI, 4, .inl (fs_sizes)))] := ⟨hP, hD⟩
        have hl : lv_has ls 5 [(3, .int x339), (2, .int x338), (0, .ref qs), (1, .int a1)] := hl
        refine lv_iload_n hx hb dX7_refusalOfHeard_40 rfl (lv_at hl 0 rfl) ?_
        refine lv_aload_n hx hb dX7_refusalOfHeard_41 rfl (lv_at hl 2 rfl) ?_
        refine va_get (D := D) (ci := 7) (v := .ref qs_sizes) (C := RX7) (T := TX7) (N := 3) hx hb hts hi7 hown hK hP 1 rfl rfl 1 (by decide) (hts (.fieldLink RX7 15 "OverHill$Slots" "sizes" "[I") (by decide +kernel)) (fun _ h9 => h9) rfl dX7_refusalOfHeard_42 ?_
        refine lv_iload_n hx hb dX7_refusalOfHeard_45 rfl (lv_at hl 3 rfl) ?_
        refine va_iald (D := D) hx hb hK hP 2 0 rfl rfl (tq_in rfl (by omega)) dX7_refusalOfHeard_46 ?_
        refine lv_topi (fun z341 ez341 => ?_)
        have qz341 : z341.toInt = z5.toInt := by rw [ez341, ez5]
        have fz341 : (-1) ≤ z341.toInt ∧ z341.toInt ≤ 60 := by rw [ez341]; exact ar_get h_fs_sizes a1 0 (by omega) (show a1.toInt % 1 = 0 by omega) rfl
        refine lv_icmp_ge (tgt := 104) hx hb dX7_refusalOfHeard_47 (by decide) (fun hc => ?_) (fun hc => ?_)
        · have hq342 : z341.toInt ≤ x339.toInt := tq_le rfl rfl hc
          refine lv_iload_n hx hb dX7_refusalOfHeard_104 rfl (lv_at hl 1 rfl) ?_
          refine lv_if_eq (tgt := 112) hx hb dX7_refusalOfHeard_105 (by decide) (fun hc => ?_) (fun hc => ?_)
          · have hq343 : x338.toInt = 0 := tq_eq rfl (by decide) hc
            refine lv_bipush (v := (-2)) hx hb dX7_refusalOfHeard_112 (by decide) ?_
            obtain ⟨hP9, hD9⟩ : ct_B D A H [(qs, .inr (7, [.ref qs_widths, .ref qs_sizes, .ref qs_numbers])), (qs_sizes, .inl (cI, 4, .inl (fs_sizes))), (qs_numbers, .inl (cJ, 240, .inr (.inl (fs_numbers))))] := ⟨hP.sub [1, 2, 0] rfl, hD.sub [1, 2, 0] (by decide) rfl⟩
            exact W.iret (v := (-2)) hx hb hr (fun t ht hW => ⟨⟨(-2), (), rfl, (Or.inr (Or.inr (⟨rfl, trivial⟩))), by rw [ht]; exact hP9, hD9⟩, hS.F ht⟩) hS.2.2 dX7_refusalOfHeard_114
          · have hq343 : x338.toInt ≠ 0 := tq_ne rfl (by decide) hc
            refine lv_iconst (v := 0) hx hb dX7_refusalOfHeard_108 (by decide) ?_
            refine lv_goto (tgt := 114) hx hb dX7_refusalOfHeard_109 (by decide) ?_
            obtain ⟨hP9, hD9⟩ : ct_B D A H [(qs, .inr (7, [.ref qs_widths, .ref qs_sizes, .ref qs_numbers])), (qs_sizes, .inl (cI, 4, .inl (fs_sizes))), (qs_numbers, .inl (cJ, 240, .inr (.inl (fs_numbers))))] := ⟨hP.sub [1, 2, 0] rfl, hD.sub [1, 2, 0] (by decide) rfl⟩
            exact W.iret (v := 0) hx hb hr (fun t ht hW => ⟨⟨0, (), rfl, (Or.inl ⟨rfl, (show (0 ≤ a1.toInt ∧ a1.toInt < 4) ∧ hd_ok fs_numbers a1.toInt 1 (fs_sizes a1.toNatClampNeg).toInt by exact ⟨by omega, fun _ k hk => he0 (by omega) k (by rw [← ez341] at hk; omega)⟩)⟩), by rw [ht]; exact hP9, hD9⟩, hS.F ht⟩) hS.2.2 dX7_refusalOfHeard_114
        · have hq342 : x339.toInt < z341.toInt := tq_nle rfl rfl hc
          refine lv_iload_n hx hb dX7_refusalOfHeard_50 rfl (lv_at hl 0 rfl) ?_
          refine lv_iconst (v := 2) hx hb dX7_refusalOfHeard_51 (by decide) ?_
          refine lv_irem hx hb dX7_refusalOfHeard_52 (by decide) ?_
          refine lv_topi (fun z344 ez344 => ?_)
          have fz344 : z344.toInt = x339.toInt % 2 := by rw [ez344]; exact tq_remc (c := 2) rfl (by decide) (by omega) (by omega)
          refine lv_if_ne (tgt := 72) hx hb dX7_refusalOfHeard_53 (by decide) (fun hc => ?_) (fun hc => ?_)
          · have hq345 : z344.toInt ≠ 0 := tq_ne rfl (by decide) hc
            refine lv_aload_n hx hb dX7_refusalOfHeard_72 rfl (lv_at hl 2 rfl) ?_
            refine lv_iload_n hx hb dX7_refusalOfHeard_73 rfl (lv_at hl 3 rfl) ?_
            refine lv_iload_n hx hb dX7_refusalOfHeard_74 rfl (lv_at hl 0 rfl) ?_
            refine ct_calll (D := D) (wr := [(qs_sizes, .inl (cI, 4, .inl (fs_sizes)))]) (va_runV (As := [.int a1, .int x339]) (rest := []) ⟨hx, hb, hml, hown, hts⟩ (c_X7_at l D G cI cJ cB cZ cO qs qs_widths qs_sizes qs_numbers fs_numbers a1 x339 (by omega) (by omega) H.size) (cwV 2 hts gX7_refusalOfHeard_X7_at rfl rfl rfl (by decide +kernel) ⟨Nat.le_of_ble_eq_true rfl, Nat.le_of_ble_eq_true rfl⟩) (ct_preV (T := ct_T cI cJ cB cZ cO) (ci := 7) (q0 := 1) hE hH hP hD hS hA [1, 0] (by decide) rfl rfl rfl) rfl rfl hl.1 rfl (lv_room (Nat.le_of_ble_eq_true rfl)) dX7_refusalOfHeard_75 ⟨Nat.le_of_ble_eq_true rfl, Nat.le_of_ble_eq_true rfl⟩) hP hD hS hA [1, 0] [2] rfl rfl (by decide) (by decide) (fun r346 u H locs hw hP hD hS => ?_)
            obtain ⟨hP, hD⟩ : ct_B D A H [(qs_sizes, .inl (cI, 4, .inl (fs_sizes))), (qs, .inr (7, [.ref qs_widths, .ref qs_sizes, .ref qs_numbers])), (qs_numbers, .inl (cJ, 240, .inr (.inl (fs_numbers))))] := ⟨hP, hD⟩
            have hp0 := hw
            have hp_347 : r346 = fs_numbers (60 * a1.toInt + x339.toInt).toNat := hp0
            refine ct_calli (D := D) (wr := [(qs_sizes, .inl (cI, 4, .inl (fs_sizes))), (qs, .inr (7, [.ref qs_widths, .ref qs_sizes, .ref qs_numbers])), (qs_numbers, .inl (cJ, 240, .inr (.inl (fs_numbers))))]) (va_runS (As := [.long r346]) (rest := []) ⟨hx, hb, hml, hown, hts⟩ (c_X7_isTold l D G cI cJ cB cZ cO r346  H.size) (va_cwS 1 hts gX7_refusalOfHeard_X7_isTold rfl rfl rfl (by decide +kernel) ⟨Nat.le_of_ble_eq_true rfl, Nat.le_of_ble_eq_true rfl⟩) (ct_preS (T := ct_T cI cJ cB cZ cO) hE hH hP hD hS hA [] (by decide) rfl) rfl rfl hl.1 rfl (lv_room (Nat.le_of_ble_eq_true rfl)) dX7_refusalOfHeard_78 ⟨Nat.le_of_ble_eq_true rfl, Nat.le_of_ble_eq_true rfl⟩) hP hD hS hA [] [0, 1, 2] rfl rfl (by decide) (by decide) (fun r348 u H locs hw hP hD hS => ?_)
            obtain ⟨hP, hD⟩ : ct_B D A H [(qs_sizes, .inl (cI, 4, .inl (fs_sizes))), (qs, .inr (7, [.ref qs_widths, .ref qs_sizes, .ref qs_numbers])), (qs_numbers, .inl (cJ, 240, .inr (.inl (fs_numbers))))] := ⟨hP, hD⟩
            have hz := hw
            rcases hz with ⟨hz, hz2⟩ | ⟨hz, hz2⟩
            · subst hz
              have hz_349 : (-1 ≤ r346.toInt ∧ r346.toInt ≤ 5) := hz2
              refine lv_istore (lv' := [(4, .int 1), (3, .int x339), (2, .int x338), (0, .ref qs), (1, .int a1)]) hx hb dX7_refusalOfHeard_81 hl (by decide) rfl (fun ls hl => ?_)
              refine lv_iload_n hx hb dX7_refusalOfHeard_83 rfl (lv_at hl 2 rfl) ?_
              refine lv_if_eq (tgt := 96) hx hb dX7_refusalOfHeard_84 (by decide) (fun hc => ?_) (fun hc => ?_)
              · have hq350 : x338.toInt = 0 := tq_eq rfl (by decide) hc
                refine lv_iconst (v := 0) hx hb dX7_refusalOfHeard_96 (by decide) ?_
                refine lv_istore_n (lv' := [(2, .int 0), (4, .int 1), (3, .int x339), (0, .ref qs), (1, .int a1)]) hx hb dX7_refusalOfHeard_97 rfl hl (by decide) rfl (fun ls hl => ?_)
                obtain ⟨z351, ez351⟩ : ∃ z : Int32, z = x339 + 1 := ⟨_, rfl⟩
                have fz351 : z351.toInt = x339.toInt + 1 := by rw [ez351]; exact tq_add rfl (by decide) (by omega)
                refine lv_iinc (v := z351) (lv' := [(3, .int z351), (2, .int 0), (4, .int 1), (0, .ref qs), (1, .int a1)]) hx hb dX7_refusalOfHeard_98 hl (k := 2) rfl ez351.symm (by decide) rfl (fun ls hl => ?_)
                refine lv_goto (tgt := 40) hx hb dX7_refusalOfHeard_101 (by decide) ?_
                have hk352 : (0 : Int32).toInt = 0 := by decide
                obtain ⟨hP9, hD9⟩ : ct_B D A H [(qs_numbers, .inl (cJ, 240, .inr (.inl (fs_numbers)))), (qs, .inr (7, [.ref qs_widths, .ref qs_sizes, .ref qs_numbers])), (qs_sizes, .inl (cI, 4, .inl (fs_sizes)))] := ⟨hP.sub [2, 1, 0] rfl, hD.sub [2, 1, 0] (by decide) rfl⟩
                exact ih340 ((0 : Int32), z351) _ _ _ (show (60 - z351.toInt).toNat < (60 - x339.toInt).toNat by omega) ⟨(show 0 ≤ (0 : Int32).toInt ∧ (0 : Int32).toInt ≤ 1 by decide), (show 0 ≤ z351.toInt ∧ z351.toInt ≤ 60 by omega), (show hd_ok fs_numbers a1.toInt (0 : Int32).toInt z351.toInt by first | exact fun h => absurd h (by decide) | exact hd_step he0 (by omega) (by omega) hp_347 (by omega) _ _ (by omega)), ⟨hP9, hD9⟩, hS, lv_sub hl [0, 1, 3, 4] rfl⟩
              · have hq350 : x338.toInt ≠ 0 := tq_ne rfl (by decide) hc
                refine lv_iload hx hb dX7_refusalOfHeard_87 (lv_at hl 0 rfl) ?_
                refine lv_if_eq (tgt := 96) hx hb dX7_refusalOfHeard_89 (by decide) (fun hc => absurd hc (by decide)) (fun _ => ?_)
                refine lv_iconst (v := 1) hx hb dX7_refusalOfHeard_92 (by decide) ?_
                refine lv_goto (tgt := 97) hx hb dX7_refusalOfHeard_93 (by decide) ?_
                refine lv_istore_n (lv' := [(2, .int 1), (4, .int 1), (3, .int x339), (0, .ref qs), (1, .int a1)]) hx hb dX7_refusalOfHeard_97 rfl hl (by decide) rfl (fun ls hl => ?_)
                obtain ⟨z353, ez353⟩ : ∃ z : Int32, z = x339 + 1 := ⟨_, rfl⟩
                have fz353 : z353.toInt = x339.toInt + 1 := by rw [ez353]; exact tq_add rfl (by decide) (by omega)
                refine lv_iinc (v := z353) (lv' := [(3, .int z353), (2, .int 1), (4, .int 1), (0, .ref qs), (1, .int a1)]) hx hb dX7_refusalOfHeard_98 hl (k := 2) rfl ez353.symm (by decide) rfl (fun ls hl => ?_)
                refine lv_goto (tgt := 40) hx hb dX7_refusalOfHeard_101 (by decide) ?_
                have hk354 : (1 : Int32).toInt = 1 := by decide
                obtain ⟨hP9, hD9⟩ : ct_B D A H [(qs_numbers, .inl (cJ, 240, .inr (.inl (fs_numbers)))), (qs, .inr (7, [.ref qs_widths, .ref qs_sizes, .ref qs_numbers])), (qs_sizes, .inl (cI, 4, .inl (fs_sizes)))] := ⟨hP.sub [2, 1, 0] rfl, hD.sub [2, 1, 0] (by decide) rfl⟩
                exact ih340 ((1 : Int32), z353) _ _ _ (show (60 - z353.toInt).toNat < (60 - x339.toInt).toNat by omega) ⟨(show 0 ≤ (1 : Int32).toInt ∧ (1 : Int32).toInt ≤ 1 by decide), (show 0 ≤ z353.toInt ∧ z353.toInt ≤ 60 by omega), (show hd_ok fs_numbers a1.toInt (1 : Int32).toInt z353.toInt by first | exact fun h => absurd h (by decide) | exact hd_step he0 (by omega) (by omega) hp_347 (by omega) _ _ (by omega)), ⟨hP9, hD9⟩, hS, lv_sub hl [0, 1, 3, 4] rfl⟩
            · subst hz
              have hz_355 : ¬ (-1 ≤ r346.toInt ∧ r346.toInt ≤ 5) := hz2
              refine lv_istore (lv' := [(4, .int 0), (3, .int x339), (2, .int x338), (0, .ref qs), (1, .int a1)]) hx hb dX7_refusalOfHeard_81 hl (by decide) rfl (fun ls hl => ?_)
              refine lv_iload_n hx hb dX7_refusalOfHeard_83 rfl (lv_at hl 2 rfl) ?_
              refine lv_if_eq (tgt := 96) hx hb dX7_refusalOfHeard_84 (by decide) (fun hc => ?_) (fun hc => ?_)
              · have hq356 : x338.toInt = 0 := tq_eq rfl (by decide) hc
                refine lv_iconst (v := 0) hx hb dX7_refusalOfHeard_96 (by decide) ?_
                refine lv_istore_n (lv' := [(2, .int 0), (4, .int 0), (3, .int x339), (0, .ref qs), (1, .int a1)]) hx hb dX7_refusalOfHeard_97 rfl hl (by decide) rfl (fun ls hl => ?_)
                obtain ⟨z357, ez357⟩ : ∃ z : Int32, z = x339 + 1 := ⟨_, rfl⟩
                have fz357 : z357.toInt = x339.toInt + 1 := by rw [ez357]; exact tq_add rfl (by decide) (by omega)
                refine lv_iinc (v := z357) (lv' := [(3, .int z357), (2, .int 0), (4, .int 0), (0, .ref qs), (1, .int a1)]) hx hb dX7_refusalOfHeard_98 hl (k := 2) rfl ez357.symm (by decide) rfl (fun ls hl => ?_)
                refine lv_goto (tgt := 40) hx hb dX7_refusalOfHeard_101 (by decide) ?_
                have hk358 : (0 : Int32).toInt = 0 := by decide
                obtain ⟨hP9, hD9⟩ : ct_B D A H [(qs_numbers, .inl (cJ, 240, .inr (.inl (fs_numbers)))), (qs, .inr (7, [.ref qs_widths, .ref qs_sizes, .ref qs_numbers])), (qs_sizes, .inl (cI, 4, .inl (fs_sizes)))] := ⟨hP.sub [2, 1, 0] rfl, hD.sub [2, 1, 0] (by decide) rfl⟩
                exact ih340 ((0 : Int32), z357) _ _ _ (show (60 - z357.toInt).toNat < (60 - x339.toInt).toNat by omega) ⟨(show 0 ≤ (0 : Int32).toInt ∧ (0 : Int32).toInt ≤ 1 by decide), (show 0 ≤ z357.toInt ∧ z357.toInt ≤ 60 by omega), (show hd_ok fs_numbers a1.toInt (0 : Int32).toInt z357.toInt by first | exact fun h => absurd h (by decide) | exact hd_step he0 (by omega) (by omega) hp_347 (by omega) _ _ (by omega)), ⟨hP9, hD9⟩, hS, lv_sub hl [0, 1, 3, 4] rfl⟩
              · have hq356 : x338.toInt ≠ 0 := tq_ne rfl (by decide) hc
                refine lv_iload hx hb dX7_refusalOfHeard_87 (lv_at hl 0 rfl) ?_
                refine lv_if_eq (tgt := 96) hx hb dX7_refusalOfHeard_89 (by decide) (fun _ => ?_) (fun hc => absurd hc (by decide))
                refine lv_iconst (v := 0) hx hb dX7_refusalOfHeard_96 (by decide) ?_
                refine lv_istore_n (lv' := [(2, .int 0), (4, .int 0), (3, .int x339), (0, .ref qs), (1, .int a1)]) hx hb dX7_refusalOfHeard_97 rfl hl (by decide) rfl (fun ls hl => ?_)
                obtain ⟨z359, ez359⟩ : ∃ z : Int32, z = x339 + 1 := ⟨_, rfl⟩
                have fz359 : z359.toInt = x339.toInt + 1 := by rw [ez359]; exact tq_add rfl (by decide) (by omega)
                refine lv_iinc (v := z359) (lv' := [(3, .int z359), (2, .int 0), (4, .int 0), (0, .ref qs), (1, .int a1)]) hx hb dX7_refusalOfHeard_98 hl (k := 2) rfl ez359.symm (by decide) rfl (fun ls hl => ?_)
                refine lv_goto (tgt := 40) hx hb dX7_refusalOfHeard_101 (by decide) ?_
                have hk360 : (0 : Int32).toInt = 0 := by decide
                obtain ⟨hP9, hD9⟩ : ct_B D A H [(qs_numbers, .inl (cJ, 240, .inr (.inl (fs_numbers)))), (qs, .inr (7, [.ref qs_widths, .ref qs_sizes, .ref qs_numbers])), (qs_sizes, .inl (cI, 4, .inl (fs_sizes)))] := ⟨hP.sub [2, 1, 0] rfl, hD.sub [2, 1, 0] (by decide) rfl⟩
                exact ih340 ((0 : Int32), z359) _ _ _ (show (60 - z359.toInt).toNat < (60 - x339.toInt).toNat by omega) ⟨(show 0 ≤ (0 : Int32).toInt ∧ (0 : Int32).toInt ≤ 1 by decide), (show 0 ≤ z359.toInt ∧ z359.toInt ≤ 60 by omega), (show hd_ok fs_numbers a1.toInt (0 : Int32).toInt z359.toInt by first | exact fun h => absurd h (by decide) | exact hd_step he0 (by omega) (by omega) hp_347 (by omega) _ _ (by omega)), ⟨hP9, hD9⟩, hS, lv_sub hl [0, 1, 3, 4] rfl⟩
          · have hq345 : z344.toInt = 0 := tq_eq rfl (by decide) hc
            refine lv_aload_n hx hb dX7_refusalOfHeard_56 rfl (lv_at hl 2 rfl) ?_
            refine lv_iload_n hx hb dX7_refusalOfHeard_57 rfl (lv_at hl 3 rfl) ?_
            refine lv_iload_n hx hb dX7_refusalOfHeard_58 rfl (lv_at hl 0 rfl) ?_
            refine ct_calll (D := D) (wr := [(qs_sizes, .inl (cI, 4, .inl (fs_sizes)))]) (va_runV (As := [.int a1, .int x339]) (rest := []) ⟨hx, hb, hml, hown, hts⟩ (c_X7_at l D G cI cJ cB cZ cO qs qs_widths qs_sizes qs_numbers fs_numbers a1 x339 (by omega) (by omega) H.size) (cwV 2 hts gX7_refusalOfHeard_X7_at rfl rfl rfl (by decide +kernel) ⟨Nat.le_of_ble_eq_true rfl, Nat.le_of_ble_eq_true rfl⟩) (ct_preV (T := ct_T cI cJ cB cZ cO) (ci := 7) (q0 := 1) hE hH hP hD hS hA [1, 0] (by decide) rfl rfl rfl) rfl rfl hl.1 rfl (lv_room (Nat.le_of_ble_eq_true rfl)) dX7_refusalOfHeard_59 ⟨Nat.le_of_ble_eq_true rfl, Nat.le_of_ble_eq_true rfl⟩) hP hD hS hA [1, 0] [2] rfl rfl (by decide) (by decide) (fun r361 u H locs hw hP hD hS => ?_)
            obtain ⟨hP, hD⟩ : ct_B D A H [(qs_sizes, .inl (cI, 4, .inl (fs_sizes))), (qs, .inr (7, [.ref qs_widths, .ref qs_sizes, .ref qs_numbers])), (qs_numbers, .inl (cJ, 240, .inr (.inl (fs_numbers))))] := ⟨hP, hD⟩
            have hp0 := hw
            have hp_362 : r361 = fs_numbers (60 * a1.toInt + x339.toInt).toNat := hp0
            refine lv_lconst (v := 0) hx hb dX7_refusalOfHeard_62 (by decide) ?_
            refine lv_ldc2 (v := 199) hx hb hown (hts (.constantLong RX7 47 (199)) (by decide +kernel)) dX7_refusalOfHeard_63 ?_
            refine ct_calli (D := D) (wr := [(qs_sizes, .inl (cI, 4, .inl (fs_sizes))), (qs, .inr (7, [.ref qs_widths, .ref qs_sizes, .ref qs_numbers])), (qs_numbers, .inl (cJ, 240, .inr (.inl (fs_numbers))))]) (va_runS (As := [.long r361, .long 0, .long 199]) (rest := []) ⟨hx, hb, hml, hown, hts⟩ (c_X7_isBetween l D G cI cJ cB cZ cO r361 0 199  H.size) (va_cwS 3 hts gX7_refusalOfHeard_X7_isBetween rfl rfl rfl (by decide +kernel) ⟨Nat.le_of_ble_eq_true rfl, Nat.le_of_ble_eq_true rfl⟩) (ct_preS (T := ct_T cI cJ cB cZ cO) hE hH hP hD hS hA [] (by decide) rfl) rfl rfl hl.1 rfl (lv_room (Nat.le_of_ble_eq_true rfl)) dX7_refusalOfHeard_66 ⟨Nat.le_of_ble_eq_true rfl, Nat.le_of_ble_eq_true rfl⟩) hP hD hS hA [] [0, 1, 2] rfl rfl (by decide) (by decide) (fun r363 u H locs hw hP hD hS => ?_)
            obtain ⟨hP, hD⟩ : ct_B D A H [(qs_sizes, .inl (cI, 4, .inl (fs_sizes))), (qs, .inr (7, [.ref qs_widths, .ref qs_sizes, .ref qs_numbers])), (qs_numbers, .inl (cJ, 240, .inr (.inl (fs_numbers))))] := ⟨hP, hD⟩
            have hk364 : (0 : Int64).toInt = 0 := by decide
            have hk365 : (199 : Int64).toInt = 199 := by decide
            have hz := hw
            rcases hz with ⟨hz, hz2⟩ | ⟨hz, hz2⟩
            · subst hz
              have hz_366 : ((0 : Int64).toInt ≤ r361.toInt ∧ r361.toInt ≤ (199 : Int64).toInt) := hz2
              refine lv_goto (tgt := 81) hx hb dX7_refusalOfHeard_69 (by decide) ?_
              refine lv_istore (lv' := [(4, .int 1), (3, .int x339), (2, .int x338), (0, .ref qs), (1, .int a1)]) hx hb dX7_refusalOfHeard_81 hl (by decide) rfl (fun ls hl => ?_)
              refine lv_iload_n hx hb dX7_refusalOfHeard_83 rfl (lv_at hl 2 rfl) ?_
              refine lv_if_eq (tgt := 96) hx hb dX7_refusalOfHeard_84 (by decide) (fun hc => ?_) (fun hc => ?_)
              · have hq367 : x338.toInt = 0 := tq_eq rfl (by decide) hc
                refine lv_iconst (v := 0) hx hb dX7_refusalOfHeard_96 (by decide) ?_
                refine lv_istore_n (lv' := [(2, .int 0), (4, .int 1), (3, .int x339), (0, .ref qs), (1, .int a1)]) hx hb dX7_refusalOfHeard_97 rfl hl (by decide) rfl (fun ls hl => ?_)
                obtain ⟨z368, ez368⟩ : ∃ z : Int32, z = x339 + 1 := ⟨_, rfl⟩
                have fz368 : z368.toInt = x339.toInt + 1 := by rw [ez368]; exact tq_add rfl (by decide) (by omega)
                refine lv_iinc (v := z368) (lv' := [(3, .int z368), (2, .int 0), (4, .int 1), (0, .ref qs), (1, .int a1)]) hx hb dX7_refusalOfHeard_98 hl (k := 2) rfl ez368.symm (by decide) rfl (fun ls hl => ?_)
                refine lv_goto (tgt := 40) hx hb dX7_refusalOfHeard_101 (by decide) ?_
                have hk369 : (0 : Int32).toInt = 0 := by decide
                obtain ⟨hP9, hD9⟩ : ct_B D A H [(qs_numbers, .inl (cJ, 240, .inr (.inl (fs_numbers)))), (qs, .inr (7, [.ref qs_widths, .ref qs_sizes, .ref qs_numbers])), (qs_sizes, .inl (cI, 4, .inl (fs_sizes)))] := ⟨hP.sub [2, 1, 0] rfl, hD.sub [2, 1, 0] (by decide) rfl⟩
                exact ih340 ((0 : Int32), z368) _ _ _ (show (60 - z368.toInt).toNat < (60 - x339.toInt).toNat by omega) ⟨(show 0 ≤ (0 : Int32).toInt ∧ (0 : Int32).toInt ≤ 1 by decide), (show 0 ≤ z368.toInt ∧ z368.toInt ≤ 60 by omega), (show hd_ok fs_numbers a1.toInt (0 : Int32).toInt z368.toInt by first | exact fun h => absurd h (by decide) | exact hd_step he0 (by omega) (by omega) hp_362 (by omega) _ _ (by omega)), ⟨hP9, hD9⟩, hS, lv_sub hl [0, 1, 3, 4] rfl⟩
              · have hq367 : x338.toInt ≠ 0 := tq_ne rfl (by decide) hc
                refine lv_iload hx hb dX7_refusalOfHeard_87 (lv_at hl 0 rfl) ?_
                refine lv_if_eq (tgt := 96) hx hb dX7_refusalOfHeard_89 (by decide) (fun hc => absurd hc (by decide)) (fun _ => ?_)
                refine lv_iconst (v := 1) hx hb dX7_refusalOfHeard_92 (by decide) ?_
                refine lv_goto (tgt := 97) hx hb dX7_refusalOfHeard_93 (by decide) ?_
                refine lv_istore_n (lv' := [(2, .int 1), (4, .int 1), (3, .int x339), (0, .ref qs), (1, .int a1)]) hx hb dX7_refusalOfHeard_97 rfl hl (by decide) rfl (fun ls hl => ?_)
                obtain ⟨z370, ez370⟩ : ∃ z : Int32, z = x339 + 1 := ⟨_, rfl⟩
                have fz370 : z370.toInt = x339.toInt + 1 := by rw [ez370]; exact tq_add rfl (by decide) (by omega)
                refine lv_iinc (v := z370) (lv' := [(3, .int z370), (2, .int 1), (4, .int 1), (0, .ref qs), (1, .int a1)]) hx hb dX7_refusalOfHeard_98 hl (k := 2) rfl ez370.symm (by decide) rfl (fun ls hl => ?_)
                refine lv_goto (tgt := 40) hx hb dX7_refusalOfHeard_101 (by decide) ?_
                have hk371 : (1 : Int32).toInt = 1 := by decide
                obtain ⟨hP9, hD9⟩ : ct_B D A H [(qs_numbers, .inl (cJ, 240, .inr (.inl (fs_numbers)))), (qs, .inr (7, [.ref qs_widths, .ref qs_sizes, .ref qs_numbers])), (qs_sizes, .inl (cI, 4, .inl (fs_sizes)))] := ⟨hP.sub [2, 1, 0] rfl, hD.sub [2, 1, 0] (by decide) rfl⟩
                exact ih340 ((1 : Int32), z370) _ _ _ (show (60 - z370.toInt).toNat < (60 - x339.toInt).toNat by omega) ⟨(show 0 ≤ (1 : Int32).toInt ∧ (1 : Int32).toInt ≤ 1 by decide), (show 0 ≤ z370.toInt ∧ z370.toInt ≤ 60 by omega), (show hd_ok fs_numbers a1.toInt (1 : Int32).toInt z370.toInt by first | exact fun h => absurd h (by decide) | exact hd_step he0 (by omega) (by omega) hp_362 (by omega) _ _ (by omega)), ⟨hP9, hD9⟩, hS, lv_sub hl [0, 1, 3, 4] rfl⟩
            · subst hz
              have hz_372 : ¬ ((0 : Int64).toInt ≤ r361.toInt ∧ r361.toInt ≤ (199 : Int64).toInt) := hz2
              refine lv_goto (tgt := 81) hx hb dX7_refusalOfHeard_69 (by decide) ?_
              refine lv_istore (lv' := [(4, .int 0), (3, .int x339), (2, .int x338), (0, .ref qs), (1, .int a1)]) hx hb dX7_refusalOfHeard_81 hl (by decide) rfl (fun ls hl => ?_)
              refine lv_iload_n hx hb dX7_refusalOfHeard_83 rfl (lv_at hl 2 rfl) ?_
              refine lv_if_eq (tgt := 96) hx hb dX7_refusalOfHeard_84 (by decide) (fun hc => ?_) (fun hc => ?_)
              · have hq373 : x338.toInt = 0 := tq_eq rfl (by decide) hc
                refine lv_iconst (v := 0) hx hb dX7_refusalOfHeard_96 (by decide) ?_
                refine lv_istore_n (lv' := [(2, .int 0), (4, .int 0), (3, .int x339), (0, .ref qs), (1, .int a1)]) hx hb dX7_refusalOfHeard_97 rfl hl (by decide) rfl (fun ls hl => ?_)
                obtain ⟨z374, ez374⟩ : ∃ z : Int32, z = x339 + 1 := ⟨_, rfl⟩
                have fz374 : z374.toInt = x339.toInt + 1 := by rw [ez374]; exact tq_add rfl (by decide) (by omega)
                refine lv_iinc (v := z374) (lv' := [(3, .int z374), (2, .int 0), (4, .int 0), (0, .ref qs), (1, .int a1)]) hx hb dX7_refusalOfHeard_98 hl (k := 2) rfl ez374.symm (by decide) rfl (fun ls hl => ?_)
                refine lv_goto (tgt := 40) hx hb dX7_refusalOfHeard_101 (by decide) ?_
                have hk375 : (0 : Int32).toInt = 0 := by decide
                obtain ⟨hP9, hD9⟩ : ct_B D A H [(qs_numbers, .inl (cJ, 240, .inr (.inl (fs_numbers)))), (qs, .inr (7, [.ref qs_widths, .ref qs_sizes, .ref qs_numbers])), (qs_sizes, .inl (cI, 4, .inl (fs_sizes)))] := ⟨hP.sub [2, 1, 0] rfl, hD.sub [2, 1, 0] (by decide) rfl⟩
                exact ih340 ((0 : Int32), z374) _ _ _ (show (60 - z374.toInt).toNat < (60 - x339.toInt).toNat by omega) ⟨(show 0 ≤ (0 : Int32).toInt ∧ (0 : Int32).toInt ≤ 1 by decide), (show 0 ≤ z374.toInt ∧ z374.toInt ≤ 60 by omega), (show hd_ok fs_numbers a1.toInt (0 : Int32).toInt z374.toInt by first | exact fun h => absurd h (by decide) | exact hd_step he0 (by omega) (by omega) hp_362 (by omega) _ _ (by omega)), ⟨hP9, hD9⟩, hS, lv_sub hl [0, 1, 3, 4] rfl⟩
              · have hq373 : x338.toInt ≠ 0 := tq_ne rfl (by decide) hc
                refine lv_iload hx hb dX7_refusalOfHeard_87 (lv_at hl 0 rfl) ?_
                refine lv_if_eq (tgt := 96) hx hb dX7_refusalOfHeard_89 (by decide) (fun _ => ?_) (fun hc => absurd hc (by decide))
                refine lv_iconst (v := 0) hx hb dX7_refusalOfHeard_96 (by decide) ?_
                refine lv_istore_n (lv' := [(2, .int 0), (4, .int 0), (3, .int x339), (0, .ref qs), (1, .int a1)]) hx hb dX7_refusalOfHeard_97 rfl hl (by decide) rfl (fun ls hl => ?_)
                obtain ⟨z376, ez376⟩ : ∃ z : Int32, z = x339 + 1 := ⟨_, rfl⟩
                have fz376 : z376.toInt = x339.toInt + 1 := by rw [ez376]; exact tq_add rfl (by decide) (by omega)
                refine lv_iinc (v := z376) (lv' := [(3, .int z376), (2, .int 0), (4, .int 0), (0, .ref qs), (1, .int a1)]) hx hb dX7_refusalOfHeard_98 hl (k := 2) rfl ez376.symm (by decide) rfl (fun ls hl => ?_)
                refine lv_goto (tgt := 40) hx hb dX7_refusalOfHeard_101 (by decide) ?_
                have hk377 : (0 : Int32).toInt = 0 := by decide
                obtain ⟨hP9, hD9⟩ : ct_B D A H [(qs_numbers, .inl (cJ, 240, .inr (.inl (fs_numbers)))), (qs, .inr (7, [.ref qs_widths, .ref qs_sizes, .ref qs_numbers])), (qs_sizes, .inl (cI, 4, .inl (fs_sizes)))] := ⟨hP.sub [2, 1, 0] rfl, hD.sub [2, 1, 0] (by decide) rfl⟩
                exact ih340 ((0 : Int32), z376) _ _ _ (show (60 - z376.toInt).toNat < (60 - x339.toInt).toNat by omega) ⟨(show 0 ≤ (0 : Int32).toInt ∧ (0 : Int32).toInt ≤ 1 by decide), (show 0 ≤ z376.toInt ∧ z376.toInt ≤ 60 by omega), (show hd_ok fs_numbers a1.toInt (0 : Int32).toInt z376.toInt by first | exact fun h => absurd h (by decide) | exact hd_step he0 (by omega) (by omega) hp_362 (by omega) _ _ (by omega)), ⟨hP9, hD9⟩, hS, lv_sub hl [0, 1, 3, 4] rfl⟩
    · subst hz
      have hz_378 : ¬ ((fs_sizes a1.toNatClampNeg).toInt ≠ -1) := hz2
      refine lv_if_ne (tgt := 21) hx hb dX7_refusalOfHeard_15 (by decide) (fun hc => absurd hc (by decide)) (fun _ => ?_)
      refine lv_bipush (v := (-6)) hx hb dX7_refusalOfHeard_18 (by decide) ?_
      obtain ⟨hP9, hD9⟩ : ct_B D A H [(qs, .inr (7, [.ref qs_widths, .ref qs_sizes, .ref qs_numbers])), (qs_sizes, .inl (cI, 4, .inl (fs_sizes))), (qs_numbers, .inl (cJ, 240, .inr (.inl (fs_numbers))))] := ⟨hP.sub [1, 2, 0] rfl, hD.sub [1, 2, 0] (by decide) rfl⟩
      exact W.iret (v := (-6)) hx hb hr (fun t ht hW => ⟨⟨(-6), (), rfl, (Or.inr (Or.inl ⟨rfl, trivial⟩)), by rw [ht]; exact hP9, hD9⟩, hS.F ht⟩) hS.2.2 dX7_refusalOfHeard_20
  · subst hz
    have hz_379 : ¬ (0 ≤ a1.toInt ∧ a1.toInt < 4) := hz2
    refine lv_if_ne (tgt := 10) hx hb dX7_refusalOfHeard_4 (by decide) (fun hc => absurd hc (by decide)) (fun _ => ?_)
    refine lv_bipush (v := (-2)) hx hb dX7_refusalOfHeard_7 (by decide) ?_
    obtain ⟨hP9, hD9⟩ : ct_B D A H [(qs, .inr (7, [.ref qs_widths, .ref qs_sizes, .ref qs_numbers])), (qs_sizes, .inl (cI, 4, .inl (fs_sizes))), (qs_numbers, .inl (cJ, 240, .inr (.inl (fs_numbers))))] := ⟨hP.sub [0, 1, 2] rfl, hD.sub [0, 1, 2] (by decide) rfl⟩
    exact W.iret (v := (-2)) hx hb hr (fun t ht hW => ⟨⟨(-2), (), rfl, (Or.inr (Or.inr (⟨rfl, trivial⟩))), by rw [ht]; exact hP9, hD9⟩, hS.F ht⟩) hS.2.2 dX7_refusalOfHeard_9
