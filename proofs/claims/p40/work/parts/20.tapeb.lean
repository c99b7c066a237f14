abbrev w_c_X8_kindOf (cI cJ cB cZ cO : ClassId)  : va_W := []
set_option maxHeartbeats 4000000 in
set_option maxRecDepth 100000 in
/-- X8 kindOf -/
theorem c_X8_kindOf (l : Launch) (D : va_G) (G : ct_G) (cI cJ cB cZ cO : ClassId) (a1 : Int32)  (sz : Nat) : Met l yX8_kindOf wsX8_kindOf ({ frames := 0, cells := 0, slots := 0, locals := 0 }) (va_Pc [.int a1] (ct_P D (ct_T cI cJ cB cZ cO) G (w_c_X8_kindOf cI cJ cB cZ cO ) sz)) (va_Qi (fun (rz : Int32) (u : Unit) => (1 ≤ rz.toInt ∧ rz.toInt ≤ 5)) (fun (u : Unit) t => ct_Q D (va_A (w_c_X8_kindOf cI cJ cB cZ cO ) sz) [] t) (va_A (w_c_X8_kindOf cI cJ cB cZ cO ) sz)) 0 0 (va_A (w_c_X8_kindOf cI cJ cB cZ cO ) sz) := by
  refine Met.ofW (cc := cX8_kindOf) (maxL := 1) (ret := (some .int)) (by decide) rfl ?_
  intro p e s m args below meth c s₁ B hml hv
  obtain ⟨rfl, hsz, hP, hE, hD0, hH⟩ := hv
  have hx := B.exec
  have hb := B.bytes
  have hr := B.returns
  have hts := atoms_spec (ws := wsX8_kindOf) B.pre
  have hown : s.vm.findClass RX8 = some m.cls := findClass_of_methodNamed B.named
  have hlocks := B.notSynchronized
  have hK := hE.1
  subst hsz
  have hD := hD0.self (sz := s.heap.size)
  generalize hAe : va_A (w_c_X8_kindOf cI cJ cB cZ cO ) s.heap.size = A at hD hH ⊢
  have hA : ∀ q : Nat, s.heap.size ≤ q → A q := fun q h => by rw [← hAe]; exact Or.inr h
  have hS : va_S A s.heap s.heap [] := va_S.rf
  obtain ⟨hP, hD⟩ : ct_B D A s.heap [] := ⟨hP, hD⟩
  have hl := lv_entry ([.int a1]) (n := 1) (Nat.le_of_ble_eq_true rfl)
  rw [lg_entry_eq]
  generalize (lg_sl ([.int a1]) ++ List.replicate (1 - (lg_sl ([.int a1])).length) Slot.unset).toArray = ls at hl ⊢
  have hl : lv_has ls 1 [(0, .int a1)] := hl
  obtain ⟨H, hHe⟩ : ∃ H : Heap, H = s.heap := ⟨_, rfl⟩
  rw [← hHe] at hP
  have hS : va_S A s.heap H [] := by rw [hHe]; exact va_S.rf
  refine ct_start hHe ?_
  refine lv_iload_n hx hb dX8_kindOf_0 rfl (lv_at hl 0 rfl) ?_
  refine lv_bipush (v := 32) hx hb dX8_kindOf_1 (by decide) ?_
  refine lv_icmp_eq (tgt := 12) hx hb dX8_kindOf_3 (by decide) (fun hc => ?_) (fun hc => ?_)
  · have hq1 : a1.toInt = 32 := tq_eq rfl (by decide) hc
    have hb2 := tq_lo a1
    refine lv_iconst (v := 4) hx hb dX8_kindOf_12 (by decide) ?_
    obtain ⟨hP9, hD9⟩ : ct_B D A H [] := ⟨hP.sub [] rfl, hD.sub [] (by decide) rfl⟩
    exact W.iret (v := 4) hx hb hr (fun t ht hW => ⟨⟨4, (), rfl, (show 1 ≤ (4 : Int32).toInt ∧ (4 : Int32).toInt ≤ 5 by decide), by rw [ht]; exact hP9, hD9⟩, hS.F ht⟩) hS.2.2 dX8_kindOf_13
  · have hq1 : a1.toInt ≠ 32 := tq_ne rfl (by decide) hc
    have hb3 := tq_lo a1
    refine lv_iload_n hx hb dX8_kindOf_6 rfl (lv_at hl 0 rfl) ?_
    refine lv_bipush (v := 10) hx hb dX8_kindOf_7 (by decide) ?_
    refine lv_icmp_ne (tgt := 14) hx hb dX8_kindOf_9 (by decide) (fun hc => ?_) (fun hc => ?_)
    · have hq4 : a1.toInt ≠ 10 := tq_ne rfl (by decide) hc
      have hb5 := tq_lo a1
      refine lv_iload_n hx hb dX8_kindOf_14 rfl (lv_at hl 0 rfl) ?_
      refine lv_bipush (v := 97) hx hb dX8_kindOf_15 (by decide) ?_
      refine lv_icmp_lt (tgt := 28) hx hb dX8_kindOf_17 (by decide) (fun hc => ?_) (fun hc => ?_)
      · have hq6 : a1.toInt < 97 := tq_lt rfl (by decide) hc
        have hb7 := tq_lo a1
        refine lv_iload_n hx hb dX8_kindOf_28 rfl (lv_at hl 0 rfl) ?_
        refine lv_bipush (v := 48) hx hb dX8_kindOf_29 (by decide) ?_
        refine lv_icmp_lt (tgt := 42) hx hb dX8_kindOf_31 (by decide) (fun hc => ?_) (fun hc => ?_)
        · have hq8 : a1.toInt < 48 := tq_lt rfl (by decide) hc
          have hb9 := tq_lo a1
          refine lv_iload_n hx hb dX8_kindOf_42 rfl (lv_at hl 0 rfl) ?_
          refine lv_bipush (v := 59) hx hb dX8_kindOf_43 (by decide) ?_
          refine lv_icmp_ne (tgt := 52) hx hb dX8_kindOf_45 (by decide) (fun hc => ?_) (fun hc => ?_)
          · have hq10 : a1.toInt ≠ 59 := tq_ne rfl (by decide) hc
            have hb11 := tq_lo a1
            refine lv_iconst (v := 5) hx hb dX8_kindOf_52 (by decide) ?_
            obtain ⟨hP9, hD9⟩ : ct_B D A H [] := ⟨hP.sub [] rfl, hD.sub [] (by decide) rfl⟩
            exact W.iret (v := 5) hx hb hr (fun t ht hW => ⟨⟨5, (), rfl, (show 1 ≤ (5 : Int32).toInt ∧ (5 : Int32).toInt ≤ 5 by decide), by rw [ht]; exact hP9, hD9⟩, hS.F ht⟩) hS.2.2 dX8_kindOf_53
          · have hq10 : a1.toInt = 59 := tq_eq rfl (by decide) hc
            have hb12 := tq_lo a1
            omega
        · have hq8 : 48 ≤ a1.toInt := tq_nlt rfl (by decide) hc
          have hb13 := tq_lo a1
          refine lv_iload_n hx hb dX8_kindOf_34 rfl (lv_at hl 0 rfl) ?_
          refine lv_bipush (v := 57) hx hb dX8_kindOf_35 (by decide) ?_
          refine lv_icmp_gt (tgt := 42) hx hb dX8_kindOf_37 (by decide) (fun hc => ?_) (fun hc => ?_)
          · have hq14 : 57 < a1.toInt := tq_lt (by decide) rfl hc
            refine lv_iload_n hx hb dX8_kindOf_42 rfl (lv_at hl 0 rfl) ?_
            refine lv_bipush (v := 59) hx hb dX8_kindOf_43 (by decide) ?_
            refine lv_icmp_ne (tgt := 52) hx hb dX8_kindOf_45 (by decide) (fun hc => ?_) (fun hc => ?_)
            · have hq15 : a1.toInt ≠ 59 := tq_ne rfl (by decide) hc
              refine lv_iconst (v := 5) hx hb dX8_kindOf_52 (by decide) ?_
              obtain ⟨hP9, hD9⟩ : ct_B D A H [] := ⟨hP.sub [] rfl, hD.sub [] (by decide) rfl⟩
              exact W.iret (v := 5) hx hb hr (fun t ht hW => ⟨⟨5, (), rfl, (show 1 ≤ (5 : Int32).toInt ∧ (5 : Int32).toInt ≤ 5 by decide), by rw [ht]; exact hP9, hD9⟩, hS.F ht⟩) hS.2.2 dX8_kindOf_53
            · have hq15 : a1.toInt = 59 := tq_eq rfl (by decide) hc
              refine lv_iconst (v := 3) hx hb dX8_kindOf_48 (by decide) ?_
              refine lv_goto (tgt := 53) hx hb dX8_kindOf_49 (by decide) ?_
              obtain ⟨hP9, hD9⟩ : ct_B D A H [] := ⟨hP.sub [] rfl, hD.sub [] (by decide) rfl⟩
              exact W.iret (v := 3) hx hb hr (fun t ht hW => ⟨⟨3, (), rfl, (show 1 ≤ (3 : Int32).toInt ∧ (3 : Int32).toInt ≤ 5 by decide), by rw [ht]; exact hP9, hD9⟩, hS.F ht⟩) hS.2.2 dX8_kindOf_53
          · have hq14 : a1.toInt ≤ 57 := tq_nlt (by decide) rfl hc
            refine lv_iconst (v := 2) hx hb dX8_kindOf_40 (by decide) ?_
            obtain ⟨hP9, hD9⟩ : ct_B D A H [] := ⟨hP.sub [] rfl, hD.sub [] (by decide) rfl⟩
            exact W.iret (v := 2) hx hb hr (fun t ht hW => ⟨⟨2, (), rfl, (show 1 ≤ (2 : Int32).toInt ∧ (2 : Int32).toInt ≤ 5 by decide), by rw [ht]; exact hP9, hD9⟩, hS.F ht⟩) hS.2.2 dX8_kindOf_41
      · have hq6 : 97 ≤ a1.toInt := tq_nlt rfl (by decide) hc
        have hb16 := tq_lo a1
        refine lv_iload_n hx hb dX8_kindOf_20 rfl (lv_at hl 0 rfl) ?_
        refine lv_bipush (v := 122) hx hb dX8_kindOf_21 (by decide) ?_
        refine lv_icmp_gt (tgt := 28) hx hb dX8_kindOf_23 (by decide) (fun hc => ?_) (fun hc => ?_)
        · have hq17 : 122 < a1.toInt := tq_lt (by decide) rfl hc
          have hb18 := tq_lo a1
          refine lv_iload_n hx hb dX8_kindOf_28 rfl (lv_at hl 0 rfl) ?_
          refine lv_bipush (v := 48) hx hb dX8_kindOf_29 (by decide) ?_
          refine lv_icmp_lt (tgt := 42) hx hb dX8_kindOf_31 (by decide) (fun hc => ?_) (fun hc => ?_)
          · have hq19 : a1.toInt < 48 := tq_lt rfl (by decide) hc
            have hb20 := tq_lo a1
            omega
          · have hq19 : 48 ≤ a1.toInt := tq_nlt rfl (by decide) hc
            have hb21 := tq_lo a1
            refine lv_iload_n hx hb dX8_kindOf_34 rfl (lv_at hl 0 rfl) ?_
            refine lv_bipush (v := 57) hx hb dX8_kindOf_35 (by decide) ?_
            refine lv_icmp_gt (tgt := 42) hx hb dX8_kindOf_37 (by decide) (fun hc => ?_) (fun hc => ?_)
            · have hq22 : 57 < a1.toInt := tq_lt (by decide) rfl hc
              have hb23 := tq_lo a1
              refine lv_iload_n hx hb dX8_kindOf_42 rfl (lv_at hl 0 rfl) ?_
              refine lv_bipush (v := 59) hx hb dX8_kindOf_43 (by decide) ?_
              refine lv_icmp_ne (tgt := 52) hx hb dX8_kindOf_45 (by decide) (fun hc => ?_) (fun hc => ?_)
              · have hq24 : a1.toInt ≠ 59 := tq_ne rfl (by decide) hc
                have hb25 := tq_lo a1
                refine lv_iconst (v := 5) hx hb dX8_kindOf_52 (by decide) ?_
                obtain ⟨hP9, hD9⟩ : ct_B D A H [] := ⟨hP.sub [] rfl, hD.sub [] (by decide) rfl⟩
                exact W.iret (v := 5) hx hb hr (fun t ht hW => ⟨⟨5, (), rfl, (show 1 ≤ (5 : Int32).toInt ∧ (5 : Int32).toInt ≤ 5 by decide), by rw [ht]; exact hP9, hD9⟩, hS.F ht⟩) hS.2.2 dX8_kindOf_53
              · have hq24 : a1.toInt = 59 := tq_eq rfl (by decide) hc
                have hb26 := tq_lo a1
                omega
            · have hq22 : a1.toInt ≤ 57 := tq_nlt (by decide) rfl hc
              have hb27 := tq_lo a1
              omega
        · have hq17 : a1.toInt ≤ 122 := tq_nlt (by decide) rfl hc
          have hb28 := tq_lo a1
          refine lv_iconst (v := 1) hx hb dX8_kindOf_26 (by decide) ?_
          obtain ⟨hP9, hD9⟩ : ct_B D A H [] := ⟨hP.sub [] rfl, hD.sub [] (by decide) rfl⟩
          exact W.iret (v := 1) hx hb hr (fun t ht hW => ⟨⟨1, (), rfl, (show 1 ≤ (1 : Int32).toInt ∧ (1 : Int32).toInt ≤ 5 by decide), by rw [ht]; exact hP9, hD9⟩, hS.F ht⟩) hS.2.2 dX8_kindOf_27
    · have hq4 : a1.toInt = 10 := tq_eq rfl (by decide) hc
      have hb29 := tq_lo a1
      refine lv_iconst (v := 4) hx hb dX8_kindOf_12 (by decide) ?_
      obtain ⟨hP9, hD9⟩ : ct_B D A H [] := ⟨hP.sub [] rfl, hD.sub [] (by decide) rfl⟩
      exact W.iret (v := 4) hx hb hr (fun t ht hW => ⟨⟨4, (), rfl, (show 1 ≤ (4 : Int32).toInt ∧ (4 : Int32).toInt ≤ 5 by decide), by rw [ht]; exact hP9, hD9⟩, hS.F ht⟩) hS.2.2 dX8_kindOf_13
abbrev w_c_X8_push (cI cJ cB cZ cO : ClassId) (qt : Nat) (qt_bytes : Nat) (ft_bytes : Nat → Int32) (vt_length : Int32) (vt_kind : Int32) (vt_from : Int32) (vt_upto : Int32) (vt_value : Int32) : va_W := [(qt, .inr (8, [.ref qt_bytes, .int vt_length, .int vt_kind, .int vt_from, .int vt_upto, .int vt_value])), (qt_bytes, .inl (cB, 1200, .inl (ft_bytes)))]
set_option maxHeartbeats 4000000 in
set_option maxRecDepth 100000 in
/-- X8 push -/
theorem c_X8_push (l : Launch) (D : va_G) (G : ct_G) (cI cJ cB cZ cO : ClassId) (qt : Nat) (qt_bytes : Nat) (ft_bytes : Nat → Int32) (vt_length : Int32) (vt_kind : Int32) (vt_from : Int32) (vt_upto : Int32) (vt_value : Int32) (a1 : Int32) (h_vt_length : 0 ≤ vt_length.toInt ∧ vt_length.toInt ≤ 1200) (h_vt_from : 0 ≤ vt_from.toInt ∧ vt_from.toInt ≤ 1200) (h_vt_upto : 0 ≤ vt_upto.toInt ∧ vt_upto.toInt ≤ 1200) (sz : Nat) : Met l yX8_push wsX8_push ({ frames := 0, cells := 0, slots := 0, locals := 0 }) (va_Pc [.ref qt, .int a1] (ct_P D (ct_T cI cJ cB cZ cO) G (w_c_X8_push cI cJ cB cZ cO qt qt_bytes ft_bytes vt_length vt_kind vt_from vt_upto vt_value) sz)) (va_Qv (fun (u : Int32 × (Nat → Int32)) => (0 ≤ u.1.toInt ∧ u.1.toInt ≤ 1200)) (fun (u : Int32 × (Nat → Int32)) t => ct_Q D (va_A (w_c_X8_push cI cJ cB cZ cO qt qt_bytes ft_bytes vt_length vt_kind vt_from vt_upto vt_value) sz) [(qt, .inr (8, [.ref qt_bytes, .int u.1, .int vt_kind, .int vt_from, .int vt_upto, .int vt_value])), (qt_bytes, .inl (cB, 1200, .inl (u.2)))] t) (va_A (w_c_X8_push cI cJ cB cZ cO qt qt_bytes ft_bytes vt_length vt_kind vt_from vt_upto vt_value) sz)) 0 0 (va_A (w_c_X8_push cI cJ cB cZ cO qt qt_bytes ft_bytes vt_length vt_kind vt_from vt_upto vt_value) sz) := by
  refine Met.ofW (cc := cX8_push) (maxL := 3) (ret := none) (by decide) rfl ?_
  intro p e s m args below meth c s₁ B hml hv
  obtain ⟨rfl, hsz, hP, hE, hD0, hH⟩ := hv
  have hx := B.exec
  have hb := B.bytes
  have hr := B.returns
  have hts := atoms_spec (ws := wsX8_push) B.pre
  have hown : s.vm.findClass RX8 = some m.cls := findClass_of_methodNamed B.named
  have hlocks := B.notSynchronized
  have hK := hE.1
  have hi8 : ∀ w ∈ u_ws RX8 TX8 6, w ∈ wsX8_push := fun w h => List.mem_cons_of_mem _ (List.mem_append_right _ h)
  subst hsz
  have hD := hD0.self (sz := s.heap.size)
  generalize hAe : va_A (w_c_X8_push cI cJ cB cZ cO qt qt_bytes ft_bytes vt_length vt_kind vt_from vt_upto vt_value) s.heap.size = A at hD hH ⊢
  have hA : ∀ q : Nat, s.heap.size ≤ q → A q := fun q h => by rw [← hAe]; exact Or.inr h
  have hS : va_S A s.heap s.heap [] := va_S.rf
  obtain ⟨hP, hD⟩ : ct_B D A s.heap [(qt, .inr (8, [.ref qt_bytes, .int vt_length, .int vt_kind, .int vt_from, .int vt_upto, .int vt_value])), (qt_bytes, .inl (cB, 1200, .inl (ft_bytes)))] := ⟨hP, hD⟩
  have hl := lv_entry ([.ref qt, .int a1]) (n := 3) (Nat.le_of_ble_eq_true rfl)
  rw [lg_entry_eq]
  generalize (lg_sl ([.ref qt, .int a1]) ++ List.replicate (3 - (lg_sl ([.ref qt, .int a1])).length) Slot.unset).toArray = ls at hl ⊢
  have hl : lv_has ls 3 [(0, .ref qt), (1, .int a1)] := hl
  obtain ⟨H, hHe⟩ : ∃ H : Heap, H = s.heap := ⟨_, rfl⟩
  rw [← hHe] at hP
  have hS : va_S A s.heap H [] := by rw [hHe]; exact va_S.rf
  refine ct_start hHe ?_
  refine lv_bipush (v := 24) hx hb dX8_push_0 (by decide) ?_
  refine lv_istore_n (lv' := [(2, .int 24), (0, .ref qt), (1, .int a1)]) hx hb dX8_push_2 rfl hl (by decide) rfl (fun ls hl => ?_)
  refine ct_loop (X := (Nat → Int32) × Int32 × Int32) (fun x => (x.2.2.toInt + 9).toNat) (fun x H locs ls => ((0 ≤ x.2.1.toInt ∧ x.2.1.toInt ≤ 1200)) ∧ (((-8) ≤ x.2.2.toInt ∧ x.2.2.toInt ≤ 24)) ∧ ct_B D A H [(qt, .inr (8, [.ref qt_bytes, .int x.2.1, .int vt_kind, .int vt_from, .int vt_upto, .int vt_value])), (qt_bytes, .inl (cB, 1200, .inl (x.1)))] ∧ va_S A s.heap H locs ∧ lv_has ls 3 [(2, .int x.2.2), (0, .ref qt), (1, .int a1)]) 3 (ft_bytes, vt_length, (24 : Int32)) ⟨h_vt_length, (show (-8) ≤ (24 : Int32).toInt ∧ (24 : Int32).toInt ≤ 24 by decide), ⟨hP, hD⟩, hS, lv_sub hl [0, 1, 2] rfl⟩ (fun x ih71 H locs ls hI => ?_)
  obtain ⟨g68, x69, x70⟩ := x
  obtain ⟨h_x69, h_x70, ⟨hP, hD⟩, hS, hl⟩ := hI
  have h_x69 : (0 ≤ x69.toInt ∧ x69.toInt ≤ 1200) := h_x69
  have h_x70 : ((-8) ≤ x70.toInt ∧ x70.toInt ≤ 24) := h_x70
  obtain ⟨hP, hD⟩ : ct_B D A H [(qt, .inr (8, [.ref qt_bytes, .int x69, .int vt_kind, .int vt_from, .int vt_upto, .int vt_value])), (qt_bytes, .inl (cB, 1200, .inl (g68)))] := ⟨hP, hD⟩
  have hl : lv_has ls 3 [(2, .int x70), (0, .ref qt), (1, .int a1)] := hl
  refine lv_iload_n hx hb dX8_push_3 rfl (lv_at hl 0 rfl) ?_
  refine lv_if_lt (tgt := 46) hx hb dX8_push_4 (by decide) (fun hc => ?_) (fun hc => ?_)
  · have hq72 : x70.toInt < 0 := tq_lt rfl (by decide) hc
    obtain ⟨hP9, hD9⟩ : ct_B D A H [(qt, .inr (8, [.ref qt_bytes, .int x69, .int vt_kind, .int vt_from, .int vt_upto, .int vt_value])), (qt_bytes, .inl (cB, 1200, .inl (g68)))] := ⟨hP.sub [0, 1] rfl, hD.sub [0, 1] (by decide) rfl⟩
    exact W.vret hx hb hr (fun t ht hW => ⟨⟨(x69, g68), rfl, h_x69, by rw [ht]; exact hP9, hD9⟩, hS.F ht⟩) hS.2.2 dX8_push_46
  · have hq72 : 0 ≤ x70.toInt := tq_nlt rfl (by decide) hc
    refine lv_aload_n hx hb dX8_push_7 rfl (lv_at hl 1 rfl) ?_
    refine va_get (D := D) (ci := 8) (v := .int x69) (C := RX8) (T := TX8) (N := 6) hx hb hts hi8 hown hK hP 0 rfl rfl 1 (by decide) (hts (.fieldLink RX8 15 "OverHill$Tape" "length" "I") (by decide +kernel)) (fun _ h9 => h9) rfl dX8_push_8 ?_
    refine lv_sipush (v := 1200) hx hb dX8_push_11 (by decide) ?_
    refine lv_icmp_ge (tgt := 46) hx hb dX8_push_14 (by decide) (fun hc => ?_) (fun hc => ?_)
    · have hq73 : 1200 ≤ x69.toInt := tq_le (by decide) rfl hc
      obtain ⟨hP9, hD9⟩ : ct_B D A H [(qt, .inr (8, [.ref qt_bytes, .int x69, .int vt_kind, .int vt_from, .int vt_upto, .int vt_value])), (qt_bytes, .inl (cB, 1200, .inl (g68)))] := ⟨hP.sub [0, 1] rfl, hD.sub [0, 1] (by decide) rfl⟩
      exact W.vret hx hb hr (fun t ht hW => ⟨⟨(x69, g68), rfl, h_x69, by rw [ht]; exact hP9, hD9⟩, hS.F ht⟩) hS.2.2 dX8_push_46
    · have hq73 : x69.toInt < 1200 := tq_nle (by decide) rfl hc
      refine lv_aload_n hx hb dX8_push_17 rfl (lv_at hl 1 rfl) ?_
      refine va_get (D := D) (ci := 8) (v := .ref qt_bytes) (C := RX8) (T := TX8) (N := 6) hx hb hts hi8 hown hK hP 0 rfl rfl 0 (by decide) (hts (.fieldLink RX8 9 "OverHill$Tape" "bytes" "[B") (by decide +kernel)) (fun _ h9 => h9) rfl dX8_push_18 ?_
      refine lv_aload_n hx hb dX8_push_21 rfl (lv_at hl 1 rfl) ?_
      refine va_get (D := D) (ci := 8) (v := .int x69) (C := RX8) (T := TX8) (N := 6) hx hb hts hi8 hown hK hP 0 rfl rfl 1 (by decide) (hts (.fieldLink RX8 15 "OverHill$Tape" "length" "I") (by decide +kernel)) (fun _ h9 => h9) rfl dX8_push_22 ?_
      refine lv_iload_n hx hb dX8_push_25 rfl (lv_at hl 2 rfl) ?_
      refine lv_iload_n hx hb dX8_push_26 rfl (lv_at hl 0 rfl) ?_
      refine lv_ishr hx hb dX8_push_27 ?_
      refine lv_topi (fun z74 ez74 => ?_)
      refine lv_i2b (v := _) hx hb dX8_push_28 rfl ?_
      refine lv_topi (fun z75 ez75 => ?_)
      refine va_bast (D := D) hx hb hK hP hD hS 1 2 rfl rfl (tq_in rfl (by omega)) dX8_push_29 (fun H locs hP hD hS => ?_)
      obtain ⟨g76, hP, hD⟩ : ∃ g76 : Nat → Int32, ct_B D A H [(qt, .inr (8, [.ref qt_bytes, .int x69, .int vt_kind, .int vt_from, .int vt_upto, .int vt_value])), (qt_bytes, .inl (cB, 1200, .inl (g76)))] := ⟨_, hP, hD⟩
      refine lv_aload_n hx hb dX8_push_30 rfl (lv_at hl 1 rfl) ?_
      refine lv_dup hx hb dX8_push_31 rfl ?_
      refine va_get (D := D) (ci := 8) (v := .int x69) (C := RX8) (T := TX8) (N := 6) hx hb hts hi8 hown hK hP 0 rfl rfl 1 (by decide) (hts (.fieldLink RX8 15 "OverHill$Tape" "length" "I") (by decide +kernel)) (fun _ h9 => h9) rfl dX8_push_32 ?_
      refine lv_iconst (v := 1) hx hb dX8_push_35 (by decide) ?_
      refine lv_iadd hx hb dX8_push_36 ?_
      refine lv_topi (fun z77 ez77 => ?_)
      have fz77 : z77.toInt = x69.toInt + 1 := by rw [ez77]; exact tq_add rfl (by decide) (by omega)
      refine va_put (D := D) (ci := 8) (v := .int z77) (ty := .int) (C := RX8) (T := TX8) (N := 6) hx hb hts hi8 tyX8 tyX8_ok nmX8 hown hK hP hD hS 0 rfl rfl 1 (by decide) (hts (.fieldLink RX8 15 "OverHill$Tape" "length" "I") (by decide +kernel)) (fun _ h9 => h9) rfl (by decide +kernel) rfl rfl (Nat.le_of_ble_eq_true rfl) dX8_push_37 (fun H locs hP hD hS => ?_)
      obtain ⟨hP, hD⟩ : ct_B D A H [(qt, .inr (8, [.ref qt_bytes, .int z77, .int vt_kind, .int vt_from, .int vt_upto, .int vt_value])), (qt_bytes, .inl (cB, 1200, .inl (g76)))] := ⟨hP, hD⟩
      obtain ⟨z78, ez78⟩ : ∃ z : Int32, z = x70 + (-8) := ⟨_, rfl⟩
      have fz78 : z78.toInt = x70.toInt + (-8) := by rw [ez78]; exact tq_add rfl (by decide) (by omega)
      refine lv_iinc (v := z78) (lv' := [(2, .int z78), (0, .ref qt), (1, .int a1)]) hx hb dX8_push_40 hl (k := 0) rfl ez78.symm (by decide) rfl (fun ls hl => ?_)
      refine lv_goto (tgt := 3) hx hb dX8_push_43 (by decide) ?_
      exact ih71 (g76, z77, z78) _ _ _ (show (z78.toInt + 9).toNat < (x70.toInt + 9).toNat by omega) ⟨(show 0 ≤ z77.toInt ∧ z77.toInt ≤ 1200 by omega), (show (-8) ≤ z78.toInt ∧ z78.toInt ≤ 24 by omega), ⟨hP, hD⟩, hS, lv_sub hl [0, 1, 2] rfl⟩
abbrev w_c_X8_advance (cI cJ cB cZ cO : ClassId) (qt : Nat) (qt_bytes : Nat) (ft_bytes : Nat → Int32) (vt_length : Int32) (vt_kind : Int32) (vt_from : Int32) (vt_upto : Int32) (vt_value : Int32) : va_W := [(qt, .inr (8, [.ref qt_bytes, .int vt_length, .int vt_kind, .int vt_from, .int vt_upto, .int vt_value])), (qt_bytes, .inl (cB, 1200, .inl (ft_bytes)))]
set_option maxHeartbeats 4000000 in
set_option maxRecDepth 100000 in
/-- X8 advance -/
theorem c_X8_advance (l : Launch) (D : va_G) (G : ct_G) (cI cJ cB cZ cO : ClassId) (qt : Nat) (qt_bytes : Nat) (ft_bytes : Nat → Int32) (vt_length : Int32) (vt_kind : Int32) (vt_from : Int32) (vt_upto : Int32) (vt_value : Int32) (h_vt_length : 0 ≤ vt_length.toInt ∧ vt_length.toInt ≤ 1200) (h_vt_from : 0 ≤ vt_from.toInt ∧ vt_from.toInt ≤ 1200) (h_vt_upto : 0 ≤ vt_upto.toInt ∧ vt_upto.toInt ≤ 1200) (sz : Nat) : Met l yX8_advance wsX8_advance ({ frames := 1, cells := 0, slots := 0, locals := 24 }) (va_Pc [.ref qt] (ct_P D (ct_T cI cJ cB cZ cO) G (w_c_X8_advance cI cJ cB cZ cO qt qt_bytes ft_bytes vt_length vt_kind vt_from vt_upto vt_value) sz)) (va_Qv (fun (u : Int32 × Int32 × Int32 × Int32) => (0 ≤ u.2.1.toInt ∧ u.2.1.toInt ≤ 1200) ∧ (0 ≤ u.2.2.1.toInt ∧ u.2.2.1.toInt ≤ 1200)) (fun (u : Int32 × Int32 × Int32 × Int32) t => ct_Q D (va_A (w_c_X8_advance cI cJ cB cZ cO qt qt_bytes ft_bytes vt_length vt_kind vt_from vt_upto vt_value) sz) [(qt, .inr (8, [.ref qt_bytes, .int vt_length, .int u.1, .int u.2.1, .int u.2.2.1, .int u.2.2.2])), (qt_bytes, .inl (cB, 1200, .inl (ft_bytes)))] t) (va_A (w_c_X8_advance cI cJ cB cZ cO qt qt_bytes ft_bytes vt_length vt_kind vt_from vt_upto vt_value) sz)) 0 0 (va_A (w_c_X8_advance cI cJ cB cZ cO qt qt_bytes ft_bytes vt_length vt_kind vt_from vt_upto vt_value) sz) := by
  refine Met.ofW (cc := cX8_advance) (maxL := 1) (ret := none) (by decide) rfl ?_
  intro p e s m args below meth c s₁ B hml hv
  obtain ⟨rfl, hsz, hP, hE, hD0, hH⟩ := hv
  have hx := B.exec
  have hb := B.bytes
  have hr := B.returns
  have hts := atoms_spec (ws := wsX8_advance) B.pre
  have hown : s.vm.findClass RX8 = some m.cls := findClass_of_methodNamed B.named
  have hlocks := B.notSynchronized
  have hK := hE.1
  have hi8 : ∀ w ∈ u_ws RX8 TX8 6, w ∈ wsX8_advance := fun w h => List.mem_cons_of_mem _ (List.mem_append_right _ h)
  subst hsz
  have hD := hD0.self (sz := s.heap.size)
  generalize hAe : va_A (w_c_X8_advance cI cJ cB cZ cO qt qt_bytes ft_bytes vt_length vt_kind vt_from vt_upto vt_value) s.heap.size = A at hD hH ⊢
  have hA : ∀ q : Nat, s.heap.size ≤ q → A q := fun q h => by rw [← hAe]; exact Or.inr h
  have hS : va_S A s.heap s.heap [] := va_S.rf
  obtain ⟨hP, hD⟩ : ct_B D A s.heap [(qt, .inr (8, [.ref qt_bytes, .int vt_length, .int vt_kind, .int vt_from, .int vt_upto, .int vt_value])), (qt_bytes, .inl (cB, 1200, .inl (ft_bytes)))] := ⟨hP, hD⟩
  have hl := lv_entry ([.ref qt]) (n := 1) (Nat.le_of_ble_eq_true rfl)
  rw [lg_entry_eq]
  generalize (lg_sl ([.ref qt]) ++ List.replicate (1 - (lg_sl ([.ref qt])).length) Slot.unset).toArray = ls at hl ⊢
  have hl : lv_has ls 1 [(0, .ref qt)] := hl
  obtain ⟨H, hHe⟩ : ∃ H : Heap, H = s.heap := ⟨_, rfl⟩
  rw [← hHe] at hP
  have hS : va_S A s.heap H [] := by rw [hHe]; exact va_S.rf
  refine ct_start hHe ?_
  refine lv_aload_n hx hb dX8_advance_0 rfl (lv_at hl 0 rfl) ?_
  refine lv_aload_n hx hb dX8_advance_1 rfl (lv_at hl 0 rfl) ?_
  refine va_get (D := D) (ci := 8) (v := .int vt_upto) (C := RX8) (T := TX8) (N := 6) hx hb hts hi8 hown hK hP 0 rfl rfl 4 (by decide) (hts (.fieldLink RX8 19 "OverHill$Tape" "upto" "I") (by decide +kernel)) (fun _ h9 => h9) rfl dX8_advance_2 ?_
  refine va_put (D := D) (ci := 8) (v := .int vt_upto) (ty := .int) (C := RX8) (T := TX8) (N := 6) hx hb hts hi8 tyX8 tyX8_ok nmX8 hown hK hP hD hS 0 rfl rfl 3 (by decide) (hts (.fieldLink RX8 25 "OverHill$Tape" "from" "I") (by decide +kernel)) (fun _ h9 => h9) rfl (by decide +kernel) rfl rfl (Nat.le_of_ble_eq_true rfl) dX8_advance_5 (fun H locs hP hD hS => ?_)
  obtain ⟨hP, hD⟩ : ct_B D A H [(qt, .inr (8, [.ref qt_bytes, .int vt_length, .int vt_kind, .int vt_upto, .int vt_upto, .int vt_value])), (qt_bytes, .inl (cB, 1200, .inl (ft_bytes)))] := ⟨hP, hD⟩
  refine ct_loop (X := Int32) (fun x => (1200 - x.toInt).toNat) (fun x H locs ls => ((0 ≤ x.toInt ∧ x.toInt ≤ 1200)) ∧ ct_B D A H [(qt, .inr (8, [.ref qt_bytes, .int vt_length, .int vt_kind, .int x, .int vt_upto, .int vt_value])), (qt_bytes, .inl (cB, 1200, .inl (ft_bytes)))] ∧ va_S A s.heap H locs ∧ lv_has ls 1 [(0, .ref qt)]) 8 vt_upto ⟨h_vt_upto, ⟨hP, hD⟩, hS, lv_sub hl [0] rfl⟩ (fun x ih391 H locs ls hI => ?_)
  obtain ⟨x390, rfl⟩ : ∃ z, z = x := ⟨_, rfl⟩
  obtain ⟨h_x390, ⟨hP, hD⟩, hS, hl⟩ := hI
  have h_x390 : (0 ≤ x390.toInt ∧ x390.toInt ≤ 1200) := h_x390
  obtain ⟨hP, hD⟩ : ct_B D A H [(qt, .inr (8, [.ref qt_bytes, .int vt_length, .int vt_kind, .int x390, .int vt_upto, .int vt_value])), (qt_bytes, .inl (cB, 1200, .inl (ft_bytes)))] := ⟨hP, hD⟩
  have hl : lv_has ls 1 [(0, .ref qt)] := hl
  refine lv_aload_n hx hb dX8_advance_8 rfl (lv_at hl 0 rfl) ?_
  refine va_get (D := D) (ci := 8) (v := .int x390) (C := RX8) (T := TX8) (N := 6) hx hb hts hi8 hown hK hP 0 rfl rfl 3 (by decide) (hts (.fieldLink RX8 25 "OverHill$Tape" "from" "I") (by decide +kernel)) (fun _ h9 => h9) rfl dX8_advance_9 ?_
  refine lv_aload_n hx hb dX8_advance_12 rfl (lv_at hl 0 rfl) ?_
  refine va_get (D := D) (ci := 8) (v := .int vt_length) (C := RX8) (T := TX8) (N := 6) hx hb hts hi8 hown hK hP 0 rfl rfl 1 (by decide) (hts (.fieldLink RX8 15 "OverHill$Tape" "length" "I") (by decide +kernel)) (fun _ h9 => h9) rfl dX8_advance_13 ?_
  refine lv_icmp_ge (tgt := 48) hx hb dX8_advance_16 (by decide) (fun hc => ?_) (fun hc => ?_)
  · have hq392 : vt_length.toInt ≤ x390.toInt := tq_le rfl rfl hc
    refine lv_aload_n hx hb dX8_advance_48 rfl (lv_at hl 0 rfl) ?_
    refine lv_aload_n hx hb dX8_advance_49 rfl (lv_at hl 0 rfl) ?_
    refine va_get (D := D) (ci := 8) (v := .int x390) (C := RX8) (T := TX8) (N := 6) hx hb hts hi8 hown hK hP 0 rfl rfl 3 (by decide) (hts (.fieldLink RX8 25 "OverHill$Tape" "from" "I") (by decide +kernel)) (fun _ h9 => h9) rfl dX8_advance_50 ?_
    refine va_put (D := D) (ci := 8) (v := .int x390) (ty := .int) (C := RX8) (T := TX8) (N := 6) hx hb hts hi8 tyX8 tyX8_ok nmX8 hown hK hP hD hS 0 rfl rfl 4 (by decide) (hts (.fieldLink RX8 19 "OverHill$Tape" "upto" "I") (by decide +kernel)) (fun _ h9 => h9) rfl (by decide +kernel) rfl rfl (Nat.le_of_ble_eq_true rfl) dX8_advance_53 (fun H locs hP hD hS => ?_)
    obtain ⟨hP, hD⟩ : ct_B D A H [(qt, .inr (8, [.ref qt_bytes, .int vt_length, .int vt_kind, .int x390, .int x390, .int vt_value])), (qt_bytes, .inl (cB, 1200, .inl (ft_bytes)))] := ⟨hP, hD⟩
    refine lv_aload_n hx hb dX8_advance_56 rfl (lv_at hl 0 rfl) ?_
    refine lv_iconst (v := 0) hx hb dX8_advance_57 (by decide) ?_
    refine va_put (D := D) (ci := 8) (v := .int 0) (ty := .int) (C := RX8) (T := TX8) (N := 6) hx hb hts hi8 tyX8 tyX8_ok nmX8 hown hK hP hD hS 0 rfl rfl 5 (by decide) (hts (.fieldLink RX8 32 "OverHill$Tape" "value" "I") (by decide +kernel)) (fun _ h9 => h9) rfl (by decide +kernel) rfl rfl (Nat.le_of_ble_eq_true rfl) dX8_advance_58 (fun H locs hP hD hS => ?_)
    obtain ⟨hP, hD⟩ : ct_B D A H [(qt, .inr (8, [.ref qt_bytes, .int vt_length, .int vt_kind, .int x390, .int x390, .int 0])), (qt_bytes, .inl (cB, 1200, .inl (ft_bytes)))] := ⟨hP, hD⟩
    refine lv_aload_n hx hb dX8_advance_61 rfl (lv_at hl 0 rfl) ?_
    refine lv_aload_n hx hb dX8_advance_62 rfl (lv_at hl 0 rfl) ?_
    refine va_get (D := D) (ci := 8) (v := .int x390) (C := RX8) (T := TX8) (N := 6) hx hb hts hi8 hown hK hP 0 rfl rfl 3 (by decide) (hts (.fieldLink RX8 25 "OverHill$Tape" "from" "I") (by decide +kernel)) (fun _ h9 => h9) rfl dX8_advance_63 ?_
    refine lv_aload_n hx hb dX8_advance_66 rfl (lv_at hl 0 rfl) ?_
    refine va_get (D := D) (ci := 8) (v := .int vt_length) (C := RX8) (T := TX8) (N := 6) hx hb hts hi8 hown hK hP 0 rfl rfl 1 (by decide) (hts (.fieldLink RX8 15 "OverHill$Tape" "length" "I") (by decide +kernel)) (fun _ h9 => h9) rfl dX8_advance_67 ?_
    refine lv_icmp_ge (tgt := 88) hx hb dX8_advance_70 (by decide) (fun hc => ?_) (fun hc => ?_)
    · have hq393 : vt_length.toInt ≤ x390.toInt := tq_le rfl rfl hc
      refine lv_iconst (v := 0) hx hb dX8_advance_88 (by decide) ?_
      refine va_put (D := D) (ci := 8) (v := .int 0) (ty := .int) (C := RX8) (T := TX8) (N := 6) hx hb hts hi8 tyX8 tyX8_ok nmX8 hown hK hP hD hS 0 rfl rfl 2 (by decide) (hts (.fieldLink RX8 35 "OverHill$Tape" "kind" "I") (by decide +kernel)) (fun _ h9 => h9) rfl (by decide +kernel) rfl rfl (Nat.le_of_ble_eq_true rfl) dX8_advance_89 (fun H locs hP hD hS => ?_)
      obtain ⟨hP, hD⟩ : ct_B D A H [(qt, .inr (8, [.ref qt_bytes, .int vt_length, .int 0, .int x390, .int x390, .int 0])), (qt_bytes, .inl (cB, 1200, .inl (ft_bytes)))] := ⟨hP, hD⟩
      refine lv_aload_n hx hb dX8_advance_92 rfl (lv_at hl 0 rfl) ?_
      refine va_get (D := D) (ci := 8) (v := .int 0) (C := RX8) (T := TX8) (N := 6) hx hb hts hi8 hown hK hP 0 rfl rfl 2 (by decide) (hts (.fieldLink RX8 35 "OverHill$Tape" "kind" "I") (by decide +kernel)) (fun _ h9 => h9) rfl dX8_advance_93 ?_
      refine lv_iconst (v := 3) hx hb dX8_advance_96 (by decide) ?_
      refine lv_icmp_eq (tgt := 108) hx hb dX8_advance_97 (by decide) (fun hc => absurd hc (by decide)) (fun _ => ?_)
      refine lv_aload_n hx hb dX8_advance_100 rfl (lv_at hl 0 rfl) ?_
      refine va_get (D := D) (ci := 8) (v := .int 0) (C := RX8) (T := TX8) (N := 6) hx hb hts hi8 hown hK hP 0 rfl rfl 2 (by decide) (hts (.fieldLink RX8 35 "OverHill$Tape" "kind" "I") (by decide +kernel)) (fun _ h9 => h9) rfl dX8_advance_101 ?_
      refine lv_iconst (v := 5) hx hb dX8_advance_104 (by decide) ?_
      refine lv_icmp_ne (tgt := 119) hx hb dX8_advance_105 (by decide) (fun _ => ?_) (fun hc => absurd hc (by decide))
      refine lv_aload_n hx hb dX8_advance_119 rfl (lv_at hl 0 rfl) ?_
      refine va_get (D := D) (ci := 8) (v := .int x390) (C := RX8) (T := TX8) (N := 6) hx hb hts hi8 hown hK hP 0 rfl rfl 4 (by decide) (hts (.fieldLink RX8 19 "OverHill$Tape" "upto" "I") (by decide +kernel)) (fun _ h9 => h9) rfl dX8_advance_120 ?_
      refine lv_aload_n hx hb dX8_advance_123 rfl (lv_at hl 0 rfl) ?_
      refine va_get (D := D) (ci := 8) (v := .int vt_length) (C := RX8) (T := TX8) (N := 6) hx hb hts hi8 hown hK hP 0 rfl rfl 1 (by decide) (hts (.fieldLink RX8 15 "OverHill$Tape" "length" "I") (by decide +kernel)) (fun _ h9 => h9) rfl dX8_advance_124 ?_
      refine lv_icmp_ge (tgt := 192) hx hb dX8_advance_127 (by decide) (fun hc => ?_) (fun hc => ?_)
      · have hq398 : vt_length.toInt ≤ x390.toInt := tq_le rfl rfl hc
        obtain ⟨hP9, hD9⟩ : ct_B D A H [(qt, .inr (8, [.ref qt_bytes, .int vt_length, .int 0, .int x390, .int x390, .int 0])), (qt_bytes, .inl (cB, 1200, .inl (ft_bytes)))] := ⟨hP.sub [0, 1] rfl, hD.sub [0, 1] (by decide) rfl⟩
        exact W.vret hx hb hr (fun t ht hW => ⟨⟨((0 : Int32), x390, x390, (0 : Int32)), rfl, ⟨h_x390, h_x390⟩, by rw [ht]; exact hP9, hD9⟩, hS.F ht⟩) hS.2.2 dX8_advance_192
      · have hq398 : x390.toInt < vt_length.toInt := tq_nle rfl rfl hc
        refine lv_aload_n hx hb dX8_advance_130 rfl (lv_at hl 0 rfl) ?_
        refine va_get (D := D) (ci := 8) (v := .ref qt_bytes) (C := RX8) (T := TX8) (N := 6) hx hb hts hi8 hown hK hP 0 rfl rfl 0 (by decide) (hts (.fieldLink RX8 9 "OverHill$Tape" "bytes" "[B") (by decide +kernel)) (fun _ h9 => h9) rfl dX8_advance_131 ?_
        refine lv_aload_n hx hb dX8_advance_134 rfl (lv_at hl 0 rfl) ?_
        refine va_get (D := D) (ci := 8) (v := .int x390) (C := RX8) (T := TX8) (N := 6) hx hb hts hi8 hown hK hP 0 rfl rfl 4 (by decide) (hts (.fieldLink RX8 19 "OverHill$Tape" "upto" "I") (by decide +kernel)) (fun _ h9 => h9) rfl dX8_advance_135 ?_
        refine va_bald (D := D) hx hb hK hP 1 2 rfl rfl (tq_in rfl (by omega)) dX8_advance_138 ?_
        refine lv_topi (fun z399 ez399 => ?_)
        refine ct_calli (D := D) (wr := [(qt, .inr (8, [.ref qt_bytes, .int vt_length, .int 0, .int x390, .int x390, .int 0])), (qt_bytes, .inl (cB, 1200, .inl (ft_bytes)))]) (va_runS (As := [.int z399]) (rest := []) ⟨hx, hb, hml, hown, hts⟩ (c_X8_kindOf l D G cI cJ cB cZ cO z399  H.size) (va_cwS 1 hts gX8_advance_X8_kindOf rfl rfl rfl (by decide +kernel) ⟨Nat.le_of_ble_eq_true rfl, Nat.le_of_ble_eq_true rfl⟩) (ct_preS (T := ct_T cI cJ cB cZ cO) hE hH hP hD hS hA [] (by decide) rfl) rfl rfl hl.1 rfl (lv_room (Nat.le_of_ble_eq_true rfl)) dX8_advance_139 ⟨Nat.le_of_ble_eq_true rfl, Nat.le_of_ble_eq_true rfl⟩) hP hD hS hA [] [0, 1] rfl rfl (by decide) (by decide) (fun r400 u H locs hw hP hD hS => ?_)
        obtain ⟨hP, hD⟩ : ct_B D A H [(qt, .inr (8, [.ref qt_bytes, .int vt_length, .int 0, .int x390, .int x390, .int 0])), (qt_bytes, .inl (cB, 1200, .inl (ft_bytes)))] := ⟨hP, hD⟩
        have hz := hw
        have h_r400 : 1 ≤ r400.toInt ∧ r400.toInt ≤ 5 := hz
        refine lv_aload_n hx hb dX8_advance_142 rfl (lv_at hl 0 rfl) ?_
        refine va_get (D := D) (ci := 8) (v := .int 0) (C := RX8) (T := TX8) (N := 6) hx hb hts hi8 hown hK hP 0 rfl rfl 2 (by decide) (hts (.fieldLink RX8 35 "OverHill$Tape" "kind" "I") (by decide +kernel)) (fun _ h9 => h9) rfl dX8_advance_143 ?_
        refine lv_icmp_ne (tgt := 192) hx hb dX8_advance_146 (by decide) (fun hc => ?_) (fun hc => ?_)
        · have hq401 : r400.toInt ≠ 0 := tq_ne rfl (by decide) hc
          obtain ⟨hP9, hD9⟩ : ct_B D A H [(qt, .inr (8, [.ref qt_bytes, .int vt_length, .int 0, .int x390, .int x390, .int 0])), (qt_bytes, .inl (cB, 1200, .inl (ft_bytes)))] := ⟨hP.sub [0, 1] rfl, hD.sub [0, 1] (by decide) rfl⟩
          exact W.vret hx hb hr (fun t ht hW => ⟨⟨((0 : Int32), x390, x390, (0 : Int32)), rfl, ⟨h_x390, h_x390⟩, by rw [ht]; exact hP9, hD9⟩, hS.F ht⟩) hS.2.2 dX8_advance_192
        · have hq401 : r400.toInt = 0 := tq_eq rfl (by decide) hc
          omega
    · have hq393 : x390.toInt < vt_length.toInt := tq_nle rfl rfl hc
      refine lv_aload_n hx hb dX8_advance_73 rfl (lv_at hl 0 rfl) ?_
      refine va_get (D := D) (ci := 8) (v := .ref qt_bytes) (C := RX8) (T := TX8) (N := 6) hx hb hts hi8 hown hK hP 0 rfl rfl 0 (by decide) (hts (.fieldLink RX8 9 "OverHill$Tape" "bytes" "[B") (by decide +kernel)) (fun _ h9 => h9) rfl dX8_advance_74 ?_
      refine lv_aload_n hx hb dX8_advance_77 rfl (lv_at hl 0 rfl) ?_
      refine va_get (D := D) (ci := 8) (v := .int x390) (C := RX8) (T := TX8) (N := 6) hx hb hts hi8 hown hK hP 0 rfl rfl 3 (by decide) (hts (.fieldLink RX8 25 "OverHill$Tape" "from" "I") (by decide +kernel)) (fun _ h9 => h9) rfl dX8_advance_78 ?_
      refine va_bald (D := D) hx hb hK hP 1 2 rfl rfl (tq_in rfl (by omega)) dX8_advance_81 ?_
      refine lv_topi (fun z402 ez402 => ?_)
      refine ct_calli (D := D) (wr := [(qt, .inr (8, [.ref qt_bytes, .int vt_length, .int vt_kind, .int x390, .int x390, .int 0])), (qt_bytes, .inl (cB, 1200, .inl (ft_bytes)))]) (va_runS (As := [.int z402]) (rest := [.ref qt]) ⟨hx, hb, hml, hown, hts⟩ (c_X8_kindOf l D G cI cJ cB cZ cO z402  H.size) (va_cwS 1 hts gX8_advance_X8_kindOf rfl rfl rfl (by decide +kernel) ⟨Nat.le_of_ble_eq_true rfl, Nat.le_of_ble_eq_true rfl⟩) (ct_preS (T := ct_T cI cJ cB cZ cO) hE hH hP hD hS hA [] (by decide) rfl) rfl rfl hl.1 rfl (lv_room (Nat.le_of_ble_eq_true rfl)) dX8_advance_82 ⟨Nat.le_of_ble_eq_true rfl, Nat.le_of_ble_eq_true rfl⟩) hP hD hS hA [] [0, 1] rfl rfl (by decide) (by decide) (fun r403 u H locs hw hP hD hS => ?_)
      obtain ⟨hP, hD⟩ : ct_B D A H [(qt, .inr (8, [.ref qt_bytes, .int vt_length, .int vt_kind, .int x390, .int x390, .int 0])), (qt_bytes, .inl (cB, 1200, .inl (ft_bytes)))] := ⟨hP, hD⟩
      have hz := hw
      have h_r403 : 1 ≤ r403.toInt ∧ r403.toInt ≤ 5 := hz
      refine lv_goto (tgt := 89) hx hb dX8_advance_85 (by decide) ?_
      refine va_put (D := D) (ci := 8) (v := .int r403) (ty := .int) (C := RX8) (T := TX8) (N := 6) hx hb hts hi8 tyX8 tyX8_ok nmX8 hown hK hP hD hS 0 rfl rfl 2 (by decide) (hts (.fieldLink RX8 35 "OverHill$Tape" "kind" "I") (by decide +kernel)) (fun _ h9 => h9) rfl (by decide +kernel) rfl rfl (Nat.le_of_ble_eq_true rfl) dX8_advance_89 (fun H locs hP hD hS => ?_)
      obtain ⟨hP, hD⟩ : ct_B D A H [(qt, .inr (8, [.ref qt_bytes, .int vt_length, .int r403, .int x390, .int x390, .int 0])), (qt_bytes, .inl (cB, 1200, .inl (ft_bytes)))] := ⟨hP, hD⟩
      refine lv_aload_n hx hb dX8_advance_92 rfl (lv_at hl 0 rfl) ?_
      refine va_get (D := D) (ci := 8) (v := .int r403) (C := RX8) (T := TX8) (N := 6) hx hb hts hi8 hown hK hP 0 rfl rfl 2 (by decide) (hts (.fieldLink RX8 35 "OverHill$Tape" "kind" "I") (by decide +kernel)) (fun _ h9 => h9) rfl dX8_advance_93 ?_
      refine lv_iconst (v := 3) hx hb dX8_advance_96 (by decide) ?_
      refine lv_icmp_eq (tgt := 108) hx hb dX8_advance_97 (by decide) (fun hc => ?_) (fun hc => ?_)
      · have hq404 : r403.toInt = 3 := tq_eq rfl (by decide) hc
        refine lv_aload_n hx hb dX8_advance_108 rfl (lv_at hl 0 rfl) ?_
        refine lv_aload_n hx hb dX8_advance_109 rfl (lv_at hl 0 rfl) ?_
        refine va_get (D := D) (ci := 8) (v := .int x390) (C := RX8) (T := TX8) (N := 6) hx hb hts hi8 hown hK hP 0 rfl rfl 3 (by decide) (hts (.fieldLink RX8 25 "OverHill$Tape" "from" "I") (by decide +kernel)) (fun _ h9 => h9) rfl dX8_advance_110 ?_
        refine lv_iconst (v := 1) hx hb dX8_advance_113 (by decide) ?_
        refine lv_iadd hx hb dX8_advance_114 ?_
        refine lv_topi (fun z405 ez405 => ?_)
        have fz405 : z405.toInt = x390.toInt + 1 := by rw [ez405]; exact tq_add rfl (by decide) (by omega)
        refine va_put (D := D) (ci := 8) (v := .int z405) (ty := .int) (C := RX8) (T := TX8) (N := 6) hx hb hts hi8 tyX8 tyX8_ok nmX8 hown hK hP hD hS 0 rfl rfl 4 (by decide) (hts (.fieldLink RX8 19 "OverHill$Tape" "upto" "I") (by decide +kernel)) (fun _ h9 => h9) rfl (by decide +kernel) rfl rfl (Nat.le_of_ble_eq_true rfl) dX8_advance_115 (fun H locs hP hD hS => ?_)
        obtain ⟨hP, hD⟩ : ct_B D A H [(qt, .inr (8, [.ref qt_bytes, .int vt_length, .int r403, .int x390, .int z405, .int 0])), (qt_bytes, .inl (cB, 1200, .inl (ft_bytes)))] := ⟨hP, hD⟩
        obtain ⟨hP9, hD9⟩ : ct_B D A H [(qt, .inr (8, [.ref qt_bytes, .int vt_length, .int r403, .int x390, .int z405, .int 0])), (qt_bytes, .inl (cB, 1200, .inl (ft_bytes)))] := ⟨hP.sub [0, 1] rfl, hD.sub [0, 1] (by decide) rfl⟩
        exact W.vret hx hb hr (fun t ht hW => ⟨⟨(r403, x390, z405, (0 : Int32)), rfl, ⟨h_x390, (show 0 ≤ z405.toInt ∧ z405.toInt ≤ 1200 by omega)⟩, by rw [ht]; exact hP9, hD9⟩, hS.F ht⟩) hS.2.2 dX8_advance_118
      · have hq404 : r403.toInt ≠ 3 := tq_ne rfl (by decide) hc
        refine lv_aload_n hx hb dX8_advance_100 rfl (lv_at hl 0 rfl) ?_
        refine va_get (D := D) (ci := 8) (v := .int r403) (C := RX8) (T := TX8) (N := 6) hx hb hts hi8 hown hK hP 0 rfl rfl 2 (by decide) (hts (.fieldLink RX8 35 "OverHill$Tape" "kind" "I") (by decide +kernel)) (fun _ h9 => h9) rfl dX8_advance_101 ?_
        refine lv_iconst (v := 5) hx hb dX8_advance_104 (by decide) ?_
        refine lv_icmp_ne (tgt := 119) hx hb dX8_advance_105 (by decide) (fun hc => ?_) (fun hc => ?_)
        · have hq406 : r403.toInt ≠ 5 := tq_ne rfl (by decide) hc
          refine ct_loop (X := Int32 × Int32) (fun x => (1200 - x.1.toInt).toNat) (fun x H locs ls => ((0 ≤ x.1.toInt ∧ x.1.toInt ≤ 1200)) ∧ ((x.2.toInt ≤ 1000)) ∧ ct_B D A H [(qt, .inr (8, [.ref qt_bytes, .int vt_length, .int r403, .int x390, .int x.1, .int x.2])), (qt_bytes, .inl (cB, 1200, .inl (ft_bytes)))] ∧ va_S A s.heap H locs ∧ lv_has ls 1 [(0, .ref qt)]) 119 (x390, (0 : Int32)) ⟨h_x390, (show (0 : Int32).toInt ≤ 1000 by decide), ⟨hP, hD⟩, hS, lv_sub hl [0] rfl⟩ (fun x ih443 H locs ls hI => ?_)
          obtain ⟨x441, x442⟩ := x
          obtain ⟨h_x441, h_x442, ⟨hP, hD⟩, hS, hl⟩ := hI
          have h_x441 : (0 ≤ x441.toInt ∧ x441.toInt ≤ 1200) := h_x441
          have h_x442 : (x442.toInt ≤ 1000) := h_x442
          obtain ⟨hP, hD⟩ : ct_B D A H [(qt, .inr (8, [.ref qt_bytes, .int vt_length, .int r403, .int x390, .int x441, .int x442])), (qt_bytes, .inl (cB, 1200, .inl (ft_bytes)))] := ⟨hP, hD⟩
          have hl : lv_has ls 1 [(0, .ref qt)] := hl
          refine lv_aload_n hx hb dX8_advance_119 rfl (lv_at hl 0 rfl) ?_
          refine va_get (D := D) (ci := 8) (v := .int x441) (C := RX8) (T := TX8) (N := 6) hx hb hts hi8 hown hK hP 0 rfl rfl 4 (by decide) (hts (.fieldLink RX8 19 "OverHill$Tape" "upto" "I") (by decide +kernel)) (fun _ h9 => h9) rfl dX8_advance_120 ?_
          refine lv_aload_n hx hb dX8_advance_123 rfl (lv_at hl 0 rfl) ?_
          refine va_get (D := D) (ci := 8) (v := .int vt_length) (C := RX8) (T := TX8) (N := 6) hx hb hts hi8 hown hK hP 0 rfl rfl 1 (by decide) (hts (.fieldLink RX8 15 "OverHill$Tape" "length" "I") (by decide +kernel)) (fun _ h9 => h9) rfl dX8_advance_124 ?_
          refine lv_icmp_ge (tgt := 192) hx hb dX8_advance_127 (by decide) (fun hc => ?_) (fun hc => ?_)
          · have hq444 : vt_length.toInt ≤ x441.toInt := tq_le rfl rfl hc
            obtain ⟨hP9, hD9⟩ : ct_B D A H [(qt, .inr (8, [.ref qt_bytes, .int vt_length, .int r403, .int x390, .int x441, .int x442])), (qt_bytes, .inl (cB, 1200, .inl (ft_bytes)))] := ⟨hP.sub [0, 1] rfl, hD.sub [0, 1] (by decide) rfl⟩
            exact W.vret hx hb hr (fun t ht hW => ⟨⟨(r403, x390, x441, x442), rfl, ⟨h_x390, h_x441⟩, by rw [ht]; exact hP9, hD9⟩, hS.F ht⟩) hS.2.2 dX8_advance_192
          · have hq444 : x441.toInt < vt_length.toInt := tq_nle rfl rfl hc
            refine lv_aload_n hx hb dX8_advance_130 rfl (lv_at hl 0 rfl) ?_
            refine va_get (D := D) (ci := 8) (v := .ref qt_bytes) (C := RX8) (T := TX8) (N := 6) hx hb hts hi8 hown hK hP 0 rfl rfl 0 (by decide) (hts (.fieldLink RX8 9 "OverHill$Tape" "bytes" "[B") (by decide +kernel)) (fun _ h9 => h9) rfl dX8_advance_131 ?_
            refine lv_aload_n hx hb dX8_advance_134 rfl (lv_at hl 0 rfl) ?_
            refine va_get (D := D) (ci := 8) (v := .int x441) (C := RX8) (T := TX8) (N := 6) hx hb hts hi8 hown hK hP 0 rfl rfl 4 (by decide) (hts (.fieldLink RX8 19 "OverHill$Tape" "upto" "I") (by decide +kernel)) (fun _ h9 => h9) rfl dX8_advance_135 ?_
            refine va_bald (D := D) hx hb hK hP 1 2 rfl rfl (tq_in rfl (by omega)) dX8_advance_138 ?_
            refine lv_topi (fun z445 ez445 => ?_)
            refine ct_calli (D := D) (wr := [(qt, .inr (8, [.ref qt_bytes, .int vt_length, .int r403, .int x390, .int x441, .int x442])), (qt_bytes, .inl (cB, 1200, .inl (ft_bytes)))]) (va_runS (As := [.int z445]) (rest := []) ⟨hx, hb, hml, hown, hts⟩ (c_X8_kindOf l D G cI cJ cB cZ cO z445  H.size) (va_cwS 1 hts gX8_advance_X8_kindOf rfl rfl rfl (by decide +kernel) ⟨Nat.le_of_ble_eq_true rfl, Nat.le_of_ble_eq_true rfl⟩) (ct_preS (T := ct_T cI cJ cB cZ cO) hE hH hP hD hS hA [] (by decide) rfl) rfl rfl hl.1 rfl (lv_room (Nat.le_of_ble_eq_true rfl)) dX8_advance_139 ⟨Nat.le_of_ble_eq_true rfl, Nat.le_of_ble_eq_true rfl⟩) hP hD hS hA [] [0, 1] rfl rfl (by decide) (by decide) (fun r446 u H locs hw hP hD hS => ?_)
            obtain ⟨hP, hD⟩ : ct_B D A H [(qt, .inr (8, [.ref qt_bytes, .int vt_length, .int r403, .int x390, .int x441, .int x442])), (qt_bytes, .inl (cB, 1200, .inl (ft_bytes)))] := ⟨hP, hD⟩
            have hz := hw
            have h_r446 : 1 ≤ r446.toInt ∧ r446.toInt ≤ 5 := hz
            refine lv_aload_n hx hb dX8_advance_142 rfl (lv_at hl 0 rfl) ?_
            refine va_get (D := D) (ci := 8) (v := .int r403) (C := RX8) (T := TX8) (N := 6) hx hb hts hi8 hown hK hP 0 rfl rfl 2 (by decide) (hts (.fieldLink RX8 35 "OverHill$Tape" "kind" "I") (by decide +kernel)) (fun _ h9 => h9) rfl dX8_advance_143 ?_
            refine lv_icmp_ne (tgt := 192) hx hb dX8_advance_146 (by decide) (fun hc => ?_) (fun hc => ?_)
            · have hq447 : r446.toInt ≠ r403.toInt := tq_ne rfl rfl hc
              obtain ⟨hP9, hD9⟩ : ct_B D A H [(qt, .inr (8, [.ref qt_bytes, .int vt_length, .int r403, .int x390, .int x441, .int x442])), (qt_bytes, .inl (cB, 1200, .inl (ft_bytes)))] := ⟨hP.sub [0, 1] rfl, hD.sub [0, 1] (by decide) rfl⟩
              exact W.vret hx hb hr (fun t ht hW => ⟨⟨(r403, x390, x441, x442), rfl, ⟨h_x390, h_x441⟩, by rw [ht]; exact hP9, hD9⟩, hS.F ht⟩) hS.2.2 dX8_advance_192
            · have hq447 : r446.toInt = r403.toInt := tq_eq rfl rfl hc
              refine lv_aload_n hx hb dX8_advance_149 rfl (lv_at hl 0 rfl) ?_
              refine lv_aload_n hx hb dX8_advance_150 rfl (lv_at hl 0 rfl) ?_
              refine va_get (D := D) (ci := 8) (v := .int x442) (C := RX8) (T := TX8) (N := 6) hx hb hts hi8 hown hK hP 0 rfl rfl 5 (by decide) (hts (.fieldLink RX8 32 "OverHill$Tape" "value" "I") (by decide +kernel)) (fun _ h9 => h9) rfl dX8_advance_151 ?_
              refine lv_bipush (v := 10) hx hb dX8_advance_154 (by decide) ?_
              refine lv_imul hx hb dX8_advance_156 ?_
              refine lv_topi (fun z448 ez448 => ?_)
              refine lv_aload_n hx hb dX8_advance_157 rfl (lv_at hl 0 rfl) ?_
              refine va_get (D := D) (ci := 8) (v := .ref qt_bytes) (C := RX8) (T := TX8) (N := 6) hx hb hts hi8 hown hK hP 0 rfl rfl 0 (by decide) (hts (.fieldLink RX8 9 "OverHill$Tape" "bytes" "[B") (by decide +kernel)) (fun _ h9 => h9) rfl dX8_advance_158 ?_
              refine lv_aload_n hx hb dX8_advance_161 rfl (lv_at hl 0 rfl) ?_
              refine va_get (D := D) (ci := 8) (v := .int x441) (C := RX8) (T := TX8) (N := 6) hx hb hts hi8 hown hK hP 0 rfl rfl 4 (by decide) (hts (.fieldLink RX8 19 "OverHill$Tape" "upto" "I") (by decide +kernel)) (fun _ h9 => h9) rfl dX8_advance_162 ?_
              refine va_bald (D := D) hx hb hK hP 1 2 rfl rfl (tq_in rfl (by omega)) dX8_advance_165 ?_
              refine lv_topi (fun z449 ez449 => ?_)
              refine lv_iadd hx hb dX8_advance_166 ?_
              refine lv_topi (fun z450 ez450 => ?_)
              refine lv_bipush (v := 48) hx hb dX8_advance_167 (by decide) ?_
              refine lv_isub hx hb dX8_advance_169 ?_
              refine lv_topi (fun z451 ez451 => ?_)
              refine lv_sipush (v := 1000) hx hb dX8_advance_170 (by decide) ?_
              refine va_mmin hx hb (hml.trans hl.1.symm) hown (hts (.methodLink RX8 38 Lib.Math.min.name) (by decide +kernel)) (hts (.static Lib.Math.min.name) (by decide +kernel)) (hts (.initialized "java/lang/Math") (by decide +kernel)) (hts (.code Lib.Math.min.name Lib.Math.min.code 2 (some .int)) (by decide +kernel)) (Nat.le_of_ble_eq_true rfl) (Nat.le_of_ble_eq_true rfl) (Nat.le_of_ble_eq_true rfl) (Nat.le_of_ble_eq_true rfl) dX8_advance_173 ?_
              refine lv_topi (fun z452 ez452 => ?_)
              have fz452 : (z452.toInt = z451.toInt ∨ z452.toInt = 1000) ∧ z452.toInt ≤ z451.toInt ∧ z452.toInt ≤ 1000 := by rw [ez452]; exact tq_min rfl (by decide)
              refine va_put (D := D) (ci := 8) (v := .int z452) (ty := .int) (C := RX8) (T := TX8) (N := 6) hx hb hts hi8 tyX8 tyX8_ok nmX8 hown hK hP hD hS 0 rfl rfl 5 (by decide) (hts (.fieldLink RX8 32 "OverHill$Tape" "value" "I") (by decide +kernel)) (fun _ h9 => h9) rfl (by decide +kernel) rfl rfl (Nat.le_of_ble_eq_true rfl) dX8_advance_176 (fun H locs hP hD hS => ?_)
              obtain ⟨hP, hD⟩ : ct_B D A H [(qt, .inr (8, [.ref qt_bytes, .int vt_length, .int r403, .int x390, .int x441, .int z452])), (qt_bytes, .inl (cB, 1200, .inl (ft_bytes)))] := ⟨hP, hD⟩
              refine lv_aload_n hx hb dX8_advance_179 rfl (lv_at hl 0 rfl) ?_
              refine lv_dup hx hb dX8_advance_180 rfl ?_
              refine va_get (D := D) (ci := 8) (v := .int x441) (C := RX8) (T := TX8) (N := 6) hx hb hts hi8 hown hK hP 0 rfl rfl 4 (by decide) (hts (.fieldLink RX8 19 "OverHill$Tape" "upto" "I") (by decide +kernel)) (fun _ h9 => h9) rfl dX8_advance_181 ?_
              refine lv_iconst (v := 1) hx hb dX8_advance_184 (by decide) ?_
              refine lv_iadd hx hb dX8_advance_185 ?_
              refine lv_topi (fun z453 ez453 => ?_)
              have fz453 : z453.toInt = x441.toInt + 1 := by rw [ez453]; exact tq_add rfl (by decide) (by omega)
              refine va_put (D := D) (ci := 8) (v := .int z453) (ty := .int) (C := RX8) (T := TX8) (N := 6) hx hb hts hi8 tyX8 tyX8_ok nmX8 hown hK hP hD hS 0 rfl rfl 4 (by decide) (hts (.fieldLink RX8 19 "OverHill$Tape" "upto" "I") (by decide +kernel)) (fun _ h9 => h9) rfl (by decide +kernel) rfl rfl (Nat.le_of_ble_eq_true rfl) dX8_advance_186 (fun H locs hP hD hS => ?_)
              obtain ⟨hP, hD⟩ : ct_B D A H [(qt, .inr (8, [.ref qt_bytes, .int vt_length, .int r403, .int x390, .int z453, .int z452])), (qt_bytes, .inl (cB, 1200, .inl (ft_bytes)))] := ⟨hP, hD⟩
              refine lv_goto (tgt := 119) hx hb dX8_advance_189 (by decide) ?_
              exact ih443 (z453, z452) _ _ _ (show (1200 - z453.toInt).toNat < (1200 - x441.toInt).toNat by omega) ⟨(show 0 ≤ z453.toInt ∧ z453.toInt ≤ 1200 by omega), (show z452.toInt ≤ 1000 by omega), ⟨hP, hD⟩, hS, lv_sub hl [0] rfl⟩
        · have hq406 : r403.toInt = 5 := tq_eq rfl (by decide) hc
          refine lv_aload_n hx hb dX8_advance_108 rfl (lv_at hl 0 rfl) ?_
          refine lv_aload_n hx hb dX8_advance_109 rfl (lv_at hl 0 rfl) ?_
          refine va_get (D := D) (ci := 8) (v := .int x390) (C := RX8) (T := TX8) (N := 6) hx hb hts hi8 hown hK hP 0 rfl rfl 3 (by decide) (hts (.fieldLink RX8 25 "OverHill$Tape" "from" "I") (by decide +kernel)) (fun _ h9 => h9) rfl dX8_advance_110 ?_
          refine lv_iconst (v := 1) hx hb dX8_advance_113 (by decide) ?_
          refine lv_iadd hx hb dX8_advance_114 ?_
          refine lv_topi (fun z454 ez454 => ?_)
          have fz454 : z454.toInt = x390.toInt + 1 := by rw [ez454]; exact tq_add rfl (by decide) (by omega)
          refine va_put (D := D) (ci := 8) (v := .int z454) (ty := .int) (C := RX8) (T := TX8) (N := 6) hx hb hts hi8 tyX8 tyX8_ok nmX8 hown hK hP hD hS 0 rfl rfl 4 (by decide) (hts (.fieldLink RX8 19 "OverHill$Tape" "upto" "I") (by decide +kernel)) (fun _ h9 => h9) rfl (by decide +kernel) rfl rfl (Nat.le_of_ble_eq_true rfl) dX8_advance_115 (fun H locs hP hD hS => ?_)
          obtain ⟨hP, hD⟩ : ct_B D A H [(qt, .inr (8, [.ref qt_bytes, .int vt_length, .int r403, .int x390, .int z454, .int 0])), (qt_bytes, .inl (cB, 1200, .inl (ft_bytes)))] := ⟨hP, hD⟩
          obtain ⟨hP9, hD9⟩ : ct_B D A H [(qt, .inr (8, [.ref qt_bytes, .int vt_length, .int r403, .int x390, .int z454, .int 0])), (qt_bytes, .inl (cB, 1200, .inl (ft_bytes)))] := ⟨hP.sub [0, 1] rfl, hD.sub [0, 1] (by decide) rfl⟩
          exact W.vret hx hb hr (fun t ht hW => ⟨⟨(r403, x390, z454, (0 : Int32)), rfl, ⟨h_x390, (show 0 ≤ z454.toInt ∧ z454.toInt ≤ 1200 by omega)⟩, by rw [ht]; exact hP9, hD9⟩, hS.F ht⟩) hS.2.2 dX8_advance_118
  · have hq392 : x390.toInt < vt_length.toInt := tq_nle rfl rfl hc
    refine lv_aload_n hx hb dX8_advance_19 rfl (lv_at hl 0 rfl) ?_
    refine va_get (D := D) (ci := 8) (v := .ref qt_bytes) (C := RX8) (T := TX8) (N := 6) hx hb hts hi8 hown hK hP 0 rfl rfl 0 (by decide) (hts (.fieldLink RX8 9 "OverHill$Tape" "bytes" "[B") (by decide +kernel)) (fun _ h9 => h9) rfl dX8_advance_20 ?_
    refine lv_aload_n hx hb dX8_advance_23 rfl (lv_at hl 0 rfl) ?_
    refine va_get (D := D) (ci := 8) (v := .int x390) (C := RX8) (T := TX8) (N := 6) hx hb hts hi8 hown hK hP 0 rfl rfl 3 (by decide) (hts (.fieldLink RX8 25 "OverHill$Tape" "from" "I") (by decide +kernel)) (fun _ h9 => h9) rfl dX8_advance_24 ?_
    refine va_bald (D := D) hx hb hK hP 1 2 rfl rfl (tq_in rfl (by omega)) dX8_advance_27 ?_
    refine lv_topi (fun z455 ez455 => ?_)
    refine ct_calli (D := D) (wr := [(qt, .inr (8, [.ref qt_bytes, .int vt_length, .int vt_kind, .int x390, .int vt_upto, .int vt_value])), (qt_bytes, .inl (cB, 1200, .inl (ft_bytes)))]) (va_runS (As := [.int z455]) (rest := []) ⟨hx, hb, hml, hown, hts⟩ (c_X8_kindOf l D G cI cJ cB cZ cO z455  H.size) (va_cwS 1 hts gX8_advance_X8_kindOf rfl rfl rfl (by decide +kernel) ⟨Nat.le_of_ble_eq_true rfl, Nat.le_of_ble_eq_true rfl⟩) (ct_preS (T := ct_T cI cJ cB cZ cO) hE hH hP hD hS hA [] (by decide) rfl) rfl rfl hl.1 rfl (lv_room (Nat.le_of_ble_eq_true rfl)) dX8_advance_28 ⟨Nat.le_of_ble_eq_true rfl, Nat.le_of_ble_eq_true rfl⟩) hP hD hS hA [] [0, 1] rfl rfl (by decide) (by decide) (fun r456 u H locs hw hP hD hS => ?_)
    obtain ⟨hP, hD⟩ : ct_B D A H [(qt, .inr (8, [.ref qt_bytes, .int vt_length, .int vt_kind, .int x390, .int vt_upto, .int vt_value])), (qt_bytes, .inl (cB, 1200, .inl (ft_bytes)))] := ⟨hP, hD⟩
    have hz := hw
    have h_r456 : 1 ≤ r456.toInt ∧ r456.toInt ≤ 5 := hz
    refine lv_iconst (v := 4) hx hb dX8_advance_31 (by decide) ?_
    refine lv_icmp_ne (tgt := 48) hx hb dX8_advance_32 (by decide) (fun hc => ?_) (fun hc => ?_)
    · have hq457 : r456.toInt ≠ 4 := tq_ne rfl (by decide) hc
      refine lv_aload_n hx hb dX8_advance_48 rfl (lv_at hl 0 rfl) ?_
      refine lv_aload_n hx hb dX8_advance_49 rfl (lv_at hl 0 rfl) ?_
      refine va_get (D := D) (ci := 8) (v := .int x390) (C := RX8) (T := TX8) (N := 6) hx hb hts hi8 hown hK hP 0 rfl rfl 3 (by decide) (hts (.fieldLink RX8 25 "OverHill$Tape" "from" "I") (by decide +kernel)) (fun _ h9 => h9) rfl dX8_advance_50 ?_
      refine va_put (D := D) (ci := 8) (v := .int x390) (ty := .int) (C := RX8) (T := TX8) (N := 6) hx hb hts hi8 tyX8 tyX8_ok nmX8 hown hK hP hD hS 0 rfl rfl 4 (by decide) (hts (.fieldLink RX8 19 "OverHill$Tape" "upto" "I") (by decide +kernel)) (fun _ h9 => h9) rfl (by decide +kernel) rfl rfl (Nat.le_of_ble_eq_true rfl) dX8_advance_53 (fun H locs hP hD hS => ?_)
      obtain ⟨hP, hD⟩ : ct_B D A H [(qt, .inr (8, [.ref qt_bytes, .int vt_length, .int vt_kind, .int x390, .int x390, .int vt_value])), (qt_bytes, .inl (cB, 1200, .inl (ft_bytes)))] := ⟨hP, hD⟩
      refine lv_aload_n hx hb dX8_advance_56 rfl (lv_at hl 0 rfl) ?_
      refine lv_iconst (v := 0) hx hb dX8_advance_57 (by decide) ?_
      refine va_put (D := D) (ci := 8) (v := .int 0) (ty := .int) (C := RX8) (T := TX8) (N := 6) hx hb hts hi8 tyX8 tyX8_ok nmX8 hown hK hP hD hS 0 rfl rfl 5 (by decide) (hts (.fieldLink RX8 32 "OverHill$Tape" "value" "I") (by decide +kernel)) (fun _ h9 => h9) rfl (by decide +kernel) rfl rfl (Nat.le_of_ble_eq_true rfl) dX8_advance_58 (fun H locs hP hD hS => ?_)
      obtain ⟨hP, hD⟩ : ct_B D A H [(qt, .inr (8, [.ref qt_bytes, .int vt_length, .int vt_kind, .int x390, .int x390, .int 0])), (qt_bytes, .inl (cB, 1200, .inl (ft_bytes)))] := ⟨hP, hD⟩
      refine lv_aload_n hx hb dX8_advance_61 rfl (lv_at hl 0 rfl) ?_
      refine lv_aload_n hx hb dX8_advance_62 rfl (lv_at hl 0 rfl) ?_
      refine va_get (D := D) (ci := 8) (v := .int x390) (C := RX8) (T := TX8) (N := 6) hx hb hts hi8 hown hK hP 0 rfl rfl 3 (by decide) (hts (.fieldLink RX8 25 "OverHill$Tape" "from" "I") (by decide +kernel)) (fun _ h9 => h9) rfl dX8_advance_63 ?_
      refine lv_aload_n hx hb dX8_advance_66 rfl (lv_at hl 0 rfl) ?_
      refine va_get (D := D) (ci := 8) (v := .int vt_length) (C := RX8) (T := TX8) (N := 6) hx hb hts hi8 hown hK hP 0 rfl rfl 1 (by decide) (hts (.fieldLink RX8 15 "OverHill$Tape" "length" "I") (by decide +kernel)) (fun _ h9 => h9) rfl dX8_advance_67 ?_
      refine lv_icmp_ge (tgt := 88) hx hb dX8_advance_70 (by decide) (fun hc => ?_) (fun hc => ?_)
      · have hq458 : vt_length.toInt ≤ x390.toInt := tq_le rfl rfl hc
        refine lv_iconst (v := 0) hx hb dX8_advance_88 (by decide) ?_
        refine va_put (D := D) (ci := 8) (v := .int 0) (ty := .int) (C := RX8) (T := TX8) (N := 6) hx hb hts hi8 tyX8 tyX8_ok nmX8 hown hK hP hD hS 0 rfl rfl 2 (by decide) (hts (.fieldLink RX8 35 "OverHill$Tape" "kind" "I") (by decide +kernel)) (fun _ h9 => h9) rfl (by decide +kernel) rfl rfl (Nat.le_of_ble_eq_true rfl) dX8_advance_89 (fun H locs hP hD hS => ?_)
        obtain ⟨hP, hD⟩ : ct_B D A H [(qt, .inr (8, [.ref qt_bytes, .int vt_length, .int 0, .int x390, .int x390, .int 0])), (qt_bytes, .inl (cB, 1200, .inl (ft_bytes)))] := ⟨hP, hD⟩
        refine lv_aload_n hx hb dX8_advance_92 rfl (lv_at hl 0 rfl) ?_
        refine va_get (D := D) (ci := 8) (v := .int 0) (C := RX8) (T := TX8) (N := 6) hx hb hts hi8 hown hK hP 0 rfl rfl 2 (by decide) (hts (.fieldLink RX8 35 "OverHill$Tape" "kind" "I") (by decide +kernel)) (fun _ h9 => h9) rfl dX8_advance_93 ?_
        refine lv_iconst (v := 3) hx hb dX8_advance_96 (by decide) ?_
        refine lv_icmp_eq (tgt := 108) hx hb dX8_advance_97 (by decide) (fun hc => absurd hc (by decide)) (fun _ => ?_)
        refine lv_aload_n hx hb dX8_advance_100 rfl (lv_at hl 0 rfl) ?_
        refine va_get (D := D) (ci := 8) (v := .int 0) (C := RX8) (T := TX8) (N := 6) hx hb hts hi8 hown hK hP 0 rfl rfl 2 (by decide) (hts (.fieldLink RX8 35 "OverHill$Tape" "kind" "I") (by decide +kernel)) (fun _ h9 => h9) rfl dX8_advance_101 ?_
        refine lv_iconst (v := 5) hx hb dX8_advance_104 (by decide) ?_
        refine lv_icmp_ne (tgt := 119) hx hb dX8_advance_105 (by decide) (fun _ => ?_) (fun hc => absurd hc (by decide))
        refine lv_aload_n hx hb dX8_advance_119 rfl (lv_at hl 0 rfl) ?_
        refine va_get (D := D) (ci := 8) (v := .int x390) (C := RX8) (T := TX8) (N := 6) hx hb hts hi8 hown hK hP 0 rfl rfl 4 (by decide) (hts (.fieldLink RX8 19 "OverHill$Tape" "upto" "I") (by decide +kernel)) (fun _ h9 => h9) rfl dX8_advance_120 ?_
        refine lv_aload_n hx hb dX8_advance_123 rfl (lv_at hl 0 rfl) ?_
        refine va_get (D := D) (ci := 8) (v := .int vt_length) (C := RX8) (T := TX8) (N := 6) hx hb hts hi8 hown hK hP 0 rfl rfl 1 (by decide) (hts (.fieldLink RX8 15 "OverHill$Tape" "length" "I") (by decide +kernel)) (fun _ h9 => h9) rfl dX8_advance_124 ?_
        refine lv_icmp_ge (tgt := 192) hx hb dX8_advance_127 (by decide) (fun hc => ?_) (fun hc => ?_)
        · have hq463 : vt_length.toInt ≤ x390.toInt := tq_le rfl rfl hc
          obtain ⟨hP9, hD9⟩ : ct_B D A H [(qt, .inr (8, [.ref qt_bytes, .int vt_length, .int 0, .int x390, .int x390, .int 0])), (qt_bytes, .inl (cB, 1200, .inl (ft_bytes)))] := ⟨hP.sub [0, 1] rfl, hD.sub [0, 1] (by decide) rfl⟩
          exact W.vret hx hb hr (fun t ht hW => ⟨⟨((0 : Int32), x390, x390, (0 : Int32)), rfl, ⟨h_x390, h_x390⟩, by rw [ht]; exact hP9, hD9⟩, hS.F ht⟩) hS.2.2 dX8_advance_192
        · have hq463 : x390.toInt < vt_length.toInt := tq_nle rfl rfl hc
          refine lv_aload_n hx hb dX8_advance_130 rfl (lv_at hl 0 rfl) ?_
          refine va_get (D := D) (ci := 8) (v := .ref qt_bytes) (C := RX8) (T := TX8) (N := 6) hx hb hts hi8 hown hK hP 0 rfl rfl 0 (by decide) (hts (.fieldLink RX8 9 "OverHill$Tape" "bytes" "[B") (by decide +kernel)) (fun _ h9 => h9) rfl dX8_advance_131 ?_
          refine lv_aload_n hx hb dX8_advance_134 rfl (lv_at hl 0 rfl) ?_
          refine va_get (D := D) (ci := 8) (v := .int x390) (C := RX8) (T := TX8) (N := 6) hx hb hts hi8 hown hK hP 0 rfl rfl 4 (by decide) (hts (.fieldLink RX8 19 "OverHill$Tape" "upto" "I") (by decide +kernel)) (fun _ h9 => h9) rfl dX8_advance_135 ?_
          refine va_bald (D := D) hx hb hK hP 1 2 rfl rfl (tq_in rfl (by omega)) dX8_advance_138 ?_
          refine lv_topi (fun z464 ez464 => ?_)
          refine ct_calli (D := D) (wr := [(qt, .inr (8, [.ref qt_bytes, .int vt_length, .int 0, .int x390, .int x390, .int 0])), (qt_bytes, .inl (cB, 1200, .inl (ft_bytes)))]) (va_runS (As := [.int z464]) (rest := []) ⟨hx, hb, hml, hown, hts⟩ (c_X8_kindOf l D G cI cJ cB cZ cO z464  H.size) (va_cwS 1 hts gX8_advance_X8_kindOf rfl rfl rfl (by decide +kernel) ⟨Nat.le_of_ble_eq_true rfl, Nat.le_of_ble_eq_true rfl⟩) (ct_preS (T := ct_T cI cJ cB cZ cO) hE hH hP hD hS hA [] (by decide) rfl) rfl rfl hl.1 rfl (lv_room (Nat.le_of_ble_eq_true rfl)) dX8_advance_139 ⟨Nat.le_of_ble_eq_true rfl, Nat.le_of_ble_eq_true rfl⟩) hP hD hS hA [] [0, 1] rfl rfl (by decide) (by decide) (fun r465 u H locs hw hP hD hS => ?_)
          obtain ⟨hP, hD⟩ : ct_B D A H [(qt, .inr (8, [.ref qt_bytes, .int vt_length, .int 0, .int x390, .int x390, .int 0])), (qt_bytes, .inl (cB, 1200, .inl (ft_bytes)))] := ⟨hP, hD⟩
          have hz := hw
          have h_r465 : 1 ≤ r465.toInt ∧ r465.toInt ≤ 5 := hz
          refine lv_aload_n hx hb dX8_advance_142 rfl (lv_at hl 0 rfl) ?_
          refine va_get (D := D) (ci := 8) (v := .int 0) (C := RX8) (T := TX8) (N := 6) hx hb hts hi8 hown hK hP 0 rfl rfl 2 (by decide) (hts (.fieldLink RX8 35 "OverHill$Tape" "kind" "I") (by decide +kernel)) (fun _ h9 => h9) rfl dX8_advance_143 ?_
          refine lv_icmp_ne (tgt := 192) hx hb dX8_advance_146 (by decide) (fun hc => ?_) (fun hc => ?_)
          · have hq466 : r465.toInt ≠ 0 := tq_ne rfl (by decide) hc
            obtain ⟨hP9, hD9⟩ : ct_B D A H [(qt, .inr (8, [.ref qt_bytes, .int vt_length, .int 0, .int x390, .int x390, .int 0])), (qt_bytes, .inl (cB, 1200, .inl (ft_bytes)))] := ⟨hP.sub [0, 1] rfl, hD.sub [0, 1] (by decide) rfl⟩
            exact W.vret hx hb hr (fun t ht hW => ⟨⟨((0 : Int32), x390, x390, (0 : Int32)), rfl, ⟨h_x390, h_x390⟩, by rw [ht]; exact hP9, hD9⟩, hS.F ht⟩) hS.2.2 dX8_advance_192
          · have hq466 : r465.toInt = 0 := tq_eq rfl (by decide) hc
            omega
      · have hq458 : x390.toInt < vt_length.toInt := tq_nle rfl rfl hc
        refine lv_aload_n hx hb dX8_advance_73 rfl (lv_at hl 0 rfl) ?_
        refine va_get (D := D) (ci := 8) (v := .ref qt_bytes) (C := RX8) (T := TX8) (N := 6) hx hb hts hi8 hown hK hP 0 rfl rfl 0 (by decide) (hts (.fieldLink RX8 9 "OverHill$Tape" "bytes" "[B") (by decide +kernel)) (fun _ h9 => h9) rfl dX8_advance_74 ?_
        refine lv_aload_n hx hb dX8_advance_77 rfl (lv_at hl 0 rfl) ?_
        refine va_get (D := D) (ci := 8) (v := .int x390) (C := RX8) (T := TX8) (N := 6) hx hb hts hi8 hown hK hP 0 rfl rfl 3 (by decide) (hts (.fieldLink RX8 25 "OverHill$Tape" "from" "I") (by decide +kernel)) (fun _ h9 => h9) rfl dX8_advance_78 ?_
        refine va_bald (D := D) hx hb hK hP 1 2 rfl rfl (tq_in rfl (by omega)) dX8_advance_81 ?_
        refine lv_topi (fun z467 ez467 => ?_)
        refine ct_calli (D := D) (wr := [(qt, .inr (8, [.ref qt_bytes, .int vt_length, .int vt_kind, .int x390, .int x390, .int 0])), (qt_bytes, .inl (cB, 1200, .inl (ft_bytes)))]) (va_runS (As := [.int z467]) (rest := [.ref qt]) ⟨hx, hb, hml, hown, hts⟩ (c_X8_kindOf l D G cI cJ cB cZ cO z467  H.size) (va_cwS 1 hts gX8_advance_X8_kindOf rfl rfl rfl (by decide +kernel) ⟨Nat.le_of_ble_eq_true rfl, Nat.le_of_ble_eq_true rfl⟩) (ct_preS (T := ct_T cI cJ cB cZ cO) hE hH hP hD hS hA [] (by decide) rfl) rfl rfl hl.1 rfl (lv_room (Nat.le_of_ble_eq_true rfl)) dX8_advance_82 ⟨Nat.le_of_ble_eq_true rfl, Nat.le_of_ble_eq_true rfl⟩) hP hD hS hA [] [0, 1] rfl rfl (by decide) (by decide) (fun r468 u H locs hw hP hD hS => ?_)
        obtain ⟨hP, hD⟩ : ct_B D A H [(qt, .inr (8, [.ref qt_bytes, .int vt_length, .int vt_kind, .int x390, .int x390, .int 0])), (qt_bytes, .inl (cB, 1200, .inl (ft_bytes)))] := ⟨hP, hD⟩
        have hz := hw
        have h_r468 : 1 ≤ r468.toInt ∧ r468.toInt ≤ 5 := hz
        refine lv_goto (tgt := 89) hx hb dX8_advance_85 (by decide) ?_
        refine va_put (D := D) (ci := 8) (v := .int r468) (ty := .int) (C := RX8) (T := TX8) (N := 6) hx hb hts hi8 tyX8 tyX8_ok nmX8 hown hK hP hD hS 0 rfl rfl 2 (by decide) (hts (.fieldLink RX8 35 "OverHill$Tape" "kind" "I") (by decide +kernel)) (fun _ h9 => h9) rfl (by decide +kernel) rfl rfl (Nat.le_of_ble_eq_true rfl) dX8_advance_89 (fun H locs hP hD hS => ?_)
        obtain ⟨hP, hD⟩ : ct_B D A H [(qt, .inr (8, [.ref qt_bytes, .int vt_length, .int r468, .int x390, .int x390, .int 0])), (qt_bytes, .inl (cB, 1200, .inl (ft_bytes)))] := ⟨hP, hD⟩
        refine lv_aload_n hx hb dX8_advance_92 rfl (lv_at hl 0 rfl) ?_
        refine va_get (D := D) (ci := 8) (v := .int r468) (C := RX8) (T := TX8) (N := 6) hx hb hts hi8 hown hK hP 0 rfl rfl 2 (by decide) (hts (.fieldLink RX8 35 "OverHill$Tape" "kind" "I") (by decide +kernel)) (fun _ h9 => h9) rfl dX8_advance_93 ?_
        refine lv_iconst (v := 3) hx hb dX8_advance_96 (by decide) ?_
        refine lv_icmp_eq (tgt := 108) hx hb dX8_advance_97 (by decide) (fun hc => ?_) (fun hc => ?_)
        · have hq469 : r468.toInt = 3 := tq_eq rfl (by decide) hc
          refine lv_aload_n hx hb dX8_advance_108 rfl (lv_at hl 0 rfl) ?_
          refine lv_aload_n hx hb dX8_advance_109 rfl (lv_at hl 0 rfl) ?_
          refine va_get (D := D) (ci := 8) (v := .int x390) (C := RX8) (T := TX8) (N := 6) hx hb hts hi8 hown hK hP 0 rfl rfl 3 (by decide) (hts (.fieldLink RX8 25 "OverHill$Tape" "from" "I") (by decide +kernel)) (fun _ h9 => h9) rfl dX8_advance_110 ?_
          refine lv_iconst (v := 1) hx hb dX8_advance_113 (by decide) ?_
          refine lv_iadd hx hb dX8_advance_114 ?_
          refine lv_topi (fun z470 ez470 => ?_)
          have fz470 : z470.toInt = x390.toInt + 1 := by rw [ez470]; exact tq_add rfl (by decide) (by omega)
          refine va_put (D := D) (ci := 8) (v := .int z470) (ty := .int) (C := RX8) (T := TX8) (N := 6) hx hb hts hi8 tyX8 tyX8_ok nmX8 hown hK hP hD hS 0 rfl rfl 4 (by decide) (hts (.fieldLink RX8 19 "OverHill$Tape" "upto" "I") (by decide +kernel)) (fun _ h9 => h9) rfl (by decide +kernel) rfl rfl (Nat.le_of_ble_eq_true rfl) dX8_advance_115 (fun H locs hP hD hS => ?_)
          obtain ⟨hP, hD⟩ : ct_B D A H [(qt, .inr (8, [.ref qt_bytes, .int vt_length, .int r468, .int x390, .int z470, .int 0])), (qt_bytes, .inl (cB, 1200, .inl (ft_bytes)))] := ⟨hP, hD⟩
          obtain ⟨hP9, hD9⟩ : ct_B D A H [(qt, .inr (8, [.ref qt_bytes, .int vt_length, .int r468, .int x390, .int z470, .int 0])), (qt_bytes, .inl (cB, 1200, .inl (ft_bytes)))] := ⟨hP.sub [0, 1] rfl, hD.sub [0, 1] (by decide) rfl⟩
          exact W.vret hx hb hr (fun t ht hW => ⟨⟨(r468, x390, z470, (0 : Int32)), rfl, ⟨h_x390, (show 0 ≤ z470.toInt ∧ z470.toInt ≤ 1200 by omega)⟩, by rw [ht]; exact hP9, hD9⟩, hS.F ht⟩) hS.2.2 dX8_advance_118
        · have hq469 : r468.toInt ≠ 3 := tq_ne rfl (by decide) hc
          refine lv_aload_n hx hb dX8_advance_100 rfl (lv_at hl 0 rfl) ?_
          refine va_get (D := D) (ci := 8) (v := .int r468) (C := RX8) (T := TX8) (N := 6) hx hb hts hi8 hown hK hP 0 rfl rfl 2 (by decide) (hts (.fieldLink RX8 35 "OverHill$Tape" "kind" "I") (by decide +kernel)) (fun _ h9 => h9) rfl dX8_advance_101 ?_
          refine lv_iconst (v := 5) hx hb dX8_advance_104 (by decide) ?_
          refine lv_icmp_ne (tgt := 119) hx hb dX8_advance_105 (by decide) (fun hc => ?_) (fun hc => ?_)
          · have hq471 : r468.toInt ≠ 5 := tq_ne rfl (by decide) hc
            refine ct_loop (X := Int32 × Int32) (fun x => (1200 - x.1.toInt).toNat) (fun x H locs ls => ((0 ≤ x.1.toInt ∧ x.1.toInt ≤ 1200)) ∧ ((x.2.toInt ≤ 1000)) ∧ ct_B D A H [(qt, .inr (8, [.ref qt_bytes, .int vt_length, .int r468, .int x390, .int x.1, .int x.2])), (qt_bytes, .inl (cB, 1200, .inl (ft_bytes)))] ∧ va_S A s.heap H locs ∧ lv_has ls 1 [(0, .ref qt)]) 119 (x390, (0 : Int32)) ⟨h_x390, (show (0 : Int32).toInt ≤ 1000 by decide), ⟨hP, hD⟩, hS, lv_sub hl [0] rfl⟩ (fun x ih508 H locs ls hI => ?_)
            obtain ⟨x506, x507⟩ := x
            obtain ⟨h_x506, h_x507, ⟨hP, hD⟩, hS, hl⟩ := hI
            have h_x506 : (0 ≤ x506.toInt ∧ x506.toInt ≤ 1200) := h_x506
            have h_x507 : (x507.toInt ≤ 1000) := h_x507
            obtain ⟨hP, hD⟩ : ct_B D A H [(qt, .inr (8, [.ref qt_bytes, .int vt_length, .int r468, .int x390, .int x506, .int x507])), (qt_bytes, .inl (cB, 1200, .inl (ft_bytes)))] := ⟨hP, hD⟩
            have hl : lv_has ls 1 [(0, .ref qt)] := hl
            refine lv_aload_n hx hb dX8_advance_119 rfl (lv_at hl 0 rfl) ?_
            refine va_get (D := D) (ci := 8) (v := .int x506) (C := RX8) (T := TX8) (N := 6) hx hb hts hi8 hown hK hP 0 rfl rfl 4 (by decide) (hts (.fieldLink RX8 19 "OverHill$Tape" "upto" "I") (by decide +kernel)) (fun _ h9 => h9) rfl dX8_advance_120 ?_
            refine lv_aload_n hx hb dX8_advance_123 rfl (lv_at hl 0 rfl) ?_
            refine va_get (D := D) (ci := 8) (v := .int vt_length) (C := RX8) (T := TX8) (N := 6) hx hb hts hi8 hown hK hP 0 rfl rfl 1 (by decide) (hts (.fieldLink RX8 15 "OverHill$Tape" "length" "I") (by decide +kernel)) (fun _ h9 => h9) rfl dX8_advance_124 ?_
            refine lv_icmp_ge (tgt := 192) hx hb dX8_advance_127 (by decide) (fun hc => ?_) (fun hc => ?_)
            · have hq509 : vt_length.toInt ≤ x506.toInt := tq_le rfl rfl hc
              obtain ⟨hP9, hD9⟩ : ct_B D A H [(qt, .inr (8, [.ref qt_bytes, .int vt_length, .int r468, .int x390, .int x506, .int x507])), (qt_bytes, .inl (cB, 1200, .inl (ft_bytes)))] := ⟨hP.sub [0, 1] rfl, hD.sub [0, 1] (by decide) rfl⟩
              exact W.vret hx hb hr (fun t ht hW => ⟨⟨(r468, x390, x506, x507), rfl, ⟨h_x390, h_x506⟩, by rw [ht]; exact hP9, hD9⟩, hS.F ht⟩) hS.2.2 dX8_advance_192
            · have hq509 : x506.toInt < vt_length.toInt := tq_nle rfl rfl hc
              refine lv_aload_n hx hb dX8_advance_130 rfl (lv_at hl 0 rfl) ?_
              refine va_get (D := D) (ci := 8) (v := .ref qt_bytes) (C := RX8) (T := TX8) (N := 6) hx hb hts hi8 hown hK hP 0 rfl rfl 0 (by decide) (hts (.fieldLink RX8 9 "OverHill$Tape" "bytes" "[B") (by decide +kernel)) (fun _ h9 => h9) rfl dX8_advance_131 ?_
              refine lv_aload_n hx hb dX8_advance_134 rfl (lv_at hl 0 rfl) ?_
              refine va_get (D := D) (ci := 8) (v := .int x506) (C := RX8) (T := TX8) (N := 6) hx hb hts hi8 hown hK hP 0 rfl rfl 4 (by decide) (hts (.fieldLink RX8 19 "OverHill$Tape" "upto" "I") (by decide +kernel)) (fun _ h9 => h9) rfl dX8_advance_135 ?_
              refine va_bald (D := D) hx hb hK hP 1 2 rfl rfl (tq_in rfl (by omega)) dX8_advance_138 ?_
              refine lv_topi (fun z510 ez510 => ?_)
              refine ct_calli (D := D) (wr := [(qt, .inr (8, [.ref qt_bytes, .int vt_length, .int r468, .int x390, .int x506, .int x507])), (qt_bytes, .inl (cB, 1200, .inl (ft_bytes)))]) (va_runS (As := [.int z510]) (rest := []) ⟨hx, hb, hml, hown, hts⟩ (c_X8_kindOf l D G cI cJ cB cZ cO z510  H.size) (va_cwS 1 hts gX8_advance_X8_kindOf rfl rfl rfl (by decide +kernel) ⟨Nat.le_of_ble_eq_true rfl, Nat.le_of_ble_eq_true rfl⟩) (ct_preS (T := ct_T cI cJ cB cZ cO) hE hH hP hD hS hA [] (by decide) rfl) rfl rfl hl.1 rfl (lv_room (Nat.le_of_ble_eq_true rfl)) dX8_advance_139 ⟨Nat.le_of_ble_eq_true rfl, Nat.le_of_ble_eq_true rfl⟩) hP hD hS hA [] [0, 1] rfl rfl (by decide) (by decide) (fun r511 u H locs hw hP hD hS => ?_)
              obtain ⟨hP, hD⟩ : ct_B D A H [(qt, .inr (8, [.ref qt_bytes, .int vt_length, .int r468, .int x390, .int x506, .int x507])), (qt_bytes, .inl (cB, 1200, .inl (ft_bytes)))] := ⟨hP, hD⟩
              have hz := hw
              have h_r511 : 1 ≤ r511.toInt ∧ r511.toInt ≤ 5 := hz
              refine lv_aload_n hx hb dX8_advance_142 rfl (lv_at hl 0 rfl) ?_
              refine va_get (D := D) (ci := 8) (v := .int r468) (C := RX8) (T := TX8) (N := 6) hx hb hts hi8 hown hK hP 0 rfl rfl 2 (by decide) (hts (.fieldLink RX8 35 "OverHill$Tape" "kind" "I") (by decide +kernel)) (fun _ h9 => h9) rfl dX8_advance_143 ?_
              refine lv_icmp_ne (tgt := 192) hx hb dX8_advance_146 (by decide) (fun hc => ?_) (fun hc => ?_)
              · have hq512 : r511.toInt ≠ r468.toInt := tq_ne rfl rfl hc
                obtain ⟨hP9, hD9⟩ : ct_B D A H [(qt, .inr (8, [.ref qt_bytes, .int vt_length, .int r468, .int x390, .int x506, .int x507])), (qt_bytes, .inl (cB, 1200, .inl (ft_bytes)))] := ⟨hP.sub [0, 1] rfl, hD.sub [0, 1] (by decide) rfl⟩
                exact W.vret hx hb hr (fun t ht hW => ⟨⟨(r468, x390, x506, x507), rfl, ⟨h_x390, h_x506⟩, by rw [ht]; exact hP9, hD9⟩, hS.F ht⟩) hS.2.2 dX8_advance_192
              · have hq512 : r511.toInt = r468.toInt := tq_eq rfl rfl hc
                refine lv_aload_n hx hb dX8_advance_149 rfl (lv_at hl 0 rfl) ?_
                refine lv_aload_n hx hb dX8_advance_150 rfl (lv_at hl 0 rfl) ?_
                refine va_get (D := D) (ci := 8) (v := .int x507) (C := RX8) (T := TX8) (N := 6) hx hb hts hi8 hown hK hP 0 rfl rfl 5 (by decide) (hts (.fieldLink RX8 32 "OverHill$Tape" "value" "I") (by decide +kernel)) (fun _ h9 => h9) rfl dX8_advance_151 ?_
                refine lv_bipush (v := 10) hx hb dX8_advance_154 (by decide) ?_
                refine lv_imul hx hb dX8_advance_156 ?_
                refine lv_topi (fun z513 ez513 => ?_)
                refine lv_aload_n hx hb dX8_advance_157 rfl (lv_at hl 0 rfl) ?_
                refine va_get (D := D) (ci := 8) (v := .ref qt_bytes) (C := RX8) (T := TX8) (N := 6) hx hb hts hi8 hown hK hP 0 rfl rfl 0 (by decide) (hts (.fieldLink RX8 9 "OverHill$Tape" "bytes" "[B") (by decide +kernel)) (fun _ h9 => h9) rfl dX8_advance_158 ?_
                refine lv_aload_n hx hb dX8_advance_161 rfl (lv_at hl 0 rfl) ?_
                refine va_get (D := D) (ci := 8) (v := .int x506) (C := RX8) (T := TX8) (N := 6) hx hb hts hi8 hown hK hP 0 rfl rfl 4 (by decide) (hts (.fieldLink RX8 19 "OverHill$Tape" "upto" "I") (by decide +kernel)) (fun _ h9 => h9) rfl dX8_advance_162 ?_
                refine va_bald (D := D) hx hb hK hP 1 2 rfl rfl (tq_in rfl (by omega)) dX8_advance_165 ?_
                refine lv_topi (fun z514 ez514 => ?_)
                refine lv_iadd hx hb dX8_advance_166 ?_
                refine lv_topi (fun z515 ez515 => ?_)
                refine lv_bipush (v := 48) hx hb dX8_advance_167 (by decide) ?_
                refine lv_isub hx hb dX8_advance_169 ?_
                refine lv_topi (fun z516 ez516 => ?_)
                refine lv_sipush (v := 1000) hx hb dX8_advance_170 (by decide) ?_
                refine va_mmin hx hb (hml.trans hl.1.symm) hown (hts (.methodLink RX8 38 Lib.Math.min.name) (by decide +kernel)) (hts (.static Lib.Math.min.name) (by decide +kernel)) (hts (.initialized "java/lang/Math") (by decide +kernel)) (hts (.code Lib.Math.min.name Lib.Math.min.code 2 (some .int)) (by decide +kernel)) (Nat.le_of_ble_eq_true rfl) (Nat.le_of_ble_eq_true rfl) (Nat.le_of_ble_eq_true rfl) (Nat.le_of_ble_eq_true rfl) dX8_advance_173 ?_
                refine lv_topi (fun z517 ez517 => ?_)
                have fz517 : (z517.toInt = z516.toInt ∨ z517.toInt = 1000) ∧ z517.toInt ≤ z516.toInt ∧ z517.toInt ≤ 1000 := by rw [ez517]; exact tq_min rfl (by decide)
                refine va_put (D := D) (ci := 8) (v := .int z517) (ty := .int) (C := RX8) (T := TX8) (N := 6) hx hb hts hi8 tyX8 tyX8_ok nmX8 hown hK hP hD hS 0 rfl rfl 5 (by decide) (hts (.fieldLink RX8 32 "OverHill$Tape" "value" "I") (by decide +kernel)) (fun _ h9 => h9) rfl (by decide +kernel) rfl rfl (Nat.le_of_ble_eq_true rfl) dX8_advance_176 (fun H locs hP hD hS => ?_)
                obtain ⟨hP, hD⟩ : ct_B D A H [(qt, .inr (8, [.ref qt_bytes, .int vt_length, .int r468, .int x390, .int x506, .int z517])), (qt_bytes, .inl (cB, 1200, .inl (ft_bytes)))] := ⟨hP, hD⟩
                refine lv_aload_n hx hb dX8_advance_179 rfl (lv_at hl 0 rfl) ?_
                refine lv_dup hx hb dX8_advance_180 rfl ?_
                refine va_get (D := D) (ci := 8) (v := .int x506) (C := RX8) (T := TX8) (N := 6) hx hb hts hi8 hown hK hP 0 rfl rfl 4 (by decide) (hts (.fieldLink RX8 19 "OverHill$Tape" "upto" "I") (by decide +kernel)) (fun _ h9 => h9) rfl dX8_advance_181 ?_
                refine lv_iconst (v := 1) hx hb dX8_advance_184 (by decide) ?_
                refine lv_iadd hx hb dX8_advance_185 ?_
                refine lv_topi (fun z518 ez518 => ?_)
                have fz518 : z518.toInt = x506.toInt + 1 := by rw [ez518]; exact tq_add rfl (by decide) (by omega)
                refine va_put (D := D) (ci := 8) (v := .int z518) (ty := .int) (C := RX8) (T := TX8) (N := 6) hx hb hts hi8 tyX8 tyX8_ok nmX8 hown hK hP hD hS 0 rfl rfl 4 (by decide) (hts (.fieldLink RX8 19 "OverHill$Tape" "upto" "I") (by decide +kernel)) (fun _ h9 => h9) rfl (by decide +kernel) rfl rfl (Nat.le_of_ble_eq_true rfl) dX8_advance_186 (fun H locs hP hD hS => ?_)
                obtain ⟨hP, hD⟩ : ct_B D A H [(qt, .inr (8, [.ref qt_bytes, .int vt_length, .int r468, .int x390, .int z518, .int z517])), (qt_bytes, .inl (cB, 1200, .inl (ft_bytes)))] := ⟨hP, hD⟩
                refine lv_goto (tgt := 119) hx hb dX8_advance_189 (by decide) ?_
                exact ih508 (z518, z517) _ _ _ (show (1200 - z518.toInt).toNat < (1200 - x506.toInt).toNat by omega) ⟨(show 0 ≤ z518.toInt ∧ z518.toInt ≤ 1200 by omega), (show z517.toInt ≤ 1000 by omega), ⟨hP, hD⟩, hS, lv_sub hl [0] rfl⟩
          · have hq471 : r468.toInt = 5 := tq_eq rfl (by decide) hc
            refine lv_aload_n hx hb dX8_advance_108 rfl (lv_at hl 0 rfl) ?_
            refine lv_aload_n hx hb dX8_advance_109 rfl (lv_at hl 0 rfl) ?_
            refine va_get (D := D) (ci := 8) (v := .int x390) (C := RX8) (T := TX8) (N := 6) hx hb hts hi8 hown hK hP 0 rfl rfl 3 (by decide) (hts (.fieldLink RX8 25 "OverHill$Tape" "from" "I") (by decide +kernel)) (fun _ h9 => h9) rfl dX8_advance_110 ?_
            refine lv_iconst (v := 1) hx hb dX8_advance_113 (by decide) ?_
            refine lv_iadd hx hb dX8_advance_114 ?_
            refine lv_topi (fun z519 ez519 => ?_)
            have fz519 : z519.toInt = x390.toInt + 1 := by rw [ez519]; exact tq_add rfl (by decide) (by omega)
            refine va_put (D := D) (ci := 8) (v := .int z519) (ty := .int) (C := RX8) (T := TX8) (N := 6) hx hb hts hi8 tyX8 tyX8_ok nmX8 hown hK hP hD hS 0 rfl rfl 4 (by decide) (hts (.fieldLink RX8 19 "OverHill$Tape" "upto" "I") (by decide +kernel)) (fun _ h9 => h9) rfl (by decide +kernel) rfl rfl (Nat.le_of_ble_eq_true rfl) dX8_advance_115 (fun H locs hP hD hS => ?_)
            obtain ⟨hP, hD⟩ : ct_B D A H [(qt, .inr (8, [.ref qt_bytes, .int vt_length, .int r468, .int x390, .int z519, .int 0])), (qt_bytes, .inl (cB, 1200, .inl (ft_bytes)))] := ⟨hP, hD⟩
            obtain ⟨hP9, hD9⟩ : ct_B D A H [(qt, .inr (8, [.ref qt_bytes, .int vt_length, .int r468, .int x390, .int z519, .int 0])), (qt_bytes, .inl (cB, 1200, .inl (ft_bytes)))] := ⟨hP.sub [0, 1] rfl, hD.sub [0, 1] (by decide) rfl⟩
            exact W.vret hx hb hr (fun t ht hW => ⟨⟨(r468, x390, z519, (0 : Int32)), rfl, ⟨h_x390, (show 0 ≤ z519.toInt ∧ z519.toInt ≤ 1200 by omega)⟩, by rw [ht]; exact hP9, hD9⟩, hS.F ht⟩) hS.2.2 dX8_advance_118
    · have hq457 : r456.toInt = 4 := tq_eq rfl (by decide) hc
      refine lv_aload_n hx hb dX8_advance_35 rfl (lv_at hl 0 rfl) ?_
      refine lv_dup hx hb dX8_advance_36 rfl ?_
      refine va_get (D := D) (ci := 8) (v := .int x390) (C := RX8) (T := TX8) (N := 6) hx hb hts hi8 hown hK hP 0 rfl rfl 3 (by decide) (hts (.fieldLink RX8 25 "OverHill$Tape" "from" "I") (by decide +kernel)) (fun _ h9 => h9) rfl dX8_advance_37 ?_
      refine lv_iconst (v := 1) hx hb dX8_advance_40 (by decide) ?_
      refine lv_iadd hx hb dX8_advance_41 ?_
      refine lv_topi (fun z520 ez520 => ?_)
      have fz520 : z520.toInt = x390.toInt + 1 := by rw [ez520]; exact tq_add rfl (by decide) (by omega)
      refine va_put (D := D) (ci := 8) (v := .int z520) (ty := .int) (C := RX8) (T := TX8) (N := 6) hx hb hts hi8 tyX8 tyX8_ok nmX8 hown hK hP hD hS 0 rfl rfl 3 (by decide) (hts (.fieldLink RX8 25 "OverHill$Tape" "from" "I") (by decide +kernel)) (fun _ h9 => h9) rfl (by decide +kernel) rfl rfl (Nat.le_of_ble_eq_true rfl) dX8_advance_42 (fun H locs hP hD hS => ?_)
      obtain ⟨hP, hD⟩ : ct_B D A H [(qt, .inr (8, [.ref qt_bytes, .int vt_length, .int vt_kind, .int z520, .int vt_upto, .int vt_value])), (qt_bytes, .inl (cB, 1200, .inl (ft_bytes)))] := ⟨hP, hD⟩
      refine lv_goto (tgt := 8) hx hb dX8_advance_45 (by decide) ?_
      exact ih391 z520 _ _ _ (show (1200 - z520.toInt).toNat < (1200 - x390.toInt).toNat by omega) ⟨(show 0 ≤ z520.toInt ∧ z520.toInt ≤ 1200 by omega), ⟨hP, hD⟩, hS, lv_sub hl [0] rfl⟩
abbrev w_c_X8_rewind (cI cJ cB cZ cO : ClassId) (qt : Nat) (qt_bytes : Nat) (ft_bytes : Nat → Int32) (vt_length : Int32) (vt_kind : Int32) (vt_from : Int32) (vt_upto : Int32) (vt_value : Int32) : va_W := [(qt, .inr (8, [.ref qt_bytes, .int vt_length, .int vt_kind, .int vt_from, .int vt_upto, .int vt_value])), (qt_bytes, .inl (cB, 1200, .inl (ft_bytes)))]
set_option maxHeartbeats 4000000 in
set_option maxRecDepth 100000 in
/-- X8 rewind -/
theorem c_X8_rewind (l : Launch) (D : va_G) (G : ct_G) (cI cJ cB cZ cO : ClassId) (qt : Nat) (qt_bytes : Nat) (ft_bytes : Nat → Int32) (vt_length : Int32) (vt_kind : Int32) (vt_from : Int32) (vt_upto : Int32) (vt_value : Int32) (h_vt_length : 0 ≤ vt_length.toInt ∧ vt_length.toInt ≤ 1200) (h_vt_from : 0 ≤ vt_from.toInt ∧ vt_from.toInt ≤ 1200) (h_vt_upto : 0 ≤ vt_upto.toInt ∧ vt_upto.toInt ≤ 1200) (sz : Nat) : Met l yX8_rewind wsX8_rewind ({ frames := 2, cells := 0, slots := 0, locals := 44 }) (va_Pc [.ref qt] (ct_P D (ct_T cI cJ cB cZ cO) G (w_c_X8_rewind cI cJ cB cZ cO qt qt_bytes ft_bytes vt_length vt_kind vt_from vt_upto vt_value) sz)) (va_Qv (fun (u : Int32 × Int32 × Int32 × Int32) => (0 ≤ u.2.1.toInt ∧ u.2.1.toInt ≤ 1200) ∧ (0 ≤ u.2.2.1.toInt ∧ u.2.2.1.toInt ≤ 1200)) (fun (u : Int32 × Int32 × Int32 × Int32) t => ct_Q D (va_A (w_c_X8_rewind cI cJ cB cZ cO qt qt_bytes ft_bytes vt_length vt_kind vt_from vt_upto vt_value) sz) [(qt, .inr (8, [.ref qt_bytes, .int vt_length, .int u.1, .int u.2.1, .int u.2.2.1, .int u.2.2.2])), (qt_bytes, .inl (cB, 1200, .inl (ft_bytes)))] t) (va_A (w_c_X8_rewind cI cJ cB cZ cO qt qt_bytes ft_bytes vt_length vt_kind vt_from vt_upto vt_value) sz)) 0 0 (va_A (w_c_X8_rewind cI cJ cB cZ cO qt qt_bytes ft_bytes vt_length vt_kind vt_from vt_upto vt_value) sz) := by
  refine Met.ofW (cc := cX8_rewind) (maxL := 1) (ret := none) (by decide) rfl ?_
  intro p e s m args below meth c s₁ B hml hv
  obtain ⟨rfl, hsz, hP, hE, hD0, hH⟩ := hv
  have hx := B.exec
  have hb := B.bytes
  have hr := B.returns
  have hts := atoms_spec (ws := wsX8_rewind) B.pre
  have hown : s.vm.findClass RX8 = some m.cls := findClass_of_methodNamed B.named
  have hlocks := B.notSynchronized
  have hK := hE.1
  have hi8 : ∀ w ∈ u_ws RX8 TX8 6, w ∈ wsX8_rewind := fun w h => List.mem_cons_of_mem _ (List.mem_append_right _ h)
  subst hsz
  have hD := hD0.self (sz := s.heap.size)
  generalize hAe : va_A (w_c_X8_rewind cI cJ cB cZ cO qt qt_bytes ft_bytes vt_length vt_kind vt_from vt_upto vt_value) s.heap.size = A at hD hH ⊢
  have hA : ∀ q : Nat, s.heap.size ≤ q → A q := fun q h => by rw [← hAe]; exact Or.inr h
  have hS : va_S A s.heap s.heap [] := va_S.rf
  obtain ⟨hP, hD⟩ : ct_B D A s.heap [(qt, .inr (8, [.ref qt_bytes, .int vt_length, .int vt_kind, .int vt_from, .int vt_upto, .int vt_value])), (qt_bytes, .inl (cB, 1200, .inl (ft_bytes)))] := ⟨hP, hD⟩
  have hl := lv_entry ([.ref qt]) (n := 1) (Nat.le_of_ble_eq_true rfl)
  rw [lg_entry_eq]
  generalize (lg_sl ([.ref qt]) ++ List.replicate (1 - (lg_sl ([.ref qt])).length) Slot.unset).toArray = ls at hl ⊢
  have hl : lv_has ls 1 [(0, .ref qt)] := hl
  obtain ⟨H, hHe⟩ : ∃ H : Heap, H = s.heap := ⟨_, rfl⟩
  rw [← hHe] at hP
  have hS : va_S A s.heap H [] := by rw [hHe]; exact va_S.rf
  refine ct_start hHe ?_
  refine lv_aload_n hx hb dX8_rewind_0 rfl (lv_at hl 0 rfl) ?_
  refine lv_iconst (v := 0) hx hb dX8_rewind_1 (by decide) ?_
  refine va_put (D := D) (ci := 8) (v := .int 0) (ty := .int) (C := RX8) (T := TX8) (N := 6) hx hb hts hi8 tyX8 tyX8_ok nmX8 hown hK hP hD hS 0 rfl rfl 4 (by decide) (hts (.fieldLink RX8 19 "OverHill$Tape" "upto" "I") (by decide +kernel)) (fun _ h9 => h9) rfl (by decide +kernel) rfl rfl (Nat.le_of_ble_eq_true rfl) dX8_rewind_2 (fun H locs hP hD hS => ?_)
  obtain ⟨hP, hD⟩ : ct_B D A H [(qt, .inr (8, [.ref qt_bytes, .int vt_length, .int vt_kind, .int vt_from, .int 0, .int vt_value])), (qt_bytes, .inl (cB, 1200, .inl (ft_bytes)))] := ⟨hP, hD⟩
  refine lv_aload_n hx hb dX8_rewind_5 rfl (lv_at hl 0 rfl) ?_
  refine ct_callv (D := D) (wr := []) (va_runV (As := []) (rest := []) ⟨hx, hb, hml, hown, hts⟩ (c_X8_advance l D G cI cJ cB cZ cO qt qt_bytes ft_bytes vt_length vt_kind vt_from 0 vt_value h_vt_length h_vt_from (by decide) H.size) (cwV 0 hts gX8_rewind_X8_advance rfl rfl rfl (by decide +kernel) ⟨Nat.le_of_ble_eq_true rfl, Nat.le_of_ble_eq_true rfl⟩) (ct_preV (T := ct_T cI cJ cB cZ cO) (ci := 8) (q0 := 0) hE hH hP hD hS hA [0, 1] (by decide) rfl rfl rfl) rfl rfl hl.1 rfl (lv_room (Nat.le_of_ble_eq_true rfl)) dX8_rewind_6 ⟨Nat.le_of_ble_eq_true rfl, Nat.le_of_ble_eq_true rfl⟩) hP hD hS hA [0, 1] [] rfl rfl (by decide) (by decide) (fun u H locs hw hP hD hS => ?_)
  obtain ⟨y1, y2, y3, y4⟩ := u
  obtain ⟨hP, hD⟩ : ct_B D A H [(qt, .inr (8, [.ref qt_bytes, .int vt_length, .int y1, .int y2, .int y3, .int y4])), (qt_bytes, .inl (cB, 1200, .inl (ft_bytes)))] := ⟨hP, hD⟩
  obtain ⟨hp0, hp1⟩ := hw
  have h_y2 : 0 ≤ y2.toInt ∧ y2.toInt ≤ 1200 := hp0
  have h_y3 : 0 ≤ y3.toInt ∧ y3.toInt ≤ 1200 := hp1
  obtain ⟨hP9, hD9⟩ : ct_B D A H [(qt, .inr (8, [.ref qt_bytes, .int vt_length, .int y1, .int y2, .int y3, .int y4])), (qt_bytes, .inl (cB, 1200, .inl (ft_bytes)))] := ⟨hP.sub [0, 1] rfl, hD.sub [0, 1] (by decide) rfl⟩
  exact W.vret hx hb hr (fun t ht hW => ⟨⟨(y1, y2, y3, y4), rfl, ⟨h_y2, h_y3⟩, by rw [ht]; exact hP9, hD9⟩, hS.F ht⟩) hS.2.2 dX8_rewind_9
abbrev w_c_X8_isWord (cI cJ cB cZ cO : ClassId) (qt : Nat) (qt_bytes : Nat) (ft_bytes : Nat → Int32) (vt_length : Int32) (vt_kind : Int32) (vt_from : Int32) (vt_upto : Int32) (vt_value : Int32) : va_W := [(qt, .inr (8, [.ref qt_bytes, .int vt_length, .int vt_kind, .int vt_from, .int vt_upto, .int vt_value])), (qt_bytes, .inl (cB, 1200, .inl (ft_bytes)))]
set_option maxHeartbeats 4000000 in
set_option maxRecDepth 100000 in
/-- X8 isWord -/
theorem c_X8_isWord (l : Launch) (D : va_G) (G : ct_G) (cI cJ cB cZ cO : ClassId) (qt : Nat) (qt_bytes : Nat) (ft_bytes : Nat → Int32) (vt_length : Int32) (vt_kind : Int32) (vt_from : Int32) (vt_upto : Int32) (vt_value : Int32) (k : Nat) (h_vt_length : 0 ≤ vt_length.toInt ∧ vt_length.toInt ≤ 1200) (h_vt_from : 0 ≤ vt_from.toInt ∧ vt_from.toInt ≤ 1200) (h_vt_upto : 0 ≤ vt_upto.toInt ∧ vt_upto.toInt ≤ 1200) (hk : k < 16) (sz : Nat) : Met l yX8_isWord wsX8_isWord ({ frames := 4, cells := 0, slots := 0, locals := 85 }) (va_Pc [.ref qt, .ref (G.1 k)] (ct_P D (ct_T cI cJ cB cZ cO) G (w_c_X8_isWord cI cJ cB cZ cO qt qt_bytes ft_bytes vt_length vt_kind vt_from vt_upto vt_value) sz)) (va_Qi (fun (rz : Int32) (u : Unit) => ((rz = 1 ∧ True) ∨ (rz = 0 ∧ True))) (fun (u : Unit) t => ct_Q D (va_A (w_c_X8_isWord cI cJ cB cZ cO qt qt_bytes ft_bytes vt_length vt_kind vt_from vt_upto vt_value) sz) [(qt, .inr (8, [.ref qt_bytes, .int vt_length, .int vt_kind, .int vt_from, .int vt_upto, .int vt_value])), (qt_bytes, .inl (cB, 1200, .inl (ft_bytes)))] t) (va_A (w_c_X8_isWord cI cJ cB cZ cO qt qt_bytes ft_bytes vt_length vt_kind vt_from vt_upto vt_value) sz)) 0 0 (va_A (w_c_X8_isWord cI cJ cB cZ cO qt qt_bytes ft_bytes vt_length vt_kind vt_from vt_upto vt_value) sz) := by
  refine Met.ofW (cc := cX8_isWord) (maxL := 3) (ret := (some .boolean)) (by decide) rfl ?_
  intro p e s m args below meth c s₁ B hml hv
  obtain ⟨rfl, hsz, hP, hE, hD0, hH⟩ := hv
  have hx := B.exec
  have hb := B.bytes
  have hr := B.returns
  have hts := atoms_spec (ws := wsX8_isWord) B.pre
  have hown : s.vm.findClass RX8 = some m.cls := findClass_of_methodNamed B.named
  have hlocks := B.notSynchronized
  have hK := hE.1
  have hi8 : ∀ w ∈ u_ws RX8 TX8 6, w ∈ wsX8_isWord := fun w h => List.mem_cons_of_mem _ (List.mem_append_right _ h)
  subst hsz
  have hD := hD0.self (sz := s.heap.size)
  generalize hAe : va_A (w_c_X8_isWord cI cJ cB cZ cO qt qt_bytes ft_bytes vt_length vt_kind vt_from vt_upto vt_value) s.heap.size = A at hD hH ⊢
  have hA : ∀ q : Nat, s.heap.size ≤ q → A q := fun q h => by rw [← hAe]; exact Or.inr h
  have hS : va_S A s.heap s.heap [] := va_S.rf
  obtain ⟨hP, hD⟩ : ct_B D A s.heap [(qt, .inr (8, [.ref qt_bytes, .int vt_length, .int vt_kind, .int vt_from, .int vt_upto, .int vt_value])), (qt_bytes, .inl (cB, 1200, .inl (ft_bytes)))] := ⟨hP, hD⟩
  have hl := lv_entry ([.ref qt, .ref (G.1 k)]) (n := 3) (Nat.le_of_ble_eq_true rfl)
  rw [lg_entry_eq]
  generalize (lg_sl ([.ref qt, .ref (G.1 k)]) ++ List.replicate (3 - (lg_sl ([.ref qt, .ref (G.1 k)])).length) Slot.unset).toArray = ls at hl ⊢
  have hl : lv_has ls 3 [(0, .ref qt), (1, .ref (G.1 k))] := hl
  obtain ⟨H, hHe⟩ : ∃ H : Heap, H = s.heap := ⟨_, rfl⟩
  rw [← hHe] at hP
  have hS : va_S A s.heap H [] := by rw [hHe]; exact va_S.rf
  refine ct_start hHe ?_
  refine lv_aload_n hx hb dX8_isWord_0 rfl (lv_at hl 0 rfl) ?_
  refine va_get (D := D) (ci := 8) (v := .int vt_kind) (C := RX8) (T := TX8) (N := 6) hx hb hts hi8 hown hK hP 0 rfl rfl 2 (by decide) (hts (.fieldLink RX8 35 "OverHill$Tape" "kind" "I") (by decide +kernel)) (fun _ h9 => h9) rfl dX8_isWord_1 ?_
  refine lv_iconst (v := 1) hx hb dX8_isWord_4 (by decide) ?_
  refine lv_icmp_ne (tgt := 24) hx hb dX8_isWord_5 (by decide) (fun hc => ?_) (fun hc => ?_)
  · have hq1 : vt_kind.toInt ≠ 1 := tq_ne rfl (by decide) hc
    have hb2 := tq_lo vt_kind
    refine lv_iconst (v := 0) hx hb dX8_isWord_24 (by decide) ?_
    obtain ⟨hP9, hD9⟩ : ct_B D A H [(qt, .inr (8, [.ref qt_bytes, .int vt_length, .int vt_kind, .int vt_from, .int vt_upto, .int vt_value])), (qt_bytes, .inl (cB, 1200, .inl (ft_bytes)))] := ⟨hP.sub [0, 1] rfl, hD.sub [0, 1] (by decide) rfl⟩
    exact W.zret (v := 0) (ty := .boolean) hx hb hr rfl (fun t ht hW => ⟨⟨0, (), rfl, (Or.inr (⟨rfl, trivial⟩)), by rw [ht]; exact hP9, hD9⟩, hS.F ht⟩) hS.2.2 dX8_isWord_25
  · have hq1 : vt_kind.toInt = 1 := tq_eq rfl (by decide) hc
    have hb3 := tq_lo vt_kind
    refine lv_aload_n hx hb dX8_isWord_8 rfl (lv_at hl 0 rfl) ?_
    refine va_get (D := D) (ci := 8) (v := .int vt_upto) (C := RX8) (T := TX8) (N := 6) hx hb hts hi8 hown hK hP 0 rfl rfl 4 (by decide) (hts (.fieldLink RX8 19 "OverHill$Tape" "upto" "I") (by decide +kernel)) (fun _ h9 => h9) rfl dX8_isWord_9 ?_
    refine lv_aload_n hx hb dX8_isWord_12 rfl (lv_at hl 0 rfl) ?_
    refine va_get (D := D) (ci := 8) (v := .int vt_from) (C := RX8) (T := TX8) (N := 6) hx hb hts hi8 hown hK hP 0 rfl rfl 3 (by decide) (hts (.fieldLink RX8 25 "OverHill$Tape" "from" "I") (by decide +kernel)) (fun _ h9 => h9) rfl dX8_isWord_13 ?_
    refine lv_isub hx hb dX8_isWord_16 ?_
    refine lv_topi (fun z4 ez4 => ?_)
    have fz4 : z4.toInt = vt_upto.toInt - vt_from.toInt := by rw [ez4]; exact tq_subt rfl rfl (by omega)
    refine lv_aload_n hx hb dX8_isWord_17 rfl (lv_at hl 1 rfl) ?_
    refine ct_calli (D := D) (wr := [(qt, .inr (8, [.ref qt_bytes, .int vt_length, .int vt_kind, .int vt_from, .int vt_upto, .int vt_value])), (qt_bytes, .inl (cB, 1200, .inl (ft_bytes)))]) (va_runV (As := []) (rest := [.int z4]) ⟨hx, hb, hml, hown, hts⟩ (c_J0_length_8abf5 l D G cI cJ cB cZ cO k hk H.size) (cwV 0 hts gX8_isWord_J0_length_8abf5 rfl rfl rfl (by decide +kernel) ⟨Nat.le_of_ble_eq_true rfl, Nat.le_of_ble_eq_true rfl⟩) (ct_preK (T := ct_T cI cJ cB cZ cO) hE hH hP hD hS hA hk [] (by decide) rfl) rfl rfl hl.1 rfl (lv_room (Nat.le_of_ble_eq_true rfl)) dX8_isWord_18 ⟨Nat.le_of_ble_eq_true rfl, Nat.le_of_ble_eq_true rfl⟩) hP hD hS hA [] [0, 1] rfl rfl (by decide) (by decide) (fun r5 u H locs hw hP hD hS => ?_)
    obtain ⟨hP, hD⟩ : ct_B D A H [(qt, .inr (8, [.ref qt_bytes, .int vt_length, .int vt_kind, .int vt_from, .int vt_upto, .int vt_value])), (qt_bytes, .inl (cB, 1200, .inl (ft_bytes)))] := ⟨hP, hD⟩
    have hz := hw
    have h_r5 : r5.toInt = (ct_len.getD k 0 : Int) ∧ 2 ≤ r5.toInt ∧ r5.toInt ≤ 7 := hz
    refine lv_icmp_eq (tgt := 26) hx hb dX8_isWord_21 (by decide) (fun hc => ?_) (fun hc => ?_)
    · have hq6 : z4.toInt = r5.toInt := tq_eq rfl rfl hc
      refine lv_iconst (v := 0) hx hb dX8_isWord_26 (by decide) ?_
      refine lv_istore_n (lv' := [(2, .int 0), (0, .ref qt), (1, .ref (G.1 k))]) hx hb dX8_isWord_27 rfl hl (by decide) rfl (fun ls hl => ?_)
      refine ct_loop (X := Int32) (fun x => (7 - x.toInt).toNat) (fun x H locs ls => ((0 ≤ x.toInt ∧ x.toInt ≤ 7)) ∧ ct_B D A H [(qt, .inr (8, [.ref qt_bytes, .int vt_length, .int vt_kind, .int vt_from, .int vt_upto, .int vt_value])), (qt_bytes, .inl (cB, 1200, .inl (ft_bytes)))] ∧ va_S A s.heap H locs ∧ lv_has ls 3 [(2, .int x), (0, .ref qt), (1, .ref (G.1 k))]) 28 (0 : Int32) ⟨(show 0 ≤ (0 : Int32).toInt ∧ (0 : Int32).toInt ≤ 7 by decide), ⟨hP, hD⟩, hS, lv_sub hl [0, 1, 2] rfl⟩ (fun x ih90 H locs ls hI => ?_)
      obtain ⟨x89, rfl⟩ : ∃ z, z = x := ⟨_, rfl⟩
      obtain ⟨h_x89, ⟨hP, hD⟩, hS, hl⟩ := hI
      have h_x89 : (0 ≤ x89.toInt ∧ x89.toInt ≤ 7) := h_x89
      obtain ⟨hP, hD⟩ : ct_B D A H [(qt, .inr (8, [.ref qt_bytes, .int vt_length, .int vt_kind, .int vt_from, .int vt_upto, .int vt_value])), (qt_bytes, .inl (cB, 1200, .inl (ft_bytes)))] := ⟨hP, hD⟩
      have hl : lv_has ls 3 [(2, .int x89), (0, .ref qt), (1, .ref (G.1 k))] := hl
      refine lv_iload_n hx hb dX8_isWord_28 rfl (lv_at hl 0 rfl) ?_
      refine lv_aload_n hx hb dX8_isWord_29 rfl (lv_at hl 2 rfl) ?_
      refine ct_calli (D := D) (wr := [(qt, .inr (8, [.ref qt_bytes, .int vt_length, .int vt_kind, .int vt_from, .int vt_upto, .int vt_value])), (qt_bytes, .inl (cB, 1200, .inl (ft_bytes)))]) (va_runV (As := []) (rest := [.int x89]) ⟨hx, hb, hml, hown, hts⟩ (c_J0_length_8abf5 l D G cI cJ cB cZ cO k hk H.size) (cwV 0 hts gX8_isWord_J0_length_8abf5 rfl rfl rfl (by decide +kernel) ⟨Nat.le_of_ble_eq_true rfl, Nat.le_of_ble_eq_true rfl⟩) (ct_preK (T := ct_T cI cJ cB cZ cO) hE hH hP hD hS hA hk [] (by decide) rfl) rfl rfl hl.1 rfl (lv_room (Nat.le_of_ble_eq_true rfl)) dX8_isWord_30 ⟨Nat.le_of_ble_eq_true rfl, Nat.le_of_ble_eq_true rfl⟩) hP hD hS hA [] [0, 1] rfl rfl (by decide) (by decide) (fun r91 u H locs hw hP hD hS => ?_)
      obtain ⟨hP, hD⟩ : ct_B D A H [(qt, .inr (8, [.ref qt_bytes, .int vt_length, .int vt_kind, .int vt_from, .int vt_upto, .int vt_value])), (qt_bytes, .inl (cB, 1200, .inl (ft_bytes)))] := ⟨hP, hD⟩
      have hz := hw
      have h_r91 : r91.toInt = (ct_len.getD k 0 : Int) ∧ 2 ≤ r91.toInt ∧ r91.toInt ≤ 7 := hz
      refine lv_icmp_ge (tgt := 63) hx hb dX8_isWord_33 (by decide) (fun hc => ?_) (fun hc => ?_)
      · have hq92 : r91.toInt ≤ x89.toInt := tq_le rfl rfl hc
        refine lv_iconst (v := 1) hx hb dX8_isWord_63 (by decide) ?_
        obtain ⟨hP9, hD9⟩ : ct_B D A H [(qt, .inr (8, [.ref qt_bytes, .int vt_length, .int vt_kind, .int vt_from, .int vt_upto, .int vt_value])), (qt_bytes, .inl (cB, 1200, .inl (ft_bytes)))] := ⟨hP.sub [0, 1] rfl, hD.sub [0, 1] (by decide) rfl⟩
        exact W.zret (v := 1) (ty := .boolean) hx hb hr rfl (fun t ht hW => ⟨⟨1, (), rfl, (Or.inl ⟨rfl, trivial⟩), by rw [ht]; exact hP9, hD9⟩, hS.F ht⟩) hS.2.2 dX8_isWord_64
      · have hq92 : x89.toInt < r91.toInt := tq_nle rfl rfl hc
        refine lv_aload_n hx hb dX8_isWord_36 rfl (lv_at hl 1 rfl) ?_
        refine va_get (D := D) (ci := 8) (v := .ref qt_bytes) (C := RX8) (T := TX8) (N := 6) hx hb hts hi8 hown hK hP 0 rfl rfl 0 (by decide) (hts (.fieldLink RX8 9 "OverHill$Tape" "bytes" "[B") (by decide +kernel)) (fun _ h9 => h9) rfl dX8_isWord_37 ?_
        refine lv_aload_n hx hb dX8_isWord_40 rfl (lv_at hl 1 rfl) ?_
        refine va_get (D := D) (ci := 8) (v := .int vt_from) (C := RX8) (T := TX8) (N := 6) hx hb hts hi8 hown hK hP 0 rfl rfl 3 (by decide) (hts (.fieldLink RX8 25 "OverHill$Tape" "from" "I") (by decide +kernel)) (fun _ h9 => h9) rfl dX8_isWord_41 ?_
        refine lv_iload_n hx hb dX8_isWord_44 rfl (lv_at hl 0 rfl) ?_
        refine lv_iadd hx hb dX8_isWord_45 ?_
        refine lv_topi (fun z93 ez93 => ?_)
        have fz93 : z93.toInt = vt_from.toInt + x89.toInt := by rw [ez93]; exact tq_add rfl rfl (by omega)
        refine va_bald (D := D) hx hb hK hP 1 2 rfl rfl (tq_in rfl (by omega)) dX8_isWord_46 ?_
        refine lv_topi (fun z94 ez94 => ?_)
        refine lv_aload_n hx hb dX8_isWord_47 rfl (lv_at hl 2 rfl) ?_
        refine lv_iload_n hx hb dX8_isWord_48 rfl (lv_at hl 0 rfl) ?_
        refine ct_calli (D := D) (wr := [(qt, .inr (8, [.ref qt_bytes, .int vt_length, .int vt_kind, .int vt_from, .int vt_upto, .int vt_value])), (qt_bytes, .inl (cB, 1200, .inl (ft_bytes)))]) (va_runV (As := [.int x89]) (rest := [.int z94]) ⟨hx, hb, hml, hown, hts⟩ (c_J0_charAt_5068e l D G cI cJ cB cZ cO k x89 hk (by omega) H.size) (cwV 1 hts gX8_isWord_J0_charAt_5068e rfl rfl rfl (by decide +kernel) ⟨Nat.le_of_ble_eq_true rfl, Nat.le_of_ble_eq_true rfl⟩) (ct_preK (T := ct_T cI cJ cB cZ cO) hE hH hP hD hS hA hk [] (by decide) rfl) rfl rfl hl.1 rfl (lv_room (Nat.le_of_ble_eq_true rfl)) dX8_isWord_49 ⟨Nat.le_of_ble_eq_true rfl, Nat.le_of_ble_eq_true rfl⟩) hP hD hS hA [] [0, 1] rfl rfl (by decide) (by decide) (fun r95 u H locs hw hP hD hS => ?_)
        obtain ⟨hP, hD⟩ : ct_B D A H [(qt, .inr (8, [.ref qt_bytes, .int vt_length, .int vt_kind, .int vt_from, .int vt_upto, .int vt_value])), (qt_bytes, .inl (cB, 1200, .inl (ft_bytes)))] := ⟨hP, hD⟩
        refine lv_icmp_eq (tgt := 57) hx hb dX8_isWord_52 (by decide) (fun hc => ?_) (fun hc => ?_)
        · have hq96 : z94.toInt = r95.toInt := tq_eq rfl rfl hc
          have hb97 := tq_lo z94
          have hb98 := tq_lo r95
          obtain ⟨z99, ez99⟩ : ∃ z : Int32, z = x89 + 1 := ⟨_, rfl⟩
          have fz99 : z99.toInt = x89.toInt + 1 := by rw [ez99]; exact tq_add rfl (by decide) (by omega)
          refine lv_iinc (v := z99) (lv' := [(2, .int z99), (0, .ref qt), (1, .ref (G.1 k))]) hx hb dX8_isWord_57 hl (k := 0) rfl ez99.symm (by decide) rfl (fun ls hl => ?_)
          refine lv_goto (tgt := 28) hx hb dX8_isWord_60 (by decide) ?_
          exact ih90 z99 _ _ _ (show (7 - z99.toInt).toNat < (7 - x89.toInt).toNat by omega) ⟨(show 0 ≤ z99.toInt ∧ z99.toInt ≤ 7 by omega), ⟨hP, hD⟩, hS, lv_sub hl [0, 1, 2] rfl⟩
        · have hq96 : z94.toInt ≠ r95.toInt := tq_ne rfl rfl hc
          have hb100 := tq_lo z94
          have hb101 := tq_lo r95
          refine lv_iconst (v := 0) hx hb dX8_isWord_55 (by decide) ?_
          obtain ⟨hP9, hD9⟩ : ct_B D A H [(qt, .inr (8, [.ref qt_bytes, .int vt_length, .int vt_kind, .int vt_from, .int vt_upto, .int vt_value])), (qt_bytes, .inl (cB, 1200, .inl (ft_bytes)))] := ⟨hP.sub [0, 1] rfl, hD.sub [0, 1] (by decide) rfl⟩
          exact W.zret (v := 0) (ty := .boolean) hx hb hr rfl (fun t ht hW => ⟨⟨0, (), rfl, (Or.inr (⟨rfl, trivial⟩)), by rw [ht]; exact hP9, hD9⟩, hS.F ht⟩) hS.2.2 dX8_isWord_56
    · have hq6 : z4.toInt ≠ r5.toInt := tq_ne rfl rfl hc
      refine lv_iconst (v := 0) hx hb dX8_isWord_24 (by decide) ?_
      obtain ⟨hP9, hD9⟩ : ct_B D A H [(qt, .inr (8, [.ref qt_bytes, .int vt_length, .int vt_kind, .int vt_from, .int vt_upto, .int vt_value])), (qt_bytes, .inl (cB, 1200, .inl (ft_bytes)))] := ⟨hP.sub [0, 1] rfl, hD.sub [0, 1] (by decide) rfl⟩
      exact W.zret (v := 0) (ty := .boolean) hx hb hr rfl (fun t ht hW => ⟨⟨0, (), rfl, (Or.inr (⟨rfl, trivial⟩)), by rw [ht]; exact hP9, hD9⟩, hS.F ht⟩) hS.2.2 dX8_isWord_25
