abbrev w_c_X5_read (cI cJ cB cZ cO : ClassId) (r : Nat → Nat) : va_W := [((r 0), .inr (5, [.ref (r 1), .int 0, .int 0, .int (-1)])), ((r 1), .inr (8, [.ref (r 16), .int 0, .int 0, .int 0, .int 0, .int 0])), dn (r 3) (r 44) (r 45) (r 46) (r 47) (r 48) (r 50) (r 51) (r 53) (r 55), ((r 45), .inl (cI, 2, .inl (fun _ => 0))), ((r 46), .inl (cI, 2, .inl (fun _ => 0))), ((r 47), .inl (cI, 6, .inl (fun _ => 0))), ((r 50), .inl (cI, 200, .inl (fun _ => 0)))]
set_option maxHeartbeats 4000000 in
set_option maxRecDepth 100000 in
/-- an empty TAPE read -/
theorem c_X5_read (l : Launch) (D : va_G) (cI cJ cB cZ cO : ClassId) (r : Nat → Nat) (sz : Nat) : Met l yX5_read wsX5_read ({ frames := 2, cells := 0, slots := 0, locals := 43 }) (va_Pc [.ref (r 0), .ref (r 3)] (ct_P D (ct_T cI cJ cB cZ cO) (w_c_X5_read cI cJ cB cZ cO r) sz)) (va_Qi (fun (rz : Int32) (u : Unit) => (rz = 1 ∧ True)) (fun (u : Unit) t => ct_Q D (va_A (w_c_X5_read cI cJ cB cZ cO r) sz) [((r 1), .inr (8, [.ref (r 16), .int 0, .int 0, .int 0, .int 0, .int 0])), dn (r 3) (r 44) (r 45) (r 46) (r 47) (r 48) (r 50) (r 51) (r 53) (r 55)] t) (va_A (w_c_X5_read cI cJ cB cZ cO r) sz)) 0 0 (va_A (w_c_X5_read cI cJ cB cZ cO r) sz) := by
  refine Met.ofW (cc := cX5_read) (maxL := 3) (ret := (some .boolean)) (by decide) rfl ?_
  intro p e s m args below meth c s₁ B hml hv
  obtain ⟨rfl, hsz, hP, hE, hD0⟩ := hv
  have hx := B.exec
  have hb := B.bytes
  have hr := B.returns
  have hts := atoms_spec (ws := wsX5_read) B.pre
  have hown : s.vm.findClass RX5 = some m.cls := findClass_of_methodNamed B.named
  have hlocks := B.notSynchronized
  have hK := hE.1
  have hi5 : ∀ w ∈ u_ws RX5 TX5 4, w ∈ wsX5_read := fun w h => List.mem_cons_of_mem _ (List.mem_append_left _ (List.mem_append_left _ (List.mem_append_right _ h)))
  have hi8 : ∀ w ∈ u_ws RX8 TX8 6, w ∈ wsX5_read := fun w h => List.mem_cons_of_mem _ (List.mem_append_left _ (List.mem_append_right _ h))
  subst hsz
  have hD := hD0.self (sz := s.heap.size)
  generalize hAe : va_A (w_c_X5_read cI cJ cB cZ cO r) s.heap.size = A at hD ⊢
  have hA : ∀ q : Nat, s.heap.size ≤ q → A q := fun q h => by rw [← hAe]; exact Or.inr h
  have hS : va_S A s.heap s.heap [] := va_S.rf
  have hP : va_P D vwCl [((r 0), .inr (5, [.ref (r 1), .int 0, .int 0, .int (-1)])), ((r 1), .inr (8, [.ref (r 16), .int 0, .int 0, .int 0, .int 0, .int 0])), dn (r 3) (r 44) (r 45) (r 46) (r 47) (r 48) (r 50) (r 51) (r 53) (r 55), ((r 45), .inl (cI, 2, .inl (fun _ => 0))), ((r 46), .inl (cI, 2, .inl (fun _ => 0))), ((r 47), .inl (cI, 6, .inl (fun _ => 0))), ((r 50), .inl (cI, 200, .inl (fun _ => 0)))] s.heap := hP
  have hD : va_D A [((r 0), .inr (5, [.ref (r 1), .int 0, .int 0, .int (-1)])), ((r 1), .inr (8, [.ref (r 16), .int 0, .int 0, .int 0, .int 0, .int 0])), dn (r 3) (r 44) (r 45) (r 46) (r 47) (r 48) (r 50) (r 51) (r 53) (r 55), ((r 45), .inl (cI, 2, .inl (fun _ => 0))), ((r 46), .inl (cI, 2, .inl (fun _ => 0))), ((r 47), .inl (cI, 6, .inl (fun _ => 0))), ((r 50), .inl (cI, 200, .inl (fun _ => 0)))] := hD
  have hl := lv_entry ([.ref (r 0), .ref (r 3)]) (n := 3) (Nat.le_of_ble_eq_true rfl)
  rw [lg_entry_eq]
  generalize (lg_sl ([.ref (r 0), .ref (r 3)]) ++ List.replicate (3 - (lg_sl ([.ref (r 0), .ref (r 3)])).length) Slot.unset).toArray = ls at hl ⊢
  have hl : lv_has ls 3 [(0, .ref (r 0)), (1, .ref (r 3))] := hl
  obtain ⟨H, hHe⟩ : ∃ H : Heap, H = s.heap := ⟨_, rfl⟩
  rw [← hHe] at hP
  have hS : va_S A s.heap H [] := by rw [hHe]; exact va_S.rf
  refine ct_start hHe ?_
  refine lv_aload_n hx hb dX5_read_0 rfl (lv_at hl 1 rfl) ?_
  refine ct_callv (D := D) (wc := (w_c_X0_clear cI cJ cB cZ cO (r 3) (r 44) (r 45) (r 46) (r 47) (r 48) (r 50) (r 51) (r 53) (r 55))) (wr := [((r 0), .inr (5, [.ref (r 1), .int 0, .int 0, .int (-1)])), ((r 1), .inr (8, [.ref (r 16), .int 0, .int 0, .int 0, .int 0, .int 0]))]) (va_runV (As := []) (rest := []) ⟨hx, hb, hml, hown, hts⟩ (c_X0_clear l D cI cJ cB cZ cO (r 3) (r 44) (r 45) (r 46) (r 47) (r 48) (r 50) (r 51) (r 53) (r 55) H.size) (cwV 0 hts gX5_read_X0_clear rfl rfl rfl (by decide +kernel) ⟨Nat.le_of_ble_eq_true rfl, Nat.le_of_ble_eq_true rfl⟩) (ct_preV (T := ct_T cI cJ cB cZ cO) (ci := 0) (q0 := 2) hE hP hD [2, 3, 4, 5, 6] (by decide) rfl rfl rfl) rfl rfl hl.1 rfl (lv_room (Nat.le_of_ble_eq_true rfl)) dX5_read_1 ⟨Nat.le_of_ble_eq_true rfl, Nat.le_of_ble_eq_true rfl⟩) hP hD hS hA [2, 3, 4, 5, 6] [0, 1] rfl rfl (by decide) (by decide) (fun u H locs hw hP hD hS => ?_)
  have hP : va_P D vwCl [((r 0), .inr (5, [.ref (r 1), .int 0, .int 0, .int (-1)])), ((r 1), .inr (8, [.ref (r 16), .int 0, .int 0, .int 0, .int 0, .int 0])), dn (r 3) (r 44) (r 45) (r 46) (r 47) (r 48) (r 50) (r 51) (r 53) (r 55)] H := hP
  have hD : va_D A [((r 0), .inr (5, [.ref (r 1), .int 0, .int 0, .int (-1)])), ((r 1), .inr (8, [.ref (r 16), .int 0, .int 0, .int 0, .int 0, .int 0])), dn (r 3) (r 44) (r 45) (r 46) (r 47) (r 48) (r 50) (r 51) (r 53) (r 55)] := hD
  refine lv_aload_n hx hb dX5_read_4 rfl (lv_at hl 0 rfl) ?_
  refine lv_iconst (v := 0) hx hb dX5_read_5 (by decide) ?_
  refine va_put (D := D) (ci := 5) (v := .int 0) (ty := .int) (C := RX5) (T := TX5) (N := 4) hx hb hts hi5 tyX5 tyX5_ok nmX5 hown hK hP hD hS 0 rfl rfl 2 (by decide) (hts (.fieldLink RX5 27 "OverHill$Reader" "fault" "I") (by decide +kernel)) (fun _ h9 => h9) rfl (by decide +kernel) rfl rfl (Nat.le_of_ble_eq_true rfl) dX5_read_6 (fun H locs hP hD hS => ?_)
  have hP : va_P D vwCl [((r 0), .inr (5, [.ref (r 1), .int 0, .int 0, .int (-1)])), ((r 1), .inr (8, [.ref (r 16), .int 0, .int 0, .int 0, .int 0, .int 0])), dn (r 3) (r 44) (r 45) (r 46) (r 47) (r 48) (r 50) (r 51) (r 53) (r 55)] H := hP
  have hD : va_D A [((r 0), .inr (5, [.ref (r 1), .int 0, .int 0, .int (-1)])), ((r 1), .inr (8, [.ref (r 16), .int 0, .int 0, .int 0, .int 0, .int 0])), dn (r 3) (r 44) (r 45) (r 46) (r 47) (r 48) (r 50) (r 51) (r 53) (r 55)] := hD
  refine lv_aload_n hx hb dX5_read_9 rfl (lv_at hl 0 rfl) ?_
  refine lv_iconst (v := (-1)) hx hb dX5_read_10 (by decide) ?_
  refine va_put (D := D) (ci := 5) (v := .int (-1)) (ty := .int) (C := RX5) (T := TX5) (N := 4) hx hb hts hi5 tyX5 tyX5_ok nmX5 hown hK hP hD hS 0 rfl rfl 3 (by decide) (hts (.fieldLink RX5 18 "OverHill$Reader" "faultPlace" "I") (by decide +kernel)) (fun _ h9 => h9) rfl (by decide +kernel) rfl rfl (Nat.le_of_ble_eq_true rfl) dX5_read_11 (fun H locs hP hD hS => ?_)
  have hP : va_P D vwCl [((r 0), .inr (5, [.ref (r 1), .int 0, .int 0, .int (-1)])), ((r 1), .inr (8, [.ref (r 16), .int 0, .int 0, .int 0, .int 0, .int 0])), dn (r 3) (r 44) (r 45) (r 46) (r 47) (r 48) (r 50) (r 51) (r 53) (r 55)] H := hP
  have hD : va_D A [((r 0), .inr (5, [.ref (r 1), .int 0, .int 0, .int (-1)])), ((r 1), .inr (8, [.ref (r 16), .int 0, .int 0, .int 0, .int 0, .int 0])), dn (r 3) (r 44) (r 45) (r 46) (r 47) (r 48) (r 50) (r 51) (r 53) (r 55)] := hD
  refine lv_aload_n hx hb dX5_read_14 rfl (lv_at hl 0 rfl) ?_
  refine va_get (D := D) (ci := 5) (v := .ref (r 1)) (C := RX5) (T := TX5) (N := 4) hx hb hts hi5 hown hK hP 0 rfl rfl 0 (by decide) (hts (.fieldLink RX5 12 "OverHill$Reader" "tape" "LOverHill$Tape;") (by decide +kernel)) (fun _ h9 => h9) rfl dX5_read_15 ?_
  refine ct_callv (D := D) (wc := (w_c_X8_rewind cI cJ cB cZ cO (r 1) (r 16))) (wr := [((r 0), .inr (5, [.ref (r 1), .int 0, .int 0, .int (-1)])), dn (r 3) (r 44) (r 45) (r 46) (r 47) (r 48) (r 50) (r 51) (r 53) (r 55)]) (va_runV (As := []) (rest := []) ⟨hx, hb, hml, hown, hts⟩ (c_X8_rewind l D cI cJ cB cZ cO (r 1) (r 16) H.size) (cwV 0 hts gX5_read_X8_rewind rfl rfl rfl (by decide +kernel) ⟨Nat.le_of_ble_eq_true rfl, Nat.le_of_ble_eq_true rfl⟩) (ct_preV (T := ct_T cI cJ cB cZ cO) (ci := 8) (q0 := 1) hE hP hD [1] (by decide) rfl rfl rfl) rfl rfl hl.1 rfl (lv_room (Nat.le_of_ble_eq_true rfl)) dX5_read_18 ⟨Nat.le_of_ble_eq_true rfl, Nat.le_of_ble_eq_true rfl⟩) hP hD hS hA [1] [0, 2] rfl rfl (by decide) (by decide) (fun u H locs hw hP hD hS => ?_)
  have hP : va_P D vwCl [((r 0), .inr (5, [.ref (r 1), .int 0, .int 0, .int (-1)])), dn (r 3) (r 44) (r 45) (r 46) (r 47) (r 48) (r 50) (r 51) (r 53) (r 55), ((r 1), .inr (8, [.ref (r 16), .int 0, .int 0, .int 0, .int 0, .int 0]))] H := hP
  have hD : va_D A [((r 0), .inr (5, [.ref (r 1), .int 0, .int 0, .int (-1)])), dn (r 3) (r 44) (r 45) (r 46) (r 47) (r 48) (r 50) (r 51) (r 53) (r 55), ((r 1), .inr (8, [.ref (r 16), .int 0, .int 0, .int 0, .int 0, .int 0]))] := hD
  refine lv_iconst (v := 0) hx hb dX5_read_21 (by decide) ?_
  refine lv_istore_n (lv' := [(2, .int 0), (0, .ref (r 0)), (1, .ref (r 3))]) hx hb dX5_read_22 rfl hl (by decide) rfl (fun ls hl => ?_)
  refine lv_iload_n hx hb dX5_read_23 rfl (lv_at hl 0 rfl) ?_
  refine lv_sipush (v := 1200) hx hb dX5_read_24 (by decide) ?_
  refine lv_icmp_ge (tgt := 72) hx hb dX5_read_27 (by decide) (fun hc => absurd hc (by decide)) (fun _ => ?_)
  refine lv_aload_n hx hb dX5_read_30 rfl (lv_at hl 1 rfl) ?_
  refine va_get (D := D) (ci := 5) (v := .int 0) (C := RX5) (T := TX5) (N := 4) hx hb hts hi5 hown hK hP 0 rfl rfl 2 (by decide) (hts (.fieldLink RX5 27 "OverHill$Reader" "fault" "I") (by decide +kernel)) (fun _ h9 => h9) rfl dX5_read_31 ?_
  refine lv_if_ne (tgt := 72) hx hb dX5_read_34 (by decide) (fun hc => absurd hc (by decide)) (fun _ => ?_)
  refine lv_aload_n hx hb dX5_read_37 rfl (lv_at hl 1 rfl) ?_
  refine va_get (D := D) (ci := 5) (v := .ref (r 1)) (C := RX5) (T := TX5) (N := 4) hx hb hts hi5 hown hK hP 0 rfl rfl 0 (by decide) (hts (.fieldLink RX5 12 "OverHill$Reader" "tape" "LOverHill$Tape;") (by decide +kernel)) (fun _ h9 => h9) rfl dX5_read_38 ?_
  refine va_get (D := D) (ci := 8) (v := .int 0) (C := RX8) (T := TX8) (N := 6) hx hb hts hi8 hown hK hP 2 rfl rfl 2 (by decide) (hts (.fieldLink RX5 33 "OverHill$Tape" "kind" "I") (by decide +kernel)) (fun _ h9 => h9) rfl dX5_read_41 ?_
  refine lv_if_eq (tgt := 72) hx hb dX5_read_44 (by decide) (fun _ => ?_) (fun hc => absurd hc (by decide))
  refine lv_aload_n hx hb dX5_read_72 rfl (lv_at hl 1 rfl) ?_
  refine va_get (D := D) (ci := 5) (v := .int 0) (C := RX5) (T := TX5) (N := 4) hx hb hts hi5 hown hK hP 0 rfl rfl 2 (by decide) (hts (.fieldLink RX5 27 "OverHill$Reader" "fault" "I") (by decide +kernel)) (fun _ h9 => h9) rfl dX5_read_73 ?_
  refine lv_if_ne (tgt := 83) hx hb dX5_read_76 (by decide) (fun hc => absurd hc (by decide)) (fun _ => ?_)
  refine lv_iconst (v := 1) hx hb dX5_read_79 (by decide) ?_
  refine lv_goto (tgt := 84) hx hb dX5_read_80 (by decide) ?_
  have hP9 := hP.sub (ws' := [((r 1), .inr (8, [.ref (r 16), .int 0, .int 0, .int 0, .int 0, .int 0])), dn (r 3) (r 44) (r 45) (r 46) (r 47) (r 48) (r 50) (r 51) (r 53) (r 55)]) [2, 1] rfl
  have hD9 := hD.sub (ws' := [((r 1), .inr (8, [.ref (r 16), .int 0, .int 0, .int 0, .int 0, .int 0])), dn (r 3) (r 44) (r 45) (r 46) (r 47) (r 48) (r 50) (r 51) (r 53) (r 55)]) [2, 1] (by decide) rfl
  exact W.zret (v := 1) (ty := .boolean) hx hb hr rfl (fun t ht hW => ⟨⟨1, (), rfl, ⟨rfl, trivial⟩, by rw [ht]; exact hP9, hD9⟩, hS.F ht⟩) hS.2.2 dX5_read_84
abbrev w_c_X11_dance (cI cJ cB cZ cO : ClassId) (h : Nat) (r : Nat → Nat) : va_W := [oo h r (r 2) (r 3), ((r 0), .inr (5, [.ref (r 1), .int 0, .int 0, .int (-1)])), ((r 1), .inr (8, [.ref (r 16), .int 0, .int 0, .int 0, .int 0, .int 0])), dn (r 3) (r 44) (r 45) (r 46) (r 47) (r 48) (r 50) (r 51) (r 53) (r 55), ((r 45), .inl (cI, 2, .inl (fun _ => 0))), ((r 46), .inl (cI, 2, .inl (fun _ => 0))), ((r 47), .inl (cI, 6, .inl (fun _ => 0))), ((r 50), .inl (cI, 200, .inl (fun _ => 0)))]
set_option maxHeartbeats 4000000 in
set_option maxRecDepth 100000 in
/-- dance, on a new object -/
theorem c_X11_dance (l : Launch) (D : va_G) (cI cJ cB cZ cO : ClassId) (h : Nat) (r : Nat → Nat) (sz : Nat) : Met l yX11_dance wsX11_dance ({ frames := 3, cells := 0, slots := 0, locals := 65 }) (va_Pc [.ref h] (ct_P D (ct_T cI cJ cB cZ cO) (w_c_X11_dance cI cJ cB cZ cO h r) sz)) (va_Qi (fun (rz : Int32) (u : Unit) => (rz = 0 ∧ True)) (fun (u : Unit) t => ct_Q D (va_A (w_c_X11_dance cI cJ cB cZ cO h r) sz) [] t) (va_A (w_c_X11_dance cI cJ cB cZ cO h r) sz)) 0 0 (va_A (w_c_X11_dance cI cJ cB cZ cO h r) sz) := by
  refine Met.ofW (cc := cX11_dance) (maxL := 2) (ret := (some .int)) (by decide) rfl ?_
  intro p e s m args below meth c s₁ B hml hv
  obtain ⟨rfl, hsz, hP, hE, hD0⟩ := hv
  have hx := B.exec
  have hb := B.bytes
  have hr := B.returns
  have hts := atoms_spec (ws := wsX11_dance) B.pre
  have hown : s.vm.findClass RX11 = some m.cls := findClass_of_methodNamed B.named
  have hlocks := B.notSynchronized
  have hK := hE.1
  have hi0 : ∀ w ∈ u_ws RX0 TX0 17, w ∈ wsX11_dance := fun w h => List.mem_cons_of_mem _ (List.mem_append_left _ (List.mem_append_right _ h))
  have hi8 : ∀ w ∈ u_ws RX8 TX8 6, w ∈ wsX11_dance := fun w h => List.mem_cons_of_mem _ (List.mem_append_left _ (List.mem_append_left _ (List.mem_append_right _ h)))
  have hi11 : ∀ w ∈ u_ws RX11 TX11 16, w ∈ wsX11_dance := fun w h => List.mem_cons_of_mem _ (List.mem_append_left _ (List.mem_append_left _ (List.mem_append_left _ (List.mem_append_right _ h))))
  subst hsz
  have hD := hD0.self (sz := s.heap.size)
  generalize hAe : va_A (w_c_X11_dance cI cJ cB cZ cO h r) s.heap.size = A at hD ⊢
  have hA : ∀ q : Nat, s.heap.size ≤ q → A q := fun q h => by rw [← hAe]; exact Or.inr h
  have hS : va_S A s.heap s.heap [] := va_S.rf
  have hP : va_P D vwCl [oo h r (r 2) (r 3), ((r 0), .inr (5, [.ref (r 1), .int 0, .int 0, .int (-1)])), ((r 1), .inr (8, [.ref (r 16), .int 0, .int 0, .int 0, .int 0, .int 0])), dn (r 3) (r 44) (r 45) (r 46) (r 47) (r 48) (r 50) (r 51) (r 53) (r 55), ((r 45), .inl (cI, 2, .inl (fun _ => 0))), ((r 46), .inl (cI, 2, .inl (fun _ => 0))), ((r 47), .inl (cI, 6, .inl (fun _ => 0))), ((r 50), .inl (cI, 200, .inl (fun _ => 0)))] s.heap := hP
  have hD : va_D A [oo h r (r 2) (r 3), ((r 0), .inr (5, [.ref (r 1), .int 0, .int 0, .int (-1)])), ((r 1), .inr (8, [.ref (r 16), .int 0, .int 0, .int 0, .int 0, .int 0])), dn (r 3) (r 44) (r 45) (r 46) (r 47) (r 48) (r 50) (r 51) (r 53) (r 55), ((r 45), .inl (cI, 2, .inl (fun _ => 0))), ((r 46), .inl (cI, 2, .inl (fun _ => 0))), ((r 47), .inl (cI, 6, .inl (fun _ => 0))), ((r 50), .inl (cI, 200, .inl (fun _ => 0)))] := hD
  have hl := lv_entry ([.ref h]) (n := 2) (Nat.le_of_ble_eq_true rfl)
  rw [lg_entry_eq]
  generalize (lg_sl ([.ref h]) ++ List.replicate (2 - (lg_sl ([.ref h])).length) Slot.unset).toArray = ls at hl ⊢
  have hl : lv_has ls 2 [(0, .ref h)] := hl
  obtain ⟨H, hHe⟩ : ∃ H : Heap, H = s.heap := ⟨_, rfl⟩
  rw [← hHe] at hP
  have hS : va_S A s.heap H [] := by rw [hHe]; exact va_S.rf
  refine ct_start hHe ?_
  refine lv_aload_n hx hb dX11_dance_0 rfl (lv_at hl 0 rfl) ?_
  refine va_get (D := D) (ci := 11) (v := .ref (r 0)) (C := RX11) (T := TX11) (N := 16) hx hb hts hi11 hown hK hP 0 rfl rfl 0 (by decide) (hts (.fieldLink RX11 10 "OverHill" "reader" "LOverHill$Reader;") (by decide +kernel)) (fun _ h9 => h9) rfl dX11_dance_1 ?_
  refine lv_aload_n hx hb dX11_dance_4 rfl (lv_at hl 0 rfl) ?_
  refine va_get (D := D) (ci := 11) (v := .ref (r 3)) (C := RX11) (T := TX11) (N := 16) hx hb hts hi11 hown hK hP 0 rfl rfl 3 (by decide) (hts (.fieldLink RX11 28 "OverHill" "spare" "LOverHill$Dance;") (by decide +kernel)) (fun _ h9 => h9) rfl dX11_dance_5 ?_
  refine ct_calli (D := D) (wc := (w_c_X5_read cI cJ cB cZ cO r)) (wr := [oo h r (r 2) (r 3)]) (va_runV (As := [.ref (r 3)]) (rest := []) ⟨hx, hb, hml, hown, hts⟩ (c_X5_read l D cI cJ cB cZ cO r H.size) (cwV 1 hts gX11_dance_X5_read rfl rfl rfl (by decide +kernel) ⟨Nat.le_of_ble_eq_true rfl, Nat.le_of_ble_eq_true rfl⟩) (ct_preV (T := ct_T cI cJ cB cZ cO) (ci := 5) (q0 := 1) hE hP hD [1, 2, 3, 4, 5, 6, 7] (by decide) rfl rfl rfl) rfl rfl hl.1 rfl (lv_room (Nat.le_of_ble_eq_true rfl)) dX11_dance_8 ⟨Nat.le_of_ble_eq_true rfl, Nat.le_of_ble_eq_true rfl⟩) hP hD hS hA [1, 2, 3, 4, 5, 6, 7] [0] rfl rfl (by decide) (by decide) (fun rz u H locs hw hP hD hS => ?_)
  have hP : va_P D vwCl [oo h r (r 2) (r 3), ((r 1), .inr (8, [.ref (r 16), .int 0, .int 0, .int 0, .int 0, .int 0])), dn (r 3) (r 44) (r 45) (r 46) (r 47) (r 48) (r 50) (r 51) (r 53) (r 55)] H := hP
  have hD : va_D A [oo h r (r 2) (r 3), ((r 1), .inr (8, [.ref (r 16), .int 0, .int 0, .int 0, .int 0, .int 0])), dn (r 3) (r 44) (r 45) (r 46) (r 47) (r 48) (r 50) (r 51) (r 53) (r 55)] := hD
  obtain ⟨rfl, hq180⟩ := hw
  refine lv_if_ne (tgt := 17) hx hb dX11_dance_11 (by decide) (fun _ => ?_) (fun hc => absurd hc (by decide))
  refine lv_aload_n hx hb dX11_dance_17 rfl (lv_at hl 0 rfl) ?_
  refine va_get (D := D) (ci := 11) (v := .ref (r 2)) (C := RX11) (T := TX11) (N := 16) hx hb hts hi11 hown hK hP 0 rfl rfl 2 (by decide) (hts (.fieldLink RX11 24 "OverHill" "now" "LOverHill$Dance;") (by decide +kernel)) (fun _ h9 => h9) rfl dX11_dance_18 ?_
  refine lv_astore_n (lv' := [(1, .ref (r 2)), (0, .ref h)]) hx hb dX11_dance_21 rfl hl (by decide) rfl (fun ls hl => ?_)
  refine lv_aload_n hx hb dX11_dance_22 rfl (lv_at hl 1 rfl) ?_
  refine lv_aload_n hx hb dX11_dance_23 rfl (lv_at hl 1 rfl) ?_
  refine va_get (D := D) (ci := 11) (v := .ref (r 3)) (C := RX11) (T := TX11) (N := 16) hx hb hts hi11 hown hK hP 0 rfl rfl 3 (by decide) (hts (.fieldLink RX11 28 "OverHill" "spare" "LOverHill$Dance;") (by decide +kernel)) (fun _ h9 => h9) rfl dX11_dance_24 ?_
  refine va_put (D := D) (ci := 11) (v := .ref (r 3)) (ty := .object "OverHill$Dance") (C := RX11) (T := TX11) (N := 16) hx hb hts hi11 tyX11 tyX11_ok nmX11 hown hK hP hD hS 0 rfl rfl 2 (by decide) (hts (.fieldLink RX11 24 "OverHill" "now" "LOverHill$Dance;") (by decide +kernel)) (fun _ h9 => h9) rfl (by decide +kernel) rfl rfl (Nat.le_of_ble_eq_true rfl) dX11_dance_27 (fun H locs hP hD hS => ?_)
  have hP : va_P D vwCl [oo h r (r 3) (r 3), ((r 1), .inr (8, [.ref (r 16), .int 0, .int 0, .int 0, .int 0, .int 0])), dn (r 3) (r 44) (r 45) (r 46) (r 47) (r 48) (r 50) (r 51) (r 53) (r 55)] H := hP
  have hD : va_D A [oo h r (r 3) (r 3), ((r 1), .inr (8, [.ref (r 16), .int 0, .int 0, .int 0, .int 0, .int 0])), dn (r 3) (r 44) (r 45) (r 46) (r 47) (r 48) (r 50) (r 51) (r 53) (r 55)] := hD
  refine lv_aload_n hx hb dX11_dance_30 rfl (lv_at hl 1 rfl) ?_
  refine lv_aload_n hx hb dX11_dance_31 rfl (lv_at hl 0 rfl) ?_
  refine va_put (D := D) (ci := 11) (v := .ref (r 2)) (ty := .object "OverHill$Dance") (C := RX11) (T := TX11) (N := 16) hx hb hts hi11 tyX11 tyX11_ok nmX11 hown hK hP hD hS 0 rfl rfl 3 (by decide) (hts (.fieldLink RX11 28 "OverHill" "spare" "LOverHill$Dance;") (by decide +kernel)) (fun _ h9 => h9) rfl (by decide +kernel) rfl rfl (Nat.le_of_ble_eq_true rfl) dX11_dance_32 (fun H locs hP hD hS => ?_)
  have hP : va_P D vwCl [oo h r (r 3) (r 2), ((r 1), .inr (8, [.ref (r 16), .int 0, .int 0, .int 0, .int 0, .int 0])), dn (r 3) (r 44) (r 45) (r 46) (r 47) (r 48) (r 50) (r 51) (r 53) (r 55)] H := hP
  have hD : va_D A [oo h r (r 3) (r 2), ((r 1), .inr (8, [.ref (r 16), .int 0, .int 0, .int 0, .int 0, .int 0])), dn (r 3) (r 44) (r 45) (r 46) (r 47) (r 48) (r 50) (r 51) (r 53) (r 55)] := hD
  refine lv_aload_n hx hb dX11_dance_35 rfl (lv_at hl 1 rfl) ?_
  refine va_get (D := D) (ci := 11) (v := .ref (r 1)) (C := RX11) (T := TX11) (N := 16) hx hb hts hi11 hown hK hP 0 rfl rfl 1 (by decide) (hts (.fieldLink RX11 20 "OverHill" "tape" "LOverHill$Tape;") (by decide +kernel)) (fun _ h9 => h9) rfl dX11_dance_36 ?_
  refine lv_iconst (v := 0) hx hb dX11_dance_39 (by decide) ?_
  refine va_put (D := D) (ci := 8) (v := .int 0) (ty := .int) (C := RX8) (T := TX8) (N := 6) hx hb hts hi8 tyX8 tyX8_ok nmX8 hown hK hP hD hS 1 rfl rfl 1 (by decide) (hts (.fieldLink RX11 102 "OverHill$Tape" "length" "I") (by decide +kernel)) (fun _ h9 => h9) rfl (by decide +kernel) rfl rfl (Nat.le_of_ble_eq_true rfl) dX11_dance_40 (fun H locs hP hD hS => ?_)
  have hP : va_P D vwCl [oo h r (r 3) (r 2), ((r 1), .inr (8, [.ref (r 16), .int 0, .int 0, .int 0, .int 0, .int 0])), dn (r 3) (r 44) (r 45) (r 46) (r 47) (r 48) (r 50) (r 51) (r 53) (r 55)] H := hP
  have hD : va_D A [oo h r (r 3) (r 2), ((r 1), .inr (8, [.ref (r 16), .int 0, .int 0, .int 0, .int 0, .int 0])), dn (r 3) (r 44) (r 45) (r 46) (r 47) (r 48) (r 50) (r 51) (r 53) (r 55)] := hD
  refine lv_aload_n hx hb dX11_dance_43 rfl (lv_at hl 1 rfl) ?_
  refine lv_iconst (v := 0) hx hb dX11_dance_44 (by decide) ?_
  refine va_put (D := D) (ci := 11) (v := .int 0) (ty := .boolean) (C := RX11) (T := TX11) (N := 16) hx hb hts hi11 tyX11 tyX11_ok nmX11 hown hK hP hD hS 0 rfl rfl 8 (by decide) (hts (.fieldLink RX11 49 "OverHill" "laid" "Z") (by decide +kernel)) (fun _ h9 => h9) rfl (by decide +kernel) rfl rfl (Nat.le_of_ble_eq_true rfl) dX11_dance_45 (fun H locs hP hD hS => ?_)
  have hP : va_P D vwCl [oo h r (r 3) (r 2), ((r 1), .inr (8, [.ref (r 16), .int 0, .int 0, .int 0, .int 0, .int 0])), dn (r 3) (r 44) (r 45) (r 46) (r 47) (r 48) (r 50) (r 51) (r 53) (r 55)] H := hP
  have hD : va_D A [oo h r (r 3) (r 2), ((r 1), .inr (8, [.ref (r 16), .int 0, .int 0, .int 0, .int 0, .int 0])), dn (r 3) (r 44) (r 45) (r 46) (r 47) (r 48) (r 50) (r 51) (r 53) (r 55)] := hD
  refine lv_aload_n hx hb dX11_dance_48 rfl (lv_at hl 1 rfl) ?_
  refine va_get (D := D) (ci := 11) (v := .ref (r 3)) (C := RX11) (T := TX11) (N := 16) hx hb hts hi11 hown hK hP 0 rfl rfl 2 (by decide) (hts (.fieldLink RX11 24 "OverHill" "now" "LOverHill$Dance;") (by decide +kernel)) (fun _ h9 => h9) rfl dX11_dance_49 ?_
  refine va_get (D := D) (ci := 0) (v := .int 0) (C := RX0) (T := TX0) (N := 17) hx hb hts hi0 hown hK hP 2 rfl rfl 3 (by decide) (hts (.fieldLink RX11 116 "OverHill$Dance" "lines" "I") (by decide +kernel)) (fun _ h9 => h9) rfl dX11_dance_52 ?_
  have hP9 := hP.sub (ws' := []) [] rfl
  have hD9 := hD.sub (ws' := []) [] (by decide) rfl
  exact W.iret (v := 0) hx hb hr (fun t ht hW => ⟨⟨0, (), rfl, ⟨rfl, trivial⟩, by rw [ht]; exact hP9, hD9⟩, hS.F ht⟩) hS.2.2 dX11_dance_55
