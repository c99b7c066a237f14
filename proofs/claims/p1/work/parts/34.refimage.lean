abbrev w_c_X12_dance (cI cJ cB cZ cO : ClassId) (h : Nat) (r : Nat → Nat) : va_W := [mo h r 0 0, ((r 16), .inl (cI, 5, .inl (fun _ => 0))), ((r 17), .inl (cI, 55, .inl (fun _ => 0))), ((r 18), .inl (cI, 120, .inl (fun _ => 0))), ((r 19), .inl (cI, 30, .inl (fun _ => 0))), ((r 20), .inl (cI, 160, .inl (fun _ => 0))), ((r 21), .inl (cZ, 1000, .inl (fun _ => 0))), ((r 22), .inl (cI, 120, .inl (fun _ => 0))), ((r 23), .inl (cI, 50, .inl (fun _ => 0))), ((r 24), .inl (cI, 800, .inl (fun _ => 0)))]
set_option maxHeartbeats 4000000 in
set_option maxRecDepth 100000 in
/-- dance, of the reference, on a new object -/
theorem c_X12_dance (l : Launch) (D : va_G) (cI cJ cB cZ cO : ClassId) (h : Nat) (r : Nat → Nat) (sz : Nat) : Met l yX12_dance wsX12_dance ({ frames := 3, cells := 0, slots := 0, locals := 64 }) (va_Pc [.ref h] (ct_P D (ct_T cI cJ cB cZ cO) (w_c_X12_dance cI cJ cB cZ cO h r) sz)) (va_Qi (fun (rz : Int32) (u : Unit) => (rz = 0 ∧ True)) (fun (u : Unit) t => ct_Q D (va_A (w_c_X12_dance cI cJ cB cZ cO h r) sz) [] t) (va_A (w_c_X12_dance cI cJ cB cZ cO h r) sz)) 0 0 (va_A (w_c_X12_dance cI cJ cB cZ cO h r) sz) := by
  refine Met.ofW (cc := cX12_dance) (maxL := 1) (ret := (some .int)) (by decide) rfl ?_
  intro p e s m args below meth c s₁ B hml hv
  obtain ⟨rfl, hsz, hP, hE, hD0⟩ := hv
  have hx := B.exec
  have hb := B.bytes
  have hr := B.returns
  have hts := atoms_spec (ws := wsX12_dance) B.pre
  have hown : s.vm.findClass RX12 = some m.cls := findClass_of_methodNamed B.named
  have hlocks := B.notSynchronized
  have hK := hE.1
  have hi12 : ∀ w ∈ u_ws RX12 TX12 45, w ∈ wsX12_dance := fun w h => List.mem_cons_of_mem _ (List.mem_append_right _ h)
  subst hsz
  have hD := hD0.self (sz := s.heap.size)
  generalize hAe : va_A (w_c_X12_dance cI cJ cB cZ cO h r) s.heap.size = A at hD ⊢
  have hA : ∀ q : Nat, s.heap.size ≤ q → A q := fun q h => by rw [← hAe]; exact Or.inr h
  have hS : va_S A s.heap s.heap [] := va_S.rf
  have hP : va_P D vwCl [mo h r 0 0, ((r 16), .inl (cI, 5, .inl (fun _ => 0))), ((r 17), .inl (cI, 55, .inl (fun _ => 0))), ((r 18), .inl (cI, 120, .inl (fun _ => 0))), ((r 19), .inl (cI, 30, .inl (fun _ => 0))), ((r 20), .inl (cI, 160, .inl (fun _ => 0))), ((r 21), .inl (cZ, 1000, .inl (fun _ => 0))), ((r 22), .inl (cI, 120, .inl (fun _ => 0))), ((r 23), .inl (cI, 50, .inl (fun _ => 0))), ((r 24), .inl (cI, 800, .inl (fun _ => 0)))] s.heap := hP
  have hD : va_D A [mo h r 0 0, ((r 16), .inl (cI, 5, .inl (fun _ => 0))), ((r 17), .inl (cI, 55, .inl (fun _ => 0))), ((r 18), .inl (cI, 120, .inl (fun _ => 0))), ((r 19), .inl (cI, 30, .inl (fun _ => 0))), ((r 20), .inl (cI, 160, .inl (fun _ => 0))), ((r 21), .inl (cZ, 1000, .inl (fun _ => 0))), ((r 22), .inl (cI, 120, .inl (fun _ => 0))), ((r 23), .inl (cI, 50, .inl (fun _ => 0))), ((r 24), .inl (cI, 800, .inl (fun _ => 0)))] := hD
  have hl := lv_entry ([.ref h]) (n := 1) (Nat.le_of_ble_eq_true rfl)
  rw [lg_entry_eq]
  generalize (lg_sl ([.ref h]) ++ List.replicate (1 - (lg_sl ([.ref h])).length) Slot.unset).toArray = ls at hl ⊢
  have hl : lv_has ls 1 [(0, .ref h)] := hl
  obtain ⟨H, hHe⟩ : ∃ H : Heap, H = s.heap := ⟨_, rfl⟩
  rw [← hHe] at hP
  have hS : va_S A s.heap H [] := by rw [hHe]; exact va_S.rf
  refine ct_start hHe ?_
  refine lv_aload_n hx hb dX12_dance_0 rfl (lv_at hl 0 rfl) ?_
  refine lv_iconst (v := 0) hx hb dX12_dance_1 (by decide) ?_
  refine va_put (D := D) (ci := 12) (v := .int 0) (ty := .int) (C := RX12) (T := TX12) (N := 45) hx hb hts hi12 tyX12 tyX12_ok nmX12 hown hK hP hD hS 0 rfl rfl 0 (by decide) (hts (.fieldLink RX12 80 "OverHillModel" "thrown" "I") (by decide +kernel)) (fun _ h9 => h9) rfl (by decide +kernel) rfl rfl (Nat.le_of_ble_eq_true rfl) dX12_dance_2 (fun H locs hP hD hS => ?_)
  have hP : va_P D vwCl [mo h r 0 0, ((r 16), .inl (cI, 5, .inl (fun _ => 0))), ((r 17), .inl (cI, 55, .inl (fun _ => 0))), ((r 18), .inl (cI, 120, .inl (fun _ => 0))), ((r 19), .inl (cI, 30, .inl (fun _ => 0))), ((r 20), .inl (cI, 160, .inl (fun _ => 0))), ((r 21), .inl (cZ, 1000, .inl (fun _ => 0))), ((r 22), .inl (cI, 120, .inl (fun _ => 0))), ((r 23), .inl (cI, 50, .inl (fun _ => 0))), ((r 24), .inl (cI, 800, .inl (fun _ => 0)))] H := hP
  have hD : va_D A [mo h r 0 0, ((r 16), .inl (cI, 5, .inl (fun _ => 0))), ((r 17), .inl (cI, 55, .inl (fun _ => 0))), ((r 18), .inl (cI, 120, .inl (fun _ => 0))), ((r 19), .inl (cI, 30, .inl (fun _ => 0))), ((r 20), .inl (cI, 160, .inl (fun _ => 0))), ((r 21), .inl (cZ, 1000, .inl (fun _ => 0))), ((r 22), .inl (cI, 120, .inl (fun _ => 0))), ((r 23), .inl (cI, 50, .inl (fun _ => 0))), ((r 24), .inl (cI, 800, .inl (fun _ => 0)))] := hD
  refine lv_aload_n hx hb dX12_dance_5 rfl (lv_at hl 0 rfl) ?_
  refine ct_callv (D := D) (wc := (w_c_X12_clears cI cJ cB cZ cO h r)) (wr := [((r 18), .inl (cI, 120, .inl (fun _ => 0))), ((r 20), .inl (cI, 160, .inl (fun _ => 0))), ((r 22), .inl (cI, 120, .inl (fun _ => 0))), ((r 23), .inl (cI, 50, .inl (fun _ => 0))), ((r 24), .inl (cI, 800, .inl (fun _ => 0)))]) (va_runV (As := []) (rest := []) ⟨hx, hb, hml, hown, hts⟩ (c_X12_clears l D cI cJ cB cZ cO h r H.size) (cwV 0 hts gX12_dance_X12_clears rfl rfl rfl (by decide +kernel) ⟨Nat.le_of_ble_eq_true rfl, Nat.le_of_ble_eq_true rfl⟩) (ct_preV (T := ct_T cI cJ cB cZ cO) (ci := 12) (q0 := 0) hE hP hD [0, 1, 2, 4, 6] (by decide) rfl rfl rfl) rfl rfl hl.1 rfl (lv_room (Nat.le_of_ble_eq_true rfl)) dX12_dance_6 ⟨Nat.le_of_ble_eq_true rfl, Nat.le_of_ble_eq_true rfl⟩) hP hD hS hA [0, 1, 2, 4, 6] [3, 5, 7, 8, 9] rfl rfl (by decide) (by decide) (fun u H locs hw hP hD hS => ?_)
  obtain ⟨u498, rfl⟩ : ∃ z, z = u := ⟨_, rfl⟩
  have hP : va_P D vwCl [((r 18), .inl (cI, 120, .inl (fun _ => 0))), ((r 20), .inl (cI, 160, .inl (fun _ => 0))), ((r 22), .inl (cI, 120, .inl (fun _ => 0))), ((r 23), .inl (cI, 50, .inl (fun _ => 0))), ((r 24), .inl (cI, 800, .inl (fun _ => 0))), mo h r 0 0, ((r 16), .inl (cI, 5, .inl (fun _ => 0))), ((r 17), .inl (cI, 55, .inl (fun _ => 0))), ((r 19), .inl (cI, 30, .inl (u498))), ((r 21), .inl (cZ, 1000, .inl (fun _ => 0)))] H := hP
  have hD : va_D A [((r 18), .inl (cI, 120, .inl (fun _ => 0))), ((r 20), .inl (cI, 160, .inl (fun _ => 0))), ((r 22), .inl (cI, 120, .inl (fun _ => 0))), ((r 23), .inl (cI, 50, .inl (fun _ => 0))), ((r 24), .inl (cI, 800, .inl (fun _ => 0))), mo h r 0 0, ((r 16), .inl (cI, 5, .inl (fun _ => 0))), ((r 17), .inl (cI, 55, .inl (fun _ => 0))), ((r 19), .inl (cI, 30, .inl (u498))), ((r 21), .inl (cZ, 1000, .inl (fun _ => 0)))] := hD
  refine lv_aload_n hx hb dX12_dance_9 rfl (lv_at hl 0 rfl) ?_
  refine ct_callv (D := D) (wc := (w_c_X12_begins cI cJ cB cZ cO h r 0)) (wr := [((r 18), .inl (cI, 120, .inl (fun _ => 0))), ((r 20), .inl (cI, 160, .inl (fun _ => 0))), ((r 22), .inl (cI, 120, .inl (fun _ => 0))), ((r 23), .inl (cI, 50, .inl (fun _ => 0))), ((r 24), .inl (cI, 800, .inl (fun _ => 0))), ((r 16), .inl (cI, 5, .inl (fun _ => 0))), ((r 17), .inl (cI, 55, .inl (fun _ => 0))), ((r 19), .inl (cI, 30, .inl (u498))), ((r 21), .inl (cZ, 1000, .inl (fun _ => 0)))]) (va_runV (As := []) (rest := []) ⟨hx, hb, hml, hown, hts⟩ (c_X12_begins l D cI cJ cB cZ cO h r 0 H.size) (cwV 0 hts gX12_dance_X12_begins rfl rfl rfl (by decide +kernel) ⟨Nat.le_of_ble_eq_true rfl, Nat.le_of_ble_eq_true rfl⟩) (ct_preV (T := ct_T cI cJ cB cZ cO) (ci := 12) (q0 := 5) hE hP hD [5] (by decide) rfl rfl rfl) rfl rfl hl.1 rfl (lv_room (Nat.le_of_ble_eq_true rfl)) dX12_dance_10 ⟨Nat.le_of_ble_eq_true rfl, Nat.le_of_ble_eq_true rfl⟩) hP hD hS hA [5] [0, 1, 2, 3, 4, 6, 7, 8, 9] rfl rfl (by decide) (by decide) (fun u H locs hw hP hD hS => ?_)
  have hP : va_P D vwCl [((r 18), .inl (cI, 120, .inl (fun _ => 0))), ((r 20), .inl (cI, 160, .inl (fun _ => 0))), ((r 22), .inl (cI, 120, .inl (fun _ => 0))), ((r 23), .inl (cI, 50, .inl (fun _ => 0))), ((r 24), .inl (cI, 800, .inl (fun _ => 0))), ((r 16), .inl (cI, 5, .inl (fun _ => 0))), ((r 17), .inl (cI, 55, .inl (fun _ => 0))), ((r 19), .inl (cI, 30, .inl (u498))), ((r 21), .inl (cZ, 1000, .inl (fun _ => 0))), mo h r 0 (-1)] H := hP
  have hD : va_D A [((r 18), .inl (cI, 120, .inl (fun _ => 0))), ((r 20), .inl (cI, 160, .inl (fun _ => 0))), ((r 22), .inl (cI, 120, .inl (fun _ => 0))), ((r 23), .inl (cI, 50, .inl (fun _ => 0))), ((r 24), .inl (cI, 800, .inl (fun _ => 0))), ((r 16), .inl (cI, 5, .inl (fun _ => 0))), ((r 17), .inl (cI, 55, .inl (fun _ => 0))), ((r 19), .inl (cI, 30, .inl (u498))), ((r 21), .inl (cZ, 1000, .inl (fun _ => 0))), mo h r 0 (-1)] := hD
  refine lv_aload_n hx hb dX12_dance_13 rfl (lv_at hl 0 rfl) ?_
  refine ct_calli (D := D) (wc := (w_c_X12_isGood cI cJ cB cZ cO h r (-1))) (wr := [((r 18), .inl (cI, 120, .inl (fun _ => 0))), ((r 20), .inl (cI, 160, .inl (fun _ => 0))), ((r 22), .inl (cI, 120, .inl (fun _ => 0))), ((r 23), .inl (cI, 50, .inl (fun _ => 0))), ((r 24), .inl (cI, 800, .inl (fun _ => 0))), ((r 16), .inl (cI, 5, .inl (fun _ => 0))), ((r 17), .inl (cI, 55, .inl (fun _ => 0))), ((r 19), .inl (cI, 30, .inl (u498))), ((r 21), .inl (cZ, 1000, .inl (fun _ => 0)))]) (va_runV (As := []) (rest := []) ⟨hx, hb, hml, hown, hts⟩ (c_X12_isGood l D cI cJ cB cZ cO h r (-1) H.size) (cwV 0 hts gX12_dance_X12_isGood rfl rfl rfl (by decide +kernel) ⟨Nat.le_of_ble_eq_true rfl, Nat.le_of_ble_eq_true rfl⟩) (ct_preV (T := ct_T cI cJ cB cZ cO) (ci := 12) (q0 := 9) hE hP hD [9] (by decide) rfl rfl rfl) rfl rfl hl.1 rfl (lv_room (Nat.le_of_ble_eq_true rfl)) dX12_dance_14 ⟨Nat.le_of_ble_eq_true rfl, Nat.le_of_ble_eq_true rfl⟩) hP hD hS hA [9] [0, 1, 2, 3, 4, 5, 6, 7, 8] rfl rfl (by decide) (by decide) (fun rz u H locs hw hP hD hS => ?_)
  have hP : va_P D vwCl [((r 18), .inl (cI, 120, .inl (fun _ => 0))), ((r 20), .inl (cI, 160, .inl (fun _ => 0))), ((r 22), .inl (cI, 120, .inl (fun _ => 0))), ((r 23), .inl (cI, 50, .inl (fun _ => 0))), ((r 24), .inl (cI, 800, .inl (fun _ => 0))), ((r 16), .inl (cI, 5, .inl (fun _ => 0))), ((r 17), .inl (cI, 55, .inl (fun _ => 0))), ((r 19), .inl (cI, 30, .inl (u498))), ((r 21), .inl (cZ, 1000, .inl (fun _ => 0))), mo h r 0 (-1)] H := hP
  have hD : va_D A [((r 18), .inl (cI, 120, .inl (fun _ => 0))), ((r 20), .inl (cI, 160, .inl (fun _ => 0))), ((r 22), .inl (cI, 120, .inl (fun _ => 0))), ((r 23), .inl (cI, 50, .inl (fun _ => 0))), ((r 24), .inl (cI, 800, .inl (fun _ => 0))), ((r 16), .inl (cI, 5, .inl (fun _ => 0))), ((r 17), .inl (cI, 55, .inl (fun _ => 0))), ((r 19), .inl (cI, 30, .inl (u498))), ((r 21), .inl (cZ, 1000, .inl (fun _ => 0))), mo h r 0 (-1)] := hD
  obtain ⟨rfl, hq499⟩ := hw
  refine lv_if_eq (tgt := 119) hx hb dX12_dance_17 (by decide) (fun hc => absurd hc (by decide)) (fun _ => ?_)
  refine lv_aload_n hx hb dX12_dance_20 rfl (lv_at hl 0 rfl) ?_
  refine va_get (D := D) (ci := 12) (v := .int 0) (C := RX12) (T := TX12) (N := 45) hx hb hts hi12 hown hK hP 9 rfl rfl 8 (by decide) (hts (.fieldLink RX12 121 "OverHillModel" "token" "I") (by decide +kernel)) (fun _ h9 => h9) rfl dX12_dance_21 ?_
  refine lv_if_eq (tgt := 119) hx hb dX12_dance_24 (by decide) (fun _ => ?_) (fun hc => absurd hc (by decide))
  refine lv_aload_n hx hb dX12_dance_119 rfl (lv_at hl 0 rfl) ?_
  refine ct_callv (D := D) (wc := (w_c_X12_isOver cI cJ cB cZ cO h r (-1))) (wr := [((r 18), .inl (cI, 120, .inl (fun _ => 0))), ((r 20), .inl (cI, 160, .inl (fun _ => 0))), ((r 22), .inl (cI, 120, .inl (fun _ => 0))), ((r 23), .inl (cI, 50, .inl (fun _ => 0))), ((r 24), .inl (cI, 800, .inl (fun _ => 0))), ((r 16), .inl (cI, 5, .inl (fun _ => 0))), ((r 17), .inl (cI, 55, .inl (fun _ => 0))), ((r 19), .inl (cI, 30, .inl (u498))), ((r 21), .inl (cZ, 1000, .inl (fun _ => 0)))]) (va_runV (As := []) (rest := []) ⟨hx, hb, hml, hown, hts⟩ (c_X12_isOver l D cI cJ cB cZ cO h r (-1) H.size) (cwV 0 hts gX12_dance_X12_isOver rfl rfl rfl (by decide +kernel) ⟨Nat.le_of_ble_eq_true rfl, Nat.le_of_ble_eq_true rfl⟩) (ct_preV (T := ct_T cI cJ cB cZ cO) (ci := 12) (q0 := 9) hE hP hD [9] (by decide) rfl rfl rfl) rfl rfl hl.1 rfl (lv_room (Nat.le_of_ble_eq_true rfl)) dX12_dance_120 ⟨Nat.le_of_ble_eq_true rfl, Nat.le_of_ble_eq_true rfl⟩) hP hD hS hA [9] [0, 1, 2, 3, 4, 5, 6, 7, 8] rfl rfl (by decide) (by decide) (fun u H locs hw hP hD hS => ?_)
  have hP : va_P D vwCl [((r 18), .inl (cI, 120, .inl (fun _ => 0))), ((r 20), .inl (cI, 160, .inl (fun _ => 0))), ((r 22), .inl (cI, 120, .inl (fun _ => 0))), ((r 23), .inl (cI, 50, .inl (fun _ => 0))), ((r 24), .inl (cI, 800, .inl (fun _ => 0))), ((r 16), .inl (cI, 5, .inl (fun _ => 0))), ((r 17), .inl (cI, 55, .inl (fun _ => 0))), ((r 19), .inl (cI, 30, .inl (u498))), ((r 21), .inl (cZ, 1000, .inl (fun _ => 0))), mo h r 0 (-1)] H := hP
  have hD : va_D A [((r 18), .inl (cI, 120, .inl (fun _ => 0))), ((r 20), .inl (cI, 160, .inl (fun _ => 0))), ((r 22), .inl (cI, 120, .inl (fun _ => 0))), ((r 23), .inl (cI, 50, .inl (fun _ => 0))), ((r 24), .inl (cI, 800, .inl (fun _ => 0))), ((r 16), .inl (cI, 5, .inl (fun _ => 0))), ((r 17), .inl (cI, 55, .inl (fun _ => 0))), ((r 19), .inl (cI, 30, .inl (u498))), ((r 21), .inl (cZ, 1000, .inl (fun _ => 0))), mo h r 0 (-1)] := hD
  refine lv_aload_n hx hb dX12_dance_123 rfl (lv_at hl 0 rfl) ?_
  refine va_get (D := D) (ci := 12) (v := .int 0) (C := RX12) (T := TX12) (N := 45) hx hb hts hi12 hown hK hP 9 rfl rfl 12 (by decide) (hts (.fieldLink RX12 132 "OverHillModel" "bad" "I") (by decide +kernel)) (fun _ h9 => h9) rfl dX12_dance_124 ?_
  refine lv_if_eq (tgt := 133) hx hb dX12_dance_127 (by decide) (fun _ => ?_) (fun hc => absurd hc (by decide))
  refine lv_aload_n hx hb dX12_dance_133 rfl (lv_at hl 0 rfl) ?_
  refine lv_iconst (v := 4) hx hb dX12_dance_134 (by decide) ?_
  refine lv_iconst (v := 0) hx hb dX12_dance_135 (by decide) ?_
  refine ct_callv (D := D) (wc := (w_c_X12_copyDance cI cJ cB cZ cO h r (-1) u498)) (wr := []) (va_runV (As := [.int 4, .int 0]) (rest := []) ⟨hx, hb, hml, hown, hts⟩ (c_X12_copyDance l D cI cJ cB cZ cO h r (-1) u498 4 0 (by decide) (by decide) H.size) (cwV 2 hts gX12_dance_X12_copyDance rfl rfl rfl (by decide +kernel) ⟨Nat.le_of_ble_eq_true rfl, Nat.le_of_ble_eq_true rfl⟩) (ct_preV (T := ct_T cI cJ cB cZ cO) (ci := 12) (q0 := 9) hE hP hD [9, 5, 6, 0, 7, 1, 8, 2, 3, 4] (by decide) rfl rfl rfl) rfl rfl hl.1 rfl (lv_room (Nat.le_of_ble_eq_true rfl)) dX12_dance_136 ⟨Nat.le_of_ble_eq_true rfl, Nat.le_of_ble_eq_true rfl⟩) hP hD hS hA [9, 5, 6, 0, 7, 1, 8, 2, 3, 4] [] rfl rfl (by decide) (by decide) (fun u H locs hw hP hD hS => ?_)
  have hP : va_P D vwCl [mo h r 0 (-1), ((r 16), .inl (cI, 5, .inl (fun _ => 0)))] H := hP
  have hD : va_D A [mo h r 0 (-1), ((r 16), .inl (cI, 5, .inl (fun _ => 0)))] := hD
  refine lv_aload_n hx hb dX12_dance_139 rfl (lv_at hl 0 rfl) ?_
  refine va_get (D := D) (ci := 12) (v := .ref (r 16)) (C := RX12) (T := TX12) (N := 45) hx hb hts hi12 hown hK hP 0 rfl rfl 16 (by decide) (hts (.fieldLink RX12 31 "OverHillModel" "lines" "[I") (by decide +kernel)) (fun _ h9 => h9) rfl dX12_dance_140 ?_
  refine lv_iconst (v := 0) hx hb dX12_dance_143 (by decide) ?_
  refine va_iald (D := D) hx hb hK hP 1 0 rfl rfl (tq_in (a := 0) (by decide) (by omega)) dX12_dance_144 ?_
  refine lv_topi (fun z500 ez500 => ?_)
  obtain rfl : z500 = 0 := ez500
  have hP9 := hP.sub (ws' := []) [] rfl
  have hD9 := hD.sub (ws' := []) [] (by decide) rfl
  exact W.iret (v := 0) hx hb hr (fun t ht hW => ⟨⟨0, (), rfl, ⟨rfl, trivial⟩, by rw [ht]; exact hP9, hD9⟩, hS.F ht⟩) hS.2.2 dX12_dance_145
abbrev w_c_X12_image (cI cJ cB cZ cO : ClassId) (h : Nat) (r : Nat → Nat) : va_W := [mo h r 0 0, ((r 25), .inl (cZ, 3, .inl (fun _ => 0))), ((r 16), .inl (cI, 5, .inl (fun _ => 0))), ((r 17), .inl (cI, 55, .inl (fun _ => 0))), ((r 18), .inl (cI, 120, .inl (fun _ => 0))), ((r 19), .inl (cI, 30, .inl (fun _ => 0))), ((r 20), .inl (cI, 160, .inl (fun _ => 0))), ((r 21), .inl (cZ, 1000, .inl (fun _ => 0))), ((r 22), .inl (cI, 120, .inl (fun _ => 0))), ((r 23), .inl (cI, 50, .inl (fun _ => 0))), ((r 24), .inl (cI, 800, .inl (fun _ => 0)))]
set_option maxHeartbeats 4000000 in
set_option maxRecDepth 100000 in
/-- image, of the reference, on a new object -/
theorem c_X12_image (l : Launch) (D : va_G) (cI cJ cB cZ cO : ClassId) (h : Nat) (r : Nat → Nat) (x1 : Int32) (sz : Nat) : Met l yX12_image wsX12_image ({ frames := 2, cells := 0, slots := 0, locals := 47 }) (va_Pc [.ref h, .int x1] (ct_P D (ct_T cI cJ cB cZ cO) (w_c_X12_image cI cJ cB cZ cO h r) sz)) (va_Qi (fun (rz : Int32) (u : Unit) => (rz = 0 ∧ (0 ≤ x1.toInt ∧ x1.toInt < 3)) ∨ (rz = (-2) ∧ ¬ (0 ≤ x1.toInt ∧ x1.toInt < 3))) (fun (u : Unit) t => ct_Q D (va_A (w_c_X12_image cI cJ cB cZ cO h r) sz) [] t) (va_A (w_c_X12_image cI cJ cB cZ cO h r) sz)) 0 0 (va_A (w_c_X12_image cI cJ cB cZ cO h r) sz) := by
  refine Met.ofW (cc := cX12_image) (maxL := 2) (ret := (some .int)) (by decide) rfl ?_
  intro p e s m args below meth c s₁ B hml hv
  obtain ⟨rfl, hsz, hP, hE, hD0⟩ := hv
  have hx := B.exec
  have hb := B.bytes
  have hr := B.returns
  have hts := atoms_spec (ws := wsX12_image) B.pre
  have hown : s.vm.findClass RX12 = some m.cls := findClass_of_methodNamed B.named
  have hlocks := B.notSynchronized
  have hK := hE.1
  have hi12 : ∀ w ∈ u_ws RX12 TX12 45, w ∈ wsX12_image := fun w h => List.mem_cons_of_mem _ (List.mem_append_right _ h)
  subst hsz
  have hD := hD0.self (sz := s.heap.size)
  generalize hAe : va_A (w_c_X12_image cI cJ cB cZ cO h r) s.heap.size = A at hD ⊢
  have hA : ∀ q : Nat, s.heap.size ≤ q → A q := fun q h => by rw [← hAe]; exact Or.inr h
  have hS : va_S A s.heap s.heap [] := va_S.rf
  have hP : va_P D vwCl [mo h r 0 0, ((r 25), .inl (cZ, 3, .inl (fun _ => 0))), ((r 16), .inl (cI, 5, .inl (fun _ => 0))), ((r 17), .inl (cI, 55, .inl (fun _ => 0))), ((r 18), .inl (cI, 120, .inl (fun _ => 0))), ((r 19), .inl (cI, 30, .inl (fun _ => 0))), ((r 20), .inl (cI, 160, .inl (fun _ => 0))), ((r 21), .inl (cZ, 1000, .inl (fun _ => 0))), ((r 22), .inl (cI, 120, .inl (fun _ => 0))), ((r 23), .inl (cI, 50, .inl (fun _ => 0))), ((r 24), .inl (cI, 800, .inl (fun _ => 0)))] s.heap := hP
  have hD : va_D A [mo h r 0 0, ((r 25), .inl (cZ, 3, .inl (fun _ => 0))), ((r 16), .inl (cI, 5, .inl (fun _ => 0))), ((r 17), .inl (cI, 55, .inl (fun _ => 0))), ((r 18), .inl (cI, 120, .inl (fun _ => 0))), ((r 19), .inl (cI, 30, .inl (fun _ => 0))), ((r 20), .inl (cI, 160, .inl (fun _ => 0))), ((r 21), .inl (cZ, 1000, .inl (fun _ => 0))), ((r 22), .inl (cI, 120, .inl (fun _ => 0))), ((r 23), .inl (cI, 50, .inl (fun _ => 0))), ((r 24), .inl (cI, 800, .inl (fun _ => 0)))] := hD
  have hl := lv_entry ([.ref h, .int x1]) (n := 2) (Nat.le_of_ble_eq_true rfl)
  rw [lg_entry_eq]
  generalize (lg_sl ([.ref h, .int x1]) ++ List.replicate (2 - (lg_sl ([.ref h, .int x1])).length) Slot.unset).toArray = ls at hl ⊢
  have hl : lv_has ls 2 [(0, .ref h), (1, .int x1)] := hl
  obtain ⟨H, hHe⟩ : ∃ H : Heap, H = s.heap := ⟨_, rfl⟩
  rw [← hHe] at hP
  have hS : va_S A s.heap H [] := by rw [hHe]; exact va_S.rf
  refine ct_start hHe ?_
  refine lv_aload_n hx hb dX12_image_0 rfl (lv_at hl 0 rfl) ?_
  refine lv_iconst (v := 0) hx hb dX12_image_1 (by decide) ?_
  refine va_put (D := D) (ci := 12) (v := .int 0) (ty := .int) (C := RX12) (T := TX12) (N := 45) hx hb hts hi12 tyX12 tyX12_ok nmX12 hown hK hP hD hS 0 rfl rfl 0 (by decide) (hts (.fieldLink RX12 80 "OverHillModel" "thrown" "I") (by decide +kernel)) (fun _ h9 => h9) rfl (by decide +kernel) rfl rfl (Nat.le_of_ble_eq_true rfl) dX12_image_2 (fun H locs hP hD hS => ?_)
  have hP : va_P D vwCl [mo h r 0 0, ((r 25), .inl (cZ, 3, .inl (fun _ => 0))), ((r 16), .inl (cI, 5, .inl (fun _ => 0))), ((r 17), .inl (cI, 55, .inl (fun _ => 0))), ((r 18), .inl (cI, 120, .inl (fun _ => 0))), ((r 19), .inl (cI, 30, .inl (fun _ => 0))), ((r 20), .inl (cI, 160, .inl (fun _ => 0))), ((r 21), .inl (cZ, 1000, .inl (fun _ => 0))), ((r 22), .inl (cI, 120, .inl (fun _ => 0))), ((r 23), .inl (cI, 50, .inl (fun _ => 0))), ((r 24), .inl (cI, 800, .inl (fun _ => 0)))] H := hP
  have hD : va_D A [mo h r 0 0, ((r 25), .inl (cZ, 3, .inl (fun _ => 0))), ((r 16), .inl (cI, 5, .inl (fun _ => 0))), ((r 17), .inl (cI, 55, .inl (fun _ => 0))), ((r 18), .inl (cI, 120, .inl (fun _ => 0))), ((r 19), .inl (cI, 30, .inl (fun _ => 0))), ((r 20), .inl (cI, 160, .inl (fun _ => 0))), ((r 21), .inl (cZ, 1000, .inl (fun _ => 0))), ((r 22), .inl (cI, 120, .inl (fun _ => 0))), ((r 23), .inl (cI, 50, .inl (fun _ => 0))), ((r 24), .inl (cI, 800, .inl (fun _ => 0)))] := hD
  refine lv_iload_n hx hb dX12_image_5 rfl (lv_at hl 1 rfl) ?_
  refine lv_i2l (v := x1.toInt64) hx hb dX12_image_6 rfl ?_
  refine lv_lconst (v := 0) hx hb dX12_image_7 (by decide) ?_
  refine lv_ldc2 (v := 2) hx hb hown (hts (.constantLong RX12 477 (2)) (by decide +kernel)) dX12_image_8 ?_
  refine ct_calli (D := D) (wc := (w_c_X12_in cI cJ cB cZ cO )) (wr := [mo h r 0 0, ((r 25), .inl (cZ, 3, .inl (fun _ => 0))), ((r 16), .inl (cI, 5, .inl (fun _ => 0))), ((r 17), .inl (cI, 55, .inl (fun _ => 0))), ((r 18), .inl (cI, 120, .inl (fun _ => 0))), ((r 19), .inl (cI, 30, .inl (fun _ => 0))), ((r 20), .inl (cI, 160, .inl (fun _ => 0))), ((r 21), .inl (cZ, 1000, .inl (fun _ => 0))), ((r 22), .inl (cI, 120, .inl (fun _ => 0))), ((r 23), .inl (cI, 50, .inl (fun _ => 0))), ((r 24), .inl (cI, 800, .inl (fun _ => 0)))]) (va_runS (As := [.long x1.toInt64, .long 0, .long 2]) (rest := []) ⟨hx, hb, hml, hown, hts⟩ (c_X12_in l D cI cJ cB cZ cO x1.toInt64 0 2 x1.toInt 0 2 (tl_i rfl) (by decide) (by decide) H.size) (va_cwS 3 hts gX12_image_X12_in rfl rfl rfl (by decide +kernel) ⟨Nat.le_of_ble_eq_true rfl, Nat.le_of_ble_eq_true rfl⟩) (ct_preS (T := ct_T cI cJ cB cZ cO) hE hP hD [] (by decide) rfl) rfl rfl hl.1 rfl (lv_room (Nat.le_of_ble_eq_true rfl)) dX12_image_11 ⟨Nat.le_of_ble_eq_true rfl, Nat.le_of_ble_eq_true rfl⟩) hP hD hS hA [] [0, 1, 2, 3, 4, 5, 6, 7, 8, 9, 10] rfl rfl (by decide) (by decide) (fun rz u H locs hw hP hD hS => ?_)
  have hP : va_P D vwCl [mo h r 0 0, ((r 25), .inl (cZ, 3, .inl (fun _ => 0))), ((r 16), .inl (cI, 5, .inl (fun _ => 0))), ((r 17), .inl (cI, 55, .inl (fun _ => 0))), ((r 18), .inl (cI, 120, .inl (fun _ => 0))), ((r 19), .inl (cI, 30, .inl (fun _ => 0))), ((r 20), .inl (cI, 160, .inl (fun _ => 0))), ((r 21), .inl (cZ, 1000, .inl (fun _ => 0))), ((r 22), .inl (cI, 120, .inl (fun _ => 0))), ((r 23), .inl (cI, 50, .inl (fun _ => 0))), ((r 24), .inl (cI, 800, .inl (fun _ => 0)))] H := hP
  have hD : va_D A [mo h r 0 0, ((r 25), .inl (cZ, 3, .inl (fun _ => 0))), ((r 16), .inl (cI, 5, .inl (fun _ => 0))), ((r 17), .inl (cI, 55, .inl (fun _ => 0))), ((r 18), .inl (cI, 120, .inl (fun _ => 0))), ((r 19), .inl (cI, 30, .inl (fun _ => 0))), ((r 20), .inl (cI, 160, .inl (fun _ => 0))), ((r 21), .inl (cZ, 1000, .inl (fun _ => 0))), ((r 22), .inl (cI, 120, .inl (fun _ => 0))), ((r 23), .inl (cI, 50, .inl (fun _ => 0))), ((r 24), .inl (cI, 800, .inl (fun _ => 0)))] := hD
  rcases hw with ⟨rfl, hq501⟩ | ⟨rfl, hq501⟩
  · refine lv_if_ne (tgt := 20) hx hb dX12_image_14 (by decide) (fun _ => ?_) (fun hc => absurd hc (by decide))
    refine lv_aload_n hx hb dX12_image_20 rfl (lv_at hl 0 rfl) ?_
    refine lv_iconst (v := 0) hx hb dX12_image_21 (by decide) ?_
    refine lv_iconst (v := 1) hx hb dX12_image_22 (by decide) ?_
    refine lv_iload_n hx hb dX12_image_23 rfl (lv_at hl 1 rfl) ?_
    refine lv_iadd hx hb dX12_image_24 ?_
    refine lv_topi (fun z502 ez502 => ?_)
    have fz502 : z502.toInt = (1 + x1.toInt) := by rw [ez502]; exact tq_add (by decide) rfl (by omega)
    refine ct_callv (D := D) (wc := (w_c_X12_copyDance cI cJ cB cZ cO h r 0 (fun _ => 0))) (wr := [((r 25), .inl (cZ, 3, .inl (fun _ => 0)))]) (va_runV (As := [.int 0, .int z502]) (rest := []) ⟨hx, hb, hml, hown, hts⟩ (c_X12_copyDance l D cI cJ cB cZ cO h r 0 (fun _ => 0) 0 z502 (by decide) (by rw [fz502]; omega) H.size) (cwV 2 hts gX12_image_X12_copyDance rfl rfl rfl (by decide +kernel) ⟨Nat.le_of_ble_eq_true rfl, Nat.le_of_ble_eq_true rfl⟩) (ct_preV (T := ct_T cI cJ cB cZ cO) (ci := 12) (q0 := 0) hE hP hD [0, 2, 3, 4, 5, 6, 7, 8, 9, 10] (by decide) rfl rfl rfl) rfl rfl hl.1 rfl (lv_room (Nat.le_of_ble_eq_true rfl)) dX12_image_25 ⟨Nat.le_of_ble_eq_true rfl, Nat.le_of_ble_eq_true rfl⟩) hP hD hS hA [0, 2, 3, 4, 5, 6, 7, 8, 9, 10] [1] rfl rfl (by decide) (by decide) (fun u H locs hw hP hD hS => ?_)
    have hP : va_P D vwCl [((r 25), .inl (cZ, 3, .inl (fun _ => 0))), mo h r 0 0, ((r 16), .inl (cI, 5, .inl (fun _ => 0)))] H := hP
    have hD : va_D A [((r 25), .inl (cZ, 3, .inl (fun _ => 0))), mo h r 0 0, ((r 16), .inl (cI, 5, .inl (fun _ => 0)))] := hD
    refine lv_aload_n hx hb dX12_image_28 rfl (lv_at hl 0 rfl) ?_
    refine va_get (D := D) (ci := 12) (v := .ref (r 25)) (C := RX12) (T := TX12) (N := 45) hx hb hts hi12 hown hK hP 1 rfl rfl 25 (by decide) (hts (.fieldLink RX12 59 "OverHillModel" "isKept" "[Z") (by decide +kernel)) (fun _ h9 => h9) rfl dX12_image_29 ?_
    refine lv_iload_n hx hb dX12_image_32 rfl (lv_at hl 1 rfl) ?_
    refine lv_iconst (v := 1) hx hb dX12_image_33 (by decide) ?_
    refine va_zast (D := D) hx hb hK hP hD hS 0 3 rfl rfl (tq_in rfl (by omega)) dX12_image_34 (fun H locs hP hD hS => ?_)
    obtain ⟨g503, hP, hD⟩ : ∃ g503 : Nat → Int32, va_P D vwCl [((r 25), .inl (cZ, 3, .inl (g503))), mo h r 0 0, ((r 16), .inl (cI, 5, .inl (fun _ => 0)))] H ∧ va_D A [((r 25), .inl (cZ, 3, .inl (g503))), mo h r 0 0, ((r 16), .inl (cI, 5, .inl (fun _ => 0)))] := ⟨_, hP, hD⟩
    refine lv_iconst (v := 0) hx hb dX12_image_35 (by decide) ?_
    have hP9 := hP.sub (ws' := []) [] rfl
    have hD9 := hD.sub (ws' := []) [] (by decide) rfl
    exact W.iret (v := 0) hx hb hr (fun t ht hW => ⟨⟨0, (), rfl, (Or.inl ⟨rfl, by omega⟩), by rw [ht]; exact hP9, hD9⟩, hS.F ht⟩) hS.2.2 dX12_image_36
  · refine lv_if_ne (tgt := 20) hx hb dX12_image_14 (by decide) (fun hc => absurd hc (by decide)) (fun _ => ?_)
    refine lv_bipush (v := (-2)) hx hb dX12_image_17 (by decide) ?_
    have hP9 := hP.sub (ws' := []) [] rfl
    have hD9 := hD.sub (ws' := []) [] (by decide) rfl
    exact W.iret (v := (-2)) hx hb hr (fun t ht hW => ⟨⟨(-2), (), rfl, (Or.inr (⟨rfl, by omega⟩)), by rw [ht]; exact hP9, hD9⟩, hS.F ht⟩) hS.2.2 dX12_image_19
set_option maxHeartbeats 4000000 in
set_option maxRecDepth 100000 in
/-- the loop of X12_count at 119 -/
theorem lp_X12_count_119 {p : Program} {l : Launch} {e : Env} {Rm : Room} {s : State} {m : MethodId} {args : Array Value} {below : List Frame} {meth : Method} {c : Code} {cells slots : Nat} {Q : State → Prop} {A : Nat → Prop} (D : va_G) (cI cJ cB cZ cO : ClassId) (h : Nat) (r : Nat → Nat) (x1 : Int32)  (hx : p.tables.exec = Jvm.exec) (hb : c.code = cX12_count) (hown : s.vm.findClass RX12 = some m.cls) (hts : ∀ w ∈ wsX12_count, w.before args s = true) (hE : ct_E D (ct_T cI cJ cB cZ cO) s)
    (hk : ∀  (H : Heap) (locs : List Loc) (ls : Array Slot), va_P D vwCl [mo h r 0 0, ((r 17), .inl (cI, 55, .inl (fun _ => 0))), ((r 21), .inl (cZ, 1000, .inl (fun _ => 0))), ((r 16), .inl (cI, 5, .inl (fun _ => 0))), ((r 1), .inl (cI, 4, .inl (szf)))] H → va_D A [mo h r 0 0, ((r 17), .inl (cI, 55, .inl (fun _ => 0))), ((r 21), .inl (cZ, 1000, .inl (fun _ => 0))), ((r 16), .inl (cI, 5, .inl (fun _ => 0))), ((r 1), .inl (cI, 4, .inl (szf)))] → va_S A s.heap H locs → lv_has ls 4 [(3, .int (nI 200)), (2, .int 0), (0, .ref h), (1, .int x1)] → W p l e Rm s m args below meth c H locs cells slots Q (F0 m 149 ls [])) :
    ∀ (fu i : Nat)  (H : Heap) (locs : List Loc) (ls : Array Slot), i + fu = 200 → va_P D vwCl [mo h r 0 0, ((r 17), .inl (cI, 55, .inl (fun _ => 0))), ((r 21), .inl (cZ, 1000, .inl (fun _ => 0))), ((r 16), .inl (cI, 5, .inl (fun _ => 0))), ((r 1), .inl (cI, 4, .inl (szf)))] H → va_D A [mo h r 0 0, ((r 17), .inl (cI, 55, .inl (fun _ => 0))), ((r 21), .inl (cZ, 1000, .inl (fun _ => 0))), ((r 16), .inl (cI, 5, .inl (fun _ => 0))), ((r 1), .inl (cI, 4, .inl (szf)))] → va_S A s.heap H locs → lv_has ls 4 [(3, .int (nI i)), (2, .int 0), (0, .ref h), (1, .int x1)] → W p l e Rm s m args below meth c H locs cells slots Q (F0 m 119 ls []) := by
  have hK := hE.1
  have hi12 : ∀ w ∈ u_ws RX12 TX12 45, w ∈ wsX12_count := fun w h => List.mem_cons_of_mem _ (List.mem_append_right _ h)
  intro fu
  induction fu with
  | zero =>
    intro i  H locs ls hin hP hD hS hl
    obtain rfl : i = 200 := by omega
    refine lv_iload_n hx hb dX12_count_119 rfl (lv_at hl 0 rfl) ?_
    refine lv_sipush (v := 200) hx hb dX12_count_120 (by decide) ?_
    refine lv_icmp_ge (tgt := 149) hx hb dX12_count_123 (by decide) (fun _ => ?_) (fun hc => absurd hc (by decide))
    exact hk  H locs ls hP hD hS (lv_sub hl [0, 1, 2, 3] rfl)
  | succ fu ih =>
    intro i  H locs ls hin hP hD hS hl
    refine lv_iload_n hx hb dX12_count_119 rfl (lv_at hl 0 rfl) ?_
    refine lv_sipush (v := 200) hx hb dX12_count_120 (by decide) ?_
    refine lv_icmp_ge (tgt := 149) hx hb dX12_count_123 (by decide) (fun hc => absurd hc (nI_ge (a := i) (b := 200) (by omega) (by omega))) (fun _ => ?_)
    refine lv_iload_n hx hb dX12_count_126 rfl (lv_at hl 1 rfl) ?_
    refine lv_aload_n hx hb dX12_count_127 rfl (lv_at hl 2 rfl) ?_
    refine va_get (D := D) (ci := 12) (v := .ref (r 21)) (C := RX12) (T := TX12) (N := 45) hx hb hts hi12 hown hK hP 0 rfl rfl 21 (by decide) (hts (.fieldLink RX12 46 "OverHillModel" "isMud" "[Z") (by decide +kernel)) (fun _ h9 => h9) rfl dX12_count_128 ?_
    refine lv_iload_n hx hb dX12_count_131 rfl (lv_at hl 0 rfl) ?_
    refine va_zald (D := D) hx hb hK hP 2 3 rfl rfl (tq_in (nI_toInt (by omega)) (by omega)) dX12_count_132 ?_
    refine lv_topi (fun z517 ez517 => ?_)
    obtain rfl : z517 = 0 := ez517
    refine lv_if_eq (tgt := 140) hx hb dX12_count_133 (by decide) (fun _ => ?_) (fun hc => absurd hc (by decide))
    refine lv_iconst (v := 0) hx hb dX12_count_140 (by decide) ?_
    refine lv_iadd hx hb dX12_count_141 ?_
    refine lv_topi (fun z518 ez518 => ?_)
    obtain rfl : z518 = 0 := ez518.trans (by decide)
    refine lv_istore_n (lv' := [(2, .int 0), (3, .int (nI i)), (0, .ref h), (1, .int x1)]) hx hb dX12_count_142 rfl hl (by decide) rfl (fun ls hl => ?_)
    refine lv_iinc (v := (nI (i + 1))) (lv' := [(3, .int (nI (i + 1))), (2, .int 0), (0, .ref h), (1, .int x1)]) hx hb dX12_count_143 hl (k := 1) rfl (nI_1 i) (by decide) rfl (fun ls hl => ?_)
    refine lv_goto (tgt := 119) hx hb dX12_count_146 (by decide) ?_
    exact ih (i + 1)  H locs ls (by omega) hP hD hS (lv_sub hl [0, 1, 2, 3] rfl)
abbrev w_c_X12_count (cI cJ cB cZ cO : ClassId) (h : Nat) (r : Nat → Nat) : va_W := [mo h r 0 0, ((r 17), .inl (cI, 55, .inl (fun _ => 0))), ((r 21), .inl (cZ, 1000, .inl (fun _ => 0))), ((r 16), .inl (cI, 5, .inl (fun _ => 0))), ((r 1), .inl (cI, 4, .inl (szf)))]
set_option maxHeartbeats 4000000 in
set_option maxRecDepth 100000 in
/-- count, of the reference, on a new object -/
theorem c_X12_count (l : Launch) (D : va_G) (cI cJ cB cZ cO : ClassId) (h : Nat) (r : Nat → Nat) (x1 : Int32) (sz : Nat) : Met l yX12_count wsX12_count ({ frames := 1, cells := 0, slots := 0, locals := 21 }) (va_Pc [.ref h, .int x1] (ct_P D (ct_T cI cJ cB cZ cO) (w_c_X12_count cI cJ cB cZ cO h r) sz)) (va_Qi (fun (rz : Int32) (u : Unit) => (rz = 0 ∧ (0 ≤ x1.toInt ∧ x1.toInt ≤ 12)) ∨ (rz = (-1) ∧ ¬ (0 ≤ x1.toInt ∧ x1.toInt ≤ 12))) (fun (u : Unit) t => ct_Q D (va_A (w_c_X12_count cI cJ cB cZ cO h r) sz) [] t) (va_A (w_c_X12_count cI cJ cB cZ cO h r) sz)) 0 0 (va_A (w_c_X12_count cI cJ cB cZ cO h r) sz) := by
  refine Met.ofW (cc := cX12_count) (maxL := 4) (ret := (some .int)) (by decide) rfl ?_
  intro p e s m args below meth c s₁ B hml hv
  obtain ⟨rfl, hsz, hP, hE, hD0⟩ := hv
  have hx := B.exec
  have hb := B.bytes
  have hr := B.returns
  have hts := atoms_spec (ws := wsX12_count) B.pre
  have hown : s.vm.findClass RX12 = some m.cls := findClass_of_methodNamed B.named
  have hlocks := B.notSynchronized
  have hK := hE.1
  have hi12 : ∀ w ∈ u_ws RX12 TX12 45, w ∈ wsX12_count := fun w h => List.mem_cons_of_mem _ (List.mem_append_right _ h)
  subst hsz
  have hD := hD0.self (sz := s.heap.size)
  generalize hAe : va_A (w_c_X12_count cI cJ cB cZ cO h r) s.heap.size = A at hD ⊢
  have hA : ∀ q : Nat, s.heap.size ≤ q → A q := fun q h => by rw [← hAe]; exact Or.inr h
  have hS : va_S A s.heap s.heap [] := va_S.rf
  have hP : va_P D vwCl [mo h r 0 0, ((r 17), .inl (cI, 55, .inl (fun _ => 0))), ((r 21), .inl (cZ, 1000, .inl (fun _ => 0))), ((r 16), .inl (cI, 5, .inl (fun _ => 0))), ((r 1), .inl (cI, 4, .inl (szf)))] s.heap := hP
  have hD : va_D A [mo h r 0 0, ((r 17), .inl (cI, 55, .inl (fun _ => 0))), ((r 21), .inl (cZ, 1000, .inl (fun _ => 0))), ((r 16), .inl (cI, 5, .inl (fun _ => 0))), ((r 1), .inl (cI, 4, .inl (szf)))] := hD
  have hl := lv_entry ([.ref h, .int x1]) (n := 4) (Nat.le_of_ble_eq_true rfl)
  rw [lg_entry_eq]
  generalize (lg_sl ([.ref h, .int x1]) ++ List.replicate (4 - (lg_sl ([.ref h, .int x1])).length) Slot.unset).toArray = ls at hl ⊢
  have hl : lv_has ls 4 [(0, .ref h), (1, .int x1)] := hl
  obtain ⟨H, hHe⟩ : ∃ H : Heap, H = s.heap := ⟨_, rfl⟩
  rw [← hHe] at hP
  have hS : va_S A s.heap H [] := by rw [hHe]; exact va_S.rf
  refine ct_start hHe ?_
  refine lv_aload_n hx hb dX12_count_0 rfl (lv_at hl 0 rfl) ?_
  refine lv_iconst (v := 0) hx hb dX12_count_1 (by decide) ?_
  refine va_put (D := D) (ci := 12) (v := .int 0) (ty := .int) (C := RX12) (T := TX12) (N := 45) hx hb hts hi12 tyX12 tyX12_ok nmX12 hown hK hP hD hS 0 rfl rfl 0 (by decide) (hts (.fieldLink RX12 80 "OverHillModel" "thrown" "I") (by decide +kernel)) (fun _ h9 => h9) rfl (by decide +kernel) rfl rfl (Nat.le_of_ble_eq_true rfl) dX12_count_2 (fun H locs hP hD hS => ?_)
  have hP : va_P D vwCl [mo h r 0 0, ((r 17), .inl (cI, 55, .inl (fun _ => 0))), ((r 21), .inl (cZ, 1000, .inl (fun _ => 0))), ((r 16), .inl (cI, 5, .inl (fun _ => 0))), ((r 1), .inl (cI, 4, .inl (szf)))] H := hP
  have hD : va_D A [mo h r 0 0, ((r 17), .inl (cI, 55, .inl (fun _ => 0))), ((r 21), .inl (cZ, 1000, .inl (fun _ => 0))), ((r 16), .inl (cI, 5, .inl (fun _ => 0))), ((r 1), .inl (cI, 4, .inl (szf)))] := hD
  refine lv_iconst (v := 0) hx hb dX12_count_5 (by decide) ?_
  refine lv_istore_n (lv' := [(2, .int 0), (0, .ref h), (1, .int x1)]) hx hb dX12_count_6 rfl hl (by decide) rfl (fun ls hl => ?_)
  refine lv_iload_n hx hb dX12_count_7 rfl (lv_at hl 2 rfl) ?_
  by_cases hq504 : x1.toInt = 0
  · refine lv_tableIn (tgt := 76) (off := 68) hx hb dX12_count_8 (by omega) (by omega) (by rw [hq504]; decide) (by decide) ?_
    refine lv_aload_n hx hb dX12_count_76 rfl (lv_at hl 1 rfl) ?_
    refine va_get (D := D) (ci := 12) (v := .ref (r 17)) (C := RX12) (T := TX12) (N := 45) hx hb hts hi12 hown hK hP 0 rfl rfl 17 (by decide) (hts (.fieldLink RX12 34 "OverHillModel" "has" "[I") (by decide +kernel)) (fun _ h9 => h9) rfl dX12_count_77 ?_
    refine lv_iconst (v := 0) hx hb dX12_count_80 (by decide) ?_
    refine va_iald (D := D) hx hb hK hP 1 0 rfl rfl (tq_in (a := 0) (by decide) (by omega)) dX12_count_81 ?_
    refine lv_topi (fun z505 ez505 => ?_)
    obtain rfl : z505 = 0 := ez505
    have hP9 := hP.sub (ws' := []) [] rfl
    have hD9 := hD.sub (ws' := []) [] (by decide) rfl
    exact W.iret (v := 0) hx hb hr (fun t ht hW => ⟨⟨0, (), rfl, (Or.inl ⟨rfl, by omega⟩), by rw [ht]; exact hP9, hD9⟩, hS.F ht⟩) hS.2.2 dX12_count_82
  by_cases hq506 : x1.toInt = 1
  · refine lv_tableIn (tgt := 83) (off := 75) hx hb dX12_count_8 (by omega) (by omega) (by rw [hq506]; decide) (by decide) ?_
    refine lv_aload_n hx hb dX12_count_83 rfl (lv_at hl 1 rfl) ?_
    refine va_get (D := D) (ci := 12) (v := .ref (r 17)) (C := RX12) (T := TX12) (N := 45) hx hb hts hi12 hown hK hP 0 rfl rfl 17 (by decide) (hts (.fieldLink RX12 34 "OverHillModel" "has" "[I") (by decide +kernel)) (fun _ h9 => h9) rfl dX12_count_84 ?_
    refine lv_iconst (v := 1) hx hb dX12_count_87 (by decide) ?_
    refine va_iald (D := D) hx hb hK hP 1 0 rfl rfl (tq_in (a := 1) (by decide) (by omega)) dX12_count_88 ?_
    refine lv_topi (fun z507 ez507 => ?_)
    obtain rfl : z507 = 0 := ez507
    have hP9 := hP.sub (ws' := []) [] rfl
    have hD9 := hD.sub (ws' := []) [] (by decide) rfl
    exact W.iret (v := 0) hx hb hr (fun t ht hW => ⟨⟨0, (), rfl, (Or.inl ⟨rfl, by omega⟩), by rw [ht]; exact hP9, hD9⟩, hS.F ht⟩) hS.2.2 dX12_count_89
  by_cases hq508 : x1.toInt = 2
  · refine lv_tableIn (tgt := 90) (off := 82) hx hb dX12_count_8 (by omega) (by omega) (by rw [hq508]; decide) (by decide) ?_
    refine lv_aload_n hx hb dX12_count_90 rfl (lv_at hl 1 rfl) ?_
    refine va_get (D := D) (ci := 12) (v := .ref (r 17)) (C := RX12) (T := TX12) (N := 45) hx hb hts hi12 hown hK hP 0 rfl rfl 17 (by decide) (hts (.fieldLink RX12 34 "OverHillModel" "has" "[I") (by decide +kernel)) (fun _ h9 => h9) rfl dX12_count_91 ?_
    refine lv_iconst (v := 2) hx hb dX12_count_94 (by decide) ?_
    refine va_iald (D := D) hx hb hK hP 1 0 rfl rfl (tq_in (a := 2) (by decide) (by omega)) dX12_count_95 ?_
    refine lv_topi (fun z509 ez509 => ?_)
    obtain rfl : z509 = 0 := ez509
    have hP9 := hP.sub (ws' := []) [] rfl
    have hD9 := hD.sub (ws' := []) [] (by decide) rfl
    exact W.iret (v := 0) hx hb hr (fun t ht hW => ⟨⟨0, (), rfl, (Or.inl ⟨rfl, by omega⟩), by rw [ht]; exact hP9, hD9⟩, hS.F ht⟩) hS.2.2 dX12_count_96
  by_cases hq510 : x1.toInt = 3
  · refine lv_tableIn (tgt := 97) (off := 89) hx hb dX12_count_8 (by omega) (by omega) (by rw [hq510]; decide) (by decide) ?_
    refine lv_aload_n hx hb dX12_count_97 rfl (lv_at hl 1 rfl) ?_
    refine lv_iconst (v := 0) hx hb dX12_count_98 (by decide) ?_
    refine ct_calli (D := D) (wc := (w_c_X12_lengthOf cI cJ cB cZ cO h r)) (wr := [((r 21), .inl (cZ, 1000, .inl (fun _ => 0))), ((r 16), .inl (cI, 5, .inl (fun _ => 0))), ((r 1), .inl (cI, 4, .inl (szf)))]) (va_runV (As := [.int 0]) (rest := []) ⟨hx, hb, hml, hown, hts⟩ (c_X12_lengthOf l D cI cJ cB cZ cO h r 0 (by decide) H.size) (cwV 1 hts gX12_count_X12_lengthOf rfl rfl rfl (by decide +kernel) ⟨Nat.le_of_ble_eq_true rfl, Nat.le_of_ble_eq_true rfl⟩) (ct_preV (T := ct_T cI cJ cB cZ cO) (ci := 12) (q0 := 0) hE hP hD [0, 1] (by decide) rfl rfl rfl) rfl rfl hl.1 rfl (lv_room (Nat.le_of_ble_eq_true rfl)) dX12_count_99 ⟨Nat.le_of_ble_eq_true rfl, Nat.le_of_ble_eq_true rfl⟩) hP hD hS hA [0, 1] [2, 3, 4] rfl rfl (by decide) (by decide) (fun rz u H locs hw hP hD hS => ?_)
    have hP : va_P D vwCl [((r 21), .inl (cZ, 1000, .inl (fun _ => 0))), ((r 16), .inl (cI, 5, .inl (fun _ => 0))), ((r 1), .inl (cI, 4, .inl (szf))), mo h r 0 0, ((r 17), .inl (cI, 55, .inl (fun _ => 0)))] H := hP
    have hD : va_D A [((r 21), .inl (cZ, 1000, .inl (fun _ => 0))), ((r 16), .inl (cI, 5, .inl (fun _ => 0))), ((r 1), .inl (cI, 4, .inl (szf))), mo h r 0 0, ((r 17), .inl (cI, 55, .inl (fun _ => 0)))] := hD
    obtain ⟨rfl, hq511⟩ := hw
    have hP9 := hP.sub (ws' := []) [] rfl
    have hD9 := hD.sub (ws' := []) [] (by decide) rfl
    exact W.iret (v := 0) hx hb hr (fun t ht hW => ⟨⟨0, (), rfl, (Or.inl ⟨rfl, by omega⟩), by rw [ht]; exact hP9, hD9⟩, hS.F ht⟩) hS.2.2 dX12_count_102
  by_cases hq512 : x1.toInt = 4
  · refine lv_tableIn (tgt := 103) (off := 95) hx hb dX12_count_8 (by omega) (by omega) (by rw [hq512]; decide) (by decide) ?_
    refine lv_aload_n hx hb dX12_count_103 rfl (lv_at hl 1 rfl) ?_
    refine lv_iconst (v := 1) hx hb dX12_count_104 (by decide) ?_
    refine ct_calli (D := D) (wc := (w_c_X12_lengthOf cI cJ cB cZ cO h r)) (wr := [((r 21), .inl (cZ, 1000, .inl (fun _ => 0))), ((r 16), .inl (cI, 5, .inl (fun _ => 0))), ((r 1), .inl (cI, 4, .inl (szf)))]) (va_runV (As := [.int 1]) (rest := []) ⟨hx, hb, hml, hown, hts⟩ (c_X12_lengthOf l D cI cJ cB cZ cO h r 1 (by decide) H.size) (cwV 1 hts gX12_count_X12_lengthOf rfl rfl rfl (by decide +kernel) ⟨Nat.le_of_ble_eq_true rfl, Nat.le_of_ble_eq_true rfl⟩) (ct_preV (T := ct_T cI cJ cB cZ cO) (ci := 12) (q0 := 0) hE hP hD [0, 1] (by decide) rfl rfl rfl) rfl rfl hl.1 rfl (lv_room (Nat.le_of_ble_eq_true rfl)) dX12_count_105 ⟨Nat.le_of_ble_eq_true rfl, Nat.le_of_ble_eq_true rfl⟩) hP hD hS hA [0, 1] [2, 3, 4] rfl rfl (by decide) (by decide) (fun rz u H locs hw hP hD hS => ?_)
    have hP : va_P D vwCl [((r 21), .inl (cZ, 1000, .inl (fun _ => 0))), ((r 16), .inl (cI, 5, .inl (fun _ => 0))), ((r 1), .inl (cI, 4, .inl (szf))), mo h r 0 0, ((r 17), .inl (cI, 55, .inl (fun _ => 0)))] H := hP
    have hD : va_D A [((r 21), .inl (cZ, 1000, .inl (fun _ => 0))), ((r 16), .inl (cI, 5, .inl (fun _ => 0))), ((r 1), .inl (cI, 4, .inl (szf))), mo h r 0 0, ((r 17), .inl (cI, 55, .inl (fun _ => 0)))] := hD
    obtain ⟨rfl, hq513⟩ := hw
    have hP9 := hP.sub (ws' := []) [] rfl
    have hD9 := hD.sub (ws' := []) [] (by decide) rfl
    exact W.iret (v := 0) hx hb hr (fun t ht hW => ⟨⟨0, (), rfl, (Or.inl ⟨rfl, by omega⟩), by rw [ht]; exact hP9, hD9⟩, hS.F ht⟩) hS.2.2 dX12_count_108
  by_cases hq514 : x1.toInt = 5
  · refine lv_tableIn (tgt := 109) (off := 101) hx hb dX12_count_8 (by omega) (by omega) (by rw [hq514]; decide) (by decide) ?_
    refine lv_aload_n hx hb dX12_count_109 rfl (lv_at hl 1 rfl) ?_
    refine va_get (D := D) (ci := 12) (v := .ref (r 17)) (C := RX12) (T := TX12) (N := 45) hx hb hts hi12 hown hK hP 0 rfl rfl 17 (by decide) (hts (.fieldLink RX12 34 "OverHillModel" "has" "[I") (by decide +kernel)) (fun _ h9 => h9) rfl dX12_count_110 ?_
    refine lv_bipush (v := 7) hx hb dX12_count_113 (by decide) ?_
    refine va_iald (D := D) hx hb hK hP 1 0 rfl rfl (tq_in (a := 7) (by decide) (by omega)) dX12_count_115 ?_
    refine lv_topi (fun z515 ez515 => ?_)
    obtain rfl : z515 = 0 := ez515
    have hP9 := hP.sub (ws' := []) [] rfl
    have hD9 := hD.sub (ws' := []) [] (by decide) rfl
    exact W.iret (v := 0) hx hb hr (fun t ht hW => ⟨⟨0, (), rfl, (Or.inl ⟨rfl, by omega⟩), by rw [ht]; exact hP9, hD9⟩, hS.F ht⟩) hS.2.2 dX12_count_116
  by_cases hq516 : x1.toInt = 6
  · refine lv_tableIn (tgt := 117) (off := 109) hx hb dX12_count_8 (by omega) (by omega) (by rw [hq516]; decide) (by decide) ?_
    refine lv_iconst (v := 0) hx hb dX12_count_117 (by decide) ?_
    refine lv_istore_n (lv' := [(3, .int 0), (2, .int 0), (0, .ref h), (1, .int x1)]) hx hb dX12_count_118 rfl hl (by decide) rfl (fun ls hl => ?_)
    refine lp_X12_count_119 D cI cJ cB cZ cO h r x1  hx hb hown hts hE (fun  H locs ls hP hD hS hl => ?_) 200 0  _ _ _ (by omega) hP hD hS (lv_sub hl [0, 1, 2, 3] rfl)
    refine lv_iload_n hx hb dX12_count_149 rfl (lv_at hl 1 rfl) ?_
    have hP9 := hP.sub (ws' := []) [] rfl
    have hD9 := hD.sub (ws' := []) [] (by decide) rfl
    exact W.iret (v := 0) hx hb hr (fun t ht hW => ⟨⟨0, (), rfl, (Or.inl ⟨rfl, by omega⟩), by rw [ht]; exact hP9, hD9⟩, hS.F ht⟩) hS.2.2 dX12_count_150
  by_cases hq519 : x1.toInt = 7
  · refine lv_tableIn (tgt := 151) (off := 143) hx hb dX12_count_8 (by omega) (by omega) (by rw [hq519]; decide) (by decide) ?_
    refine lv_aload_n hx hb dX12_count_151 rfl (lv_at hl 1 rfl) ?_
    refine va_get (D := D) (ci := 12) (v := .ref (r 17)) (C := RX12) (T := TX12) (N := 45) hx hb hts hi12 hown hK hP 0 rfl rfl 17 (by decide) (hts (.fieldLink RX12 34 "OverHillModel" "has" "[I") (by decide +kernel)) (fun _ h9 => h9) rfl dX12_count_152 ?_
    refine lv_bipush (v := 8) hx hb dX12_count_155 (by decide) ?_
    refine va_iald (D := D) hx hb hK hP 1 0 rfl rfl (tq_in (a := 8) (by decide) (by omega)) dX12_count_157 ?_
    refine lv_topi (fun z520 ez520 => ?_)
    obtain rfl : z520 = 0 := ez520
    have hP9 := hP.sub (ws' := []) [] rfl
    have hD9 := hD.sub (ws' := []) [] (by decide) rfl
    exact W.iret (v := 0) hx hb hr (fun t ht hW => ⟨⟨0, (), rfl, (Or.inl ⟨rfl, by omega⟩), by rw [ht]; exact hP9, hD9⟩, hS.F ht⟩) hS.2.2 dX12_count_158
  by_cases hq521 : x1.toInt = 8
  · refine lv_tableIn (tgt := 159) (off := 151) hx hb dX12_count_8 (by omega) (by omega) (by rw [hq521]; decide) (by decide) ?_
    refine lv_aload_n hx hb dX12_count_159 rfl (lv_at hl 1 rfl) ?_
    refine va_get (D := D) (ci := 12) (v := .ref (r 17)) (C := RX12) (T := TX12) (N := 45) hx hb hts hi12 hown hK hP 0 rfl rfl 17 (by decide) (hts (.fieldLink RX12 34 "OverHillModel" "has" "[I") (by decide +kernel)) (fun _ h9 => h9) rfl dX12_count_160 ?_
    refine lv_bipush (v := 9) hx hb dX12_count_163 (by decide) ?_
    refine va_iald (D := D) hx hb hK hP 1 0 rfl rfl (tq_in (a := 9) (by decide) (by omega)) dX12_count_165 ?_
    refine lv_topi (fun z522 ez522 => ?_)
    obtain rfl : z522 = 0 := ez522
    have hP9 := hP.sub (ws' := []) [] rfl
    have hD9 := hD.sub (ws' := []) [] (by decide) rfl
    exact W.iret (v := 0) hx hb hr (fun t ht hW => ⟨⟨0, (), rfl, (Or.inl ⟨rfl, by omega⟩), by rw [ht]; exact hP9, hD9⟩, hS.F ht⟩) hS.2.2 dX12_count_166
  by_cases hq523 : x1.toInt = 9
  · refine lv_tableIn (tgt := 167) (off := 159) hx hb dX12_count_8 (by omega) (by omega) (by rw [hq523]; decide) (by decide) ?_
    refine lv_aload_n hx hb dX12_count_167 rfl (lv_at hl 1 rfl) ?_
    refine va_get (D := D) (ci := 12) (v := .ref (r 17)) (C := RX12) (T := TX12) (N := 45) hx hb hts hi12 hown hK hP 0 rfl rfl 17 (by decide) (hts (.fieldLink RX12 34 "OverHillModel" "has" "[I") (by decide +kernel)) (fun _ h9 => h9) rfl dX12_count_168 ?_
    refine lv_bipush (v := 10) hx hb dX12_count_171 (by decide) ?_
    refine va_iald (D := D) hx hb hK hP 1 0 rfl rfl (tq_in (a := 10) (by decide) (by omega)) dX12_count_173 ?_
    refine lv_topi (fun z524 ez524 => ?_)
    obtain rfl : z524 = 0 := ez524
    have hP9 := hP.sub (ws' := []) [] rfl
    have hD9 := hD.sub (ws' := []) [] (by decide) rfl
    exact W.iret (v := 0) hx hb hr (fun t ht hW => ⟨⟨0, (), rfl, (Or.inl ⟨rfl, by omega⟩), by rw [ht]; exact hP9, hD9⟩, hS.F ht⟩) hS.2.2 dX12_count_174
  by_cases hq525 : x1.toInt = 10
  · refine lv_tableIn (tgt := 175) (off := 167) hx hb dX12_count_8 (by omega) (by omega) (by rw [hq525]; decide) (by decide) ?_
    refine lv_aload_n hx hb dX12_count_175 rfl (lv_at hl 1 rfl) ?_
    refine va_get (D := D) (ci := 12) (v := .ref (r 16)) (C := RX12) (T := TX12) (N := 45) hx hb hts hi12 hown hK hP 0 rfl rfl 16 (by decide) (hts (.fieldLink RX12 31 "OverHillModel" "lines" "[I") (by decide +kernel)) (fun _ h9 => h9) rfl dX12_count_176 ?_
    refine lv_iconst (v := 0) hx hb dX12_count_179 (by decide) ?_
    refine va_iald (D := D) hx hb hK hP 3 0 rfl rfl (tq_in (a := 0) (by decide) (by omega)) dX12_count_180 ?_
    refine lv_topi (fun z526 ez526 => ?_)
    obtain rfl : z526 = 0 := ez526
    have hP9 := hP.sub (ws' := []) [] rfl
    have hD9 := hD.sub (ws' := []) [] (by decide) rfl
    exact W.iret (v := 0) hx hb hr (fun t ht hW => ⟨⟨0, (), rfl, (Or.inl ⟨rfl, by omega⟩), by rw [ht]; exact hP9, hD9⟩, hS.F ht⟩) hS.2.2 dX12_count_181
  by_cases hq527 : x1.toInt = 11
  · refine lv_tableIn (tgt := 182) (off := 174) hx hb dX12_count_8 (by omega) (by omega) (by rw [hq527]; decide) (by decide) ?_
    refine lv_aload_n hx hb dX12_count_182 rfl (lv_at hl 1 rfl) ?_
    refine va_get (D := D) (ci := 12) (v := .int 0) (C := RX12) (T := TX12) (N := 45) hx hb hts hi12 hown hK hP 0 rfl rfl 6 (by decide) (hts (.fieldLink RX12 97 "OverHillModel" "taped" "I") (by decide +kernel)) (fun _ h9 => h9) rfl dX12_count_183 ?_
    have hP9 := hP.sub (ws' := []) [] rfl
    have hD9 := hD.sub (ws' := []) [] (by decide) rfl
    exact W.iret (v := 0) hx hb hr (fun t ht hW => ⟨⟨0, (), rfl, (Or.inl ⟨rfl, by omega⟩), by rw [ht]; exact hP9, hD9⟩, hS.F ht⟩) hS.2.2 dX12_count_186
  by_cases hq528 : x1.toInt = 12
  · refine lv_tableIn (tgt := 187) (off := 179) hx hb dX12_count_8 (by omega) (by omega) (by rw [hq528]; decide) (by decide) ?_
    refine lv_iconst (v := 0) hx hb dX12_count_187 (by decide) ?_
    refine lv_istore_n (lv' := [(3, .int 0), (2, .int 0), (0, .ref h), (1, .int x1)]) hx hb dX12_count_188 rfl hl (by decide) rfl (fun ls hl => ?_)
    refine lv_iload_n hx hb dX12_count_189 rfl (lv_at hl 0 rfl) ?_
    refine lv_iconst (v := 4) hx hb dX12_count_190 (by decide) ?_
    refine lv_icmp_ge (tgt := 218) hx hb dX12_count_191 (by decide) (fun hc => absurd hc (by decide)) (fun _ => ?_)
    refine lv_iload_n hx hb dX12_count_194 rfl (lv_at hl 1 rfl) ?_
    refine lv_aload_n hx hb dX12_count_195 rfl (lv_at hl 2 rfl) ?_
    refine va_get (D := D) (ci := 12) (v := .ref (r 1)) (C := RX12) (T := TX12) (N := 45) hx hb hts hi12 hown hK hP 0 rfl rfl 1 (by decide) (hts (.fieldLink RX12 7 "OverHillModel" "width" "[I") (by decide +kernel)) (fun _ h9 => h9) rfl dX12_count_196 ?_
    refine lv_iload_n hx hb dX12_count_199 rfl (lv_at hl 0 rfl) ?_
    refine va_iald (D := D) hx hb hK hP 4 0 rfl rfl (tq_in (a := 0) (by decide) (by omega)) dX12_count_200 ?_
    refine lv_topi (fun z529 ez529 => ?_)
    obtain rfl : z529 = (-1) := ez529.trans (szf_m _ (by decide))
    refine lv_iconst (v := (-1)) hx hb dX12_count_201 (by decide) ?_
    refine lv_icmp_ne (tgt := 209) hx hb dX12_count_202 (by decide) (fun hc => absurd hc (by decide)) (fun _ => ?_)
    refine lv_iconst (v := 0) hx hb dX12_count_205 (by decide) ?_
    refine lv_goto (tgt := 210) hx hb dX12_count_206 (by decide) ?_
    refine lv_iadd hx hb dX12_count_210 ?_
    refine lv_topi (fun z530 ez530 => ?_)
    obtain rfl : z530 = 0 := ez530.trans (by decide)
    refine lv_istore_n (lv' := [(2, .int 0), (3, .int 0), (0, .ref h), (1, .int x1)]) hx hb dX12_count_211 rfl hl (by decide) rfl (fun ls hl => ?_)
    refine lv_iinc (v := 1) (lv' := [(3, .int 1), (2, .int 0), (0, .ref h), (1, .int x1)]) hx hb dX12_count_212 hl (k := 1) rfl (by decide) (by decide) rfl (fun ls hl => ?_)
    refine lv_goto (tgt := 189) hx hb dX12_count_215 (by decide) ?_
    refine lv_iload_n hx hb dX12_count_189 rfl (lv_at hl 0 rfl) ?_
    refine lv_iconst (v := 4) hx hb dX12_count_190 (by decide) ?_
    refine lv_icmp_ge (tgt := 218) hx hb dX12_count_191 (by decide) (fun hc => absurd hc (by decide)) (fun _ => ?_)
    refine lv_iload_n hx hb dX12_count_194 rfl (lv_at hl 1 rfl) ?_
    refine lv_aload_n hx hb dX12_count_195 rfl (lv_at hl 2 rfl) ?_
    refine va_get (D := D) (ci := 12) (v := .ref (r 1)) (C := RX12) (T := TX12) (N := 45) hx hb hts hi12 hown hK hP 0 rfl rfl 1 (by decide) (hts (.fieldLink RX12 7 "OverHillModel" "width" "[I") (by decide +kernel)) (fun _ h9 => h9) rfl dX12_count_196 ?_
    refine lv_iload_n hx hb dX12_count_199 rfl (lv_at hl 0 rfl) ?_
    refine va_iald (D := D) hx hb hK hP 4 0 rfl rfl (tq_in (a := 1) (by decide) (by omega)) dX12_count_200 ?_
    refine lv_topi (fun z531 ez531 => ?_)
    obtain rfl : z531 = (-1) := ez531.trans (szf_m _ (by decide))
    refine lv_iconst (v := (-1)) hx hb dX12_count_201 (by decide) ?_
    refine lv_icmp_ne (tgt := 209) hx hb dX12_count_202 (by decide) (fun hc => absurd hc (by decide)) (fun _ => ?_)
    refine lv_iconst (v := 0) hx hb dX12_count_205 (by decide) ?_
    refine lv_goto (tgt := 210) hx hb dX12_count_206 (by decide) ?_
    refine lv_iadd hx hb dX12_count_210 ?_
    refine lv_topi (fun z532 ez532 => ?_)
    obtain rfl : z532 = 0 := ez532.trans (by decide)
    refine lv_istore_n (lv' := [(2, .int 0), (3, .int 1), (0, .ref h), (1, .int x1)]) hx hb dX12_count_211 rfl hl (by decide) rfl (fun ls hl => ?_)
    refine lv_iinc (v := 2) (lv' := [(3, .int 2), (2, .int 0), (0, .ref h), (1, .int x1)]) hx hb dX12_count_212 hl (k := 1) rfl (by decide) (by decide) rfl (fun ls hl => ?_)
    refine lv_goto (tgt := 189) hx hb dX12_count_215 (by decide) ?_
    refine lv_iload_n hx hb dX12_count_189 rfl (lv_at hl 0 rfl) ?_
    refine lv_iconst (v := 4) hx hb dX12_count_190 (by decide) ?_
    refine lv_icmp_ge (tgt := 218) hx hb dX12_count_191 (by decide) (fun hc => absurd hc (by decide)) (fun _ => ?_)
    refine lv_iload_n hx hb dX12_count_194 rfl (lv_at hl 1 rfl) ?_
    refine lv_aload_n hx hb dX12_count_195 rfl (lv_at hl 2 rfl) ?_
    refine va_get (D := D) (ci := 12) (v := .ref (r 1)) (C := RX12) (T := TX12) (N := 45) hx hb hts hi12 hown hK hP 0 rfl rfl 1 (by decide) (hts (.fieldLink RX12 7 "OverHillModel" "width" "[I") (by decide +kernel)) (fun _ h9 => h9) rfl dX12_count_196 ?_
    refine lv_iload_n hx hb dX12_count_199 rfl (lv_at hl 0 rfl) ?_
    refine va_iald (D := D) hx hb hK hP 4 0 rfl rfl (tq_in (a := 2) (by decide) (by omega)) dX12_count_200 ?_
    refine lv_topi (fun z533 ez533 => ?_)
    obtain rfl : z533 = (-1) := ez533.trans (szf_m _ (by decide))
    refine lv_iconst (v := (-1)) hx hb dX12_count_201 (by decide) ?_
    refine lv_icmp_ne (tgt := 209) hx hb dX12_count_202 (by decide) (fun hc => absurd hc (by decide)) (fun _ => ?_)
    refine lv_iconst (v := 0) hx hb dX12_count_205 (by decide) ?_
    refine lv_goto (tgt := 210) hx hb dX12_count_206 (by decide) ?_
    refine lv_iadd hx hb dX12_count_210 ?_
    refine lv_topi (fun z534 ez534 => ?_)
    obtain rfl : z534 = 0 := ez534.trans (by decide)
    refine lv_istore_n (lv' := [(2, .int 0), (3, .int 2), (0, .ref h), (1, .int x1)]) hx hb dX12_count_211 rfl hl (by decide) rfl (fun ls hl => ?_)
    refine lv_iinc (v := 3) (lv' := [(3, .int 3), (2, .int 0), (0, .ref h), (1, .int x1)]) hx hb dX12_count_212 hl (k := 1) rfl (by decide) (by decide) rfl (fun ls hl => ?_)
    refine lv_goto (tgt := 189) hx hb dX12_count_215 (by decide) ?_
    refine lv_iload_n hx hb dX12_count_189 rfl (lv_at hl 0 rfl) ?_
    refine lv_iconst (v := 4) hx hb dX12_count_190 (by decide) ?_
    refine lv_icmp_ge (tgt := 218) hx hb dX12_count_191 (by decide) (fun hc => absurd hc (by decide)) (fun _ => ?_)
    refine lv_iload_n hx hb dX12_count_194 rfl (lv_at hl 1 rfl) ?_
    refine lv_aload_n hx hb dX12_count_195 rfl (lv_at hl 2 rfl) ?_
    refine va_get (D := D) (ci := 12) (v := .ref (r 1)) (C := RX12) (T := TX12) (N := 45) hx hb hts hi12 hown hK hP 0 rfl rfl 1 (by decide) (hts (.fieldLink RX12 7 "OverHillModel" "width" "[I") (by decide +kernel)) (fun _ h9 => h9) rfl dX12_count_196 ?_
    refine lv_iload_n hx hb dX12_count_199 rfl (lv_at hl 0 rfl) ?_
    refine va_iald (D := D) hx hb hK hP 4 0 rfl rfl (tq_in (a := 3) (by decide) (by omega)) dX12_count_200 ?_
    refine lv_topi (fun z535 ez535 => ?_)
    obtain rfl : z535 = (-1) := ez535.trans (szf_m _ (by decide))
    refine lv_iconst (v := (-1)) hx hb dX12_count_201 (by decide) ?_
    refine lv_icmp_ne (tgt := 209) hx hb dX12_count_202 (by decide) (fun hc => absurd hc (by decide)) (fun _ => ?_)
    refine lv_iconst (v := 0) hx hb dX12_count_205 (by decide) ?_
    refine lv_goto (tgt := 210) hx hb dX12_count_206 (by decide) ?_
    refine lv_iadd hx hb dX12_count_210 ?_
    refine lv_topi (fun z536 ez536 => ?_)
    obtain rfl : z536 = 0 := ez536.trans (by decide)
    refine lv_istore_n (lv' := [(2, .int 0), (3, .int 3), (0, .ref h), (1, .int x1)]) hx hb dX12_count_211 rfl hl (by decide) rfl (fun ls hl => ?_)
    refine lv_iinc (v := 4) (lv' := [(3, .int 4), (2, .int 0), (0, .ref h), (1, .int x1)]) hx hb dX12_count_212 hl (k := 1) rfl (by decide) (by decide) rfl (fun ls hl => ?_)
    refine lv_goto (tgt := 189) hx hb dX12_count_215 (by decide) ?_
    refine lv_iload_n hx hb dX12_count_189 rfl (lv_at hl 0 rfl) ?_
    refine lv_iconst (v := 4) hx hb dX12_count_190 (by decide) ?_
    refine lv_icmp_ge (tgt := 218) hx hb dX12_count_191 (by decide) (fun _ => ?_) (fun hc => absurd hc (by decide))
    refine lv_iload_n hx hb dX12_count_218 rfl (lv_at hl 1 rfl) ?_
    have hP9 := hP.sub (ws' := []) [] rfl
    have hD9 := hD.sub (ws' := []) [] (by decide) rfl
    exact W.iret (v := 0) hx hb hr (fun t ht hW => ⟨⟨0, (), rfl, (Or.inl ⟨rfl, by omega⟩), by rw [ht]; exact hP9, hD9⟩, hS.F ht⟩) hS.2.2 dX12_count_219
  refine lv_tableOut (tgt := 220) hx hb dX12_count_8 (by omega) (by decide) ?_
  refine lv_iconst (v := (-1)) hx hb dX12_count_220 (by decide) ?_
  have hP9 := hP.sub (ws' := []) [] rfl
  have hD9 := hD.sub (ws' := []) [] (by decide) rfl
  exact W.iret (v := (-1)) hx hb hr (fun t ht hW => ⟨⟨(-1), (), rfl, (Or.inr (⟨rfl, by omega⟩)), by rw [ht]; exact hP9, hD9⟩, hS.F ht⟩) hS.2.2 dX12_count_221
set_option maxHeartbeats 4000000 in
set_option maxRecDepth 100000 in
/-- the loop of X12_row at 57 -/
theorem lp_X12_row_57 {p : Program} {l : Launch} {e : Env} {Rm : Room} {s : State} {m : MethodId} {args : Array Value} {below : List Frame} {meth : Method} {c : Code} {cells slots : Nat} {Q : State → Prop} {A : Nat → Prop} (D : va_G) (cI cJ cB cZ cO : ClassId) (h : Nat) (r : Nat → Nat) (x1 : Int32) (x2 : Int32) (nn : Nat) (g541 : Nat → Int32) (g542 : Nat → Int32) (h_x1 : 0 ≤ x1.toInt ∧ x1.toInt < 4) (h_nn : nn ≤ 60) (hx : p.tables.exec = Jvm.exec) (hb : c.code = cX12_row) (hown : s.vm.findClass RX12 = some m.cls) (hts : ∀ w ∈ wsX12_row, w.before args s = true) (hE : ct_E D (ct_T cI cJ cB cZ cO) s)
    (hk : ∀ (fl : Nat → Int64) (H : Heap) (locs : List Loc) (ls : Array Slot), va_P D vwCl [mo h r 0 0, ((r 1), .inl (cI, 4, .inl (g541))), ((r 2), .inl (cI, 4, .inl (g542))), ((r 3), .inl (cJ, 240, .inr (.inl (fl))))] H → va_D A [mo h r 0 0, ((r 1), .inl (cI, 4, .inl (g541))), ((r 2), .inl (cI, 4, .inl (g542))), ((r 3), .inl (cJ, 240, .inr (.inl (fl))))] → va_S A s.heap H locs → lv_has ls 5 [(4, .int (nI nn)), (0, .ref h), (1, .int x1), (2, .int x2), (3, .int (nI nn))] → W p l e Rm s m args below meth c H locs cells slots Q (F0 m 82 ls [])) :
    ∀ (fu i : Nat) (fl : Nat → Int64) (H : Heap) (locs : List Loc) (ls : Array Slot), i + fu = nn → va_P D vwCl [mo h r 0 0, ((r 1), .inl (cI, 4, .inl (g541))), ((r 2), .inl (cI, 4, .inl (g542))), ((r 3), .inl (cJ, 240, .inr (.inl (fl))))] H → va_D A [mo h r 0 0, ((r 1), .inl (cI, 4, .inl (g541))), ((r 2), .inl (cI, 4, .inl (g542))), ((r 3), .inl (cJ, 240, .inr (.inl (fl))))] → va_S A s.heap H locs → lv_has ls 5 [(4, .int (nI i)), (0, .ref h), (1, .int x1), (2, .int x2), (3, .int (nI nn))] → W p l e Rm s m args below meth c H locs cells slots Q (F0 m 57 ls []) := by
  have hK := hE.1
  have hi12 : ∀ w ∈ u_ws RX12 TX12 45, w ∈ wsX12_row := fun w h => List.mem_cons_of_mem _ (List.mem_append_right _ h)
  intro fu
  induction fu with
  | zero =>
    intro i fl H locs ls hin hP hD hS hl
    obtain rfl : i = nn := by omega
    refine lv_iload hx hb dX12_row_57 (lv_at hl 0 rfl) ?_
    refine lv_iload_n hx hb dX12_row_59 rfl (lv_at hl 4 rfl) ?_
    refine lv_icmp_ge (tgt := 82) hx hb dX12_row_60 (by decide) (fun _ => ?_) (fun hc => absurd hc (fun z => z (Int32.le_refl _)))
    exact hk fl H locs ls hP hD hS (lv_sub hl [0, 1, 2, 3, 4] rfl)
  | succ fu ih =>
    intro i fl H locs ls hin hP hD hS hl
    refine lv_iload hx hb dX12_row_57 (lv_at hl 0 rfl) ?_
    refine lv_iload_n hx hb dX12_row_59 rfl (lv_at hl 4 rfl) ?_
    refine lv_icmp_ge (tgt := 82) hx hb dX12_row_60 (by decide) (fun hc => absurd hc (nI_ge (a := i) (b := nn) (by omega) (by omega))) (fun _ => ?_)
    refine lv_aload_n hx hb dX12_row_63 rfl (lv_at hl 1 rfl) ?_
    refine va_get (D := D) (ci := 12) (v := .ref (r 3)) (C := RX12) (T := TX12) (N := 45) hx hb hts hi12 hown hK hP 0 rfl rfl 3 (by decide) (hts (.fieldLink RX12 16 "OverHillModel" "cells" "[J") (by decide +kernel)) (fun _ h9 => h9) rfl dX12_row_64 ?_
    refine lv_bipush (v := 60) hx hb dX12_row_67 (by decide) ?_
    refine lv_iload_n hx hb dX12_row_69 rfl (lv_at hl 2 rfl) ?_
    refine lv_imul hx hb dX12_row_70 ?_
    refine lv_topi (fun z543 ez543 => ?_)
    have fz543 : z543.toInt = (60 * x1.toInt) := by rw [ez543]; exact tq_mul (by decide) rfl (by omega)
    refine lv_iload hx hb dX12_row_71 (lv_at hl 0 rfl) ?_
    refine lv_iadd hx hb dX12_row_73 ?_
    refine lv_topi (fun z544 ez544 => ?_)
    have fz544 : z544.toInt = ((60 * x1.toInt) + (i : Int)) := by rw [ez544]; exact tq_add fz543 (nI_toInt (by omega)) (by omega)
    refine lv_lconst (v := 0) hx hb dX12_row_74 (by decide) ?_
    refine va_last (D := D) hx hb hK hP hD hS 3 1 rfl rfl (tq_in fz544 (by omega)) dX12_row_75 (fun H locs hP hD hS => ?_)
    obtain ⟨g545, hP, hD⟩ : ∃ g545 : Nat → Int64, va_P D vwCl [mo h r 0 0, ((r 1), .inl (cI, 4, .inl (g541))), ((r 2), .inl (cI, 4, .inl (g542))), ((r 3), .inl (cJ, 240, .inr (.inl (g545))))] H ∧ va_D A [mo h r 0 0, ((r 1), .inl (cI, 4, .inl (g541))), ((r 2), .inl (cI, 4, .inl (g542))), ((r 3), .inl (cJ, 240, .inr (.inl (g545))))] := ⟨_, hP, hD⟩
    refine lv_iinc (v := (nI (i + 1))) (lv' := [(4, .int (nI (i + 1))), (0, .ref h), (1, .int x1), (2, .int x2), (3, .int (nI nn))]) hx hb dX12_row_76 hl (k := 0) rfl (nI_1 i) (by decide) rfl (fun ls hl => ?_)
    refine lv_goto (tgt := 57) hx hb dX12_row_79 (by decide) ?_
    exact ih (i + 1) g545 H locs ls (by omega) hP hD hS (lv_sub hl [0, 1, 2, 3, 4] rfl)
abbrev w_c_X12_row (cI cJ cB cZ cO : ClassId) (h : Nat) (r : Nat → Nat) : va_W := [mo h r 0 0, ((r 1), .inl (cI, 4, .inl (szf))), ((r 2), .inl (cI, 4, .inl (fun _ => 0))), ((r 3), .inl (cJ, 240, .inr (.inl (fun _ => 0))))]
set_option maxHeartbeats 4000000 in
set_option maxRecDepth 100000 in
/-- row, of the reference, on a new object -/
theorem c_X12_row (l : Launch) (D : va_G) (cI cJ cB cZ cO : ClassId) (h : Nat) (r : Nat → Nat) (x1 : Int32) (x2 : Int32) (x3 : Int32) (sz : Nat) : Met l yX12_row wsX12_row ({ frames := 2, cells := 0, slots := 0, locals := 45 }) (va_Pc [.ref h, .int x1, .int x2, .int x3] (ct_P D (ct_T cI cJ cB cZ cO) (w_c_X12_row cI cJ cB cZ cO h r) sz)) (va_Qi (fun (rz : Int32) (u : Unit) => (rz = (-2) ∧ ¬ ((0 ≤ x1.toInt ∧ x1.toInt < 4) ∧ (0 ≤ x2.toInt ∧ x2.toInt < 4) ∧ x3.toInt ≤ 60)) ∨ (rz = (-3) ∧ ((0 ≤ x1.toInt ∧ x1.toInt < 4) ∧ (0 ≤ x2.toInt ∧ x2.toInt < 4) ∧ x3.toInt ≤ 60) ∧ x3.toInt < 0) ∨ (rz = 0 ∧ ((0 ≤ x1.toInt ∧ x1.toInt < 4) ∧ (0 ≤ x2.toInt ∧ x2.toInt < 4) ∧ x3.toInt ≤ 60) ∧ 0 ≤ x3.toInt)) (fun (u : Unit) t => ct_Q D (va_A (w_c_X12_row cI cJ cB cZ cO h r) sz) [] t) (va_A (w_c_X12_row cI cJ cB cZ cO h r) sz)) 0 0 (va_A (w_c_X12_row cI cJ cB cZ cO h r) sz) := by
  refine Met.ofW (cc := cX12_row) (maxL := 5) (ret := (some .int)) (by decide) rfl ?_
  intro p e s m args below meth c s₁ B hml hv
  obtain ⟨rfl, hsz, hP, hE, hD0⟩ := hv
  have hx := B.exec
  have hb := B.bytes
  have hr := B.returns
  have hts := atoms_spec (ws := wsX12_row) B.pre
  have hown : s.vm.findClass RX12 = some m.cls := findClass_of_methodNamed B.named
  have hlocks := B.notSynchronized
  have hK := hE.1
  have hi12 : ∀ w ∈ u_ws RX12 TX12 45, w ∈ wsX12_row := fun w h => List.mem_cons_of_mem _ (List.mem_append_right _ h)
  subst hsz
  have hD := hD0.self (sz := s.heap.size)
  generalize hAe : va_A (w_c_X12_row cI cJ cB cZ cO h r) s.heap.size = A at hD ⊢
  have hA : ∀ q : Nat, s.heap.size ≤ q → A q := fun q h => by rw [← hAe]; exact Or.inr h
  have hS : va_S A s.heap s.heap [] := va_S.rf
  have hP : va_P D vwCl [mo h r 0 0, ((r 1), .inl (cI, 4, .inl (szf))), ((r 2), .inl (cI, 4, .inl (fun _ => 0))), ((r 3), .inl (cJ, 240, .inr (.inl (fun _ => 0))))] s.heap := hP
  have hD : va_D A [mo h r 0 0, ((r 1), .inl (cI, 4, .inl (szf))), ((r 2), .inl (cI, 4, .inl (fun _ => 0))), ((r 3), .inl (cJ, 240, .inr (.inl (fun _ => 0))))] := hD
  have hl := lv_entry ([.ref h, .int x1, .int x2, .int x3]) (n := 5) (Nat.le_of_ble_eq_true rfl)
  rw [lg_entry_eq]
  generalize (lg_sl ([.ref h, .int x1, .int x2, .int x3]) ++ List.replicate (5 - (lg_sl ([.ref h, .int x1, .int x2, .int x3])).length) Slot.unset).toArray = ls at hl ⊢
  have hl : lv_has ls 5 [(0, .ref h), (1, .int x1), (2, .int x2), (3, .int x3)] := hl
  obtain ⟨H, hHe⟩ : ∃ H : Heap, H = s.heap := ⟨_, rfl⟩
  rw [← hHe] at hP
  have hS : va_S A s.heap H [] := by rw [hHe]; exact va_S.rf
  refine ct_start hHe ?_
  refine lv_aload_n hx hb dX12_row_0 rfl (lv_at hl 0 rfl) ?_
  refine lv_iconst (v := 0) hx hb dX12_row_1 (by decide) ?_
  refine va_put (D := D) (ci := 12) (v := .int 0) (ty := .int) (C := RX12) (T := TX12) (N := 45) hx hb hts hi12 tyX12 tyX12_ok nmX12 hown hK hP hD hS 0 rfl rfl 0 (by decide) (hts (.fieldLink RX12 80 "OverHillModel" "thrown" "I") (by decide +kernel)) (fun _ h9 => h9) rfl (by decide +kernel) rfl rfl (Nat.le_of_ble_eq_true rfl) dX12_row_2 (fun H locs hP hD hS => ?_)
  have hP : va_P D vwCl [mo h r 0 0, ((r 1), .inl (cI, 4, .inl (szf))), ((r 2), .inl (cI, 4, .inl (fun _ => 0))), ((r 3), .inl (cJ, 240, .inr (.inl (fun _ => 0))))] H := hP
  have hD : va_D A [mo h r 0 0, ((r 1), .inl (cI, 4, .inl (szf))), ((r 2), .inl (cI, 4, .inl (fun _ => 0))), ((r 3), .inl (cJ, 240, .inr (.inl (fun _ => 0))))] := hD
  refine lv_iload_n hx hb dX12_row_5 rfl (lv_at hl 1 rfl) ?_
  refine ct_calli (D := D) (wc := (w_c_X12_isSlot cI cJ cB cZ cO )) (wr := [mo h r 0 0, ((r 1), .inl (cI, 4, .inl (szf))), ((r 2), .inl (cI, 4, .inl (fun _ => 0))), ((r 3), .inl (cJ, 240, .inr (.inl (fun _ => 0))))]) (va_runS (As := [.int x1]) (rest := []) ⟨hx, hb, hml, hown, hts⟩ (c_X12_isSlot l D cI cJ cB cZ cO x1 H.size) (va_cwS 1 hts gX12_row_X12_isSlot rfl rfl rfl (by decide +kernel) ⟨Nat.le_of_ble_eq_true rfl, Nat.le_of_ble_eq_true rfl⟩) (ct_preS (T := ct_T cI cJ cB cZ cO) hE hP hD [] (by decide) rfl) rfl rfl hl.1 rfl (lv_room (Nat.le_of_ble_eq_true rfl)) dX12_row_6 ⟨Nat.le_of_ble_eq_true rfl, Nat.le_of_ble_eq_true rfl⟩) hP hD hS hA [] [0, 1, 2, 3] rfl rfl (by decide) (by decide) (fun rz u H locs hw hP hD hS => ?_)
  have hP : va_P D vwCl [mo h r 0 0, ((r 1), .inl (cI, 4, .inl (szf))), ((r 2), .inl (cI, 4, .inl (fun _ => 0))), ((r 3), .inl (cJ, 240, .inr (.inl (fun _ => 0))))] H := hP
  have hD : va_D A [mo h r 0 0, ((r 1), .inl (cI, 4, .inl (szf))), ((r 2), .inl (cI, 4, .inl (fun _ => 0))), ((r 3), .inl (cJ, 240, .inr (.inl (fun _ => 0))))] := hD
  rcases hw with ⟨rfl, hq537⟩ | ⟨rfl, hq537⟩
  · refine lv_if_eq (tgt := 30) hx hb dX12_row_9 (by decide) (fun hc => absurd hc (by decide)) (fun _ => ?_)
    refine lv_iload_n hx hb dX12_row_12 rfl (lv_at hl 2 rfl) ?_
    refine lv_i2l (v := x2.toInt64) hx hb dX12_row_13 rfl ?_
    refine lv_lconst (v := 0) hx hb dX12_row_14 (by decide) ?_
    refine lv_ldc2 (v := 3) hx hb hown (hts (.constantLong RX12 83 (3)) (by decide +kernel)) dX12_row_15 ?_
    refine ct_calli (D := D) (wc := (w_c_X12_in cI cJ cB cZ cO )) (wr := [mo h r 0 0, ((r 1), .inl (cI, 4, .inl (szf))), ((r 2), .inl (cI, 4, .inl (fun _ => 0))), ((r 3), .inl (cJ, 240, .inr (.inl (fun _ => 0))))]) (va_runS (As := [.long x2.toInt64, .long 0, .long 3]) (rest := []) ⟨hx, hb, hml, hown, hts⟩ (c_X12_in l D cI cJ cB cZ cO x2.toInt64 0 3 x2.toInt 0 3 (tl_i rfl) (by decide) (by decide) H.size) (va_cwS 3 hts gX12_row_X12_in rfl rfl rfl (by decide +kernel) ⟨Nat.le_of_ble_eq_true rfl, Nat.le_of_ble_eq_true rfl⟩) (ct_preS (T := ct_T cI cJ cB cZ cO) hE hP hD [] (by decide) rfl) rfl rfl hl.1 rfl (lv_room (Nat.le_of_ble_eq_true rfl)) dX12_row_18 ⟨Nat.le_of_ble_eq_true rfl, Nat.le_of_ble_eq_true rfl⟩) hP hD hS hA [] [0, 1, 2, 3] rfl rfl (by decide) (by decide) (fun rz u H locs hw hP hD hS => ?_)
    have hP : va_P D vwCl [mo h r 0 0, ((r 1), .inl (cI, 4, .inl (szf))), ((r 2), .inl (cI, 4, .inl (fun _ => 0))), ((r 3), .inl (cJ, 240, .inr (.inl (fun _ => 0))))] H := hP
    have hD : va_D A [mo h r 0 0, ((r 1), .inl (cI, 4, .inl (szf))), ((r 2), .inl (cI, 4, .inl (fun _ => 0))), ((r 3), .inl (cJ, 240, .inr (.inl (fun _ => 0))))] := hD
    rcases hw with ⟨rfl, hq538⟩ | ⟨rfl, hq538⟩
    · refine lv_if_eq (tgt := 30) hx hb dX12_row_21 (by decide) (fun hc => absurd hc (by decide)) (fun _ => ?_)
      refine lv_iload_n hx hb dX12_row_24 rfl (lv_at hl 3 rfl) ?_
      refine lv_bipush (v := 60) hx hb dX12_row_25 (by decide) ?_
      refine lv_icmp_le (tgt := 33) hx hb dX12_row_27 (by decide) (fun hc => ?_) (fun hc => ?_)
      · have hq539 : x3.toInt ≤ 60 := tq_le rfl (by decide) hc
        refine lv_iload_n hx hb dX12_row_33 rfl (lv_at hl 3 rfl) ?_
        refine lv_if_ge (tgt := 40) hx hb dX12_row_34 (by decide) (fun hc => ?_) (fun hc => ?_)
        · have hq540 : 0 ≤ x3.toInt := tq_le (by decide) rfl hc
          refine lv_aload_n hx hb dX12_row_40 rfl (lv_at hl 0 rfl) ?_
          refine va_get (D := D) (ci := 12) (v := .ref (r 1)) (C := RX12) (T := TX12) (N := 45) hx hb hts hi12 hown hK hP 0 rfl rfl 1 (by decide) (hts (.fieldLink RX12 7 "OverHillModel" "width" "[I") (by decide +kernel)) (fun _ h9 => h9) rfl dX12_row_41 ?_
          refine lv_iload_n hx hb dX12_row_44 rfl (lv_at hl 1 rfl) ?_
          refine lv_iload_n hx hb dX12_row_45 rfl (lv_at hl 2 rfl) ?_
          refine va_iast (D := D) hx hb hK hP hD hS 1 0 rfl rfl (tq_in rfl (by omega)) dX12_row_46 (fun H locs hP hD hS => ?_)
          obtain ⟨g541, hP, hD⟩ : ∃ g541 : Nat → Int32, va_P D vwCl [mo h r 0 0, ((r 1), .inl (cI, 4, .inl (g541))), ((r 2), .inl (cI, 4, .inl (fun _ => 0))), ((r 3), .inl (cJ, 240, .inr (.inl (fun _ => 0))))] H ∧ va_D A [mo h r 0 0, ((r 1), .inl (cI, 4, .inl (g541))), ((r 2), .inl (cI, 4, .inl (fun _ => 0))), ((r 3), .inl (cJ, 240, .inr (.inl (fun _ => 0))))] := ⟨_, hP, hD⟩
          refine lv_aload_n hx hb dX12_row_47 rfl (lv_at hl 0 rfl) ?_
          refine va_get (D := D) (ci := 12) (v := .ref (r 2)) (C := RX12) (T := TX12) (N := 45) hx hb hts hi12 hown hK hP 0 rfl rfl 2 (by decide) (hts (.fieldLink RX12 13 "OverHillModel" "many" "[I") (by decide +kernel)) (fun _ h9 => h9) rfl dX12_row_48 ?_
          refine lv_iload_n hx hb dX12_row_51 rfl (lv_at hl 1 rfl) ?_
          refine lv_iload_n hx hb dX12_row_52 rfl (lv_at hl 3 rfl) ?_
          refine va_iast (D := D) hx hb hK hP hD hS 2 0 rfl rfl (tq_in rfl (by omega)) dX12_row_53 (fun H locs hP hD hS => ?_)
          obtain ⟨g542, hP, hD⟩ : ∃ g542 : Nat → Int32, va_P D vwCl [mo h r 0 0, ((r 1), .inl (cI, 4, .inl (g541))), ((r 2), .inl (cI, 4, .inl (g542))), ((r 3), .inl (cJ, 240, .inr (.inl (fun _ => 0))))] H ∧ va_D A [mo h r 0 0, ((r 1), .inl (cI, 4, .inl (g541))), ((r 2), .inl (cI, 4, .inl (g542))), ((r 3), .inl (cJ, 240, .inr (.inl (fun _ => 0))))] := ⟨_, hP, hD⟩
          refine lv_iconst (v := 0) hx hb dX12_row_54 (by decide) ?_
          refine lv_istore (lv' := [(4, .int 0), (0, .ref h), (1, .int x1), (2, .int x2), (3, .int x3)]) hx hb dX12_row_55 hl (by decide) rfl (fun ls hl => ?_)
          obtain ⟨nn, hnn, hx3⟩ : ∃ j : Nat, j < 2 ^ 31 ∧ x3 = nI j := nI_of (fun z => absurd (tq_lt rfl (by decide : (0 : Int32).toInt = 0) z) (by omega))
          have hn3 : x3.toInt = (nn : Int) := by rw [hx3]; exact nI_toInt hnn
          have hl : lv_has ls 5 [(4, .int 0), (0, .ref h), (1, .int x1), (2, .int x2), (3, .int (nI nn))] := by rw [← hx3]; exact hl
          refine lp_X12_row_57 D cI cJ cB cZ cO h r x1 x2 nn g541 g542 (by omega) (by omega) hx hb hown hts hE (fun fl H locs ls hP hD hS hl => ?_) nn 0 (fun _ => 0) _ _ _ (by omega) hP hD hS (lv_sub hl [0, 1, 2, 3, 4] rfl)
          refine lv_iconst (v := 0) hx hb dX12_row_82 (by decide) ?_
          have hP9 := hP.sub (ws' := []) [] rfl
          have hD9 := hD.sub (ws' := []) [] (by decide) rfl
          exact W.iret (v := 0) hx hb hr (fun t ht hW => ⟨⟨0, (), rfl, (Or.inr (Or.inr (⟨rfl, by omega⟩))), by rw [ht]; exact hP9, hD9⟩, hS.F ht⟩) hS.2.2 dX12_row_83
        · have hq540 : x3.toInt < 0 := tq_nle (by decide) rfl hc
          refine lv_bipush (v := (-3)) hx hb dX12_row_37 (by decide) ?_
          have hP9 := hP.sub (ws' := []) [] rfl
          have hD9 := hD.sub (ws' := []) [] (by decide) rfl
          exact W.iret (v := (-3)) hx hb hr (fun t ht hW => ⟨⟨(-3), (), rfl, (Or.inr (Or.inl ⟨rfl, by omega⟩)), by rw [ht]; exact hP9, hD9⟩, hS.F ht⟩) hS.2.2 dX12_row_39
      · have hq539 : 60 < x3.toInt := tq_nle rfl (by decide) hc
        refine lv_bipush (v := (-2)) hx hb dX12_row_30 (by decide) ?_
        have hP9 := hP.sub (ws' := []) [] rfl
        have hD9 := hD.sub (ws' := []) [] (by decide) rfl
        exact W.iret (v := (-2)) hx hb hr (fun t ht hW => ⟨⟨(-2), (), rfl, (Or.inl ⟨rfl, by omega⟩), by rw [ht]; exact hP9, hD9⟩, hS.F ht⟩) hS.2.2 dX12_row_32
    · refine lv_if_eq (tgt := 30) hx hb dX12_row_21 (by decide) (fun _ => ?_) (fun hc => absurd hc (by decide))
      refine lv_bipush (v := (-2)) hx hb dX12_row_30 (by decide) ?_
      have hP9 := hP.sub (ws' := []) [] rfl
      have hD9 := hD.sub (ws' := []) [] (by decide) rfl
      exact W.iret (v := (-2)) hx hb hr (fun t ht hW => ⟨⟨(-2), (), rfl, (Or.inl ⟨rfl, by omega⟩), by rw [ht]; exact hP9, hD9⟩, hS.F ht⟩) hS.2.2 dX12_row_32
  · refine lv_if_eq (tgt := 30) hx hb dX12_row_9 (by decide) (fun _ => ?_) (fun hc => absurd hc (by decide))
    refine lv_bipush (v := (-2)) hx hb dX12_row_30 (by decide) ?_
    have hP9 := hP.sub (ws' := []) [] rfl
    have hD9 := hD.sub (ws' := []) [] (by decide) rfl
    exact W.iret (v := (-2)) hx hb hr (fun t ht hW => ⟨⟨(-2), (), rfl, (Or.inl ⟨rfl, by omega⟩), by rw [ht]; exact hP9, hD9⟩, hS.F ht⟩) hS.2.2 dX12_row_32
