abbrev w_c_X12_isByte (cI cJ cB cZ cO : ClassId) (h : Nat) (r : Nat → Nat) (bp : Int32) : va_W := [mo h r 0 bp]
set_option maxHeartbeats 4000000 in
set_option maxRecDepth 100000 in
/-- no byte is there -/
theorem c_X12_isByte (l : Launch) (D : va_G) (cI cJ cB cZ cO : ClassId) (h : Nat) (r : Nat → Nat) (bp : Int32) (x2 : Int32) (x3 : Int32) (sz : Nat) : Met l yX12_isByte wsX12_isByte ({ frames := 0, cells := 0, slots := 0, locals := 0 }) (va_Pc [.ref h, .int 0, .int x2, .int x3] (ct_P D (ct_T cI cJ cB cZ cO) (w_c_X12_isByte cI cJ cB cZ cO h r bp) sz)) (va_Qi (fun (rz : Int32) (u : Unit) => (rz = 0 ∧ True)) (fun (u : Unit) t => ct_Q D (va_A (w_c_X12_isByte cI cJ cB cZ cO h r bp) sz) [mo h r 0 bp] t) (va_A (w_c_X12_isByte cI cJ cB cZ cO h r bp) sz)) 0 0 (va_A (w_c_X12_isByte cI cJ cB cZ cO h r bp) sz) := by
  refine Met.ofW (cc := cX12_isByte) (maxL := 4) (ret := (some .boolean)) (by decide) rfl ?_
  intro p e s m args below meth c s₁ B hml hv
  obtain ⟨rfl, hsz, hP, hE, hD0⟩ := hv
  have hx := B.exec
  have hb := B.bytes
  have hr := B.returns
  have hts := atoms_spec (ws := wsX12_isByte) B.pre
  have hown : s.vm.findClass RX12 = some m.cls := findClass_of_methodNamed B.named
  have hlocks := B.notSynchronized
  have hK := hE.1
  have hi12 : ∀ w ∈ u_ws RX12 TX12 45, w ∈ wsX12_isByte := fun w h => List.mem_cons_of_mem _ (List.mem_append_right _ h)
  subst hsz
  have hD := hD0.self (sz := s.heap.size)
  generalize hAe : va_A (w_c_X12_isByte cI cJ cB cZ cO h r bp) s.heap.size = A at hD ⊢
  have hA : ∀ q : Nat, s.heap.size ≤ q → A q := fun q h => by rw [← hAe]; exact Or.inr h
  have hS : va_S A s.heap s.heap [] := va_S.rf
  have hP : va_P D vwCl [mo h r 0 bp] s.heap := hP
  have hD : va_D A [mo h r 0 bp] := hD
  have hl := lv_entry ([.ref h, .int 0, .int x2, .int x3]) (n := 4) (Nat.le_of_ble_eq_true rfl)
  rw [lg_entry_eq]
  generalize (lg_sl ([.ref h, .int 0, .int x2, .int x3]) ++ List.replicate (4 - (lg_sl ([.ref h, .int 0, .int x2, .int x3])).length) Slot.unset).toArray = ls at hl ⊢
  have hl : lv_has ls 4 [(0, .ref h), (1, .int 0), (2, .int x2), (3, .int x3)] := hl
  obtain ⟨H, hHe⟩ : ∃ H : Heap, H = s.heap := ⟨_, rfl⟩
  rw [← hHe] at hP
  have hS : va_S A s.heap H [] := by rw [hHe]; exact va_S.rf
  refine ct_start hHe ?_
  refine lv_iload_n hx hb dX12_isByte_0 rfl (lv_at hl 1 rfl) ?_
  refine lv_aload_n hx hb dX12_isByte_1 rfl (lv_at hl 0 rfl) ?_
  refine va_get (D := D) (ci := 12) (v := .int 0) (C := RX12) (T := TX12) (N := 45) hx hb hts hi12 hown hK hP 0 rfl rfl 6 (by decide) (hts (.fieldLink RX12 97 "OverHillModel" "taped" "I") (by decide +kernel)) (fun _ h9 => h9) rfl dX12_isByte_2 ?_
  refine lv_icmp_ge (tgt := 32) hx hb dX12_isByte_5 (by decide) (fun _ => ?_) (fun hc => absurd hc (by decide))
  refine lv_iconst (v := 0) hx hb dX12_isByte_32 (by decide) ?_
  have hP9 := hP.sub (ws' := [mo h r 0 bp]) [0] rfl
  have hD9 := hD.sub (ws' := [mo h r 0 bp]) [0] (by decide) rfl
  exact W.zret (v := 0) (ty := .boolean) hx hb hr rfl (fun t ht hW => ⟨⟨0, (), rfl, ⟨rfl, trivial⟩, by rw [ht]; exact hP9, hD9⟩, hS.F ht⟩) hS.2.2 dX12_isByte_33
abbrev w_c_X12_next (cI cJ cB cZ cO : ClassId) (h : Nat) (r : Nat → Nat) (bp : Int32) : va_W := [mo h r 0 bp]
set_option maxHeartbeats 4000000 in
set_option maxRecDepth 100000 in
/-- the end of an empty TAPE -/
theorem c_X12_next (l : Launch) (D : va_G) (cI cJ cB cZ cO : ClassId) (h : Nat) (r : Nat → Nat) (bp : Int32) (sz : Nat) : Met l yX12_next wsX12_next ({ frames := 1, cells := 0, slots := 0, locals := 23 }) (va_Pc [.ref h] (ct_P D (ct_T cI cJ cB cZ cO) (w_c_X12_next cI cJ cB cZ cO h r bp) sz)) (va_Qv (fun (u : Unit) => True) (fun (u : Unit) t => ct_Q D (va_A (w_c_X12_next cI cJ cB cZ cO h r bp) sz) [mo h r 0 bp] t) (va_A (w_c_X12_next cI cJ cB cZ cO h r bp) sz)) 0 0 (va_A (w_c_X12_next cI cJ cB cZ cO h r bp) sz) := by
  refine Met.ofW (cc := cX12_next) (maxL := 2) (ret := none) (by decide) rfl ?_
  intro p e s m args below meth c s₁ B hml hv
  obtain ⟨rfl, hsz, hP, hE, hD0⟩ := hv
  have hx := B.exec
  have hb := B.bytes
  have hr := B.returns
  have hts := atoms_spec (ws := wsX12_next) B.pre
  have hown : s.vm.findClass RX12 = some m.cls := findClass_of_methodNamed B.named
  have hlocks := B.notSynchronized
  have hK := hE.1
  have hi12 : ∀ w ∈ u_ws RX12 TX12 45, w ∈ wsX12_next := fun w h => List.mem_cons_of_mem _ (List.mem_append_right _ h)
  subst hsz
  have hD := hD0.self (sz := s.heap.size)
  generalize hAe : va_A (w_c_X12_next cI cJ cB cZ cO h r bp) s.heap.size = A at hD ⊢
  have hA : ∀ q : Nat, s.heap.size ≤ q → A q := fun q h => by rw [← hAe]; exact Or.inr h
  have hS : va_S A s.heap s.heap [] := va_S.rf
  have hP : va_P D vwCl [mo h r 0 bp] s.heap := hP
  have hD : va_D A [mo h r 0 bp] := hD
  have hl := lv_entry ([.ref h]) (n := 2) (Nat.le_of_ble_eq_true rfl)
  rw [lg_entry_eq]
  generalize (lg_sl ([.ref h]) ++ List.replicate (2 - (lg_sl ([.ref h])).length) Slot.unset).toArray = ls at hl ⊢
  have hl : lv_has ls 2 [(0, .ref h)] := hl
  obtain ⟨H, hHe⟩ : ∃ H : Heap, H = s.heap := ⟨_, rfl⟩
  rw [← hHe] at hP
  have hS : va_S A s.heap H [] := by rw [hHe]; exact va_S.rf
  refine ct_start hHe ?_
  refine lv_aload_n hx hb dX12_next_0 rfl (lv_at hl 0 rfl) ?_
  refine lv_aload_n hx hb dX12_next_1 rfl (lv_at hl 0 rfl) ?_
  refine va_get (D := D) (ci := 12) (v := .int 0) (C := RX12) (T := TX12) (N := 45) hx hb hts hi12 hown hK hP 0 rfl rfl 7 (by decide) (hts (.fieldLink RX12 104 "OverHillModel" "at" "I") (by decide +kernel)) (fun _ h9 => h9) rfl dX12_next_2 ?_
  refine lv_bipush (v := 32) hx hb dX12_next_5 (by decide) ?_
  refine lv_bipush (v := 32) hx hb dX12_next_7 (by decide) ?_
  refine ct_calli (D := D) (wc := (w_c_X12_isByte cI cJ cB cZ cO h r bp)) (wr := []) (va_runV (As := [.int 0, .int 32, .int 32]) (rest := []) ⟨hx, hb, hml, hown, hts⟩ (c_X12_isByte l D cI cJ cB cZ cO h r bp 32 32 H.size) (cwV 3 hts gX12_next_X12_isByte rfl rfl rfl (by decide +kernel) ⟨Nat.le_of_ble_eq_true rfl, Nat.le_of_ble_eq_true rfl⟩) (ct_preV (T := ct_T cI cJ cB cZ cO) (ci := 12) (q0 := 0) hE hP hD [0] (by decide) rfl rfl rfl) rfl rfl hl.1 rfl (lv_room (Nat.le_of_ble_eq_true rfl)) dX12_next_9 ⟨Nat.le_of_ble_eq_true rfl, Nat.le_of_ble_eq_true rfl⟩) hP hD hS hA [0] [] rfl rfl (by decide) (by decide) (fun rz u H locs hw hP hD hS => ?_)
  have hP : va_P D vwCl [mo h r 0 bp] H := hP
  have hD : va_D A [mo h r 0 bp] := hD
  obtain ⟨rfl, hq440⟩ := hw
  refine lv_if_ne (tgt := 30) hx hb dX12_next_12 (by decide) (fun hc => absurd hc (by decide)) (fun _ => ?_)
  refine lv_aload_n hx hb dX12_next_15 rfl (lv_at hl 0 rfl) ?_
  refine lv_aload_n hx hb dX12_next_16 rfl (lv_at hl 0 rfl) ?_
  refine va_get (D := D) (ci := 12) (v := .int 0) (C := RX12) (T := TX12) (N := 45) hx hb hts hi12 hown hK hP 0 rfl rfl 7 (by decide) (hts (.fieldLink RX12 104 "OverHillModel" "at" "I") (by decide +kernel)) (fun _ h9 => h9) rfl dX12_next_17 ?_
  refine lv_bipush (v := 10) hx hb dX12_next_20 (by decide) ?_
  refine lv_bipush (v := 10) hx hb dX12_next_22 (by decide) ?_
  refine ct_calli (D := D) (wc := (w_c_X12_isByte cI cJ cB cZ cO h r bp)) (wr := []) (va_runV (As := [.int 0, .int 10, .int 10]) (rest := []) ⟨hx, hb, hml, hown, hts⟩ (c_X12_isByte l D cI cJ cB cZ cO h r bp 10 10 H.size) (cwV 3 hts gX12_next_X12_isByte rfl rfl rfl (by decide +kernel) ⟨Nat.le_of_ble_eq_true rfl, Nat.le_of_ble_eq_true rfl⟩) (ct_preV (T := ct_T cI cJ cB cZ cO) (ci := 12) (q0 := 0) hE hP hD [0] (by decide) rfl rfl rfl) rfl rfl hl.1 rfl (lv_room (Nat.le_of_ble_eq_true rfl)) dX12_next_24 ⟨Nat.le_of_ble_eq_true rfl, Nat.le_of_ble_eq_true rfl⟩) hP hD hS hA [0] [] rfl rfl (by decide) (by decide) (fun rz u H locs hw hP hD hS => ?_)
  have hP : va_P D vwCl [mo h r 0 bp] H := hP
  have hD : va_D A [mo h r 0 bp] := hD
  obtain ⟨rfl, hq441⟩ := hw
  refine lv_if_eq (tgt := 43) hx hb dX12_next_27 (by decide) (fun _ => ?_) (fun hc => absurd hc (by decide))
  refine lv_aload_n hx hb dX12_next_43 rfl (lv_at hl 0 rfl) ?_
  refine lv_aload_n hx hb dX12_next_44 rfl (lv_at hl 0 rfl) ?_
  refine va_get (D := D) (ci := 12) (v := .int 0) (C := RX12) (T := TX12) (N := 45) hx hb hts hi12 hown hK hP 0 rfl rfl 7 (by decide) (hts (.fieldLink RX12 104 "OverHillModel" "at" "I") (by decide +kernel)) (fun _ h9 => h9) rfl dX12_next_45 ?_
  refine va_put (D := D) (ci := 12) (v := .int 0) (ty := .int) (C := RX12) (T := TX12) (N := 45) hx hb hts hi12 tyX12 tyX12_ok nmX12 hown hK hP hD hS 0 rfl rfl 9 (by decide) (hts (.fieldLink RX12 111 "OverHillModel" "place" "I") (by decide +kernel)) (fun _ h9 => h9) rfl (by decide +kernel) rfl rfl (Nat.le_of_ble_eq_true rfl) dX12_next_48 (fun H locs hP hD hS => ?_)
  have hP : va_P D vwCl [mo h r 0 bp] H := hP
  have hD : va_D A [mo h r 0 bp] := hD
  refine lv_aload_n hx hb dX12_next_51 rfl (lv_at hl 0 rfl) ?_
  refine lv_iconst (v := 0) hx hb dX12_next_52 (by decide) ?_
  refine va_put (D := D) (ci := 12) (v := .int 0) (ty := .int) (C := RX12) (T := TX12) (N := 45) hx hb hts hi12 tyX12 tyX12_ok nmX12 hown hK hP hD hS 0 rfl rfl 10 (by decide) (hts (.fieldLink RX12 114 "OverHillModel" "value" "I") (by decide +kernel)) (fun _ h9 => h9) rfl (by decide +kernel) rfl rfl (Nat.le_of_ble_eq_true rfl) dX12_next_53 (fun H locs hP hD hS => ?_)
  have hP : va_P D vwCl [mo h r 0 bp] H := hP
  have hD : va_D A [mo h r 0 bp] := hD
  refine lv_aload_n hx hb dX12_next_56 rfl (lv_at hl 0 rfl) ?_
  refine lv_lconst (v := 0) hx hb dX12_next_57 (by decide) ?_
  refine va_put (D := D) (ci := 12) (v := .long 0) (ty := .long) (C := RX12) (T := TX12) (N := 45) hx hb hts hi12 tyX12 tyX12_ok nmX12 hown hK hP hD hS 0 rfl rfl 11 (by decide) (hts (.fieldLink RX12 117 "OverHillModel" "word" "J") (by decide +kernel)) (fun _ h9 => h9) rfl (by decide +kernel) rfl rfl (Nat.le_of_ble_eq_true rfl) dX12_next_58 (fun H locs hP hD hS => ?_)
  have hP : va_P D vwCl [mo h r 0 bp] H := hP
  have hD : va_D A [mo h r 0 bp] := hD
  refine lv_aload_n hx hb dX12_next_61 rfl (lv_at hl 0 rfl) ?_
  refine va_get (D := D) (ci := 12) (v := .int 0) (C := RX12) (T := TX12) (N := 45) hx hb hts hi12 hown hK hP 0 rfl rfl 7 (by decide) (hts (.fieldLink RX12 104 "OverHillModel" "at" "I") (by decide +kernel)) (fun _ h9 => h9) rfl dX12_next_62 ?_
  refine lv_aload_n hx hb dX12_next_65 rfl (lv_at hl 0 rfl) ?_
  refine va_get (D := D) (ci := 12) (v := .int 0) (C := RX12) (T := TX12) (N := 45) hx hb hts hi12 hown hK hP 0 rfl rfl 6 (by decide) (hts (.fieldLink RX12 97 "OverHillModel" "taped" "I") (by decide +kernel)) (fun _ h9 => h9) rfl dX12_next_66 ?_
  refine lv_icmp_ne (tgt := 80) hx hb dX12_next_69 (by decide) (fun hc => absurd hc (by decide)) (fun _ => ?_)
  refine lv_aload_n hx hb dX12_next_72 rfl (lv_at hl 0 rfl) ?_
  refine lv_iconst (v := 0) hx hb dX12_next_73 (by decide) ?_
  refine va_put (D := D) (ci := 12) (v := .int 0) (ty := .int) (C := RX12) (T := TX12) (N := 45) hx hb hts hi12 tyX12 tyX12_ok nmX12 hown hK hP hD hS 0 rfl rfl 8 (by decide) (hts (.fieldLink RX12 121 "OverHillModel" "token" "I") (by decide +kernel)) (fun _ h9 => h9) rfl (by decide +kernel) rfl rfl (Nat.le_of_ble_eq_true rfl) dX12_next_74 (fun H locs hP hD hS => ?_)
  have hP : va_P D vwCl [mo h r 0 bp] H := hP
  have hD : va_D A [mo h r 0 bp] := hD
  refine lv_goto (tgt := 307) hx hb dX12_next_77 (by decide) ?_
  have hP9 := hP.sub (ws' := [mo h r 0 bp]) [0] rfl
  have hD9 := hD.sub (ws' := [mo h r 0 bp]) [0] (by decide) rfl
  exact W.vret hx hb hr (fun t ht hW => ⟨⟨(), rfl, trivial, by rw [ht]; exact hP9, hD9⟩, hS.F ht⟩) hS.2.2 dX12_next_307
abbrev w_c_X12_isGood (cI cJ cB cZ cO : ClassId) (h : Nat) (r : Nat → Nat) (bp : Int32) : va_W := [mo h r 0 bp]
set_option maxHeartbeats 4000000 in
set_option maxRecDepth 100000 in
/-- no FAULT -/
theorem c_X12_isGood (l : Launch) (D : va_G) (cI cJ cB cZ cO : ClassId) (h : Nat) (r : Nat → Nat) (bp : Int32) (sz : Nat) : Met l yX12_isGood wsX12_isGood ({ frames := 0, cells := 0, slots := 0, locals := 0 }) (va_Pc [.ref h] (ct_P D (ct_T cI cJ cB cZ cO) (w_c_X12_isGood cI cJ cB cZ cO h r bp) sz)) (va_Qi (fun (rz : Int32) (u : Unit) => (rz = 1 ∧ True)) (fun (u : Unit) t => ct_Q D (va_A (w_c_X12_isGood cI cJ cB cZ cO h r bp) sz) [mo h r 0 bp] t) (va_A (w_c_X12_isGood cI cJ cB cZ cO h r bp) sz)) 0 0 (va_A (w_c_X12_isGood cI cJ cB cZ cO h r bp) sz) := by
  refine Met.ofW (cc := cX12_isGood) (maxL := 1) (ret := (some .boolean)) (by decide) rfl ?_
  intro p e s m args below meth c s₁ B hml hv
  obtain ⟨rfl, hsz, hP, hE, hD0⟩ := hv
  have hx := B.exec
  have hb := B.bytes
  have hr := B.returns
  have hts := atoms_spec (ws := wsX12_isGood) B.pre
  have hown : s.vm.findClass RX12 = some m.cls := findClass_of_methodNamed B.named
  have hlocks := B.notSynchronized
  have hK := hE.1
  have hi12 : ∀ w ∈ u_ws RX12 TX12 45, w ∈ wsX12_isGood := fun w h => List.mem_cons_of_mem _ (List.mem_append_right _ h)
  subst hsz
  have hD := hD0.self (sz := s.heap.size)
  generalize hAe : va_A (w_c_X12_isGood cI cJ cB cZ cO h r bp) s.heap.size = A at hD ⊢
  have hA : ∀ q : Nat, s.heap.size ≤ q → A q := fun q h => by rw [← hAe]; exact Or.inr h
  have hS : va_S A s.heap s.heap [] := va_S.rf
  have hP : va_P D vwCl [mo h r 0 bp] s.heap := hP
  have hD : va_D A [mo h r 0 bp] := hD
  have hl := lv_entry ([.ref h]) (n := 1) (Nat.le_of_ble_eq_true rfl)
  rw [lg_entry_eq]
  generalize (lg_sl ([.ref h]) ++ List.replicate (1 - (lg_sl ([.ref h])).length) Slot.unset).toArray = ls at hl ⊢
  have hl : lv_has ls 1 [(0, .ref h)] := hl
  obtain ⟨H, hHe⟩ : ∃ H : Heap, H = s.heap := ⟨_, rfl⟩
  rw [← hHe] at hP
  have hS : va_S A s.heap H [] := by rw [hHe]; exact va_S.rf
  refine ct_start hHe ?_
  refine lv_aload_n hx hb dX12_isGood_0 rfl (lv_at hl 0 rfl) ?_
  refine va_get (D := D) (ci := 12) (v := .int 0) (C := RX12) (T := TX12) (N := 45) hx hb hts hi12 hown hK hP 0 rfl rfl 12 (by decide) (hts (.fieldLink RX12 132 "OverHillModel" "bad" "I") (by decide +kernel)) (fun _ h9 => h9) rfl dX12_isGood_1 ?_
  refine lv_if_ne (tgt := 11) hx hb dX12_isGood_4 (by decide) (fun hc => absurd hc (by decide)) (fun _ => ?_)
  refine lv_iconst (v := 1) hx hb dX12_isGood_7 (by decide) ?_
  refine lv_goto (tgt := 12) hx hb dX12_isGood_8 (by decide) ?_
  have hP9 := hP.sub (ws' := [mo h r 0 bp]) [0] rfl
  have hD9 := hD.sub (ws' := [mo h r 0 bp]) [0] (by decide) rfl
  exact W.zret (v := 1) (ty := .boolean) hx hb hr rfl (fun t ht hW => ⟨⟨1, (), rfl, ⟨rfl, trivial⟩, by rw [ht]; exact hP9, hD9⟩, hS.F ht⟩) hS.2.2 dX12_isGood_12
abbrev w_c_X12_begins (cI cJ cB cZ cO : ClassId) (h : Nat) (r : Nat → Nat) (bp : Int32) : va_W := [mo h r 0 bp]
set_option maxHeartbeats 4000000 in
set_option maxRecDepth 100000 in
/-- from the begin -/
theorem c_X12_begins (l : Launch) (D : va_G) (cI cJ cB cZ cO : ClassId) (h : Nat) (r : Nat → Nat) (bp : Int32) (sz : Nat) : Met l yX12_begins wsX12_begins ({ frames := 2, cells := 0, slots := 0, locals := 44 }) (va_Pc [.ref h] (ct_P D (ct_T cI cJ cB cZ cO) (w_c_X12_begins cI cJ cB cZ cO h r bp) sz)) (va_Qv (fun (u : Unit) => True) (fun (u : Unit) t => ct_Q D (va_A (w_c_X12_begins cI cJ cB cZ cO h r bp) sz) [mo h r 0 (-1)] t) (va_A (w_c_X12_begins cI cJ cB cZ cO h r bp) sz)) 0 0 (va_A (w_c_X12_begins cI cJ cB cZ cO h r bp) sz) := by
  refine Met.ofW (cc := cX12_begins) (maxL := 1) (ret := none) (by decide) rfl ?_
  intro p e s m args below meth c s₁ B hml hv
  obtain ⟨rfl, hsz, hP, hE, hD0⟩ := hv
  have hx := B.exec
  have hb := B.bytes
  have hr := B.returns
  have hts := atoms_spec (ws := wsX12_begins) B.pre
  have hown : s.vm.findClass RX12 = some m.cls := findClass_of_methodNamed B.named
  have hlocks := B.notSynchronized
  have hK := hE.1
  have hi12 : ∀ w ∈ u_ws RX12 TX12 45, w ∈ wsX12_begins := fun w h => List.mem_cons_of_mem _ (List.mem_append_right _ h)
  subst hsz
  have hD := hD0.self (sz := s.heap.size)
  generalize hAe : va_A (w_c_X12_begins cI cJ cB cZ cO h r bp) s.heap.size = A at hD ⊢
  have hA : ∀ q : Nat, s.heap.size ≤ q → A q := fun q h => by rw [← hAe]; exact Or.inr h
  have hS : va_S A s.heap s.heap [] := va_S.rf
  have hP : va_P D vwCl [mo h r 0 bp] s.heap := hP
  have hD : va_D A [mo h r 0 bp] := hD
  have hl := lv_entry ([.ref h]) (n := 1) (Nat.le_of_ble_eq_true rfl)
  rw [lg_entry_eq]
  generalize (lg_sl ([.ref h]) ++ List.replicate (1 - (lg_sl ([.ref h])).length) Slot.unset).toArray = ls at hl ⊢
  have hl : lv_has ls 1 [(0, .ref h)] := hl
  obtain ⟨H, hHe⟩ : ∃ H : Heap, H = s.heap := ⟨_, rfl⟩
  rw [← hHe] at hP
  have hS : va_S A s.heap H [] := by rw [hHe]; exact va_S.rf
  refine ct_start hHe ?_
  refine lv_aload_n hx hb dX12_begins_0 rfl (lv_at hl 0 rfl) ?_
  refine lv_iconst (v := 0) hx hb dX12_begins_1 (by decide) ?_
  refine va_put (D := D) (ci := 12) (v := .int 0) (ty := .int) (C := RX12) (T := TX12) (N := 45) hx hb hts hi12 tyX12 tyX12_ok nmX12 hown hK hP hD hS 0 rfl rfl 12 (by decide) (hts (.fieldLink RX12 132 "OverHillModel" "bad" "I") (by decide +kernel)) (fun _ h9 => h9) rfl (by decide +kernel) rfl rfl (Nat.le_of_ble_eq_true rfl) dX12_begins_2 (fun H locs hP hD hS => ?_)
  have hP : va_P D vwCl [mo h r 0 bp] H := hP
  have hD : va_D A [mo h r 0 bp] := hD
  refine lv_aload_n hx hb dX12_begins_5 rfl (lv_at hl 0 rfl) ?_
  refine lv_iconst (v := (-1)) hx hb dX12_begins_6 (by decide) ?_
  refine va_put (D := D) (ci := 12) (v := .int (-1)) (ty := .int) (C := RX12) (T := TX12) (N := 45) hx hb hts hi12 tyX12 tyX12_ok nmX12 hown hK hP hD hS 0 rfl rfl 13 (by decide) (hts (.fieldLink RX12 135 "OverHillModel" "badPlace" "I") (by decide +kernel)) (fun _ h9 => h9) rfl (by decide +kernel) rfl rfl (Nat.le_of_ble_eq_true rfl) dX12_begins_7 (fun H locs hP hD hS => ?_)
  have hP : va_P D vwCl [mo h r 0 (-1)] H := hP
  have hD : va_D A [mo h r 0 (-1)] := hD
  refine lv_aload_n hx hb dX12_begins_10 rfl (lv_at hl 0 rfl) ?_
  refine lv_iconst (v := 0) hx hb dX12_begins_11 (by decide) ?_
  refine va_put (D := D) (ci := 12) (v := .int 0) (ty := .int) (C := RX12) (T := TX12) (N := 45) hx hb hts hi12 tyX12 tyX12_ok nmX12 hown hK hP hD hS 0 rfl rfl 7 (by decide) (hts (.fieldLink RX12 104 "OverHillModel" "at" "I") (by decide +kernel)) (fun _ h9 => h9) rfl (by decide +kernel) rfl rfl (Nat.le_of_ble_eq_true rfl) dX12_begins_12 (fun H locs hP hD hS => ?_)
  have hP : va_P D vwCl [mo h r 0 (-1)] H := hP
  have hD : va_D A [mo h r 0 (-1)] := hD
  refine lv_aload_n hx hb dX12_begins_15 rfl (lv_at hl 0 rfl) ?_
  refine ct_callv (D := D) (wc := (w_c_X12_next cI cJ cB cZ cO h r (-1))) (wr := []) (va_runV (As := []) (rest := []) ⟨hx, hb, hml, hown, hts⟩ (c_X12_next l D cI cJ cB cZ cO h r (-1) H.size) (cwV 0 hts gX12_begins_X12_next rfl rfl rfl (by decide +kernel) ⟨Nat.le_of_ble_eq_true rfl, Nat.le_of_ble_eq_true rfl⟩) (ct_preV (T := ct_T cI cJ cB cZ cO) (ci := 12) (q0 := 0) hE hP hD [0] (by decide) rfl rfl rfl) rfl rfl hl.1 rfl (lv_room (Nat.le_of_ble_eq_true rfl)) dX12_begins_16 ⟨Nat.le_of_ble_eq_true rfl, Nat.le_of_ble_eq_true rfl⟩) hP hD hS hA [0] [] rfl rfl (by decide) (by decide) (fun u H locs hw hP hD hS => ?_)
  have hP : va_P D vwCl [mo h r 0 (-1)] H := hP
  have hD : va_D A [mo h r 0 (-1)] := hD
  have hP9 := hP.sub (ws' := [mo h r 0 (-1)]) [0] rfl
  have hD9 := hD.sub (ws' := [mo h r 0 (-1)]) [0] (by decide) rfl
  exact W.vret hx hb hr (fun t ht hW => ⟨⟨(), rfl, trivial, by rw [ht]; exact hP9, hD9⟩, hS.F ht⟩) hS.2.2 dX12_begins_19
abbrev w_c_X12_isOver (cI cJ cB cZ cO : ClassId) (h : Nat) (r : Nat → Nat) (bp : Int32) : va_W := [mo h r 0 bp]
set_option maxHeartbeats 4000000 in
set_option maxRecDepth 100000 in
/-- read -/
theorem c_X12_isOver (l : Launch) (D : va_G) (cI cJ cB cZ cO : ClassId) (h : Nat) (r : Nat → Nat) (bp : Int32) (sz : Nat) : Met l yX12_isOver wsX12_isOver ({ frames := 0, cells := 0, slots := 0, locals := 0 }) (va_Pc [.ref h] (ct_P D (ct_T cI cJ cB cZ cO) (w_c_X12_isOver cI cJ cB cZ cO h r bp) sz)) (va_Qv (fun (u : Unit) => True) (fun (u : Unit) t => ct_Q D (va_A (w_c_X12_isOver cI cJ cB cZ cO h r bp) sz) [mo h r 0 bp] t) (va_A (w_c_X12_isOver cI cJ cB cZ cO h r bp) sz)) 0 0 (va_A (w_c_X12_isOver cI cJ cB cZ cO h r bp) sz) := by
  refine Met.ofW (cc := cX12_isOver) (maxL := 1) (ret := none) (by decide) rfl ?_
  intro p e s m args below meth c s₁ B hml hv
  obtain ⟨rfl, hsz, hP, hE, hD0⟩ := hv
  have hx := B.exec
  have hb := B.bytes
  have hr := B.returns
  have hts := atoms_spec (ws := wsX12_isOver) B.pre
  have hown : s.vm.findClass RX12 = some m.cls := findClass_of_methodNamed B.named
  have hlocks := B.notSynchronized
  have hK := hE.1
  have hi12 : ∀ w ∈ u_ws RX12 TX12 45, w ∈ wsX12_isOver := fun w h => List.mem_cons_of_mem _ (List.mem_append_right _ h)
  subst hsz
  have hD := hD0.self (sz := s.heap.size)
  generalize hAe : va_A (w_c_X12_isOver cI cJ cB cZ cO h r bp) s.heap.size = A at hD ⊢
  have hA : ∀ q : Nat, s.heap.size ≤ q → A q := fun q h => by rw [← hAe]; exact Or.inr h
  have hS : va_S A s.heap s.heap [] := va_S.rf
  have hP : va_P D vwCl [mo h r 0 bp] s.heap := hP
  have hD : va_D A [mo h r 0 bp] := hD
  have hl := lv_entry ([.ref h]) (n := 1) (Nat.le_of_ble_eq_true rfl)
  rw [lg_entry_eq]
  generalize (lg_sl ([.ref h]) ++ List.replicate (1 - (lg_sl ([.ref h])).length) Slot.unset).toArray = ls at hl ⊢
  have hl : lv_has ls 1 [(0, .ref h)] := hl
  obtain ⟨H, hHe⟩ : ∃ H : Heap, H = s.heap := ⟨_, rfl⟩
  rw [← hHe] at hP
  have hS : va_S A s.heap H [] := by rw [hHe]; exact va_S.rf
  refine ct_start hHe ?_
  refine lv_aload_n hx hb dX12_isOver_0 rfl (lv_at hl 0 rfl) ?_
  refine lv_iconst (v := 0) hx hb dX12_isOver_1 (by decide) ?_
  refine va_put (D := D) (ci := 12) (v := .int 0) (ty := .int) (C := RX12) (T := TX12) (N := 45) hx hb hts hi12 tyX12 tyX12_ok nmX12 hown hK hP hD hS 0 rfl rfl 6 (by decide) (hts (.fieldLink RX12 97 "OverHillModel" "taped" "I") (by decide +kernel)) (fun _ h9 => h9) rfl (by decide +kernel) rfl rfl (Nat.le_of_ble_eq_true rfl) dX12_isOver_2 (fun H locs hP hD hS => ?_)
  have hP : va_P D vwCl [mo h r 0 bp] H := hP
  have hD : va_D A [mo h r 0 bp] := hD
  refine lv_aload_n hx hb dX12_isOver_5 rfl (lv_at hl 0 rfl) ?_
  refine lv_aload_n hx hb dX12_isOver_6 rfl (lv_at hl 0 rfl) ?_
  refine va_get (D := D) (ci := 12) (v := .int 0) (C := RX12) (T := TX12) (N := 45) hx hb hts hi12 hown hK hP 0 rfl rfl 12 (by decide) (hts (.fieldLink RX12 132 "OverHillModel" "bad" "I") (by decide +kernel)) (fun _ h9 => h9) rfl dX12_isOver_7 ?_
  refine va_put (D := D) (ci := 12) (v := .int 0) (ty := .int) (C := RX12) (T := TX12) (N := 45) hx hb hts hi12 tyX12 tyX12_ok nmX12 hown hK hP hD hS 0 rfl rfl 14 (by decide) (hts (.fieldLink RX12 159 "OverHillModel" "fault" "I") (by decide +kernel)) (fun _ h9 => h9) rfl (by decide +kernel) rfl rfl (Nat.le_of_ble_eq_true rfl) dX12_isOver_10 (fun H locs hP hD hS => ?_)
  have hP : va_P D vwCl [mo h r 0 bp] H := hP
  have hD : va_D A [mo h r 0 bp] := hD
  refine lv_aload_n hx hb dX12_isOver_13 rfl (lv_at hl 0 rfl) ?_
  refine lv_aload_n hx hb dX12_isOver_14 rfl (lv_at hl 0 rfl) ?_
  refine va_get (D := D) (ci := 12) (v := .int 0) (C := RX12) (T := TX12) (N := 45) hx hb hts hi12 hown hK hP 0 rfl rfl 12 (by decide) (hts (.fieldLink RX12 132 "OverHillModel" "bad" "I") (by decide +kernel)) (fun _ h9 => h9) rfl dX12_isOver_15 ?_
  refine lv_if_ne (tgt := 25) hx hb dX12_isOver_18 (by decide) (fun hc => absurd hc (by decide)) (fun _ => ?_)
  refine lv_iconst (v := (-1)) hx hb dX12_isOver_21 (by decide) ?_
  refine lv_goto (tgt := 29) hx hb dX12_isOver_22 (by decide) ?_
  refine va_put (D := D) (ci := 12) (v := .int (-1)) (ty := .int) (C := RX12) (T := TX12) (N := 45) hx hb hts hi12 tyX12 tyX12_ok nmX12 hown hK hP hD hS 0 rfl rfl 15 (by decide) (hts (.fieldLink RX12 27 "OverHillModel" "faultPlace" "I") (by decide +kernel)) (fun _ h9 => h9) rfl (by decide +kernel) rfl rfl (Nat.le_of_ble_eq_true rfl) dX12_isOver_29 (fun H locs hP hD hS => ?_)
  have hP : va_P D vwCl [mo h r 0 bp] H := hP
  have hD : va_D A [mo h r 0 bp] := hD
  have hP9 := hP.sub (ws' := [mo h r 0 bp]) [0] rfl
  have hD9 := hD.sub (ws' := [mo h r 0 bp]) [0] (by decide) rfl
  exact W.vret hx hb hr (fun t ht hW => ⟨⟨(), rfl, trivial, by rw [ht]; exact hP9, hD9⟩, hS.F ht⟩) hS.2.2 dX12_isOver_32
abbrev w_c_X12_reads (cI cJ cB cZ cO : ClassId) (h : Nat) (r : Nat → Nat) (bp : Int32) : va_W := [mo h r 0 bp, ((r 17), .inl (cI, 55, .inl (fun _ => 0)))]
set_option maxHeartbeats 4000000 in
set_option maxRecDepth 100000 in
/-- nothing read -/
theorem c_X12_reads (l : Launch) (D : va_G) (cI cJ cB cZ cO : ClassId) (h : Nat) (r : Nat → Nat) (bp : Int32) (x1 : Int32) (h_x : 0 ≤ x1.toInt ∧ x1.toInt < 11) (sz : Nat) : Met l yX12_reads wsX12_reads ({ frames := 0, cells := 0, slots := 0, locals := 0 }) (va_Pc [.ref h, .int x1, .int 0] (ct_P D (ct_T cI cJ cB cZ cO) (w_c_X12_reads cI cJ cB cZ cO h r bp) sz)) (va_Qv (fun (u : Unit) => True) (fun (u : Unit) t => ct_Q D (va_A (w_c_X12_reads cI cJ cB cZ cO h r bp) sz) [mo h r 0 bp, ((r 17), .inl (cI, 55, .inl (fun _ => 0)))] t) (va_A (w_c_X12_reads cI cJ cB cZ cO h r bp) sz)) 0 0 (va_A (w_c_X12_reads cI cJ cB cZ cO h r bp) sz) := by
  refine Met.ofW (cc := cX12_reads) (maxL := 3) (ret := none) (by decide) rfl ?_
  intro p e s m args below meth c s₁ B hml hv
  obtain ⟨rfl, hsz, hP, hE, hD0⟩ := hv
  have hx := B.exec
  have hb := B.bytes
  have hr := B.returns
  have hts := atoms_spec (ws := wsX12_reads) B.pre
  have hown : s.vm.findClass RX12 = some m.cls := findClass_of_methodNamed B.named
  have hlocks := B.notSynchronized
  have hK := hE.1
  have hi12 : ∀ w ∈ u_ws RX12 TX12 45, w ∈ wsX12_reads := fun w h => List.mem_cons_of_mem _ (List.mem_append_right _ h)
  subst hsz
  have hD := hD0.self (sz := s.heap.size)
  generalize hAe : va_A (w_c_X12_reads cI cJ cB cZ cO h r bp) s.heap.size = A at hD ⊢
  have hA : ∀ q : Nat, s.heap.size ≤ q → A q := fun q h => by rw [← hAe]; exact Or.inr h
  have hS : va_S A s.heap s.heap [] := va_S.rf
  have hP : va_P D vwCl [mo h r 0 bp, ((r 17), .inl (cI, 55, .inl (fun _ => 0)))] s.heap := hP
  have hD : va_D A [mo h r 0 bp, ((r 17), .inl (cI, 55, .inl (fun _ => 0)))] := hD
  have hl := lv_entry ([.ref h, .int x1, .int 0]) (n := 3) (Nat.le_of_ble_eq_true rfl)
  rw [lg_entry_eq]
  generalize (lg_sl ([.ref h, .int x1, .int 0]) ++ List.replicate (3 - (lg_sl ([.ref h, .int x1, .int 0])).length) Slot.unset).toArray = ls at hl ⊢
  have hl : lv_has ls 3 [(0, .ref h), (1, .int x1), (2, .int 0)] := hl
  obtain ⟨H, hHe⟩ : ∃ H : Heap, H = s.heap := ⟨_, rfl⟩
  rw [← hHe] at hP
  have hS : va_S A s.heap H [] := by rw [hHe]; exact va_S.rf
  refine ct_start hHe ?_
  refine lv_aload_n hx hb dX12_reads_0 rfl (lv_at hl 0 rfl) ?_
  refine va_get (D := D) (ci := 12) (v := .ref (r 17)) (C := RX12) (T := TX12) (N := 45) hx hb hts hi12 hown hK hP 0 rfl rfl 17 (by decide) (hts (.fieldLink RX12 34 "OverHillModel" "has" "[I") (by decide +kernel)) (fun _ h9 => h9) rfl dX12_reads_1 ?_
  refine lv_bipush (v := 44) hx hb dX12_reads_4 (by decide) ?_
  refine lv_iload_n hx hb dX12_reads_6 rfl (lv_at hl 1 rfl) ?_
  refine lv_iadd hx hb dX12_reads_7 ?_
  refine lv_topi (fun z442 ez442 => ?_)
  have fz442 : z442.toInt = (44 + x1.toInt) := by rw [ez442]; exact tq_add (by decide) rfl (by omega)
  refine lv_iload_n hx hb dX12_reads_8 rfl (lv_at hl 2 rfl) ?_
  refine va_iast (D := D) hx hb hK hP hD hS 1 0 rfl rfl (tq_in fz442 (by omega)) dX12_reads_9 (fun H locs hP hD hS => ?_)
  rw [ct_upd0] at hP hD
  have hP : va_P D vwCl [mo h r 0 bp, ((r 17), .inl (cI, 55, .inl (fun _ => 0)))] H := hP
  have hD : va_D A [mo h r 0 bp, ((r 17), .inl (cI, 55, .inl (fun _ => 0)))] := hD
  have hP9 := hP.sub (ws' := [mo h r 0 bp, ((r 17), .inl (cI, 55, .inl (fun _ => 0)))]) [0, 1] rfl
  have hD9 := hD.sub (ws' := [mo h r 0 bp, ((r 17), .inl (cI, 55, .inl (fun _ => 0)))]) [0, 1] (by decide) rfl
  exact W.vret hx hb hr (fun t ht hW => ⟨⟨(), rfl, trivial, by rw [ht]; exact hP9, hD9⟩, hS.F ht⟩) hS.2.2 dX12_reads_10
set_option maxHeartbeats 4000000 in
set_option maxRecDepth 100000 in
/-- the loop of X12_clears at 54 -/
theorem lp_X12_clears_54 {p : Program} {l : Launch} {e : Env} {Rm : Room} {s : State} {m : MethodId} {args : Array Value} {below : List Frame} {meth : Method} {c : Code} {cells slots : Nat} {Q : State → Prop} {A : Nat → Prop} (D : va_G) (cI cJ cB cZ cO : ClassId) (h : Nat) (r : Nat → Nat) (g454 : Nat → Int32)  (hx : p.tables.exec = Jvm.exec) (hb : c.code = cX12_clears) (hown : s.vm.findClass RX12 = some m.cls) (hts : ∀ w ∈ wsX12_clears, w.before args s = true) (hE : ct_E D (ct_T cI cJ cB cZ cO) s)
    (hk : ∀  (H : Heap) (locs : List Loc) (ls : Array Slot), va_P D vwCl [((r 16), .inl (cI, 5, .inl (fun _ => 0))), ((r 19), .inl (cI, 30, .inl (g454))), ((r 21), .inl (cZ, 1000, .inl (fun _ => 0))), mo h r 0 0, ((r 17), .inl (cI, 55, .inl (fun _ => 0)))] H → va_D A [((r 16), .inl (cI, 5, .inl (fun _ => 0))), ((r 19), .inl (cI, 30, .inl (g454))), ((r 21), .inl (cZ, 1000, .inl (fun _ => 0))), mo h r 0 0, ((r 17), .inl (cI, 55, .inl (fun _ => 0)))] → va_S A s.heap H locs → lv_has ls 2 [(1, .int (nI 200)), (0, .ref h)] → W p l e Rm s m args below meth c H locs cells slots Q (F0 m 78 ls [])) :
    ∀ (fu i : Nat)  (H : Heap) (locs : List Loc) (ls : Array Slot), i + fu = 200 → va_P D vwCl [((r 16), .inl (cI, 5, .inl (fun _ => 0))), ((r 19), .inl (cI, 30, .inl (g454))), ((r 21), .inl (cZ, 1000, .inl (fun _ => 0))), mo h r 0 0, ((r 17), .inl (cI, 55, .inl (fun _ => 0)))] H → va_D A [((r 16), .inl (cI, 5, .inl (fun _ => 0))), ((r 19), .inl (cI, 30, .inl (g454))), ((r 21), .inl (cZ, 1000, .inl (fun _ => 0))), mo h r 0 0, ((r 17), .inl (cI, 55, .inl (fun _ => 0)))] → va_S A s.heap H locs → lv_has ls 2 [(1, .int (nI i)), (0, .ref h)] → W p l e Rm s m args below meth c H locs cells slots Q (F0 m 54 ls []) := by
  have hK := hE.1
  have hi12 : ∀ w ∈ u_ws RX12 TX12 45, w ∈ wsX12_clears := fun w h => List.mem_cons_of_mem _ (List.mem_append_right _ h)
  intro fu
  induction fu with
  | zero =>
    intro i  H locs ls hin hP hD hS hl
    obtain rfl : i = 200 := by omega
    refine lv_iload_n hx hb dX12_clears_54 rfl (lv_at hl 0 rfl) ?_
    refine lv_sipush (v := 200) hx hb dX12_clears_55 (by decide) ?_
    refine lv_icmp_ge (tgt := 78) hx hb dX12_clears_58 (by decide) (fun _ => ?_) (fun hc => absurd hc (by decide))
    exact hk  H locs ls hP hD hS (lv_sub hl [0, 1] rfl)
  | succ fu ih =>
    intro i  H locs ls hin hP hD hS hl
    refine lv_iload_n hx hb dX12_clears_54 rfl (lv_at hl 0 rfl) ?_
    refine lv_sipush (v := 200) hx hb dX12_clears_55 (by decide) ?_
    refine lv_icmp_ge (tgt := 78) hx hb dX12_clears_58 (by decide) (fun hc => absurd hc (nI_ge (a := i) (b := 200) (by omega) (by omega))) (fun _ => ?_)
    refine lv_aload_n hx hb dX12_clears_61 rfl (lv_at hl 1 rfl) ?_
    refine va_get (D := D) (ci := 12) (v := .ref (r 21)) (C := RX12) (T := TX12) (N := 45) hx hb hts hi12 hown hK hP 3 rfl rfl 21 (by decide) (hts (.fieldLink RX12 46 "OverHillModel" "isMud" "[Z") (by decide +kernel)) (fun _ h9 => h9) rfl dX12_clears_62 ?_
    refine lv_sipush (v := 800) hx hb dX12_clears_65 (by decide) ?_
    refine lv_iload_n hx hb dX12_clears_68 rfl (lv_at hl 0 rfl) ?_
    refine lv_iadd hx hb dX12_clears_69 ?_
    refine lv_topi (fun z455 ez455 => ?_)
    have fz455 : z455.toInt = (800 + (i : Int)) := by rw [ez455]; exact tq_add (by decide) (nI_toInt (by omega)) (by omega)
    refine lv_iconst (v := 0) hx hb dX12_clears_70 (by decide) ?_
    refine va_zast (D := D) hx hb hK hP hD hS 2 3 rfl rfl (tq_in fz455 (by omega)) dX12_clears_71 (fun H locs hP hD hS => ?_)
    rw [show vp_nar .boolean (0 : Int32) = 0 from by decide, ct_upd0] at hP hD
    have hP : va_P D vwCl [((r 16), .inl (cI, 5, .inl (fun _ => 0))), ((r 19), .inl (cI, 30, .inl (g454))), ((r 21), .inl (cZ, 1000, .inl (fun _ => 0))), mo h r 0 0, ((r 17), .inl (cI, 55, .inl (fun _ => 0)))] H := hP
    have hD : va_D A [((r 16), .inl (cI, 5, .inl (fun _ => 0))), ((r 19), .inl (cI, 30, .inl (g454))), ((r 21), .inl (cZ, 1000, .inl (fun _ => 0))), mo h r 0 0, ((r 17), .inl (cI, 55, .inl (fun _ => 0)))] := hD
    refine lv_iinc (v := (nI (i + 1))) (lv' := [(1, .int (nI (i + 1))), (0, .ref h)]) hx hb dX12_clears_72 hl (k := 0) rfl (nI_1 i) (by decide) rfl (fun ls hl => ?_)
    refine lv_goto (tgt := 54) hx hb dX12_clears_75 (by decide) ?_
    exact ih (i + 1)  H locs ls (by omega) hP hD hS (lv_sub hl [0, 1] rfl)
abbrev w_c_X12_clears (cI cJ cB cZ cO : ClassId) (h : Nat) (r : Nat → Nat) : va_W := [mo h r 0 0, ((r 16), .inl (cI, 5, .inl (fun _ => 0))), ((r 17), .inl (cI, 55, .inl (fun _ => 0))), ((r 19), .inl (cI, 30, .inl (fun _ => 0))), ((r 21), .inl (cZ, 1000, .inl (fun _ => 0)))]
set_option maxHeartbeats 4000000 in
set_option maxRecDepth 100000 in
/-- cleared -/
theorem c_X12_clears (l : Launch) (D : va_G) (cI cJ cB cZ cO : ClassId) (h : Nat) (r : Nat → Nat) (sz : Nat) : Met l yX12_clears wsX12_clears ({ frames := 1, cells := 0, slots := 0, locals := 22 }) (va_Pc [.ref h] (ct_P D (ct_T cI cJ cB cZ cO) (w_c_X12_clears cI cJ cB cZ cO h r) sz)) (va_Qv (fun (u : Nat → Int32) => True) (fun (u : Nat → Int32) t => ct_Q D (va_A (w_c_X12_clears cI cJ cB cZ cO h r) sz) [mo h r 0 0, ((r 16), .inl (cI, 5, .inl (fun _ => 0))), ((r 17), .inl (cI, 55, .inl (fun _ => 0))), ((r 19), .inl (cI, 30, .inl (u))), ((r 21), .inl (cZ, 1000, .inl (fun _ => 0)))] t) (va_A (w_c_X12_clears cI cJ cB cZ cO h r) sz)) 0 0 (va_A (w_c_X12_clears cI cJ cB cZ cO h r) sz) := by
  refine Met.ofW (cc := cX12_clears) (maxL := 2) (ret := none) (by decide) rfl ?_
  intro p e s m args below meth c s₁ B hml hv
  obtain ⟨rfl, hsz, hP, hE, hD0⟩ := hv
  have hx := B.exec
  have hb := B.bytes
  have hr := B.returns
  have hts := atoms_spec (ws := wsX12_clears) B.pre
  have hown : s.vm.findClass RX12 = some m.cls := findClass_of_methodNamed B.named
  have hlocks := B.notSynchronized
  have hK := hE.1
  have hi12 : ∀ w ∈ u_ws RX12 TX12 45, w ∈ wsX12_clears := fun w h => List.mem_cons_of_mem _ (List.mem_append_right _ h)
  subst hsz
  have hD := hD0.self (sz := s.heap.size)
  generalize hAe : va_A (w_c_X12_clears cI cJ cB cZ cO h r) s.heap.size = A at hD ⊢
  have hA : ∀ q : Nat, s.heap.size ≤ q → A q := fun q h => by rw [← hAe]; exact Or.inr h
  have hS : va_S A s.heap s.heap [] := va_S.rf
  have hP : va_P D vwCl [mo h r 0 0, ((r 16), .inl (cI, 5, .inl (fun _ => 0))), ((r 17), .inl (cI, 55, .inl (fun _ => 0))), ((r 19), .inl (cI, 30, .inl (fun _ => 0))), ((r 21), .inl (cZ, 1000, .inl (fun _ => 0)))] s.heap := hP
  have hD : va_D A [mo h r 0 0, ((r 16), .inl (cI, 5, .inl (fun _ => 0))), ((r 17), .inl (cI, 55, .inl (fun _ => 0))), ((r 19), .inl (cI, 30, .inl (fun _ => 0))), ((r 21), .inl (cZ, 1000, .inl (fun _ => 0)))] := hD
  have hl := lv_entry ([.ref h]) (n := 2) (Nat.le_of_ble_eq_true rfl)
  rw [lg_entry_eq]
  generalize (lg_sl ([.ref h]) ++ List.replicate (2 - (lg_sl ([.ref h])).length) Slot.unset).toArray = ls at hl ⊢
  have hl : lv_has ls 2 [(0, .ref h)] := hl
  obtain ⟨H, hHe⟩ : ∃ H : Heap, H = s.heap := ⟨_, rfl⟩
  rw [← hHe] at hP
  have hS : va_S A s.heap H [] := by rw [hHe]; exact va_S.rf
  refine ct_start hHe ?_
  refine lv_aload_n hx hb dX12_clears_0 rfl (lv_at hl 0 rfl) ?_
  refine va_get (D := D) (ci := 12) (v := .ref (r 16)) (C := RX12) (T := TX12) (N := 45) hx hb hts hi12 hown hK hP 0 rfl rfl 16 (by decide) (hts (.fieldLink RX12 31 "OverHillModel" "lines" "[I") (by decide +kernel)) (fun _ h9 => h9) rfl dX12_clears_1 ?_
  refine lv_iconst (v := 4) hx hb dX12_clears_4 (by decide) ?_
  refine lv_iconst (v := 0) hx hb dX12_clears_5 (by decide) ?_
  refine va_iast (D := D) hx hb hK hP hD hS 1 0 rfl rfl (tq_in (a := 4) (by decide) (by omega)) dX12_clears_6 (fun H locs hP hD hS => ?_)
  rw [ct_upd0] at hP hD
  have hP : va_P D vwCl [mo h r 0 0, ((r 16), .inl (cI, 5, .inl (fun _ => 0))), ((r 17), .inl (cI, 55, .inl (fun _ => 0))), ((r 19), .inl (cI, 30, .inl (fun _ => 0))), ((r 21), .inl (cZ, 1000, .inl (fun _ => 0)))] H := hP
  have hD : va_D A [mo h r 0 0, ((r 16), .inl (cI, 5, .inl (fun _ => 0))), ((r 17), .inl (cI, 55, .inl (fun _ => 0))), ((r 19), .inl (cI, 30, .inl (fun _ => 0))), ((r 21), .inl (cZ, 1000, .inl (fun _ => 0)))] := hD
  refine lv_iconst (v := 0) hx hb dX12_clears_7 (by decide) ?_
  refine lv_istore_n (lv' := [(1, .int 0), (0, .ref h)]) hx hb dX12_clears_8 rfl hl (by decide) rfl (fun ls hl => ?_)
  refine lv_iload_n hx hb dX12_clears_9 rfl (lv_at hl 0 rfl) ?_
  refine lv_bipush (v := 11) hx hb dX12_clears_10 (by decide) ?_
  refine lv_icmp_ge (tgt := 27) hx hb dX12_clears_12 (by decide) (fun hc => absurd hc (by decide)) (fun _ => ?_)
  refine lv_aload_n hx hb dX12_clears_15 rfl (lv_at hl 1 rfl) ?_
  refine lv_iload_n hx hb dX12_clears_16 rfl (lv_at hl 0 rfl) ?_
  refine lv_iconst (v := 0) hx hb dX12_clears_17 (by decide) ?_
  refine ct_callv (D := D) (wc := (w_c_X12_reads cI cJ cB cZ cO h r 0)) (wr := [((r 16), .inl (cI, 5, .inl (fun _ => 0))), ((r 19), .inl (cI, 30, .inl (fun _ => 0))), ((r 21), .inl (cZ, 1000, .inl (fun _ => 0)))]) (va_runV (As := [.int 0, .int 0]) (rest := []) ⟨hx, hb, hml, hown, hts⟩ (c_X12_reads l D cI cJ cB cZ cO h r 0 0 (by decide) H.size) (cwV 2 hts gX12_clears_X12_reads rfl rfl rfl (by decide +kernel) ⟨Nat.le_of_ble_eq_true rfl, Nat.le_of_ble_eq_true rfl⟩) (ct_preV (T := ct_T cI cJ cB cZ cO) (ci := 12) (q0 := 0) hE hP hD [0, 2] (by decide) rfl rfl rfl) rfl rfl hl.1 rfl (lv_room (Nat.le_of_ble_eq_true rfl)) dX12_clears_18 ⟨Nat.le_of_ble_eq_true rfl, Nat.le_of_ble_eq_true rfl⟩) hP hD hS hA [0, 2] [1, 3, 4] rfl rfl (by decide) (by decide) (fun u H locs hw hP hD hS => ?_)
  have hP : va_P D vwCl [((r 16), .inl (cI, 5, .inl (fun _ => 0))), ((r 19), .inl (cI, 30, .inl (fun _ => 0))), ((r 21), .inl (cZ, 1000, .inl (fun _ => 0))), mo h r 0 0, ((r 17), .inl (cI, 55, .inl (fun _ => 0)))] H := hP
  have hD : va_D A [((r 16), .inl (cI, 5, .inl (fun _ => 0))), ((r 19), .inl (cI, 30, .inl (fun _ => 0))), ((r 21), .inl (cZ, 1000, .inl (fun _ => 0))), mo h r 0 0, ((r 17), .inl (cI, 55, .inl (fun _ => 0)))] := hD
  refine lv_iinc (v := 1) (lv' := [(1, .int 1), (0, .ref h)]) hx hb dX12_clears_21 hl (k := 0) rfl (by decide) (by decide) rfl (fun ls hl => ?_)
  refine lv_goto (tgt := 9) hx hb dX12_clears_24 (by decide) ?_
  refine lv_iload_n hx hb dX12_clears_9 rfl (lv_at hl 0 rfl) ?_
  refine lv_bipush (v := 11) hx hb dX12_clears_10 (by decide) ?_
  refine lv_icmp_ge (tgt := 27) hx hb dX12_clears_12 (by decide) (fun hc => absurd hc (by decide)) (fun _ => ?_)
  refine lv_aload_n hx hb dX12_clears_15 rfl (lv_at hl 1 rfl) ?_
  refine lv_iload_n hx hb dX12_clears_16 rfl (lv_at hl 0 rfl) ?_
  refine lv_iconst (v := 0) hx hb dX12_clears_17 (by decide) ?_
  refine ct_callv (D := D) (wc := (w_c_X12_reads cI cJ cB cZ cO h r 0)) (wr := [((r 16), .inl (cI, 5, .inl (fun _ => 0))), ((r 19), .inl (cI, 30, .inl (fun _ => 0))), ((r 21), .inl (cZ, 1000, .inl (fun _ => 0)))]) (va_runV (As := [.int 1, .int 0]) (rest := []) ⟨hx, hb, hml, hown, hts⟩ (c_X12_reads l D cI cJ cB cZ cO h r 0 1 (by decide) H.size) (cwV 2 hts gX12_clears_X12_reads rfl rfl rfl (by decide +kernel) ⟨Nat.le_of_ble_eq_true rfl, Nat.le_of_ble_eq_true rfl⟩) (ct_preV (T := ct_T cI cJ cB cZ cO) (ci := 12) (q0 := 3) hE hP hD [3, 4] (by decide) rfl rfl rfl) rfl rfl hl.1 rfl (lv_room (Nat.le_of_ble_eq_true rfl)) dX12_clears_18 ⟨Nat.le_of_ble_eq_true rfl, Nat.le_of_ble_eq_true rfl⟩) hP hD hS hA [3, 4] [0, 1, 2] rfl rfl (by decide) (by decide) (fun u H locs hw hP hD hS => ?_)
  have hP : va_P D vwCl [((r 16), .inl (cI, 5, .inl (fun _ => 0))), ((r 19), .inl (cI, 30, .inl (fun _ => 0))), ((r 21), .inl (cZ, 1000, .inl (fun _ => 0))), mo h r 0 0, ((r 17), .inl (cI, 55, .inl (fun _ => 0)))] H := hP
  have hD : va_D A [((r 16), .inl (cI, 5, .inl (fun _ => 0))), ((r 19), .inl (cI, 30, .inl (fun _ => 0))), ((r 21), .inl (cZ, 1000, .inl (fun _ => 0))), mo h r 0 0, ((r 17), .inl (cI, 55, .inl (fun _ => 0)))] := hD
  refine lv_iinc (v := 2) (lv' := [(1, .int 2), (0, .ref h)]) hx hb dX12_clears_21 hl (k := 0) rfl (by decide) (by decide) rfl (fun ls hl => ?_)
  refine lv_goto (tgt := 9) hx hb dX12_clears_24 (by decide) ?_
  refine lv_iload_n hx hb dX12_clears_9 rfl (lv_at hl 0 rfl) ?_
  refine lv_bipush (v := 11) hx hb dX12_clears_10 (by decide) ?_
  refine lv_icmp_ge (tgt := 27) hx hb dX12_clears_12 (by decide) (fun hc => absurd hc (by decide)) (fun _ => ?_)
  refine lv_aload_n hx hb dX12_clears_15 rfl (lv_at hl 1 rfl) ?_
  refine lv_iload_n hx hb dX12_clears_16 rfl (lv_at hl 0 rfl) ?_
  refine lv_iconst (v := 0) hx hb dX12_clears_17 (by decide) ?_
  refine ct_callv (D := D) (wc := (w_c_X12_reads cI cJ cB cZ cO h r 0)) (wr := [((r 16), .inl (cI, 5, .inl (fun _ => 0))), ((r 19), .inl (cI, 30, .inl (fun _ => 0))), ((r 21), .inl (cZ, 1000, .inl (fun _ => 0)))]) (va_runV (As := [.int 2, .int 0]) (rest := []) ⟨hx, hb, hml, hown, hts⟩ (c_X12_reads l D cI cJ cB cZ cO h r 0 2 (by decide) H.size) (cwV 2 hts gX12_clears_X12_reads rfl rfl rfl (by decide +kernel) ⟨Nat.le_of_ble_eq_true rfl, Nat.le_of_ble_eq_true rfl⟩) (ct_preV (T := ct_T cI cJ cB cZ cO) (ci := 12) (q0 := 3) hE hP hD [3, 4] (by decide) rfl rfl rfl) rfl rfl hl.1 rfl (lv_room (Nat.le_of_ble_eq_true rfl)) dX12_clears_18 ⟨Nat.le_of_ble_eq_true rfl, Nat.le_of_ble_eq_true rfl⟩) hP hD hS hA [3, 4] [0, 1, 2] rfl rfl (by decide) (by decide) (fun u H locs hw hP hD hS => ?_)
  have hP : va_P D vwCl [((r 16), .inl (cI, 5, .inl (fun _ => 0))), ((r 19), .inl (cI, 30, .inl (fun _ => 0))), ((r 21), .inl (cZ, 1000, .inl (fun _ => 0))), mo h r 0 0, ((r 17), .inl (cI, 55, .inl (fun _ => 0)))] H := hP
  have hD : va_D A [((r 16), .inl (cI, 5, .inl (fun _ => 0))), ((r 19), .inl (cI, 30, .inl (fun _ => 0))), ((r 21), .inl (cZ, 1000, .inl (fun _ => 0))), mo h r 0 0, ((r 17), .inl (cI, 55, .inl (fun _ => 0)))] := hD
  refine lv_iinc (v := 3) (lv' := [(1, .int 3), (0, .ref h)]) hx hb dX12_clears_21 hl (k := 0) rfl (by decide) (by decide) rfl (fun ls hl => ?_)
  refine lv_goto (tgt := 9) hx hb dX12_clears_24 (by decide) ?_
  refine lv_iload_n hx hb dX12_clears_9 rfl (lv_at hl 0 rfl) ?_
  refine lv_bipush (v := 11) hx hb dX12_clears_10 (by decide) ?_
  refine lv_icmp_ge (tgt := 27) hx hb dX12_clears_12 (by decide) (fun hc => absurd hc (by decide)) (fun _ => ?_)
  refine lv_aload_n hx hb dX12_clears_15 rfl (lv_at hl 1 rfl) ?_
  refine lv_iload_n hx hb dX12_clears_16 rfl (lv_at hl 0 rfl) ?_
  refine lv_iconst (v := 0) hx hb dX12_clears_17 (by decide) ?_
  refine ct_callv (D := D) (wc := (w_c_X12_reads cI cJ cB cZ cO h r 0)) (wr := [((r 16), .inl (cI, 5, .inl (fun _ => 0))), ((r 19), .inl (cI, 30, .inl (fun _ => 0))), ((r 21), .inl (cZ, 1000, .inl (fun _ => 0)))]) (va_runV (As := [.int 3, .int 0]) (rest := []) ⟨hx, hb, hml, hown, hts⟩ (c_X12_reads l D cI cJ cB cZ cO h r 0 3 (by decide) H.size) (cwV 2 hts gX12_clears_X12_reads rfl rfl rfl (by decide +kernel) ⟨Nat.le_of_ble_eq_true rfl, Nat.le_of_ble_eq_true rfl⟩) (ct_preV (T := ct_T cI cJ cB cZ cO) (ci := 12) (q0 := 3) hE hP hD [3, 4] (by decide) rfl rfl rfl) rfl rfl hl.1 rfl (lv_room (Nat.le_of_ble_eq_true rfl)) dX12_clears_18 ⟨Nat.le_of_ble_eq_true rfl, Nat.le_of_ble_eq_true rfl⟩) hP hD hS hA [3, 4] [0, 1, 2] rfl rfl (by decide) (by decide) (fun u H locs hw hP hD hS => ?_)
  have hP : va_P D vwCl [((r 16), .inl (cI, 5, .inl (fun _ => 0))), ((r 19), .inl (cI, 30, .inl (fun _ => 0))), ((r 21), .inl (cZ, 1000, .inl (fun _ => 0))), mo h r 0 0, ((r 17), .inl (cI, 55, .inl (fun _ => 0)))] H := hP
  have hD : va_D A [((r 16), .inl (cI, 5, .inl (fun _ => 0))), ((r 19), .inl (cI, 30, .inl (fun _ => 0))), ((r 21), .inl (cZ, 1000, .inl (fun _ => 0))), mo h r 0 0, ((r 17), .inl (cI, 55, .inl (fun _ => 0)))] := hD
  refine lv_iinc (v := 4) (lv' := [(1, .int 4), (0, .ref h)]) hx hb dX12_clears_21 hl (k := 0) rfl (by decide) (by decide) rfl (fun ls hl => ?_)
  refine lv_goto (tgt := 9) hx hb dX12_clears_24 (by decide) ?_
  refine lv_iload_n hx hb dX12_clears_9 rfl (lv_at hl 0 rfl) ?_
  refine lv_bipush (v := 11) hx hb dX12_clears_10 (by decide) ?_
  refine lv_icmp_ge (tgt := 27) hx hb dX12_clears_12 (by decide) (fun hc => absurd hc (by decide)) (fun _ => ?_)
  refine lv_aload_n hx hb dX12_clears_15 rfl (lv_at hl 1 rfl) ?_
  refine lv_iload_n hx hb dX12_clears_16 rfl (lv_at hl 0 rfl) ?_
  refine lv_iconst (v := 0) hx hb dX12_clears_17 (by decide) ?_
  refine ct_callv (D := D) (wc := (w_c_X12_reads cI cJ cB cZ cO h r 0)) (wr := [((r 16), .inl (cI, 5, .inl (fun _ => 0))), ((r 19), .inl (cI, 30, .inl (fun _ => 0))), ((r 21), .inl (cZ, 1000, .inl (fun _ => 0)))]) (va_runV (As := [.int 4, .int 0]) (rest := []) ⟨hx, hb, hml, hown, hts⟩ (c_X12_reads l D cI cJ cB cZ cO h r 0 4 (by decide) H.size) (cwV 2 hts gX12_clears_X12_reads rfl rfl rfl (by decide +kernel) ⟨Nat.le_of_ble_eq_true rfl, Nat.le_of_ble_eq_true rfl⟩) (ct_preV (T := ct_T cI cJ cB cZ cO) (ci := 12) (q0 := 3) hE hP hD [3, 4] (by decide) rfl rfl rfl) rfl rfl hl.1 rfl (lv_room (Nat.le_of_ble_eq_true rfl)) dX12_clears_18 ⟨Nat.le_of_ble_eq_true rfl, Nat.le_of_ble_eq_true rfl⟩) hP hD hS hA [3, 4] [0, 1, 2] rfl rfl (by decide) (by decide) (fun u H locs hw hP hD hS => ?_)
  have hP : va_P D vwCl [((r 16), .inl (cI, 5, .inl (fun _ => 0))), ((r 19), .inl (cI, 30, .inl (fun _ => 0))), ((r 21), .inl (cZ, 1000, .inl (fun _ => 0))), mo h r 0 0, ((r 17), .inl (cI, 55, .inl (fun _ => 0)))] H := hP
  have hD : va_D A [((r 16), .inl (cI, 5, .inl (fun _ => 0))), ((r 19), .inl (cI, 30, .inl (fun _ => 0))), ((r 21), .inl (cZ, 1000, .inl (fun _ => 0))), mo h r 0 0, ((r 17), .inl (cI, 55, .inl (fun _ => 0)))] := hD
  refine lv_iinc (v := 5) (lv' := [(1, .int 5), (0, .ref h)]) hx hb dX12_clears_21 hl (k := 0) rfl (by decide) (by decide) rfl (fun ls hl => ?_)
  refine lv_goto (tgt := 9) hx hb dX12_clears_24 (by decide) ?_
  refine lv_iload_n hx hb dX12_clears_9 rfl (lv_at hl 0 rfl) ?_
  refine lv_bipush (v := 11) hx hb dX12_clears_10 (by decide) ?_
  refine lv_icmp_ge (tgt := 27) hx hb dX12_clears_12 (by decide) (fun hc => absurd hc (by decide)) (fun _ => ?_)
  refine lv_aload_n hx hb dX12_clears_15 rfl (lv_at hl 1 rfl) ?_
  refine lv_iload_n hx hb dX12_clears_16 rfl (lv_at hl 0 rfl) ?_
  refine lv_iconst (v := 0) hx hb dX12_clears_17 (by decide) ?_
  refine ct_callv (D := D) (wc := (w_c_X12_reads cI cJ cB cZ cO h r 0)) (wr := [((r 16), .inl (cI, 5, .inl (fun _ => 0))), ((r 19), .inl (cI, 30, .inl (fun _ => 0))), ((r 21), .inl (cZ, 1000, .inl (fun _ => 0)))]) (va_runV (As := [.int 5, .int 0]) (rest := []) ⟨hx, hb, hml, hown, hts⟩ (c_X12_reads l D cI cJ cB cZ cO h r 0 5 (by decide) H.size) (cwV 2 hts gX12_clears_X12_reads rfl rfl rfl (by decide +kernel) ⟨Nat.le_of_ble_eq_true rfl, Nat.le_of_ble_eq_true rfl⟩) (ct_preV (T := ct_T cI cJ cB cZ cO) (ci := 12) (q0 := 3) hE hP hD [3, 4] (by decide) rfl rfl rfl) rfl rfl hl.1 rfl (lv_room (Nat.le_of_ble_eq_true rfl)) dX12_clears_18 ⟨Nat.le_of_ble_eq_true rfl, Nat.le_of_ble_eq_true rfl⟩) hP hD hS hA [3, 4] [0, 1, 2] rfl rfl (by decide) (by decide) (fun u H locs hw hP hD hS => ?_)
  have hP : va_P D vwCl [((r 16), .inl (cI, 5, .inl (fun _ => 0))), ((r 19), .inl (cI, 30, .inl (fun _ => 0))), ((r 21), .inl (cZ, 1000, .inl (fun _ => 0))), mo h r 0 0, ((r 17), .inl (cI, 55, .inl (fun _ => 0)))] H := hP
  have hD : va_D A [((r 16), .inl (cI, 5, .inl (fun _ => 0))), ((r 19), .inl (cI, 30, .inl (fun _ => 0))), ((r 21), .inl (cZ, 1000, .inl (fun _ => 0))), mo h r 0 0, ((r 17), .inl (cI, 55, .inl (fun _ => 0)))] := hD
  refine lv_iinc (v := 6) (lv' := [(1, .int 6), (0, .ref h)]) hx hb dX12_clears_21 hl (k := 0) rfl (by decide) (by decide) rfl (fun ls hl => ?_)
  refine lv_goto (tgt := 9) hx hb dX12_clears_24 (by decide) ?_
  refine lv_iload_n hx hb dX12_clears_9 rfl (lv_at hl 0 rfl) ?_
  refine lv_bipush (v := 11) hx hb dX12_clears_10 (by decide) ?_
  refine lv_icmp_ge (tgt := 27) hx hb dX12_clears_12 (by decide) (fun hc => absurd hc (by decide)) (fun _ => ?_)
  refine lv_aload_n hx hb dX12_clears_15 rfl (lv_at hl 1 rfl) ?_
  refine lv_iload_n hx hb dX12_clears_16 rfl (lv_at hl 0 rfl) ?_
  refine lv_iconst (v := 0) hx hb dX12_clears_17 (by decide) ?_
  refine ct_callv (D := D) (wc := (w_c_X12_reads cI cJ cB cZ cO h r 0)) (wr := [((r 16), .inl (cI, 5, .inl (fun _ => 0))), ((r 19), .inl (cI, 30, .inl (fun _ => 0))), ((r 21), .inl (cZ, 1000, .inl (fun _ => 0)))]) (va_runV (As := [.int 6, .int 0]) (rest := []) ⟨hx, hb, hml, hown, hts⟩ (c_X12_reads l D cI cJ cB cZ cO h r 0 6 (by decide) H.size) (cwV 2 hts gX12_clears_X12_reads rfl rfl rfl (by decide +kernel) ⟨Nat.le_of_ble_eq_true rfl, Nat.le_of_ble_eq_true rfl⟩) (ct_preV (T := ct_T cI cJ cB cZ cO) (ci := 12) (q0 := 3) hE hP hD [3, 4] (by decide) rfl rfl rfl) rfl rfl hl.1 rfl (lv_room (Nat.le_of_ble_eq_true rfl)) dX12_clears_18 ⟨Nat.le_of_ble_eq_true rfl, Nat.le_of_ble_eq_true rfl⟩) hP hD hS hA [3, 4] [0, 1, 2] rfl rfl (by decide) (by decide) (fun u H locs hw hP hD hS => ?_)
  have hP : va_P D vwCl [((r 16), .inl (cI, 5, .inl (fun _ => 0))), ((r 19), .inl (cI, 30, .inl (fun _ => 0))), ((r 21), .inl (cZ, 1000, .inl (fun _ => 0))), mo h r 0 0, ((r 17), .inl (cI, 55, .inl (fun _ => 0)))] H := hP
  have hD : va_D A [((r 16), .inl (cI, 5, .inl (fun _ => 0))), ((r 19), .inl (cI, 30, .inl (fun _ => 0))), ((r 21), .inl (cZ, 1000, .inl (fun _ => 0))), mo h r 0 0, ((r 17), .inl (cI, 55, .inl (fun _ => 0)))] := hD
  refine lv_iinc (v := 7) (lv' := [(1, .int 7), (0, .ref h)]) hx hb dX12_clears_21 hl (k := 0) rfl (by decide) (by decide) rfl (fun ls hl => ?_)
  refine lv_goto (tgt := 9) hx hb dX12_clears_24 (by decide) ?_
  refine lv_iload_n hx hb dX12_clears_9 rfl (lv_at hl 0 rfl) ?_
  refine lv_bipush (v := 11) hx hb dX12_clears_10 (by decide) ?_
  refine lv_icmp_ge (tgt := 27) hx hb dX12_clears_12 (by decide) (fun hc => absurd hc (by decide)) (fun _ => ?_)
  refine lv_aload_n hx hb dX12_clears_15 rfl (lv_at hl 1 rfl) ?_
  refine lv_iload_n hx hb dX12_clears_16 rfl (lv_at hl 0 rfl) ?_
  refine lv_iconst (v := 0) hx hb dX12_clears_17 (by decide) ?_
  refine ct_callv (D := D) (wc := (w_c_X12_reads cI cJ cB cZ cO h r 0)) (wr := [((r 16), .inl (cI, 5, .inl (fun _ => 0))), ((r 19), .inl (cI, 30, .inl (fun _ => 0))), ((r 21), .inl (cZ, 1000, .inl (fun _ => 0)))]) (va_runV (As := [.int 7, .int 0]) (rest := []) ⟨hx, hb, hml, hown, hts⟩ (c_X12_reads l D cI cJ cB cZ cO h r 0 7 (by decide) H.size) (cwV 2 hts gX12_clears_X12_reads rfl rfl rfl (by decide +kernel) ⟨Nat.le_of_ble_eq_true rfl, Nat.le_of_ble_eq_true rfl⟩) (ct_preV (T := ct_T cI cJ cB cZ cO) (ci := 12) (q0 := 3) hE hP hD [3, 4] (by decide) rfl rfl rfl) rfl rfl hl.1 rfl (lv_room (Nat.le_of_ble_eq_true rfl)) dX12_clears_18 ⟨Nat.le_of_ble_eq_true rfl, Nat.le_of_ble_eq_true rfl⟩) hP hD hS hA [3, 4] [0, 1, 2] rfl rfl (by decide) (by decide) (fun u H locs hw hP hD hS => ?_)
  have hP : va_P D vwCl [((r 16), .inl (cI, 5, .inl (fun _ => 0))), ((r 19), .inl (cI, 30, .inl (fun _ => 0))), ((r 21), .inl (cZ, 1000, .inl (fun _ => 0))), mo h r 0 0, ((r 17), .inl (cI, 55, .inl (fun _ => 0)))] H := hP
  have hD : va_D A [((r 16), .inl (cI, 5, .inl (fun _ => 0))), ((r 19), .inl (cI, 30, .inl (fun _ => 0))), ((r 21), .inl (cZ, 1000, .inl (fun _ => 0))), mo h r 0 0, ((r 17), .inl (cI, 55, .inl (fun _ => 0)))] := hD
  refine lv_iinc (v := 8) (lv' := [(1, .int 8), (0, .ref h)]) hx hb dX12_clears_21 hl (k := 0) rfl (by decide) (by decide) rfl (fun ls hl => ?_)
  refine lv_goto (tgt := 9) hx hb dX12_clears_24 (by decide) ?_
  refine lv_iload_n hx hb dX12_clears_9 rfl (lv_at hl 0 rfl) ?_
  refine lv_bipush (v := 11) hx hb dX12_clears_10 (by decide) ?_
  refine lv_icmp_ge (tgt := 27) hx hb dX12_clears_12 (by decide) (fun hc => absurd hc (by decide)) (fun _ => ?_)
  refine lv_aload_n hx hb dX12_clears_15 rfl (lv_at hl 1 rfl) ?_
  refine lv_iload_n hx hb dX12_clears_16 rfl (lv_at hl 0 rfl) ?_
  refine lv_iconst (v := 0) hx hb dX12_clears_17 (by decide) ?_
  refine ct_callv (D := D) (wc := (w_c_X12_reads cI cJ cB cZ cO h r 0)) (wr := [((r 16), .inl (cI, 5, .inl (fun _ => 0))), ((r 19), .inl (cI, 30, .inl (fun _ => 0))), ((r 21), .inl (cZ, 1000, .inl (fun _ => 0)))]) (va_runV (As := [.int 8, .int 0]) (rest := []) ⟨hx, hb, hml, hown, hts⟩ (c_X12_reads l D cI cJ cB cZ cO h r 0 8 (by decide) H.size) (cwV 2 hts gX12_clears_X12_reads rfl rfl rfl (by decide +kernel) ⟨Nat.le_of_ble_eq_true rfl, Nat.le_of_ble_eq_true rfl⟩) (ct_preV (T := ct_T cI cJ cB cZ cO) (ci := 12) (q0 := 3) hE hP hD [3, 4] (by decide) rfl rfl rfl) rfl rfl hl.1 rfl (lv_room (Nat.le_of_ble_eq_true rfl)) dX12_clears_18 ⟨Nat.le_of_ble_eq_true rfl, Nat.le_of_ble_eq_true rfl⟩) hP hD hS hA [3, 4] [0, 1, 2] rfl rfl (by decide) (by decide) (fun u H locs hw hP hD hS => ?_)
  have hP : va_P D vwCl [((r 16), .inl (cI, 5, .inl (fun _ => 0))), ((r 19), .inl (cI, 30, .inl (fun _ => 0))), ((r 21), .inl (cZ, 1000, .inl (fun _ => 0))), mo h r 0 0, ((r 17), .inl (cI, 55, .inl (fun _ => 0)))] H := hP
  have hD : va_D A [((r 16), .inl (cI, 5, .inl (fun _ => 0))), ((r 19), .inl (cI, 30, .inl (fun _ => 0))), ((r 21), .inl (cZ, 1000, .inl (fun _ => 0))), mo h r 0 0, ((r 17), .inl (cI, 55, .inl (fun _ => 0)))] := hD
  refine lv_iinc (v := 9) (lv' := [(1, .int 9), (0, .ref h)]) hx hb dX12_clears_21 hl (k := 0) rfl (by decide) (by decide) rfl (fun ls hl => ?_)
  refine lv_goto (tgt := 9) hx hb dX12_clears_24 (by decide) ?_
  refine lv_iload_n hx hb dX12_clears_9 rfl (lv_at hl 0 rfl) ?_
  refine lv_bipush (v := 11) hx hb dX12_clears_10 (by decide) ?_
  refine lv_icmp_ge (tgt := 27) hx hb dX12_clears_12 (by decide) (fun hc => absurd hc (by decide)) (fun _ => ?_)
  refine lv_aload_n hx hb dX12_clears_15 rfl (lv_at hl 1 rfl) ?_
  refine lv_iload_n hx hb dX12_clears_16 rfl (lv_at hl 0 rfl) ?_
  refine lv_iconst (v := 0) hx hb dX12_clears_17 (by decide) ?_
  refine ct_callv (D := D) (wc := (w_c_X12_reads cI cJ cB cZ cO h r 0)) (wr := [((r 16), .inl (cI, 5, .inl (fun _ => 0))), ((r 19), .inl (cI, 30, .inl (fun _ => 0))), ((r 21), .inl (cZ, 1000, .inl (fun _ => 0)))]) (va_runV (As := [.int 9, .int 0]) (rest := []) ⟨hx, hb, hml, hown, hts⟩ (c_X12_reads l D cI cJ cB cZ cO h r 0 9 (by decide) H.size) (cwV 2 hts gX12_clears_X12_reads rfl rfl rfl (by decide +kernel) ⟨Nat.le_of_ble_eq_true rfl, Nat.le_of_ble_eq_true rfl⟩) (ct_preV (T := ct_T cI cJ cB cZ cO) (ci := 12) (q0 := 3) hE hP hD [3, 4] (by decide) rfl rfl rfl) rfl rfl hl.1 rfl (lv_room (Nat.le_of_ble_eq_true rfl)) dX12_clears_18 ⟨Nat.le_of_ble_eq_true rfl, Nat.le_of_ble_eq_true rfl⟩) hP hD hS hA [3, 4] [0, 1, 2] rfl rfl (by decide) (by decide) (fun u H locs hw hP hD hS => ?_)
  have hP : va_P D vwCl [((r 16), .inl (cI, 5, .inl (fun _ => 0))), ((r 19), .inl (cI, 30, .inl (fun _ => 0))), ((r 21), .inl (cZ, 1000, .inl (fun _ => 0))), mo h r 0 0, ((r 17), .inl (cI, 55, .inl (fun _ => 0)))] H := hP
  have hD : va_D A [((r 16), .inl (cI, 5, .inl (fun _ => 0))), ((r 19), .inl (cI, 30, .inl (fun _ => 0))), ((r 21), .inl (cZ, 1000, .inl (fun _ => 0))), mo h r 0 0, ((r 17), .inl (cI, 55, .inl (fun _ => 0)))] := hD
  refine lv_iinc (v := 10) (lv' := [(1, .int 10), (0, .ref h)]) hx hb dX12_clears_21 hl (k := 0) rfl (by decide) (by decide) rfl (fun ls hl => ?_)
  refine lv_goto (tgt := 9) hx hb dX12_clears_24 (by decide) ?_
  refine lv_iload_n hx hb dX12_clears_9 rfl (lv_at hl 0 rfl) ?_
  refine lv_bipush (v := 11) hx hb dX12_clears_10 (by decide) ?_
  refine lv_icmp_ge (tgt := 27) hx hb dX12_clears_12 (by decide) (fun hc => absurd hc (by decide)) (fun _ => ?_)
  refine lv_aload_n hx hb dX12_clears_15 rfl (lv_at hl 1 rfl) ?_
  refine lv_iload_n hx hb dX12_clears_16 rfl (lv_at hl 0 rfl) ?_
  refine lv_iconst (v := 0) hx hb dX12_clears_17 (by decide) ?_
  refine ct_callv (D := D) (wc := (w_c_X12_reads cI cJ cB cZ cO h r 0)) (wr := [((r 16), .inl (cI, 5, .inl (fun _ => 0))), ((r 19), .inl (cI, 30, .inl (fun _ => 0))), ((r 21), .inl (cZ, 1000, .inl (fun _ => 0)))]) (va_runV (As := [.int 10, .int 0]) (rest := []) ⟨hx, hb, hml, hown, hts⟩ (c_X12_reads l D cI cJ cB cZ cO h r 0 10 (by decide) H.size) (cwV 2 hts gX12_clears_X12_reads rfl rfl rfl (by decide +kernel) ⟨Nat.le_of_ble_eq_true rfl, Nat.le_of_ble_eq_true rfl⟩) (ct_preV (T := ct_T cI cJ cB cZ cO) (ci := 12) (q0 := 3) hE hP hD [3, 4] (by decide) rfl rfl rfl) rfl rfl hl.1 rfl (lv_room (Nat.le_of_ble_eq_true rfl)) dX12_clears_18 ⟨Nat.le_of_ble_eq_true rfl, Nat.le_of_ble_eq_true rfl⟩) hP hD hS hA [3, 4] [0, 1, 2] rfl rfl (by decide) (by decide) (fun u H locs hw hP hD hS => ?_)
  have hP : va_P D vwCl [((r 16), .inl (cI, 5, .inl (fun _ => 0))), ((r 19), .inl (cI, 30, .inl (fun _ => 0))), ((r 21), .inl (cZ, 1000, .inl (fun _ => 0))), mo h r 0 0, ((r 17), .inl (cI, 55, .inl (fun _ => 0)))] H := hP
  have hD : va_D A [((r 16), .inl (cI, 5, .inl (fun _ => 0))), ((r 19), .inl (cI, 30, .inl (fun _ => 0))), ((r 21), .inl (cZ, 1000, .inl (fun _ => 0))), mo h r 0 0, ((r 17), .inl (cI, 55, .inl (fun _ => 0)))] := hD
  refine lv_iinc (v := 11) (lv' := [(1, .int 11), (0, .ref h)]) hx hb dX12_clears_21 hl (k := 0) rfl (by decide) (by decide) rfl (fun ls hl => ?_)
  refine lv_goto (tgt := 9) hx hb dX12_clears_24 (by decide) ?_
  refine lv_iload_n hx hb dX12_clears_9 rfl (lv_at hl 0 rfl) ?_
  refine lv_bipush (v := 11) hx hb dX12_clears_10 (by decide) ?_
  refine lv_icmp_ge (tgt := 27) hx hb dX12_clears_12 (by decide) (fun _ => ?_) (fun hc => absurd hc (by decide))
  refine lv_iconst (v := 0) hx hb dX12_clears_27 (by decide) ?_
  refine lv_istore_n (lv' := [(1, .int 0), (0, .ref h)]) hx hb dX12_clears_28 rfl hl (by decide) rfl (fun ls hl => ?_)
  refine lv_iload_n hx hb dX12_clears_29 rfl (lv_at hl 0 rfl) ?_
  refine lv_bipush (v := 6) hx hb dX12_clears_30 (by decide) ?_
  refine lv_icmp_ge (tgt := 52) hx hb dX12_clears_32 (by decide) (fun hc => absurd hc (by decide)) (fun _ => ?_)
  refine lv_aload_n hx hb dX12_clears_35 rfl (lv_at hl 1 rfl) ?_
  refine va_get (D := D) (ci := 12) (v := .ref (r 19)) (C := RX12) (T := TX12) (N := 45) hx hb hts hi12 hown hK hP 3 rfl rfl 19 (by decide) (hts (.fieldLink RX12 40 "OverHillModel" "meets" "[I") (by decide +kernel)) (fun _ h9 => h9) rfl dX12_clears_36 ?_
  refine lv_bipush (v := 24) hx hb dX12_clears_39 (by decide) ?_
  refine lv_iload_n hx hb dX12_clears_41 rfl (lv_at hl 0 rfl) ?_
  refine lv_iadd hx hb dX12_clears_42 ?_
  refine lv_topi (fun z443 ez443 => ?_)
  obtain rfl : z443 = 24 := ez443.trans (by decide)
  refine lv_bipush (v := 63) hx hb dX12_clears_43 (by decide) ?_
  refine va_iast (D := D) hx hb hK hP hD hS 1 0 rfl rfl (tq_in (a := 24) (by decide) (by omega)) dX12_clears_45 (fun H locs hP hD hS => ?_)
  obtain ⟨g444, hP, hD⟩ : ∃ g444 : Nat → Int32, va_P D vwCl [((r 16), .inl (cI, 5, .inl (fun _ => 0))), ((r 19), .inl (cI, 30, .inl (g444))), ((r 21), .inl (cZ, 1000, .inl (fun _ => 0))), mo h r 0 0, ((r 17), .inl (cI, 55, .inl (fun _ => 0)))] H ∧ va_D A [((r 16), .inl (cI, 5, .inl (fun _ => 0))), ((r 19), .inl (cI, 30, .inl (g444))), ((r 21), .inl (cZ, 1000, .inl (fun _ => 0))), mo h r 0 0, ((r 17), .inl (cI, 55, .inl (fun _ => 0)))] := ⟨_, hP, hD⟩
  refine lv_iinc (v := 1) (lv' := [(1, .int 1), (0, .ref h)]) hx hb dX12_clears_46 hl (k := 0) rfl (by decide) (by decide) rfl (fun ls hl => ?_)
  refine lv_goto (tgt := 29) hx hb dX12_clears_49 (by decide) ?_
  refine lv_iload_n hx hb dX12_clears_29 rfl (lv_at hl 0 rfl) ?_
  refine lv_bipush (v := 6) hx hb dX12_clears_30 (by decide) ?_
  refine lv_icmp_ge (tgt := 52) hx hb dX12_clears_32 (by decide) (fun hc => absurd hc (by decide)) (fun _ => ?_)
  refine lv_aload_n hx hb dX12_clears_35 rfl (lv_at hl 1 rfl) ?_
  refine va_get (D := D) (ci := 12) (v := .ref (r 19)) (C := RX12) (T := TX12) (N := 45) hx hb hts hi12 hown hK hP 3 rfl rfl 19 (by decide) (hts (.fieldLink RX12 40 "OverHillModel" "meets" "[I") (by decide +kernel)) (fun _ h9 => h9) rfl dX12_clears_36 ?_
  refine lv_bipush (v := 24) hx hb dX12_clears_39 (by decide) ?_
  refine lv_iload_n hx hb dX12_clears_41 rfl (lv_at hl 0 rfl) ?_
  refine lv_iadd hx hb dX12_clears_42 ?_
  refine lv_topi (fun z445 ez445 => ?_)
  obtain rfl : z445 = 25 := ez445.trans (by decide)
  refine lv_bipush (v := 63) hx hb dX12_clears_43 (by decide) ?_
  refine va_iast (D := D) hx hb hK hP hD hS 1 0 rfl rfl (tq_in (a := 25) (by decide) (by omega)) dX12_clears_45 (fun H locs hP hD hS => ?_)
  obtain ⟨g446, hP, hD⟩ : ∃ g446 : Nat → Int32, va_P D vwCl [((r 16), .inl (cI, 5, .inl (fun _ => 0))), ((r 19), .inl (cI, 30, .inl (g446))), ((r 21), .inl (cZ, 1000, .inl (fun _ => 0))), mo h r 0 0, ((r 17), .inl (cI, 55, .inl (fun _ => 0)))] H ∧ va_D A [((r 16), .inl (cI, 5, .inl (fun _ => 0))), ((r 19), .inl (cI, 30, .inl (g446))), ((r 21), .inl (cZ, 1000, .inl (fun _ => 0))), mo h r 0 0, ((r 17), .inl (cI, 55, .inl (fun _ => 0)))] := ⟨_, hP, hD⟩
  refine lv_iinc (v := 2) (lv' := [(1, .int 2), (0, .ref h)]) hx hb dX12_clears_46 hl (k := 0) rfl (by decide) (by decide) rfl (fun ls hl => ?_)
  refine lv_goto (tgt := 29) hx hb dX12_clears_49 (by decide) ?_
  refine lv_iload_n hx hb dX12_clears_29 rfl (lv_at hl 0 rfl) ?_
  refine lv_bipush (v := 6) hx hb dX12_clears_30 (by decide) ?_
  refine lv_icmp_ge (tgt := 52) hx hb dX12_clears_32 (by decide) (fun hc => absurd hc (by decide)) (fun _ => ?_)
  refine lv_aload_n hx hb dX12_clears_35 rfl (lv_at hl 1 rfl) ?_
  refine va_get (D := D) (ci := 12) (v := .ref (r 19)) (C := RX12) (T := TX12) (N := 45) hx hb hts hi12 hown hK hP 3 rfl rfl 19 (by decide) (hts (.fieldLink RX12 40 "OverHillModel" "meets" "[I") (by decide +kernel)) (fun _ h9 => h9) rfl dX12_clears_36 ?_
  refine lv_bipush (v := 24) hx hb dX12_clears_39 (by decide) ?_
  refine lv_iload_n hx hb dX12_clears_41 rfl (lv_at hl 0 rfl) ?_
  refine lv_iadd hx hb dX12_clears_42 ?_
  refine lv_topi (fun z447 ez447 => ?_)
  obtain rfl : z447 = 26 := ez447.trans (by decide)
  refine lv_bipush (v := 63) hx hb dX12_clears_43 (by decide) ?_
  refine va_iast (D := D) hx hb hK hP hD hS 1 0 rfl rfl (tq_in (a := 26) (by decide) (by omega)) dX12_clears_45 (fun H locs hP hD hS => ?_)
  obtain ⟨g448, hP, hD⟩ : ∃ g448 : Nat → Int32, va_P D vwCl [((r 16), .inl (cI, 5, .inl (fun _ => 0))), ((r 19), .inl (cI, 30, .inl (g448))), ((r 21), .inl (cZ, 1000, .inl (fun _ => 0))), mo h r 0 0, ((r 17), .inl (cI, 55, .inl (fun _ => 0)))] H ∧ va_D A [((r 16), .inl (cI, 5, .inl (fun _ => 0))), ((r 19), .inl (cI, 30, .inl (g448))), ((r 21), .inl (cZ, 1000, .inl (fun _ => 0))), mo h r 0 0, ((r 17), .inl (cI, 55, .inl (fun _ => 0)))] := ⟨_, hP, hD⟩
  refine lv_iinc (v := 3) (lv' := [(1, .int 3), (0, .ref h)]) hx hb dX12_clears_46 hl (k := 0) rfl (by decide) (by decide) rfl (fun ls hl => ?_)
  refine lv_goto (tgt := 29) hx hb dX12_clears_49 (by decide) ?_
  refine lv_iload_n hx hb dX12_clears_29 rfl (lv_at hl 0 rfl) ?_
  refine lv_bipush (v := 6) hx hb dX12_clears_30 (by decide) ?_
  refine lv_icmp_ge (tgt := 52) hx hb dX12_clears_32 (by decide) (fun hc => absurd hc (by decide)) (fun _ => ?_)
  refine lv_aload_n hx hb dX12_clears_35 rfl (lv_at hl 1 rfl) ?_
  refine va_get (D := D) (ci := 12) (v := .ref (r 19)) (C := RX12) (T := TX12) (N := 45) hx hb hts hi12 hown hK hP 3 rfl rfl 19 (by decide) (hts (.fieldLink RX12 40 "OverHillModel" "meets" "[I") (by decide +kernel)) (fun _ h9 => h9) rfl dX12_clears_36 ?_
  refine lv_bipush (v := 24) hx hb dX12_clears_39 (by decide) ?_
  refine lv_iload_n hx hb dX12_clears_41 rfl (lv_at hl 0 rfl) ?_
  refine lv_iadd hx hb dX12_clears_42 ?_
  refine lv_topi (fun z449 ez449 => ?_)
  obtain rfl : z449 = 27 := ez449.trans (by decide)
  refine lv_bipush (v := 63) hx hb dX12_clears_43 (by decide) ?_
  refine va_iast (D := D) hx hb hK hP hD hS 1 0 rfl rfl (tq_in (a := 27) (by decide) (by omega)) dX12_clears_45 (fun H locs hP hD hS => ?_)
  obtain ⟨g450, hP, hD⟩ : ∃ g450 : Nat → Int32, va_P D vwCl [((r 16), .inl (cI, 5, .inl (fun _ => 0))), ((r 19), .inl (cI, 30, .inl (g450))), ((r 21), .inl (cZ, 1000, .inl (fun _ => 0))), mo h r 0 0, ((r 17), .inl (cI, 55, .inl (fun _ => 0)))] H ∧ va_D A [((r 16), .inl (cI, 5, .inl (fun _ => 0))), ((r 19), .inl (cI, 30, .inl (g450))), ((r 21), .inl (cZ, 1000, .inl (fun _ => 0))), mo h r 0 0, ((r 17), .inl (cI, 55, .inl (fun _ => 0)))] := ⟨_, hP, hD⟩
  refine lv_iinc (v := 4) (lv' := [(1, .int 4), (0, .ref h)]) hx hb dX12_clears_46 hl (k := 0) rfl (by decide) (by decide) rfl (fun ls hl => ?_)
  refine lv_goto (tgt := 29) hx hb dX12_clears_49 (by decide) ?_
  refine lv_iload_n hx hb dX12_clears_29 rfl (lv_at hl 0 rfl) ?_
  refine lv_bipush (v := 6) hx hb dX12_clears_30 (by decide) ?_
  refine lv_icmp_ge (tgt := 52) hx hb dX12_clears_32 (by decide) (fun hc => absurd hc (by decide)) (fun _ => ?_)
  refine lv_aload_n hx hb dX12_clears_35 rfl (lv_at hl 1 rfl) ?_
  refine va_get (D := D) (ci := 12) (v := .ref (r 19)) (C := RX12) (T := TX12) (N := 45) hx hb hts hi12 hown hK hP 3 rfl rfl 19 (by decide) (hts (.fieldLink RX12 40 "OverHillModel" "meets" "[I") (by decide +kernel)) (fun _ h9 => h9) rfl dX12_clears_36 ?_
  refine lv_bipush (v := 24) hx hb dX12_clears_39 (by decide) ?_
  refine lv_iload_n hx hb dX12_clears_41 rfl (lv_at hl 0 rfl) ?_
  refine lv_iadd hx hb dX12_clears_42 ?_
  refine lv_topi (fun z451 ez451 => ?_)
  obtain rfl : z451 = 28 := ez451.trans (by decide)
  refine lv_bipush (v := 63) hx hb dX12_clears_43 (by decide) ?_
  refine va_iast (D := D) hx hb hK hP hD hS 1 0 rfl rfl (tq_in (a := 28) (by decide) (by omega)) dX12_clears_45 (fun H locs hP hD hS => ?_)
  obtain ⟨g452, hP, hD⟩ : ∃ g452 : Nat → Int32, va_P D vwCl [((r 16), .inl (cI, 5, .inl (fun _ => 0))), ((r 19), .inl (cI, 30, .inl (g452))), ((r 21), .inl (cZ, 1000, .inl (fun _ => 0))), mo h r 0 0, ((r 17), .inl (cI, 55, .inl (fun _ => 0)))] H ∧ va_D A [((r 16), .inl (cI, 5, .inl (fun _ => 0))), ((r 19), .inl (cI, 30, .inl (g452))), ((r 21), .inl (cZ, 1000, .inl (fun _ => 0))), mo h r 0 0, ((r 17), .inl (cI, 55, .inl (fun _ => 0)))] := ⟨_, hP, hD⟩
  refine lv_iinc (v := 5) (lv' := [(1, .int 5), (0, .ref h)]) hx hb dX12_clears_46 hl (k := 0) rfl (by decide) (by decide) rfl (fun ls hl => ?_)
  refine lv_goto (tgt := 29) hx hb dX12_clears_49 (by decide) ?_
  refine lv_iload_n hx hb dX12_clears_29 rfl (lv_at hl 0 rfl) ?_
  refine lv_bipush (v := 6) hx hb dX12_clears_30 (by decide) ?_
  refine lv_icmp_ge (tgt := 52) hx hb dX12_clears_32 (by decide) (fun hc => absurd hc (by decide)) (fun _ => ?_)
  refine lv_aload_n hx hb dX12_clears_35 rfl (lv_at hl 1 rfl) ?_
  refine va_get (D := D) (ci := 12) (v := .ref (r 19)) (C := RX12) (T := TX12) (N := 45) hx hb hts hi12 hown hK hP 3 rfl rfl 19 (by decide) (hts (.fieldLink RX12 40 "OverHillModel" "meets" "[I") (by decide +kernel)) (fun _ h9 => h9) rfl dX12_clears_36 ?_
  refine lv_bipush (v := 24) hx hb dX12_clears_39 (by decide) ?_
  refine lv_iload_n hx hb dX12_clears_41 rfl (lv_at hl 0 rfl) ?_
  refine lv_iadd hx hb dX12_clears_42 ?_
  refine lv_topi (fun z453 ez453 => ?_)
  obtain rfl : z453 = 29 := ez453.trans (by decide)
  refine lv_bipush (v := 63) hx hb dX12_clears_43 (by decide) ?_
  refine va_iast (D := D) hx hb hK hP hD hS 1 0 rfl rfl (tq_in (a := 29) (by decide) (by omega)) dX12_clears_45 (fun H locs hP hD hS => ?_)
  obtain ⟨g454, hP, hD⟩ : ∃ g454 : Nat → Int32, va_P D vwCl [((r 16), .inl (cI, 5, .inl (fun _ => 0))), ((r 19), .inl (cI, 30, .inl (g454))), ((r 21), .inl (cZ, 1000, .inl (fun _ => 0))), mo h r 0 0, ((r 17), .inl (cI, 55, .inl (fun _ => 0)))] H ∧ va_D A [((r 16), .inl (cI, 5, .inl (fun _ => 0))), ((r 19), .inl (cI, 30, .inl (g454))), ((r 21), .inl (cZ, 1000, .inl (fun _ => 0))), mo h r 0 0, ((r 17), .inl (cI, 55, .inl (fun _ => 0)))] := ⟨_, hP, hD⟩
  refine lv_iinc (v := 6) (lv' := [(1, .int 6), (0, .ref h)]) hx hb dX12_clears_46 hl (k := 0) rfl (by decide) (by decide) rfl (fun ls hl => ?_)
  refine lv_goto (tgt := 29) hx hb dX12_clears_49 (by decide) ?_
  refine lv_iload_n hx hb dX12_clears_29 rfl (lv_at hl 0 rfl) ?_
  refine lv_bipush (v := 6) hx hb dX12_clears_30 (by decide) ?_
  refine lv_icmp_ge (tgt := 52) hx hb dX12_clears_32 (by decide) (fun _ => ?_) (fun hc => absurd hc (by decide))
  refine lv_iconst (v := 0) hx hb dX12_clears_52 (by decide) ?_
  refine lv_istore_n (lv' := [(1, .int 0), (0, .ref h)]) hx hb dX12_clears_53 rfl hl (by decide) rfl (fun ls hl => ?_)
  refine lp_X12_clears_54 D cI cJ cB cZ cO h r g454  hx hb hown hts hE (fun  H locs ls hP hD hS hl => ?_) 200 0  _ _ _ (by omega) hP hD hS (lv_sub hl [0, 1] rfl)
  have hP9 := hP.sub (ws' := [mo h r 0 0, ((r 16), .inl (cI, 5, .inl (fun _ => 0))), ((r 17), .inl (cI, 55, .inl (fun _ => 0))), ((r 19), .inl (cI, 30, .inl (g454))), ((r 21), .inl (cZ, 1000, .inl (fun _ => 0)))]) [3, 0, 4, 1, 2] rfl
  have hD9 := hD.sub (ws' := [mo h r 0 0, ((r 16), .inl (cI, 5, .inl (fun _ => 0))), ((r 17), .inl (cI, 55, .inl (fun _ => 0))), ((r 19), .inl (cI, 30, .inl (g454))), ((r 21), .inl (cZ, 1000, .inl (fun _ => 0)))]) [3, 0, 4, 1, 2] (by decide) rfl
  exact W.vret hx hb hr (fun t ht hW => ⟨⟨g454, rfl, trivial, by rw [ht]; exact hP9, hD9⟩, hS.F ht⟩) hS.2.2 dX12_clears_78
set_option maxHeartbeats 4000000 in
set_option maxRecDepth 100000 in
/-- the loop of X12_copyRow at 3 -/
theorem lp_X12_copyRow_3_1z {p : Program} {l : Launch} {e : Env} {Rm : Room} {s : State} {m : MethodId} {args : Array Value} {below : List Frame} {meth : Method} {c : Code} {cells slots : Nat} {Q : State → Prop} {A : Nat → Prop} (D : va_G) (cI cJ cB cZ cO : ClassId) (a : Nat) (x3 : Int32) (x4 : Int32) (h_x3 : 0 ≤ x3.toInt ∧ x3.toInt < 5) (h_x4 : 0 ≤ x4.toInt ∧ x4.toInt < 5) (hx : p.tables.exec = Jvm.exec) (hb : c.code = cX12_copyRow) (hown : s.vm.findClass RX12 = some m.cls) (hts : ∀ w ∈ wsX12_copyRow, w.before args s = true) (hE : ct_E D (ct_T cI cJ cB cZ cO) s)
    (hk : ∀  (H : Heap) (locs : List Loc) (ls : Array Slot), va_P D vwCl [(a, .inl (cI, 5, .inl (fun _ => 0)))] H → va_D A [(a, .inl (cI, 5, .inl (fun _ => 0)))] → va_S A s.heap H locs → lv_has ls 5 [(4, .int (nI 1)), (0, .ref a), (1, .int 1), (2, .int x3), (3, .int x4)] → W p l e Rm s m args below meth c H locs cells slots Q (F0 m 31 ls [])) :
    ∀ (fu i : Nat)  (H : Heap) (locs : List Loc) (ls : Array Slot), i + fu = 1 → va_P D vwCl [(a, .inl (cI, 5, .inl (fun _ => 0)))] H → va_D A [(a, .inl (cI, 5, .inl (fun _ => 0)))] → va_S A s.heap H locs → lv_has ls 5 [(4, .int (nI i)), (0, .ref a), (1, .int 1), (2, .int x3), (3, .int x4)] → W p l e Rm s m args below meth c H locs cells slots Q (F0 m 3 ls []) := by
  have hK := hE.1
  intro fu
  induction fu with
  | zero =>
    intro i  H locs ls hin hP hD hS hl
    obtain rfl : i = 1 := by omega
    refine lv_iload hx hb dX12_copyRow_3 (lv_at hl 0 rfl) ?_
    refine lv_iload_n hx hb dX12_copyRow_5 rfl (lv_at hl 2 rfl) ?_
    refine lv_icmp_ge (tgt := 31) hx hb dX12_copyRow_6 (by decide) (fun _ => ?_) (fun hc => absurd hc (by decide))
    exact hk  H locs ls hP hD hS (lv_sub hl [0, 1, 2, 3, 4] rfl)
  | succ fu ih =>
    intro i  H locs ls hin hP hD hS hl
    refine lv_iload hx hb dX12_copyRow_3 (lv_at hl 0 rfl) ?_
    refine lv_iload_n hx hb dX12_copyRow_5 rfl (lv_at hl 2 rfl) ?_
    refine lv_icmp_ge (tgt := 31) hx hb dX12_copyRow_6 (by decide) (fun hc => absurd hc (nI_ge (a := i) (b := 1) (by omega) (by omega))) (fun _ => ?_)
    refine lv_aload_n hx hb dX12_copyRow_9 rfl (lv_at hl 1 rfl) ?_
    refine lv_iload_n hx hb dX12_copyRow_10 rfl (lv_at hl 2 rfl) ?_
    refine lv_iload_n hx hb dX12_copyRow_11 rfl (lv_at hl 4 rfl) ?_
    refine lv_imul hx hb dX12_copyRow_12 ?_
    refine lv_topi (fun z456 ez456 => ?_)
    have fz456 : z456.toInt = (1 * x4.toInt) := by rw [ez456]; exact tq_mul (by decide) rfl (by omega)
    refine lv_iload hx hb dX12_copyRow_13 (lv_at hl 0 rfl) ?_
    refine lv_iadd hx hb dX12_copyRow_15 ?_
    refine lv_topi (fun z457 ez457 => ?_)
    have fz457 : z457.toInt = ((1 * x4.toInt) + (i : Int)) := by rw [ez457]; exact tq_add fz456 (nI_toInt (by omega)) (by omega)
    refine lv_aload_n hx hb dX12_copyRow_16 rfl (lv_at hl 1 rfl) ?_
    refine lv_iload_n hx hb dX12_copyRow_17 rfl (lv_at hl 2 rfl) ?_
    refine lv_iload_n hx hb dX12_copyRow_18 rfl (lv_at hl 3 rfl) ?_
    refine lv_imul hx hb dX12_copyRow_19 ?_
    refine lv_topi (fun z458 ez458 => ?_)
    have fz458 : z458.toInt = (1 * x3.toInt) := by rw [ez458]; exact tq_mul (by decide) rfl (by omega)
    refine lv_iload hx hb dX12_copyRow_20 (lv_at hl 0 rfl) ?_
    refine lv_iadd hx hb dX12_copyRow_22 ?_
    refine lv_topi (fun z459 ez459 => ?_)
    have fz459 : z459.toInt = ((1 * x3.toInt) + (i : Int)) := by rw [ez459]; exact tq_add fz458 (nI_toInt (by omega)) (by omega)
    refine va_iald (D := D) hx hb hK hP 0 0 rfl rfl (tq_in fz459 (by omega)) dX12_copyRow_23 ?_
    refine lv_topi (fun z460 ez460 => ?_)
    obtain rfl : z460 = 0 := ez460
    refine va_iast (D := D) hx hb hK hP hD hS 0 0 rfl rfl (tq_in fz457 (by omega)) dX12_copyRow_24 (fun H locs hP hD hS => ?_)
    rw [ct_upd0] at hP hD
    have hP : va_P D vwCl [(a, .inl (cI, 5, .inl (fun _ => 0)))] H := hP
    have hD : va_D A [(a, .inl (cI, 5, .inl (fun _ => 0)))] := hD
    refine lv_iinc (v := (nI (i + 1))) (lv' := [(4, .int (nI (i + 1))), (0, .ref a), (1, .int 1), (2, .int x3), (3, .int x4)]) hx hb dX12_copyRow_25 hl (k := 0) rfl (nI_1 i) (by decide) rfl (fun ls hl => ?_)
    refine lv_goto (tgt := 3) hx hb dX12_copyRow_28 (by decide) ?_
    exact ih (i + 1)  H locs ls (by omega) hP hD hS (lv_sub hl [0, 1, 2, 3, 4] rfl)
abbrev w_c_X12_copyRow_1z (cI cJ cB cZ cO : ClassId) (a : Nat) : va_W := [(a, .inl (cI, 5, .inl (fun _ => 0)))]
set_option maxHeartbeats 4000000 in
set_option maxRecDepth 100000 in
/-- a row of 1 copied -/
theorem c_X12_copyRow_1z (l : Launch) (D : va_G) (cI cJ cB cZ cO : ClassId) (a : Nat) (x3 : Int32) (x4 : Int32) (h_x3 : 0 ≤ x3.toInt ∧ x3.toInt < 5) (h_x4 : 0 ≤ x4.toInt ∧ x4.toInt < 5) (sz : Nat) : Met l yX12_copyRow wsX12_copyRow ({ frames := 0, cells := 0, slots := 0, locals := 0 }) (va_Pc [.ref a, .int 1, .int x3, .int x4] (ct_P D (ct_T cI cJ cB cZ cO) (w_c_X12_copyRow_1z cI cJ cB cZ cO a) sz)) (va_Qv (fun (u : Unit) => True) (fun (u : Unit) t => ct_Q D (va_A (w_c_X12_copyRow_1z cI cJ cB cZ cO a) sz) [(a, .inl (cI, 5, .inl (fun _ => 0)))] t) (va_A (w_c_X12_copyRow_1z cI cJ cB cZ cO a) sz)) 0 0 (va_A (w_c_X12_copyRow_1z cI cJ cB cZ cO a) sz) := by
  refine Met.ofW (cc := cX12_copyRow) (maxL := 5) (ret := none) (by decide) rfl ?_
  intro p e s m args below meth c s₁ B hml hv
  obtain ⟨rfl, hsz, hP, hE, hD0⟩ := hv
  have hx := B.exec
  have hb := B.bytes
  have hr := B.returns
  have hts := atoms_spec (ws := wsX12_copyRow) B.pre
  have hown : s.vm.findClass RX12 = some m.cls := findClass_of_methodNamed B.named
  have hlocks := B.notSynchronized
  have hK := hE.1
  subst hsz
  have hD := hD0.self (sz := s.heap.size)
  generalize hAe : va_A (w_c_X12_copyRow_1z cI cJ cB cZ cO a) s.heap.size = A at hD ⊢
  have hA : ∀ q : Nat, s.heap.size ≤ q → A q := fun q h => by rw [← hAe]; exact Or.inr h
  have hS : va_S A s.heap s.heap [] := va_S.rf
  have hP : va_P D vwCl [(a, .inl (cI, 5, .inl (fun _ => 0)))] s.heap := hP
  have hD : va_D A [(a, .inl (cI, 5, .inl (fun _ => 0)))] := hD
  have hl := lv_entry ([.ref a, .int 1, .int x3, .int x4]) (n := 5) (Nat.le_of_ble_eq_true rfl)
  rw [lg_entry_eq]
  generalize (lg_sl ([.ref a, .int 1, .int x3, .int x4]) ++ List.replicate (5 - (lg_sl ([.ref a, .int 1, .int x3, .int x4])).length) Slot.unset).toArray = ls at hl ⊢
  have hl : lv_has ls 5 [(0, .ref a), (1, .int 1), (2, .int x3), (3, .int x4)] := hl
  obtain ⟨H, hHe⟩ : ∃ H : Heap, H = s.heap := ⟨_, rfl⟩
  rw [← hHe] at hP
  have hS : va_S A s.heap H [] := by rw [hHe]; exact va_S.rf
  refine ct_start hHe ?_
  refine lv_iconst (v := 0) hx hb dX12_copyRow_0 (by decide) ?_
  refine lv_istore (lv' := [(4, .int 0), (0, .ref a), (1, .int 1), (2, .int x3), (3, .int x4)]) hx hb dX12_copyRow_1 hl (by decide) rfl (fun ls hl => ?_)
  refine lp_X12_copyRow_3_1z D cI cJ cB cZ cO a x3 x4 h_x3 h_x4 hx hb hown hts hE (fun  H locs ls hP hD hS hl => ?_) 1 0  _ _ _ (by omega) hP hD hS (lv_sub hl [0, 1, 2, 3, 4] rfl)
  have hP9 := hP.sub (ws' := [(a, .inl (cI, 5, .inl (fun _ => 0)))]) [0] rfl
  have hD9 := hD.sub (ws' := [(a, .inl (cI, 5, .inl (fun _ => 0)))]) [0] (by decide) rfl
  exact W.vret hx hb hr (fun t ht hW => ⟨⟨(), rfl, trivial, by rw [ht]; exact hP9, hD9⟩, hS.F ht⟩) hS.2.2 dX12_copyRow_31
set_option maxHeartbeats 4000000 in
set_option maxRecDepth 100000 in
/-- the loop of X12_copyRow at 3 -/
theorem lp_X12_copyRow_3_11z {p : Program} {l : Launch} {e : Env} {Rm : Room} {s : State} {m : MethodId} {args : Array Value} {below : List Frame} {meth : Method} {c : Code} {cells slots : Nat} {Q : State → Prop} {A : Nat → Prop} (D : va_G) (cI cJ cB cZ cO : ClassId) (a : Nat) (x3 : Int32) (x4 : Int32) (h_x3 : 0 ≤ x3.toInt ∧ x3.toInt < 5) (h_x4 : 0 ≤ x4.toInt ∧ x4.toInt < 5) (hx : p.tables.exec = Jvm.exec) (hb : c.code = cX12_copyRow) (hown : s.vm.findClass RX12 = some m.cls) (hts : ∀ w ∈ wsX12_copyRow, w.before args s = true) (hE : ct_E D (ct_T cI cJ cB cZ cO) s)
    (hk : ∀  (H : Heap) (locs : List Loc) (ls : Array Slot), va_P D vwCl [(a, .inl (cI, 55, .inl (fun _ => 0)))] H → va_D A [(a, .inl (cI, 55, .inl (fun _ => 0)))] → va_S A s.heap H locs → lv_has ls 5 [(4, .int (nI 11)), (0, .ref a), (1, .int 11), (2, .int x3), (3, .int x4)] → W p l e Rm s m args below meth c H locs cells slots Q (F0 m 31 ls [])) :
    ∀ (fu i : Nat)  (H : Heap) (locs : List Loc) (ls : Array Slot), i + fu = 11 → va_P D vwCl [(a, .inl (cI, 55, .inl (fun _ => 0)))] H → va_D A [(a, .inl (cI, 55, .inl (fun _ => 0)))] → va_S A s.heap H locs → lv_has ls 5 [(4, .int (nI i)), (0, .ref a), (1, .int 11), (2, .int x3), (3, .int x4)] → W p l e Rm s m args below meth c H locs cells slots Q (F0 m 3 ls []) := by
  have hK := hE.1
  intro fu
  induction fu with
  | zero =>
    intro i  H locs ls hin hP hD hS hl
    obtain rfl : i = 11 := by omega
    refine lv_iload hx hb dX12_copyRow_3 (lv_at hl 0 rfl) ?_
    refine lv_iload_n hx hb dX12_copyRow_5 rfl (lv_at hl 2 rfl) ?_
    refine lv_icmp_ge (tgt := 31) hx hb dX12_copyRow_6 (by decide) (fun _ => ?_) (fun hc => absurd hc (by decide))
    exact hk  H locs ls hP hD hS (lv_sub hl [0, 1, 2, 3, 4] rfl)
  | succ fu ih =>
    intro i  H locs ls hin hP hD hS hl
    refine lv_iload hx hb dX12_copyRow_3 (lv_at hl 0 rfl) ?_
    refine lv_iload_n hx hb dX12_copyRow_5 rfl (lv_at hl 2 rfl) ?_
    refine lv_icmp_ge (tgt := 31) hx hb dX12_copyRow_6 (by decide) (fun hc => absurd hc (nI_ge (a := i) (b := 11) (by omega) (by omega))) (fun _ => ?_)
    refine lv_aload_n hx hb dX12_copyRow_9 rfl (lv_at hl 1 rfl) ?_
    refine lv_iload_n hx hb dX12_copyRow_10 rfl (lv_at hl 2 rfl) ?_
    refine lv_iload_n hx hb dX12_copyRow_11 rfl (lv_at hl 4 rfl) ?_
    refine lv_imul hx hb dX12_copyRow_12 ?_
    refine lv_topi (fun z461 ez461 => ?_)
    have fz461 : z461.toInt = (11 * x4.toInt) := by rw [ez461]; exact tq_mul (by decide) rfl (by omega)
    refine lv_iload hx hb dX12_copyRow_13 (lv_at hl 0 rfl) ?_
    refine lv_iadd hx hb dX12_copyRow_15 ?_
    refine lv_topi (fun z462 ez462 => ?_)
    have fz462 : z462.toInt = ((11 * x4.toInt) + (i : Int)) := by rw [ez462]; exact tq_add fz461 (nI_toInt (by omega)) (by omega)
    refine lv_aload_n hx hb dX12_copyRow_16 rfl (lv_at hl 1 rfl) ?_
    refine lv_iload_n hx hb dX12_copyRow_17 rfl (lv_at hl 2 rfl) ?_
    refine lv_iload_n hx hb dX12_copyRow_18 rfl (lv_at hl 3 rfl) ?_
    refine lv_imul hx hb dX12_copyRow_19 ?_
    refine lv_topi (fun z463 ez463 => ?_)
    have fz463 : z463.toInt = (11 * x3.toInt) := by rw [ez463]; exact tq_mul (by decide) rfl (by omega)
    refine lv_iload hx hb dX12_copyRow_20 (lv_at hl 0 rfl) ?_
    refine lv_iadd hx hb dX12_copyRow_22 ?_
    refine lv_topi (fun z464 ez464 => ?_)
    have fz464 : z464.toInt = ((11 * x3.toInt) + (i : Int)) := by rw [ez464]; exact tq_add fz463 (nI_toInt (by omega)) (by omega)
    refine va_iald (D := D) hx hb hK hP 0 0 rfl rfl (tq_in fz464 (by omega)) dX12_copyRow_23 ?_
    refine lv_topi (fun z465 ez465 => ?_)
    obtain rfl : z465 = 0 := ez465
    refine va_iast (D := D) hx hb hK hP hD hS 0 0 rfl rfl (tq_in fz462 (by omega)) dX12_copyRow_24 (fun H locs hP hD hS => ?_)
    rw [ct_upd0] at hP hD
    have hP : va_P D vwCl [(a, .inl (cI, 55, .inl (fun _ => 0)))] H := hP
    have hD : va_D A [(a, .inl (cI, 55, .inl (fun _ => 0)))] := hD
    refine lv_iinc (v := (nI (i + 1))) (lv' := [(4, .int (nI (i + 1))), (0, .ref a), (1, .int 11), (2, .int x3), (3, .int x4)]) hx hb dX12_copyRow_25 hl (k := 0) rfl (nI_1 i) (by decide) rfl (fun ls hl => ?_)
    refine lv_goto (tgt := 3) hx hb dX12_copyRow_28 (by decide) ?_
    exact ih (i + 1)  H locs ls (by omega) hP hD hS (lv_sub hl [0, 1, 2, 3, 4] rfl)
abbrev w_c_X12_copyRow_11z (cI cJ cB cZ cO : ClassId) (a : Nat) : va_W := [(a, .inl (cI, 55, .inl (fun _ => 0)))]
set_option maxHeartbeats 4000000 in
set_option maxRecDepth 100000 in
/-- a row of 11 copied -/
theorem c_X12_copyRow_11z (l : Launch) (D : va_G) (cI cJ cB cZ cO : ClassId) (a : Nat) (x3 : Int32) (x4 : Int32) (h_x3 : 0 ≤ x3.toInt ∧ x3.toInt < 5) (h_x4 : 0 ≤ x4.toInt ∧ x4.toInt < 5) (sz : Nat) : Met l yX12_copyRow wsX12_copyRow ({ frames := 0, cells := 0, slots := 0, locals := 0 }) (va_Pc [.ref a, .int 11, .int x3, .int x4] (ct_P D (ct_T cI cJ cB cZ cO) (w_c_X12_copyRow_11z cI cJ cB cZ cO a) sz)) (va_Qv (fun (u : Unit) => True) (fun (u : Unit) t => ct_Q D (va_A (w_c_X12_copyRow_11z cI cJ cB cZ cO a) sz) [(a, .inl (cI, 55, .inl (fun _ => 0)))] t) (va_A (w_c_X12_copyRow_11z cI cJ cB cZ cO a) sz)) 0 0 (va_A (w_c_X12_copyRow_11z cI cJ cB cZ cO a) sz) := by
  refine Met.ofW (cc := cX12_copyRow) (maxL := 5) (ret := none) (by decide) rfl ?_
  intro p e s m args below meth c s₁ B hml hv
  obtain ⟨rfl, hsz, hP, hE, hD0⟩ := hv
  have hx := B.exec
  have hb := B.bytes
  have hr := B.returns
  have hts := atoms_spec (ws := wsX12_copyRow) B.pre
  have hown : s.vm.findClass RX12 = some m.cls := findClass_of_methodNamed B.named
  have hlocks := B.notSynchronized
  have hK := hE.1
  subst hsz
  have hD := hD0.self (sz := s.heap.size)
  generalize hAe : va_A (w_c_X12_copyRow_11z cI cJ cB cZ cO a) s.heap.size = A at hD ⊢
  have hA : ∀ q : Nat, s.heap.size ≤ q → A q := fun q h => by rw [← hAe]; exact Or.inr h
  have hS : va_S A s.heap s.heap [] := va_S.rf
  have hP : va_P D vwCl [(a, .inl (cI, 55, .inl (fun _ => 0)))] s.heap := hP
  have hD : va_D A [(a, .inl (cI, 55, .inl (fun _ => 0)))] := hD
  have hl := lv_entry ([.ref a, .int 11, .int x3, .int x4]) (n := 5) (Nat.le_of_ble_eq_true rfl)
  rw [lg_entry_eq]
  generalize (lg_sl ([.ref a, .int 11, .int x3, .int x4]) ++ List.replicate (5 - (lg_sl ([.ref a, .int 11, .int x3, .int x4])).length) Slot.unset).toArray = ls at hl ⊢
  have hl : lv_has ls 5 [(0, .ref a), (1, .int 11), (2, .int x3), (3, .int x4)] := hl
  obtain ⟨H, hHe⟩ : ∃ H : Heap, H = s.heap := ⟨_, rfl⟩
  rw [← hHe] at hP
  have hS : va_S A s.heap H [] := by rw [hHe]; exact va_S.rf
  refine ct_start hHe ?_
  refine lv_iconst (v := 0) hx hb dX12_copyRow_0 (by decide) ?_
  refine lv_istore (lv' := [(4, .int 0), (0, .ref a), (1, .int 11), (2, .int x3), (3, .int x4)]) hx hb dX12_copyRow_1 hl (by decide) rfl (fun ls hl => ?_)
  refine lp_X12_copyRow_3_11z D cI cJ cB cZ cO a x3 x4 h_x3 h_x4 hx hb hown hts hE (fun  H locs ls hP hD hS hl => ?_) 11 0  _ _ _ (by omega) hP hD hS (lv_sub hl [0, 1, 2, 3, 4] rfl)
  have hP9 := hP.sub (ws' := [(a, .inl (cI, 55, .inl (fun _ => 0)))]) [0] rfl
  have hD9 := hD.sub (ws' := [(a, .inl (cI, 55, .inl (fun _ => 0)))]) [0] (by decide) rfl
  exact W.vret hx hb hr (fun t ht hW => ⟨⟨(), rfl, trivial, by rw [ht]; exact hP9, hD9⟩, hS.F ht⟩) hS.2.2 dX12_copyRow_31
set_option maxHeartbeats 4000000 in
set_option maxRecDepth 100000 in
/-- the loop of X12_copyRow at 3 -/
theorem lp_X12_copyRow_3_24z {p : Program} {l : Launch} {e : Env} {Rm : Room} {s : State} {m : MethodId} {args : Array Value} {below : List Frame} {meth : Method} {c : Code} {cells slots : Nat} {Q : State → Prop} {A : Nat → Prop} (D : va_G) (cI cJ cB cZ cO : ClassId) (a : Nat) (x3 : Int32) (x4 : Int32) (h_x3 : 0 ≤ x3.toInt ∧ x3.toInt < 5) (h_x4 : 0 ≤ x4.toInt ∧ x4.toInt < 5) (hx : p.tables.exec = Jvm.exec) (hb : c.code = cX12_copyRow) (hown : s.vm.findClass RX12 = some m.cls) (hts : ∀ w ∈ wsX12_copyRow, w.before args s = true) (hE : ct_E D (ct_T cI cJ cB cZ cO) s)
    (hk : ∀  (H : Heap) (locs : List Loc) (ls : Array Slot), va_P D vwCl [(a, .inl (cI, 120, .inl (fun _ => 0)))] H → va_D A [(a, .inl (cI, 120, .inl (fun _ => 0)))] → va_S A s.heap H locs → lv_has ls 5 [(4, .int (nI 24)), (0, .ref a), (1, .int 24), (2, .int x3), (3, .int x4)] → W p l e Rm s m args below meth c H locs cells slots Q (F0 m 31 ls [])) :
    ∀ (fu i : Nat)  (H : Heap) (locs : List Loc) (ls : Array Slot), i + fu = 24 → va_P D vwCl [(a, .inl (cI, 120, .inl (fun _ => 0)))] H → va_D A [(a, .inl (cI, 120, .inl (fun _ => 0)))] → va_S A s.heap H locs → lv_has ls 5 [(4, .int (nI i)), (0, .ref a), (1, .int 24), (2, .int x3), (3, .int x4)] → W p l e Rm s m args below meth c H locs cells slots Q (F0 m 3 ls []) := by
  have hK := hE.1
  intro fu
  induction fu with
  | zero =>
    intro i  H locs ls hin hP hD hS hl
    obtain rfl : i = 24 := by omega
    refine lv_iload hx hb dX12_copyRow_3 (lv_at hl 0 rfl) ?_
    refine lv_iload_n hx hb dX12_copyRow_5 rfl (lv_at hl 2 rfl) ?_
    refine lv_icmp_ge (tgt := 31) hx hb dX12_copyRow_6 (by decide) (fun _ => ?_) (fun hc => absurd hc (by decide))
    exact hk  H locs ls hP hD hS (lv_sub hl [0, 1, 2, 3, 4] rfl)
  | succ fu ih =>
    intro i  H locs ls hin hP hD hS hl
    refine lv_iload hx hb dX12_copyRow_3 (lv_at hl 0 rfl) ?_
    refine lv_iload_n hx hb dX12_copyRow_5 rfl (lv_at hl 2 rfl) ?_
    refine lv_icmp_ge (tgt := 31) hx hb dX12_copyRow_6 (by decide) (fun hc => absurd hc (nI_ge (a := i) (b := 24) (by omega) (by omega))) (fun _ => ?_)
    refine lv_aload_n hx hb dX12_copyRow_9 rfl (lv_at hl 1 rfl) ?_
    refine lv_iload_n hx hb dX12_copyRow_10 rfl (lv_at hl 2 rfl) ?_
    refine lv_iload_n hx hb dX12_copyRow_11 rfl (lv_at hl 4 rfl) ?_
    refine lv_imul hx hb dX12_copyRow_12 ?_
    refine lv_topi (fun z466 ez466 => ?_)
    have fz466 : z466.toInt = (24 * x4.toInt) := by rw [ez466]; exact tq_mul (by decide) rfl (by omega)
    refine lv_iload hx hb dX12_copyRow_13 (lv_at hl 0 rfl) ?_
    refine lv_iadd hx hb dX12_copyRow_15 ?_
    refine lv_topi (fun z467 ez467 => ?_)
    have fz467 : z467.toInt = ((24 * x4.toInt) + (i : Int)) := by rw [ez467]; exact tq_add fz466 (nI_toInt (by omega)) (by omega)
    refine lv_aload_n hx hb dX12_copyRow_16 rfl (lv_at hl 1 rfl) ?_
    refine lv_iload_n hx hb dX12_copyRow_17 rfl (lv_at hl 2 rfl) ?_
    refine lv_iload_n hx hb dX12_copyRow_18 rfl (lv_at hl 3 rfl) ?_
    refine lv_imul hx hb dX12_copyRow_19 ?_
    refine lv_topi (fun z468 ez468 => ?_)
    have fz468 : z468.toInt = (24 * x3.toInt) := by rw [ez468]; exact tq_mul (by decide) rfl (by omega)
    refine lv_iload hx hb dX12_copyRow_20 (lv_at hl 0 rfl) ?_
    refine lv_iadd hx hb dX12_copyRow_22 ?_
    refine lv_topi (fun z469 ez469 => ?_)
    have fz469 : z469.toInt = ((24 * x3.toInt) + (i : Int)) := by rw [ez469]; exact tq_add fz468 (nI_toInt (by omega)) (by omega)
    refine va_iald (D := D) hx hb hK hP 0 0 rfl rfl (tq_in fz469 (by omega)) dX12_copyRow_23 ?_
    refine lv_topi (fun z470 ez470 => ?_)
    obtain rfl : z470 = 0 := ez470
    refine va_iast (D := D) hx hb hK hP hD hS 0 0 rfl rfl (tq_in fz467 (by omega)) dX12_copyRow_24 (fun H locs hP hD hS => ?_)
    rw [ct_upd0] at hP hD
    have hP : va_P D vwCl [(a, .inl (cI, 120, .inl (fun _ => 0)))] H := hP
    have hD : va_D A [(a, .inl (cI, 120, .inl (fun _ => 0)))] := hD
    refine lv_iinc (v := (nI (i + 1))) (lv' := [(4, .int (nI (i + 1))), (0, .ref a), (1, .int 24), (2, .int x3), (3, .int x4)]) hx hb dX12_copyRow_25 hl (k := 0) rfl (nI_1 i) (by decide) rfl (fun ls hl => ?_)
    refine lv_goto (tgt := 3) hx hb dX12_copyRow_28 (by decide) ?_
    exact ih (i + 1)  H locs ls (by omega) hP hD hS (lv_sub hl [0, 1, 2, 3, 4] rfl)
abbrev w_c_X12_copyRow_24z (cI cJ cB cZ cO : ClassId) (a : Nat) : va_W := [(a, .inl (cI, 120, .inl (fun _ => 0)))]
set_option maxHeartbeats 4000000 in
set_option maxRecDepth 100000 in
/-- a row of 24 copied -/
theorem c_X12_copyRow_24z (l : Launch) (D : va_G) (cI cJ cB cZ cO : ClassId) (a : Nat) (x3 : Int32) (x4 : Int32) (h_x3 : 0 ≤ x3.toInt ∧ x3.toInt < 5) (h_x4 : 0 ≤ x4.toInt ∧ x4.toInt < 5) (sz : Nat) : Met l yX12_copyRow wsX12_copyRow ({ frames := 0, cells := 0, slots := 0, locals := 0 }) (va_Pc [.ref a, .int 24, .int x3, .int x4] (ct_P D (ct_T cI cJ cB cZ cO) (w_c_X12_copyRow_24z cI cJ cB cZ cO a) sz)) (va_Qv (fun (u : Unit) => True) (fun (u : Unit) t => ct_Q D (va_A (w_c_X12_copyRow_24z cI cJ cB cZ cO a) sz) [(a, .inl (cI, 120, .inl (fun _ => 0)))] t) (va_A (w_c_X12_copyRow_24z cI cJ cB cZ cO a) sz)) 0 0 (va_A (w_c_X12_copyRow_24z cI cJ cB cZ cO a) sz) := by
  refine Met.ofW (cc := cX12_copyRow) (maxL := 5) (ret := none) (by decide) rfl ?_
  intro p e s m args below meth c s₁ B hml hv
  obtain ⟨rfl, hsz, hP, hE, hD0⟩ := hv
  have hx := B.exec
  have hb := B.bytes
  have hr := B.returns
  have hts := atoms_spec (ws := wsX12_copyRow) B.pre
  have hown : s.vm.findClass RX12 = some m.cls := findClass_of_methodNamed B.named
  have hlocks := B.notSynchronized
  have hK := hE.1
  subst hsz
  have hD := hD0.self (sz := s.heap.size)
  generalize hAe : va_A (w_c_X12_copyRow_24z cI cJ cB cZ cO a) s.heap.size = A at hD ⊢
  have hA : ∀ q : Nat, s.heap.size ≤ q → A q := fun q h => by rw [← hAe]; exact Or.inr h
  have hS : va_S A s.heap s.heap [] := va_S.rf
  have hP : va_P D vwCl [(a, .inl (cI, 120, .inl (fun _ => 0)))] s.heap := hP
  have hD : va_D A [(a, .inl (cI, 120, .inl (fun _ => 0)))] := hD
  have hl := lv_entry ([.ref a, .int 24, .int x3, .int x4]) (n := 5) (Nat.le_of_ble_eq_true rfl)
  rw [lg_entry_eq]
  generalize (lg_sl ([.ref a, .int 24, .int x3, .int x4]) ++ List.replicate (5 - (lg_sl ([.ref a, .int 24, .int x3, .int x4])).length) Slot.unset).toArray = ls at hl ⊢
  have hl : lv_has ls 5 [(0, .ref a), (1, .int 24), (2, .int x3), (3, .int x4)] := hl
  obtain ⟨H, hHe⟩ : ∃ H : Heap, H = s.heap := ⟨_, rfl⟩
  rw [← hHe] at hP
  have hS : va_S A s.heap H [] := by rw [hHe]; exact va_S.rf
  refine ct_start hHe ?_
  refine lv_iconst (v := 0) hx hb dX12_copyRow_0 (by decide) ?_
  refine lv_istore (lv' := [(4, .int 0), (0, .ref a), (1, .int 24), (2, .int x3), (3, .int x4)]) hx hb dX12_copyRow_1 hl (by decide) rfl (fun ls hl => ?_)
  refine lp_X12_copyRow_3_24z D cI cJ cB cZ cO a x3 x4 h_x3 h_x4 hx hb hown hts hE (fun  H locs ls hP hD hS hl => ?_) 24 0  _ _ _ (by omega) hP hD hS (lv_sub hl [0, 1, 2, 3, 4] rfl)
  have hP9 := hP.sub (ws' := [(a, .inl (cI, 120, .inl (fun _ => 0)))]) [0] rfl
  have hD9 := hD.sub (ws' := [(a, .inl (cI, 120, .inl (fun _ => 0)))]) [0] (by decide) rfl
  exact W.vret hx hb hr (fun t ht hW => ⟨⟨(), rfl, trivial, by rw [ht]; exact hP9, hD9⟩, hS.F ht⟩) hS.2.2 dX12_copyRow_31
set_option maxHeartbeats 4000000 in
set_option maxRecDepth 100000 in
/-- the loop of X12_copyRow at 3 -/
theorem lp_X12_copyRow_3_32z {p : Program} {l : Launch} {e : Env} {Rm : Room} {s : State} {m : MethodId} {args : Array Value} {below : List Frame} {meth : Method} {c : Code} {cells slots : Nat} {Q : State → Prop} {A : Nat → Prop} (D : va_G) (cI cJ cB cZ cO : ClassId) (a : Nat) (x3 : Int32) (x4 : Int32) (h_x3 : 0 ≤ x3.toInt ∧ x3.toInt < 5) (h_x4 : 0 ≤ x4.toInt ∧ x4.toInt < 5) (hx : p.tables.exec = Jvm.exec) (hb : c.code = cX12_copyRow) (hown : s.vm.findClass RX12 = some m.cls) (hts : ∀ w ∈ wsX12_copyRow, w.before args s = true) (hE : ct_E D (ct_T cI cJ cB cZ cO) s)
    (hk : ∀  (H : Heap) (locs : List Loc) (ls : Array Slot), va_P D vwCl [(a, .inl (cI, 160, .inl (fun _ => 0)))] H → va_D A [(a, .inl (cI, 160, .inl (fun _ => 0)))] → va_S A s.heap H locs → lv_has ls 5 [(4, .int (nI 32)), (0, .ref a), (1, .int 32), (2, .int x3), (3, .int x4)] → W p l e Rm s m args below meth c H locs cells slots Q (F0 m 31 ls [])) :
    ∀ (fu i : Nat)  (H : Heap) (locs : List Loc) (ls : Array Slot), i + fu = 32 → va_P D vwCl [(a, .inl (cI, 160, .inl (fun _ => 0)))] H → va_D A [(a, .inl (cI, 160, .inl (fun _ => 0)))] → va_S A s.heap H locs → lv_has ls 5 [(4, .int (nI i)), (0, .ref a), (1, .int 32), (2, .int x3), (3, .int x4)] → W p l e Rm s m args below meth c H locs cells slots Q (F0 m 3 ls []) := by
  have hK := hE.1
  intro fu
  induction fu with
  | zero =>
    intro i  H locs ls hin hP hD hS hl
    obtain rfl : i = 32 := by omega
    refine lv_iload hx hb dX12_copyRow_3 (lv_at hl 0 rfl) ?_
    refine lv_iload_n hx hb dX12_copyRow_5 rfl (lv_at hl 2 rfl) ?_
    refine lv_icmp_ge (tgt := 31) hx hb dX12_copyRow_6 (by decide) (fun _ => ?_) (fun hc => absurd hc (by decide))
    exact hk  H locs ls hP hD hS (lv_sub hl [0, 1, 2, 3, 4] rfl)
  | succ fu ih =>
    intro i  H locs ls hin hP hD hS hl
    refine lv_iload hx hb dX12_copyRow_3 (lv_at hl 0 rfl) ?_
    refine lv_iload_n hx hb dX12_copyRow_5 rfl (lv_at hl 2 rfl) ?_
    refine lv_icmp_ge (tgt := 31) hx hb dX12_copyRow_6 (by decide) (fun hc => absurd hc (nI_ge (a := i) (b := 32) (by omega) (by omega))) (fun _ => ?_)
    refine lv_aload_n hx hb dX12_copyRow_9 rfl (lv_at hl 1 rfl) ?_
    refine lv_iload_n hx hb dX12_copyRow_10 rfl (lv_at hl 2 rfl) ?_
    refine lv_iload_n hx hb dX12_copyRow_11 rfl (lv_at hl 4 rfl) ?_
    refine lv_imul hx hb dX12_copyRow_12 ?_
    refine lv_topi (fun z471 ez471 => ?_)
    have fz471 : z471.toInt = (32 * x4.toInt) := by rw [ez471]; exact tq_mul (by decide) rfl (by omega)
    refine lv_iload hx hb dX12_copyRow_13 (lv_at hl 0 rfl) ?_
    refine lv_iadd hx hb dX12_copyRow_15 ?_
    refine lv_topi (fun z472 ez472 => ?_)
    have fz472 : z472.toInt = ((32 * x4.toInt) + (i : Int)) := by rw [ez472]; exact tq_add fz471 (nI_toInt (by omega)) (by omega)
    refine lv_aload_n hx hb dX12_copyRow_16 rfl (lv_at hl 1 rfl) ?_
    refine lv_iload_n hx hb dX12_copyRow_17 rfl (lv_at hl 2 rfl) ?_
    refine lv_iload_n hx hb dX12_copyRow_18 rfl (lv_at hl 3 rfl) ?_
    refine lv_imul hx hb dX12_copyRow_19 ?_
    refine lv_topi (fun z473 ez473 => ?_)
    have fz473 : z473.toInt = (32 * x3.toInt) := by rw [ez473]; exact tq_mul (by decide) rfl (by omega)
    refine lv_iload hx hb dX12_copyRow_20 (lv_at hl 0 rfl) ?_
    refine lv_iadd hx hb dX12_copyRow_22 ?_
    refine lv_topi (fun z474 ez474 => ?_)
    have fz474 : z474.toInt = ((32 * x3.toInt) + (i : Int)) := by rw [ez474]; exact tq_add fz473 (nI_toInt (by omega)) (by omega)
    refine va_iald (D := D) hx hb hK hP 0 0 rfl rfl (tq_in fz474 (by omega)) dX12_copyRow_23 ?_
    refine lv_topi (fun z475 ez475 => ?_)
    obtain rfl : z475 = 0 := ez475
    refine va_iast (D := D) hx hb hK hP hD hS 0 0 rfl rfl (tq_in fz472 (by omega)) dX12_copyRow_24 (fun H locs hP hD hS => ?_)
    rw [ct_upd0] at hP hD
    have hP : va_P D vwCl [(a, .inl (cI, 160, .inl (fun _ => 0)))] H := hP
    have hD : va_D A [(a, .inl (cI, 160, .inl (fun _ => 0)))] := hD
    refine lv_iinc (v := (nI (i + 1))) (lv' := [(4, .int (nI (i + 1))), (0, .ref a), (1, .int 32), (2, .int x3), (3, .int x4)]) hx hb dX12_copyRow_25 hl (k := 0) rfl (nI_1 i) (by decide) rfl (fun ls hl => ?_)
    refine lv_goto (tgt := 3) hx hb dX12_copyRow_28 (by decide) ?_
    exact ih (i + 1)  H locs ls (by omega) hP hD hS (lv_sub hl [0, 1, 2, 3, 4] rfl)
abbrev w_c_X12_copyRow_32z (cI cJ cB cZ cO : ClassId) (a : Nat) : va_W := [(a, .inl (cI, 160, .inl (fun _ => 0)))]
set_option maxHeartbeats 4000000 in
set_option maxRecDepth 100000 in
/-- a row of 32 copied -/
theorem c_X12_copyRow_32z (l : Launch) (D : va_G) (cI cJ cB cZ cO : ClassId) (a : Nat) (x3 : Int32) (x4 : Int32) (h_x3 : 0 ≤ x3.toInt ∧ x3.toInt < 5) (h_x4 : 0 ≤ x4.toInt ∧ x4.toInt < 5) (sz : Nat) : Met l yX12_copyRow wsX12_copyRow ({ frames := 0, cells := 0, slots := 0, locals := 0 }) (va_Pc [.ref a, .int 32, .int x3, .int x4] (ct_P D (ct_T cI cJ cB cZ cO) (w_c_X12_copyRow_32z cI cJ cB cZ cO a) sz)) (va_Qv (fun (u : Unit) => True) (fun (u : Unit) t => ct_Q D (va_A (w_c_X12_copyRow_32z cI cJ cB cZ cO a) sz) [(a, .inl (cI, 160, .inl (fun _ => 0)))] t) (va_A (w_c_X12_copyRow_32z cI cJ cB cZ cO a) sz)) 0 0 (va_A (w_c_X12_copyRow_32z cI cJ cB cZ cO a) sz) := by
  refine Met.ofW (cc := cX12_copyRow) (maxL := 5) (ret := none) (by decide) rfl ?_
  intro p e s m args below meth c s₁ B hml hv
  obtain ⟨rfl, hsz, hP, hE, hD0⟩ := hv
  have hx := B.exec
  have hb := B.bytes
  have hr := B.returns
  have hts := atoms_spec (ws := wsX12_copyRow) B.pre
  have hown : s.vm.findClass RX12 = some m.cls := findClass_of_methodNamed B.named
  have hlocks := B.notSynchronized
  have hK := hE.1
  subst hsz
  have hD := hD0.self (sz := s.heap.size)
  generalize hAe : va_A (w_c_X12_copyRow_32z cI cJ cB cZ cO a) s.heap.size = A at hD ⊢
  have hA : ∀ q : Nat, s.heap.size ≤ q → A q := fun q h => by rw [← hAe]; exact Or.inr h
  have hS : va_S A s.heap s.heap [] := va_S.rf
  have hP : va_P D vwCl [(a, .inl (cI, 160, .inl (fun _ => 0)))] s.heap := hP
  have hD : va_D A [(a, .inl (cI, 160, .inl (fun _ => 0)))] := hD
  have hl := lv_entry ([.ref a, .int 32, .int x3, .int x4]) (n := 5) (Nat.le_of_ble_eq_true rfl)
  rw [lg_entry_eq]
  generalize (lg_sl ([.ref a, .int 32, .int x3, .int x4]) ++ List.replicate (5 - (lg_sl ([.ref a, .int 32, .int x3, .int x4])).length) Slot.unset).toArray = ls at hl ⊢
  have hl : lv_has ls 5 [(0, .ref a), (1, .int 32), (2, .int x3), (3, .int x4)] := hl
  obtain ⟨H, hHe⟩ : ∃ H : Heap, H = s.heap := ⟨_, rfl⟩
  rw [← hHe] at hP
  have hS : va_S A s.heap H [] := by rw [hHe]; exact va_S.rf
  refine ct_start hHe ?_
  refine lv_iconst (v := 0) hx hb dX12_copyRow_0 (by decide) ?_
  refine lv_istore (lv' := [(4, .int 0), (0, .ref a), (1, .int 32), (2, .int x3), (3, .int x4)]) hx hb dX12_copyRow_1 hl (by decide) rfl (fun ls hl => ?_)
  refine lp_X12_copyRow_3_32z D cI cJ cB cZ cO a x3 x4 h_x3 h_x4 hx hb hown hts hE (fun  H locs ls hP hD hS hl => ?_) 32 0  _ _ _ (by omega) hP hD hS (lv_sub hl [0, 1, 2, 3, 4] rfl)
  have hP9 := hP.sub (ws' := [(a, .inl (cI, 160, .inl (fun _ => 0)))]) [0] rfl
  have hD9 := hD.sub (ws' := [(a, .inl (cI, 160, .inl (fun _ => 0)))]) [0] (by decide) rfl
  exact W.vret hx hb hr (fun t ht hW => ⟨⟨(), rfl, trivial, by rw [ht]; exact hP9, hD9⟩, hS.F ht⟩) hS.2.2 dX12_copyRow_31
set_option maxHeartbeats 4000000 in
set_option maxRecDepth 100000 in
/-- the loop of X12_copyRow at 3 -/
theorem lp_X12_copyRow_3_10z {p : Program} {l : Launch} {e : Env} {Rm : Room} {s : State} {m : MethodId} {args : Array Value} {below : List Frame} {meth : Method} {c : Code} {cells slots : Nat} {Q : State → Prop} {A : Nat → Prop} (D : va_G) (cI cJ cB cZ cO : ClassId) (a : Nat) (x3 : Int32) (x4 : Int32) (h_x3 : 0 ≤ x3.toInt ∧ x3.toInt < 5) (h_x4 : 0 ≤ x4.toInt ∧ x4.toInt < 5) (hx : p.tables.exec = Jvm.exec) (hb : c.code = cX12_copyRow) (hown : s.vm.findClass RX12 = some m.cls) (hts : ∀ w ∈ wsX12_copyRow, w.before args s = true) (hE : ct_E D (ct_T cI cJ cB cZ cO) s)
    (hk : ∀  (H : Heap) (locs : List Loc) (ls : Array Slot), va_P D vwCl [(a, .inl (cI, 50, .inl (fun _ => 0)))] H → va_D A [(a, .inl (cI, 50, .inl (fun _ => 0)))] → va_S A s.heap H locs → lv_has ls 5 [(4, .int (nI 10)), (0, .ref a), (1, .int 10), (2, .int x3), (3, .int x4)] → W p l e Rm s m args below meth c H locs cells slots Q (F0 m 31 ls [])) :
    ∀ (fu i : Nat)  (H : Heap) (locs : List Loc) (ls : Array Slot), i + fu = 10 → va_P D vwCl [(a, .inl (cI, 50, .inl (fun _ => 0)))] H → va_D A [(a, .inl (cI, 50, .inl (fun _ => 0)))] → va_S A s.heap H locs → lv_has ls 5 [(4, .int (nI i)), (0, .ref a), (1, .int 10), (2, .int x3), (3, .int x4)] → W p l e Rm s m args below meth c H locs cells slots Q (F0 m 3 ls []) := by
  have hK := hE.1
  intro fu
  induction fu with
  | zero =>
    intro i  H locs ls hin hP hD hS hl
    obtain rfl : i = 10 := by omega
    refine lv_iload hx hb dX12_copyRow_3 (lv_at hl 0 rfl) ?_
    refine lv_iload_n hx hb dX12_copyRow_5 rfl (lv_at hl 2 rfl) ?_
    refine lv_icmp_ge (tgt := 31) hx hb dX12_copyRow_6 (by decide) (fun _ => ?_) (fun hc => absurd hc (by decide))
    exact hk  H locs ls hP hD hS (lv_sub hl [0, 1, 2, 3, 4] rfl)
  | succ fu ih =>
    intro i  H locs ls hin hP hD hS hl
    refine lv_iload hx hb dX12_copyRow_3 (lv_at hl 0 rfl) ?_
    refine lv_iload_n hx hb dX12_copyRow_5 rfl (lv_at hl 2 rfl) ?_
    refine lv_icmp_ge (tgt := 31) hx hb dX12_copyRow_6 (by decide) (fun hc => absurd hc (nI_ge (a := i) (b := 10) (by omega) (by omega))) (fun _ => ?_)
    refine lv_aload_n hx hb dX12_copyRow_9 rfl (lv_at hl 1 rfl) ?_
    refine lv_iload_n hx hb dX12_copyRow_10 rfl (lv_at hl 2 rfl) ?_
    refine lv_iload_n hx hb dX12_copyRow_11 rfl (lv_at hl 4 rfl) ?_
    refine lv_imul hx hb dX12_copyRow_12 ?_
    refine lv_topi (fun z476 ez476 => ?_)
    have fz476 : z476.toInt = (10 * x4.toInt) := by rw [ez476]; exact tq_mul (by decide) rfl (by omega)
    refine lv_iload hx hb dX12_copyRow_13 (lv_at hl 0 rfl) ?_
    refine lv_iadd hx hb dX12_copyRow_15 ?_
    refine lv_topi (fun z477 ez477 => ?_)
    have fz477 : z477.toInt = ((10 * x4.toInt) + (i : Int)) := by rw [ez477]; exact tq_add fz476 (nI_toInt (by omega)) (by omega)
    refine lv_aload_n hx hb dX12_copyRow_16 rfl (lv_at hl 1 rfl) ?_
    refine lv_iload_n hx hb dX12_copyRow_17 rfl (lv_at hl 2 rfl) ?_
    refine lv_iload_n hx hb dX12_copyRow_18 rfl (lv_at hl 3 rfl) ?_
    refine lv_imul hx hb dX12_copyRow_19 ?_
    refine lv_topi (fun z478 ez478 => ?_)
    have fz478 : z478.toInt = (10 * x3.toInt) := by rw [ez478]; exact tq_mul (by decide) rfl (by omega)
    refine lv_iload hx hb dX12_copyRow_20 (lv_at hl 0 rfl) ?_
    refine lv_iadd hx hb dX12_copyRow_22 ?_
    refine lv_topi (fun z479 ez479 => ?_)
    have fz479 : z479.toInt = ((10 * x3.toInt) + (i : Int)) := by rw [ez479]; exact tq_add fz478 (nI_toInt (by omega)) (by omega)
    refine va_iald (D := D) hx hb hK hP 0 0 rfl rfl (tq_in fz479 (by omega)) dX12_copyRow_23 ?_
    refine lv_topi (fun z480 ez480 => ?_)
    obtain rfl : z480 = 0 := ez480
    refine va_iast (D := D) hx hb hK hP hD hS 0 0 rfl rfl (tq_in fz477 (by omega)) dX12_copyRow_24 (fun H locs hP hD hS => ?_)
    rw [ct_upd0] at hP hD
    have hP : va_P D vwCl [(a, .inl (cI, 50, .inl (fun _ => 0)))] H := hP
    have hD : va_D A [(a, .inl (cI, 50, .inl (fun _ => 0)))] := hD
    refine lv_iinc (v := (nI (i + 1))) (lv' := [(4, .int (nI (i + 1))), (0, .ref a), (1, .int 10), (2, .int x3), (3, .int x4)]) hx hb dX12_copyRow_25 hl (k := 0) rfl (nI_1 i) (by decide) rfl (fun ls hl => ?_)
    refine lv_goto (tgt := 3) hx hb dX12_copyRow_28 (by decide) ?_
    exact ih (i + 1)  H locs ls (by omega) hP hD hS (lv_sub hl [0, 1, 2, 3, 4] rfl)
abbrev w_c_X12_copyRow_10z (cI cJ cB cZ cO : ClassId) (a : Nat) : va_W := [(a, .inl (cI, 50, .inl (fun _ => 0)))]
set_option maxHeartbeats 4000000 in
set_option maxRecDepth 100000 in
/-- a row of 10 copied -/
theorem c_X12_copyRow_10z (l : Launch) (D : va_G) (cI cJ cB cZ cO : ClassId) (a : Nat) (x3 : Int32) (x4 : Int32) (h_x3 : 0 ≤ x3.toInt ∧ x3.toInt < 5) (h_x4 : 0 ≤ x4.toInt ∧ x4.toInt < 5) (sz : Nat) : Met l yX12_copyRow wsX12_copyRow ({ frames := 0, cells := 0, slots := 0, locals := 0 }) (va_Pc [.ref a, .int 10, .int x3, .int x4] (ct_P D (ct_T cI cJ cB cZ cO) (w_c_X12_copyRow_10z cI cJ cB cZ cO a) sz)) (va_Qv (fun (u : Unit) => True) (fun (u : Unit) t => ct_Q D (va_A (w_c_X12_copyRow_10z cI cJ cB cZ cO a) sz) [(a, .inl (cI, 50, .inl (fun _ => 0)))] t) (va_A (w_c_X12_copyRow_10z cI cJ cB cZ cO a) sz)) 0 0 (va_A (w_c_X12_copyRow_10z cI cJ cB cZ cO a) sz) := by
  refine Met.ofW (cc := cX12_copyRow) (maxL := 5) (ret := none) (by decide) rfl ?_
  intro p e s m args below meth c s₁ B hml hv
  obtain ⟨rfl, hsz, hP, hE, hD0⟩ := hv
  have hx := B.exec
  have hb := B.bytes
  have hr := B.returns
  have hts := atoms_spec (ws := wsX12_copyRow) B.pre
  have hown : s.vm.findClass RX12 = some m.cls := findClass_of_methodNamed B.named
  have hlocks := B.notSynchronized
  have hK := hE.1
  subst hsz
  have hD := hD0.self (sz := s.heap.size)
  generalize hAe : va_A (w_c_X12_copyRow_10z cI cJ cB cZ cO a) s.heap.size = A at hD ⊢
  have hA : ∀ q : Nat, s.heap.size ≤ q → A q := fun q h => by rw [← hAe]; exact Or.inr h
  have hS : va_S A s.heap s.heap [] := va_S.rf
  have hP : va_P D vwCl [(a, .inl (cI, 50, .inl (fun _ => 0)))] s.heap := hP
  have hD : va_D A [(a, .inl (cI, 50, .inl (fun _ => 0)))] := hD
  have hl := lv_entry ([.ref a, .int 10, .int x3, .int x4]) (n := 5) (Nat.le_of_ble_eq_true rfl)
  rw [lg_entry_eq]
  generalize (lg_sl ([.ref a, .int 10, .int x3, .int x4]) ++ List.replicate (5 - (lg_sl ([.ref a, .int 10, .int x3, .int x4])).length) Slot.unset).toArray = ls at hl ⊢
  have hl : lv_has ls 5 [(0, .ref a), (1, .int 10), (2, .int x3), (3, .int x4)] := hl
  obtain ⟨H, hHe⟩ : ∃ H : Heap, H = s.heap := ⟨_, rfl⟩
  rw [← hHe] at hP
  have hS : va_S A s.heap H [] := by rw [hHe]; exact va_S.rf
  refine ct_start hHe ?_
  refine lv_iconst (v := 0) hx hb dX12_copyRow_0 (by decide) ?_
  refine lv_istore (lv' := [(4, .int 0), (0, .ref a), (1, .int 10), (2, .int x3), (3, .int x4)]) hx hb dX12_copyRow_1 hl (by decide) rfl (fun ls hl => ?_)
  refine lp_X12_copyRow_3_10z D cI cJ cB cZ cO a x3 x4 h_x3 h_x4 hx hb hown hts hE (fun  H locs ls hP hD hS hl => ?_) 10 0  _ _ _ (by omega) hP hD hS (lv_sub hl [0, 1, 2, 3, 4] rfl)
  have hP9 := hP.sub (ws' := [(a, .inl (cI, 50, .inl (fun _ => 0)))]) [0] rfl
  have hD9 := hD.sub (ws' := [(a, .inl (cI, 50, .inl (fun _ => 0)))]) [0] (by decide) rfl
  exact W.vret hx hb hr (fun t ht hW => ⟨⟨(), rfl, trivial, by rw [ht]; exact hP9, hD9⟩, hS.F ht⟩) hS.2.2 dX12_copyRow_31
set_option maxHeartbeats 4000000 in
set_option maxRecDepth 100000 in
/-- the loop of X12_copyRow at 3 -/
theorem lp_X12_copyRow_3_160z {p : Program} {l : Launch} {e : Env} {Rm : Room} {s : State} {m : MethodId} {args : Array Value} {below : List Frame} {meth : Method} {c : Code} {cells slots : Nat} {Q : State → Prop} {A : Nat → Prop} (D : va_G) (cI cJ cB cZ cO : ClassId) (a : Nat) (x3 : Int32) (x4 : Int32) (h_x3 : 0 ≤ x3.toInt ∧ x3.toInt < 5) (h_x4 : 0 ≤ x4.toInt ∧ x4.toInt < 5) (hx : p.tables.exec = Jvm.exec) (hb : c.code = cX12_copyRow) (hown : s.vm.findClass RX12 = some m.cls) (hts : ∀ w ∈ wsX12_copyRow, w.before args s = true) (hE : ct_E D (ct_T cI cJ cB cZ cO) s)
    (hk : ∀  (H : Heap) (locs : List Loc) (ls : Array Slot), va_P D vwCl [(a, .inl (cI, 800, .inl (fun _ => 0)))] H → va_D A [(a, .inl (cI, 800, .inl (fun _ => 0)))] → va_S A s.heap H locs → lv_has ls 5 [(4, .int (nI 160)), (0, .ref a), (1, .int 160), (2, .int x3), (3, .int x4)] → W p l e Rm s m args below meth c H locs cells slots Q (F0 m 31 ls [])) :
    ∀ (fu i : Nat)  (H : Heap) (locs : List Loc) (ls : Array Slot), i + fu = 160 → va_P D vwCl [(a, .inl (cI, 800, .inl (fun _ => 0)))] H → va_D A [(a, .inl (cI, 800, .inl (fun _ => 0)))] → va_S A s.heap H locs → lv_has ls 5 [(4, .int (nI i)), (0, .ref a), (1, .int 160), (2, .int x3), (3, .int x4)] → W p l e Rm s m args below meth c H locs cells slots Q (F0 m 3 ls []) := by
  have hK := hE.1
  intro fu
  induction fu with
  | zero =>
    intro i  H locs ls hin hP hD hS hl
    obtain rfl : i = 160 := by omega
    refine lv_iload hx hb dX12_copyRow_3 (lv_at hl 0 rfl) ?_
    refine lv_iload_n hx hb dX12_copyRow_5 rfl (lv_at hl 2 rfl) ?_
    refine lv_icmp_ge (tgt := 31) hx hb dX12_copyRow_6 (by decide) (fun _ => ?_) (fun hc => absurd hc (by decide))
    exact hk  H locs ls hP hD hS (lv_sub hl [0, 1, 2, 3, 4] rfl)
  | succ fu ih =>
    intro i  H locs ls hin hP hD hS hl
    refine lv_iload hx hb dX12_copyRow_3 (lv_at hl 0 rfl) ?_
    refine lv_iload_n hx hb dX12_copyRow_5 rfl (lv_at hl 2 rfl) ?_
    refine lv_icmp_ge (tgt := 31) hx hb dX12_copyRow_6 (by decide) (fun hc => absurd hc (nI_ge (a := i) (b := 160) (by omega) (by omega))) (fun _ => ?_)
    refine lv_aload_n hx hb dX12_copyRow_9 rfl (lv_at hl 1 rfl) ?_
    refine lv_iload_n hx hb dX12_copyRow_10 rfl (lv_at hl 2 rfl) ?_
    refine lv_iload_n hx hb dX12_copyRow_11 rfl (lv_at hl 4 rfl) ?_
    refine lv_imul hx hb dX12_copyRow_12 ?_
    refine lv_topi (fun z481 ez481 => ?_)
    have fz481 : z481.toInt = (160 * x4.toInt) := by rw [ez481]; exact tq_mul (by decide) rfl (by omega)
    refine lv_iload hx hb dX12_copyRow_13 (lv_at hl 0 rfl) ?_
    refine lv_iadd hx hb dX12_copyRow_15 ?_
    refine lv_topi (fun z482 ez482 => ?_)
    have fz482 : z482.toInt = ((160 * x4.toInt) + (i : Int)) := by rw [ez482]; exact tq_add fz481 (nI_toInt (by omega)) (by omega)
    refine lv_aload_n hx hb dX12_copyRow_16 rfl (lv_at hl 1 rfl) ?_
    refine lv_iload_n hx hb dX12_copyRow_17 rfl (lv_at hl 2 rfl) ?_
    refine lv_iload_n hx hb dX12_copyRow_18 rfl (lv_at hl 3 rfl) ?_
    refine lv_imul hx hb dX12_copyRow_19 ?_
    refine lv_topi (fun z483 ez483 => ?_)
    have fz483 : z483.toInt = (160 * x3.toInt) := by rw [ez483]; exact tq_mul (by decide) rfl (by omega)
    refine lv_iload hx hb dX12_copyRow_20 (lv_at hl 0 rfl) ?_
    refine lv_iadd hx hb dX12_copyRow_22 ?_
    refine lv_topi (fun z484 ez484 => ?_)
    have fz484 : z484.toInt = ((160 * x3.toInt) + (i : Int)) := by rw [ez484]; exact tq_add fz483 (nI_toInt (by omega)) (by omega)
    refine va_iald (D := D) hx hb hK hP 0 0 rfl rfl (tq_in fz484 (by omega)) dX12_copyRow_23 ?_
    refine lv_topi (fun z485 ez485 => ?_)
    obtain rfl : z485 = 0 := ez485
    refine va_iast (D := D) hx hb hK hP hD hS 0 0 rfl rfl (tq_in fz482 (by omega)) dX12_copyRow_24 (fun H locs hP hD hS => ?_)
    rw [ct_upd0] at hP hD
    have hP : va_P D vwCl [(a, .inl (cI, 800, .inl (fun _ => 0)))] H := hP
    have hD : va_D A [(a, .inl (cI, 800, .inl (fun _ => 0)))] := hD
    refine lv_iinc (v := (nI (i + 1))) (lv' := [(4, .int (nI (i + 1))), (0, .ref a), (1, .int 160), (2, .int x3), (3, .int x4)]) hx hb dX12_copyRow_25 hl (k := 0) rfl (nI_1 i) (by decide) rfl (fun ls hl => ?_)
    refine lv_goto (tgt := 3) hx hb dX12_copyRow_28 (by decide) ?_
    exact ih (i + 1)  H locs ls (by omega) hP hD hS (lv_sub hl [0, 1, 2, 3, 4] rfl)
abbrev w_c_X12_copyRow_160z (cI cJ cB cZ cO : ClassId) (a : Nat) : va_W := [(a, .inl (cI, 800, .inl (fun _ => 0)))]
set_option maxHeartbeats 4000000 in
set_option maxRecDepth 100000 in
/-- a row of 160 copied -/
theorem c_X12_copyRow_160z (l : Launch) (D : va_G) (cI cJ cB cZ cO : ClassId) (a : Nat) (x3 : Int32) (x4 : Int32) (h_x3 : 0 ≤ x3.toInt ∧ x3.toInt < 5) (h_x4 : 0 ≤ x4.toInt ∧ x4.toInt < 5) (sz : Nat) : Met l yX12_copyRow wsX12_copyRow ({ frames := 0, cells := 0, slots := 0, locals := 0 }) (va_Pc [.ref a, .int 160, .int x3, .int x4] (ct_P D (ct_T cI cJ cB cZ cO) (w_c_X12_copyRow_160z cI cJ cB cZ cO a) sz)) (va_Qv (fun (u : Unit) => True) (fun (u : Unit) t => ct_Q D (va_A (w_c_X12_copyRow_160z cI cJ cB cZ cO a) sz) [(a, .inl (cI, 800, .inl (fun _ => 0)))] t) (va_A (w_c_X12_copyRow_160z cI cJ cB cZ cO a) sz)) 0 0 (va_A (w_c_X12_copyRow_160z cI cJ cB cZ cO a) sz) := by
  refine Met.ofW (cc := cX12_copyRow) (maxL := 5) (ret := none) (by decide) rfl ?_
  intro p e s m args below meth c s₁ B hml hv
  obtain ⟨rfl, hsz, hP, hE, hD0⟩ := hv
  have hx := B.exec
  have hb := B.bytes
  have hr := B.returns
  have hts := atoms_spec (ws := wsX12_copyRow) B.pre
  have hown : s.vm.findClass RX12 = some m.cls := findClass_of_methodNamed B.named
  have hlocks := B.notSynchronized
  have hK := hE.1
  subst hsz
  have hD := hD0.self (sz := s.heap.size)
  generalize hAe : va_A (w_c_X12_copyRow_160z cI cJ cB cZ cO a) s.heap.size = A at hD ⊢
  have hA : ∀ q : Nat, s.heap.size ≤ q → A q := fun q h => by rw [← hAe]; exact Or.inr h
  have hS : va_S A s.heap s.heap [] := va_S.rf
  have hP : va_P D vwCl [(a, .inl (cI, 800, .inl (fun _ => 0)))] s.heap := hP
  have hD : va_D A [(a, .inl (cI, 800, .inl (fun _ => 0)))] := hD
  have hl := lv_entry ([.ref a, .int 160, .int x3, .int x4]) (n := 5) (Nat.le_of_ble_eq_true rfl)
  rw [lg_entry_eq]
  generalize (lg_sl ([.ref a, .int 160, .int x3, .int x4]) ++ List.replicate (5 - (lg_sl ([.ref a, .int 160, .int x3, .int x4])).length) Slot.unset).toArray = ls at hl ⊢
  have hl : lv_has ls 5 [(0, .ref a), (1, .int 160), (2, .int x3), (3, .int x4)] := hl
  obtain ⟨H, hHe⟩ : ∃ H : Heap, H = s.heap := ⟨_, rfl⟩
  rw [← hHe] at hP
  have hS : va_S A s.heap H [] := by rw [hHe]; exact va_S.rf
  refine ct_start hHe ?_
  refine lv_iconst (v := 0) hx hb dX12_copyRow_0 (by decide) ?_
  refine lv_istore (lv' := [(4, .int 0), (0, .ref a), (1, .int 160), (2, .int x3), (3, .int x4)]) hx hb dX12_copyRow_1 hl (by decide) rfl (fun ls hl => ?_)
  refine lp_X12_copyRow_3_160z D cI cJ cB cZ cO a x3 x4 h_x3 h_x4 hx hb hown hts hE (fun  H locs ls hP hD hS hl => ?_) 160 0  _ _ _ (by omega) hP hD hS (lv_sub hl [0, 1, 2, 3, 4] rfl)
  have hP9 := hP.sub (ws' := [(a, .inl (cI, 800, .inl (fun _ => 0)))]) [0] rfl
  have hD9 := hD.sub (ws' := [(a, .inl (cI, 800, .inl (fun _ => 0)))]) [0] (by decide) rfl
  exact W.vret hx hb hr (fun t ht hW => ⟨⟨(), rfl, trivial, by rw [ht]; exact hP9, hD9⟩, hS.F ht⟩) hS.2.2 dX12_copyRow_31
set_option maxHeartbeats 4000000 in
set_option maxRecDepth 100000 in
/-- the loop of X12_copyRow at 3 -/
theorem lp_X12_copyRow_3_6 {p : Program} {l : Launch} {e : Env} {Rm : Room} {s : State} {m : MethodId} {args : Array Value} {below : List Frame} {meth : Method} {c : Code} {cells slots : Nat} {Q : State → Prop} {A : Nat → Prop} (D : va_G) (cI cJ cB cZ cO : ClassId) (a : Nat) (x3 : Int32) (x4 : Int32) (h_x3 : 0 ≤ x3.toInt ∧ x3.toInt < 5) (h_x4 : 0 ≤ x4.toInt ∧ x4.toInt < 5) (hx : p.tables.exec = Jvm.exec) (hb : c.code = cX12_copyRow) (hown : s.vm.findClass RX12 = some m.cls) (hts : ∀ w ∈ wsX12_copyRow, w.before args s = true) (hE : ct_E D (ct_T cI cJ cB cZ cO) s)
    (hk : ∀ (fl : Nat → Int32) (H : Heap) (locs : List Loc) (ls : Array Slot), va_P D vwCl [(a, .inl (cI, 30, .inl (fl)))] H → va_D A [(a, .inl (cI, 30, .inl (fl)))] → va_S A s.heap H locs → lv_has ls 5 [(4, .int (nI 6)), (0, .ref a), (1, .int 6), (2, .int x3), (3, .int x4)] → W p l e Rm s m args below meth c H locs cells slots Q (F0 m 31 ls [])) :
    ∀ (fu i : Nat) (fl : Nat → Int32) (H : Heap) (locs : List Loc) (ls : Array Slot), i + fu = 6 → va_P D vwCl [(a, .inl (cI, 30, .inl (fl)))] H → va_D A [(a, .inl (cI, 30, .inl (fl)))] → va_S A s.heap H locs → lv_has ls 5 [(4, .int (nI i)), (0, .ref a), (1, .int 6), (2, .int x3), (3, .int x4)] → W p l e Rm s m args below meth c H locs cells slots Q (F0 m 3 ls []) := by
  have hK := hE.1
  intro fu
  induction fu with
  | zero =>
    intro i fl H locs ls hin hP hD hS hl
    obtain rfl : i = 6 := by omega
    refine lv_iload hx hb dX12_copyRow_3 (lv_at hl 0 rfl) ?_
    refine lv_iload_n hx hb dX12_copyRow_5 rfl (lv_at hl 2 rfl) ?_
    refine lv_icmp_ge (tgt := 31) hx hb dX12_copyRow_6 (by decide) (fun _ => ?_) (fun hc => absurd hc (by decide))
    exact hk fl H locs ls hP hD hS (lv_sub hl [0, 1, 2, 3, 4] rfl)
  | succ fu ih =>
    intro i fl H locs ls hin hP hD hS hl
    refine lv_iload hx hb dX12_copyRow_3 (lv_at hl 0 rfl) ?_
    refine lv_iload_n hx hb dX12_copyRow_5 rfl (lv_at hl 2 rfl) ?_
    refine lv_icmp_ge (tgt := 31) hx hb dX12_copyRow_6 (by decide) (fun hc => absurd hc (nI_ge (a := i) (b := 6) (by omega) (by omega))) (fun _ => ?_)
    refine lv_aload_n hx hb dX12_copyRow_9 rfl (lv_at hl 1 rfl) ?_
    refine lv_iload_n hx hb dX12_copyRow_10 rfl (lv_at hl 2 rfl) ?_
    refine lv_iload_n hx hb dX12_copyRow_11 rfl (lv_at hl 4 rfl) ?_
    refine lv_imul hx hb dX12_copyRow_12 ?_
    refine lv_topi (fun z486 ez486 => ?_)
    have fz486 : z486.toInt = (6 * x4.toInt) := by rw [ez486]; exact tq_mul (by decide) rfl (by omega)
    refine lv_iload hx hb dX12_copyRow_13 (lv_at hl 0 rfl) ?_
    refine lv_iadd hx hb dX12_copyRow_15 ?_
    refine lv_topi (fun z487 ez487 => ?_)
    have fz487 : z487.toInt = ((6 * x4.toInt) + (i : Int)) := by rw [ez487]; exact tq_add fz486 (nI_toInt (by omega)) (by omega)
    refine lv_aload_n hx hb dX12_copyRow_16 rfl (lv_at hl 1 rfl) ?_
    refine lv_iload_n hx hb dX12_copyRow_17 rfl (lv_at hl 2 rfl) ?_
    refine lv_iload_n hx hb dX12_copyRow_18 rfl (lv_at hl 3 rfl) ?_
    refine lv_imul hx hb dX12_copyRow_19 ?_
    refine lv_topi (fun z488 ez488 => ?_)
    have fz488 : z488.toInt = (6 * x3.toInt) := by rw [ez488]; exact tq_mul (by decide) rfl (by omega)
    refine lv_iload hx hb dX12_copyRow_20 (lv_at hl 0 rfl) ?_
    refine lv_iadd hx hb dX12_copyRow_22 ?_
    refine lv_topi (fun z489 ez489 => ?_)
    have fz489 : z489.toInt = ((6 * x3.toInt) + (i : Int)) := by rw [ez489]; exact tq_add fz488 (nI_toInt (by omega)) (by omega)
    refine va_iald (D := D) hx hb hK hP 0 0 rfl rfl (tq_in fz489 (by omega)) dX12_copyRow_23 ?_
    refine lv_topi (fun z490 ez490 => ?_)
    refine va_iast (D := D) hx hb hK hP hD hS 0 0 rfl rfl (tq_in fz487 (by omega)) dX12_copyRow_24 (fun H locs hP hD hS => ?_)
    obtain ⟨g491, hP, hD⟩ : ∃ g491 : Nat → Int32, va_P D vwCl [(a, .inl (cI, 30, .inl (g491)))] H ∧ va_D A [(a, .inl (cI, 30, .inl (g491)))] := ⟨_, hP, hD⟩
    refine lv_iinc (v := (nI (i + 1))) (lv' := [(4, .int (nI (i + 1))), (0, .ref a), (1, .int 6), (2, .int x3), (3, .int x4)]) hx hb dX12_copyRow_25 hl (k := 0) rfl (nI_1 i) (by decide) rfl (fun ls hl => ?_)
    refine lv_goto (tgt := 3) hx hb dX12_copyRow_28 (by decide) ?_
    exact ih (i + 1) g491 H locs ls (by omega) hP hD hS (lv_sub hl [0, 1, 2, 3, 4] rfl)
abbrev w_c_X12_copyRow_6 (cI cJ cB cZ cO : ClassId) (a : Nat) (f : Nat → Int32) : va_W := [(a, .inl (cI, 30, .inl (f)))]
set_option maxHeartbeats 4000000 in
set_option maxRecDepth 100000 in
/-- a row of 6 copied -/
theorem c_X12_copyRow_6 (l : Launch) (D : va_G) (cI cJ cB cZ cO : ClassId) (a : Nat) (f : Nat → Int32) (x3 : Int32) (x4 : Int32) (h_x3 : 0 ≤ x3.toInt ∧ x3.toInt < 5) (h_x4 : 0 ≤ x4.toInt ∧ x4.toInt < 5) (sz : Nat) : Met l yX12_copyRow wsX12_copyRow ({ frames := 0, cells := 0, slots := 0, locals := 0 }) (va_Pc [.ref a, .int 6, .int x3, .int x4] (ct_P D (ct_T cI cJ cB cZ cO) (w_c_X12_copyRow_6 cI cJ cB cZ cO a f) sz)) (va_Qv (fun (u : Nat → Int32) => True) (fun (u : Nat → Int32) t => ct_Q D (va_A (w_c_X12_copyRow_6 cI cJ cB cZ cO a f) sz) [(a, .inl (cI, 30, .inl (u)))] t) (va_A (w_c_X12_copyRow_6 cI cJ cB cZ cO a f) sz)) 0 0 (va_A (w_c_X12_copyRow_6 cI cJ cB cZ cO a f) sz) := by
  refine Met.ofW (cc := cX12_copyRow) (maxL := 5) (ret := none) (by decide) rfl ?_
  intro p e s m args below meth c s₁ B hml hv
  obtain ⟨rfl, hsz, hP, hE, hD0⟩ := hv
  have hx := B.exec
  have hb := B.bytes
  have hr := B.returns
  have hts := atoms_spec (ws := wsX12_copyRow) B.pre
  have hown : s.vm.findClass RX12 = some m.cls := findClass_of_methodNamed B.named
  have hlocks := B.notSynchronized
  have hK := hE.1
  subst hsz
  have hD := hD0.self (sz := s.heap.size)
  generalize hAe : va_A (w_c_X12_copyRow_6 cI cJ cB cZ cO a f) s.heap.size = A at hD ⊢
  have hA : ∀ q : Nat, s.heap.size ≤ q → A q := fun q h => by rw [← hAe]; exact Or.inr h
  have hS : va_S A s.heap s.heap [] := va_S.rf
  have hP : va_P D vwCl [(a, .inl (cI, 30, .inl (f)))] s.heap := hP
  have hD : va_D A [(a, .inl (cI, 30, .inl (f)))] := hD
  have hl := lv_entry ([.ref a, .int 6, .int x3, .int x4]) (n := 5) (Nat.le_of_ble_eq_true rfl)
  rw [lg_entry_eq]
  generalize (lg_sl ([.ref a, .int 6, .int x3, .int x4]) ++ List.replicate (5 - (lg_sl ([.ref a, .int 6, .int x3, .int x4])).length) Slot.unset).toArray = ls at hl ⊢
  have hl : lv_has ls 5 [(0, .ref a), (1, .int 6), (2, .int x3), (3, .int x4)] := hl
  obtain ⟨H, hHe⟩ : ∃ H : Heap, H = s.heap := ⟨_, rfl⟩
  rw [← hHe] at hP
  have hS : va_S A s.heap H [] := by rw [hHe]; exact va_S.rf
  refine ct_start hHe ?_
  refine lv_iconst (v := 0) hx hb dX12_copyRow_0 (by decide) ?_
  refine lv_istore (lv' := [(4, .int 0), (0, .ref a), (1, .int 6), (2, .int x3), (3, .int x4)]) hx hb dX12_copyRow_1 hl (by decide) rfl (fun ls hl => ?_)
  refine lp_X12_copyRow_3_6 D cI cJ cB cZ cO a x3 x4 h_x3 h_x4 hx hb hown hts hE (fun fl H locs ls hP hD hS hl => ?_) 6 0 f _ _ _ (by omega) hP hD hS (lv_sub hl [0, 1, 2, 3, 4] rfl)
  have hP9 := hP.sub (ws' := [(a, .inl (cI, 30, .inl (fl)))]) [0] rfl
  have hD9 := hD.sub (ws' := [(a, .inl (cI, 30, .inl (fl)))]) [0] (by decide) rfl
  exact W.vret hx hb hr (fun t ht hW => ⟨⟨fl, rfl, trivial, by rw [ht]; exact hP9, hD9⟩, hS.F ht⟩) hS.2.2 dX12_copyRow_31
set_option maxHeartbeats 4000000 in
set_option maxRecDepth 100000 in
/-- the loop of X12_copyDance at 90 -/
theorem lp_X12_copyDance_90 {p : Program} {l : Launch} {e : Env} {Rm : Room} {s : State} {m : MethodId} {args : Array Value} {below : List Frame} {meth : Method} {c : Code} {cells slots : Nat} {Q : State → Prop} {A : Nat → Prop} (D : va_G) (cI cJ cB cZ cO : ClassId) (h : Nat) (r : Nat → Nat) (bp : Int32) (x1 : Int32) (x2 : Int32) (u492 : Nat → Int32) (h_x1 : 0 ≤ x1.toInt ∧ x1.toInt < 5) (h_x2 : 0 ≤ x2.toInt ∧ x2.toInt < 5) (hx : p.tables.exec = Jvm.exec) (hb : c.code = cX12_copyDance) (hown : s.vm.findClass RX12 = some m.cls) (hts : ∀ w ∈ wsX12_copyDance, w.before args s = true) (hE : ct_E D (ct_T cI cJ cB cZ cO) s)
    (hk : ∀  (H : Heap) (locs : List Loc) (ls : Array Slot), va_P D vwCl [mo h r 0 bp, ((r 21), .inl (cZ, 1000, .inl (fun _ => 0))), ((r 16), .inl (cI, 5, .inl (fun _ => 0))), ((r 17), .inl (cI, 55, .inl (fun _ => 0))), ((r 18), .inl (cI, 120, .inl (fun _ => 0))), ((r 19), .inl (cI, 30, .inl (u492))), ((r 20), .inl (cI, 160, .inl (fun _ => 0))), ((r 22), .inl (cI, 120, .inl (fun _ => 0))), ((r 23), .inl (cI, 50, .inl (fun _ => 0))), ((r 24), .inl (cI, 800, .inl (fun _ => 0)))] H → va_D A [mo h r 0 bp, ((r 21), .inl (cZ, 1000, .inl (fun _ => 0))), ((r 16), .inl (cI, 5, .inl (fun _ => 0))), ((r 17), .inl (cI, 55, .inl (fun _ => 0))), ((r 18), .inl (cI, 120, .inl (fun _ => 0))), ((r 19), .inl (cI, 30, .inl (u492))), ((r 20), .inl (cI, 160, .inl (fun _ => 0))), ((r 22), .inl (cI, 120, .inl (fun _ => 0))), ((r 23), .inl (cI, 50, .inl (fun _ => 0))), ((r 24), .inl (cI, 800, .inl (fun _ => 0)))] → va_S A s.heap H locs → lv_has ls 4 [(3, .int (nI 200)), (0, .ref h), (1, .int x1), (2, .int x2)] → W p l e Rm s m args below meth c H locs cells slots Q (F0 m 127 ls [])) :
    ∀ (fu i : Nat)  (H : Heap) (locs : List Loc) (ls : Array Slot), i + fu = 200 → va_P D vwCl [mo h r 0 bp, ((r 21), .inl (cZ, 1000, .inl (fun _ => 0))), ((r 16), .inl (cI, 5, .inl (fun _ => 0))), ((r 17), .inl (cI, 55, .inl (fun _ => 0))), ((r 18), .inl (cI, 120, .inl (fun _ => 0))), ((r 19), .inl (cI, 30, .inl (u492))), ((r 20), .inl (cI, 160, .inl (fun _ => 0))), ((r 22), .inl (cI, 120, .inl (fun _ => 0))), ((r 23), .inl (cI, 50, .inl (fun _ => 0))), ((r 24), .inl (cI, 800, .inl (fun _ => 0)))] H → va_D A [mo h r 0 bp, ((r 21), .inl (cZ, 1000, .inl (fun _ => 0))), ((r 16), .inl (cI, 5, .inl (fun _ => 0))), ((r 17), .inl (cI, 55, .inl (fun _ => 0))), ((r 18), .inl (cI, 120, .inl (fun _ => 0))), ((r 19), .inl (cI, 30, .inl (u492))), ((r 20), .inl (cI, 160, .inl (fun _ => 0))), ((r 22), .inl (cI, 120, .inl (fun _ => 0))), ((r 23), .inl (cI, 50, .inl (fun _ => 0))), ((r 24), .inl (cI, 800, .inl (fun _ => 0)))] → va_S A s.heap H locs → lv_has ls 4 [(3, .int (nI i)), (0, .ref h), (1, .int x1), (2, .int x2)] → W p l e Rm s m args below meth c H locs cells slots Q (F0 m 90 ls []) := by
  have hK := hE.1
  have hi12 : ∀ w ∈ u_ws RX12 TX12 45, w ∈ wsX12_copyDance := fun w h => List.mem_cons_of_mem _ (List.mem_append_right _ h)
  intro fu
  induction fu with
  | zero =>
    intro i  H locs ls hin hP hD hS hl
    obtain rfl : i = 200 := by omega
    refine lv_iload_n hx hb dX12_copyDance_90 rfl (lv_at hl 0 rfl) ?_
    refine lv_sipush (v := 200) hx hb dX12_copyDance_91 (by decide) ?_
    refine lv_icmp_ge (tgt := 127) hx hb dX12_copyDance_94 (by decide) (fun _ => ?_) (fun hc => absurd hc (by decide))
    exact hk  H locs ls hP hD hS (lv_sub hl [0, 1, 2, 3] rfl)
  | succ fu ih =>
    intro i  H locs ls hin hP hD hS hl
    refine lv_iload_n hx hb dX12_copyDance_90 rfl (lv_at hl 0 rfl) ?_
    refine lv_sipush (v := 200) hx hb dX12_copyDance_91 (by decide) ?_
    refine lv_icmp_ge (tgt := 127) hx hb dX12_copyDance_94 (by decide) (fun hc => absurd hc (nI_ge (a := i) (b := 200) (by omega) (by omega))) (fun _ => ?_)
    refine lv_aload_n hx hb dX12_copyDance_97 rfl (lv_at hl 1 rfl) ?_
    refine va_get (D := D) (ci := 12) (v := .ref (r 21)) (C := RX12) (T := TX12) (N := 45) hx hb hts hi12 hown hK hP 0 rfl rfl 21 (by decide) (hts (.fieldLink RX12 46 "OverHillModel" "isMud" "[Z") (by decide +kernel)) (fun _ h9 => h9) rfl dX12_copyDance_98 ?_
    refine lv_sipush (v := 200) hx hb dX12_copyDance_101 (by decide) ?_
    refine lv_iload_n hx hb dX12_copyDance_104 rfl (lv_at hl 3 rfl) ?_
    refine lv_imul hx hb dX12_copyDance_105 ?_
    refine lv_topi (fun z493 ez493 => ?_)
    have fz493 : z493.toInt = (200 * x2.toInt) := by rw [ez493]; exact tq_mul (by decide) rfl (by omega)
    refine lv_iload_n hx hb dX12_copyDance_106 rfl (lv_at hl 0 rfl) ?_
    refine lv_iadd hx hb dX12_copyDance_107 ?_
    refine lv_topi (fun z494 ez494 => ?_)
    have fz494 : z494.toInt = ((200 * x2.toInt) + (i : Int)) := by rw [ez494]; exact tq_add fz493 (nI_toInt (by omega)) (by omega)
    refine lv_aload_n hx hb dX12_copyDance_108 rfl (lv_at hl 1 rfl) ?_
    refine va_get (D := D) (ci := 12) (v := .ref (r 21)) (C := RX12) (T := TX12) (N := 45) hx hb hts hi12 hown hK hP 0 rfl rfl 21 (by decide) (hts (.fieldLink RX12 46 "OverHillModel" "isMud" "[Z") (by decide +kernel)) (fun _ h9 => h9) rfl dX12_copyDance_109 ?_
    refine lv_sipush (v := 200) hx hb dX12_copyDance_112 (by decide) ?_
    refine lv_iload_n hx hb dX12_copyDance_115 rfl (lv_at hl 2 rfl) ?_
    refine lv_imul hx hb dX12_copyDance_116 ?_
    refine lv_topi (fun z495 ez495 => ?_)
    have fz495 : z495.toInt = (200 * x1.toInt) := by rw [ez495]; exact tq_mul (by decide) rfl (by omega)
    refine lv_iload_n hx hb dX12_copyDance_117 rfl (lv_at hl 0 rfl) ?_
    refine lv_iadd hx hb dX12_copyDance_118 ?_
    refine lv_topi (fun z496 ez496 => ?_)
    have fz496 : z496.toInt = ((200 * x1.toInt) + (i : Int)) := by rw [ez496]; exact tq_add fz495 (nI_toInt (by omega)) (by omega)
    refine va_zald (D := D) hx hb hK hP 1 3 rfl rfl (tq_in fz496 (by omega)) dX12_copyDance_119 ?_
    refine lv_topi (fun z497 ez497 => ?_)
    obtain rfl : z497 = 0 := ez497
    refine va_zast (D := D) hx hb hK hP hD hS 1 3 rfl rfl (tq_in fz494 (by omega)) dX12_copyDance_120 (fun H locs hP hD hS => ?_)
    rw [show vp_nar .boolean (0 : Int32) = 0 from by decide, ct_upd0] at hP hD
    have hP : va_P D vwCl [mo h r 0 bp, ((r 21), .inl (cZ, 1000, .inl (fun _ => 0))), ((r 16), .inl (cI, 5, .inl (fun _ => 0))), ((r 17), .inl (cI, 55, .inl (fun _ => 0))), ((r 18), .inl (cI, 120, .inl (fun _ => 0))), ((r 19), .inl (cI, 30, .inl (u492))), ((r 20), .inl (cI, 160, .inl (fun _ => 0))), ((r 22), .inl (cI, 120, .inl (fun _ => 0))), ((r 23), .inl (cI, 50, .inl (fun _ => 0))), ((r 24), .inl (cI, 800, .inl (fun _ => 0)))] H := hP
    have hD : va_D A [mo h r 0 bp, ((r 21), .inl (cZ, 1000, .inl (fun _ => 0))), ((r 16), .inl (cI, 5, .inl (fun _ => 0))), ((r 17), .inl (cI, 55, .inl (fun _ => 0))), ((r 18), .inl (cI, 120, .inl (fun _ => 0))), ((r 19), .inl (cI, 30, .inl (u492))), ((r 20), .inl (cI, 160, .inl (fun _ => 0))), ((r 22), .inl (cI, 120, .inl (fun _ => 0))), ((r 23), .inl (cI, 50, .inl (fun _ => 0))), ((r 24), .inl (cI, 800, .inl (fun _ => 0)))] := hD
    refine lv_iinc (v := (nI (i + 1))) (lv' := [(3, .int (nI (i + 1))), (0, .ref h), (1, .int x1), (2, .int x2)]) hx hb dX12_copyDance_121 hl (k := 0) rfl (nI_1 i) (by decide) rfl (fun ls hl => ?_)
    refine lv_goto (tgt := 90) hx hb dX12_copyDance_124 (by decide) ?_
    exact ih (i + 1)  H locs ls (by omega) hP hD hS (lv_sub hl [0, 1, 2, 3] rfl)
abbrev w_c_X12_copyDance (cI cJ cB cZ cO : ClassId) (h : Nat) (r : Nat → Nat) (bp : Int32) (f : Nat → Int32) : va_W := [mo h r 0 bp, ((r 16), .inl (cI, 5, .inl (fun _ => 0))), ((r 17), .inl (cI, 55, .inl (fun _ => 0))), ((r 18), .inl (cI, 120, .inl (fun _ => 0))), ((r 19), .inl (cI, 30, .inl (f))), ((r 20), .inl (cI, 160, .inl (fun _ => 0))), ((r 21), .inl (cZ, 1000, .inl (fun _ => 0))), ((r 22), .inl (cI, 120, .inl (fun _ => 0))), ((r 23), .inl (cI, 50, .inl (fun _ => 0))), ((r 24), .inl (cI, 800, .inl (fun _ => 0)))]
set_option maxHeartbeats 4000000 in
set_option maxRecDepth 100000 in
/-- a DANCE copied -/
theorem c_X12_copyDance (l : Launch) (D : va_G) (cI cJ cB cZ cO : ClassId) (h : Nat) (r : Nat → Nat) (bp : Int32) (f : Nat → Int32) (x1 : Int32) (x2 : Int32) (h_x1 : 0 ≤ x1.toInt ∧ x1.toInt < 5) (h_x2 : 0 ≤ x2.toInt ∧ x2.toInt < 5) (sz : Nat) : Met l yX12_copyDance wsX12_copyDance ({ frames := 1, cells := 0, slots := 0, locals := 24 }) (va_Pc [.ref h, .int x1, .int x2] (ct_P D (ct_T cI cJ cB cZ cO) (w_c_X12_copyDance cI cJ cB cZ cO h r bp f) sz)) (va_Qv (fun (u : Unit) => True) (fun (u : Unit) t => ct_Q D (va_A (w_c_X12_copyDance cI cJ cB cZ cO h r bp f) sz) [mo h r 0 bp, ((r 16), .inl (cI, 5, .inl (fun _ => 0)))] t) (va_A (w_c_X12_copyDance cI cJ cB cZ cO h r bp f) sz)) 0 0 (va_A (w_c_X12_copyDance cI cJ cB cZ cO h r bp f) sz) := by
  refine Met.ofW (cc := cX12_copyDance) (maxL := 4) (ret := none) (by decide) rfl ?_
  intro p e s m args below meth c s₁ B hml hv
  obtain ⟨rfl, hsz, hP, hE, hD0⟩ := hv
  have hx := B.exec
  have hb := B.bytes
  have hr := B.returns
  have hts := atoms_spec (ws := wsX12_copyDance) B.pre
  have hown : s.vm.findClass RX12 = some m.cls := findClass_of_methodNamed B.named
  have hlocks := B.notSynchronized
  have hK := hE.1
  have hi12 : ∀ w ∈ u_ws RX12 TX12 45, w ∈ wsX12_copyDance := fun w h => List.mem_cons_of_mem _ (List.mem_append_right _ h)
  subst hsz
  have hD := hD0.self (sz := s.heap.size)
  generalize hAe : va_A (w_c_X12_copyDance cI cJ cB cZ cO h r bp f) s.heap.size = A at hD ⊢
  have hA : ∀ q : Nat, s.heap.size ≤ q → A q := fun q h => by rw [← hAe]; exact Or.inr h
  have hS : va_S A s.heap s.heap [] := va_S.rf
  have hP : va_P D vwCl [mo h r 0 bp, ((r 16), .inl (cI, 5, .inl (fun _ => 0))), ((r 17), .inl (cI, 55, .inl (fun _ => 0))), ((r 18), .inl (cI, 120, .inl (fun _ => 0))), ((r 19), .inl (cI, 30, .inl (f))), ((r 20), .inl (cI, 160, .inl (fun _ => 0))), ((r 21), .inl (cZ, 1000, .inl (fun _ => 0))), ((r 22), .inl (cI, 120, .inl (fun _ => 0))), ((r 23), .inl (cI, 50, .inl (fun _ => 0))), ((r 24), .inl (cI, 800, .inl (fun _ => 0)))] s.heap := hP
  have hD : va_D A [mo h r 0 bp, ((r 16), .inl (cI, 5, .inl (fun _ => 0))), ((r 17), .inl (cI, 55, .inl (fun _ => 0))), ((r 18), .inl (cI, 120, .inl (fun _ => 0))), ((r 19), .inl (cI, 30, .inl (f))), ((r 20), .inl (cI, 160, .inl (fun _ => 0))), ((r 21), .inl (cZ, 1000, .inl (fun _ => 0))), ((r 22), .inl (cI, 120, .inl (fun _ => 0))), ((r 23), .inl (cI, 50, .inl (fun _ => 0))), ((r 24), .inl (cI, 800, .inl (fun _ => 0)))] := hD
  have hl := lv_entry ([.ref h, .int x1, .int x2]) (n := 4) (Nat.le_of_ble_eq_true rfl)
  rw [lg_entry_eq]
  generalize (lg_sl ([.ref h, .int x1, .int x2]) ++ List.replicate (4 - (lg_sl ([.ref h, .int x1, .int x2])).length) Slot.unset).toArray = ls at hl ⊢
  have hl : lv_has ls 4 [(0, .ref h), (1, .int x1), (2, .int x2)] := hl
  obtain ⟨H, hHe⟩ : ∃ H : Heap, H = s.heap := ⟨_, rfl⟩
  rw [← hHe] at hP
  have hS : va_S A s.heap H [] := by rw [hHe]; exact va_S.rf
  refine ct_start hHe ?_
  refine lv_aload_n hx hb dX12_copyDance_0 rfl (lv_at hl 0 rfl) ?_
  refine va_get (D := D) (ci := 12) (v := .ref (r 16)) (C := RX12) (T := TX12) (N := 45) hx hb hts hi12 hown hK hP 0 rfl rfl 16 (by decide) (hts (.fieldLink RX12 31 "OverHillModel" "lines" "[I") (by decide +kernel)) (fun _ h9 => h9) rfl dX12_copyDance_1 ?_
  refine lv_iconst (v := 1) hx hb dX12_copyDance_4 (by decide) ?_
  refine lv_iload_n hx hb dX12_copyDance_5 rfl (lv_at hl 1 rfl) ?_
  refine lv_iload_n hx hb dX12_copyDance_6 rfl (lv_at hl 2 rfl) ?_
  refine ct_callv (D := D) (wc := (w_c_X12_copyRow_1z cI cJ cB cZ cO (r 16))) (wr := [mo h r 0 bp, ((r 17), .inl (cI, 55, .inl (fun _ => 0))), ((r 18), .inl (cI, 120, .inl (fun _ => 0))), ((r 19), .inl (cI, 30, .inl (f))), ((r 20), .inl (cI, 160, .inl (fun _ => 0))), ((r 21), .inl (cZ, 1000, .inl (fun _ => 0))), ((r 22), .inl (cI, 120, .inl (fun _ => 0))), ((r 23), .inl (cI, 50, .inl (fun _ => 0))), ((r 24), .inl (cI, 800, .inl (fun _ => 0)))]) (va_runS (As := [.ref (r 16), .int 1, .int x1, .int x2]) (rest := []) ⟨hx, hb, hml, hown, hts⟩ (c_X12_copyRow_1z l D cI cJ cB cZ cO (r 16) x1 x2 (by omega) (by omega) H.size) (va_cwS 4 hts gX12_copyDance_X12_copyRow rfl rfl rfl (by decide +kernel) ⟨Nat.le_of_ble_eq_true rfl, Nat.le_of_ble_eq_true rfl⟩) (ct_preS (T := ct_T cI cJ cB cZ cO) hE hP hD [1] (by decide) rfl) rfl rfl hl.1 rfl (lv_room (Nat.le_of_ble_eq_true rfl)) dX12_copyDance_7 ⟨Nat.le_of_ble_eq_true rfl, Nat.le_of_ble_eq_true rfl⟩) hP hD hS hA [1] [0, 2, 3, 4, 5, 6, 7, 8, 9] rfl rfl (by decide) (by decide) (fun u H locs hw hP hD hS => ?_)
  have hP : va_P D vwCl [mo h r 0 bp, ((r 17), .inl (cI, 55, .inl (fun _ => 0))), ((r 18), .inl (cI, 120, .inl (fun _ => 0))), ((r 19), .inl (cI, 30, .inl (f))), ((r 20), .inl (cI, 160, .inl (fun _ => 0))), ((r 21), .inl (cZ, 1000, .inl (fun _ => 0))), ((r 22), .inl (cI, 120, .inl (fun _ => 0))), ((r 23), .inl (cI, 50, .inl (fun _ => 0))), ((r 24), .inl (cI, 800, .inl (fun _ => 0))), ((r 16), .inl (cI, 5, .inl (fun _ => 0)))] H := hP
  have hD : va_D A [mo h r 0 bp, ((r 17), .inl (cI, 55, .inl (fun _ => 0))), ((r 18), .inl (cI, 120, .inl (fun _ => 0))), ((r 19), .inl (cI, 30, .inl (f))), ((r 20), .inl (cI, 160, .inl (fun _ => 0))), ((r 21), .inl (cZ, 1000, .inl (fun _ => 0))), ((r 22), .inl (cI, 120, .inl (fun _ => 0))), ((r 23), .inl (cI, 50, .inl (fun _ => 0))), ((r 24), .inl (cI, 800, .inl (fun _ => 0))), ((r 16), .inl (cI, 5, .inl (fun _ => 0)))] := hD
  refine lv_aload_n hx hb dX12_copyDance_10 rfl (lv_at hl 0 rfl) ?_
  refine va_get (D := D) (ci := 12) (v := .ref (r 17)) (C := RX12) (T := TX12) (N := 45) hx hb hts hi12 hown hK hP 0 rfl rfl 17 (by decide) (hts (.fieldLink RX12 34 "OverHillModel" "has" "[I") (by decide +kernel)) (fun _ h9 => h9) rfl dX12_copyDance_11 ?_
  refine lv_bipush (v := 11) hx hb dX12_copyDance_14 (by decide) ?_
  refine lv_iload_n hx hb dX12_copyDance_16 rfl (lv_at hl 1 rfl) ?_
  refine lv_iload_n hx hb dX12_copyDance_17 rfl (lv_at hl 2 rfl) ?_
  refine ct_callv (D := D) (wc := (w_c_X12_copyRow_11z cI cJ cB cZ cO (r 17))) (wr := [mo h r 0 bp, ((r 18), .inl (cI, 120, .inl (fun _ => 0))), ((r 19), .inl (cI, 30, .inl (f))), ((r 20), .inl (cI, 160, .inl (fun _ => 0))), ((r 21), .inl (cZ, 1000, .inl (fun _ => 0))), ((r 22), .inl (cI, 120, .inl (fun _ => 0))), ((r 23), .inl (cI, 50, .inl (fun _ => 0))), ((r 24), .inl (cI, 800, .inl (fun _ => 0))), ((r 16), .inl (cI, 5, .inl (fun _ => 0)))]) (va_runS (As := [.ref (r 17), .int 11, .int x1, .int x2]) (rest := []) ⟨hx, hb, hml, hown, hts⟩ (c_X12_copyRow_11z l D cI cJ cB cZ cO (r 17) x1 x2 (by omega) (by omega) H.size) (va_cwS 4 hts gX12_copyDance_X12_copyRow rfl rfl rfl (by decide +kernel) ⟨Nat.le_of_ble_eq_true rfl, Nat.le_of_ble_eq_true rfl⟩) (ct_preS (T := ct_T cI cJ cB cZ cO) hE hP hD [1] (by decide) rfl) rfl rfl hl.1 rfl (lv_room (Nat.le_of_ble_eq_true rfl)) dX12_copyDance_18 ⟨Nat.le_of_ble_eq_true rfl, Nat.le_of_ble_eq_true rfl⟩) hP hD hS hA [1] [0, 2, 3, 4, 5, 6, 7, 8, 9] rfl rfl (by decide) (by decide) (fun u H locs hw hP hD hS => ?_)
  have hP : va_P D vwCl [mo h r 0 bp, ((r 18), .inl (cI, 120, .inl (fun _ => 0))), ((r 19), .inl (cI, 30, .inl (f))), ((r 20), .inl (cI, 160, .inl (fun _ => 0))), ((r 21), .inl (cZ, 1000, .inl (fun _ => 0))), ((r 22), .inl (cI, 120, .inl (fun _ => 0))), ((r 23), .inl (cI, 50, .inl (fun _ => 0))), ((r 24), .inl (cI, 800, .inl (fun _ => 0))), ((r 16), .inl (cI, 5, .inl (fun _ => 0))), ((r 17), .inl (cI, 55, .inl (fun _ => 0)))] H := hP
  have hD : va_D A [mo h r 0 bp, ((r 18), .inl (cI, 120, .inl (fun _ => 0))), ((r 19), .inl (cI, 30, .inl (f))), ((r 20), .inl (cI, 160, .inl (fun _ => 0))), ((r 21), .inl (cZ, 1000, .inl (fun _ => 0))), ((r 22), .inl (cI, 120, .inl (fun _ => 0))), ((r 23), .inl (cI, 50, .inl (fun _ => 0))), ((r 24), .inl (cI, 800, .inl (fun _ => 0))), ((r 16), .inl (cI, 5, .inl (fun _ => 0))), ((r 17), .inl (cI, 55, .inl (fun _ => 0)))] := hD
  refine lv_aload_n hx hb dX12_copyDance_21 rfl (lv_at hl 0 rfl) ?_
  refine va_get (D := D) (ci := 12) (v := .ref (r 18)) (C := RX12) (T := TX12) (N := 45) hx hb hts hi12 hown hK hP 0 rfl rfl 18 (by decide) (hts (.fieldLink RX12 37 "OverHillModel" "round" "[I") (by decide +kernel)) (fun _ h9 => h9) rfl dX12_copyDance_22 ?_
  refine lv_bipush (v := 24) hx hb dX12_copyDance_25 (by decide) ?_
  refine lv_iload_n hx hb dX12_copyDance_27 rfl (lv_at hl 1 rfl) ?_
  refine lv_iload_n hx hb dX12_copyDance_28 rfl (lv_at hl 2 rfl) ?_
  refine ct_callv (D := D) (wc := (w_c_X12_copyRow_24z cI cJ cB cZ cO (r 18))) (wr := [mo h r 0 bp, ((r 19), .inl (cI, 30, .inl (f))), ((r 20), .inl (cI, 160, .inl (fun _ => 0))), ((r 21), .inl (cZ, 1000, .inl (fun _ => 0))), ((r 22), .inl (cI, 120, .inl (fun _ => 0))), ((r 23), .inl (cI, 50, .inl (fun _ => 0))), ((r 24), .inl (cI, 800, .inl (fun _ => 0))), ((r 16), .inl (cI, 5, .inl (fun _ => 0))), ((r 17), .inl (cI, 55, .inl (fun _ => 0)))]) (va_runS (As := [.ref (r 18), .int 24, .int x1, .int x2]) (rest := []) ⟨hx, hb, hml, hown, hts⟩ (c_X12_copyRow_24z l D cI cJ cB cZ cO (r 18) x1 x2 (by omega) (by omega) H.size) (va_cwS 4 hts gX12_copyDance_X12_copyRow rfl rfl rfl (by decide +kernel) ⟨Nat.le_of_ble_eq_true rfl, Nat.le_of_ble_eq_true rfl⟩) (ct_preS (T := ct_T cI cJ cB cZ cO) hE hP hD [1] (by decide) rfl) rfl rfl hl.1 rfl (lv_room (Nat.le_of_ble_eq_true rfl)) dX12_copyDance_29 ⟨Nat.le_of_ble_eq_true rfl, Nat.le_of_ble_eq_true rfl⟩) hP hD hS hA [1] [0, 2, 3, 4, 5, 6, 7, 8, 9] rfl rfl (by decide) (by decide) (fun u H locs hw hP hD hS => ?_)
  have hP : va_P D vwCl [mo h r 0 bp, ((r 19), .inl (cI, 30, .inl (f))), ((r 20), .inl (cI, 160, .inl (fun _ => 0))), ((r 21), .inl (cZ, 1000, .inl (fun _ => 0))), ((r 22), .inl (cI, 120, .inl (fun _ => 0))), ((r 23), .inl (cI, 50, .inl (fun _ => 0))), ((r 24), .inl (cI, 800, .inl (fun _ => 0))), ((r 16), .inl (cI, 5, .inl (fun _ => 0))), ((r 17), .inl (cI, 55, .inl (fun _ => 0))), ((r 18), .inl (cI, 120, .inl (fun _ => 0)))] H := hP
  have hD : va_D A [mo h r 0 bp, ((r 19), .inl (cI, 30, .inl (f))), ((r 20), .inl (cI, 160, .inl (fun _ => 0))), ((r 21), .inl (cZ, 1000, .inl (fun _ => 0))), ((r 22), .inl (cI, 120, .inl (fun _ => 0))), ((r 23), .inl (cI, 50, .inl (fun _ => 0))), ((r 24), .inl (cI, 800, .inl (fun _ => 0))), ((r 16), .inl (cI, 5, .inl (fun _ => 0))), ((r 17), .inl (cI, 55, .inl (fun _ => 0))), ((r 18), .inl (cI, 120, .inl (fun _ => 0)))] := hD
  refine lv_aload_n hx hb dX12_copyDance_32 rfl (lv_at hl 0 rfl) ?_
  refine va_get (D := D) (ci := 12) (v := .ref (r 19)) (C := RX12) (T := TX12) (N := 45) hx hb hts hi12 hown hK hP 0 rfl rfl 19 (by decide) (hts (.fieldLink RX12 40 "OverHillModel" "meets" "[I") (by decide +kernel)) (fun _ h9 => h9) rfl dX12_copyDance_33 ?_
  refine lv_bipush (v := 6) hx hb dX12_copyDance_36 (by decide) ?_
  refine lv_iload_n hx hb dX12_copyDance_38 rfl (lv_at hl 1 rfl) ?_
  refine lv_iload_n hx hb dX12_copyDance_39 rfl (lv_at hl 2 rfl) ?_
  refine ct_callv (D := D) (wc := (w_c_X12_copyRow_6 cI cJ cB cZ cO (r 19) f)) (wr := [mo h r 0 bp, ((r 20), .inl (cI, 160, .inl (fun _ => 0))), ((r 21), .inl (cZ, 1000, .inl (fun _ => 0))), ((r 22), .inl (cI, 120, .inl (fun _ => 0))), ((r 23), .inl (cI, 50, .inl (fun _ => 0))), ((r 24), .inl (cI, 800, .inl (fun _ => 0))), ((r 16), .inl (cI, 5, .inl (fun _ => 0))), ((r 17), .inl (cI, 55, .inl (fun _ => 0))), ((r 18), .inl (cI, 120, .inl (fun _ => 0)))]) (va_runS (As := [.ref (r 19), .int 6, .int x1, .int x2]) (rest := []) ⟨hx, hb, hml, hown, hts⟩ (c_X12_copyRow_6 l D cI cJ cB cZ cO (r 19) f x1 x2 (by omega) (by omega) H.size) (va_cwS 4 hts gX12_copyDance_X12_copyRow rfl rfl rfl (by decide +kernel) ⟨Nat.le_of_ble_eq_true rfl, Nat.le_of_ble_eq_true rfl⟩) (ct_preS (T := ct_T cI cJ cB cZ cO) hE hP hD [1] (by decide) rfl) rfl rfl hl.1 rfl (lv_room (Nat.le_of_ble_eq_true rfl)) dX12_copyDance_40 ⟨Nat.le_of_ble_eq_true rfl, Nat.le_of_ble_eq_true rfl⟩) hP hD hS hA [1] [0, 2, 3, 4, 5, 6, 7, 8, 9] rfl rfl (by decide) (by decide) (fun u H locs hw hP hD hS => ?_)
  obtain ⟨u492, rfl⟩ : ∃ z, z = u := ⟨_, rfl⟩
  have hP : va_P D vwCl [mo h r 0 bp, ((r 20), .inl (cI, 160, .inl (fun _ => 0))), ((r 21), .inl (cZ, 1000, .inl (fun _ => 0))), ((r 22), .inl (cI, 120, .inl (fun _ => 0))), ((r 23), .inl (cI, 50, .inl (fun _ => 0))), ((r 24), .inl (cI, 800, .inl (fun _ => 0))), ((r 16), .inl (cI, 5, .inl (fun _ => 0))), ((r 17), .inl (cI, 55, .inl (fun _ => 0))), ((r 18), .inl (cI, 120, .inl (fun _ => 0))), ((r 19), .inl (cI, 30, .inl (u492)))] H := hP
  have hD : va_D A [mo h r 0 bp, ((r 20), .inl (cI, 160, .inl (fun _ => 0))), ((r 21), .inl (cZ, 1000, .inl (fun _ => 0))), ((r 22), .inl (cI, 120, .inl (fun _ => 0))), ((r 23), .inl (cI, 50, .inl (fun _ => 0))), ((r 24), .inl (cI, 800, .inl (fun _ => 0))), ((r 16), .inl (cI, 5, .inl (fun _ => 0))), ((r 17), .inl (cI, 55, .inl (fun _ => 0))), ((r 18), .inl (cI, 120, .inl (fun _ => 0))), ((r 19), .inl (cI, 30, .inl (u492)))] := hD
  refine lv_aload_n hx hb dX12_copyDance_43 rfl (lv_at hl 0 rfl) ?_
  refine va_get (D := D) (ci := 12) (v := .ref (r 20)) (C := RX12) (T := TX12) (N := 45) hx hb hts hi12 hown hK hP 0 rfl rfl 20 (by decide) (hts (.fieldLink RX12 43 "OverHillModel" "stumble" "[I") (by decide +kernel)) (fun _ h9 => h9) rfl dX12_copyDance_44 ?_
  refine lv_bipush (v := 32) hx hb dX12_copyDance_47 (by decide) ?_
  refine lv_iload_n hx hb dX12_copyDance_49 rfl (lv_at hl 1 rfl) ?_
  refine lv_iload_n hx hb dX12_copyDance_50 rfl (lv_at hl 2 rfl) ?_
  refine ct_callv (D := D) (wc := (w_c_X12_copyRow_32z cI cJ cB cZ cO (r 20))) (wr := [mo h r 0 bp, ((r 21), .inl (cZ, 1000, .inl (fun _ => 0))), ((r 22), .inl (cI, 120, .inl (fun _ => 0))), ((r 23), .inl (cI, 50, .inl (fun _ => 0))), ((r 24), .inl (cI, 800, .inl (fun _ => 0))), ((r 16), .inl (cI, 5, .inl (fun _ => 0))), ((r 17), .inl (cI, 55, .inl (fun _ => 0))), ((r 18), .inl (cI, 120, .inl (fun _ => 0))), ((r 19), .inl (cI, 30, .inl (u492)))]) (va_runS (As := [.ref (r 20), .int 32, .int x1, .int x2]) (rest := []) ⟨hx, hb, hml, hown, hts⟩ (c_X12_copyRow_32z l D cI cJ cB cZ cO (r 20) x1 x2 (by omega) (by omega) H.size) (va_cwS 4 hts gX12_copyDance_X12_copyRow rfl rfl rfl (by decide +kernel) ⟨Nat.le_of_ble_eq_true rfl, Nat.le_of_ble_eq_true rfl⟩) (ct_preS (T := ct_T cI cJ cB cZ cO) hE hP hD [1] (by decide) rfl) rfl rfl hl.1 rfl (lv_room (Nat.le_of_ble_eq_true rfl)) dX12_copyDance_51 ⟨Nat.le_of_ble_eq_true rfl, Nat.le_of_ble_eq_true rfl⟩) hP hD hS hA [1] [0, 2, 3, 4, 5, 6, 7, 8, 9] rfl rfl (by decide) (by decide) (fun u H locs hw hP hD hS => ?_)
  have hP : va_P D vwCl [mo h r 0 bp, ((r 21), .inl (cZ, 1000, .inl (fun _ => 0))), ((r 22), .inl (cI, 120, .inl (fun _ => 0))), ((r 23), .inl (cI, 50, .inl (fun _ => 0))), ((r 24), .inl (cI, 800, .inl (fun _ => 0))), ((r 16), .inl (cI, 5, .inl (fun _ => 0))), ((r 17), .inl (cI, 55, .inl (fun _ => 0))), ((r 18), .inl (cI, 120, .inl (fun _ => 0))), ((r 19), .inl (cI, 30, .inl (u492))), ((r 20), .inl (cI, 160, .inl (fun _ => 0)))] H := hP
  have hD : va_D A [mo h r 0 bp, ((r 21), .inl (cZ, 1000, .inl (fun _ => 0))), ((r 22), .inl (cI, 120, .inl (fun _ => 0))), ((r 23), .inl (cI, 50, .inl (fun _ => 0))), ((r 24), .inl (cI, 800, .inl (fun _ => 0))), ((r 16), .inl (cI, 5, .inl (fun _ => 0))), ((r 17), .inl (cI, 55, .inl (fun _ => 0))), ((r 18), .inl (cI, 120, .inl (fun _ => 0))), ((r 19), .inl (cI, 30, .inl (u492))), ((r 20), .inl (cI, 160, .inl (fun _ => 0)))] := hD
  refine lv_aload_n hx hb dX12_copyDance_54 rfl (lv_at hl 0 rfl) ?_
  refine va_get (D := D) (ci := 12) (v := .ref (r 22)) (C := RX12) (T := TX12) (N := 45) hx hb hts hi12 hown hK hP 0 rfl rfl 22 (by decide) (hts (.fieldLink RX12 50 "OverHillModel" "cell" "[I") (by decide +kernel)) (fun _ h9 => h9) rfl dX12_copyDance_55 ?_
  refine lv_bipush (v := 24) hx hb dX12_copyDance_58 (by decide) ?_
  refine lv_iload_n hx hb dX12_copyDance_60 rfl (lv_at hl 1 rfl) ?_
  refine lv_iload_n hx hb dX12_copyDance_61 rfl (lv_at hl 2 rfl) ?_
  refine ct_callv (D := D) (wc := (w_c_X12_copyRow_24z cI cJ cB cZ cO (r 22))) (wr := [mo h r 0 bp, ((r 21), .inl (cZ, 1000, .inl (fun _ => 0))), ((r 23), .inl (cI, 50, .inl (fun _ => 0))), ((r 24), .inl (cI, 800, .inl (fun _ => 0))), ((r 16), .inl (cI, 5, .inl (fun _ => 0))), ((r 17), .inl (cI, 55, .inl (fun _ => 0))), ((r 18), .inl (cI, 120, .inl (fun _ => 0))), ((r 19), .inl (cI, 30, .inl (u492))), ((r 20), .inl (cI, 160, .inl (fun _ => 0)))]) (va_runS (As := [.ref (r 22), .int 24, .int x1, .int x2]) (rest := []) ⟨hx, hb, hml, hown, hts⟩ (c_X12_copyRow_24z l D cI cJ cB cZ cO (r 22) x1 x2 (by omega) (by omega) H.size) (va_cwS 4 hts gX12_copyDance_X12_copyRow rfl rfl rfl (by decide +kernel) ⟨Nat.le_of_ble_eq_true rfl, Nat.le_of_ble_eq_true rfl⟩) (ct_preS (T := ct_T cI cJ cB cZ cO) hE hP hD [2] (by decide) rfl) rfl rfl hl.1 rfl (lv_room (Nat.le_of_ble_eq_true rfl)) dX12_copyDance_62 ⟨Nat.le_of_ble_eq_true rfl, Nat.le_of_ble_eq_true rfl⟩) hP hD hS hA [2] [0, 1, 3, 4, 5, 6, 7, 8, 9] rfl rfl (by decide) (by decide) (fun u H locs hw hP hD hS => ?_)
  have hP : va_P D vwCl [mo h r 0 bp, ((r 21), .inl (cZ, 1000, .inl (fun _ => 0))), ((r 23), .inl (cI, 50, .inl (fun _ => 0))), ((r 24), .inl (cI, 800, .inl (fun _ => 0))), ((r 16), .inl (cI, 5, .inl (fun _ => 0))), ((r 17), .inl (cI, 55, .inl (fun _ => 0))), ((r 18), .inl (cI, 120, .inl (fun _ => 0))), ((r 19), .inl (cI, 30, .inl (u492))), ((r 20), .inl (cI, 160, .inl (fun _ => 0))), ((r 22), .inl (cI, 120, .inl (fun _ => 0)))] H := hP
  have hD : va_D A [mo h r 0 bp, ((r 21), .inl (cZ, 1000, .inl (fun _ => 0))), ((r 23), .inl (cI, 50, .inl (fun _ => 0))), ((r 24), .inl (cI, 800, .inl (fun _ => 0))), ((r 16), .inl (cI, 5, .inl (fun _ => 0))), ((r 17), .inl (cI, 55, .inl (fun _ => 0))), ((r 18), .inl (cI, 120, .inl (fun _ => 0))), ((r 19), .inl (cI, 30, .inl (u492))), ((r 20), .inl (cI, 160, .inl (fun _ => 0))), ((r 22), .inl (cI, 120, .inl (fun _ => 0)))] := hD
  refine lv_aload_n hx hb dX12_copyDance_65 rfl (lv_at hl 0 rfl) ?_
  refine va_get (D := D) (ci := 12) (v := .ref (r 23)) (C := RX12) (T := TX12) (N := 45) hx hb hts hi12 hown hK hP 0 rfl rfl 23 (by decide) (hts (.fieldLink RX12 53 "OverHillModel" "tune" "[I") (by decide +kernel)) (fun _ h9 => h9) rfl dX12_copyDance_66 ?_
  refine lv_bipush (v := 10) hx hb dX12_copyDance_69 (by decide) ?_
  refine lv_iload_n hx hb dX12_copyDance_71 rfl (lv_at hl 1 rfl) ?_
  refine lv_iload_n hx hb dX12_copyDance_72 rfl (lv_at hl 2 rfl) ?_
  refine ct_callv (D := D) (wc := (w_c_X12_copyRow_10z cI cJ cB cZ cO (r 23))) (wr := [mo h r 0 bp, ((r 21), .inl (cZ, 1000, .inl (fun _ => 0))), ((r 24), .inl (cI, 800, .inl (fun _ => 0))), ((r 16), .inl (cI, 5, .inl (fun _ => 0))), ((r 17), .inl (cI, 55, .inl (fun _ => 0))), ((r 18), .inl (cI, 120, .inl (fun _ => 0))), ((r 19), .inl (cI, 30, .inl (u492))), ((r 20), .inl (cI, 160, .inl (fun _ => 0))), ((r 22), .inl (cI, 120, .inl (fun _ => 0)))]) (va_runS (As := [.ref (r 23), .int 10, .int x1, .int x2]) (rest := []) ⟨hx, hb, hml, hown, hts⟩ (c_X12_copyRow_10z l D cI cJ cB cZ cO (r 23) x1 x2 (by omega) (by omega) H.size) (va_cwS 4 hts gX12_copyDance_X12_copyRow rfl rfl rfl (by decide +kernel) ⟨Nat.le_of_ble_eq_true rfl, Nat.le_of_ble_eq_true rfl⟩) (ct_preS (T := ct_T cI cJ cB cZ cO) hE hP hD [2] (by decide) rfl) rfl rfl hl.1 rfl (lv_room (Nat.le_of_ble_eq_true rfl)) dX12_copyDance_73 ⟨Nat.le_of_ble_eq_true rfl, Nat.le_of_ble_eq_true rfl⟩) hP hD hS hA [2] [0, 1, 3, 4, 5, 6, 7, 8, 9] rfl rfl (by decide) (by decide) (fun u H locs hw hP hD hS => ?_)
  have hP : va_P D vwCl [mo h r 0 bp, ((r 21), .inl (cZ, 1000, .inl (fun _ => 0))), ((r 24), .inl (cI, 800, .inl (fun _ => 0))), ((r 16), .inl (cI, 5, .inl (fun _ => 0))), ((r 17), .inl (cI, 55, .inl (fun _ => 0))), ((r 18), .inl (cI, 120, .inl (fun _ => 0))), ((r 19), .inl (cI, 30, .inl (u492))), ((r 20), .inl (cI, 160, .inl (fun _ => 0))), ((r 22), .inl (cI, 120, .inl (fun _ => 0))), ((r 23), .inl (cI, 50, .inl (fun _ => 0)))] H := hP
  have hD : va_D A [mo h r 0 bp, ((r 21), .inl (cZ, 1000, .inl (fun _ => 0))), ((r 24), .inl (cI, 800, .inl (fun _ => 0))), ((r 16), .inl (cI, 5, .inl (fun _ => 0))), ((r 17), .inl (cI, 55, .inl (fun _ => 0))), ((r 18), .inl (cI, 120, .inl (fun _ => 0))), ((r 19), .inl (cI, 30, .inl (u492))), ((r 20), .inl (cI, 160, .inl (fun _ => 0))), ((r 22), .inl (cI, 120, .inl (fun _ => 0))), ((r 23), .inl (cI, 50, .inl (fun _ => 0)))] := hD
  refine lv_aload_n hx hb dX12_copyDance_76 rfl (lv_at hl 0 rfl) ?_
  refine va_get (D := D) (ci := 12) (v := .ref (r 24)) (C := RX12) (T := TX12) (N := 45) hx hb hts hi12 hown hK hP 0 rfl rfl 24 (by decide) (hts (.fieldLink RX12 56 "OverHillModel" "change" "[I") (by decide +kernel)) (fun _ h9 => h9) rfl dX12_copyDance_77 ?_
  refine lv_sipush (v := 160) hx hb dX12_copyDance_80 (by decide) ?_
  refine lv_iload_n hx hb dX12_copyDance_83 rfl (lv_at hl 1 rfl) ?_
  refine lv_iload_n hx hb dX12_copyDance_84 rfl (lv_at hl 2 rfl) ?_
  refine ct_callv (D := D) (wc := (w_c_X12_copyRow_160z cI cJ cB cZ cO (r 24))) (wr := [mo h r 0 bp, ((r 21), .inl (cZ, 1000, .inl (fun _ => 0))), ((r 16), .inl (cI, 5, .inl (fun _ => 0))), ((r 17), .inl (cI, 55, .inl (fun _ => 0))), ((r 18), .inl (cI, 120, .inl (fun _ => 0))), ((r 19), .inl (cI, 30, .inl (u492))), ((r 20), .inl (cI, 160, .inl (fun _ => 0))), ((r 22), .inl (cI, 120, .inl (fun _ => 0))), ((r 23), .inl (cI, 50, .inl (fun _ => 0)))]) (va_runS (As := [.ref (r 24), .int 160, .int x1, .int x2]) (rest := []) ⟨hx, hb, hml, hown, hts⟩ (c_X12_copyRow_160z l D cI cJ cB cZ cO (r 24) x1 x2 (by omega) (by omega) H.size) (va_cwS 4 hts gX12_copyDance_X12_copyRow rfl rfl rfl (by decide +kernel) ⟨Nat.le_of_ble_eq_true rfl, Nat.le_of_ble_eq_true rfl⟩) (ct_preS (T := ct_T cI cJ cB cZ cO) hE hP hD [2] (by decide) rfl) rfl rfl hl.1 rfl (lv_room (Nat.le_of_ble_eq_true rfl)) dX12_copyDance_85 ⟨Nat.le_of_ble_eq_true rfl, Nat.le_of_ble_eq_true rfl⟩) hP hD hS hA [2] [0, 1, 3, 4, 5, 6, 7, 8, 9] rfl rfl (by decide) (by decide) (fun u H locs hw hP hD hS => ?_)
  have hP : va_P D vwCl [mo h r 0 bp, ((r 21), .inl (cZ, 1000, .inl (fun _ => 0))), ((r 16), .inl (cI, 5, .inl (fun _ => 0))), ((r 17), .inl (cI, 55, .inl (fun _ => 0))), ((r 18), .inl (cI, 120, .inl (fun _ => 0))), ((r 19), .inl (cI, 30, .inl (u492))), ((r 20), .inl (cI, 160, .inl (fun _ => 0))), ((r 22), .inl (cI, 120, .inl (fun _ => 0))), ((r 23), .inl (cI, 50, .inl (fun _ => 0))), ((r 24), .inl (cI, 800, .inl (fun _ => 0)))] H := hP
  have hD : va_D A [mo h r 0 bp, ((r 21), .inl (cZ, 1000, .inl (fun _ => 0))), ((r 16), .inl (cI, 5, .inl (fun _ => 0))), ((r 17), .inl (cI, 55, .inl (fun _ => 0))), ((r 18), .inl (cI, 120, .inl (fun _ => 0))), ((r 19), .inl (cI, 30, .inl (u492))), ((r 20), .inl (cI, 160, .inl (fun _ => 0))), ((r 22), .inl (cI, 120, .inl (fun _ => 0))), ((r 23), .inl (cI, 50, .inl (fun _ => 0))), ((r 24), .inl (cI, 800, .inl (fun _ => 0)))] := hD
  refine lv_iconst (v := 0) hx hb dX12_copyDance_88 (by decide) ?_
  refine lv_istore_n (lv' := [(3, .int 0), (0, .ref h), (1, .int x1), (2, .int x2)]) hx hb dX12_copyDance_89 rfl hl (by decide) rfl (fun ls hl => ?_)
  refine lp_X12_copyDance_90 D cI cJ cB cZ cO h r bp x1 x2 u492 h_x1 h_x2 hx hb hown hts hE (fun  H locs ls hP hD hS hl => ?_) 200 0  _ _ _ (by omega) hP hD hS (lv_sub hl [0, 1, 2, 3] rfl)
  have hP9 := hP.sub (ws' := [mo h r 0 bp, ((r 16), .inl (cI, 5, .inl (fun _ => 0)))]) [0, 2] rfl
  have hD9 := hD.sub (ws' := [mo h r 0 bp, ((r 16), .inl (cI, 5, .inl (fun _ => 0)))]) [0, 2] (by decide) rfl
  exact W.vret hx hb hr (fun t ht hW => ⟨⟨(), rfl, trivial, by rw [ht]; exact hP9, hD9⟩, hS.F ht⟩) hS.2.2 dX12_copyDance_127
