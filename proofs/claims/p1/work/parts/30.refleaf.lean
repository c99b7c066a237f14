abbrev w_c_X12_in (cI cJ cB cZ cO : ClassId)  : va_W := []
set_option maxHeartbeats 4000000 in
set_option maxRecDepth 100000 in
/-- between two numbers -/
theorem c_X12_in (l : Launch) (D : va_G) (cI cJ cB cZ cO : ClassId) (nv : Int64) (na : Int64) (nb : Int64) (NV : Int) (NA : Int) (NB : Int) (h_v : nv.toInt = NV) (h_a : na.toInt = NA) (h_b : nb.toInt = NB) (sz : Nat) : Met l yX12_in wsX12_in ({ frames := 0, cells := 0, slots := 0, locals := 0 }) (va_Pc [.long nv, .long na, .long nb] (ct_P D (ct_T cI cJ cB cZ cO) (w_c_X12_in cI cJ cB cZ cO ) sz)) (va_Qi (fun (rz : Int32) (u : Unit) => (rz = 1 ∧ (NA ≤ NV ∧ NV ≤ NB)) ∨ (rz = 0 ∧ ¬ (NA ≤ NV ∧ NV ≤ NB))) (fun (u : Unit) t => ct_Q D (va_A (w_c_X12_in cI cJ cB cZ cO ) sz) [] t) (va_A (w_c_X12_in cI cJ cB cZ cO ) sz)) 0 0 (va_A (w_c_X12_in cI cJ cB cZ cO ) sz) := by
  refine Met.ofW (cc := cX12_in) (maxL := 6) (ret := (some .boolean)) (by decide) rfl ?_
  intro p e s m args below meth c s₁ B hml hv
  obtain ⟨rfl, hsz, hP, hE, hD0⟩ := hv
  have hx := B.exec
  have hb := B.bytes
  have hr := B.returns
  have hts := atoms_spec (ws := wsX12_in) B.pre
  have hown : s.vm.findClass RX12 = some m.cls := findClass_of_methodNamed B.named
  have hlocks := B.notSynchronized
  have hK := hE.1
  subst hsz
  have hD := hD0.self (sz := s.heap.size)
  generalize hAe : va_A (w_c_X12_in cI cJ cB cZ cO ) s.heap.size = A at hD ⊢
  have hA : ∀ q : Nat, s.heap.size ≤ q → A q := fun q h => by rw [← hAe]; exact Or.inr h
  have hS : va_S A s.heap s.heap [] := va_S.rf
  have hP : va_P D vwCl [] s.heap := hP
  have hD : va_D A [] := hD
  have hl := lv_entry ([.long nv, .long na, .long nb]) (n := 6) (Nat.le_of_ble_eq_true rfl)
  rw [lg_entry_eq]
  generalize (lg_sl ([.long nv, .long na, .long nb]) ++ List.replicate (6 - (lg_sl ([.long nv, .long na, .long nb])).length) Slot.unset).toArray = ls at hl ⊢
  have hl : lv_has ls 6 [(0, .long nv), (2, .long na), (4, .long nb)] := hl
  obtain ⟨H, hHe⟩ : ∃ H : Heap, H = s.heap := ⟨_, rfl⟩
  rw [← hHe] at hP
  have hS : va_S A s.heap H [] := by rw [hHe]; exact va_S.rf
  refine ct_start hHe ?_
  refine lv_lload_n hx hb dX12_in_0 rfl (lv_at hl 0 rfl) ?_
  refine lv_lload_n hx hb dX12_in_1 rfl (lv_at hl 1 rfl) ?_
  refine W.lcmp hx hb dX12_in_2 ?_
  refine lv_if_lt (tgt := 17) hx hb dX12_in_3 (by decide) (fun hc => ?_) (fun hc => ?_)
  · have hq273 : NV < NA := tl_lt h_v h_a ((lg_cmp_lt _ _).mp hc)
    refine lv_iconst (v := 0) hx hb dX12_in_17 (by decide) ?_
    have hP9 := hP.sub (ws' := []) [] rfl
    have hD9 := hD.sub (ws' := []) [] (by decide) rfl
    exact W.zret (v := 0) (ty := .boolean) hx hb hr rfl (fun t ht hW => ⟨⟨0, (), rfl, (Or.inr (⟨rfl, by omega⟩)), by rw [ht]; exact hP9, hD9⟩, hS.F ht⟩) hS.2.2 dX12_in_18
  · have hq273 : NA ≤ NV := tl_nlt h_v h_a (fun z => hc ((lg_cmp_lt _ _).mpr z))
    refine lv_lload_n hx hb dX12_in_6 rfl (lv_at hl 0 rfl) ?_
    refine lv_lload hx hb dX12_in_7 (lv_at hl 2 rfl) ?_
    refine W.lcmp hx hb dX12_in_9 ?_
    refine lv_if_gt (tgt := 17) hx hb dX12_in_10 (by decide) (fun hc => ?_) (fun hc => ?_)
    · have hq274 : NB < NV := tl_lt h_b h_v ((lg_cmp_gt _ _).mp hc)
      refine lv_iconst (v := 0) hx hb dX12_in_17 (by decide) ?_
      have hP9 := hP.sub (ws' := []) [] rfl
      have hD9 := hD.sub (ws' := []) [] (by decide) rfl
      exact W.zret (v := 0) (ty := .boolean) hx hb hr rfl (fun t ht hW => ⟨⟨0, (), rfl, (Or.inr (⟨rfl, by omega⟩)), by rw [ht]; exact hP9, hD9⟩, hS.F ht⟩) hS.2.2 dX12_in_18
    · have hq274 : NV ≤ NB := tl_nlt h_b h_v (fun z => hc ((lg_cmp_gt _ _).mpr z))
      refine lv_iconst (v := 1) hx hb dX12_in_13 (by decide) ?_
      refine lv_goto (tgt := 18) hx hb dX12_in_14 (by decide) ?_
      have hP9 := hP.sub (ws' := []) [] rfl
      have hD9 := hD.sub (ws' := []) [] (by decide) rfl
      exact W.zret (v := 1) (ty := .boolean) hx hb hr rfl (fun t ht hW => ⟨⟨1, (), rfl, (Or.inl ⟨rfl, by omega⟩), by rw [ht]; exact hP9, hD9⟩, hS.F ht⟩) hS.2.2 dX12_in_18
abbrev w_c_X12_isSlot (cI cJ cB cZ cO : ClassId)  : va_W := []
set_option maxHeartbeats 4000000 in
set_option maxRecDepth 100000 in
/-- a slot -/
theorem c_X12_isSlot (l : Launch) (D : va_G) (cI cJ cB cZ cO : ClassId) (v : Int32) (sz : Nat) : Met l yX12_isSlot wsX12_isSlot ({ frames := 1, cells := 0, slots := 0, locals := 25 }) (va_Pc [.int v] (ct_P D (ct_T cI cJ cB cZ cO) (w_c_X12_isSlot cI cJ cB cZ cO ) sz)) (va_Qi (fun (rz : Int32) (u : Unit) => (rz = 1 ∧ (0 ≤ v.toInt ∧ v.toInt ≤ 3)) ∨ (rz = 0 ∧ ¬ (0 ≤ v.toInt ∧ v.toInt ≤ 3))) (fun (u : Unit) t => ct_Q D (va_A (w_c_X12_isSlot cI cJ cB cZ cO ) sz) [] t) (va_A (w_c_X12_isSlot cI cJ cB cZ cO ) sz)) 0 0 (va_A (w_c_X12_isSlot cI cJ cB cZ cO ) sz) := by
  refine Met.ofW (cc := cX12_isSlot) (maxL := 1) (ret := (some .boolean)) (by decide) rfl ?_
  intro p e s m args below meth c s₁ B hml hv
  obtain ⟨rfl, hsz, hP, hE, hD0⟩ := hv
  have hx := B.exec
  have hb := B.bytes
  have hr := B.returns
  have hts := atoms_spec (ws := wsX12_isSlot) B.pre
  have hown : s.vm.findClass RX12 = some m.cls := findClass_of_methodNamed B.named
  have hlocks := B.notSynchronized
  have hK := hE.1
  subst hsz
  have hD := hD0.self (sz := s.heap.size)
  generalize hAe : va_A (w_c_X12_isSlot cI cJ cB cZ cO ) s.heap.size = A at hD ⊢
  have hA : ∀ q : Nat, s.heap.size ≤ q → A q := fun q h => by rw [← hAe]; exact Or.inr h
  have hS : va_S A s.heap s.heap [] := va_S.rf
  have hP : va_P D vwCl [] s.heap := hP
  have hD : va_D A [] := hD
  have hl := lv_entry ([.int v]) (n := 1) (Nat.le_of_ble_eq_true rfl)
  rw [lg_entry_eq]
  generalize (lg_sl ([.int v]) ++ List.replicate (1 - (lg_sl ([.int v])).length) Slot.unset).toArray = ls at hl ⊢
  have hl : lv_has ls 1 [(0, .int v)] := hl
  obtain ⟨H, hHe⟩ : ∃ H : Heap, H = s.heap := ⟨_, rfl⟩
  rw [← hHe] at hP
  have hS : va_S A s.heap H [] := by rw [hHe]; exact va_S.rf
  refine ct_start hHe ?_
  refine lv_iload_n hx hb dX12_isSlot_0 rfl (lv_at hl 0 rfl) ?_
  refine lv_i2l (v := v.toInt64) hx hb dX12_isSlot_1 rfl ?_
  refine lv_lconst (v := 0) hx hb dX12_isSlot_2 (by decide) ?_
  refine lv_ldc2 (v := 3) hx hb hown (hts (.constantLong RX12 83 (3)) (by decide +kernel)) dX12_isSlot_3 ?_
  refine ct_calli (D := D) (wc := (w_c_X12_in cI cJ cB cZ cO )) (wr := []) (va_runS (As := [.long v.toInt64, .long 0, .long 3]) (rest := []) ⟨hx, hb, hml, hown, hts⟩ (c_X12_in l D cI cJ cB cZ cO v.toInt64 0 3 v.toInt 0 3 (tl_i rfl) (by decide) (by decide) H.size) (va_cwS 3 hts gX12_isSlot_X12_in rfl rfl rfl (by decide +kernel) ⟨Nat.le_of_ble_eq_true rfl, Nat.le_of_ble_eq_true rfl⟩) (ct_preS (T := ct_T cI cJ cB cZ cO) hE hP hD [] (by decide) rfl) rfl rfl hl.1 rfl (lv_room (Nat.le_of_ble_eq_true rfl)) dX12_isSlot_6 ⟨Nat.le_of_ble_eq_true rfl, Nat.le_of_ble_eq_true rfl⟩) hP hD hS hA [] [] rfl rfl (by decide) (by decide) (fun rz u H locs hw hP hD hS => ?_)
  have hP : va_P D vwCl [] H := hP
  have hD : va_D A [] := hD
  rcases hw with ⟨rfl, hq275⟩ | ⟨rfl, hq275⟩
  · have hP9 := hP.sub (ws' := []) [] rfl
    have hD9 := hD.sub (ws' := []) [] (by decide) rfl
    exact W.zret (v := 1) (ty := .boolean) hx hb hr rfl (fun t ht hW => ⟨⟨1, (), rfl, (Or.inl ⟨rfl, by omega⟩), by rw [ht]; exact hP9, hD9⟩, hS.F ht⟩) hS.2.2 dX12_isSlot_9
  · have hP9 := hP.sub (ws' := []) [] rfl
    have hD9 := hD.sub (ws' := []) [] (by decide) rfl
    exact W.zret (v := 0) (ty := .boolean) hx hb hr rfl (fun t ht hW => ⟨⟨0, (), rfl, (Or.inr (⟨rfl, by omega⟩)), by rw [ht]; exact hP9, hD9⟩, hS.F ht⟩) hS.2.2 dX12_isSlot_9
abbrev w_c_X12_isDance (cI cJ cB cZ cO : ClassId) (h : Nat) (r : Nat → Nat) : va_W := [mo h r 0 0, ((r 16), .inl (cI, 5, .inl (fun _ => 0)))]
set_option maxHeartbeats 4000000 in
set_option maxRecDepth 100000 in
/-- isDance, of the reference, on a new object -/
theorem c_X12_isDance (l : Launch) (D : va_G) (cI cJ cB cZ cO : ClassId) (h : Nat) (r : Nat → Nat) (sz : Nat) : Met l yX12_isDance wsX12_isDance ({ frames := 0, cells := 0, slots := 0, locals := 0 }) (va_Pc [.ref h] (ct_P D (ct_T cI cJ cB cZ cO) (w_c_X12_isDance cI cJ cB cZ cO h r) sz)) (va_Qi (fun (rz : Int32) (u : Unit) => (rz = 0 ∧ True)) (fun (u : Unit) t => ct_Q D (va_A (w_c_X12_isDance cI cJ cB cZ cO h r) sz) [mo h r 0 0, ((r 16), .inl (cI, 5, .inl (fun _ => 0)))] t) (va_A (w_c_X12_isDance cI cJ cB cZ cO h r) sz)) 0 0 (va_A (w_c_X12_isDance cI cJ cB cZ cO h r) sz) := by
  refine Met.ofW (cc := cX12_isDance) (maxL := 1) (ret := (some .boolean)) (by decide) rfl ?_
  intro p e s m args below meth c s₁ B hml hv
  obtain ⟨rfl, hsz, hP, hE, hD0⟩ := hv
  have hx := B.exec
  have hb := B.bytes
  have hr := B.returns
  have hts := atoms_spec (ws := wsX12_isDance) B.pre
  have hown : s.vm.findClass RX12 = some m.cls := findClass_of_methodNamed B.named
  have hlocks := B.notSynchronized
  have hK := hE.1
  have hi12 : ∀ w ∈ u_ws RX12 TX12 45, w ∈ wsX12_isDance := fun w h => List.mem_cons_of_mem _ (List.mem_append_right _ h)
  subst hsz
  have hD := hD0.self (sz := s.heap.size)
  generalize hAe : va_A (w_c_X12_isDance cI cJ cB cZ cO h r) s.heap.size = A at hD ⊢
  have hA : ∀ q : Nat, s.heap.size ≤ q → A q := fun q h => by rw [← hAe]; exact Or.inr h
  have hS : va_S A s.heap s.heap [] := va_S.rf
  have hP : va_P D vwCl [mo h r 0 0, ((r 16), .inl (cI, 5, .inl (fun _ => 0)))] s.heap := hP
  have hD : va_D A [mo h r 0 0, ((r 16), .inl (cI, 5, .inl (fun _ => 0)))] := hD
  have hl := lv_entry ([.ref h]) (n := 1) (Nat.le_of_ble_eq_true rfl)
  rw [lg_entry_eq]
  generalize (lg_sl ([.ref h]) ++ List.replicate (1 - (lg_sl ([.ref h])).length) Slot.unset).toArray = ls at hl ⊢
  have hl : lv_has ls 1 [(0, .ref h)] := hl
  obtain ⟨H, hHe⟩ : ∃ H : Heap, H = s.heap := ⟨_, rfl⟩
  rw [← hHe] at hP
  have hS : va_S A s.heap H [] := by rw [hHe]; exact va_S.rf
  refine ct_start hHe ?_
  refine lv_aload_n hx hb dX12_isDance_0 rfl (lv_at hl 0 rfl) ?_
  refine va_get (D := D) (ci := 12) (v := .ref (r 16)) (C := RX12) (T := TX12) (N := 45) hx hb hts hi12 hown hK hP 0 rfl rfl 16 (by decide) (hts (.fieldLink RX12 31 "OverHillModel" "lines" "[I") (by decide +kernel)) (fun _ h9 => h9) rfl dX12_isDance_1 ?_
  refine lv_iconst (v := 0) hx hb dX12_isDance_4 (by decide) ?_
  refine va_iald (D := D) hx hb hK hP 1 0 rfl rfl (tq_in (a := 0) (by decide) (by omega)) dX12_isDance_5 ?_
  refine lv_topi (fun z276 ez276 => ?_)
  obtain rfl : z276 = 0 := ez276
  refine lv_if_le (tgt := 13) hx hb dX12_isDance_6 (by decide) (fun _ => ?_) (fun hc => absurd hc (by decide))
  refine lv_iconst (v := 0) hx hb dX12_isDance_13 (by decide) ?_
  have hP9 := hP.sub (ws' := [mo h r 0 0, ((r 16), .inl (cI, 5, .inl (fun _ => 0)))]) [0, 1] rfl
  have hD9 := hD.sub (ws' := [mo h r 0 0, ((r 16), .inl (cI, 5, .inl (fun _ => 0)))]) [0, 1] (by decide) rfl
  exact W.zret (v := 0) (ty := .boolean) hx hb hr rfl (fun t ht hW => ⟨⟨0, (), rfl, ⟨rfl, trivial⟩, by rw [ht]; exact hP9, hD9⟩, hS.F ht⟩) hS.2.2 dX12_isDance_14
abbrev w_c_X12_isSide (cI cJ cB cZ cO : ClassId) (h : Nat) (r : Nat → Nat) : va_W := [mo h r 0 0, ((r 16), .inl (cI, 5, .inl (fun _ => 0)))]
set_option maxHeartbeats 4000000 in
set_option maxRecDepth 100000 in
/-- isSide, of the reference, on a new object -/
theorem c_X12_isSide (l : Launch) (D : va_G) (cI cJ cB cZ cO : ClassId) (h : Nat) (r : Nat → Nat) (x1 : Int32) (sz : Nat) : Met l yX12_isSide wsX12_isSide ({ frames := 1, cells := 0, slots := 0, locals := 20 }) (va_Pc [.ref h, .int x1] (ct_P D (ct_T cI cJ cB cZ cO) (w_c_X12_isSide cI cJ cB cZ cO h r) sz)) (va_Qi (fun (rz : Int32) (u : Unit) => (rz = 0 ∧ True)) (fun (u : Unit) t => ct_Q D (va_A (w_c_X12_isSide cI cJ cB cZ cO h r) sz) [mo h r 0 0, ((r 16), .inl (cI, 5, .inl (fun _ => 0)))] t) (va_A (w_c_X12_isSide cI cJ cB cZ cO h r) sz)) 0 0 (va_A (w_c_X12_isSide cI cJ cB cZ cO h r) sz) := by
  refine Met.ofW (cc := cX12_isSide) (maxL := 2) (ret := (some .boolean)) (by decide) rfl ?_
  intro p e s m args below meth c s₁ B hml hv
  obtain ⟨rfl, hsz, hP, hE, hD0⟩ := hv
  have hx := B.exec
  have hb := B.bytes
  have hr := B.returns
  have hts := atoms_spec (ws := wsX12_isSide) B.pre
  have hown : s.vm.findClass RX12 = some m.cls := findClass_of_methodNamed B.named
  have hlocks := B.notSynchronized
  have hK := hE.1
  subst hsz
  have hD := hD0.self (sz := s.heap.size)
  generalize hAe : va_A (w_c_X12_isSide cI cJ cB cZ cO h r) s.heap.size = A at hD ⊢
  have hA : ∀ q : Nat, s.heap.size ≤ q → A q := fun q h => by rw [← hAe]; exact Or.inr h
  have hS : va_S A s.heap s.heap [] := va_S.rf
  have hP : va_P D vwCl [mo h r 0 0, ((r 16), .inl (cI, 5, .inl (fun _ => 0)))] s.heap := hP
  have hD : va_D A [mo h r 0 0, ((r 16), .inl (cI, 5, .inl (fun _ => 0)))] := hD
  have hl := lv_entry ([.ref h, .int x1]) (n := 2) (Nat.le_of_ble_eq_true rfl)
  rw [lg_entry_eq]
  generalize (lg_sl ([.ref h, .int x1]) ++ List.replicate (2 - (lg_sl ([.ref h, .int x1])).length) Slot.unset).toArray = ls at hl ⊢
  have hl : lv_has ls 2 [(0, .ref h), (1, .int x1)] := hl
  obtain ⟨H, hHe⟩ : ∃ H : Heap, H = s.heap := ⟨_, rfl⟩
  rw [← hHe] at hP
  have hS : va_S A s.heap H [] := by rw [hHe]; exact va_S.rf
  refine ct_start hHe ?_
  refine lv_aload_n hx hb dX12_isSide_0 rfl (lv_at hl 0 rfl) ?_
  refine ct_calli (D := D) (wc := (w_c_X12_isDance cI cJ cB cZ cO h r)) (wr := []) (va_runV (As := []) (rest := []) ⟨hx, hb, hml, hown, hts⟩ (c_X12_isDance l D cI cJ cB cZ cO h r H.size) (cwV 0 hts gX12_isSide_X12_isDance rfl rfl rfl (by decide +kernel) ⟨Nat.le_of_ble_eq_true rfl, Nat.le_of_ble_eq_true rfl⟩) (ct_preV (T := ct_T cI cJ cB cZ cO) (ci := 12) (q0 := 0) hE hP hD [0, 1] (by decide) rfl rfl rfl) rfl rfl hl.1 rfl (lv_room (Nat.le_of_ble_eq_true rfl)) dX12_isSide_1 ⟨Nat.le_of_ble_eq_true rfl, Nat.le_of_ble_eq_true rfl⟩) hP hD hS hA [0, 1] [] rfl rfl (by decide) (by decide) (fun rz u H locs hw hP hD hS => ?_)
  have hP : va_P D vwCl [mo h r 0 0, ((r 16), .inl (cI, 5, .inl (fun _ => 0)))] H := hP
  have hD : va_D A [mo h r 0 0, ((r 16), .inl (cI, 5, .inl (fun _ => 0)))] := hD
  obtain ⟨rfl, hq277⟩ := hw
  refine lv_if_eq (tgt := 21) hx hb dX12_isSide_4 (by decide) (fun _ => ?_) (fun hc => absurd hc (by decide))
  refine lv_iconst (v := 0) hx hb dX12_isSide_21 (by decide) ?_
  have hP9 := hP.sub (ws' := [mo h r 0 0, ((r 16), .inl (cI, 5, .inl (fun _ => 0)))]) [0, 1] rfl
  have hD9 := hD.sub (ws' := [mo h r 0 0, ((r 16), .inl (cI, 5, .inl (fun _ => 0)))]) [0, 1] (by decide) rfl
  exact W.zret (v := 0) (ty := .boolean) hx hb hr rfl (fun t ht hW => ⟨⟨0, (), rfl, ⟨rfl, trivial⟩, by rw [ht]; exact hP9, hD9⟩, hS.F ht⟩) hS.2.2 dX12_isSide_22
abbrev w_c_X12_isSpan (cI cJ cB cZ cO : ClassId) (h : Nat) (r : Nat → Nat) : va_W := [mo h r 0 0, ((r 16), .inl (cI, 5, .inl (fun _ => 0)))]
set_option maxHeartbeats 4000000 in
set_option maxRecDepth 100000 in
/-- isSpan, of the reference, on a new object -/
theorem c_X12_isSpan (l : Launch) (D : va_G) (cI cJ cB cZ cO : ClassId) (h : Nat) (r : Nat → Nat) (x1 : Int32) (x2 : Int32) (sz : Nat) : Met l yX12_isSpan wsX12_isSpan ({ frames := 1, cells := 0, slots := 0, locals := 20 }) (va_Pc [.ref h, .int x1, .int x2] (ct_P D (ct_T cI cJ cB cZ cO) (w_c_X12_isSpan cI cJ cB cZ cO h r) sz)) (va_Qi (fun (rz : Int32) (u : Unit) => (rz = 0 ∧ True)) (fun (u : Unit) t => ct_Q D (va_A (w_c_X12_isSpan cI cJ cB cZ cO h r) sz) [mo h r 0 0, ((r 16), .inl (cI, 5, .inl (fun _ => 0)))] t) (va_A (w_c_X12_isSpan cI cJ cB cZ cO h r) sz)) 0 0 (va_A (w_c_X12_isSpan cI cJ cB cZ cO h r) sz) := by
  refine Met.ofW (cc := cX12_isSpan) (maxL := 3) (ret := (some .boolean)) (by decide) rfl ?_
  intro p e s m args below meth c s₁ B hml hv
  obtain ⟨rfl, hsz, hP, hE, hD0⟩ := hv
  have hx := B.exec
  have hb := B.bytes
  have hr := B.returns
  have hts := atoms_spec (ws := wsX12_isSpan) B.pre
  have hown : s.vm.findClass RX12 = some m.cls := findClass_of_methodNamed B.named
  have hlocks := B.notSynchronized
  have hK := hE.1
  subst hsz
  have hD := hD0.self (sz := s.heap.size)
  generalize hAe : va_A (w_c_X12_isSpan cI cJ cB cZ cO h r) s.heap.size = A at hD ⊢
  have hA : ∀ q : Nat, s.heap.size ≤ q → A q := fun q h => by rw [← hAe]; exact Or.inr h
  have hS : va_S A s.heap s.heap [] := va_S.rf
  have hP : va_P D vwCl [mo h r 0 0, ((r 16), .inl (cI, 5, .inl (fun _ => 0)))] s.heap := hP
  have hD : va_D A [mo h r 0 0, ((r 16), .inl (cI, 5, .inl (fun _ => 0)))] := hD
  have hl := lv_entry ([.ref h, .int x1, .int x2]) (n := 3) (Nat.le_of_ble_eq_true rfl)
  rw [lg_entry_eq]
  generalize (lg_sl ([.ref h, .int x1, .int x2]) ++ List.replicate (3 - (lg_sl ([.ref h, .int x1, .int x2])).length) Slot.unset).toArray = ls at hl ⊢
  have hl : lv_has ls 3 [(0, .ref h), (1, .int x1), (2, .int x2)] := hl
  obtain ⟨H, hHe⟩ : ∃ H : Heap, H = s.heap := ⟨_, rfl⟩
  rw [← hHe] at hP
  have hS : va_S A s.heap H [] := by rw [hHe]; exact va_S.rf
  refine ct_start hHe ?_
  refine lv_aload_n hx hb dX12_isSpan_0 rfl (lv_at hl 0 rfl) ?_
  refine ct_calli (D := D) (wc := (w_c_X12_isDance cI cJ cB cZ cO h r)) (wr := []) (va_runV (As := []) (rest := []) ⟨hx, hb, hml, hown, hts⟩ (c_X12_isDance l D cI cJ cB cZ cO h r H.size) (cwV 0 hts gX12_isSpan_X12_isDance rfl rfl rfl (by decide +kernel) ⟨Nat.le_of_ble_eq_true rfl, Nat.le_of_ble_eq_true rfl⟩) (ct_preV (T := ct_T cI cJ cB cZ cO) (ci := 12) (q0 := 0) hE hP hD [0, 1] (by decide) rfl rfl rfl) rfl rfl hl.1 rfl (lv_room (Nat.le_of_ble_eq_true rfl)) dX12_isSpan_1 ⟨Nat.le_of_ble_eq_true rfl, Nat.le_of_ble_eq_true rfl⟩) hP hD hS hA [0, 1] [] rfl rfl (by decide) (by decide) (fun rz u H locs hw hP hD hS => ?_)
  have hP : va_P D vwCl [mo h r 0 0, ((r 16), .inl (cI, 5, .inl (fun _ => 0)))] H := hP
  have hD : va_D A [mo h r 0 0, ((r 16), .inl (cI, 5, .inl (fun _ => 0)))] := hD
  obtain ⟨rfl, hq278⟩ := hw
  refine lv_if_eq (tgt := 32) hx hb dX12_isSpan_4 (by decide) (fun _ => ?_) (fun hc => absurd hc (by decide))
  refine lv_iconst (v := 0) hx hb dX12_isSpan_32 (by decide) ?_
  have hP9 := hP.sub (ws' := [mo h r 0 0, ((r 16), .inl (cI, 5, .inl (fun _ => 0)))]) [0, 1] rfl
  have hD9 := hD.sub (ws' := [mo h r 0 0, ((r 16), .inl (cI, 5, .inl (fun _ => 0)))]) [0, 1] (by decide) rfl
  exact W.zret (v := 0) (ty := .boolean) hx hb hr rfl (fun t ht hW => ⟨⟨0, (), rfl, ⟨rfl, trivial⟩, by rw [ht]; exact hP9, hD9⟩, hS.F ht⟩) hS.2.2 dX12_isSpan_33
abbrev w_c_X12_isSet (cI cJ cB cZ cO : ClassId) (h : Nat) (r : Nat → Nat) : va_W := [mo h r 0 0, ((r 16), .inl (cI, 5, .inl (fun _ => 0)))]
set_option maxHeartbeats 4000000 in
set_option maxRecDepth 100000 in
/-- isSet, of the reference, on a new object -/
theorem c_X12_isSet (l : Launch) (D : va_G) (cI cJ cB cZ cO : ClassId) (h : Nat) (r : Nat → Nat) (x1 : Int32) (sz : Nat) : Met l yX12_isSet wsX12_isSet ({ frames := 1, cells := 0, slots := 0, locals := 20 }) (va_Pc [.ref h, .int x1] (ct_P D (ct_T cI cJ cB cZ cO) (w_c_X12_isSet cI cJ cB cZ cO h r) sz)) (va_Qi (fun (rz : Int32) (u : Unit) => (rz = 0 ∧ True)) (fun (u : Unit) t => ct_Q D (va_A (w_c_X12_isSet cI cJ cB cZ cO h r) sz) [mo h r 0 0, ((r 16), .inl (cI, 5, .inl (fun _ => 0)))] t) (va_A (w_c_X12_isSet cI cJ cB cZ cO h r) sz)) 0 0 (va_A (w_c_X12_isSet cI cJ cB cZ cO h r) sz) := by
  refine Met.ofW (cc := cX12_isSet) (maxL := 2) (ret := (some .boolean)) (by decide) rfl ?_
  intro p e s m args below meth c s₁ B hml hv
  obtain ⟨rfl, hsz, hP, hE, hD0⟩ := hv
  have hx := B.exec
  have hb := B.bytes
  have hr := B.returns
  have hts := atoms_spec (ws := wsX12_isSet) B.pre
  have hown : s.vm.findClass RX12 = some m.cls := findClass_of_methodNamed B.named
  have hlocks := B.notSynchronized
  have hK := hE.1
  subst hsz
  have hD := hD0.self (sz := s.heap.size)
  generalize hAe : va_A (w_c_X12_isSet cI cJ cB cZ cO h r) s.heap.size = A at hD ⊢
  have hA : ∀ q : Nat, s.heap.size ≤ q → A q := fun q h => by rw [← hAe]; exact Or.inr h
  have hS : va_S A s.heap s.heap [] := va_S.rf
  have hP : va_P D vwCl [mo h r 0 0, ((r 16), .inl (cI, 5, .inl (fun _ => 0)))] s.heap := hP
  have hD : va_D A [mo h r 0 0, ((r 16), .inl (cI, 5, .inl (fun _ => 0)))] := hD
  have hl := lv_entry ([.ref h, .int x1]) (n := 2) (Nat.le_of_ble_eq_true rfl)
  rw [lg_entry_eq]
  generalize (lg_sl ([.ref h, .int x1]) ++ List.replicate (2 - (lg_sl ([.ref h, .int x1])).length) Slot.unset).toArray = ls at hl ⊢
  have hl : lv_has ls 2 [(0, .ref h), (1, .int x1)] := hl
  obtain ⟨H, hHe⟩ : ∃ H : Heap, H = s.heap := ⟨_, rfl⟩
  rw [← hHe] at hP
  have hS : va_S A s.heap H [] := by rw [hHe]; exact va_S.rf
  refine ct_start hHe ?_
  refine lv_aload_n hx hb dX12_isSet_0 rfl (lv_at hl 0 rfl) ?_
  refine ct_calli (D := D) (wc := (w_c_X12_isDance cI cJ cB cZ cO h r)) (wr := []) (va_runV (As := []) (rest := []) ⟨hx, hb, hml, hown, hts⟩ (c_X12_isDance l D cI cJ cB cZ cO h r H.size) (cwV 0 hts gX12_isSet_X12_isDance rfl rfl rfl (by decide +kernel) ⟨Nat.le_of_ble_eq_true rfl, Nat.le_of_ble_eq_true rfl⟩) (ct_preV (T := ct_T cI cJ cB cZ cO) (ci := 12) (q0 := 0) hE hP hD [0, 1] (by decide) rfl rfl rfl) rfl rfl hl.1 rfl (lv_room (Nat.le_of_ble_eq_true rfl)) dX12_isSet_1 ⟨Nat.le_of_ble_eq_true rfl, Nat.le_of_ble_eq_true rfl⟩) hP hD hS hA [0, 1] [] rfl rfl (by decide) (by decide) (fun rz u H locs hw hP hD hS => ?_)
  have hP : va_P D vwCl [mo h r 0 0, ((r 16), .inl (cI, 5, .inl (fun _ => 0)))] H := hP
  have hD : va_D A [mo h r 0 0, ((r 16), .inl (cI, 5, .inl (fun _ => 0)))] := hD
  obtain ⟨rfl, hq279⟩ := hw
  refine lv_if_eq (tgt := 32) hx hb dX12_isSet_4 (by decide) (fun _ => ?_) (fun hc => absurd hc (by decide))
  refine lv_iconst (v := 0) hx hb dX12_isSet_32 (by decide) ?_
  have hP9 := hP.sub (ws' := [mo h r 0 0, ((r 16), .inl (cI, 5, .inl (fun _ => 0)))]) [0, 1] rfl
  have hD9 := hD.sub (ws' := [mo h r 0 0, ((r 16), .inl (cI, 5, .inl (fun _ => 0)))]) [0, 1] (by decide) rfl
  exact W.zret (v := 0) (ty := .boolean) hx hb hr rfl (fun t ht hW => ⟨⟨0, (), rfl, ⟨rfl, trivial⟩, by rw [ht]; exact hP9, hD9⟩, hS.F ht⟩) hS.2.2 dX12_isSet_33
abbrev w_c_X12_isRain (cI cJ cB cZ cO : ClassId) (h : Nat) (r : Nat → Nat) : va_W := [mo h r 0 0, ((r 16), .inl (cI, 5, .inl (fun _ => 0)))]
set_option maxHeartbeats 4000000 in
set_option maxRecDepth 100000 in
/-- isRain, of the reference, on a new object -/
theorem c_X12_isRain (l : Launch) (D : va_G) (cI cJ cB cZ cO : ClassId) (h : Nat) (r : Nat → Nat) (x1 : Int32) (x2 : Int32) (sz : Nat) : Met l yX12_isRain wsX12_isRain ({ frames := 1, cells := 0, slots := 0, locals := 20 }) (va_Pc [.ref h, .int x1, .int x2] (ct_P D (ct_T cI cJ cB cZ cO) (w_c_X12_isRain cI cJ cB cZ cO h r) sz)) (va_Qi (fun (rz : Int32) (u : Unit) => (rz = 0 ∧ True)) (fun (u : Unit) t => ct_Q D (va_A (w_c_X12_isRain cI cJ cB cZ cO h r) sz) [mo h r 0 0, ((r 16), .inl (cI, 5, .inl (fun _ => 0)))] t) (va_A (w_c_X12_isRain cI cJ cB cZ cO h r) sz)) 0 0 (va_A (w_c_X12_isRain cI cJ cB cZ cO h r) sz) := by
  refine Met.ofW (cc := cX12_isRain) (maxL := 3) (ret := (some .boolean)) (by decide) rfl ?_
  intro p e s m args below meth c s₁ B hml hv
  obtain ⟨rfl, hsz, hP, hE, hD0⟩ := hv
  have hx := B.exec
  have hb := B.bytes
  have hr := B.returns
  have hts := atoms_spec (ws := wsX12_isRain) B.pre
  have hown : s.vm.findClass RX12 = some m.cls := findClass_of_methodNamed B.named
  have hlocks := B.notSynchronized
  have hK := hE.1
  subst hsz
  have hD := hD0.self (sz := s.heap.size)
  generalize hAe : va_A (w_c_X12_isRain cI cJ cB cZ cO h r) s.heap.size = A at hD ⊢
  have hA : ∀ q : Nat, s.heap.size ≤ q → A q := fun q h => by rw [← hAe]; exact Or.inr h
  have hS : va_S A s.heap s.heap [] := va_S.rf
  have hP : va_P D vwCl [mo h r 0 0, ((r 16), .inl (cI, 5, .inl (fun _ => 0)))] s.heap := hP
  have hD : va_D A [mo h r 0 0, ((r 16), .inl (cI, 5, .inl (fun _ => 0)))] := hD
  have hl := lv_entry ([.ref h, .int x1, .int x2]) (n := 3) (Nat.le_of_ble_eq_true rfl)
  rw [lg_entry_eq]
  generalize (lg_sl ([.ref h, .int x1, .int x2]) ++ List.replicate (3 - (lg_sl ([.ref h, .int x1, .int x2])).length) Slot.unset).toArray = ls at hl ⊢
  have hl : lv_has ls 3 [(0, .ref h), (1, .int x1), (2, .int x2)] := hl
  obtain ⟨H, hHe⟩ : ∃ H : Heap, H = s.heap := ⟨_, rfl⟩
  rw [← hHe] at hP
  have hS : va_S A s.heap H [] := by rw [hHe]; exact va_S.rf
  refine ct_start hHe ?_
  refine lv_aload_n hx hb dX12_isRain_0 rfl (lv_at hl 0 rfl) ?_
  refine ct_calli (D := D) (wc := (w_c_X12_isDance cI cJ cB cZ cO h r)) (wr := []) (va_runV (As := []) (rest := []) ⟨hx, hb, hml, hown, hts⟩ (c_X12_isDance l D cI cJ cB cZ cO h r H.size) (cwV 0 hts gX12_isRain_X12_isDance rfl rfl rfl (by decide +kernel) ⟨Nat.le_of_ble_eq_true rfl, Nat.le_of_ble_eq_true rfl⟩) (ct_preV (T := ct_T cI cJ cB cZ cO) (ci := 12) (q0 := 0) hE hP hD [0, 1] (by decide) rfl rfl rfl) rfl rfl hl.1 rfl (lv_room (Nat.le_of_ble_eq_true rfl)) dX12_isRain_1 ⟨Nat.le_of_ble_eq_true rfl, Nat.le_of_ble_eq_true rfl⟩) hP hD hS hA [0, 1] [] rfl rfl (by decide) (by decide) (fun rz u H locs hw hP hD hS => ?_)
  have hP : va_P D vwCl [mo h r 0 0, ((r 16), .inl (cI, 5, .inl (fun _ => 0)))] H := hP
  have hD : va_D A [mo h r 0 0, ((r 16), .inl (cI, 5, .inl (fun _ => 0)))] := hD
  obtain ⟨rfl, hq280⟩ := hw
  refine lv_if_eq (tgt := 33) hx hb dX12_isRain_4 (by decide) (fun _ => ?_) (fun hc => absurd hc (by decide))
  refine lv_iconst (v := 0) hx hb dX12_isRain_33 (by decide) ?_
  have hP9 := hP.sub (ws' := [mo h r 0 0, ((r 16), .inl (cI, 5, .inl (fun _ => 0)))]) [0, 1] rfl
  have hD9 := hD.sub (ws' := [mo h r 0 0, ((r 16), .inl (cI, 5, .inl (fun _ => 0)))]) [0, 1] (by decide) rfl
  exact W.zret (v := 0) (ty := .boolean) hx hb hr rfl (fun t ht hW => ⟨⟨0, (), rfl, ⟨rfl, trivial⟩, by rw [ht]; exact hP9, hD9⟩, hS.F ht⟩) hS.2.2 dX12_isRain_34
abbrev w_c_X12_isDraw (cI cJ cB cZ cO : ClassId) (h : Nat) (r : Nat → Nat) : va_W := [mo h r 0 0, ((r 16), .inl (cI, 5, .inl (fun _ => 0)))]
set_option maxHeartbeats 4000000 in
set_option maxRecDepth 100000 in
/-- isDraw, of the reference, on a new object -/
theorem c_X12_isDraw (l : Launch) (D : va_G) (cI cJ cB cZ cO : ClassId) (h : Nat) (r : Nat → Nat) (x1 : Int32) (x2 : Int32) (sz : Nat) : Met l yX12_isDraw wsX12_isDraw ({ frames := 1, cells := 0, slots := 0, locals := 20 }) (va_Pc [.ref h, .int x1, .int x2] (ct_P D (ct_T cI cJ cB cZ cO) (w_c_X12_isDraw cI cJ cB cZ cO h r) sz)) (va_Qi (fun (rz : Int32) (u : Unit) => (rz = 0 ∧ True)) (fun (u : Unit) t => ct_Q D (va_A (w_c_X12_isDraw cI cJ cB cZ cO h r) sz) [mo h r 0 0, ((r 16), .inl (cI, 5, .inl (fun _ => 0)))] t) (va_A (w_c_X12_isDraw cI cJ cB cZ cO h r) sz)) 0 0 (va_A (w_c_X12_isDraw cI cJ cB cZ cO h r) sz) := by
  refine Met.ofW (cc := cX12_isDraw) (maxL := 3) (ret := (some .boolean)) (by decide) rfl ?_
  intro p e s m args below meth c s₁ B hml hv
  obtain ⟨rfl, hsz, hP, hE, hD0⟩ := hv
  have hx := B.exec
  have hb := B.bytes
  have hr := B.returns
  have hts := atoms_spec (ws := wsX12_isDraw) B.pre
  have hown : s.vm.findClass RX12 = some m.cls := findClass_of_methodNamed B.named
  have hlocks := B.notSynchronized
  have hK := hE.1
  subst hsz
  have hD := hD0.self (sz := s.heap.size)
  generalize hAe : va_A (w_c_X12_isDraw cI cJ cB cZ cO h r) s.heap.size = A at hD ⊢
  have hA : ∀ q : Nat, s.heap.size ≤ q → A q := fun q h => by rw [← hAe]; exact Or.inr h
  have hS : va_S A s.heap s.heap [] := va_S.rf
  have hP : va_P D vwCl [mo h r 0 0, ((r 16), .inl (cI, 5, .inl (fun _ => 0)))] s.heap := hP
  have hD : va_D A [mo h r 0 0, ((r 16), .inl (cI, 5, .inl (fun _ => 0)))] := hD
  have hl := lv_entry ([.ref h, .int x1, .int x2]) (n := 3) (Nat.le_of_ble_eq_true rfl)
  rw [lg_entry_eq]
  generalize (lg_sl ([.ref h, .int x1, .int x2]) ++ List.replicate (3 - (lg_sl ([.ref h, .int x1, .int x2])).length) Slot.unset).toArray = ls at hl ⊢
  have hl : lv_has ls 3 [(0, .ref h), (1, .int x1), (2, .int x2)] := hl
  obtain ⟨H, hHe⟩ : ∃ H : Heap, H = s.heap := ⟨_, rfl⟩
  rw [← hHe] at hP
  have hS : va_S A s.heap H [] := by rw [hHe]; exact va_S.rf
  refine ct_start hHe ?_
  refine lv_aload_n hx hb dX12_isDraw_0 rfl (lv_at hl 0 rfl) ?_
  refine ct_calli (D := D) (wc := (w_c_X12_isDance cI cJ cB cZ cO h r)) (wr := []) (va_runV (As := []) (rest := []) ⟨hx, hb, hml, hown, hts⟩ (c_X12_isDance l D cI cJ cB cZ cO h r H.size) (cwV 0 hts gX12_isDraw_X12_isDance rfl rfl rfl (by decide +kernel) ⟨Nat.le_of_ble_eq_true rfl, Nat.le_of_ble_eq_true rfl⟩) (ct_preV (T := ct_T cI cJ cB cZ cO) (ci := 12) (q0 := 0) hE hP hD [0, 1] (by decide) rfl rfl rfl) rfl rfl hl.1 rfl (lv_room (Nat.le_of_ble_eq_true rfl)) dX12_isDraw_1 ⟨Nat.le_of_ble_eq_true rfl, Nat.le_of_ble_eq_true rfl⟩) hP hD hS hA [0, 1] [] rfl rfl (by decide) (by decide) (fun rz u H locs hw hP hD hS => ?_)
  have hP : va_P D vwCl [mo h r 0 0, ((r 16), .inl (cI, 5, .inl (fun _ => 0)))] H := hP
  have hD : va_D A [mo h r 0 0, ((r 16), .inl (cI, 5, .inl (fun _ => 0)))] := hD
  obtain ⟨rfl, hq281⟩ := hw
  refine lv_if_eq (tgt := 35) hx hb dX12_isDraw_4 (by decide) (fun _ => ?_) (fun hc => absurd hc (by decide))
  refine lv_iconst (v := 0) hx hb dX12_isDraw_35 (by decide) ?_
  have hP9 := hP.sub (ws' := [mo h r 0 0, ((r 16), .inl (cI, 5, .inl (fun _ => 0)))]) [0, 1] rfl
  have hD9 := hD.sub (ws' := [mo h r 0 0, ((r 16), .inl (cI, 5, .inl (fun _ => 0)))]) [0, 1] (by decide) rfl
  exact W.zret (v := 0) (ty := .boolean) hx hb hr rfl (fun t ht hW => ⟨⟨0, (), rfl, ⟨rfl, trivial⟩, by rw [ht]; exact hP9, hD9⟩, hS.F ht⟩) hS.2.2 dX12_isDraw_36
abbrev w_c_X12_whyNot (cI cJ cB cZ cO : ClassId) (h : Nat) (r : Nat → Nat) : va_W := [mo h r 0 0, ((r 16), .inl (cI, 5, .inl (fun _ => 0)))]
set_option maxHeartbeats 4000000 in
set_option maxRecDepth 100000 in
/-- whyNot, of the reference, on a new object -/
theorem c_X12_whyNot (l : Launch) (D : va_G) (cI cJ cB cZ cO : ClassId) (h : Nat) (r : Nat → Nat) (x1 : Int32) (x2 : Int32) (sz : Nat) : Met l yX12_whyNot wsX12_whyNot ({ frames := 2, cells := 0, slots := 0, locals := 45 }) (va_Pc [.ref h, .int x1, .int x2] (ct_P D (ct_T cI cJ cB cZ cO) (w_c_X12_whyNot cI cJ cB cZ cO h r) sz)) (va_Qi (fun (rz : Int32) (u : Unit) => (rz = (-2) ∧ True)) (fun (u : Unit) t => ct_Q D (va_A (w_c_X12_whyNot cI cJ cB cZ cO h r) sz) [] t) (va_A (w_c_X12_whyNot cI cJ cB cZ cO h r) sz)) 0 0 (va_A (w_c_X12_whyNot cI cJ cB cZ cO h r) sz) := by
  refine Met.ofW (cc := cX12_whyNot) (maxL := 4) (ret := (some .int)) (by decide) rfl ?_
  intro p e s m args below meth c s₁ B hml hv
  obtain ⟨rfl, hsz, hP, hE, hD0⟩ := hv
  have hx := B.exec
  have hb := B.bytes
  have hr := B.returns
  have hts := atoms_spec (ws := wsX12_whyNot) B.pre
  have hown : s.vm.findClass RX12 = some m.cls := findClass_of_methodNamed B.named
  have hlocks := B.notSynchronized
  have hK := hE.1
  subst hsz
  have hD := hD0.self (sz := s.heap.size)
  generalize hAe : va_A (w_c_X12_whyNot cI cJ cB cZ cO h r) s.heap.size = A at hD ⊢
  have hA : ∀ q : Nat, s.heap.size ≤ q → A q := fun q h => by rw [← hAe]; exact Or.inr h
  have hS : va_S A s.heap s.heap [] := va_S.rf
  have hP : va_P D vwCl [mo h r 0 0, ((r 16), .inl (cI, 5, .inl (fun _ => 0)))] s.heap := hP
  have hD : va_D A [mo h r 0 0, ((r 16), .inl (cI, 5, .inl (fun _ => 0)))] := hD
  have hl := lv_entry ([.ref h, .int x1, .int x2]) (n := 4) (Nat.le_of_ble_eq_true rfl)
  rw [lg_entry_eq]
  generalize (lg_sl ([.ref h, .int x1, .int x2]) ++ List.replicate (4 - (lg_sl ([.ref h, .int x1, .int x2])).length) Slot.unset).toArray = ls at hl ⊢
  have hl : lv_has ls 4 [(0, .ref h), (1, .int x1), (2, .int x2)] := hl
  obtain ⟨H, hHe⟩ : ∃ H : Heap, H = s.heap := ⟨_, rfl⟩
  rw [← hHe] at hP
  have hS : va_S A s.heap H [] := by rw [hHe]; exact va_S.rf
  refine ct_start hHe ?_
  refine lv_iload_n hx hb dX12_whyNot_0 rfl (lv_at hl 1 rfl) ?_
  refine ct_calli (D := D) (wc := (w_c_X12_isSlot cI cJ cB cZ cO )) (wr := [mo h r 0 0, ((r 16), .inl (cI, 5, .inl (fun _ => 0)))]) (va_runS (As := [.int x1]) (rest := []) ⟨hx, hb, hml, hown, hts⟩ (c_X12_isSlot l D cI cJ cB cZ cO x1 H.size) (va_cwS 1 hts gX12_whyNot_X12_isSlot rfl rfl rfl (by decide +kernel) ⟨Nat.le_of_ble_eq_true rfl, Nat.le_of_ble_eq_true rfl⟩) (ct_preS (T := ct_T cI cJ cB cZ cO) hE hP hD [] (by decide) rfl) rfl rfl hl.1 rfl (lv_room (Nat.le_of_ble_eq_true rfl)) dX12_whyNot_1 ⟨Nat.le_of_ble_eq_true rfl, Nat.le_of_ble_eq_true rfl⟩) hP hD hS hA [] [0, 1] rfl rfl (by decide) (by decide) (fun rz u H locs hw hP hD hS => ?_)
  have hP : va_P D vwCl [mo h r 0 0, ((r 16), .inl (cI, 5, .inl (fun _ => 0)))] H := hP
  have hD : va_D A [mo h r 0 0, ((r 16), .inl (cI, 5, .inl (fun _ => 0)))] := hD
  rcases hw with ⟨rfl, hq282⟩ | ⟨rfl, hq282⟩
  · refine lv_if_eq (tgt := 15) hx hb dX12_whyNot_4 (by decide) (fun hc => absurd hc (by decide)) (fun _ => ?_)
    refine lv_aload_n hx hb dX12_whyNot_7 rfl (lv_at hl 0 rfl) ?_
    refine lv_iload_n hx hb dX12_whyNot_8 rfl (lv_at hl 2 rfl) ?_
    refine ct_calli (D := D) (wc := (w_c_X12_isSide cI cJ cB cZ cO h r)) (wr := []) (va_runV (As := [.int x2]) (rest := []) ⟨hx, hb, hml, hown, hts⟩ (c_X12_isSide l D cI cJ cB cZ cO h r x2 H.size) (cwV 1 hts gX12_whyNot_X12_isSide rfl rfl rfl (by decide +kernel) ⟨Nat.le_of_ble_eq_true rfl, Nat.le_of_ble_eq_true rfl⟩) (ct_preV (T := ct_T cI cJ cB cZ cO) (ci := 12) (q0 := 0) hE hP hD [0, 1] (by decide) rfl rfl rfl) rfl rfl hl.1 rfl (lv_room (Nat.le_of_ble_eq_true rfl)) dX12_whyNot_9 ⟨Nat.le_of_ble_eq_true rfl, Nat.le_of_ble_eq_true rfl⟩) hP hD hS hA [0, 1] [] rfl rfl (by decide) (by decide) (fun rz u H locs hw hP hD hS => ?_)
    have hP : va_P D vwCl [mo h r 0 0, ((r 16), .inl (cI, 5, .inl (fun _ => 0)))] H := hP
    have hD : va_D A [mo h r 0 0, ((r 16), .inl (cI, 5, .inl (fun _ => 0)))] := hD
    obtain ⟨rfl, hq283⟩ := hw
    refine lv_if_ne (tgt := 18) hx hb dX12_whyNot_12 (by decide) (fun hc => absurd hc (by decide)) (fun _ => ?_)
    refine lv_bipush (v := (-2)) hx hb dX12_whyNot_15 (by decide) ?_
    have hP9 := hP.sub (ws' := []) [] rfl
    have hD9 := hD.sub (ws' := []) [] (by decide) rfl
    exact W.iret (v := (-2)) hx hb hr (fun t ht hW => ⟨⟨(-2), (), rfl, ⟨rfl, trivial⟩, by rw [ht]; exact hP9, hD9⟩, hS.F ht⟩) hS.2.2 dX12_whyNot_17
  · refine lv_if_eq (tgt := 15) hx hb dX12_whyNot_4 (by decide) (fun _ => ?_) (fun hc => absurd hc (by decide))
    refine lv_bipush (v := (-2)) hx hb dX12_whyNot_15 (by decide) ?_
    have hP9 := hP.sub (ws' := []) [] rfl
    have hD9 := hD.sub (ws' := []) [] (by decide) rfl
    exact W.iret (v := (-2)) hx hb hr (fun t ht hW => ⟨⟨(-2), (), rfl, ⟨rfl, trivial⟩, by rw [ht]; exact hP9, hD9⟩, hS.F ht⟩) hS.2.2 dX12_whyNot_17
abbrev w_c_X12_whyNotHalf (cI cJ cB cZ cO : ClassId) (h : Nat) (r : Nat → Nat) : va_W := [mo h r 0 0, ((r 1), .inl (cI, 4, .inl (szf)))]
set_option maxHeartbeats 4000000 in
set_option maxRecDepth 100000 in
/-- whyNotHalf, of the reference, on a new object -/
theorem c_X12_whyNotHalf (l : Launch) (D : va_G) (cI cJ cB cZ cO : ClassId) (h : Nat) (r : Nat → Nat) (x1 : Int32) (sz : Nat) : Met l yX12_whyNotHalf wsX12_whyNotHalf ({ frames := 2, cells := 0, slots := 0, locals := 45 }) (va_Pc [.ref h, .int x1] (ct_P D (ct_T cI cJ cB cZ cO) (w_c_X12_whyNotHalf cI cJ cB cZ cO h r) sz)) (va_Qi (fun (rz : Int32) (u : Unit) => (rz = (-6) ∧ (0 ≤ x1.toInt ∧ x1.toInt < 4)) ∨ (rz = (-2) ∧ ¬ (0 ≤ x1.toInt ∧ x1.toInt < 4))) (fun (u : Unit) t => ct_Q D (va_A (w_c_X12_whyNotHalf cI cJ cB cZ cO h r) sz) [mo h r 0 0, ((r 1), .inl (cI, 4, .inl (szf)))] t) (va_A (w_c_X12_whyNotHalf cI cJ cB cZ cO h r) sz)) 0 0 (va_A (w_c_X12_whyNotHalf cI cJ cB cZ cO h r) sz) := by
  refine Met.ofW (cc := cX12_whyNotHalf) (maxL := 3) (ret := (some .int)) (by decide) rfl ?_
  intro p e s m args below meth c s₁ B hml hv
  obtain ⟨rfl, hsz, hP, hE, hD0⟩ := hv
  have hx := B.exec
  have hb := B.bytes
  have hr := B.returns
  have hts := atoms_spec (ws := wsX12_whyNotHalf) B.pre
  have hown : s.vm.findClass RX12 = some m.cls := findClass_of_methodNamed B.named
  have hlocks := B.notSynchronized
  have hK := hE.1
  have hi12 : ∀ w ∈ u_ws RX12 TX12 45, w ∈ wsX12_whyNotHalf := fun w h => List.mem_cons_of_mem _ (List.mem_append_right _ h)
  subst hsz
  have hD := hD0.self (sz := s.heap.size)
  generalize hAe : va_A (w_c_X12_whyNotHalf cI cJ cB cZ cO h r) s.heap.size = A at hD ⊢
  have hA : ∀ q : Nat, s.heap.size ≤ q → A q := fun q h => by rw [← hAe]; exact Or.inr h
  have hS : va_S A s.heap s.heap [] := va_S.rf
  have hP : va_P D vwCl [mo h r 0 0, ((r 1), .inl (cI, 4, .inl (szf)))] s.heap := hP
  have hD : va_D A [mo h r 0 0, ((r 1), .inl (cI, 4, .inl (szf)))] := hD
  have hl := lv_entry ([.ref h, .int x1]) (n := 3) (Nat.le_of_ble_eq_true rfl)
  rw [lg_entry_eq]
  generalize (lg_sl ([.ref h, .int x1]) ++ List.replicate (3 - (lg_sl ([.ref h, .int x1])).length) Slot.unset).toArray = ls at hl ⊢
  have hl : lv_has ls 3 [(0, .ref h), (1, .int x1)] := hl
  obtain ⟨H, hHe⟩ : ∃ H : Heap, H = s.heap := ⟨_, rfl⟩
  rw [← hHe] at hP
  have hS : va_S A s.heap H [] := by rw [hHe]; exact va_S.rf
  refine ct_start hHe ?_
  refine lv_iload_n hx hb dX12_whyNotHalf_0 rfl (lv_at hl 1 rfl) ?_
  refine ct_calli (D := D) (wc := (w_c_X12_isSlot cI cJ cB cZ cO )) (wr := [mo h r 0 0, ((r 1), .inl (cI, 4, .inl (szf)))]) (va_runS (As := [.int x1]) (rest := []) ⟨hx, hb, hml, hown, hts⟩ (c_X12_isSlot l D cI cJ cB cZ cO x1 H.size) (va_cwS 1 hts gX12_whyNotHalf_X12_isSlot rfl rfl rfl (by decide +kernel) ⟨Nat.le_of_ble_eq_true rfl, Nat.le_of_ble_eq_true rfl⟩) (ct_preS (T := ct_T cI cJ cB cZ cO) hE hP hD [] (by decide) rfl) rfl rfl hl.1 rfl (lv_room (Nat.le_of_ble_eq_true rfl)) dX12_whyNotHalf_1 ⟨Nat.le_of_ble_eq_true rfl, Nat.le_of_ble_eq_true rfl⟩) hP hD hS hA [] [0, 1] rfl rfl (by decide) (by decide) (fun rz u H locs hw hP hD hS => ?_)
  have hP : va_P D vwCl [mo h r 0 0, ((r 1), .inl (cI, 4, .inl (szf)))] H := hP
  have hD : va_D A [mo h r 0 0, ((r 1), .inl (cI, 4, .inl (szf)))] := hD
  rcases hw with ⟨rfl, hq284⟩ | ⟨rfl, hq284⟩
  · refine lv_if_ne (tgt := 10) hx hb dX12_whyNotHalf_4 (by decide) (fun _ => ?_) (fun hc => absurd hc (by decide))
    refine lv_aload_n hx hb dX12_whyNotHalf_10 rfl (lv_at hl 0 rfl) ?_
    refine va_get (D := D) (ci := 12) (v := .ref (r 1)) (C := RX12) (T := TX12) (N := 45) hx hb hts hi12 hown hK hP 0 rfl rfl 1 (by decide) (hts (.fieldLink RX12 7 "OverHillModel" "width" "[I") (by decide +kernel)) (fun _ h9 => h9) rfl dX12_whyNotHalf_11 ?_
    refine lv_iload_n hx hb dX12_whyNotHalf_14 rfl (lv_at hl 1 rfl) ?_
    refine va_iald (D := D) hx hb hK hP 1 0 rfl rfl (tq_in rfl (by omega)) dX12_whyNotHalf_15 ?_
    refine lv_topi (fun z285 ez285 => ?_)
    obtain rfl : z285 = (-1) := ez285.trans (szf_m _ (tq_cl rfl (by omega) (by omega)))
    refine lv_iconst (v := (-1)) hx hb dX12_whyNotHalf_16 (by decide) ?_
    refine lv_icmp_ne (tgt := 23) hx hb dX12_whyNotHalf_17 (by decide) (fun hc => absurd hc (by decide)) (fun _ => ?_)
    refine lv_bipush (v := (-6)) hx hb dX12_whyNotHalf_20 (by decide) ?_
    have hP9 := hP.sub (ws' := [mo h r 0 0, ((r 1), .inl (cI, 4, .inl (szf)))]) [0, 1] rfl
    have hD9 := hD.sub (ws' := [mo h r 0 0, ((r 1), .inl (cI, 4, .inl (szf)))]) [0, 1] (by decide) rfl
    exact W.iret (v := (-6)) hx hb hr (fun t ht hW => ⟨⟨(-6), (), rfl, (Or.inl ⟨rfl, by omega⟩), by rw [ht]; exact hP9, hD9⟩, hS.F ht⟩) hS.2.2 dX12_whyNotHalf_22
  · refine lv_if_ne (tgt := 10) hx hb dX12_whyNotHalf_4 (by decide) (fun hc => absurd hc (by decide)) (fun _ => ?_)
    refine lv_bipush (v := (-2)) hx hb dX12_whyNotHalf_7 (by decide) ?_
    have hP9 := hP.sub (ws' := [mo h r 0 0, ((r 1), .inl (cI, 4, .inl (szf)))]) [0, 1] rfl
    have hD9 := hD.sub (ws' := [mo h r 0 0, ((r 1), .inl (cI, 4, .inl (szf)))]) [0, 1] (by decide) rfl
    exact W.iret (v := (-2)) hx hb hr (fun t ht hW => ⟨⟨(-2), (), rfl, (Or.inr (⟨rfl, by omega⟩)), by rw [ht]; exact hP9, hD9⟩, hS.F ht⟩) hS.2.2 dX12_whyNotHalf_9
abbrev w_c_X12_lengthOf (cI cJ cB cZ cO : ClassId) (h : Nat) (r : Nat → Nat) : va_W := [mo h r 0 0, ((r 17), .inl (cI, 55, .inl (fun _ => 0)))]
set_option maxHeartbeats 4000000 in
set_option maxRecDepth 100000 in
/-- no ROUND -/
theorem c_X12_lengthOf (l : Launch) (D : va_G) (cI cJ cB cZ cO : ClassId) (h : Nat) (r : Nat → Nat) (x1 : Int32) (h_x : 0 ≤ x1.toInt ∧ x1.toInt < 2) (sz : Nat) : Met l yX12_lengthOf wsX12_lengthOf ({ frames := 0, cells := 0, slots := 0, locals := 0 }) (va_Pc [.ref h, .int x1] (ct_P D (ct_T cI cJ cB cZ cO) (w_c_X12_lengthOf cI cJ cB cZ cO h r) sz)) (va_Qi (fun (rz : Int32) (u : Unit) => (rz = 0 ∧ True)) (fun (u : Unit) t => ct_Q D (va_A (w_c_X12_lengthOf cI cJ cB cZ cO h r) sz) [mo h r 0 0, ((r 17), .inl (cI, 55, .inl (fun _ => 0)))] t) (va_A (w_c_X12_lengthOf cI cJ cB cZ cO h r) sz)) 0 0 (va_A (w_c_X12_lengthOf cI cJ cB cZ cO h r) sz) := by
  refine Met.ofW (cc := cX12_lengthOf) (maxL := 2) (ret := (some .int)) (by decide) rfl ?_
  intro p e s m args below meth c s₁ B hml hv
  obtain ⟨rfl, hsz, hP, hE, hD0⟩ := hv
  have hx := B.exec
  have hb := B.bytes
  have hr := B.returns
  have hts := atoms_spec (ws := wsX12_lengthOf) B.pre
  have hown : s.vm.findClass RX12 = some m.cls := findClass_of_methodNamed B.named
  have hlocks := B.notSynchronized
  have hK := hE.1
  have hi12 : ∀ w ∈ u_ws RX12 TX12 45, w ∈ wsX12_lengthOf := fun w h => List.mem_cons_of_mem _ (List.mem_append_right _ h)
  subst hsz
  have hD := hD0.self (sz := s.heap.size)
  generalize hAe : va_A (w_c_X12_lengthOf cI cJ cB cZ cO h r) s.heap.size = A at hD ⊢
  have hA : ∀ q : Nat, s.heap.size ≤ q → A q := fun q h => by rw [← hAe]; exact Or.inr h
  have hS : va_S A s.heap s.heap [] := va_S.rf
  have hP : va_P D vwCl [mo h r 0 0, ((r 17), .inl (cI, 55, .inl (fun _ => 0)))] s.heap := hP
  have hD : va_D A [mo h r 0 0, ((r 17), .inl (cI, 55, .inl (fun _ => 0)))] := hD
  have hl := lv_entry ([.ref h, .int x1]) (n := 2) (Nat.le_of_ble_eq_true rfl)
  rw [lg_entry_eq]
  generalize (lg_sl ([.ref h, .int x1]) ++ List.replicate (2 - (lg_sl ([.ref h, .int x1])).length) Slot.unset).toArray = ls at hl ⊢
  have hl : lv_has ls 2 [(0, .ref h), (1, .int x1)] := hl
  obtain ⟨H, hHe⟩ : ∃ H : Heap, H = s.heap := ⟨_, rfl⟩
  rw [← hHe] at hP
  have hS : va_S A s.heap H [] := by rw [hHe]; exact va_S.rf
  refine ct_start hHe ?_
  refine lv_aload_n hx hb dX12_lengthOf_0 rfl (lv_at hl 0 rfl) ?_
  refine va_get (D := D) (ci := 12) (v := .ref (r 17)) (C := RX12) (T := TX12) (N := 45) hx hb hts hi12 hown hK hP 0 rfl rfl 17 (by decide) (hts (.fieldLink RX12 34 "OverHillModel" "has" "[I") (by decide +kernel)) (fun _ h9 => h9) rfl dX12_lengthOf_1 ?_
  refine lv_iconst (v := 3) hx hb dX12_lengthOf_4 (by decide) ?_
  refine lv_iload_n hx hb dX12_lengthOf_5 rfl (lv_at hl 1 rfl) ?_
  refine lv_iadd hx hb dX12_lengthOf_6 ?_
  refine lv_topi (fun z286 ez286 => ?_)
  have fz286 : z286.toInt = (3 + x1.toInt) := by rw [ez286]; exact tq_add (by decide) rfl (by omega)
  refine va_iald (D := D) hx hb hK hP 1 0 rfl rfl (tq_in fz286 (by omega)) dX12_lengthOf_7 ?_
  refine lv_topi (fun z287 ez287 => ?_)
  obtain rfl : z287 = 0 := ez287
  have hP9 := hP.sub (ws' := [mo h r 0 0, ((r 17), .inl (cI, 55, .inl (fun _ => 0)))]) [0, 1] rfl
  have hD9 := hD.sub (ws' := [mo h r 0 0, ((r 17), .inl (cI, 55, .inl (fun _ => 0)))]) [0, 1] (by decide) rfl
  exact W.iret (v := 0) hx hb hr (fun t ht hW => ⟨⟨0, (), rfl, ⟨rfl, trivial⟩, by rw [ht]; exact hP9, hD9⟩, hS.F ht⟩) hS.2.2 dX12_lengthOf_8
