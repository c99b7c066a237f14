abbrev w_c_X12_in (cI cJ cB cZ cO : ClassId)  : va_W := []
set_option maxHeartbeats 4000000 in
set_option maxRecDepth 100000 in
/-- X12 in -/
theorem c_X12_in (l : Launch) (D : va_G) (G : ct_G) (cI cJ cB cZ cO : ClassId) (x : Int64) (y : Int64) (z : Int64)  (sz : Nat) : Met l yX12_in wsX12_in ({ frames := 0, cells := 0, slots := 0, locals := 0 }) (va_Pc [.long x, .long y, .long z] (ct_P D (ct_T cI cJ cB cZ cO) G (w_c_X12_in cI cJ cB cZ cO ) sz)) (va_Qi (fun (rz : Int32) (u : Unit) => ((rz = 1 ∧ (y.toInt ≤ x.toInt ∧ x.toInt ≤ z.toInt)) ∨ (rz = 0 ∧ ¬ (y.toInt ≤ x.toInt ∧ x.toInt ≤ z.toInt)))) (fun (u : Unit) t => ct_Q D (va_A (w_c_X12_in cI cJ cB cZ cO ) sz) [] t) (va_A (w_c_X12_in cI cJ cB cZ cO ) sz)) 0 0 (va_A (w_c_X12_in cI cJ cB cZ cO ) sz) := by
  refine Met.ofW (cc := cX12_in) (maxL := 6) (ret := (some .boolean)) (by decide) rfl ?_
  intro p e s m args below meth c s₁ B hml hv
  obtain ⟨rfl, hsz, hP, hE, hD0, hH⟩ := hv
  have hx := B.exec
  have hb := B.bytes
  have hr := B.returns
  have hts := atoms_spec (ws := wsX12_in) B.pre
  have hown : s.vm.findClass RX12 = some m.cls := findClass_of_methodNamed B.named
  have hlocks := B.notSynchronized
  have hK := hE.1
  subst hsz
  have hD := hD0.self (sz := s.heap.size)
  generalize hAe : va_A (w_c_X12_in cI cJ cB cZ cO ) s.heap.size = A at hD hH ⊢
  have hA : ∀ q : Nat, s.heap.size ≤ q → A q := fun q h => by rw [← hAe]; exact Or.inr h
  have hS : va_S A s.heap s.heap [] := va_S.rf
  obtain ⟨hP, hD⟩ : ct_B D A s.heap [] := ⟨hP, hD⟩
  have hl := lv_entry ([.long x, .long y, .long z]) (n := 6) (Nat.le_of_ble_eq_true rfl)
  rw [lg_entry_eq]
  generalize (lg_sl ([.long x, .long y, .long z]) ++ List.replicate (6 - (lg_sl ([.long x, .long y, .long z])).length) Slot.unset).toArray = ls at hl ⊢
  have hl : lv_has ls 6 [(0, .long x), (2, .long y), (4, .long z)] := hl
  obtain ⟨H, hHe⟩ : ∃ H : Heap, H = s.heap := ⟨_, rfl⟩
  rw [← hHe] at hP
  have hS : va_S A s.heap H [] := by rw [hHe]; exact va_S.rf
  refine ct_start hHe ?_
  refine lv_lload_n hx hb dX12_in_0 rfl (lv_at hl 0 rfl) ?_
  refine lv_lload_n hx hb dX12_in_1 rfl (lv_at hl 1 rfl) ?_
  refine W.lcmp hx hb dX12_in_2 ?_
  refine lv_if_lt (tgt := 17) hx hb dX12_in_3 (by decide) (fun hc => ?_) (fun hc => ?_)
  · have hq1 : x.toInt < y.toInt := tl_lt rfl rfl ((lg_cmp_lt _ _).mp hc)
    refine lv_iconst (v := 0) hx hb dX12_in_17 (by decide) ?_
    obtain ⟨hP9, hD9⟩ : ct_B D A H [] := ⟨hP.sub [] rfl, hD.sub [] (by decide) rfl⟩
    exact W.zret (v := 0) (ty := .boolean) hx hb hr rfl (fun t ht hW => ⟨⟨0, (), rfl, (Or.inr (⟨rfl, (show ¬ (y.toInt ≤ x.toInt ∧ x.toInt ≤ z.toInt) by omega)⟩)), by rw [ht]; exact hP9, hD9⟩, hS.F ht⟩) hS.2.2 dX12_in_18
  · have hq1 : y.toInt ≤ x.toInt := tl_nlt rfl rfl (fun z => hc ((lg_cmp_lt _ _).mpr z))
    refine lv_lload_n hx hb dX12_in_6 rfl (lv_at hl 0 rfl) ?_
    refine lv_lload hx hb dX12_in_7 (lv_at hl 2 rfl) ?_
    refine W.lcmp hx hb dX12_in_9 ?_
    refine lv_if_gt (tgt := 17) hx hb dX12_in_10 (by decide) (fun hc => ?_) (fun hc => ?_)
    · have hq2 : z.toInt < x.toInt := tl_lt rfl rfl ((lg_cmp_gt _ _).mp hc)
      refine lv_iconst (v := 0) hx hb dX12_in_17 (by decide) ?_
      obtain ⟨hP9, hD9⟩ : ct_B D A H [] := ⟨hP.sub [] rfl, hD.sub [] (by decide) rfl⟩
      exact W.zret (v := 0) (ty := .boolean) hx hb hr rfl (fun t ht hW => ⟨⟨0, (), rfl, (Or.inr (⟨rfl, (show ¬ (y.toInt ≤ x.toInt ∧ x.toInt ≤ z.toInt) by omega)⟩)), by rw [ht]; exact hP9, hD9⟩, hS.F ht⟩) hS.2.2 dX12_in_18
    · have hq2 : x.toInt ≤ z.toInt := tl_nlt rfl rfl (fun z => hc ((lg_cmp_gt _ _).mpr z))
      refine lv_iconst (v := 1) hx hb dX12_in_13 (by decide) ?_
      refine lv_goto (tgt := 18) hx hb dX12_in_14 (by decide) ?_
      obtain ⟨hP9, hD9⟩ : ct_B D A H [] := ⟨hP.sub [] rfl, hD.sub [] (by decide) rfl⟩
      exact W.zret (v := 1) (ty := .boolean) hx hb hr rfl (fun t ht hW => ⟨⟨1, (), rfl, (Or.inl ⟨rfl, (show (y.toInt ≤ x.toInt ∧ x.toInt ≤ z.toInt) by omega)⟩), by rw [ht]; exact hP9, hD9⟩, hS.F ht⟩) hS.2.2 dX12_in_18
abbrev w_c_X12_isSlot (cI cJ cB cZ cO : ClassId)  : va_W := []
set_option maxHeartbeats 4000000 in
set_option maxRecDepth 100000 in
/-- X12 isSlot -/
theorem c_X12_isSlot (l : Launch) (D : va_G) (G : ct_G) (cI cJ cB cZ cO : ClassId) (v : Int32)  (sz : Nat) : Met l yX12_isSlot wsX12_isSlot ({ frames := 1, cells := 0, slots := 0, locals := 25 }) (va_Pc [.int v] (ct_P D (ct_T cI cJ cB cZ cO) G (w_c_X12_isSlot cI cJ cB cZ cO ) sz)) (va_Qi (fun (rz : Int32) (u : Unit) => ((rz = 1 ∧ (0 ≤ v.toInt ∧ v.toInt < 4)) ∨ (rz = 0 ∧ ¬ (0 ≤ v.toInt ∧ v.toInt < 4)))) (fun (u : Unit) t => ct_Q D (va_A (w_c_X12_isSlot cI cJ cB cZ cO ) sz) [] t) (va_A (w_c_X12_isSlot cI cJ cB cZ cO ) sz)) 0 0 (va_A (w_c_X12_isSlot cI cJ cB cZ cO ) sz) := by
  refine Met.ofW (cc := cX12_isSlot) (maxL := 1) (ret := (some .boolean)) (by decide) rfl ?_
  intro p e s m args below meth c s₁ B hml hv
  obtain ⟨rfl, hsz, hP, hE, hD0, hH⟩ := hv
  have hx := B.exec
  have hb := B.bytes
  have hr := B.returns
  have hts := atoms_spec (ws := wsX12_isSlot) B.pre
  have hown : s.vm.findClass RX12 = some m.cls := findClass_of_methodNamed B.named
  have hlocks := B.notSynchronized
  have hK := hE.1
  subst hsz
  have hD := hD0.self (sz := s.heap.size)
  generalize hAe : va_A (w_c_X12_isSlot cI cJ cB cZ cO ) s.heap.size = A at hD hH ⊢
  have hA : ∀ q : Nat, s.heap.size ≤ q → A q := fun q h => by rw [← hAe]; exact Or.inr h
  have hS : va_S A s.heap s.heap [] := va_S.rf
  obtain ⟨hP, hD⟩ : ct_B D A s.heap [] := ⟨hP, hD⟩
  have hl := lv_entry ([.int v]) (n := 1) (Nat.le_of_ble_eq_true rfl)
  rw [lg_entry_eq]
  generalize (lg_sl ([.int v]) ++ List.replicate (1 - (lg_sl ([.int v])).length) Slot.unset).toArray = ls at hl ⊢
  have hl : lv_has ls 1 [(0, .int v)] := hl
  obtain ⟨H, hHe⟩ : ∃ H : Heap, H = s.heap := ⟨_, rfl⟩
  rw [← hHe] at hP
  have hS : va_S A s.heap H [] := by rw [hHe]; exact va_S.rf
  refine ct_start hHe ?_
  refine lv_iload_n hx hb dX12_isSlot_0 rfl (lv_at hl 0 rfl) ?_
  refine lv_i2l (v := _) hx hb dX12_isSlot_1 rfl ?_
  refine lv_topl (fun z1 ez1 => ?_)
  have fz1 : z1.toInt = v.toInt := by rw [ez1]; exact tl_i rfl
  have hb2 := tq_lo v
  refine lv_lconst (v := 0) hx hb dX12_isSlot_2 (by decide) ?_
  refine lv_ldc2 (v := 3) hx hb hown (hts (.constantLong RX12 83 (3)) (by decide +kernel)) dX12_isSlot_3 ?_
  refine ct_calli (D := D) (wr := []) (va_runS (As := [.long z1, .long 0, .long 3]) (rest := []) ⟨hx, hb, hml, hown, hts⟩ (c_X12_in l D G cI cJ cB cZ cO z1 0 3  H.size) (va_cwS 3 hts gX12_isSlot_X12_in rfl rfl rfl (by decide +kernel) ⟨Nat.le_of_ble_eq_true rfl, Nat.le_of_ble_eq_true rfl⟩) (ct_preS (T := ct_T cI cJ cB cZ cO) hE hH hP hD hS hA [] (by decide) rfl) rfl rfl hl.1 rfl (lv_room (Nat.le_of_ble_eq_true rfl)) dX12_isSlot_6 ⟨Nat.le_of_ble_eq_true rfl, Nat.le_of_ble_eq_true rfl⟩) hP hD hS hA [] [] rfl rfl (by decide) (by decide) (fun r3 u H locs hw hP hD hS => ?_)
  obtain ⟨hP, hD⟩ : ct_B D A H [] := ⟨hP, hD⟩
  have hk4 : (0 : Int64).toInt = 0 := by decide
  have hk5 : (3 : Int64).toInt = 3 := by decide
  have hz := hw
  rcases hz with ⟨hz, hz2⟩ | ⟨hz, hz2⟩
  · subst hz
    have hz_6 : ((0 : Int64).toInt ≤ z1.toInt ∧ z1.toInt ≤ (3 : Int64).toInt) := hz2
    obtain ⟨hP9, hD9⟩ : ct_B D A H [] := ⟨hP.sub [] rfl, hD.sub [] (by decide) rfl⟩
    exact W.zret (v := 1) (ty := .boolean) hx hb hr rfl (fun t ht hW => ⟨⟨1, (), rfl, (Or.inl ⟨rfl, (show (0 ≤ v.toInt ∧ v.toInt < 4) by omega)⟩), by rw [ht]; exact hP9, hD9⟩, hS.F ht⟩) hS.2.2 dX12_isSlot_9
  · subst hz
    have hz_7 : ¬ ((0 : Int64).toInt ≤ z1.toInt ∧ z1.toInt ≤ (3 : Int64).toInt) := hz2
    obtain ⟨hP9, hD9⟩ : ct_B D A H [] := ⟨hP.sub [] rfl, hD.sub [] (by decide) rfl⟩
    exact W.zret (v := 0) (ty := .boolean) hx hb hr rfl (fun t ht hW => ⟨⟨0, (), rfl, (Or.inr (⟨rfl, (show ¬ (0 ≤ v.toInt ∧ v.toInt < 4) by omega)⟩)), by rw [ht]; exact hP9, hD9⟩, hS.F ht⟩) hS.2.2 dX12_isSlot_9
abbrev w_c_X12_isBeat (cI cJ cB cZ cO : ClassId)  : va_W := []
set_option maxHeartbeats 4000000 in
set_option maxRecDepth 100000 in
/-- X12 isBeat -/
theorem c_X12_isBeat (l : Launch) (D : va_G) (G : ct_G) (cI cJ cB cZ cO : ClassId) (x : Int64)  (sz : Nat) : Met l yX12_isBeat wsX12_isBeat ({ frames := 1, cells := 0, slots := 0, locals := 25 }) (va_Pc [.long x] (ct_P D (ct_T cI cJ cB cZ cO) G (w_c_X12_isBeat cI cJ cB cZ cO ) sz)) (va_Qi (fun (rz : Int32) (u : Unit) => ((rz = 1 ∧ (0 ≤ x.toInt ∧ x.toInt ≤ 199)) ∨ (rz = 0 ∧ ¬ (0 ≤ x.toInt ∧ x.toInt ≤ 199)))) (fun (u : Unit) t => ct_Q D (va_A (w_c_X12_isBeat cI cJ cB cZ cO ) sz) [] t) (va_A (w_c_X12_isBeat cI cJ cB cZ cO ) sz)) 0 0 (va_A (w_c_X12_isBeat cI cJ cB cZ cO ) sz) := by
  refine Met.ofW (cc := cX12_isBeat) (maxL := 2) (ret := (some .boolean)) (by decide) rfl ?_
  intro p e s m args below meth c s₁ B hml hv
  obtain ⟨rfl, hsz, hP, hE, hD0, hH⟩ := hv
  have hx := B.exec
  have hb := B.bytes
  have hr := B.returns
  have hts := atoms_spec (ws := wsX12_isBeat) B.pre
  have hown : s.vm.findClass RX12 = some m.cls := findClass_of_methodNamed B.named
  have hlocks := B.notSynchronized
  have hK := hE.1
  subst hsz
  have hD := hD0.self (sz := s.heap.size)
  generalize hAe : va_A (w_c_X12_isBeat cI cJ cB cZ cO ) s.heap.size = A at hD hH ⊢
  have hA : ∀ q : Nat, s.heap.size ≤ q → A q := fun q h => by rw [← hAe]; exact Or.inr h
  have hS : va_S A s.heap s.heap [] := va_S.rf
  obtain ⟨hP, hD⟩ : ct_B D A s.heap [] := ⟨hP, hD⟩
  have hl := lv_entry ([.long x]) (n := 2) (Nat.le_of_ble_eq_true rfl)
  rw [lg_entry_eq]
  generalize (lg_sl ([.long x]) ++ List.replicate (2 - (lg_sl ([.long x])).length) Slot.unset).toArray = ls at hl ⊢
  have hl : lv_has ls 2 [(0, .long x)] := hl
  obtain ⟨H, hHe⟩ : ∃ H : Heap, H = s.heap := ⟨_, rfl⟩
  rw [← hHe] at hP
  have hS : va_S A s.heap H [] := by rw [hHe]; exact va_S.rf
  refine ct_start hHe ?_
  refine lv_lload_n hx hb dX12_isBeat_0 rfl (lv_at hl 0 rfl) ?_
  refine lv_lconst (v := 0) hx hb dX12_isBeat_1 (by decide) ?_
  refine lv_ldc2 (v := 199) hx hb hown (hts (.constantLong RX12 257 (199)) (by decide +kernel)) dX12_isBeat_2 ?_
  refine ct_calli (D := D) (wr := []) (va_runS (As := [.long x, .long 0, .long 199]) (rest := []) ⟨hx, hb, hml, hown, hts⟩ (c_X12_in l D G cI cJ cB cZ cO x 0 199  H.size) (va_cwS 3 hts gX12_isBeat_X12_in rfl rfl rfl (by decide +kernel) ⟨Nat.le_of_ble_eq_true rfl, Nat.le_of_ble_eq_true rfl⟩) (ct_preS (T := ct_T cI cJ cB cZ cO) hE hH hP hD hS hA [] (by decide) rfl) rfl rfl hl.1 rfl (lv_room (Nat.le_of_ble_eq_true rfl)) dX12_isBeat_5 ⟨Nat.le_of_ble_eq_true rfl, Nat.le_of_ble_eq_true rfl⟩) hP hD hS hA [] [] rfl rfl (by decide) (by decide) (fun r1 u H locs hw hP hD hS => ?_)
  obtain ⟨hP, hD⟩ : ct_B D A H [] := ⟨hP, hD⟩
  have hk2 : (0 : Int64).toInt = 0 := by decide
  have hk3 : (199 : Int64).toInt = 199 := by decide
  have hz := hw
  rcases hz with ⟨hz, hz2⟩ | ⟨hz, hz2⟩
  · subst hz
    have hz_4 : ((0 : Int64).toInt ≤ x.toInt ∧ x.toInt ≤ (199 : Int64).toInt) := hz2
    obtain ⟨hP9, hD9⟩ : ct_B D A H [] := ⟨hP.sub [] rfl, hD.sub [] (by decide) rfl⟩
    exact W.zret (v := 1) (ty := .boolean) hx hb hr rfl (fun t ht hW => ⟨⟨1, (), rfl, (Or.inl ⟨rfl, (show (0 ≤ x.toInt ∧ x.toInt ≤ 199) by omega)⟩), by rw [ht]; exact hP9, hD9⟩, hS.F ht⟩) hS.2.2 dX12_isBeat_8
  · subst hz
    have hz_5 : ¬ ((0 : Int64).toInt ≤ x.toInt ∧ x.toInt ≤ (199 : Int64).toInt) := hz2
    obtain ⟨hP9, hD9⟩ : ct_B D A H [] := ⟨hP.sub [] rfl, hD.sub [] (by decide) rfl⟩
    exact W.zret (v := 0) (ty := .boolean) hx hb hr rfl (fun t ht hW => ⟨⟨0, (), rfl, (Or.inr (⟨rfl, (show ¬ (0 ≤ x.toInt ∧ x.toInt ≤ 199) by omega)⟩)), by rw [ht]; exact hP9, hD9⟩, hS.F ht⟩) hS.2.2 dX12_isBeat_8
abbrev w_c_X12_isStep (cI cJ cB cZ cO : ClassId)  : va_W := []
set_option maxHeartbeats 4000000 in
set_option maxRecDepth 100000 in
/-- X12 isStep -/
theorem c_X12_isStep (l : Launch) (D : va_G) (G : ct_G) (cI cJ cB cZ cO : ClassId) (x : Int64)  (sz : Nat) : Met l yX12_isStep wsX12_isStep ({ frames := 1, cells := 0, slots := 0, locals := 25 }) (va_Pc [.long x] (ct_P D (ct_T cI cJ cB cZ cO) G (w_c_X12_isStep cI cJ cB cZ cO ) sz)) (va_Qi (fun (rz : Int32) (u : Unit) => ((rz = 1 ∧ (0 ≤ x.toInt ∧ x.toInt ≤ 5)) ∨ (rz = 0 ∧ ¬ (0 ≤ x.toInt ∧ x.toInt ≤ 5)))) (fun (u : Unit) t => ct_Q D (va_A (w_c_X12_isStep cI cJ cB cZ cO ) sz) [] t) (va_A (w_c_X12_isStep cI cJ cB cZ cO ) sz)) 0 0 (va_A (w_c_X12_isStep cI cJ cB cZ cO ) sz) := by
  refine Met.ofW (cc := cX12_isStep) (maxL := 2) (ret := (some .boolean)) (by decide) rfl ?_
  intro p e s m args below meth c s₁ B hml hv
  obtain ⟨rfl, hsz, hP, hE, hD0, hH⟩ := hv
  have hx := B.exec
  have hb := B.bytes
  have hr := B.returns
  have hts := atoms_spec (ws := wsX12_isStep) B.pre
  have hown : s.vm.findClass RX12 = some m.cls := findClass_of_methodNamed B.named
  have hlocks := B.notSynchronized
  have hK := hE.1
  subst hsz
  have hD := hD0.self (sz := s.heap.size)
  generalize hAe : va_A (w_c_X12_isStep cI cJ cB cZ cO ) s.heap.size = A at hD hH ⊢
  have hA : ∀ q : Nat, s.heap.size ≤ q → A q := fun q h => by rw [← hAe]; exact Or.inr h
  have hS : va_S A s.heap s.heap [] := va_S.rf
  obtain ⟨hP, hD⟩ : ct_B D A s.heap [] := ⟨hP, hD⟩
  have hl := lv_entry ([.long x]) (n := 2) (Nat.le_of_ble_eq_true rfl)
  rw [lg_entry_eq]
  generalize (lg_sl ([.long x]) ++ List.replicate (2 - (lg_sl ([.long x])).length) Slot.unset).toArray = ls at hl ⊢
  have hl : lv_has ls 2 [(0, .long x)] := hl
  obtain ⟨H, hHe⟩ : ∃ H : Heap, H = s.heap := ⟨_, rfl⟩
  rw [← hHe] at hP
  have hS : va_S A s.heap H [] := by rw [hHe]; exact va_S.rf
  refine ct_start hHe ?_
  refine lv_lload_n hx hb dX12_isStep_0 rfl (lv_at hl 0 rfl) ?_
  refine lv_lconst (v := 0) hx hb dX12_isStep_1 (by decide) ?_
  refine lv_ldc2 (v := 5) hx hb hown (hts (.constantLong RX12 259 (5)) (by decide +kernel)) dX12_isStep_2 ?_
  refine ct_calli (D := D) (wr := []) (va_runS (As := [.long x, .long 0, .long 5]) (rest := []) ⟨hx, hb, hml, hown, hts⟩ (c_X12_in l D G cI cJ cB cZ cO x 0 5  H.size) (va_cwS 3 hts gX12_isStep_X12_in rfl rfl rfl (by decide +kernel) ⟨Nat.le_of_ble_eq_true rfl, Nat.le_of_ble_eq_true rfl⟩) (ct_preS (T := ct_T cI cJ cB cZ cO) hE hH hP hD hS hA [] (by decide) rfl) rfl rfl hl.1 rfl (lv_room (Nat.le_of_ble_eq_true rfl)) dX12_isStep_5 ⟨Nat.le_of_ble_eq_true rfl, Nat.le_of_ble_eq_true rfl⟩) hP hD hS hA [] [] rfl rfl (by decide) (by decide) (fun r1 u H locs hw hP hD hS => ?_)
  obtain ⟨hP, hD⟩ : ct_B D A H [] := ⟨hP, hD⟩
  have hk2 : (0 : Int64).toInt = 0 := by decide
  have hk3 : (5 : Int64).toInt = 5 := by decide
  have hz := hw
  rcases hz with ⟨hz, hz2⟩ | ⟨hz, hz2⟩
  · subst hz
    have hz_4 : ((0 : Int64).toInt ≤ x.toInt ∧ x.toInt ≤ (5 : Int64).toInt) := hz2
    obtain ⟨hP9, hD9⟩ : ct_B D A H [] := ⟨hP.sub [] rfl, hD.sub [] (by decide) rfl⟩
    exact W.zret (v := 1) (ty := .boolean) hx hb hr rfl (fun t ht hW => ⟨⟨1, (), rfl, (Or.inl ⟨rfl, (show (0 ≤ x.toInt ∧ x.toInt ≤ 5) by omega)⟩), by rw [ht]; exact hP9, hD9⟩, hS.F ht⟩) hS.2.2 dX12_isStep_8
  · subst hz
    have hz_5 : ¬ ((0 : Int64).toInt ≤ x.toInt ∧ x.toInt ≤ (5 : Int64).toInt) := hz2
    obtain ⟨hP9, hD9⟩ : ct_B D A H [] := ⟨hP.sub [] rfl, hD.sub [] (by decide) rfl⟩
    exact W.zret (v := 0) (ty := .boolean) hx hb hr rfl (fun t ht hW => ⟨⟨0, (), rfl, (Or.inr (⟨rfl, (show ¬ (0 ≤ x.toInt ∧ x.toInt ≤ 5) by omega)⟩)), by rw [ht]; exact hP9, hD9⟩, hS.F ht⟩) hS.2.2 dX12_isStep_8
abbrev w_c_X12_cut (cI cJ cB cZ cO : ClassId)  : va_W := []
set_option maxHeartbeats 4000000 in
set_option maxRecDepth 100000 in
/-- X12 cut -/
theorem c_X12_cut (l : Launch) (D : va_G) (G : ct_G) (cI cJ cB cZ cO : ClassId) (a1 : Int64) (a2 : Int32)  (sz : Nat) : Met l yX12_cut wsX12_cut ({ frames := 0, cells := 0, slots := 0, locals := 0 }) (va_Pc [.long a1, .int a2] (ct_P D (ct_T cI cJ cB cZ cO) G (w_c_X12_cut cI cJ cB cZ cO ) sz)) (va_Ql (fun (rz : Int64) (u : Unit) => (rz = cu a1 a2)) (fun (u : Unit) t => ct_Q D (va_A (w_c_X12_cut cI cJ cB cZ cO ) sz) [] t) (va_A (w_c_X12_cut cI cJ cB cZ cO ) sz)) 0 0 (va_A (w_c_X12_cut cI cJ cB cZ cO ) sz) := by
  refine Met.ofW (cc := cX12_cut) (maxL := 3) (ret := (some .long)) (by decide) rfl ?_
  intro p e s m args below meth c s₁ B hml hv
  obtain ⟨rfl, hsz, hP, hE, hD0, hH⟩ := hv
  have hx := B.exec
  have hb := B.bytes
  have hr := B.returns
  have hts := atoms_spec (ws := wsX12_cut) B.pre
  have hown : s.vm.findClass RX12 = some m.cls := findClass_of_methodNamed B.named
  have hlocks := B.notSynchronized
  have hK := hE.1
  subst hsz
  have hD := hD0.self (sz := s.heap.size)
  generalize hAe : va_A (w_c_X12_cut cI cJ cB cZ cO ) s.heap.size = A at hD hH ⊢
  have hA : ∀ q : Nat, s.heap.size ≤ q → A q := fun q h => by rw [← hAe]; exact Or.inr h
  have hS : va_S A s.heap s.heap [] := va_S.rf
  obtain ⟨hP, hD⟩ : ct_B D A s.heap [] := ⟨hP, hD⟩
  have hl := lv_entry ([.long a1, .int a2]) (n := 3) (Nat.le_of_ble_eq_true rfl)
  rw [lg_entry_eq]
  generalize (lg_sl ([.long a1, .int a2]) ++ List.replicate (3 - (lg_sl ([.long a1, .int a2])).length) Slot.unset).toArray = ls at hl ⊢
  have hl : lv_has ls 3 [(0, .long a1), (2, .int a2)] := hl
  obtain ⟨H, hHe⟩ : ∃ H : Heap, H = s.heap := ⟨_, rfl⟩
  rw [← hHe] at hP
  have hS : va_S A s.heap H [] := by rw [hHe]; exact va_S.rf
  refine ct_start hHe ?_
  refine lv_iload_n hx hb dX12_cut_0 rfl (lv_at hl 1 rfl) ?_
  refine lv_if_ne (tgt := 11) hx hb dX12_cut_1 (by decide) (fun hc => ?_) (fun hc => ?_)
  · have hq1 : a2.toInt ≠ 0 := tq_ne rfl (by decide) hc
    have hb2 := tq_lo a2
    refine lv_iload_n hx hb dX12_cut_11 rfl (lv_at hl 1 rfl) ?_
    refine lv_iconst (v := 1) hx hb dX12_cut_12 (by decide) ?_
    refine lv_icmp_ne (tgt := 23) hx hb dX12_cut_13 (by decide) (fun hc => ?_) (fun hc => ?_)
    · have hq3 : a2.toInt ≠ 1 := tq_ne rfl (by decide) hc
      have hb4 := tq_lo a2
      refine lv_iload_n hx hb dX12_cut_23 rfl (lv_at hl 1 rfl) ?_
      refine lv_iconst (v := 2) hx hb dX12_cut_24 (by decide) ?_
      refine lv_icmp_ne (tgt := 34) hx hb dX12_cut_25 (by decide) (fun hc => ?_) (fun hc => ?_)
      · have hq5 : a2.toInt ≠ 2 := tq_ne rfl (by decide) hc
        have hb6 := tq_lo a2
        refine lv_lload_n hx hb dX12_cut_34 rfl (lv_at hl 0 rfl) ?_
        obtain ⟨hP9, hD9⟩ : ct_B D A H [] := ⟨hP.sub [] rfl, hD.sub [] (by decide) rfl⟩
        exact W.lret (v := a1) hx hb hr (fun t ht hW => ⟨⟨a1, (), rfl, (show a1 = cu a1 a2 by exact cu_3 (by omega) (by omega) (by omega)), by rw [ht]; exact hP9, hD9⟩, hS.F ht⟩) hS.2.2 dX12_cut_35
      · have hq5 : a2.toInt = 2 := tq_eq rfl (by decide) hc
        have hb7 := tq_lo a2
        refine lv_lload_n hx hb dX12_cut_28 rfl (lv_at hl 0 rfl) ?_
        refine lv_l2i (v := _) hx hb dX12_cut_29 rfl ?_
        refine lv_topi (fun z8 ez8 => ?_)
        refine lv_i2l (v := _) hx hb dX12_cut_30 rfl ?_
        refine lv_topl (fun z9 ez9 => ?_)
        have fz9 : z9.toInt = z8.toInt := by rw [ez9]; exact tl_i rfl
        have hb10 := tq_lo z8
        refine lv_goto (tgt := 35) hx hb dX12_cut_31 (by decide) ?_
        obtain ⟨hP9, hD9⟩ : ct_B D A H [] := ⟨hP.sub [] rfl, hD.sub [] (by decide) rfl⟩
        exact W.lret (v := z9) hx hb hr (fun t ht hW => ⟨⟨z9, (), rfl, (show z9 = cu a1 a2 by exact cu_2 (by omega) ez8 ez9), by rw [ht]; exact hP9, hD9⟩, hS.F ht⟩) hS.2.2 dX12_cut_35
    · have hq3 : a2.toInt = 1 := tq_eq rfl (by decide) hc
      have hb11 := tq_lo a2
      refine lv_lload_n hx hb dX12_cut_16 rfl (lv_at hl 0 rfl) ?_
      refine lv_l2i (v := _) hx hb dX12_cut_17 rfl ?_
      refine lv_topi (fun z12 ez12 => ?_)
      refine lv_i2s (v := _) hx hb dX12_cut_18 rfl ?_
      refine lv_topi (fun z13 ez13 => ?_)
      refine lv_i2l (v := _) hx hb dX12_cut_19 rfl ?_
      refine lv_topl (fun z14 ez14 => ?_)
      have fz14 : z14.toInt = z13.toInt := by rw [ez14]; exact tl_i rfl
      have hb15 := tq_lo z13
      refine lv_goto (tgt := 35) hx hb dX12_cut_20 (by decide) ?_
      obtain ⟨hP9, hD9⟩ : ct_B D A H [] := ⟨hP.sub [] rfl, hD.sub [] (by decide) rfl⟩
      exact W.lret (v := z14) hx hb hr (fun t ht hW => ⟨⟨z14, (), rfl, (show z14 = cu a1 a2 by exact cu_1 (by omega) ez12 ez13 ez14), by rw [ht]; exact hP9, hD9⟩, hS.F ht⟩) hS.2.2 dX12_cut_35
  · have hq1 : a2.toInt = 0 := tq_eq rfl (by decide) hc
    have hb16 := tq_lo a2
    refine lv_lload_n hx hb dX12_cut_4 rfl (lv_at hl 0 rfl) ?_
    refine lv_l2i (v := _) hx hb dX12_cut_5 rfl ?_
    refine lv_topi (fun z17 ez17 => ?_)
    refine lv_i2b (v := _) hx hb dX12_cut_6 rfl ?_
    refine lv_topi (fun z18 ez18 => ?_)
    refine lv_i2l (v := _) hx hb dX12_cut_7 rfl ?_
    refine lv_topl (fun z19 ez19 => ?_)
    have fz19 : z19.toInt = z18.toInt := by rw [ez19]; exact tl_i rfl
    have hb20 := tq_lo z18
    refine lv_goto (tgt := 35) hx hb dX12_cut_8 (by decide) ?_
    obtain ⟨hP9, hD9⟩ : ct_B D A H [] := ⟨hP.sub [] rfl, hD.sub [] (by decide) rfl⟩
    exact W.lret (v := z19) hx hb hr (fun t ht hW => ⟨⟨z19, (), rfl, (show z19 = cu a1 a2 by exact cu_0 (by omega) ez17 ez18 ez19), by rw [ht]; exact hP9, hD9⟩, hS.F ht⟩) hS.2.2 dX12_cut_35
abbrev w_c_X12_known (cI cJ cB cZ cO : ClassId)  : va_W := []
set_option maxHeartbeats 4000000 in
set_option maxRecDepth 100000 in
/-- X12 known -/
theorem c_X12_known (l : Launch) (D : va_G) (G : ct_G) (cI cJ cB cZ cO : ClassId) (a1 : Int32)  (sz : Nat) : Met l yX12_known wsX12_known ({ frames := 0, cells := 0, slots := 0, locals := 0 }) (va_Pc [.int a1] (ct_P D (ct_T cI cJ cB cZ cO) G (w_c_X12_known cI cJ cB cZ cO ) sz)) (va_Qi (fun (rz : Int32) (u : Unit) => (rz.toInt ≤ 1000)) (fun (u : Unit) t => ct_Q D (va_A (w_c_X12_known cI cJ cB cZ cO ) sz) [] t) (va_A (w_c_X12_known cI cJ cB cZ cO ) sz)) 0 0 (va_A (w_c_X12_known cI cJ cB cZ cO ) sz) := by
  refine Met.ofW (cc := cX12_known) (maxL := 1) (ret := (some .int)) (by decide) rfl ?_
  intro p e s m args below meth c s₁ B hml hv
  obtain ⟨rfl, hsz, hP, hE, hD0, hH⟩ := hv
  have hx := B.exec
  have hb := B.bytes
  have hr := B.returns
  have hts := atoms_spec (ws := wsX12_known) B.pre
  have hown : s.vm.findClass RX12 = some m.cls := findClass_of_methodNamed B.named
  have hlocks := B.notSynchronized
  have hK := hE.1
  subst hsz
  have hD := hD0.self (sz := s.heap.size)
  generalize hAe : va_A (w_c_X12_known cI cJ cB cZ cO ) s.heap.size = A at hD hH ⊢
  have hA : ∀ q : Nat, s.heap.size ≤ q → A q := fun q h => by rw [← hAe]; exact Or.inr h
  have hS : va_S A s.heap s.heap [] := va_S.rf
  obtain ⟨hP, hD⟩ : ct_B D A s.heap [] := ⟨hP, hD⟩
  have hl := lv_entry ([.int a1]) (n := 1) (Nat.le_of_ble_eq_true rfl)
  rw [lg_entry_eq]
  generalize (lg_sl ([.int a1]) ++ List.replicate (1 - (lg_sl ([.int a1])).length) Slot.unset).toArray = ls at hl ⊢
  have hl : lv_has ls 1 [(0, .int a1)] := hl
  obtain ⟨H, hHe⟩ : ∃ H : Heap, H = s.heap := ⟨_, rfl⟩
  rw [← hHe] at hP
  have hS : va_S A s.heap H [] := by rw [hHe]; exact va_S.rf
  refine ct_start hHe ?_
  refine lv_iload_n hx hb dX12_known_0 rfl (lv_at hl 0 rfl) ?_
  refine lv_sipush (v := 1000) hx hb dX12_known_1 (by decide) ?_
  refine lv_icmp_le (tgt := 11) hx hb dX12_known_4 (by decide) (fun hc => ?_) (fun hc => ?_)
  · have hq1 : a1.toInt ≤ 1000 := tq_le rfl (by decide) hc
    have hb2 := tq_lo a1
    refine lv_iload_n hx hb dX12_known_11 rfl (lv_at hl 0 rfl) ?_
    obtain ⟨hP9, hD9⟩ : ct_B D A H [] := ⟨hP.sub [] rfl, hD.sub [] (by decide) rfl⟩
    exact W.iret (v := a1) hx hb hr (fun t ht hW => ⟨⟨a1, (), rfl, (show a1.toInt ≤ 1000 by omega), by rw [ht]; exact hP9, hD9⟩, hS.F ht⟩) hS.2.2 dX12_known_12
  · have hq1 : 1000 < a1.toInt := tq_nle rfl (by decide) hc
    have hb3 := tq_lo a1
    refine lv_iconst (v := (-1)) hx hb dX12_known_7 (by decide) ?_
    refine lv_goto (tgt := 12) hx hb dX12_known_8 (by decide) ?_
    obtain ⟨hP9, hD9⟩ : ct_B D A H [] := ⟨hP.sub [] rfl, hD.sub [] (by decide) rfl⟩
    exact W.iret (v := (-1)) hx hb hr (fun t ht hW => ⟨⟨(-1), (), rfl, (show (-1 : Int32).toInt ≤ 1000 by decide), by rw [ht]; exact hP9, hD9⟩, hS.F ht⟩) hS.2.2 dX12_known_12
abbrev w_c_X12_isBit (cI cJ cB cZ cO : ClassId)  : va_W := []
set_option maxHeartbeats 4000000 in
set_option maxRecDepth 100000 in
/-- X12 isBit -/
theorem c_X12_isBit (l : Launch) (D : va_G) (G : ct_G) (cI cJ cB cZ cO : ClassId) (a1 : Int32) (a2 : Int32)  (sz : Nat) : Met l yX12_isBit wsX12_isBit ({ frames := 0, cells := 0, slots := 0, locals := 0 }) (va_Pc [.int a1, .int a2] (ct_P D (ct_T cI cJ cB cZ cO) G (w_c_X12_isBit cI cJ cB cZ cO ) sz)) (va_Qi (fun (rz : Int32) (u : Unit) => ((rz = 1 ∧ (bt a1 a2)) ∨ (rz = 0 ∧ ¬ (bt a1 a2)))) (fun (u : Unit) t => ct_Q D (va_A (w_c_X12_isBit cI cJ cB cZ cO ) sz) [] t) (va_A (w_c_X12_isBit cI cJ cB cZ cO ) sz)) 0 0 (va_A (w_c_X12_isBit cI cJ cB cZ cO ) sz) := by
  refine Met.ofW (cc := cX12_isBit) (maxL := 2) (ret := (some .boolean)) (by decide) rfl ?_
  intro p e s m args below meth c s₁ B hml hv
  obtain ⟨rfl, hsz, hP, hE, hD0, hH⟩ := hv
  have hx := B.exec
  have hb := B.bytes
  have hr := B.returns
  have hts := atoms_spec (ws := wsX12_isBit) B.pre
  have hown : s.vm.findClass RX12 = some m.cls := findClass_of_methodNamed B.named
  have hlocks := B.notSynchronized
  have hK := hE.1
  subst hsz
  have hD := hD0.self (sz := s.heap.size)
  generalize hAe : va_A (w_c_X12_isBit cI cJ cB cZ cO ) s.heap.size = A at hD hH ⊢
  have hA : ∀ q : Nat, s.heap.size ≤ q → A q := fun q h => by rw [← hAe]; exact Or.inr h
  have hS : va_S A s.heap s.heap [] := va_S.rf
  obtain ⟨hP, hD⟩ : ct_B D A s.heap [] := ⟨hP, hD⟩
  have hl := lv_entry ([.int a1, .int a2]) (n := 2) (Nat.le_of_ble_eq_true rfl)
  rw [lg_entry_eq]
  generalize (lg_sl ([.int a1, .int a2]) ++ List.replicate (2 - (lg_sl ([.int a1, .int a2])).length) Slot.unset).toArray = ls at hl ⊢
  have hl : lv_has ls 2 [(0, .int a1), (1, .int a2)] := hl
  obtain ⟨H, hHe⟩ : ∃ H : Heap, H = s.heap := ⟨_, rfl⟩
  rw [← hHe] at hP
  have hS : va_S A s.heap H [] := by rw [hHe]; exact va_S.rf
  refine ct_start hHe ?_
  refine lv_iload_n hx hb dX12_isBit_0 rfl (lv_at hl 0 rfl) ?_
  refine lv_iload_n hx hb dX12_isBit_1 rfl (lv_at hl 1 rfl) ?_
  refine lv_ishr hx hb dX12_isBit_2 ?_
  refine lv_topi (fun z1 ez1 => ?_)
  refine lv_iconst (v := 1) hx hb dX12_isBit_3 (by decide) ?_
  refine lv_iand hx hb dX12_isBit_4 ?_
  refine lv_topi (fun z2 ez2 => ?_)
  have fz2 : 0 ≤ z2.toInt ∧ z2.toInt ≤ 1 := by rw [ez2]; exact tq_and (c := 1) (by decide) (by omega)
  refine lv_iconst (v := 1) hx hb dX12_isBit_5 (by decide) ?_
  refine lv_icmp_ne (tgt := 13) hx hb dX12_isBit_6 (by decide) (fun hc => ?_) (fun hc => ?_)
  · have hq3 : z2.toInt ≠ 1 := tq_ne rfl (by decide) hc
    refine lv_iconst (v := 0) hx hb dX12_isBit_13 (by decide) ?_
    obtain ⟨hP9, hD9⟩ : ct_B D A H [] := ⟨hP.sub [] rfl, hD.sub [] (by decide) rfl⟩
    exact W.zret (v := 0) (ty := .boolean) hx hb hr rfl (fun t ht hW => ⟨⟨0, (), rfl, (Or.inr (⟨rfl, (show ¬ (bt a1 a2) by intro hbt; have h9 : ((a1 >>> (a2 &&& 31)) &&& 1) = 1 := hbt; rw [← ez1, ← ez2] at h9; have h8 : z2.toInt = 1 := (by rw [h9]; decide); omega)⟩)), by rw [ht]; exact hP9, hD9⟩, hS.F ht⟩) hS.2.2 dX12_isBit_14
  · have hq3 : z2.toInt = 1 := tq_eq rfl (by decide) hc
    refine lv_iconst (v := 1) hx hb dX12_isBit_9 (by decide) ?_
    refine lv_goto (tgt := 14) hx hb dX12_isBit_10 (by decide) ?_
    obtain ⟨hP9, hD9⟩ : ct_B D A H [] := ⟨hP.sub [] rfl, hD.sub [] (by decide) rfl⟩
    exact W.zret (v := 1) (ty := .boolean) hx hb hr rfl (fun t ht hW => ⟨⟨1, (), rfl, (Or.inl ⟨rfl, (show (bt a1 a2) by show ((a1 >>> (a2 &&& 31)) &&& 1) = 1; rw [← ez1, ← ez2]; exact tq_of (a := 1) (by omega) (by decide))⟩), by rw [ht]; exact hP9, hD9⟩, hS.F ht⟩) hS.2.2 dX12_isBit_14
abbrev w_c_X12_sizeOf (cI cJ cB cZ cO : ClassId)  : va_W := []
set_option maxHeartbeats 4000000 in
set_option maxRecDepth 100000 in
/-- X12 sizeOf -/
theorem c_X12_sizeOf (l : Launch) (D : va_G) (G : ct_G) (cI cJ cB cZ cO : ClassId) (a1 : Int32)  (sz : Nat) : Met l yX12_sizeOf wsX12_sizeOf ({ frames := 0, cells := 0, slots := 0, locals := 0 }) (va_Pc [.int a1] (ct_P D (ct_T cI cJ cB cZ cO) G (w_c_X12_sizeOf cI cJ cB cZ cO ) sz)) (va_Qi (fun (rz : Int32) (u : Unit) => True) (fun (u : Unit) t => ct_Q D (va_A (w_c_X12_sizeOf cI cJ cB cZ cO ) sz) [] t) (va_A (w_c_X12_sizeOf cI cJ cB cZ cO ) sz)) 0 0 (va_A (w_c_X12_sizeOf cI cJ cB cZ cO ) sz) := by
  refine Met.ofW (cc := cX12_sizeOf) (maxL := 3) (ret := (some .int)) (by decide) rfl ?_
  intro p e s m args below meth c s₁ B hml hv
  obtain ⟨rfl, hsz, hP, hE, hD0, hH⟩ := hv
  have hx := B.exec
  have hb := B.bytes
  have hr := B.returns
  have hts := atoms_spec (ws := wsX12_sizeOf) B.pre
  have hown : s.vm.findClass RX12 = some m.cls := findClass_of_methodNamed B.named
  have hlocks := B.notSynchronized
  have hK := hE.1
  subst hsz
  have hD := hD0.self (sz := s.heap.size)
  generalize hAe : va_A (w_c_X12_sizeOf cI cJ cB cZ cO ) s.heap.size = A at hD hH ⊢
  have hA : ∀ q : Nat, s.heap.size ≤ q → A q := fun q h => by rw [← hAe]; exact Or.inr h
  have hS : va_S A s.heap s.heap [] := va_S.rf
  obtain ⟨hP, hD⟩ : ct_B D A s.heap [] := ⟨hP, hD⟩
  have hl := lv_entry ([.int a1]) (n := 3) (Nat.le_of_ble_eq_true rfl)
  rw [lg_entry_eq]
  generalize (lg_sl ([.int a1]) ++ List.replicate (3 - (lg_sl ([.int a1])).length) Slot.unset).toArray = ls at hl ⊢
  have hl : lv_has ls 3 [(0, .int a1)] := hl
  obtain ⟨H, hHe⟩ : ∃ H : Heap, H = s.heap := ⟨_, rfl⟩
  rw [← hHe] at hP
  have hS : va_S A s.heap H [] := by rw [hHe]; exact va_S.rf
  refine ct_start hHe ?_
  refine lv_iconst (v := 0) hx hb dX12_sizeOf_0 (by decide) ?_
  refine lv_istore_n (lv' := [(1, .int 0), (0, .int a1)]) hx hb dX12_sizeOf_1 rfl hl (by decide) rfl (fun ls hl => ?_)
  refine lv_iload_n hx hb dX12_sizeOf_2 rfl (lv_at hl 1 rfl) ?_
  refine lv_istore_n (lv' := [(2, .int a1), (1, .int 0), (0, .int a1)]) hx hb dX12_sizeOf_3 rfl hl (by decide) rfl (fun ls hl => ?_)
  refine ct_loop (X := Int32 × Int32) (fun x => x.2.toUInt32.toNat) (fun x H locs ls => ct_B D A H [] ∧ va_S A s.heap H locs ∧ lv_has ls 3 [(2, .int x.2), (1, .int x.1), (0, .int a1)]) 4 ((0 : Int32), a1) ⟨⟨hP, hD⟩, hS, lv_sub hl [0, 1, 2] rfl⟩ (fun x ih56 H locs ls hI => ?_)
  obtain ⟨x54, x55⟩ := x
  obtain ⟨⟨hP, hD⟩, hS, hl⟩ := hI
  obtain ⟨hP, hD⟩ : ct_B D A H [] := ⟨hP, hD⟩
  have hl : lv_has ls 3 [(2, .int x55), (1, .int x54), (0, .int a1)] := hl
  refine lv_iload_n hx hb dX12_sizeOf_4 rfl (lv_at hl 0 rfl) ?_
  refine lv_if_eq (tgt := 20) hx hb dX12_sizeOf_5 (by decide) (fun hc => ?_) (fun hc => ?_)
  · have hq57 : x55.toInt = 0 := tq_eq rfl (by decide) hc
    have hb58 := tq_lo x55
    refine lv_iload_n hx hb dX12_sizeOf_20 rfl (lv_at hl 1 rfl) ?_
    obtain ⟨hP9, hD9⟩ : ct_B D A H [] := ⟨hP.sub [] rfl, hD.sub [] (by decide) rfl⟩
    exact W.iret (v := x54) hx hb hr (fun t ht hW => ⟨⟨x54, (), rfl, trivial, by rw [ht]; exact hP9, hD9⟩, hS.F ht⟩) hS.2.2 dX12_sizeOf_21
  · have hq57 : x55.toInt ≠ 0 := tq_ne rfl (by decide) hc
    have hb59 := tq_lo x55
    obtain ⟨z60, ez60⟩ : ∃ z : Int32, z = x54 + 1 := ⟨_, rfl⟩
    refine lv_iinc (v := z60) (lv' := [(1, .int z60), (2, .int x55), (0, .int a1)]) hx hb dX12_sizeOf_8 hl (k := 1) rfl ez60.symm (by decide) rfl (fun ls hl => ?_)
    refine lv_iload_n hx hb dX12_sizeOf_11 rfl (lv_at hl 1 rfl) ?_
    refine lv_iload_n hx hb dX12_sizeOf_12 rfl (lv_at hl 1 rfl) ?_
    refine lv_iconst (v := 1) hx hb dX12_sizeOf_13 (by decide) ?_
    refine lv_isub hx hb dX12_sizeOf_14 ?_
    refine lv_topi (fun z61 ez61 => ?_)
    refine lv_iand hx hb dX12_sizeOf_15 ?_
    refine lv_topi (fun z62 ez62 => ?_)
    have hbits : x55.toInt ≠ 0 → z62.toUInt32.toNat < x55.toUInt32.toNat := fun h => by rw [ez62, ez61]; exact ct_bits h
    refine lv_istore_n (lv' := [(2, .int z62), (1, .int z60), (0, .int a1)]) hx hb dX12_sizeOf_16 rfl hl (by decide) rfl (fun ls hl => ?_)
    refine lv_goto (tgt := 4) hx hb dX12_sizeOf_17 (by decide) ?_
    exact ih56 (z60, z62) _ _ _ (show z62.toUInt32.toNat < x55.toUInt32.toNat by exact hbits (by omega)) ⟨⟨hP, hD⟩, hS, lv_sub hl [0, 1, 2] rfl⟩
abbrev w_c_X12_row (cI cJ cB cZ cO : ClassId) (qm : Nat) (vm_thrown : Int32) (qm_width : Nat) (fm_width : Nat → Int32) (qm_many : Nat) (fm_many : Nat → Int32) (qm_cells : Nat) (fm_cells : Nat → Int64) (qm_moved : Nat) (qm_tape : Nat) (vm_taped : Int32) (vm_at : Int32) (vm_token : Int32) (vm_place : Int32) (vm_value : Int32) (vm_word : Int64) (vm_bad : Int32) (vm_badPlace : Int32) (vm_fault : Int32) (vm_faultPlace : Int32) (qm_lines : Nat) (qm_has : Nat) (qm_round : Nat) (qm_meets : Nat) (qm_stumble : Nat) (qm_isMud : Nat) (qm_cell : Nat) (qm_tune : Nat) (qm_change : Nat) (qm_isKept : Nat) (qm_steps : Nat) (qm_places : Nat) (qm_danced : Nat) (vm_runMost : Int32) (vm_runBegins : Int32) (qm_heardBy : Nat) (vm_fitMany : Int32) (vm_fitFirst : Int32) (vm_fitBeats : Int64) (vm_listenLeaves : Int32) (qm_there : Nat) (vm_metAt : Int32) (vm_metIn : Int32) (qm_wins : Nat) (vm_nightHoles : Int32) (vm_nightFirst : Int32) (vm_nightMud : Int32) (vm_nightSlips : Int32) (vm_drawnNow : Int64) : va_W := [mo qm vm_thrown qm_width qm_many qm_cells qm_moved qm_tape vm_taped vm_at vm_token vm_place vm_value vm_word vm_bad vm_badPlace vm_fault vm_faultPlace qm_lines qm_has qm_round qm_meets qm_stumble qm_isMud qm_cell qm_tune qm_change qm_isKept qm_steps qm_places qm_danced vm_runMost vm_runBegins qm_heardBy vm_fitMany vm_fitFirst vm_fitBeats vm_listenLeaves qm_there vm_metAt vm_metIn qm_wins vm_nightHoles vm_nightFirst vm_nightMud vm_nightSlips vm_drawnNow, (qm_width, .inl (cI, 4, .inl (fm_width))), (qm_many, .inl (cI, 4, .inl (fm_many))), (qm_cells, .inl (cJ, 240, .inr (.inl (fm_cells))))]
set_option maxHeartbeats 4000000 in
set_option maxRecDepth 100000 in
/-- X12 row -/
theorem c_X12_row (l : Launch) (D : va_G) (G : ct_G) (cI cJ cB cZ cO : ClassId) (qm : Nat) (vm_thrown : Int32) (qm_width : Nat) (fm_width : Nat → Int32) (qm_many : Nat) (fm_many : Nat → Int32) (qm_cells : Nat) (fm_cells : Nat → Int64) (qm_moved : Nat) (qm_tape : Nat) (vm_taped : Int32) (vm_at : Int32) (vm_token : Int32) (vm_place : Int32) (vm_value : Int32) (vm_word : Int64) (vm_bad : Int32) (vm_badPlace : Int32) (vm_fault : Int32) (vm_faultPlace : Int32) (qm_lines : Nat) (qm_has : Nat) (qm_round : Nat) (qm_meets : Nat) (qm_stumble : Nat) (qm_isMud : Nat) (qm_cell : Nat) (qm_tune : Nat) (qm_change : Nat) (qm_isKept : Nat) (qm_steps : Nat) (qm_places : Nat) (qm_danced : Nat) (vm_runMost : Int32) (vm_runBegins : Int32) (qm_heardBy : Nat) (vm_fitMany : Int32) (vm_fitFirst : Int32) (vm_fitBeats : Int64) (vm_listenLeaves : Int32) (qm_there : Nat) (vm_metAt : Int32) (vm_metIn : Int32) (qm_wins : Nat) (vm_nightHoles : Int32) (vm_nightFirst : Int32) (vm_nightMud : Int32) (vm_nightSlips : Int32) (vm_drawnNow : Int64) (a1 : Int32) (a2 : Int32) (a3 : Int32) (h_fm_many : ar_ok [0] [60] fm_many) (h_vm_taped : 0 ≤ vm_taped.toInt ∧ vm_taped.toInt ≤ 1200) (h_vm_at : 0 ≤ vm_at.toInt ∧ vm_at.toInt ≤ 1200) (h_vm_value : 0 ≤ vm_value.toInt ∧ vm_value.toInt ≤ 1000009) (sz : Nat) : Met l yX12_row wsX12_row ({ frames := 2, cells := 0, slots := 0, locals := 45 }) (va_Pc [.ref qm, .int a1, .int a2, .int a3] (ct_P D (ct_T cI cJ cB cZ cO) G (w_c_X12_row cI cJ cB cZ cO qm vm_thrown qm_width fm_width qm_many fm_many qm_cells fm_cells qm_moved qm_tape vm_taped vm_at vm_token vm_place vm_value vm_word vm_bad vm_badPlace vm_fault vm_faultPlace qm_lines qm_has qm_round qm_meets qm_stumble qm_isMud qm_cell qm_tune qm_change qm_isKept qm_steps qm_places qm_danced vm_runMost vm_runBegins qm_heardBy vm_fitMany vm_fitFirst vm_fitBeats vm_listenLeaves qm_there vm_metAt vm_metIn qm_wins vm_nightHoles vm_nightFirst vm_nightMud vm_nightSlips vm_drawnNow) sz)) (va_Qi (fun (rz : Int32) (u : Int32 × (Nat → Int32) × (Nat → Int32) × (Nat → Int64)) => ((rz = (-2) ∧ ¬ ((0 ≤ a1.toInt ∧ a1.toInt < 4) ∧ (0 ≤ a2.toInt ∧ a2.toInt < 4) ∧ a3.toInt ≤ 60)) ∨ (rz = (-3) ∧ (((0 ≤ a1.toInt ∧ a1.toInt < 4) ∧ (0 ≤ a2.toInt ∧ a2.toInt < 4) ∧ a3.toInt ≤ 60) ∧ a3.toInt < 0)) ∨ (rz = 0 ∧ (((0 ≤ a1.toInt ∧ a1.toInt < 4) ∧ (0 ≤ a2.toInt ∧ a2.toInt < 4) ∧ a3.toInt ≤ 60) ∧ 0 ≤ a3.toInt))) ∧ (ar_ok [0] [60] u.2.2.1) ∧ ((rz = 0 ∧ u.2.2.1 = upd fm_many a1.toNatClampNeg a3 ∧ u.2.1 = upd fm_width a1.toNatClampNeg a2 ∧ rowN a1.toInt a3.toInt fm_cells u.2.2.2) ∨ (rz ≠ 0 ∧ u.2.2.1 = fm_many ∧ u.2.1 = fm_width ∧ u.2.2.2 = fm_cells))) (fun (u : Int32 × (Nat → Int32) × (Nat → Int32) × (Nat → Int64)) t => ct_Q D (va_A (w_c_X12_row cI cJ cB cZ cO qm vm_thrown qm_width fm_width qm_many fm_many qm_cells fm_cells qm_moved qm_tape vm_taped vm_at vm_token vm_place vm_value vm_word vm_bad vm_badPlace vm_fault vm_faultPlace qm_lines qm_has qm_round qm_meets qm_stumble qm_isMud qm_cell qm_tune qm_change qm_isKept qm_steps qm_places qm_danced vm_runMost vm_runBegins qm_heardBy vm_fitMany vm_fitFirst vm_fitBeats vm_listenLeaves qm_there vm_metAt vm_metIn qm_wins vm_nightHoles vm_nightFirst vm_nightMud vm_nightSlips vm_drawnNow) sz) [mo qm u.1 qm_width qm_many qm_cells qm_moved qm_tape vm_taped vm_at vm_token vm_place vm_value vm_word vm_bad vm_badPlace vm_fault vm_faultPlace qm_lines qm_has qm_round qm_meets qm_stumble qm_isMud qm_cell qm_tune qm_change qm_isKept qm_steps qm_places qm_danced vm_runMost vm_runBegins qm_heardBy vm_fitMany vm_fitFirst vm_fitBeats vm_listenLeaves qm_there vm_metAt vm_metIn qm_wins vm_nightHoles vm_nightFirst vm_nightMud vm_nightSlips vm_drawnNow, (qm_width, .inl (cI, 4, .inl (u.2.1))), (qm_many, .inl (cI, 4, .inl (u.2.2.1))), (qm_cells, .inl (cJ, 240, .inr (.inl (u.2.2.2))))] t) (va_A (w_c_X12_row cI cJ cB cZ cO qm vm_thrown qm_width fm_width qm_many fm_many qm_cells fm_cells qm_moved qm_tape vm_taped vm_at vm_token vm_place vm_value vm_word vm_bad vm_badPlace vm_fault vm_faultPlace qm_lines qm_has qm_round qm_meets qm_stumble qm_isMud qm_cell qm_tune qm_change qm_isKept qm_steps qm_places qm_danced vm_runMost vm_runBegins qm_heardBy vm_fitMany vm_fitFirst vm_fitBeats vm_listenLeaves qm_there vm_metAt vm_metIn qm_wins vm_nightHoles vm_nightFirst vm_nightMud vm_nightSlips vm_drawnNow) sz)) 0 0 (va_A (w_c_X12_row cI cJ cB cZ cO qm vm_thrown qm_width fm_width qm_many fm_many qm_cells fm_cells qm_moved qm_tape vm_taped vm_at vm_token vm_place vm_value vm_word vm_bad vm_badPlace vm_fault vm_faultPlace qm_lines qm_has qm_round qm_meets qm_stumble qm_isMud qm_cell qm_tune qm_change qm_isKept qm_steps qm_places qm_danced vm_runMost vm_runBegins qm_heardBy vm_fitMany vm_fitFirst vm_fitBeats vm_listenLeaves qm_there vm_metAt vm_metIn qm_wins vm_nightHoles vm_nightFirst vm_nightMud vm_nightSlips vm_drawnNow) sz) := by
  refine Met.ofW (cc := cX12_row) (maxL := 5) (ret := (some .int)) (by decide) rfl ?_
  intro p e s m args below meth c s₁ B hml hv
  obtain ⟨rfl, hsz, hP, hE, hD0, hH⟩ := hv
  have hx := B.exec
  have hb := B.bytes
  have hr := B.returns
  have hts := atoms_spec (ws := wsX12_row) B.pre
  have hown : s.vm.findClass RX12 = some m.cls := findClass_of_methodNamed B.named
  have hlocks := B.notSynchronized
  have hK := hE.1
  have hi12 : ∀ w ∈ u_ws RX12 TX12 45, w ∈ wsX12_row := fun w h => List.mem_cons_of_mem _ (List.mem_append_right _ h)
  subst hsz
  have hD := hD0.self (sz := s.heap.size)
  generalize hAe : va_A (w_c_X12_row cI cJ cB cZ cO qm vm_thrown qm_width fm_width qm_many fm_many qm_cells fm_cells qm_moved qm_tape vm_taped vm_at vm_token vm_place vm_value vm_word vm_bad vm_badPlace vm_fault vm_faultPlace qm_lines qm_has qm_round qm_meets qm_stumble qm_isMud qm_cell qm_tune qm_change qm_isKept qm_steps qm_places qm_danced vm_runMost vm_runBegins qm_heardBy vm_fitMany vm_fitFirst vm_fitBeats vm_listenLeaves qm_there vm_metAt vm_metIn qm_wins vm_nightHoles vm_nightFirst vm_nightMud vm_nightSlips vm_drawnNow) s.heap.size = A at hD hH ⊢
  have hA : ∀ q : Nat, s.heap.size ≤ q → A q := fun q h => by rw [← hAe]; exact Or.inr h
  have hS : va_S A s.heap s.heap [] := va_S.rf
  obtain ⟨hP, hD⟩ : ct_B D A s.heap [mo qm vm_thrown qm_width qm_many qm_cells qm_moved qm_tape vm_taped vm_at vm_token vm_place vm_value vm_word vm_bad vm_badPlace vm_fault vm_faultPlace qm_lines qm_has qm_round qm_meets qm_stumble qm_isMud qm_cell qm_tune qm_change qm_isKept qm_steps qm_places qm_danced vm_runMost vm_runBegins qm_heardBy vm_fitMany vm_fitFirst vm_fitBeats vm_listenLeaves qm_there vm_metAt vm_metIn qm_wins vm_nightHoles vm_nightFirst vm_nightMud vm_nightSlips vm_drawnNow, (qm_width, .inl (cI, 4, .inl (fm_width))), (qm_many, .inl (cI, 4, .inl (fm_many))), (qm_cells, .inl (cJ, 240, .inr (.inl (fm_cells))))] := ⟨hP, hD⟩
  have hl := lv_entry ([.ref qm, .int a1, .int a2, .int a3]) (n := 5) (Nat.le_of_ble_eq_true rfl)
  rw [lg_entry_eq]
  generalize (lg_sl ([.ref qm, .int a1, .int a2, .int a3]) ++ List.replicate (5 - (lg_sl ([.ref qm, .int a1, .int a2, .int a3])).length) Slot.unset).toArray = ls at hl ⊢
  have hl : lv_has ls 5 [(0, .ref qm), (1, .int a1), (2, .int a2), (3, .int a3)] := hl
  obtain ⟨H, hHe⟩ : ∃ H : Heap, H = s.heap := ⟨_, rfl⟩
  rw [← hHe] at hP
  have hS : va_S A s.heap H [] := by rw [hHe]; exact va_S.rf
  refine ct_start hHe ?_
  refine lv_aload_n hx hb dX12_row_0 rfl (lv_at hl 0 rfl) ?_
  refine lv_iconst (v := 0) hx hb dX12_row_1 (by decide) ?_
  refine va_put (D := D) (ci := 12) (v := .int 0) (ty := .int) (C := RX12) (T := TX12) (N := 45) hx hb hts hi12 tyX12 tyX12_ok nmX12 hown hK hP hD hS 0 rfl rfl 0 (by decide) (hts (.fieldLink RX12 80 "OverHillModel" "thrown" "I") (by decide +kernel)) (fun _ h9 => h9) rfl (by decide +kernel) rfl rfl (Nat.le_of_ble_eq_true rfl) dX12_row_2 (fun H locs hP hD hS => ?_)
  obtain ⟨hP, hD⟩ : ct_B D A H [mo qm 0 qm_width qm_many qm_cells qm_moved qm_tape vm_taped vm_at vm_token vm_place vm_value vm_word vm_bad vm_badPlace vm_fault vm_faultPlace qm_lines qm_has qm_round qm_meets qm_stumble qm_isMud qm_cell qm_tune qm_change qm_isKept qm_steps qm_places qm_danced vm_runMost vm_runBegins qm_heardBy vm_fitMany vm_fitFirst vm_fitBeats vm_listenLeaves qm_there vm_metAt vm_metIn qm_wins vm_nightHoles vm_nightFirst vm_nightMud vm_nightSlips vm_drawnNow, (qm_width, .inl (cI, 4, .inl (fm_width))), (qm_many, .inl (cI, 4, .inl (fm_many))), (qm_cells, .inl (cJ, 240, .inr (.inl (fm_cells))))] := ⟨hP, hD⟩
  refine lv_iload_n hx hb dX12_row_5 rfl (lv_at hl 1 rfl) ?_
  refine ct_calli (D := D) (wr := [mo qm 0 qm_width qm_many qm_cells qm_moved qm_tape vm_taped vm_at vm_token vm_place vm_value vm_word vm_bad vm_badPlace vm_fault vm_faultPlace qm_lines qm_has qm_round qm_meets qm_stumble qm_isMud qm_cell qm_tune qm_change qm_isKept qm_steps qm_places qm_danced vm_runMost vm_runBegins qm_heardBy vm_fitMany vm_fitFirst vm_fitBeats vm_listenLeaves qm_there vm_metAt vm_metIn qm_wins vm_nightHoles vm_nightFirst vm_nightMud vm_nightSlips vm_drawnNow, (qm_width, .inl (cI, 4, .inl (fm_width))), (qm_many, .inl (cI, 4, .inl (fm_many))), (qm_cells, .inl (cJ, 240, .inr (.inl (fm_cells))))]) (va_runS (As := [.int a1]) (rest := []) ⟨hx, hb, hml, hown, hts⟩ (c_X12_isSlot l D G cI cJ cB cZ cO a1  H.size) (va_cwS 1 hts gX12_row_X12_isSlot rfl rfl rfl (by decide +kernel) ⟨Nat.le_of_ble_eq_true rfl, Nat.le_of_ble_eq_true rfl⟩) (ct_preS (T := ct_T cI cJ cB cZ cO) hE hH hP hD hS hA [] (by decide) rfl) rfl rfl hl.1 rfl (lv_room (Nat.le_of_ble_eq_true rfl)) dX12_row_6 ⟨Nat.le_of_ble_eq_true rfl, Nat.le_of_ble_eq_true rfl⟩) hP hD hS hA [] [0, 1, 2, 3] rfl rfl (by decide) (by decide) (fun r1 u H locs hw hP hD hS => ?_)
  obtain ⟨hP, hD⟩ : ct_B D A H [mo qm 0 qm_width qm_many qm_cells qm_moved qm_tape vm_taped vm_at vm_token vm_place vm_value vm_word vm_bad vm_badPlace vm_fault vm_faultPlace qm_lines qm_has qm_round qm_meets qm_stumble qm_isMud qm_cell qm_tune qm_change qm_isKept qm_steps qm_places qm_danced vm_runMost vm_runBegins qm_heardBy vm_fitMany vm_fitFirst vm_fitBeats vm_listenLeaves qm_there vm_metAt vm_metIn qm_wins vm_nightHoles vm_nightFirst vm_nightMud vm_nightSlips vm_drawnNow, (qm_width, .inl (cI, 4, .inl (fm_width))), (qm_many, .inl (cI, 4, .inl (fm_many))), (qm_cells, .inl (cJ, 240, .inr (.inl (fm_cells))))] := ⟨hP, hD⟩
  have hz := hw
  rcases hz with ⟨hz, hz2⟩ | ⟨hz, hz2⟩
  · subst hz
    have hz_2 : (0 ≤ a1.toInt ∧ a1.toInt < 4) := hz2
    refine lv_if_eq (tgt := 30) hx hb dX12_row_9 (by decide) (fun hc => absurd hc (by decide)) (fun _ => ?_)
    refine lv_iload_n hx hb dX12_row_12 rfl (lv_at hl 2 rfl) ?_
    refine lv_i2l (v := _) hx hb dX12_row_13 rfl ?_
    refine lv_topl (fun z3 ez3 => ?_)
    have fz3 : z3.toInt = a2.toInt := by rw [ez3]; exact tl_i rfl
    have hb4 := tq_lo a2
    refine lv_lconst (v := 0) hx hb dX12_row_14 (by decide) ?_
    refine lv_ldc2 (v := 3) hx hb hown (hts (.constantLong RX12 83 (3)) (by decide +kernel)) dX12_row_15 ?_
    refine ct_calli (D := D) (wr := [mo qm 0 qm_width qm_many qm_cells qm_moved qm_tape vm_taped vm_at vm_token vm_place vm_value vm_word vm_bad vm_badPlace vm_fault vm_faultPlace qm_lines qm_has qm_round qm_meets qm_stumble qm_isMud qm_cell qm_tune qm_change qm_isKept qm_steps qm_places qm_danced vm_runMost vm_runBegins qm_heardBy vm_fitMany vm_fitFirst vm_fitBeats vm_listenLeaves qm_there vm_metAt vm_metIn qm_wins vm_nightHoles vm_nightFirst vm_nightMud vm_nightSlips vm_drawnNow, (qm_width, .inl (cI, 4, .inl (fm_width))), (qm_many, .inl (cI, 4, .inl (fm_many))), (qm_cells, .inl (cJ, 240, .inr (.inl (fm_cells))))]) (va_runS (As := [.long z3, .long 0, .long 3]) (rest := []) ⟨hx, hb, hml, hown, hts⟩ (c_X12_in l D G cI cJ cB cZ cO z3 0 3  H.size) (va_cwS 3 hts gX12_row_X12_in rfl rfl rfl (by decide +kernel) ⟨Nat.le_of_ble_eq_true rfl, Nat.le_of_ble_eq_true rfl⟩) (ct_preS (T := ct_T cI cJ cB cZ cO) hE hH hP hD hS hA [] (by decide) rfl) rfl rfl hl.1 rfl (lv_room (Nat.le_of_ble_eq_true rfl)) dX12_row_18 ⟨Nat.le_of_ble_eq_true rfl, Nat.le_of_ble_eq_true rfl⟩) hP hD hS hA [] [0, 1, 2, 3] rfl rfl (by decide) (by decide) (fun r5 u H locs hw hP hD hS => ?_)
    obtain ⟨hP, hD⟩ : ct_B D A H [mo qm 0 qm_width qm_many qm_cells qm_moved qm_tape vm_taped vm_at vm_token vm_place vm_value vm_word vm_bad vm_badPlace vm_fault vm_faultPlace qm_lines qm_has qm_round qm_meets qm_stumble qm_isMud qm_cell qm_tune qm_change qm_isKept qm_steps qm_places qm_danced vm_runMost vm_runBegins qm_heardBy vm_fitMany vm_fitFirst vm_fitBeats vm_listenLeaves qm_there vm_metAt vm_metIn qm_wins vm_nightHoles vm_nightFirst vm_nightMud vm_nightSlips vm_drawnNow, (qm_width, .inl (cI, 4, .inl (fm_width))), (qm_many, .inl (cI, 4, .inl (fm_many))), (qm_cells, .inl (cJ, 240, .inr (.inl (fm_cells))))] := ⟨hP, hD⟩
    have hk6 : (0 : Int64).toInt = 0 := by decide
    have hk7 : (3 : Int64).toInt = 3 := by decide
    have hz := hw
    rcases hz with ⟨hz, hz2⟩ | ⟨hz, hz2⟩
    · subst hz
      have hz_8 : ((0 : Int64).toInt ≤ z3.toInt ∧ z3.toInt ≤ (3 : Int64).toInt) := hz2
      refine lv_if_eq (tgt := 30) hx hb dX12_row_21 (by decide) (fun hc => absurd hc (by decide)) (fun _ => ?_)
      refine lv_iload_n hx hb dX12_row_24 rfl (lv_at hl 3 rfl) ?_
      refine lv_bipush (v := 60) hx hb dX12_row_25 (by decide) ?_
      refine lv_icmp_le (tgt := 33) hx hb dX12_row_27 (by decide) (fun hc => ?_) (fun hc => ?_)
      · have hq9 : a3.toInt ≤ 60 := tq_le rfl (by decide) hc
        have hb10 := tq_lo a3
        refine lv_iload_n hx hb dX12_row_33 rfl (lv_at hl 3 rfl) ?_
        refine lv_if_ge (tgt := 40) hx hb dX12_row_34 (by decide) (fun hc => ?_) (fun hc => ?_)
        · have hq11 : 0 ≤ a3.toInt := tq_le (by decide) rfl hc
          have hb12 := tq_lo a3
          refine lv_aload_n hx hb dX12_row_40 rfl (lv_at hl 0 rfl) ?_
          refine va_get (D := D) (ci := 12) (v := .ref qm_width) (C := RX12) (T := TX12) (N := 45) hx hb hts hi12 hown hK hP 0 rfl rfl 1 (by decide) (hts (.fieldLink RX12 7 "OverHillModel" "width" "[I") (by decide +kernel)) (fun _ h9 => h9) rfl dX12_row_41 ?_
          refine lv_iload_n hx hb dX12_row_44 rfl (lv_at hl 1 rfl) ?_
          refine lv_iload_n hx hb dX12_row_45 rfl (lv_at hl 2 rfl) ?_
          refine va_iast (D := D) hx hb hK hP hD hS 1 0 rfl rfl (tq_in rfl (by omega)) dX12_row_46 (fun H locs hP hD hS => ?_)
          obtain ⟨hP, hD⟩ : ct_B D A H [mo qm 0 qm_width qm_many qm_cells qm_moved qm_tape vm_taped vm_at vm_token vm_place vm_value vm_word vm_bad vm_badPlace vm_fault vm_faultPlace qm_lines qm_has qm_round qm_meets qm_stumble qm_isMud qm_cell qm_tune qm_change qm_isKept qm_steps qm_places qm_danced vm_runMost vm_runBegins qm_heardBy vm_fitMany vm_fitFirst vm_fitBeats vm_listenLeaves qm_there vm_metAt vm_metIn qm_wins vm_nightHoles vm_nightFirst vm_nightMud vm_nightSlips vm_drawnNow, (qm_width, .inl (cI, 4, .inl (upd fm_width a1.toNatClampNeg a2))), (qm_many, .inl (cI, 4, .inl (fm_many))), (qm_cells, .inl (cJ, 240, .inr (.inl (fm_cells))))] := ⟨hP, hD⟩
          refine lv_aload_n hx hb dX12_row_47 rfl (lv_at hl 0 rfl) ?_
          refine va_get (D := D) (ci := 12) (v := .ref qm_many) (C := RX12) (T := TX12) (N := 45) hx hb hts hi12 hown hK hP 0 rfl rfl 2 (by decide) (hts (.fieldLink RX12 13 "OverHillModel" "many" "[I") (by decide +kernel)) (fun _ h9 => h9) rfl dX12_row_48 ?_
          refine lv_iload_n hx hb dX12_row_51 rfl (lv_at hl 1 rfl) ?_
          refine lv_iload_n hx hb dX12_row_52 rfl (lv_at hl 3 rfl) ?_
          refine va_iast (D := D) hx hb hK hP hD hS 2 0 rfl rfl (tq_in rfl (by omega)) dX12_row_53 (fun H locs hP hD hS => ?_)
          obtain ⟨g13, heq14, h_g13, hP, hD⟩ : ∃ g13 : Nat → Int32, g13 = upd fm_many a1.toNatClampNeg a3 ∧ ar_ok [0] [60] g13 ∧ ct_B D A H [mo qm 0 qm_width qm_many qm_cells qm_moved qm_tape vm_taped vm_at vm_token vm_place vm_value vm_word vm_bad vm_badPlace vm_fault vm_faultPlace qm_lines qm_has qm_round qm_meets qm_stumble qm_isMud qm_cell qm_tune qm_change qm_isKept qm_steps qm_places qm_danced vm_runMost vm_runBegins qm_heardBy vm_fitMany vm_fitFirst vm_fitBeats vm_listenLeaves qm_there vm_metAt vm_metIn qm_wins vm_nightHoles vm_nightFirst vm_nightMud vm_nightSlips vm_drawnNow, (qm_width, .inl (cI, 4, .inl (upd fm_width a1.toNatClampNeg a2))), (qm_many, .inl (cI, 4, .inl (g13))), (qm_cells, .inl (cJ, 240, .inr (.inl (fm_cells))))] := ⟨_, rfl, ar_set h_fm_many a1 a3 0 (by omega) (show a1.toInt % 1 = 0 by omega) rfl (show 0 ≤ a3.toInt ∧ a3.toInt ≤ 60 by omega), hP, hD⟩
          refine lv_iconst (v := 0) hx hb dX12_row_54 (by decide) ?_
          refine lv_istore (lv' := [(4, .int 0), (0, .ref qm), (1, .int a1), (2, .int a2), (3, .int a3)]) hx hb dX12_row_55 hl (by decide) rfl (fun ls hl => ?_)
          refine ct_loop (X := (Nat → Int64) × Int32) (fun x => (60 - x.2.toInt).toNat) (fun x H locs ls => ((0 ≤ x.2.toInt ∧ x.2.toInt ≤ 60)) ∧ (rowN a1.toInt x.2.toInt fm_cells x.1) ∧ ct_B D A H [mo qm 0 qm_width qm_many qm_cells qm_moved qm_tape vm_taped vm_at vm_token vm_place vm_value vm_word vm_bad vm_badPlace vm_fault vm_faultPlace qm_lines qm_has qm_round qm_meets qm_stumble qm_isMud qm_cell qm_tune qm_change qm_isKept qm_steps qm_places qm_danced vm_runMost vm_runBegins qm_heardBy vm_fitMany vm_fitFirst vm_fitBeats vm_listenLeaves qm_there vm_metAt vm_metIn qm_wins vm_nightHoles vm_nightFirst vm_nightMud vm_nightSlips vm_drawnNow, (qm_width, .inl (cI, 4, .inl (upd fm_width a1.toNatClampNeg a2))), (qm_many, .inl (cI, 4, .inl (g13))), (qm_cells, .inl (cJ, 240, .inr (.inl (x.1))))] ∧ va_S A s.heap H locs ∧ lv_has ls 5 [(4, .int x.2), (0, .ref qm), (1, .int a1), (2, .int a2), (3, .int a3)]) 57 (fm_cells, (0 : Int32)) ⟨(show 0 ≤ (0 : Int32).toInt ∧ (0 : Int32).toInt ≤ 60 by decide), (show rowN a1.toInt (0 : Int32).toInt fm_cells fm_cells by exact rowN_zero (by decide)), ⟨hP, hD⟩, hS, lv_sub hl [0, 1, 2, 3, 4] rfl⟩ (fun x ih56 H locs ls hI => ?_)
          obtain ⟨g54, x55⟩ := x
          obtain ⟨h_x55, he0, ⟨hP, hD⟩, hS, hl⟩ := hI
          have h_x55 : (0 ≤ x55.toInt ∧ x55.toInt ≤ 60) := h_x55
          have he0 : rowN a1.toInt x55.toInt fm_cells g54 := he0
          obtain ⟨hP, hD⟩ : ct_B D A H [mo qm 0 qm_width qm_many qm_cells qm_moved qm_tape vm_taped vm_at vm_token vm_place vm_value vm_word vm_bad vm_badPlace vm_fault vm_faultPlace qm_lines qm_has qm_round qm_meets qm_stumble qm_isMud qm_cell qm_tune qm_change qm_isKept qm_steps qm_places qm_danced vm_runMost vm_runBegins qm_heardBy vm_fitMany vm_fitFirst vm_fitBeats vm_listenLeaves qm_there vm_metAt vm_metIn qm_wins vm_nightHoles vm_nightFirst vm_nightMud vm_nightSlips vm_drawnNow, (qm_width, .inl (cI, 4, .inl (upd fm_width a1.toNatClampNeg a2))), (qm_many, .inl (cI, 4, .inl (g13))), (qm_cells, .inl (cJ, 240, .inr (.inl (g54))))] := ⟨hP, hD⟩
          have hl : lv_has ls 5 [(4, .int x55), (0, .ref qm), (1, .int a1), (2, .int a2), (3, .int a3)] := hl
          refine lv_iload hx hb dX12_row_57 (lv_at hl 0 rfl) ?_
          refine lv_iload_n hx hb dX12_row_59 rfl (lv_at hl 4 rfl) ?_
          refine lv_icmp_ge (tgt := 82) hx hb dX12_row_60 (by decide) (fun hc => ?_) (fun hc => ?_)
          · have hq57 : a3.toInt ≤ x55.toInt := tq_le rfl rfl hc
            refine lv_iconst (v := 0) hx hb dX12_row_82 (by decide) ?_
            have hk58 : (0 : Int32).toInt = 0 := by decide
            have hk59 : (0 : Int32).toInt = 0 := by decide
            obtain ⟨hP9, hD9⟩ : ct_B D A H [mo qm 0 qm_width qm_many qm_cells qm_moved qm_tape vm_taped vm_at vm_token vm_place vm_value vm_word vm_bad vm_badPlace vm_fault vm_faultPlace qm_lines qm_has qm_round qm_meets qm_stumble qm_isMud qm_cell qm_tune qm_change qm_isKept qm_steps qm_places qm_danced vm_runMost vm_runBegins qm_heardBy vm_fitMany vm_fitFirst vm_fitBeats vm_listenLeaves qm_there vm_metAt vm_metIn qm_wins vm_nightHoles vm_nightFirst vm_nightMud vm_nightSlips vm_drawnNow, (qm_width, .inl (cI, 4, .inl (upd fm_width a1.toNatClampNeg a2))), (qm_many, .inl (cI, 4, .inl (g13))), (qm_cells, .inl (cJ, 240, .inr (.inl (g54))))] := ⟨hP.sub [0, 1, 2, 3] rfl, hD.sub [0, 1, 2, 3] (by decide) rfl⟩
            exact W.iret (v := 0) hx hb hr (fun t ht hW => ⟨⟨0, ((0 : Int32), (upd fm_width a1.toNatClampNeg a2), g13, g54), rfl, ⟨(Or.inr (Or.inr (⟨rfl, (show (((0 ≤ a1.toInt ∧ a1.toInt < 4) ∧ (0 ≤ a2.toInt ∧ a2.toInt < 4) ∧ a3.toInt ≤ 60) ∧ 0 ≤ a3.toInt) by omega)⟩))), h_g13, (show ((0 : Int32) = 0 ∧ g13 = upd fm_many a1.toNatClampNeg a3 ∧ (upd fm_width a1.toNatClampNeg a2) = upd fm_width a1.toNatClampNeg a2 ∧ rowN a1.toInt a3.toInt fm_cells g54) ∨ ((0 : Int32) ≠ 0 ∧ g13 = fm_many ∧ (upd fm_width a1.toNatClampNeg a2) = fm_width ∧ g54 = fm_cells) by exact Or.inl ⟨rfl, heq14, rfl, rowN_le he0 (by omega)⟩)⟩, by rw [ht]; exact hP9, hD9⟩, hS.F ht⟩) hS.2.2 dX12_row_83
          · have hq57 : x55.toInt < a3.toInt := tq_nle rfl rfl hc
            refine lv_aload_n hx hb dX12_row_63 rfl (lv_at hl 1 rfl) ?_
            refine va_get (D := D) (ci := 12) (v := .ref qm_cells) (C := RX12) (T := TX12) (N := 45) hx hb hts hi12 hown hK hP 0 rfl rfl 3 (by decide) (hts (.fieldLink RX12 16 "OverHillModel" "cells" "[J") (by decide +kernel)) (fun _ h9 => h9) rfl dX12_row_64 ?_
            refine lv_bipush (v := 60) hx hb dX12_row_67 (by decide) ?_
            refine lv_iload_n hx hb dX12_row_69 rfl (lv_at hl 2 rfl) ?_
            refine lv_imul hx hb dX12_row_70 ?_
            refine lv_topi (fun z60 ez60 => ?_)
            have fz60 : z60.toInt = 60 * a1.toInt := by rw [ez60]; exact tq_mul (by decide) rfl (by omega)
            refine lv_iload hx hb dX12_row_71 (lv_at hl 0 rfl) ?_
            refine lv_iadd hx hb dX12_row_73 ?_
            refine lv_topi (fun z61 ez61 => ?_)
            have fz61 : z61.toInt = z60.toInt + x55.toInt := by rw [ez61]; exact tq_add rfl rfl (by omega)
            refine lv_lconst (v := 0) hx hb dX12_row_74 (by decide) ?_
            refine va_last (D := D) hx hb hK hP hD hS 3 1 rfl rfl (tq_in rfl (by omega)) dX12_row_75 (fun H locs hP hD hS => ?_)
            obtain ⟨hP, hD⟩ : ct_B D A H [mo qm 0 qm_width qm_many qm_cells qm_moved qm_tape vm_taped vm_at vm_token vm_place vm_value vm_word vm_bad vm_badPlace vm_fault vm_faultPlace qm_lines qm_has qm_round qm_meets qm_stumble qm_isMud qm_cell qm_tune qm_change qm_isKept qm_steps qm_places qm_danced vm_runMost vm_runBegins qm_heardBy vm_fitMany vm_fitFirst vm_fitBeats vm_listenLeaves qm_there vm_metAt vm_metIn qm_wins vm_nightHoles vm_nightFirst vm_nightMud vm_nightSlips vm_drawnNow, (qm_width, .inl (cI, 4, .inl (upd fm_width a1.toNatClampNeg a2))), (qm_many, .inl (cI, 4, .inl (g13))), (qm_cells, .inl (cJ, 240, .inr (.inl (vp_updL g54 z61.toNatClampNeg (0 : Int64)))))] := ⟨hP, hD⟩
            obtain ⟨z62, ez62⟩ : ∃ z : Int32, z = x55 + 1 := ⟨_, rfl⟩
            have fz62 : z62.toInt = x55.toInt + 1 := by rw [ez62]; exact tq_add rfl (by decide) (by omega)
            refine lv_iinc (v := z62) (lv' := [(4, .int z62), (0, .ref qm), (1, .int a1), (2, .int a2), (3, .int a3)]) hx hb dX12_row_76 hl (k := 0) rfl ez62.symm (by decide) rfl (fun ls hl => ?_)
            refine lv_goto (tgt := 57) hx hb dX12_row_79 (by decide) ?_
            exact ih56 ((vp_updL g54 z61.toNatClampNeg (0 : Int64)), z62) _ _ _ (show (60 - z62.toInt).toNat < (60 - x55.toInt).toNat by omega) ⟨(show 0 ≤ z62.toInt ∧ z62.toInt ≤ 60 by omega), (show rowN a1.toInt z62.toInt fm_cells (vp_updL g54 z61.toNatClampNeg (0 : Int64)) by exact rowN_step he0 (by omega) (by omega) (by omega) (by omega)), ⟨hP, hD⟩, hS, lv_sub hl [0, 1, 2, 3, 4] rfl⟩
        · have hq11 : a3.toInt < 0 := tq_nle (by decide) rfl hc
          have hb63 := tq_lo a3
          refine lv_bipush (v := (-3)) hx hb dX12_row_37 (by decide) ?_
          have hk64 : (0 : Int32).toInt = 0 := by decide
          have hk65 : (-3 : Int32).toInt = (-3) := by decide
          obtain ⟨hP9, hD9⟩ : ct_B D A H [mo qm 0 qm_width qm_many qm_cells qm_moved qm_tape vm_taped vm_at vm_token vm_place vm_value vm_word vm_bad vm_badPlace vm_fault vm_faultPlace qm_lines qm_has qm_round qm_meets qm_stumble qm_isMud qm_cell qm_tune qm_change qm_isKept qm_steps qm_places qm_danced vm_runMost vm_runBegins qm_heardBy vm_fitMany vm_fitFirst vm_fitBeats vm_listenLeaves qm_there vm_metAt vm_metIn qm_wins vm_nightHoles vm_nightFirst vm_nightMud vm_nightSlips vm_drawnNow, (qm_width, .inl (cI, 4, .inl (fm_width))), (qm_many, .inl (cI, 4, .inl (fm_many))), (qm_cells, .inl (cJ, 240, .inr (.inl (fm_cells))))] := ⟨hP.sub [0, 1, 2, 3] rfl, hD.sub [0, 1, 2, 3] (by decide) rfl⟩
          exact W.iret (v := (-3)) hx hb hr (fun t ht hW => ⟨⟨(-3), ((0 : Int32), fm_width, fm_many, fm_cells), rfl, ⟨(Or.inr (Or.inl ⟨rfl, (show (((0 ≤ a1.toInt ∧ a1.toInt < 4) ∧ (0 ≤ a2.toInt ∧ a2.toInt < 4) ∧ a3.toInt ≤ 60) ∧ a3.toInt < 0) by omega)⟩)), h_fm_many, (show ((-3 : Int32) = 0 ∧ fm_many = upd fm_many a1.toNatClampNeg a3 ∧ fm_width = upd fm_width a1.toNatClampNeg a2 ∧ rowN a1.toInt a3.toInt fm_cells fm_cells) ∨ ((-3 : Int32) ≠ 0 ∧ fm_many = fm_many ∧ fm_width = fm_width ∧ fm_cells = fm_cells) by exact Or.inr ⟨by decide, rfl, rfl, rfl⟩)⟩, by rw [ht]; exact hP9, hD9⟩, hS.F ht⟩) hS.2.2 dX12_row_39
      · have hq9 : 60 < a3.toInt := tq_nle rfl (by decide) hc
        have hb66 := tq_lo a3
        refine lv_bipush (v := (-2)) hx hb dX12_row_30 (by decide) ?_
        have hk67 : (0 : Int32).toInt = 0 := by decide
        have hk68 : (-2 : Int32).toInt = (-2) := by decide
        obtain ⟨hP9, hD9⟩ : ct_B D A H [mo qm 0 qm_width qm_many qm_cells qm_moved qm_tape vm_taped vm_at vm_token vm_place vm_value vm_word vm_bad vm_badPlace vm_fault vm_faultPlace qm_lines qm_has qm_round qm_meets qm_stumble qm_isMud qm_cell qm_tune qm_change qm_isKept qm_steps qm_places qm_danced vm_runMost vm_runBegins qm_heardBy vm_fitMany vm_fitFirst vm_fitBeats vm_listenLeaves qm_there vm_metAt vm_metIn qm_wins vm_nightHoles vm_nightFirst vm_nightMud vm_nightSlips vm_drawnNow, (qm_width, .inl (cI, 4, .inl (fm_width))), (qm_many, .inl (cI, 4, .inl (fm_many))), (qm_cells, .inl (cJ, 240, .inr (.inl (fm_cells))))] := ⟨hP.sub [0, 1, 2, 3] rfl, hD.sub [0, 1, 2, 3] (by decide) rfl⟩
        exact W.iret (v := (-2)) hx hb hr (fun t ht hW => ⟨⟨(-2), ((0 : Int32), fm_width, fm_many, fm_cells), rfl, ⟨(Or.inl ⟨rfl, (show ¬ ((0 ≤ a1.toInt ∧ a1.toInt < 4) ∧ (0 ≤ a2.toInt ∧ a2.toInt < 4) ∧ a3.toInt ≤ 60) by omega)⟩), h_fm_many, (show ((-2 : Int32) = 0 ∧ fm_many = upd fm_many a1.toNatClampNeg a3 ∧ fm_width = upd fm_width a1.toNatClampNeg a2 ∧ rowN a1.toInt a3.toInt fm_cells fm_cells) ∨ ((-2 : Int32) ≠ 0 ∧ fm_many = fm_many ∧ fm_width = fm_width ∧ fm_cells = fm_cells) by exact Or.inr ⟨by decide, rfl, rfl, rfl⟩)⟩, by rw [ht]; exact hP9, hD9⟩, hS.F ht⟩) hS.2.2 dX12_row_32
    · subst hz
      have hz_69 : ¬ ((0 : Int64).toInt ≤ z3.toInt ∧ z3.toInt ≤ (3 : Int64).toInt) := hz2
      refine lv_if_eq (tgt := 30) hx hb dX12_row_21 (by decide) (fun _ => ?_) (fun hc => absurd hc (by decide))
      refine lv_bipush (v := (-2)) hx hb dX12_row_30 (by decide) ?_
      have hk70 : (0 : Int32).toInt = 0 := by decide
      have hk71 : (-2 : Int32).toInt = (-2) := by decide
      obtain ⟨hP9, hD9⟩ : ct_B D A H [mo qm 0 qm_width qm_many qm_cells qm_moved qm_tape vm_taped vm_at vm_token vm_place vm_value vm_word vm_bad vm_badPlace vm_fault vm_faultPlace qm_lines qm_has qm_round qm_meets qm_stumble qm_isMud qm_cell qm_tune qm_change qm_isKept qm_steps qm_places qm_danced vm_runMost vm_runBegins qm_heardBy vm_fitMany vm_fitFirst vm_fitBeats vm_listenLeaves qm_there vm_metAt vm_metIn qm_wins vm_nightHoles vm_nightFirst vm_nightMud vm_nightSlips vm_drawnNow, (qm_width, .inl (cI, 4, .inl (fm_width))), (qm_many, .inl (cI, 4, .inl (fm_many))), (qm_cells, .inl (cJ, 240, .inr (.inl (fm_cells))))] := ⟨hP.sub [0, 1, 2, 3] rfl, hD.sub [0, 1, 2, 3] (by decide) rfl⟩
      exact W.iret (v := (-2)) hx hb hr (fun t ht hW => ⟨⟨(-2), ((0 : Int32), fm_width, fm_many, fm_cells), rfl, ⟨(Or.inl ⟨rfl, (show ¬ ((0 ≤ a1.toInt ∧ a1.toInt < 4) ∧ (0 ≤ a2.toInt ∧ a2.toInt < 4) ∧ a3.toInt ≤ 60) by omega)⟩), h_fm_many, (show ((-2 : Int32) = 0 ∧ fm_many = upd fm_many a1.toNatClampNeg a3 ∧ fm_width = upd fm_width a1.toNatClampNeg a2 ∧ rowN a1.toInt a3.toInt fm_cells fm_cells) ∨ ((-2 : Int32) ≠ 0 ∧ fm_many = fm_many ∧ fm_width = fm_width ∧ fm_cells = fm_cells) by exact Or.inr ⟨by decide, rfl, rfl, rfl⟩)⟩, by rw [ht]; exact hP9, hD9⟩, hS.F ht⟩) hS.2.2 dX12_row_32
  · subst hz
    have hz_72 : ¬ (0 ≤ a1.toInt ∧ a1.toInt < 4) := hz2
    refine lv_if_eq (tgt := 30) hx hb dX12_row_9 (by decide) (fun _ => ?_) (fun hc => absurd hc (by decide))
    refine lv_bipush (v := (-2)) hx hb dX12_row_30 (by decide) ?_
    have hk73 : (0 : Int32).toInt = 0 := by decide
    have hk74 : (-2 : Int32).toInt = (-2) := by decide
    obtain ⟨hP9, hD9⟩ : ct_B D A H [mo qm 0 qm_width qm_many qm_cells qm_moved qm_tape vm_taped vm_at vm_token vm_place vm_value vm_word vm_bad vm_badPlace vm_fault vm_faultPlace qm_lines qm_has qm_round qm_meets qm_stumble qm_isMud qm_cell qm_tune qm_change qm_isKept qm_steps qm_places qm_danced vm_runMost vm_runBegins qm_heardBy vm_fitMany vm_fitFirst vm_fitBeats vm_listenLeaves qm_there vm_metAt vm_metIn qm_wins vm_nightHoles vm_nightFirst vm_nightMud vm_nightSlips vm_drawnNow, (qm_width, .inl (cI, 4, .inl (fm_width))), (qm_many, .inl (cI, 4, .inl (fm_many))), (qm_cells, .inl (cJ, 240, .inr (.inl (fm_cells))))] := ⟨hP.sub [0, 1, 2, 3] rfl, hD.sub [0, 1, 2, 3] (by decide) rfl⟩
    exact W.iret (v := (-2)) hx hb hr (fun t ht hW => ⟨⟨(-2), ((0 : Int32), fm_width, fm_many, fm_cells), rfl, ⟨(Or.inl ⟨rfl, (show ¬ ((0 ≤ a1.toInt ∧ a1.toInt < 4) ∧ (0 ≤ a2.toInt ∧ a2.toInt < 4) ∧ a3.toInt ≤ 60) by omega)⟩), h_fm_many, (show ((-2 : Int32) = 0 ∧ fm_many = upd fm_many a1.toNatClampNeg a3 ∧ fm_width = upd fm_width a1.toNatClampNeg a2 ∧ rowN a1.toInt a3.toInt fm_cells fm_cells) ∨ ((-2 : Int32) ≠ 0 ∧ fm_many = fm_many ∧ fm_width = fm_width ∧ fm_cells = fm_cells) by exact Or.inr ⟨by decide, rfl, rfl, rfl⟩)⟩, by rw [ht]; exact hP9, hD9⟩, hS.F ht⟩) hS.2.2 dX12_row_32
abbrev w_c_X12_write (cI cJ cB cZ cO : ClassId) (qm : Nat) (vm_thrown : Int32) (qm_width : Nat) (fm_width : Nat → Int32) (qm_many : Nat) (fm_many : Nat → Int32) (qm_cells : Nat) (fm_cells : Nat → Int64) (qm_moved : Nat) (qm_tape : Nat) (vm_taped : Int32) (vm_at : Int32) (vm_token : Int32) (vm_place : Int32) (vm_value : Int32) (vm_word : Int64) (vm_bad : Int32) (vm_badPlace : Int32) (vm_fault : Int32) (vm_faultPlace : Int32) (qm_lines : Nat) (qm_has : Nat) (qm_round : Nat) (qm_meets : Nat) (qm_stumble : Nat) (qm_isMud : Nat) (qm_cell : Nat) (qm_tune : Nat) (qm_change : Nat) (qm_isKept : Nat) (qm_steps : Nat) (qm_places : Nat) (qm_danced : Nat) (vm_runMost : Int32) (vm_runBegins : Int32) (qm_heardBy : Nat) (vm_fitMany : Int32) (vm_fitFirst : Int32) (vm_fitBeats : Int64) (vm_listenLeaves : Int32) (qm_there : Nat) (vm_metAt : Int32) (vm_metIn : Int32) (qm_wins : Nat) (vm_nightHoles : Int32) (vm_nightFirst : Int32) (vm_nightMud : Int32) (vm_nightSlips : Int32) (vm_drawnNow : Int64) : va_W := [mo qm vm_thrown qm_width qm_many qm_cells qm_moved qm_tape vm_taped vm_at vm_token vm_place vm_value vm_word vm_bad vm_badPlace vm_fault vm_faultPlace qm_lines qm_has qm_round qm_meets qm_stumble qm_isMud qm_cell qm_tune qm_change qm_isKept qm_steps qm_places qm_danced vm_runMost vm_runBegins qm_heardBy vm_fitMany vm_fitFirst vm_fitBeats vm_listenLeaves qm_there vm_metAt vm_metIn qm_wins vm_nightHoles vm_nightFirst vm_nightMud vm_nightSlips vm_drawnNow, (qm_width, .inl (cI, 4, .inl (fm_width))), (qm_many, .inl (cI, 4, .inl (fm_many))), (qm_cells, .inl (cJ, 240, .inr (.inl (fm_cells))))]
set_option maxHeartbeats 4000000 in
set_option maxRecDepth 100000 in
/-- X12 write -/
theorem c_X12_write (l : Launch) (D : va_G) (G : ct_G) (cI cJ cB cZ cO : ClassId) (qm : Nat) (vm_thrown : Int32) (qm_width : Nat) (fm_width : Nat → Int32) (qm_many : Nat) (fm_many : Nat → Int32) (qm_cells : Nat) (fm_cells : Nat → Int64) (qm_moved : Nat) (qm_tape : Nat) (vm_taped : Int32) (vm_at : Int32) (vm_token : Int32) (vm_place : Int32) (vm_value : Int32) (vm_word : Int64) (vm_bad : Int32) (vm_badPlace : Int32) (vm_fault : Int32) (vm_faultPlace : Int32) (qm_lines : Nat) (qm_has : Nat) (qm_round : Nat) (qm_meets : Nat) (qm_stumble : Nat) (qm_isMud : Nat) (qm_cell : Nat) (qm_tune : Nat) (qm_change : Nat) (qm_isKept : Nat) (qm_steps : Nat) (qm_places : Nat) (qm_danced : Nat) (vm_runMost : Int32) (vm_runBegins : Int32) (qm_heardBy : Nat) (vm_fitMany : Int32) (vm_fitFirst : Int32) (vm_fitBeats : Int64) (vm_listenLeaves : Int32) (qm_there : Nat) (vm_metAt : Int32) (vm_metIn : Int32) (qm_wins : Nat) (vm_nightHoles : Int32) (vm_nightFirst : Int32) (vm_nightMud : Int32) (vm_nightSlips : Int32) (vm_drawnNow : Int64) (a1 : Int32) (a2 : Int32) (a3 : Int64) (h_fm_many : ar_ok [0] [60] fm_many) (h_vm_taped : 0 ≤ vm_taped.toInt ∧ vm_taped.toInt ≤ 1200) (h_vm_at : 0 ≤ vm_at.toInt ∧ vm_at.toInt ≤ 1200) (h_vm_value : 0 ≤ vm_value.toInt ∧ vm_value.toInt ≤ 1000009) (sz : Nat) : Met l yX12_write wsX12_write ({ frames := 2, cells := 0, slots := 0, locals := 45 }) (va_Pc [.ref qm, .int a1, .int a2, .long a3] (ct_P D (ct_T cI cJ cB cZ cO) G (w_c_X12_write cI cJ cB cZ cO qm vm_thrown qm_width fm_width qm_many fm_many qm_cells fm_cells qm_moved qm_tape vm_taped vm_at vm_token vm_place vm_value vm_word vm_bad vm_badPlace vm_fault vm_faultPlace qm_lines qm_has qm_round qm_meets qm_stumble qm_isMud qm_cell qm_tune qm_change qm_isKept qm_steps qm_places qm_danced vm_runMost vm_runBegins qm_heardBy vm_fitMany vm_fitFirst vm_fitBeats vm_listenLeaves qm_there vm_metAt vm_metIn qm_wins vm_nightHoles vm_nightFirst vm_nightMud vm_nightSlips vm_drawnNow) sz)) (va_Qi (fun (rz : Int32) (u : Int32 × (Nat → Int64)) => ((rz = (-2) ∧ ¬ (0 ≤ a1.toInt ∧ a1.toInt < 4)) ∨ (rz = (-6) ∧ ((0 ≤ a1.toInt ∧ a1.toInt < 4) ∧ ¬ ((fm_width a1.toNatClampNeg).toInt ≠ -1))) ∨ (rz = (-7) ∧ ((0 ≤ a1.toInt ∧ a1.toInt < 4) ∧ ((fm_width a1.toNatClampNeg).toInt ≠ -1) ∧ ¬ (0 ≤ a2.toInt ∧ a2.toInt < (fm_many a1.toNatClampNeg).toInt))) ∨ (rz = 0 ∧ ((0 ≤ a1.toInt ∧ a1.toInt < 4) ∧ ((fm_width a1.toNatClampNeg).toInt ≠ -1) ∧ (0 ≤ a2.toInt ∧ a2.toInt < (fm_many a1.toNatClampNeg).toInt)))) ∧ ((rz = 0 ∧ u.2 = vp_updL fm_cells (60 * a1.toInt + a2.toInt).toNat (cu a3 (fm_width a1.toNatClampNeg))) ∨ (rz ≠ 0 ∧ u.2 = fm_cells))) (fun (u : Int32 × (Nat → Int64)) t => ct_Q D (va_A (w_c_X12_write cI cJ cB cZ cO qm vm_thrown qm_width fm_width qm_many fm_many qm_cells fm_cells qm_moved qm_tape vm_taped vm_at vm_token vm_place vm_value vm_word vm_bad vm_badPlace vm_fault vm_faultPlace qm_lines qm_has qm_round qm_meets qm_stumble qm_isMud qm_cell qm_tune qm_change qm_isKept qm_steps qm_places qm_danced vm_runMost vm_runBegins qm_heardBy vm_fitMany vm_fitFirst vm_fitBeats vm_listenLeaves qm_there vm_metAt vm_metIn qm_wins vm_nightHoles vm_nightFirst vm_nightMud vm_nightSlips vm_drawnNow) sz) [mo qm u.1 qm_width qm_many qm_cells qm_moved qm_tape vm_taped vm_at vm_token vm_place vm_value vm_word vm_bad vm_badPlace vm_fault vm_faultPlace qm_lines qm_has qm_round qm_meets qm_stumble qm_isMud qm_cell qm_tune qm_change qm_isKept qm_steps qm_places qm_danced vm_runMost vm_runBegins qm_heardBy vm_fitMany vm_fitFirst vm_fitBeats vm_listenLeaves qm_there vm_metAt vm_metIn qm_wins vm_nightHoles vm_nightFirst vm_nightMud vm_nightSlips vm_drawnNow, (qm_width, .inl (cI, 4, .inl (fm_width))), (qm_many, .inl (cI, 4, .inl (fm_many))), (qm_cells, .inl (cJ, 240, .inr (.inl (u.2))))] t) (va_A (w_c_X12_write cI cJ cB cZ cO qm vm_thrown qm_width fm_width qm_many fm_many qm_cells fm_cells qm_moved qm_tape vm_taped vm_at vm_token vm_place vm_value vm_word vm_bad vm_badPlace vm_fault vm_faultPlace qm_lines qm_has qm_round qm_meets qm_stumble qm_isMud qm_cell qm_tune qm_change qm_isKept qm_steps qm_places qm_danced vm_runMost vm_runBegins qm_heardBy vm_fitMany vm_fitFirst vm_fitBeats vm_listenLeaves qm_there vm_metAt vm_metIn qm_wins vm_nightHoles vm_nightFirst vm_nightMud vm_nightSlips vm_drawnNow) sz)) 0 0 (va_A (w_c_X12_write cI cJ cB cZ cO qm vm_thrown qm_width fm_width qm_many fm_many qm_cells fm_cells qm_moved qm_tape vm_taped vm_at vm_token vm_place vm_value vm_word vm_bad vm_badPlace vm_fault vm_faultPlace qm_lines qm_has qm_round qm_meets qm_stumble qm_isMud qm_cell qm_tune qm_change qm_isKept qm_steps qm_places qm_danced vm_runMost vm_runBegins qm_heardBy vm_fitMany vm_fitFirst vm_fitBeats vm_listenLeaves qm_there vm_metAt vm_metIn qm_wins vm_nightHoles vm_nightFirst vm_nightMud vm_nightSlips vm_drawnNow) sz) := by
  refine Met.ofW (cc := cX12_write) (maxL := 5) (ret := (some .int)) (by decide) rfl ?_
  intro p e s m args below meth c s₁ B hml hv
  obtain ⟨rfl, hsz, hP, hE, hD0, hH⟩ := hv
  have hx := B.exec
  have hb := B.bytes
  have hr := B.returns
  have hts := atoms_spec (ws := wsX12_write) B.pre
  have hown : s.vm.findClass RX12 = some m.cls := findClass_of_methodNamed B.named
  have hlocks := B.notSynchronized
  have hK := hE.1
  have hi12 : ∀ w ∈ u_ws RX12 TX12 45, w ∈ wsX12_write := fun w h => List.mem_cons_of_mem _ (List.mem_append_right _ h)
  subst hsz
  have hD := hD0.self (sz := s.heap.size)
  generalize hAe : va_A (w_c_X12_write cI cJ cB cZ cO qm vm_thrown qm_width fm_width qm_many fm_many qm_cells fm_cells qm_moved qm_tape vm_taped vm_at vm_token vm_place vm_value vm_word vm_bad vm_badPlace vm_fault vm_faultPlace qm_lines qm_has qm_round qm_meets qm_stumble qm_isMud qm_cell qm_tune qm_change qm_isKept qm_steps qm_places qm_danced vm_runMost vm_runBegins qm_heardBy vm_fitMany vm_fitFirst vm_fitBeats vm_listenLeaves qm_there vm_metAt vm_metIn qm_wins vm_nightHoles vm_nightFirst vm_nightMud vm_nightSlips vm_drawnNow) s.heap.size = A at hD hH ⊢
  have hA : ∀ q : Nat, s.heap.size ≤ q → A q := fun q h => by rw [← hAe]; exact Or.inr h
  have hS : va_S A s.heap s.heap [] := va_S.rf
  obtain ⟨hP, hD⟩ : ct_B D A s.heap [mo qm vm_thrown qm_width qm_many qm_cells qm_moved qm_tape vm_taped vm_at vm_token vm_place vm_value vm_word vm_bad vm_badPlace vm_fault vm_faultPlace qm_lines qm_has qm_round qm_meets qm_stumble qm_isMud qm_cell qm_tune qm_change qm_isKept qm_steps qm_places qm_danced vm_runMost vm_runBegins qm_heardBy vm_fitMany vm_fitFirst vm_fitBeats vm_listenLeaves qm_there vm_metAt vm_metIn qm_wins vm_nightHoles vm_nightFirst vm_nightMud vm_nightSlips vm_drawnNow, (qm_width, .inl (cI, 4, .inl (fm_width))), (qm_many, .inl (cI, 4, .inl (fm_many))), (qm_cells, .inl (cJ, 240, .inr (.inl (fm_cells))))] := ⟨hP, hD⟩
  have hl := lv_entry ([.ref qm, .int a1, .int a2, .long a3]) (n := 5) (Nat.le_of_ble_eq_true rfl)
  rw [lg_entry_eq]
  generalize (lg_sl ([.ref qm, .int a1, .int a2, .long a3]) ++ List.replicate (5 - (lg_sl ([.ref qm, .int a1, .int a2, .long a3])).length) Slot.unset).toArray = ls at hl ⊢
  have hl : lv_has ls 5 [(0, .ref qm), (1, .int a1), (2, .int a2), (3, .long a3)] := hl
  obtain ⟨H, hHe⟩ : ∃ H : Heap, H = s.heap := ⟨_, rfl⟩
  rw [← hHe] at hP
  have hS : va_S A s.heap H [] := by rw [hHe]; exact va_S.rf
  refine ct_start hHe ?_
  refine lv_aload_n hx hb dX12_write_0 rfl (lv_at hl 0 rfl) ?_
  refine lv_iconst (v := 0) hx hb dX12_write_1 (by decide) ?_
  refine va_put (D := D) (ci := 12) (v := .int 0) (ty := .int) (C := RX12) (T := TX12) (N := 45) hx hb hts hi12 tyX12 tyX12_ok nmX12 hown hK hP hD hS 0 rfl rfl 0 (by decide) (hts (.fieldLink RX12 80 "OverHillModel" "thrown" "I") (by decide +kernel)) (fun _ h9 => h9) rfl (by decide +kernel) rfl rfl (Nat.le_of_ble_eq_true rfl) dX12_write_2 (fun H locs hP hD hS => ?_)
  obtain ⟨hP, hD⟩ : ct_B D A H [mo qm 0 qm_width qm_many qm_cells qm_moved qm_tape vm_taped vm_at vm_token vm_place vm_value vm_word vm_bad vm_badPlace vm_fault vm_faultPlace qm_lines qm_has qm_round qm_meets qm_stumble qm_isMud qm_cell qm_tune qm_change qm_isKept qm_steps qm_places qm_danced vm_runMost vm_runBegins qm_heardBy vm_fitMany vm_fitFirst vm_fitBeats vm_listenLeaves qm_there vm_metAt vm_metIn qm_wins vm_nightHoles vm_nightFirst vm_nightMud vm_nightSlips vm_drawnNow, (qm_width, .inl (cI, 4, .inl (fm_width))), (qm_many, .inl (cI, 4, .inl (fm_many))), (qm_cells, .inl (cJ, 240, .inr (.inl (fm_cells))))] := ⟨hP, hD⟩
  refine lv_iload_n hx hb dX12_write_5 rfl (lv_at hl 1 rfl) ?_
  refine ct_calli (D := D) (wr := [mo qm 0 qm_width qm_many qm_cells qm_moved qm_tape vm_taped vm_at vm_token vm_place vm_value vm_word vm_bad vm_badPlace vm_fault vm_faultPlace qm_lines qm_has qm_round qm_meets qm_stumble qm_isMud qm_cell qm_tune qm_change qm_isKept qm_steps qm_places qm_danced vm_runMost vm_runBegins qm_heardBy vm_fitMany vm_fitFirst vm_fitBeats vm_listenLeaves qm_there vm_metAt vm_metIn qm_wins vm_nightHoles vm_nightFirst vm_nightMud vm_nightSlips vm_drawnNow, (qm_width, .inl (cI, 4, .inl (fm_width))), (qm_many, .inl (cI, 4, .inl (fm_many))), (qm_cells, .inl (cJ, 240, .inr (.inl (fm_cells))))]) (va_runS (As := [.int a1]) (rest := []) ⟨hx, hb, hml, hown, hts⟩ (c_X12_isSlot l D G cI cJ cB cZ cO a1  H.size) (va_cwS 1 hts gX12_write_X12_isSlot rfl rfl rfl (by decide +kernel) ⟨Nat.le_of_ble_eq_true rfl, Nat.le_of_ble_eq_true rfl⟩) (ct_preS (T := ct_T cI cJ cB cZ cO) hE hH hP hD hS hA [] (by decide) rfl) rfl rfl hl.1 rfl (lv_room (Nat.le_of_ble_eq_true rfl)) dX12_write_6 ⟨Nat.le_of_ble_eq_true rfl, Nat.le_of_ble_eq_true rfl⟩) hP hD hS hA [] [0, 1, 2, 3] rfl rfl (by decide) (by decide) (fun r1 u H locs hw hP hD hS => ?_)
  obtain ⟨hP, hD⟩ : ct_B D A H [mo qm 0 qm_width qm_many qm_cells qm_moved qm_tape vm_taped vm_at vm_token vm_place vm_value vm_word vm_bad vm_badPlace vm_fault vm_faultPlace qm_lines qm_has qm_round qm_meets qm_stumble qm_isMud qm_cell qm_tune qm_change qm_isKept qm_steps qm_places qm_danced vm_runMost vm_runBegins qm_heardBy vm_fitMany vm_fitFirst vm_fitBeats vm_listenLeaves qm_there vm_metAt vm_metIn qm_wins vm_nightHoles vm_nightFirst vm_nightMud vm_nightSlips vm_drawnNow, (qm_width, .inl (cI, 4, .inl (fm_width))), (qm_many, .inl (cI, 4, .inl (fm_many))), (qm_cells, .inl (cJ, 240, .inr (.inl (fm_cells))))] := ⟨hP, hD⟩
  have hz := hw
  rcases hz with ⟨hz, hz2⟩ | ⟨hz, hz2⟩
  · subst hz
    have hz_2 : (0 ≤ a1.toInt ∧ a1.toInt < 4) := hz2
    refine lv_if_ne (tgt := 15) hx hb dX12_write_9 (by decide) (fun _ => ?_) (fun hc => absurd hc (by decide))
    refine lv_aload_n hx hb dX12_write_15 rfl (lv_at hl 0 rfl) ?_
    refine va_get (D := D) (ci := 12) (v := .ref qm_width) (C := RX12) (T := TX12) (N := 45) hx hb hts hi12 hown hK hP 0 rfl rfl 1 (by decide) (hts (.fieldLink RX12 7 "OverHillModel" "width" "[I") (by decide +kernel)) (fun _ h9 => h9) rfl dX12_write_16 ?_
    refine lv_iload_n hx hb dX12_write_19 rfl (lv_at hl 1 rfl) ?_
    refine va_iald (D := D) hx hb hK hP 1 0 rfl rfl (tq_in rfl (by omega)) dX12_write_20 ?_
    refine lv_topi (fun z3 ez3 => ?_)
    have gz3 : z3.toInt = (fm_width a1.toNatClampNeg).toInt := by rw [ez3]
    refine lv_iconst (v := (-1)) hx hb dX12_write_21 (by decide) ?_
    refine lv_icmp_ne (tgt := 28) hx hb dX12_write_22 (by decide) (fun hc => ?_) (fun hc => ?_)
    · have hq4 : z3.toInt ≠ (-1) := tq_ne rfl (by decide) hc
      have hb5 := tq_lo z3
      refine lv_iload_n hx hb dX12_write_28 rfl (lv_at hl 2 rfl) ?_
      refine lv_i2l (v := _) hx hb dX12_write_29 rfl ?_
      refine lv_topl (fun z6 ez6 => ?_)
      have fz6 : z6.toInt = a2.toInt := by rw [ez6]; exact tl_i rfl
      have hb7 := tq_lo a2
      refine lv_lconst (v := 0) hx hb dX12_write_30 (by decide) ?_
      refine lv_aload_n hx hb dX12_write_31 rfl (lv_at hl 0 rfl) ?_
      refine va_get (D := D) (ci := 12) (v := .ref qm_many) (C := RX12) (T := TX12) (N := 45) hx hb hts hi12 hown hK hP 0 rfl rfl 2 (by decide) (hts (.fieldLink RX12 13 "OverHillModel" "many" "[I") (by decide +kernel)) (fun _ h9 => h9) rfl dX12_write_32 ?_
      refine lv_iload_n hx hb dX12_write_35 rfl (lv_at hl 1 rfl) ?_
      refine va_iald (D := D) hx hb hK hP 2 0 rfl rfl (tq_in rfl (by omega)) dX12_write_36 ?_
      refine lv_topi (fun z8 ez8 => ?_)
      have fz8 : 0 ≤ z8.toInt ∧ z8.toInt ≤ 60 := by rw [ez8]; exact ar_get h_fm_many a1 0 (by omega) (show a1.toInt % 1 = 0 by omega) rfl
      have gz8 : z8.toInt = (fm_many a1.toNatClampNeg).toInt := by rw [ez8]
      refine lv_iconst (v := 1) hx hb dX12_write_37 (by decide) ?_
      refine lv_isub hx hb dX12_write_38 ?_
      refine lv_topi (fun z9 ez9 => ?_)
      have fz9 : z9.toInt = z8.toInt - 1 := by rw [ez9]; exact tq_subt rfl (by decide) (by omega)
      refine lv_i2l (v := _) hx hb dX12_write_39 rfl ?_
      refine lv_topl (fun z10 ez10 => ?_)
      have fz10 : z10.toInt = z9.toInt := by rw [ez10]; exact tl_i rfl
      refine ct_calli (D := D) (wr := [mo qm 0 qm_width qm_many qm_cells qm_moved qm_tape vm_taped vm_at vm_token vm_place vm_value vm_word vm_bad vm_badPlace vm_fault vm_faultPlace qm_lines qm_has qm_round qm_meets qm_stumble qm_isMud qm_cell qm_tune qm_change qm_isKept qm_steps qm_places qm_danced vm_runMost vm_runBegins qm_heardBy vm_fitMany vm_fitFirst vm_fitBeats vm_listenLeaves qm_there vm_metAt vm_metIn qm_wins vm_nightHoles vm_nightFirst vm_nightMud vm_nightSlips vm_drawnNow, (qm_width, .inl (cI, 4, .inl (fm_width))), (qm_many, .inl (cI, 4, .inl (fm_many))), (qm_cells, .inl (cJ, 240, .inr (.inl (fm_cells))))]) (va_runS (As := [.long z6, .long 0, .long z10]) (rest := []) ⟨hx, hb, hml, hown, hts⟩ (c_X12_in l D G cI cJ cB cZ cO z6 0 z10  H.size) (va_cwS 3 hts gX12_write_X12_in rfl rfl rfl (by decide +kernel) ⟨Nat.le_of_ble_eq_true rfl, Nat.le_of_ble_eq_true rfl⟩) (ct_preS (T := ct_T cI cJ cB cZ cO) hE hH hP hD hS hA [] (by decide) rfl) rfl rfl hl.1 rfl (lv_room (Nat.le_of_ble_eq_true rfl)) dX12_write_40 ⟨Nat.le_of_ble_eq_true rfl, Nat.le_of_ble_eq_true rfl⟩) hP hD hS hA [] [0, 1, 2, 3] rfl rfl (by decide) (by decide) (fun r11 u H locs hw hP hD hS => ?_)
      obtain ⟨hP, hD⟩ : ct_B D A H [mo qm 0 qm_width qm_many qm_cells qm_moved qm_tape vm_taped vm_at vm_token vm_place vm_value vm_word vm_bad vm_badPlace vm_fault vm_faultPlace qm_lines qm_has qm_round qm_meets qm_stumble qm_isMud qm_cell qm_tune qm_change qm_isKept qm_steps qm_places qm_danced vm_runMost vm_runBegins qm_heardBy vm_fitMany vm_fitFirst vm_fitBeats vm_listenLeaves qm_there vm_metAt vm_metIn qm_wins vm_nightHoles vm_nightFirst vm_nightMud vm_nightSlips vm_drawnNow, (qm_width, .inl (cI, 4, .inl (fm_width))), (qm_many, .inl (cI, 4, .inl (fm_many))), (qm_cells, .inl (cJ, 240, .inr (.inl (fm_cells))))] := ⟨hP, hD⟩
      have hk12 : (0 : Int64).toInt = 0 := by decide
      have hz := hw
      rcases hz with ⟨hz, hz2⟩ | ⟨hz, hz2⟩
      · subst hz
        have hz_13 : ((0 : Int64).toInt ≤ z6.toInt ∧ z6.toInt ≤ z10.toInt) := hz2
        refine lv_if_ne (tgt := 49) hx hb dX12_write_43 (by decide) (fun _ => ?_) (fun hc => absurd hc (by decide))
        refine lv_aload_n hx hb dX12_write_49 rfl (lv_at hl 0 rfl) ?_
        refine va_get (D := D) (ci := 12) (v := .ref qm_cells) (C := RX12) (T := TX12) (N := 45) hx hb hts hi12 hown hK hP 0 rfl rfl 3 (by decide) (hts (.fieldLink RX12 16 "OverHillModel" "cells" "[J") (by decide +kernel)) (fun _ h9 => h9) rfl dX12_write_50 ?_
        refine lv_bipush (v := 60) hx hb dX12_write_53 (by decide) ?_
        refine lv_iload_n hx hb dX12_write_55 rfl (lv_at hl 1 rfl) ?_
        refine lv_imul hx hb dX12_write_56 ?_
        refine lv_topi (fun z14 ez14 => ?_)
        have fz14 : z14.toInt = 60 * a1.toInt := by rw [ez14]; exact tq_mul (by decide) rfl (by omega)
        refine lv_iload_n hx hb dX12_write_57 rfl (lv_at hl 2 rfl) ?_
        refine lv_iadd hx hb dX12_write_58 ?_
        refine lv_topi (fun z15 ez15 => ?_)
        have fz15 : z15.toInt = z14.toInt + a2.toInt := by rw [ez15]; exact tq_add rfl rfl (by omega)
        refine lv_lload_n hx hb dX12_write_59 rfl (lv_at hl 3 rfl) ?_
        refine lv_aload_n hx hb dX12_write_60 rfl (lv_at hl 0 rfl) ?_
        refine va_get (D := D) (ci := 12) (v := .ref qm_width) (C := RX12) (T := TX12) (N := 45) hx hb hts hi12 hown hK hP 0 rfl rfl 1 (by decide) (hts (.fieldLink RX12 7 "OverHillModel" "width" "[I") (by decide +kernel)) (fun _ h9 => h9) rfl dX12_write_61 ?_
        refine lv_iload_n hx hb dX12_write_64 rfl (lv_at hl 1 rfl) ?_
        refine va_iald (D := D) hx hb hK hP 1 0 rfl rfl (tq_in rfl (by omega)) dX12_write_65 ?_
        refine lv_topi (fun z16 ez16 => ?_)
        have gz16 : z16.toInt = (fm_width a1.toNatClampNeg).toInt := by rw [ez16]
        refine ct_calll (D := D) (wr := [mo qm 0 qm_width qm_many qm_cells qm_moved qm_tape vm_taped vm_at vm_token vm_place vm_value vm_word vm_bad vm_badPlace vm_fault vm_faultPlace qm_lines qm_has qm_round qm_meets qm_stumble qm_isMud qm_cell qm_tune qm_change qm_isKept qm_steps qm_places qm_danced vm_runMost vm_runBegins qm_heardBy vm_fitMany vm_fitFirst vm_fitBeats vm_listenLeaves qm_there vm_metAt vm_metIn qm_wins vm_nightHoles vm_nightFirst vm_nightMud vm_nightSlips vm_drawnNow, (qm_width, .inl (cI, 4, .inl (fm_width))), (qm_many, .inl (cI, 4, .inl (fm_many))), (qm_cells, .inl (cJ, 240, .inr (.inl (fm_cells))))]) (va_runS (As := [.long a3, .int z16]) (rest := [.int z15, .ref qm_cells]) ⟨hx, hb, hml, hown, hts⟩ (c_X12_cut l D G cI cJ cB cZ cO a3 z16  H.size) (va_cwS 2 hts gX12_write_X12_cut rfl rfl rfl (by decide +kernel) ⟨Nat.le_of_ble_eq_true rfl, Nat.le_of_ble_eq_true rfl⟩) (ct_preS (T := ct_T cI cJ cB cZ cO) hE hH hP hD hS hA [] (by decide) rfl) rfl rfl hl.1 rfl (lv_room (Nat.le_of_ble_eq_true rfl)) dX12_write_66 ⟨Nat.le_of_ble_eq_true rfl, Nat.le_of_ble_eq_true rfl⟩) hP hD hS hA [] [0, 1, 2, 3] rfl rfl (by decide) (by decide) (fun r17 u H locs hw hP hD hS => ?_)
        obtain ⟨hP, hD⟩ : ct_B D A H [mo qm 0 qm_width qm_many qm_cells qm_moved qm_tape vm_taped vm_at vm_token vm_place vm_value vm_word vm_bad vm_badPlace vm_fault vm_faultPlace qm_lines qm_has qm_round qm_meets qm_stumble qm_isMud qm_cell qm_tune qm_change qm_isKept qm_steps qm_places qm_danced vm_runMost vm_runBegins qm_heardBy vm_fitMany vm_fitFirst vm_fitBeats vm_listenLeaves qm_there vm_metAt vm_metIn qm_wins vm_nightHoles vm_nightFirst vm_nightMud vm_nightSlips vm_drawnNow, (qm_width, .inl (cI, 4, .inl (fm_width))), (qm_many, .inl (cI, 4, .inl (fm_many))), (qm_cells, .inl (cJ, 240, .inr (.inl (fm_cells))))] := ⟨hP, hD⟩
        have hp0 := hw
        have hp_18 : r17 = cu a3 z16 := hp0
        refine va_last (D := D) hx hb hK hP hD hS 3 1 rfl rfl (tq_in rfl (by omega)) dX12_write_69 (fun H locs hP hD hS => ?_)
        obtain ⟨hP, hD⟩ : ct_B D A H [mo qm 0 qm_width qm_many qm_cells qm_moved qm_tape vm_taped vm_at vm_token vm_place vm_value vm_word vm_bad vm_badPlace vm_fault vm_faultPlace qm_lines qm_has qm_round qm_meets qm_stumble qm_isMud qm_cell qm_tune qm_change qm_isKept qm_steps qm_places qm_danced vm_runMost vm_runBegins qm_heardBy vm_fitMany vm_fitFirst vm_fitBeats vm_listenLeaves qm_there vm_metAt vm_metIn qm_wins vm_nightHoles vm_nightFirst vm_nightMud vm_nightSlips vm_drawnNow, (qm_width, .inl (cI, 4, .inl (fm_width))), (qm_many, .inl (cI, 4, .inl (fm_many))), (qm_cells, .inl (cJ, 240, .inr (.inl (vp_updL fm_cells z15.toNatClampNeg r17))))] := ⟨hP, hD⟩
        refine lv_iconst (v := 0) hx hb dX12_write_70 (by decide) ?_
        have hk19 : (0 : Int32).toInt = 0 := by decide
        have hk20 : (0 : Int32).toInt = 0 := by decide
        obtain ⟨hP9, hD9⟩ : ct_B D A H [mo qm 0 qm_width qm_many qm_cells qm_moved qm_tape vm_taped vm_at vm_token vm_place vm_value vm_word vm_bad vm_badPlace vm_fault vm_faultPlace qm_lines qm_has qm_round qm_meets qm_stumble qm_isMud qm_cell qm_tune qm_change qm_isKept qm_steps qm_places qm_danced vm_runMost vm_runBegins qm_heardBy vm_fitMany vm_fitFirst vm_fitBeats vm_listenLeaves qm_there vm_metAt vm_metIn qm_wins vm_nightHoles vm_nightFirst vm_nightMud vm_nightSlips vm_drawnNow, (qm_width, .inl (cI, 4, .inl (fm_width))), (qm_many, .inl (cI, 4, .inl (fm_many))), (qm_cells, .inl (cJ, 240, .inr (.inl (vp_updL fm_cells z15.toNatClampNeg r17))))] := ⟨hP.sub [0, 1, 2, 3] rfl, hD.sub [0, 1, 2, 3] (by decide) rfl⟩
        exact W.iret (v := 0) hx hb hr (fun t ht hW => ⟨⟨0, ((0 : Int32), (vp_updL fm_cells z15.toNatClampNeg r17)), rfl, ⟨(Or.inr (Or.inr (Or.inr (⟨rfl, (show ((0 ≤ a1.toInt ∧ a1.toInt < 4) ∧ ((fm_width a1.toNatClampNeg).toInt ≠ -1) ∧ (0 ≤ a2.toInt ∧ a2.toInt < (fm_many a1.toNatClampNeg).toInt)) by omega)⟩)))), (show ((0 : Int32) = 0 ∧ (vp_updL fm_cells z15.toNatClampNeg r17) = vp_updL fm_cells (60 * a1.toInt + a2.toInt).toNat (cu a3 (fm_width a1.toNatClampNeg))) ∨ ((0 : Int32) ≠ 0 ∧ (vp_updL fm_cells z15.toNatClampNeg r17) = fm_cells) by exact Or.inl ⟨rfl, uL_put (show z15.toInt = 60 * a1.toInt + a2.toInt by omega) hp_18 ez16⟩)⟩, by rw [ht]; exact hP9, hD9⟩, hS.F ht⟩) hS.2.2 dX12_write_71
      · subst hz
        have hz_21 : ¬ ((0 : Int64).toInt ≤ z6.toInt ∧ z6.toInt ≤ z10.toInt) := hz2
        refine lv_if_ne (tgt := 49) hx hb dX12_write_43 (by decide) (fun hc => absurd hc (by decide)) (fun _ => ?_)
        refine lv_bipush (v := (-7)) hx hb dX12_write_46 (by decide) ?_
        have hk22 : (0 : Int32).toInt = 0 := by decide
        have hk23 : (-7 : Int32).toInt = (-7) := by decide
        obtain ⟨hP9, hD9⟩ : ct_B D A H [mo qm 0 qm_width qm_many qm_cells qm_moved qm_tape vm_taped vm_at vm_token vm_place vm_value vm_word vm_bad vm_badPlace vm_fault vm_faultPlace qm_lines qm_has qm_round qm_meets qm_stumble qm_isMud qm_cell qm_tune qm_change qm_isKept qm_steps qm_places qm_danced vm_runMost vm_runBegins qm_heardBy vm_fitMany vm_fitFirst vm_fitBeats vm_listenLeaves qm_there vm_metAt vm_metIn qm_wins vm_nightHoles vm_nightFirst vm_nightMud vm_nightSlips vm_drawnNow, (qm_width, .inl (cI, 4, .inl (fm_width))), (qm_many, .inl (cI, 4, .inl (fm_many))), (qm_cells, .inl (cJ, 240, .inr (.inl (fm_cells))))] := ⟨hP.sub [0, 1, 2, 3] rfl, hD.sub [0, 1, 2, 3] (by decide) rfl⟩
        exact W.iret (v := (-7)) hx hb hr (fun t ht hW => ⟨⟨(-7), ((0 : Int32), fm_cells), rfl, ⟨(Or.inr (Or.inr (Or.inl ⟨rfl, (show ((0 ≤ a1.toInt ∧ a1.toInt < 4) ∧ ((fm_width a1.toNatClampNeg).toInt ≠ -1) ∧ ¬ (0 ≤ a2.toInt ∧ a2.toInt < (fm_many a1.toNatClampNeg).toInt)) by omega)⟩))), (show ((-7 : Int32) = 0 ∧ fm_cells = vp_updL fm_cells (60 * a1.toInt + a2.toInt).toNat (cu a3 (fm_width a1.toNatClampNeg))) ∨ ((-7 : Int32) ≠ 0 ∧ fm_cells = fm_cells) by exact Or.inr ⟨by decide, rfl⟩)⟩, by rw [ht]; exact hP9, hD9⟩, hS.F ht⟩) hS.2.2 dX12_write_48
    · have hq4 : z3.toInt = (-1) := tq_eq rfl (by decide) hc
      have hb24 := tq_lo z3
      refine lv_bipush (v := (-6)) hx hb dX12_write_25 (by decide) ?_
      have hk25 : (0 : Int32).toInt = 0 := by decide
      have hk26 : (-6 : Int32).toInt = (-6) := by decide
      obtain ⟨hP9, hD9⟩ : ct_B D A H [mo qm 0 qm_width qm_many qm_cells qm_moved qm_tape vm_taped vm_at vm_token vm_place vm_value vm_word vm_bad vm_badPlace vm_fault vm_faultPlace qm_lines qm_has qm_round qm_meets qm_stumble qm_isMud qm_cell qm_tune qm_change qm_isKept qm_steps qm_places qm_danced vm_runMost vm_runBegins qm_heardBy vm_fitMany vm_fitFirst vm_fitBeats vm_listenLeaves qm_there vm_metAt vm_metIn qm_wins vm_nightHoles vm_nightFirst vm_nightMud vm_nightSlips vm_drawnNow, (qm_width, .inl (cI, 4, .inl (fm_width))), (qm_many, .inl (cI, 4, .inl (fm_many))), (qm_cells, .inl (cJ, 240, .inr (.inl (fm_cells))))] := ⟨hP.sub [0, 1, 2, 3] rfl, hD.sub [0, 1, 2, 3] (by decide) rfl⟩
      exact W.iret (v := (-6)) hx hb hr (fun t ht hW => ⟨⟨(-6), ((0 : Int32), fm_cells), rfl, ⟨(Or.inr (Or.inl ⟨rfl, (show ((0 ≤ a1.toInt ∧ a1.toInt < 4) ∧ ¬ ((fm_width a1.toNatClampNeg).toInt ≠ -1)) by omega)⟩)), (show ((-6 : Int32) = 0 ∧ fm_cells = vp_updL fm_cells (60 * a1.toInt + a2.toInt).toNat (cu a3 (fm_width a1.toNatClampNeg))) ∨ ((-6 : Int32) ≠ 0 ∧ fm_cells = fm_cells) by exact Or.inr ⟨by decide, rfl⟩)⟩, by rw [ht]; exact hP9, hD9⟩, hS.F ht⟩) hS.2.2 dX12_write_27
  · subst hz
    have hz_27 : ¬ (0 ≤ a1.toInt ∧ a1.toInt < 4) := hz2
    refine lv_if_ne (tgt := 15) hx hb dX12_write_9 (by decide) (fun hc => absurd hc (by decide)) (fun _ => ?_)
    refine lv_bipush (v := (-2)) hx hb dX12_write_12 (by decide) ?_
    have hk28 : (0 : Int32).toInt = 0 := by decide
    have hk29 : (-2 : Int32).toInt = (-2) := by decide
    obtain ⟨hP9, hD9⟩ : ct_B D A H [mo qm 0 qm_width qm_many qm_cells qm_moved qm_tape vm_taped vm_at vm_token vm_place vm_value vm_word vm_bad vm_badPlace vm_fault vm_faultPlace qm_lines qm_has qm_round qm_meets qm_stumble qm_isMud qm_cell qm_tune qm_change qm_isKept qm_steps qm_places qm_danced vm_runMost vm_runBegins qm_heardBy vm_fitMany vm_fitFirst vm_fitBeats vm_listenLeaves qm_there vm_metAt vm_metIn qm_wins vm_nightHoles vm_nightFirst vm_nightMud vm_nightSlips vm_drawnNow, (qm_width, .inl (cI, 4, .inl (fm_width))), (qm_many, .inl (cI, 4, .inl (fm_many))), (qm_cells, .inl (cJ, 240, .inr (.inl (fm_cells))))] := ⟨hP.sub [0, 1, 2, 3] rfl, hD.sub [0, 1, 2, 3] (by decide) rfl⟩
    exact W.iret (v := (-2)) hx hb hr (fun t ht hW => ⟨⟨(-2), ((0 : Int32), fm_cells), rfl, ⟨(Or.inl ⟨rfl, (show ¬ (0 ≤ a1.toInt ∧ a1.toInt < 4) by omega)⟩), (show ((-2 : Int32) = 0 ∧ fm_cells = vp_updL fm_cells (60 * a1.toInt + a2.toInt).toNat (cu a3 (fm_width a1.toNatClampNeg))) ∨ ((-2 : Int32) ≠ 0 ∧ fm_cells = fm_cells) by exact Or.inr ⟨by decide, rfl⟩)⟩, by rw [ht]; exact hP9, hD9⟩, hS.F ht⟩) hS.2.2 dX12_write_14
abbrev w_c_X12_paste (cI cJ cB cZ cO : ClassId) (qm : Nat) (vm_thrown : Int32) (qm_width : Nat) (fm_width : Nat → Int32) (qm_many : Nat) (fm_many : Nat → Int32) (qm_cells : Nat) (fm_cells : Nat → Int64) (qm_moved : Nat) (fm_moved : Nat → Int64) (qm_tape : Nat) (vm_taped : Int32) (vm_at : Int32) (vm_token : Int32) (vm_place : Int32) (vm_value : Int32) (vm_word : Int64) (vm_bad : Int32) (vm_badPlace : Int32) (vm_fault : Int32) (vm_faultPlace : Int32) (qm_lines : Nat) (qm_has : Nat) (qm_round : Nat) (qm_meets : Nat) (qm_stumble : Nat) (qm_isMud : Nat) (qm_cell : Nat) (qm_tune : Nat) (qm_change : Nat) (qm_isKept : Nat) (qm_steps : Nat) (qm_places : Nat) (qm_danced : Nat) (vm_runMost : Int32) (vm_runBegins : Int32) (qm_heardBy : Nat) (vm_fitMany : Int32) (vm_fitFirst : Int32) (vm_fitBeats : Int64) (vm_listenLeaves : Int32) (qm_there : Nat) (vm_metAt : Int32) (vm_metIn : Int32) (qm_wins : Nat) (vm_nightHoles : Int32) (vm_nightFirst : Int32) (vm_nightMud : Int32) (vm_nightSlips : Int32) (vm_drawnNow : Int64) : va_W := [mo qm vm_thrown qm_width qm_many qm_cells qm_moved qm_tape vm_taped vm_at vm_token vm_place vm_value vm_word vm_bad vm_badPlace vm_fault vm_faultPlace qm_lines qm_has qm_round qm_meets qm_stumble qm_isMud qm_cell qm_tune qm_change qm_isKept qm_steps qm_places qm_danced vm_runMost vm_runBegins qm_heardBy vm_fitMany vm_fitFirst vm_fitBeats vm_listenLeaves qm_there vm_metAt vm_metIn qm_wins vm_nightHoles vm_nightFirst vm_nightMud vm_nightSlips vm_drawnNow, (qm_width, .inl (cI, 4, .inl (fm_width))), (qm_many, .inl (cI, 4, .inl (fm_many))), (qm_cells, .inl (cJ, 240, .inr (.inl (fm_cells)))), (qm_moved, .inl (cJ, 60, .inr (.inl (fm_moved))))]
set_option maxHeartbeats 4000000 in
set_option maxRecDepth 100000 in
/-- X12 paste -/
theorem c_X12_paste (l : Launch) (D : va_G) (G : ct_G) (cI cJ cB cZ cO : ClassId) (qm : Nat) (vm_thrown : Int32) (qm_width : Nat) (fm_width : Nat → Int32) (qm_many : Nat) (fm_many : Nat → Int32) (qm_cells : Nat) (fm_cells : Nat → Int64) (qm_moved : Nat) (fm_moved : Nat → Int64) (qm_tape : Nat) (vm_taped : Int32) (vm_at : Int32) (vm_token : Int32) (vm_place : Int32) (vm_value : Int32) (vm_word : Int64) (vm_bad : Int32) (vm_badPlace : Int32) (vm_fault : Int32) (vm_faultPlace : Int32) (qm_lines : Nat) (qm_has : Nat) (qm_round : Nat) (qm_meets : Nat) (qm_stumble : Nat) (qm_isMud : Nat) (qm_cell : Nat) (qm_tune : Nat) (qm_change : Nat) (qm_isKept : Nat) (qm_steps : Nat) (qm_places : Nat) (qm_danced : Nat) (vm_runMost : Int32) (vm_runBegins : Int32) (qm_heardBy : Nat) (vm_fitMany : Int32) (vm_fitFirst : Int32) (vm_fitBeats : Int64) (vm_listenLeaves : Int32) (qm_there : Nat) (vm_metAt : Int32) (vm_metIn : Int32) (qm_wins : Nat) (vm_nightHoles : Int32) (vm_nightFirst : Int32) (vm_nightMud : Int32) (vm_nightSlips : Int32) (vm_drawnNow : Int64) (a1 : Int32) (a2 : Int32) (a3 : Int32) (a4 : Int32) (a5 : Int32) (h_fm_many : ar_ok [0] [60] fm_many) (h_vm_taped : 0 ≤ vm_taped.toInt ∧ vm_taped.toInt ≤ 1200) (h_vm_at : 0 ≤ vm_at.toInt ∧ vm_at.toInt ≤ 1200) (h_vm_value : 0 ≤ vm_value.toInt ∧ vm_value.toInt ≤ 1000009) (sz : Nat) : Met l yX12_paste wsX12_paste ({ frames := 2, cells := 0, slots := 0, locals := 45 }) (va_Pc [.ref qm, .int a1, .int a2, .int a3, .int a4, .int a5] (ct_P D (ct_T cI cJ cB cZ cO) G (w_c_X12_paste cI cJ cB cZ cO qm vm_thrown qm_width fm_width qm_many fm_many qm_cells fm_cells qm_moved fm_moved qm_tape vm_taped vm_at vm_token vm_place vm_value vm_word vm_bad vm_badPlace vm_fault vm_faultPlace qm_lines qm_has qm_round qm_meets qm_stumble qm_isMud qm_cell qm_tune qm_change qm_isKept qm_steps qm_places qm_danced vm_runMost vm_runBegins qm_heardBy vm_fitMany vm_fitFirst vm_fitBeats vm_listenLeaves qm_there vm_metAt vm_metIn qm_wins vm_nightHoles vm_nightFirst vm_nightMud vm_nightSlips vm_drawnNow) sz)) (va_Qi (fun (rz : Int32) (u : Int32 × (Nat → Int64) × (Nat → Int64)) => ((rz = (-2) ∧ ¬ ((0 ≤ a1.toInt ∧ a1.toInt < 4) ∧ (0 ≤ a3.toInt ∧ a3.toInt < 4))) ∨ (rz = (-6) ∧ ((0 ≤ a1.toInt ∧ a1.toInt < 4) ∧ (0 ≤ a3.toInt ∧ a3.toInt < 4) ∧ ¬ (((fm_width a1.toNatClampNeg).toInt ≠ -1) ∧ ((fm_width a3.toNatClampNeg).toInt ≠ -1)))) ∨ (rz = (-8) ∧ ((0 ≤ a1.toInt ∧ a1.toInt < 4) ∧ (0 ≤ a3.toInt ∧ a3.toInt < 4) ∧ ((fm_width a1.toNatClampNeg).toInt ≠ -1) ∧ ((fm_width a3.toNatClampNeg).toInt ≠ -1) ∧ (fm_width a1.toNatClampNeg).toInt ≠ (fm_width a3.toNatClampNeg).toInt)) ∨ (rz = (-7) ∧ ((0 ≤ a1.toInt ∧ a1.toInt < 4) ∧ (0 ≤ a3.toInt ∧ a3.toInt < 4) ∧ ((fm_width a1.toNatClampNeg).toInt ≠ -1) ∧ ((fm_width a3.toNatClampNeg).toInt ≠ -1) ∧ (fm_width a1.toNatClampNeg).toInt = (fm_width a3.toNatClampNeg).toInt ∧ ¬ (0 ≤ a2.toInt ∧ 0 ≤ a4.toInt ∧ 0 ≤ a5.toInt ∧ a2.toInt + a5.toInt ≤ (fm_many a1.toNatClampNeg).toInt ∧ a4.toInt + a5.toInt ≤ (fm_many a3.toNatClampNeg).toInt))) ∨ (rz = 0 ∧ ((0 ≤ a1.toInt ∧ a1.toInt < 4) ∧ (0 ≤ a3.toInt ∧ a3.toInt < 4) ∧ ((fm_width a1.toNatClampNeg).toInt ≠ -1) ∧ ((fm_width a3.toNatClampNeg).toInt ≠ -1) ∧ (fm_width a1.toNatClampNeg).toInt = (fm_width a3.toNatClampNeg).toInt ∧ (0 ≤ a2.toInt ∧ 0 ≤ a4.toInt ∧ 0 ≤ a5.toInt ∧ a2.toInt + a5.toInt ≤ (fm_many a1.toNatClampNeg).toInt ∧ a4.toInt + a5.toInt ≤ (fm_many a3.toNatClampNeg).toInt)))) ∧ ((rz = 0 ∧ paN (60 * a1.toInt + a2.toInt) (60 * a3.toInt + a4.toInt) a5.toInt fm_cells u.2.1) ∨ (rz ≠ 0 ∧ u.2.1 = fm_cells))) (fun (u : Int32 × (Nat → Int64) × (Nat → Int64)) t => ct_Q D (va_A (w_c_X12_paste cI cJ cB cZ cO qm vm_thrown qm_width fm_width qm_many fm_many qm_cells fm_cells qm_moved fm_moved qm_tape vm_taped vm_at vm_token vm_place vm_value vm_word vm_bad vm_badPlace vm_fault vm_faultPlace qm_lines qm_has qm_round qm_meets qm_stumble qm_isMud qm_cell qm_tune qm_change qm_isKept qm_steps qm_places qm_danced vm_runMost vm_runBegins qm_heardBy vm_fitMany vm_fitFirst vm_fitBeats vm_listenLeaves qm_there vm_metAt vm_metIn qm_wins vm_nightHoles vm_nightFirst vm_nightMud vm_nightSlips vm_drawnNow) sz) [mo qm u.1 qm_width qm_many qm_cells qm_moved qm_tape vm_taped vm_at vm_token vm_place vm_value vm_word vm_bad vm_badPlace vm_fault vm_faultPlace qm_lines qm_has qm_round qm_meets qm_stumble qm_isMud qm_cell qm_tune qm_change qm_isKept qm_steps qm_places qm_danced vm_runMost vm_runBegins qm_heardBy vm_fitMany vm_fitFirst vm_fitBeats vm_listenLeaves qm_there vm_metAt vm_metIn qm_wins vm_nightHoles vm_nightFirst vm_nightMud vm_nightSlips vm_drawnNow, (qm_width, .inl (cI, 4, .inl (fm_width))), (qm_many, .inl (cI, 4, .inl (fm_many))), (qm_cells, .inl (cJ, 240, .inr (.inl (u.2.1)))), (qm_moved, .inl (cJ, 60, .inr (.inl (u.2.2))))] t) (va_A (w_c_X12_paste cI cJ cB cZ cO qm vm_thrown qm_width fm_width qm_many fm_many qm_cells fm_cells qm_moved fm_moved qm_tape vm_taped vm_at vm_token vm_place vm_value vm_word vm_bad vm_badPlace vm_fault vm_faultPlace qm_lines qm_has qm_round qm_meets qm_stumble qm_isMud qm_cell qm_tune qm_change qm_isKept qm_steps qm_places qm_danced vm_runMost vm_runBegins qm_heardBy vm_fitMany vm_fitFirst vm_fitBeats vm_listenLeaves qm_there vm_metAt vm_metIn qm_wins vm_nightHoles vm_nightFirst vm_nightMud vm_nightSlips vm_drawnNow) sz)) 0 0 (va_A (w_c_X12_paste cI cJ cB cZ cO qm vm_thrown qm_width fm_width qm_many fm_many qm_cells fm_cells qm_moved fm_moved qm_tape vm_taped vm_at vm_token vm_place vm_value vm_word vm_bad vm_badPlace vm_fault vm_faultPlace qm_lines qm_has qm_round qm_meets qm_stumble qm_isMud qm_cell qm_tune qm_change qm_isKept qm_steps qm_places qm_danced vm_runMost vm_runBegins qm_heardBy vm_fitMany vm_fitFirst vm_fitBeats vm_listenLeaves qm_there vm_metAt vm_metIn qm_wins vm_nightHoles vm_nightFirst vm_nightMud vm_nightSlips vm_drawnNow) sz) := by
  refine Met.ofW (cc := cX12_paste) (maxL := 7) (ret := (some .int)) (by decide) rfl ?_
  intro p e s m args below meth c s₁ B hml hv
  obtain ⟨rfl, hsz, hP, hE, hD0, hH⟩ := hv
  have hx := B.exec
  have hb := B.bytes
  have hr := B.returns
  have hts := atoms_spec (ws := wsX12_paste) B.pre
  have hown : s.vm.findClass RX12 = some m.cls := findClass_of_methodNamed B.named
  have hlocks := B.notSynchronized
  have hK := hE.1
  have hi12 : ∀ w ∈ u_ws RX12 TX12 45, w ∈ wsX12_paste := fun w h => List.mem_cons_of_mem _ (List.mem_append_right _ h)
  subst hsz
  have hD := hD0.self (sz := s.heap.size)
  generalize hAe : va_A (w_c_X12_paste cI cJ cB cZ cO qm vm_thrown qm_width fm_width qm_many fm_many qm_cells fm_cells qm_moved fm_moved qm_tape vm_taped vm_at vm_token vm_place vm_value vm_word vm_bad vm_badPlace vm_fault vm_faultPlace qm_lines qm_has qm_round qm_meets qm_stumble qm_isMud qm_cell qm_tune qm_change qm_isKept qm_steps qm_places qm_danced vm_runMost vm_runBegins qm_heardBy vm_fitMany vm_fitFirst vm_fitBeats vm_listenLeaves qm_there vm_metAt vm_metIn qm_wins vm_nightHoles vm_nightFirst vm_nightMud vm_nightSlips vm_drawnNow) s.heap.size = A at hD hH ⊢
  have hA : ∀ q : Nat, s.heap.size ≤ q → A q := fun q h => by rw [← hAe]; exact Or.inr h
  have hS : va_S A s.heap s.heap [] := va_S.rf
  obtain ⟨hP, hD⟩ : ct_B D A s.heap [mo qm vm_thrown qm_width qm_many qm_cells qm_moved qm_tape vm_taped vm_at vm_token vm_place vm_value vm_word vm_bad vm_badPlace vm_fault vm_faultPlace qm_lines qm_has qm_round qm_meets qm_stumble qm_isMud qm_cell qm_tune qm_change qm_isKept qm_steps qm_places qm_danced vm_runMost vm_runBegins qm_heardBy vm_fitMany vm_fitFirst vm_fitBeats vm_listenLeaves qm_there vm_metAt vm_metIn qm_wins vm_nightHoles vm_nightFirst vm_nightMud vm_nightSlips vm_drawnNow, (qm_width, .inl (cI, 4, .inl (fm_width))), (qm_many, .inl (cI, 4, .inl (fm_many))), (qm_cells, .inl (cJ, 240, .inr (.inl (fm_cells)))), (qm_moved, .inl (cJ, 60, .inr (.inl (fm_moved))))] := ⟨hP, hD⟩
  have hl := lv_entry ([.ref qm, .int a1, .int a2, .int a3, .int a4, .int a5]) (n := 7) (Nat.le_of_ble_eq_true rfl)
  rw [lg_entry_eq]
  generalize (lg_sl ([.ref qm, .int a1, .int a2, .int a3, .int a4, .int a5]) ++ List.replicate (7 - (lg_sl ([.ref qm, .int a1, .int a2, .int a3, .int a4, .int a5])).length) Slot.unset).toArray = ls at hl ⊢
  have hl : lv_has ls 7 [(0, .ref qm), (1, .int a1), (2, .int a2), (3, .int a3), (4, .int a4), (5, .int a5)] := hl
  obtain ⟨H, hHe⟩ : ∃ H : Heap, H = s.heap := ⟨_, rfl⟩
  rw [← hHe] at hP
  have hS : va_S A s.heap H [] := by rw [hHe]; exact va_S.rf
  refine ct_start hHe ?_
  refine lv_aload_n hx hb dX12_paste_0 rfl (lv_at hl 0 rfl) ?_
  refine lv_iconst (v := 0) hx hb dX12_paste_1 (by decide) ?_
  refine va_put (D := D) (ci := 12) (v := .int 0) (ty := .int) (C := RX12) (T := TX12) (N := 45) hx hb hts hi12 tyX12 tyX12_ok nmX12 hown hK hP hD hS 0 rfl rfl 0 (by decide) (hts (.fieldLink RX12 80 "OverHillModel" "thrown" "I") (by decide +kernel)) (fun _ h9 => h9) rfl (by decide +kernel) rfl rfl (Nat.le_of_ble_eq_true rfl) dX12_paste_2 (fun H locs hP hD hS => ?_)
  obtain ⟨hP, hD⟩ : ct_B D A H [mo qm 0 qm_width qm_many qm_cells qm_moved qm_tape vm_taped vm_at vm_token vm_place vm_value vm_word vm_bad vm_badPlace vm_fault vm_faultPlace qm_lines qm_has qm_round qm_meets qm_stumble qm_isMud qm_cell qm_tune qm_change qm_isKept qm_steps qm_places qm_danced vm_runMost vm_runBegins qm_heardBy vm_fitMany vm_fitFirst vm_fitBeats vm_listenLeaves qm_there vm_metAt vm_metIn qm_wins vm_nightHoles vm_nightFirst vm_nightMud vm_nightSlips vm_drawnNow, (qm_width, .inl (cI, 4, .inl (fm_width))), (qm_many, .inl (cI, 4, .inl (fm_many))), (qm_cells, .inl (cJ, 240, .inr (.inl (fm_cells)))), (qm_moved, .inl (cJ, 60, .inr (.inl (fm_moved))))] := ⟨hP, hD⟩
  refine lv_iload_n hx hb dX12_paste_5 rfl (lv_at hl 1 rfl) ?_
  refine ct_calli (D := D) (wr := [mo qm 0 qm_width qm_many qm_cells qm_moved qm_tape vm_taped vm_at vm_token vm_place vm_value vm_word vm_bad vm_badPlace vm_fault vm_faultPlace qm_lines qm_has qm_round qm_meets qm_stumble qm_isMud qm_cell qm_tune qm_change qm_isKept qm_steps qm_places qm_danced vm_runMost vm_runBegins qm_heardBy vm_fitMany vm_fitFirst vm_fitBeats vm_listenLeaves qm_there vm_metAt vm_metIn qm_wins vm_nightHoles vm_nightFirst vm_nightMud vm_nightSlips vm_drawnNow, (qm_width, .inl (cI, 4, .inl (fm_width))), (qm_many, .inl (cI, 4, .inl (fm_many))), (qm_cells, .inl (cJ, 240, .inr (.inl (fm_cells)))), (qm_moved, .inl (cJ, 60, .inr (.inl (fm_moved))))]) (va_runS (As := [.int a1]) (rest := []) ⟨hx, hb, hml, hown, hts⟩ (c_X12_isSlot l D G cI cJ cB cZ cO a1  H.size) (va_cwS 1 hts gX12_paste_X12_isSlot rfl rfl rfl (by decide +kernel) ⟨Nat.le_of_ble_eq_true rfl, Nat.le_of_ble_eq_true rfl⟩) (ct_preS (T := ct_T cI cJ cB cZ cO) hE hH hP hD hS hA [] (by decide) rfl) rfl rfl hl.1 rfl (lv_room (Nat.le_of_ble_eq_true rfl)) dX12_paste_6 ⟨Nat.le_of_ble_eq_true rfl, Nat.le_of_ble_eq_true rfl⟩) hP hD hS hA [] [0, 1, 2, 3, 4] rfl rfl (by decide) (by decide) (fun r1 u H locs hw hP hD hS => ?_)
  obtain ⟨hP, hD⟩ : ct_B D A H [mo qm 0 qm_width qm_many qm_cells qm_moved qm_tape vm_taped vm_at vm_token vm_place vm_value vm_word vm_bad vm_badPlace vm_fault vm_faultPlace qm_lines qm_has qm_round qm_meets qm_stumble qm_isMud qm_cell qm_tune qm_change qm_isKept qm_steps qm_places qm_danced vm_runMost vm_runBegins qm_heardBy vm_fitMany vm_fitFirst vm_fitBeats vm_listenLeaves qm_there vm_metAt vm_metIn qm_wins vm_nightHoles vm_nightFirst vm_nightMud vm_nightSlips vm_drawnNow, (qm_width, .inl (cI, 4, .inl (fm_width))), (qm_many, .inl (cI, 4, .inl (fm_many))), (qm_cells, .inl (cJ, 240, .inr (.inl (fm_cells)))), (qm_moved, .inl (cJ, 60, .inr (.inl (fm_moved))))] := ⟨hP, hD⟩
  have hz := hw
  rcases hz with ⟨hz, hz2⟩ | ⟨hz, hz2⟩
  · subst hz
    have hz_2 : (0 ≤ a1.toInt ∧ a1.toInt < 4) := hz2
    refine lv_if_eq (tgt := 19) hx hb dX12_paste_9 (by decide) (fun hc => absurd hc (by decide)) (fun _ => ?_)
    refine lv_iload_n hx hb dX12_paste_12 rfl (lv_at hl 3 rfl) ?_
    refine ct_calli (D := D) (wr := [mo qm 0 qm_width qm_many qm_cells qm_moved qm_tape vm_taped vm_at vm_token vm_place vm_value vm_word vm_bad vm_badPlace vm_fault vm_faultPlace qm_lines qm_has qm_round qm_meets qm_stumble qm_isMud qm_cell qm_tune qm_change qm_isKept qm_steps qm_places qm_danced vm_runMost vm_runBegins qm_heardBy vm_fitMany vm_fitFirst vm_fitBeats vm_listenLeaves qm_there vm_metAt vm_metIn qm_wins vm_nightHoles vm_nightFirst vm_nightMud vm_nightSlips vm_drawnNow, (qm_width, .inl (cI, 4, .inl (fm_width))), (qm_many, .inl (cI, 4, .inl (fm_many))), (qm_cells, .inl (cJ, 240, .inr (.inl (fm_cells)))), (qm_moved, .inl (cJ, 60, .inr (.inl (fm_moved))))]) (va_runS (As := [.int a3]) (rest := []) ⟨hx, hb, hml, hown, hts⟩ (c_X12_isSlot l D G cI cJ cB cZ cO a3  H.size) (va_cwS 1 hts gX12_paste_X12_isSlot rfl rfl rfl (by decide +kernel) ⟨Nat.le_of_ble_eq_true rfl, Nat.le_of_ble_eq_true rfl⟩) (ct_preS (T := ct_T cI cJ cB cZ cO) hE hH hP hD hS hA [] (by decide) rfl) rfl rfl hl.1 rfl (lv_room (Nat.le_of_ble_eq_true rfl)) dX12_paste_13 ⟨Nat.le_of_ble_eq_true rfl, Nat.le_of_ble_eq_true rfl⟩) hP hD hS hA [] [0, 1, 2, 3, 4] rfl rfl (by decide) (by decide) (fun r3 u H locs hw hP hD hS => ?_)
    obtain ⟨hP, hD⟩ : ct_B D A H [mo qm 0 qm_width qm_many qm_cells qm_moved qm_tape vm_taped vm_at vm_token vm_place vm_value vm_word vm_bad vm_badPlace vm_fault vm_faultPlace qm_lines qm_has qm_round qm_meets qm_stumble qm_isMud qm_cell qm_tune qm_change qm_isKept qm_steps qm_places qm_danced vm_runMost vm_runBegins qm_heardBy vm_fitMany vm_fitFirst vm_fitBeats vm_listenLeaves qm_there vm_metAt vm_metIn qm_wins vm_nightHoles vm_nightFirst vm_nightMud vm_nightSlips vm_drawnNow, (qm_width, .inl (cI, 4, .inl (fm_width))), (qm_many, .inl (cI, 4, .inl (fm_many))), (qm_cells, .inl (cJ, 240, .inr (.inl (fm_cells)))), (qm_moved, .inl (cJ, 60, .inr (.inl (fm_moved))))] := ⟨hP, hD⟩
    have hz := hw
    rcases hz with ⟨hz, hz2⟩ | ⟨hz, hz2⟩
    · subst hz
      have hz_4 : (0 ≤ a3.toInt ∧ a3.toInt < 4) := hz2
      refine lv_if_ne (tgt := 22) hx hb dX12_paste_16 (by decide) (fun _ => ?_) (fun hc => absurd hc (by decide))
      refine lv_aload_n hx hb dX12_paste_22 rfl (lv_at hl 0 rfl) ?_
      refine va_get (D := D) (ci := 12) (v := .ref qm_width) (C := RX12) (T := TX12) (N := 45) hx hb hts hi12 hown hK hP 0 rfl rfl 1 (by decide) (hts (.fieldLink RX12 7 "OverHillModel" "width" "[I") (by decide +kernel)) (fun _ h9 => h9) rfl dX12_paste_23 ?_
      refine lv_iload_n hx hb dX12_paste_26 rfl (lv_at hl 1 rfl) ?_
      refine va_iald (D := D) hx hb hK hP 1 0 rfl rfl (tq_in rfl (by omega)) dX12_paste_27 ?_
      refine lv_topi (fun z5 ez5 => ?_)
      have gz5 : z5.toInt = (fm_width a1.toNatClampNeg).toInt := by rw [ez5]
      refine lv_iconst (v := (-1)) hx hb dX12_paste_28 (by decide) ?_
      refine lv_icmp_eq (tgt := 42) hx hb dX12_paste_29 (by decide) (fun hc => ?_) (fun hc => ?_)
      · have hq6 : z5.toInt = (-1) := tq_eq rfl (by decide) hc
        have hb7 := tq_lo z5
        refine lv_bipush (v := (-6)) hx hb dX12_paste_42 (by decide) ?_
        have hk8 : (0 : Int32).toInt = 0 := by decide
        have hk9 : (-6 : Int32).toInt = (-6) := by decide
        obtain ⟨hP9, hD9⟩ : ct_B D A H [mo qm 0 qm_width qm_many qm_cells qm_moved qm_tape vm_taped vm_at vm_token vm_place vm_value vm_word vm_bad vm_badPlace vm_fault vm_faultPlace qm_lines qm_has qm_round qm_meets qm_stumble qm_isMud qm_cell qm_tune qm_change qm_isKept qm_steps qm_places qm_danced vm_runMost vm_runBegins qm_heardBy vm_fitMany vm_fitFirst vm_fitBeats vm_listenLeaves qm_there vm_metAt vm_metIn qm_wins vm_nightHoles vm_nightFirst vm_nightMud vm_nightSlips vm_drawnNow, (qm_width, .inl (cI, 4, .inl (fm_width))), (qm_many, .inl (cI, 4, .inl (fm_many))), (qm_cells, .inl (cJ, 240, .inr (.inl (fm_cells)))), (qm_moved, .inl (cJ, 60, .inr (.inl (fm_moved))))] := ⟨hP.sub [0, 1, 2, 3, 4] rfl, hD.sub [0, 1, 2, 3, 4] (by decide) rfl⟩
        exact W.iret (v := (-6)) hx hb hr (fun t ht hW => ⟨⟨(-6), ((0 : Int32), fm_cells, fm_moved), rfl, ⟨(Or.inr (Or.inl ⟨rfl, (show ((0 ≤ a1.toInt ∧ a1.toInt < 4) ∧ (0 ≤ a3.toInt ∧ a3.toInt < 4) ∧ ¬ (((fm_width a1.toNatClampNeg).toInt ≠ -1) ∧ ((fm_width a3.toNatClampNeg).toInt ≠ -1))) by omega)⟩)), (show ((-6 : Int32) = 0 ∧ paN (60 * a1.toInt + a2.toInt) (60 * a3.toInt + a4.toInt) a5.toInt fm_cells fm_cells) ∨ ((-6 : Int32) ≠ 0 ∧ fm_cells = fm_cells) by exact Or.inr ⟨by decide, rfl⟩)⟩, by rw [ht]; exact hP9, hD9⟩, hS.F ht⟩) hS.2.2 dX12_paste_44
      · have hq6 : z5.toInt ≠ (-1) := tq_ne rfl (by decide) hc
        have hb10 := tq_lo z5
        refine lv_aload_n hx hb dX12_paste_32 rfl (lv_at hl 0 rfl) ?_
        refine va_get (D := D) (ci := 12) (v := .ref qm_width) (C := RX12) (T := TX12) (N := 45) hx hb hts hi12 hown hK hP 0 rfl rfl 1 (by decide) (hts (.fieldLink RX12 7 "OverHillModel" "width" "[I") (by decide +kernel)) (fun _ h9 => h9) rfl dX12_paste_33 ?_
        refine lv_iload_n hx hb dX12_paste_36 rfl (lv_at hl 3 rfl) ?_
        refine va_iald (D := D) hx hb hK hP 1 0 rfl rfl (tq_in rfl (by omega)) dX12_paste_37 ?_
        refine lv_topi (fun z11 ez11 => ?_)
        have gz11 : z11.toInt = (fm_width a3.toNatClampNeg).toInt := by rw [ez11]
        refine lv_iconst (v := (-1)) hx hb dX12_paste_38 (by decide) ?_
        refine lv_icmp_ne (tgt := 45) hx hb dX12_paste_39 (by decide) (fun hc => ?_) (fun hc => ?_)
        · have hq12 : z11.toInt ≠ (-1) := tq_ne rfl (by decide) hc
          have hb13 := tq_lo z11
          refine lv_aload_n hx hb dX12_paste_45 rfl (lv_at hl 0 rfl) ?_
          refine va_get (D := D) (ci := 12) (v := .ref qm_width) (C := RX12) (T := TX12) (N := 45) hx hb hts hi12 hown hK hP 0 rfl rfl 1 (by decide) (hts (.fieldLink RX12 7 "OverHillModel" "width" "[I") (by decide +kernel)) (fun _ h9 => h9) rfl dX12_paste_46 ?_
          refine lv_iload_n hx hb dX12_paste_49 rfl (lv_at hl 1 rfl) ?_
          refine va_iald (D := D) hx hb hK hP 1 0 rfl rfl (tq_in rfl (by omega)) dX12_paste_50 ?_
          refine lv_topi (fun z14 ez14 => ?_)
          have gz14 : z14.toInt = (fm_width a1.toNatClampNeg).toInt := by rw [ez14]
          refine lv_aload_n hx hb dX12_paste_51 rfl (lv_at hl 0 rfl) ?_
          refine va_get (D := D) (ci := 12) (v := .ref qm_width) (C := RX12) (T := TX12) (N := 45) hx hb hts hi12 hown hK hP 0 rfl rfl 1 (by decide) (hts (.fieldLink RX12 7 "OverHillModel" "width" "[I") (by decide +kernel)) (fun _ h9 => h9) rfl dX12_paste_52 ?_
          refine lv_iload_n hx hb dX12_paste_55 rfl (lv_at hl 3 rfl) ?_
          refine va_iald (D := D) hx hb hK hP 1 0 rfl rfl (tq_in rfl (by omega)) dX12_paste_56 ?_
          refine lv_topi (fun z15 ez15 => ?_)
          have gz15 : z15.toInt = (fm_width a3.toNatClampNeg).toInt := by rw [ez15]
          refine lv_icmp_eq (tgt := 63) hx hb dX12_paste_57 (by decide) (fun hc => ?_) (fun hc => ?_)
          · have hq16 : z14.toInt = z15.toInt := tq_eq rfl rfl hc
            have hb17 := tq_lo z14
            have hb18 := tq_lo z15
            refine lv_iload_n hx hb dX12_paste_63 rfl (lv_at hl 2 rfl) ?_
            refine lv_if_lt (tgt := 112) hx hb dX12_paste_64 (by decide) (fun hc => ?_) (fun hc => ?_)
            · have hq19 : a2.toInt < 0 := tq_lt rfl (by decide) hc
              have hb20 := tq_lo a2
              refine lv_bipush (v := (-7)) hx hb dX12_paste_112 (by decide) ?_
              have hk21 : (0 : Int32).toInt = 0 := by decide
              have hk22 : (-7 : Int32).toInt = (-7) := by decide
              obtain ⟨hP9, hD9⟩ : ct_B D A H [mo qm 0 qm_width qm_many qm_cells qm_moved qm_tape vm_taped vm_at vm_token vm_place vm_value vm_word vm_bad vm_badPlace vm_fault vm_faultPlace qm_lines qm_has qm_round qm_meets qm_stumble qm_isMud qm_cell qm_tune qm_change qm_isKept qm_steps qm_places qm_danced vm_runMost vm_runBegins qm_heardBy vm_fitMany vm_fitFirst vm_fitBeats vm_listenLeaves qm_there vm_metAt vm_metIn qm_wins vm_nightHoles vm_nightFirst vm_nightMud vm_nightSlips vm_drawnNow, (qm_width, .inl (cI, 4, .inl (fm_width))), (qm_many, .inl (cI, 4, .inl (fm_many))), (qm_cells, .inl (cJ, 240, .inr (.inl (fm_cells)))), (qm_moved, .inl (cJ, 60, .inr (.inl (fm_moved))))] := ⟨hP.sub [0, 1, 2, 3, 4] rfl, hD.sub [0, 1, 2, 3, 4] (by decide) rfl⟩
              exact W.iret (v := (-7)) hx hb hr (fun t ht hW => ⟨⟨(-7), ((0 : Int32), fm_cells, fm_moved), rfl, ⟨(Or.inr (Or.inr (Or.inr (Or.inl ⟨rfl, (show ((0 ≤ a1.toInt ∧ a1.toInt < 4) ∧ (0 ≤ a3.toInt ∧ a3.toInt < 4) ∧ ((fm_width a1.toNatClampNeg).toInt ≠ -1) ∧ ((fm_width a3.toNatClampNeg).toInt ≠ -1) ∧ (fm_width a1.toNatClampNeg).toInt = (fm_width a3.toNatClampNeg).toInt ∧ ¬ (0 ≤ a2.toInt ∧ 0 ≤ a4.toInt ∧ 0 ≤ a5.toInt ∧ a2.toInt + a5.toInt ≤ (fm_many a1.toNatClampNeg).toInt ∧ a4.toInt + a5.toInt ≤ (fm_many a3.toNatClampNeg).toInt)) by omega)⟩)))), (show ((-7 : Int32) = 0 ∧ paN (60 * a1.toInt + a2.toInt) (60 * a3.toInt + a4.toInt) a5.toInt fm_cells fm_cells) ∨ ((-7 : Int32) ≠ 0 ∧ fm_cells = fm_cells) by exact Or.inr ⟨by decide, rfl⟩)⟩, by rw [ht]; exact hP9, hD9⟩, hS.F ht⟩) hS.2.2 dX12_paste_114
            · have hq19 : 0 ≤ a2.toInt := tq_nlt rfl (by decide) hc
              have hb23 := tq_lo a2
              refine lv_iload hx hb dX12_paste_67 (lv_at hl 4 rfl) ?_
              refine lv_if_lt (tgt := 112) hx hb dX12_paste_69 (by decide) (fun hc => ?_) (fun hc => ?_)
              · have hq24 : a4.toInt < 0 := tq_lt rfl (by decide) hc
                have hb25 := tq_lo a4
                refine lv_bipush (v := (-7)) hx hb dX12_paste_112 (by decide) ?_
                have hk26 : (0 : Int32).toInt = 0 := by decide
                have hk27 : (-7 : Int32).toInt = (-7) := by decide
                obtain ⟨hP9, hD9⟩ : ct_B D A H [mo qm 0 qm_width qm_many qm_cells qm_moved qm_tape vm_taped vm_at vm_token vm_place vm_value vm_word vm_bad vm_badPlace vm_fault vm_faultPlace qm_lines qm_has qm_round qm_meets qm_stumble qm_isMud qm_cell qm_tune qm_change qm_isKept qm_steps qm_places qm_danced vm_runMost vm_runBegins qm_heardBy vm_fitMany vm_fitFirst vm_fitBeats vm_listenLeaves qm_there vm_metAt vm_metIn qm_wins vm_nightHoles vm_nightFirst vm_nightMud vm_nightSlips vm_drawnNow, (qm_width, .inl (cI, 4, .inl (fm_width))), (qm_many, .inl (cI, 4, .inl (fm_many))), (qm_cells, .inl (cJ, 240, .inr (.inl (fm_cells)))), (qm_moved, .inl (cJ, 60, .inr (.inl (fm_moved))))] := ⟨hP.sub [0, 1, 2, 3, 4] rfl, hD.sub [0, 1, 2, 3, 4] (by decide) rfl⟩
                exact W.iret (v := (-7)) hx hb hr (fun t ht hW => ⟨⟨(-7), ((0 : Int32), fm_cells, fm_moved), rfl, ⟨(Or.inr (Or.inr (Or.inr (Or.inl ⟨rfl, (show ((0 ≤ a1.toInt ∧ a1.toInt < 4) ∧ (0 ≤ a3.toInt ∧ a3.toInt < 4) ∧ ((fm_width a1.toNatClampNeg).toInt ≠ -1) ∧ ((fm_width a3.toNatClampNeg).toInt ≠ -1) ∧ (fm_width a1.toNatClampNeg).toInt = (fm_width a3.toNatClampNeg).toInt ∧ ¬ (0 ≤ a2.toInt ∧ 0 ≤ a4.toInt ∧ 0 ≤ a5.toInt ∧ a2.toInt + a5.toInt ≤ (fm_many a1.toNatClampNeg).toInt ∧ a4.toInt + a5.toInt ≤ (fm_many a3.toNatClampNeg).toInt)) by omega)⟩)))), (show ((-7 : Int32) = 0 ∧ paN (60 * a1.toInt + a2.toInt) (60 * a3.toInt + a4.toInt) a5.toInt fm_cells fm_cells) ∨ ((-7 : Int32) ≠ 0 ∧ fm_cells = fm_cells) by exact Or.inr ⟨by decide, rfl⟩)⟩, by rw [ht]; exact hP9, hD9⟩, hS.F ht⟩) hS.2.2 dX12_paste_114
              · have hq24 : 0 ≤ a4.toInt := tq_nlt rfl (by decide) hc
                have hb28 := tq_lo a4
                refine lv_iload hx hb dX12_paste_72 (lv_at hl 5 rfl) ?_
                refine lv_if_lt (tgt := 112) hx hb dX12_paste_74 (by decide) (fun hc => ?_) (fun hc => ?_)
                · have hq29 : a5.toInt < 0 := tq_lt rfl (by decide) hc
                  have hb30 := tq_lo a5
                  refine lv_bipush (v := (-7)) hx hb dX12_paste_112 (by decide) ?_
                  have hk31 : (0 : Int32).toInt = 0 := by decide
                  have hk32 : (-7 : Int32).toInt = (-7) := by decide
                  obtain ⟨hP9, hD9⟩ : ct_B D A H [mo qm 0 qm_width qm_many qm_cells qm_moved qm_tape vm_taped vm_at vm_token vm_place vm_value vm_word vm_bad vm_badPlace vm_fault vm_faultPlace qm_lines qm_has qm_round qm_meets qm_stumble qm_isMud qm_cell qm_tune qm_change qm_isKept qm_steps qm_places qm_danced vm_runMost vm_runBegins qm_heardBy vm_fitMany vm_fitFirst vm_fitBeats vm_listenLeaves qm_there vm_metAt vm_metIn qm_wins vm_nightHoles vm_nightFirst vm_nightMud vm_nightSlips vm_drawnNow, (qm_width, .inl (cI, 4, .inl (fm_width))), (qm_many, .inl (cI, 4, .inl (fm_many))), (qm_cells, .inl (cJ, 240, .inr (.inl (fm_cells)))), (qm_moved, .inl (cJ, 60, .inr (.inl (fm_moved))))] := ⟨hP.sub [0, 1, 2, 3, 4] rfl, hD.sub [0, 1, 2, 3, 4] (by decide) rfl⟩
                  exact W.iret (v := (-7)) hx hb hr (fun t ht hW => ⟨⟨(-7), ((0 : Int32), fm_cells, fm_moved), rfl, ⟨(Or.inr (Or.inr (Or.inr (Or.inl ⟨rfl, (show ((0 ≤ a1.toInt ∧ a1.toInt < 4) ∧ (0 ≤ a3.toInt ∧ a3.toInt < 4) ∧ ((fm_width a1.toNatClampNeg).toInt ≠ -1) ∧ ((fm_width a3.toNatClampNeg).toInt ≠ -1) ∧ (fm_width a1.toNatClampNeg).toInt = (fm_width a3.toNatClampNeg).toInt ∧ ¬ (0 ≤ a2.toInt ∧ 0 ≤ a4.toInt ∧ 0 ≤ a5.toInt ∧ a2.toInt + a5.toInt ≤ (fm_many a1.toNatClampNeg).toInt ∧ a4.toInt + a5.toInt ≤ (fm_many a3.toNatClampNeg).toInt)) by omega)⟩)))), (show ((-7 : Int32) = 0 ∧ paN (60 * a1.toInt + a2.toInt) (60 * a3.toInt + a4.toInt) a5.toInt fm_cells fm_cells) ∨ ((-7 : Int32) ≠ 0 ∧ fm_cells = fm_cells) by exact Or.inr ⟨by decide, rfl⟩)⟩, by rw [ht]; exact hP9, hD9⟩, hS.F ht⟩) hS.2.2 dX12_paste_114
                · have hq29 : 0 ≤ a5.toInt := tq_nlt rfl (by decide) hc
                  have hb33 := tq_lo a5
                  refine lv_iload_n hx hb dX12_paste_77 rfl (lv_at hl 2 rfl) ?_
                  refine lv_i2l (v := _) hx hb dX12_paste_78 rfl ?_
                  refine lv_topl (fun z34 ez34 => ?_)
                  have fz34 : z34.toInt = a2.toInt := by rw [ez34]; exact tl_i rfl
                  have hb35 := tq_lo a2
                  refine lv_iload hx hb dX12_paste_79 (lv_at hl 5 rfl) ?_
                  refine lv_i2l (v := _) hx hb dX12_paste_81 rfl ?_
                  refine lv_topl (fun z36 ez36 => ?_)
                  have fz36 : z36.toInt = a5.toInt := by rw [ez36]; exact tl_i rfl
                  have hb37 := tq_lo a5
                  refine lv_ladd hx hb dX12_paste_82 ?_
                  refine lv_topl (fun z38 ez38 => ?_)
                  have fz38 : z38.toInt = z34.toInt + z36.toInt := by rw [ez38]; exact tl_add rfl rfl (by omega)
                  refine lv_aload_n hx hb dX12_paste_83 rfl (lv_at hl 0 rfl) ?_
                  refine va_get (D := D) (ci := 12) (v := .ref qm_many) (C := RX12) (T := TX12) (N := 45) hx hb hts hi12 hown hK hP 0 rfl rfl 2 (by decide) (hts (.fieldLink RX12 13 "OverHillModel" "many" "[I") (by decide +kernel)) (fun _ h9 => h9) rfl dX12_paste_84 ?_
                  refine lv_iload_n hx hb dX12_paste_87 rfl (lv_at hl 1 rfl) ?_
                  refine va_iald (D := D) hx hb hK hP 2 0 rfl rfl (tq_in rfl (by omega)) dX12_paste_88 ?_
                  refine lv_topi (fun z39 ez39 => ?_)
                  have fz39 : 0 ≤ z39.toInt ∧ z39.toInt ≤ 60 := by rw [ez39]; exact ar_get h_fm_many a1 0 (by omega) (show a1.toInt % 1 = 0 by omega) rfl
                  have gz39 : z39.toInt = (fm_many a1.toNatClampNeg).toInt := by rw [ez39]
                  refine lv_i2l (v := _) hx hb dX12_paste_89 rfl ?_
                  refine lv_topl (fun z40 ez40 => ?_)
                  have fz40 : z40.toInt = z39.toInt := by rw [ez40]; exact tl_i rfl
                  refine W.lcmp hx hb dX12_paste_90 ?_
                  refine lv_if_gt (tgt := 112) hx hb dX12_paste_91 (by decide) (fun hc => ?_) (fun hc => ?_)
                  · have hq41 : z40.toInt < z38.toInt := tl_lt rfl rfl ((lg_cmp_gt _ _).mp hc)
                    refine lv_bipush (v := (-7)) hx hb dX12_paste_112 (by decide) ?_
                    have hk42 : (0 : Int32).toInt = 0 := by decide
                    have hk43 : (-7 : Int32).toInt = (-7) := by decide
                    obtain ⟨hP9, hD9⟩ : ct_B D A H [mo qm 0 qm_width qm_many qm_cells qm_moved qm_tape vm_taped vm_at vm_token vm_place vm_value vm_word vm_bad vm_badPlace vm_fault vm_faultPlace qm_lines qm_has qm_round qm_meets qm_stumble qm_isMud qm_cell qm_tune qm_change qm_isKept qm_steps qm_places qm_danced vm_runMost vm_runBegins qm_heardBy vm_fitMany vm_fitFirst vm_fitBeats vm_listenLeaves qm_there vm_metAt vm_metIn qm_wins vm_nightHoles vm_nightFirst vm_nightMud vm_nightSlips vm_drawnNow, (qm_width, .inl (cI, 4, .inl (fm_width))), (qm_many, .inl (cI, 4, .inl (fm_many))), (qm_cells, .inl (cJ, 240, .inr (.inl (fm_cells)))), (qm_moved, .inl (cJ, 60, .inr (.inl (fm_moved))))] := ⟨hP.sub [0, 1, 2, 3, 4] rfl, hD.sub [0, 1, 2, 3, 4] (by decide) rfl⟩
                    exact W.iret (v := (-7)) hx hb hr (fun t ht hW => ⟨⟨(-7), ((0 : Int32), fm_cells, fm_moved), rfl, ⟨(Or.inr (Or.inr (Or.inr (Or.inl ⟨rfl, (show ((0 ≤ a1.toInt ∧ a1.toInt < 4) ∧ (0 ≤ a3.toInt ∧ a3.toInt < 4) ∧ ((fm_width a1.toNatClampNeg).toInt ≠ -1) ∧ ((fm_width a3.toNatClampNeg).toInt ≠ -1) ∧ (fm_width a1.toNatClampNeg).toInt = (fm_width a3.toNatClampNeg).toInt ∧ ¬ (0 ≤ a2.toInt ∧ 0 ≤ a4.toInt ∧ 0 ≤ a5.toInt ∧ a2.toInt + a5.toInt ≤ (fm_many a1.toNatClampNeg).toInt ∧ a4.toInt + a5.toInt ≤ (fm_many a3.toNatClampNeg).toInt)) by omega)⟩)))), (show ((-7 : Int32) = 0 ∧ paN (60 * a1.toInt + a2.toInt) (60 * a3.toInt + a4.toInt) a5.toInt fm_cells fm_cells) ∨ ((-7 : Int32) ≠ 0 ∧ fm_cells = fm_cells) by exact Or.inr ⟨by decide, rfl⟩)⟩, by rw [ht]; exact hP9, hD9⟩, hS.F ht⟩) hS.2.2 dX12_paste_114
                  · have hq41 : z38.toInt ≤ z40.toInt := tl_nlt rfl rfl (fun z => hc ((lg_cmp_gt _ _).mpr z))
                    refine lv_iload hx hb dX12_paste_94 (lv_at hl 4 rfl) ?_
                    refine lv_i2l (v := _) hx hb dX12_paste_96 rfl ?_
                    refine lv_topl (fun z44 ez44 => ?_)
                    have fz44 : z44.toInt = a4.toInt := by rw [ez44]; exact tl_i rfl
                    have hb45 := tq_lo a4
                    refine lv_iload hx hb dX12_paste_97 (lv_at hl 5 rfl) ?_
                    refine lv_i2l (v := _) hx hb dX12_paste_99 rfl ?_
                    refine lv_topl (fun z46 ez46 => ?_)
                    have fz46 : z46.toInt = a5.toInt := by rw [ez46]; exact tl_i rfl
                    have hb47 := tq_lo a5
                    refine lv_ladd hx hb dX12_paste_100 ?_
                    refine lv_topl (fun z48 ez48 => ?_)
                    have fz48 : z48.toInt = z44.toInt + z46.toInt := by rw [ez48]; exact tl_add rfl rfl (by omega)
                    refine lv_aload_n hx hb dX12_paste_101 rfl (lv_at hl 0 rfl) ?_
                    refine va_get (D := D) (ci := 12) (v := .ref qm_many) (C := RX12) (T := TX12) (N := 45) hx hb hts hi12 hown hK hP 0 rfl rfl 2 (by decide) (hts (.fieldLink RX12 13 "OverHillModel" "many" "[I") (by decide +kernel)) (fun _ h9 => h9) rfl dX12_paste_102 ?_
                    refine lv_iload_n hx hb dX12_paste_105 rfl (lv_at hl 3 rfl) ?_
                    refine va_iald (D := D) hx hb hK hP 2 0 rfl rfl (tq_in rfl (by omega)) dX12_paste_106 ?_
                    refine lv_topi (fun z49 ez49 => ?_)
                    have fz49 : 0 ≤ z49.toInt ∧ z49.toInt ≤ 60 := by rw [ez49]; exact ar_get h_fm_many a3 0 (by omega) (show a3.toInt % 1 = 0 by omega) rfl
                    have gz49 : z49.toInt = (fm_many a3.toNatClampNeg).toInt := by rw [ez49]
                    refine lv_i2l (v := _) hx hb dX12_paste_107 rfl ?_
                    refine lv_topl (fun z50 ez50 => ?_)
                    have fz50 : z50.toInt = z49.toInt := by rw [ez50]; exact tl_i rfl
                    refine W.lcmp hx hb dX12_paste_108 ?_
                    refine lv_if_le (tgt := 115) hx hb dX12_paste_109 (by decide) (fun hc => ?_) (fun hc => ?_)
                    · have hq51 : z48.toInt ≤ z50.toInt := tl_le rfl rfl ((lg_cmp_le _ _).mp hc)
                      refine lv_iconst (v := 0) hx hb dX12_paste_115 (by decide) ?_
                      refine lv_istore (lv' := [(6, .int 0), (0, .ref qm), (1, .int a1), (2, .int a2), (3, .int a3), (4, .int a4), (5, .int a5)]) hx hb dX12_paste_116 hl (by decide) rfl (fun ls hl => ?_)
                      refine ct_loop (X := (Nat → Int64) × Int32) (fun x => (60 - x.2.toInt).toNat) (fun x H locs ls => ((0 ≤ x.2.toInt ∧ x.2.toInt ≤ 60)) ∧ (moN (60 * a1.toInt + a2.toInt) x.2.toInt fm_cells x.1) ∧ ct_B D A H [mo qm 0 qm_width qm_many qm_cells qm_moved qm_tape vm_taped vm_at vm_token vm_place vm_value vm_word vm_bad vm_badPlace vm_fault vm_faultPlace qm_lines qm_has qm_round qm_meets qm_stumble qm_isMud qm_cell qm_tune qm_change qm_isKept qm_steps qm_places qm_danced vm_runMost vm_runBegins qm_heardBy vm_fitMany vm_fitFirst vm_fitBeats vm_listenLeaves qm_there vm_metAt vm_metIn qm_wins vm_nightHoles vm_nightFirst vm_nightMud vm_nightSlips vm_drawnNow, (qm_width, .inl (cI, 4, .inl (fm_width))), (qm_many, .inl (cI, 4, .inl (fm_many))), (qm_cells, .inl (cJ, 240, .inr (.inl (fm_cells)))), (qm_moved, .inl (cJ, 60, .inr (.inl (x.1))))] ∧ va_S A s.heap H locs ∧ lv_has ls 7 [(6, .int x.2), (0, .ref qm), (1, .int a1), (2, .int a2), (3, .int a3), (4, .int a4), (5, .int a5)]) 118 (fm_moved, (0 : Int32)) ⟨(show 0 ≤ (0 : Int32).toInt ∧ (0 : Int32).toInt ≤ 60 by decide), (show moN (60 * a1.toInt + a2.toInt) (0 : Int32).toInt fm_cells fm_moved by exact moN_zero (by decide)), ⟨hP, hD⟩, hS, lv_sub hl [0, 1, 2, 3, 4, 5, 6] rfl⟩ (fun x ih408 H locs ls hI => ?_)
                      obtain ⟨g406, x407⟩ := x
                      obtain ⟨h_x407, he0, ⟨hP, hD⟩, hS, hl⟩ := hI
                      have h_x407 : (0 ≤ x407.toInt ∧ x407.toInt ≤ 60) := h_x407
                      have he0 : moN (60 * a1.toInt + a2.toInt) x407.toInt fm_cells g406 := he0
                      obtain ⟨hP, hD⟩ : ct_B D A H [mo qm 0 qm_width qm_many qm_cells qm_moved qm_tape vm_taped vm_at vm_token vm_place vm_value vm_word vm_bad vm_badPlace vm_fault vm_faultPlace qm_lines qm_has qm_round qm_meets qm_stumble qm_isMud qm_cell qm_tune qm_change qm_isKept qm_steps qm_places qm_danced vm_runMost vm_runBegins qm_heardBy vm_fitMany vm_fitFirst vm_fitBeats vm_listenLeaves qm_there vm_metAt vm_metIn qm_wins vm_nightHoles vm_nightFirst vm_nightMud vm_nightSlips vm_drawnNow, (qm_width, .inl (cI, 4, .inl (fm_width))), (qm_many, .inl (cI, 4, .inl (fm_many))), (qm_cells, .inl (cJ, 240, .inr (.inl (fm_cells)))), (qm_moved, .inl (cJ, 60, .inr (.inl (g406))))] := ⟨hP, hD⟩
                      have hl : lv_has ls 7 [(6, .int x407), (0, .ref qm), (1, .int a1), (2, .int a2), (3, .int a3), (4, .int a4), (5, .int a5)] := hl
                      refine lv_iload hx hb dX12_paste_118 (lv_at hl 0 rfl) ?_
                      refine lv_iload hx hb dX12_paste_120 (lv_at hl 6 rfl) ?_
                      refine lv_icmp_ge (tgt := 152) hx hb dX12_paste_122 (by decide) (fun hc => ?_) (fun hc => ?_)
                      · have hq409 : a5.toInt ≤ x407.toInt := tq_le rfl rfl hc
                        have hmo410 := he0
                        refine lv_iconst (v := 0) hx hb dX12_paste_152 (by decide) ?_
                        refine lv_istore (lv' := [(6, .int 0), (0, .ref qm), (1, .int a1), (2, .int a2), (3, .int a3), (4, .int a4), (5, .int a5)]) hx hb dX12_paste_153 hl (by decide) rfl (fun ls hl => ?_)
                        refine ct_loop (X := (Nat → Int64) × Int32) (fun x => (60 - x.2.toInt).toNat) (fun x H locs ls => ((0 ≤ x.2.toInt ∧ x.2.toInt ≤ 60)) ∧ (paN (60 * a1.toInt + a2.toInt) (60 * a3.toInt + a4.toInt) x.2.toInt fm_cells x.1) ∧ (x.2.toInt ≤ a5.toInt) ∧ ct_B D A H [mo qm 0 qm_width qm_many qm_cells qm_moved qm_tape vm_taped vm_at vm_token vm_place vm_value vm_word vm_bad vm_badPlace vm_fault vm_faultPlace qm_lines qm_has qm_round qm_meets qm_stumble qm_isMud qm_cell qm_tune qm_change qm_isKept qm_steps qm_places qm_danced vm_runMost vm_runBegins qm_heardBy vm_fitMany vm_fitFirst vm_fitBeats vm_listenLeaves qm_there vm_metAt vm_metIn qm_wins vm_nightHoles vm_nightFirst vm_nightMud vm_nightSlips vm_drawnNow, (qm_width, .inl (cI, 4, .inl (fm_width))), (qm_many, .inl (cI, 4, .inl (fm_many))), (qm_cells, .inl (cJ, 240, .inr (.inl (x.1)))), (qm_moved, .inl (cJ, 60, .inr (.inl (g406))))] ∧ va_S A s.heap H locs ∧ lv_has ls 7 [(6, .int x.2), (0, .ref qm), (1, .int a1), (2, .int a2), (3, .int a3), (4, .int a4), (5, .int a5)]) 155 (fm_cells, (0 : Int32)) ⟨(show 0 ≤ (0 : Int32).toInt ∧ (0 : Int32).toInt ≤ 60 by decide), (show paN (60 * a1.toInt + a2.toInt) (60 * a3.toInt + a4.toInt) (0 : Int32).toInt fm_cells fm_cells by exact paN_zero (by decide)), (show (0 : Int32).toInt ≤ a5.toInt by have h0 : (0 : Int32).toInt = 0 := (by decide); omega), ⟨hP, hD⟩, hS, lv_sub hl [0, 1, 2, 3, 4, 5, 6] rfl⟩ (fun x ih466 H locs ls hI => ?_)
                        obtain ⟨g464, x465⟩ := x
                        obtain ⟨h_x465, he0, he1, ⟨hP, hD⟩, hS, hl⟩ := hI
                        have h_x465 : (0 ≤ x465.toInt ∧ x465.toInt ≤ 60) := h_x465
                        have he0 : paN (60 * a1.toInt + a2.toInt) (60 * a3.toInt + a4.toInt) x465.toInt fm_cells g464 := he0
                        have he1 : x465.toInt ≤ a5.toInt := he1
                        obtain ⟨hP, hD⟩ : ct_B D A H [mo qm 0 qm_width qm_many qm_cells qm_moved qm_tape vm_taped vm_at vm_token vm_place vm_value vm_word vm_bad vm_badPlace vm_fault vm_faultPlace qm_lines qm_has qm_round qm_meets qm_stumble qm_isMud qm_cell qm_tune qm_change qm_isKept qm_steps qm_places qm_danced vm_runMost vm_runBegins qm_heardBy vm_fitMany vm_fitFirst vm_fitBeats vm_listenLeaves qm_there vm_metAt vm_metIn qm_wins vm_nightHoles vm_nightFirst vm_nightMud vm_nightSlips vm_drawnNow, (qm_width, .inl (cI, 4, .inl (fm_width))), (qm_many, .inl (cI, 4, .inl (fm_many))), (qm_cells, .inl (cJ, 240, .inr (.inl (g464)))), (qm_moved, .inl (cJ, 60, .inr (.inl (g406))))] := ⟨hP, hD⟩
                        have hl : lv_has ls 7 [(6, .int x465), (0, .ref qm), (1, .int a1), (2, .int a2), (3, .int a3), (4, .int a4), (5, .int a5)] := hl
                        refine lv_iload hx hb dX12_paste_155 (lv_at hl 0 rfl) ?_
                        refine lv_iload hx hb dX12_paste_157 (lv_at hl 6 rfl) ?_
                        refine lv_icmp_ge (tgt := 190) hx hb dX12_paste_159 (by decide) (fun hc => ?_) (fun hc => ?_)
                        · have hq467 : a5.toInt ≤ x465.toInt := tq_le rfl rfl hc
                          refine lv_iconst (v := 0) hx hb dX12_paste_190 (by decide) ?_
                          have hk468 : (0 : Int32).toInt = 0 := by decide
                          have hk469 : (0 : Int32).toInt = 0 := by decide
                          obtain ⟨hP9, hD9⟩ : ct_B D A H [mo qm 0 qm_width qm_many qm_cells qm_moved qm_tape vm_taped vm_at vm_token vm_place vm_value vm_word vm_bad vm_badPlace vm_fault vm_faultPlace qm_lines qm_has qm_round qm_meets qm_stumble qm_isMud qm_cell qm_tune qm_change qm_isKept qm_steps qm_places qm_danced vm_runMost vm_runBegins qm_heardBy vm_fitMany vm_fitFirst vm_fitBeats vm_listenLeaves qm_there vm_metAt vm_metIn qm_wins vm_nightHoles vm_nightFirst vm_nightMud vm_nightSlips vm_drawnNow, (qm_width, .inl (cI, 4, .inl (fm_width))), (qm_many, .inl (cI, 4, .inl (fm_many))), (qm_cells, .inl (cJ, 240, .inr (.inl (g464)))), (qm_moved, .inl (cJ, 60, .inr (.inl (g406))))] := ⟨hP.sub [0, 1, 2, 3, 4] rfl, hD.sub [0, 1, 2, 3, 4] (by decide) rfl⟩
                          exact W.iret (v := 0) hx hb hr (fun t ht hW => ⟨⟨0, ((0 : Int32), g464, g406), rfl, ⟨(Or.inr (Or.inr (Or.inr (Or.inr (⟨rfl, (show ((0 ≤ a1.toInt ∧ a1.toInt < 4) ∧ (0 ≤ a3.toInt ∧ a3.toInt < 4) ∧ ((fm_width a1.toNatClampNeg).toInt ≠ -1) ∧ ((fm_width a3.toNatClampNeg).toInt ≠ -1) ∧ (fm_width a1.toNatClampNeg).toInt = (fm_width a3.toNatClampNeg).toInt ∧ (0 ≤ a2.toInt ∧ 0 ≤ a4.toInt ∧ 0 ≤ a5.toInt ∧ a2.toInt + a5.toInt ≤ (fm_many a1.toNatClampNeg).toInt ∧ a4.toInt + a5.toInt ≤ (fm_many a3.toNatClampNeg).toInt)) by omega)⟩))))), (show ((0 : Int32) = 0 ∧ paN (60 * a1.toInt + a2.toInt) (60 * a3.toInt + a4.toInt) a5.toInt fm_cells g464) ∨ ((0 : Int32) ≠ 0 ∧ g464 = fm_cells) by exact Or.inl ⟨rfl, pa_to he0 (by omega)⟩)⟩, by rw [ht]; exact hP9, hD9⟩, hS.F ht⟩) hS.2.2 dX12_paste_191
                        · have hq467 : x465.toInt < a5.toInt := tq_nle rfl rfl hc
                          refine lv_aload_n hx hb dX12_paste_162 rfl (lv_at hl 1 rfl) ?_
                          refine va_get (D := D) (ci := 12) (v := .ref qm_cells) (C := RX12) (T := TX12) (N := 45) hx hb hts hi12 hown hK hP 0 rfl rfl 3 (by decide) (hts (.fieldLink RX12 16 "OverHillModel" "cells" "[J") (by decide +kernel)) (fun _ h9 => h9) rfl dX12_paste_163 ?_
                          refine lv_bipush (v := 60) hx hb dX12_paste_166 (by decide) ?_
                          refine lv_iload_n hx hb dX12_paste_168 rfl (lv_at hl 4 rfl) ?_
                          refine lv_imul hx hb dX12_paste_169 ?_
                          refine lv_topi (fun z470 ez470 => ?_)
                          have fz470 : z470.toInt = 60 * a3.toInt := by rw [ez470]; exact tq_mul (by decide) rfl (by omega)
                          refine lv_iload hx hb dX12_paste_170 (lv_at hl 5 rfl) ?_
                          refine lv_iadd hx hb dX12_paste_172 ?_
                          refine lv_topi (fun z471 ez471 => ?_)
                          have fz471 : z471.toInt = z470.toInt + a4.toInt := by rw [ez471]; exact tq_add rfl rfl (by omega)
                          refine lv_iload hx hb dX12_paste_173 (lv_at hl 0 rfl) ?_
                          refine lv_iadd hx hb dX12_paste_175 ?_
                          refine lv_topi (fun z472 ez472 => ?_)
                          have fz472 : z472.toInt = z471.toInt + x465.toInt := by rw [ez472]; exact tq_add rfl rfl (by omega)
                          refine lv_aload_n hx hb dX12_paste_176 rfl (lv_at hl 1 rfl) ?_
                          refine va_get (D := D) (ci := 12) (v := .ref qm_moved) (C := RX12) (T := TX12) (N := 45) hx hb hts hi12 hown hK hP 0 rfl rfl 4 (by decide) (hts (.fieldLink RX12 20 "OverHillModel" "moved" "[J") (by decide +kernel)) (fun _ h9 => h9) rfl dX12_paste_177 ?_
                          refine lv_iload hx hb dX12_paste_180 (lv_at hl 0 rfl) ?_
                          refine va_lald (D := D) hx hb hK hP 4 1 rfl rfl (tq_in rfl (by omega)) dX12_paste_182 ?_
                          refine lv_topl (fun z473 ez473 => ?_)
                          refine va_last (D := D) hx hb hK hP hD hS 3 1 rfl rfl (tq_in rfl (by omega)) dX12_paste_183 (fun H locs hP hD hS => ?_)
                          obtain ⟨hP, hD⟩ : ct_B D A H [mo qm 0 qm_width qm_many qm_cells qm_moved qm_tape vm_taped vm_at vm_token vm_place vm_value vm_word vm_bad vm_badPlace vm_fault vm_faultPlace qm_lines qm_has qm_round qm_meets qm_stumble qm_isMud qm_cell qm_tune qm_change qm_isKept qm_steps qm_places qm_danced vm_runMost vm_runBegins qm_heardBy vm_fitMany vm_fitFirst vm_fitBeats vm_listenLeaves qm_there vm_metAt vm_metIn qm_wins vm_nightHoles vm_nightFirst vm_nightMud vm_nightSlips vm_drawnNow, (qm_width, .inl (cI, 4, .inl (fm_width))), (qm_many, .inl (cI, 4, .inl (fm_many))), (qm_cells, .inl (cJ, 240, .inr (.inl (vp_updL g464 z472.toNatClampNeg z473)))), (qm_moved, .inl (cJ, 60, .inr (.inl (g406))))] := ⟨hP, hD⟩
                          obtain ⟨z474, ez474⟩ : ∃ z : Int32, z = x465 + 1 := ⟨_, rfl⟩
                          have fz474 : z474.toInt = x465.toInt + 1 := by rw [ez474]; exact tq_add rfl (by decide) (by omega)
                          refine lv_iinc (v := z474) (lv' := [(6, .int z474), (0, .ref qm), (1, .int a1), (2, .int a2), (3, .int a3), (4, .int a4), (5, .int a5)]) hx hb dX12_paste_184 hl (k := 0) rfl ez474.symm (by decide) rfl (fun ls hl => ?_)
                          refine lv_goto (tgt := 155) hx hb dX12_paste_187 (by decide) ?_
                          exact ih466 ((vp_updL g464 z472.toNatClampNeg z473), z474) _ _ _ (show (60 - z474.toInt).toNat < (60 - x465.toInt).toNat by omega) ⟨(show 0 ≤ z474.toInt ∧ z474.toInt ≤ 60 by omega), (show paN (60 * a1.toInt + a2.toInt) (60 * a3.toInt + a4.toInt) z474.toInt fm_cells (vp_updL g464 z472.toNatClampNeg z473) by exact paN_step he0 hmo410 (by omega) (by omega) ez473 (by omega) (by omega) (by omega) (by omega)), (show z474.toInt ≤ a5.toInt by omega), ⟨hP, hD⟩, hS, lv_sub hl [0, 1, 2, 3, 4, 5, 6] rfl⟩
                      · have hq409 : x407.toInt < a5.toInt := tq_nle rfl rfl hc
                        refine lv_aload_n hx hb dX12_paste_125 rfl (lv_at hl 1 rfl) ?_
                        refine va_get (D := D) (ci := 12) (v := .ref qm_moved) (C := RX12) (T := TX12) (N := 45) hx hb hts hi12 hown hK hP 0 rfl rfl 4 (by decide) (hts (.fieldLink RX12 20 "OverHillModel" "moved" "[J") (by decide +kernel)) (fun _ h9 => h9) rfl dX12_paste_126 ?_
                        refine lv_iload hx hb dX12_paste_129 (lv_at hl 0 rfl) ?_
                        refine lv_aload_n hx hb dX12_paste_131 rfl (lv_at hl 1 rfl) ?_
                        refine va_get (D := D) (ci := 12) (v := .ref qm_cells) (C := RX12) (T := TX12) (N := 45) hx hb hts hi12 hown hK hP 0 rfl rfl 3 (by decide) (hts (.fieldLink RX12 16 "OverHillModel" "cells" "[J") (by decide +kernel)) (fun _ h9 => h9) rfl dX12_paste_132 ?_
                        refine lv_bipush (v := 60) hx hb dX12_paste_135 (by decide) ?_
                        refine lv_iload_n hx hb dX12_paste_137 rfl (lv_at hl 2 rfl) ?_
                        refine lv_imul hx hb dX12_paste_138 ?_
                        refine lv_topi (fun z475 ez475 => ?_)
                        have fz475 : z475.toInt = 60 * a1.toInt := by rw [ez475]; exact tq_mul (by decide) rfl (by omega)
                        refine lv_iload_n hx hb dX12_paste_139 rfl (lv_at hl 3 rfl) ?_
                        refine lv_iadd hx hb dX12_paste_140 ?_
                        refine lv_topi (fun z476 ez476 => ?_)
                        have fz476 : z476.toInt = z475.toInt + a2.toInt := by rw [ez476]; exact tq_add rfl rfl (by omega)
                        refine lv_iload hx hb dX12_paste_141 (lv_at hl 0 rfl) ?_
                        refine lv_iadd hx hb dX12_paste_143 ?_
                        refine lv_topi (fun z477 ez477 => ?_)
                        have fz477 : z477.toInt = z476.toInt + x407.toInt := by rw [ez477]; exact tq_add rfl rfl (by omega)
                        refine va_lald (D := D) hx hb hK hP 3 1 rfl rfl (tq_in rfl (by omega)) dX12_paste_144 ?_
                        refine lv_topl (fun z478 ez478 => ?_)
                        refine va_last (D := D) hx hb hK hP hD hS 4 1 rfl rfl (tq_in rfl (by omega)) dX12_paste_145 (fun H locs hP hD hS => ?_)
                        obtain ⟨hP, hD⟩ : ct_B D A H [mo qm 0 qm_width qm_many qm_cells qm_moved qm_tape vm_taped vm_at vm_token vm_place vm_value vm_word vm_bad vm_badPlace vm_fault vm_faultPlace qm_lines qm_has qm_round qm_meets qm_stumble qm_isMud qm_cell qm_tune qm_change qm_isKept qm_steps qm_places qm_danced vm_runMost vm_runBegins qm_heardBy vm_fitMany vm_fitFirst vm_fitBeats vm_listenLeaves qm_there vm_metAt vm_metIn qm_wins vm_nightHoles vm_nightFirst vm_nightMud vm_nightSlips vm_drawnNow, (qm_width, .inl (cI, 4, .inl (fm_width))), (qm_many, .inl (cI, 4, .inl (fm_many))), (qm_cells, .inl (cJ, 240, .inr (.inl (fm_cells)))), (qm_moved, .inl (cJ, 60, .inr (.inl (vp_updL g406 x407.toNatClampNeg z478))))] := ⟨hP, hD⟩
                        obtain ⟨z479, ez479⟩ : ∃ z : Int32, z = x407 + 1 := ⟨_, rfl⟩
                        have fz479 : z479.toInt = x407.toInt + 1 := by rw [ez479]; exact tq_add rfl (by decide) (by omega)
                        refine lv_iinc (v := z479) (lv' := [(6, .int z479), (0, .ref qm), (1, .int a1), (2, .int a2), (3, .int a3), (4, .int a4), (5, .int a5)]) hx hb dX12_paste_146 hl (k := 0) rfl ez479.symm (by decide) rfl (fun ls hl => ?_)
                        refine lv_goto (tgt := 118) hx hb dX12_paste_149 (by decide) ?_
                        exact ih408 ((vp_updL g406 x407.toNatClampNeg z478), z479) _ _ _ (show (60 - z479.toInt).toNat < (60 - x407.toInt).toNat by omega) ⟨(show 0 ≤ z479.toInt ∧ z479.toInt ≤ 60 by omega), (show moN (60 * a1.toInt + a2.toInt) z479.toInt fm_cells (vp_updL g406 x407.toNatClampNeg z478) by exact moN_step he0 (by omega) (by omega) ez478 (by omega) (by omega)), ⟨hP, hD⟩, hS, lv_sub hl [0, 1, 2, 3, 4, 5, 6] rfl⟩
                    · have hq51 : z50.toInt < z48.toInt := tl_nle rfl rfl (fun z => hc ((lg_cmp_le _ _).mpr z))
                      refine lv_bipush (v := (-7)) hx hb dX12_paste_112 (by decide) ?_
                      have hk480 : (0 : Int32).toInt = 0 := by decide
                      have hk481 : (-7 : Int32).toInt = (-7) := by decide
                      obtain ⟨hP9, hD9⟩ : ct_B D A H [mo qm 0 qm_width qm_many qm_cells qm_moved qm_tape vm_taped vm_at vm_token vm_place vm_value vm_word vm_bad vm_badPlace vm_fault vm_faultPlace qm_lines qm_has qm_round qm_meets qm_stumble qm_isMud qm_cell qm_tune qm_change qm_isKept qm_steps qm_places qm_danced vm_runMost vm_runBegins qm_heardBy vm_fitMany vm_fitFirst vm_fitBeats vm_listenLeaves qm_there vm_metAt vm_metIn qm_wins vm_nightHoles vm_nightFirst vm_nightMud vm_nightSlips vm_drawnNow, (qm_width, .inl (cI, 4, .inl (fm_width))), (qm_many, .inl (cI, 4, .inl (fm_many))), (qm_cells, .inl (cJ, 240, .inr (.inl (fm_cells)))), (qm_moved, .inl (cJ, 60, .inr (.inl (fm_moved))))] := ⟨hP.sub [0, 1, 2, 3, 4] rfl, hD.sub [0, 1, 2, 3, 4] (by decide) rfl⟩
                      exact W.iret (v := (-7)) hx hb hr (fun t ht hW => ⟨⟨(-7), ((0 : Int32), fm_cells, fm_moved), rfl, ⟨(Or.inr (Or.inr (Or.inr (Or.inl ⟨rfl, (show ((0 ≤ a1.toInt ∧ a1.toInt < 4) ∧ (0 ≤ a3.toInt ∧ a3.toInt < 4) ∧ ((fm_width a1.toNatClampNeg).toInt ≠ -1) ∧ ((fm_width a3.toNatClampNeg).toInt ≠ -1) ∧ (fm_width a1.toNatClampNeg).toInt = (fm_width a3.toNatClampNeg).toInt ∧ ¬ (0 ≤ a2.toInt ∧ 0 ≤ a4.toInt ∧ 0 ≤ a5.toInt ∧ a2.toInt + a5.toInt ≤ (fm_many a1.toNatClampNeg).toInt ∧ a4.toInt + a5.toInt ≤ (fm_many a3.toNatClampNeg).toInt)) by omega)⟩)))), (show ((-7 : Int32) = 0 ∧ paN (60 * a1.toInt + a2.toInt) (60 * a3.toInt + a4.toInt) a5.toInt fm_cells fm_cells) ∨ ((-7 : Int32) ≠ 0 ∧ fm_cells = fm_cells) by exact Or.inr ⟨by decide, rfl⟩)⟩, by rw [ht]; exact hP9, hD9⟩, hS.F ht⟩) hS.2.2 dX12_paste_114
          · have hq16 : z14.toInt ≠ z15.toInt := tq_ne rfl rfl hc
            have hb482 := tq_lo z14
            have hb483 := tq_lo z15
            refine lv_bipush (v := (-8)) hx hb dX12_paste_60 (by decide) ?_
            have hk484 : (0 : Int32).toInt = 0 := by decide
            have hk485 : (-8 : Int32).toInt = (-8) := by decide
            obtain ⟨hP9, hD9⟩ : ct_B D A H [mo qm 0 qm_width qm_many qm_cells qm_moved qm_tape vm_taped vm_at vm_token vm_place vm_value vm_word vm_bad vm_badPlace vm_fault vm_faultPlace qm_lines qm_has qm_round qm_meets qm_stumble qm_isMud qm_cell qm_tune qm_change qm_isKept qm_steps qm_places qm_danced vm_runMost vm_runBegins qm_heardBy vm_fitMany vm_fitFirst vm_fitBeats vm_listenLeaves qm_there vm_metAt vm_metIn qm_wins vm_nightHoles vm_nightFirst vm_nightMud vm_nightSlips vm_drawnNow, (qm_width, .inl (cI, 4, .inl (fm_width))), (qm_many, .inl (cI, 4, .inl (fm_many))), (qm_cells, .inl (cJ, 240, .inr (.inl (fm_cells)))), (qm_moved, .inl (cJ, 60, .inr (.inl (fm_moved))))] := ⟨hP.sub [0, 1, 2, 3, 4] rfl, hD.sub [0, 1, 2, 3, 4] (by decide) rfl⟩
            exact W.iret (v := (-8)) hx hb hr (fun t ht hW => ⟨⟨(-8), ((0 : Int32), fm_cells, fm_moved), rfl, ⟨(Or.inr (Or.inr (Or.inl ⟨rfl, (show ((0 ≤ a1.toInt ∧ a1.toInt < 4) ∧ (0 ≤ a3.toInt ∧ a3.toInt < 4) ∧ ((fm_width a1.toNatClampNeg).toInt ≠ -1) ∧ ((fm_width a3.toNatClampNeg).toInt ≠ -1) ∧ (fm_width a1.toNatClampNeg).toInt ≠ (fm_width a3.toNatClampNeg).toInt) by omega)⟩))), (show ((-8 : Int32) = 0 ∧ paN (60 * a1.toInt + a2.toInt) (60 * a3.toInt + a4.toInt) a5.toInt fm_cells fm_cells) ∨ ((-8 : Int32) ≠ 0 ∧ fm_cells = fm_cells) by exact Or.inr ⟨by decide, rfl⟩)⟩, by rw [ht]; exact hP9, hD9⟩, hS.F ht⟩) hS.2.2 dX12_paste_62
        · have hq12 : z11.toInt = (-1) := tq_eq rfl (by decide) hc
          have hb486 := tq_lo z11
          refine lv_bipush (v := (-6)) hx hb dX12_paste_42 (by decide) ?_
          have hk487 : (0 : Int32).toInt = 0 := by decide
          have hk488 : (-6 : Int32).toInt = (-6) := by decide
          obtain ⟨hP9, hD9⟩ : ct_B D A H [mo qm 0 qm_width qm_many qm_cells qm_moved qm_tape vm_taped vm_at vm_token vm_place vm_value vm_word vm_bad vm_badPlace vm_fault vm_faultPlace qm_lines qm_has qm_round qm_meets qm_stumble qm_isMud qm_cell qm_tune qm_change qm_isKept qm_steps qm_places qm_danced vm_runMost vm_runBegins qm_heardBy vm_fitMany vm_fitFirst vm_fitBeats vm_listenLeaves qm_there vm_metAt vm_metIn qm_wins vm_nightHoles vm_nightFirst vm_nightMud vm_nightSlips vm_drawnNow, (qm_width, .inl (cI, 4, .inl (fm_width))), (qm_many, .inl (cI, 4, .inl (fm_many))), (qm_cells, .inl (cJ, 240, .inr (.inl (fm_cells)))), (qm_moved, .inl (cJ, 60, .inr (.inl (fm_moved))))] := ⟨hP.sub [0, 1, 2, 3, 4] rfl, hD.sub [0, 1, 2, 3, 4] (by decide) rfl⟩
          exact W.iret (v := (-6)) hx hb hr (fun t ht hW => ⟨⟨(-6), ((0 : Int32), fm_cells, fm_moved), rfl, ⟨(Or.inr (Or.inl ⟨rfl, (show ((0 ≤ a1.toInt ∧ a1.toInt < 4) ∧ (0 ≤ a3.toInt ∧ a3.toInt < 4) ∧ ¬ (((fm_width a1.toNatClampNeg).toInt ≠ -1) ∧ ((fm_width a3.toNatClampNeg).toInt ≠ -1))) by omega)⟩)), (show ((-6 : Int32) = 0 ∧ paN (60 * a1.toInt + a2.toInt) (60 * a3.toInt + a4.toInt) a5.toInt fm_cells fm_cells) ∨ ((-6 : Int32) ≠ 0 ∧ fm_cells = fm_cells) by exact Or.inr ⟨by decide, rfl⟩)⟩, by rw [ht]; exact hP9, hD9⟩, hS.F ht⟩) hS.2.2 dX12_paste_44
    · subst hz
      have hz_489 : ¬ (0 ≤ a3.toInt ∧ a3.toInt < 4) := hz2
      refine lv_if_ne (tgt := 22) hx hb dX12_paste_16 (by decide) (fun hc => absurd hc (by decide)) (fun _ => ?_)
      refine lv_bipush (v := (-2)) hx hb dX12_paste_19 (by decide) ?_
      have hk490 : (0 : Int32).toInt = 0 := by decide
      have hk491 : (-2 : Int32).toInt = (-2) := by decide
      obtain ⟨hP9, hD9⟩ : ct_B D A H [mo qm 0 qm_width qm_many qm_cells qm_moved qm_tape vm_taped vm_at vm_token vm_place vm_value vm_word vm_bad vm_badPlace vm_fault vm_faultPlace qm_lines qm_has qm_round qm_meets qm_stumble qm_isMud qm_cell qm_tune qm_change qm_isKept qm_steps qm_places qm_danced vm_runMost vm_runBegins qm_heardBy vm_fitMany vm_fitFirst vm_fitBeats vm_listenLeaves qm_there vm_metAt vm_metIn qm_wins vm_nightHoles vm_nightFirst vm_nightMud vm_nightSlips vm_drawnNow, (qm_width, .inl (cI, 4, .inl (fm_width))), (qm_many, .inl (cI, 4, .inl (fm_many))), (qm_cells, .inl (cJ, 240, .inr (.inl (fm_cells)))), (qm_moved, .inl (cJ, 60, .inr (.inl (fm_moved))))] := ⟨hP.sub [0, 1, 2, 3, 4] rfl, hD.sub [0, 1, 2, 3, 4] (by decide) rfl⟩
      exact W.iret (v := (-2)) hx hb hr (fun t ht hW => ⟨⟨(-2), ((0 : Int32), fm_cells, fm_moved), rfl, ⟨(Or.inl ⟨rfl, (show ¬ ((0 ≤ a1.toInt ∧ a1.toInt < 4) ∧ (0 ≤ a3.toInt ∧ a3.toInt < 4)) by omega)⟩), (show ((-2 : Int32) = 0 ∧ paN (60 * a1.toInt + a2.toInt) (60 * a3.toInt + a4.toInt) a5.toInt fm_cells fm_cells) ∨ ((-2 : Int32) ≠ 0 ∧ fm_cells = fm_cells) by exact Or.inr ⟨by decide, rfl⟩)⟩, by rw [ht]; exact hP9, hD9⟩, hS.F ht⟩) hS.2.2 dX12_paste_21
  · subst hz
    have hz_492 : ¬ (0 ≤ a1.toInt ∧ a1.toInt < 4) := hz2
    refine lv_if_eq (tgt := 19) hx hb dX12_paste_9 (by decide) (fun _ => ?_) (fun hc => absurd hc (by decide))
    refine lv_bipush (v := (-2)) hx hb dX12_paste_19 (by decide) ?_
    have hk493 : (0 : Int32).toInt = 0 := by decide
    have hk494 : (-2 : Int32).toInt = (-2) := by decide
    obtain ⟨hP9, hD9⟩ : ct_B D A H [mo qm 0 qm_width qm_many qm_cells qm_moved qm_tape vm_taped vm_at vm_token vm_place vm_value vm_word vm_bad vm_badPlace vm_fault vm_faultPlace qm_lines qm_has qm_round qm_meets qm_stumble qm_isMud qm_cell qm_tune qm_change qm_isKept qm_steps qm_places qm_danced vm_runMost vm_runBegins qm_heardBy vm_fitMany vm_fitFirst vm_fitBeats vm_listenLeaves qm_there vm_metAt vm_metIn qm_wins vm_nightHoles vm_nightFirst vm_nightMud vm_nightSlips vm_drawnNow, (qm_width, .inl (cI, 4, .inl (fm_width))), (qm_many, .inl (cI, 4, .inl (fm_many))), (qm_cells, .inl (cJ, 240, .inr (.inl (fm_cells)))), (qm_moved, .inl (cJ, 60, .inr (.inl (fm_moved))))] := ⟨hP.sub [0, 1, 2, 3, 4] rfl, hD.sub [0, 1, 2, 3, 4] (by decide) rfl⟩
    exact W.iret (v := (-2)) hx hb hr (fun t ht hW => ⟨⟨(-2), ((0 : Int32), fm_cells, fm_moved), rfl, ⟨(Or.inl ⟨rfl, (show ¬ ((0 ≤ a1.toInt ∧ a1.toInt < 4) ∧ (0 ≤ a3.toInt ∧ a3.toInt < 4)) by omega)⟩), (show ((-2 : Int32) = 0 ∧ paN (60 * a1.toInt + a2.toInt) (60 * a3.toInt + a4.toInt) a5.toInt fm_cells fm_cells) ∨ ((-2 : Int32) ≠ 0 ∧ fm_cells = fm_cells) by exact Or.inr ⟨by decide, rfl⟩)⟩, by rw [ht]; exact hP9, hD9⟩, hS.F ht⟩) hS.2.2 dX12_paste_21
abbrev w_c_X12_four (cI cJ cB cZ cO : ClassId) (qm : Nat) (vm_thrown : Int32) (qm_width : Nat) (qm_many : Nat) (qm_cells : Nat) (qm_moved : Nat) (qm_tape : Nat) (fm_tape : Nat → Int32) (vm_taped : Int32) (vm_at : Int32) (vm_token : Int32) (vm_place : Int32) (vm_value : Int32) (vm_word : Int64) (vm_bad : Int32) (vm_badPlace : Int32) (vm_fault : Int32) (vm_faultPlace : Int32) (qm_lines : Nat) (qm_has : Nat) (qm_round : Nat) (qm_meets : Nat) (qm_stumble : Nat) (qm_isMud : Nat) (qm_cell : Nat) (qm_tune : Nat) (qm_change : Nat) (qm_isKept : Nat) (qm_steps : Nat) (qm_places : Nat) (qm_danced : Nat) (vm_runMost : Int32) (vm_runBegins : Int32) (qm_heardBy : Nat) (vm_fitMany : Int32) (vm_fitFirst : Int32) (vm_fitBeats : Int64) (vm_listenLeaves : Int32) (qm_there : Nat) (vm_metAt : Int32) (vm_metIn : Int32) (qm_wins : Nat) (vm_nightHoles : Int32) (vm_nightFirst : Int32) (vm_nightMud : Int32) (vm_nightSlips : Int32) (vm_drawnNow : Int64) : va_W := [mo qm vm_thrown qm_width qm_many qm_cells qm_moved qm_tape vm_taped vm_at vm_token vm_place vm_value vm_word vm_bad vm_badPlace vm_fault vm_faultPlace qm_lines qm_has qm_round qm_meets qm_stumble qm_isMud qm_cell qm_tune qm_change qm_isKept qm_steps qm_places qm_danced vm_runMost vm_runBegins qm_heardBy vm_fitMany vm_fitFirst vm_fitBeats vm_listenLeaves qm_there vm_metAt vm_metIn qm_wins vm_nightHoles vm_nightFirst vm_nightMud vm_nightSlips vm_drawnNow, (qm_tape, .inl (cB, 1200, .inl (fm_tape)))]
set_option maxHeartbeats 4000000 in
set_option maxRecDepth 100000 in
/-- X12 four -/
theorem c_X12_four (l : Launch) (D : va_G) (G : ct_G) (cI cJ cB cZ cO : ClassId) (qm : Nat) (vm_thrown : Int32) (qm_width : Nat) (qm_many : Nat) (qm_cells : Nat) (qm_moved : Nat) (qm_tape : Nat) (fm_tape : Nat → Int32) (vm_taped : Int32) (vm_at : Int32) (vm_token : Int32) (vm_place : Int32) (vm_value : Int32) (vm_word : Int64) (vm_bad : Int32) (vm_badPlace : Int32) (vm_fault : Int32) (vm_faultPlace : Int32) (qm_lines : Nat) (qm_has : Nat) (qm_round : Nat) (qm_meets : Nat) (qm_stumble : Nat) (qm_isMud : Nat) (qm_cell : Nat) (qm_tune : Nat) (qm_change : Nat) (qm_isKept : Nat) (qm_steps : Nat) (qm_places : Nat) (qm_danced : Nat) (vm_runMost : Int32) (vm_runBegins : Int32) (qm_heardBy : Nat) (vm_fitMany : Int32) (vm_fitFirst : Int32) (vm_fitBeats : Int64) (vm_listenLeaves : Int32) (qm_there : Nat) (vm_metAt : Int32) (vm_metIn : Int32) (qm_wins : Nat) (vm_nightHoles : Int32) (vm_nightFirst : Int32) (vm_nightMud : Int32) (vm_nightSlips : Int32) (vm_drawnNow : Int64) (a1 : Int32) (h_vm_taped : 0 ≤ vm_taped.toInt ∧ vm_taped.toInt ≤ 1200) (h_vm_at : 0 ≤ vm_at.toInt ∧ vm_at.toInt ≤ 1200) (h_vm_value : 0 ≤ vm_value.toInt ∧ vm_value.toInt ≤ 1000009) (h_tp : vm_taped.toInt ≤ 1196) (sz : Nat) : Met l yX12_four wsX12_four ({ frames := 0, cells := 0, slots := 0, locals := 0 }) (va_Pc [.ref qm, .int a1] (ct_P D (ct_T cI cJ cB cZ cO) G (w_c_X12_four cI cJ cB cZ cO qm vm_thrown qm_width qm_many qm_cells qm_moved qm_tape fm_tape vm_taped vm_at vm_token vm_place vm_value vm_word vm_bad vm_badPlace vm_fault vm_faultPlace qm_lines qm_has qm_round qm_meets qm_stumble qm_isMud qm_cell qm_tune qm_change qm_isKept qm_steps qm_places qm_danced vm_runMost vm_runBegins qm_heardBy vm_fitMany vm_fitFirst vm_fitBeats vm_listenLeaves qm_there vm_metAt vm_metIn qm_wins vm_nightHoles vm_nightFirst vm_nightMud vm_nightSlips vm_drawnNow) sz)) (va_Qv (fun (u : Int32 × (Nat → Int32)) => (0 ≤ u.1.toInt ∧ u.1.toInt ≤ 1200) ∧ (u.1.toInt = vm_taped.toInt + 4)) (fun (u : Int32 × (Nat → Int32)) t => ct_Q D (va_A (w_c_X12_four cI cJ cB cZ cO qm vm_thrown qm_width qm_many qm_cells qm_moved qm_tape fm_tape vm_taped vm_at vm_token vm_place vm_value vm_word vm_bad vm_badPlace vm_fault vm_faultPlace qm_lines qm_has qm_round qm_meets qm_stumble qm_isMud qm_cell qm_tune qm_change qm_isKept qm_steps qm_places qm_danced vm_runMost vm_runBegins qm_heardBy vm_fitMany vm_fitFirst vm_fitBeats vm_listenLeaves qm_there vm_metAt vm_metIn qm_wins vm_nightHoles vm_nightFirst vm_nightMud vm_nightSlips vm_drawnNow) sz) [mo qm vm_thrown qm_width qm_many qm_cells qm_moved qm_tape u.1 vm_at vm_token vm_place vm_value vm_word vm_bad vm_badPlace vm_fault vm_faultPlace qm_lines qm_has qm_round qm_meets qm_stumble qm_isMud qm_cell qm_tune qm_change qm_isKept qm_steps qm_places qm_danced vm_runMost vm_runBegins qm_heardBy vm_fitMany vm_fitFirst vm_fitBeats vm_listenLeaves qm_there vm_metAt vm_metIn qm_wins vm_nightHoles vm_nightFirst vm_nightMud vm_nightSlips vm_drawnNow, (qm_tape, .inl (cB, 1200, .inl (u.2)))] t) (va_A (w_c_X12_four cI cJ cB cZ cO qm vm_thrown qm_width qm_many qm_cells qm_moved qm_tape fm_tape vm_taped vm_at vm_token vm_place vm_value vm_word vm_bad vm_badPlace vm_fault vm_faultPlace qm_lines qm_has qm_round qm_meets qm_stumble qm_isMud qm_cell qm_tune qm_change qm_isKept qm_steps qm_places qm_danced vm_runMost vm_runBegins qm_heardBy vm_fitMany vm_fitFirst vm_fitBeats vm_listenLeaves qm_there vm_metAt vm_metIn qm_wins vm_nightHoles vm_nightFirst vm_nightMud vm_nightSlips vm_drawnNow) sz)) 0 0 (va_A (w_c_X12_four cI cJ cB cZ cO qm vm_thrown qm_width qm_many qm_cells qm_moved qm_tape fm_tape vm_taped vm_at vm_token vm_place vm_value vm_word vm_bad vm_badPlace vm_fault vm_faultPlace qm_lines qm_has qm_round qm_meets qm_stumble qm_isMud qm_cell qm_tune qm_change qm_isKept qm_steps qm_places qm_danced vm_runMost vm_runBegins qm_heardBy vm_fitMany vm_fitFirst vm_fitBeats vm_listenLeaves qm_there vm_metAt vm_metIn qm_wins vm_nightHoles vm_nightFirst vm_nightMud vm_nightSlips vm_drawnNow) sz) := by
  refine Met.ofW (cc := cX12_four) (maxL := 3) (ret := none) (by decide) rfl ?_
  intro p e s m args below meth c s₁ B hml hv
  obtain ⟨rfl, hsz, hP, hE, hD0, hH⟩ := hv
  have hx := B.exec
  have hb := B.bytes
  have hr := B.returns
  have hts := atoms_spec (ws := wsX12_four) B.pre
  have hown : s.vm.findClass RX12 = some m.cls := findClass_of_methodNamed B.named
  have hlocks := B.notSynchronized
  have hK := hE.1
  have hi12 : ∀ w ∈ u_ws RX12 TX12 45, w ∈ wsX12_four := fun w h => List.mem_cons_of_mem _ (List.mem_append_right _ h)
  subst hsz
  have hD := hD0.self (sz := s.heap.size)
  generalize hAe : va_A (w_c_X12_four cI cJ cB cZ cO qm vm_thrown qm_width qm_many qm_cells qm_moved qm_tape fm_tape vm_taped vm_at vm_token vm_place vm_value vm_word vm_bad vm_badPlace vm_fault vm_faultPlace qm_lines qm_has qm_round qm_meets qm_stumble qm_isMud qm_cell qm_tune qm_change qm_isKept qm_steps qm_places qm_danced vm_runMost vm_runBegins qm_heardBy vm_fitMany vm_fitFirst vm_fitBeats vm_listenLeaves qm_there vm_metAt vm_metIn qm_wins vm_nightHoles vm_nightFirst vm_nightMud vm_nightSlips vm_drawnNow) s.heap.size = A at hD hH ⊢
  have hA : ∀ q : Nat, s.heap.size ≤ q → A q := fun q h => by rw [← hAe]; exact Or.inr h
  have hS : va_S A s.heap s.heap [] := va_S.rf
  obtain ⟨hP, hD⟩ : ct_B D A s.heap [mo qm vm_thrown qm_width qm_many qm_cells qm_moved qm_tape vm_taped vm_at vm_token vm_place vm_value vm_word vm_bad vm_badPlace vm_fault vm_faultPlace qm_lines qm_has qm_round qm_meets qm_stumble qm_isMud qm_cell qm_tune qm_change qm_isKept qm_steps qm_places qm_danced vm_runMost vm_runBegins qm_heardBy vm_fitMany vm_fitFirst vm_fitBeats vm_listenLeaves qm_there vm_metAt vm_metIn qm_wins vm_nightHoles vm_nightFirst vm_nightMud vm_nightSlips vm_drawnNow, (qm_tape, .inl (cB, 1200, .inl (fm_tape)))] := ⟨hP, hD⟩
  have hl := lv_entry ([.ref qm, .int a1]) (n := 3) (Nat.le_of_ble_eq_true rfl)
  rw [lg_entry_eq]
  generalize (lg_sl ([.ref qm, .int a1]) ++ List.replicate (3 - (lg_sl ([.ref qm, .int a1])).length) Slot.unset).toArray = ls at hl ⊢
  have hl : lv_has ls 3 [(0, .ref qm), (1, .int a1)] := hl
  obtain ⟨H, hHe⟩ : ∃ H : Heap, H = s.heap := ⟨_, rfl⟩
  rw [← hHe] at hP
  have hS : va_S A s.heap H [] := by rw [hHe]; exact va_S.rf
  refine ct_start hHe ?_
  refine lv_bipush (v := 24) hx hb dX12_four_0 (by decide) ?_
  refine lv_istore_n (lv' := [(2, .int 24), (0, .ref qm), (1, .int a1)]) hx hb dX12_four_2 rfl hl (by decide) rfl (fun ls hl => ?_)
  refine ct_loop (X := (Nat → Int32) × Int32 × Int32) (fun x => (x.2.2.toInt + 9).toNat) (fun x H locs ls => ((0 ≤ x.2.1.toInt ∧ x.2.1.toInt ≤ 1200)) ∧ (((-8) ≤ x.2.2.toInt ∧ x.2.2.toInt ≤ 24)) ∧ (8 * x.2.1.toInt + x.2.2.toInt = 8 * vm_taped.toInt + 24) ∧ ct_B D A H [mo qm vm_thrown qm_width qm_many qm_cells qm_moved qm_tape x.2.1 vm_at vm_token vm_place vm_value vm_word vm_bad vm_badPlace vm_fault vm_faultPlace qm_lines qm_has qm_round qm_meets qm_stumble qm_isMud qm_cell qm_tune qm_change qm_isKept qm_steps qm_places qm_danced vm_runMost vm_runBegins qm_heardBy vm_fitMany vm_fitFirst vm_fitBeats vm_listenLeaves qm_there vm_metAt vm_metIn qm_wins vm_nightHoles vm_nightFirst vm_nightMud vm_nightSlips vm_drawnNow, (qm_tape, .inl (cB, 1200, .inl (x.1)))] ∧ va_S A s.heap H locs ∧ lv_has ls 3 [(2, .int x.2.2), (0, .ref qm), (1, .int a1)]) 3 (fm_tape, vm_taped, (24 : Int32)) ⟨(show 0 ≤ vm_taped.toInt ∧ vm_taped.toInt ≤ 1200 by omega), (show (-8) ≤ (24 : Int32).toInt ∧ (24 : Int32).toInt ≤ 24 by decide), (show 8 * vm_taped.toInt + (24 : Int32).toInt = 8 * vm_taped.toInt + 24 by have h24 : (24 : Int32).toInt = 24 := (by decide); omega), ⟨hP, hD⟩, hS, lv_sub hl [0, 1, 2] rfl⟩ (fun x ih64 H locs ls hI => ?_)
  obtain ⟨g61, x62, x63⟩ := x
  obtain ⟨h_x62, h_x63, he0, ⟨hP, hD⟩, hS, hl⟩ := hI
  have h_x62 : (0 ≤ x62.toInt ∧ x62.toInt ≤ 1200) := h_x62
  have h_x63 : ((-8) ≤ x63.toInt ∧ x63.toInt ≤ 24) := h_x63
  have he0 : 8 * x62.toInt + x63.toInt = 8 * vm_taped.toInt + 24 := he0
  obtain ⟨hP, hD⟩ : ct_B D A H [mo qm vm_thrown qm_width qm_many qm_cells qm_moved qm_tape x62 vm_at vm_token vm_place vm_value vm_word vm_bad vm_badPlace vm_fault vm_faultPlace qm_lines qm_has qm_round qm_meets qm_stumble qm_isMud qm_cell qm_tune qm_change qm_isKept qm_steps qm_places qm_danced vm_runMost vm_runBegins qm_heardBy vm_fitMany vm_fitFirst vm_fitBeats vm_listenLeaves qm_there vm_metAt vm_metIn qm_wins vm_nightHoles vm_nightFirst vm_nightMud vm_nightSlips vm_drawnNow, (qm_tape, .inl (cB, 1200, .inl (g61)))] := ⟨hP, hD⟩
  have hl : lv_has ls 3 [(2, .int x63), (0, .ref qm), (1, .int a1)] := hl
  refine lv_iload_n hx hb dX12_four_3 rfl (lv_at hl 0 rfl) ?_
  refine lv_if_lt (tgt := 36) hx hb dX12_four_4 (by decide) (fun hc => ?_) (fun hc => ?_)
  · have hq65 : x63.toInt < 0 := tq_lt rfl (by decide) hc
    obtain ⟨hP9, hD9⟩ : ct_B D A H [mo qm vm_thrown qm_width qm_many qm_cells qm_moved qm_tape x62 vm_at vm_token vm_place vm_value vm_word vm_bad vm_badPlace vm_fault vm_faultPlace qm_lines qm_has qm_round qm_meets qm_stumble qm_isMud qm_cell qm_tune qm_change qm_isKept qm_steps qm_places qm_danced vm_runMost vm_runBegins qm_heardBy vm_fitMany vm_fitFirst vm_fitBeats vm_listenLeaves qm_there vm_metAt vm_metIn qm_wins vm_nightHoles vm_nightFirst vm_nightMud vm_nightSlips vm_drawnNow, (qm_tape, .inl (cB, 1200, .inl (g61)))] := ⟨hP.sub [0, 1] rfl, hD.sub [0, 1] (by decide) rfl⟩
    exact W.vret hx hb hr (fun t ht hW => ⟨⟨(x62, g61), rfl, ⟨h_x62, (show x62.toInt = vm_taped.toInt + 4 by omega)⟩, by rw [ht]; exact hP9, hD9⟩, hS.F ht⟩) hS.2.2 dX12_four_36
  · have hq65 : 0 ≤ x63.toInt := tq_nlt rfl (by decide) hc
    refine lv_aload_n hx hb dX12_four_7 rfl (lv_at hl 1 rfl) ?_
    refine va_get (D := D) (ci := 12) (v := .ref qm_tape) (C := RX12) (T := TX12) (N := 45) hx hb hts hi12 hown hK hP 0 rfl rfl 5 (by decide) (hts (.fieldLink RX12 23 "OverHillModel" "tape" "[B") (by decide +kernel)) (fun _ h9 => h9) rfl dX12_four_8 ?_
    refine lv_aload_n hx hb dX12_four_11 rfl (lv_at hl 1 rfl) ?_
    refine va_get (D := D) (ci := 12) (v := .int x62) (C := RX12) (T := TX12) (N := 45) hx hb hts hi12 hown hK hP 0 rfl rfl 6 (by decide) (hts (.fieldLink RX12 97 "OverHillModel" "taped" "I") (by decide +kernel)) (fun _ h9 => h9) rfl dX12_four_12 ?_
    refine lv_iload_n hx hb dX12_four_15 rfl (lv_at hl 2 rfl) ?_
    refine lv_iload_n hx hb dX12_four_16 rfl (lv_at hl 0 rfl) ?_
    refine lv_ishr hx hb dX12_four_17 ?_
    refine lv_topi (fun z66 ez66 => ?_)
    refine lv_i2b (v := _) hx hb dX12_four_18 rfl ?_
    refine lv_topi (fun z67 ez67 => ?_)
    refine va_bast (D := D) hx hb hK hP hD hS 1 2 rfl rfl (tq_in rfl (by omega)) dX12_four_19 (fun H locs hP hD hS => ?_)
    obtain ⟨g68, hP, hD⟩ : ∃ g68 : Nat → Int32, ct_B D A H [mo qm vm_thrown qm_width qm_many qm_cells qm_moved qm_tape x62 vm_at vm_token vm_place vm_value vm_word vm_bad vm_badPlace vm_fault vm_faultPlace qm_lines qm_has qm_round qm_meets qm_stumble qm_isMud qm_cell qm_tune qm_change qm_isKept qm_steps qm_places qm_danced vm_runMost vm_runBegins qm_heardBy vm_fitMany vm_fitFirst vm_fitBeats vm_listenLeaves qm_there vm_metAt vm_metIn qm_wins vm_nightHoles vm_nightFirst vm_nightMud vm_nightSlips vm_drawnNow, (qm_tape, .inl (cB, 1200, .inl (g68)))] := ⟨_, hP, hD⟩
    refine lv_aload_n hx hb dX12_four_20 rfl (lv_at hl 1 rfl) ?_
    refine lv_dup hx hb dX12_four_21 rfl ?_
    refine va_get (D := D) (ci := 12) (v := .int x62) (C := RX12) (T := TX12) (N := 45) hx hb hts hi12 hown hK hP 0 rfl rfl 6 (by decide) (hts (.fieldLink RX12 97 "OverHillModel" "taped" "I") (by decide +kernel)) (fun _ h9 => h9) rfl dX12_four_22 ?_
    refine lv_iconst (v := 1) hx hb dX12_four_25 (by decide) ?_
    refine lv_iadd hx hb dX12_four_26 ?_
    refine lv_topi (fun z69 ez69 => ?_)
    have fz69 : z69.toInt = x62.toInt + 1 := by rw [ez69]; exact tq_add rfl (by decide) (by omega)
    refine va_put (D := D) (ci := 12) (v := .int z69) (ty := .int) (C := RX12) (T := TX12) (N := 45) hx hb hts hi12 tyX12 tyX12_ok nmX12 hown hK hP hD hS 0 rfl rfl 6 (by decide) (hts (.fieldLink RX12 97 "OverHillModel" "taped" "I") (by decide +kernel)) (fun _ h9 => h9) rfl (by decide +kernel) rfl rfl (Nat.le_of_ble_eq_true rfl) dX12_four_27 (fun H locs hP hD hS => ?_)
    obtain ⟨hP, hD⟩ : ct_B D A H [mo qm vm_thrown qm_width qm_many qm_cells qm_moved qm_tape z69 vm_at vm_token vm_place vm_value vm_word vm_bad vm_badPlace vm_fault vm_faultPlace qm_lines qm_has qm_round qm_meets qm_stumble qm_isMud qm_cell qm_tune qm_change qm_isKept qm_steps qm_places qm_danced vm_runMost vm_runBegins qm_heardBy vm_fitMany vm_fitFirst vm_fitBeats vm_listenLeaves qm_there vm_metAt vm_metIn qm_wins vm_nightHoles vm_nightFirst vm_nightMud vm_nightSlips vm_drawnNow, (qm_tape, .inl (cB, 1200, .inl (g68)))] := ⟨hP, hD⟩
    obtain ⟨z70, ez70⟩ : ∃ z : Int32, z = x63 + (-8) := ⟨_, rfl⟩
    have fz70 : z70.toInt = x63.toInt + (-8) := by rw [ez70]; exact tq_add rfl (by decide) (by omega)
    refine lv_iinc (v := z70) (lv' := [(2, .int z70), (0, .ref qm), (1, .int a1)]) hx hb dX12_four_30 hl (k := 0) rfl ez70.symm (by decide) rfl (fun ls hl => ?_)
    refine lv_goto (tgt := 3) hx hb dX12_four_33 (by decide) ?_
    exact ih64 (g68, z69, z70) _ _ _ (show (z70.toInt + 9).toNat < (x63.toInt + 9).toNat by omega) ⟨(show 0 ≤ z69.toInt ∧ z69.toInt ≤ 1200 by omega), (show (-8) ≤ z70.toInt ∧ z70.toInt ≤ 24 by omega), (show 8 * z69.toInt + z70.toInt = 8 * vm_taped.toInt + 24 by omega), ⟨hP, hD⟩, hS, lv_sub hl [0, 1, 2] rfl⟩
abbrev w_c_X12_feed (cI cJ cB cZ cO : ClassId) (qm : Nat) (vm_thrown : Int32) (qm_width : Nat) (qm_many : Nat) (qm_cells : Nat) (qm_moved : Nat) (qm_tape : Nat) (fm_tape : Nat → Int32) (vm_taped : Int32) (vm_at : Int32) (vm_token : Int32) (vm_place : Int32) (vm_value : Int32) (vm_word : Int64) (vm_bad : Int32) (vm_badPlace : Int32) (vm_fault : Int32) (vm_faultPlace : Int32) (qm_lines : Nat) (qm_has : Nat) (qm_round : Nat) (qm_meets : Nat) (qm_stumble : Nat) (qm_isMud : Nat) (qm_cell : Nat) (qm_tune : Nat) (qm_change : Nat) (qm_isKept : Nat) (qm_steps : Nat) (qm_places : Nat) (qm_danced : Nat) (vm_runMost : Int32) (vm_runBegins : Int32) (qm_heardBy : Nat) (vm_fitMany : Int32) (vm_fitFirst : Int32) (vm_fitBeats : Int64) (vm_listenLeaves : Int32) (qm_there : Nat) (vm_metAt : Int32) (vm_metIn : Int32) (qm_wins : Nat) (vm_nightHoles : Int32) (vm_nightFirst : Int32) (vm_nightMud : Int32) (vm_nightSlips : Int32) (vm_drawnNow : Int64) : va_W := [mo qm vm_thrown qm_width qm_many qm_cells qm_moved qm_tape vm_taped vm_at vm_token vm_place vm_value vm_word vm_bad vm_badPlace vm_fault vm_faultPlace qm_lines qm_has qm_round qm_meets qm_stumble qm_isMud qm_cell qm_tune qm_change qm_isKept qm_steps qm_places qm_danced vm_runMost vm_runBegins qm_heardBy vm_fitMany vm_fitFirst vm_fitBeats vm_listenLeaves qm_there vm_metAt vm_metIn qm_wins vm_nightHoles vm_nightFirst vm_nightMud vm_nightSlips vm_drawnNow, (qm_tape, .inl (cB, 1200, .inl (fm_tape)))]
set_option maxHeartbeats 4000000 in
set_option maxRecDepth 100000 in
/-- X12 feed -/
theorem c_X12_feed (l : Launch) (D : va_G) (G : ct_G) (cI cJ cB cZ cO : ClassId) (qm : Nat) (vm_thrown : Int32) (qm_width : Nat) (qm_many : Nat) (qm_cells : Nat) (qm_moved : Nat) (qm_tape : Nat) (fm_tape : Nat → Int32) (vm_taped : Int32) (vm_at : Int32) (vm_token : Int32) (vm_place : Int32) (vm_value : Int32) (vm_word : Int64) (vm_bad : Int32) (vm_badPlace : Int32) (vm_fault : Int32) (vm_faultPlace : Int32) (qm_lines : Nat) (qm_has : Nat) (qm_round : Nat) (qm_meets : Nat) (qm_stumble : Nat) (qm_isMud : Nat) (qm_cell : Nat) (qm_tune : Nat) (qm_change : Nat) (qm_isKept : Nat) (qm_steps : Nat) (qm_places : Nat) (qm_danced : Nat) (vm_runMost : Int32) (vm_runBegins : Int32) (qm_heardBy : Nat) (vm_fitMany : Int32) (vm_fitFirst : Int32) (vm_fitBeats : Int64) (vm_listenLeaves : Int32) (qm_there : Nat) (vm_metAt : Int32) (vm_metIn : Int32) (qm_wins : Nat) (vm_nightHoles : Int32) (vm_nightFirst : Int32) (vm_nightMud : Int32) (vm_nightSlips : Int32) (vm_drawnNow : Int64) (a1 : Int32) (a2 : Int32) (a3 : Int32) (a4 : Int32) (a5 : Int32) (h_vm_taped : 0 ≤ vm_taped.toInt ∧ vm_taped.toInt ≤ 1200) (h_vm_at : 0 ≤ vm_at.toInt ∧ vm_at.toInt ≤ 1200) (h_vm_value : 0 ≤ vm_value.toInt ∧ vm_value.toInt ≤ 1000009) (sz : Nat) : Met l yX12_feed wsX12_feed ({ frames := 1, cells := 0, slots := 0, locals := 22 }) (va_Pc [.ref qm, .int a1, .int a2, .int a3, .int a4, .int a5] (ct_P D (ct_T cI cJ cB cZ cO) G (w_c_X12_feed cI cJ cB cZ cO qm vm_thrown qm_width qm_many qm_cells qm_moved qm_tape fm_tape vm_taped vm_at vm_token vm_place vm_value vm_word vm_bad vm_badPlace vm_fault vm_faultPlace qm_lines qm_has qm_round qm_meets qm_stumble qm_isMud qm_cell qm_tune qm_change qm_isKept qm_steps qm_places qm_danced vm_runMost vm_runBegins qm_heardBy vm_fitMany vm_fitFirst vm_fitBeats vm_listenLeaves qm_there vm_metAt vm_metIn qm_wins vm_nightHoles vm_nightFirst vm_nightMud vm_nightSlips vm_drawnNow) sz)) (va_Qi (fun (rz : Int32) (u : Int32 × Int32 × (Nat → Int32)) => ((-1) ≤ rz.toInt ∧ rz.toInt ≤ 1200) ∧ (0 ≤ u.2.1.toInt ∧ u.2.1.toInt ≤ 1200)) (fun (u : Int32 × Int32 × (Nat → Int32)) t => ct_Q D (va_A (w_c_X12_feed cI cJ cB cZ cO qm vm_thrown qm_width qm_many qm_cells qm_moved qm_tape fm_tape vm_taped vm_at vm_token vm_place vm_value vm_word vm_bad vm_badPlace vm_fault vm_faultPlace qm_lines qm_has qm_round qm_meets qm_stumble qm_isMud qm_cell qm_tune qm_change qm_isKept qm_steps qm_places qm_danced vm_runMost vm_runBegins qm_heardBy vm_fitMany vm_fitFirst vm_fitBeats vm_listenLeaves qm_there vm_metAt vm_metIn qm_wins vm_nightHoles vm_nightFirst vm_nightMud vm_nightSlips vm_drawnNow) sz) [mo qm u.1 qm_width qm_many qm_cells qm_moved qm_tape u.2.1 vm_at vm_token vm_place vm_value vm_word vm_bad vm_badPlace vm_fault vm_faultPlace qm_lines qm_has qm_round qm_meets qm_stumble qm_isMud qm_cell qm_tune qm_change qm_isKept qm_steps qm_places qm_danced vm_runMost vm_runBegins qm_heardBy vm_fitMany vm_fitFirst vm_fitBeats vm_listenLeaves qm_there vm_metAt vm_metIn qm_wins vm_nightHoles vm_nightFirst vm_nightMud vm_nightSlips vm_drawnNow, (qm_tape, .inl (cB, 1200, .inl (u.2.2)))] t) (va_A (w_c_X12_feed cI cJ cB cZ cO qm vm_thrown qm_width qm_many qm_cells qm_moved qm_tape fm_tape vm_taped vm_at vm_token vm_place vm_value vm_word vm_bad vm_badPlace vm_fault vm_faultPlace qm_lines qm_has qm_round qm_meets qm_stumble qm_isMud qm_cell qm_tune qm_change qm_isKept qm_steps qm_places qm_danced vm_runMost vm_runBegins qm_heardBy vm_fitMany vm_fitFirst vm_fitBeats vm_listenLeaves qm_there vm_metAt vm_metIn qm_wins vm_nightHoles vm_nightFirst vm_nightMud vm_nightSlips vm_drawnNow) sz)) 0 0 (va_A (w_c_X12_feed cI cJ cB cZ cO qm vm_thrown qm_width qm_many qm_cells qm_moved qm_tape fm_tape vm_taped vm_at vm_token vm_place vm_value vm_word vm_bad vm_badPlace vm_fault vm_faultPlace qm_lines qm_has qm_round qm_meets qm_stumble qm_isMud qm_cell qm_tune qm_change qm_isKept qm_steps qm_places qm_danced vm_runMost vm_runBegins qm_heardBy vm_fitMany vm_fitFirst vm_fitBeats vm_listenLeaves qm_there vm_metAt vm_metIn qm_wins vm_nightHoles vm_nightFirst vm_nightMud vm_nightSlips vm_drawnNow) sz) := by
  refine Met.ofW (cc := cX12_feed) (maxL := 6) (ret := (some .int)) (by decide) rfl ?_
  intro p e s m args below meth c s₁ B hml hv
  obtain ⟨rfl, hsz, hP, hE, hD0, hH⟩ := hv
  have hx := B.exec
  have hb := B.bytes
  have hr := B.returns
  have hts := atoms_spec (ws := wsX12_feed) B.pre
  have hown : s.vm.findClass RX12 = some m.cls := findClass_of_methodNamed B.named
  have hlocks := B.notSynchronized
  have hK := hE.1
  have hi12 : ∀ w ∈ u_ws RX12 TX12 45, w ∈ wsX12_feed := fun w h => List.mem_cons_of_mem _ (List.mem_append_right _ h)
  subst hsz
  have hD := hD0.self (sz := s.heap.size)
  generalize hAe : va_A (w_c_X12_feed cI cJ cB cZ cO qm vm_thrown qm_width qm_many qm_cells qm_moved qm_tape fm_tape vm_taped vm_at vm_token vm_place vm_value vm_word vm_bad vm_badPlace vm_fault vm_faultPlace qm_lines qm_has qm_round qm_meets qm_stumble qm_isMud qm_cell qm_tune qm_change qm_isKept qm_steps qm_places qm_danced vm_runMost vm_runBegins qm_heardBy vm_fitMany vm_fitFirst vm_fitBeats vm_listenLeaves qm_there vm_metAt vm_metIn qm_wins vm_nightHoles vm_nightFirst vm_nightMud vm_nightSlips vm_drawnNow) s.heap.size = A at hD hH ⊢
  have hA : ∀ q : Nat, s.heap.size ≤ q → A q := fun q h => by rw [← hAe]; exact Or.inr h
  have hS : va_S A s.heap s.heap [] := va_S.rf
  obtain ⟨hP, hD⟩ : ct_B D A s.heap [mo qm vm_thrown qm_width qm_many qm_cells qm_moved qm_tape vm_taped vm_at vm_token vm_place vm_value vm_word vm_bad vm_badPlace vm_fault vm_faultPlace qm_lines qm_has qm_round qm_meets qm_stumble qm_isMud qm_cell qm_tune qm_change qm_isKept qm_steps qm_places qm_danced vm_runMost vm_runBegins qm_heardBy vm_fitMany vm_fitFirst vm_fitBeats vm_listenLeaves qm_there vm_metAt vm_metIn qm_wins vm_nightHoles vm_nightFirst vm_nightMud vm_nightSlips vm_drawnNow, (qm_tape, .inl (cB, 1200, .inl (fm_tape)))] := ⟨hP, hD⟩
  have hl := lv_entry ([.ref qm, .int a1, .int a2, .int a3, .int a4, .int a5]) (n := 6) (Nat.le_of_ble_eq_true rfl)
  rw [lg_entry_eq]
  generalize (lg_sl ([.ref qm, .int a1, .int a2, .int a3, .int a4, .int a5]) ++ List.replicate (6 - (lg_sl ([.ref qm, .int a1, .int a2, .int a3, .int a4, .int a5])).length) Slot.unset).toArray = ls at hl ⊢
  have hl : lv_has ls 6 [(0, .ref qm), (1, .int a1), (2, .int a2), (3, .int a3), (4, .int a4), (5, .int a5)] := hl
  obtain ⟨H, hHe⟩ : ∃ H : Heap, H = s.heap := ⟨_, rfl⟩
  rw [← hHe] at hP
  have hS : va_S A s.heap H [] := by rw [hHe]; exact va_S.rf
  refine ct_start hHe ?_
  refine lv_aload_n hx hb dX12_feed_0 rfl (lv_at hl 0 rfl) ?_
  refine lv_iconst (v := 0) hx hb dX12_feed_1 (by decide) ?_
  refine va_put (D := D) (ci := 12) (v := .int 0) (ty := .int) (C := RX12) (T := TX12) (N := 45) hx hb hts hi12 tyX12 tyX12_ok nmX12 hown hK hP hD hS 0 rfl rfl 0 (by decide) (hts (.fieldLink RX12 80 "OverHillModel" "thrown" "I") (by decide +kernel)) (fun _ h9 => h9) rfl (by decide +kernel) rfl rfl (Nat.le_of_ble_eq_true rfl) dX12_feed_2 (fun H locs hP hD hS => ?_)
  obtain ⟨hP, hD⟩ : ct_B D A H [mo qm 0 qm_width qm_many qm_cells qm_moved qm_tape vm_taped vm_at vm_token vm_place vm_value vm_word vm_bad vm_badPlace vm_fault vm_faultPlace qm_lines qm_has qm_round qm_meets qm_stumble qm_isMud qm_cell qm_tune qm_change qm_isKept qm_steps qm_places qm_danced vm_runMost vm_runBegins qm_heardBy vm_fitMany vm_fitFirst vm_fitBeats vm_listenLeaves qm_there vm_metAt vm_metIn qm_wins vm_nightHoles vm_nightFirst vm_nightMud vm_nightSlips vm_drawnNow, (qm_tape, .inl (cB, 1200, .inl (fm_tape)))] := ⟨hP, hD⟩
  refine lv_aload_n hx hb dX12_feed_5 rfl (lv_at hl 0 rfl) ?_
  refine va_get (D := D) (ci := 12) (v := .int vm_taped) (C := RX12) (T := TX12) (N := 45) hx hb hts hi12 hown hK hP 0 rfl rfl 6 (by decide) (hts (.fieldLink RX12 97 "OverHillModel" "taped" "I") (by decide +kernel)) (fun _ h9 => h9) rfl dX12_feed_6 ?_
  refine lv_bipush (v := 20) hx hb dX12_feed_9 (by decide) ?_
  refine lv_iadd hx hb dX12_feed_11 ?_
  refine lv_topi (fun z1 ez1 => ?_)
  have fz1 : z1.toInt = vm_taped.toInt + 20 := by rw [ez1]; exact tq_add rfl (by decide) (by omega)
  refine lv_sipush (v := 1200) hx hb dX12_feed_12 (by decide) ?_
  refine lv_icmp_le (tgt := 20) hx hb dX12_feed_15 (by decide) (fun hc => ?_) (fun hc => ?_)
  · have hq2 : z1.toInt ≤ 1200 := tq_le rfl (by decide) hc
    refine lv_aload_n hx hb dX12_feed_20 rfl (lv_at hl 0 rfl) ?_
    refine lv_iload_n hx hb dX12_feed_21 rfl (lv_at hl 1 rfl) ?_
    refine ct_callv (D := D) (wr := []) (va_runV (As := [.int a1]) (rest := []) ⟨hx, hb, hml, hown, hts⟩ (c_X12_four l D G cI cJ cB cZ cO qm 0 qm_width qm_many qm_cells qm_moved qm_tape fm_tape vm_taped vm_at vm_token vm_place vm_value vm_word vm_bad vm_badPlace vm_fault vm_faultPlace qm_lines qm_has qm_round qm_meets qm_stumble qm_isMud qm_cell qm_tune qm_change qm_isKept qm_steps qm_places qm_danced vm_runMost vm_runBegins qm_heardBy vm_fitMany vm_fitFirst vm_fitBeats vm_listenLeaves qm_there vm_metAt vm_metIn qm_wins vm_nightHoles vm_nightFirst vm_nightMud vm_nightSlips vm_drawnNow a1 h_vm_taped h_vm_at h_vm_value (by omega) H.size) (cwV 1 hts gX12_feed_X12_four rfl rfl rfl (by decide +kernel) ⟨Nat.le_of_ble_eq_true rfl, Nat.le_of_ble_eq_true rfl⟩) (ct_preV (T := ct_T cI cJ cB cZ cO) (ci := 12) (q0 := 0) hE hH hP hD hS hA [0, 1] (by decide) rfl rfl rfl) rfl rfl hl.1 rfl (lv_room (Nat.le_of_ble_eq_true rfl)) dX12_feed_22 ⟨Nat.le_of_ble_eq_true rfl, Nat.le_of_ble_eq_true rfl⟩) hP hD hS hA [0, 1] [] rfl rfl (by decide) (by decide) (fun u H locs hw hP hD hS => ?_)
    obtain ⟨y3, g4⟩ := u
    obtain ⟨hP, hD⟩ : ct_B D A H [mo qm 0 qm_width qm_many qm_cells qm_moved qm_tape y3 vm_at vm_token vm_place vm_value vm_word vm_bad vm_badPlace vm_fault vm_faultPlace qm_lines qm_has qm_round qm_meets qm_stumble qm_isMud qm_cell qm_tune qm_change qm_isKept qm_steps qm_places qm_danced vm_runMost vm_runBegins qm_heardBy vm_fitMany vm_fitFirst vm_fitBeats vm_listenLeaves qm_there vm_metAt vm_metIn qm_wins vm_nightHoles vm_nightFirst vm_nightMud vm_nightSlips vm_drawnNow, (qm_tape, .inl (cB, 1200, .inl (g4)))] := ⟨hP, hD⟩
    obtain ⟨hp0, hp1⟩ := hw
    have h_y3 : 0 ≤ y3.toInt ∧ y3.toInt ≤ 1200 := hp0
    have hp_5 : y3.toInt = vm_taped.toInt + 4 := hp1
    refine lv_aload_n hx hb dX12_feed_25 rfl (lv_at hl 0 rfl) ?_
    refine lv_iload_n hx hb dX12_feed_26 rfl (lv_at hl 2 rfl) ?_
    refine ct_callv (D := D) (wr := []) (va_runV (As := [.int a2]) (rest := []) ⟨hx, hb, hml, hown, hts⟩ (c_X12_four l D G cI cJ cB cZ cO qm 0 qm_width qm_many qm_cells qm_moved qm_tape g4 y3 vm_at vm_token vm_place vm_value vm_word vm_bad vm_badPlace vm_fault vm_faultPlace qm_lines qm_has qm_round qm_meets qm_stumble qm_isMud qm_cell qm_tune qm_change qm_isKept qm_steps qm_places qm_danced vm_runMost vm_runBegins qm_heardBy vm_fitMany vm_fitFirst vm_fitBeats vm_listenLeaves qm_there vm_metAt vm_metIn qm_wins vm_nightHoles vm_nightFirst vm_nightMud vm_nightSlips vm_drawnNow a2 h_y3 h_vm_at h_vm_value (by omega) H.size) (cwV 1 hts gX12_feed_X12_four rfl rfl rfl (by decide +kernel) ⟨Nat.le_of_ble_eq_true rfl, Nat.le_of_ble_eq_true rfl⟩) (ct_preV (T := ct_T cI cJ cB cZ cO) (ci := 12) (q0 := 0) hE hH hP hD hS hA [0, 1] (by decide) rfl rfl rfl) rfl rfl hl.1 rfl (lv_room (Nat.le_of_ble_eq_true rfl)) dX12_feed_27 ⟨Nat.le_of_ble_eq_true rfl, Nat.le_of_ble_eq_true rfl⟩) hP hD hS hA [0, 1] [] rfl rfl (by decide) (by decide) (fun u H locs hw hP hD hS => ?_)
    obtain ⟨y6, g7⟩ := u
    obtain ⟨hP, hD⟩ : ct_B D A H [mo qm 0 qm_width qm_many qm_cells qm_moved qm_tape y6 vm_at vm_token vm_place vm_value vm_word vm_bad vm_badPlace vm_fault vm_faultPlace qm_lines qm_has qm_round qm_meets qm_stumble qm_isMud qm_cell qm_tune qm_change qm_isKept qm_steps qm_places qm_danced vm_runMost vm_runBegins qm_heardBy vm_fitMany vm_fitFirst vm_fitBeats vm_listenLeaves qm_there vm_metAt vm_metIn qm_wins vm_nightHoles vm_nightFirst vm_nightMud vm_nightSlips vm_drawnNow, (qm_tape, .inl (cB, 1200, .inl (g7)))] := ⟨hP, hD⟩
    obtain ⟨hp0, hp1⟩ := hw
    have h_y6 : 0 ≤ y6.toInt ∧ y6.toInt ≤ 1200 := hp0
    have hp_8 : y6.toInt = y3.toInt + 4 := hp1
    refine lv_aload_n hx hb dX12_feed_30 rfl (lv_at hl 0 rfl) ?_
    refine lv_iload_n hx hb dX12_feed_31 rfl (lv_at hl 3 rfl) ?_
    refine ct_callv (D := D) (wr := []) (va_runV (As := [.int a3]) (rest := []) ⟨hx, hb, hml, hown, hts⟩ (c_X12_four l D G cI cJ cB cZ cO qm 0 qm_width qm_many qm_cells qm_moved qm_tape g7 y6 vm_at vm_token vm_place vm_value vm_word vm_bad vm_badPlace vm_fault vm_faultPlace qm_lines qm_has qm_round qm_meets qm_stumble qm_isMud qm_cell qm_tune qm_change qm_isKept qm_steps qm_places qm_danced vm_runMost vm_runBegins qm_heardBy vm_fitMany vm_fitFirst vm_fitBeats vm_listenLeaves qm_there vm_metAt vm_metIn qm_wins vm_nightHoles vm_nightFirst vm_nightMud vm_nightSlips vm_drawnNow a3 h_y6 h_vm_at h_vm_value (by omega) H.size) (cwV 1 hts gX12_feed_X12_four rfl rfl rfl (by decide +kernel) ⟨Nat.le_of_ble_eq_true rfl, Nat.le_of_ble_eq_true rfl⟩) (ct_preV (T := ct_T cI cJ cB cZ cO) (ci := 12) (q0 := 0) hE hH hP hD hS hA [0, 1] (by decide) rfl rfl rfl) rfl rfl hl.1 rfl (lv_room (Nat.le_of_ble_eq_true rfl)) dX12_feed_32 ⟨Nat.le_of_ble_eq_true rfl, Nat.le_of_ble_eq_true rfl⟩) hP hD hS hA [0, 1] [] rfl rfl (by decide) (by decide) (fun u H locs hw hP hD hS => ?_)
    obtain ⟨y9, g10⟩ := u
    obtain ⟨hP, hD⟩ : ct_B D A H [mo qm 0 qm_width qm_many qm_cells qm_moved qm_tape y9 vm_at vm_token vm_place vm_value vm_word vm_bad vm_badPlace vm_fault vm_faultPlace qm_lines qm_has qm_round qm_meets qm_stumble qm_isMud qm_cell qm_tune qm_change qm_isKept qm_steps qm_places qm_danced vm_runMost vm_runBegins qm_heardBy vm_fitMany vm_fitFirst vm_fitBeats vm_listenLeaves qm_there vm_metAt vm_metIn qm_wins vm_nightHoles vm_nightFirst vm_nightMud vm_nightSlips vm_drawnNow, (qm_tape, .inl (cB, 1200, .inl (g10)))] := ⟨hP, hD⟩
    obtain ⟨hp0, hp1⟩ := hw
    have h_y9 : 0 ≤ y9.toInt ∧ y9.toInt ≤ 1200 := hp0
    have hp_11 : y9.toInt = y6.toInt + 4 := hp1
    refine lv_aload_n hx hb dX12_feed_35 rfl (lv_at hl 0 rfl) ?_
    refine lv_iload hx hb dX12_feed_36 (lv_at hl 4 rfl) ?_
    refine ct_callv (D := D) (wr := []) (va_runV (As := [.int a4]) (rest := []) ⟨hx, hb, hml, hown, hts⟩ (c_X12_four l D G cI cJ cB cZ cO qm 0 qm_width qm_many qm_cells qm_moved qm_tape g10 y9 vm_at vm_token vm_place vm_value vm_word vm_bad vm_badPlace vm_fault vm_faultPlace qm_lines qm_has qm_round qm_meets qm_stumble qm_isMud qm_cell qm_tune qm_change qm_isKept qm_steps qm_places qm_danced vm_runMost vm_runBegins qm_heardBy vm_fitMany vm_fitFirst vm_fitBeats vm_listenLeaves qm_there vm_metAt vm_metIn qm_wins vm_nightHoles vm_nightFirst vm_nightMud vm_nightSlips vm_drawnNow a4 h_y9 h_vm_at h_vm_value (by omega) H.size) (cwV 1 hts gX12_feed_X12_four rfl rfl rfl (by decide +kernel) ⟨Nat.le_of_ble_eq_true rfl, Nat.le_of_ble_eq_true rfl⟩) (ct_preV (T := ct_T cI cJ cB cZ cO) (ci := 12) (q0 := 0) hE hH hP hD hS hA [0, 1] (by decide) rfl rfl rfl) rfl rfl hl.1 rfl (lv_room (Nat.le_of_ble_eq_true rfl)) dX12_feed_38 ⟨Nat.le_of_ble_eq_true rfl, Nat.le_of_ble_eq_true rfl⟩) hP hD hS hA [0, 1] [] rfl rfl (by decide) (by decide) (fun u H locs hw hP hD hS => ?_)
    obtain ⟨y12, g13⟩ := u
    obtain ⟨hP, hD⟩ : ct_B D A H [mo qm 0 qm_width qm_many qm_cells qm_moved qm_tape y12 vm_at vm_token vm_place vm_value vm_word vm_bad vm_badPlace vm_fault vm_faultPlace qm_lines qm_has qm_round qm_meets qm_stumble qm_isMud qm_cell qm_tune qm_change qm_isKept qm_steps qm_places qm_danced vm_runMost vm_runBegins qm_heardBy vm_fitMany vm_fitFirst vm_fitBeats vm_listenLeaves qm_there vm_metAt vm_metIn qm_wins vm_nightHoles vm_nightFirst vm_nightMud vm_nightSlips vm_drawnNow, (qm_tape, .inl (cB, 1200, .inl (g13)))] := ⟨hP, hD⟩
    obtain ⟨hp0, hp1⟩ := hw
    have h_y12 : 0 ≤ y12.toInt ∧ y12.toInt ≤ 1200 := hp0
    have hp_14 : y12.toInt = y9.toInt + 4 := hp1
    refine lv_aload_n hx hb dX12_feed_41 rfl (lv_at hl 0 rfl) ?_
    refine lv_iload hx hb dX12_feed_42 (lv_at hl 5 rfl) ?_
    refine ct_callv (D := D) (wr := []) (va_runV (As := [.int a5]) (rest := []) ⟨hx, hb, hml, hown, hts⟩ (c_X12_four l D G cI cJ cB cZ cO qm 0 qm_width qm_many qm_cells qm_moved qm_tape g13 y12 vm_at vm_token vm_place vm_value vm_word vm_bad vm_badPlace vm_fault vm_faultPlace qm_lines qm_has qm_round qm_meets qm_stumble qm_isMud qm_cell qm_tune qm_change qm_isKept qm_steps qm_places qm_danced vm_runMost vm_runBegins qm_heardBy vm_fitMany vm_fitFirst vm_fitBeats vm_listenLeaves qm_there vm_metAt vm_metIn qm_wins vm_nightHoles vm_nightFirst vm_nightMud vm_nightSlips vm_drawnNow a5 h_y12 h_vm_at h_vm_value (by omega) H.size) (cwV 1 hts gX12_feed_X12_four rfl rfl rfl (by decide +kernel) ⟨Nat.le_of_ble_eq_true rfl, Nat.le_of_ble_eq_true rfl⟩) (ct_preV (T := ct_T cI cJ cB cZ cO) (ci := 12) (q0 := 0) hE hH hP hD hS hA [0, 1] (by decide) rfl rfl rfl) rfl rfl hl.1 rfl (lv_room (Nat.le_of_ble_eq_true rfl)) dX12_feed_44 ⟨Nat.le_of_ble_eq_true rfl, Nat.le_of_ble_eq_true rfl⟩) hP hD hS hA [0, 1] [] rfl rfl (by decide) (by decide) (fun u H locs hw hP hD hS => ?_)
    obtain ⟨y15, g16⟩ := u
    obtain ⟨hP, hD⟩ : ct_B D A H [mo qm 0 qm_width qm_many qm_cells qm_moved qm_tape y15 vm_at vm_token vm_place vm_value vm_word vm_bad vm_badPlace vm_fault vm_faultPlace qm_lines qm_has qm_round qm_meets qm_stumble qm_isMud qm_cell qm_tune qm_change qm_isKept qm_steps qm_places qm_danced vm_runMost vm_runBegins qm_heardBy vm_fitMany vm_fitFirst vm_fitBeats vm_listenLeaves qm_there vm_metAt vm_metIn qm_wins vm_nightHoles vm_nightFirst vm_nightMud vm_nightSlips vm_drawnNow, (qm_tape, .inl (cB, 1200, .inl (g16)))] := ⟨hP, hD⟩
    obtain ⟨hp0, hp1⟩ := hw
    have h_y15 : 0 ≤ y15.toInt ∧ y15.toInt ≤ 1200 := hp0
    have hp_17 : y15.toInt = y12.toInt + 4 := hp1
    refine lv_aload_n hx hb dX12_feed_47 rfl (lv_at hl 0 rfl) ?_
    refine va_get (D := D) (ci := 12) (v := .int y15) (C := RX12) (T := TX12) (N := 45) hx hb hts hi12 hown hK hP 0 rfl rfl 6 (by decide) (hts (.fieldLink RX12 97 "OverHillModel" "taped" "I") (by decide +kernel)) (fun _ h9 => h9) rfl dX12_feed_48 ?_
    obtain ⟨hP9, hD9⟩ : ct_B D A H [mo qm 0 qm_width qm_many qm_cells qm_moved qm_tape y15 vm_at vm_token vm_place vm_value vm_word vm_bad vm_badPlace vm_fault vm_faultPlace qm_lines qm_has qm_round qm_meets qm_stumble qm_isMud qm_cell qm_tune qm_change qm_isKept qm_steps qm_places qm_danced vm_runMost vm_runBegins qm_heardBy vm_fitMany vm_fitFirst vm_fitBeats vm_listenLeaves qm_there vm_metAt vm_metIn qm_wins vm_nightHoles vm_nightFirst vm_nightMud vm_nightSlips vm_drawnNow, (qm_tape, .inl (cB, 1200, .inl (g16)))] := ⟨hP.sub [0, 1] rfl, hD.sub [0, 1] (by decide) rfl⟩
    exact W.iret (v := y15) hx hb hr (fun t ht hW => ⟨⟨y15, ((0 : Int32), y15, g16), rfl, ⟨(show (-1) ≤ y15.toInt ∧ y15.toInt ≤ 1200 by omega), h_y15⟩, by rw [ht]; exact hP9, hD9⟩, hS.F ht⟩) hS.2.2 dX12_feed_51
  · have hq2 : 1200 < z1.toInt := tq_nle rfl (by decide) hc
    refine lv_iconst (v := (-1)) hx hb dX12_feed_18 (by decide) ?_
    obtain ⟨hP9, hD9⟩ : ct_B D A H [mo qm 0 qm_width qm_many qm_cells qm_moved qm_tape vm_taped vm_at vm_token vm_place vm_value vm_word vm_bad vm_badPlace vm_fault vm_faultPlace qm_lines qm_has qm_round qm_meets qm_stumble qm_isMud qm_cell qm_tune qm_change qm_isKept qm_steps qm_places qm_danced vm_runMost vm_runBegins qm_heardBy vm_fitMany vm_fitFirst vm_fitBeats vm_listenLeaves qm_there vm_metAt vm_metIn qm_wins vm_nightHoles vm_nightFirst vm_nightMud vm_nightSlips vm_drawnNow, (qm_tape, .inl (cB, 1200, .inl (fm_tape)))] := ⟨hP.sub [0, 1] rfl, hD.sub [0, 1] (by decide) rfl⟩
    exact W.iret (v := (-1)) hx hb hr (fun t ht hW => ⟨⟨(-1), ((0 : Int32), vm_taped, fm_tape), rfl, ⟨(show (-1) ≤ (-1 : Int32).toInt ∧ (-1 : Int32).toInt ≤ 1200 by decide), h_vm_taped⟩, by rw [ht]; exact hP9, hD9⟩, hS.F ht⟩) hS.2.2 dX12_feed_19
abbrev w_c_X12_end (cI cJ cB cZ cO : ClassId) (qm : Nat) (vm_thrown : Int32) (qm_width : Nat) (qm_many : Nat) (qm_cells : Nat) (qm_moved : Nat) (qm_tape : Nat) (vm_taped : Int32) (vm_at : Int32) (vm_token : Int32) (vm_place : Int32) (vm_value : Int32) (vm_word : Int64) (vm_bad : Int32) (vm_badPlace : Int32) (vm_fault : Int32) (vm_faultPlace : Int32) (qm_lines : Nat) (qm_has : Nat) (qm_round : Nat) (qm_meets : Nat) (qm_stumble : Nat) (qm_isMud : Nat) (qm_cell : Nat) (qm_tune : Nat) (qm_change : Nat) (qm_isKept : Nat) (qm_steps : Nat) (qm_places : Nat) (qm_danced : Nat) (vm_runMost : Int32) (vm_runBegins : Int32) (qm_heardBy : Nat) (vm_fitMany : Int32) (vm_fitFirst : Int32) (vm_fitBeats : Int64) (vm_listenLeaves : Int32) (qm_there : Nat) (vm_metAt : Int32) (vm_metIn : Int32) (qm_wins : Nat) (vm_nightHoles : Int32) (vm_nightFirst : Int32) (vm_nightMud : Int32) (vm_nightSlips : Int32) (vm_drawnNow : Int64) : va_W := [mo qm vm_thrown qm_width qm_many qm_cells qm_moved qm_tape vm_taped vm_at vm_token vm_place vm_value vm_word vm_bad vm_badPlace vm_fault vm_faultPlace qm_lines qm_has qm_round qm_meets qm_stumble qm_isMud qm_cell qm_tune qm_change qm_isKept qm_steps qm_places qm_danced vm_runMost vm_runBegins qm_heardBy vm_fitMany vm_fitFirst vm_fitBeats vm_listenLeaves qm_there vm_metAt vm_metIn qm_wins vm_nightHoles vm_nightFirst vm_nightMud vm_nightSlips vm_drawnNow]
set_option maxHeartbeats 4000000 in
set_option maxRecDepth 100000 in
/-- X12 end -/
theorem c_X12_end (l : Launch) (D : va_G) (G : ct_G) (cI cJ cB cZ cO : ClassId) (qm : Nat) (vm_thrown : Int32) (qm_width : Nat) (qm_many : Nat) (qm_cells : Nat) (qm_moved : Nat) (qm_tape : Nat) (vm_taped : Int32) (vm_at : Int32) (vm_token : Int32) (vm_place : Int32) (vm_value : Int32) (vm_word : Int64) (vm_bad : Int32) (vm_badPlace : Int32) (vm_fault : Int32) (vm_faultPlace : Int32) (qm_lines : Nat) (qm_has : Nat) (qm_round : Nat) (qm_meets : Nat) (qm_stumble : Nat) (qm_isMud : Nat) (qm_cell : Nat) (qm_tune : Nat) (qm_change : Nat) (qm_isKept : Nat) (qm_steps : Nat) (qm_places : Nat) (qm_danced : Nat) (vm_runMost : Int32) (vm_runBegins : Int32) (qm_heardBy : Nat) (vm_fitMany : Int32) (vm_fitFirst : Int32) (vm_fitBeats : Int64) (vm_listenLeaves : Int32) (qm_there : Nat) (vm_metAt : Int32) (vm_metIn : Int32) (qm_wins : Nat) (vm_nightHoles : Int32) (vm_nightFirst : Int32) (vm_nightMud : Int32) (vm_nightSlips : Int32) (vm_drawnNow : Int64) (a1 : Int32) (h_vm_taped : 0 ≤ vm_taped.toInt ∧ vm_taped.toInt ≤ 1200) (h_vm_at : 0 ≤ vm_at.toInt ∧ vm_at.toInt ≤ 1200) (h_vm_value : 0 ≤ vm_value.toInt ∧ vm_value.toInt ≤ 1000009) (sz : Nat) : Met l yX12_end wsX12_end ({ frames := 1, cells := 0, slots := 0, locals := 25 }) (va_Pc [.ref qm, .int a1] (ct_P D (ct_T cI cJ cB cZ cO) G (w_c_X12_end cI cJ cB cZ cO qm vm_thrown qm_width qm_many qm_cells qm_moved qm_tape vm_taped vm_at vm_token vm_place vm_value vm_word vm_bad vm_badPlace vm_fault vm_faultPlace qm_lines qm_has qm_round qm_meets qm_stumble qm_isMud qm_cell qm_tune qm_change qm_isKept qm_steps qm_places qm_danced vm_runMost vm_runBegins qm_heardBy vm_fitMany vm_fitFirst vm_fitBeats vm_listenLeaves qm_there vm_metAt vm_metIn qm_wins vm_nightHoles vm_nightFirst vm_nightMud vm_nightSlips vm_drawnNow) sz)) (va_Qi (fun (rz : Int32) (u : Int32 × Int32) => ((-1) ≤ rz.toInt ∧ rz.toInt ≤ 1200) ∧ (0 ≤ u.2.toInt ∧ u.2.toInt ≤ 1200)) (fun (u : Int32 × Int32) t => ct_Q D (va_A (w_c_X12_end cI cJ cB cZ cO qm vm_thrown qm_width qm_many qm_cells qm_moved qm_tape vm_taped vm_at vm_token vm_place vm_value vm_word vm_bad vm_badPlace vm_fault vm_faultPlace qm_lines qm_has qm_round qm_meets qm_stumble qm_isMud qm_cell qm_tune qm_change qm_isKept qm_steps qm_places qm_danced vm_runMost vm_runBegins qm_heardBy vm_fitMany vm_fitFirst vm_fitBeats vm_listenLeaves qm_there vm_metAt vm_metIn qm_wins vm_nightHoles vm_nightFirst vm_nightMud vm_nightSlips vm_drawnNow) sz) [mo qm u.1 qm_width qm_many qm_cells qm_moved qm_tape u.2 vm_at vm_token vm_place vm_value vm_word vm_bad vm_badPlace vm_fault vm_faultPlace qm_lines qm_has qm_round qm_meets qm_stumble qm_isMud qm_cell qm_tune qm_change qm_isKept qm_steps qm_places qm_danced vm_runMost vm_runBegins qm_heardBy vm_fitMany vm_fitFirst vm_fitBeats vm_listenLeaves qm_there vm_metAt vm_metIn qm_wins vm_nightHoles vm_nightFirst vm_nightMud vm_nightSlips vm_drawnNow] t) (va_A (w_c_X12_end cI cJ cB cZ cO qm vm_thrown qm_width qm_many qm_cells qm_moved qm_tape vm_taped vm_at vm_token vm_place vm_value vm_word vm_bad vm_badPlace vm_fault vm_faultPlace qm_lines qm_has qm_round qm_meets qm_stumble qm_isMud qm_cell qm_tune qm_change qm_isKept qm_steps qm_places qm_danced vm_runMost vm_runBegins qm_heardBy vm_fitMany vm_fitFirst vm_fitBeats vm_listenLeaves qm_there vm_metAt vm_metIn qm_wins vm_nightHoles vm_nightFirst vm_nightMud vm_nightSlips vm_drawnNow) sz)) 0 0 (va_A (w_c_X12_end cI cJ cB cZ cO qm vm_thrown qm_width qm_many qm_cells qm_moved qm_tape vm_taped vm_at vm_token vm_place vm_value vm_word vm_bad vm_badPlace vm_fault vm_faultPlace qm_lines qm_has qm_round qm_meets qm_stumble qm_isMud qm_cell qm_tune qm_change qm_isKept qm_steps qm_places qm_danced vm_runMost vm_runBegins qm_heardBy vm_fitMany vm_fitFirst vm_fitBeats vm_listenLeaves qm_there vm_metAt vm_metIn qm_wins vm_nightHoles vm_nightFirst vm_nightMud vm_nightSlips vm_drawnNow) sz) := by
  refine Met.ofW (cc := cX12_end) (maxL := 2) (ret := (some .int)) (by decide) rfl ?_
  intro p e s m args below meth c s₁ B hml hv
  obtain ⟨rfl, hsz, hP, hE, hD0, hH⟩ := hv
  have hx := B.exec
  have hb := B.bytes
  have hr := B.returns
  have hts := atoms_spec (ws := wsX12_end) B.pre
  have hown : s.vm.findClass RX12 = some m.cls := findClass_of_methodNamed B.named
  have hlocks := B.notSynchronized
  have hK := hE.1
  have hi12 : ∀ w ∈ u_ws RX12 TX12 45, w ∈ wsX12_end := fun w h => List.mem_cons_of_mem _ (List.mem_append_right _ h)
  subst hsz
  have hD := hD0.self (sz := s.heap.size)
  generalize hAe : va_A (w_c_X12_end cI cJ cB cZ cO qm vm_thrown qm_width qm_many qm_cells qm_moved qm_tape vm_taped vm_at vm_token vm_place vm_value vm_word vm_bad vm_badPlace vm_fault vm_faultPlace qm_lines qm_has qm_round qm_meets qm_stumble qm_isMud qm_cell qm_tune qm_change qm_isKept qm_steps qm_places qm_danced vm_runMost vm_runBegins qm_heardBy vm_fitMany vm_fitFirst vm_fitBeats vm_listenLeaves qm_there vm_metAt vm_metIn qm_wins vm_nightHoles vm_nightFirst vm_nightMud vm_nightSlips vm_drawnNow) s.heap.size = A at hD hH ⊢
  have hA : ∀ q : Nat, s.heap.size ≤ q → A q := fun q h => by rw [← hAe]; exact Or.inr h
  have hS : va_S A s.heap s.heap [] := va_S.rf
  obtain ⟨hP, hD⟩ : ct_B D A s.heap [mo qm vm_thrown qm_width qm_many qm_cells qm_moved qm_tape vm_taped vm_at vm_token vm_place vm_value vm_word vm_bad vm_badPlace vm_fault vm_faultPlace qm_lines qm_has qm_round qm_meets qm_stumble qm_isMud qm_cell qm_tune qm_change qm_isKept qm_steps qm_places qm_danced vm_runMost vm_runBegins qm_heardBy vm_fitMany vm_fitFirst vm_fitBeats vm_listenLeaves qm_there vm_metAt vm_metIn qm_wins vm_nightHoles vm_nightFirst vm_nightMud vm_nightSlips vm_drawnNow] := ⟨hP, hD⟩
  have hl := lv_entry ([.ref qm, .int a1]) (n := 2) (Nat.le_of_ble_eq_true rfl)
  rw [lg_entry_eq]
  generalize (lg_sl ([.ref qm, .int a1]) ++ List.replicate (2 - (lg_sl ([.ref qm, .int a1])).length) Slot.unset).toArray = ls at hl ⊢
  have hl : lv_has ls 2 [(0, .ref qm), (1, .int a1)] := hl
  obtain ⟨H, hHe⟩ : ∃ H : Heap, H = s.heap := ⟨_, rfl⟩
  rw [← hHe] at hP
  have hS : va_S A s.heap H [] := by rw [hHe]; exact va_S.rf
  refine ct_start hHe ?_
  refine lv_aload_n hx hb dX12_end_0 rfl (lv_at hl 0 rfl) ?_
  refine lv_iconst (v := 0) hx hb dX12_end_1 (by decide) ?_
  refine va_put (D := D) (ci := 12) (v := .int 0) (ty := .int) (C := RX12) (T := TX12) (N := 45) hx hb hts hi12 tyX12 tyX12_ok nmX12 hown hK hP hD hS 0 rfl rfl 0 (by decide) (hts (.fieldLink RX12 80 "OverHillModel" "thrown" "I") (by decide +kernel)) (fun _ h9 => h9) rfl (by decide +kernel) rfl rfl (Nat.le_of_ble_eq_true rfl) dX12_end_2 (fun H locs hP hD hS => ?_)
  obtain ⟨hP, hD⟩ : ct_B D A H [mo qm 0 qm_width qm_many qm_cells qm_moved qm_tape vm_taped vm_at vm_token vm_place vm_value vm_word vm_bad vm_badPlace vm_fault vm_faultPlace qm_lines qm_has qm_round qm_meets qm_stumble qm_isMud qm_cell qm_tune qm_change qm_isKept qm_steps qm_places qm_danced vm_runMost vm_runBegins qm_heardBy vm_fitMany vm_fitFirst vm_fitBeats vm_listenLeaves qm_there vm_metAt vm_metIn qm_wins vm_nightHoles vm_nightFirst vm_nightMud vm_nightSlips vm_drawnNow] := ⟨hP, hD⟩
  refine lv_iload_n hx hb dX12_end_5 rfl (lv_at hl 1 rfl) ?_
  refine lv_i2l (v := _) hx hb dX12_end_6 rfl ?_
  refine lv_topl (fun z1 ez1 => ?_)
  have fz1 : z1.toInt = a1.toInt := by rw [ez1]; exact tl_i rfl
  have hb2 := tq_lo a1
  refine lv_lconst (v := 0) hx hb dX12_end_7 (by decide) ?_
  refine lv_aload_n hx hb dX12_end_8 rfl (lv_at hl 0 rfl) ?_
  refine va_get (D := D) (ci := 12) (v := .int vm_taped) (C := RX12) (T := TX12) (N := 45) hx hb hts hi12 hown hK hP 0 rfl rfl 6 (by decide) (hts (.fieldLink RX12 97 "OverHillModel" "taped" "I") (by decide +kernel)) (fun _ h9 => h9) rfl dX12_end_9 ?_
  refine lv_i2l (v := _) hx hb dX12_end_12 rfl ?_
  refine lv_topl (fun z3 ez3 => ?_)
  have fz3 : z3.toInt = vm_taped.toInt := by rw [ez3]; exact tl_i rfl
  refine ct_calli (D := D) (wr := [mo qm 0 qm_width qm_many qm_cells qm_moved qm_tape vm_taped vm_at vm_token vm_place vm_value vm_word vm_bad vm_badPlace vm_fault vm_faultPlace qm_lines qm_has qm_round qm_meets qm_stumble qm_isMud qm_cell qm_tune qm_change qm_isKept qm_steps qm_places qm_danced vm_runMost vm_runBegins qm_heardBy vm_fitMany vm_fitFirst vm_fitBeats vm_listenLeaves qm_there vm_metAt vm_metIn qm_wins vm_nightHoles vm_nightFirst vm_nightMud vm_nightSlips vm_drawnNow]) (va_runS (As := [.long z1, .long 0, .long z3]) (rest := []) ⟨hx, hb, hml, hown, hts⟩ (c_X12_in l D G cI cJ cB cZ cO z1 0 z3  H.size) (va_cwS 3 hts gX12_end_X12_in rfl rfl rfl (by decide +kernel) ⟨Nat.le_of_ble_eq_true rfl, Nat.le_of_ble_eq_true rfl⟩) (ct_preS (T := ct_T cI cJ cB cZ cO) hE hH hP hD hS hA [] (by decide) rfl) rfl rfl hl.1 rfl (lv_room (Nat.le_of_ble_eq_true rfl)) dX12_end_13 ⟨Nat.le_of_ble_eq_true rfl, Nat.le_of_ble_eq_true rfl⟩) hP hD hS hA [] [0] rfl rfl (by decide) (by decide) (fun r4 u H locs hw hP hD hS => ?_)
  obtain ⟨hP, hD⟩ : ct_B D A H [mo qm 0 qm_width qm_many qm_cells qm_moved qm_tape vm_taped vm_at vm_token vm_place vm_value vm_word vm_bad vm_badPlace vm_fault vm_faultPlace qm_lines qm_has qm_round qm_meets qm_stumble qm_isMud qm_cell qm_tune qm_change qm_isKept qm_steps qm_places qm_danced vm_runMost vm_runBegins qm_heardBy vm_fitMany vm_fitFirst vm_fitBeats vm_listenLeaves qm_there vm_metAt vm_metIn qm_wins vm_nightHoles vm_nightFirst vm_nightMud vm_nightSlips vm_drawnNow] := ⟨hP, hD⟩
  have hk5 : (0 : Int64).toInt = 0 := by decide
  have hz := hw
  rcases hz with ⟨hz, hz2⟩ | ⟨hz, hz2⟩
  · subst hz
    have hz_6 : ((0 : Int64).toInt ≤ z1.toInt ∧ z1.toInt ≤ z3.toInt) := hz2
    refine lv_if_ne (tgt := 21) hx hb dX12_end_16 (by decide) (fun _ => ?_) (fun hc => absurd hc (by decide))
    refine lv_aload_n hx hb dX12_end_21 rfl (lv_at hl 0 rfl) ?_
    refine lv_iload_n hx hb dX12_end_22 rfl (lv_at hl 1 rfl) ?_
    refine va_put (D := D) (ci := 12) (v := .int a1) (ty := .int) (C := RX12) (T := TX12) (N := 45) hx hb hts hi12 tyX12 tyX12_ok nmX12 hown hK hP hD hS 0 rfl rfl 6 (by decide) (hts (.fieldLink RX12 97 "OverHillModel" "taped" "I") (by decide +kernel)) (fun _ h9 => h9) rfl (by decide +kernel) rfl rfl (Nat.le_of_ble_eq_true rfl) dX12_end_23 (fun H locs hP hD hS => ?_)
    obtain ⟨hP, hD⟩ : ct_B D A H [mo qm 0 qm_width qm_many qm_cells qm_moved qm_tape a1 vm_at vm_token vm_place vm_value vm_word vm_bad vm_badPlace vm_fault vm_faultPlace qm_lines qm_has qm_round qm_meets qm_stumble qm_isMud qm_cell qm_tune qm_change qm_isKept qm_steps qm_places qm_danced vm_runMost vm_runBegins qm_heardBy vm_fitMany vm_fitFirst vm_fitBeats vm_listenLeaves qm_there vm_metAt vm_metIn qm_wins vm_nightHoles vm_nightFirst vm_nightMud vm_nightSlips vm_drawnNow] := ⟨hP, hD⟩
    refine lv_iload_n hx hb dX12_end_26 rfl (lv_at hl 1 rfl) ?_
    obtain ⟨hP9, hD9⟩ : ct_B D A H [mo qm 0 qm_width qm_many qm_cells qm_moved qm_tape a1 vm_at vm_token vm_place vm_value vm_word vm_bad vm_badPlace vm_fault vm_faultPlace qm_lines qm_has qm_round qm_meets qm_stumble qm_isMud qm_cell qm_tune qm_change qm_isKept qm_steps qm_places qm_danced vm_runMost vm_runBegins qm_heardBy vm_fitMany vm_fitFirst vm_fitBeats vm_listenLeaves qm_there vm_metAt vm_metIn qm_wins vm_nightHoles vm_nightFirst vm_nightMud vm_nightSlips vm_drawnNow] := ⟨hP.sub [0] rfl, hD.sub [0] (by decide) rfl⟩
    exact W.iret (v := a1) hx hb hr (fun t ht hW => ⟨⟨a1, ((0 : Int32), a1), rfl, ⟨(show (-1) ≤ a1.toInt ∧ a1.toInt ≤ 1200 by omega), (show 0 ≤ a1.toInt ∧ a1.toInt ≤ 1200 by omega)⟩, by rw [ht]; exact hP9, hD9⟩, hS.F ht⟩) hS.2.2 dX12_end_27
  · subst hz
    have hz_7 : ¬ ((0 : Int64).toInt ≤ z1.toInt ∧ z1.toInt ≤ z3.toInt) := hz2
    refine lv_if_ne (tgt := 21) hx hb dX12_end_16 (by decide) (fun hc => absurd hc (by decide)) (fun _ => ?_)
    refine lv_iconst (v := (-1)) hx hb dX12_end_19 (by decide) ?_
    obtain ⟨hP9, hD9⟩ : ct_B D A H [mo qm 0 qm_width qm_many qm_cells qm_moved qm_tape vm_taped vm_at vm_token vm_place vm_value vm_word vm_bad vm_badPlace vm_fault vm_faultPlace qm_lines qm_has qm_round qm_meets qm_stumble qm_isMud qm_cell qm_tune qm_change qm_isKept qm_steps qm_places qm_danced vm_runMost vm_runBegins qm_heardBy vm_fitMany vm_fitFirst vm_fitBeats vm_listenLeaves qm_there vm_metAt vm_metIn qm_wins vm_nightHoles vm_nightFirst vm_nightMud vm_nightSlips vm_drawnNow] := ⟨hP.sub [0] rfl, hD.sub [0] (by decide) rfl⟩
    exact W.iret (v := (-1)) hx hb hr (fun t ht hW => ⟨⟨(-1), ((0 : Int32), vm_taped), rfl, ⟨(show (-1) ≤ (-1 : Int32).toInt ∧ (-1 : Int32).toInt ≤ 1200 by decide), h_vm_taped⟩, by rw [ht]; exact hP9, hD9⟩, hS.F ht⟩) hS.2.2 dX12_end_20
abbrev w_c_X12_fault (cI cJ cB cZ cO : ClassId) (qm : Nat) (vm_thrown : Int32) (qm_width : Nat) (qm_many : Nat) (qm_cells : Nat) (qm_moved : Nat) (qm_tape : Nat) (vm_taped : Int32) (vm_at : Int32) (vm_token : Int32) (vm_place : Int32) (vm_value : Int32) (vm_word : Int64) (vm_bad : Int32) (vm_badPlace : Int32) (vm_fault : Int32) (vm_faultPlace : Int32) (qm_lines : Nat) (qm_has : Nat) (qm_round : Nat) (qm_meets : Nat) (qm_stumble : Nat) (qm_isMud : Nat) (qm_cell : Nat) (qm_tune : Nat) (qm_change : Nat) (qm_isKept : Nat) (qm_steps : Nat) (qm_places : Nat) (qm_danced : Nat) (vm_runMost : Int32) (vm_runBegins : Int32) (qm_heardBy : Nat) (vm_fitMany : Int32) (vm_fitFirst : Int32) (vm_fitBeats : Int64) (vm_listenLeaves : Int32) (qm_there : Nat) (vm_metAt : Int32) (vm_metIn : Int32) (qm_wins : Nat) (vm_nightHoles : Int32) (vm_nightFirst : Int32) (vm_nightMud : Int32) (vm_nightSlips : Int32) (vm_drawnNow : Int64) : va_W := [mo qm vm_thrown qm_width qm_many qm_cells qm_moved qm_tape vm_taped vm_at vm_token vm_place vm_value vm_word vm_bad vm_badPlace vm_fault vm_faultPlace qm_lines qm_has qm_round qm_meets qm_stumble qm_isMud qm_cell qm_tune qm_change qm_isKept qm_steps qm_places qm_danced vm_runMost vm_runBegins qm_heardBy vm_fitMany vm_fitFirst vm_fitBeats vm_listenLeaves qm_there vm_metAt vm_metIn qm_wins vm_nightHoles vm_nightFirst vm_nightMud vm_nightSlips vm_drawnNow]
set_option maxHeartbeats 4000000 in
set_option maxRecDepth 100000 in
/-- X12 fault -/
theorem c_X12_fault (l : Launch) (D : va_G) (G : ct_G) (cI cJ cB cZ cO : ClassId) (qm : Nat) (vm_thrown : Int32) (qm_width : Nat) (qm_many : Nat) (qm_cells : Nat) (qm_moved : Nat) (qm_tape : Nat) (vm_taped : Int32) (vm_at : Int32) (vm_token : Int32) (vm_place : Int32) (vm_value : Int32) (vm_word : Int64) (vm_bad : Int32) (vm_badPlace : Int32) (vm_fault : Int32) (vm_faultPlace : Int32) (qm_lines : Nat) (qm_has : Nat) (qm_round : Nat) (qm_meets : Nat) (qm_stumble : Nat) (qm_isMud : Nat) (qm_cell : Nat) (qm_tune : Nat) (qm_change : Nat) (qm_isKept : Nat) (qm_steps : Nat) (qm_places : Nat) (qm_danced : Nat) (vm_runMost : Int32) (vm_runBegins : Int32) (qm_heardBy : Nat) (vm_fitMany : Int32) (vm_fitFirst : Int32) (vm_fitBeats : Int64) (vm_listenLeaves : Int32) (qm_there : Nat) (vm_metAt : Int32) (vm_metIn : Int32) (qm_wins : Nat) (vm_nightHoles : Int32) (vm_nightFirst : Int32) (vm_nightMud : Int32) (vm_nightSlips : Int32) (vm_drawnNow : Int64) (a1 : Int32) (h_vm_taped : 0 ≤ vm_taped.toInt ∧ vm_taped.toInt ≤ 1200) (h_vm_at : 0 ≤ vm_at.toInt ∧ vm_at.toInt ≤ 1200) (h_vm_value : 0 ≤ vm_value.toInt ∧ vm_value.toInt ≤ 1000009) (sz : Nat) : Met l yX12_fault wsX12_fault ({ frames := 0, cells := 0, slots := 0, locals := 0 }) (va_Pc [.ref qm, .int a1] (ct_P D (ct_T cI cJ cB cZ cO) G (w_c_X12_fault cI cJ cB cZ cO qm vm_thrown qm_width qm_many qm_cells qm_moved qm_tape vm_taped vm_at vm_token vm_place vm_value vm_word vm_bad vm_badPlace vm_fault vm_faultPlace qm_lines qm_has qm_round qm_meets qm_stumble qm_isMud qm_cell qm_tune qm_change qm_isKept qm_steps qm_places qm_danced vm_runMost vm_runBegins qm_heardBy vm_fitMany vm_fitFirst vm_fitBeats vm_listenLeaves qm_there vm_metAt vm_metIn qm_wins vm_nightHoles vm_nightFirst vm_nightMud vm_nightSlips vm_drawnNow) sz)) (va_Qi (fun (rz : Int32) (u : Int32) => True) (fun (u : Int32) t => ct_Q D (va_A (w_c_X12_fault cI cJ cB cZ cO qm vm_thrown qm_width qm_many qm_cells qm_moved qm_tape vm_taped vm_at vm_token vm_place vm_value vm_word vm_bad vm_badPlace vm_fault vm_faultPlace qm_lines qm_has qm_round qm_meets qm_stumble qm_isMud qm_cell qm_tune qm_change qm_isKept qm_steps qm_places qm_danced vm_runMost vm_runBegins qm_heardBy vm_fitMany vm_fitFirst vm_fitBeats vm_listenLeaves qm_there vm_metAt vm_metIn qm_wins vm_nightHoles vm_nightFirst vm_nightMud vm_nightSlips vm_drawnNow) sz) [mo qm u qm_width qm_many qm_cells qm_moved qm_tape vm_taped vm_at vm_token vm_place vm_value vm_word vm_bad vm_badPlace vm_fault vm_faultPlace qm_lines qm_has qm_round qm_meets qm_stumble qm_isMud qm_cell qm_tune qm_change qm_isKept qm_steps qm_places qm_danced vm_runMost vm_runBegins qm_heardBy vm_fitMany vm_fitFirst vm_fitBeats vm_listenLeaves qm_there vm_metAt vm_metIn qm_wins vm_nightHoles vm_nightFirst vm_nightMud vm_nightSlips vm_drawnNow] t) (va_A (w_c_X12_fault cI cJ cB cZ cO qm vm_thrown qm_width qm_many qm_cells qm_moved qm_tape vm_taped vm_at vm_token vm_place vm_value vm_word vm_bad vm_badPlace vm_fault vm_faultPlace qm_lines qm_has qm_round qm_meets qm_stumble qm_isMud qm_cell qm_tune qm_change qm_isKept qm_steps qm_places qm_danced vm_runMost vm_runBegins qm_heardBy vm_fitMany vm_fitFirst vm_fitBeats vm_listenLeaves qm_there vm_metAt vm_metIn qm_wins vm_nightHoles vm_nightFirst vm_nightMud vm_nightSlips vm_drawnNow) sz)) 0 0 (va_A (w_c_X12_fault cI cJ cB cZ cO qm vm_thrown qm_width qm_many qm_cells qm_moved qm_tape vm_taped vm_at vm_token vm_place vm_value vm_word vm_bad vm_badPlace vm_fault vm_faultPlace qm_lines qm_has qm_round qm_meets qm_stumble qm_isMud qm_cell qm_tune qm_change qm_isKept qm_steps qm_places qm_danced vm_runMost vm_runBegins qm_heardBy vm_fitMany vm_fitFirst vm_fitBeats vm_listenLeaves qm_there vm_metAt vm_metIn qm_wins vm_nightHoles vm_nightFirst vm_nightMud vm_nightSlips vm_drawnNow) sz) := by
  refine Met.ofW (cc := cX12_fault) (maxL := 2) (ret := (some .int)) (by decide) rfl ?_
  intro p e s m args below meth c s₁ B hml hv
  obtain ⟨rfl, hsz, hP, hE, hD0, hH⟩ := hv
  have hx := B.exec
  have hb := B.bytes
  have hr := B.returns
  have hts := atoms_spec (ws := wsX12_fault) B.pre
  have hown : s.vm.findClass RX12 = some m.cls := findClass_of_methodNamed B.named
  have hlocks := B.notSynchronized
  have hK := hE.1
  have hi12 : ∀ w ∈ u_ws RX12 TX12 45, w ∈ wsX12_fault := fun w h => List.mem_cons_of_mem _ (List.mem_append_right _ h)
  subst hsz
  have hD := hD0.self (sz := s.heap.size)
  generalize hAe : va_A (w_c_X12_fault cI cJ cB cZ cO qm vm_thrown qm_width qm_many qm_cells qm_moved qm_tape vm_taped vm_at vm_token vm_place vm_value vm_word vm_bad vm_badPlace vm_fault vm_faultPlace qm_lines qm_has qm_round qm_meets qm_stumble qm_isMud qm_cell qm_tune qm_change qm_isKept qm_steps qm_places qm_danced vm_runMost vm_runBegins qm_heardBy vm_fitMany vm_fitFirst vm_fitBeats vm_listenLeaves qm_there vm_metAt vm_metIn qm_wins vm_nightHoles vm_nightFirst vm_nightMud vm_nightSlips vm_drawnNow) s.heap.size = A at hD hH ⊢
  have hA : ∀ q : Nat, s.heap.size ≤ q → A q := fun q h => by rw [← hAe]; exact Or.inr h
  have hS : va_S A s.heap s.heap [] := va_S.rf
  obtain ⟨hP, hD⟩ : ct_B D A s.heap [mo qm vm_thrown qm_width qm_many qm_cells qm_moved qm_tape vm_taped vm_at vm_token vm_place vm_value vm_word vm_bad vm_badPlace vm_fault vm_faultPlace qm_lines qm_has qm_round qm_meets qm_stumble qm_isMud qm_cell qm_tune qm_change qm_isKept qm_steps qm_places qm_danced vm_runMost vm_runBegins qm_heardBy vm_fitMany vm_fitFirst vm_fitBeats vm_listenLeaves qm_there vm_metAt vm_metIn qm_wins vm_nightHoles vm_nightFirst vm_nightMud vm_nightSlips vm_drawnNow] := ⟨hP, hD⟩
  have hl := lv_entry ([.ref qm, .int a1]) (n := 2) (Nat.le_of_ble_eq_true rfl)
  rw [lg_entry_eq]
  generalize (lg_sl ([.ref qm, .int a1]) ++ List.replicate (2 - (lg_sl ([.ref qm, .int a1])).length) Slot.unset).toArray = ls at hl ⊢
  have hl : lv_has ls 2 [(0, .ref qm), (1, .int a1)] := hl
  obtain ⟨H, hHe⟩ : ∃ H : Heap, H = s.heap := ⟨_, rfl⟩
  rw [← hHe] at hP
  have hS : va_S A s.heap H [] := by rw [hHe]; exact va_S.rf
  refine ct_start hHe ?_
  refine lv_aload_n hx hb dX12_fault_0 rfl (lv_at hl 0 rfl) ?_
  refine lv_iconst (v := 0) hx hb dX12_fault_1 (by decide) ?_
  refine va_put (D := D) (ci := 12) (v := .int 0) (ty := .int) (C := RX12) (T := TX12) (N := 45) hx hb hts hi12 tyX12 tyX12_ok nmX12 hown hK hP hD hS 0 rfl rfl 0 (by decide) (hts (.fieldLink RX12 80 "OverHillModel" "thrown" "I") (by decide +kernel)) (fun _ h9 => h9) rfl (by decide +kernel) rfl rfl (Nat.le_of_ble_eq_true rfl) dX12_fault_2 (fun H locs hP hD hS => ?_)
  obtain ⟨hP, hD⟩ : ct_B D A H [mo qm 0 qm_width qm_many qm_cells qm_moved qm_tape vm_taped vm_at vm_token vm_place vm_value vm_word vm_bad vm_badPlace vm_fault vm_faultPlace qm_lines qm_has qm_round qm_meets qm_stumble qm_isMud qm_cell qm_tune qm_change qm_isKept qm_steps qm_places qm_danced vm_runMost vm_runBegins qm_heardBy vm_fitMany vm_fitFirst vm_fitBeats vm_listenLeaves qm_there vm_metAt vm_metIn qm_wins vm_nightHoles vm_nightFirst vm_nightMud vm_nightSlips vm_drawnNow] := ⟨hP, hD⟩
  refine lv_iload_n hx hb dX12_fault_5 rfl (lv_at hl 1 rfl) ?_
  refine lv_if_ne (tgt := 16) hx hb dX12_fault_6 (by decide) (fun hc => ?_) (fun hc => ?_)
  · have hq1 : a1.toInt ≠ 0 := tq_ne rfl (by decide) hc
    have hb2 := tq_lo a1
    refine lv_iload_n hx hb dX12_fault_16 rfl (lv_at hl 1 rfl) ?_
    refine lv_iconst (v := 1) hx hb dX12_fault_17 (by decide) ?_
    refine lv_icmp_ne (tgt := 28) hx hb dX12_fault_18 (by decide) (fun hc => ?_) (fun hc => ?_)
    · have hq3 : a1.toInt ≠ 1 := tq_ne rfl (by decide) hc
      have hb4 := tq_lo a1
      refine lv_iconst (v := (-1)) hx hb dX12_fault_28 (by decide) ?_
      obtain ⟨hP9, hD9⟩ : ct_B D A H [mo qm 0 qm_width qm_many qm_cells qm_moved qm_tape vm_taped vm_at vm_token vm_place vm_value vm_word vm_bad vm_badPlace vm_fault vm_faultPlace qm_lines qm_has qm_round qm_meets qm_stumble qm_isMud qm_cell qm_tune qm_change qm_isKept qm_steps qm_places qm_danced vm_runMost vm_runBegins qm_heardBy vm_fitMany vm_fitFirst vm_fitBeats vm_listenLeaves qm_there vm_metAt vm_metIn qm_wins vm_nightHoles vm_nightFirst vm_nightMud vm_nightSlips vm_drawnNow] := ⟨hP.sub [0] rfl, hD.sub [0] (by decide) rfl⟩
      exact W.iret (v := (-1)) hx hb hr (fun t ht hW => ⟨⟨(-1), (0 : Int32), rfl, trivial, by rw [ht]; exact hP9, hD9⟩, hS.F ht⟩) hS.2.2 dX12_fault_29
    · have hq3 : a1.toInt = 1 := tq_eq rfl (by decide) hc
      have hb5 := tq_lo a1
      refine lv_aload_n hx hb dX12_fault_21 rfl (lv_at hl 0 rfl) ?_
      refine va_get (D := D) (ci := 12) (v := .int vm_faultPlace) (C := RX12) (T := TX12) (N := 45) hx hb hts hi12 hown hK hP 0 rfl rfl 15 (by decide) (hts (.fieldLink RX12 27 "OverHillModel" "faultPlace" "I") (by decide +kernel)) (fun _ h9 => h9) rfl dX12_fault_22 ?_
      refine lv_goto (tgt := 29) hx hb dX12_fault_25 (by decide) ?_
      obtain ⟨hP9, hD9⟩ : ct_B D A H [mo qm 0 qm_width qm_many qm_cells qm_moved qm_tape vm_taped vm_at vm_token vm_place vm_value vm_word vm_bad vm_badPlace vm_fault vm_faultPlace qm_lines qm_has qm_round qm_meets qm_stumble qm_isMud qm_cell qm_tune qm_change qm_isKept qm_steps qm_places qm_danced vm_runMost vm_runBegins qm_heardBy vm_fitMany vm_fitFirst vm_fitBeats vm_listenLeaves qm_there vm_metAt vm_metIn qm_wins vm_nightHoles vm_nightFirst vm_nightMud vm_nightSlips vm_drawnNow] := ⟨hP.sub [0] rfl, hD.sub [0] (by decide) rfl⟩
      exact W.iret (v := vm_faultPlace) hx hb hr (fun t ht hW => ⟨⟨vm_faultPlace, (0 : Int32), rfl, trivial, by rw [ht]; exact hP9, hD9⟩, hS.F ht⟩) hS.2.2 dX12_fault_29
  · have hq1 : a1.toInt = 0 := tq_eq rfl (by decide) hc
    have hb6 := tq_lo a1
    refine lv_aload_n hx hb dX12_fault_9 rfl (lv_at hl 0 rfl) ?_
    refine va_get (D := D) (ci := 12) (v := .int vm_fault) (C := RX12) (T := TX12) (N := 45) hx hb hts hi12 hown hK hP 0 rfl rfl 14 (by decide) (hts (.fieldLink RX12 159 "OverHillModel" "fault" "I") (by decide +kernel)) (fun _ h9 => h9) rfl dX12_fault_10 ?_
    refine lv_goto (tgt := 29) hx hb dX12_fault_13 (by decide) ?_
    obtain ⟨hP9, hD9⟩ : ct_B D A H [mo qm 0 qm_width qm_many qm_cells qm_moved qm_tape vm_taped vm_at vm_token vm_place vm_value vm_word vm_bad vm_badPlace vm_fault vm_faultPlace qm_lines qm_has qm_round qm_meets qm_stumble qm_isMud qm_cell qm_tune qm_change qm_isKept qm_steps qm_places qm_danced vm_runMost vm_runBegins qm_heardBy vm_fitMany vm_fitFirst vm_fitBeats vm_listenLeaves qm_there vm_metAt vm_metIn qm_wins vm_nightHoles vm_nightFirst vm_nightMud vm_nightSlips vm_drawnNow] := ⟨hP.sub [0] rfl, hD.sub [0] (by decide) rfl⟩
    exact W.iret (v := vm_fault) hx hb hr (fun t ht hW => ⟨⟨vm_fault, (0 : Int32), rfl, trivial, by rw [ht]; exact hP9, hD9⟩, hS.F ht⟩) hS.2.2 dX12_fault_29
