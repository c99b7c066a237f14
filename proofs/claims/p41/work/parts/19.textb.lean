abbrev w_c_J0_coder_7d493 (cI cJ cB cZ cO : ClassId)  : va_W := []
set_option maxHeartbeats 4000000 in
set_option maxRecDepth 100000 in
/-- J0 coder 7d493 -/
theorem c_J0_coder_7d493 (l : Launch) (D : va_G) (G : ct_G) (cI cJ cB cZ cO : ClassId) (k : Nat) (hk : k < 16) (sz : Nat) : Met l yJ0_coder_7d493 wsJ0_coder_7d493 ({ frames := 0, cells := 0, slots := 0, locals := 0 }) (va_Pc [.ref (G.1 k)] (ct_P D (ct_T cI cJ cB cZ cO) G (w_c_J0_coder_7d493 cI cJ cB cZ cO ) sz)) (va_Qi (fun (rz : Int32) (u : Unit) => ((rz = 0 ∧ True))) (fun (u : Unit) t => ct_Q D (va_A (w_c_J0_coder_7d493 cI cJ cB cZ cO ) sz) [] t) (va_A (w_c_J0_coder_7d493 cI cJ cB cZ cO ) sz)) 0 0 (va_A (w_c_J0_coder_7d493 cI cJ cB cZ cO ) sz) := by
  refine Met.ofW (cc := cJ0_coder_7d493) (maxL := 1) (ret := (some .byte)) (by decide) rfl ?_
  intro p e s m args below meth c s₁ B hml hv
  obtain ⟨rfl, hsz, hP, hE, hD0, hH⟩ := hv
  have hx := B.exec
  have hb := B.bytes
  have hr := B.returns
  have hts := atoms_spec (ws := wsJ0_coder_7d493) B.pre
  have hown : s.vm.findClass RJ0 = some m.cls := findClass_of_methodNamed B.named
  have hlocks := B.notSynchronized
  have hK := hE.1
  subst hsz
  have hD := hD0.self (sz := s.heap.size)
  generalize hAe : va_A (w_c_J0_coder_7d493 cI cJ cB cZ cO ) s.heap.size = A at hD hH ⊢
  have hA : ∀ q : Nat, s.heap.size ≤ q → A q := fun q h => by rw [← hAe]; exact Or.inr h
  have hS : va_S A s.heap s.heap [] := va_S.rf
  obtain ⟨hP, hD⟩ : ct_B D A s.heap [] := ⟨hP, hD⟩
  have hl := lv_entry ([.ref (G.1 k)]) (n := 1) (Nat.le_of_ble_eq_true rfl)
  rw [lg_entry_eq]
  generalize (lg_sl ([.ref (G.1 k)]) ++ List.replicate (1 - (lg_sl ([.ref (G.1 k)])).length) Slot.unset).toArray = ls at hl ⊢
  have hl : lv_has ls 1 [(0, .ref (G.1 k))] := hl
  obtain ⟨H, hHe⟩ : ∃ H : Heap, H = s.heap := ⟨_, rfl⟩
  rw [← hHe] at hP
  have hS : va_S A s.heap H [] := by rw [hHe]; exact va_S.rf
  refine ct_start hHe ?_
  refine va_gets hx hb hH.2.1 hS hown (hts (.fieldLink RJ0 38 "java/lang/String" "COMPACT_STRINGS" "Z") (by decide +kernel)) (fun _ h9 => h9) dJ0_coder_7d493_0 ?_
  refine lv_if_eq (tgt := 13) hx hb dJ0_coder_7d493_3 (by decide) (fun hc => absurd hc (by decide)) (fun _ => ?_)
  refine lv_aload_n hx hb dJ0_coder_7d493_6 rfl (lv_at hl 0 rfl) ?_
  refine vk_getf hx hb (hH.1.1 k hk).2.1 hS hown (hts (.fieldLink RJ0 15 "java/lang/String" "coder" "B") (by decide +kernel)) (fun _ h9 => h9) dJ0_coder_7d493_7 ?_
  refine lv_goto (tgt := 14) hx hb dJ0_coder_7d493_10 (by decide) ?_
  obtain ⟨hP9, hD9⟩ : ct_B D A H [] := ⟨hP.sub [] rfl, hD.sub [] (by decide) rfl⟩
  exact W.zret (v := 0) (ty := .byte) hx hb hr rfl (fun t ht hW => ⟨⟨0, (), rfl, (⟨rfl, trivial⟩), by rw [ht]; exact hP9, hD9⟩, hS.F ht⟩) hS.2.2 dJ0_coder_7d493_14
abbrev w_c_J0_isLatin1_aae02 (cI cJ cB cZ cO : ClassId)  : va_W := []
set_option maxHeartbeats 4000000 in
set_option maxRecDepth 100000 in
/-- J0 isLatin1 aae02 -/
theorem c_J0_isLatin1_aae02 (l : Launch) (D : va_G) (G : ct_G) (cI cJ cB cZ cO : ClassId) (k : Nat) (hk : k < 16) (sz : Nat) : Met l yJ0_isLatin1_aae02 wsJ0_isLatin1_aae02 ({ frames := 0, cells := 0, slots := 0, locals := 0 }) (va_Pc [.ref (G.1 k)] (ct_P D (ct_T cI cJ cB cZ cO) G (w_c_J0_isLatin1_aae02 cI cJ cB cZ cO ) sz)) (va_Qi (fun (rz : Int32) (u : Unit) => ((rz = 1 ∧ True))) (fun (u : Unit) t => ct_Q D (va_A (w_c_J0_isLatin1_aae02 cI cJ cB cZ cO ) sz) [] t) (va_A (w_c_J0_isLatin1_aae02 cI cJ cB cZ cO ) sz)) 0 0 (va_A (w_c_J0_isLatin1_aae02 cI cJ cB cZ cO ) sz) := by
  refine Met.ofW (cc := cJ0_isLatin1_aae02) (maxL := 1) (ret := (some .boolean)) (by decide) rfl ?_
  intro p e s m args below meth c s₁ B hml hv
  obtain ⟨rfl, hsz, hP, hE, hD0, hH⟩ := hv
  have hx := B.exec
  have hb := B.bytes
  have hr := B.returns
  have hts := atoms_spec (ws := wsJ0_isLatin1_aae02) B.pre
  have hown : s.vm.findClass RJ0 = some m.cls := findClass_of_methodNamed B.named
  have hlocks := B.notSynchronized
  have hK := hE.1
  subst hsz
  have hD := hD0.self (sz := s.heap.size)
  generalize hAe : va_A (w_c_J0_isLatin1_aae02 cI cJ cB cZ cO ) s.heap.size = A at hD hH ⊢
  have hA : ∀ q : Nat, s.heap.size ≤ q → A q := fun q h => by rw [← hAe]; exact Or.inr h
  have hS : va_S A s.heap s.heap [] := va_S.rf
  obtain ⟨hP, hD⟩ : ct_B D A s.heap [] := ⟨hP, hD⟩
  have hl := lv_entry ([.ref (G.1 k)]) (n := 1) (Nat.le_of_ble_eq_true rfl)
  rw [lg_entry_eq]
  generalize (lg_sl ([.ref (G.1 k)]) ++ List.replicate (1 - (lg_sl ([.ref (G.1 k)])).length) Slot.unset).toArray = ls at hl ⊢
  have hl : lv_has ls 1 [(0, .ref (G.1 k))] := hl
  obtain ⟨H, hHe⟩ : ∃ H : Heap, H = s.heap := ⟨_, rfl⟩
  rw [← hHe] at hP
  have hS : va_S A s.heap H [] := by rw [hHe]; exact va_S.rf
  refine ct_start hHe ?_
  refine va_gets hx hb hH.2.1 hS hown (hts (.fieldLink RJ0 38 "java/lang/String" "COMPACT_STRINGS" "Z") (by decide +kernel)) (fun _ h9 => h9) dJ0_isLatin1_aae02_0 ?_
  refine lv_if_eq (tgt := 17) hx hb dJ0_isLatin1_aae02_3 (by decide) (fun hc => absurd hc (by decide)) (fun _ => ?_)
  refine lv_aload_n hx hb dJ0_isLatin1_aae02_6 rfl (lv_at hl 0 rfl) ?_
  refine vk_getf hx hb (hH.1.1 k hk).2.1 hS hown (hts (.fieldLink RJ0 15 "java/lang/String" "coder" "B") (by decide +kernel)) (fun _ h9 => h9) dJ0_isLatin1_aae02_7 ?_
  refine lv_if_ne (tgt := 17) hx hb dJ0_isLatin1_aae02_10 (by decide) (fun hc => absurd hc (by decide)) (fun _ => ?_)
  refine lv_iconst (v := 1) hx hb dJ0_isLatin1_aae02_13 (by decide) ?_
  refine lv_goto (tgt := 18) hx hb dJ0_isLatin1_aae02_14 (by decide) ?_
  obtain ⟨hP9, hD9⟩ : ct_B D A H [] := ⟨hP.sub [] rfl, hD.sub [] (by decide) rfl⟩
  exact W.zret (v := 1) (ty := .boolean) hx hb hr rfl (fun t ht hW => ⟨⟨1, (), rfl, (⟨rfl, trivial⟩), by rw [ht]; exact hP9, hD9⟩, hS.F ht⟩) hS.2.2 dJ0_isLatin1_aae02_18
abbrev w_c_J0_length_8abf5 (cI cJ cB cZ cO : ClassId)  : va_W := []
set_option maxHeartbeats 4000000 in
set_option maxRecDepth 100000 in
/-- J0 length 8abf5 -/
theorem c_J0_length_8abf5 (l : Launch) (D : va_G) (G : ct_G) (cI cJ cB cZ cO : ClassId) (k : Nat) (hk : k < 16) (sz : Nat) : Met l yJ0_length_8abf5 wsJ0_length_8abf5 ({ frames := 1, cells := 0, slots := 0, locals := 20 }) (va_Pc [.ref (G.1 k)] (ct_P D (ct_T cI cJ cB cZ cO) G (w_c_J0_length_8abf5 cI cJ cB cZ cO ) sz)) (va_Qi (fun (rz : Int32) (u : Unit) => (rz.toInt = (ct_len.getD k 0 : Int) ∧ 2 ≤ rz.toInt ∧ rz.toInt ≤ 7)) (fun (u : Unit) t => ct_Q D (va_A (w_c_J0_length_8abf5 cI cJ cB cZ cO ) sz) [] t) (va_A (w_c_J0_length_8abf5 cI cJ cB cZ cO ) sz)) 0 0 (va_A (w_c_J0_length_8abf5 cI cJ cB cZ cO ) sz) := by
  refine Met.ofW (cc := cJ0_length_8abf5) (maxL := 1) (ret := (some .int)) (by decide) rfl ?_
  intro p e s m args below meth c s₁ B hml hv
  obtain ⟨rfl, hsz, hP, hE, hD0, hH⟩ := hv
  have hx := B.exec
  have hb := B.bytes
  have hr := B.returns
  have hts := atoms_spec (ws := wsJ0_length_8abf5) B.pre
  have hown : s.vm.findClass RJ0 = some m.cls := findClass_of_methodNamed B.named
  have hlocks := B.notSynchronized
  have hK := hE.1
  subst hsz
  have hD := hD0.self (sz := s.heap.size)
  generalize hAe : va_A (w_c_J0_length_8abf5 cI cJ cB cZ cO ) s.heap.size = A at hD hH ⊢
  have hA : ∀ q : Nat, s.heap.size ≤ q → A q := fun q h => by rw [← hAe]; exact Or.inr h
  have hS : va_S A s.heap s.heap [] := va_S.rf
  obtain ⟨hP, hD⟩ : ct_B D A s.heap [] := ⟨hP, hD⟩
  have hl := lv_entry ([.ref (G.1 k)]) (n := 1) (Nat.le_of_ble_eq_true rfl)
  rw [lg_entry_eq]
  generalize (lg_sl ([.ref (G.1 k)]) ++ List.replicate (1 - (lg_sl ([.ref (G.1 k)])).length) Slot.unset).toArray = ls at hl ⊢
  have hl : lv_has ls 1 [(0, .ref (G.1 k))] := hl
  obtain ⟨H, hHe⟩ : ∃ H : Heap, H = s.heap := ⟨_, rfl⟩
  rw [← hHe] at hP
  have hS : va_S A s.heap H [] := by rw [hHe]; exact va_S.rf
  refine ct_start hHe ?_
  refine lv_aload_n hx hb dJ0_length_8abf5_0 rfl (lv_at hl 0 rfl) ?_
  refine vk_getf hx hb (hH.1.1 k hk).2.2.1 hS hown (hts (.fieldLink RJ0 9 "java/lang/String" "value" "[B") (by decide +kernel)) (fun _ h9 => h9) dJ0_length_8abf5_1 ?_
  refine va_tlen hx hb (hH.1.1 k hk).2.2.2 hS (v := _) rfl dJ0_length_8abf5_4 ?_
  refine lv_topi (fun z1 ez1 => ?_)
  have fz1 : z1.toInt = (ct_len.getD k 0 : Int) ∧ 2 ≤ z1.toInt ∧ z1.toInt ≤ 7 := by rw [ez1]; exact ct_len_ok k hk
  refine lv_aload_n hx hb dJ0_length_8abf5_5 rfl (lv_at hl 0 rfl) ?_
  refine ct_calli (D := D) (wr := []) (va_runV (As := []) (rest := [.int z1]) ⟨hx, hb, hml, hown, hts⟩ (c_J0_coder_7d493 l D G cI cJ cB cZ cO k hk H.size) (cwV 0 hts gJ0_length_8abf5_J0_coder_7d493 rfl rfl rfl (by decide +kernel) ⟨Nat.le_of_ble_eq_true rfl, Nat.le_of_ble_eq_true rfl⟩) (ct_preK (T := ct_T cI cJ cB cZ cO) hE hH hP hD hS hA hk [] (by decide) rfl) rfl rfl hl.1 rfl (lv_room (Nat.le_of_ble_eq_true rfl)) dJ0_length_8abf5_6 ⟨Nat.le_of_ble_eq_true rfl, Nat.le_of_ble_eq_true rfl⟩) hP hD hS hA [] [] rfl rfl (by decide) (by decide) (fun r2 u H locs hw hP hD hS => ?_)
  obtain ⟨hP, hD⟩ : ct_B D A H [] := ⟨hP, hD⟩
  have hz := hw
  obtain ⟨hz, hz2⟩ := hz
  subst hz
  refine lv_ishr hx hb dJ0_length_8abf5_9 ?_
  refine lv_topi (fun z3 ez3 => ?_)
  have fz3 : z3.toInt = z1.toInt := by rw [ez3]; exact tq_shr0 rfl
  obtain ⟨hP9, hD9⟩ : ct_B D A H [] := ⟨hP.sub [] rfl, hD.sub [] (by decide) rfl⟩
  exact W.iret (v := z3) hx hb hr (fun t ht hW => ⟨⟨z3, (), rfl, (show z3.toInt = (ct_len.getD k 0 : Int) ∧ 2 ≤ z3.toInt ∧ z3.toInt ≤ 7 by omega), by rw [ht]; exact hP9, hD9⟩, hS.F ht⟩) hS.2.2 dJ0_length_8abf5_10
abbrev w_c_J3_checkIndexN (cI cJ cB cZ cO : ClassId)  : va_W := []
set_option maxHeartbeats 4000000 in
set_option maxRecDepth 100000 in
/-- J3 checkIndex 8e157 -/
theorem c_J3_checkIndexN (l : Launch) (D : va_G) (G : ct_G) (cI cJ cB cZ cO : ClassId) (a1 : Int32) (a2 : Int32) (h_i : 0 ≤ a1.toInt ∧ a1.toInt < a2.toInt) (sz : Nat) : Met l yJ3_checkIndex_8e157 wsJ3_checkIndex_8e157 ({ frames := 0, cells := 0, slots := 0, locals := 0 }) (va_Pc [.int a1, .int a2, .null] (ct_P D (ct_T cI cJ cB cZ cO) G (w_c_J3_checkIndexN cI cJ cB cZ cO ) sz)) (va_Qi (fun (rz : Int32) (u : Unit) => (0 ≤ rz.toInt ∧ rz.toInt ≤ 2147483646)) (fun (u : Unit) t => ct_Q D (va_A (w_c_J3_checkIndexN cI cJ cB cZ cO ) sz) [] t) (va_A (w_c_J3_checkIndexN cI cJ cB cZ cO ) sz)) 0 0 (va_A (w_c_J3_checkIndexN cI cJ cB cZ cO ) sz) := by
  refine Met.ofW (cc := cJ3_checkIndex_8e157) (maxL := 3) (ret := (some .int)) (by decide) rfl ?_
  intro p e s m args below meth c s₁ B hml hv
  obtain ⟨rfl, hsz, hP, hE, hD0, hH⟩ := hv
  have hx := B.exec
  have hb := B.bytes
  have hr := B.returns
  have hts := atoms_spec (ws := wsJ3_checkIndex_8e157) B.pre
  have hown : s.vm.findClass RJ3 = some m.cls := findClass_of_methodNamed B.named
  have hlocks := B.notSynchronized
  have hK := hE.1
  subst hsz
  have hD := hD0.self (sz := s.heap.size)
  generalize hAe : va_A (w_c_J3_checkIndexN cI cJ cB cZ cO ) s.heap.size = A at hD hH ⊢
  have hA : ∀ q : Nat, s.heap.size ≤ q → A q := fun q h => by rw [← hAe]; exact Or.inr h
  have hS : va_S A s.heap s.heap [] := va_S.rf
  obtain ⟨hP, hD⟩ : ct_B D A s.heap [] := ⟨hP, hD⟩
  have hl := lv_entry ([.int a1, .int a2, .null]) (n := 3) (Nat.le_of_ble_eq_true rfl)
  rw [lg_entry_eq]
  generalize (lg_sl ([.int a1, .int a2, .null]) ++ List.replicate (3 - (lg_sl ([.int a1, .int a2, .null])).length) Slot.unset).toArray = ls at hl ⊢
  have hl : lv_has ls 3 [(0, .int a1), (1, .int a2), (2, .null)] := hl
  obtain ⟨H, hHe⟩ : ∃ H : Heap, H = s.heap := ⟨_, rfl⟩
  rw [← hHe] at hP
  have hS : va_S A s.heap H [] := by rw [hHe]; exact va_S.rf
  refine ct_start hHe ?_
  refine lv_iload_n hx hb dJ3_checkIndex_8e157_0 rfl (lv_at hl 0 rfl) ?_
  refine lv_if_lt (tgt := 9) hx hb dJ3_checkIndex_8e157_1 (by decide) (fun hc => ?_) (fun hc => ?_)
  · have hq1 : a1.toInt < 0 := tq_lt rfl (by decide) hc
    have hb2 := tq_lo a1
    omega
  · have hq1 : 0 ≤ a1.toInt := tq_nlt rfl (by decide) hc
    have hb3 := tq_lo a1
    refine lv_iload_n hx hb dJ3_checkIndex_8e157_4 rfl (lv_at hl 0 rfl) ?_
    refine lv_iload_n hx hb dJ3_checkIndex_8e157_5 rfl (lv_at hl 1 rfl) ?_
    refine lv_icmp_lt (tgt := 16) hx hb dJ3_checkIndex_8e157_6 (by decide) (fun hc => ?_) (fun hc => ?_)
    · have hq4 : a1.toInt < a2.toInt := tq_lt rfl rfl hc
      have hb5 := tq_lo a1
      have hb6 := tq_lo a2
      refine lv_iload_n hx hb dJ3_checkIndex_8e157_16 rfl (lv_at hl 0 rfl) ?_
      obtain ⟨hP9, hD9⟩ : ct_B D A H [] := ⟨hP.sub [] rfl, hD.sub [] (by decide) rfl⟩
      exact W.iret (v := a1) hx hb hr (fun t ht hW => ⟨⟨a1, (), rfl, (show 0 ≤ a1.toInt ∧ a1.toInt ≤ 2147483646 by omega), by rw [ht]; exact hP9, hD9⟩, hS.F ht⟩) hS.2.2 dJ3_checkIndex_8e157_17
    · have hq4 : a2.toInt ≤ a1.toInt := tq_nlt rfl rfl hc
      have hb7 := tq_lo a1
      have hb8 := tq_lo a2
      omega
abbrev w_c_J3_checkIndexR (cI cJ cB cZ cO : ClassId)  : va_W := []
set_option maxHeartbeats 4000000 in
set_option maxRecDepth 100000 in
/-- J3 checkIndex 8e157 -/
theorem c_J3_checkIndexR (l : Launch) (D : va_G) (G : ct_G) (cI cJ cB cZ cO : ClassId) (a1 : Int32) (a2 : Int32) (t : Nat) (h_i : 0 ≤ a1.toInt ∧ a1.toInt < a2.toInt) (sz : Nat) : Met l yJ3_checkIndex_8e157 wsJ3_checkIndex_8e157 ({ frames := 0, cells := 0, slots := 0, locals := 0 }) (va_Pc [.int a1, .int a2, .ref t] (ct_P D (ct_T cI cJ cB cZ cO) G (w_c_J3_checkIndexR cI cJ cB cZ cO ) sz)) (va_Qi (fun (rz : Int32) (u : Unit) => (0 ≤ rz.toInt ∧ rz.toInt ≤ 2147483646)) (fun (u : Unit) t => ct_Q D (va_A (w_c_J3_checkIndexR cI cJ cB cZ cO ) sz) [] t) (va_A (w_c_J3_checkIndexR cI cJ cB cZ cO ) sz)) 0 0 (va_A (w_c_J3_checkIndexR cI cJ cB cZ cO ) sz) := by
  refine Met.ofW (cc := cJ3_checkIndex_8e157) (maxL := 3) (ret := (some .int)) (by decide) rfl ?_
  intro p e s m args below meth c s₁ B hml hv
  obtain ⟨rfl, hsz, hP, hE, hD0, hH⟩ := hv
  have hx := B.exec
  have hb := B.bytes
  have hr := B.returns
  have hts := atoms_spec (ws := wsJ3_checkIndex_8e157) B.pre
  have hown : s.vm.findClass RJ3 = some m.cls := findClass_of_methodNamed B.named
  have hlocks := B.notSynchronized
  have hK := hE.1
  subst hsz
  have hD := hD0.self (sz := s.heap.size)
  generalize hAe : va_A (w_c_J3_checkIndexR cI cJ cB cZ cO ) s.heap.size = A at hD hH ⊢
  have hA : ∀ q : Nat, s.heap.size ≤ q → A q := fun q h => by rw [← hAe]; exact Or.inr h
  have hS : va_S A s.heap s.heap [] := va_S.rf
  obtain ⟨hP, hD⟩ : ct_B D A s.heap [] := ⟨hP, hD⟩
  have hl := lv_entry ([.int a1, .int a2, .ref t]) (n := 3) (Nat.le_of_ble_eq_true rfl)
  rw [lg_entry_eq]
  generalize (lg_sl ([.int a1, .int a2, .ref t]) ++ List.replicate (3 - (lg_sl ([.int a1, .int a2, .ref t])).length) Slot.unset).toArray = ls at hl ⊢
  have hl : lv_has ls 3 [(0, .int a1), (1, .int a2), (2, .ref t)] := hl
  obtain ⟨H, hHe⟩ : ∃ H : Heap, H = s.heap := ⟨_, rfl⟩
  rw [← hHe] at hP
  have hS : va_S A s.heap H [] := by rw [hHe]; exact va_S.rf
  refine ct_start hHe ?_
  refine lv_iload_n hx hb dJ3_checkIndex_8e157_0 rfl (lv_at hl 0 rfl) ?_
  refine lv_if_lt (tgt := 9) hx hb dJ3_checkIndex_8e157_1 (by decide) (fun hc => ?_) (fun hc => ?_)
  · have hq1 : a1.toInt < 0 := tq_lt rfl (by decide) hc
    have hb2 := tq_lo a1
    omega
  · have hq1 : 0 ≤ a1.toInt := tq_nlt rfl (by decide) hc
    have hb3 := tq_lo a1
    refine lv_iload_n hx hb dJ3_checkIndex_8e157_4 rfl (lv_at hl 0 rfl) ?_
    refine lv_iload_n hx hb dJ3_checkIndex_8e157_5 rfl (lv_at hl 1 rfl) ?_
    refine lv_icmp_lt (tgt := 16) hx hb dJ3_checkIndex_8e157_6 (by decide) (fun hc => ?_) (fun hc => ?_)
    · have hq4 : a1.toInt < a2.toInt := tq_lt rfl rfl hc
      have hb5 := tq_lo a1
      have hb6 := tq_lo a2
      refine lv_iload_n hx hb dJ3_checkIndex_8e157_16 rfl (lv_at hl 0 rfl) ?_
      obtain ⟨hP9, hD9⟩ : ct_B D A H [] := ⟨hP.sub [] rfl, hD.sub [] (by decide) rfl⟩
      exact W.iret (v := a1) hx hb hr (fun t ht hW => ⟨⟨a1, (), rfl, (show 0 ≤ a1.toInt ∧ a1.toInt ≤ 2147483646 by omega), by rw [ht]; exact hP9, hD9⟩, hS.F ht⟩) hS.2.2 dJ3_checkIndex_8e157_17
    · have hq4 : a2.toInt ≤ a1.toInt := tq_nlt rfl rfl hc
      have hb7 := tq_lo a1
      have hb8 := tq_lo a2
      omega
abbrev w_c_J0_checkIndex (cI cJ cB cZ cO : ClassId)  : va_W := []
set_option maxHeartbeats 4000000 in
set_option maxRecDepth 100000 in
/-- J0 checkIndex df160 -/
theorem c_J0_checkIndex (l : Launch) (D : va_G) (G : ct_G) (cI cJ cB cZ cO : ClassId) (a1 : Int32) (a2 : Int32) (h_i : 0 ≤ a1.toInt ∧ a1.toInt < a2.toInt) (sz : Nat) : Met l yJ0_checkIndex_df160 wsJ0_checkIndex_df160 ({ frames := 1, cells := 0, slots := 0, locals := 22 }) (va_Pc [.int a1, .int a2] (ct_P D (ct_T cI cJ cB cZ cO) G (w_c_J0_checkIndex cI cJ cB cZ cO ) sz)) (va_Qv (fun (u : Unit) => True) (fun (u : Unit) t => ct_Q D (va_A (w_c_J0_checkIndex cI cJ cB cZ cO ) sz) [] t) (va_A (w_c_J0_checkIndex cI cJ cB cZ cO ) sz)) 0 0 (va_A (w_c_J0_checkIndex cI cJ cB cZ cO ) sz) := by
  refine Met.ofW (cc := cJ0_checkIndex_df160) (maxL := 2) (ret := none) (by decide) rfl ?_
  intro p e s m args below meth c s₁ B hml hv
  obtain ⟨rfl, hsz, hP, hE, hD0, hH⟩ := hv
  have hx := B.exec
  have hb := B.bytes
  have hr := B.returns
  have hts := atoms_spec (ws := wsJ0_checkIndex_df160) B.pre
  have hown : s.vm.findClass RJ0 = some m.cls := findClass_of_methodNamed B.named
  have hlocks := B.notSynchronized
  have hK := hE.1
  subst hsz
  have hD := hD0.self (sz := s.heap.size)
  generalize hAe : va_A (w_c_J0_checkIndex cI cJ cB cZ cO ) s.heap.size = A at hD hH ⊢
  have hA : ∀ q : Nat, s.heap.size ≤ q → A q := fun q h => by rw [← hAe]; exact Or.inr h
  have hS : va_S A s.heap s.heap [] := va_S.rf
  obtain ⟨hP, hD⟩ : ct_B D A s.heap [] := ⟨hP, hD⟩
  have hl := lv_entry ([.int a1, .int a2]) (n := 2) (Nat.le_of_ble_eq_true rfl)
  rw [lg_entry_eq]
  generalize (lg_sl ([.int a1, .int a2]) ++ List.replicate (2 - (lg_sl ([.int a1, .int a2])).length) Slot.unset).toArray = ls at hl ⊢
  have hl : lv_has ls 2 [(0, .int a1), (1, .int a2)] := hl
  obtain ⟨H, hHe⟩ : ∃ H : Heap, H = s.heap := ⟨_, rfl⟩
  rw [← hHe] at hP
  have hS : va_S A s.heap H [] := by rw [hHe]; exact va_S.rf
  refine ct_start hHe ?_
  refine lv_iload_n hx hb dJ0_checkIndex_df160_0 rfl (lv_at hl 0 rfl) ?_
  refine lv_iload_n hx hb dJ0_checkIndex_df160_1 rfl (lv_at hl 1 rfl) ?_
  rcases hH.2.2.2.2 with h9 | ⟨tt, h9⟩
  · refine va_gets hx hb h9 hS hown (hts (.fieldLink RJ0 1053 "jdk/internal/util/Preconditions" "SIOOBE_FORMATTER" "Ljava/util/function/BiFunction;") (by decide +kernel)) (fun _ h9 => h9) dJ0_checkIndex_df160_2 ?_
    refine ct_calli (D := D) (wr := []) (va_runS (As := [.int a1, .int a2, .null]) (rest := []) ⟨hx, hb, hml, hown, hts⟩ (c_J3_checkIndexN l D G cI cJ cB cZ cO a1 a2 (by omega) H.size) (va_cwS 3 hts gJ0_checkIndex_df160_J3_checkIndex_8e157 rfl rfl rfl (by decide +kernel) ⟨Nat.le_of_ble_eq_true rfl, Nat.le_of_ble_eq_true rfl⟩) (ct_preS (T := ct_T cI cJ cB cZ cO) hE hH hP hD hS hA [] (by decide) rfl) rfl rfl hl.1 rfl (lv_room (Nat.le_of_ble_eq_true rfl)) dJ0_checkIndex_df160_5 ⟨Nat.le_of_ble_eq_true rfl, Nat.le_of_ble_eq_true rfl⟩) hP hD hS hA [] [] rfl rfl (by decide) (by decide) (fun r1 u H locs hw hP hD hS => ?_)
    obtain ⟨hP, hD⟩ : ct_B D A H [] := ⟨hP, hD⟩
    have hz := hw
    have h_r1 : 0 ≤ r1.toInt ∧ r1.toInt ≤ 2147483646 := hz
    refine lv_pop hx hb dJ0_checkIndex_df160_8 rfl ?_
    obtain ⟨hP9, hD9⟩ : ct_B D A H [] := ⟨hP.sub [] rfl, hD.sub [] (by decide) rfl⟩
    exact W.vret hx hb hr (fun t ht hW => ⟨⟨(), rfl, trivial, by rw [ht]; exact hP9, hD9⟩, hS.F ht⟩) hS.2.2 dJ0_checkIndex_df160_9
  · refine va_gets hx hb h9 hS hown (hts (.fieldLink RJ0 1053 "jdk/internal/util/Preconditions" "SIOOBE_FORMATTER" "Ljava/util/function/BiFunction;") (by decide +kernel)) (fun _ h9 => h9) dJ0_checkIndex_df160_2 ?_
    refine ct_calli (D := D) (wr := []) (va_runS (As := [.int a1, .int a2, .ref tt]) (rest := []) ⟨hx, hb, hml, hown, hts⟩ (c_J3_checkIndexR l D G cI cJ cB cZ cO a1 a2 tt (by omega) H.size) (va_cwS 3 hts gJ0_checkIndex_df160_J3_checkIndex_8e157 rfl rfl rfl (by decide +kernel) ⟨Nat.le_of_ble_eq_true rfl, Nat.le_of_ble_eq_true rfl⟩) (ct_preS (T := ct_T cI cJ cB cZ cO) hE hH hP hD hS hA [] (by decide) rfl) rfl rfl hl.1 rfl (lv_room (Nat.le_of_ble_eq_true rfl)) dJ0_checkIndex_df160_5 ⟨Nat.le_of_ble_eq_true rfl, Nat.le_of_ble_eq_true rfl⟩) hP hD hS hA [] [] rfl rfl (by decide) (by decide) (fun r2 u H locs hw hP hD hS => ?_)
    obtain ⟨hP, hD⟩ : ct_B D A H [] := ⟨hP, hD⟩
    have hz := hw
    have h_r2 : 0 ≤ r2.toInt ∧ r2.toInt ≤ 2147483646 := hz
    refine lv_pop hx hb dJ0_checkIndex_df160_8 rfl ?_
    obtain ⟨hP9, hD9⟩ : ct_B D A H [] := ⟨hP.sub [] rfl, hD.sub [] (by decide) rfl⟩
    exact W.vret hx hb hr (fun t ht hW => ⟨⟨(), rfl, trivial, by rw [ht]; exact hP9, hD9⟩, hS.F ht⟩) hS.2.2 dJ0_checkIndex_df160_9
abbrev w_c_J1_charAt_3b067 (cI cJ cB cZ cO : ClassId)  : va_W := []
set_option maxHeartbeats 4000000 in
set_option maxRecDepth 100000 in
/-- J1 charAt 3b067 -/
theorem c_J1_charAt_3b067 (l : Launch) (D : va_G) (G : ct_G) (cI cJ cB cZ cO : ClassId) (k : Nat) (a1 : Int32) (hk : k < 16) (h_i : 0 ≤ a1.toInt ∧ a1.toInt < (ct_len.getD k 0 : Int)) (sz : Nat) : Met l yJ1_charAt_3b067 wsJ1_charAt_3b067 ({ frames := 2, cells := 0, slots := 0, locals := 43 }) (va_Pc [.ref (G.2.1 k), .int a1] (ct_P D (ct_T cI cJ cB cZ cO) G (w_c_J1_charAt_3b067 cI cJ cB cZ cO ) sz)) (va_Qi (fun (rz : Int32) (u : Unit) => (narrow .char (.int rz) = .int rz)) (fun (u : Unit) t => ct_Q D (va_A (w_c_J1_charAt_3b067 cI cJ cB cZ cO ) sz) [] t) (va_A (w_c_J1_charAt_3b067 cI cJ cB cZ cO ) sz)) 0 0 (va_A (w_c_J1_charAt_3b067 cI cJ cB cZ cO ) sz) := by
  refine Met.ofW (cc := cJ1_charAt_3b067) (maxL := 2) (ret := (some .char)) (by decide) rfl ?_
  intro p e s m args below meth c s₁ B hml hv
  obtain ⟨rfl, hsz, hP, hE, hD0, hH⟩ := hv
  have hx := B.exec
  have hb := B.bytes
  have hr := B.returns
  have hts := atoms_spec (ws := wsJ1_charAt_3b067) B.pre
  have hown : s.vm.findClass RJ1 = some m.cls := findClass_of_methodNamed B.named
  have hlocks := B.notSynchronized
  have hK := hE.1
  subst hsz
  have hD := hD0.self (sz := s.heap.size)
  generalize hAe : va_A (w_c_J1_charAt_3b067 cI cJ cB cZ cO ) s.heap.size = A at hD hH ⊢
  have hA : ∀ q : Nat, s.heap.size ≤ q → A q := fun q h => by rw [← hAe]; exact Or.inr h
  have hS : va_S A s.heap s.heap [] := va_S.rf
  obtain ⟨hP, hD⟩ : ct_B D A s.heap [] := ⟨hP, hD⟩
  have hl := lv_entry ([.ref (G.2.1 k), .int a1]) (n := 2) (Nat.le_of_ble_eq_true rfl)
  rw [lg_entry_eq]
  generalize (lg_sl ([.ref (G.2.1 k), .int a1]) ++ List.replicate (2 - (lg_sl ([.ref (G.2.1 k), .int a1])).length) Slot.unset).toArray = ls at hl ⊢
  have hl : lv_has ls 2 [(0, .ref (G.2.1 k)), (1, .int a1)] := hl
  obtain ⟨H, hHe⟩ : ∃ H : Heap, H = s.heap := ⟨_, rfl⟩
  rw [← hHe] at hP
  have hS : va_S A s.heap H [] := by rw [hHe]; exact va_S.rf
  refine ct_start hHe ?_
  refine lv_iload_n hx hb dJ1_charAt_3b067_0 rfl (lv_at hl 1 rfl) ?_
  refine lv_aload_n hx hb dJ1_charAt_3b067_1 rfl (lv_at hl 0 rfl) ?_
  refine va_tlen hx hb (hH.1.1 k hk).2.2.2 hS (v := _) rfl dJ1_charAt_3b067_2 ?_
  refine lv_topi (fun z1 ez1 => ?_)
  have fz1 : z1.toInt = (ct_len.getD k 0 : Int) ∧ 2 ≤ z1.toInt ∧ z1.toInt ≤ 7 := by rw [ez1]; exact ct_len_ok k hk
  refine ct_callv (D := D) (wr := []) (va_runS (As := [.int a1, .int z1]) (rest := []) ⟨hx, hb, hml, hown, hts⟩ (c_J0_checkIndex l D G cI cJ cB cZ cO a1 z1 (by omega) H.size) (va_cwS 2 hts gJ1_charAt_3b067_J0_checkIndex_df160 rfl rfl rfl (by decide +kernel) ⟨Nat.le_of_ble_eq_true rfl, Nat.le_of_ble_eq_true rfl⟩) (ct_preS (T := ct_T cI cJ cB cZ cO) hE hH hP hD hS hA [] (by decide) rfl) rfl rfl hl.1 rfl (lv_room (Nat.le_of_ble_eq_true rfl)) dJ1_charAt_3b067_3 ⟨Nat.le_of_ble_eq_true rfl, Nat.le_of_ble_eq_true rfl⟩) hP hD hS hA [] [] rfl rfl (by decide) (by decide) (fun u H locs hw hP hD hS => ?_)
  obtain ⟨hP, hD⟩ : ct_B D A H [] := ⟨hP, hD⟩
  refine lv_aload_n hx hb dJ1_charAt_3b067_6 rfl (lv_at hl 0 rfl) ?_
  refine lv_iload_n hx hb dJ1_charAt_3b067_7 rfl (lv_at hl 1 rfl) ?_
  refine va_tb hx hb (hH.1.1 k hk).2.2.2 hS (tq_in rfl (by omega)) (v := _) rfl dJ1_charAt_3b067_8 ?_
  refine lv_topi (fun z2 ez2 => ?_)
  refine lv_sipush (v := 255) hx hb dJ1_charAt_3b067_9 (by decide) ?_
  refine lv_iand hx hb dJ1_charAt_3b067_12 ?_
  refine lv_topi (fun z3 ez3 => ?_)
  have fz3 : 0 ≤ z3.toInt ∧ z3.toInt ≤ 255 := by rw [ez3]; exact tq_and (c := 255) (by decide) (by omega)
  refine lv_i2c (v := _) hx hb dJ1_charAt_3b067_13 rfl ?_
  refine lv_topi (fun z4 ez4 => ?_)
  obtain ⟨hP9, hD9⟩ : ct_B D A H [] := ⟨hP.sub [] rfl, hD.sub [] (by decide) rfl⟩
  exact W.zret (v := z4) (ty := .char) hx hb hr (by rw [ez4]; exact ct_nar _) (fun t ht hW => ⟨⟨z4, (), rfl, (show narrow .char (.int z4) = .int z4 by rw [ez4]; exact ct_nar _), by rw [ht]; exact hP9, hD9⟩, hS.F ht⟩) hS.2.2 dJ1_charAt_3b067_14
abbrev w_c_J0_charAt_5068e (cI cJ cB cZ cO : ClassId)  : va_W := []
set_option maxHeartbeats 4000000 in
set_option maxRecDepth 100000 in
/-- J0 charAt 5068e -/
theorem c_J0_charAt_5068e (l : Launch) (D : va_G) (G : ct_G) (cI cJ cB cZ cO : ClassId) (k : Nat) (a1 : Int32) (hk : k < 16) (h_i : 0 ≤ a1.toInt ∧ a1.toInt < (ct_len.getD k 0 : Int)) (sz : Nat) : Met l yJ0_charAt_5068e wsJ0_charAt_5068e ({ frames := 3, cells := 0, slots := 0, locals := 64 }) (va_Pc [.ref (G.1 k), .int a1] (ct_P D (ct_T cI cJ cB cZ cO) G (w_c_J0_charAt_5068e cI cJ cB cZ cO ) sz)) (va_Qi (fun (rz : Int32) (u : Unit) => True) (fun (u : Unit) t => ct_Q D (va_A (w_c_J0_charAt_5068e cI cJ cB cZ cO ) sz) [] t) (va_A (w_c_J0_charAt_5068e cI cJ cB cZ cO ) sz)) 0 0 (va_A (w_c_J0_charAt_5068e cI cJ cB cZ cO ) sz) := by
  refine Met.ofW (cc := cJ0_charAt_5068e) (maxL := 2) (ret := (some .char)) (by decide) rfl ?_
  intro p e s m args below meth c s₁ B hml hv
  obtain ⟨rfl, hsz, hP, hE, hD0, hH⟩ := hv
  have hx := B.exec
  have hb := B.bytes
  have hr := B.returns
  have hts := atoms_spec (ws := wsJ0_charAt_5068e) B.pre
  have hown : s.vm.findClass RJ0 = some m.cls := findClass_of_methodNamed B.named
  have hlocks := B.notSynchronized
  have hK := hE.1
  subst hsz
  have hD := hD0.self (sz := s.heap.size)
  generalize hAe : va_A (w_c_J0_charAt_5068e cI cJ cB cZ cO ) s.heap.size = A at hD hH ⊢
  have hA : ∀ q : Nat, s.heap.size ≤ q → A q := fun q h => by rw [← hAe]; exact Or.inr h
  have hS : va_S A s.heap s.heap [] := va_S.rf
  obtain ⟨hP, hD⟩ : ct_B D A s.heap [] := ⟨hP, hD⟩
  have hl := lv_entry ([.ref (G.1 k), .int a1]) (n := 2) (Nat.le_of_ble_eq_true rfl)
  rw [lg_entry_eq]
  generalize (lg_sl ([.ref (G.1 k), .int a1]) ++ List.replicate (2 - (lg_sl ([.ref (G.1 k), .int a1])).length) Slot.unset).toArray = ls at hl ⊢
  have hl : lv_has ls 2 [(0, .ref (G.1 k)), (1, .int a1)] := hl
  obtain ⟨H, hHe⟩ : ∃ H : Heap, H = s.heap := ⟨_, rfl⟩
  rw [← hHe] at hP
  have hS : va_S A s.heap H [] := by rw [hHe]; exact va_S.rf
  refine ct_start hHe ?_
  refine lv_aload_n hx hb dJ0_charAt_5068e_0 rfl (lv_at hl 0 rfl) ?_
  refine ct_calli (D := D) (wr := []) (va_runV (As := []) (rest := []) ⟨hx, hb, hml, hown, hts⟩ (c_J0_isLatin1_aae02 l D G cI cJ cB cZ cO k hk H.size) (cwV 0 hts gJ0_charAt_5068e_J0_isLatin1_aae02 rfl rfl rfl (by decide +kernel) ⟨Nat.le_of_ble_eq_true rfl, Nat.le_of_ble_eq_true rfl⟩) (ct_preK (T := ct_T cI cJ cB cZ cO) hE hH hP hD hS hA hk [] (by decide) rfl) rfl rfl hl.1 rfl (lv_room (Nat.le_of_ble_eq_true rfl)) dJ0_charAt_5068e_1 ⟨Nat.le_of_ble_eq_true rfl, Nat.le_of_ble_eq_true rfl⟩) hP hD hS hA [] [] rfl rfl (by decide) (by decide) (fun r1 u H locs hw hP hD hS => ?_)
  obtain ⟨hP, hD⟩ : ct_B D A H [] := ⟨hP, hD⟩
  have hz := hw
  obtain ⟨hz, hz2⟩ := hz
  subst hz
  refine lv_if_eq (tgt := 16) hx hb dJ0_charAt_5068e_4 (by decide) (fun hc => absurd hc (by decide)) (fun _ => ?_)
  refine lv_aload_n hx hb dJ0_charAt_5068e_7 rfl (lv_at hl 0 rfl) ?_
  refine vk_getf hx hb (hH.1.1 k hk).2.2.1 hS hown (hts (.fieldLink RJ0 9 "java/lang/String" "value" "[B") (by decide +kernel)) (fun _ h9 => h9) dJ0_charAt_5068e_8 ?_
  refine lv_iload_n hx hb dJ0_charAt_5068e_11 rfl (lv_at hl 1 rfl) ?_
  refine ct_calli (D := D) (wr := []) (va_runS (As := [.ref (G.2.1 k), .int a1]) (rest := []) ⟨hx, hb, hml, hown, hts⟩ (c_J1_charAt_3b067 l D G cI cJ cB cZ cO k a1 hk (by omega) H.size) (va_cwS 2 hts gJ0_charAt_5068e_J1_charAt_3b067 rfl rfl rfl (by decide +kernel) ⟨Nat.le_of_ble_eq_true rfl, Nat.le_of_ble_eq_true rfl⟩) (ct_preS (T := ct_T cI cJ cB cZ cO) hE hH hP hD hS hA [] (by decide) rfl) rfl rfl hl.1 rfl (lv_room (Nat.le_of_ble_eq_true rfl)) dJ0_charAt_5068e_12 ⟨Nat.le_of_ble_eq_true rfl, Nat.le_of_ble_eq_true rfl⟩) hP hD hS hA [] [] rfl rfl (by decide) (by decide) (fun r2 u H locs hw hP hD hS => ?_)
  obtain ⟨hP, hD⟩ : ct_B D A H [] := ⟨hP, hD⟩
  have hp0 := hw
  have hp_3 : narrow .char (.int r2) = .int r2 := hp0
  obtain ⟨hP9, hD9⟩ : ct_B D A H [] := ⟨hP.sub [] rfl, hD.sub [] (by decide) rfl⟩
  exact W.zret (v := r2) (ty := .char) hx hb hr hp_3 (fun t ht hW => ⟨⟨r2, (), rfl, trivial, by rw [ht]; exact hP9, hD9⟩, hS.F ht⟩) hS.2.2 dJ0_charAt_5068e_15
