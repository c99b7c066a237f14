abbrev w_c_J9_floorMod_7cf53 (cI cJ cB cZ cO : ClassId)  : va_W := []
set_option maxHeartbeats 4000000 in
set_option maxRecDepth 100000 in
/-- J9 floorMod 7cf53 -/
theorem c_J9_floorMod_7cf53 (l : Launch) (D : va_G) (G : ct_G) (cI cJ cB cZ cO : ClassId) (a1 : Int32) (a2 : Int32) (h_a2 : 0 < a2.toInt) (sz : Nat) : Met l yJ9_floorMod_7cf53 wsJ9_floorMod_7cf53 ({ frames := 0, cells := 0, slots := 0, locals := 0 }) (va_Pc [.int a1, .int a2] (ct_P D (ct_T cI cJ cB cZ cO) G (w_c_J9_floorMod_7cf53 cI cJ cB cZ cO ) sz)) (va_Qi (fun (rz : Int32) (u : Unit) => (0 ≤ rz.toInt ∧ rz.toInt < a2.toInt) ∧ (wr_ok a1.toInt a2.toInt rz.toInt)) (fun (u : Unit) t => ct_Q D (va_A (w_c_J9_floorMod_7cf53 cI cJ cB cZ cO ) sz) [] t) (va_A (w_c_J9_floorMod_7cf53 cI cJ cB cZ cO ) sz)) 0 0 (va_A (w_c_J9_floorMod_7cf53 cI cJ cB cZ cO ) sz) := by
  refine va_MetF (cc := cJ9_floorMod_7cf53) (maxL := 3) (ret := (some .int)) (by decide +kernel) rfl ?_
  intro p e s m args below meth c s₁ B hml hv
  obtain ⟨rfl, hsz, hP, hE, hD0, hH⟩ := hv
  have hx := B.exec
  have hb := B.bytes
  have hr := B.returns
  have hts := atoms_spec (ws := wsJ9_floorMod_7cf53) B.pre
  have hown : s.vm.findClass RJ9 = some m.cls := findClass_of_methodNamed B.named
  have hlocks := B.notSynchronized
  have hK := hE.1
  subst hsz
  have hD := hD0.self (sz := s.heap.size)
  generalize hAe : va_A (w_c_J9_floorMod_7cf53 cI cJ cB cZ cO ) s.heap.size = A at hD hH ⊢
  have hA : ∀ q : Nat, s.heap.size ≤ q → A q := fun q h => by rw [← hAe]; exact Or.inr h
  have hS : va_S A s.heap s.heap [] := va_S.rf
  obtain ⟨hP, hD⟩ : ct_B D A s.heap [] := ⟨hP, hD⟩
  have hl := lv_entry ([.int a1, .int a2]) (n := 3) (Nat.le_of_ble_eq_true rfl)
  rw [lg_entry_eq]
  generalize (lg_sl ([.int a1, .int a2]) ++ List.replicate (3 - (lg_sl ([.int a1, .int a2])).length) Slot.unset).toArray = ls at hl ⊢
  have hl : lv_has ls 3 [(0, .int a1), (1, .int a2)] := hl
  obtain ⟨H, hHe⟩ : ∃ H : Heap, H = s.heap := ⟨_, rfl⟩
  rw [← hHe] at hP
  have hS : va_S A s.heap H [] := by rw [hHe]; exact va_S.rf
  refine ct_start hHe ?_
  refine lv_iload_n hx hb dJ9_floorMod_7cf53_0 rfl (lv_at hl 0 rfl) ?_
  refine lv_iload_n hx hb dJ9_floorMod_7cf53_1 rfl (lv_at hl 1 rfl) ?_
  refine lv_irem hx hb dJ9_floorMod_7cf53_2 (tq_nz (by omega)) ?_
  refine lv_topi (fun z1 ez1 => ?_)
  have fz1 : -a2.toInt < z1.toInt ∧ z1.toInt < a2.toInt := by rw [ez1]; exact tq_rema rfl rfl (by omega)
  have gz1 : (0 ≤ a1.toInt → 0 ≤ z1.toInt) ∧ (a1.toInt < 0 → z1.toInt ≤ 0) := by rw [ez1]; exact tq_rems (by omega)
  have mz1 : (0 ≤ z1.toInt → z1.toInt = a1.toInt % a2.toInt) ∧ (z1.toInt < 0 → z1.toInt + a2.toInt = a1.toInt % a2.toInt) := by rw [ez1]; exact tq_remx (by omega)
  refine lv_istore_n (lv' := [(2, .int z1), (0, .int a1), (1, .int a2)]) hx hb dJ9_floorMod_7cf53_3 rfl hl (by decide) rfl (fun ls hl => ?_)
  refine lv_iload_n hx hb dJ9_floorMod_7cf53_4 rfl (lv_at hl 1 rfl) ?_
  refine lv_iload_n hx hb dJ9_floorMod_7cf53_5 rfl (lv_at hl 2 rfl) ?_
  refine lv_ixor hx hb dJ9_floorMod_7cf53_6 ?_
  refine lv_topi (fun z2 ez2 => ?_)
  have gz2 : 0 ≤ z2.toInt ↔ 0 ≤ a1.toInt := by rw [ez2]; exact tq_xors (by omega)
  refine lv_if_ge (tgt := 18) hx hb dJ9_floorMod_7cf53_7 (by decide) (fun hc => ?_) (fun hc => ?_)
  · have hq3 : 0 ≤ z2.toInt := tq_le (by decide) rfl hc
    have hb4 := tq_lo z2
    refine lv_iload_n hx hb dJ9_floorMod_7cf53_18 rfl (lv_at hl 0 rfl) ?_
    obtain ⟨hP9, hD9⟩ : ct_B D A H [] := ⟨hP.sub [] rfl, hD.sub [] (by decide) rfl⟩
    exact W.iret (v := z1) hx hb hr (fun t ht hW => ⟨⟨z1, (), rfl, ⟨(show 0 ≤ z1.toInt ∧ z1.toInt < a2.toInt by omega), (show wr_ok a1.toInt a2.toInt z1.toInt by exact fun _ => (by omega))⟩, by rw [ht]; exact hP9, hD9⟩, hS.F ht⟩) hS.2.2 dJ9_floorMod_7cf53_19
  · have hq3 : z2.toInt < 0 := tq_nle (by decide) rfl hc
    have hb5 := tq_lo z2
    refine lv_iload_n hx hb dJ9_floorMod_7cf53_10 rfl (lv_at hl 0 rfl) ?_
    refine lv_if_eq (tgt := 18) hx hb dJ9_floorMod_7cf53_11 (by decide) (fun hc => ?_) (fun hc => ?_)
    · have hq6 : z1.toInt = 0 := tq_eq rfl (by decide) hc
      refine lv_iload_n hx hb dJ9_floorMod_7cf53_18 rfl (lv_at hl 0 rfl) ?_
      obtain ⟨hP9, hD9⟩ : ct_B D A H [] := ⟨hP.sub [] rfl, hD.sub [] (by decide) rfl⟩
      exact W.iret (v := z1) hx hb hr (fun t ht hW => ⟨⟨z1, (), rfl, ⟨(show 0 ≤ z1.toInt ∧ z1.toInt < a2.toInt by omega), (show wr_ok a1.toInt a2.toInt z1.toInt by exact fun _ => (by omega))⟩, by rw [ht]; exact hP9, hD9⟩, hS.F ht⟩) hS.2.2 dJ9_floorMod_7cf53_19
    · have hq6 : z1.toInt ≠ 0 := tq_ne rfl (by decide) hc
      refine lv_iload_n hx hb dJ9_floorMod_7cf53_14 rfl (lv_at hl 0 rfl) ?_
      refine lv_iload_n hx hb dJ9_floorMod_7cf53_15 rfl (lv_at hl 2 rfl) ?_
      refine lv_iadd hx hb dJ9_floorMod_7cf53_16 ?_
      refine lv_topi (fun z7 ez7 => ?_)
      have hb8 := tq_lo z1
      have hb9 := tq_lo a2
      have fz7 : z7.toInt = z1.toInt + a2.toInt := by rw [ez7]; exact tq_add rfl rfl (by omega)
      obtain ⟨hP9, hD9⟩ : ct_B D A H [] := ⟨hP.sub [] rfl, hD.sub [] (by decide) rfl⟩
      exact W.iret (v := z7) hx hb hr (fun t ht hW => ⟨⟨z7, (), rfl, ⟨(show 0 ≤ z7.toInt ∧ z7.toInt < a2.toInt by omega), (show wr_ok a1.toInt a2.toInt z7.toInt by exact fun _ => (by omega))⟩, by rw [ht]; exact hP9, hD9⟩, hS.F ht⟩) hS.2.2 dJ9_floorMod_7cf53_17
abbrev w_c_J9_floorMod_f86c9 (cI cJ cB cZ cO : ClassId)  : va_W := []
set_option maxHeartbeats 4000000 in
set_option maxRecDepth 100000 in
/-- J9 floorMod f86c9 -/
theorem c_J9_floorMod_f86c9 (l : Launch) (D : va_G) (G : ct_G) (cI cJ cB cZ cO : ClassId) (a1 : Int64) (a2 : Int64) (h_a2 : a2.toInt ≠ 0) (sz : Nat) : Met l yJ9_floorMod_f86c9 wsJ9_floorMod_f86c9 ({ frames := 0, cells := 0, slots := 0, locals := 0 }) (va_Pc [.long a1, .long a2] (ct_P D (ct_T cI cJ cB cZ cO) G (w_c_J9_floorMod_f86c9 cI cJ cB cZ cO ) sz)) (va_Ql (fun (rz : Int64) (u : Unit) => True) (fun (u : Unit) t => ct_Q D (va_A (w_c_J9_floorMod_f86c9 cI cJ cB cZ cO ) sz) [] t) (va_A (w_c_J9_floorMod_f86c9 cI cJ cB cZ cO ) sz)) 0 0 (va_A (w_c_J9_floorMod_f86c9 cI cJ cB cZ cO ) sz) := by
  refine va_MetF (cc := cJ9_floorMod_f86c9) (maxL := 6) (ret := (some .long)) (by decide +kernel) rfl ?_
  intro p e s m args below meth c s₁ B hml hv
  obtain ⟨rfl, hsz, hP, hE, hD0, hH⟩ := hv
  have hx := B.exec
  have hb := B.bytes
  have hr := B.returns
  have hts := atoms_spec (ws := wsJ9_floorMod_f86c9) B.pre
  have hown : s.vm.findClass RJ9 = some m.cls := findClass_of_methodNamed B.named
  have hlocks := B.notSynchronized
  have hK := hE.1
  subst hsz
  have hD := hD0.self (sz := s.heap.size)
  generalize hAe : va_A (w_c_J9_floorMod_f86c9 cI cJ cB cZ cO ) s.heap.size = A at hD hH ⊢
  have hA : ∀ q : Nat, s.heap.size ≤ q → A q := fun q h => by rw [← hAe]; exact Or.inr h
  have hS : va_S A s.heap s.heap [] := va_S.rf
  obtain ⟨hP, hD⟩ : ct_B D A s.heap [] := ⟨hP, hD⟩
  have hl := lv_entry ([.long a1, .long a2]) (n := 6) (Nat.le_of_ble_eq_true rfl)
  rw [lg_entry_eq]
  generalize (lg_sl ([.long a1, .long a2]) ++ List.replicate (6 - (lg_sl ([.long a1, .long a2])).length) Slot.unset).toArray = ls at hl ⊢
  have hl : lv_has ls 6 [(0, .long a1), (2, .long a2)] := hl
  obtain ⟨H, hHe⟩ : ∃ H : Heap, H = s.heap := ⟨_, rfl⟩
  rw [← hHe] at hP
  have hS : va_S A s.heap H [] := by rw [hHe]; exact va_S.rf
  refine ct_start hHe ?_
  refine lv_lload_n hx hb dJ9_floorMod_f86c9_0 rfl (lv_at hl 0 rfl) ?_
  refine lv_lload_n hx hb dJ9_floorMod_f86c9_1 rfl (lv_at hl 1 rfl) ?_
  refine lv_lrem hx hb dJ9_floorMod_f86c9_2 (tl_nz (by omega)) ?_
  refine lv_topl (fun z1 ez1 => ?_)
  refine lv_lstore (lv' := [(4, .long z1), (0, .long a1), (2, .long a2)]) hx hb dJ9_floorMod_f86c9_3 hl (by decide) rfl (fun ls hl => ?_)
  refine lv_lload_n hx hb dJ9_floorMod_f86c9_5 rfl (lv_at hl 1 rfl) ?_
  refine lv_lload_n hx hb dJ9_floorMod_f86c9_6 rfl (lv_at hl 2 rfl) ?_
  refine lv_lxor hx hb dJ9_floorMod_f86c9_7 ?_
  refine lv_topl (fun z2 ez2 => ?_)
  refine lv_lconst (v := 0) hx hb dJ9_floorMod_f86c9_8 (by decide) ?_
  refine W.lcmp hx hb dJ9_floorMod_f86c9_9 ?_
  refine lv_if_ge (tgt := 25) hx hb dJ9_floorMod_f86c9_10 (by decide) (fun hc => ?_) (fun hc => ?_)
  · have hq3 : 0 ≤ z2.toInt := tl_le (by decide) rfl ((lg_cmp_ge _ _).mp hc)
    refine lv_lload hx hb dJ9_floorMod_f86c9_25 (lv_at hl 0 rfl) ?_
    obtain ⟨hP9, hD9⟩ : ct_B D A H [] := ⟨hP.sub [] rfl, hD.sub [] (by decide) rfl⟩
    exact W.lret (v := z1) hx hb hr (fun t ht hW => ⟨⟨z1, (), rfl, trivial, by rw [ht]; exact hP9, hD9⟩, hS.F ht⟩) hS.2.2 dJ9_floorMod_f86c9_27
  · have hq3 : z2.toInt < 0 := tl_nle (by decide) rfl (fun z => hc ((lg_cmp_ge _ _).mpr z))
    refine lv_lload hx hb dJ9_floorMod_f86c9_13 (lv_at hl 0 rfl) ?_
    refine lv_lconst (v := 0) hx hb dJ9_floorMod_f86c9_15 (by decide) ?_
    refine W.lcmp hx hb dJ9_floorMod_f86c9_16 ?_
    refine lv_if_eq (tgt := 25) hx hb dJ9_floorMod_f86c9_17 (by decide) (fun hc => ?_) (fun hc => ?_)
    · have hq4 : z1.toInt = 0 := tl_eq rfl (by decide) ((lg_cmp_eq _ _).mp hc)
      refine lv_lload hx hb dJ9_floorMod_f86c9_25 (lv_at hl 0 rfl) ?_
      obtain ⟨hP9, hD9⟩ : ct_B D A H [] := ⟨hP.sub [] rfl, hD.sub [] (by decide) rfl⟩
      exact W.lret (v := z1) hx hb hr (fun t ht hW => ⟨⟨z1, (), rfl, trivial, by rw [ht]; exact hP9, hD9⟩, hS.F ht⟩) hS.2.2 dJ9_floorMod_f86c9_27
    · have hq4 : z1.toInt ≠ 0 := tl_ne rfl (by decide) (fun z => hc ((lg_cmp_eq _ _).mpr z))
      refine lv_lload hx hb dJ9_floorMod_f86c9_20 (lv_at hl 0 rfl) ?_
      refine lv_lload_n hx hb dJ9_floorMod_f86c9_22 rfl (lv_at hl 2 rfl) ?_
      refine lv_ladd hx hb dJ9_floorMod_f86c9_23 ?_
      refine lv_topl (fun z5 ez5 => ?_)
      obtain ⟨hP9, hD9⟩ : ct_B D A H [] := ⟨hP.sub [] rfl, hD.sub [] (by decide) rfl⟩
      exact W.lret (v := z5) hx hb hr (fun t ht hW => ⟨⟨z5, (), rfl, trivial, by rw [ht]; exact hP9, hD9⟩, hS.F ht⟩) hS.2.2 dJ9_floorMod_f86c9_24
abbrev w_c_J6_bitCount_0f7a4 (cI cJ cB cZ cO : ClassId)  : va_W := []
set_option maxHeartbeats 4000000 in
set_option maxRecDepth 100000 in
/-- J6 bitCount 0f7a4 -/
theorem c_J6_bitCount_0f7a4 (l : Launch) (D : va_G) (G : ct_G) (cI cJ cB cZ cO : ClassId) (a1 : Int32)  (sz : Nat) : Met l yJ6_bitCount_0f7a4 wsJ6_bitCount_0f7a4 ({ frames := 0, cells := 0, slots := 0, locals := 0 }) (va_Pc [.int a1] (ct_P D (ct_T cI cJ cB cZ cO) G (w_c_J6_bitCount_0f7a4 cI cJ cB cZ cO ) sz)) (va_Qi (fun (rz : Int32) (u : Unit) => (0 ≤ rz.toInt ∧ rz.toInt ≤ 63)) (fun (u : Unit) t => ct_Q D (va_A (w_c_J6_bitCount_0f7a4 cI cJ cB cZ cO ) sz) [] t) (va_A (w_c_J6_bitCount_0f7a4 cI cJ cB cZ cO ) sz)) 0 0 (va_A (w_c_J6_bitCount_0f7a4 cI cJ cB cZ cO ) sz) := by
  refine Met.ofW (cc := cJ6_bitCount_0f7a4) (maxL := 1) (ret := (some .int)) (by decide) rfl ?_
  intro p e s m args below meth c s₁ B hml hv
  obtain ⟨rfl, hsz, hP, hE, hD0, hH⟩ := hv
  have hx := B.exec
  have hb := B.bytes
  have hr := B.returns
  have hts := atoms_spec (ws := wsJ6_bitCount_0f7a4) B.pre
  have hown : s.vm.findClass RJ6 = some m.cls := findClass_of_methodNamed B.named
  have hlocks := B.notSynchronized
  have hK := hE.1
  subst hsz
  have hD := hD0.self (sz := s.heap.size)
  generalize hAe : va_A (w_c_J6_bitCount_0f7a4 cI cJ cB cZ cO ) s.heap.size = A at hD hH ⊢
  have hA : ∀ q : Nat, s.heap.size ≤ q → A q := fun q h => by rw [← hAe]; exact Or.inr h
  have hS : va_S A s.heap s.heap [] := va_S.rf
  obtain ⟨hP, hD⟩ : ct_B D A s.heap [] := ⟨hP, hD⟩
  have hl := lv_entry ([.int a1]) (n := 1) (Nat.le_of_ble_eq_true rfl)
  rw [lg_entry_eq]
  generalize (lg_sl ([.int a1]) ++ List.replicate (1 - (lg_sl ([.int a1])).length) Slot.unset).toArray = ls at hl ⊢
  have hl : lv_has ls 1 [(0, .int a1)] := hl
  obtain ⟨H, hHe⟩ : ∃ H : Heap, H = s.heap := ⟨_, rfl⟩
  rw [← hHe] at hP
  have hS : va_S A s.heap H [] := by rw [hHe]; exact va_S.rf
  refine ct_start hHe ?_
  refine lv_iload_n hx hb dJ6_bitCount_0f7a4_0 rfl (lv_at hl 0 rfl) ?_
  refine lv_iload_n hx hb dJ6_bitCount_0f7a4_1 rfl (lv_at hl 0 rfl) ?_
  refine lv_iconst (v := 1) hx hb dJ6_bitCount_0f7a4_2 (by decide) ?_
  refine lv_iushr (v := _) hx hb dJ6_bitCount_0f7a4_3 rfl ?_
  refine lv_topi (fun z1 ez1 => ?_)
  refine lv_ldcw (v := 1431655765) hx hb hown (hts (.constant RJ6 265 (1431655765)) (by decide +kernel)) dJ6_bitCount_0f7a4_4 ?_
  refine lv_iand hx hb dJ6_bitCount_0f7a4_7 ?_
  refine lv_topi (fun z2 ez2 => ?_)
  refine lv_isub hx hb dJ6_bitCount_0f7a4_8 ?_
  refine lv_topi (fun z3 ez3 => ?_)
  refine lv_istore_n (lv' := [(0, .int z3)]) hx hb dJ6_bitCount_0f7a4_9 rfl hl (by decide) rfl (fun ls hl => ?_)
  refine lv_iload_n hx hb dJ6_bitCount_0f7a4_10 rfl (lv_at hl 0 rfl) ?_
  refine lv_ldcw (v := 858993459) hx hb hown (hts (.constant RJ6 266 (858993459)) (by decide +kernel)) dJ6_bitCount_0f7a4_11 ?_
  refine lv_iand hx hb dJ6_bitCount_0f7a4_14 ?_
  refine lv_topi (fun z4 ez4 => ?_)
  refine lv_iload_n hx hb dJ6_bitCount_0f7a4_15 rfl (lv_at hl 0 rfl) ?_
  refine lv_iconst (v := 2) hx hb dJ6_bitCount_0f7a4_16 (by decide) ?_
  refine lv_iushr (v := _) hx hb dJ6_bitCount_0f7a4_17 rfl ?_
  refine lv_topi (fun z5 ez5 => ?_)
  refine lv_ldcw (v := 858993459) hx hb hown (hts (.constant RJ6 266 (858993459)) (by decide +kernel)) dJ6_bitCount_0f7a4_18 ?_
  refine lv_iand hx hb dJ6_bitCount_0f7a4_21 ?_
  refine lv_topi (fun z6 ez6 => ?_)
  refine lv_iadd hx hb dJ6_bitCount_0f7a4_22 ?_
  refine lv_topi (fun z7 ez7 => ?_)
  refine lv_istore_n (lv' := [(0, .int z7)]) hx hb dJ6_bitCount_0f7a4_23 rfl hl (by decide) rfl (fun ls hl => ?_)
  refine lv_iload_n hx hb dJ6_bitCount_0f7a4_24 rfl (lv_at hl 0 rfl) ?_
  refine lv_iload_n hx hb dJ6_bitCount_0f7a4_25 rfl (lv_at hl 0 rfl) ?_
  refine lv_iconst (v := 4) hx hb dJ6_bitCount_0f7a4_26 (by decide) ?_
  refine lv_iushr (v := _) hx hb dJ6_bitCount_0f7a4_27 rfl ?_
  refine lv_topi (fun z8 ez8 => ?_)
  refine lv_iadd hx hb dJ6_bitCount_0f7a4_28 ?_
  refine lv_topi (fun z9 ez9 => ?_)
  refine lv_ldcw (v := 252645135) hx hb hown (hts (.constant RJ6 267 (252645135)) (by decide +kernel)) dJ6_bitCount_0f7a4_29 ?_
  refine lv_iand hx hb dJ6_bitCount_0f7a4_32 ?_
  refine lv_topi (fun z10 ez10 => ?_)
  refine lv_istore_n (lv' := [(0, .int z10)]) hx hb dJ6_bitCount_0f7a4_33 rfl hl (by decide) rfl (fun ls hl => ?_)
  refine lv_iload_n hx hb dJ6_bitCount_0f7a4_34 rfl (lv_at hl 0 rfl) ?_
  refine lv_iload_n hx hb dJ6_bitCount_0f7a4_35 rfl (lv_at hl 0 rfl) ?_
  refine lv_bipush (v := 8) hx hb dJ6_bitCount_0f7a4_36 (by decide) ?_
  refine lv_iushr (v := _) hx hb dJ6_bitCount_0f7a4_38 rfl ?_
  refine lv_topi (fun z11 ez11 => ?_)
  refine lv_iadd hx hb dJ6_bitCount_0f7a4_39 ?_
  refine lv_topi (fun z12 ez12 => ?_)
  refine lv_istore_n (lv' := [(0, .int z12)]) hx hb dJ6_bitCount_0f7a4_40 rfl hl (by decide) rfl (fun ls hl => ?_)
  refine lv_iload_n hx hb dJ6_bitCount_0f7a4_41 rfl (lv_at hl 0 rfl) ?_
  refine lv_iload_n hx hb dJ6_bitCount_0f7a4_42 rfl (lv_at hl 0 rfl) ?_
  refine lv_bipush (v := 16) hx hb dJ6_bitCount_0f7a4_43 (by decide) ?_
  refine lv_iushr (v := _) hx hb dJ6_bitCount_0f7a4_45 rfl ?_
  refine lv_topi (fun z13 ez13 => ?_)
  refine lv_iadd hx hb dJ6_bitCount_0f7a4_46 ?_
  refine lv_topi (fun z14 ez14 => ?_)
  refine lv_istore_n (lv' := [(0, .int z14)]) hx hb dJ6_bitCount_0f7a4_47 rfl hl (by decide) rfl (fun ls hl => ?_)
  refine lv_iload_n hx hb dJ6_bitCount_0f7a4_48 rfl (lv_at hl 0 rfl) ?_
  refine lv_bipush (v := 63) hx hb dJ6_bitCount_0f7a4_49 (by decide) ?_
  refine lv_iand hx hb dJ6_bitCount_0f7a4_51 ?_
  refine lv_topi (fun z15 ez15 => ?_)
  have fz15 : 0 ≤ z15.toInt ∧ z15.toInt ≤ 63 := by rw [ez15]; exact tq_and (c := 63) (by decide) (by omega)
  obtain ⟨hP9, hD9⟩ : ct_B D A H [] := ⟨hP.sub [] rfl, hD.sub [] (by decide) rfl⟩
  exact W.iret (v := z15) hx hb hr (fun t ht hW => ⟨⟨z15, (), rfl, (show 0 ≤ z15.toInt ∧ z15.toInt ≤ 63 by omega), by rw [ht]; exact hP9, hD9⟩, hS.F ht⟩) hS.2.2 dJ6_bitCount_0f7a4_52
abbrev w_c_J6_numberOfTrailingZeros_0f7a4 (cI cJ cB cZ cO : ClassId)  : va_W := []
set_option maxHeartbeats 4000000 in
set_option maxRecDepth 100000 in
/-- J6 numberOfTrailingZeros 0f7a4 -/
theorem c_J6_numberOfTrailingZeros_0f7a4 (l : Launch) (D : va_G) (G : ct_G) (cI cJ cB cZ cO : ClassId) (a1 : Int32)  (sz : Nat) : Met l yJ6_numberOfTrailingZeros_0f7a4 wsJ6_numberOfTrailingZeros_0f7a4 ({ frames := 0, cells := 0, slots := 0, locals := 0 }) (va_Pc [.int a1] (ct_P D (ct_T cI cJ cB cZ cO) G (w_c_J6_numberOfTrailingZeros_0f7a4 cI cJ cB cZ cO ) sz)) (va_Qi (fun (rz : Int32) (u : Unit) => True) (fun (u : Unit) t => ct_Q D (va_A (w_c_J6_numberOfTrailingZeros_0f7a4 cI cJ cB cZ cO ) sz) [] t) (va_A (w_c_J6_numberOfTrailingZeros_0f7a4 cI cJ cB cZ cO ) sz)) 0 0 (va_A (w_c_J6_numberOfTrailingZeros_0f7a4 cI cJ cB cZ cO ) sz) := by
  refine Met.ofW (cc := cJ6_numberOfTrailingZeros_0f7a4) (maxL := 2) (ret := (some .int)) (by decide) rfl ?_
  intro p e s m args below meth c s₁ B hml hv
  obtain ⟨rfl, hsz, hP, hE, hD0, hH⟩ := hv
  have hx := B.exec
  have hb := B.bytes
  have hr := B.returns
  have hts := atoms_spec (ws := wsJ6_numberOfTrailingZeros_0f7a4) B.pre
  have hown : s.vm.findClass RJ6 = some m.cls := findClass_of_methodNamed B.named
  have hlocks := B.notSynchronized
  have hK := hE.1
  subst hsz
  have hD := hD0.self (sz := s.heap.size)
  generalize hAe : va_A (w_c_J6_numberOfTrailingZeros_0f7a4 cI cJ cB cZ cO ) s.heap.size = A at hD hH ⊢
  have hA : ∀ q : Nat, s.heap.size ≤ q → A q := fun q h => by rw [← hAe]; exact Or.inr h
  have hS : va_S A s.heap s.heap [] := va_S.rf
  obtain ⟨hP, hD⟩ : ct_B D A s.heap [] := ⟨hP, hD⟩
  have hl := lv_entry ([.int a1]) (n := 2) (Nat.le_of_ble_eq_true rfl)
  rw [lg_entry_eq]
  generalize (lg_sl ([.int a1]) ++ List.replicate (2 - (lg_sl ([.int a1])).length) Slot.unset).toArray = ls at hl ⊢
  have hl : lv_has ls 2 [(0, .int a1)] := hl
  obtain ⟨H, hHe⟩ : ∃ H : Heap, H = s.heap := ⟨_, rfl⟩
  rw [← hHe] at hP
  have hS : va_S A s.heap H [] := by rw [hHe]; exact va_S.rf
  refine ct_start hHe ?_
  refine lv_iload_n hx hb dJ6_numberOfTrailingZeros_0f7a4_0 rfl (lv_at hl 0 rfl) ?_
  refine lv_iconst (v := (-1)) hx hb dJ6_numberOfTrailingZeros_0f7a4_1 (by decide) ?_
  refine lv_ixor hx hb dJ6_numberOfTrailingZeros_0f7a4_2 ?_
  refine lv_topi (fun z1 ez1 => ?_)
  refine lv_iload_n hx hb dJ6_numberOfTrailingZeros_0f7a4_3 rfl (lv_at hl 0 rfl) ?_
  refine lv_iconst (v := 1) hx hb dJ6_numberOfTrailingZeros_0f7a4_4 (by decide) ?_
  refine lv_isub hx hb dJ6_numberOfTrailingZeros_0f7a4_5 ?_
  refine lv_topi (fun z2 ez2 => ?_)
  refine lv_iand hx hb dJ6_numberOfTrailingZeros_0f7a4_6 ?_
  refine lv_topi (fun z3 ez3 => ?_)
  refine lv_istore_n (lv' := [(0, .int z3)]) hx hb dJ6_numberOfTrailingZeros_0f7a4_7 rfl hl (by decide) rfl (fun ls hl => ?_)
  refine lv_iload_n hx hb dJ6_numberOfTrailingZeros_0f7a4_8 rfl (lv_at hl 0 rfl) ?_
  refine lv_if_gt (tgt := 17) hx hb dJ6_numberOfTrailingZeros_0f7a4_9 (by decide) (fun hc => ?_) (fun hc => ?_)
  · have hq4 : 0 < z3.toInt := tq_lt (by decide) rfl hc
    have hb5 := tq_lo z3
    refine lv_iconst (v := 1) hx hb dJ6_numberOfTrailingZeros_0f7a4_17 (by decide) ?_
    refine lv_istore_n (lv' := [(1, .int 1), (0, .int z3)]) hx hb dJ6_numberOfTrailingZeros_0f7a4_18 rfl hl (by decide) rfl (fun ls hl => ?_)
    refine ct_cut (X := Int32 × Int32) (fun x => []) (fun x H locs ls => ((1 ≤ x.2.toInt ∧ x.2.toInt ≤ 17)) ∧ ct_B D A H [] ∧ va_S A s.heap H locs ∧ lv_has ls 2 [(1, .int x.2), (0, .int x.1)]) 34 (fun x H locs ls hI => ?_) (fun kn12 => ?_)
    · obtain ⟨x10, x11⟩ := x
      obtain ⟨h_x11, ⟨hP, hD⟩, hS, hl⟩ := hI
      have h_x11 : (1 ≤ x11.toInt ∧ x11.toInt ≤ 17) := h_x11
      obtain ⟨hP, hD⟩ : ct_B D A H [] := ⟨hP, hD⟩
      have hl : lv_has ls 2 [(1, .int x11), (0, .int x10)] := hl
      refine ct_cut (X := Int32 × Int32) (fun x => []) (fun x H locs ls => ((1 ≤ x.2.toInt ∧ x.2.toInt ≤ 25)) ∧ ct_B D A H [] ∧ va_S A s.heap H locs ∧ lv_has ls 2 [(1, .int x.2), (0, .int x.1)]) 49 (fun x H locs ls hI => ?_) (fun kn20 => ?_)
      · obtain ⟨x18, x19⟩ := x
        obtain ⟨h_x19, ⟨hP, hD⟩, hS, hl⟩ := hI
        have h_x19 : (1 ≤ x19.toInt ∧ x19.toInt ≤ 25) := h_x19
        obtain ⟨hP, hD⟩ : ct_B D A H [] := ⟨hP, hD⟩
        have hl : lv_has ls 2 [(1, .int x19), (0, .int x18)] := hl
        refine ct_cut (X := Int32 × Int32) (fun x => []) (fun x H locs ls => ((1 ≤ x.2.toInt ∧ x.2.toInt ≤ 29)) ∧ ct_B D A H [] ∧ va_S A s.heap H locs ∧ lv_has ls 2 [(1, .int x.2), (0, .int x.1)]) 62 (fun x H locs ls hI => ?_) (fun kn28 => ?_)
        · obtain ⟨x26, x27⟩ := x
          obtain ⟨h_x27, ⟨hP, hD⟩, hS, hl⟩ := hI
          have h_x27 : (1 ≤ x27.toInt ∧ x27.toInt ≤ 29) := h_x27
          obtain ⟨hP, hD⟩ : ct_B D A H [] := ⟨hP, hD⟩
          have hl : lv_has ls 2 [(1, .int x27), (0, .int x26)] := hl
          refine ct_cut (X := Int32 × Int32) (fun x => []) (fun x H locs ls => ((1 ≤ x.2.toInt ∧ x.2.toInt ≤ 31)) ∧ ct_B D A H [] ∧ va_S A s.heap H locs ∧ lv_has ls 2 [(1, .int x.2), (0, .int x.1)]) 74 (fun x H locs ls hI => ?_) (fun kn36 => ?_)
          · obtain ⟨x34, x35⟩ := x
            obtain ⟨h_x35, ⟨hP, hD⟩, hS, hl⟩ := hI
            have h_x35 : (1 ≤ x35.toInt ∧ x35.toInt ≤ 31) := h_x35
            obtain ⟨hP, hD⟩ : ct_B D A H [] := ⟨hP, hD⟩
            have hl : lv_has ls 2 [(1, .int x35), (0, .int x34)] := hl
            refine lv_iload_n hx hb dJ6_numberOfTrailingZeros_0f7a4_74 rfl (lv_at hl 0 rfl) ?_
            refine lv_iload_n hx hb dJ6_numberOfTrailingZeros_0f7a4_75 rfl (lv_at hl 1 rfl) ?_
            refine lv_iconst (v := 1) hx hb dJ6_numberOfTrailingZeros_0f7a4_76 (by decide) ?_
            refine lv_iushr (v := _) hx hb dJ6_numberOfTrailingZeros_0f7a4_77 rfl ?_
            refine lv_topi (fun z37 ez37 => ?_)
            refine lv_iadd hx hb dJ6_numberOfTrailingZeros_0f7a4_78 ?_
            refine lv_topi (fun z38 ez38 => ?_)
            obtain ⟨hP9, hD9⟩ : ct_B D A H [] := ⟨hP.sub [] rfl, hD.sub [] (by decide) rfl⟩
            exact W.iret (v := z38) hx hb hr (fun t ht hW => ⟨⟨z38, (), rfl, trivial, by rw [ht]; exact hP9, hD9⟩, hS.F ht⟩) hS.2.2 dJ6_numberOfTrailingZeros_0f7a4_79
          · refine lv_iload_n hx hb dJ6_numberOfTrailingZeros_0f7a4_62 rfl (lv_at hl 1 rfl) ?_
            refine lv_iconst (v := 4) hx hb dJ6_numberOfTrailingZeros_0f7a4_63 (by decide) ?_
            refine lv_icmp_le (tgt := 74) hx hb dJ6_numberOfTrailingZeros_0f7a4_64 (by decide) (fun hc => ?_) (fun hc => ?_)
            · have hq39 : x26.toInt ≤ 4 := tq_le rfl (by decide) hc
              have hb40 := tq_lo x26
              exact kn36 (x26, x27) _ _ _ ⟨(show 1 ≤ x27.toInt ∧ x27.toInt ≤ 31 by omega), ⟨hP, hD⟩, hS, lv_sub hl [0, 1] rfl⟩
            · have hq39 : 4 < x26.toInt := tq_nle rfl (by decide) hc
              have hb41 := tq_lo x26
              obtain ⟨z42, ez42⟩ : ∃ z : Int32, z = x27 + 2 := ⟨_, rfl⟩
              have fz42 : z42.toInt = x27.toInt + 2 := by rw [ez42]; exact tq_add rfl (by decide) (by omega)
              refine lv_iinc (v := z42) (lv' := [(1, .int z42), (0, .int x26)]) hx hb dJ6_numberOfTrailingZeros_0f7a4_67 hl (k := 0) rfl ez42.symm (by decide) rfl (fun ls hl => ?_)
              refine lv_iload_n hx hb dJ6_numberOfTrailingZeros_0f7a4_70 rfl (lv_at hl 1 rfl) ?_
              refine lv_iconst (v := 2) hx hb dJ6_numberOfTrailingZeros_0f7a4_71 (by decide) ?_
              refine lv_iushr (v := _) hx hb dJ6_numberOfTrailingZeros_0f7a4_72 rfl ?_
              refine lv_topi (fun z43 ez43 => ?_)
              refine lv_istore_n (lv' := [(0, .int z43), (1, .int z42)]) hx hb dJ6_numberOfTrailingZeros_0f7a4_73 rfl hl (by decide) rfl (fun ls hl => ?_)
              exact kn36 (z43, z42) _ _ _ ⟨(show 1 ≤ z42.toInt ∧ z42.toInt ≤ 31 by omega), ⟨hP, hD⟩, hS, lv_sub hl [1, 0] rfl⟩
        · refine lv_iload_n hx hb dJ6_numberOfTrailingZeros_0f7a4_49 rfl (lv_at hl 1 rfl) ?_
          refine lv_bipush (v := 16) hx hb dJ6_numberOfTrailingZeros_0f7a4_50 (by decide) ?_
          refine lv_icmp_le (tgt := 62) hx hb dJ6_numberOfTrailingZeros_0f7a4_52 (by decide) (fun hc => ?_) (fun hc => ?_)
          · have hq44 : x18.toInt ≤ 16 := tq_le rfl (by decide) hc
            have hb45 := tq_lo x18
            exact kn28 (x18, x19) _ _ _ ⟨(show 1 ≤ x19.toInt ∧ x19.toInt ≤ 29 by omega), ⟨hP, hD⟩, hS, lv_sub hl [0, 1] rfl⟩
          · have hq44 : 16 < x18.toInt := tq_nle rfl (by decide) hc
            have hb46 := tq_lo x18
            obtain ⟨z47, ez47⟩ : ∃ z : Int32, z = x19 + 4 := ⟨_, rfl⟩
            have fz47 : z47.toInt = x19.toInt + 4 := by rw [ez47]; exact tq_add rfl (by decide) (by omega)
            refine lv_iinc (v := z47) (lv' := [(1, .int z47), (0, .int x18)]) hx hb dJ6_numberOfTrailingZeros_0f7a4_55 hl (k := 0) rfl ez47.symm (by decide) rfl (fun ls hl => ?_)
            refine lv_iload_n hx hb dJ6_numberOfTrailingZeros_0f7a4_58 rfl (lv_at hl 1 rfl) ?_
            refine lv_iconst (v := 4) hx hb dJ6_numberOfTrailingZeros_0f7a4_59 (by decide) ?_
            refine lv_iushr (v := _) hx hb dJ6_numberOfTrailingZeros_0f7a4_60 rfl ?_
            refine lv_topi (fun z48 ez48 => ?_)
            refine lv_istore_n (lv' := [(0, .int z48), (1, .int z47)]) hx hb dJ6_numberOfTrailingZeros_0f7a4_61 rfl hl (by decide) rfl (fun ls hl => ?_)
            exact kn28 (z48, z47) _ _ _ ⟨(show 1 ≤ z47.toInt ∧ z47.toInt ≤ 29 by omega), ⟨hP, hD⟩, hS, lv_sub hl [1, 0] rfl⟩
      · refine lv_iload_n hx hb dJ6_numberOfTrailingZeros_0f7a4_34 rfl (lv_at hl 1 rfl) ?_
        refine lv_sipush (v := 256) hx hb dJ6_numberOfTrailingZeros_0f7a4_35 (by decide) ?_
        refine lv_icmp_le (tgt := 49) hx hb dJ6_numberOfTrailingZeros_0f7a4_38 (by decide) (fun hc => ?_) (fun hc => ?_)
        · have hq49 : x10.toInt ≤ 256 := tq_le rfl (by decide) hc
          have hb50 := tq_lo x10
          exact kn20 (x10, x11) _ _ _ ⟨(show 1 ≤ x11.toInt ∧ x11.toInt ≤ 25 by omega), ⟨hP, hD⟩, hS, lv_sub hl [0, 1] rfl⟩
        · have hq49 : 256 < x10.toInt := tq_nle rfl (by decide) hc
          have hb51 := tq_lo x10
          obtain ⟨z52, ez52⟩ : ∃ z : Int32, z = x11 + 8 := ⟨_, rfl⟩
          have fz52 : z52.toInt = x11.toInt + 8 := by rw [ez52]; exact tq_add rfl (by decide) (by omega)
          refine lv_iinc (v := z52) (lv' := [(1, .int z52), (0, .int x10)]) hx hb dJ6_numberOfTrailingZeros_0f7a4_41 hl (k := 0) rfl ez52.symm (by decide) rfl (fun ls hl => ?_)
          refine lv_iload_n hx hb dJ6_numberOfTrailingZeros_0f7a4_44 rfl (lv_at hl 1 rfl) ?_
          refine lv_bipush (v := 8) hx hb dJ6_numberOfTrailingZeros_0f7a4_45 (by decide) ?_
          refine lv_iushr (v := _) hx hb dJ6_numberOfTrailingZeros_0f7a4_47 rfl ?_
          refine lv_topi (fun z53 ez53 => ?_)
          refine lv_istore_n (lv' := [(0, .int z53), (1, .int z52)]) hx hb dJ6_numberOfTrailingZeros_0f7a4_48 rfl hl (by decide) rfl (fun ls hl => ?_)
          exact kn20 (z53, z52) _ _ _ ⟨(show 1 ≤ z52.toInt ∧ z52.toInt ≤ 25 by omega), ⟨hP, hD⟩, hS, lv_sub hl [1, 0] rfl⟩
    · refine lv_iload_n hx hb dJ6_numberOfTrailingZeros_0f7a4_19 rfl (lv_at hl 1 rfl) ?_
      refine lv_ldcw (v := 65536) hx hb hown (hts (.constant RJ6 264 (65536)) (by decide +kernel)) dJ6_numberOfTrailingZeros_0f7a4_20 ?_
      refine lv_icmp_le (tgt := 34) hx hb dJ6_numberOfTrailingZeros_0f7a4_23 (by decide) (fun hc => ?_) (fun hc => ?_)
      · have hq54 : z3.toInt ≤ 65536 := tq_le rfl (by decide +kernel) hc
        have hb55 := tq_lo z3
        exact kn12 (z3, (1 : Int32)) _ _ _ ⟨(show 1 ≤ (1 : Int32).toInt ∧ (1 : Int32).toInt ≤ 17 by decide), ⟨hP, hD⟩, hS, lv_sub hl [0, 1] rfl⟩
      · have hq54 : 65536 < z3.toInt := tq_nle rfl (by decide +kernel) hc
        have hb56 := tq_lo z3
        refine lv_iinc (v := 17) (lv' := [(1, .int 17), (0, .int z3)]) hx hb dJ6_numberOfTrailingZeros_0f7a4_26 hl (k := 0) rfl (by decide) (by decide) rfl (fun ls hl => ?_)
        refine lv_iload_n hx hb dJ6_numberOfTrailingZeros_0f7a4_29 rfl (lv_at hl 1 rfl) ?_
        refine lv_bipush (v := 16) hx hb dJ6_numberOfTrailingZeros_0f7a4_30 (by decide) ?_
        refine lv_iushr (v := _) hx hb dJ6_numberOfTrailingZeros_0f7a4_32 rfl ?_
        refine lv_topi (fun z57 ez57 => ?_)
        refine lv_istore_n (lv' := [(0, .int z57), (1, .int 17)]) hx hb dJ6_numberOfTrailingZeros_0f7a4_33 rfl hl (by decide) rfl (fun ls hl => ?_)
        exact kn12 (z57, (17 : Int32)) _ _ _ ⟨(show 1 ≤ (17 : Int32).toInt ∧ (17 : Int32).toInt ≤ 17 by decide), ⟨hP, hD⟩, hS, lv_sub hl [1, 0] rfl⟩
  · have hq4 : z3.toInt ≤ 0 := tq_nlt (by decide) rfl hc
    have hb58 := tq_lo z3
    refine lv_iload_n hx hb dJ6_numberOfTrailingZeros_0f7a4_12 rfl (lv_at hl 0 rfl) ?_
    refine lv_bipush (v := 32) hx hb dJ6_numberOfTrailingZeros_0f7a4_13 (by decide) ?_
    refine lv_iand hx hb dJ6_numberOfTrailingZeros_0f7a4_15 ?_
    refine lv_topi (fun z59 ez59 => ?_)
    have fz59 : 0 ≤ z59.toInt ∧ z59.toInt ≤ 32 := by rw [ez59]; exact tq_and (c := 32) (by decide) (by omega)
    obtain ⟨hP9, hD9⟩ : ct_B D A H [] := ⟨hP.sub [] rfl, hD.sub [] (by decide) rfl⟩
    exact W.iret (v := z59) hx hb hr (fun t ht hW => ⟨⟨z59, (), rfl, trivial, by rw [ht]; exact hP9, hD9⟩, hS.F ht⟩) hS.2.2 dJ6_numberOfTrailingZeros_0f7a4_16
abbrev w_c_X11_isWithin (cI cJ cB cZ cO : ClassId)  : va_W := []
set_option maxHeartbeats 4000000 in
set_option maxRecDepth 100000 in
/-- X11 isWithin -/
theorem c_X11_isWithin (l : Launch) (D : va_G) (G : ct_G) (cI cJ cB cZ cO : ClassId) (v : Int32) (k : Int32)  (sz : Nat) : Met l yX11_isWithin wsX11_isWithin ({ frames := 0, cells := 0, slots := 0, locals := 0 }) (va_Pc [.int v, .int k] (ct_P D (ct_T cI cJ cB cZ cO) G (w_c_X11_isWithin cI cJ cB cZ cO ) sz)) (va_Qi (fun (rz : Int32) (u : Unit) => ((rz = 1 ∧ (0 ≤ v.toInt ∧ v.toInt < k.toInt)) ∨ (rz = 0 ∧ ¬ (0 ≤ v.toInt ∧ v.toInt < k.toInt)))) (fun (u : Unit) t => ct_Q D (va_A (w_c_X11_isWithin cI cJ cB cZ cO ) sz) [] t) (va_A (w_c_X11_isWithin cI cJ cB cZ cO ) sz)) 0 0 (va_A (w_c_X11_isWithin cI cJ cB cZ cO ) sz) := by
  refine Met.ofW (cc := cX11_isWithin) (maxL := 2) (ret := (some .boolean)) (by decide) rfl ?_
  intro p e s m args below meth c s₁ B hml hv
  obtain ⟨rfl, hsz, hP, hE, hD0, hH⟩ := hv
  have hx := B.exec
  have hb := B.bytes
  have hr := B.returns
  have hts := atoms_spec (ws := wsX11_isWithin) B.pre
  have hown : s.vm.findClass RX11 = some m.cls := findClass_of_methodNamed B.named
  have hlocks := B.notSynchronized
  have hK := hE.1
  subst hsz
  have hD := hD0.self (sz := s.heap.size)
  generalize hAe : va_A (w_c_X11_isWithin cI cJ cB cZ cO ) s.heap.size = A at hD hH ⊢
  have hA : ∀ q : Nat, s.heap.size ≤ q → A q := fun q h => by rw [← hAe]; exact Or.inr h
  have hS : va_S A s.heap s.heap [] := va_S.rf
  obtain ⟨hP, hD⟩ : ct_B D A s.heap [] := ⟨hP, hD⟩
  have hl := lv_entry ([.int v, .int k]) (n := 2) (Nat.le_of_ble_eq_true rfl)
  rw [lg_entry_eq]
  generalize (lg_sl ([.int v, .int k]) ++ List.replicate (2 - (lg_sl ([.int v, .int k])).length) Slot.unset).toArray = ls at hl ⊢
  have hl : lv_has ls 2 [(0, .int v), (1, .int k)] := hl
  obtain ⟨H, hHe⟩ : ∃ H : Heap, H = s.heap := ⟨_, rfl⟩
  rw [← hHe] at hP
  have hS : va_S A s.heap H [] := by rw [hHe]; exact va_S.rf
  refine ct_start hHe ?_
  refine lv_iload_n hx hb dX11_isWithin_0 rfl (lv_at hl 0 rfl) ?_
  refine lv_if_lt (tgt := 13) hx hb dX11_isWithin_1 (by decide) (fun hc => ?_) (fun hc => ?_)
  · have hq1 : v.toInt < 0 := tq_lt rfl (by decide) hc
    have hb2 := tq_lo v
    refine lv_iconst (v := 0) hx hb dX11_isWithin_13 (by decide) ?_
    obtain ⟨hP9, hD9⟩ : ct_B D A H [] := ⟨hP.sub [] rfl, hD.sub [] (by decide) rfl⟩
    exact W.zret (v := 0) (ty := .boolean) hx hb hr rfl (fun t ht hW => ⟨⟨0, (), rfl, (Or.inr (⟨rfl, (show ¬ (0 ≤ v.toInt ∧ v.toInt < k.toInt) by omega)⟩)), by rw [ht]; exact hP9, hD9⟩, hS.F ht⟩) hS.2.2 dX11_isWithin_14
  · have hq1 : 0 ≤ v.toInt := tq_nlt rfl (by decide) hc
    have hb3 := tq_lo v
    refine lv_iload_n hx hb dX11_isWithin_4 rfl (lv_at hl 0 rfl) ?_
    refine lv_iload_n hx hb dX11_isWithin_5 rfl (lv_at hl 1 rfl) ?_
    refine lv_icmp_ge (tgt := 13) hx hb dX11_isWithin_6 (by decide) (fun hc => ?_) (fun hc => ?_)
    · have hq4 : k.toInt ≤ v.toInt := tq_le rfl rfl hc
      have hb5 := tq_lo v
      have hb6 := tq_lo k
      refine lv_iconst (v := 0) hx hb dX11_isWithin_13 (by decide) ?_
      obtain ⟨hP9, hD9⟩ : ct_B D A H [] := ⟨hP.sub [] rfl, hD.sub [] (by decide) rfl⟩
      exact W.zret (v := 0) (ty := .boolean) hx hb hr rfl (fun t ht hW => ⟨⟨0, (), rfl, (Or.inr (⟨rfl, (show ¬ (0 ≤ v.toInt ∧ v.toInt < k.toInt) by omega)⟩)), by rw [ht]; exact hP9, hD9⟩, hS.F ht⟩) hS.2.2 dX11_isWithin_14
    · have hq4 : v.toInt < k.toInt := tq_nle rfl rfl hc
      have hb7 := tq_lo v
      have hb8 := tq_lo k
      refine lv_iconst (v := 1) hx hb dX11_isWithin_9 (by decide) ?_
      refine lv_goto (tgt := 14) hx hb dX11_isWithin_10 (by decide) ?_
      obtain ⟨hP9, hD9⟩ : ct_B D A H [] := ⟨hP.sub [] rfl, hD.sub [] (by decide) rfl⟩
      exact W.zret (v := 1) (ty := .boolean) hx hb hr rfl (fun t ht hW => ⟨⟨1, (), rfl, (Or.inl ⟨rfl, (show (0 ≤ v.toInt ∧ v.toInt < k.toInt) by omega)⟩), by rw [ht]; exact hP9, hD9⟩, hS.F ht⟩) hS.2.2 dX11_isWithin_14
abbrev w_c_X11_isSide (cI cJ cB cZ cO : ClassId)  : va_W := []
set_option maxHeartbeats 4000000 in
set_option maxRecDepth 100000 in
/-- X11 isSide -/
theorem c_X11_isSide (l : Launch) (D : va_G) (G : ct_G) (cI cJ cB cZ cO : ClassId) (v : Int32)  (sz : Nat) : Met l yX11_isSide wsX11_isSide ({ frames := 1, cells := 0, slots := 0, locals := 21 }) (va_Pc [.int v] (ct_P D (ct_T cI cJ cB cZ cO) G (w_c_X11_isSide cI cJ cB cZ cO ) sz)) (va_Qi (fun (rz : Int32) (u : Unit) => ((rz = 1 ∧ (0 ≤ v.toInt ∧ v.toInt < 2)) ∨ (rz = 0 ∧ ¬ (0 ≤ v.toInt ∧ v.toInt < 2)))) (fun (u : Unit) t => ct_Q D (va_A (w_c_X11_isSide cI cJ cB cZ cO ) sz) [] t) (va_A (w_c_X11_isSide cI cJ cB cZ cO ) sz)) 0 0 (va_A (w_c_X11_isSide cI cJ cB cZ cO ) sz) := by
  refine Met.ofW (cc := cX11_isSide) (maxL := 1) (ret := (some .boolean)) (by decide) rfl ?_
  intro p e s m args below meth c s₁ B hml hv
  obtain ⟨rfl, hsz, hP, hE, hD0, hH⟩ := hv
  have hx := B.exec
  have hb := B.bytes
  have hr := B.returns
  have hts := atoms_spec (ws := wsX11_isSide) B.pre
  have hown : s.vm.findClass RX11 = some m.cls := findClass_of_methodNamed B.named
  have hlocks := B.notSynchronized
  have hK := hE.1
  subst hsz
  have hD := hD0.self (sz := s.heap.size)
  generalize hAe : va_A (w_c_X11_isSide cI cJ cB cZ cO ) s.heap.size = A at hD hH ⊢
  have hA : ∀ q : Nat, s.heap.size ≤ q → A q := fun q h => by rw [← hAe]; exact Or.inr h
  have hS : va_S A s.heap s.heap [] := va_S.rf
  obtain ⟨hP, hD⟩ : ct_B D A s.heap [] := ⟨hP, hD⟩
  have hl := lv_entry ([.int v]) (n := 1) (Nat.le_of_ble_eq_true rfl)
  rw [lg_entry_eq]
  generalize (lg_sl ([.int v]) ++ List.replicate (1 - (lg_sl ([.int v])).length) Slot.unset).toArray = ls at hl ⊢
  have hl : lv_has ls 1 [(0, .int v)] := hl
  obtain ⟨H, hHe⟩ : ∃ H : Heap, H = s.heap := ⟨_, rfl⟩
  rw [← hHe] at hP
  have hS : va_S A s.heap H [] := by rw [hHe]; exact va_S.rf
  refine ct_start hHe ?_
  refine lv_iload_n hx hb dX11_isSide_0 rfl (lv_at hl 0 rfl) ?_
  refine lv_iconst (v := 2) hx hb dX11_isSide_1 (by decide) ?_
  refine ct_calli (D := D) (wr := []) (va_runS (As := [.int v, .int 2]) (rest := []) ⟨hx, hb, hml, hown, hts⟩ (c_X11_isWithin l D G cI cJ cB cZ cO v 2  H.size) (va_cwS 2 hts gX11_isSide_X11_isWithin rfl rfl rfl (by decide +kernel) ⟨Nat.le_of_ble_eq_true rfl, Nat.le_of_ble_eq_true rfl⟩) (ct_preS (T := ct_T cI cJ cB cZ cO) hE hH hP hD hS hA [] (by decide) rfl) rfl rfl hl.1 rfl (lv_room (Nat.le_of_ble_eq_true rfl)) dX11_isSide_2 ⟨Nat.le_of_ble_eq_true rfl, Nat.le_of_ble_eq_true rfl⟩) hP hD hS hA [] [] rfl rfl (by decide) (by decide) (fun r1 u H locs hw hP hD hS => ?_)
  obtain ⟨hP, hD⟩ : ct_B D A H [] := ⟨hP, hD⟩
  have hk2 : (2 : Int32).toInt = 2 := by decide
  have hz := hw
  rcases hz with ⟨hz, hz2⟩ | ⟨hz, hz2⟩
  · subst hz
    have hz_3 : (0 ≤ v.toInt ∧ v.toInt < (2 : Int32).toInt) := hz2
    obtain ⟨hP9, hD9⟩ : ct_B D A H [] := ⟨hP.sub [] rfl, hD.sub [] (by decide) rfl⟩
    exact W.zret (v := 1) (ty := .boolean) hx hb hr rfl (fun t ht hW => ⟨⟨1, (), rfl, (Or.inl ⟨rfl, (show (0 ≤ v.toInt ∧ v.toInt < 2) by omega)⟩), by rw [ht]; exact hP9, hD9⟩, hS.F ht⟩) hS.2.2 dX11_isSide_5
  · subst hz
    have hz_4 : ¬ (0 ≤ v.toInt ∧ v.toInt < (2 : Int32).toInt) := hz2
    obtain ⟨hP9, hD9⟩ : ct_B D A H [] := ⟨hP.sub [] rfl, hD.sub [] (by decide) rfl⟩
    exact W.zret (v := 0) (ty := .boolean) hx hb hr rfl (fun t ht hW => ⟨⟨0, (), rfl, (Or.inr (⟨rfl, (show ¬ (0 ≤ v.toInt ∧ v.toInt < 2) by omega)⟩)), by rw [ht]; exact hP9, hD9⟩, hS.F ht⟩) hS.2.2 dX11_isSide_5
abbrev w_c_X11_isStep (cI cJ cB cZ cO : ClassId)  : va_W := []
set_option maxHeartbeats 4000000 in
set_option maxRecDepth 100000 in
/-- X11 isStep -/
theorem c_X11_isStep (l : Launch) (D : va_G) (G : ct_G) (cI cJ cB cZ cO : ClassId) (v : Int32)  (sz : Nat) : Met l yX11_isStep wsX11_isStep ({ frames := 1, cells := 0, slots := 0, locals := 21 }) (va_Pc [.int v] (ct_P D (ct_T cI cJ cB cZ cO) G (w_c_X11_isStep cI cJ cB cZ cO ) sz)) (va_Qi (fun (rz : Int32) (u : Unit) => ((rz = 1 ∧ (0 ≤ v.toInt ∧ v.toInt < 6)) ∨ (rz = 0 ∧ ¬ (0 ≤ v.toInt ∧ v.toInt < 6)))) (fun (u : Unit) t => ct_Q D (va_A (w_c_X11_isStep cI cJ cB cZ cO ) sz) [] t) (va_A (w_c_X11_isStep cI cJ cB cZ cO ) sz)) 0 0 (va_A (w_c_X11_isStep cI cJ cB cZ cO ) sz) := by
  refine Met.ofW (cc := cX11_isStep) (maxL := 1) (ret := (some .boolean)) (by decide) rfl ?_
  intro p e s m args below meth c s₁ B hml hv
  obtain ⟨rfl, hsz, hP, hE, hD0, hH⟩ := hv
  have hx := B.exec
  have hb := B.bytes
  have hr := B.returns
  have hts := atoms_spec (ws := wsX11_isStep) B.pre
  have hown : s.vm.findClass RX11 = some m.cls := findClass_of_methodNamed B.named
  have hlocks := B.notSynchronized
  have hK := hE.1
  subst hsz
  have hD := hD0.self (sz := s.heap.size)
  generalize hAe : va_A (w_c_X11_isStep cI cJ cB cZ cO ) s.heap.size = A at hD hH ⊢
  have hA : ∀ q : Nat, s.heap.size ≤ q → A q := fun q h => by rw [← hAe]; exact Or.inr h
  have hS : va_S A s.heap s.heap [] := va_S.rf
  obtain ⟨hP, hD⟩ : ct_B D A s.heap [] := ⟨hP, hD⟩
  have hl := lv_entry ([.int v]) (n := 1) (Nat.le_of_ble_eq_true rfl)
  rw [lg_entry_eq]
  generalize (lg_sl ([.int v]) ++ List.replicate (1 - (lg_sl ([.int v])).length) Slot.unset).toArray = ls at hl ⊢
  have hl : lv_has ls 1 [(0, .int v)] := hl
  obtain ⟨H, hHe⟩ : ∃ H : Heap, H = s.heap := ⟨_, rfl⟩
  rw [← hHe] at hP
  have hS : va_S A s.heap H [] := by rw [hHe]; exact va_S.rf
  refine ct_start hHe ?_
  refine lv_iload_n hx hb dX11_isStep_0 rfl (lv_at hl 0 rfl) ?_
  refine lv_bipush (v := 6) hx hb dX11_isStep_1 (by decide) ?_
  refine ct_calli (D := D) (wr := []) (va_runS (As := [.int v, .int 6]) (rest := []) ⟨hx, hb, hml, hown, hts⟩ (c_X11_isWithin l D G cI cJ cB cZ cO v 6  H.size) (va_cwS 2 hts gX11_isStep_X11_isWithin rfl rfl rfl (by decide +kernel) ⟨Nat.le_of_ble_eq_true rfl, Nat.le_of_ble_eq_true rfl⟩) (ct_preS (T := ct_T cI cJ cB cZ cO) hE hH hP hD hS hA [] (by decide) rfl) rfl rfl hl.1 rfl (lv_room (Nat.le_of_ble_eq_true rfl)) dX11_isStep_3 ⟨Nat.le_of_ble_eq_true rfl, Nat.le_of_ble_eq_true rfl⟩) hP hD hS hA [] [] rfl rfl (by decide) (by decide) (fun r1 u H locs hw hP hD hS => ?_)
  obtain ⟨hP, hD⟩ : ct_B D A H [] := ⟨hP, hD⟩
  have hk2 : (6 : Int32).toInt = 6 := by decide
  have hz := hw
  rcases hz with ⟨hz, hz2⟩ | ⟨hz, hz2⟩
  · subst hz
    have hz_3 : (0 ≤ v.toInt ∧ v.toInt < (6 : Int32).toInt) := hz2
    obtain ⟨hP9, hD9⟩ : ct_B D A H [] := ⟨hP.sub [] rfl, hD.sub [] (by decide) rfl⟩
    exact W.zret (v := 1) (ty := .boolean) hx hb hr rfl (fun t ht hW => ⟨⟨1, (), rfl, (Or.inl ⟨rfl, (show (0 ≤ v.toInt ∧ v.toInt < 6) by omega)⟩), by rw [ht]; exact hP9, hD9⟩, hS.F ht⟩) hS.2.2 dX11_isStep_6
  · subst hz
    have hz_4 : ¬ (0 ≤ v.toInt ∧ v.toInt < (6 : Int32).toInt) := hz2
    obtain ⟨hP9, hD9⟩ : ct_B D A H [] := ⟨hP.sub [] rfl, hD.sub [] (by decide) rfl⟩
    exact W.zret (v := 0) (ty := .boolean) hx hb hr rfl (fun t ht hW => ⟨⟨0, (), rfl, (Or.inr (⟨rfl, (show ¬ (0 ≤ v.toInt ∧ v.toInt < 6) by omega)⟩)), by rw [ht]; exact hP9, hD9⟩, hS.F ht⟩) hS.2.2 dX11_isStep_6
abbrev w_c_X11_isBeat (cI cJ cB cZ cO : ClassId)  : va_W := []
set_option maxHeartbeats 4000000 in
set_option maxRecDepth 100000 in
/-- X11 isBeat -/
theorem c_X11_isBeat (l : Launch) (D : va_G) (G : ct_G) (cI cJ cB cZ cO : ClassId) (v : Int32)  (sz : Nat) : Met l yX11_isBeat wsX11_isBeat ({ frames := 1, cells := 0, slots := 0, locals := 21 }) (va_Pc [.int v] (ct_P D (ct_T cI cJ cB cZ cO) G (w_c_X11_isBeat cI cJ cB cZ cO ) sz)) (va_Qi (fun (rz : Int32) (u : Unit) => ((rz = 1 ∧ (0 ≤ v.toInt ∧ v.toInt < 200)) ∨ (rz = 0 ∧ ¬ (0 ≤ v.toInt ∧ v.toInt < 200)))) (fun (u : Unit) t => ct_Q D (va_A (w_c_X11_isBeat cI cJ cB cZ cO ) sz) [] t) (va_A (w_c_X11_isBeat cI cJ cB cZ cO ) sz)) 0 0 (va_A (w_c_X11_isBeat cI cJ cB cZ cO ) sz) := by
  refine Met.ofW (cc := cX11_isBeat) (maxL := 1) (ret := (some .boolean)) (by decide) rfl ?_
  intro p e s m args below meth c s₁ B hml hv
  obtain ⟨rfl, hsz, hP, hE, hD0, hH⟩ := hv
  have hx := B.exec
  have hb := B.bytes
  have hr := B.returns
  have hts := atoms_spec (ws := wsX11_isBeat) B.pre
  have hown : s.vm.findClass RX11 = some m.cls := findClass_of_methodNamed B.named
  have hlocks := B.notSynchronized
  have hK := hE.1
  subst hsz
  have hD := hD0.self (sz := s.heap.size)
  generalize hAe : va_A (w_c_X11_isBeat cI cJ cB cZ cO ) s.heap.size = A at hD hH ⊢
  have hA : ∀ q : Nat, s.heap.size ≤ q → A q := fun q h => by rw [← hAe]; exact Or.inr h
  have hS : va_S A s.heap s.heap [] := va_S.rf
  obtain ⟨hP, hD⟩ : ct_B D A s.heap [] := ⟨hP, hD⟩
  have hl := lv_entry ([.int v]) (n := 1) (Nat.le_of_ble_eq_true rfl)
  rw [lg_entry_eq]
  generalize (lg_sl ([.int v]) ++ List.replicate (1 - (lg_sl ([.int v])).length) Slot.unset).toArray = ls at hl ⊢
  have hl : lv_has ls 1 [(0, .int v)] := hl
  obtain ⟨H, hHe⟩ : ∃ H : Heap, H = s.heap := ⟨_, rfl⟩
  rw [← hHe] at hP
  have hS : va_S A s.heap H [] := by rw [hHe]; exact va_S.rf
  refine ct_start hHe ?_
  refine lv_iload_n hx hb dX11_isBeat_0 rfl (lv_at hl 0 rfl) ?_
  refine lv_sipush (v := 200) hx hb dX11_isBeat_1 (by decide) ?_
  refine ct_calli (D := D) (wr := []) (va_runS (As := [.int v, .int 200]) (rest := []) ⟨hx, hb, hml, hown, hts⟩ (c_X11_isWithin l D G cI cJ cB cZ cO v 200  H.size) (va_cwS 2 hts gX11_isBeat_X11_isWithin rfl rfl rfl (by decide +kernel) ⟨Nat.le_of_ble_eq_true rfl, Nat.le_of_ble_eq_true rfl⟩) (ct_preS (T := ct_T cI cJ cB cZ cO) hE hH hP hD hS hA [] (by decide) rfl) rfl rfl hl.1 rfl (lv_room (Nat.le_of_ble_eq_true rfl)) dX11_isBeat_4 ⟨Nat.le_of_ble_eq_true rfl, Nat.le_of_ble_eq_true rfl⟩) hP hD hS hA [] [] rfl rfl (by decide) (by decide) (fun r1 u H locs hw hP hD hS => ?_)
  obtain ⟨hP, hD⟩ : ct_B D A H [] := ⟨hP, hD⟩
  have hk2 : (200 : Int32).toInt = 200 := by decide
  have hz := hw
  rcases hz with ⟨hz, hz2⟩ | ⟨hz, hz2⟩
  · subst hz
    have hz_3 : (0 ≤ v.toInt ∧ v.toInt < (200 : Int32).toInt) := hz2
    obtain ⟨hP9, hD9⟩ : ct_B D A H [] := ⟨hP.sub [] rfl, hD.sub [] (by decide) rfl⟩
    exact W.zret (v := 1) (ty := .boolean) hx hb hr rfl (fun t ht hW => ⟨⟨1, (), rfl, (Or.inl ⟨rfl, (show (0 ≤ v.toInt ∧ v.toInt < 200) by omega)⟩), by rw [ht]; exact hP9, hD9⟩, hS.F ht⟩) hS.2.2 dX11_isBeat_7
  · subst hz
    have hz_4 : ¬ (0 ≤ v.toInt ∧ v.toInt < (200 : Int32).toInt) := hz2
    obtain ⟨hP9, hD9⟩ : ct_B D A H [] := ⟨hP.sub [] rfl, hD.sub [] (by decide) rfl⟩
    exact W.zret (v := 0) (ty := .boolean) hx hb hr rfl (fun t ht hW => ⟨⟨0, (), rfl, (Or.inr (⟨rfl, (show ¬ (0 ≤ v.toInt ∧ v.toInt < 200) by omega)⟩)), by rw [ht]; exact hP9, hD9⟩, hS.F ht⟩) hS.2.2 dX11_isBeat_7
abbrev w_c_X11_wrap (cI cJ cB cZ cO : ClassId)  : va_W := []
set_option maxHeartbeats 4000000 in
set_option maxRecDepth 100000 in
/-- X11 wrap -/
theorem c_X11_wrap (l : Launch) (D : va_G) (G : ct_G) (cI cJ cB cZ cO : ClassId) (a1 : Int32) (a2 : Int32)  (sz : Nat) : Met l yX11_wrap wsX11_wrap ({ frames := 1, cells := 0, slots := 0, locals := 22 }) (va_Pc [.int a1, .int a2] (ct_P D (ct_T cI cJ cB cZ cO) G (w_c_X11_wrap cI cJ cB cZ cO ) sz)) (va_Qi (fun (rz : Int32) (u : Unit) => (0 ≤ rz.toInt ∧ (rz.toInt < a2.toInt ∨ rz.toInt = 0)) ∧ (wr_ok a1.toInt a2.toInt rz.toInt)) (fun (u : Unit) t => ct_Q D (va_A (w_c_X11_wrap cI cJ cB cZ cO ) sz) [] t) (va_A (w_c_X11_wrap cI cJ cB cZ cO ) sz)) 0 0 (va_A (w_c_X11_wrap cI cJ cB cZ cO ) sz) := by
  refine Met.ofW (cc := cX11_wrap) (maxL := 2) (ret := (some .int)) (by decide) rfl ?_
  intro p e s m args below meth c s₁ B hml hv
  obtain ⟨rfl, hsz, hP, hE, hD0, hH⟩ := hv
  have hx := B.exec
  have hb := B.bytes
  have hr := B.returns
  have hts := atoms_spec (ws := wsX11_wrap) B.pre
  have hown : s.vm.findClass RX11 = some m.cls := findClass_of_methodNamed B.named
  have hlocks := B.notSynchronized
  have hK := hE.1
  subst hsz
  have hD := hD0.self (sz := s.heap.size)
  generalize hAe : va_A (w_c_X11_wrap cI cJ cB cZ cO ) s.heap.size = A at hD hH ⊢
  have hA : ∀ q : Nat, s.heap.size ≤ q → A q := fun q h => by rw [← hAe]; exact Or.inr h
  have hS : va_S A s.heap s.heap [] := va_S.rf
  obtain ⟨hP, hD⟩ : ct_B D A s.heap [] := ⟨hP, hD⟩
  have hl := lv_entry ([.int a1, .int a2]) (n := 2) (Nat.le_of_ble_eq_true rfl)
  rw [lg_entry_eq]
  generalize (lg_sl ([.int a1, .int a2]) ++ List.replicate (2 - (lg_sl ([.int a1, .int a2])).length) Slot.unset).toArray = ls at hl ⊢
  have hl : lv_has ls 2 [(0, .int a1), (1, .int a2)] := hl
  obtain ⟨H, hHe⟩ : ∃ H : Heap, H = s.heap := ⟨_, rfl⟩
  rw [← hHe] at hP
  have hS : va_S A s.heap H [] := by rw [hHe]; exact va_S.rf
  refine ct_start hHe ?_
  refine lv_iload_n hx hb dX11_wrap_0 rfl (lv_at hl 1 rfl) ?_
  refine lv_if_le (tgt := 12) hx hb dX11_wrap_1 (by decide) (fun hc => ?_) (fun hc => ?_)
  · have hq1 : a2.toInt ≤ 0 := tq_le rfl (by decide) hc
    have hb2 := tq_lo a2
    refine lv_iconst (v := 0) hx hb dX11_wrap_12 (by decide) ?_
    have hk3 : (0 : Int32).toInt = 0 := by decide
    obtain ⟨hP9, hD9⟩ : ct_B D A H [] := ⟨hP.sub [] rfl, hD.sub [] (by decide) rfl⟩
    exact W.iret (v := 0) hx hb hr (fun t ht hW => ⟨⟨0, (), rfl, ⟨(show 0 ≤ (0 : Int32).toInt ∧ ((0 : Int32).toInt < a2.toInt ∨ (0 : Int32).toInt = 0) by omega), (show wr_ok a1.toInt a2.toInt (0 : Int32).toInt by exact fun h => absurd h (by omega))⟩, by rw [ht]; exact hP9, hD9⟩, hS.F ht⟩) hS.2.2 dX11_wrap_13
  · have hq1 : 0 < a2.toInt := tq_nle rfl (by decide) hc
    have hb4 := tq_lo a2
    refine lv_iload_n hx hb dX11_wrap_4 rfl (lv_at hl 0 rfl) ?_
    refine lv_iload_n hx hb dX11_wrap_5 rfl (lv_at hl 1 rfl) ?_
    refine ct_calli (D := D) (wr := []) (va_runS (As := [.int a1, .int a2]) (rest := []) ⟨hx, hb, hml, hown, hts⟩ (c_J9_floorMod_7cf53 l D G cI cJ cB cZ cO a1 a2 (by omega) H.size) (va_cwS 2 hts gX11_wrap_J9_floorMod_7cf53 rfl rfl rfl (by decide +kernel) ⟨Nat.le_of_ble_eq_true rfl, Nat.le_of_ble_eq_true rfl⟩) (ct_preS (T := ct_T cI cJ cB cZ cO) hE hH hP hD hS hA [] (by decide) rfl) rfl rfl hl.1 rfl (lv_room (Nat.le_of_ble_eq_true rfl)) dX11_wrap_6 ⟨Nat.le_of_ble_eq_true rfl, Nat.le_of_ble_eq_true rfl⟩) hP hD hS hA [] [] rfl rfl (by decide) (by decide) (fun r5 u H locs hw hP hD hS => ?_)
    obtain ⟨hP, hD⟩ : ct_B D A H [] := ⟨hP, hD⟩
    obtain ⟨hz, hp0⟩ := hw
    have hp_6 : wr_ok a1.toInt a2.toInt r5.toInt := hp0
    have h_r5 : 0 ≤ r5.toInt ∧ r5.toInt < a2.toInt := hz
    refine lv_goto (tgt := 13) hx hb dX11_wrap_9 (by decide) ?_
    obtain ⟨hP9, hD9⟩ : ct_B D A H [] := ⟨hP.sub [] rfl, hD.sub [] (by decide) rfl⟩
    exact W.iret (v := r5) hx hb hr (fun t ht hW => ⟨⟨r5, (), rfl, ⟨(show 0 ≤ r5.toInt ∧ (r5.toInt < a2.toInt ∨ r5.toInt = 0) by omega), (show wr_ok a1.toInt a2.toInt r5.toInt by exact hp_6)⟩, by rw [ht]; exact hP9, hD9⟩, hS.F ht⟩) hS.2.2 dX11_wrap_13
abbrev w_c_X11_commonDivisor (cI cJ cB cZ cO : ClassId)  : va_W := []
set_option maxHeartbeats 4000000 in
set_option maxRecDepth 100000 in
/-- X11 commonDivisor -/
theorem c_X11_commonDivisor (l : Launch) (D : va_G) (G : ct_G) (cI cJ cB cZ cO : ClassId) (a1 : Int64) (a2 : Int64)  (sz : Nat) : Met l yX11_commonDivisor wsX11_commonDivisor ({ frames := 0, cells := 0, slots := 0, locals := 0 }) (va_Pc [.long a1, .long a2] (ct_P D (ct_T cI cJ cB cZ cO) G (w_c_X11_commonDivisor cI cJ cB cZ cO ) sz)) (va_Ql (fun (rz : Int64) (u : Unit) => True) (fun (u : Unit) t => ct_Q D (va_A (w_c_X11_commonDivisor cI cJ cB cZ cO ) sz) [] t) (va_A (w_c_X11_commonDivisor cI cJ cB cZ cO ) sz)) 0 0 (va_A (w_c_X11_commonDivisor cI cJ cB cZ cO ) sz) := by
  refine Met.ofW (cc := cX11_commonDivisor) (maxL := 11) (ret := (some .long)) (by decide) rfl ?_
  intro p e s m args below meth c s₁ B hml hv
  obtain ⟨rfl, hsz, hP, hE, hD0, hH⟩ := hv
  have hx := B.exec
  have hb := B.bytes
  have hr := B.returns
  have hts := atoms_spec (ws := wsX11_commonDivisor) B.pre
  have hown : s.vm.findClass RX11 = some m.cls := findClass_of_methodNamed B.named
  have hlocks := B.notSynchronized
  have hK := hE.1
  subst hsz
  have hD := hD0.self (sz := s.heap.size)
  generalize hAe : va_A (w_c_X11_commonDivisor cI cJ cB cZ cO ) s.heap.size = A at hD hH ⊢
  have hA : ∀ q : Nat, s.heap.size ≤ q → A q := fun q h => by rw [← hAe]; exact Or.inr h
  have hS : va_S A s.heap s.heap [] := va_S.rf
  obtain ⟨hP, hD⟩ : ct_B D A s.heap [] := ⟨hP, hD⟩
  have hl := lv_entry ([.long a1, .long a2]) (n := 11) (Nat.le_of_ble_eq_true rfl)
  rw [lg_entry_eq]
  generalize (lg_sl ([.long a1, .long a2]) ++ List.replicate (11 - (lg_sl ([.long a1, .long a2])).length) Slot.unset).toArray = ls at hl ⊢
  have hl : lv_has ls 11 [(0, .long a1), (2, .long a2)] := hl
  obtain ⟨H, hHe⟩ : ∃ H : Heap, H = s.heap := ⟨_, rfl⟩
  rw [← hHe] at hP
  have hS : va_S A s.heap H [] := by rw [hHe]; exact va_S.rf
  refine ct_start hHe ?_
  refine lv_lload_n hx hb dX11_commonDivisor_0 rfl (lv_at hl 0 rfl) ?_
  refine lv_lstore (lv' := [(4, .long a1), (0, .long a1), (2, .long a2)]) hx hb dX11_commonDivisor_1 hl (by decide) rfl (fun ls hl => ?_)
  refine lv_lload_n hx hb dX11_commonDivisor_3 rfl (lv_at hl 2 rfl) ?_
  refine lv_lstore (lv' := [(6, .long a2), (4, .long a1), (0, .long a1), (2, .long a2)]) hx hb dX11_commonDivisor_4 hl (by decide) rfl (fun ls hl => ?_)
  refine lv_iconst (v := 0) hx hb dX11_commonDivisor_6 (by decide) ?_
  refine lv_istore (lv' := [(8, .int 0), (6, .long a2), (4, .long a1), (0, .long a1), (2, .long a2)]) hx hb dX11_commonDivisor_7 hl (by decide) rfl (fun ls hl => ?_)
  refine ct_loop (X := Int64 × Int64 × Int32) (fun x => (200 - x.2.2.toInt).toNat) (fun x H locs ls => ((0 ≤ x.2.2.toInt ∧ x.2.2.toInt ≤ 200)) ∧ ct_B D A H [] ∧ va_S A s.heap H locs ∧ lv_has ls 11 [(8, .int x.2.2), (6, .long x.2.1), (4, .long x.1), (0, .long a1), (2, .long a2)]) 9 (a1, a2, (0 : Int32)) ⟨(show 0 ≤ (0 : Int32).toInt ∧ (0 : Int32).toInt ≤ 200 by decide), ⟨hP, hD⟩, hS, lv_sub hl [0, 1, 2, 3, 4] rfl⟩ (fun x ih48 H locs ls hI => ?_)
  obtain ⟨x45, x46, x47⟩ := x
  obtain ⟨h_x47, ⟨hP, hD⟩, hS, hl⟩ := hI
  have h_x47 : (0 ≤ x47.toInt ∧ x47.toInt ≤ 200) := h_x47
  obtain ⟨hP, hD⟩ : ct_B D A H [] := ⟨hP, hD⟩
  have hl : lv_has ls 11 [(8, .int x47), (6, .long x46), (4, .long x45), (0, .long a1), (2, .long a2)] := hl
  refine lv_iload hx hb dX11_commonDivisor_9 (lv_at hl 0 rfl) ?_
  refine lv_sipush (v := 200) hx hb dX11_commonDivisor_11 (by decide) ?_
  refine lv_icmp_ge (tgt := 45) hx hb dX11_commonDivisor_14 (by decide) (fun hc => ?_) (fun hc => ?_)
  · have hq49 : 200 ≤ x47.toInt := tq_le (by decide) rfl hc
    refine lv_lload hx hb dX11_commonDivisor_45 (lv_at hl 2 rfl) ?_
    obtain ⟨hP9, hD9⟩ : ct_B D A H [] := ⟨hP.sub [] rfl, hD.sub [] (by decide) rfl⟩
    exact W.lret (v := x45) hx hb hr (fun t ht hW => ⟨⟨x45, (), rfl, trivial, by rw [ht]; exact hP9, hD9⟩, hS.F ht⟩) hS.2.2 dX11_commonDivisor_47
  · have hq49 : x47.toInt < 200 := tq_nle (by decide) rfl hc
    refine lv_lload hx hb dX11_commonDivisor_17 (lv_at hl 1 rfl) ?_
    refine lv_lconst (v := 0) hx hb dX11_commonDivisor_19 (by decide) ?_
    refine W.lcmp hx hb dX11_commonDivisor_20 ?_
    refine lv_if_eq (tgt := 45) hx hb dX11_commonDivisor_21 (by decide) (fun hc => ?_) (fun hc => ?_)
    · have hq50 : x46.toInt = 0 := tl_eq rfl (by decide) ((lg_cmp_eq _ _).mp hc)
      refine lv_lload hx hb dX11_commonDivisor_45 (lv_at hl 2 rfl) ?_
      obtain ⟨hP9, hD9⟩ : ct_B D A H [] := ⟨hP.sub [] rfl, hD.sub [] (by decide) rfl⟩
      exact W.lret (v := x45) hx hb hr (fun t ht hW => ⟨⟨x45, (), rfl, trivial, by rw [ht]; exact hP9, hD9⟩, hS.F ht⟩) hS.2.2 dX11_commonDivisor_47
    · have hq50 : x46.toInt ≠ 0 := tl_ne rfl (by decide) (fun z => hc ((lg_cmp_eq _ _).mpr z))
      refine lv_lload hx hb dX11_commonDivisor_24 (lv_at hl 2 rfl) ?_
      refine lv_lload hx hb dX11_commonDivisor_26 (lv_at hl 1 rfl) ?_
      refine lv_lrem hx hb dX11_commonDivisor_28 (tl_nz (by omega)) ?_
      refine lv_topl (fun z51 ez51 => ?_)
      refine lv_lstore (lv' := [(9, .long z51), (8, .int x47), (6, .long x46), (4, .long x45), (0, .long a1), (2, .long a2)]) hx hb dX11_commonDivisor_29 hl (by decide) rfl (fun ls hl => ?_)
      refine lv_lload hx hb dX11_commonDivisor_31 (lv_at hl 2 rfl) ?_
      refine lv_lstore (lv' := [(4, .long x46), (9, .long z51), (8, .int x47), (6, .long x46), (0, .long a1), (2, .long a2)]) hx hb dX11_commonDivisor_33 hl (by decide) rfl (fun ls hl => ?_)
      refine lv_lload hx hb dX11_commonDivisor_35 (lv_at hl 1 rfl) ?_
      refine lv_lstore (lv' := [(6, .long z51), (4, .long x46), (9, .long z51), (8, .int x47), (0, .long a1), (2, .long a2)]) hx hb dX11_commonDivisor_37 hl (by decide) rfl (fun ls hl => ?_)
      obtain ⟨z52, ez52⟩ : ∃ z : Int32, z = x47 + 1 := ⟨_, rfl⟩
      have fz52 : z52.toInt = x47.toInt + 1 := by rw [ez52]; exact tq_add rfl (by decide) (by omega)
      refine lv_iinc (v := z52) (lv' := [(8, .int z52), (6, .long z51), (4, .long x46), (9, .long z51), (0, .long a1), (2, .long a2)]) hx hb dX11_commonDivisor_39 hl (k := 3) rfl ez52.symm (by decide) rfl (fun ls hl => ?_)
      refine lv_goto (tgt := 9) hx hb dX11_commonDivisor_42 (by decide) ?_
      exact ih48 (x46, z51, z52) _ _ _ (show (200 - z52.toInt).toNat < (200 - x47.toInt).toNat by omega) ⟨(show 0 ≤ z52.toInt ∧ z52.toInt ≤ 200 by omega), ⟨hP, hD⟩, hS, lv_sub hl [0, 1, 2, 4, 5] rfl⟩
abbrev w_c_X11_commonMultiple (cI cJ cB cZ cO : ClassId)  : va_W := []
set_option maxHeartbeats 4000000 in
set_option maxRecDepth 100000 in
/-- X11 commonMultiple -/
theorem c_X11_commonMultiple (l : Launch) (D : va_G) (G : ct_G) (cI cJ cB cZ cO : ClassId) (a1 : Int64) (a2 : Int64)  (sz : Nat) : Met l yX11_commonMultiple wsX11_commonMultiple ({ frames := 1, cells := 0, slots := 0, locals := 30 }) (va_Pc [.long a1, .long a2] (ct_P D (ct_T cI cJ cB cZ cO) G (w_c_X11_commonMultiple cI cJ cB cZ cO ) sz)) (va_Ql (fun (rz : Int64) (u : Unit) => True) (fun (u : Unit) t => ct_Q D (va_A (w_c_X11_commonMultiple cI cJ cB cZ cO ) sz) [] t) (va_A (w_c_X11_commonMultiple cI cJ cB cZ cO ) sz)) 0 0 (va_A (w_c_X11_commonMultiple cI cJ cB cZ cO ) sz) := by
  refine Met.ofW (cc := cX11_commonMultiple) (maxL := 6) (ret := (some .long)) (by decide) rfl ?_
  intro p e s m args below meth c s₁ B hml hv
  obtain ⟨rfl, hsz, hP, hE, hD0, hH⟩ := hv
  have hx := B.exec
  have hb := B.bytes
  have hr := B.returns
  have hts := atoms_spec (ws := wsX11_commonMultiple) B.pre
  have hown : s.vm.findClass RX11 = some m.cls := findClass_of_methodNamed B.named
  have hlocks := B.notSynchronized
  have hK := hE.1
  subst hsz
  have hD := hD0.self (sz := s.heap.size)
  generalize hAe : va_A (w_c_X11_commonMultiple cI cJ cB cZ cO ) s.heap.size = A at hD hH ⊢
  have hA : ∀ q : Nat, s.heap.size ≤ q → A q := fun q h => by rw [← hAe]; exact Or.inr h
  have hS : va_S A s.heap s.heap [] := va_S.rf
  obtain ⟨hP, hD⟩ : ct_B D A s.heap [] := ⟨hP, hD⟩
  have hl := lv_entry ([.long a1, .long a2]) (n := 6) (Nat.le_of_ble_eq_true rfl)
  rw [lg_entry_eq]
  generalize (lg_sl ([.long a1, .long a2]) ++ List.replicate (6 - (lg_sl ([.long a1, .long a2])).length) Slot.unset).toArray = ls at hl ⊢
  have hl : lv_has ls 6 [(0, .long a1), (2, .long a2)] := hl
  obtain ⟨H, hHe⟩ : ∃ H : Heap, H = s.heap := ⟨_, rfl⟩
  rw [← hHe] at hP
  have hS : va_S A s.heap H [] := by rw [hHe]; exact va_S.rf
  refine ct_start hHe ?_
  refine lv_lload_n hx hb dX11_commonMultiple_0 rfl (lv_at hl 0 rfl) ?_
  refine lv_lload_n hx hb dX11_commonMultiple_1 rfl (lv_at hl 1 rfl) ?_
  refine ct_calll (D := D) (wr := []) (va_runS (As := [.long a1, .long a2]) (rest := []) ⟨hx, hb, hml, hown, hts⟩ (c_X11_commonDivisor l D G cI cJ cB cZ cO a1 a2  H.size) (va_cwS 2 hts gX11_commonMultiple_X11_commonDivisor rfl rfl rfl (by decide +kernel) ⟨Nat.le_of_ble_eq_true rfl, Nat.le_of_ble_eq_true rfl⟩) (ct_preS (T := ct_T cI cJ cB cZ cO) hE hH hP hD hS hA [] (by decide) rfl) rfl rfl hl.1 rfl (lv_room (Nat.le_of_ble_eq_true rfl)) dX11_commonMultiple_2 ⟨Nat.le_of_ble_eq_true rfl, Nat.le_of_ble_eq_true rfl⟩) hP hD hS hA [] [] rfl rfl (by decide) (by decide) (fun r1 u H locs hw hP hD hS => ?_)
  obtain ⟨hP, hD⟩ : ct_B D A H [] := ⟨hP, hD⟩
  refine lv_lstore (lv' := [(4, .long r1), (0, .long a1), (2, .long a2)]) hx hb dX11_commonMultiple_5 hl (by decide) rfl (fun ls hl => ?_)
  refine lv_lload hx hb dX11_commonMultiple_7 (lv_at hl 0 rfl) ?_
  refine lv_lconst (v := 0) hx hb dX11_commonMultiple_9 (by decide) ?_
  refine W.lcmp hx hb dX11_commonMultiple_10 ?_
  refine lv_if_ne (tgt := 18) hx hb dX11_commonMultiple_11 (by decide) (fun hc => ?_) (fun hc => ?_)
  · have hq2 : r1.toInt ≠ 0 := tl_ne rfl (by decide) (fun z => hc ((lg_cmp_eq _ _).mpr z))
    refine lv_lload_n hx hb dX11_commonMultiple_18 rfl (lv_at hl 1 rfl) ?_
    refine lv_lload hx hb dX11_commonMultiple_19 (lv_at hl 0 rfl) ?_
    refine lv_ldiv hx hb dX11_commonMultiple_21 (tl_nz (by omega)) ?_
    refine lv_topl (fun z3 ez3 => ?_)
    refine lv_lload_n hx hb dX11_commonMultiple_22 rfl (lv_at hl 2 rfl) ?_
    refine lv_lmul hx hb dX11_commonMultiple_23 ?_
    refine lv_topl (fun z4 ez4 => ?_)
    obtain ⟨hP9, hD9⟩ : ct_B D A H [] := ⟨hP.sub [] rfl, hD.sub [] (by decide) rfl⟩
    exact W.lret (v := z4) hx hb hr (fun t ht hW => ⟨⟨z4, (), rfl, trivial, by rw [ht]; exact hP9, hD9⟩, hS.F ht⟩) hS.2.2 dX11_commonMultiple_24
  · have hq2 : r1.toInt = 0 := tl_eq rfl (by decide) ((lg_cmp_eq _ _).mp hc)
    refine lv_lconst (v := 0) hx hb dX11_commonMultiple_14 (by decide) ?_
    refine lv_goto (tgt := 24) hx hb dX11_commonMultiple_15 (by decide) ?_
    obtain ⟨hP9, hD9⟩ : ct_B D A H [] := ⟨hP.sub [] rfl, hD.sub [] (by decide) rfl⟩
    exact W.lret (v := 0) hx hb hr (fun t ht hW => ⟨⟨0, (), rfl, trivial, by rw [ht]; exact hP9, hD9⟩, hS.F ht⟩) hS.2.2 dX11_commonMultiple_24
abbrev w_c_X11_power (cI cJ cB cZ cO : ClassId)  : va_W := []
set_option maxHeartbeats 4000000 in
set_option maxRecDepth 100000 in
/-- X11 power -/
theorem c_X11_power (l : Launch) (D : va_G) (G : ct_G) (cI cJ cB cZ cO : ClassId) (a1 : Int32) (a2 : Int32)  (sz : Nat) : Met l yX11_power wsX11_power ({ frames := 0, cells := 0, slots := 0, locals := 0 }) (va_Pc [.int a1, .int a2] (ct_P D (ct_T cI cJ cB cZ cO) G (w_c_X11_power cI cJ cB cZ cO ) sz)) (va_Ql (fun (rz : Int64) (u : Unit) => True) (fun (u : Unit) t => ct_Q D (va_A (w_c_X11_power cI cJ cB cZ cO ) sz) [] t) (va_A (w_c_X11_power cI cJ cB cZ cO ) sz)) 0 0 (va_A (w_c_X11_power cI cJ cB cZ cO ) sz) := by
  refine Met.ofW (cc := cX11_power) (maxL := 5) (ret := (some .long)) (by decide) rfl ?_
  intro p e s m args below meth c s₁ B hml hv
  obtain ⟨rfl, hsz, hP, hE, hD0, hH⟩ := hv
  have hx := B.exec
  have hb := B.bytes
  have hr := B.returns
  have hts := atoms_spec (ws := wsX11_power) B.pre
  have hown : s.vm.findClass RX11 = some m.cls := findClass_of_methodNamed B.named
  have hlocks := B.notSynchronized
  have hK := hE.1
  subst hsz
  have hD := hD0.self (sz := s.heap.size)
  generalize hAe : va_A (w_c_X11_power cI cJ cB cZ cO ) s.heap.size = A at hD hH ⊢
  have hA : ∀ q : Nat, s.heap.size ≤ q → A q := fun q h => by rw [← hAe]; exact Or.inr h
  have hS : va_S A s.heap s.heap [] := va_S.rf
  obtain ⟨hP, hD⟩ : ct_B D A s.heap [] := ⟨hP, hD⟩
  have hl := lv_entry ([.int a1, .int a2]) (n := 5) (Nat.le_of_ble_eq_true rfl)
  rw [lg_entry_eq]
  generalize (lg_sl ([.int a1, .int a2]) ++ List.replicate (5 - (lg_sl ([.int a1, .int a2])).length) Slot.unset).toArray = ls at hl ⊢
  have hl : lv_has ls 5 [(0, .int a1), (1, .int a2)] := hl
  obtain ⟨H, hHe⟩ : ∃ H : Heap, H = s.heap := ⟨_, rfl⟩
  rw [← hHe] at hP
  have hS : va_S A s.heap H [] := by rw [hHe]; exact va_S.rf
  refine ct_start hHe ?_
  refine lv_lconst (v := 1) hx hb dX11_power_0 (by decide) ?_
  refine lv_lstore_n (lv' := [(2, .long 1), (0, .int a1), (1, .int a2)]) hx hb dX11_power_1 rfl hl (by decide) rfl (fun ls hl => ?_)
  refine lv_iconst (v := 0) hx hb dX11_power_2 (by decide) ?_
  refine lv_istore (lv' := [(4, .int 0), (2, .long 1), (0, .int a1), (1, .int a2)]) hx hb dX11_power_3 hl (by decide) rfl (fun ls hl => ?_)
  refine ct_loop (X := Int64 × Int32) (fun x => (2147483647 - x.2.toInt).toNat) (fun x H locs ls => ((0 ≤ x.2.toInt)) ∧ ct_B D A H [] ∧ va_S A s.heap H locs ∧ lv_has ls 5 [(4, .int x.2), (2, .long x.1), (0, .int a1), (1, .int a2)]) 5 ((1 : Int64), (0 : Int32)) ⟨(show 0 ≤ (0 : Int32).toInt by decide), ⟨hP, hD⟩, hS, lv_sub hl [0, 1, 2, 3] rfl⟩ (fun x ih58 H locs ls hI => ?_)
  obtain ⟨x56, x57⟩ := x
  obtain ⟨h_x57, ⟨hP, hD⟩, hS, hl⟩ := hI
  have h_x57 : (0 ≤ x57.toInt) := h_x57
  obtain ⟨hP, hD⟩ : ct_B D A H [] := ⟨hP, hD⟩
  have hl : lv_has ls 5 [(4, .int x57), (2, .long x56), (0, .int a1), (1, .int a2)] := hl
  refine lv_iload hx hb dX11_power_5 (lv_at hl 0 rfl) ?_
  refine lv_iload_n hx hb dX11_power_7 rfl (lv_at hl 3 rfl) ?_
  refine lv_icmp_ge (tgt := 22) hx hb dX11_power_8 (by decide) (fun hc => ?_) (fun hc => ?_)
  · have hq59 : a2.toInt ≤ x57.toInt := tq_le rfl rfl hc
    have hb60 := tq_lo x57
    have hb61 := tq_lo a2
    refine lv_lload_n hx hb dX11_power_22 rfl (lv_at hl 1 rfl) ?_
    obtain ⟨hP9, hD9⟩ : ct_B D A H [] := ⟨hP.sub [] rfl, hD.sub [] (by decide) rfl⟩
    exact W.lret (v := x56) hx hb hr (fun t ht hW => ⟨⟨x56, (), rfl, trivial, by rw [ht]; exact hP9, hD9⟩, hS.F ht⟩) hS.2.2 dX11_power_23
  · have hq59 : x57.toInt < a2.toInt := tq_nle rfl rfl hc
    have hb62 := tq_lo x57
    have hb63 := tq_lo a2
    refine lv_lload_n hx hb dX11_power_11 rfl (lv_at hl 1 rfl) ?_
    refine lv_iload_n hx hb dX11_power_12 rfl (lv_at hl 2 rfl) ?_
    refine lv_i2l (v := _) hx hb dX11_power_13 rfl ?_
    refine lv_topl (fun z64 ez64 => ?_)
    have fz64 : z64.toInt = a1.toInt := by rw [ez64]; exact tl_i rfl
    have hb65 := tq_lo a1
    refine lv_lmul hx hb dX11_power_14 ?_
    refine lv_topl (fun z66 ez66 => ?_)
    refine lv_lstore_n (lv' := [(2, .long z66), (4, .int x57), (0, .int a1), (1, .int a2)]) hx hb dX11_power_15 rfl hl (by decide) rfl (fun ls hl => ?_)
    obtain ⟨z67, ez67⟩ : ∃ z : Int32, z = x57 + 1 := ⟨_, rfl⟩
    have fz67 : z67.toInt = x57.toInt + 1 := by rw [ez67]; exact tq_add rfl (by decide) (by omega)
    refine lv_iinc (v := z67) (lv' := [(4, .int z67), (2, .long z66), (0, .int a1), (1, .int a2)]) hx hb dX11_power_16 hl (k := 1) rfl ez67.symm (by decide) rfl (fun ls hl => ?_)
    refine lv_goto (tgt := 5) hx hb dX11_power_19 (by decide) ?_
    exact ih58 (z66, z67) _ _ _ (show (2147483647 - z67.toInt).toNat < (2147483647 - x57.toInt).toNat by omega) ⟨(show 0 ≤ z67.toInt by omega), ⟨hP, hD⟩, hS, lv_sub hl [0, 1, 2, 3] rfl⟩
abbrev w_c_X11_choices (cI cJ cB cZ cO : ClassId)  : va_W := []
set_option maxHeartbeats 4000000 in
set_option maxRecDepth 100000 in
/-- X11 choices -/
theorem c_X11_choices (l : Launch) (D : va_G) (G : ct_G) (cI cJ cB cZ cO : ClassId) (a1 : Int32) (a2 : Int32) (h_a1 : 1 ≤ a1.toInt ∧ a1.toInt ≤ 9) (h_a2 : 0 ≤ a2.toInt ∧ a2.toInt ≤ 9) (sz : Nat) : Met l yX11_choices wsX11_choices ({ frames := 0, cells := 0, slots := 0, locals := 0 }) (va_Pc [.int a1, .int a2] (ct_P D (ct_T cI cJ cB cZ cO) G (w_c_X11_choices cI cJ cB cZ cO ) sz)) (va_Ql (fun (rz : Int64) (u : Unit) => True) (fun (u : Unit) t => ct_Q D (va_A (w_c_X11_choices cI cJ cB cZ cO ) sz) [] t) (va_A (w_c_X11_choices cI cJ cB cZ cO ) sz)) 0 0 (va_A (w_c_X11_choices cI cJ cB cZ cO ) sz) := by
  refine Met.ofW (cc := cX11_choices) (maxL := 5) (ret := (some .long)) (by decide) rfl ?_
  intro p e s m args below meth c s₁ B hml hv
  obtain ⟨rfl, hsz, hP, hE, hD0, hH⟩ := hv
  have hx := B.exec
  have hb := B.bytes
  have hr := B.returns
  have hts := atoms_spec (ws := wsX11_choices) B.pre
  have hown : s.vm.findClass RX11 = some m.cls := findClass_of_methodNamed B.named
  have hlocks := B.notSynchronized
  have hK := hE.1
  subst hsz
  have hD := hD0.self (sz := s.heap.size)
  generalize hAe : va_A (w_c_X11_choices cI cJ cB cZ cO ) s.heap.size = A at hD hH ⊢
  have hA : ∀ q : Nat, s.heap.size ≤ q → A q := fun q h => by rw [← hAe]; exact Or.inr h
  have hS : va_S A s.heap s.heap [] := va_S.rf
  obtain ⟨hP, hD⟩ : ct_B D A s.heap [] := ⟨hP, hD⟩
  have hl := lv_entry ([.int a1, .int a2]) (n := 5) (Nat.le_of_ble_eq_true rfl)
  rw [lg_entry_eq]
  generalize (lg_sl ([.int a1, .int a2]) ++ List.replicate (5 - (lg_sl ([.int a1, .int a2])).length) Slot.unset).toArray = ls at hl ⊢
  have hl : lv_has ls 5 [(0, .int a1), (1, .int a2)] := hl
  obtain ⟨H, hHe⟩ : ∃ H : Heap, H = s.heap := ⟨_, rfl⟩
  rw [← hHe] at hP
  have hS : va_S A s.heap H [] := by rw [hHe]; exact va_S.rf
  refine ct_start hHe ?_
  refine lv_lconst (v := 1) hx hb dX11_choices_0 (by decide) ?_
  refine lv_lstore_n (lv' := [(2, .long 1), (0, .int a1), (1, .int a2)]) hx hb dX11_choices_1 rfl hl (by decide) rfl (fun ls hl => ?_)
  refine lv_iconst (v := 1) hx hb dX11_choices_2 (by decide) ?_
  refine lv_istore (lv' := [(4, .int 1), (2, .long 1), (0, .int a1), (1, .int a2)]) hx hb dX11_choices_3 hl (by decide) rfl (fun ls hl => ?_)
  refine ct_loop (X := Int64 × Int32) (fun x => (10 - x.2.toInt).toNat) (fun x H locs ls => ((1 ≤ x.2.toInt ∧ x.2.toInt ≤ 10)) ∧ ct_B D A H [] ∧ va_S A s.heap H locs ∧ lv_has ls 5 [(4, .int x.2), (2, .long x.1), (0, .int a1), (1, .int a2)]) 5 ((1 : Int64), (1 : Int32)) ⟨(show 1 ≤ (1 : Int32).toInt ∧ (1 : Int32).toInt ≤ 10 by decide), ⟨hP, hD⟩, hS, lv_sub hl [0, 1, 2, 3] rfl⟩ (fun x ih71 H locs ls hI => ?_)
  obtain ⟨x69, x70⟩ := x
  obtain ⟨h_x70, ⟨hP, hD⟩, hS, hl⟩ := hI
  have h_x70 : (1 ≤ x70.toInt ∧ x70.toInt ≤ 10) := h_x70
  obtain ⟨hP, hD⟩ : ct_B D A H [] := ⟨hP, hD⟩
  have hl : lv_has ls 5 [(4, .int x70), (2, .long x69), (0, .int a1), (1, .int a2)] := hl
  refine lv_iload hx hb dX11_choices_5 (lv_at hl 0 rfl) ?_
  refine lv_iload_n hx hb dX11_choices_7 rfl (lv_at hl 3 rfl) ?_
  refine lv_icmp_gt (tgt := 31) hx hb dX11_choices_8 (by decide) (fun hc => ?_) (fun hc => ?_)
  · have hq72 : a2.toInt < x70.toInt := tq_lt rfl rfl hc
    refine lv_lload_n hx hb dX11_choices_31 rfl (lv_at hl 1 rfl) ?_
    obtain ⟨hP9, hD9⟩ : ct_B D A H [] := ⟨hP.sub [] rfl, hD.sub [] (by decide) rfl⟩
    exact W.lret (v := x69) hx hb hr (fun t ht hW => ⟨⟨x69, (), rfl, trivial, by rw [ht]; exact hP9, hD9⟩, hS.F ht⟩) hS.2.2 dX11_choices_32
  · have hq72 : x70.toInt ≤ a2.toInt := tq_nlt rfl rfl hc
    refine lv_lload_n hx hb dX11_choices_11 rfl (lv_at hl 1 rfl) ?_
    refine lv_iload_n hx hb dX11_choices_12 rfl (lv_at hl 2 rfl) ?_
    refine lv_iload_n hx hb dX11_choices_13 rfl (lv_at hl 3 rfl) ?_
    refine lv_isub hx hb dX11_choices_14 ?_
    refine lv_topi (fun z73 ez73 => ?_)
    have fz73 : z73.toInt = a1.toInt - a2.toInt := by rw [ez73]; exact tq_subt rfl rfl (by omega)
    refine lv_iload hx hb dX11_choices_15 (lv_at hl 0 rfl) ?_
    refine lv_iadd hx hb dX11_choices_17 ?_
    refine lv_topi (fun z74 ez74 => ?_)
    have fz74 : z74.toInt = z73.toInt + x70.toInt := by rw [ez74]; exact tq_add rfl rfl (by omega)
    refine lv_i2l (v := _) hx hb dX11_choices_18 rfl ?_
    refine lv_topl (fun z75 ez75 => ?_)
    have fz75 : z75.toInt = z74.toInt := by rw [ez75]; exact tl_i rfl
    refine lv_lmul hx hb dX11_choices_19 ?_
    refine lv_topl (fun z76 ez76 => ?_)
    refine lv_iload hx hb dX11_choices_20 (lv_at hl 0 rfl) ?_
    refine lv_i2l (v := _) hx hb dX11_choices_22 rfl ?_
    refine lv_topl (fun z77 ez77 => ?_)
    have fz77 : z77.toInt = x70.toInt := by rw [ez77]; exact tl_i rfl
    refine lv_ldiv hx hb dX11_choices_23 (tl_nz (by omega)) ?_
    refine lv_topl (fun z78 ez78 => ?_)
    refine lv_lstore_n (lv' := [(2, .long z78), (4, .int x70), (0, .int a1), (1, .int a2)]) hx hb dX11_choices_24 rfl hl (by decide) rfl (fun ls hl => ?_)
    obtain ⟨z79, ez79⟩ : ∃ z : Int32, z = x70 + 1 := ⟨_, rfl⟩
    have fz79 : z79.toInt = x70.toInt + 1 := by rw [ez79]; exact tq_add rfl (by decide) (by omega)
    refine lv_iinc (v := z79) (lv' := [(4, .int z79), (2, .long z78), (0, .int a1), (1, .int a2)]) hx hb dX11_choices_25 hl (k := 1) rfl ez79.symm (by decide) rfl (fun ls hl => ?_)
    refine lv_goto (tgt := 5) hx hb dX11_choices_28 (by decide) ?_
    exact ih71 (z78, z79) _ _ _ (show (10 - z79.toInt).toNat < (10 - x70.toInt).toNat by omega) ⟨(show 1 ≤ z79.toInt ∧ z79.toInt ≤ 10 by omega), ⟨hP, hD⟩, hS, lv_sub hl [0, 1, 2, 3] rfl⟩
abbrev w_c_fill (cI cJ cB cZ cO : ClassId) (a : Nat) (n : Nat) (f : Nat → Int32) : va_W := [(a, .inl (cI, n, .inl (f)))]
set_option maxHeartbeats 4000000 in
set_option maxRecDepth 100000 in
/-- Arrays.fill -/
theorem c_fill (l : Launch) (D : va_G) (G : ct_G) (cI cJ cB cZ cO : ClassId) (a : Nat) (n : Nat) (f : Nat → Int32) (v : Int32) (h_n : n < 2 ^ 31) (sz : Nat) : Met l yJ7_fill_53178 wsJ7_fill_53178 ({ frames := 0, cells := 0, slots := 0, locals := 0 }) (va_Pc [.ref a, .int v] (ct_P D (ct_T cI cJ cB cZ cO) G (w_c_fill cI cJ cB cZ cO a n f) sz)) (va_Qv (fun (u : (Nat → Int32)) => (∀ j : Nat, u j = v ∨ u j = f j)) (fun (u : (Nat → Int32)) t => ct_Q D (va_A (w_c_fill cI cJ cB cZ cO a n f) sz) [(a, .inl (cI, n, .inl (u)))] t) (va_A (w_c_fill cI cJ cB cZ cO a n f) sz)) 0 0 (va_A (w_c_fill cI cJ cB cZ cO a n f) sz) := by
  refine Met.ofW (cc := cJ7_fill_53178) (maxL := 4) (ret := none) (by decide) rfl ?_
  intro p e s m args below meth c s₁ B hml hv
  obtain ⟨rfl, hsz, hP, hE, hD0, hH⟩ := hv
  have hx := B.exec
  have hb := B.bytes
  have hr := B.returns
  have hts := atoms_spec (ws := wsJ7_fill_53178) B.pre
  have hown : s.vm.findClass RJ7 = some m.cls := findClass_of_methodNamed B.named
  have hlocks := B.notSynchronized
  have hK := hE.1
  subst hsz
  have hD := hD0.self (sz := s.heap.size)
  generalize hAe : va_A (w_c_fill cI cJ cB cZ cO a n f) s.heap.size = A at hD hH ⊢
  have hA : ∀ q : Nat, s.heap.size ≤ q → A q := fun q h => by rw [← hAe]; exact Or.inr h
  have hS : va_S A s.heap s.heap [] := va_S.rf
  obtain ⟨hP, hD⟩ : ct_B D A s.heap [(a, .inl (cI, n, .inl (f)))] := ⟨hP, hD⟩
  have hl := lv_entry ([.ref a, .int v]) (n := 4) (Nat.le_of_ble_eq_true rfl)
  rw [lg_entry_eq]
  generalize (lg_sl ([.ref a, .int v]) ++ List.replicate (4 - (lg_sl ([.ref a, .int v])).length) Slot.unset).toArray = ls at hl ⊢
  have hl : lv_has ls 4 [(0, .ref a), (1, .int v)] := hl
  obtain ⟨H, hHe⟩ : ∃ H : Heap, H = s.heap := ⟨_, rfl⟩
  rw [← hHe] at hP
  have hS : va_S A s.heap H [] := by rw [hHe]; exact va_S.rf
  refine ct_start hHe ?_
  refine lv_iconst (v := 0) hx hb dJ7_fill_53178_0 (by decide) ?_
  refine lv_istore_n (lv' := [(2, .int 0), (0, .ref a), (1, .int v)]) hx hb dJ7_fill_53178_1 rfl hl (by decide) rfl (fun ls hl => ?_)
  refine lv_aload_n hx hb dJ7_fill_53178_2 rfl (lv_at hl 1 rfl) ?_
  refine va_alen (D := D) (v := (nI n)) hx hb hK hP 0 0 rfl rfl rfl dJ7_fill_53178_3 ?_
  refine lv_istore_n (lv' := [(3, .int (nI n)), (2, .int 0), (0, .ref a), (1, .int v)]) hx hb dJ7_fill_53178_4 rfl hl (by decide) rfl (fun ls hl => ?_)
  refine ct_loop (X := (Nat → Int32) × Int32) (fun x => ((n : Int) - x.2.toInt).toNat) (fun x H locs ls => ((0 ≤ x.2.toInt)) ∧ (∀ j : Nat, x.1 j = v ∨ x.1 j = f j) ∧ ct_B D A H [(a, .inl (cI, n, .inl (x.1)))] ∧ va_S A s.heap H locs ∧ lv_has ls 4 [(3, .int (nI n)), (2, .int x.2), (0, .ref a), (1, .int v)]) 5 (f, (0 : Int32)) ⟨(show 0 ≤ (0 : Int32).toInt by decide), (show ∀ j : Nat, f j = v ∨ f j = f j by exact fun j => Or.inr rfl), ⟨hP, hD⟩, hS, lv_sub hl [0, 1, 2, 3] rfl⟩ (fun x ih46 H locs ls hI => ?_)
  obtain ⟨g44, x45⟩ := x
  obtain ⟨h_x45, he0, ⟨hP, hD⟩, hS, hl⟩ := hI
  have h_x45 : (0 ≤ x45.toInt) := h_x45
  have he0 : ∀ j : Nat, g44 j = v ∨ g44 j = f j := he0
  obtain ⟨hP, hD⟩ : ct_B D A H [(a, .inl (cI, n, .inl (g44)))] := ⟨hP, hD⟩
  have hl : lv_has ls 4 [(3, .int (nI n)), (2, .int x45), (0, .ref a), (1, .int v)] := hl
  have hnn : (nI n).toInt = (n : Int) := nI_toInt (by omega)
  refine lv_iload_n hx hb dJ7_fill_53178_5 rfl (lv_at hl 1 rfl) ?_
  refine lv_iload_n hx hb dJ7_fill_53178_6 rfl (lv_at hl 0 rfl) ?_
  refine lv_icmp_ge (tgt := 20) hx hb dJ7_fill_53178_7 (by decide) (fun hc => ?_) (fun hc => ?_)
  · have hq47 : (nI n).toInt ≤ x45.toInt := tq_le rfl rfl hc
    have hb48 := tq_lo x45
    have hb49 := tq_lo (nI n)
    obtain ⟨hP9, hD9⟩ : ct_B D A H [(a, .inl (cI, n, .inl (g44)))] := ⟨hP.sub [0] rfl, hD.sub [0] (by decide) rfl⟩
    exact W.vret hx hb hr (fun t ht hW => ⟨⟨g44, rfl, (show ∀ j : Nat, g44 j = v ∨ g44 j = f j by exact he0), by rw [ht]; exact hP9, hD9⟩, hS.F ht⟩) hS.2.2 dJ7_fill_53178_20
  · have hq47 : x45.toInt < (nI n).toInt := tq_nle rfl rfl hc
    have hb50 := tq_lo x45
    have hb51 := tq_lo (nI n)
    refine lv_aload_n hx hb dJ7_fill_53178_10 rfl (lv_at hl 2 rfl) ?_
    refine lv_iload_n hx hb dJ7_fill_53178_11 rfl (lv_at hl 1 rfl) ?_
    refine lv_iload_n hx hb dJ7_fill_53178_12 rfl (lv_at hl 3 rfl) ?_
    refine va_iast (D := D) hx hb hK hP hD hS 0 0 rfl rfl (tq_in rfl (by omega)) dJ7_fill_53178_13 (fun H locs hP hD hS => ?_)
    obtain ⟨g52, he0, hP, hD⟩ : ∃ g52 : Nat → Int32, (∀ j : Nat, g52 j = v ∨ g52 j = f j) ∧ ct_B D A H [(a, .inl (cI, n, .inl (g52)))] := ⟨_, upd_or he0 _, hP, hD⟩
    obtain ⟨z53, ez53⟩ : ∃ z : Int32, z = x45 + 1 := ⟨_, rfl⟩
    have fz53 : z53.toInt = x45.toInt + 1 := by rw [ez53]; exact tq_add rfl (by decide) (by omega)
    refine lv_iinc (v := z53) (lv' := [(2, .int z53), (3, .int (nI n)), (0, .ref a), (1, .int v)]) hx hb dJ7_fill_53178_14 hl (k := 1) rfl ez53.symm (by decide) rfl (fun ls hl => ?_)
    refine lv_goto (tgt := 5) hx hb dJ7_fill_53178_17 (by decide) ?_
    exact ih46 (g52, z53) _ _ _ (show ((n : Int) - z53.toInt).toNat < ((n : Int) - x45.toInt).toNat by omega) ⟨(show 0 ≤ z53.toInt by omega), (show ∀ j : Nat, g52 j = v ∨ g52 j = f j by exact he0), ⟨hP, hD⟩, hS, lv_sub hl [1, 0, 2, 3] rfl⟩
