abbrev w_c_X11_isWithin (cI cJ cB cZ cO : ClassId)  : va_W := []
set_option maxHeartbeats 4000000 in
set_option maxRecDepth 100000 in
/-- within: from 0 on, below a number -/
theorem c_X11_isWithin (l : Launch) (D : va_G) (cI cJ cB cZ cO : ClassId) (v : Int32) (k : Int32) (K : Int) (h_k : k.toInt = K) (sz : Nat) : Met l yX11_isWithin wsX11_isWithin ({ frames := 0, cells := 0, slots := 0, locals := 0 }) (va_Pc [.int v, .int k] (ct_P D (ct_T cI cJ cB cZ cO) (w_c_X11_isWithin cI cJ cB cZ cO ) sz)) (va_Qi (fun (rz : Int32) (u : Unit) => (rz = 1 ∧ (0 ≤ v.toInt ∧ v.toInt < K)) ∨ (rz = 0 ∧ ¬ (0 ≤ v.toInt ∧ v.toInt < K))) (fun (u : Unit) t => ct_Q D (va_A (w_c_X11_isWithin cI cJ cB cZ cO ) sz) [] t) (va_A (w_c_X11_isWithin cI cJ cB cZ cO ) sz)) 0 0 (va_A (w_c_X11_isWithin cI cJ cB cZ cO ) sz) := by
  refine Met.ofW (cc := cX11_isWithin) (maxL := 2) (ret := (some .boolean)) (by decide) rfl ?_
  intro p e s m args below meth c s₁ B hml hv
  obtain ⟨rfl, hsz, hP, hE, hD0⟩ := hv
  have hx := B.exec
  have hb := B.bytes
  have hr := B.returns
  have hts := atoms_spec (ws := wsX11_isWithin) B.pre
  have hown : s.vm.findClass RX11 = some m.cls := findClass_of_methodNamed B.named
  have hlocks := B.notSynchronized
  have hK := hE.1
  subst hsz
  have hD := hD0.self (sz := s.heap.size)
  generalize hAe : va_A (w_c_X11_isWithin cI cJ cB cZ cO ) s.heap.size = A at hD ⊢
  have hA : ∀ q : Nat, s.heap.size ≤ q → A q := fun q h => by rw [← hAe]; exact Or.inr h
  have hS : va_S A s.heap s.heap [] := va_S.rf
  have hP : va_P D vwCl [] s.heap := hP
  have hD : va_D A [] := hD
  have hl := lv_entry ([.int v, .int k]) (n := 2) (Nat.le_of_ble_eq_true rfl)
  rw [lg_entry_eq]
  generalize (lg_sl ([.int v, .int k]) ++ List.replicate (2 - (lg_sl ([.int v, .int k])).length) Slot.unset).toArray = ls at hl ⊢
  have hl : lv_has ls 2 [(0, .int v), (1, .int k)] := hl
  obtain ⟨H, hHe⟩ : ∃ H : Heap, H = s.heap := ⟨_, rfl⟩
  rw [← hHe] at hP
  have hS : va_S A s.heap H [] := by rw [hHe]; exact va_S.rf
  refine ct_start hHe ?_
  refine lv_iload_n hx hb dX11_isWithin_0 rfl (lv_at hl 0 rfl) ?_
  refine lv_if_lt (tgt := 13) hx hb dX11_isWithin_1 (by decide) (fun hc => ?_) (fun hc => ?_)
  · have hq1 : v.toInt < 0 := tq_lt rfl (by decide) hc
    refine lv_iconst (v := 0) hx hb dX11_isWithin_13 (by decide) ?_
    have hP9 := hP.sub (ws' := []) [] rfl
    have hD9 := hD.sub (ws' := []) [] (by decide) rfl
    exact W.zret (v := 0) (ty := .boolean) hx hb hr rfl (fun t ht hW => ⟨⟨0, (), rfl, (Or.inr (⟨rfl, by omega⟩)), by rw [ht]; exact hP9, hD9⟩, hS.F ht⟩) hS.2.2 dX11_isWithin_14
  · have hq1 : 0 ≤ v.toInt := tq_nlt rfl (by decide) hc
    refine lv_iload_n hx hb dX11_isWithin_4 rfl (lv_at hl 0 rfl) ?_
    refine lv_iload_n hx hb dX11_isWithin_5 rfl (lv_at hl 1 rfl) ?_
    refine lv_icmp_ge (tgt := 13) hx hb dX11_isWithin_6 (by decide) (fun hc => ?_) (fun hc => ?_)
    · have hq2 : K ≤ v.toInt := tq_le h_k rfl hc
      refine lv_iconst (v := 0) hx hb dX11_isWithin_13 (by decide) ?_
      have hP9 := hP.sub (ws' := []) [] rfl
      have hD9 := hD.sub (ws' := []) [] (by decide) rfl
      exact W.zret (v := 0) (ty := .boolean) hx hb hr rfl (fun t ht hW => ⟨⟨0, (), rfl, (Or.inr (⟨rfl, by omega⟩)), by rw [ht]; exact hP9, hD9⟩, hS.F ht⟩) hS.2.2 dX11_isWithin_14
    · have hq2 : v.toInt < K := tq_nle h_k rfl hc
      refine lv_iconst (v := 1) hx hb dX11_isWithin_9 (by decide) ?_
      refine lv_goto (tgt := 14) hx hb dX11_isWithin_10 (by decide) ?_
      have hP9 := hP.sub (ws' := []) [] rfl
      have hD9 := hD.sub (ws' := []) [] (by decide) rfl
      exact W.zret (v := 1) (ty := .boolean) hx hb hr rfl (fun t ht hW => ⟨⟨1, (), rfl, (Or.inl ⟨rfl, by omega⟩), by rw [ht]; exact hP9, hD9⟩, hS.F ht⟩) hS.2.2 dX11_isWithin_14
abbrev w_c_X11_isSide (cI cJ cB cZ cO : ClassId)  : va_W := []
set_option maxHeartbeats 4000000 in
set_option maxRecDepth 100000 in
/-- X11_isSide: 0 to 1 -/
theorem c_X11_isSide (l : Launch) (D : va_G) (cI cJ cB cZ cO : ClassId) (v : Int32) (sz : Nat) : Met l yX11_isSide wsX11_isSide ({ frames := 1, cells := 0, slots := 0, locals := 21 }) (va_Pc [.int v] (ct_P D (ct_T cI cJ cB cZ cO) (w_c_X11_isSide cI cJ cB cZ cO ) sz)) (va_Qi (fun (rz : Int32) (u : Unit) => (rz = 1 ∧ (0 ≤ v.toInt ∧ v.toInt < 2)) ∨ (rz = 0 ∧ ¬ (0 ≤ v.toInt ∧ v.toInt < 2))) (fun (u : Unit) t => ct_Q D (va_A (w_c_X11_isSide cI cJ cB cZ cO ) sz) [] t) (va_A (w_c_X11_isSide cI cJ cB cZ cO ) sz)) 0 0 (va_A (w_c_X11_isSide cI cJ cB cZ cO ) sz) := by
  refine Met.ofW (cc := cX11_isSide) (maxL := 1) (ret := (some .boolean)) (by decide) rfl ?_
  intro p e s m args below meth c s₁ B hml hv
  obtain ⟨rfl, hsz, hP, hE, hD0⟩ := hv
  have hx := B.exec
  have hb := B.bytes
  have hr := B.returns
  have hts := atoms_spec (ws := wsX11_isSide) B.pre
  have hown : s.vm.findClass RX11 = some m.cls := findClass_of_methodNamed B.named
  have hlocks := B.notSynchronized
  have hK := hE.1
  subst hsz
  have hD := hD0.self (sz := s.heap.size)
  generalize hAe : va_A (w_c_X11_isSide cI cJ cB cZ cO ) s.heap.size = A at hD ⊢
  have hA : ∀ q : Nat, s.heap.size ≤ q → A q := fun q h => by rw [← hAe]; exact Or.inr h
  have hS : va_S A s.heap s.heap [] := va_S.rf
  have hP : va_P D vwCl [] s.heap := hP
  have hD : va_D A [] := hD
  have hl := lv_entry ([.int v]) (n := 1) (Nat.le_of_ble_eq_true rfl)
  rw [lg_entry_eq]
  generalize (lg_sl ([.int v]) ++ List.replicate (1 - (lg_sl ([.int v])).length) Slot.unset).toArray = ls at hl ⊢
  have hl : lv_has ls 1 [(0, .int v)] := hl
  obtain ⟨H, hHe⟩ : ∃ H : Heap, H = s.heap := ⟨_, rfl⟩
  rw [← hHe] at hP
  have hS : va_S A s.heap H [] := by rw [hHe]; exact va_S.rf
  refine ct_start hHe ?_
  refine lv_iload_n hx hb dX11_isSide_0 rfl (lv_at hl 0 rfl) ?_
  refine lv_iconst (v := 2) hx hb dX11_isSide_1 (by decide) ?_
  refine ct_calli (D := D) (wc := (w_c_X11_isWithin cI cJ cB cZ cO )) (wr := []) (va_runS (As := [.int v, .int 2]) (rest := []) ⟨hx, hb, hml, hown, hts⟩ (c_X11_isWithin l D cI cJ cB cZ cO v 2 2 (by decide) H.size) (va_cwS 2 hts gX11_isSide_X11_isWithin rfl rfl rfl (by decide +kernel) ⟨Nat.le_of_ble_eq_true rfl, Nat.le_of_ble_eq_true rfl⟩) (ct_preS (T := ct_T cI cJ cB cZ cO) hE hP hD [] (by decide) rfl) rfl rfl hl.1 rfl (lv_room (Nat.le_of_ble_eq_true rfl)) dX11_isSide_2 ⟨Nat.le_of_ble_eq_true rfl, Nat.le_of_ble_eq_true rfl⟩) hP hD hS hA [] [] rfl rfl (by decide) (by decide) (fun rz u H locs hw hP hD hS => ?_)
  have hP : va_P D vwCl [] H := hP
  have hD : va_D A [] := hD
  rcases hw with ⟨rfl, hq3⟩ | ⟨rfl, hq3⟩
  · have hP9 := hP.sub (ws' := []) [] rfl
    have hD9 := hD.sub (ws' := []) [] (by decide) rfl
    exact W.zret (v := 1) (ty := .boolean) hx hb hr rfl (fun t ht hW => ⟨⟨1, (), rfl, (Or.inl ⟨rfl, by omega⟩), by rw [ht]; exact hP9, hD9⟩, hS.F ht⟩) hS.2.2 dX11_isSide_5
  · have hP9 := hP.sub (ws' := []) [] rfl
    have hD9 := hD.sub (ws' := []) [] (by decide) rfl
    exact W.zret (v := 0) (ty := .boolean) hx hb hr rfl (fun t ht hW => ⟨⟨0, (), rfl, (Or.inr (⟨rfl, by omega⟩)), by rw [ht]; exact hP9, hD9⟩, hS.F ht⟩) hS.2.2 dX11_isSide_5
abbrev w_c_X11_isStep (cI cJ cB cZ cO : ClassId)  : va_W := []
set_option maxHeartbeats 4000000 in
set_option maxRecDepth 100000 in
/-- X11_isStep: 0 to 5 -/
theorem c_X11_isStep (l : Launch) (D : va_G) (cI cJ cB cZ cO : ClassId) (v : Int32) (sz : Nat) : Met l yX11_isStep wsX11_isStep ({ frames := 1, cells := 0, slots := 0, locals := 21 }) (va_Pc [.int v] (ct_P D (ct_T cI cJ cB cZ cO) (w_c_X11_isStep cI cJ cB cZ cO ) sz)) (va_Qi (fun (rz : Int32) (u : Unit) => (rz = 1 ∧ (0 ≤ v.toInt ∧ v.toInt < 6)) ∨ (rz = 0 ∧ ¬ (0 ≤ v.toInt ∧ v.toInt < 6))) (fun (u : Unit) t => ct_Q D (va_A (w_c_X11_isStep cI cJ cB cZ cO ) sz) [] t) (va_A (w_c_X11_isStep cI cJ cB cZ cO ) sz)) 0 0 (va_A (w_c_X11_isStep cI cJ cB cZ cO ) sz) := by
  refine Met.ofW (cc := cX11_isStep) (maxL := 1) (ret := (some .boolean)) (by decide) rfl ?_
  intro p e s m args below meth c s₁ B hml hv
  obtain ⟨rfl, hsz, hP, hE, hD0⟩ := hv
  have hx := B.exec
  have hb := B.bytes
  have hr := B.returns
  have hts := atoms_spec (ws := wsX11_isStep) B.pre
  have hown : s.vm.findClass RX11 = some m.cls := findClass_of_methodNamed B.named
  have hlocks := B.notSynchronized
  have hK := hE.1
  subst hsz
  have hD := hD0.self (sz := s.heap.size)
  generalize hAe : va_A (w_c_X11_isStep cI cJ cB cZ cO ) s.heap.size = A at hD ⊢
  have hA : ∀ q : Nat, s.heap.size ≤ q → A q := fun q h => by rw [← hAe]; exact Or.inr h
  have hS : va_S A s.heap s.heap [] := va_S.rf
  have hP : va_P D vwCl [] s.heap := hP
  have hD : va_D A [] := hD
  have hl := lv_entry ([.int v]) (n := 1) (Nat.le_of_ble_eq_true rfl)
  rw [lg_entry_eq]
  generalize (lg_sl ([.int v]) ++ List.replicate (1 - (lg_sl ([.int v])).length) Slot.unset).toArray = ls at hl ⊢
  have hl : lv_has ls 1 [(0, .int v)] := hl
  obtain ⟨H, hHe⟩ : ∃ H : Heap, H = s.heap := ⟨_, rfl⟩
  rw [← hHe] at hP
  have hS : va_S A s.heap H [] := by rw [hHe]; exact va_S.rf
  refine ct_start hHe ?_
  refine lv_iload_n hx hb dX11_isStep_0 rfl (lv_at hl 0 rfl) ?_
  refine lv_bipush (v := 6) hx hb dX11_isStep_1 (by decide) ?_
  refine ct_calli (D := D) (wc := (w_c_X11_isWithin cI cJ cB cZ cO )) (wr := []) (va_runS (As := [.int v, .int 6]) (rest := []) ⟨hx, hb, hml, hown, hts⟩ (c_X11_isWithin l D cI cJ cB cZ cO v 6 6 (by decide) H.size) (va_cwS 2 hts gX11_isStep_X11_isWithin rfl rfl rfl (by decide +kernel) ⟨Nat.le_of_ble_eq_true rfl, Nat.le_of_ble_eq_true rfl⟩) (ct_preS (T := ct_T cI cJ cB cZ cO) hE hP hD [] (by decide) rfl) rfl rfl hl.1 rfl (lv_room (Nat.le_of_ble_eq_true rfl)) dX11_isStep_3 ⟨Nat.le_of_ble_eq_true rfl, Nat.le_of_ble_eq_true rfl⟩) hP hD hS hA [] [] rfl rfl (by decide) (by decide) (fun rz u H locs hw hP hD hS => ?_)
  have hP : va_P D vwCl [] H := hP
  have hD : va_D A [] := hD
  rcases hw with ⟨rfl, hq4⟩ | ⟨rfl, hq4⟩
  · have hP9 := hP.sub (ws' := []) [] rfl
    have hD9 := hD.sub (ws' := []) [] (by decide) rfl
    exact W.zret (v := 1) (ty := .boolean) hx hb hr rfl (fun t ht hW => ⟨⟨1, (), rfl, (Or.inl ⟨rfl, by omega⟩), by rw [ht]; exact hP9, hD9⟩, hS.F ht⟩) hS.2.2 dX11_isStep_6
  · have hP9 := hP.sub (ws' := []) [] rfl
    have hD9 := hD.sub (ws' := []) [] (by decide) rfl
    exact W.zret (v := 0) (ty := .boolean) hx hb hr rfl (fun t ht hW => ⟨⟨0, (), rfl, (Or.inr (⟨rfl, by omega⟩)), by rw [ht]; exact hP9, hD9⟩, hS.F ht⟩) hS.2.2 dX11_isStep_6
abbrev w_c_X11_isBeat (cI cJ cB cZ cO : ClassId)  : va_W := []
set_option maxHeartbeats 4000000 in
set_option maxRecDepth 100000 in
/-- X11_isBeat: 0 to 199 -/
theorem c_X11_isBeat (l : Launch) (D : va_G) (cI cJ cB cZ cO : ClassId) (v : Int32) (sz : Nat) : Met l yX11_isBeat wsX11_isBeat ({ frames := 1, cells := 0, slots := 0, locals := 21 }) (va_Pc [.int v] (ct_P D (ct_T cI cJ cB cZ cO) (w_c_X11_isBeat cI cJ cB cZ cO ) sz)) (va_Qi (fun (rz : Int32) (u : Unit) => (rz = 1 ∧ (0 ≤ v.toInt ∧ v.toInt < 200)) ∨ (rz = 0 ∧ ¬ (0 ≤ v.toInt ∧ v.toInt < 200))) (fun (u : Unit) t => ct_Q D (va_A (w_c_X11_isBeat cI cJ cB cZ cO ) sz) [] t) (va_A (w_c_X11_isBeat cI cJ cB cZ cO ) sz)) 0 0 (va_A (w_c_X11_isBeat cI cJ cB cZ cO ) sz) := by
  refine Met.ofW (cc := cX11_isBeat) (maxL := 1) (ret := (some .boolean)) (by decide) rfl ?_
  intro p e s m args below meth c s₁ B hml hv
  obtain ⟨rfl, hsz, hP, hE, hD0⟩ := hv
  have hx := B.exec
  have hb := B.bytes
  have hr := B.returns
  have hts := atoms_spec (ws := wsX11_isBeat) B.pre
  have hown : s.vm.findClass RX11 = some m.cls := findClass_of_methodNamed B.named
  have hlocks := B.notSynchronized
  have hK := hE.1
  subst hsz
  have hD := hD0.self (sz := s.heap.size)
  generalize hAe : va_A (w_c_X11_isBeat cI cJ cB cZ cO ) s.heap.size = A at hD ⊢
  have hA : ∀ q : Nat, s.heap.size ≤ q → A q := fun q h => by rw [← hAe]; exact Or.inr h
  have hS : va_S A s.heap s.heap [] := va_S.rf
  have hP : va_P D vwCl [] s.heap := hP
  have hD : va_D A [] := hD
  have hl := lv_entry ([.int v]) (n := 1) (Nat.le_of_ble_eq_true rfl)
  rw [lg_entry_eq]
  generalize (lg_sl ([.int v]) ++ List.replicate (1 - (lg_sl ([.int v])).length) Slot.unset).toArray = ls at hl ⊢
  have hl : lv_has ls 1 [(0, .int v)] := hl
  obtain ⟨H, hHe⟩ : ∃ H : Heap, H = s.heap := ⟨_, rfl⟩
  rw [← hHe] at hP
  have hS : va_S A s.heap H [] := by rw [hHe]; exact va_S.rf
  refine ct_start hHe ?_
  refine lv_iload_n hx hb dX11_isBeat_0 rfl (lv_at hl 0 rfl) ?_
  refine lv_sipush (v := 200) hx hb dX11_isBeat_1 (by decide) ?_
  refine ct_calli (D := D) (wc := (w_c_X11_isWithin cI cJ cB cZ cO )) (wr := []) (va_runS (As := [.int v, .int 200]) (rest := []) ⟨hx, hb, hml, hown, hts⟩ (c_X11_isWithin l D cI cJ cB cZ cO v 200 200 (by decide) H.size) (va_cwS 2 hts gX11_isBeat_X11_isWithin rfl rfl rfl (by decide +kernel) ⟨Nat.le_of_ble_eq_true rfl, Nat.le_of_ble_eq_true rfl⟩) (ct_preS (T := ct_T cI cJ cB cZ cO) hE hP hD [] (by decide) rfl) rfl rfl hl.1 rfl (lv_room (Nat.le_of_ble_eq_true rfl)) dX11_isBeat_4 ⟨Nat.le_of_ble_eq_true rfl, Nat.le_of_ble_eq_true rfl⟩) hP hD hS hA [] [] rfl rfl (by decide) (by decide) (fun rz u H locs hw hP hD hS => ?_)
  have hP : va_P D vwCl [] H := hP
  have hD : va_D A [] := hD
  rcases hw with ⟨rfl, hq5⟩ | ⟨rfl, hq5⟩
  · have hP9 := hP.sub (ws' := []) [] rfl
    have hD9 := hD.sub (ws' := []) [] (by decide) rfl
    exact W.zret (v := 1) (ty := .boolean) hx hb hr rfl (fun t ht hW => ⟨⟨1, (), rfl, (Or.inl ⟨rfl, by omega⟩), by rw [ht]; exact hP9, hD9⟩, hS.F ht⟩) hS.2.2 dX11_isBeat_7
  · have hP9 := hP.sub (ws' := []) [] rfl
    have hD9 := hD.sub (ws' := []) [] (by decide) rfl
    exact W.zret (v := 0) (ty := .boolean) hx hb hr rfl (fun t ht hW => ⟨⟨0, (), rfl, (Or.inr (⟨rfl, by omega⟩)), by rw [ht]; exact hP9, hD9⟩, hS.F ht⟩) hS.2.2 dX11_isBeat_7
abbrev w_c_X0_stands (cI cJ cB cZ cO : ClassId) (a : Nat) (b4 : Nat) (b5 : Nat) (b6 : Nat) (b7 : Nat) (b8 : Nat) (b10 : Nat) (b11 : Nat) (b13 : Nat) (b15 : Nat) : va_W := [dn a b4 b5 b6 b7 b8 b10 b11 b13 b15]
set_option maxHeartbeats 4000000 in
set_option maxRecDepth 100000 in
/-- no DANCE stands -/
theorem c_X0_stands (l : Launch) (D : va_G) (cI cJ cB cZ cO : ClassId) (a : Nat) (b4 : Nat) (b5 : Nat) (b6 : Nat) (b7 : Nat) (b8 : Nat) (b10 : Nat) (b11 : Nat) (b13 : Nat) (b15 : Nat) (sz : Nat) : Met l yX0_stands wsX0_stands ({ frames := 0, cells := 0, slots := 0, locals := 0 }) (va_Pc [.ref a] (ct_P D (ct_T cI cJ cB cZ cO) (w_c_X0_stands cI cJ cB cZ cO a b4 b5 b6 b7 b8 b10 b11 b13 b15) sz)) (va_Qi (fun (rz : Int32) (u : Unit) => (rz = 0 ∧ True)) (fun (u : Unit) t => ct_Q D (va_A (w_c_X0_stands cI cJ cB cZ cO a b4 b5 b6 b7 b8 b10 b11 b13 b15) sz) [dn a b4 b5 b6 b7 b8 b10 b11 b13 b15] t) (va_A (w_c_X0_stands cI cJ cB cZ cO a b4 b5 b6 b7 b8 b10 b11 b13 b15) sz)) 0 0 (va_A (w_c_X0_stands cI cJ cB cZ cO a b4 b5 b6 b7 b8 b10 b11 b13 b15) sz) := by
  refine Met.ofW (cc := cX0_stands) (maxL := 1) (ret := (some .boolean)) (by decide) rfl ?_
  intro p e s m args below meth c s₁ B hml hv
  obtain ⟨rfl, hsz, hP, hE, hD0⟩ := hv
  have hx := B.exec
  have hb := B.bytes
  have hr := B.returns
  have hts := atoms_spec (ws := wsX0_stands) B.pre
  have hown : s.vm.findClass RX0 = some m.cls := findClass_of_methodNamed B.named
  have hlocks := B.notSynchronized
  have hK := hE.1
  have hi0 : ∀ w ∈ u_ws RX0 TX0 17, w ∈ wsX0_stands := fun w h => List.mem_cons_of_mem _ (List.mem_append_right _ h)
  subst hsz
  have hD := hD0.self (sz := s.heap.size)
  generalize hAe : va_A (w_c_X0_stands cI cJ cB cZ cO a b4 b5 b6 b7 b8 b10 b11 b13 b15) s.heap.size = A at hD ⊢
  have hA : ∀ q : Nat, s.heap.size ≤ q → A q := fun q h => by rw [← hAe]; exact Or.inr h
  have hS : va_S A s.heap s.heap [] := va_S.rf
  have hP : va_P D vwCl [dn a b4 b5 b6 b7 b8 b10 b11 b13 b15] s.heap := hP
  have hD : va_D A [dn a b4 b5 b6 b7 b8 b10 b11 b13 b15] := hD
  have hl := lv_entry ([.ref a]) (n := 1) (Nat.le_of_ble_eq_true rfl)
  rw [lg_entry_eq]
  generalize (lg_sl ([.ref a]) ++ List.replicate (1 - (lg_sl ([.ref a])).length) Slot.unset).toArray = ls at hl ⊢
  have hl : lv_has ls 1 [(0, .ref a)] := hl
  obtain ⟨H, hHe⟩ : ∃ H : Heap, H = s.heap := ⟨_, rfl⟩
  rw [← hHe] at hP
  have hS : va_S A s.heap H [] := by rw [hHe]; exact va_S.rf
  refine ct_start hHe ?_
  refine lv_aload_n hx hb dX0_stands_0 rfl (lv_at hl 0 rfl) ?_
  refine va_get (D := D) (ci := 0) (v := .int 0) (C := RX0) (T := TX0) (N := 17) hx hb hts hi0 hown hK hP 0 rfl rfl 3 (by decide) (hts (.fieldLink RX0 49 "OverHill$Dance" "lines" "I") (by decide +kernel)) (fun _ h9 => h9) rfl dX0_stands_1 ?_
  refine lv_if_le (tgt := 11) hx hb dX0_stands_4 (by decide) (fun _ => ?_) (fun hc => absurd hc (by decide))
  refine lv_iconst (v := 0) hx hb dX0_stands_11 (by decide) ?_
  have hP9 := hP.sub (ws' := [dn a b4 b5 b6 b7 b8 b10 b11 b13 b15]) [0] rfl
  have hD9 := hD.sub (ws' := [dn a b4 b5 b6 b7 b8 b10 b11 b13 b15]) [0] (by decide) rfl
  exact W.zret (v := 0) (ty := .boolean) hx hb hr rfl (fun t ht hW => ⟨⟨0, (), rfl, ⟨rfl, trivial⟩, by rw [ht]; exact hP9, hD9⟩, hS.F ht⟩) hS.2.2 dX0_stands_12
abbrev w_c_X11_step (cI cJ cB cZ cO : ClassId) (h : Nat) (r : Nat → Nat) : va_W := [oo h r (r 2) (r 3), dn (r 2) (r 24) (r 25) (r 26) (r 27) (r 28) (r 30) (r 31) (r 33) (r 35)]
set_option maxHeartbeats 4000000 in
set_option maxRecDepth 100000 in
/-- step, on a new object -/
theorem c_X11_step (l : Launch) (D : va_G) (cI cJ cB cZ cO : ClassId) (h : Nat) (r : Nat → Nat) (x1 : Int32) (x2 : Int32) (sz : Nat) : Met l yX11_step wsX11_step ({ frames := 1, cells := 0, slots := 0, locals := 20 }) (va_Pc [.ref h, .int x1, .int x2] (ct_P D (ct_T cI cJ cB cZ cO) (w_c_X11_step cI cJ cB cZ cO h r) sz)) (va_Qi (fun (rz : Int32) (u : Unit) => (rz = (-2) ∧ True)) (fun (u : Unit) t => ct_Q D (va_A (w_c_X11_step cI cJ cB cZ cO h r) sz) [] t) (va_A (w_c_X11_step cI cJ cB cZ cO h r) sz)) 0 0 (va_A (w_c_X11_step cI cJ cB cZ cO h r) sz) := by
  refine Met.ofW (cc := cX11_step) (maxL := 3) (ret := (some .int)) (by decide) rfl ?_
  intro p e s m args below meth c s₁ B hml hv
  obtain ⟨rfl, hsz, hP, hE, hD0⟩ := hv
  have hx := B.exec
  have hb := B.bytes
  have hr := B.returns
  have hts := atoms_spec (ws := wsX11_step) B.pre
  have hown : s.vm.findClass RX11 = some m.cls := findClass_of_methodNamed B.named
  have hlocks := B.notSynchronized
  have hK := hE.1
  have hi11 : ∀ w ∈ u_ws RX11 TX11 16, w ∈ wsX11_step := fun w h => List.mem_cons_of_mem _ (List.mem_append_left _ (List.mem_append_right _ h))
  subst hsz
  have hD := hD0.self (sz := s.heap.size)
  generalize hAe : va_A (w_c_X11_step cI cJ cB cZ cO h r) s.heap.size = A at hD ⊢
  have hA : ∀ q : Nat, s.heap.size ≤ q → A q := fun q h => by rw [← hAe]; exact Or.inr h
  have hS : va_S A s.heap s.heap [] := va_S.rf
  have hP : va_P D vwCl [oo h r (r 2) (r 3), dn (r 2) (r 24) (r 25) (r 26) (r 27) (r 28) (r 30) (r 31) (r 33) (r 35)] s.heap := hP
  have hD : va_D A [oo h r (r 2) (r 3), dn (r 2) (r 24) (r 25) (r 26) (r 27) (r 28) (r 30) (r 31) (r 33) (r 35)] := hD
  have hl := lv_entry ([.ref h, .int x1, .int x2]) (n := 3) (Nat.le_of_ble_eq_true rfl)
  rw [lg_entry_eq]
  generalize (lg_sl ([.ref h, .int x1, .int x2]) ++ List.replicate (3 - (lg_sl ([.ref h, .int x1, .int x2])).length) Slot.unset).toArray = ls at hl ⊢
  have hl : lv_has ls 3 [(0, .ref h), (1, .int x1), (2, .int x2)] := hl
  obtain ⟨H, hHe⟩ : ∃ H : Heap, H = s.heap := ⟨_, rfl⟩
  rw [← hHe] at hP
  have hS : va_S A s.heap H [] := by rw [hHe]; exact va_S.rf
  refine ct_start hHe ?_
  refine lv_aload_n hx hb dX11_step_0 rfl (lv_at hl 0 rfl) ?_
  refine va_get (D := D) (ci := 11) (v := .ref (r 2)) (C := RX11) (T := TX11) (N := 16) hx hb hts hi11 hown hK hP 0 rfl rfl 2 (by decide) (hts (.fieldLink RX11 24 "OverHill" "now" "LOverHill$Dance;") (by decide +kernel)) (fun _ h9 => h9) rfl dX11_step_1 ?_
  refine ct_calli (D := D) (wc := (w_c_X0_stands cI cJ cB cZ cO (r 2) (r 24) (r 25) (r 26) (r 27) (r 28) (r 30) (r 31) (r 33) (r 35))) (wr := [oo h r (r 2) (r 3)]) (va_runV (As := []) (rest := []) ⟨hx, hb, hml, hown, hts⟩ (c_X0_stands l D cI cJ cB cZ cO (r 2) (r 24) (r 25) (r 26) (r 27) (r 28) (r 30) (r 31) (r 33) (r 35) H.size) (cwV 0 hts gX11_step_X0_stands rfl rfl rfl (by decide +kernel) ⟨Nat.le_of_ble_eq_true rfl, Nat.le_of_ble_eq_true rfl⟩) (ct_preV (T := ct_T cI cJ cB cZ cO) (ci := 0) (q0 := 1) hE hP hD [1] (by decide) rfl rfl rfl) rfl rfl hl.1 rfl (lv_room (Nat.le_of_ble_eq_true rfl)) dX11_step_4 ⟨Nat.le_of_ble_eq_true rfl, Nat.le_of_ble_eq_true rfl⟩) hP hD hS hA [1] [0] rfl rfl (by decide) (by decide) (fun rz u H locs hw hP hD hS => ?_)
  have hP : va_P D vwCl [oo h r (r 2) (r 3), dn (r 2) (r 24) (r 25) (r 26) (r 27) (r 28) (r 30) (r 31) (r 33) (r 35)] H := hP
  have hD : va_D A [oo h r (r 2) (r 3), dn (r 2) (r 24) (r 25) (r 26) (r 27) (r 28) (r 30) (r 31) (r 33) (r 35)] := hD
  obtain ⟨rfl, hq6⟩ := hw
  refine lv_if_eq (tgt := 17) hx hb dX11_step_7 (by decide) (fun _ => ?_) (fun hc => absurd hc (by decide))
  refine lv_bipush (v := (-2)) hx hb dX11_step_17 (by decide) ?_
  have hP9 := hP.sub (ws' := []) [] rfl
  have hD9 := hD.sub (ws' := []) [] (by decide) rfl
  exact W.iret (v := (-2)) hx hb hr (fun t ht hW => ⟨⟨(-2), (), rfl, ⟨rfl, trivial⟩, by rw [ht]; exact hP9, hD9⟩, hS.F ht⟩) hS.2.2 dX11_step_19
