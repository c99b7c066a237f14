abbrev w_c_X11_has (cI cJ cB cZ cO : ClassId) (h : Nat) (r : Nat → Nat) : va_W := [oo h r (r 2) (r 3), dn (r 2) (r 24) (r 25) (r 26) (r 27) (r 28) (r 30) (r 31) (r 33) (r 35)]
set_option maxHeartbeats 4000000 in
set_option maxRecDepth 100000 in
/-- has, on a new object -/
theorem c_X11_has (l : Launch) (D : va_G) (cI cJ cB cZ cO : ClassId) (h : Nat) (r : Nat → Nat) (x1 : Int32) (x2 : Int32) (sz : Nat) : Met l yX11_has wsX11_has ({ frames := 1, cells := 0, slots := 0, locals := 20 }) (va_Pc [.ref h, .int x1, .int x2] (ct_P D (ct_T cI cJ cB cZ cO) (w_c_X11_has cI cJ cB cZ cO h r) sz)) (va_Qi (fun (rz : Int32) (u : Unit) => (rz = 0 ∧ True)) (fun (u : Unit) t => ct_Q D (va_A (w_c_X11_has cI cJ cB cZ cO h r) sz) [] t) (va_A (w_c_X11_has cI cJ cB cZ cO h r) sz)) 0 0 (va_A (w_c_X11_has cI cJ cB cZ cO h r) sz) := by
  refine Met.ofW (cc := cX11_has) (maxL := 3) (ret := (some .boolean)) (by decide) rfl ?_
  intro p e s m args below meth c s₁ B hml hv
  obtain ⟨rfl, hsz, hP, hE, hD0⟩ := hv
  have hx := B.exec
  have hb := B.bytes
  have hr := B.returns
  have hts := atoms_spec (ws := wsX11_has) B.pre
  have hown : s.vm.findClass RX11 = some m.cls := findClass_of_methodNamed B.named
  have hlocks := B.notSynchronized
  have hK := hE.1
  have hi11 : ∀ w ∈ u_ws RX11 TX11 16, w ∈ wsX11_has := fun w h => List.mem_cons_of_mem _ (List.mem_append_left _ (List.mem_append_right _ h))
  subst hsz
  have hD := hD0.self (sz := s.heap.size)
  generalize hAe : va_A (w_c_X11_has cI cJ cB cZ cO h r) s.heap.size = A at hD ⊢
  have hA : ∀ q : Nat, s.heap.size ≤ q → A q := fun q h => by rw [← hAe]; exact Or.inr h
  have hS : va_S A s.heap s.heap [] := va_S.rf
  have hP : va_P D vwCl [oo h r (r 2) (r 3), dn (r 2) (r 24) (r 25) (r 26) (r 27) (r 28) (r 30) (r 31) (r 33) (r 35)] s.heap := hP
  have hD : va_D A [oo h r (r 2) (r 3), dn (r 2) (r 24) (r 25) (r 26) (r 27) (r 28) (r 30) (r 31) (r 33) (r 35)] := hD
  have hl := lv_entry ([.ref h, .int x1, .int x2]) (n := 3) (Nat.le_of_ble_eq_true rfl)
  rw [lg_entry_eq]
  generalize (lg_sl ([.ref h, .int x1, .int x2]) ++ List.replicate (3 - (lg_sl ([.ref h, .int x1, .int x2])).length) Slot.unset).toArray = ls at hl ⊢
  have hl : lv_has ls 3 [(0, .ref h), (1, .int x1), (2, .int x2)] := hl
  obtain ⟨H, hHe⟩ : ∃ H : Heap, H = s.heap := ⟨_, rfl⟩
  rw [← hHe] at hP
  have hS : va_S A s.heap H [] := by rw [hHe]; exact va_S.rf
  refine ct_start hHe ?_
  refine lv_aload_n hx hb dX11_has_0 rfl (lv_at hl 0 rfl) ?_
  refine va_get (D := D) (ci := 11) (v := .ref (r 2)) (C := RX11) (T := TX11) (N := 16) hx hb hts hi11 hown hK hP 0 rfl rfl 2 (by decide) (hts (.fieldLink RX11 24 "OverHill" "now" "LOverHill$Dance;") (by decide +kernel)) (fun _ h9 => h9) rfl dX11_has_1 ?_
  refine ct_calli (D := D) (wc := (w_c_X0_stands cI cJ cB cZ cO (r 2) (r 24) (r 25) (r 26) (r 27) (r 28) (r 30) (r 31) (r 33) (r 35))) (wr := [oo h r (r 2) (r 3)]) (va_runV (As := []) (rest := []) ⟨hx, hb, hml, hown, hts⟩ (c_X0_stands l D cI cJ cB cZ cO (r 2) (r 24) (r 25) (r 26) (r 27) (r 28) (r 30) (r 31) (r 33) (r 35) H.size) (cwV 0 hts gX11_has_X0_stands rfl rfl rfl (by decide +kernel) ⟨Nat.le_of_ble_eq_true rfl, Nat.le_of_ble_eq_true rfl⟩) (ct_preV (T := ct_T cI cJ cB cZ cO) (ci := 0) (q0 := 1) hE hP hD [1] (by decide) rfl rfl rfl) rfl rfl hl.1 rfl (lv_room (Nat.le_of_ble_eq_true rfl)) dX11_has_4 ⟨Nat.le_of_ble_eq_true rfl, Nat.le_of_ble_eq_true rfl⟩) hP hD hS hA [1] [0] rfl rfl (by decide) (by decide) (fun rz u H locs hw hP hD hS => ?_)
  have hP : va_P D vwCl [oo h r (r 2) (r 3), dn (r 2) (r 24) (r 25) (r 26) (r 27) (r 28) (r 30) (r 31) (r 33) (r 35)] H := hP
  have hD : va_D A [oo h r (r 2) (r 3), dn (r 2) (r 24) (r 25) (r 26) (r 27) (r 28) (r 30) (r 31) (r 33) (r 35)] := hD
  obtain ⟨rfl, hq7⟩ := hw
  refine lv_if_eq (tgt := 28) hx hb dX11_has_7 (by decide) (fun _ => ?_) (fun hc => absurd hc (by decide))
  refine lv_iconst (v := 0) hx hb dX11_has_28 (by decide) ?_
  have hP9 := hP.sub (ws' := []) [] rfl
  have hD9 := hD.sub (ws' := []) [] (by decide) rfl
  exact W.zret (v := 0) (ty := .boolean) hx hb hr rfl (fun t ht hW => ⟨⟨0, (), rfl, ⟨rfl, trivial⟩, by rw [ht]; exact hP9, hD9⟩, hS.F ht⟩) hS.2.2 dX11_has_29
abbrev w_c_X11_hasSpan (cI cJ cB cZ cO : ClassId) (h : Nat) (r : Nat → Nat) : va_W := [oo h r (r 2) (r 3), dn (r 2) (r 24) (r 25) (r 26) (r 27) (r 28) (r 30) (r 31) (r 33) (r 35)]
set_option maxHeartbeats 4000000 in
set_option maxRecDepth 100000 in
/-- hasSpan, on a new object -/
theorem c_X11_hasSpan (l : Launch) (D : va_G) (cI cJ cB cZ cO : ClassId) (h : Nat) (r : Nat → Nat) (x1 : Int32) (x2 : Int32) (sz : Nat) : Met l yX11_hasSpan wsX11_hasSpan ({ frames := 1, cells := 0, slots := 0, locals := 20 }) (va_Pc [.ref h, .int x1, .int x2] (ct_P D (ct_T cI cJ cB cZ cO) (w_c_X11_hasSpan cI cJ cB cZ cO h r) sz)) (va_Qi (fun (rz : Int32) (u : Unit) => (rz = 0 ∧ True)) (fun (u : Unit) t => ct_Q D (va_A (w_c_X11_hasSpan cI cJ cB cZ cO h r) sz) [] t) (va_A (w_c_X11_hasSpan cI cJ cB cZ cO h r) sz)) 0 0 (va_A (w_c_X11_hasSpan cI cJ cB cZ cO h r) sz) := by
  refine Met.ofW (cc := cX11_hasSpan) (maxL := 3) (ret := (some .boolean)) (by decide) rfl ?_
  intro p e s m args below meth c s₁ B hml hv
  obtain ⟨rfl, hsz, hP, hE, hD0⟩ := hv
  have hx := B.exec
  have hb := B.bytes
  have hr := B.returns
  have hts := atoms_spec (ws := wsX11_hasSpan) B.pre
  have hown : s.vm.findClass RX11 = some m.cls := findClass_of_methodNamed B.named
  have hlocks := B.notSynchronized
  have hK := hE.1
  have hi11 : ∀ w ∈ u_ws RX11 TX11 16, w ∈ wsX11_hasSpan := fun w h => List.mem_cons_of_mem _ (List.mem_append_left _ (List.mem_append_right _ h))
  subst hsz
  have hD := hD0.self (sz := s.heap.size)
  generalize hAe : va_A (w_c_X11_hasSpan cI cJ cB cZ cO h r) s.heap.size = A at hD ⊢
  have hA : ∀ q : Nat, s.heap.size ≤ q → A q := fun q h => by rw [← hAe]; exact Or.inr h
  have hS : va_S A s.heap s.heap [] := va_S.rf
  have hP : va_P D vwCl [oo h r (r 2) (r 3), dn (r 2) (r 24) (r 25) (r 26) (r 27) (r 28) (r 30) (r 31) (r 33) (r 35)] s.heap := hP
  have hD : va_D A [oo h r (r 2) (r 3), dn (r 2) (r 24) (r 25) (r 26) (r 27) (r 28) (r 30) (r 31) (r 33) (r 35)] := hD
  have hl := lv_entry ([.ref h, .int x1, .int x2]) (n := 3) (Nat.le_of_ble_eq_true rfl)
  rw [lg_entry_eq]
  generalize (lg_sl ([.ref h, .int x1, .int x2]) ++ List.replicate (3 - (lg_sl ([.ref h, .int x1, .int x2])).length) Slot.unset).toArray = ls at hl ⊢
  have hl : lv_has ls 3 [(0, .ref h), (1, .int x1), (2, .int x2)] := hl
  obtain ⟨H, hHe⟩ : ∃ H : Heap, H = s.heap := ⟨_, rfl⟩
  rw [← hHe] at hP
  have hS : va_S A s.heap H [] := by rw [hHe]; exact va_S.rf
  refine ct_start hHe ?_
  refine lv_aload_n hx hb dX11_hasSpan_0 rfl (lv_at hl 0 rfl) ?_
  refine va_get (D := D) (ci := 11) (v := .ref (r 2)) (C := RX11) (T := TX11) (N := 16) hx hb hts hi11 hown hK hP 0 rfl rfl 2 (by decide) (hts (.fieldLink RX11 24 "OverHill" "now" "LOverHill$Dance;") (by decide +kernel)) (fun _ h9 => h9) rfl dX11_hasSpan_1 ?_
  refine ct_calli (D := D) (wc := (w_c_X0_stands cI cJ cB cZ cO (r 2) (r 24) (r 25) (r 26) (r 27) (r 28) (r 30) (r 31) (r 33) (r 35))) (wr := [oo h r (r 2) (r 3)]) (va_runV (As := []) (rest := []) ⟨hx, hb, hml, hown, hts⟩ (c_X0_stands l D cI cJ cB cZ cO (r 2) (r 24) (r 25) (r 26) (r 27) (r 28) (r 30) (r 31) (r 33) (r 35) H.size) (cwV 0 hts gX11_hasSpan_X0_stands rfl rfl rfl (by decide +kernel) ⟨Nat.le_of_ble_eq_true rfl, Nat.le_of_ble_eq_true rfl⟩) (ct_preV (T := ct_T cI cJ cB cZ cO) (ci := 0) (q0 := 1) hE hP hD [1] (by decide) rfl rfl rfl) rfl rfl hl.1 rfl (lv_room (Nat.le_of_ble_eq_true rfl)) dX11_hasSpan_4 ⟨Nat.le_of_ble_eq_true rfl, Nat.le_of_ble_eq_true rfl⟩) hP hD hS hA [1] [0] rfl rfl (by decide) (by decide) (fun rz u H locs hw hP hD hS => ?_)
  have hP : va_P D vwCl [oo h r (r 2) (r 3), dn (r 2) (r 24) (r 25) (r 26) (r 27) (r 28) (r 30) (r 31) (r 33) (r 35)] H := hP
  have hD : va_D A [oo h r (r 2) (r 3), dn (r 2) (r 24) (r 25) (r 26) (r 27) (r 28) (r 30) (r 31) (r 33) (r 35)] := hD
  obtain ⟨rfl, hq8⟩ := hw
  refine lv_if_eq (tgt := 33) hx hb dX11_hasSpan_7 (by decide) (fun _ => ?_) (fun hc => absurd hc (by decide))
  refine lv_iconst (v := 0) hx hb dX11_hasSpan_33 (by decide) ?_
  have hP9 := hP.sub (ws' := []) [] rfl
  have hD9 := hD.sub (ws' := []) [] (by decide) rfl
  exact W.zret (v := 0) (ty := .boolean) hx hb hr rfl (fun t ht hW => ⟨⟨0, (), rfl, ⟨rfl, trivial⟩, by rw [ht]; exact hP9, hD9⟩, hS.F ht⟩) hS.2.2 dX11_hasSpan_34
abbrev w_c_X11_hasRounds (cI cJ cB cZ cO : ClassId) (h : Nat) (r : Nat → Nat) : va_W := [oo h r (r 2) (r 3), dn (r 2) (r 24) (r 25) (r 26) (r 27) (r 28) (r 30) (r 31) (r 33) (r 35)]
set_option maxHeartbeats 4000000 in
set_option maxRecDepth 100000 in
/-- hasRounds, on a new object -/
theorem c_X11_hasRounds (l : Launch) (D : va_G) (cI cJ cB cZ cO : ClassId) (h : Nat) (r : Nat → Nat) (sz : Nat) : Met l yX11_hasRounds wsX11_hasRounds ({ frames := 1, cells := 0, slots := 0, locals := 20 }) (va_Pc [.ref h] (ct_P D (ct_T cI cJ cB cZ cO) (w_c_X11_hasRounds cI cJ cB cZ cO h r) sz)) (va_Qi (fun (rz : Int32) (u : Unit) => (rz = 0 ∧ True)) (fun (u : Unit) t => ct_Q D (va_A (w_c_X11_hasRounds cI cJ cB cZ cO h r) sz) [] t) (va_A (w_c_X11_hasRounds cI cJ cB cZ cO h r) sz)) 0 0 (va_A (w_c_X11_hasRounds cI cJ cB cZ cO h r) sz) := by
  refine Met.ofW (cc := cX11_hasRounds) (maxL := 1) (ret := (some .boolean)) (by decide) rfl ?_
  intro p e s m args below meth c s₁ B hml hv
  obtain ⟨rfl, hsz, hP, hE, hD0⟩ := hv
  have hx := B.exec
  have hb := B.bytes
  have hr := B.returns
  have hts := atoms_spec (ws := wsX11_hasRounds) B.pre
  have hown : s.vm.findClass RX11 = some m.cls := findClass_of_methodNamed B.named
  have hlocks := B.notSynchronized
  have hK := hE.1
  have hi11 : ∀ w ∈ u_ws RX11 TX11 16, w ∈ wsX11_hasRounds := fun w h => List.mem_cons_of_mem _ (List.mem_append_left _ (List.mem_append_right _ h))
  subst hsz
  have hD := hD0.self (sz := s.heap.size)
  generalize hAe : va_A (w_c_X11_hasRounds cI cJ cB cZ cO h r) s.heap.size = A at hD ⊢
  have hA : ∀ q : Nat, s.heap.size ≤ q → A q := fun q h => by rw [← hAe]; exact Or.inr h
  have hS : va_S A s.heap s.heap [] := va_S.rf
  have hP : va_P D vwCl [oo h r (r 2) (r 3), dn (r 2) (r 24) (r 25) (r 26) (r 27) (r 28) (r 30) (r 31) (r 33) (r 35)] s.heap := hP
  have hD : va_D A [oo h r (r 2) (r 3), dn (r 2) (r 24) (r 25) (r 26) (r 27) (r 28) (r 30) (r 31) (r 33) (r 35)] := hD
  have hl := lv_entry ([.ref h]) (n := 1) (Nat.le_of_ble_eq_true rfl)
  rw [lg_entry_eq]
  generalize (lg_sl ([.ref h]) ++ List.replicate (1 - (lg_sl ([.ref h])).length) Slot.unset).toArray = ls at hl ⊢
  have hl : lv_has ls 1 [(0, .ref h)] := hl
  obtain ⟨H, hHe⟩ : ∃ H : Heap, H = s.heap := ⟨_, rfl⟩
  rw [← hHe] at hP
  have hS : va_S A s.heap H [] := by rw [hHe]; exact va_S.rf
  refine ct_start hHe ?_
  refine lv_aload_n hx hb dX11_hasRounds_0 rfl (lv_at hl 0 rfl) ?_
  refine va_get (D := D) (ci := 11) (v := .ref (r 2)) (C := RX11) (T := TX11) (N := 16) hx hb hts hi11 hown hK hP 0 rfl rfl 2 (by decide) (hts (.fieldLink RX11 24 "OverHill" "now" "LOverHill$Dance;") (by decide +kernel)) (fun _ h9 => h9) rfl dX11_hasRounds_1 ?_
  refine ct_calli (D := D) (wc := (w_c_X0_stands cI cJ cB cZ cO (r 2) (r 24) (r 25) (r 26) (r 27) (r 28) (r 30) (r 31) (r 33) (r 35))) (wr := [oo h r (r 2) (r 3)]) (va_runV (As := []) (rest := []) ⟨hx, hb, hml, hown, hts⟩ (c_X0_stands l D cI cJ cB cZ cO (r 2) (r 24) (r 25) (r 26) (r 27) (r 28) (r 30) (r 31) (r 33) (r 35) H.size) (cwV 0 hts gX11_hasRounds_X0_stands rfl rfl rfl (by decide +kernel) ⟨Nat.le_of_ble_eq_true rfl, Nat.le_of_ble_eq_true rfl⟩) (ct_preV (T := ct_T cI cJ cB cZ cO) (ci := 0) (q0 := 1) hE hP hD [1] (by decide) rfl rfl rfl) rfl rfl hl.1 rfl (lv_room (Nat.le_of_ble_eq_true rfl)) dX11_hasRounds_4 ⟨Nat.le_of_ble_eq_true rfl, Nat.le_of_ble_eq_true rfl⟩) hP hD hS hA [1] [0] rfl rfl (by decide) (by decide) (fun rz u H locs hw hP hD hS => ?_)
  have hP : va_P D vwCl [oo h r (r 2) (r 3), dn (r 2) (r 24) (r 25) (r 26) (r 27) (r 28) (r 30) (r 31) (r 33) (r 35)] H := hP
  have hD : va_D A [oo h r (r 2) (r 3), dn (r 2) (r 24) (r 25) (r 26) (r 27) (r 28) (r 30) (r 31) (r 33) (r 35)] := hD
  obtain ⟨rfl, hq9⟩ := hw
  refine lv_if_eq (tgt := 24) hx hb dX11_hasRounds_7 (by decide) (fun _ => ?_) (fun hc => absurd hc (by decide))
  refine lv_iconst (v := 0) hx hb dX11_hasRounds_24 (by decide) ?_
  have hP9 := hP.sub (ws' := []) [] rfl
  have hD9 := hD.sub (ws' := []) [] (by decide) rfl
  exact W.zret (v := 0) (ty := .boolean) hx hb hr rfl (fun t ht hW => ⟨⟨0, (), rfl, ⟨rfl, trivial⟩, by rw [ht]; exact hP9, hD9⟩, hS.F ht⟩) hS.2.2 dX11_hasRounds_25
abbrev w_c_X11_hasSet (cI cJ cB cZ cO : ClassId) (h : Nat) (r : Nat → Nat) : va_W := [oo h r (r 2) (r 3), dn (r 2) (r 24) (r 25) (r 26) (r 27) (r 28) (r 30) (r 31) (r 33) (r 35)]
set_option maxHeartbeats 4000000 in
set_option maxRecDepth 100000 in
/-- hasSet, on a new object -/
theorem c_X11_hasSet (l : Launch) (D : va_G) (cI cJ cB cZ cO : ClassId) (h : Nat) (r : Nat → Nat) (x1 : Int32) (sz : Nat) : Met l yX11_hasSet wsX11_hasSet ({ frames := 1, cells := 0, slots := 0, locals := 20 }) (va_Pc [.ref h, .int x1] (ct_P D (ct_T cI cJ cB cZ cO) (w_c_X11_hasSet cI cJ cB cZ cO h r) sz)) (va_Qi (fun (rz : Int32) (u : Unit) => (rz = 0 ∧ True)) (fun (u : Unit) t => ct_Q D (va_A (w_c_X11_hasSet cI cJ cB cZ cO h r) sz) [] t) (va_A (w_c_X11_hasSet cI cJ cB cZ cO h r) sz)) 0 0 (va_A (w_c_X11_hasSet cI cJ cB cZ cO h r) sz) := by
  refine Met.ofW (cc := cX11_hasSet) (maxL := 2) (ret := (some .boolean)) (by decide) rfl ?_
  intro p e s m args below meth c s₁ B hml hv
  obtain ⟨rfl, hsz, hP, hE, hD0⟩ := hv
  have hx := B.exec
  have hb := B.bytes
  have hr := B.returns
  have hts := atoms_spec (ws := wsX11_hasSet) B.pre
  have hown : s.vm.findClass RX11 = some m.cls := findClass_of_methodNamed B.named
  have hlocks := B.notSynchronized
  have hK := hE.1
  have hi11 : ∀ w ∈ u_ws RX11 TX11 16, w ∈ wsX11_hasSet := fun w h => List.mem_cons_of_mem _ (List.mem_append_left _ (List.mem_append_right _ h))
  subst hsz
  have hD := hD0.self (sz := s.heap.size)
  generalize hAe : va_A (w_c_X11_hasSet cI cJ cB cZ cO h r) s.heap.size = A at hD ⊢
  have hA : ∀ q : Nat, s.heap.size ≤ q → A q := fun q h => by rw [← hAe]; exact Or.inr h
  have hS : va_S A s.heap s.heap [] := va_S.rf
  have hP : va_P D vwCl [oo h r (r 2) (r 3), dn (r 2) (r 24) (r 25) (r 26) (r 27) (r 28) (r 30) (r 31) (r 33) (r 35)] s.heap := hP
  have hD : va_D A [oo h r (r 2) (r 3), dn (r 2) (r 24) (r 25) (r 26) (r 27) (r 28) (r 30) (r 31) (r 33) (r 35)] := hD
  have hl := lv_entry ([.ref h, .int x1]) (n := 2) (Nat.le_of_ble_eq_true rfl)
  rw [lg_entry_eq]
  generalize (lg_sl ([.ref h, .int x1]) ++ List.replicate (2 - (lg_sl ([.ref h, .int x1])).length) Slot.unset).toArray = ls at hl ⊢
  have hl : lv_has ls 2 [(0, .ref h), (1, .int x1)] := hl
  obtain ⟨H, hHe⟩ : ∃ H : Heap, H = s.heap := ⟨_, rfl⟩
  rw [← hHe] at hP
  have hS : va_S A s.heap H [] := by rw [hHe]; exact va_S.rf
  refine ct_start hHe ?_
  refine lv_aload_n hx hb dX11_hasSet_0 rfl (lv_at hl 0 rfl) ?_
  refine va_get (D := D) (ci := 11) (v := .ref (r 2)) (C := RX11) (T := TX11) (N := 16) hx hb hts hi11 hown hK hP 0 rfl rfl 2 (by decide) (hts (.fieldLink RX11 24 "OverHill" "now" "LOverHill$Dance;") (by decide +kernel)) (fun _ h9 => h9) rfl dX11_hasSet_1 ?_
  refine ct_calli (D := D) (wc := (w_c_X0_stands cI cJ cB cZ cO (r 2) (r 24) (r 25) (r 26) (r 27) (r 28) (r 30) (r 31) (r 33) (r 35))) (wr := [oo h r (r 2) (r 3)]) (va_runV (As := []) (rest := []) ⟨hx, hb, hml, hown, hts⟩ (c_X0_stands l D cI cJ cB cZ cO (r 2) (r 24) (r 25) (r 26) (r 27) (r 28) (r 30) (r 31) (r 33) (r 35) H.size) (cwV 0 hts gX11_hasSet_X0_stands rfl rfl rfl (by decide +kernel) ⟨Nat.le_of_ble_eq_true rfl, Nat.le_of_ble_eq_true rfl⟩) (ct_preV (T := ct_T cI cJ cB cZ cO) (ci := 0) (q0 := 1) hE hP hD [1] (by decide) rfl rfl rfl) rfl rfl hl.1 rfl (lv_room (Nat.le_of_ble_eq_true rfl)) dX11_hasSet_4 ⟨Nat.le_of_ble_eq_true rfl, Nat.le_of_ble_eq_true rfl⟩) hP hD hS hA [1] [0] rfl rfl (by decide) (by decide) (fun rz u H locs hw hP hD hS => ?_)
  have hP : va_P D vwCl [oo h r (r 2) (r 3), dn (r 2) (r 24) (r 25) (r 26) (r 27) (r 28) (r 30) (r 31) (r 33) (r 35)] H := hP
  have hD : va_D A [oo h r (r 2) (r 3), dn (r 2) (r 24) (r 25) (r 26) (r 27) (r 28) (r 30) (r 31) (r 33) (r 35)] := hD
  obtain ⟨rfl, hq10⟩ := hw
  refine lv_if_eq (tgt := 30) hx hb dX11_hasSet_7 (by decide) (fun _ => ?_) (fun hc => absurd hc (by decide))
  refine lv_iconst (v := 0) hx hb dX11_hasSet_30 (by decide) ?_
  have hP9 := hP.sub (ws' := []) [] rfl
  have hD9 := hD.sub (ws' := []) [] (by decide) rfl
  exact W.zret (v := 0) (ty := .boolean) hx hb hr rfl (fun t ht hW => ⟨⟨0, (), rfl, ⟨rfl, trivial⟩, by rw [ht]; exact hP9, hD9⟩, hS.F ht⟩) hS.2.2 dX11_hasSet_31
abbrev w_c_X11_hasNight (cI cJ cB cZ cO : ClassId) (h : Nat) (r : Nat → Nat) : va_W := [oo h r (r 2) (r 3), dn (r 2) (r 24) (r 25) (r 26) (r 27) (r 28) (r 30) (r 31) (r 33) (r 35)]
set_option maxHeartbeats 4000000 in
set_option maxRecDepth 100000 in
/-- hasNight, on a new object -/
theorem c_X11_hasNight (l : Launch) (D : va_G) (cI cJ cB cZ cO : ClassId) (h : Nat) (r : Nat → Nat) (x1 : Int32) (x2 : Int32) (sz : Nat) : Met l yX11_hasNight wsX11_hasNight ({ frames := 1, cells := 0, slots := 0, locals := 20 }) (va_Pc [.ref h, .int x1, .int x2] (ct_P D (ct_T cI cJ cB cZ cO) (w_c_X11_hasNight cI cJ cB cZ cO h r) sz)) (va_Qi (fun (rz : Int32) (u : Unit) => (rz = 0 ∧ True)) (fun (u : Unit) t => ct_Q D (va_A (w_c_X11_hasNight cI cJ cB cZ cO h r) sz) [] t) (va_A (w_c_X11_hasNight cI cJ cB cZ cO h r) sz)) 0 0 (va_A (w_c_X11_hasNight cI cJ cB cZ cO h r) sz) := by
  refine Met.ofW (cc := cX11_hasNight) (maxL := 3) (ret := (some .boolean)) (by decide) rfl ?_
  intro p e s m args below meth c s₁ B hml hv
  obtain ⟨rfl, hsz, hP, hE, hD0⟩ := hv
  have hx := B.exec
  have hb := B.bytes
  have hr := B.returns
  have hts := atoms_spec (ws := wsX11_hasNight) B.pre
  have hown : s.vm.findClass RX11 = some m.cls := findClass_of_methodNamed B.named
  have hlocks := B.notSynchronized
  have hK := hE.1
  have hi11 : ∀ w ∈ u_ws RX11 TX11 16, w ∈ wsX11_hasNight := fun w h => List.mem_cons_of_mem _ (List.mem_append_left _ (List.mem_append_right _ h))
  subst hsz
  have hD := hD0.self (sz := s.heap.size)
  generalize hAe : va_A (w_c_X11_hasNight cI cJ cB cZ cO h r) s.heap.size = A at hD ⊢
  have hA : ∀ q : Nat, s.heap.size ≤ q → A q := fun q h => by rw [← hAe]; exact Or.inr h
  have hS : va_S A s.heap s.heap [] := va_S.rf
  have hP : va_P D vwCl [oo h r (r 2) (r 3), dn (r 2) (r 24) (r 25) (r 26) (r 27) (r 28) (r 30) (r 31) (r 33) (r 35)] s.heap := hP
  have hD : va_D A [oo h r (r 2) (r 3), dn (r 2) (r 24) (r 25) (r 26) (r 27) (r 28) (r 30) (r 31) (r 33) (r 35)] := hD
  have hl := lv_entry ([.ref h, .int x1, .int x2]) (n := 3) (Nat.le_of_ble_eq_true rfl)
  rw [lg_entry_eq]
  generalize (lg_sl ([.ref h, .int x1, .int x2]) ++ List.replicate (3 - (lg_sl ([.ref h, .int x1, .int x2])).length) Slot.unset).toArray = ls at hl ⊢
  have hl : lv_has ls 3 [(0, .ref h), (1, .int x1), (2, .int x2)] := hl
  obtain ⟨H, hHe⟩ : ∃ H : Heap, H = s.heap := ⟨_, rfl⟩
  rw [← hHe] at hP
  have hS : va_S A s.heap H [] := by rw [hHe]; exact va_S.rf
  refine ct_start hHe ?_
  refine lv_aload_n hx hb dX11_hasNight_0 rfl (lv_at hl 0 rfl) ?_
  refine va_get (D := D) (ci := 11) (v := .ref (r 2)) (C := RX11) (T := TX11) (N := 16) hx hb hts hi11 hown hK hP 0 rfl rfl 2 (by decide) (hts (.fieldLink RX11 24 "OverHill" "now" "LOverHill$Dance;") (by decide +kernel)) (fun _ h9 => h9) rfl dX11_hasNight_1 ?_
  refine ct_calli (D := D) (wc := (w_c_X0_stands cI cJ cB cZ cO (r 2) (r 24) (r 25) (r 26) (r 27) (r 28) (r 30) (r 31) (r 33) (r 35))) (wr := [oo h r (r 2) (r 3)]) (va_runV (As := []) (rest := []) ⟨hx, hb, hml, hown, hts⟩ (c_X0_stands l D cI cJ cB cZ cO (r 2) (r 24) (r 25) (r 26) (r 27) (r 28) (r 30) (r 31) (r 33) (r 35) H.size) (cwV 0 hts gX11_hasNight_X0_stands rfl rfl rfl (by decide +kernel) ⟨Nat.le_of_ble_eq_true rfl, Nat.le_of_ble_eq_true rfl⟩) (ct_preV (T := ct_T cI cJ cB cZ cO) (ci := 0) (q0 := 1) hE hP hD [1] (by decide) rfl rfl rfl) rfl rfl hl.1 rfl (lv_room (Nat.le_of_ble_eq_true rfl)) dX11_hasNight_4 ⟨Nat.le_of_ble_eq_true rfl, Nat.le_of_ble_eq_true rfl⟩) hP hD hS hA [1] [0] rfl rfl (by decide) (by decide) (fun rz u H locs hw hP hD hS => ?_)
  have hP : va_P D vwCl [oo h r (r 2) (r 3), dn (r 2) (r 24) (r 25) (r 26) (r 27) (r 28) (r 30) (r 31) (r 33) (r 35)] H := hP
  have hD : va_D A [oo h r (r 2) (r 3), dn (r 2) (r 24) (r 25) (r 26) (r 27) (r 28) (r 30) (r 31) (r 33) (r 35)] := hD
  obtain ⟨rfl, hq11⟩ := hw
  refine lv_if_eq (tgt := 36) hx hb dX11_hasNight_7 (by decide) (fun _ => ?_) (fun hc => absurd hc (by decide))
  refine lv_iconst (v := 0) hx hb dX11_hasNight_36 (by decide) ?_
  have hP9 := hP.sub (ws' := []) [] rfl
  have hD9 := hD.sub (ws' := []) [] (by decide) rfl
  exact W.zret (v := 0) (ty := .boolean) hx hb hr rfl (fun t ht hW => ⟨⟨0, (), rfl, ⟨rfl, trivial⟩, by rw [ht]; exact hP9, hD9⟩, hS.F ht⟩) hS.2.2 dX11_hasNight_37
abbrev w_c_X11_listenTo (cI cJ cB cZ cO : ClassId) (h : Nat) (r : Nat → Nat) : va_W := [oo h r (r 2) (r 3), dn (r 2) (r 24) (r 25) (r 26) (r 27) (r 28) (r 30) (r 31) (r 33) (r 35)]
set_option maxHeartbeats 4000000 in
set_option maxRecDepth 100000 in
/-- listenTo, on a new object -/
theorem c_X11_listenTo (l : Launch) (D : va_G) (cI cJ cB cZ cO : ClassId) (h : Nat) (r : Nat → Nat) (x1 : Int32) (x2 : Int32) (sz : Nat) : Met l yX11_listenTo wsX11_listenTo ({ frames := 1, cells := 0, slots := 0, locals := 20 }) (va_Pc [.ref h, .int x1, .int x2] (ct_P D (ct_T cI cJ cB cZ cO) (w_c_X11_listenTo cI cJ cB cZ cO h r) sz)) (va_Qi (fun (rz : Int32) (u : Unit) => (rz = (-2) ∧ True)) (fun (u : Unit) t => ct_Q D (va_A (w_c_X11_listenTo cI cJ cB cZ cO h r) sz) [] t) (va_A (w_c_X11_listenTo cI cJ cB cZ cO h r) sz)) 0 0 (va_A (w_c_X11_listenTo cI cJ cB cZ cO h r) sz) := by
  refine Met.ofW (cc := cX11_listenTo) (maxL := 5) (ret := (some .int)) (by decide) rfl ?_
  intro p e s m args below meth c s₁ B hml hv
  obtain ⟨rfl, hsz, hP, hE, hD0⟩ := hv
  have hx := B.exec
  have hb := B.bytes
  have hr := B.returns
  have hts := atoms_spec (ws := wsX11_listenTo) B.pre
  have hown : s.vm.findClass RX11 = some m.cls := findClass_of_methodNamed B.named
  have hlocks := B.notSynchronized
  have hK := hE.1
  have hi11 : ∀ w ∈ u_ws RX11 TX11 16, w ∈ wsX11_listenTo := fun w h => List.mem_cons_of_mem _ (List.mem_append_left _ (List.mem_append_left _ (List.mem_append_left _ (List.mem_append_right _ h))))
  subst hsz
  have hD := hD0.self (sz := s.heap.size)
  generalize hAe : va_A (w_c_X11_listenTo cI cJ cB cZ cO h r) s.heap.size = A at hD ⊢
  have hA : ∀ q : Nat, s.heap.size ≤ q → A q := fun q h => by rw [← hAe]; exact Or.inr h
  have hS : va_S A s.heap s.heap [] := va_S.rf
  have hP : va_P D vwCl [oo h r (r 2) (r 3), dn (r 2) (r 24) (r 25) (r 26) (r 27) (r 28) (r 30) (r 31) (r 33) (r 35)] s.heap := hP
  have hD : va_D A [oo h r (r 2) (r 3), dn (r 2) (r 24) (r 25) (r 26) (r 27) (r 28) (r 30) (r 31) (r 33) (r 35)] := hD
  have hl := lv_entry ([.ref h, .int x1, .int x2]) (n := 5) (Nat.le_of_ble_eq_true rfl)
  rw [lg_entry_eq]
  generalize (lg_sl ([.ref h, .int x1, .int x2]) ++ List.replicate (5 - (lg_sl ([.ref h, .int x1, .int x2])).length) Slot.unset).toArray = ls at hl ⊢
  have hl : lv_has ls 5 [(0, .ref h), (1, .int x1), (2, .int x2)] := hl
  obtain ⟨H, hHe⟩ : ∃ H : Heap, H = s.heap := ⟨_, rfl⟩
  rw [← hHe] at hP
  have hS : va_S A s.heap H [] := by rw [hHe]; exact va_S.rf
  refine ct_start hHe ?_
  refine lv_aload_n hx hb dX11_listenTo_0 rfl (lv_at hl 0 rfl) ?_
  refine va_get (D := D) (ci := 11) (v := .ref (r 2)) (C := RX11) (T := TX11) (N := 16) hx hb hts hi11 hown hK hP 0 rfl rfl 2 (by decide) (hts (.fieldLink RX11 24 "OverHill" "now" "LOverHill$Dance;") (by decide +kernel)) (fun _ h9 => h9) rfl dX11_listenTo_1 ?_
  refine ct_calli (D := D) (wc := (w_c_X0_stands cI cJ cB cZ cO (r 2) (r 24) (r 25) (r 26) (r 27) (r 28) (r 30) (r 31) (r 33) (r 35))) (wr := [oo h r (r 2) (r 3)]) (va_runV (As := []) (rest := []) ⟨hx, hb, hml, hown, hts⟩ (c_X0_stands l D cI cJ cB cZ cO (r 2) (r 24) (r 25) (r 26) (r 27) (r 28) (r 30) (r 31) (r 33) (r 35) H.size) (cwV 0 hts gX11_listenTo_X0_stands rfl rfl rfl (by decide +kernel) ⟨Nat.le_of_ble_eq_true rfl, Nat.le_of_ble_eq_true rfl⟩) (ct_preV (T := ct_T cI cJ cB cZ cO) (ci := 0) (q0 := 1) hE hP hD [1] (by decide) rfl rfl rfl) rfl rfl hl.1 rfl (lv_room (Nat.le_of_ble_eq_true rfl)) dX11_listenTo_4 ⟨Nat.le_of_ble_eq_true rfl, Nat.le_of_ble_eq_true rfl⟩) hP hD hS hA [1] [0] rfl rfl (by decide) (by decide) (fun rz u H locs hw hP hD hS => ?_)
  have hP : va_P D vwCl [oo h r (r 2) (r 3), dn (r 2) (r 24) (r 25) (r 26) (r 27) (r 28) (r 30) (r 31) (r 33) (r 35)] H := hP
  have hD : va_D A [oo h r (r 2) (r 3), dn (r 2) (r 24) (r 25) (r 26) (r 27) (r 28) (r 30) (r 31) (r 33) (r 35)] := hD
  obtain ⟨rfl, hq12⟩ := hw
  refine lv_if_eq (tgt := 17) hx hb dX11_listenTo_7 (by decide) (fun _ => ?_) (fun hc => absurd hc (by decide))
  refine lv_bipush (v := (-2)) hx hb dX11_listenTo_17 (by decide) ?_
  have hP9 := hP.sub (ws' := []) [] rfl
  have hD9 := hD.sub (ws' := []) [] (by decide) rfl
  exact W.iret (v := (-2)) hx hb hr (fun t ht hW => ⟨⟨(-2), (), rfl, ⟨rfl, trivial⟩, by rw [ht]; exact hP9, hD9⟩, hS.F ht⟩) hS.2.2 dX11_listenTo_19
abbrev w_c_X0_hasStumble (cI cJ cB cZ cO : ClassId) (a : Nat) (b4 : Nat) (b5 : Nat) (b6 : Nat) (b7 : Nat) (b8 : Nat) (b10 : Nat) (b11 : Nat) (b13 : Nat) (b15 : Nat) : va_W := [dn a b4 b5 b6 b7 b8 b10 b11 b13 b15]
set_option maxHeartbeats 4000000 in
set_option maxRecDepth 100000 in
/-- no STUMBLE -/
theorem c_X0_hasStumble (l : Launch) (D : va_G) (cI cJ cB cZ cO : ClassId) (a : Nat) (b4 : Nat) (b5 : Nat) (b6 : Nat) (b7 : Nat) (b8 : Nat) (b10 : Nat) (b11 : Nat) (b13 : Nat) (b15 : Nat) (v : Int32) (sz : Nat) : Met l yX0_hasStumble wsX0_hasStumble ({ frames := 1, cells := 0, slots := 0, locals := 21 }) (va_Pc [.ref a, .int v] (ct_P D (ct_T cI cJ cB cZ cO) (w_c_X0_hasStumble cI cJ cB cZ cO a b4 b5 b6 b7 b8 b10 b11 b13 b15) sz)) (va_Qi (fun (rz : Int32) (u : Unit) => (rz = 0 ∧ True)) (fun (u : Unit) t => ct_Q D (va_A (w_c_X0_hasStumble cI cJ cB cZ cO a b4 b5 b6 b7 b8 b10 b11 b13 b15) sz) [dn a b4 b5 b6 b7 b8 b10 b11 b13 b15] t) (va_A (w_c_X0_hasStumble cI cJ cB cZ cO a b4 b5 b6 b7 b8 b10 b11 b13 b15) sz)) 0 0 (va_A (w_c_X0_hasStumble cI cJ cB cZ cO a b4 b5 b6 b7 b8 b10 b11 b13 b15) sz) := by
  refine Met.ofW (cc := cX0_hasStumble) (maxL := 2) (ret := (some .boolean)) (by decide) rfl ?_
  intro p e s m args below meth c s₁ B hml hv
  obtain ⟨rfl, hsz, hP, hE, hD0⟩ := hv
  have hx := B.exec
  have hb := B.bytes
  have hr := B.returns
  have hts := atoms_spec (ws := wsX0_hasStumble) B.pre
  have hown : s.vm.findClass RX0 = some m.cls := findClass_of_methodNamed B.named
  have hlocks := B.notSynchronized
  have hK := hE.1
  have hi0 : ∀ w ∈ u_ws RX0 TX0 17, w ∈ wsX0_hasStumble := fun w h => List.mem_cons_of_mem _ (List.mem_append_right _ h)
  subst hsz
  have hD := hD0.self (sz := s.heap.size)
  generalize hAe : va_A (w_c_X0_hasStumble cI cJ cB cZ cO a b4 b5 b6 b7 b8 b10 b11 b13 b15) s.heap.size = A at hD ⊢
  have hA : ∀ q : Nat, s.heap.size ≤ q → A q := fun q h => by rw [← hAe]; exact Or.inr h
  have hS : va_S A s.heap s.heap [] := va_S.rf
  have hP : va_P D vwCl [dn a b4 b5 b6 b7 b8 b10 b11 b13 b15] s.heap := hP
  have hD : va_D A [dn a b4 b5 b6 b7 b8 b10 b11 b13 b15] := hD
  have hl := lv_entry ([.ref a, .int v]) (n := 2) (Nat.le_of_ble_eq_true rfl)
  rw [lg_entry_eq]
  generalize (lg_sl ([.ref a, .int v]) ++ List.replicate (2 - (lg_sl ([.ref a, .int v])).length) Slot.unset).toArray = ls at hl ⊢
  have hl : lv_has ls 2 [(0, .ref a), (1, .int v)] := hl
  obtain ⟨H, hHe⟩ : ∃ H : Heap, H = s.heap := ⟨_, rfl⟩
  rw [← hHe] at hP
  have hS : va_S A s.heap H [] := by rw [hHe]; exact va_S.rf
  refine ct_start hHe ?_
  refine lv_iload_n hx hb dX0_hasStumble_0 rfl (lv_at hl 1 rfl) ?_
  refine lv_aload_n hx hb dX0_hasStumble_1 rfl (lv_at hl 0 rfl) ?_
  refine va_get (D := D) (ci := 0) (v := .int 0) (C := RX0) (T := TX0) (N := 17) hx hb hts hi0 hown hK hP 0 rfl rfl 9 (by decide) (hts (.fieldLink RX0 58 "OverHill$Dance" "stumbleCount" "I") (by decide +kernel)) (fun _ h9 => h9) rfl dX0_hasStumble_2 ?_
  refine ct_calli (D := D) (wc := (w_c_X11_isWithin cI cJ cB cZ cO )) (wr := [dn a b4 b5 b6 b7 b8 b10 b11 b13 b15]) (va_runSN (As := [.int v, .int 0]) (rest := []) ⟨hx, hb, hml, hown, hts⟩ (c_X11_isWithin l D cI cJ cB cZ cO v 0 0 (by decide) H.size) ⟨va_cnB 2 hts gX0_hasStumble_X11_isWithin_n76 rfl rfl rfl (hE.2.1 (RX0, 76, yX11_isWithin, "OverHill") (List.mem_of_getElem? (i := 11) rfl)) (hts (.initialized RX11) (by decide +kernel)) (by decide +kernel) ⟨Nat.le_of_ble_eq_true rfl, Nat.le_of_ble_eq_true rfl⟩, (hts (.static yX11_isWithin) (by decide +kernel)), trivial⟩ (ct_preS (T := ct_T cI cJ cB cZ cO) hE hP hD [] (by decide) rfl) rfl rfl hl.1 rfl (lv_room (Nat.le_of_ble_eq_true rfl)) dX0_hasStumble_5 ⟨Nat.le_of_ble_eq_true rfl, Nat.le_of_ble_eq_true rfl⟩) hP hD hS hA [] [0] rfl rfl (by decide) (by decide) (fun rz u H locs hw hP hD hS => ?_)
  have hP : va_P D vwCl [dn a b4 b5 b6 b7 b8 b10 b11 b13 b15] H := hP
  have hD : va_D A [dn a b4 b5 b6 b7 b8 b10 b11 b13 b15] := hD
  rcases hw with ⟨rfl, hq13⟩ | ⟨rfl, hq13⟩
  · exact absurd hq13 (by omega)
  · have hP9 := hP.sub (ws' := [dn a b4 b5 b6 b7 b8 b10 b11 b13 b15]) [0] rfl
    have hD9 := hD.sub (ws' := [dn a b4 b5 b6 b7 b8 b10 b11 b13 b15]) [0] (by decide) rfl
    exact W.zret (v := 0) (ty := .boolean) hx hb hr rfl (fun t ht hW => ⟨⟨0, (), rfl, ⟨rfl, trivial⟩, by rw [ht]; exact hP9, hD9⟩, hS.F ht⟩) hS.2.2 dX0_hasStumble_8
abbrev w_c_X11_stumbled (cI cJ cB cZ cO : ClassId) (h : Nat) (r : Nat → Nat) : va_W := [oo h r (r 2) (r 3), dn (r 2) (r 24) (r 25) (r 26) (r 27) (r 28) (r 30) (r 31) (r 33) (r 35)]
set_option maxHeartbeats 4000000 in
set_option maxRecDepth 100000 in
/-- stumbled, on a new object -/
theorem c_X11_stumbled (l : Launch) (D : va_G) (cI cJ cB cZ cO : ClassId) (h : Nat) (r : Nat → Nat) (x1 : Int32) (x2 : Int32) (sz : Nat) : Met l yX11_stumbled wsX11_stumbled ({ frames := 2, cells := 0, slots := 0, locals := 42 }) (va_Pc [.ref h, .int x1, .int x2] (ct_P D (ct_T cI cJ cB cZ cO) (w_c_X11_stumbled cI cJ cB cZ cO h r) sz)) (va_Qi (fun (rz : Int32) (u : Unit) => (rz = (-2) ∧ True)) (fun (u : Unit) t => ct_Q D (va_A (w_c_X11_stumbled cI cJ cB cZ cO h r) sz) [] t) (va_A (w_c_X11_stumbled cI cJ cB cZ cO h r) sz)) 0 0 (va_A (w_c_X11_stumbled cI cJ cB cZ cO h r) sz) := by
  refine Met.ofW (cc := cX11_stumbled) (maxL := 3) (ret := (some .int)) (by decide) rfl ?_
  intro p e s m args below meth c s₁ B hml hv
  obtain ⟨rfl, hsz, hP, hE, hD0⟩ := hv
  have hx := B.exec
  have hb := B.bytes
  have hr := B.returns
  have hts := atoms_spec (ws := wsX11_stumbled) B.pre
  have hown : s.vm.findClass RX11 = some m.cls := findClass_of_methodNamed B.named
  have hlocks := B.notSynchronized
  have hK := hE.1
  have hi11 : ∀ w ∈ u_ws RX11 TX11 16, w ∈ wsX11_stumbled := fun w h => List.mem_cons_of_mem _ (List.mem_append_left _ (List.mem_append_right _ h))
  subst hsz
  have hD := hD0.self (sz := s.heap.size)
  generalize hAe : va_A (w_c_X11_stumbled cI cJ cB cZ cO h r) s.heap.size = A at hD ⊢
  have hA : ∀ q : Nat, s.heap.size ≤ q → A q := fun q h => by rw [← hAe]; exact Or.inr h
  have hS : va_S A s.heap s.heap [] := va_S.rf
  have hP : va_P D vwCl [oo h r (r 2) (r 3), dn (r 2) (r 24) (r 25) (r 26) (r 27) (r 28) (r 30) (r 31) (r 33) (r 35)] s.heap := hP
  have hD : va_D A [oo h r (r 2) (r 3), dn (r 2) (r 24) (r 25) (r 26) (r 27) (r 28) (r 30) (r 31) (r 33) (r 35)] := hD
  have hl := lv_entry ([.ref h, .int x1, .int x2]) (n := 3) (Nat.le_of_ble_eq_true rfl)
  rw [lg_entry_eq]
  generalize (lg_sl ([.ref h, .int x1, .int x2]) ++ List.replicate (3 - (lg_sl ([.ref h, .int x1, .int x2])).length) Slot.unset).toArray = ls at hl ⊢
  have hl : lv_has ls 3 [(0, .ref h), (1, .int x1), (2, .int x2)] := hl
  obtain ⟨H, hHe⟩ : ∃ H : Heap, H = s.heap := ⟨_, rfl⟩
  rw [← hHe] at hP
  have hS : va_S A s.heap H [] := by rw [hHe]; exact va_S.rf
  refine ct_start hHe ?_
  refine lv_aload_n hx hb dX11_stumbled_0 rfl (lv_at hl 0 rfl) ?_
  refine va_get (D := D) (ci := 11) (v := .ref (r 2)) (C := RX11) (T := TX11) (N := 16) hx hb hts hi11 hown hK hP 0 rfl rfl 2 (by decide) (hts (.fieldLink RX11 24 "OverHill" "now" "LOverHill$Dance;") (by decide +kernel)) (fun _ h9 => h9) rfl dX11_stumbled_1 ?_
  refine lv_iload_n hx hb dX11_stumbled_4 rfl (lv_at hl 1 rfl) ?_
  refine ct_calli (D := D) (wc := (w_c_X0_hasStumble cI cJ cB cZ cO (r 2) (r 24) (r 25) (r 26) (r 27) (r 28) (r 30) (r 31) (r 33) (r 35))) (wr := [oo h r (r 2) (r 3)]) (va_runV (As := [.int x1]) (rest := []) ⟨hx, hb, hml, hown, hts⟩ (c_X0_hasStumble l D cI cJ cB cZ cO (r 2) (r 24) (r 25) (r 26) (r 27) (r 28) (r 30) (r 31) (r 33) (r 35) x1 H.size) (cwV 1 hts gX11_stumbled_X0_hasStumble rfl rfl rfl (by decide +kernel) ⟨Nat.le_of_ble_eq_true rfl, Nat.le_of_ble_eq_true rfl⟩) (ct_preV (T := ct_T cI cJ cB cZ cO) (ci := 0) (q0 := 1) hE hP hD [1] (by decide) rfl rfl rfl) rfl rfl hl.1 rfl (lv_room (Nat.le_of_ble_eq_true rfl)) dX11_stumbled_5 ⟨Nat.le_of_ble_eq_true rfl, Nat.le_of_ble_eq_true rfl⟩) hP hD hS hA [1] [0] rfl rfl (by decide) (by decide) (fun rz u H locs hw hP hD hS => ?_)
  have hP : va_P D vwCl [oo h r (r 2) (r 3), dn (r 2) (r 24) (r 25) (r 26) (r 27) (r 28) (r 30) (r 31) (r 33) (r 35)] H := hP
  have hD : va_D A [oo h r (r 2) (r 3), dn (r 2) (r 24) (r 25) (r 26) (r 27) (r 28) (r 30) (r 31) (r 33) (r 35)] := hD
  obtain ⟨rfl, hq14⟩ := hw
  refine lv_if_eq (tgt := 19) hx hb dX11_stumbled_8 (by decide) (fun _ => ?_) (fun hc => absurd hc (by decide))
  refine lv_bipush (v := (-2)) hx hb dX11_stumbled_19 (by decide) ?_
  have hP9 := hP.sub (ws' := []) [] rfl
  have hD9 := hD.sub (ws' := []) [] (by decide) rfl
  exact W.iret (v := (-2)) hx hb hr (fun t ht hW => ⟨⟨(-2), (), rfl, ⟨rfl, trivial⟩, by rw [ht]; exact hP9, hD9⟩, hS.F ht⟩) hS.2.2 dX11_stumbled_21
abbrev w_c_X11_undoes (cI cJ cB cZ cO : ClassId) (h : Nat) (r : Nat → Nat) : va_W := [oo h r (r 2) (r 3), dn (r 2) (r 24) (r 25) (r 26) (r 27) (r 28) (r 30) (r 31) (r 33) (r 35)]
set_option maxHeartbeats 4000000 in
set_option maxRecDepth 100000 in
/-- undoes, on a new object -/
theorem c_X11_undoes (l : Launch) (D : va_G) (cI cJ cB cZ cO : ClassId) (h : Nat) (r : Nat → Nat) (x1 : Int32) (sz : Nat) : Met l yX11_undoes wsX11_undoes ({ frames := 2, cells := 0, slots := 0, locals := 42 }) (va_Pc [.ref h, .int x1] (ct_P D (ct_T cI cJ cB cZ cO) (w_c_X11_undoes cI cJ cB cZ cO h r) sz)) (va_Qi (fun (rz : Int32) (u : Unit) => (rz = (-1000) ∧ True)) (fun (u : Unit) t => ct_Q D (va_A (w_c_X11_undoes cI cJ cB cZ cO h r) sz) [] t) (va_A (w_c_X11_undoes cI cJ cB cZ cO h r) sz)) 0 0 (va_A (w_c_X11_undoes cI cJ cB cZ cO h r) sz) := by
  refine Met.ofW (cc := cX11_undoes) (maxL := 2) (ret := (some .int)) (by decide) rfl ?_
  intro p e s m args below meth c s₁ B hml hv
  obtain ⟨rfl, hsz, hP, hE, hD0⟩ := hv
  have hx := B.exec
  have hb := B.bytes
  have hr := B.returns
  have hts := atoms_spec (ws := wsX11_undoes) B.pre
  have hown : s.vm.findClass RX11 = some m.cls := findClass_of_methodNamed B.named
  have hlocks := B.notSynchronized
  have hK := hE.1
  have hi11 : ∀ w ∈ u_ws RX11 TX11 16, w ∈ wsX11_undoes := fun w h => List.mem_cons_of_mem _ (List.mem_append_left _ (List.mem_append_left _ (List.mem_append_right _ h)))
  subst hsz
  have hD := hD0.self (sz := s.heap.size)
  generalize hAe : va_A (w_c_X11_undoes cI cJ cB cZ cO h r) s.heap.size = A at hD ⊢
  have hA : ∀ q : Nat, s.heap.size ≤ q → A q := fun q h => by rw [← hAe]; exact Or.inr h
  have hS : va_S A s.heap s.heap [] := va_S.rf
  have hP : va_P D vwCl [oo h r (r 2) (r 3), dn (r 2) (r 24) (r 25) (r 26) (r 27) (r 28) (r 30) (r 31) (r 33) (r 35)] s.heap := hP
  have hD : va_D A [oo h r (r 2) (r 3), dn (r 2) (r 24) (r 25) (r 26) (r 27) (r 28) (r 30) (r 31) (r 33) (r 35)] := hD
  have hl := lv_entry ([.ref h, .int x1]) (n := 2) (Nat.le_of_ble_eq_true rfl)
  rw [lg_entry_eq]
  generalize (lg_sl ([.ref h, .int x1]) ++ List.replicate (2 - (lg_sl ([.ref h, .int x1])).length) Slot.unset).toArray = ls at hl ⊢
  have hl : lv_has ls 2 [(0, .ref h), (1, .int x1)] := hl
  obtain ⟨H, hHe⟩ : ∃ H : Heap, H = s.heap := ⟨_, rfl⟩
  rw [← hHe] at hP
  have hS : va_S A s.heap H [] := by rw [hHe]; exact va_S.rf
  refine ct_start hHe ?_
  refine lv_aload_n hx hb dX11_undoes_0 rfl (lv_at hl 0 rfl) ?_
  refine va_get (D := D) (ci := 11) (v := .ref (r 2)) (C := RX11) (T := TX11) (N := 16) hx hb hts hi11 hown hK hP 0 rfl rfl 2 (by decide) (hts (.fieldLink RX11 24 "OverHill" "now" "LOverHill$Dance;") (by decide +kernel)) (fun _ h9 => h9) rfl dX11_undoes_1 ?_
  refine lv_iload_n hx hb dX11_undoes_4 rfl (lv_at hl 1 rfl) ?_
  refine ct_calli (D := D) (wc := (w_c_X0_hasStumble cI cJ cB cZ cO (r 2) (r 24) (r 25) (r 26) (r 27) (r 28) (r 30) (r 31) (r 33) (r 35))) (wr := [oo h r (r 2) (r 3)]) (va_runV (As := [.int x1]) (rest := []) ⟨hx, hb, hml, hown, hts⟩ (c_X0_hasStumble l D cI cJ cB cZ cO (r 2) (r 24) (r 25) (r 26) (r 27) (r 28) (r 30) (r 31) (r 33) (r 35) x1 H.size) (cwV 1 hts gX11_undoes_X0_hasStumble rfl rfl rfl (by decide +kernel) ⟨Nat.le_of_ble_eq_true rfl, Nat.le_of_ble_eq_true rfl⟩) (ct_preV (T := ct_T cI cJ cB cZ cO) (ci := 0) (q0 := 1) hE hP hD [1] (by decide) rfl rfl rfl) rfl rfl hl.1 rfl (lv_room (Nat.le_of_ble_eq_true rfl)) dX11_undoes_5 ⟨Nat.le_of_ble_eq_true rfl, Nat.le_of_ble_eq_true rfl⟩) hP hD hS hA [1] [0] rfl rfl (by decide) (by decide) (fun rz u H locs hw hP hD hS => ?_)
  have hP : va_P D vwCl [oo h r (r 2) (r 3), dn (r 2) (r 24) (r 25) (r 26) (r 27) (r 28) (r 30) (r 31) (r 33) (r 35)] H := hP
  have hD : va_D A [oo h r (r 2) (r 3), dn (r 2) (r 24) (r 25) (r 26) (r 27) (r 28) (r 30) (r 31) (r 33) (r 35)] := hD
  obtain ⟨rfl, hq15⟩ := hw
  refine lv_if_ne (tgt := 15) hx hb dX11_undoes_8 (by decide) (fun hc => absurd hc (by decide)) (fun _ => ?_)
  refine lv_sipush (v := (-1000)) hx hb dX11_undoes_11 (by decide) ?_
  have hP9 := hP.sub (ws' := []) [] rfl
  have hD9 := hD.sub (ws' := []) [] (by decide) rfl
  exact W.iret (v := (-1000)) hx hb hr (fun t ht hW => ⟨⟨(-1000), (), rfl, ⟨rfl, trivial⟩, by rw [ht]; exact hP9, hD9⟩, hS.F ht⟩) hS.2.2 dX11_undoes_14
abbrev w_c_X11_answers (cI cJ cB cZ cO : ClassId) (h : Nat) (r : Nat → Nat) : va_W := [oo h r (r 2) (r 3), dn (r 2) (r 24) (r 25) (r 26) (r 27) (r 28) (r 30) (r 31) (r 33) (r 35)]
set_option maxHeartbeats 4000000 in
set_option maxRecDepth 100000 in
/-- answers, on a new object -/
theorem c_X11_answers (l : Launch) (D : va_G) (cI cJ cB cZ cO : ClassId) (h : Nat) (r : Nat → Nat) (x1 : Int32) (sz : Nat) : Met l yX11_answers wsX11_answers ({ frames := 1, cells := 0, slots := 0, locals := 20 }) (va_Pc [.ref h, .int x1] (ct_P D (ct_T cI cJ cB cZ cO) (w_c_X11_answers cI cJ cB cZ cO h r) sz)) (va_Qi (fun (rz : Int32) (u : Unit) => (rz = (-2) ∧ True)) (fun (u : Unit) t => ct_Q D (va_A (w_c_X11_answers cI cJ cB cZ cO h r) sz) [] t) (va_A (w_c_X11_answers cI cJ cB cZ cO h r) sz)) 0 0 (va_A (w_c_X11_answers cI cJ cB cZ cO h r) sz) := by
  refine Met.ofW (cc := cX11_answers) (maxL := 2) (ret := (some .int)) (by decide) rfl ?_
  intro p e s m args below meth c s₁ B hml hv
  obtain ⟨rfl, hsz, hP, hE, hD0⟩ := hv
  have hx := B.exec
  have hb := B.bytes
  have hr := B.returns
  have hts := atoms_spec (ws := wsX11_answers) B.pre
  have hown : s.vm.findClass RX11 = some m.cls := findClass_of_methodNamed B.named
  have hlocks := B.notSynchronized
  have hK := hE.1
  have hi11 : ∀ w ∈ u_ws RX11 TX11 16, w ∈ wsX11_answers := fun w h => List.mem_cons_of_mem _ (List.mem_append_left _ (List.mem_append_right _ h))
  subst hsz
  have hD := hD0.self (sz := s.heap.size)
  generalize hAe : va_A (w_c_X11_answers cI cJ cB cZ cO h r) s.heap.size = A at hD ⊢
  have hA : ∀ q : Nat, s.heap.size ≤ q → A q := fun q h => by rw [← hAe]; exact Or.inr h
  have hS : va_S A s.heap s.heap [] := va_S.rf
  have hP : va_P D vwCl [oo h r (r 2) (r 3), dn (r 2) (r 24) (r 25) (r 26) (r 27) (r 28) (r 30) (r 31) (r 33) (r 35)] s.heap := hP
  have hD : va_D A [oo h r (r 2) (r 3), dn (r 2) (r 24) (r 25) (r 26) (r 27) (r 28) (r 30) (r 31) (r 33) (r 35)] := hD
  have hl := lv_entry ([.ref h, .int x1]) (n := 2) (Nat.le_of_ble_eq_true rfl)
  rw [lg_entry_eq]
  generalize (lg_sl ([.ref h, .int x1]) ++ List.replicate (2 - (lg_sl ([.ref h, .int x1])).length) Slot.unset).toArray = ls at hl ⊢
  have hl : lv_has ls 2 [(0, .ref h), (1, .int x1)] := hl
  obtain ⟨H, hHe⟩ : ∃ H : Heap, H = s.heap := ⟨_, rfl⟩
  rw [← hHe] at hP
  have hS : va_S A s.heap H [] := by rw [hHe]; exact va_S.rf
  refine ct_start hHe ?_
  refine lv_aload_n hx hb dX11_answers_0 rfl (lv_at hl 0 rfl) ?_
  refine va_get (D := D) (ci := 11) (v := .ref (r 2)) (C := RX11) (T := TX11) (N := 16) hx hb hts hi11 hown hK hP 0 rfl rfl 2 (by decide) (hts (.fieldLink RX11 24 "OverHill" "now" "LOverHill$Dance;") (by decide +kernel)) (fun _ h9 => h9) rfl dX11_answers_1 ?_
  refine ct_calli (D := D) (wc := (w_c_X0_stands cI cJ cB cZ cO (r 2) (r 24) (r 25) (r 26) (r 27) (r 28) (r 30) (r 31) (r 33) (r 35))) (wr := [oo h r (r 2) (r 3)]) (va_runV (As := []) (rest := []) ⟨hx, hb, hml, hown, hts⟩ (c_X0_stands l D cI cJ cB cZ cO (r 2) (r 24) (r 25) (r 26) (r 27) (r 28) (r 30) (r 31) (r 33) (r 35) H.size) (cwV 0 hts gX11_answers_X0_stands rfl rfl rfl (by decide +kernel) ⟨Nat.le_of_ble_eq_true rfl, Nat.le_of_ble_eq_true rfl⟩) (ct_preV (T := ct_T cI cJ cB cZ cO) (ci := 0) (q0 := 1) hE hP hD [1] (by decide) rfl rfl rfl) rfl rfl hl.1 rfl (lv_room (Nat.le_of_ble_eq_true rfl)) dX11_answers_4 ⟨Nat.le_of_ble_eq_true rfl, Nat.le_of_ble_eq_true rfl⟩) hP hD hS hA [1] [0] rfl rfl (by decide) (by decide) (fun rz u H locs hw hP hD hS => ?_)
  have hP : va_P D vwCl [oo h r (r 2) (r 3), dn (r 2) (r 24) (r 25) (r 26) (r 27) (r 28) (r 30) (r 31) (r 33) (r 35)] H := hP
  have hD : va_D A [oo h r (r 2) (r 3), dn (r 2) (r 24) (r 25) (r 26) (r 27) (r 28) (r 30) (r 31) (r 33) (r 35)] := hD
  obtain ⟨rfl, hq16⟩ := hw
  refine lv_if_eq (tgt := 29) hx hb dX11_answers_7 (by decide) (fun _ => ?_) (fun hc => absurd hc (by decide))
  refine lv_bipush (v := (-2)) hx hb dX11_answers_29 (by decide) ?_
  have hP9 := hP.sub (ws' := []) [] rfl
  have hD9 := hD.sub (ws' := []) [] (by decide) rfl
  exact W.iret (v := (-2)) hx hb hr (fun t ht hW => ⟨⟨(-2), (), rfl, ⟨rfl, trivial⟩, by rw [ht]; exact hP9, hD9⟩, hS.F ht⟩) hS.2.2 dX11_answers_31
abbrev w_c_X11_muddy (cI cJ cB cZ cO : ClassId) (h : Nat) (r : Nat → Nat) : va_W := [oo h r (r 2) (r 3), dn (r 2) (r 24) (r 25) (r 26) (r 27) (r 28) (r 30) (r 31) (r 33) (r 35)]
set_option maxHeartbeats 4000000 in
set_option maxRecDepth 100000 in
/-- muddy, on a new object -/
theorem c_X11_muddy (l : Launch) (D : va_G) (cI cJ cB cZ cO : ClassId) (h : Nat) (r : Nat → Nat) (x1 : Int32) (sz : Nat) : Met l yX11_muddy wsX11_muddy ({ frames := 1, cells := 0, slots := 0, locals := 20 }) (va_Pc [.ref h, .int x1] (ct_P D (ct_T cI cJ cB cZ cO) (w_c_X11_muddy cI cJ cB cZ cO h r) sz)) (va_Qi (fun (rz : Int32) (u : Unit) => (rz = (-2) ∧ True)) (fun (u : Unit) t => ct_Q D (va_A (w_c_X11_muddy cI cJ cB cZ cO h r) sz) [] t) (va_A (w_c_X11_muddy cI cJ cB cZ cO h r) sz)) 0 0 (va_A (w_c_X11_muddy cI cJ cB cZ cO h r) sz) := by
  refine Met.ofW (cc := cX11_muddy) (maxL := 2) (ret := (some .int)) (by decide) rfl ?_
  intro p e s m args below meth c s₁ B hml hv
  obtain ⟨rfl, hsz, hP, hE, hD0⟩ := hv
  have hx := B.exec
  have hb := B.bytes
  have hr := B.returns
  have hts := atoms_spec (ws := wsX11_muddy) B.pre
  have hown : s.vm.findClass RX11 = some m.cls := findClass_of_methodNamed B.named
  have hlocks := B.notSynchronized
  have hK := hE.1
  have hi11 : ∀ w ∈ u_ws RX11 TX11 16, w ∈ wsX11_muddy := fun w h => List.mem_cons_of_mem _ (List.mem_append_left _ (List.mem_append_right _ h))
  subst hsz
  have hD := hD0.self (sz := s.heap.size)
  generalize hAe : va_A (w_c_X11_muddy cI cJ cB cZ cO h r) s.heap.size = A at hD ⊢
  have hA : ∀ q : Nat, s.heap.size ≤ q → A q := fun q h => by rw [← hAe]; exact Or.inr h
  have hS : va_S A s.heap s.heap [] := va_S.rf
  have hP : va_P D vwCl [oo h r (r 2) (r 3), dn (r 2) (r 24) (r 25) (r 26) (r 27) (r 28) (r 30) (r 31) (r 33) (r 35)] s.heap := hP
  have hD : va_D A [oo h r (r 2) (r 3), dn (r 2) (r 24) (r 25) (r 26) (r 27) (r 28) (r 30) (r 31) (r 33) (r 35)] := hD
  have hl := lv_entry ([.ref h, .int x1]) (n := 2) (Nat.le_of_ble_eq_true rfl)
  rw [lg_entry_eq]
  generalize (lg_sl ([.ref h, .int x1]) ++ List.replicate (2 - (lg_sl ([.ref h, .int x1])).length) Slot.unset).toArray = ls at hl ⊢
  have hl : lv_has ls 2 [(0, .ref h), (1, .int x1)] := hl
  obtain ⟨H, hHe⟩ : ∃ H : Heap, H = s.heap := ⟨_, rfl⟩
  rw [← hHe] at hP
  have hS : va_S A s.heap H [] := by rw [hHe]; exact va_S.rf
  refine ct_start hHe ?_
  refine lv_aload_n hx hb dX11_muddy_0 rfl (lv_at hl 0 rfl) ?_
  refine va_get (D := D) (ci := 11) (v := .ref (r 2)) (C := RX11) (T := TX11) (N := 16) hx hb hts hi11 hown hK hP 0 rfl rfl 2 (by decide) (hts (.fieldLink RX11 24 "OverHill" "now" "LOverHill$Dance;") (by decide +kernel)) (fun _ h9 => h9) rfl dX11_muddy_1 ?_
  refine ct_calli (D := D) (wc := (w_c_X0_stands cI cJ cB cZ cO (r 2) (r 24) (r 25) (r 26) (r 27) (r 28) (r 30) (r 31) (r 33) (r 35))) (wr := [oo h r (r 2) (r 3)]) (va_runV (As := []) (rest := []) ⟨hx, hb, hml, hown, hts⟩ (c_X0_stands l D cI cJ cB cZ cO (r 2) (r 24) (r 25) (r 26) (r 27) (r 28) (r 30) (r 31) (r 33) (r 35) H.size) (cwV 0 hts gX11_muddy_X0_stands rfl rfl rfl (by decide +kernel) ⟨Nat.le_of_ble_eq_true rfl, Nat.le_of_ble_eq_true rfl⟩) (ct_preV (T := ct_T cI cJ cB cZ cO) (ci := 0) (q0 := 1) hE hP hD [1] (by decide) rfl rfl rfl) rfl rfl hl.1 rfl (lv_room (Nat.le_of_ble_eq_true rfl)) dX11_muddy_4 ⟨Nat.le_of_ble_eq_true rfl, Nat.le_of_ble_eq_true rfl⟩) hP hD hS hA [1] [0] rfl rfl (by decide) (by decide) (fun rz u H locs hw hP hD hS => ?_)
  have hP : va_P D vwCl [oo h r (r 2) (r 3), dn (r 2) (r 24) (r 25) (r 26) (r 27) (r 28) (r 30) (r 31) (r 33) (r 35)] H := hP
  have hD : va_D A [oo h r (r 2) (r 3), dn (r 2) (r 24) (r 25) (r 26) (r 27) (r 28) (r 30) (r 31) (r 33) (r 35)] := hD
  obtain ⟨rfl, hq17⟩ := hw
  refine lv_if_eq (tgt := 29) hx hb dX11_muddy_7 (by decide) (fun _ => ?_) (fun hc => absurd hc (by decide))
  refine lv_bipush (v := (-2)) hx hb dX11_muddy_29 (by decide) ?_
  have hP9 := hP.sub (ws' := []) [] rfl
  have hD9 := hD.sub (ws' := []) [] (by decide) rfl
  exact W.iret (v := (-2)) hx hb hr (fun t ht hW => ⟨⟨(-2), (), rfl, ⟨rfl, trivial⟩, by rw [ht]; exact hP9, hD9⟩, hS.F ht⟩) hS.2.2 dX11_muddy_31
abbrev w_c_X11_place (cI cJ cB cZ cO : ClassId) (h : Nat) (r : Nat → Nat) : va_W := [oo h r (r 2) (r 3), dn (r 2) (r 24) (r 25) (r 26) (r 27) (r 28) (r 30) (r 31) (r 33) (r 35)]
set_option maxHeartbeats 4000000 in
set_option maxRecDepth 100000 in
/-- place, on a new object -/
theorem c_X11_place (l : Launch) (D : va_G) (cI cJ cB cZ cO : ClassId) (h : Nat) (r : Nat → Nat) (x1 : Int32) (x2 : Int32) (sz : Nat) : Met l yX11_place wsX11_place ({ frames := 2, cells := 0, slots := 0, locals := 42 }) (va_Pc [.ref h, .int x1, .int x2] (ct_P D (ct_T cI cJ cB cZ cO) (w_c_X11_place cI cJ cB cZ cO h r) sz)) (va_Qi (fun (rz : Int32) (u : Unit) => (rz = (-2) ∧ True)) (fun (u : Unit) t => ct_Q D (va_A (w_c_X11_place cI cJ cB cZ cO h r) sz) [] t) (va_A (w_c_X11_place cI cJ cB cZ cO h r) sz)) 0 0 (va_A (w_c_X11_place cI cJ cB cZ cO h r) sz) := by
  refine Met.ofW (cc := cX11_place) (maxL := 3) (ret := (some .int)) (by decide) rfl ?_
  intro p e s m args below meth c s₁ B hml hv
  obtain ⟨rfl, hsz, hP, hE, hD0⟩ := hv
  have hx := B.exec
  have hb := B.bytes
  have hr := B.returns
  have hts := atoms_spec (ws := wsX11_place) B.pre
  have hown : s.vm.findClass RX11 = some m.cls := findClass_of_methodNamed B.named
  have hlocks := B.notSynchronized
  have hK := hE.1
  subst hsz
  have hD := hD0.self (sz := s.heap.size)
  generalize hAe : va_A (w_c_X11_place cI cJ cB cZ cO h r) s.heap.size = A at hD ⊢
  have hA : ∀ q : Nat, s.heap.size ≤ q → A q := fun q h => by rw [← hAe]; exact Or.inr h
  have hS : va_S A s.heap s.heap [] := va_S.rf
  have hP : va_P D vwCl [oo h r (r 2) (r 3), dn (r 2) (r 24) (r 25) (r 26) (r 27) (r 28) (r 30) (r 31) (r 33) (r 35)] s.heap := hP
  have hD : va_D A [oo h r (r 2) (r 3), dn (r 2) (r 24) (r 25) (r 26) (r 27) (r 28) (r 30) (r 31) (r 33) (r 35)] := hD
  have hl := lv_entry ([.ref h, .int x1, .int x2]) (n := 3) (Nat.le_of_ble_eq_true rfl)
  rw [lg_entry_eq]
  generalize (lg_sl ([.ref h, .int x1, .int x2]) ++ List.replicate (3 - (lg_sl ([.ref h, .int x1, .int x2])).length) Slot.unset).toArray = ls at hl ⊢
  have hl : lv_has ls 3 [(0, .ref h), (1, .int x1), (2, .int x2)] := hl
  obtain ⟨H, hHe⟩ : ∃ H : Heap, H = s.heap := ⟨_, rfl⟩
  rw [← hHe] at hP
  have hS : va_S A s.heap H [] := by rw [hHe]; exact va_S.rf
  refine ct_start hHe ?_
  refine lv_aload_n hx hb dX11_place_0 rfl (lv_at hl 0 rfl) ?_
  refine lv_iload_n hx hb dX11_place_1 rfl (lv_at hl 1 rfl) ?_
  refine lv_iload_n hx hb dX11_place_2 rfl (lv_at hl 2 rfl) ?_
  refine ct_calli (D := D) (wc := (w_c_X11_has cI cJ cB cZ cO h r)) (wr := []) (va_runV (As := [.int x1, .int x2]) (rest := []) ⟨hx, hb, hml, hown, hts⟩ (c_X11_has l D cI cJ cB cZ cO h r x1 x2 H.size) (cwV 2 hts gX11_place_X11_has rfl rfl rfl (by decide +kernel) ⟨Nat.le_of_ble_eq_true rfl, Nat.le_of_ble_eq_true rfl⟩) (ct_preV (T := ct_T cI cJ cB cZ cO) (ci := 11) (q0 := 0) hE hP hD [0, 1] (by decide) rfl rfl rfl) rfl rfl hl.1 rfl (lv_room (Nat.le_of_ble_eq_true rfl)) dX11_place_3 ⟨Nat.le_of_ble_eq_true rfl, Nat.le_of_ble_eq_true rfl⟩) hP hD hS hA [0, 1] [] rfl rfl (by decide) (by decide) (fun rz u H locs hw hP hD hS => ?_)
  have hP : va_P D vwCl [] H := hP
  have hD : va_D A [] := hD
  obtain ⟨rfl, hq18⟩ := hw
  refine lv_if_eq (tgt := 21) hx hb dX11_place_6 (by decide) (fun _ => ?_) (fun hc => absurd hc (by decide))
  refine lv_bipush (v := (-2)) hx hb dX11_place_21 (by decide) ?_
  have hP9 := hP.sub (ws' := []) [] rfl
  have hD9 := hD.sub (ws' := []) [] (by decide) rfl
  exact W.iret (v := (-2)) hx hb hr (fun t ht hW => ⟨⟨(-2), (), rfl, ⟨rfl, trivial⟩, by rw [ht]; exact hP9, hD9⟩, hS.F ht⟩) hS.2.2 dX11_place_23
abbrev w_c_X11_danced (cI cJ cB cZ cO : ClassId) (h : Nat) (r : Nat → Nat) : va_W := [oo h r (r 2) (r 3), dn (r 2) (r 24) (r 25) (r 26) (r 27) (r 28) (r 30) (r 31) (r 33) (r 35)]
set_option maxHeartbeats 4000000 in
set_option maxRecDepth 100000 in
/-- danced, on a new object -/
theorem c_X11_danced (l : Launch) (D : va_G) (cI cJ cB cZ cO : ClassId) (h : Nat) (r : Nat → Nat) (x1 : Int32) (x2 : Int32) (sz : Nat) : Met l yX11_danced wsX11_danced ({ frames := 2, cells := 0, slots := 0, locals := 42 }) (va_Pc [.ref h, .int x1, .int x2] (ct_P D (ct_T cI cJ cB cZ cO) (w_c_X11_danced cI cJ cB cZ cO h r) sz)) (va_Qi (fun (rz : Int32) (u : Unit) => (rz = (-2) ∧ True)) (fun (u : Unit) t => ct_Q D (va_A (w_c_X11_danced cI cJ cB cZ cO h r) sz) [] t) (va_A (w_c_X11_danced cI cJ cB cZ cO h r) sz)) 0 0 (va_A (w_c_X11_danced cI cJ cB cZ cO h r) sz) := by
  refine Met.ofW (cc := cX11_danced) (maxL := 3) (ret := (some .int)) (by decide) rfl ?_
  intro p e s m args below meth c s₁ B hml hv
  obtain ⟨rfl, hsz, hP, hE, hD0⟩ := hv
  have hx := B.exec
  have hb := B.bytes
  have hr := B.returns
  have hts := atoms_spec (ws := wsX11_danced) B.pre
  have hown : s.vm.findClass RX11 = some m.cls := findClass_of_methodNamed B.named
  have hlocks := B.notSynchronized
  have hK := hE.1
  subst hsz
  have hD := hD0.self (sz := s.heap.size)
  generalize hAe : va_A (w_c_X11_danced cI cJ cB cZ cO h r) s.heap.size = A at hD ⊢
  have hA : ∀ q : Nat, s.heap.size ≤ q → A q := fun q h => by rw [← hAe]; exact Or.inr h
  have hS : va_S A s.heap s.heap [] := va_S.rf
  have hP : va_P D vwCl [oo h r (r 2) (r 3), dn (r 2) (r 24) (r 25) (r 26) (r 27) (r 28) (r 30) (r 31) (r 33) (r 35)] s.heap := hP
  have hD : va_D A [oo h r (r 2) (r 3), dn (r 2) (r 24) (r 25) (r 26) (r 27) (r 28) (r 30) (r 31) (r 33) (r 35)] := hD
  have hl := lv_entry ([.ref h, .int x1, .int x2]) (n := 3) (Nat.le_of_ble_eq_true rfl)
  rw [lg_entry_eq]
  generalize (lg_sl ([.ref h, .int x1, .int x2]) ++ List.replicate (3 - (lg_sl ([.ref h, .int x1, .int x2])).length) Slot.unset).toArray = ls at hl ⊢
  have hl : lv_has ls 3 [(0, .ref h), (1, .int x1), (2, .int x2)] := hl
  obtain ⟨H, hHe⟩ : ∃ H : Heap, H = s.heap := ⟨_, rfl⟩
  rw [← hHe] at hP
  have hS : va_S A s.heap H [] := by rw [hHe]; exact va_S.rf
  refine ct_start hHe ?_
  refine lv_aload_n hx hb dX11_danced_0 rfl (lv_at hl 0 rfl) ?_
  refine lv_iload_n hx hb dX11_danced_1 rfl (lv_at hl 1 rfl) ?_
  refine lv_iload_n hx hb dX11_danced_2 rfl (lv_at hl 2 rfl) ?_
  refine ct_calli (D := D) (wc := (w_c_X11_has cI cJ cB cZ cO h r)) (wr := []) (va_runV (As := [.int x1, .int x2]) (rest := []) ⟨hx, hb, hml, hown, hts⟩ (c_X11_has l D cI cJ cB cZ cO h r x1 x2 H.size) (cwV 2 hts gX11_danced_X11_has rfl rfl rfl (by decide +kernel) ⟨Nat.le_of_ble_eq_true rfl, Nat.le_of_ble_eq_true rfl⟩) (ct_preV (T := ct_T cI cJ cB cZ cO) (ci := 11) (q0 := 0) hE hP hD [0, 1] (by decide) rfl rfl rfl) rfl rfl hl.1 rfl (lv_room (Nat.le_of_ble_eq_true rfl)) dX11_danced_3 ⟨Nat.le_of_ble_eq_true rfl, Nat.le_of_ble_eq_true rfl⟩) hP hD hS hA [0, 1] [] rfl rfl (by decide) (by decide) (fun rz u H locs hw hP hD hS => ?_)
  have hP : va_P D vwCl [] H := hP
  have hD : va_D A [] := hD
  obtain ⟨rfl, hq19⟩ := hw
  refine lv_if_eq (tgt := 21) hx hb dX11_danced_6 (by decide) (fun _ => ?_) (fun hc => absurd hc (by decide))
  refine lv_bipush (v := (-2)) hx hb dX11_danced_21 (by decide) ?_
  have hP9 := hP.sub (ws' := []) [] rfl
  have hD9 := hD.sub (ws' := []) [] (by decide) rfl
  exact W.iret (v := (-2)) hx hb hr (fun t ht hW => ⟨⟨(-2), (), rfl, ⟨rfl, trivial⟩, by rw [ht]; exact hP9, hD9⟩, hS.F ht⟩) hS.2.2 dX11_danced_23
abbrev w_c_X11_hears (cI cJ cB cZ cO : ClassId) (h : Nat) (r : Nat → Nat) : va_W := [oo h r (r 2) (r 3), dn (r 2) (r 24) (r 25) (r 26) (r 27) (r 28) (r 30) (r 31) (r 33) (r 35)]
set_option maxHeartbeats 4000000 in
set_option maxRecDepth 100000 in
/-- hears, on a new object -/
theorem c_X11_hears (l : Launch) (D : va_G) (cI cJ cB cZ cO : ClassId) (h : Nat) (r : Nat → Nat) (x1 : Int32) (x2 : Int32) (sz : Nat) : Met l yX11_hears wsX11_hears ({ frames := 2, cells := 0, slots := 0, locals := 42 }) (va_Pc [.ref h, .int x1, .int x2] (ct_P D (ct_T cI cJ cB cZ cO) (w_c_X11_hears cI cJ cB cZ cO h r) sz)) (va_Qi (fun (rz : Int32) (u : Unit) => (rz = (-2) ∧ True)) (fun (u : Unit) t => ct_Q D (va_A (w_c_X11_hears cI cJ cB cZ cO h r) sz) [] t) (va_A (w_c_X11_hears cI cJ cB cZ cO h r) sz)) 0 0 (va_A (w_c_X11_hears cI cJ cB cZ cO h r) sz) := by
  refine Met.ofW (cc := cX11_hears) (maxL := 3) (ret := (some .int)) (by decide) rfl ?_
  intro p e s m args below meth c s₁ B hml hv
  obtain ⟨rfl, hsz, hP, hE, hD0⟩ := hv
  have hx := B.exec
  have hb := B.bytes
  have hr := B.returns
  have hts := atoms_spec (ws := wsX11_hears) B.pre
  have hown : s.vm.findClass RX11 = some m.cls := findClass_of_methodNamed B.named
  have hlocks := B.notSynchronized
  have hK := hE.1
  subst hsz
  have hD := hD0.self (sz := s.heap.size)
  generalize hAe : va_A (w_c_X11_hears cI cJ cB cZ cO h r) s.heap.size = A at hD ⊢
  have hA : ∀ q : Nat, s.heap.size ≤ q → A q := fun q h => by rw [← hAe]; exact Or.inr h
  have hS : va_S A s.heap s.heap [] := va_S.rf
  have hP : va_P D vwCl [oo h r (r 2) (r 3), dn (r 2) (r 24) (r 25) (r 26) (r 27) (r 28) (r 30) (r 31) (r 33) (r 35)] s.heap := hP
  have hD : va_D A [oo h r (r 2) (r 3), dn (r 2) (r 24) (r 25) (r 26) (r 27) (r 28) (r 30) (r 31) (r 33) (r 35)] := hD
  have hl := lv_entry ([.ref h, .int x1, .int x2]) (n := 3) (Nat.le_of_ble_eq_true rfl)
  rw [lg_entry_eq]
  generalize (lg_sl ([.ref h, .int x1, .int x2]) ++ List.replicate (3 - (lg_sl ([.ref h, .int x1, .int x2])).length) Slot.unset).toArray = ls at hl ⊢
  have hl : lv_has ls 3 [(0, .ref h), (1, .int x1), (2, .int x2)] := hl
  obtain ⟨H, hHe⟩ : ∃ H : Heap, H = s.heap := ⟨_, rfl⟩
  rw [← hHe] at hP
  have hS : va_S A s.heap H [] := by rw [hHe]; exact va_S.rf
  refine ct_start hHe ?_
  refine lv_aload_n hx hb dX11_hears_0 rfl (lv_at hl 0 rfl) ?_
  refine lv_iload_n hx hb dX11_hears_1 rfl (lv_at hl 1 rfl) ?_
  refine lv_iload_n hx hb dX11_hears_2 rfl (lv_at hl 2 rfl) ?_
  refine ct_calli (D := D) (wc := (w_c_X11_has cI cJ cB cZ cO h r)) (wr := []) (va_runV (As := [.int x1, .int x2]) (rest := []) ⟨hx, hb, hml, hown, hts⟩ (c_X11_has l D cI cJ cB cZ cO h r x1 x2 H.size) (cwV 2 hts gX11_hears_X11_has rfl rfl rfl (by decide +kernel) ⟨Nat.le_of_ble_eq_true rfl, Nat.le_of_ble_eq_true rfl⟩) (ct_preV (T := ct_T cI cJ cB cZ cO) (ci := 11) (q0 := 0) hE hP hD [0, 1] (by decide) rfl rfl rfl) rfl rfl hl.1 rfl (lv_room (Nat.le_of_ble_eq_true rfl)) dX11_hears_3 ⟨Nat.le_of_ble_eq_true rfl, Nat.le_of_ble_eq_true rfl⟩) hP hD hS hA [0, 1] [] rfl rfl (by decide) (by decide) (fun rz u H locs hw hP hD hS => ?_)
  have hP : va_P D vwCl [] H := hP
  have hD : va_D A [] := hD
  obtain ⟨rfl, hq20⟩ := hw
  refine lv_if_eq (tgt := 21) hx hb dX11_hears_6 (by decide) (fun _ => ?_) (fun hc => absurd hc (by decide))
  refine lv_bipush (v := (-2)) hx hb dX11_hears_21 (by decide) ?_
  have hP9 := hP.sub (ws' := []) [] rfl
  have hD9 := hD.sub (ws' := []) [] (by decide) rfl
  exact W.iret (v := (-2)) hx hb hr (fun t ht hW => ⟨⟨(-2), (), rfl, ⟨rfl, trivial⟩, by rw [ht]; exact hP9, hD9⟩, hS.F ht⟩) hS.2.2 dX11_hears_23
abbrev w_c_X11_late (cI cJ cB cZ cO : ClassId) (h : Nat) (r : Nat → Nat) : va_W := [oo h r (r 2) (r 3), dn (r 2) (r 24) (r 25) (r 26) (r 27) (r 28) (r 30) (r 31) (r 33) (r 35)]
set_option maxHeartbeats 4000000 in
set_option maxRecDepth 100000 in
/-- late, on a new object -/
theorem c_X11_late (l : Launch) (D : va_G) (cI cJ cB cZ cO : ClassId) (h : Nat) (r : Nat → Nat) (x1 : Int32) (x2 : Int32) (sz : Nat) : Met l yX11_late wsX11_late ({ frames := 2, cells := 0, slots := 0, locals := 42 }) (va_Pc [.ref h, .int x1, .int x2] (ct_P D (ct_T cI cJ cB cZ cO) (w_c_X11_late cI cJ cB cZ cO h r) sz)) (va_Qi (fun (rz : Int32) (u : Unit) => (rz = (-2) ∧ True)) (fun (u : Unit) t => ct_Q D (va_A (w_c_X11_late cI cJ cB cZ cO h r) sz) [] t) (va_A (w_c_X11_late cI cJ cB cZ cO h r) sz)) 0 0 (va_A (w_c_X11_late cI cJ cB cZ cO h r) sz) := by
  refine Met.ofW (cc := cX11_late) (maxL := 4) (ret := (some .int)) (by decide) rfl ?_
  intro p e s m args below meth c s₁ B hml hv
  obtain ⟨rfl, hsz, hP, hE, hD0⟩ := hv
  have hx := B.exec
  have hb := B.bytes
  have hr := B.returns
  have hts := atoms_spec (ws := wsX11_late) B.pre
  have hown : s.vm.findClass RX11 = some m.cls := findClass_of_methodNamed B.named
  have hlocks := B.notSynchronized
  have hK := hE.1
  subst hsz
  have hD := hD0.self (sz := s.heap.size)
  generalize hAe : va_A (w_c_X11_late cI cJ cB cZ cO h r) s.heap.size = A at hD ⊢
  have hA : ∀ q : Nat, s.heap.size ≤ q → A q := fun q h => by rw [← hAe]; exact Or.inr h
  have hS : va_S A s.heap s.heap [] := va_S.rf
  have hP : va_P D vwCl [oo h r (r 2) (r 3), dn (r 2) (r 24) (r 25) (r 26) (r 27) (r 28) (r 30) (r 31) (r 33) (r 35)] s.heap := hP
  have hD : va_D A [oo h r (r 2) (r 3), dn (r 2) (r 24) (r 25) (r 26) (r 27) (r 28) (r 30) (r 31) (r 33) (r 35)] := hD
  have hl := lv_entry ([.ref h, .int x1, .int x2]) (n := 4) (Nat.le_of_ble_eq_true rfl)
  rw [lg_entry_eq]
  generalize (lg_sl ([.ref h, .int x1, .int x2]) ++ List.replicate (4 - (lg_sl ([.ref h, .int x1, .int x2])).length) Slot.unset).toArray = ls at hl ⊢
  have hl : lv_has ls 4 [(0, .ref h), (1, .int x1), (2, .int x2)] := hl
  obtain ⟨H, hHe⟩ : ∃ H : Heap, H = s.heap := ⟨_, rfl⟩
  rw [← hHe] at hP
  have hS : va_S A s.heap H [] := by rw [hHe]; exact va_S.rf
  refine ct_start hHe ?_
  refine lv_aload_n hx hb dX11_late_0 rfl (lv_at hl 0 rfl) ?_
  refine lv_iload_n hx hb dX11_late_1 rfl (lv_at hl 1 rfl) ?_
  refine lv_iload_n hx hb dX11_late_2 rfl (lv_at hl 2 rfl) ?_
  refine ct_calli (D := D) (wc := (w_c_X11_has cI cJ cB cZ cO h r)) (wr := []) (va_runV (As := [.int x1, .int x2]) (rest := []) ⟨hx, hb, hml, hown, hts⟩ (c_X11_has l D cI cJ cB cZ cO h r x1 x2 H.size) (cwV 2 hts gX11_late_X11_has rfl rfl rfl (by decide +kernel) ⟨Nat.le_of_ble_eq_true rfl, Nat.le_of_ble_eq_true rfl⟩) (ct_preV (T := ct_T cI cJ cB cZ cO) (ci := 11) (q0 := 0) hE hP hD [0, 1] (by decide) rfl rfl rfl) rfl rfl hl.1 rfl (lv_room (Nat.le_of_ble_eq_true rfl)) dX11_late_3 ⟨Nat.le_of_ble_eq_true rfl, Nat.le_of_ble_eq_true rfl⟩) hP hD hS hA [0, 1] [] rfl rfl (by decide) (by decide) (fun rz u H locs hw hP hD hS => ?_)
  have hP : va_P D vwCl [] H := hP
  have hD : va_D A [] := hD
  obtain ⟨rfl, hq21⟩ := hw
  refine lv_if_ne (tgt := 12) hx hb dX11_late_6 (by decide) (fun hc => absurd hc (by decide)) (fun _ => ?_)
  refine lv_bipush (v := (-2)) hx hb dX11_late_9 (by decide) ?_
  have hP9 := hP.sub (ws' := []) [] rfl
  have hD9 := hD.sub (ws' := []) [] (by decide) rfl
  exact W.iret (v := (-2)) hx hb hr (fun t ht hW => ⟨⟨(-2), (), rfl, ⟨rfl, trivial⟩, by rw [ht]; exact hP9, hD9⟩, hS.F ht⟩) hS.2.2 dX11_late_11
abbrev w_c_X11_hole (cI cJ cB cZ cO : ClassId) (h : Nat) (r : Nat → Nat) : va_W := [oo h r (r 2) (r 3), dn (r 2) (r 24) (r 25) (r 26) (r 27) (r 28) (r 30) (r 31) (r 33) (r 35)]
set_option maxHeartbeats 4000000 in
set_option maxRecDepth 100000 in
/-- hole, on a new object -/
theorem c_X11_hole (l : Launch) (D : va_G) (cI cJ cB cZ cO : ClassId) (h : Nat) (r : Nat → Nat) (x1 : Int32) (x2 : Int32) (sz : Nat) : Met l yX11_hole wsX11_hole ({ frames := 2, cells := 0, slots := 0, locals := 42 }) (va_Pc [.ref h, .int x1, .int x2] (ct_P D (ct_T cI cJ cB cZ cO) (w_c_X11_hole cI cJ cB cZ cO h r) sz)) (va_Qi (fun (rz : Int32) (u : Unit) => (rz = (-2) ∧ True)) (fun (u : Unit) t => ct_Q D (va_A (w_c_X11_hole cI cJ cB cZ cO h r) sz) [] t) (va_A (w_c_X11_hole cI cJ cB cZ cO h r) sz)) 0 0 (va_A (w_c_X11_hole cI cJ cB cZ cO h r) sz) := by
  refine Met.ofW (cc := cX11_hole) (maxL := 3) (ret := (some .int)) (by decide) rfl ?_
  intro p e s m args below meth c s₁ B hml hv
  obtain ⟨rfl, hsz, hP, hE, hD0⟩ := hv
  have hx := B.exec
  have hb := B.bytes
  have hr := B.returns
  have hts := atoms_spec (ws := wsX11_hole) B.pre
  have hown : s.vm.findClass RX11 = some m.cls := findClass_of_methodNamed B.named
  have hlocks := B.notSynchronized
  have hK := hE.1
  subst hsz
  have hD := hD0.self (sz := s.heap.size)
  generalize hAe : va_A (w_c_X11_hole cI cJ cB cZ cO h r) s.heap.size = A at hD ⊢
  have hA : ∀ q : Nat, s.heap.size ≤ q → A q := fun q h => by rw [← hAe]; exact Or.inr h
  have hS : va_S A s.heap s.heap [] := va_S.rf
  have hP : va_P D vwCl [oo h r (r 2) (r 3), dn (r 2) (r 24) (r 25) (r 26) (r 27) (r 28) (r 30) (r 31) (r 33) (r 35)] s.heap := hP
  have hD : va_D A [oo h r (r 2) (r 3), dn (r 2) (r 24) (r 25) (r 26) (r 27) (r 28) (r 30) (r 31) (r 33) (r 35)] := hD
  have hl := lv_entry ([.ref h, .int x1, .int x2]) (n := 3) (Nat.le_of_ble_eq_true rfl)
  rw [lg_entry_eq]
  generalize (lg_sl ([.ref h, .int x1, .int x2]) ++ List.replicate (3 - (lg_sl ([.ref h, .int x1, .int x2])).length) Slot.unset).toArray = ls at hl ⊢
  have hl : lv_has ls 3 [(0, .ref h), (1, .int x1), (2, .int x2)] := hl
  obtain ⟨H, hHe⟩ : ∃ H : Heap, H = s.heap := ⟨_, rfl⟩
  rw [← hHe] at hP
  have hS : va_S A s.heap H [] := by rw [hHe]; exact va_S.rf
  refine ct_start hHe ?_
  refine lv_aload_n hx hb dX11_hole_0 rfl (lv_at hl 0 rfl) ?_
  refine lv_iload_n hx hb dX11_hole_1 rfl (lv_at hl 1 rfl) ?_
  refine lv_iload_n hx hb dX11_hole_2 rfl (lv_at hl 2 rfl) ?_
  refine ct_calli (D := D) (wc := (w_c_X11_has cI cJ cB cZ cO h r)) (wr := []) (va_runV (As := [.int x1, .int x2]) (rest := []) ⟨hx, hb, hml, hown, hts⟩ (c_X11_has l D cI cJ cB cZ cO h r x1 x2 H.size) (cwV 2 hts gX11_hole_X11_has rfl rfl rfl (by decide +kernel) ⟨Nat.le_of_ble_eq_true rfl, Nat.le_of_ble_eq_true rfl⟩) (ct_preV (T := ct_T cI cJ cB cZ cO) (ci := 11) (q0 := 0) hE hP hD [0, 1] (by decide) rfl rfl rfl) rfl rfl hl.1 rfl (lv_room (Nat.le_of_ble_eq_true rfl)) dX11_hole_3 ⟨Nat.le_of_ble_eq_true rfl, Nat.le_of_ble_eq_true rfl⟩) hP hD hS hA [0, 1] [] rfl rfl (by decide) (by decide) (fun rz u H locs hw hP hD hS => ?_)
  have hP : va_P D vwCl [] H := hP
  have hD : va_D A [] := hD
  obtain ⟨rfl, hq22⟩ := hw
  refine lv_if_ne (tgt := 12) hx hb dX11_hole_6 (by decide) (fun hc => absurd hc (by decide)) (fun _ => ?_)
  refine lv_bipush (v := (-2)) hx hb dX11_hole_9 (by decide) ?_
  have hP9 := hP.sub (ws' := []) [] rfl
  have hD9 := hD.sub (ws' := []) [] (by decide) rfl
  exact W.iret (v := (-2)) hx hb hr (fun t ht hW => ⟨⟨(-2), (), rfl, ⟨rfl, trivial⟩, by rw [ht]; exact hP9, hD9⟩, hS.F ht⟩) hS.2.2 dX11_hole_11
abbrev w_c_X11_next (cI cJ cB cZ cO : ClassId) (h : Nat) (r : Nat → Nat) : va_W := [oo h r (r 2) (r 3), dn (r 2) (r 24) (r 25) (r 26) (r 27) (r 28) (r 30) (r 31) (r 33) (r 35)]
set_option maxHeartbeats 4000000 in
set_option maxRecDepth 100000 in
/-- next, on a new object -/
theorem c_X11_next (l : Launch) (D : va_G) (cI cJ cB cZ cO : ClassId) (h : Nat) (r : Nat → Nat) (x1 : Int32) (x2 : Int32) (sz : Nat) : Met l yX11_next wsX11_next ({ frames := 2, cells := 0, slots := 0, locals := 42 }) (va_Pc [.ref h, .int x1, .int x2] (ct_P D (ct_T cI cJ cB cZ cO) (w_c_X11_next cI cJ cB cZ cO h r) sz)) (va_Qi (fun (rz : Int32) (u : Unit) => (rz = (-2) ∧ True)) (fun (u : Unit) t => ct_Q D (va_A (w_c_X11_next cI cJ cB cZ cO h r) sz) [] t) (va_A (w_c_X11_next cI cJ cB cZ cO h r) sz)) 0 0 (va_A (w_c_X11_next cI cJ cB cZ cO h r) sz) := by
  refine Met.ofW (cc := cX11_next) (maxL := 5) (ret := (some .int)) (by decide) rfl ?_
  intro p e s m args below meth c s₁ B hml hv
  obtain ⟨rfl, hsz, hP, hE, hD0⟩ := hv
  have hx := B.exec
  have hb := B.bytes
  have hr := B.returns
  have hts := atoms_spec (ws := wsX11_next) B.pre
  have hown : s.vm.findClass RX11 = some m.cls := findClass_of_methodNamed B.named
  have hlocks := B.notSynchronized
  have hK := hE.1
  subst hsz
  have hD := hD0.self (sz := s.heap.size)
  generalize hAe : va_A (w_c_X11_next cI cJ cB cZ cO h r) s.heap.size = A at hD ⊢
  have hA : ∀ q : Nat, s.heap.size ≤ q → A q := fun q h => by rw [← hAe]; exact Or.inr h
  have hS : va_S A s.heap s.heap [] := va_S.rf
  have hP : va_P D vwCl [oo h r (r 2) (r 3), dn (r 2) (r 24) (r 25) (r 26) (r 27) (r 28) (r 30) (r 31) (r 33) (r 35)] s.heap := hP
  have hD : va_D A [oo h r (r 2) (r 3), dn (r 2) (r 24) (r 25) (r 26) (r 27) (r 28) (r 30) (r 31) (r 33) (r 35)] := hD
  have hl := lv_entry ([.ref h, .int x1, .int x2]) (n := 5) (Nat.le_of_ble_eq_true rfl)
  rw [lg_entry_eq]
  generalize (lg_sl ([.ref h, .int x1, .int x2]) ++ List.replicate (5 - (lg_sl ([.ref h, .int x1, .int x2])).length) Slot.unset).toArray = ls at hl ⊢
  have hl : lv_has ls 5 [(0, .ref h), (1, .int x1), (2, .int x2)] := hl
  obtain ⟨H, hHe⟩ : ∃ H : Heap, H = s.heap := ⟨_, rfl⟩
  rw [← hHe] at hP
  have hS : va_S A s.heap H [] := by rw [hHe]; exact va_S.rf
  refine ct_start hHe ?_
  refine lv_aload_n hx hb dX11_next_0 rfl (lv_at hl 0 rfl) ?_
  refine lv_iload_n hx hb dX11_next_1 rfl (lv_at hl 1 rfl) ?_
  refine lv_iload_n hx hb dX11_next_2 rfl (lv_at hl 2 rfl) ?_
  refine ct_calli (D := D) (wc := (w_c_X11_has cI cJ cB cZ cO h r)) (wr := []) (va_runV (As := [.int x1, .int x2]) (rest := []) ⟨hx, hb, hml, hown, hts⟩ (c_X11_has l D cI cJ cB cZ cO h r x1 x2 H.size) (cwV 2 hts gX11_next_X11_has rfl rfl rfl (by decide +kernel) ⟨Nat.le_of_ble_eq_true rfl, Nat.le_of_ble_eq_true rfl⟩) (ct_preV (T := ct_T cI cJ cB cZ cO) (ci := 11) (q0 := 0) hE hP hD [0, 1] (by decide) rfl rfl rfl) rfl rfl hl.1 rfl (lv_room (Nat.le_of_ble_eq_true rfl)) dX11_next_3 ⟨Nat.le_of_ble_eq_true rfl, Nat.le_of_ble_eq_true rfl⟩) hP hD hS hA [0, 1] [] rfl rfl (by decide) (by decide) (fun rz u H locs hw hP hD hS => ?_)
  have hP : va_P D vwCl [] H := hP
  have hD : va_D A [] := hD
  obtain ⟨rfl, hq23⟩ := hw
  refine lv_if_ne (tgt := 12) hx hb dX11_next_6 (by decide) (fun hc => absurd hc (by decide)) (fun _ => ?_)
  refine lv_bipush (v := (-2)) hx hb dX11_next_9 (by decide) ?_
  have hP9 := hP.sub (ws' := []) [] rfl
  have hD9 := hD.sub (ws' := []) [] (by decide) rfl
  exact W.iret (v := (-2)) hx hb hr (fun t ht hW => ⟨⟨(-2), (), rfl, ⟨rfl, trivial⟩, by rw [ht]; exact hP9, hD9⟩, hS.F ht⟩) hS.2.2 dX11_next_11
abbrev w_c_X11_run (cI cJ cB cZ cO : ClassId) (h : Nat) (r : Nat → Nat) : va_W := [oo h r (r 2) (r 3), dn (r 2) (r 24) (r 25) (r 26) (r 27) (r 28) (r 30) (r 31) (r 33) (r 35)]
set_option maxHeartbeats 4000000 in
set_option maxRecDepth 100000 in
/-- run, on a new object -/
theorem c_X11_run (l : Launch) (D : va_G) (cI cJ cB cZ cO : ClassId) (h : Nat) (r : Nat → Nat) (x1 : Int32) (x2 : Int32) (sz : Nat) : Met l yX11_run wsX11_run ({ frames := 2, cells := 0, slots := 0, locals := 42 }) (va_Pc [.ref h, .int x1, .int x2] (ct_P D (ct_T cI cJ cB cZ cO) (w_c_X11_run cI cJ cB cZ cO h r) sz)) (va_Qi (fun (rz : Int32) (u : Unit) => (rz = (-2) ∧ True)) (fun (u : Unit) t => ct_Q D (va_A (w_c_X11_run cI cJ cB cZ cO h r) sz) [] t) (va_A (w_c_X11_run cI cJ cB cZ cO h r) sz)) 0 0 (va_A (w_c_X11_run cI cJ cB cZ cO h r) sz) := by
  refine Met.ofW (cc := cX11_run) (maxL := 3) (ret := (some .int)) (by decide) rfl ?_
  intro p e s m args below meth c s₁ B hml hv
  obtain ⟨rfl, hsz, hP, hE, hD0⟩ := hv
  have hx := B.exec
  have hb := B.bytes
  have hr := B.returns
  have hts := atoms_spec (ws := wsX11_run) B.pre
  have hown : s.vm.findClass RX11 = some m.cls := findClass_of_methodNamed B.named
  have hlocks := B.notSynchronized
  have hK := hE.1
  subst hsz
  have hD := hD0.self (sz := s.heap.size)
  generalize hAe : va_A (w_c_X11_run cI cJ cB cZ cO h r) s.heap.size = A at hD ⊢
  have hA : ∀ q : Nat, s.heap.size ≤ q → A q := fun q h => by rw [← hAe]; exact Or.inr h
  have hS : va_S A s.heap s.heap [] := va_S.rf
  have hP : va_P D vwCl [oo h r (r 2) (r 3), dn (r 2) (r 24) (r 25) (r 26) (r 27) (r 28) (r 30) (r 31) (r 33) (r 35)] s.heap := hP
  have hD : va_D A [oo h r (r 2) (r 3), dn (r 2) (r 24) (r 25) (r 26) (r 27) (r 28) (r 30) (r 31) (r 33) (r 35)] := hD
  have hl := lv_entry ([.ref h, .int x1, .int x2]) (n := 3) (Nat.le_of_ble_eq_true rfl)
  rw [lg_entry_eq]
  generalize (lg_sl ([.ref h, .int x1, .int x2]) ++ List.replicate (3 - (lg_sl ([.ref h, .int x1, .int x2])).length) Slot.unset).toArray = ls at hl ⊢
  have hl : lv_has ls 3 [(0, .ref h), (1, .int x1), (2, .int x2)] := hl
  obtain ⟨H, hHe⟩ : ∃ H : Heap, H = s.heap := ⟨_, rfl⟩
  rw [← hHe] at hP
  have hS : va_S A s.heap H [] := by rw [hHe]; exact va_S.rf
  refine ct_start hHe ?_
  refine lv_aload_n hx hb dX11_run_0 rfl (lv_at hl 0 rfl) ?_
  refine lv_iload_n hx hb dX11_run_1 rfl (lv_at hl 1 rfl) ?_
  refine lv_iload_n hx hb dX11_run_2 rfl (lv_at hl 2 rfl) ?_
  refine ct_calli (D := D) (wc := (w_c_X11_hasSpan cI cJ cB cZ cO h r)) (wr := []) (va_runV (As := [.int x1, .int x2]) (rest := []) ⟨hx, hb, hml, hown, hts⟩ (c_X11_hasSpan l D cI cJ cB cZ cO h r x1 x2 H.size) (cwV 2 hts gX11_run_X11_hasSpan rfl rfl rfl (by decide +kernel) ⟨Nat.le_of_ble_eq_true rfl, Nat.le_of_ble_eq_true rfl⟩) (ct_preV (T := ct_T cI cJ cB cZ cO) (ci := 11) (q0 := 0) hE hP hD [0, 1] (by decide) rfl rfl rfl) rfl rfl hl.1 rfl (lv_room (Nat.le_of_ble_eq_true rfl)) dX11_run_3 ⟨Nat.le_of_ble_eq_true rfl, Nat.le_of_ble_eq_true rfl⟩) hP hD hS hA [0, 1] [] rfl rfl (by decide) (by decide) (fun rz u H locs hw hP hD hS => ?_)
  have hP : va_P D vwCl [] H := hP
  have hD : va_D A [] := hD
  obtain ⟨rfl, hq24⟩ := hw
  refine lv_if_ne (tgt := 12) hx hb dX11_run_6 (by decide) (fun hc => absurd hc (by decide)) (fun _ => ?_)
  refine lv_bipush (v := (-2)) hx hb dX11_run_9 (by decide) ?_
  have hP9 := hP.sub (ws' := []) [] rfl
  have hD9 := hD.sub (ws' := []) [] (by decide) rfl
  exact W.iret (v := (-2)) hx hb hr (fun t ht hW => ⟨⟨(-2), (), rfl, ⟨rfl, trivial⟩, by rw [ht]; exact hP9, hD9⟩, hS.F ht⟩) hS.2.2 dX11_run_11
abbrev w_c_X11_begins (cI cJ cB cZ cO : ClassId) (h : Nat) (r : Nat → Nat) : va_W := [oo h r (r 2) (r 3), dn (r 2) (r 24) (r 25) (r 26) (r 27) (r 28) (r 30) (r 31) (r 33) (r 35)]
set_option maxHeartbeats 4000000 in
set_option maxRecDepth 100000 in
/-- begins, on a new object -/
theorem c_X11_begins (l : Launch) (D : va_G) (cI cJ cB cZ cO : ClassId) (h : Nat) (r : Nat → Nat) (x1 : Int32) (x2 : Int32) (sz : Nat) : Met l yX11_begins wsX11_begins ({ frames := 2, cells := 0, slots := 0, locals := 42 }) (va_Pc [.ref h, .int x1, .int x2] (ct_P D (ct_T cI cJ cB cZ cO) (w_c_X11_begins cI cJ cB cZ cO h r) sz)) (va_Qi (fun (rz : Int32) (u : Unit) => (rz = (-2) ∧ True)) (fun (u : Unit) t => ct_Q D (va_A (w_c_X11_begins cI cJ cB cZ cO h r) sz) [] t) (va_A (w_c_X11_begins cI cJ cB cZ cO h r) sz)) 0 0 (va_A (w_c_X11_begins cI cJ cB cZ cO h r) sz) := by
  refine Met.ofW (cc := cX11_begins) (maxL := 3) (ret := (some .int)) (by decide) rfl ?_
  intro p e s m args below meth c s₁ B hml hv
  obtain ⟨rfl, hsz, hP, hE, hD0⟩ := hv
  have hx := B.exec
  have hb := B.bytes
  have hr := B.returns
  have hts := atoms_spec (ws := wsX11_begins) B.pre
  have hown : s.vm.findClass RX11 = some m.cls := findClass_of_methodNamed B.named
  have hlocks := B.notSynchronized
  have hK := hE.1
  subst hsz
  have hD := hD0.self (sz := s.heap.size)
  generalize hAe : va_A (w_c_X11_begins cI cJ cB cZ cO h r) s.heap.size = A at hD ⊢
  have hA : ∀ q : Nat, s.heap.size ≤ q → A q := fun q h => by rw [← hAe]; exact Or.inr h
  have hS : va_S A s.heap s.heap [] := va_S.rf
  have hP : va_P D vwCl [oo h r (r 2) (r 3), dn (r 2) (r 24) (r 25) (r 26) (r 27) (r 28) (r 30) (r 31) (r 33) (r 35)] s.heap := hP
  have hD : va_D A [oo h r (r 2) (r 3), dn (r 2) (r 24) (r 25) (r 26) (r 27) (r 28) (r 30) (r 31) (r 33) (r 35)] := hD
  have hl := lv_entry ([.ref h, .int x1, .int x2]) (n := 3) (Nat.le_of_ble_eq_true rfl)
  rw [lg_entry_eq]
  generalize (lg_sl ([.ref h, .int x1, .int x2]) ++ List.replicate (3 - (lg_sl ([.ref h, .int x1, .int x2])).length) Slot.unset).toArray = ls at hl ⊢
  have hl : lv_has ls 3 [(0, .ref h), (1, .int x1), (2, .int x2)] := hl
  obtain ⟨H, hHe⟩ : ∃ H : Heap, H = s.heap := ⟨_, rfl⟩
  rw [← hHe] at hP
  have hS : va_S A s.heap H [] := by rw [hHe]; exact va_S.rf
  refine ct_start hHe ?_
  refine lv_aload_n hx hb dX11_begins_0 rfl (lv_at hl 0 rfl) ?_
  refine lv_iload_n hx hb dX11_begins_1 rfl (lv_at hl 1 rfl) ?_
  refine lv_iload_n hx hb dX11_begins_2 rfl (lv_at hl 2 rfl) ?_
  refine ct_calli (D := D) (wc := (w_c_X11_hasSpan cI cJ cB cZ cO h r)) (wr := []) (va_runV (As := [.int x1, .int x2]) (rest := []) ⟨hx, hb, hml, hown, hts⟩ (c_X11_hasSpan l D cI cJ cB cZ cO h r x1 x2 H.size) (cwV 2 hts gX11_begins_X11_hasSpan rfl rfl rfl (by decide +kernel) ⟨Nat.le_of_ble_eq_true rfl, Nat.le_of_ble_eq_true rfl⟩) (ct_preV (T := ct_T cI cJ cB cZ cO) (ci := 11) (q0 := 0) hE hP hD [0, 1] (by decide) rfl rfl rfl) rfl rfl hl.1 rfl (lv_room (Nat.le_of_ble_eq_true rfl)) dX11_begins_3 ⟨Nat.le_of_ble_eq_true rfl, Nat.le_of_ble_eq_true rfl⟩) hP hD hS hA [0, 1] [] rfl rfl (by decide) (by decide) (fun rz u H locs hw hP hD hS => ?_)
  have hP : va_P D vwCl [] H := hP
  have hD : va_D A [] := hD
  obtain ⟨rfl, hq25⟩ := hw
  refine lv_if_ne (tgt := 12) hx hb dX11_begins_6 (by decide) (fun hc => absurd hc (by decide)) (fun _ => ?_)
  refine lv_bipush (v := (-2)) hx hb dX11_begins_9 (by decide) ?_
  have hP9 := hP.sub (ws' := []) [] rfl
  have hD9 := hD.sub (ws' := []) [] (by decide) rfl
  exact W.iret (v := (-2)) hx hb hr (fun t ht hW => ⟨⟨(-2), (), rfl, ⟨rfl, trivial⟩, by rw [ht]; exact hP9, hD9⟩, hS.F ht⟩) hS.2.2 dX11_begins_11
abbrev w_c_X11_causes (cI cJ cB cZ cO : ClassId) (h : Nat) (r : Nat → Nat) : va_W := [oo h r (r 2) (r 3), dn (r 2) (r 24) (r 25) (r 26) (r 27) (r 28) (r 30) (r 31) (r 33) (r 35)]
set_option maxHeartbeats 4000000 in
set_option maxRecDepth 100000 in
/-- causes, on a new object -/
theorem c_X11_causes (l : Launch) (D : va_G) (cI cJ cB cZ cO : ClassId) (h : Nat) (r : Nat → Nat) (x1 : Int32) (x2 : Int32) (sz : Nat) : Met l yX11_causes wsX11_causes ({ frames := 2, cells := 0, slots := 0, locals := 42 }) (va_Pc [.ref h, .int x1, .int x2] (ct_P D (ct_T cI cJ cB cZ cO) (w_c_X11_causes cI cJ cB cZ cO h r) sz)) (va_Qi (fun (rz : Int32) (u : Unit) => (rz = (-2) ∧ True)) (fun (u : Unit) t => ct_Q D (va_A (w_c_X11_causes cI cJ cB cZ cO h r) sz) [] t) (va_A (w_c_X11_causes cI cJ cB cZ cO h r) sz)) 0 0 (va_A (w_c_X11_causes cI cJ cB cZ cO h r) sz) := by
  refine Met.ofW (cc := cX11_causes) (maxL := 5) (ret := (some .int)) (by decide) rfl ?_
  intro p e s m args below meth c s₁ B hml hv
  obtain ⟨rfl, hsz, hP, hE, hD0⟩ := hv
  have hx := B.exec
  have hb := B.bytes
  have hr := B.returns
  have hts := atoms_spec (ws := wsX11_causes) B.pre
  have hown : s.vm.findClass RX11 = some m.cls := findClass_of_methodNamed B.named
  have hlocks := B.notSynchronized
  have hK := hE.1
  subst hsz
  have hD := hD0.self (sz := s.heap.size)
  generalize hAe : va_A (w_c_X11_causes cI cJ cB cZ cO h r) s.heap.size = A at hD ⊢
  have hA : ∀ q : Nat, s.heap.size ≤ q → A q := fun q h => by rw [← hAe]; exact Or.inr h
  have hS : va_S A s.heap s.heap [] := va_S.rf
  have hP : va_P D vwCl [oo h r (r 2) (r 3), dn (r 2) (r 24) (r 25) (r 26) (r 27) (r 28) (r 30) (r 31) (r 33) (r 35)] s.heap := hP
  have hD : va_D A [oo h r (r 2) (r 3), dn (r 2) (r 24) (r 25) (r 26) (r 27) (r 28) (r 30) (r 31) (r 33) (r 35)] := hD
  have hl := lv_entry ([.ref h, .int x1, .int x2]) (n := 5) (Nat.le_of_ble_eq_true rfl)
  rw [lg_entry_eq]
  generalize (lg_sl ([.ref h, .int x1, .int x2]) ++ List.replicate (5 - (lg_sl ([.ref h, .int x1, .int x2])).length) Slot.unset).toArray = ls at hl ⊢
  have hl : lv_has ls 5 [(0, .ref h), (1, .int x1), (2, .int x2)] := hl
  obtain ⟨H, hHe⟩ : ∃ H : Heap, H = s.heap := ⟨_, rfl⟩
  rw [← hHe] at hP
  have hS : va_S A s.heap H [] := by rw [hHe]; exact va_S.rf
  refine ct_start hHe ?_
  refine lv_aload_n hx hb dX11_causes_0 rfl (lv_at hl 0 rfl) ?_
  refine lv_iload_n hx hb dX11_causes_1 rfl (lv_at hl 1 rfl) ?_
  refine lv_iload_n hx hb dX11_causes_2 rfl (lv_at hl 2 rfl) ?_
  refine ct_calli (D := D) (wc := (w_c_X11_has cI cJ cB cZ cO h r)) (wr := []) (va_runV (As := [.int x1, .int x2]) (rest := []) ⟨hx, hb, hml, hown, hts⟩ (c_X11_has l D cI cJ cB cZ cO h r x1 x2 H.size) (cwV 2 hts gX11_causes_X11_has rfl rfl rfl (by decide +kernel) ⟨Nat.le_of_ble_eq_true rfl, Nat.le_of_ble_eq_true rfl⟩) (ct_preV (T := ct_T cI cJ cB cZ cO) (ci := 11) (q0 := 0) hE hP hD [0, 1] (by decide) rfl rfl rfl) rfl rfl hl.1 rfl (lv_room (Nat.le_of_ble_eq_true rfl)) dX11_causes_3 ⟨Nat.le_of_ble_eq_true rfl, Nat.le_of_ble_eq_true rfl⟩) hP hD hS hA [0, 1] [] rfl rfl (by decide) (by decide) (fun rz u H locs hw hP hD hS => ?_)
  have hP : va_P D vwCl [] H := hP
  have hD : va_D A [] := hD
  obtain ⟨rfl, hq26⟩ := hw
  refine lv_if_ne (tgt := 12) hx hb dX11_causes_6 (by decide) (fun hc => absurd hc (by decide)) (fun _ => ?_)
  refine lv_bipush (v := (-2)) hx hb dX11_causes_9 (by decide) ?_
  have hP9 := hP.sub (ws' := []) [] rfl
  have hD9 := hD.sub (ws' := []) [] (by decide) rfl
  exact W.iret (v := (-2)) hx hb hr (fun t ht hW => ⟨⟨(-2), (), rfl, ⟨rfl, trivial⟩, by rw [ht]; exact hP9, hD9⟩, hS.F ht⟩) hS.2.2 dX11_causes_11
abbrev w_c_X11_period (cI cJ cB cZ cO : ClassId) (h : Nat) (r : Nat → Nat) : va_W := [oo h r (r 2) (r 3), dn (r 2) (r 24) (r 25) (r 26) (r 27) (r 28) (r 30) (r 31) (r 33) (r 35)]
set_option maxHeartbeats 4000000 in
set_option maxRecDepth 100000 in
/-- period, on a new object -/
theorem c_X11_period (l : Launch) (D : va_G) (cI cJ cB cZ cO : ClassId) (h : Nat) (r : Nat → Nat) (sz : Nat) : Met l yX11_period wsX11_period ({ frames := 1, cells := 0, slots := 0, locals := 20 }) (va_Pc [.ref h] (ct_P D (ct_T cI cJ cB cZ cO) (w_c_X11_period cI cJ cB cZ cO h r) sz)) (va_Qi (fun (rz : Int32) (u : Unit) => (rz = (-2) ∧ True)) (fun (u : Unit) t => ct_Q D (va_A (w_c_X11_period cI cJ cB cZ cO h r) sz) [] t) (va_A (w_c_X11_period cI cJ cB cZ cO h r) sz)) 0 0 (va_A (w_c_X11_period cI cJ cB cZ cO h r) sz) := by
  refine Met.ofW (cc := cX11_period) (maxL := 1) (ret := (some .int)) (by decide) rfl ?_
  intro p e s m args below meth c s₁ B hml hv
  obtain ⟨rfl, hsz, hP, hE, hD0⟩ := hv
  have hx := B.exec
  have hb := B.bytes
  have hr := B.returns
  have hts := atoms_spec (ws := wsX11_period) B.pre
  have hown : s.vm.findClass RX11 = some m.cls := findClass_of_methodNamed B.named
  have hlocks := B.notSynchronized
  have hK := hE.1
  have hi11 : ∀ w ∈ u_ws RX11 TX11 16, w ∈ wsX11_period := fun w h => List.mem_cons_of_mem _ (List.mem_append_left _ (List.mem_append_right _ h))
  subst hsz
  have hD := hD0.self (sz := s.heap.size)
  generalize hAe : va_A (w_c_X11_period cI cJ cB cZ cO h r) s.heap.size = A at hD ⊢
  have hA : ∀ q : Nat, s.heap.size ≤ q → A q := fun q h => by rw [← hAe]; exact Or.inr h
  have hS : va_S A s.heap s.heap [] := va_S.rf
  have hP : va_P D vwCl [oo h r (r 2) (r 3), dn (r 2) (r 24) (r 25) (r 26) (r 27) (r 28) (r 30) (r 31) (r 33) (r 35)] s.heap := hP
  have hD : va_D A [oo h r (r 2) (r 3), dn (r 2) (r 24) (r 25) (r 26) (r 27) (r 28) (r 30) (r 31) (r 33) (r 35)] := hD
  have hl := lv_entry ([.ref h]) (n := 1) (Nat.le_of_ble_eq_true rfl)
  rw [lg_entry_eq]
  generalize (lg_sl ([.ref h]) ++ List.replicate (1 - (lg_sl ([.ref h])).length) Slot.unset).toArray = ls at hl ⊢
  have hl : lv_has ls 1 [(0, .ref h)] := hl
  obtain ⟨H, hHe⟩ : ∃ H : Heap, H = s.heap := ⟨_, rfl⟩
  rw [← hHe] at hP
  have hS : va_S A s.heap H [] := by rw [hHe]; exact va_S.rf
  refine ct_start hHe ?_
  refine lv_aload_n hx hb dX11_period_0 rfl (lv_at hl 0 rfl) ?_
  refine va_get (D := D) (ci := 11) (v := .ref (r 2)) (C := RX11) (T := TX11) (N := 16) hx hb hts hi11 hown hK hP 0 rfl rfl 2 (by decide) (hts (.fieldLink RX11 24 "OverHill" "now" "LOverHill$Dance;") (by decide +kernel)) (fun _ h9 => h9) rfl dX11_period_1 ?_
  refine ct_calli (D := D) (wc := (w_c_X0_stands cI cJ cB cZ cO (r 2) (r 24) (r 25) (r 26) (r 27) (r 28) (r 30) (r 31) (r 33) (r 35))) (wr := [oo h r (r 2) (r 3)]) (va_runV (As := []) (rest := []) ⟨hx, hb, hml, hown, hts⟩ (c_X0_stands l D cI cJ cB cZ cO (r 2) (r 24) (r 25) (r 26) (r 27) (r 28) (r 30) (r 31) (r 33) (r 35) H.size) (cwV 0 hts gX11_period_X0_stands rfl rfl rfl (by decide +kernel) ⟨Nat.le_of_ble_eq_true rfl, Nat.le_of_ble_eq_true rfl⟩) (ct_preV (T := ct_T cI cJ cB cZ cO) (ci := 0) (q0 := 1) hE hP hD [1] (by decide) rfl rfl rfl) rfl rfl hl.1 rfl (lv_room (Nat.le_of_ble_eq_true rfl)) dX11_period_4 ⟨Nat.le_of_ble_eq_true rfl, Nat.le_of_ble_eq_true rfl⟩) hP hD hS hA [1] [0] rfl rfl (by decide) (by decide) (fun rz u H locs hw hP hD hS => ?_)
  have hP : va_P D vwCl [oo h r (r 2) (r 3), dn (r 2) (r 24) (r 25) (r 26) (r 27) (r 28) (r 30) (r 31) (r 33) (r 35)] H := hP
  have hD : va_D A [oo h r (r 2) (r 3), dn (r 2) (r 24) (r 25) (r 26) (r 27) (r 28) (r 30) (r 31) (r 33) (r 35)] := hD
  obtain ⟨rfl, hq27⟩ := hw
  refine lv_if_ne (tgt := 13) hx hb dX11_period_7 (by decide) (fun hc => absurd hc (by decide)) (fun _ => ?_)
  refine lv_bipush (v := (-2)) hx hb dX11_period_10 (by decide) ?_
  have hP9 := hP.sub (ws' := []) [] rfl
  have hD9 := hD.sub (ws' := []) [] (by decide) rfl
  exact W.iret (v := (-2)) hx hb hr (fun t ht hW => ⟨⟨(-2), (), rfl, ⟨rfl, trivial⟩, by rw [ht]; exact hP9, hD9⟩, hS.F ht⟩) hS.2.2 dX11_period_12
abbrev w_c_X11_meets (cI cJ cB cZ cO : ClassId) (h : Nat) (r : Nat → Nat) : va_W := [oo h r (r 2) (r 3), dn (r 2) (r 24) (r 25) (r 26) (r 27) (r 28) (r 30) (r 31) (r 33) (r 35)]
set_option maxHeartbeats 4000000 in
set_option maxRecDepth 100000 in
/-- meets, on a new object -/
theorem c_X11_meets (l : Launch) (D : va_G) (cI cJ cB cZ cO : ClassId) (h : Nat) (r : Nat → Nat) (x1 : Int32) (x2 : Int32) (x3 : Int32) (sz : Nat) : Met l yX11_meets wsX11_meets ({ frames := 1, cells := 0, slots := 0, locals := 20 }) (va_Pc [.ref h, .int x1, .int x2, .int x3] (ct_P D (ct_T cI cJ cB cZ cO) (w_c_X11_meets cI cJ cB cZ cO h r) sz)) (va_Qi (fun (rz : Int32) (u : Unit) => (rz = (-2) ∧ True)) (fun (u : Unit) t => ct_Q D (va_A (w_c_X11_meets cI cJ cB cZ cO h r) sz) [] t) (va_A (w_c_X11_meets cI cJ cB cZ cO h r) sz)) 0 0 (va_A (w_c_X11_meets cI cJ cB cZ cO h r) sz) := by
  refine Met.ofW (cc := cX11_meets) (maxL := 4) (ret := (some .int)) (by decide) rfl ?_
  intro p e s m args below meth c s₁ B hml hv
  obtain ⟨rfl, hsz, hP, hE, hD0⟩ := hv
  have hx := B.exec
  have hb := B.bytes
  have hr := B.returns
  have hts := atoms_spec (ws := wsX11_meets) B.pre
  have hown : s.vm.findClass RX11 = some m.cls := findClass_of_methodNamed B.named
  have hlocks := B.notSynchronized
  have hK := hE.1
  have hi11 : ∀ w ∈ u_ws RX11 TX11 16, w ∈ wsX11_meets := fun w h => List.mem_cons_of_mem _ (List.mem_append_left _ (List.mem_append_right _ h))
  subst hsz
  have hD := hD0.self (sz := s.heap.size)
  generalize hAe : va_A (w_c_X11_meets cI cJ cB cZ cO h r) s.heap.size = A at hD ⊢
  have hA : ∀ q : Nat, s.heap.size ≤ q → A q := fun q h => by rw [← hAe]; exact Or.inr h
  have hS : va_S A s.heap s.heap [] := va_S.rf
  have hP : va_P D vwCl [oo h r (r 2) (r 3), dn (r 2) (r 24) (r 25) (r 26) (r 27) (r 28) (r 30) (r 31) (r 33) (r 35)] s.heap := hP
  have hD : va_D A [oo h r (r 2) (r 3), dn (r 2) (r 24) (r 25) (r 26) (r 27) (r 28) (r 30) (r 31) (r 33) (r 35)] := hD
  have hl := lv_entry ([.ref h, .int x1, .int x2, .int x3]) (n := 4) (Nat.le_of_ble_eq_true rfl)
  rw [lg_entry_eq]
  generalize (lg_sl ([.ref h, .int x1, .int x2, .int x3]) ++ List.replicate (4 - (lg_sl ([.ref h, .int x1, .int x2, .int x3])).length) Slot.unset).toArray = ls at hl ⊢
  have hl : lv_has ls 4 [(0, .ref h), (1, .int x1), (2, .int x2), (3, .int x3)] := hl
  obtain ⟨H, hHe⟩ : ∃ H : Heap, H = s.heap := ⟨_, rfl⟩
  rw [← hHe] at hP
  have hS : va_S A s.heap H [] := by rw [hHe]; exact va_S.rf
  refine ct_start hHe ?_
  refine lv_aload_n hx hb dX11_meets_0 rfl (lv_at hl 0 rfl) ?_
  refine va_get (D := D) (ci := 11) (v := .ref (r 2)) (C := RX11) (T := TX11) (N := 16) hx hb hts hi11 hown hK hP 0 rfl rfl 2 (by decide) (hts (.fieldLink RX11 24 "OverHill" "now" "LOverHill$Dance;") (by decide +kernel)) (fun _ h9 => h9) rfl dX11_meets_1 ?_
  refine ct_calli (D := D) (wc := (w_c_X0_stands cI cJ cB cZ cO (r 2) (r 24) (r 25) (r 26) (r 27) (r 28) (r 30) (r 31) (r 33) (r 35))) (wr := [oo h r (r 2) (r 3)]) (va_runV (As := []) (rest := []) ⟨hx, hb, hml, hown, hts⟩ (c_X0_stands l D cI cJ cB cZ cO (r 2) (r 24) (r 25) (r 26) (r 27) (r 28) (r 30) (r 31) (r 33) (r 35) H.size) (cwV 0 hts gX11_meets_X0_stands rfl rfl rfl (by decide +kernel) ⟨Nat.le_of_ble_eq_true rfl, Nat.le_of_ble_eq_true rfl⟩) (ct_preV (T := ct_T cI cJ cB cZ cO) (ci := 0) (q0 := 1) hE hP hD [1] (by decide) rfl rfl rfl) rfl rfl hl.1 rfl (lv_room (Nat.le_of_ble_eq_true rfl)) dX11_meets_4 ⟨Nat.le_of_ble_eq_true rfl, Nat.le_of_ble_eq_true rfl⟩) hP hD hS hA [1] [0] rfl rfl (by decide) (by decide) (fun rz u H locs hw hP hD hS => ?_)
  have hP : va_P D vwCl [oo h r (r 2) (r 3), dn (r 2) (r 24) (r 25) (r 26) (r 27) (r 28) (r 30) (r 31) (r 33) (r 35)] H := hP
  have hD : va_D A [oo h r (r 2) (r 3), dn (r 2) (r 24) (r 25) (r 26) (r 27) (r 28) (r 30) (r 31) (r 33) (r 35)] := hD
  obtain ⟨rfl, hq28⟩ := hw
  refine lv_if_eq (tgt := 41) hx hb dX11_meets_7 (by decide) (fun _ => ?_) (fun hc => absurd hc (by decide))
  refine lv_bipush (v := (-2)) hx hb dX11_meets_41 (by decide) ?_
  have hP9 := hP.sub (ws' := []) [] rfl
  have hD9 := hD.sub (ws' := []) [] (by decide) rfl
  exact W.iret (v := (-2)) hx hb hr (fun t ht hW => ⟨⟨(-2), (), rfl, ⟨rfl, trivial⟩, by rw [ht]; exact hP9, hD9⟩, hS.F ht⟩) hS.2.2 dX11_meets_43
abbrev w_c_X11_shifted (cI cJ cB cZ cO : ClassId) (h : Nat) (r : Nat → Nat) : va_W := [oo h r (r 2) (r 3), dn (r 2) (r 24) (r 25) (r 26) (r 27) (r 28) (r 30) (r 31) (r 33) (r 35)]
set_option maxHeartbeats 4000000 in
set_option maxRecDepth 100000 in
/-- shifted, on a new object -/
theorem c_X11_shifted (l : Launch) (D : va_G) (cI cJ cB cZ cO : ClassId) (h : Nat) (r : Nat → Nat) (x1 : Int32) (sz : Nat) : Met l yX11_shifted wsX11_shifted ({ frames := 2, cells := 0, slots := 0, locals := 40 }) (va_Pc [.ref h, .int x1] (ct_P D (ct_T cI cJ cB cZ cO) (w_c_X11_shifted cI cJ cB cZ cO h r) sz)) (va_Qi (fun (rz : Int32) (u : Unit) => (rz = (-2) ∧ True)) (fun (u : Unit) t => ct_Q D (va_A (w_c_X11_shifted cI cJ cB cZ cO h r) sz) [] t) (va_A (w_c_X11_shifted cI cJ cB cZ cO h r) sz)) 0 0 (va_A (w_c_X11_shifted cI cJ cB cZ cO h r) sz) := by
  refine Met.ofW (cc := cX11_shifted) (maxL := 2) (ret := (some .int)) (by decide) rfl ?_
  intro p e s m args below meth c s₁ B hml hv
  obtain ⟨rfl, hsz, hP, hE, hD0⟩ := hv
  have hx := B.exec
  have hb := B.bytes
  have hr := B.returns
  have hts := atoms_spec (ws := wsX11_shifted) B.pre
  have hown : s.vm.findClass RX11 = some m.cls := findClass_of_methodNamed B.named
  have hlocks := B.notSynchronized
  have hK := hE.1
  subst hsz
  have hD := hD0.self (sz := s.heap.size)
  generalize hAe : va_A (w_c_X11_shifted cI cJ cB cZ cO h r) s.heap.size = A at hD ⊢
  have hA : ∀ q : Nat, s.heap.size ≤ q → A q := fun q h => by rw [← hAe]; exact Or.inr h
  have hS : va_S A s.heap s.heap [] := va_S.rf
  have hP : va_P D vwCl [oo h r (r 2) (r 3), dn (r 2) (r 24) (r 25) (r 26) (r 27) (r 28) (r 30) (r 31) (r 33) (r 35)] s.heap := hP
  have hD : va_D A [oo h r (r 2) (r 3), dn (r 2) (r 24) (r 25) (r 26) (r 27) (r 28) (r 30) (r 31) (r 33) (r 35)] := hD
  have hl := lv_entry ([.ref h, .int x1]) (n := 2) (Nat.le_of_ble_eq_true rfl)
  rw [lg_entry_eq]
  generalize (lg_sl ([.ref h, .int x1]) ++ List.replicate (2 - (lg_sl ([.ref h, .int x1])).length) Slot.unset).toArray = ls at hl ⊢
  have hl : lv_has ls 2 [(0, .ref h), (1, .int x1)] := hl
  obtain ⟨H, hHe⟩ : ∃ H : Heap, H = s.heap := ⟨_, rfl⟩
  rw [← hHe] at hP
  have hS : va_S A s.heap H [] := by rw [hHe]; exact va_S.rf
  refine ct_start hHe ?_
  refine lv_aload_n hx hb dX11_shifted_0 rfl (lv_at hl 0 rfl) ?_
  refine ct_calli (D := D) (wc := (w_c_X11_hasRounds cI cJ cB cZ cO h r)) (wr := []) (va_runV (As := []) (rest := []) ⟨hx, hb, hml, hown, hts⟩ (c_X11_hasRounds l D cI cJ cB cZ cO h r H.size) (cwV 0 hts gX11_shifted_X11_hasRounds rfl rfl rfl (by decide +kernel) ⟨Nat.le_of_ble_eq_true rfl, Nat.le_of_ble_eq_true rfl⟩) (ct_preV (T := ct_T cI cJ cB cZ cO) (ci := 11) (q0 := 0) hE hP hD [0, 1] (by decide) rfl rfl rfl) rfl rfl hl.1 rfl (lv_room (Nat.le_of_ble_eq_true rfl)) dX11_shifted_1 ⟨Nat.le_of_ble_eq_true rfl, Nat.le_of_ble_eq_true rfl⟩) hP hD hS hA [0, 1] [] rfl rfl (by decide) (by decide) (fun rz u H locs hw hP hD hS => ?_)
  have hP : va_P D vwCl [] H := hP
  have hD : va_D A [] := hD
  obtain ⟨rfl, hq29⟩ := hw
  refine lv_if_eq (tgt := 23) hx hb dX11_shifted_4 (by decide) (fun _ => ?_) (fun hc => absurd hc (by decide))
  refine lv_bipush (v := (-2)) hx hb dX11_shifted_23 (by decide) ?_
  have hP9 := hP.sub (ws' := []) [] rfl
  have hD9 := hD.sub (ws' := []) [] (by decide) rfl
  exact W.iret (v := (-2)) hx hb hr (fun t ht hW => ⟨⟨(-2), (), rfl, ⟨rfl, trivial⟩, by rw [ht]; exact hP9, hD9⟩, hS.F ht⟩) hS.2.2 dX11_shifted_25
abbrev w_c_X11_shift (cI cJ cB cZ cO : ClassId) (h : Nat) (r : Nat → Nat) : va_W := [oo h r (r 2) (r 3), dn (r 2) (r 24) (r 25) (r 26) (r 27) (r 28) (r 30) (r 31) (r 33) (r 35)]
set_option maxHeartbeats 4000000 in
set_option maxRecDepth 100000 in
/-- shift, on a new object -/
theorem c_X11_shift (l : Launch) (D : va_G) (cI cJ cB cZ cO : ClassId) (h : Nat) (r : Nat → Nat) (sz : Nat) : Met l yX11_shift wsX11_shift ({ frames := 2, cells := 0, slots := 0, locals := 40 }) (va_Pc [.ref h] (ct_P D (ct_T cI cJ cB cZ cO) (w_c_X11_shift cI cJ cB cZ cO h r) sz)) (va_Qi (fun (rz : Int32) (u : Unit) => (rz = (-2) ∧ True)) (fun (u : Unit) t => ct_Q D (va_A (w_c_X11_shift cI cJ cB cZ cO h r) sz) [] t) (va_A (w_c_X11_shift cI cJ cB cZ cO h r) sz)) 0 0 (va_A (w_c_X11_shift cI cJ cB cZ cO h r) sz) := by
  refine Met.ofW (cc := cX11_shift) (maxL := 2) (ret := (some .int)) (by decide) rfl ?_
  intro p e s m args below meth c s₁ B hml hv
  obtain ⟨rfl, hsz, hP, hE, hD0⟩ := hv
  have hx := B.exec
  have hb := B.bytes
  have hr := B.returns
  have hts := atoms_spec (ws := wsX11_shift) B.pre
  have hown : s.vm.findClass RX11 = some m.cls := findClass_of_methodNamed B.named
  have hlocks := B.notSynchronized
  have hK := hE.1
  subst hsz
  have hD := hD0.self (sz := s.heap.size)
  generalize hAe : va_A (w_c_X11_shift cI cJ cB cZ cO h r) s.heap.size = A at hD ⊢
  have hA : ∀ q : Nat, s.heap.size ≤ q → A q := fun q h => by rw [← hAe]; exact Or.inr h
  have hS : va_S A s.heap s.heap [] := va_S.rf
  have hP : va_P D vwCl [oo h r (r 2) (r 3), dn (r 2) (r 24) (r 25) (r 26) (r 27) (r 28) (r 30) (r 31) (r 33) (r 35)] s.heap := hP
  have hD : va_D A [oo h r (r 2) (r 3), dn (r 2) (r 24) (r 25) (r 26) (r 27) (r 28) (r 30) (r 31) (r 33) (r 35)] := hD
  have hl := lv_entry ([.ref h]) (n := 2) (Nat.le_of_ble_eq_true rfl)
  rw [lg_entry_eq]
  generalize (lg_sl ([.ref h]) ++ List.replicate (2 - (lg_sl ([.ref h])).length) Slot.unset).toArray = ls at hl ⊢
  have hl : lv_has ls 2 [(0, .ref h)] := hl
  obtain ⟨H, hHe⟩ : ∃ H : Heap, H = s.heap := ⟨_, rfl⟩
  rw [← hHe] at hP
  have hS : va_S A s.heap H [] := by rw [hHe]; exact va_S.rf
  refine ct_start hHe ?_
  refine lv_aload_n hx hb dX11_shift_0 rfl (lv_at hl 0 rfl) ?_
  refine ct_calli (D := D) (wc := (w_c_X11_hasRounds cI cJ cB cZ cO h r)) (wr := []) (va_runV (As := []) (rest := []) ⟨hx, hb, hml, hown, hts⟩ (c_X11_hasRounds l D cI cJ cB cZ cO h r H.size) (cwV 0 hts gX11_shift_X11_hasRounds rfl rfl rfl (by decide +kernel) ⟨Nat.le_of_ble_eq_true rfl, Nat.le_of_ble_eq_true rfl⟩) (ct_preV (T := ct_T cI cJ cB cZ cO) (ci := 11) (q0 := 0) hE hP hD [0, 1] (by decide) rfl rfl rfl) rfl rfl hl.1 rfl (lv_room (Nat.le_of_ble_eq_true rfl)) dX11_shift_1 ⟨Nat.le_of_ble_eq_true rfl, Nat.le_of_ble_eq_true rfl⟩) hP hD hS hA [0, 1] [] rfl rfl (by decide) (by decide) (fun rz u H locs hw hP hD hS => ?_)
  have hP : va_P D vwCl [] H := hP
  have hD : va_D A [] := hD
  obtain ⟨rfl, hq30⟩ := hw
  refine lv_if_ne (tgt := 10) hx hb dX11_shift_4 (by decide) (fun hc => absurd hc (by decide)) (fun _ => ?_)
  refine lv_bipush (v := (-2)) hx hb dX11_shift_7 (by decide) ?_
  have hP9 := hP.sub (ws' := []) [] rfl
  have hD9 := hD.sub (ws' := []) [] (by decide) rfl
  exact W.iret (v := (-2)) hx hb hr (fun t ht hW => ⟨⟨(-2), (), rfl, ⟨rfl, trivial⟩, by rw [ht]; exact hP9, hD9⟩, hS.F ht⟩) hS.2.2 dX11_shift_9
abbrev w_c_X11_least (cI cJ cB cZ cO : ClassId) (h : Nat) (r : Nat → Nat) : va_W := [oo h r (r 2) (r 3), dn (r 2) (r 24) (r 25) (r 26) (r 27) (r 28) (r 30) (r 31) (r 33) (r 35)]
set_option maxHeartbeats 4000000 in
set_option maxRecDepth 100000 in
/-- least, on a new object -/
theorem c_X11_least (l : Launch) (D : va_G) (cI cJ cB cZ cO : ClassId) (h : Nat) (r : Nat → Nat) (sz : Nat) : Met l yX11_least wsX11_least ({ frames := 2, cells := 0, slots := 0, locals := 40 }) (va_Pc [.ref h] (ct_P D (ct_T cI cJ cB cZ cO) (w_c_X11_least cI cJ cB cZ cO h r) sz)) (va_Qi (fun (rz : Int32) (u : Unit) => (rz = (-2) ∧ True)) (fun (u : Unit) t => ct_Q D (va_A (w_c_X11_least cI cJ cB cZ cO h r) sz) [] t) (va_A (w_c_X11_least cI cJ cB cZ cO h r) sz)) 0 0 (va_A (w_c_X11_least cI cJ cB cZ cO h r) sz) := by
  refine Met.ofW (cc := cX11_least) (maxL := 1) (ret := (some .int)) (by decide) rfl ?_
  intro p e s m args below meth c s₁ B hml hv
  obtain ⟨rfl, hsz, hP, hE, hD0⟩ := hv
  have hx := B.exec
  have hb := B.bytes
  have hr := B.returns
  have hts := atoms_spec (ws := wsX11_least) B.pre
  have hown : s.vm.findClass RX11 = some m.cls := findClass_of_methodNamed B.named
  have hlocks := B.notSynchronized
  have hK := hE.1
  subst hsz
  have hD := hD0.self (sz := s.heap.size)
  generalize hAe : va_A (w_c_X11_least cI cJ cB cZ cO h r) s.heap.size = A at hD ⊢
  have hA : ∀ q : Nat, s.heap.size ≤ q → A q := fun q h => by rw [← hAe]; exact Or.inr h
  have hS : va_S A s.heap s.heap [] := va_S.rf
  have hP : va_P D vwCl [oo h r (r 2) (r 3), dn (r 2) (r 24) (r 25) (r 26) (r 27) (r 28) (r 30) (r 31) (r 33) (r 35)] s.heap := hP
  have hD : va_D A [oo h r (r 2) (r 3), dn (r 2) (r 24) (r 25) (r 26) (r 27) (r 28) (r 30) (r 31) (r 33) (r 35)] := hD
  have hl := lv_entry ([.ref h]) (n := 1) (Nat.le_of_ble_eq_true rfl)
  rw [lg_entry_eq]
  generalize (lg_sl ([.ref h]) ++ List.replicate (1 - (lg_sl ([.ref h])).length) Slot.unset).toArray = ls at hl ⊢
  have hl : lv_has ls 1 [(0, .ref h)] := hl
  obtain ⟨H, hHe⟩ : ∃ H : Heap, H = s.heap := ⟨_, rfl⟩
  rw [← hHe] at hP
  have hS : va_S A s.heap H [] := by rw [hHe]; exact va_S.rf
  refine ct_start hHe ?_
  refine lv_aload_n hx hb dX11_least_0 rfl (lv_at hl 0 rfl) ?_
  refine ct_calli (D := D) (wc := (w_c_X11_hasRounds cI cJ cB cZ cO h r)) (wr := []) (va_runV (As := []) (rest := []) ⟨hx, hb, hml, hown, hts⟩ (c_X11_hasRounds l D cI cJ cB cZ cO h r H.size) (cwV 0 hts gX11_least_X11_hasRounds rfl rfl rfl (by decide +kernel) ⟨Nat.le_of_ble_eq_true rfl, Nat.le_of_ble_eq_true rfl⟩) (ct_preV (T := ct_T cI cJ cB cZ cO) (ci := 11) (q0 := 0) hE hP hD [0, 1] (by decide) rfl rfl rfl) rfl rfl hl.1 rfl (lv_room (Nat.le_of_ble_eq_true rfl)) dX11_least_1 ⟨Nat.le_of_ble_eq_true rfl, Nat.le_of_ble_eq_true rfl⟩) hP hD hS hA [0, 1] [] rfl rfl (by decide) (by decide) (fun rz u H locs hw hP hD hS => ?_)
  have hP : va_P D vwCl [] H := hP
  have hD : va_D A [] := hD
  obtain ⟨rfl, hq31⟩ := hw
  refine lv_if_eq (tgt := 17) hx hb dX11_least_4 (by decide) (fun _ => ?_) (fun hc => absurd hc (by decide))
  refine lv_bipush (v := (-2)) hx hb dX11_least_17 (by decide) ?_
  have hP9 := hP.sub (ws' := []) [] rfl
  have hD9 := hD.sub (ws' := []) [] (by decide) rfl
  exact W.iret (v := (-2)) hx hb hr (fun t ht hW => ⟨⟨(-2), (), rfl, ⟨rfl, trivial⟩, by rw [ht]; exact hP9, hD9⟩, hS.F ht⟩) hS.2.2 dX11_least_19
abbrev w_c_X11_mend (cI cJ cB cZ cO : ClassId) (h : Nat) (r : Nat → Nat) : va_W := [oo h r (r 2) (r 3), dn (r 2) (r 24) (r 25) (r 26) (r 27) (r 28) (r 30) (r 31) (r 33) (r 35)]
set_option maxHeartbeats 4000000 in
set_option maxRecDepth 100000 in
/-- mend, on a new object -/
theorem c_X11_mend (l : Launch) (D : va_G) (cI cJ cB cZ cO : ClassId) (h : Nat) (r : Nat → Nat) (x1 : Int32) (sz : Nat) : Met l yX11_mend wsX11_mend ({ frames := 2, cells := 0, slots := 0, locals := 40 }) (va_Pc [.ref h, .int x1] (ct_P D (ct_T cI cJ cB cZ cO) (w_c_X11_mend cI cJ cB cZ cO h r) sz)) (va_Qi (fun (rz : Int32) (u : Unit) => (rz = (-2) ∧ True)) (fun (u : Unit) t => ct_Q D (va_A (w_c_X11_mend cI cJ cB cZ cO h r) sz) [] t) (va_A (w_c_X11_mend cI cJ cB cZ cO h r) sz)) 0 0 (va_A (w_c_X11_mend cI cJ cB cZ cO h r) sz) := by
  refine Met.ofW (cc := cX11_mend) (maxL := 2) (ret := (some .int)) (by decide) rfl ?_
  intro p e s m args below meth c s₁ B hml hv
  obtain ⟨rfl, hsz, hP, hE, hD0⟩ := hv
  have hx := B.exec
  have hb := B.bytes
  have hr := B.returns
  have hts := atoms_spec (ws := wsX11_mend) B.pre
  have hown : s.vm.findClass RX11 = some m.cls := findClass_of_methodNamed B.named
  have hlocks := B.notSynchronized
  have hK := hE.1
  subst hsz
  have hD := hD0.self (sz := s.heap.size)
  generalize hAe : va_A (w_c_X11_mend cI cJ cB cZ cO h r) s.heap.size = A at hD ⊢
  have hA : ∀ q : Nat, s.heap.size ≤ q → A q := fun q h => by rw [← hAe]; exact Or.inr h
  have hS : va_S A s.heap s.heap [] := va_S.rf
  have hP : va_P D vwCl [oo h r (r 2) (r 3), dn (r 2) (r 24) (r 25) (r 26) (r 27) (r 28) (r 30) (r 31) (r 33) (r 35)] s.heap := hP
  have hD : va_D A [oo h r (r 2) (r 3), dn (r 2) (r 24) (r 25) (r 26) (r 27) (r 28) (r 30) (r 31) (r 33) (r 35)] := hD
  have hl := lv_entry ([.ref h, .int x1]) (n := 2) (Nat.le_of_ble_eq_true rfl)
  rw [lg_entry_eq]
  generalize (lg_sl ([.ref h, .int x1]) ++ List.replicate (2 - (lg_sl ([.ref h, .int x1])).length) Slot.unset).toArray = ls at hl ⊢
  have hl : lv_has ls 2 [(0, .ref h), (1, .int x1)] := hl
  obtain ⟨H, hHe⟩ : ∃ H : Heap, H = s.heap := ⟨_, rfl⟩
  rw [← hHe] at hP
  have hS : va_S A s.heap H [] := by rw [hHe]; exact va_S.rf
  refine ct_start hHe ?_
  refine lv_aload_n hx hb dX11_mend_0 rfl (lv_at hl 0 rfl) ?_
  refine ct_calli (D := D) (wc := (w_c_X11_hasRounds cI cJ cB cZ cO h r)) (wr := []) (va_runV (As := []) (rest := []) ⟨hx, hb, hml, hown, hts⟩ (c_X11_hasRounds l D cI cJ cB cZ cO h r H.size) (cwV 0 hts gX11_mend_X11_hasRounds rfl rfl rfl (by decide +kernel) ⟨Nat.le_of_ble_eq_true rfl, Nat.le_of_ble_eq_true rfl⟩) (ct_preV (T := ct_T cI cJ cB cZ cO) (ci := 11) (q0 := 0) hE hP hD [0, 1] (by decide) rfl rfl rfl) rfl rfl hl.1 rfl (lv_room (Nat.le_of_ble_eq_true rfl)) dX11_mend_1 ⟨Nat.le_of_ble_eq_true rfl, Nat.le_of_ble_eq_true rfl⟩) hP hD hS hA [0, 1] [] rfl rfl (by decide) (by decide) (fun rz u H locs hw hP hD hS => ?_)
  have hP : va_P D vwCl [] H := hP
  have hD : va_D A [] := hD
  obtain ⟨rfl, hq32⟩ := hw
  refine lv_if_eq (tgt := 14) hx hb dX11_mend_4 (by decide) (fun _ => ?_) (fun hc => absurd hc (by decide))
  refine lv_bipush (v := (-2)) hx hb dX11_mend_14 (by decide) ?_
  have hP9 := hP.sub (ws' := []) [] rfl
  have hD9 := hD.sub (ws' := []) [] (by decide) rfl
  exact W.iret (v := (-2)) hx hb hr (fun t ht hW => ⟨⟨(-2), (), rfl, ⟨rfl, trivial⟩, by rw [ht]; exact hP9, hD9⟩, hS.F ht⟩) hS.2.2 dX11_mend_16
abbrev w_c_X11_mended (cI cJ cB cZ cO : ClassId) (h : Nat) (r : Nat → Nat) : va_W := [oo h r (r 2) (r 3), dn (r 2) (r 24) (r 25) (r 26) (r 27) (r 28) (r 30) (r 31) (r 33) (r 35)]
set_option maxHeartbeats 4000000 in
set_option maxRecDepth 100000 in
/-- mended, on a new object -/
theorem c_X11_mended (l : Launch) (D : va_G) (cI cJ cB cZ cO : ClassId) (h : Nat) (r : Nat → Nat) (x1 : Int32) (x2 : Int32) (sz : Nat) : Met l yX11_mended wsX11_mended ({ frames := 2, cells := 0, slots := 0, locals := 40 }) (va_Pc [.ref h, .int x1, .int x2] (ct_P D (ct_T cI cJ cB cZ cO) (w_c_X11_mended cI cJ cB cZ cO h r) sz)) (va_Qi (fun (rz : Int32) (u : Unit) => (rz = (-2) ∧ True)) (fun (u : Unit) t => ct_Q D (va_A (w_c_X11_mended cI cJ cB cZ cO h r) sz) [] t) (va_A (w_c_X11_mended cI cJ cB cZ cO h r) sz)) 0 0 (va_A (w_c_X11_mended cI cJ cB cZ cO h r) sz) := by
  refine Met.ofW (cc := cX11_mended) (maxL := 3) (ret := (some .int)) (by decide) rfl ?_
  intro p e s m args below meth c s₁ B hml hv
  obtain ⟨rfl, hsz, hP, hE, hD0⟩ := hv
  have hx := B.exec
  have hb := B.bytes
  have hr := B.returns
  have hts := atoms_spec (ws := wsX11_mended) B.pre
  have hown : s.vm.findClass RX11 = some m.cls := findClass_of_methodNamed B.named
  have hlocks := B.notSynchronized
  have hK := hE.1
  subst hsz
  have hD := hD0.self (sz := s.heap.size)
  generalize hAe : va_A (w_c_X11_mended cI cJ cB cZ cO h r) s.heap.size = A at hD ⊢
  have hA : ∀ q : Nat, s.heap.size ≤ q → A q := fun q h => by rw [← hAe]; exact Or.inr h
  have hS : va_S A s.heap s.heap [] := va_S.rf
  have hP : va_P D vwCl [oo h r (r 2) (r 3), dn (r 2) (r 24) (r 25) (r 26) (r 27) (r 28) (r 30) (r 31) (r 33) (r 35)] s.heap := hP
  have hD : va_D A [oo h r (r 2) (r 3), dn (r 2) (r 24) (r 25) (r 26) (r 27) (r 28) (r 30) (r 31) (r 33) (r 35)] := hD
  have hl := lv_entry ([.ref h, .int x1, .int x2]) (n := 3) (Nat.le_of_ble_eq_true rfl)
  rw [lg_entry_eq]
  generalize (lg_sl ([.ref h, .int x1, .int x2]) ++ List.replicate (3 - (lg_sl ([.ref h, .int x1, .int x2])).length) Slot.unset).toArray = ls at hl ⊢
  have hl : lv_has ls 3 [(0, .ref h), (1, .int x1), (2, .int x2)] := hl
  obtain ⟨H, hHe⟩ : ∃ H : Heap, H = s.heap := ⟨_, rfl⟩
  rw [← hHe] at hP
  have hS : va_S A s.heap H [] := by rw [hHe]; exact va_S.rf
  refine ct_start hHe ?_
  refine lv_aload_n hx hb dX11_mended_0 rfl (lv_at hl 0 rfl) ?_
  refine ct_calli (D := D) (wc := (w_c_X11_hasRounds cI cJ cB cZ cO h r)) (wr := []) (va_runV (As := []) (rest := []) ⟨hx, hb, hml, hown, hts⟩ (c_X11_hasRounds l D cI cJ cB cZ cO h r H.size) (cwV 0 hts gX11_mended_X11_hasRounds rfl rfl rfl (by decide +kernel) ⟨Nat.le_of_ble_eq_true rfl, Nat.le_of_ble_eq_true rfl⟩) (ct_preV (T := ct_T cI cJ cB cZ cO) (ci := 11) (q0 := 0) hE hP hD [0, 1] (by decide) rfl rfl rfl) rfl rfl hl.1 rfl (lv_room (Nat.le_of_ble_eq_true rfl)) dX11_mended_1 ⟨Nat.le_of_ble_eq_true rfl, Nat.le_of_ble_eq_true rfl⟩) hP hD hS hA [0, 1] [] rfl rfl (by decide) (by decide) (fun rz u H locs hw hP hD hS => ?_)
  have hP : va_P D vwCl [] H := hP
  have hD : va_D A [] := hD
  obtain ⟨rfl, hq33⟩ := hw
  refine lv_if_eq (tgt := 26) hx hb dX11_mended_4 (by decide) (fun _ => ?_) (fun hc => absurd hc (by decide))
  refine lv_bipush (v := (-2)) hx hb dX11_mended_26 (by decide) ?_
  have hP9 := hP.sub (ws' := []) [] rfl
  have hD9 := hD.sub (ws' := []) [] (by decide) rfl
  exact W.iret (v := (-2)) hx hb hr (fun t ht hW => ⟨⟨(-2), (), rfl, ⟨rfl, trivial⟩, by rw [ht]; exact hP9, hD9⟩, hS.F ht⟩) hS.2.2 dX11_mended_28
abbrev w_c_X11_stuck (cI cJ cB cZ cO : ClassId) (h : Nat) (r : Nat → Nat) : va_W := [oo h r (r 2) (r 3), dn (r 2) (r 24) (r 25) (r 26) (r 27) (r 28) (r 30) (r 31) (r 33) (r 35)]
set_option maxHeartbeats 4000000 in
set_option maxRecDepth 100000 in
/-- stuck, on a new object -/
theorem c_X11_stuck (l : Launch) (D : va_G) (cI cJ cB cZ cO : ClassId) (h : Nat) (r : Nat → Nat) (x1 : Int32) (sz : Nat) : Met l yX11_stuck wsX11_stuck ({ frames := 2, cells := 0, slots := 0, locals := 40 }) (va_Pc [.ref h, .int x1] (ct_P D (ct_T cI cJ cB cZ cO) (w_c_X11_stuck cI cJ cB cZ cO h r) sz)) (va_Qi (fun (rz : Int32) (u : Unit) => (rz = (-2) ∧ True)) (fun (u : Unit) t => ct_Q D (va_A (w_c_X11_stuck cI cJ cB cZ cO h r) sz) [] t) (va_A (w_c_X11_stuck cI cJ cB cZ cO h r) sz)) 0 0 (va_A (w_c_X11_stuck cI cJ cB cZ cO h r) sz) := by
  refine Met.ofW (cc := cX11_stuck) (maxL := 2) (ret := (some .int)) (by decide) rfl ?_
  intro p e s m args below meth c s₁ B hml hv
  obtain ⟨rfl, hsz, hP, hE, hD0⟩ := hv
  have hx := B.exec
  have hb := B.bytes
  have hr := B.returns
  have hts := atoms_spec (ws := wsX11_stuck) B.pre
  have hown : s.vm.findClass RX11 = some m.cls := findClass_of_methodNamed B.named
  have hlocks := B.notSynchronized
  have hK := hE.1
  subst hsz
  have hD := hD0.self (sz := s.heap.size)
  generalize hAe : va_A (w_c_X11_stuck cI cJ cB cZ cO h r) s.heap.size = A at hD ⊢
  have hA : ∀ q : Nat, s.heap.size ≤ q → A q := fun q h => by rw [← hAe]; exact Or.inr h
  have hS : va_S A s.heap s.heap [] := va_S.rf
  have hP : va_P D vwCl [oo h r (r 2) (r 3), dn (r 2) (r 24) (r 25) (r 26) (r 27) (r 28) (r 30) (r 31) (r 33) (r 35)] s.heap := hP
  have hD : va_D A [oo h r (r 2) (r 3), dn (r 2) (r 24) (r 25) (r 26) (r 27) (r 28) (r 30) (r 31) (r 33) (r 35)] := hD
  have hl := lv_entry ([.ref h, .int x1]) (n := 2) (Nat.le_of_ble_eq_true rfl)
  rw [lg_entry_eq]
  generalize (lg_sl ([.ref h, .int x1]) ++ List.replicate (2 - (lg_sl ([.ref h, .int x1])).length) Slot.unset).toArray = ls at hl ⊢
  have hl : lv_has ls 2 [(0, .ref h), (1, .int x1)] := hl
  obtain ⟨H, hHe⟩ : ∃ H : Heap, H = s.heap := ⟨_, rfl⟩
  rw [← hHe] at hP
  have hS : va_S A s.heap H [] := by rw [hHe]; exact va_S.rf
  refine ct_start hHe ?_
  refine lv_aload_n hx hb dX11_stuck_0 rfl (lv_at hl 0 rfl) ?_
  refine ct_calli (D := D) (wc := (w_c_X11_hasRounds cI cJ cB cZ cO h r)) (wr := []) (va_runV (As := []) (rest := []) ⟨hx, hb, hml, hown, hts⟩ (c_X11_hasRounds l D cI cJ cB cZ cO h r H.size) (cwV 0 hts gX11_stuck_X11_hasRounds rfl rfl rfl (by decide +kernel) ⟨Nat.le_of_ble_eq_true rfl, Nat.le_of_ble_eq_true rfl⟩) (ct_preV (T := ct_T cI cJ cB cZ cO) (ci := 11) (q0 := 0) hE hP hD [0, 1] (by decide) rfl rfl rfl) rfl rfl hl.1 rfl (lv_room (Nat.le_of_ble_eq_true rfl)) dX11_stuck_1 ⟨Nat.le_of_ble_eq_true rfl, Nat.le_of_ble_eq_true rfl⟩) hP hD hS hA [0, 1] [] rfl rfl (by decide) (by decide) (fun rz u H locs hw hP hD hS => ?_)
  have hP : va_P D vwCl [] H := hP
  have hD : va_D A [] := hD
  obtain ⟨rfl, hq34⟩ := hw
  refine lv_if_eq (tgt := 14) hx hb dX11_stuck_4 (by decide) (fun _ => ?_) (fun hc => absurd hc (by decide))
  refine lv_bipush (v := (-2)) hx hb dX11_stuck_14 (by decide) ?_
  have hP9 := hP.sub (ws' := []) [] rfl
  have hD9 := hD.sub (ws' := []) [] (by decide) rfl
  exact W.iret (v := (-2)) hx hb hr (fun t ht hW => ⟨⟨(-2), (), rfl, ⟨rfl, trivial⟩, by rw [ht]; exact hP9, hD9⟩, hS.F ht⟩) hS.2.2 dX11_stuck_16
abbrev w_c_X11_heard (cI cJ cB cZ cO : ClassId) (h : Nat) (r : Nat → Nat) : va_W := [oo h r (r 2) (r 3), dn (r 2) (r 24) (r 25) (r 26) (r 27) (r 28) (r 30) (r 31) (r 33) (r 35)]
set_option maxHeartbeats 4000000 in
set_option maxRecDepth 100000 in
/-- heard, on a new object -/
theorem c_X11_heard (l : Launch) (D : va_G) (cI cJ cB cZ cO : ClassId) (h : Nat) (r : Nat → Nat) (x1 : Int32) (x2 : Int32) (sz : Nat) : Met l yX11_heard wsX11_heard ({ frames := 2, cells := 0, slots := 0, locals := 44 }) (va_Pc [.ref h, .int x1, .int x2] (ct_P D (ct_T cI cJ cB cZ cO) (w_c_X11_heard cI cJ cB cZ cO h r) sz)) (va_Qi (fun (rz : Int32) (u : Unit) => (rz = (-2) ∧ True)) (fun (u : Unit) t => ct_Q D (va_A (w_c_X11_heard cI cJ cB cZ cO h r) sz) [] t) (va_A (w_c_X11_heard cI cJ cB cZ cO h r) sz)) 0 0 (va_A (w_c_X11_heard cI cJ cB cZ cO h r) sz) := by
  refine Met.ofW (cc := cX11_heard) (maxL := 4) (ret := (some .int)) (by decide) rfl ?_
  intro p e s m args below meth c s₁ B hml hv
  obtain ⟨rfl, hsz, hP, hE, hD0⟩ := hv
  have hx := B.exec
  have hb := B.bytes
  have hr := B.returns
  have hts := atoms_spec (ws := wsX11_heard) B.pre
  have hown : s.vm.findClass RX11 = some m.cls := findClass_of_methodNamed B.named
  have hlocks := B.notSynchronized
  have hK := hE.1
  subst hsz
  have hD := hD0.self (sz := s.heap.size)
  generalize hAe : va_A (w_c_X11_heard cI cJ cB cZ cO h r) s.heap.size = A at hD ⊢
  have hA : ∀ q : Nat, s.heap.size ≤ q → A q := fun q h => by rw [← hAe]; exact Or.inr h
  have hS : va_S A s.heap s.heap [] := va_S.rf
  have hP : va_P D vwCl [oo h r (r 2) (r 3), dn (r 2) (r 24) (r 25) (r 26) (r 27) (r 28) (r 30) (r 31) (r 33) (r 35)] s.heap := hP
  have hD : va_D A [oo h r (r 2) (r 3), dn (r 2) (r 24) (r 25) (r 26) (r 27) (r 28) (r 30) (r 31) (r 33) (r 35)] := hD
  have hl := lv_entry ([.ref h, .int x1, .int x2]) (n := 4) (Nat.le_of_ble_eq_true rfl)
  rw [lg_entry_eq]
  generalize (lg_sl ([.ref h, .int x1, .int x2]) ++ List.replicate (4 - (lg_sl ([.ref h, .int x1, .int x2])).length) Slot.unset).toArray = ls at hl ⊢
  have hl : lv_has ls 4 [(0, .ref h), (1, .int x1), (2, .int x2)] := hl
  obtain ⟨H, hHe⟩ : ∃ H : Heap, H = s.heap := ⟨_, rfl⟩
  rw [← hHe] at hP
  have hS : va_S A s.heap H [] := by rw [hHe]; exact va_S.rf
  refine ct_start hHe ?_
  refine lv_aload_n hx hb dX11_heard_0 rfl (lv_at hl 0 rfl) ?_
  refine lv_iload_n hx hb dX11_heard_1 rfl (lv_at hl 1 rfl) ?_
  refine lv_iload_n hx hb dX11_heard_2 rfl (lv_at hl 2 rfl) ?_
  refine ct_calli (D := D) (wc := (w_c_X11_listenTo cI cJ cB cZ cO h r)) (wr := []) (va_runV (As := [.int x1, .int x2]) (rest := []) ⟨hx, hb, hml, hown, hts⟩ (c_X11_listenTo l D cI cJ cB cZ cO h r x1 x2 H.size) (cwV 2 hts gX11_heard_X11_listenTo rfl rfl rfl (by decide +kernel) ⟨Nat.le_of_ble_eq_true rfl, Nat.le_of_ble_eq_true rfl⟩) (ct_preV (T := ct_T cI cJ cB cZ cO) (ci := 11) (q0 := 0) hE hP hD [0, 1] (by decide) rfl rfl rfl) rfl rfl hl.1 rfl (lv_room (Nat.le_of_ble_eq_true rfl)) dX11_heard_3 ⟨Nat.le_of_ble_eq_true rfl, Nat.le_of_ble_eq_true rfl⟩) hP hD hS hA [0, 1] [] rfl rfl (by decide) (by decide) (fun rz u H locs hw hP hD hS => ?_)
  have hP : va_P D vwCl [] H := hP
  have hD : va_D A [] := hD
  obtain ⟨rfl, hq35⟩ := hw
  refine lv_istore_n (lv' := [(3, .int (-2)), (0, .ref h), (1, .int x1), (2, .int x2)]) hx hb dX11_heard_6 rfl hl (by decide) rfl (fun ls hl => ?_)
  refine lv_iload_n hx hb dX11_heard_7 rfl (lv_at hl 0 rfl) ?_
  refine lv_if_ge (tgt := 15) hx hb dX11_heard_8 (by decide) (fun hc => absurd hc (by decide)) (fun _ => ?_)
  refine lv_iload_n hx hb dX11_heard_11 rfl (lv_at hl 0 rfl) ?_
  refine lv_goto (tgt := 22) hx hb dX11_heard_12 (by decide) ?_
  have hP9 := hP.sub (ws' := []) [] rfl
  have hD9 := hD.sub (ws' := []) [] (by decide) rfl
  exact W.iret (v := (-2)) hx hb hr (fun t ht hW => ⟨⟨(-2), (), rfl, ⟨rfl, trivial⟩, by rw [ht]; exact hP9, hD9⟩, hS.F ht⟩) hS.2.2 dX11_heard_22
abbrev w_c_X11_first (cI cJ cB cZ cO : ClassId) (h : Nat) (r : Nat → Nat) : va_W := [oo h r (r 2) (r 3), dn (r 2) (r 24) (r 25) (r 26) (r 27) (r 28) (r 30) (r 31) (r 33) (r 35)]
set_option maxHeartbeats 4000000 in
set_option maxRecDepth 100000 in
/-- first, on a new object -/
theorem c_X11_first (l : Launch) (D : va_G) (cI cJ cB cZ cO : ClassId) (h : Nat) (r : Nat → Nat) (x1 : Int32) (x2 : Int32) (sz : Nat) : Met l yX11_first wsX11_first ({ frames := 2, cells := 0, slots := 0, locals := 44 }) (va_Pc [.ref h, .int x1, .int x2] (ct_P D (ct_T cI cJ cB cZ cO) (w_c_X11_first cI cJ cB cZ cO h r) sz)) (va_Qi (fun (rz : Int32) (u : Unit) => (rz = (-2) ∧ True)) (fun (u : Unit) t => ct_Q D (va_A (w_c_X11_first cI cJ cB cZ cO h r) sz) [] t) (va_A (w_c_X11_first cI cJ cB cZ cO h r) sz)) 0 0 (va_A (w_c_X11_first cI cJ cB cZ cO h r) sz) := by
  refine Met.ofW (cc := cX11_first) (maxL := 4) (ret := (some .int)) (by decide) rfl ?_
  intro p e s m args below meth c s₁ B hml hv
  obtain ⟨rfl, hsz, hP, hE, hD0⟩ := hv
  have hx := B.exec
  have hb := B.bytes
  have hr := B.returns
  have hts := atoms_spec (ws := wsX11_first) B.pre
  have hown : s.vm.findClass RX11 = some m.cls := findClass_of_methodNamed B.named
  have hlocks := B.notSynchronized
  have hK := hE.1
  subst hsz
  have hD := hD0.self (sz := s.heap.size)
  generalize hAe : va_A (w_c_X11_first cI cJ cB cZ cO h r) s.heap.size = A at hD ⊢
  have hA : ∀ q : Nat, s.heap.size ≤ q → A q := fun q h => by rw [← hAe]; exact Or.inr h
  have hS : va_S A s.heap s.heap [] := va_S.rf
  have hP : va_P D vwCl [oo h r (r 2) (r 3), dn (r 2) (r 24) (r 25) (r 26) (r 27) (r 28) (r 30) (r 31) (r 33) (r 35)] s.heap := hP
  have hD : va_D A [oo h r (r 2) (r 3), dn (r 2) (r 24) (r 25) (r 26) (r 27) (r 28) (r 30) (r 31) (r 33) (r 35)] := hD
  have hl := lv_entry ([.ref h, .int x1, .int x2]) (n := 4) (Nat.le_of_ble_eq_true rfl)
  rw [lg_entry_eq]
  generalize (lg_sl ([.ref h, .int x1, .int x2]) ++ List.replicate (4 - (lg_sl ([.ref h, .int x1, .int x2])).length) Slot.unset).toArray = ls at hl ⊢
  have hl : lv_has ls 4 [(0, .ref h), (1, .int x1), (2, .int x2)] := hl
  obtain ⟨H, hHe⟩ : ∃ H : Heap, H = s.heap := ⟨_, rfl⟩
  rw [← hHe] at hP
  have hS : va_S A s.heap H [] := by rw [hHe]; exact va_S.rf
  refine ct_start hHe ?_
  refine lv_aload_n hx hb dX11_first_0 rfl (lv_at hl 0 rfl) ?_
  refine lv_iload_n hx hb dX11_first_1 rfl (lv_at hl 1 rfl) ?_
  refine lv_iload_n hx hb dX11_first_2 rfl (lv_at hl 2 rfl) ?_
  refine ct_calli (D := D) (wc := (w_c_X11_listenTo cI cJ cB cZ cO h r)) (wr := []) (va_runV (As := [.int x1, .int x2]) (rest := []) ⟨hx, hb, hml, hown, hts⟩ (c_X11_listenTo l D cI cJ cB cZ cO h r x1 x2 H.size) (cwV 2 hts gX11_first_X11_listenTo rfl rfl rfl (by decide +kernel) ⟨Nat.le_of_ble_eq_true rfl, Nat.le_of_ble_eq_true rfl⟩) (ct_preV (T := ct_T cI cJ cB cZ cO) (ci := 11) (q0 := 0) hE hP hD [0, 1] (by decide) rfl rfl rfl) rfl rfl hl.1 rfl (lv_room (Nat.le_of_ble_eq_true rfl)) dX11_first_3 ⟨Nat.le_of_ble_eq_true rfl, Nat.le_of_ble_eq_true rfl⟩) hP hD hS hA [0, 1] [] rfl rfl (by decide) (by decide) (fun rz u H locs hw hP hD hS => ?_)
  have hP : va_P D vwCl [] H := hP
  have hD : va_D A [] := hD
  obtain ⟨rfl, hq36⟩ := hw
  refine lv_istore_n (lv' := [(3, .int (-2)), (0, .ref h), (1, .int x1), (2, .int x2)]) hx hb dX11_first_6 rfl hl (by decide) rfl (fun ls hl => ?_)
  refine lv_iload_n hx hb dX11_first_7 rfl (lv_at hl 0 rfl) ?_
  refine lv_if_ge (tgt := 15) hx hb dX11_first_8 (by decide) (fun hc => absurd hc (by decide)) (fun _ => ?_)
  refine lv_iload_n hx hb dX11_first_11 rfl (lv_at hl 0 rfl) ?_
  refine lv_goto (tgt := 22) hx hb dX11_first_12 (by decide) ?_
  have hP9 := hP.sub (ws' := []) [] rfl
  have hD9 := hD.sub (ws' := []) [] (by decide) rfl
  exact W.iret (v := (-2)) hx hb hr (fun t ht hW => ⟨⟨(-2), (), rfl, ⟨rfl, trivial⟩, by rw [ht]; exact hP9, hD9⟩, hS.F ht⟩) hS.2.2 dX11_first_22
abbrev w_c_X11_when (cI cJ cB cZ cO : ClassId) (h : Nat) (r : Nat → Nat) : va_W := [oo h r (r 2) (r 3), dn (r 2) (r 24) (r 25) (r 26) (r 27) (r 28) (r 30) (r 31) (r 33) (r 35)]
set_option maxHeartbeats 4000000 in
set_option maxRecDepth 100000 in
/-- when, on a new object -/
theorem c_X11_when (l : Launch) (D : va_G) (cI cJ cB cZ cO : ClassId) (h : Nat) (r : Nat → Nat) (x1 : Int32) (x2 : Int32) (sz : Nat) : Met l yX11_when wsX11_when ({ frames := 2, cells := 0, slots := 0, locals := 44 }) (va_Pc [.ref h, .int x1, .int x2] (ct_P D (ct_T cI cJ cB cZ cO) (w_c_X11_when cI cJ cB cZ cO h r) sz)) (va_Ql (fun (rz : Int64) (u : Unit) => (rz = (-2) ∧ True)) (fun (u : Unit) t => ct_Q D (va_A (w_c_X11_when cI cJ cB cZ cO h r) sz) [] t) (va_A (w_c_X11_when cI cJ cB cZ cO h r) sz)) 0 0 (va_A (w_c_X11_when cI cJ cB cZ cO h r) sz) := by
  refine Met.ofW (cc := cX11_when) (maxL := 4) (ret := (some .long)) (by decide) rfl ?_
  intro p e s m args below meth c s₁ B hml hv
  obtain ⟨rfl, hsz, hP, hE, hD0⟩ := hv
  have hx := B.exec
  have hb := B.bytes
  have hr := B.returns
  have hts := atoms_spec (ws := wsX11_when) B.pre
  have hown : s.vm.findClass RX11 = some m.cls := findClass_of_methodNamed B.named
  have hlocks := B.notSynchronized
  have hK := hE.1
  subst hsz
  have hD := hD0.self (sz := s.heap.size)
  generalize hAe : va_A (w_c_X11_when cI cJ cB cZ cO h r) s.heap.size = A at hD ⊢
  have hA : ∀ q : Nat, s.heap.size ≤ q → A q := fun q h => by rw [← hAe]; exact Or.inr h
  have hS : va_S A s.heap s.heap [] := va_S.rf
  have hP : va_P D vwCl [oo h r (r 2) (r 3), dn (r 2) (r 24) (r 25) (r 26) (r 27) (r 28) (r 30) (r 31) (r 33) (r 35)] s.heap := hP
  have hD : va_D A [oo h r (r 2) (r 3), dn (r 2) (r 24) (r 25) (r 26) (r 27) (r 28) (r 30) (r 31) (r 33) (r 35)] := hD
  have hl := lv_entry ([.ref h, .int x1, .int x2]) (n := 4) (Nat.le_of_ble_eq_true rfl)
  rw [lg_entry_eq]
  generalize (lg_sl ([.ref h, .int x1, .int x2]) ++ List.replicate (4 - (lg_sl ([.ref h, .int x1, .int x2])).length) Slot.unset).toArray = ls at hl ⊢
  have hl : lv_has ls 4 [(0, .ref h), (1, .int x1), (2, .int x2)] := hl
  obtain ⟨H, hHe⟩ : ∃ H : Heap, H = s.heap := ⟨_, rfl⟩
  rw [← hHe] at hP
  have hS : va_S A s.heap H [] := by rw [hHe]; exact va_S.rf
  refine ct_start hHe ?_
  refine lv_aload_n hx hb dX11_when_0 rfl (lv_at hl 0 rfl) ?_
  refine lv_iload_n hx hb dX11_when_1 rfl (lv_at hl 1 rfl) ?_
  refine lv_iload_n hx hb dX11_when_2 rfl (lv_at hl 2 rfl) ?_
  refine ct_calli (D := D) (wc := (w_c_X11_listenTo cI cJ cB cZ cO h r)) (wr := []) (va_runV (As := [.int x1, .int x2]) (rest := []) ⟨hx, hb, hml, hown, hts⟩ (c_X11_listenTo l D cI cJ cB cZ cO h r x1 x2 H.size) (cwV 2 hts gX11_when_X11_listenTo rfl rfl rfl (by decide +kernel) ⟨Nat.le_of_ble_eq_true rfl, Nat.le_of_ble_eq_true rfl⟩) (ct_preV (T := ct_T cI cJ cB cZ cO) (ci := 11) (q0 := 0) hE hP hD [0, 1] (by decide) rfl rfl rfl) rfl rfl hl.1 rfl (lv_room (Nat.le_of_ble_eq_true rfl)) dX11_when_3 ⟨Nat.le_of_ble_eq_true rfl, Nat.le_of_ble_eq_true rfl⟩) hP hD hS hA [0, 1] [] rfl rfl (by decide) (by decide) (fun rz u H locs hw hP hD hS => ?_)
  have hP : va_P D vwCl [] H := hP
  have hD : va_D A [] := hD
  obtain ⟨rfl, hq37⟩ := hw
  refine lv_istore_n (lv' := [(3, .int (-2)), (0, .ref h), (1, .int x1), (2, .int x2)]) hx hb dX11_when_6 rfl hl (by decide) rfl (fun ls hl => ?_)
  refine lv_iload_n hx hb dX11_when_7 rfl (lv_at hl 0 rfl) ?_
  refine lv_if_ge (tgt := 16) hx hb dX11_when_8 (by decide) (fun hc => absurd hc (by decide)) (fun _ => ?_)
  refine lv_iload_n hx hb dX11_when_11 rfl (lv_at hl 0 rfl) ?_
  refine lv_i2l (v := (-2)) hx hb dX11_when_12 (by decide) ?_
  refine lv_goto (tgt := 23) hx hb dX11_when_13 (by decide) ?_
  have hP9 := hP.sub (ws' := []) [] rfl
  have hD9 := hD.sub (ws' := []) [] (by decide) rfl
  exact W.lret (v := (-2)) hx hb hr (fun t ht hW => ⟨⟨(-2), (), rfl, ⟨rfl, trivial⟩, by rw [ht]; exact hP9, hD9⟩, hS.F ht⟩) hS.2.2 dX11_when_23
abbrev w_c_X11_listen (cI cJ cB cZ cO : ClassId) (h : Nat) (r : Nat → Nat) : va_W := [oo h r (r 2) (r 3), dn (r 2) (r 24) (r 25) (r 26) (r 27) (r 28) (r 30) (r 31) (r 33) (r 35)]
set_option maxHeartbeats 4000000 in
set_option maxRecDepth 100000 in
/-- listen, on a new object -/
theorem c_X11_listen (l : Launch) (D : va_G) (cI cJ cB cZ cO : ClassId) (h : Nat) (r : Nat → Nat) (x1 : Int32) (x2 : Int32) (sz : Nat) : Met l yX11_listen wsX11_listen ({ frames := 2, cells := 0, slots := 0, locals := 44 }) (va_Pc [.ref h, .int x1, .int x2] (ct_P D (ct_T cI cJ cB cZ cO) (w_c_X11_listen cI cJ cB cZ cO h r) sz)) (va_Qi (fun (rz : Int32) (u : Unit) => (rz = (-2) ∧ True)) (fun (u : Unit) t => ct_Q D (va_A (w_c_X11_listen cI cJ cB cZ cO h r) sz) [] t) (va_A (w_c_X11_listen cI cJ cB cZ cO h r) sz)) 0 0 (va_A (w_c_X11_listen cI cJ cB cZ cO h r) sz) := by
  refine Met.ofW (cc := cX11_listen) (maxL := 4) (ret := (some .int)) (by decide) rfl ?_
  intro p e s m args below meth c s₁ B hml hv
  obtain ⟨rfl, hsz, hP, hE, hD0⟩ := hv
  have hx := B.exec
  have hb := B.bytes
  have hr := B.returns
  have hts := atoms_spec (ws := wsX11_listen) B.pre
  have hown : s.vm.findClass RX11 = some m.cls := findClass_of_methodNamed B.named
  have hlocks := B.notSynchronized
  have hK := hE.1
  subst hsz
  have hD := hD0.self (sz := s.heap.size)
  generalize hAe : va_A (w_c_X11_listen cI cJ cB cZ cO h r) s.heap.size = A at hD ⊢
  have hA : ∀ q : Nat, s.heap.size ≤ q → A q := fun q h => by rw [← hAe]; exact Or.inr h
  have hS : va_S A s.heap s.heap [] := va_S.rf
  have hP : va_P D vwCl [oo h r (r 2) (r 3), dn (r 2) (r 24) (r 25) (r 26) (r 27) (r 28) (r 30) (r 31) (r 33) (r 35)] s.heap := hP
  have hD : va_D A [oo h r (r 2) (r 3), dn (r 2) (r 24) (r 25) (r 26) (r 27) (r 28) (r 30) (r 31) (r 33) (r 35)] := hD
  have hl := lv_entry ([.ref h, .int x1, .int x2]) (n := 4) (Nat.le_of_ble_eq_true rfl)
  rw [lg_entry_eq]
  generalize (lg_sl ([.ref h, .int x1, .int x2]) ++ List.replicate (4 - (lg_sl ([.ref h, .int x1, .int x2])).length) Slot.unset).toArray = ls at hl ⊢
  have hl : lv_has ls 4 [(0, .ref h), (1, .int x1), (2, .int x2)] := hl
  obtain ⟨H, hHe⟩ : ∃ H : Heap, H = s.heap := ⟨_, rfl⟩
  rw [← hHe] at hP
  have hS : va_S A s.heap H [] := by rw [hHe]; exact va_S.rf
  refine ct_start hHe ?_
  refine lv_aload_n hx hb dX11_listen_0 rfl (lv_at hl 0 rfl) ?_
  refine lv_iload_n hx hb dX11_listen_1 rfl (lv_at hl 1 rfl) ?_
  refine lv_iload_n hx hb dX11_listen_2 rfl (lv_at hl 2 rfl) ?_
  refine ct_calli (D := D) (wc := (w_c_X11_listenTo cI cJ cB cZ cO h r)) (wr := []) (va_runV (As := [.int x1, .int x2]) (rest := []) ⟨hx, hb, hml, hown, hts⟩ (c_X11_listenTo l D cI cJ cB cZ cO h r x1 x2 H.size) (cwV 2 hts gX11_listen_X11_listenTo rfl rfl rfl (by decide +kernel) ⟨Nat.le_of_ble_eq_true rfl, Nat.le_of_ble_eq_true rfl⟩) (ct_preV (T := ct_T cI cJ cB cZ cO) (ci := 11) (q0 := 0) hE hP hD [0, 1] (by decide) rfl rfl rfl) rfl rfl hl.1 rfl (lv_room (Nat.le_of_ble_eq_true rfl)) dX11_listen_3 ⟨Nat.le_of_ble_eq_true rfl, Nat.le_of_ble_eq_true rfl⟩) hP hD hS hA [0, 1] [] rfl rfl (by decide) (by decide) (fun rz u H locs hw hP hD hS => ?_)
  have hP : va_P D vwCl [] H := hP
  have hD : va_D A [] := hD
  obtain ⟨rfl, hq38⟩ := hw
  refine lv_istore_n (lv' := [(3, .int (-2)), (0, .ref h), (1, .int x1), (2, .int x2)]) hx hb dX11_listen_6 rfl hl (by decide) rfl (fun ls hl => ?_)
  refine lv_iload_n hx hb dX11_listen_7 rfl (lv_at hl 0 rfl) ?_
  refine lv_if_ge (tgt := 13) hx hb dX11_listen_8 (by decide) (fun hc => absurd hc (by decide)) (fun _ => ?_)
  refine lv_iload_n hx hb dX11_listen_11 rfl (lv_at hl 0 rfl) ?_
  have hP9 := hP.sub (ws' := []) [] rfl
  have hD9 := hD.sub (ws' := []) [] (by decide) rfl
  exact W.iret (v := (-2)) hx hb hr (fun t ht hW => ⟨⟨(-2), (), rfl, ⟨rfl, trivial⟩, by rw [ht]; exact hP9, hD9⟩, hS.F ht⟩) hS.2.2 dX11_listen_12
abbrev w_c_X11_leaves (cI cJ cB cZ cO : ClassId) (h : Nat) (r : Nat → Nat) : va_W := [oo h r (r 2) (r 3), dn (r 2) (r 24) (r 25) (r 26) (r 27) (r 28) (r 30) (r 31) (r 33) (r 35)]
set_option maxHeartbeats 4000000 in
set_option maxRecDepth 100000 in
/-- leaves, on a new object -/
theorem c_X11_leaves (l : Launch) (D : va_G) (cI cJ cB cZ cO : ClassId) (h : Nat) (r : Nat → Nat) (x1 : Int32) (x2 : Int32) (sz : Nat) : Met l yX11_leaves wsX11_leaves ({ frames := 2, cells := 0, slots := 0, locals := 44 }) (va_Pc [.ref h, .int x1, .int x2] (ct_P D (ct_T cI cJ cB cZ cO) (w_c_X11_leaves cI cJ cB cZ cO h r) sz)) (va_Qi (fun (rz : Int32) (u : Unit) => (rz = (-2) ∧ True)) (fun (u : Unit) t => ct_Q D (va_A (w_c_X11_leaves cI cJ cB cZ cO h r) sz) [] t) (va_A (w_c_X11_leaves cI cJ cB cZ cO h r) sz)) 0 0 (va_A (w_c_X11_leaves cI cJ cB cZ cO h r) sz) := by
  refine Met.ofW (cc := cX11_leaves) (maxL := 4) (ret := (some .int)) (by decide) rfl ?_
  intro p e s m args below meth c s₁ B hml hv
  obtain ⟨rfl, hsz, hP, hE, hD0⟩ := hv
  have hx := B.exec
  have hb := B.bytes
  have hr := B.returns
  have hts := atoms_spec (ws := wsX11_leaves) B.pre
  have hown : s.vm.findClass RX11 = some m.cls := findClass_of_methodNamed B.named
  have hlocks := B.notSynchronized
  have hK := hE.1
  subst hsz
  have hD := hD0.self (sz := s.heap.size)
  generalize hAe : va_A (w_c_X11_leaves cI cJ cB cZ cO h r) s.heap.size = A at hD ⊢
  have hA : ∀ q : Nat, s.heap.size ≤ q → A q := fun q h => by rw [← hAe]; exact Or.inr h
  have hS : va_S A s.heap s.heap [] := va_S.rf
  have hP : va_P D vwCl [oo h r (r 2) (r 3), dn (r 2) (r 24) (r 25) (r 26) (r 27) (r 28) (r 30) (r 31) (r 33) (r 35)] s.heap := hP
  have hD : va_D A [oo h r (r 2) (r 3), dn (r 2) (r 24) (r 25) (r 26) (r 27) (r 28) (r 30) (r 31) (r 33) (r 35)] := hD
  have hl := lv_entry ([.ref h, .int x1, .int x2]) (n := 4) (Nat.le_of_ble_eq_true rfl)
  rw [lg_entry_eq]
  generalize (lg_sl ([.ref h, .int x1, .int x2]) ++ List.replicate (4 - (lg_sl ([.ref h, .int x1, .int x2])).length) Slot.unset).toArray = ls at hl ⊢
  have hl : lv_has ls 4 [(0, .ref h), (1, .int x1), (2, .int x2)] := hl
  obtain ⟨H, hHe⟩ : ∃ H : Heap, H = s.heap := ⟨_, rfl⟩
  rw [← hHe] at hP
  have hS : va_S A s.heap H [] := by rw [hHe]; exact va_S.rf
  refine ct_start hHe ?_
  refine lv_aload_n hx hb dX11_leaves_0 rfl (lv_at hl 0 rfl) ?_
  refine lv_iload_n hx hb dX11_leaves_1 rfl (lv_at hl 1 rfl) ?_
  refine lv_iload_n hx hb dX11_leaves_2 rfl (lv_at hl 2 rfl) ?_
  refine ct_calli (D := D) (wc := (w_c_X11_listenTo cI cJ cB cZ cO h r)) (wr := []) (va_runV (As := [.int x1, .int x2]) (rest := []) ⟨hx, hb, hml, hown, hts⟩ (c_X11_listenTo l D cI cJ cB cZ cO h r x1 x2 H.size) (cwV 2 hts gX11_leaves_X11_listenTo rfl rfl rfl (by decide +kernel) ⟨Nat.le_of_ble_eq_true rfl, Nat.le_of_ble_eq_true rfl⟩) (ct_preV (T := ct_T cI cJ cB cZ cO) (ci := 11) (q0 := 0) hE hP hD [0, 1] (by decide) rfl rfl rfl) rfl rfl hl.1 rfl (lv_room (Nat.le_of_ble_eq_true rfl)) dX11_leaves_3 ⟨Nat.le_of_ble_eq_true rfl, Nat.le_of_ble_eq_true rfl⟩) hP hD hS hA [0, 1] [] rfl rfl (by decide) (by decide) (fun rz u H locs hw hP hD hS => ?_)
  have hP : va_P D vwCl [] H := hP
  have hD : va_D A [] := hD
  obtain ⟨rfl, hq39⟩ := hw
  refine lv_istore_n (lv' := [(3, .int (-2)), (0, .ref h), (1, .int x1), (2, .int x2)]) hx hb dX11_leaves_6 rfl hl (by decide) rfl (fun ls hl => ?_)
  refine lv_iload_n hx hb dX11_leaves_7 rfl (lv_at hl 0 rfl) ?_
  refine lv_if_ge (tgt := 13) hx hb dX11_leaves_8 (by decide) (fun hc => absurd hc (by decide)) (fun _ => ?_)
  refine lv_iload_n hx hb dX11_leaves_11 rfl (lv_at hl 0 rfl) ?_
  have hP9 := hP.sub (ws' := []) [] rfl
  have hD9 := hD.sub (ws' := []) [] (by decide) rfl
  exact W.iret (v := (-2)) hx hb hr (fun t ht hW => ⟨⟨(-2), (), rfl, ⟨rfl, trivial⟩, by rw [ht]; exact hP9, hD9⟩, hS.F ht⟩) hS.2.2 dX11_leaves_12
abbrev w_c_X11_crosses (cI cJ cB cZ cO : ClassId) (h : Nat) (r : Nat → Nat) : va_W := [oo h r (r 2) (r 3), dn (r 2) (r 24) (r 25) (r 26) (r 27) (r 28) (r 30) (r 31) (r 33) (r 35)]
set_option maxHeartbeats 4000000 in
set_option maxRecDepth 100000 in
/-- crosses, on a new object -/
theorem c_X11_crosses (l : Launch) (D : va_G) (cI cJ cB cZ cO : ClassId) (h : Nat) (r : Nat → Nat) (x1 : Int32) (sz : Nat) : Met l yX11_crosses wsX11_crosses ({ frames := 1, cells := 0, slots := 0, locals := 20 }) (va_Pc [.ref h, .int x1] (ct_P D (ct_T cI cJ cB cZ cO) (w_c_X11_crosses cI cJ cB cZ cO h r) sz)) (va_Qi (fun (rz : Int32) (u : Unit) => (rz = (-2) ∧ True)) (fun (u : Unit) t => ct_Q D (va_A (w_c_X11_crosses cI cJ cB cZ cO h r) sz) [] t) (va_A (w_c_X11_crosses cI cJ cB cZ cO h r) sz)) 0 0 (va_A (w_c_X11_crosses cI cJ cB cZ cO h r) sz) := by
  refine Met.ofW (cc := cX11_crosses) (maxL := 2) (ret := (some .int)) (by decide) rfl ?_
  intro p e s m args below meth c s₁ B hml hv
  obtain ⟨rfl, hsz, hP, hE, hD0⟩ := hv
  have hx := B.exec
  have hb := B.bytes
  have hr := B.returns
  have hts := atoms_spec (ws := wsX11_crosses) B.pre
  have hown : s.vm.findClass RX11 = some m.cls := findClass_of_methodNamed B.named
  have hlocks := B.notSynchronized
  have hK := hE.1
  have hi11 : ∀ w ∈ u_ws RX11 TX11 16, w ∈ wsX11_crosses := fun w h => List.mem_cons_of_mem _ (List.mem_append_left _ (List.mem_append_left _ (List.mem_append_right _ h)))
  subst hsz
  have hD := hD0.self (sz := s.heap.size)
  generalize hAe : va_A (w_c_X11_crosses cI cJ cB cZ cO h r) s.heap.size = A at hD ⊢
  have hA : ∀ q : Nat, s.heap.size ≤ q → A q := fun q h => by rw [← hAe]; exact Or.inr h
  have hS : va_S A s.heap s.heap [] := va_S.rf
  have hP : va_P D vwCl [oo h r (r 2) (r 3), dn (r 2) (r 24) (r 25) (r 26) (r 27) (r 28) (r 30) (r 31) (r 33) (r 35)] s.heap := hP
  have hD : va_D A [oo h r (r 2) (r 3), dn (r 2) (r 24) (r 25) (r 26) (r 27) (r 28) (r 30) (r 31) (r 33) (r 35)] := hD
  have hl := lv_entry ([.ref h, .int x1]) (n := 2) (Nat.le_of_ble_eq_true rfl)
  rw [lg_entry_eq]
  generalize (lg_sl ([.ref h, .int x1]) ++ List.replicate (2 - (lg_sl ([.ref h, .int x1])).length) Slot.unset).toArray = ls at hl ⊢
  have hl : lv_has ls 2 [(0, .ref h), (1, .int x1)] := hl
  obtain ⟨H, hHe⟩ : ∃ H : Heap, H = s.heap := ⟨_, rfl⟩
  rw [← hHe] at hP
  have hS : va_S A s.heap H [] := by rw [hHe]; exact va_S.rf
  refine ct_start hHe ?_
  refine lv_aload_n hx hb dX11_crosses_0 rfl (lv_at hl 0 rfl) ?_
  refine va_get (D := D) (ci := 11) (v := .ref (r 2)) (C := RX11) (T := TX11) (N := 16) hx hb hts hi11 hown hK hP 0 rfl rfl 2 (by decide) (hts (.fieldLink RX11 24 "OverHill" "now" "LOverHill$Dance;") (by decide +kernel)) (fun _ h9 => h9) rfl dX11_crosses_1 ?_
  refine ct_calli (D := D) (wc := (w_c_X0_stands cI cJ cB cZ cO (r 2) (r 24) (r 25) (r 26) (r 27) (r 28) (r 30) (r 31) (r 33) (r 35))) (wr := [oo h r (r 2) (r 3)]) (va_runV (As := []) (rest := []) ⟨hx, hb, hml, hown, hts⟩ (c_X0_stands l D cI cJ cB cZ cO (r 2) (r 24) (r 25) (r 26) (r 27) (r 28) (r 30) (r 31) (r 33) (r 35) H.size) (cwV 0 hts gX11_crosses_X0_stands rfl rfl rfl (by decide +kernel) ⟨Nat.le_of_ble_eq_true rfl, Nat.le_of_ble_eq_true rfl⟩) (ct_preV (T := ct_T cI cJ cB cZ cO) (ci := 0) (q0 := 1) hE hP hD [1] (by decide) rfl rfl rfl) rfl rfl hl.1 rfl (lv_room (Nat.le_of_ble_eq_true rfl)) dX11_crosses_4 ⟨Nat.le_of_ble_eq_true rfl, Nat.le_of_ble_eq_true rfl⟩) hP hD hS hA [1] [0] rfl rfl (by decide) (by decide) (fun rz u H locs hw hP hD hS => ?_)
  have hP : va_P D vwCl [oo h r (r 2) (r 3), dn (r 2) (r 24) (r 25) (r 26) (r 27) (r 28) (r 30) (r 31) (r 33) (r 35)] H := hP
  have hD : va_D A [oo h r (r 2) (r 3), dn (r 2) (r 24) (r 25) (r 26) (r 27) (r 28) (r 30) (r 31) (r 33) (r 35)] := hD
  obtain ⟨rfl, hq40⟩ := hw
  refine lv_if_eq (tgt := 33) hx hb dX11_crosses_7 (by decide) (fun _ => ?_) (fun hc => absurd hc (by decide))
  refine lv_bipush (v := (-2)) hx hb dX11_crosses_33 (by decide) ?_
  have hP9 := hP.sub (ws' := []) [] rfl
  have hD9 := hD.sub (ws' := []) [] (by decide) rfl
  exact W.iret (v := (-2)) hx hb hr (fun t ht hW => ⟨⟨(-2), (), rfl, ⟨rfl, trivial⟩, by rw [ht]; exact hP9, hD9⟩, hS.F ht⟩) hS.2.2 dX11_crosses_35
abbrev w_c_X11_returns (cI cJ cB cZ cO : ClassId) (h : Nat) (r : Nat → Nat) : va_W := [oo h r (r 2) (r 3), dn (r 2) (r 24) (r 25) (r 26) (r 27) (r 28) (r 30) (r 31) (r 33) (r 35)]
set_option maxHeartbeats 4000000 in
set_option maxRecDepth 100000 in
/-- returns, on a new object -/
theorem c_X11_returns (l : Launch) (D : va_G) (cI cJ cB cZ cO : ClassId) (h : Nat) (r : Nat → Nat) (x1 : Int32) (sz : Nat) : Met l yX11_returns wsX11_returns ({ frames := 1, cells := 0, slots := 0, locals := 20 }) (va_Pc [.ref h, .int x1] (ct_P D (ct_T cI cJ cB cZ cO) (w_c_X11_returns cI cJ cB cZ cO h r) sz)) (va_Qi (fun (rz : Int32) (u : Unit) => (rz = (-2) ∧ True)) (fun (u : Unit) t => ct_Q D (va_A (w_c_X11_returns cI cJ cB cZ cO h r) sz) [] t) (va_A (w_c_X11_returns cI cJ cB cZ cO h r) sz)) 0 0 (va_A (w_c_X11_returns cI cJ cB cZ cO h r) sz) := by
  refine Met.ofW (cc := cX11_returns) (maxL := 2) (ret := (some .int)) (by decide) rfl ?_
  intro p e s m args below meth c s₁ B hml hv
  obtain ⟨rfl, hsz, hP, hE, hD0⟩ := hv
  have hx := B.exec
  have hb := B.bytes
  have hr := B.returns
  have hts := atoms_spec (ws := wsX11_returns) B.pre
  have hown : s.vm.findClass RX11 = some m.cls := findClass_of_methodNamed B.named
  have hlocks := B.notSynchronized
  have hK := hE.1
  have hi11 : ∀ w ∈ u_ws RX11 TX11 16, w ∈ wsX11_returns := fun w h => List.mem_cons_of_mem _ (List.mem_append_left _ (List.mem_append_left _ (List.mem_append_right _ h)))
  subst hsz
  have hD := hD0.self (sz := s.heap.size)
  generalize hAe : va_A (w_c_X11_returns cI cJ cB cZ cO h r) s.heap.size = A at hD ⊢
  have hA : ∀ q : Nat, s.heap.size ≤ q → A q := fun q h => by rw [← hAe]; exact Or.inr h
  have hS : va_S A s.heap s.heap [] := va_S.rf
  have hP : va_P D vwCl [oo h r (r 2) (r 3), dn (r 2) (r 24) (r 25) (r 26) (r 27) (r 28) (r 30) (r 31) (r 33) (r 35)] s.heap := hP
  have hD : va_D A [oo h r (r 2) (r 3), dn (r 2) (r 24) (r 25) (r 26) (r 27) (r 28) (r 30) (r 31) (r 33) (r 35)] := hD
  have hl := lv_entry ([.ref h, .int x1]) (n := 2) (Nat.le_of_ble_eq_true rfl)
  rw [lg_entry_eq]
  generalize (lg_sl ([.ref h, .int x1]) ++ List.replicate (2 - (lg_sl ([.ref h, .int x1])).length) Slot.unset).toArray = ls at hl ⊢
  have hl : lv_has ls 2 [(0, .ref h), (1, .int x1)] := hl
  obtain ⟨H, hHe⟩ : ∃ H : Heap, H = s.heap := ⟨_, rfl⟩
  rw [← hHe] at hP
  have hS : va_S A s.heap H [] := by rw [hHe]; exact va_S.rf
  refine ct_start hHe ?_
  refine lv_aload_n hx hb dX11_returns_0 rfl (lv_at hl 0 rfl) ?_
  refine va_get (D := D) (ci := 11) (v := .ref (r 2)) (C := RX11) (T := TX11) (N := 16) hx hb hts hi11 hown hK hP 0 rfl rfl 2 (by decide) (hts (.fieldLink RX11 24 "OverHill" "now" "LOverHill$Dance;") (by decide +kernel)) (fun _ h9 => h9) rfl dX11_returns_1 ?_
  refine ct_calli (D := D) (wc := (w_c_X0_stands cI cJ cB cZ cO (r 2) (r 24) (r 25) (r 26) (r 27) (r 28) (r 30) (r 31) (r 33) (r 35))) (wr := [oo h r (r 2) (r 3)]) (va_runV (As := []) (rest := []) ⟨hx, hb, hml, hown, hts⟩ (c_X0_stands l D cI cJ cB cZ cO (r 2) (r 24) (r 25) (r 26) (r 27) (r 28) (r 30) (r 31) (r 33) (r 35) H.size) (cwV 0 hts gX11_returns_X0_stands rfl rfl rfl (by decide +kernel) ⟨Nat.le_of_ble_eq_true rfl, Nat.le_of_ble_eq_true rfl⟩) (ct_preV (T := ct_T cI cJ cB cZ cO) (ci := 0) (q0 := 1) hE hP hD [1] (by decide) rfl rfl rfl) rfl rfl hl.1 rfl (lv_room (Nat.le_of_ble_eq_true rfl)) dX11_returns_4 ⟨Nat.le_of_ble_eq_true rfl, Nat.le_of_ble_eq_true rfl⟩) hP hD hS hA [1] [0] rfl rfl (by decide) (by decide) (fun rz u H locs hw hP hD hS => ?_)
  have hP : va_P D vwCl [oo h r (r 2) (r 3), dn (r 2) (r 24) (r 25) (r 26) (r 27) (r 28) (r 30) (r 31) (r 33) (r 35)] H := hP
  have hD : va_D A [oo h r (r 2) (r 3), dn (r 2) (r 24) (r 25) (r 26) (r 27) (r 28) (r 30) (r 31) (r 33) (r 35)] := hD
  obtain ⟨rfl, hq41⟩ := hw
  refine lv_if_eq (tgt := 33) hx hb dX11_returns_7 (by decide) (fun _ => ?_) (fun hc => absurd hc (by decide))
  refine lv_bipush (v := (-2)) hx hb dX11_returns_33 (by decide) ?_
  have hP9 := hP.sub (ws' := []) [] rfl
  have hD9 := hD.sub (ws' := []) [] (by decide) rfl
  exact W.iret (v := (-2)) hx hb hr (fun t ht hW => ⟨⟨(-2), (), rfl, ⟨rfl, trivial⟩, by rw [ht]; exact hP9, hD9⟩, hS.F ht⟩) hS.2.2 dX11_returns_35
abbrev w_c_X11_meet (cI cJ cB cZ cO : ClassId) (h : Nat) (r : Nat → Nat) : va_W := [oo h r (r 2) (r 3), dn (r 2) (r 24) (r 25) (r 26) (r 27) (r 28) (r 30) (r 31) (r 33) (r 35)]
set_option maxHeartbeats 4000000 in
set_option maxRecDepth 100000 in
/-- meet, on a new object -/
theorem c_X11_meet (l : Launch) (D : va_G) (cI cJ cB cZ cO : ClassId) (h : Nat) (r : Nat → Nat) (x1 : Int32) (x2 : Int32) (sz : Nat) : Met l yX11_meet wsX11_meet ({ frames := 1, cells := 0, slots := 0, locals := 20 }) (va_Pc [.ref h, .int x1, .int x2] (ct_P D (ct_T cI cJ cB cZ cO) (w_c_X11_meet cI cJ cB cZ cO h r) sz)) (va_Qi (fun (rz : Int32) (u : Unit) => (rz = (-2) ∧ True)) (fun (u : Unit) t => ct_Q D (va_A (w_c_X11_meet cI cJ cB cZ cO h r) sz) [] t) (va_A (w_c_X11_meet cI cJ cB cZ cO h r) sz)) 0 0 (va_A (w_c_X11_meet cI cJ cB cZ cO h r) sz) := by
  refine Met.ofW (cc := cX11_meet) (maxL := 3) (ret := (some .int)) (by decide) rfl ?_
  intro p e s m args below meth c s₁ B hml hv
  obtain ⟨rfl, hsz, hP, hE, hD0⟩ := hv
  have hx := B.exec
  have hb := B.bytes
  have hr := B.returns
  have hts := atoms_spec (ws := wsX11_meet) B.pre
  have hown : s.vm.findClass RX11 = some m.cls := findClass_of_methodNamed B.named
  have hlocks := B.notSynchronized
  have hK := hE.1
  have hi11 : ∀ w ∈ u_ws RX11 TX11 16, w ∈ wsX11_meet := fun w h => List.mem_cons_of_mem _ (List.mem_append_left _ (List.mem_append_left _ (List.mem_append_right _ h)))
  subst hsz
  have hD := hD0.self (sz := s.heap.size)
  generalize hAe : va_A (w_c_X11_meet cI cJ cB cZ cO h r) s.heap.size = A at hD ⊢
  have hA : ∀ q : Nat, s.heap.size ≤ q → A q := fun q h => by rw [← hAe]; exact Or.inr h
  have hS : va_S A s.heap s.heap [] := va_S.rf
  have hP : va_P D vwCl [oo h r (r 2) (r 3), dn (r 2) (r 24) (r 25) (r 26) (r 27) (r 28) (r 30) (r 31) (r 33) (r 35)] s.heap := hP
  have hD : va_D A [oo h r (r 2) (r 3), dn (r 2) (r 24) (r 25) (r 26) (r 27) (r 28) (r 30) (r 31) (r 33) (r 35)] := hD
  have hl := lv_entry ([.ref h, .int x1, .int x2]) (n := 3) (Nat.le_of_ble_eq_true rfl)
  rw [lg_entry_eq]
  generalize (lg_sl ([.ref h, .int x1, .int x2]) ++ List.replicate (3 - (lg_sl ([.ref h, .int x1, .int x2])).length) Slot.unset).toArray = ls at hl ⊢
  have hl : lv_has ls 3 [(0, .ref h), (1, .int x1), (2, .int x2)] := hl
  obtain ⟨H, hHe⟩ : ∃ H : Heap, H = s.heap := ⟨_, rfl⟩
  rw [← hHe] at hP
  have hS : va_S A s.heap H [] := by rw [hHe]; exact va_S.rf
  refine ct_start hHe ?_
  refine lv_aload_n hx hb dX11_meet_0 rfl (lv_at hl 0 rfl) ?_
  refine va_get (D := D) (ci := 11) (v := .ref (r 2)) (C := RX11) (T := TX11) (N := 16) hx hb hts hi11 hown hK hP 0 rfl rfl 2 (by decide) (hts (.fieldLink RX11 24 "OverHill" "now" "LOverHill$Dance;") (by decide +kernel)) (fun _ h9 => h9) rfl dX11_meet_1 ?_
  refine ct_calli (D := D) (wc := (w_c_X0_stands cI cJ cB cZ cO (r 2) (r 24) (r 25) (r 26) (r 27) (r 28) (r 30) (r 31) (r 33) (r 35))) (wr := [oo h r (r 2) (r 3)]) (va_runV (As := []) (rest := []) ⟨hx, hb, hml, hown, hts⟩ (c_X0_stands l D cI cJ cB cZ cO (r 2) (r 24) (r 25) (r 26) (r 27) (r 28) (r 30) (r 31) (r 33) (r 35) H.size) (cwV 0 hts gX11_meet_X0_stands rfl rfl rfl (by decide +kernel) ⟨Nat.le_of_ble_eq_true rfl, Nat.le_of_ble_eq_true rfl⟩) (ct_preV (T := ct_T cI cJ cB cZ cO) (ci := 0) (q0 := 1) hE hP hD [1] (by decide) rfl rfl rfl) rfl rfl hl.1 rfl (lv_room (Nat.le_of_ble_eq_true rfl)) dX11_meet_4 ⟨Nat.le_of_ble_eq_true rfl, Nat.le_of_ble_eq_true rfl⟩) hP hD hS hA [1] [0] rfl rfl (by decide) (by decide) (fun rz u H locs hw hP hD hS => ?_)
  have hP : va_P D vwCl [oo h r (r 2) (r 3), dn (r 2) (r 24) (r 25) (r 26) (r 27) (r 28) (r 30) (r 31) (r 33) (r 35)] H := hP
  have hD : va_D A [oo h r (r 2) (r 3), dn (r 2) (r 24) (r 25) (r 26) (r 27) (r 28) (r 30) (r 31) (r 33) (r 35)] := hD
  obtain ⟨rfl, hq42⟩ := hw
  refine lv_if_eq (tgt := 24) hx hb dX11_meet_7 (by decide) (fun _ => ?_) (fun hc => absurd hc (by decide))
  refine lv_bipush (v := (-2)) hx hb dX11_meet_24 (by decide) ?_
  have hP9 := hP.sub (ws' := []) [] rfl
  have hD9 := hD.sub (ws' := []) [] (by decide) rfl
  exact W.iret (v := (-2)) hx hb hr (fun t ht hW => ⟨⟨(-2), (), rfl, ⟨rfl, trivial⟩, by rw [ht]; exact hP9, hD9⟩, hS.F ht⟩) hS.2.2 dX11_meet_26
abbrev w_c_X11_cell (cI cJ cB cZ cO : ClassId) (h : Nat) (r : Nat → Nat) : va_W := [oo h r (r 2) (r 3), dn (r 2) (r 24) (r 25) (r 26) (r 27) (r 28) (r 30) (r 31) (r 33) (r 35)]
set_option maxHeartbeats 4000000 in
set_option maxRecDepth 100000 in
/-- cell, on a new object -/
theorem c_X11_cell (l : Launch) (D : va_G) (cI cJ cB cZ cO : ClassId) (h : Nat) (r : Nat → Nat) (x1 : Int32) (x2 : Int32) (sz : Nat) : Met l yX11_cell wsX11_cell ({ frames := 1, cells := 0, slots := 0, locals := 20 }) (va_Pc [.ref h, .int x1, .int x2] (ct_P D (ct_T cI cJ cB cZ cO) (w_c_X11_cell cI cJ cB cZ cO h r) sz)) (va_Qi (fun (rz : Int32) (u : Unit) => (rz = (-2) ∧ True)) (fun (u : Unit) t => ct_Q D (va_A (w_c_X11_cell cI cJ cB cZ cO h r) sz) [] t) (va_A (w_c_X11_cell cI cJ cB cZ cO h r) sz)) 0 0 (va_A (w_c_X11_cell cI cJ cB cZ cO h r) sz) := by
  refine Met.ofW (cc := cX11_cell) (maxL := 3) (ret := (some .int)) (by decide) rfl ?_
  intro p e s m args below meth c s₁ B hml hv
  obtain ⟨rfl, hsz, hP, hE, hD0⟩ := hv
  have hx := B.exec
  have hb := B.bytes
  have hr := B.returns
  have hts := atoms_spec (ws := wsX11_cell) B.pre
  have hown : s.vm.findClass RX11 = some m.cls := findClass_of_methodNamed B.named
  have hlocks := B.notSynchronized
  have hK := hE.1
  have hi11 : ∀ w ∈ u_ws RX11 TX11 16, w ∈ wsX11_cell := fun w h => List.mem_cons_of_mem _ (List.mem_append_left _ (List.mem_append_left _ (List.mem_append_right _ h)))
  subst hsz
  have hD := hD0.self (sz := s.heap.size)
  generalize hAe : va_A (w_c_X11_cell cI cJ cB cZ cO h r) s.heap.size = A at hD ⊢
  have hA : ∀ q : Nat, s.heap.size ≤ q → A q := fun q h => by rw [← hAe]; exact Or.inr h
  have hS : va_S A s.heap s.heap [] := va_S.rf
  have hP : va_P D vwCl [oo h r (r 2) (r 3), dn (r 2) (r 24) (r 25) (r 26) (r 27) (r 28) (r 30) (r 31) (r 33) (r 35)] s.heap := hP
  have hD : va_D A [oo h r (r 2) (r 3), dn (r 2) (r 24) (r 25) (r 26) (r 27) (r 28) (r 30) (r 31) (r 33) (r 35)] := hD
  have hl := lv_entry ([.ref h, .int x1, .int x2]) (n := 3) (Nat.le_of_ble_eq_true rfl)
  rw [lg_entry_eq]
  generalize (lg_sl ([.ref h, .int x1, .int x2]) ++ List.replicate (3 - (lg_sl ([.ref h, .int x1, .int x2])).length) Slot.unset).toArray = ls at hl ⊢
  have hl : lv_has ls 3 [(0, .ref h), (1, .int x1), (2, .int x2)] := hl
  obtain ⟨H, hHe⟩ : ∃ H : Heap, H = s.heap := ⟨_, rfl⟩
  rw [← hHe] at hP
  have hS : va_S A s.heap H [] := by rw [hHe]; exact va_S.rf
  refine ct_start hHe ?_
  refine lv_aload_n hx hb dX11_cell_0 rfl (lv_at hl 0 rfl) ?_
  refine va_get (D := D) (ci := 11) (v := .ref (r 2)) (C := RX11) (T := TX11) (N := 16) hx hb hts hi11 hown hK hP 0 rfl rfl 2 (by decide) (hts (.fieldLink RX11 24 "OverHill" "now" "LOverHill$Dance;") (by decide +kernel)) (fun _ h9 => h9) rfl dX11_cell_1 ?_
  refine ct_calli (D := D) (wc := (w_c_X0_stands cI cJ cB cZ cO (r 2) (r 24) (r 25) (r 26) (r 27) (r 28) (r 30) (r 31) (r 33) (r 35))) (wr := [oo h r (r 2) (r 3)]) (va_runV (As := []) (rest := []) ⟨hx, hb, hml, hown, hts⟩ (c_X0_stands l D cI cJ cB cZ cO (r 2) (r 24) (r 25) (r 26) (r 27) (r 28) (r 30) (r 31) (r 33) (r 35) H.size) (cwV 0 hts gX11_cell_X0_stands rfl rfl rfl (by decide +kernel) ⟨Nat.le_of_ble_eq_true rfl, Nat.le_of_ble_eq_true rfl⟩) (ct_preV (T := ct_T cI cJ cB cZ cO) (ci := 0) (q0 := 1) hE hP hD [1] (by decide) rfl rfl rfl) rfl rfl hl.1 rfl (lv_room (Nat.le_of_ble_eq_true rfl)) dX11_cell_4 ⟨Nat.le_of_ble_eq_true rfl, Nat.le_of_ble_eq_true rfl⟩) hP hD hS hA [1] [0] rfl rfl (by decide) (by decide) (fun rz u H locs hw hP hD hS => ?_)
  have hP : va_P D vwCl [oo h r (r 2) (r 3), dn (r 2) (r 24) (r 25) (r 26) (r 27) (r 28) (r 30) (r 31) (r 33) (r 35)] H := hP
  have hD : va_D A [oo h r (r 2) (r 3), dn (r 2) (r 24) (r 25) (r 26) (r 27) (r 28) (r 30) (r 31) (r 33) (r 35)] := hD
  obtain ⟨rfl, hq43⟩ := hw
  refine lv_if_eq (tgt := 24) hx hb dX11_cell_7 (by decide) (fun _ => ?_) (fun hc => absurd hc (by decide))
  refine lv_bipush (v := (-2)) hx hb dX11_cell_24 (by decide) ?_
  have hP9 := hP.sub (ws' := []) [] rfl
  have hD9 := hD.sub (ws' := []) [] (by decide) rfl
  exact W.iret (v := (-2)) hx hb hr (fun t ht hW => ⟨⟨(-2), (), rfl, ⟨rfl, trivial⟩, by rw [ht]; exact hP9, hD9⟩, hS.F ht⟩) hS.2.2 dX11_cell_26
abbrev w_c_X11_longest (cI cJ cB cZ cO : ClassId) (h : Nat) (r : Nat → Nat) : va_W := [oo h r (r 2) (r 3), dn (r 2) (r 24) (r 25) (r 26) (r 27) (r 28) (r 30) (r 31) (r 33) (r 35)]
set_option maxHeartbeats 4000000 in
set_option maxRecDepth 100000 in
/-- longest, on a new object -/
theorem c_X11_longest (l : Launch) (D : va_G) (cI cJ cB cZ cO : ClassId) (h : Nat) (r : Nat → Nat) (sz : Nat) : Met l yX11_longest wsX11_longest ({ frames := 1, cells := 0, slots := 0, locals := 20 }) (va_Pc [.ref h] (ct_P D (ct_T cI cJ cB cZ cO) (w_c_X11_longest cI cJ cB cZ cO h r) sz)) (va_Qi (fun (rz : Int32) (u : Unit) => (rz = (-2) ∧ True)) (fun (u : Unit) t => ct_Q D (va_A (w_c_X11_longest cI cJ cB cZ cO h r) sz) [] t) (va_A (w_c_X11_longest cI cJ cB cZ cO h r) sz)) 0 0 (va_A (w_c_X11_longest cI cJ cB cZ cO h r) sz) := by
  refine Met.ofW (cc := cX11_longest) (maxL := 1) (ret := (some .int)) (by decide) rfl ?_
  intro p e s m args below meth c s₁ B hml hv
  obtain ⟨rfl, hsz, hP, hE, hD0⟩ := hv
  have hx := B.exec
  have hb := B.bytes
  have hr := B.returns
  have hts := atoms_spec (ws := wsX11_longest) B.pre
  have hown : s.vm.findClass RX11 = some m.cls := findClass_of_methodNamed B.named
  have hlocks := B.notSynchronized
  have hK := hE.1
  have hi11 : ∀ w ∈ u_ws RX11 TX11 16, w ∈ wsX11_longest := fun w h => List.mem_cons_of_mem _ (List.mem_append_left _ (List.mem_append_left _ (List.mem_append_right _ h)))
  subst hsz
  have hD := hD0.self (sz := s.heap.size)
  generalize hAe : va_A (w_c_X11_longest cI cJ cB cZ cO h r) s.heap.size = A at hD ⊢
  have hA : ∀ q : Nat, s.heap.size ≤ q → A q := fun q h => by rw [← hAe]; exact Or.inr h
  have hS : va_S A s.heap s.heap [] := va_S.rf
  have hP : va_P D vwCl [oo h r (r 2) (r 3), dn (r 2) (r 24) (r 25) (r 26) (r 27) (r 28) (r 30) (r 31) (r 33) (r 35)] s.heap := hP
  have hD : va_D A [oo h r (r 2) (r 3), dn (r 2) (r 24) (r 25) (r 26) (r 27) (r 28) (r 30) (r 31) (r 33) (r 35)] := hD
  have hl := lv_entry ([.ref h]) (n := 1) (Nat.le_of_ble_eq_true rfl)
  rw [lg_entry_eq]
  generalize (lg_sl ([.ref h]) ++ List.replicate (1 - (lg_sl ([.ref h])).length) Slot.unset).toArray = ls at hl ⊢
  have hl : lv_has ls 1 [(0, .ref h)] := hl
  obtain ⟨H, hHe⟩ : ∃ H : Heap, H = s.heap := ⟨_, rfl⟩
  rw [← hHe] at hP
  have hS : va_S A s.heap H [] := by rw [hHe]; exact va_S.rf
  refine ct_start hHe ?_
  refine lv_aload_n hx hb dX11_longest_0 rfl (lv_at hl 0 rfl) ?_
  refine va_get (D := D) (ci := 11) (v := .ref (r 2)) (C := RX11) (T := TX11) (N := 16) hx hb hts hi11 hown hK hP 0 rfl rfl 2 (by decide) (hts (.fieldLink RX11 24 "OverHill" "now" "LOverHill$Dance;") (by decide +kernel)) (fun _ h9 => h9) rfl dX11_longest_1 ?_
  refine ct_calli (D := D) (wc := (w_c_X0_stands cI cJ cB cZ cO (r 2) (r 24) (r 25) (r 26) (r 27) (r 28) (r 30) (r 31) (r 33) (r 35))) (wr := [oo h r (r 2) (r 3)]) (va_runV (As := []) (rest := []) ⟨hx, hb, hml, hown, hts⟩ (c_X0_stands l D cI cJ cB cZ cO (r 2) (r 24) (r 25) (r 26) (r 27) (r 28) (r 30) (r 31) (r 33) (r 35) H.size) (cwV 0 hts gX11_longest_X0_stands rfl rfl rfl (by decide +kernel) ⟨Nat.le_of_ble_eq_true rfl, Nat.le_of_ble_eq_true rfl⟩) (ct_preV (T := ct_T cI cJ cB cZ cO) (ci := 0) (q0 := 1) hE hP hD [1] (by decide) rfl rfl rfl) rfl rfl hl.1 rfl (lv_room (Nat.le_of_ble_eq_true rfl)) dX11_longest_4 ⟨Nat.le_of_ble_eq_true rfl, Nat.le_of_ble_eq_true rfl⟩) hP hD hS hA [1] [0] rfl rfl (by decide) (by decide) (fun rz u H locs hw hP hD hS => ?_)
  have hP : va_P D vwCl [oo h r (r 2) (r 3), dn (r 2) (r 24) (r 25) (r 26) (r 27) (r 28) (r 30) (r 31) (r 33) (r 35)] H := hP
  have hD : va_D A [oo h r (r 2) (r 3), dn (r 2) (r 24) (r 25) (r 26) (r 27) (r 28) (r 30) (r 31) (r 33) (r 35)] := hD
  obtain ⟨rfl, hq44⟩ := hw
  refine lv_if_eq (tgt := 24) hx hb dX11_longest_7 (by decide) (fun _ => ?_) (fun hc => absurd hc (by decide))
  refine lv_bipush (v := (-2)) hx hb dX11_longest_24 (by decide) ?_
  have hP9 := hP.sub (ws' := []) [] rfl
  have hD9 := hD.sub (ws' := []) [] (by decide) rfl
  exact W.iret (v := (-2)) hx hb hr (fun t ht hW => ⟨⟨(-2), (), rfl, ⟨rfl, trivial⟩, by rw [ht]; exact hP9, hD9⟩, hS.F ht⟩) hS.2.2 dX11_longest_26
abbrev w_c_X11_together (cI cJ cB cZ cO : ClassId) (h : Nat) (r : Nat → Nat) : va_W := [oo h r (r 2) (r 3), dn (r 2) (r 24) (r 25) (r 26) (r 27) (r 28) (r 30) (r 31) (r 33) (r 35)]
set_option maxHeartbeats 4000000 in
set_option maxRecDepth 100000 in
/-- together, on a new object -/
theorem c_X11_together (l : Launch) (D : va_G) (cI cJ cB cZ cO : ClassId) (h : Nat) (r : Nat → Nat) (x1 : Int32) (x2 : Int32) (sz : Nat) : Met l yX11_together wsX11_together ({ frames := 2, cells := 0, slots := 0, locals := 41 }) (va_Pc [.ref h, .int x1, .int x2] (ct_P D (ct_T cI cJ cB cZ cO) (w_c_X11_together cI cJ cB cZ cO h r) sz)) (va_Ql (fun (rz : Int64) (u : Unit) => (rz = (-2) ∧ True)) (fun (u : Unit) t => ct_Q D (va_A (w_c_X11_together cI cJ cB cZ cO h r) sz) [] t) (va_A (w_c_X11_together cI cJ cB cZ cO h r) sz)) 0 0 (va_A (w_c_X11_together cI cJ cB cZ cO h r) sz) := by
  refine Met.ofW (cc := cX11_together) (maxL := 3) (ret := (some .long)) (by decide) rfl ?_
  intro p e s m args below meth c s₁ B hml hv
  obtain ⟨rfl, hsz, hP, hE, hD0⟩ := hv
  have hx := B.exec
  have hb := B.bytes
  have hr := B.returns
  have hts := atoms_spec (ws := wsX11_together) B.pre
  have hown : s.vm.findClass RX11 = some m.cls := findClass_of_methodNamed B.named
  have hlocks := B.notSynchronized
  have hK := hE.1
  subst hsz
  have hD := hD0.self (sz := s.heap.size)
  generalize hAe : va_A (w_c_X11_together cI cJ cB cZ cO h r) s.heap.size = A at hD ⊢
  have hA : ∀ q : Nat, s.heap.size ≤ q → A q := fun q h => by rw [← hAe]; exact Or.inr h
  have hS : va_S A s.heap s.heap [] := va_S.rf
  have hP : va_P D vwCl [oo h r (r 2) (r 3), dn (r 2) (r 24) (r 25) (r 26) (r 27) (r 28) (r 30) (r 31) (r 33) (r 35)] s.heap := hP
  have hD : va_D A [oo h r (r 2) (r 3), dn (r 2) (r 24) (r 25) (r 26) (r 27) (r 28) (r 30) (r 31) (r 33) (r 35)] := hD
  have hl := lv_entry ([.ref h, .int x1, .int x2]) (n := 3) (Nat.le_of_ble_eq_true rfl)
  rw [lg_entry_eq]
  generalize (lg_sl ([.ref h, .int x1, .int x2]) ++ List.replicate (3 - (lg_sl ([.ref h, .int x1, .int x2])).length) Slot.unset).toArray = ls at hl ⊢
  have hl : lv_has ls 3 [(0, .ref h), (1, .int x1), (2, .int x2)] := hl
  obtain ⟨H, hHe⟩ : ∃ H : Heap, H = s.heap := ⟨_, rfl⟩
  rw [← hHe] at hP
  have hS : va_S A s.heap H [] := by rw [hHe]; exact va_S.rf
  refine ct_start hHe ?_
  refine lv_aload_n hx hb dX11_together_0 rfl (lv_at hl 0 rfl) ?_
  refine lv_iload_n hx hb dX11_together_1 rfl (lv_at hl 1 rfl) ?_
  refine ct_calli (D := D) (wc := (w_c_X11_hasSet cI cJ cB cZ cO h r)) (wr := []) (va_runV (As := [.int x1]) (rest := []) ⟨hx, hb, hml, hown, hts⟩ (c_X11_hasSet l D cI cJ cB cZ cO h r x1 H.size) (cwV 1 hts gX11_together_X11_hasSet rfl rfl rfl (by decide +kernel) ⟨Nat.le_of_ble_eq_true rfl, Nat.le_of_ble_eq_true rfl⟩) (ct_preV (T := ct_T cI cJ cB cZ cO) (ci := 11) (q0 := 0) hE hP hD [0, 1] (by decide) rfl rfl rfl) rfl rfl hl.1 rfl (lv_room (Nat.le_of_ble_eq_true rfl)) dX11_together_2 ⟨Nat.le_of_ble_eq_true rfl, Nat.le_of_ble_eq_true rfl⟩) hP hD hS hA [0, 1] [] rfl rfl (by decide) (by decide) (fun rz u H locs hw hP hD hS => ?_)
  have hP : va_P D vwCl [] H := hP
  have hD : va_D A [] := hD
  obtain ⟨rfl, hq45⟩ := hw
  refine lv_if_eq (tgt := 15) hx hb dX11_together_5 (by decide) (fun _ => ?_) (fun hc => absurd hc (by decide))
  refine lv_ldc2 (v := (-2)) hx hb hown (hts (.constantLong RX11 306 (-2)) (by decide +kernel)) dX11_together_15 ?_
  have hP9 := hP.sub (ws' := []) [] rfl
  have hD9 := hD.sub (ws' := []) [] (by decide) rfl
  exact W.lret (v := (-2)) hx hb hr (fun t ht hW => ⟨⟨(-2), (), rfl, ⟨rfl, trivial⟩, by rw [ht]; exact hP9, hD9⟩, hS.F ht⟩) hS.2.2 dX11_together_18
abbrev w_c_X11_again (cI cJ cB cZ cO : ClassId) (h : Nat) (r : Nat → Nat) : va_W := [oo h r (r 2) (r 3), dn (r 2) (r 24) (r 25) (r 26) (r 27) (r 28) (r 30) (r 31) (r 33) (r 35)]
set_option maxHeartbeats 4000000 in
set_option maxRecDepth 100000 in
/-- again, on a new object -/
theorem c_X11_again (l : Launch) (D : va_G) (cI cJ cB cZ cO : ClassId) (h : Nat) (r : Nat → Nat) (x1 : Int32) (sz : Nat) : Met l yX11_again wsX11_again ({ frames := 2, cells := 0, slots := 0, locals := 41 }) (va_Pc [.ref h, .int x1] (ct_P D (ct_T cI cJ cB cZ cO) (w_c_X11_again cI cJ cB cZ cO h r) sz)) (va_Ql (fun (rz : Int64) (u : Unit) => (rz = (-2) ∧ True)) (fun (u : Unit) t => ct_Q D (va_A (w_c_X11_again cI cJ cB cZ cO h r) sz) [] t) (va_A (w_c_X11_again cI cJ cB cZ cO h r) sz)) 0 0 (va_A (w_c_X11_again cI cJ cB cZ cO h r) sz) := by
  refine Met.ofW (cc := cX11_again) (maxL := 2) (ret := (some .long)) (by decide) rfl ?_
  intro p e s m args below meth c s₁ B hml hv
  obtain ⟨rfl, hsz, hP, hE, hD0⟩ := hv
  have hx := B.exec
  have hb := B.bytes
  have hr := B.returns
  have hts := atoms_spec (ws := wsX11_again) B.pre
  have hown : s.vm.findClass RX11 = some m.cls := findClass_of_methodNamed B.named
  have hlocks := B.notSynchronized
  have hK := hE.1
  subst hsz
  have hD := hD0.self (sz := s.heap.size)
  generalize hAe : va_A (w_c_X11_again cI cJ cB cZ cO h r) s.heap.size = A at hD ⊢
  have hA : ∀ q : Nat, s.heap.size ≤ q → A q := fun q h => by rw [← hAe]; exact Or.inr h
  have hS : va_S A s.heap s.heap [] := va_S.rf
  have hP : va_P D vwCl [oo h r (r 2) (r 3), dn (r 2) (r 24) (r 25) (r 26) (r 27) (r 28) (r 30) (r 31) (r 33) (r 35)] s.heap := hP
  have hD : va_D A [oo h r (r 2) (r 3), dn (r 2) (r 24) (r 25) (r 26) (r 27) (r 28) (r 30) (r 31) (r 33) (r 35)] := hD
  have hl := lv_entry ([.ref h, .int x1]) (n := 2) (Nat.le_of_ble_eq_true rfl)
  rw [lg_entry_eq]
  generalize (lg_sl ([.ref h, .int x1]) ++ List.replicate (2 - (lg_sl ([.ref h, .int x1])).length) Slot.unset).toArray = ls at hl ⊢
  have hl : lv_has ls 2 [(0, .ref h), (1, .int x1)] := hl
  obtain ⟨H, hHe⟩ : ∃ H : Heap, H = s.heap := ⟨_, rfl⟩
  rw [← hHe] at hP
  have hS : va_S A s.heap H [] := by rw [hHe]; exact va_S.rf
  refine ct_start hHe ?_
  refine lv_aload_n hx hb dX11_again_0 rfl (lv_at hl 0 rfl) ?_
  refine lv_iload_n hx hb dX11_again_1 rfl (lv_at hl 1 rfl) ?_
  refine ct_calli (D := D) (wc := (w_c_X11_hasSet cI cJ cB cZ cO h r)) (wr := []) (va_runV (As := [.int x1]) (rest := []) ⟨hx, hb, hml, hown, hts⟩ (c_X11_hasSet l D cI cJ cB cZ cO h r x1 H.size) (cwV 1 hts gX11_again_X11_hasSet rfl rfl rfl (by decide +kernel) ⟨Nat.le_of_ble_eq_true rfl, Nat.le_of_ble_eq_true rfl⟩) (ct_preV (T := ct_T cI cJ cB cZ cO) (ci := 11) (q0 := 0) hE hP hD [0, 1] (by decide) rfl rfl rfl) rfl rfl hl.1 rfl (lv_room (Nat.le_of_ble_eq_true rfl)) dX11_again_2 ⟨Nat.le_of_ble_eq_true rfl, Nat.le_of_ble_eq_true rfl⟩) hP hD hS hA [0, 1] [] rfl rfl (by decide) (by decide) (fun rz u H locs hw hP hD hS => ?_)
  have hP : va_P D vwCl [] H := hP
  have hD : va_D A [] := hD
  obtain ⟨rfl, hq46⟩ := hw
  refine lv_if_ne (tgt := 12) hx hb dX11_again_5 (by decide) (fun hc => absurd hc (by decide)) (fun _ => ?_)
  refine lv_ldc2 (v := (-2)) hx hb hown (hts (.constantLong RX11 306 (-2)) (by decide +kernel)) dX11_again_8 ?_
  have hP9 := hP.sub (ws' := []) [] rfl
  have hD9 := hD.sub (ws' := []) [] (by decide) rfl
  exact W.lret (v := (-2)) hx hb hr (fun t ht hW => ⟨⟨(-2), (), rfl, ⟨rfl, trivial⟩, by rw [ht]; exact hP9, hD9⟩, hS.F ht⟩) hS.2.2 dX11_again_11
abbrev w_c_X11_most (cI cJ cB cZ cO : ClassId) (h : Nat) (r : Nat → Nat) : va_W := [oo h r (r 2) (r 3), dn (r 2) (r 24) (r 25) (r 26) (r 27) (r 28) (r 30) (r 31) (r 33) (r 35)]
set_option maxHeartbeats 4000000 in
set_option maxRecDepth 100000 in
/-- most, on a new object -/
theorem c_X11_most (l : Launch) (D : va_G) (cI cJ cB cZ cO : ClassId) (h : Nat) (r : Nat → Nat) (sz : Nat) : Met l yX11_most wsX11_most ({ frames := 1, cells := 0, slots := 0, locals := 20 }) (va_Pc [.ref h] (ct_P D (ct_T cI cJ cB cZ cO) (w_c_X11_most cI cJ cB cZ cO h r) sz)) (va_Qi (fun (rz : Int32) (u : Unit) => (rz = (-2) ∧ True)) (fun (u : Unit) t => ct_Q D (va_A (w_c_X11_most cI cJ cB cZ cO h r) sz) [] t) (va_A (w_c_X11_most cI cJ cB cZ cO h r) sz)) 0 0 (va_A (w_c_X11_most cI cJ cB cZ cO h r) sz) := by
  refine Met.ofW (cc := cX11_most) (maxL := 1) (ret := (some .int)) (by decide) rfl ?_
  intro p e s m args below meth c s₁ B hml hv
  obtain ⟨rfl, hsz, hP, hE, hD0⟩ := hv
  have hx := B.exec
  have hb := B.bytes
  have hr := B.returns
  have hts := atoms_spec (ws := wsX11_most) B.pre
  have hown : s.vm.findClass RX11 = some m.cls := findClass_of_methodNamed B.named
  have hlocks := B.notSynchronized
  have hK := hE.1
  have hi11 : ∀ w ∈ u_ws RX11 TX11 16, w ∈ wsX11_most := fun w h => List.mem_cons_of_mem _ (List.mem_append_left _ (List.mem_append_left _ (List.mem_append_right _ h)))
  subst hsz
  have hD := hD0.self (sz := s.heap.size)
  generalize hAe : va_A (w_c_X11_most cI cJ cB cZ cO h r) s.heap.size = A at hD ⊢
  have hA : ∀ q : Nat, s.heap.size ≤ q → A q := fun q h => by rw [← hAe]; exact Or.inr h
  have hS : va_S A s.heap s.heap [] := va_S.rf
  have hP : va_P D vwCl [oo h r (r 2) (r 3), dn (r 2) (r 24) (r 25) (r 26) (r 27) (r 28) (r 30) (r 31) (r 33) (r 35)] s.heap := hP
  have hD : va_D A [oo h r (r 2) (r 3), dn (r 2) (r 24) (r 25) (r 26) (r 27) (r 28) (r 30) (r 31) (r 33) (r 35)] := hD
  have hl := lv_entry ([.ref h]) (n := 1) (Nat.le_of_ble_eq_true rfl)
  rw [lg_entry_eq]
  generalize (lg_sl ([.ref h]) ++ List.replicate (1 - (lg_sl ([.ref h])).length) Slot.unset).toArray = ls at hl ⊢
  have hl : lv_has ls 1 [(0, .ref h)] := hl
  obtain ⟨H, hHe⟩ : ∃ H : Heap, H = s.heap := ⟨_, rfl⟩
  rw [← hHe] at hP
  have hS : va_S A s.heap H [] := by rw [hHe]; exact va_S.rf
  refine ct_start hHe ?_
  refine lv_aload_n hx hb dX11_most_0 rfl (lv_at hl 0 rfl) ?_
  refine va_get (D := D) (ci := 11) (v := .ref (r 2)) (C := RX11) (T := TX11) (N := 16) hx hb hts hi11 hown hK hP 0 rfl rfl 2 (by decide) (hts (.fieldLink RX11 24 "OverHill" "now" "LOverHill$Dance;") (by decide +kernel)) (fun _ h9 => h9) rfl dX11_most_1 ?_
  refine ct_calli (D := D) (wc := (w_c_X0_stands cI cJ cB cZ cO (r 2) (r 24) (r 25) (r 26) (r 27) (r 28) (r 30) (r 31) (r 33) (r 35))) (wr := [oo h r (r 2) (r 3)]) (va_runV (As := []) (rest := []) ⟨hx, hb, hml, hown, hts⟩ (c_X0_stands l D cI cJ cB cZ cO (r 2) (r 24) (r 25) (r 26) (r 27) (r 28) (r 30) (r 31) (r 33) (r 35) H.size) (cwV 0 hts gX11_most_X0_stands rfl rfl rfl (by decide +kernel) ⟨Nat.le_of_ble_eq_true rfl, Nat.le_of_ble_eq_true rfl⟩) (ct_preV (T := ct_T cI cJ cB cZ cO) (ci := 0) (q0 := 1) hE hP hD [1] (by decide) rfl rfl rfl) rfl rfl hl.1 rfl (lv_room (Nat.le_of_ble_eq_true rfl)) dX11_most_4 ⟨Nat.le_of_ble_eq_true rfl, Nat.le_of_ble_eq_true rfl⟩) hP hD hS hA [1] [0] rfl rfl (by decide) (by decide) (fun rz u H locs hw hP hD hS => ?_)
  have hP : va_P D vwCl [oo h r (r 2) (r 3), dn (r 2) (r 24) (r 25) (r 26) (r 27) (r 28) (r 30) (r 31) (r 33) (r 35)] H := hP
  have hD : va_D A [oo h r (r 2) (r 3), dn (r 2) (r 24) (r 25) (r 26) (r 27) (r 28) (r 30) (r 31) (r 33) (r 35)] := hD
  obtain ⟨rfl, hq47⟩ := hw
  refine lv_if_eq (tgt := 27) hx hb dX11_most_7 (by decide) (fun _ => ?_) (fun hc => absurd hc (by decide))
  refine lv_bipush (v := (-2)) hx hb dX11_most_27 (by decide) ?_
  have hP9 := hP.sub (ws' := []) [] rfl
  have hD9 := hD.sub (ws' := []) [] (by decide) rfl
  exact W.iret (v := (-2)) hx hb hr (fun t ht hW => ⟨⟨(-2), (), rfl, ⟨rfl, trivial⟩, by rw [ht]; exact hP9, hD9⟩, hS.F ht⟩) hS.2.2 dX11_most_29
abbrev w_c_X11_chorus (cI cJ cB cZ cO : ClassId) (h : Nat) (r : Nat → Nat) : va_W := [oo h r (r 2) (r 3), dn (r 2) (r 24) (r 25) (r 26) (r 27) (r 28) (r 30) (r 31) (r 33) (r 35)]
set_option maxHeartbeats 4000000 in
set_option maxRecDepth 100000 in
/-- chorus, on a new object -/
theorem c_X11_chorus (l : Launch) (D : va_G) (cI cJ cB cZ cO : ClassId) (h : Nat) (r : Nat → Nat) (sz : Nat) : Met l yX11_chorus wsX11_chorus ({ frames := 1, cells := 0, slots := 0, locals := 20 }) (va_Pc [.ref h] (ct_P D (ct_T cI cJ cB cZ cO) (w_c_X11_chorus cI cJ cB cZ cO h r) sz)) (va_Qi (fun (rz : Int32) (u : Unit) => (rz = (-2) ∧ True)) (fun (u : Unit) t => ct_Q D (va_A (w_c_X11_chorus cI cJ cB cZ cO h r) sz) [] t) (va_A (w_c_X11_chorus cI cJ cB cZ cO h r) sz)) 0 0 (va_A (w_c_X11_chorus cI cJ cB cZ cO h r) sz) := by
  refine Met.ofW (cc := cX11_chorus) (maxL := 1) (ret := (some .int)) (by decide) rfl ?_
  intro p e s m args below meth c s₁ B hml hv
  obtain ⟨rfl, hsz, hP, hE, hD0⟩ := hv
  have hx := B.exec
  have hb := B.bytes
  have hr := B.returns
  have hts := atoms_spec (ws := wsX11_chorus) B.pre
  have hown : s.vm.findClass RX11 = some m.cls := findClass_of_methodNamed B.named
  have hlocks := B.notSynchronized
  have hK := hE.1
  have hi11 : ∀ w ∈ u_ws RX11 TX11 16, w ∈ wsX11_chorus := fun w h => List.mem_cons_of_mem _ (List.mem_append_left _ (List.mem_append_left _ (List.mem_append_right _ h)))
  subst hsz
  have hD := hD0.self (sz := s.heap.size)
  generalize hAe : va_A (w_c_X11_chorus cI cJ cB cZ cO h r) s.heap.size = A at hD ⊢
  have hA : ∀ q : Nat, s.heap.size ≤ q → A q := fun q h => by rw [← hAe]; exact Or.inr h
  have hS : va_S A s.heap s.heap [] := va_S.rf
  have hP : va_P D vwCl [oo h r (r 2) (r 3), dn (r 2) (r 24) (r 25) (r 26) (r 27) (r 28) (r 30) (r 31) (r 33) (r 35)] s.heap := hP
  have hD : va_D A [oo h r (r 2) (r 3), dn (r 2) (r 24) (r 25) (r 26) (r 27) (r 28) (r 30) (r 31) (r 33) (r 35)] := hD
  have hl := lv_entry ([.ref h]) (n := 1) (Nat.le_of_ble_eq_true rfl)
  rw [lg_entry_eq]
  generalize (lg_sl ([.ref h]) ++ List.replicate (1 - (lg_sl ([.ref h])).length) Slot.unset).toArray = ls at hl ⊢
  have hl : lv_has ls 1 [(0, .ref h)] := hl
  obtain ⟨H, hHe⟩ : ∃ H : Heap, H = s.heap := ⟨_, rfl⟩
  rw [← hHe] at hP
  have hS : va_S A s.heap H [] := by rw [hHe]; exact va_S.rf
  refine ct_start hHe ?_
  refine lv_aload_n hx hb dX11_chorus_0 rfl (lv_at hl 0 rfl) ?_
  refine va_get (D := D) (ci := 11) (v := .ref (r 2)) (C := RX11) (T := TX11) (N := 16) hx hb hts hi11 hown hK hP 0 rfl rfl 2 (by decide) (hts (.fieldLink RX11 24 "OverHill" "now" "LOverHill$Dance;") (by decide +kernel)) (fun _ h9 => h9) rfl dX11_chorus_1 ?_
  refine ct_calli (D := D) (wc := (w_c_X0_stands cI cJ cB cZ cO (r 2) (r 24) (r 25) (r 26) (r 27) (r 28) (r 30) (r 31) (r 33) (r 35))) (wr := [oo h r (r 2) (r 3)]) (va_runV (As := []) (rest := []) ⟨hx, hb, hml, hown, hts⟩ (c_X0_stands l D cI cJ cB cZ cO (r 2) (r 24) (r 25) (r 26) (r 27) (r 28) (r 30) (r 31) (r 33) (r 35) H.size) (cwV 0 hts gX11_chorus_X0_stands rfl rfl rfl (by decide +kernel) ⟨Nat.le_of_ble_eq_true rfl, Nat.le_of_ble_eq_true rfl⟩) (ct_preV (T := ct_T cI cJ cB cZ cO) (ci := 0) (q0 := 1) hE hP hD [1] (by decide) rfl rfl rfl) rfl rfl hl.1 rfl (lv_room (Nat.le_of_ble_eq_true rfl)) dX11_chorus_4 ⟨Nat.le_of_ble_eq_true rfl, Nat.le_of_ble_eq_true rfl⟩) hP hD hS hA [1] [0] rfl rfl (by decide) (by decide) (fun rz u H locs hw hP hD hS => ?_)
  have hP : va_P D vwCl [oo h r (r 2) (r 3), dn (r 2) (r 24) (r 25) (r 26) (r 27) (r 28) (r 30) (r 31) (r 33) (r 35)] H := hP
  have hD : va_D A [oo h r (r 2) (r 3), dn (r 2) (r 24) (r 25) (r 26) (r 27) (r 28) (r 30) (r 31) (r 33) (r 35)] := hD
  obtain ⟨rfl, hq48⟩ := hw
  refine lv_if_eq (tgt := 24) hx hb dX11_chorus_7 (by decide) (fun _ => ?_) (fun hc => absurd hc (by decide))
  refine lv_bipush (v := (-2)) hx hb dX11_chorus_24 (by decide) ?_
  have hP9 := hP.sub (ws' := []) [] rfl
  have hD9 := hD.sub (ws' := []) [] (by decide) rfl
  exact W.iret (v := (-2)) hx hb hr (fun t ht hW => ⟨⟨(-2), (), rfl, ⟨rfl, trivial⟩, by rw [ht]; exact hP9, hD9⟩, hS.F ht⟩) hS.2.2 dX11_chorus_26
abbrev w_c_X11_treaties (cI cJ cB cZ cO : ClassId) (h : Nat) (r : Nat → Nat) : va_W := [oo h r (r 2) (r 3), dn (r 2) (r 24) (r 25) (r 26) (r 27) (r 28) (r 30) (r 31) (r 33) (r 35)]
set_option maxHeartbeats 4000000 in
set_option maxRecDepth 100000 in
/-- treaties, on a new object -/
theorem c_X11_treaties (l : Launch) (D : va_G) (cI cJ cB cZ cO : ClassId) (h : Nat) (r : Nat → Nat) (sz : Nat) : Met l yX11_treaties wsX11_treaties ({ frames := 1, cells := 0, slots := 0, locals := 20 }) (va_Pc [.ref h] (ct_P D (ct_T cI cJ cB cZ cO) (w_c_X11_treaties cI cJ cB cZ cO h r) sz)) (va_Qi (fun (rz : Int32) (u : Unit) => (rz = (-2) ∧ True)) (fun (u : Unit) t => ct_Q D (va_A (w_c_X11_treaties cI cJ cB cZ cO h r) sz) [] t) (va_A (w_c_X11_treaties cI cJ cB cZ cO h r) sz)) 0 0 (va_A (w_c_X11_treaties cI cJ cB cZ cO h r) sz) := by
  refine Met.ofW (cc := cX11_treaties) (maxL := 4) (ret := (some .int)) (by decide) rfl ?_
  intro p e s m args below meth c s₁ B hml hv
  obtain ⟨rfl, hsz, hP, hE, hD0⟩ := hv
  have hx := B.exec
  have hb := B.bytes
  have hr := B.returns
  have hts := atoms_spec (ws := wsX11_treaties) B.pre
  have hown : s.vm.findClass RX11 = some m.cls := findClass_of_methodNamed B.named
  have hlocks := B.notSynchronized
  have hK := hE.1
  have hi11 : ∀ w ∈ u_ws RX11 TX11 16, w ∈ wsX11_treaties := fun w h => List.mem_cons_of_mem _ (List.mem_append_left _ (List.mem_append_right _ h))
  subst hsz
  have hD := hD0.self (sz := s.heap.size)
  generalize hAe : va_A (w_c_X11_treaties cI cJ cB cZ cO h r) s.heap.size = A at hD ⊢
  have hA : ∀ q : Nat, s.heap.size ≤ q → A q := fun q h => by rw [← hAe]; exact Or.inr h
  have hS : va_S A s.heap s.heap [] := va_S.rf
  have hP : va_P D vwCl [oo h r (r 2) (r 3), dn (r 2) (r 24) (r 25) (r 26) (r 27) (r 28) (r 30) (r 31) (r 33) (r 35)] s.heap := hP
  have hD : va_D A [oo h r (r 2) (r 3), dn (r 2) (r 24) (r 25) (r 26) (r 27) (r 28) (r 30) (r 31) (r 33) (r 35)] := hD
  have hl := lv_entry ([.ref h]) (n := 4) (Nat.le_of_ble_eq_true rfl)
  rw [lg_entry_eq]
  generalize (lg_sl ([.ref h]) ++ List.replicate (4 - (lg_sl ([.ref h])).length) Slot.unset).toArray = ls at hl ⊢
  have hl : lv_has ls 4 [(0, .ref h)] := hl
  obtain ⟨H, hHe⟩ : ∃ H : Heap, H = s.heap := ⟨_, rfl⟩
  rw [← hHe] at hP
  have hS : va_S A s.heap H [] := by rw [hHe]; exact va_S.rf
  refine ct_start hHe ?_
  refine lv_aload_n hx hb dX11_treaties_0 rfl (lv_at hl 0 rfl) ?_
  refine va_get (D := D) (ci := 11) (v := .ref (r 2)) (C := RX11) (T := TX11) (N := 16) hx hb hts hi11 hown hK hP 0 rfl rfl 2 (by decide) (hts (.fieldLink RX11 24 "OverHill" "now" "LOverHill$Dance;") (by decide +kernel)) (fun _ h9 => h9) rfl dX11_treaties_1 ?_
  refine ct_calli (D := D) (wc := (w_c_X0_stands cI cJ cB cZ cO (r 2) (r 24) (r 25) (r 26) (r 27) (r 28) (r 30) (r 31) (r 33) (r 35))) (wr := [oo h r (r 2) (r 3)]) (va_runV (As := []) (rest := []) ⟨hx, hb, hml, hown, hts⟩ (c_X0_stands l D cI cJ cB cZ cO (r 2) (r 24) (r 25) (r 26) (r 27) (r 28) (r 30) (r 31) (r 33) (r 35) H.size) (cwV 0 hts gX11_treaties_X0_stands rfl rfl rfl (by decide +kernel) ⟨Nat.le_of_ble_eq_true rfl, Nat.le_of_ble_eq_true rfl⟩) (ct_preV (T := ct_T cI cJ cB cZ cO) (ci := 0) (q0 := 1) hE hP hD [1] (by decide) rfl rfl rfl) rfl rfl hl.1 rfl (lv_room (Nat.le_of_ble_eq_true rfl)) dX11_treaties_4 ⟨Nat.le_of_ble_eq_true rfl, Nat.le_of_ble_eq_true rfl⟩) hP hD hS hA [1] [0] rfl rfl (by decide) (by decide) (fun rz u H locs hw hP hD hS => ?_)
  have hP : va_P D vwCl [oo h r (r 2) (r 3), dn (r 2) (r 24) (r 25) (r 26) (r 27) (r 28) (r 30) (r 31) (r 33) (r 35)] H := hP
  have hD : va_D A [oo h r (r 2) (r 3), dn (r 2) (r 24) (r 25) (r 26) (r 27) (r 28) (r 30) (r 31) (r 33) (r 35)] := hD
  obtain ⟨rfl, hq49⟩ := hw
  refine lv_if_ne (tgt := 13) hx hb dX11_treaties_7 (by decide) (fun hc => absurd hc (by decide)) (fun _ => ?_)
  refine lv_bipush (v := (-2)) hx hb dX11_treaties_10 (by decide) ?_
  have hP9 := hP.sub (ws' := []) [] rfl
  have hD9 := hD.sub (ws' := []) [] (by decide) rfl
  exact W.iret (v := (-2)) hx hb hr (fun t ht hW => ⟨⟨(-2), (), rfl, ⟨rfl, trivial⟩, by rw [ht]; exact hP9, hD9⟩, hS.F ht⟩) hS.2.2 dX11_treaties_12
abbrev w_c_X11_leads (cI cJ cB cZ cO : ClassId) (h : Nat) (r : Nat → Nat) : va_W := [oo h r (r 2) (r 3), dn (r 2) (r 24) (r 25) (r 26) (r 27) (r 28) (r 30) (r 31) (r 33) (r 35)]
set_option maxHeartbeats 4000000 in
set_option maxRecDepth 100000 in
/-- leads, on a new object -/
theorem c_X11_leads (l : Launch) (D : va_G) (cI cJ cB cZ cO : ClassId) (h : Nat) (r : Nat → Nat) (x1 : Int32) (sz : Nat) : Met l yX11_leads wsX11_leads ({ frames := 1, cells := 0, slots := 0, locals := 20 }) (va_Pc [.ref h, .int x1] (ct_P D (ct_T cI cJ cB cZ cO) (w_c_X11_leads cI cJ cB cZ cO h r) sz)) (va_Qi (fun (rz : Int32) (u : Unit) => (rz = (-2) ∧ True)) (fun (u : Unit) t => ct_Q D (va_A (w_c_X11_leads cI cJ cB cZ cO h r) sz) [] t) (va_A (w_c_X11_leads cI cJ cB cZ cO h r) sz)) 0 0 (va_A (w_c_X11_leads cI cJ cB cZ cO h r) sz) := by
  refine Met.ofW (cc := cX11_leads) (maxL := 5) (ret := (some .int)) (by decide) rfl ?_
  intro p e s m args below meth c s₁ B hml hv
  obtain ⟨rfl, hsz, hP, hE, hD0⟩ := hv
  have hx := B.exec
  have hb := B.bytes
  have hr := B.returns
  have hts := atoms_spec (ws := wsX11_leads) B.pre
  have hown : s.vm.findClass RX11 = some m.cls := findClass_of_methodNamed B.named
  have hlocks := B.notSynchronized
  have hK := hE.1
  have hi11 : ∀ w ∈ u_ws RX11 TX11 16, w ∈ wsX11_leads := fun w h => List.mem_cons_of_mem _ (List.mem_append_left _ (List.mem_append_right _ h))
  subst hsz
  have hD := hD0.self (sz := s.heap.size)
  generalize hAe : va_A (w_c_X11_leads cI cJ cB cZ cO h r) s.heap.size = A at hD ⊢
  have hA : ∀ q : Nat, s.heap.size ≤ q → A q := fun q h => by rw [← hAe]; exact Or.inr h
  have hS : va_S A s.heap s.heap [] := va_S.rf
  have hP : va_P D vwCl [oo h r (r 2) (r 3), dn (r 2) (r 24) (r 25) (r 26) (r 27) (r 28) (r 30) (r 31) (r 33) (r 35)] s.heap := hP
  have hD : va_D A [oo h r (r 2) (r 3), dn (r 2) (r 24) (r 25) (r 26) (r 27) (r 28) (r 30) (r 31) (r 33) (r 35)] := hD
  have hl := lv_entry ([.ref h, .int x1]) (n := 5) (Nat.le_of_ble_eq_true rfl)
  rw [lg_entry_eq]
  generalize (lg_sl ([.ref h, .int x1]) ++ List.replicate (5 - (lg_sl ([.ref h, .int x1])).length) Slot.unset).toArray = ls at hl ⊢
  have hl : lv_has ls 5 [(0, .ref h), (1, .int x1)] := hl
  obtain ⟨H, hHe⟩ : ∃ H : Heap, H = s.heap := ⟨_, rfl⟩
  rw [← hHe] at hP
  have hS : va_S A s.heap H [] := by rw [hHe]; exact va_S.rf
  refine ct_start hHe ?_
  refine lv_aload_n hx hb dX11_leads_0 rfl (lv_at hl 0 rfl) ?_
  refine va_get (D := D) (ci := 11) (v := .ref (r 2)) (C := RX11) (T := TX11) (N := 16) hx hb hts hi11 hown hK hP 0 rfl rfl 2 (by decide) (hts (.fieldLink RX11 24 "OverHill" "now" "LOverHill$Dance;") (by decide +kernel)) (fun _ h9 => h9) rfl dX11_leads_1 ?_
  refine ct_calli (D := D) (wc := (w_c_X0_stands cI cJ cB cZ cO (r 2) (r 24) (r 25) (r 26) (r 27) (r 28) (r 30) (r 31) (r 33) (r 35))) (wr := [oo h r (r 2) (r 3)]) (va_runV (As := []) (rest := []) ⟨hx, hb, hml, hown, hts⟩ (c_X0_stands l D cI cJ cB cZ cO (r 2) (r 24) (r 25) (r 26) (r 27) (r 28) (r 30) (r 31) (r 33) (r 35) H.size) (cwV 0 hts gX11_leads_X0_stands rfl rfl rfl (by decide +kernel) ⟨Nat.le_of_ble_eq_true rfl, Nat.le_of_ble_eq_true rfl⟩) (ct_preV (T := ct_T cI cJ cB cZ cO) (ci := 0) (q0 := 1) hE hP hD [1] (by decide) rfl rfl rfl) rfl rfl hl.1 rfl (lv_room (Nat.le_of_ble_eq_true rfl)) dX11_leads_4 ⟨Nat.le_of_ble_eq_true rfl, Nat.le_of_ble_eq_true rfl⟩) hP hD hS hA [1] [0] rfl rfl (by decide) (by decide) (fun rz u H locs hw hP hD hS => ?_)
  have hP : va_P D vwCl [oo h r (r 2) (r 3), dn (r 2) (r 24) (r 25) (r 26) (r 27) (r 28) (r 30) (r 31) (r 33) (r 35)] H := hP
  have hD : va_D A [oo h r (r 2) (r 3), dn (r 2) (r 24) (r 25) (r 26) (r 27) (r 28) (r 30) (r 31) (r 33) (r 35)] := hD
  obtain ⟨rfl, hq50⟩ := hw
  refine lv_if_eq (tgt := 18) hx hb dX11_leads_7 (by decide) (fun _ => ?_) (fun hc => absurd hc (by decide))
  refine lv_bipush (v := (-2)) hx hb dX11_leads_18 (by decide) ?_
  have hP9 := hP.sub (ws' := []) [] rfl
  have hD9 := hD.sub (ws' := []) [] (by decide) rfl
  exact W.iret (v := (-2)) hx hb hr (fun t ht hW => ⟨⟨(-2), (), rfl, ⟨rfl, trivial⟩, by rw [ht]; exact hP9, hD9⟩, hS.F ht⟩) hS.2.2 dX11_leads_20
abbrev w_c_X11_game (cI cJ cB cZ cO : ClassId) (h : Nat) (r : Nat → Nat) : va_W := [oo h r (r 2) (r 3), dn (r 2) (r 24) (r 25) (r 26) (r 27) (r 28) (r 30) (r 31) (r 33) (r 35)]
set_option maxHeartbeats 4000000 in
set_option maxRecDepth 100000 in
/-- game, on a new object -/
theorem c_X11_game (l : Launch) (D : va_G) (cI cJ cB cZ cO : ClassId) (h : Nat) (r : Nat → Nat) (x1 : Int32) (sz : Nat) : Met l yX11_game wsX11_game ({ frames := 1, cells := 0, slots := 0, locals := 20 }) (va_Pc [.ref h, .int x1] (ct_P D (ct_T cI cJ cB cZ cO) (w_c_X11_game cI cJ cB cZ cO h r) sz)) (va_Qi (fun (rz : Int32) (u : Unit) => (rz = (-2) ∧ True)) (fun (u : Unit) t => ct_Q D (va_A (w_c_X11_game cI cJ cB cZ cO h r) sz) [] t) (va_A (w_c_X11_game cI cJ cB cZ cO h r) sz)) 0 0 (va_A (w_c_X11_game cI cJ cB cZ cO h r) sz) := by
  refine Met.ofW (cc := cX11_game) (maxL := 2) (ret := (some .int)) (by decide) rfl ?_
  intro p e s m args below meth c s₁ B hml hv
  obtain ⟨rfl, hsz, hP, hE, hD0⟩ := hv
  have hx := B.exec
  have hb := B.bytes
  have hr := B.returns
  have hts := atoms_spec (ws := wsX11_game) B.pre
  have hown : s.vm.findClass RX11 = some m.cls := findClass_of_methodNamed B.named
  have hlocks := B.notSynchronized
  have hK := hE.1
  have hi11 : ∀ w ∈ u_ws RX11 TX11 16, w ∈ wsX11_game := fun w h => List.mem_cons_of_mem _ (List.mem_append_left _ (List.mem_append_left _ (List.mem_append_right _ h)))
  subst hsz
  have hD := hD0.self (sz := s.heap.size)
  generalize hAe : va_A (w_c_X11_game cI cJ cB cZ cO h r) s.heap.size = A at hD ⊢
  have hA : ∀ q : Nat, s.heap.size ≤ q → A q := fun q h => by rw [← hAe]; exact Or.inr h
  have hS : va_S A s.heap s.heap [] := va_S.rf
  have hP : va_P D vwCl [oo h r (r 2) (r 3), dn (r 2) (r 24) (r 25) (r 26) (r 27) (r 28) (r 30) (r 31) (r 33) (r 35)] s.heap := hP
  have hD : va_D A [oo h r (r 2) (r 3), dn (r 2) (r 24) (r 25) (r 26) (r 27) (r 28) (r 30) (r 31) (r 33) (r 35)] := hD
  have hl := lv_entry ([.ref h, .int x1]) (n := 2) (Nat.le_of_ble_eq_true rfl)
  rw [lg_entry_eq]
  generalize (lg_sl ([.ref h, .int x1]) ++ List.replicate (2 - (lg_sl ([.ref h, .int x1])).length) Slot.unset).toArray = ls at hl ⊢
  have hl : lv_has ls 2 [(0, .ref h), (1, .int x1)] := hl
  obtain ⟨H, hHe⟩ : ∃ H : Heap, H = s.heap := ⟨_, rfl⟩
  rw [← hHe] at hP
  have hS : va_S A s.heap H [] := by rw [hHe]; exact va_S.rf
  refine ct_start hHe ?_
  refine lv_aload_n hx hb dX11_game_0 rfl (lv_at hl 0 rfl) ?_
  refine va_get (D := D) (ci := 11) (v := .ref (r 2)) (C := RX11) (T := TX11) (N := 16) hx hb hts hi11 hown hK hP 0 rfl rfl 2 (by decide) (hts (.fieldLink RX11 24 "OverHill" "now" "LOverHill$Dance;") (by decide +kernel)) (fun _ h9 => h9) rfl dX11_game_1 ?_
  refine ct_calli (D := D) (wc := (w_c_X0_stands cI cJ cB cZ cO (r 2) (r 24) (r 25) (r 26) (r 27) (r 28) (r 30) (r 31) (r 33) (r 35))) (wr := [oo h r (r 2) (r 3)]) (va_runV (As := []) (rest := []) ⟨hx, hb, hml, hown, hts⟩ (c_X0_stands l D cI cJ cB cZ cO (r 2) (r 24) (r 25) (r 26) (r 27) (r 28) (r 30) (r 31) (r 33) (r 35) H.size) (cwV 0 hts gX11_game_X0_stands rfl rfl rfl (by decide +kernel) ⟨Nat.le_of_ble_eq_true rfl, Nat.le_of_ble_eq_true rfl⟩) (ct_preV (T := ct_T cI cJ cB cZ cO) (ci := 0) (q0 := 1) hE hP hD [1] (by decide) rfl rfl rfl) rfl rfl hl.1 rfl (lv_room (Nat.le_of_ble_eq_true rfl)) dX11_game_4 ⟨Nat.le_of_ble_eq_true rfl, Nat.le_of_ble_eq_true rfl⟩) hP hD hS hA [1] [0] rfl rfl (by decide) (by decide) (fun rz u H locs hw hP hD hS => ?_)
  have hP : va_P D vwCl [oo h r (r 2) (r 3), dn (r 2) (r 24) (r 25) (r 26) (r 27) (r 28) (r 30) (r 31) (r 33) (r 35)] H := hP
  have hD : va_D A [oo h r (r 2) (r 3), dn (r 2) (r 24) (r 25) (r 26) (r 27) (r 28) (r 30) (r 31) (r 33) (r 35)] := hD
  obtain ⟨rfl, hq51⟩ := hw
  refine lv_if_eq (tgt := 17) hx hb dX11_game_7 (by decide) (fun _ => ?_) (fun hc => absurd hc (by decide))
  refine lv_bipush (v := (-2)) hx hb dX11_game_17 (by decide) ?_
  have hP9 := hP.sub (ws' := []) [] rfl
  have hD9 := hD.sub (ws' := []) [] (by decide) rfl
  exact W.iret (v := (-2)) hx hb hr (fun t ht hW => ⟨⟨(-2), (), rfl, ⟨rfl, trivial⟩, by rw [ht]; exact hP9, hD9⟩, hS.F ht⟩) hS.2.2 dX11_game_19
abbrev w_c_X11_plays (cI cJ cB cZ cO : ClassId) (h : Nat) (r : Nat → Nat) : va_W := [oo h r (r 2) (r 3), dn (r 2) (r 24) (r 25) (r 26) (r 27) (r 28) (r 30) (r 31) (r 33) (r 35)]
set_option maxHeartbeats 4000000 in
set_option maxRecDepth 100000 in
/-- plays, on a new object -/
theorem c_X11_plays (l : Launch) (D : va_G) (cI cJ cB cZ cO : ClassId) (h : Nat) (r : Nat → Nat) (x1 : Int32) (sz : Nat) : Met l yX11_plays wsX11_plays ({ frames := 1, cells := 0, slots := 0, locals := 20 }) (va_Pc [.ref h, .int x1] (ct_P D (ct_T cI cJ cB cZ cO) (w_c_X11_plays cI cJ cB cZ cO h r) sz)) (va_Qi (fun (rz : Int32) (u : Unit) => (rz = (-2) ∧ True)) (fun (u : Unit) t => ct_Q D (va_A (w_c_X11_plays cI cJ cB cZ cO h r) sz) [] t) (va_A (w_c_X11_plays cI cJ cB cZ cO h r) sz)) 0 0 (va_A (w_c_X11_plays cI cJ cB cZ cO h r) sz) := by
  refine Met.ofW (cc := cX11_plays) (maxL := 2) (ret := (some .int)) (by decide) rfl ?_
  intro p e s m args below meth c s₁ B hml hv
  obtain ⟨rfl, hsz, hP, hE, hD0⟩ := hv
  have hx := B.exec
  have hb := B.bytes
  have hr := B.returns
  have hts := atoms_spec (ws := wsX11_plays) B.pre
  have hown : s.vm.findClass RX11 = some m.cls := findClass_of_methodNamed B.named
  have hlocks := B.notSynchronized
  have hK := hE.1
  have hi11 : ∀ w ∈ u_ws RX11 TX11 16, w ∈ wsX11_plays := fun w h => List.mem_cons_of_mem _ (List.mem_append_left _ (List.mem_append_left _ (List.mem_append_right _ h)))
  subst hsz
  have hD := hD0.self (sz := s.heap.size)
  generalize hAe : va_A (w_c_X11_plays cI cJ cB cZ cO h r) s.heap.size = A at hD ⊢
  have hA : ∀ q : Nat, s.heap.size ≤ q → A q := fun q h => by rw [← hAe]; exact Or.inr h
  have hS : va_S A s.heap s.heap [] := va_S.rf
  have hP : va_P D vwCl [oo h r (r 2) (r 3), dn (r 2) (r 24) (r 25) (r 26) (r 27) (r 28) (r 30) (r 31) (r 33) (r 35)] s.heap := hP
  have hD : va_D A [oo h r (r 2) (r 3), dn (r 2) (r 24) (r 25) (r 26) (r 27) (r 28) (r 30) (r 31) (r 33) (r 35)] := hD
  have hl := lv_entry ([.ref h, .int x1]) (n := 2) (Nat.le_of_ble_eq_true rfl)
  rw [lg_entry_eq]
  generalize (lg_sl ([.ref h, .int x1]) ++ List.replicate (2 - (lg_sl ([.ref h, .int x1])).length) Slot.unset).toArray = ls at hl ⊢
  have hl : lv_has ls 2 [(0, .ref h), (1, .int x1)] := hl
  obtain ⟨H, hHe⟩ : ∃ H : Heap, H = s.heap := ⟨_, rfl⟩
  rw [← hHe] at hP
  have hS : va_S A s.heap H [] := by rw [hHe]; exact va_S.rf
  refine ct_start hHe ?_
  refine lv_aload_n hx hb dX11_plays_0 rfl (lv_at hl 0 rfl) ?_
  refine va_get (D := D) (ci := 11) (v := .ref (r 2)) (C := RX11) (T := TX11) (N := 16) hx hb hts hi11 hown hK hP 0 rfl rfl 2 (by decide) (hts (.fieldLink RX11 24 "OverHill" "now" "LOverHill$Dance;") (by decide +kernel)) (fun _ h9 => h9) rfl dX11_plays_1 ?_
  refine ct_calli (D := D) (wc := (w_c_X0_stands cI cJ cB cZ cO (r 2) (r 24) (r 25) (r 26) (r 27) (r 28) (r 30) (r 31) (r 33) (r 35))) (wr := [oo h r (r 2) (r 3)]) (va_runV (As := []) (rest := []) ⟨hx, hb, hml, hown, hts⟩ (c_X0_stands l D cI cJ cB cZ cO (r 2) (r 24) (r 25) (r 26) (r 27) (r 28) (r 30) (r 31) (r 33) (r 35) H.size) (cwV 0 hts gX11_plays_X0_stands rfl rfl rfl (by decide +kernel) ⟨Nat.le_of_ble_eq_true rfl, Nat.le_of_ble_eq_true rfl⟩) (ct_preV (T := ct_T cI cJ cB cZ cO) (ci := 0) (q0 := 1) hE hP hD [1] (by decide) rfl rfl rfl) rfl rfl hl.1 rfl (lv_room (Nat.le_of_ble_eq_true rfl)) dX11_plays_4 ⟨Nat.le_of_ble_eq_true rfl, Nat.le_of_ble_eq_true rfl⟩) hP hD hS hA [1] [0] rfl rfl (by decide) (by decide) (fun rz u H locs hw hP hD hS => ?_)
  have hP : va_P D vwCl [oo h r (r 2) (r 3), dn (r 2) (r 24) (r 25) (r 26) (r 27) (r 28) (r 30) (r 31) (r 33) (r 35)] H := hP
  have hD : va_D A [oo h r (r 2) (r 3), dn (r 2) (r 24) (r 25) (r 26) (r 27) (r 28) (r 30) (r 31) (r 33) (r 35)] := hD
  obtain ⟨rfl, hq52⟩ := hw
  refine lv_if_eq (tgt := 32) hx hb dX11_plays_7 (by decide) (fun _ => ?_) (fun hc => absurd hc (by decide))
  refine lv_bipush (v := (-2)) hx hb dX11_plays_32 (by decide) ?_
  have hP9 := hP.sub (ws' := []) [] rfl
  have hD9 := hD.sub (ws' := []) [] (by decide) rfl
  exact W.iret (v := (-2)) hx hb hr (fun t ht hW => ⟨⟨(-2), (), rfl, ⟨rfl, trivial⟩, by rw [ht]; exact hP9, hD9⟩, hS.F ht⟩) hS.2.2 dX11_plays_34
abbrev w_c_X11_drawn (cI cJ cB cZ cO : ClassId) (h : Nat) (r : Nat → Nat) : va_W := [oo h r (r 2) (r 3), dn (r 2) (r 24) (r 25) (r 26) (r 27) (r 28) (r 30) (r 31) (r 33) (r 35)]
set_option maxHeartbeats 4000000 in
set_option maxRecDepth 100000 in
/-- drawn, on a new object -/
theorem c_X11_drawn (l : Launch) (D : va_G) (cI cJ cB cZ cO : ClassId) (h : Nat) (r : Nat → Nat) (x1 : Int32) (x2 : Int32) (x3 : Int32) (sz : Nat) : Met l yX11_drawn wsX11_drawn ({ frames := 2, cells := 0, slots := 0, locals := 42 }) (va_Pc [.ref h, .int x1, .int x2, .int x3] (ct_P D (ct_T cI cJ cB cZ cO) (w_c_X11_drawn cI cJ cB cZ cO h r) sz)) (va_Qi (fun (rz : Int32) (u : Unit) => (rz = (-2) ∧ True)) (fun (u : Unit) t => ct_Q D (va_A (w_c_X11_drawn cI cJ cB cZ cO h r) sz) [] t) (va_A (w_c_X11_drawn cI cJ cB cZ cO h r) sz)) 0 0 (va_A (w_c_X11_drawn cI cJ cB cZ cO h r) sz) := by
  refine Met.ofW (cc := cX11_drawn) (maxL := 4) (ret := (some .int)) (by decide) rfl ?_
  intro p e s m args below meth c s₁ B hml hv
  obtain ⟨rfl, hsz, hP, hE, hD0⟩ := hv
  have hx := B.exec
  have hb := B.bytes
  have hr := B.returns
  have hts := atoms_spec (ws := wsX11_drawn) B.pre
  have hown : s.vm.findClass RX11 = some m.cls := findClass_of_methodNamed B.named
  have hlocks := B.notSynchronized
  have hK := hE.1
  subst hsz
  have hD := hD0.self (sz := s.heap.size)
  generalize hAe : va_A (w_c_X11_drawn cI cJ cB cZ cO h r) s.heap.size = A at hD ⊢
  have hA : ∀ q : Nat, s.heap.size ≤ q → A q := fun q h => by rw [← hAe]; exact Or.inr h
  have hS : va_S A s.heap s.heap [] := va_S.rf
  have hP : va_P D vwCl [oo h r (r 2) (r 3), dn (r 2) (r 24) (r 25) (r 26) (r 27) (r 28) (r 30) (r 31) (r 33) (r 35)] s.heap := hP
  have hD : va_D A [oo h r (r 2) (r 3), dn (r 2) (r 24) (r 25) (r 26) (r 27) (r 28) (r 30) (r 31) (r 33) (r 35)] := hD
  have hl := lv_entry ([.ref h, .int x1, .int x2, .int x3]) (n := 4) (Nat.le_of_ble_eq_true rfl)
  rw [lg_entry_eq]
  generalize (lg_sl ([.ref h, .int x1, .int x2, .int x3]) ++ List.replicate (4 - (lg_sl ([.ref h, .int x1, .int x2, .int x3])).length) Slot.unset).toArray = ls at hl ⊢
  have hl : lv_has ls 4 [(0, .ref h), (1, .int x1), (2, .int x2), (3, .int x3)] := hl
  obtain ⟨H, hHe⟩ : ∃ H : Heap, H = s.heap := ⟨_, rfl⟩
  rw [← hHe] at hP
  have hS : va_S A s.heap H [] := by rw [hHe]; exact va_S.rf
  refine ct_start hHe ?_
  refine lv_aload_n hx hb dX11_drawn_0 rfl (lv_at hl 0 rfl) ?_
  refine lv_iload_n hx hb dX11_drawn_1 rfl (lv_at hl 1 rfl) ?_
  refine lv_iload_n hx hb dX11_drawn_2 rfl (lv_at hl 2 rfl) ?_
  refine ct_calli (D := D) (wc := (w_c_X11_hasNight cI cJ cB cZ cO h r)) (wr := []) (va_runV (As := [.int x1, .int x2]) (rest := []) ⟨hx, hb, hml, hown, hts⟩ (c_X11_hasNight l D cI cJ cB cZ cO h r x1 x2 H.size) (cwV 2 hts gX11_drawn_X11_hasNight rfl rfl rfl (by decide +kernel) ⟨Nat.le_of_ble_eq_true rfl, Nat.le_of_ble_eq_true rfl⟩) (ct_preV (T := ct_T cI cJ cB cZ cO) (ci := 11) (q0 := 0) hE hP hD [0, 1] (by decide) rfl rfl rfl) rfl rfl hl.1 rfl (lv_room (Nat.le_of_ble_eq_true rfl)) dX11_drawn_3 ⟨Nat.le_of_ble_eq_true rfl, Nat.le_of_ble_eq_true rfl⟩) hP hD hS hA [0, 1] [] rfl rfl (by decide) (by decide) (fun rz u H locs hw hP hD hS => ?_)
  have hP : va_P D vwCl [] H := hP
  have hD : va_D A [] := hD
  obtain ⟨rfl, hq53⟩ := hw
  refine lv_if_eq (tgt := 17) hx hb dX11_drawn_6 (by decide) (fun _ => ?_) (fun hc => absurd hc (by decide))
  refine lv_bipush (v := (-2)) hx hb dX11_drawn_17 (by decide) ?_
  have hP9 := hP.sub (ws' := []) [] rfl
  have hD9 := hD.sub (ws' := []) [] (by decide) rfl
  exact W.iret (v := (-2)) hx hb hr (fun t ht hW => ⟨⟨(-2), (), rfl, ⟨rfl, trivial⟩, by rw [ht]; exact hP9, hD9⟩, hS.F ht⟩) hS.2.2 dX11_drawn_19
abbrev w_c_X11_nights (cI cJ cB cZ cO : ClassId) (h : Nat) (r : Nat → Nat) : va_W := [oo h r (r 2) (r 3), dn (r 2) (r 24) (r 25) (r 26) (r 27) (r 28) (r 30) (r 31) (r 33) (r 35)]
set_option maxHeartbeats 4000000 in
set_option maxRecDepth 100000 in
/-- nights, on a new object -/
theorem c_X11_nights (l : Launch) (D : va_G) (cI cJ cB cZ cO : ClassId) (h : Nat) (r : Nat → Nat) (x1 : Int32) (x2 : Int32) (x3 : Int32) (sz : Nat) : Met l yX11_nights wsX11_nights ({ frames := 2, cells := 0, slots := 0, locals := 42 }) (va_Pc [.ref h, .int x1, .int x2, .int x3] (ct_P D (ct_T cI cJ cB cZ cO) (w_c_X11_nights cI cJ cB cZ cO h r) sz)) (va_Qi (fun (rz : Int32) (u : Unit) => (rz = (-2) ∧ True)) (fun (u : Unit) t => ct_Q D (va_A (w_c_X11_nights cI cJ cB cZ cO h r) sz) [] t) (va_A (w_c_X11_nights cI cJ cB cZ cO h r) sz)) 0 0 (va_A (w_c_X11_nights cI cJ cB cZ cO h r) sz) := by
  refine Met.ofW (cc := cX11_nights) (maxL := 6) (ret := (some .int)) (by decide) rfl ?_
  intro p e s m args below meth c s₁ B hml hv
  obtain ⟨rfl, hsz, hP, hE, hD0⟩ := hv
  have hx := B.exec
  have hb := B.bytes
  have hr := B.returns
  have hts := atoms_spec (ws := wsX11_nights) B.pre
  have hown : s.vm.findClass RX11 = some m.cls := findClass_of_methodNamed B.named
  have hlocks := B.notSynchronized
  have hK := hE.1
  subst hsz
  have hD := hD0.self (sz := s.heap.size)
  generalize hAe : va_A (w_c_X11_nights cI cJ cB cZ cO h r) s.heap.size = A at hD ⊢
  have hA : ∀ q : Nat, s.heap.size ≤ q → A q := fun q h => by rw [← hAe]; exact Or.inr h
  have hS : va_S A s.heap s.heap [] := va_S.rf
  have hP : va_P D vwCl [oo h r (r 2) (r 3), dn (r 2) (r 24) (r 25) (r 26) (r 27) (r 28) (r 30) (r 31) (r 33) (r 35)] s.heap := hP
  have hD : va_D A [oo h r (r 2) (r 3), dn (r 2) (r 24) (r 25) (r 26) (r 27) (r 28) (r 30) (r 31) (r 33) (r 35)] := hD
  have hl := lv_entry ([.ref h, .int x1, .int x2, .int x3]) (n := 6) (Nat.le_of_ble_eq_true rfl)
  rw [lg_entry_eq]
  generalize (lg_sl ([.ref h, .int x1, .int x2, .int x3]) ++ List.replicate (6 - (lg_sl ([.ref h, .int x1, .int x2, .int x3])).length) Slot.unset).toArray = ls at hl ⊢
  have hl : lv_has ls 6 [(0, .ref h), (1, .int x1), (2, .int x2), (3, .int x3)] := hl
  obtain ⟨H, hHe⟩ : ∃ H : Heap, H = s.heap := ⟨_, rfl⟩
  rw [← hHe] at hP
  have hS : va_S A s.heap H [] := by rw [hHe]; exact va_S.rf
  refine ct_start hHe ?_
  refine lv_aload_n hx hb dX11_nights_0 rfl (lv_at hl 0 rfl) ?_
  refine lv_iload_n hx hb dX11_nights_1 rfl (lv_at hl 1 rfl) ?_
  refine lv_iload_n hx hb dX11_nights_2 rfl (lv_at hl 3 rfl) ?_
  refine ct_calli (D := D) (wc := (w_c_X11_hasNight cI cJ cB cZ cO h r)) (wr := []) (va_runV (As := [.int x1, .int x3]) (rest := []) ⟨hx, hb, hml, hown, hts⟩ (c_X11_hasNight l D cI cJ cB cZ cO h r x1 x3 H.size) (cwV 2 hts gX11_nights_X11_hasNight rfl rfl rfl (by decide +kernel) ⟨Nat.le_of_ble_eq_true rfl, Nat.le_of_ble_eq_true rfl⟩) (ct_preV (T := ct_T cI cJ cB cZ cO) (ci := 11) (q0 := 0) hE hP hD [0, 1] (by decide) rfl rfl rfl) rfl rfl hl.1 rfl (lv_room (Nat.le_of_ble_eq_true rfl)) dX11_nights_3 ⟨Nat.le_of_ble_eq_true rfl, Nat.le_of_ble_eq_true rfl⟩) hP hD hS hA [0, 1] [] rfl rfl (by decide) (by decide) (fun rz u H locs hw hP hD hS => ?_)
  have hP : va_P D vwCl [] H := hP
  have hD : va_D A [] := hD
  obtain ⟨rfl, hq54⟩ := hw
  refine lv_if_eq (tgt := 20) hx hb dX11_nights_6 (by decide) (fun _ => ?_) (fun hc => absurd hc (by decide))
  refine lv_bipush (v := (-2)) hx hb dX11_nights_20 (by decide) ?_
  have hP9 := hP.sub (ws' := []) [] rfl
  have hD9 := hD.sub (ws' := []) [] (by decide) rfl
  exact W.iret (v := (-2)) hx hb hr (fun t ht hW => ⟨⟨(-2), (), rfl, ⟨rfl, trivial⟩, by rw [ht]; exact hP9, hD9⟩, hS.F ht⟩) hS.2.2 dX11_nights_22
abbrev w_c_X11_stumble (cI cJ cB cZ cO : ClassId) (h : Nat) (r : Nat → Nat) : va_W := [oo h r (r 2) (r 3), dn (r 2) (r 24) (r 25) (r 26) (r 27) (r 28) (r 30) (r 31) (r 33) (r 35)]
set_option maxHeartbeats 4000000 in
set_option maxRecDepth 100000 in
/-- stumble, on a new object -/
theorem c_X11_stumble (l : Launch) (D : va_G) (cI cJ cB cZ cO : ClassId) (h : Nat) (r : Nat → Nat) (x1 : Int32) (x2 : Int32) (x3 : Int32) (x4 : Int32) (sz : Nat) : Met l yX11_stumble wsX11_stumble ({ frames := 2, cells := 0, slots := 0, locals := 42 }) (va_Pc [.ref h, .int x1, .int x2, .int x3, .int x4] (ct_P D (ct_T cI cJ cB cZ cO) (w_c_X11_stumble cI cJ cB cZ cO h r) sz)) (va_Qi (fun (rz : Int32) (u : Unit) => (rz = (-2) ∧ True)) (fun (u : Unit) t => ct_Q D (va_A (w_c_X11_stumble cI cJ cB cZ cO h r) sz) [] t) (va_A (w_c_X11_stumble cI cJ cB cZ cO h r) sz)) 0 0 (va_A (w_c_X11_stumble cI cJ cB cZ cO h r) sz) := by
  refine Met.ofW (cc := cX11_stumble) (maxL := 6) (ret := (some .int)) (by decide) rfl ?_
  intro p e s m args below meth c s₁ B hml hv
  obtain ⟨rfl, hsz, hP, hE, hD0⟩ := hv
  have hx := B.exec
  have hb := B.bytes
  have hr := B.returns
  have hts := atoms_spec (ws := wsX11_stumble) B.pre
  have hown : s.vm.findClass RX11 = some m.cls := findClass_of_methodNamed B.named
  have hlocks := B.notSynchronized
  have hK := hE.1
  subst hsz
  have hD := hD0.self (sz := s.heap.size)
  generalize hAe : va_A (w_c_X11_stumble cI cJ cB cZ cO h r) s.heap.size = A at hD ⊢
  have hA : ∀ q : Nat, s.heap.size ≤ q → A q := fun q h => by rw [← hAe]; exact Or.inr h
  have hS : va_S A s.heap s.heap [] := va_S.rf
  have hP : va_P D vwCl [oo h r (r 2) (r 3), dn (r 2) (r 24) (r 25) (r 26) (r 27) (r 28) (r 30) (r 31) (r 33) (r 35)] s.heap := hP
  have hD : va_D A [oo h r (r 2) (r 3), dn (r 2) (r 24) (r 25) (r 26) (r 27) (r 28) (r 30) (r 31) (r 33) (r 35)] := hD
  have hl := lv_entry ([.ref h, .int x1, .int x2, .int x3, .int x4]) (n := 6) (Nat.le_of_ble_eq_true rfl)
  rw [lg_entry_eq]
  generalize (lg_sl ([.ref h, .int x1, .int x2, .int x3, .int x4]) ++ List.replicate (6 - (lg_sl ([.ref h, .int x1, .int x2, .int x3, .int x4])).length) Slot.unset).toArray = ls at hl ⊢
  have hl : lv_has ls 6 [(0, .ref h), (1, .int x1), (2, .int x2), (3, .int x3), (4, .int x4)] := hl
  obtain ⟨H, hHe⟩ : ∃ H : Heap, H = s.heap := ⟨_, rfl⟩
  rw [← hHe] at hP
  have hS : va_S A s.heap H [] := by rw [hHe]; exact va_S.rf
  refine ct_start hHe ?_
  refine lv_aload_n hx hb dX11_stumble_0 rfl (lv_at hl 0 rfl) ?_
  refine lv_iload_n hx hb dX11_stumble_1 rfl (lv_at hl 1 rfl) ?_
  refine lv_iload_n hx hb dX11_stumble_2 rfl (lv_at hl 2 rfl) ?_
  refine ct_calli (D := D) (wc := (w_c_X11_has cI cJ cB cZ cO h r)) (wr := []) (va_runV (As := [.int x1, .int x2]) (rest := []) ⟨hx, hb, hml, hown, hts⟩ (c_X11_has l D cI cJ cB cZ cO h r x1 x2 H.size) (cwV 2 hts gX11_stumble_X11_has rfl rfl rfl (by decide +kernel) ⟨Nat.le_of_ble_eq_true rfl, Nat.le_of_ble_eq_true rfl⟩) (ct_preV (T := ct_T cI cJ cB cZ cO) (ci := 11) (q0 := 0) hE hP hD [0, 1] (by decide) rfl rfl rfl) rfl rfl hl.1 rfl (lv_room (Nat.le_of_ble_eq_true rfl)) dX11_stumble_3 ⟨Nat.le_of_ble_eq_true rfl, Nat.le_of_ble_eq_true rfl⟩) hP hD hS hA [0, 1] [] rfl rfl (by decide) (by decide) (fun rz u H locs hw hP hD hS => ?_)
  have hP : va_P D vwCl [] H := hP
  have hD : va_D A [] := hD
  obtain ⟨rfl, hq55⟩ := hw
  refine lv_if_eq (tgt := 26) hx hb dX11_stumble_6 (by decide) (fun _ => ?_) (fun hc => absurd hc (by decide))
  refine lv_bipush (v := (-2)) hx hb dX11_stumble_26 (by decide) ?_
  have hP9 := hP.sub (ws' := []) [] rfl
  have hD9 := hD.sub (ws' := []) [] (by decide) rfl
  exact W.iret (v := (-2)) hx hb hr (fun t ht hW => ⟨⟨(-2), (), rfl, ⟨rfl, trivial⟩, by rw [ht]; exact hP9, hD9⟩, hS.F ht⟩) hS.2.2 dX11_stumble_28
abbrev w_c_X11_mud (cI cJ cB cZ cO : ClassId) (h : Nat) (r : Nat → Nat) : va_W := [oo h r (r 2) (r 3), dn (r 2) (r 24) (r 25) (r 26) (r 27) (r 28) (r 30) (r 31) (r 33) (r 35)]
set_option maxHeartbeats 4000000 in
set_option maxRecDepth 100000 in
/-- mud, on a new object -/
theorem c_X11_mud (l : Launch) (D : va_G) (cI cJ cB cZ cO : ClassId) (h : Nat) (r : Nat → Nat) (x1 : Int32) (x2 : Int32) (sz : Nat) : Met l yX11_mud wsX11_mud ({ frames := 1, cells := 0, slots := 0, locals := 20 }) (va_Pc [.ref h, .int x1, .int x2] (ct_P D (ct_T cI cJ cB cZ cO) (w_c_X11_mud cI cJ cB cZ cO h r) sz)) (va_Qi (fun (rz : Int32) (u : Unit) => (rz = (-2) ∧ True)) (fun (u : Unit) t => ct_Q D (va_A (w_c_X11_mud cI cJ cB cZ cO h r) sz) [] t) (va_A (w_c_X11_mud cI cJ cB cZ cO h r) sz)) 0 0 (va_A (w_c_X11_mud cI cJ cB cZ cO h r) sz) := by
  refine Met.ofW (cc := cX11_mud) (maxL := 4) (ret := (some .int)) (by decide) rfl ?_
  intro p e s m args below meth c s₁ B hml hv
  obtain ⟨rfl, hsz, hP, hE, hD0⟩ := hv
  have hx := B.exec
  have hb := B.bytes
  have hr := B.returns
  have hts := atoms_spec (ws := wsX11_mud) B.pre
  have hown : s.vm.findClass RX11 = some m.cls := findClass_of_methodNamed B.named
  have hlocks := B.notSynchronized
  have hK := hE.1
  have hi11 : ∀ w ∈ u_ws RX11 TX11 16, w ∈ wsX11_mud := fun w h => List.mem_cons_of_mem _ (List.mem_append_left _ (List.mem_append_right _ h))
  subst hsz
  have hD := hD0.self (sz := s.heap.size)
  generalize hAe : va_A (w_c_X11_mud cI cJ cB cZ cO h r) s.heap.size = A at hD ⊢
  have hA : ∀ q : Nat, s.heap.size ≤ q → A q := fun q h => by rw [← hAe]; exact Or.inr h
  have hS : va_S A s.heap s.heap [] := va_S.rf
  have hP : va_P D vwCl [oo h r (r 2) (r 3), dn (r 2) (r 24) (r 25) (r 26) (r 27) (r 28) (r 30) (r 31) (r 33) (r 35)] s.heap := hP
  have hD : va_D A [oo h r (r 2) (r 3), dn (r 2) (r 24) (r 25) (r 26) (r 27) (r 28) (r 30) (r 31) (r 33) (r 35)] := hD
  have hl := lv_entry ([.ref h, .int x1, .int x2]) (n := 4) (Nat.le_of_ble_eq_true rfl)
  rw [lg_entry_eq]
  generalize (lg_sl ([.ref h, .int x1, .int x2]) ++ List.replicate (4 - (lg_sl ([.ref h, .int x1, .int x2])).length) Slot.unset).toArray = ls at hl ⊢
  have hl : lv_has ls 4 [(0, .ref h), (1, .int x1), (2, .int x2)] := hl
  obtain ⟨H, hHe⟩ : ∃ H : Heap, H = s.heap := ⟨_, rfl⟩
  rw [← hHe] at hP
  have hS : va_S A s.heap H [] := by rw [hHe]; exact va_S.rf
  refine ct_start hHe ?_
  refine lv_aload_n hx hb dX11_mud_0 rfl (lv_at hl 0 rfl) ?_
  refine va_get (D := D) (ci := 11) (v := .ref (r 2)) (C := RX11) (T := TX11) (N := 16) hx hb hts hi11 hown hK hP 0 rfl rfl 2 (by decide) (hts (.fieldLink RX11 24 "OverHill" "now" "LOverHill$Dance;") (by decide +kernel)) (fun _ h9 => h9) rfl dX11_mud_1 ?_
  refine ct_calli (D := D) (wc := (w_c_X0_stands cI cJ cB cZ cO (r 2) (r 24) (r 25) (r 26) (r 27) (r 28) (r 30) (r 31) (r 33) (r 35))) (wr := [oo h r (r 2) (r 3)]) (va_runV (As := []) (rest := []) ⟨hx, hb, hml, hown, hts⟩ (c_X0_stands l D cI cJ cB cZ cO (r 2) (r 24) (r 25) (r 26) (r 27) (r 28) (r 30) (r 31) (r 33) (r 35) H.size) (cwV 0 hts gX11_mud_X0_stands rfl rfl rfl (by decide +kernel) ⟨Nat.le_of_ble_eq_true rfl, Nat.le_of_ble_eq_true rfl⟩) (ct_preV (T := ct_T cI cJ cB cZ cO) (ci := 0) (q0 := 1) hE hP hD [1] (by decide) rfl rfl rfl) rfl rfl hl.1 rfl (lv_room (Nat.le_of_ble_eq_true rfl)) dX11_mud_4 ⟨Nat.le_of_ble_eq_true rfl, Nat.le_of_ble_eq_true rfl⟩) hP hD hS hA [1] [0] rfl rfl (by decide) (by decide) (fun rz u H locs hw hP hD hS => ?_)
  have hP : va_P D vwCl [oo h r (r 2) (r 3), dn (r 2) (r 24) (r 25) (r 26) (r 27) (r 28) (r 30) (r 31) (r 33) (r 35)] H := hP
  have hD : va_D A [oo h r (r 2) (r 3), dn (r 2) (r 24) (r 25) (r 26) (r 27) (r 28) (r 30) (r 31) (r 33) (r 35)] := hD
  obtain ⟨rfl, hq56⟩ := hw
  refine lv_if_eq (tgt := 25) hx hb dX11_mud_7 (by decide) (fun _ => ?_) (fun hc => absurd hc (by decide))
  refine lv_bipush (v := (-2)) hx hb dX11_mud_25 (by decide) ?_
  have hP9 := hP.sub (ws' := []) [] rfl
  have hD9 := hD.sub (ws' := []) [] (by decide) rfl
  exact W.iret (v := (-2)) hx hb hr (fun t ht hW => ⟨⟨(-2), (), rfl, ⟨rfl, trivial⟩, by rw [ht]; exact hP9, hD9⟩, hS.F ht⟩) hS.2.2 dX11_mud_27
abbrev w_c_X11_teach (cI cJ cB cZ cO : ClassId) (h : Nat) (r : Nat → Nat) : va_W := [oo h r (r 2) (r 3), dn (r 2) (r 24) (r 25) (r 26) (r 27) (r 28) (r 30) (r 31) (r 33) (r 35)]
set_option maxHeartbeats 4000000 in
set_option maxRecDepth 100000 in
/-- teach, on a new object -/
theorem c_X11_teach (l : Launch) (D : va_G) (cI cJ cB cZ cO : ClassId) (h : Nat) (r : Nat → Nat) (x1 : Int32) (x2 : Int32) (x3 : Int32) (sz : Nat) : Met l yX11_teach wsX11_teach ({ frames := 1, cells := 0, slots := 0, locals := 20 }) (va_Pc [.ref h, .int x1, .int x2, .int x3] (ct_P D (ct_T cI cJ cB cZ cO) (w_c_X11_teach cI cJ cB cZ cO h r) sz)) (va_Qi (fun (rz : Int32) (u : Unit) => (rz = (-2) ∧ True)) (fun (u : Unit) t => ct_Q D (va_A (w_c_X11_teach cI cJ cB cZ cO h r) sz) [] t) (va_A (w_c_X11_teach cI cJ cB cZ cO h r) sz)) 0 0 (va_A (w_c_X11_teach cI cJ cB cZ cO h r) sz) := by
  refine Met.ofW (cc := cX11_teach) (maxL := 6) (ret := (some .int)) (by decide) rfl ?_
  intro p e s m args below meth c s₁ B hml hv
  obtain ⟨rfl, hsz, hP, hE, hD0⟩ := hv
  have hx := B.exec
  have hb := B.bytes
  have hr := B.returns
  have hts := atoms_spec (ws := wsX11_teach) B.pre
  have hown : s.vm.findClass RX11 = some m.cls := findClass_of_methodNamed B.named
  have hlocks := B.notSynchronized
  have hK := hE.1
  have hi11 : ∀ w ∈ u_ws RX11 TX11 16, w ∈ wsX11_teach := fun w h => List.mem_cons_of_mem _ (List.mem_append_left _ (List.mem_append_right _ h))
  subst hsz
  have hD := hD0.self (sz := s.heap.size)
  generalize hAe : va_A (w_c_X11_teach cI cJ cB cZ cO h r) s.heap.size = A at hD ⊢
  have hA : ∀ q : Nat, s.heap.size ≤ q → A q := fun q h => by rw [← hAe]; exact Or.inr h
  have hS : va_S A s.heap s.heap [] := va_S.rf
  have hP : va_P D vwCl [oo h r (r 2) (r 3), dn (r 2) (r 24) (r 25) (r 26) (r 27) (r 28) (r 30) (r 31) (r 33) (r 35)] s.heap := hP
  have hD : va_D A [oo h r (r 2) (r 3), dn (r 2) (r 24) (r 25) (r 26) (r 27) (r 28) (r 30) (r 31) (r 33) (r 35)] := hD
  have hl := lv_entry ([.ref h, .int x1, .int x2, .int x3]) (n := 6) (Nat.le_of_ble_eq_true rfl)
  rw [lg_entry_eq]
  generalize (lg_sl ([.ref h, .int x1, .int x2, .int x3]) ++ List.replicate (6 - (lg_sl ([.ref h, .int x1, .int x2, .int x3])).length) Slot.unset).toArray = ls at hl ⊢
  have hl : lv_has ls 6 [(0, .ref h), (1, .int x1), (2, .int x2), (3, .int x3)] := hl
  obtain ⟨H, hHe⟩ : ∃ H : Heap, H = s.heap := ⟨_, rfl⟩
  rw [← hHe] at hP
  have hS : va_S A s.heap H [] := by rw [hHe]; exact va_S.rf
  refine ct_start hHe ?_
  refine lv_aload_n hx hb dX11_teach_0 rfl (lv_at hl 0 rfl) ?_
  refine va_get (D := D) (ci := 11) (v := .ref (r 2)) (C := RX11) (T := TX11) (N := 16) hx hb hts hi11 hown hK hP 0 rfl rfl 2 (by decide) (hts (.fieldLink RX11 24 "OverHill" "now" "LOverHill$Dance;") (by decide +kernel)) (fun _ h9 => h9) rfl dX11_teach_1 ?_
  refine ct_calli (D := D) (wc := (w_c_X0_stands cI cJ cB cZ cO (r 2) (r 24) (r 25) (r 26) (r 27) (r 28) (r 30) (r 31) (r 33) (r 35))) (wr := [oo h r (r 2) (r 3)]) (va_runV (As := []) (rest := []) ⟨hx, hb, hml, hown, hts⟩ (c_X0_stands l D cI cJ cB cZ cO (r 2) (r 24) (r 25) (r 26) (r 27) (r 28) (r 30) (r 31) (r 33) (r 35) H.size) (cwV 0 hts gX11_teach_X0_stands rfl rfl rfl (by decide +kernel) ⟨Nat.le_of_ble_eq_true rfl, Nat.le_of_ble_eq_true rfl⟩) (ct_preV (T := ct_T cI cJ cB cZ cO) (ci := 0) (q0 := 1) hE hP hD [1] (by decide) rfl rfl rfl) rfl rfl hl.1 rfl (lv_room (Nat.le_of_ble_eq_true rfl)) dX11_teach_4 ⟨Nat.le_of_ble_eq_true rfl, Nat.le_of_ble_eq_true rfl⟩) hP hD hS hA [1] [0] rfl rfl (by decide) (by decide) (fun rz u H locs hw hP hD hS => ?_)
  have hP : va_P D vwCl [oo h r (r 2) (r 3), dn (r 2) (r 24) (r 25) (r 26) (r 27) (r 28) (r 30) (r 31) (r 33) (r 35)] H := hP
  have hD : va_D A [oo h r (r 2) (r 3), dn (r 2) (r 24) (r 25) (r 26) (r 27) (r 28) (r 30) (r 31) (r 33) (r 35)] := hD
  obtain ⟨rfl, hq57⟩ := hw
  refine lv_if_eq (tgt := 36) hx hb dX11_teach_7 (by decide) (fun _ => ?_) (fun hc => absurd hc (by decide))
  refine lv_bipush (v := (-2)) hx hb dX11_teach_36 (by decide) ?_
  have hP9 := hP.sub (ws' := []) [] rfl
  have hD9 := hD.sub (ws' := []) [] (by decide) rfl
  exact W.iret (v := (-2)) hx hb hr (fun t ht hW => ⟨⟨(-2), (), rfl, ⟨rfl, trivial⟩, by rw [ht]; exact hP9, hD9⟩, hS.F ht⟩) hS.2.2 dX11_teach_38
abbrev w_c_X11_undo (cI cJ cB cZ cO : ClassId) (h : Nat) (r : Nat → Nat) : va_W := [oo h r (r 2) (r 3), dn (r 2) (r 24) (r 25) (r 26) (r 27) (r 28) (r 30) (r 31) (r 33) (r 35)]
set_option maxHeartbeats 4000000 in
set_option maxRecDepth 100000 in
/-- undo, on a new object -/
theorem c_X11_undo (l : Launch) (D : va_G) (cI cJ cB cZ cO : ClassId) (h : Nat) (r : Nat → Nat) (sz : Nat) : Met l yX11_undo wsX11_undo ({ frames := 1, cells := 0, slots := 0, locals := 20 }) (va_Pc [.ref h] (ct_P D (ct_T cI cJ cB cZ cO) (w_c_X11_undo cI cJ cB cZ cO h r) sz)) (va_Qi (fun (rz : Int32) (u : Unit) => (rz = (-2) ∧ True)) (fun (u : Unit) t => ct_Q D (va_A (w_c_X11_undo cI cJ cB cZ cO h r) sz) [] t) (va_A (w_c_X11_undo cI cJ cB cZ cO h r) sz)) 0 0 (va_A (w_c_X11_undo cI cJ cB cZ cO h r) sz) := by
  refine Met.ofW (cc := cX11_undo) (maxL := 1) (ret := (some .int)) (by decide) rfl ?_
  intro p e s m args below meth c s₁ B hml hv
  obtain ⟨rfl, hsz, hP, hE, hD0⟩ := hv
  have hx := B.exec
  have hb := B.bytes
  have hr := B.returns
  have hts := atoms_spec (ws := wsX11_undo) B.pre
  have hown : s.vm.findClass RX11 = some m.cls := findClass_of_methodNamed B.named
  have hlocks := B.notSynchronized
  have hK := hE.1
  have hi11 : ∀ w ∈ u_ws RX11 TX11 16, w ∈ wsX11_undo := fun w h => List.mem_cons_of_mem _ (List.mem_append_left _ (List.mem_append_right _ h))
  subst hsz
  have hD := hD0.self (sz := s.heap.size)
  generalize hAe : va_A (w_c_X11_undo cI cJ cB cZ cO h r) s.heap.size = A at hD ⊢
  have hA : ∀ q : Nat, s.heap.size ≤ q → A q := fun q h => by rw [← hAe]; exact Or.inr h
  have hS : va_S A s.heap s.heap [] := va_S.rf
  have hP : va_P D vwCl [oo h r (r 2) (r 3), dn (r 2) (r 24) (r 25) (r 26) (r 27) (r 28) (r 30) (r 31) (r 33) (r 35)] s.heap := hP
  have hD : va_D A [oo h r (r 2) (r 3), dn (r 2) (r 24) (r 25) (r 26) (r 27) (r 28) (r 30) (r 31) (r 33) (r 35)] := hD
  have hl := lv_entry ([.ref h]) (n := 1) (Nat.le_of_ble_eq_true rfl)
  rw [lg_entry_eq]
  generalize (lg_sl ([.ref h]) ++ List.replicate (1 - (lg_sl ([.ref h])).length) Slot.unset).toArray = ls at hl ⊢
  have hl : lv_has ls 1 [(0, .ref h)] := hl
  obtain ⟨H, hHe⟩ : ∃ H : Heap, H = s.heap := ⟨_, rfl⟩
  rw [← hHe] at hP
  have hS : va_S A s.heap H [] := by rw [hHe]; exact va_S.rf
  refine ct_start hHe ?_
  refine lv_aload_n hx hb dX11_undo_0 rfl (lv_at hl 0 rfl) ?_
  refine va_get (D := D) (ci := 11) (v := .ref (r 2)) (C := RX11) (T := TX11) (N := 16) hx hb hts hi11 hown hK hP 0 rfl rfl 2 (by decide) (hts (.fieldLink RX11 24 "OverHill" "now" "LOverHill$Dance;") (by decide +kernel)) (fun _ h9 => h9) rfl dX11_undo_1 ?_
  refine ct_calli (D := D) (wc := (w_c_X0_stands cI cJ cB cZ cO (r 2) (r 24) (r 25) (r 26) (r 27) (r 28) (r 30) (r 31) (r 33) (r 35))) (wr := [oo h r (r 2) (r 3)]) (va_runV (As := []) (rest := []) ⟨hx, hb, hml, hown, hts⟩ (c_X0_stands l D cI cJ cB cZ cO (r 2) (r 24) (r 25) (r 26) (r 27) (r 28) (r 30) (r 31) (r 33) (r 35) H.size) (cwV 0 hts gX11_undo_X0_stands rfl rfl rfl (by decide +kernel) ⟨Nat.le_of_ble_eq_true rfl, Nat.le_of_ble_eq_true rfl⟩) (ct_preV (T := ct_T cI cJ cB cZ cO) (ci := 0) (q0 := 1) hE hP hD [1] (by decide) rfl rfl rfl) rfl rfl hl.1 rfl (lv_room (Nat.le_of_ble_eq_true rfl)) dX11_undo_4 ⟨Nat.le_of_ble_eq_true rfl, Nat.le_of_ble_eq_true rfl⟩) hP hD hS hA [1] [0] rfl rfl (by decide) (by decide) (fun rz u H locs hw hP hD hS => ?_)
  have hP : va_P D vwCl [oo h r (r 2) (r 3), dn (r 2) (r 24) (r 25) (r 26) (r 27) (r 28) (r 30) (r 31) (r 33) (r 35)] H := hP
  have hD : va_D A [oo h r (r 2) (r 3), dn (r 2) (r 24) (r 25) (r 26) (r 27) (r 28) (r 30) (r 31) (r 33) (r 35)] := hD
  obtain ⟨rfl, hq58⟩ := hw
  refine lv_if_ne (tgt := 13) hx hb dX11_undo_7 (by decide) (fun hc => absurd hc (by decide)) (fun _ => ?_)
  refine lv_bipush (v := (-2)) hx hb dX11_undo_10 (by decide) ?_
  have hP9 := hP.sub (ws' := []) [] rfl
  have hD9 := hD.sub (ws' := []) [] (by decide) rfl
  exact W.iret (v := (-2)) hx hb hr (fun t ht hW => ⟨⟨(-2), (), rfl, ⟨rfl, trivial⟩, by rw [ht]; exact hP9, hD9⟩, hS.F ht⟩) hS.2.2 dX11_undo_12
abbrev w_c_X11_holes (cI cJ cB cZ cO : ClassId) (h : Nat) (r : Nat → Nat) : va_W := [oo h r (r 2) (r 3), dn (r 2) (r 24) (r 25) (r 26) (r 27) (r 28) (r 30) (r 31) (r 33) (r 35)]
set_option maxHeartbeats 4000000 in
set_option maxRecDepth 100000 in
/-- holes, on a new object -/
theorem c_X11_holes (l : Launch) (D : va_G) (cI cJ cB cZ cO : ClassId) (h : Nat) (r : Nat → Nat) (x1 : Int32) (x2 : Int32) (x3 : Int32) (sz : Nat) : Met l yX11_holes wsX11_holes ({ frames := 2, cells := 0, slots := 0, locals := 42 }) (va_Pc [.ref h, .int x1, .int x2, .int x3] (ct_P D (ct_T cI cJ cB cZ cO) (w_c_X11_holes cI cJ cB cZ cO h r) sz)) (va_Qi (fun (rz : Int32) (u : Unit) => (rz = (-2) ∧ True)) (fun (u : Unit) t => ct_Q D (va_A (w_c_X11_holes cI cJ cB cZ cO h r) sz) [] t) (va_A (w_c_X11_holes cI cJ cB cZ cO h r) sz)) 0 0 (va_A (w_c_X11_holes cI cJ cB cZ cO h r) sz) := by
  refine Met.ofW (cc := cX11_holes) (maxL := 4) (ret := (some .int)) (by decide) rfl ?_
  intro p e s m args below meth c s₁ B hml hv
  obtain ⟨rfl, hsz, hP, hE, hD0⟩ := hv
  have hx := B.exec
  have hb := B.bytes
  have hr := B.returns
  have hts := atoms_spec (ws := wsX11_holes) B.pre
  have hown : s.vm.findClass RX11 = some m.cls := findClass_of_methodNamed B.named
  have hlocks := B.notSynchronized
  have hK := hE.1
  subst hsz
  have hD := hD0.self (sz := s.heap.size)
  generalize hAe : va_A (w_c_X11_holes cI cJ cB cZ cO h r) s.heap.size = A at hD ⊢
  have hA : ∀ q : Nat, s.heap.size ≤ q → A q := fun q h => by rw [← hAe]; exact Or.inr h
  have hS : va_S A s.heap s.heap [] := va_S.rf
  have hP : va_P D vwCl [oo h r (r 2) (r 3), dn (r 2) (r 24) (r 25) (r 26) (r 27) (r 28) (r 30) (r 31) (r 33) (r 35)] s.heap := hP
  have hD : va_D A [oo h r (r 2) (r 3), dn (r 2) (r 24) (r 25) (r 26) (r 27) (r 28) (r 30) (r 31) (r 33) (r 35)] := hD
  have hl := lv_entry ([.ref h, .int x1, .int x2, .int x3]) (n := 4) (Nat.le_of_ble_eq_true rfl)
  rw [lg_entry_eq]
  generalize (lg_sl ([.ref h, .int x1, .int x2, .int x3]) ++ List.replicate (4 - (lg_sl ([.ref h, .int x1, .int x2, .int x3])).length) Slot.unset).toArray = ls at hl ⊢
  have hl : lv_has ls 4 [(0, .ref h), (1, .int x1), (2, .int x2), (3, .int x3)] := hl
  obtain ⟨H, hHe⟩ : ∃ H : Heap, H = s.heap := ⟨_, rfl⟩
  rw [← hHe] at hP
  have hS : va_S A s.heap H [] := by rw [hHe]; exact va_S.rf
  refine ct_start hHe ?_
  refine lv_iload_n hx hb dX11_holes_0 rfl (lv_at hl 1 rfl) ?_
  refine ct_calli (D := D) (wc := (w_c_X11_isSide cI cJ cB cZ cO )) (wr := [oo h r (r 2) (r 3), dn (r 2) (r 24) (r 25) (r 26) (r 27) (r 28) (r 30) (r 31) (r 33) (r 35)]) (va_runS (As := [.int x1]) (rest := []) ⟨hx, hb, hml, hown, hts⟩ (c_X11_isSide l D cI cJ cB cZ cO x1 H.size) (va_cwS 1 hts gX11_holes_X11_isSide rfl rfl rfl (by decide +kernel) ⟨Nat.le_of_ble_eq_true rfl, Nat.le_of_ble_eq_true rfl⟩) (ct_preS (T := ct_T cI cJ cB cZ cO) hE hP hD [] (by decide) rfl) rfl rfl hl.1 rfl (lv_room (Nat.le_of_ble_eq_true rfl)) dX11_holes_1 ⟨Nat.le_of_ble_eq_true rfl, Nat.le_of_ble_eq_true rfl⟩) hP hD hS hA [] [0, 1] rfl rfl (by decide) (by decide) (fun rz u H locs hw hP hD hS => ?_)
  have hP : va_P D vwCl [oo h r (r 2) (r 3), dn (r 2) (r 24) (r 25) (r 26) (r 27) (r 28) (r 30) (r 31) (r 33) (r 35)] H := hP
  have hD : va_D A [oo h r (r 2) (r 3), dn (r 2) (r 24) (r 25) (r 26) (r 27) (r 28) (r 30) (r 31) (r 33) (r 35)] := hD
  rcases hw with ⟨rfl, hq59⟩ | ⟨rfl, hq59⟩
  · refine lv_if_eq (tgt := 16) hx hb dX11_holes_4 (by decide) (fun hc => absurd hc (by decide)) (fun _ => ?_)
    refine lv_aload_n hx hb dX11_holes_7 rfl (lv_at hl 0 rfl) ?_
    refine lv_iload_n hx hb dX11_holes_8 rfl (lv_at hl 2 rfl) ?_
    refine lv_iload_n hx hb dX11_holes_9 rfl (lv_at hl 3 rfl) ?_
    refine ct_calli (D := D) (wc := (w_c_X11_hasSpan cI cJ cB cZ cO h r)) (wr := []) (va_runV (As := [.int x2, .int x3]) (rest := []) ⟨hx, hb, hml, hown, hts⟩ (c_X11_hasSpan l D cI cJ cB cZ cO h r x2 x3 H.size) (cwV 2 hts gX11_holes_X11_hasSpan rfl rfl rfl (by decide +kernel) ⟨Nat.le_of_ble_eq_true rfl, Nat.le_of_ble_eq_true rfl⟩) (ct_preV (T := ct_T cI cJ cB cZ cO) (ci := 11) (q0 := 0) hE hP hD [0, 1] (by decide) rfl rfl rfl) rfl rfl hl.1 rfl (lv_room (Nat.le_of_ble_eq_true rfl)) dX11_holes_10 ⟨Nat.le_of_ble_eq_true rfl, Nat.le_of_ble_eq_true rfl⟩) hP hD hS hA [0, 1] [] rfl rfl (by decide) (by decide) (fun rz u H locs hw hP hD hS => ?_)
    have hP : va_P D vwCl [] H := hP
    have hD : va_D A [] := hD
    obtain ⟨rfl, hq60⟩ := hw
    refine lv_if_ne (tgt := 19) hx hb dX11_holes_13 (by decide) (fun hc => absurd hc (by decide)) (fun _ => ?_)
    refine lv_bipush (v := (-2)) hx hb dX11_holes_16 (by decide) ?_
    have hP9 := hP.sub (ws' := []) [] rfl
    have hD9 := hD.sub (ws' := []) [] (by decide) rfl
    exact W.iret (v := (-2)) hx hb hr (fun t ht hW => ⟨⟨(-2), (), rfl, ⟨rfl, trivial⟩, by rw [ht]; exact hP9, hD9⟩, hS.F ht⟩) hS.2.2 dX11_holes_18
  · refine lv_if_eq (tgt := 16) hx hb dX11_holes_4 (by decide) (fun _ => ?_) (fun hc => absurd hc (by decide))
    refine lv_bipush (v := (-2)) hx hb dX11_holes_16 (by decide) ?_
    have hP9 := hP.sub (ws' := []) [] rfl
    have hD9 := hD.sub (ws' := []) [] (by decide) rfl
    exact W.iret (v := (-2)) hx hb hr (fun t ht hW => ⟨⟨(-2), (), rfl, ⟨rfl, trivial⟩, by rw [ht]; exact hP9, hD9⟩, hS.F ht⟩) hS.2.2 dX11_holes_18
abbrev w_c_X11_wet (cI cJ cB cZ cO : ClassId) (h : Nat) (r : Nat → Nat) : va_W := [oo h r (r 2) (r 3), dn (r 2) (r 24) (r 25) (r 26) (r 27) (r 28) (r 30) (r 31) (r 33) (r 35)]
set_option maxHeartbeats 4000000 in
set_option maxRecDepth 100000 in
/-- wet, on a new object -/
theorem c_X11_wet (l : Launch) (D : va_G) (cI cJ cB cZ cO : ClassId) (h : Nat) (r : Nat → Nat) (x1 : Int32) (x2 : Int32) (x3 : Int32) (sz : Nat) : Met l yX11_wet wsX11_wet ({ frames := 1, cells := 0, slots := 0, locals := 20 }) (va_Pc [.ref h, .int x1, .int x2, .int x3] (ct_P D (ct_T cI cJ cB cZ cO) (w_c_X11_wet cI cJ cB cZ cO h r) sz)) (va_Ql (fun (rz : Int64) (u : Unit) => (rz = (-2) ∧ True)) (fun (u : Unit) t => ct_Q D (va_A (w_c_X11_wet cI cJ cB cZ cO h r) sz) [] t) (va_A (w_c_X11_wet cI cJ cB cZ cO h r) sz)) 0 0 (va_A (w_c_X11_wet cI cJ cB cZ cO h r) sz) := by
  refine Met.ofW (cc := cX11_wet) (maxL := 10) (ret := (some .long)) (by decide) rfl ?_
  intro p e s m args below meth c s₁ B hml hv
  obtain ⟨rfl, hsz, hP, hE, hD0⟩ := hv
  have hx := B.exec
  have hb := B.bytes
  have hr := B.returns
  have hts := atoms_spec (ws := wsX11_wet) B.pre
  have hown : s.vm.findClass RX11 = some m.cls := findClass_of_methodNamed B.named
  have hlocks := B.notSynchronized
  have hK := hE.1
  have hi11 : ∀ w ∈ u_ws RX11 TX11 16, w ∈ wsX11_wet := fun w h => List.mem_cons_of_mem _ (List.mem_append_left _ (List.mem_append_right _ h))
  subst hsz
  have hD := hD0.self (sz := s.heap.size)
  generalize hAe : va_A (w_c_X11_wet cI cJ cB cZ cO h r) s.heap.size = A at hD ⊢
  have hA : ∀ q : Nat, s.heap.size ≤ q → A q := fun q h => by rw [← hAe]; exact Or.inr h
  have hS : va_S A s.heap s.heap [] := va_S.rf
  have hP : va_P D vwCl [oo h r (r 2) (r 3), dn (r 2) (r 24) (r 25) (r 26) (r 27) (r 28) (r 30) (r 31) (r 33) (r 35)] s.heap := hP
  have hD : va_D A [oo h r (r 2) (r 3), dn (r 2) (r 24) (r 25) (r 26) (r 27) (r 28) (r 30) (r 31) (r 33) (r 35)] := hD
  have hl := lv_entry ([.ref h, .int x1, .int x2, .int x3]) (n := 10) (Nat.le_of_ble_eq_true rfl)
  rw [lg_entry_eq]
  generalize (lg_sl ([.ref h, .int x1, .int x2, .int x3]) ++ List.replicate (10 - (lg_sl ([.ref h, .int x1, .int x2, .int x3])).length) Slot.unset).toArray = ls at hl ⊢
  have hl : lv_has ls 10 [(0, .ref h), (1, .int x1), (2, .int x2), (3, .int x3)] := hl
  obtain ⟨H, hHe⟩ : ∃ H : Heap, H = s.heap := ⟨_, rfl⟩
  rw [← hHe] at hP
  have hS : va_S A s.heap H [] := by rw [hHe]; exact va_S.rf
  refine ct_start hHe ?_
  refine lv_aload_n hx hb dX11_wet_0 rfl (lv_at hl 0 rfl) ?_
  refine va_get (D := D) (ci := 11) (v := .ref (r 2)) (C := RX11) (T := TX11) (N := 16) hx hb hts hi11 hown hK hP 0 rfl rfl 2 (by decide) (hts (.fieldLink RX11 24 "OverHill" "now" "LOverHill$Dance;") (by decide +kernel)) (fun _ h9 => h9) rfl dX11_wet_1 ?_
  refine ct_calli (D := D) (wc := (w_c_X0_stands cI cJ cB cZ cO (r 2) (r 24) (r 25) (r 26) (r 27) (r 28) (r 30) (r 31) (r 33) (r 35))) (wr := [oo h r (r 2) (r 3)]) (va_runV (As := []) (rest := []) ⟨hx, hb, hml, hown, hts⟩ (c_X0_stands l D cI cJ cB cZ cO (r 2) (r 24) (r 25) (r 26) (r 27) (r 28) (r 30) (r 31) (r 33) (r 35) H.size) (cwV 0 hts gX11_wet_X0_stands rfl rfl rfl (by decide +kernel) ⟨Nat.le_of_ble_eq_true rfl, Nat.le_of_ble_eq_true rfl⟩) (ct_preV (T := ct_T cI cJ cB cZ cO) (ci := 0) (q0 := 1) hE hP hD [1] (by decide) rfl rfl rfl) rfl rfl hl.1 rfl (lv_room (Nat.le_of_ble_eq_true rfl)) dX11_wet_4 ⟨Nat.le_of_ble_eq_true rfl, Nat.le_of_ble_eq_true rfl⟩) hP hD hS hA [1] [0] rfl rfl (by decide) (by decide) (fun rz u H locs hw hP hD hS => ?_)
  have hP : va_P D vwCl [oo h r (r 2) (r 3), dn (r 2) (r 24) (r 25) (r 26) (r 27) (r 28) (r 30) (r 31) (r 33) (r 35)] H := hP
  have hD : va_D A [oo h r (r 2) (r 3), dn (r 2) (r 24) (r 25) (r 26) (r 27) (r 28) (r 30) (r 31) (r 33) (r 35)] := hD
  obtain ⟨rfl, hq61⟩ := hw
  refine lv_if_eq (tgt := 39) hx hb dX11_wet_7 (by decide) (fun _ => ?_) (fun hc => absurd hc (by decide))
  refine lv_ldc2 (v := (-2)) hx hb hown (hts (.constantLong RX11 306 (-2)) (by decide +kernel)) dX11_wet_39 ?_
  have hP9 := hP.sub (ws' := []) [] rfl
  have hD9 := hD.sub (ws' := []) [] (by decide) rfl
  exact W.lret (v := (-2)) hx hb hr (fun t ht hW => ⟨⟨(-2), (), rfl, ⟨rfl, trivial⟩, by rw [ht]; exact hP9, hD9⟩, hS.F ht⟩) hS.2.2 dX11_wet_42
abbrev w_c_X11_dry (cI cJ cB cZ cO : ClassId) (h : Nat) (r : Nat → Nat) : va_W := [oo h r (r 2) (r 3), dn (r 2) (r 24) (r 25) (r 26) (r 27) (r 28) (r 30) (r 31) (r 33) (r 35)]
set_option maxHeartbeats 4000000 in
set_option maxRecDepth 100000 in
/-- dry, on a new object -/
theorem c_X11_dry (l : Launch) (D : va_G) (cI cJ cB cZ cO : ClassId) (h : Nat) (r : Nat → Nat) (x1 : Int32) (x2 : Int32) (sz : Nat) : Met l yX11_dry wsX11_dry ({ frames := 2, cells := 0, slots := 0, locals := 49 }) (va_Pc [.ref h, .int x1, .int x2] (ct_P D (ct_T cI cJ cB cZ cO) (w_c_X11_dry cI cJ cB cZ cO h r) sz)) (va_Ql (fun (rz : Int64) (u : Unit) => (rz = (-2) ∧ True)) (fun (u : Unit) t => ct_Q D (va_A (w_c_X11_dry cI cJ cB cZ cO h r) sz) [] t) (va_A (w_c_X11_dry cI cJ cB cZ cO h r) sz)) 0 0 (va_A (w_c_X11_dry cI cJ cB cZ cO h r) sz) := by
  refine Met.ofW (cc := cX11_dry) (maxL := 3) (ret := (some .long)) (by decide) rfl ?_
  intro p e s m args below meth c s₁ B hml hv
  obtain ⟨rfl, hsz, hP, hE, hD0⟩ := hv
  have hx := B.exec
  have hb := B.bytes
  have hr := B.returns
  have hts := atoms_spec (ws := wsX11_dry) B.pre
  have hown : s.vm.findClass RX11 = some m.cls := findClass_of_methodNamed B.named
  have hlocks := B.notSynchronized
  have hK := hE.1
  subst hsz
  have hD := hD0.self (sz := s.heap.size)
  generalize hAe : va_A (w_c_X11_dry cI cJ cB cZ cO h r) s.heap.size = A at hD ⊢
  have hA : ∀ q : Nat, s.heap.size ≤ q → A q := fun q h => by rw [← hAe]; exact Or.inr h
  have hS : va_S A s.heap s.heap [] := va_S.rf
  have hP : va_P D vwCl [oo h r (r 2) (r 3), dn (r 2) (r 24) (r 25) (r 26) (r 27) (r 28) (r 30) (r 31) (r 33) (r 35)] s.heap := hP
  have hD : va_D A [oo h r (r 2) (r 3), dn (r 2) (r 24) (r 25) (r 26) (r 27) (r 28) (r 30) (r 31) (r 33) (r 35)] := hD
  have hl := lv_entry ([.ref h, .int x1, .int x2]) (n := 3) (Nat.le_of_ble_eq_true rfl)
  rw [lg_entry_eq]
  generalize (lg_sl ([.ref h, .int x1, .int x2]) ++ List.replicate (3 - (lg_sl ([.ref h, .int x1, .int x2])).length) Slot.unset).toArray = ls at hl ⊢
  have hl : lv_has ls 3 [(0, .ref h), (1, .int x1), (2, .int x2)] := hl
  obtain ⟨H, hHe⟩ : ∃ H : Heap, H = s.heap := ⟨_, rfl⟩
  rw [← hHe] at hP
  have hS : va_S A s.heap H [] := by rw [hHe]; exact va_S.rf
  refine ct_start hHe ?_
  refine lv_aload_n hx hb dX11_dry_0 rfl (lv_at hl 0 rfl) ?_
  refine lv_iload_n hx hb dX11_dry_1 rfl (lv_at hl 1 rfl) ?_
  refine lv_iconst (v := 0) hx hb dX11_dry_2 (by decide) ?_
  refine lv_iload_n hx hb dX11_dry_3 rfl (lv_at hl 2 rfl) ?_
  refine ct_calll (D := D) (wc := (w_c_X11_wet cI cJ cB cZ cO h r)) (wr := []) (va_runV (As := [.int x1, .int 0, .int x2]) (rest := []) ⟨hx, hb, hml, hown, hts⟩ (c_X11_wet l D cI cJ cB cZ cO h r x1 0 x2 H.size) (cwV 3 hts gX11_dry_X11_wet rfl rfl rfl (by decide +kernel) ⟨Nat.le_of_ble_eq_true rfl, Nat.le_of_ble_eq_true rfl⟩) (ct_preV (T := ct_T cI cJ cB cZ cO) (ci := 11) (q0 := 0) hE hP hD [0, 1] (by decide) rfl rfl rfl) rfl rfl hl.1 rfl (lv_room (Nat.le_of_ble_eq_true rfl)) dX11_dry_4 ⟨Nat.le_of_ble_eq_true rfl, Nat.le_of_ble_eq_true rfl⟩) hP hD hS hA [0, 1] [] rfl rfl (by decide) (by decide) (fun rz u H locs hw hP hD hS => ?_)
  have hP : va_P D vwCl [] H := hP
  have hD : va_D A [] := hD
  obtain ⟨rfl, hq62⟩ := hw
  have hP9 := hP.sub (ws' := []) [] rfl
  have hD9 := hD.sub (ws' := []) [] (by decide) rfl
  exact W.lret (v := (-2)) hx hb hr (fun t ht hW => ⟨⟨(-2), (), rfl, ⟨rfl, trivial⟩, by rw [ht]; exact hP9, hD9⟩, hS.F ht⟩) hS.2.2 dX11_dry_7
