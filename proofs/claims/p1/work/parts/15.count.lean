abbrev w_c_X11_count (cI cJ cB cZ cO : ClassId) (h : Nat) (r : Nat → Nat) : va_W := [oo h r (r 2) (r 3), dn (r 2) (r 24) (r 25) (r 26) (r 27) (r 28) (r 30) (r 31) (r 33) (r 35), ((r 25), .inl (cI, 2, .inl (fun _ => 0))), ((r 30), .inl (cI, 200, .inl (fun _ => 0))), ((r 1), .inr (8, [.ref (r 16), .int 0, .int 0, .int 0, .int 0, .int 0])), ((r 15), .inr (7, [.ref (r 17), .ref (r 18), .ref (r 19)])), ((r 18), .inl (cI, 4, .inl (szf)))]
set_option maxHeartbeats 4000000 in
set_option maxRecDepth 100000 in
/-- count, on a new object -/
theorem c_X11_count (l : Launch) (D : va_G) (cI cJ cB cZ cO : ClassId) (h : Nat) (r : Nat → Nat) (x1 : Int32) (sz : Nat) : Met l yX11_count wsX11_count ({ frames := 2, cells := 0, slots := 0, locals := 43 }) (va_Pc [.ref h, .int x1] (ct_P D (ct_T cI cJ cB cZ cO) (w_c_X11_count cI cJ cB cZ cO h r) sz)) (va_Qi (fun (rz : Int32) (u : Unit) => (rz = 0 ∧ (0 ≤ x1.toInt ∧ x1.toInt ≤ 12)) ∨ (rz = (-1) ∧ ¬ (0 ≤ x1.toInt ∧ x1.toInt ≤ 12))) (fun (u : Unit) t => ct_Q D (va_A (w_c_X11_count cI cJ cB cZ cO h r) sz) [] t) (va_A (w_c_X11_count cI cJ cB cZ cO h r) sz)) 0 0 (va_A (w_c_X11_count cI cJ cB cZ cO h r) sz) := by
  refine Met.ofW (cc := cX11_count) (maxL := 2) (ret := (some .int)) (by decide) rfl ?_
  intro p e s m args below meth c s₁ B hml hv
  obtain ⟨rfl, hsz, hP, hE, hD0⟩ := hv
  have hx := B.exec
  have hb := B.bytes
  have hr := B.returns
  have hts := atoms_spec (ws := wsX11_count) B.pre
  have hown : s.vm.findClass RX11 = some m.cls := findClass_of_methodNamed B.named
  have hlocks := B.notSynchronized
  have hK := hE.1
  have hi0 : ∀ w ∈ u_ws RX0 TX0 17, w ∈ wsX11_count := fun w h => List.mem_cons_of_mem _ (List.mem_append_left _ (List.mem_append_left _ (List.mem_append_right _ h)))
  have hi8 : ∀ w ∈ u_ws RX8 TX8 6, w ∈ wsX11_count := fun w h => List.mem_cons_of_mem _ (List.mem_append_left _ (List.mem_append_right _ h))
  have hi11 : ∀ w ∈ u_ws RX11 TX11 16, w ∈ wsX11_count := fun w h => List.mem_cons_of_mem _ (List.mem_append_left _ (List.mem_append_left _ (List.mem_append_left _ (List.mem_append_right _ h))))
  subst hsz
  have hD := hD0.self (sz := s.heap.size)
  generalize hAe : va_A (w_c_X11_count cI cJ cB cZ cO h r) s.heap.size = A at hD ⊢
  have hA : ∀ q : Nat, s.heap.size ≤ q → A q := fun q h => by rw [← hAe]; exact Or.inr h
  have hS : va_S A s.heap s.heap [] := va_S.rf
  have hP : va_P D vwCl [oo h r (r 2) (r 3), dn (r 2) (r 24) (r 25) (r 26) (r 27) (r 28) (r 30) (r 31) (r 33) (r 35), ((r 25), .inl (cI, 2, .inl (fun _ => 0))), ((r 30), .inl (cI, 200, .inl (fun _ => 0))), ((r 1), .inr (8, [.ref (r 16), .int 0, .int 0, .int 0, .int 0, .int 0])), ((r 15), .inr (7, [.ref (r 17), .ref (r 18), .ref (r 19)])), ((r 18), .inl (cI, 4, .inl (szf)))] s.heap := hP
  have hD : va_D A [oo h r (r 2) (r 3), dn (r 2) (r 24) (r 25) (r 26) (r 27) (r 28) (r 30) (r 31) (r 33) (r 35), ((r 25), .inl (cI, 2, .inl (fun _ => 0))), ((r 30), .inl (cI, 200, .inl (fun _ => 0))), ((r 1), .inr (8, [.ref (r 16), .int 0, .int 0, .int 0, .int 0, .int 0])), ((r 15), .inr (7, [.ref (r 17), .ref (r 18), .ref (r 19)])), ((r 18), .inl (cI, 4, .inl (szf)))] := hD
  have hl := lv_entry ([.ref h, .int x1]) (n := 2) (Nat.le_of_ble_eq_true rfl)
  rw [lg_entry_eq]
  generalize (lg_sl ([.ref h, .int x1]) ++ List.replicate (2 - (lg_sl ([.ref h, .int x1])).length) Slot.unset).toArray = ls at hl ⊢
  have hl : lv_has ls 2 [(0, .ref h), (1, .int x1)] := hl
  obtain ⟨H, hHe⟩ : ∃ H : Heap, H = s.heap := ⟨_, rfl⟩
  rw [← hHe] at hP
  have hS : va_S A s.heap H [] := by rw [hHe]; exact va_S.rf
  refine ct_start hHe ?_
  refine lv_iload_n hx hb dX11_count_0 rfl (lv_at hl 1 rfl) ?_
  by_cases hq181 : x1.toInt = 0
  · refine lv_tableIn (tgt := 68) (off := 67) hx hb dX11_count_1 (by omega) (by omega) (by rw [hq181]; decide) (by decide) ?_
    refine lv_aload_n hx hb dX11_count_68 rfl (lv_at hl 0 rfl) ?_
    refine va_get (D := D) (ci := 11) (v := .ref (r 2)) (C := RX11) (T := TX11) (N := 16) hx hb hts hi11 hown hK hP 0 rfl rfl 2 (by decide) (hts (.fieldLink RX11 24 "OverHill" "now" "LOverHill$Dance;") (by decide +kernel)) (fun _ h9 => h9) rfl dX11_count_69 ?_
    refine va_get (D := D) (ci := 0) (v := .int 0) (C := RX0) (T := TX0) (N := 17) hx hb hts hi0 hown hK hP 1 rfl rfl 0 (by decide) (hts (.fieldLink RX11 389 "OverHill$Dance" "gap" "I") (by decide +kernel)) (fun _ h9 => h9) rfl dX11_count_72 ?_
    have hP9 := hP.sub (ws' := []) [] rfl
    have hD9 := hD.sub (ws' := []) [] (by decide) rfl
    exact W.iret (v := 0) hx hb hr (fun t ht hW => ⟨⟨0, (), rfl, (Or.inl ⟨rfl, by omega⟩), by rw [ht]; exact hP9, hD9⟩, hS.F ht⟩) hS.2.2 dX11_count_75
  by_cases hq182 : x1.toInt = 1
  · refine lv_tableIn (tgt := 76) (off := 75) hx hb dX11_count_1 (by omega) (by omega) (by rw [hq182]; decide) (by decide) ?_
    refine lv_aload_n hx hb dX11_count_76 rfl (lv_at hl 0 rfl) ?_
    refine va_get (D := D) (ci := 11) (v := .ref (r 2)) (C := RX11) (T := TX11) (N := 16) hx hb hts hi11 hown hK hP 0 rfl rfl 2 (by decide) (hts (.fieldLink RX11 24 "OverHill" "now" "LOverHill$Dance;") (by decide +kernel)) (fun _ h9 => h9) rfl dX11_count_77 ?_
    refine va_get (D := D) (ci := 0) (v := .int 0) (C := RX0) (T := TX0) (N := 17) hx hb hts hi0 hown hK hP 1 rfl rfl 1 (by decide) (hts (.fieldLink RX11 392 "OverHill$Dance" "odds" "I") (by decide +kernel)) (fun _ h9 => h9) rfl dX11_count_80 ?_
    have hP9 := hP.sub (ws' := []) [] rfl
    have hD9 := hD.sub (ws' := []) [] (by decide) rfl
    exact W.iret (v := 0) hx hb hr (fun t ht hW => ⟨⟨0, (), rfl, (Or.inl ⟨rfl, by omega⟩), by rw [ht]; exact hP9, hD9⟩, hS.F ht⟩) hS.2.2 dX11_count_83
  by_cases hq183 : x1.toInt = 2
  · refine lv_tableIn (tgt := 84) (off := 83) hx hb dX11_count_1 (by omega) (by omega) (by rw [hq183]; decide) (by decide) ?_
    refine lv_aload_n hx hb dX11_count_84 rfl (lv_at hl 0 rfl) ?_
    refine va_get (D := D) (ci := 11) (v := .ref (r 2)) (C := RX11) (T := TX11) (N := 16) hx hb hts hi11 hown hK hP 0 rfl rfl 2 (by decide) (hts (.fieldLink RX11 24 "OverHill" "now" "LOverHill$Dance;") (by decide +kernel)) (fun _ h9 => h9) rfl dX11_count_85 ?_
    refine va_get (D := D) (ci := 0) (v := .int 0) (C := RX0) (T := TX0) (N := 17) hx hb hts hi0 hown hK hP 1 rfl rfl 2 (by decide) (hts (.fieldLink RX11 341 "OverHill$Dance" "rain" "I") (by decide +kernel)) (fun _ h9 => h9) rfl dX11_count_88 ?_
    have hP9 := hP.sub (ws' := []) [] rfl
    have hD9 := hD.sub (ws' := []) [] (by decide) rfl
    exact W.iret (v := 0) hx hb hr (fun t ht hW => ⟨⟨0, (), rfl, (Or.inl ⟨rfl, by omega⟩), by rw [ht]; exact hP9, hD9⟩, hS.F ht⟩) hS.2.2 dX11_count_91
  by_cases hq184 : x1.toInt = 3
  · refine lv_tableIn (tgt := 92) (off := 91) hx hb dX11_count_1 (by omega) (by omega) (by rw [hq184]; decide) (by decide) ?_
    refine lv_aload_n hx hb dX11_count_92 rfl (lv_at hl 0 rfl) ?_
    refine va_get (D := D) (ci := 11) (v := .ref (r 2)) (C := RX11) (T := TX11) (N := 16) hx hb hts hi11 hown hK hP 0 rfl rfl 2 (by decide) (hts (.fieldLink RX11 24 "OverHill" "now" "LOverHill$Dance;") (by decide +kernel)) (fun _ h9 => h9) rfl dX11_count_93 ?_
    refine va_get (D := D) (ci := 0) (v := .ref (r 25)) (C := RX0) (T := TX0) (N := 17) hx hb hts hi0 hown hK hP 1 rfl rfl 5 (by decide) (hts (.fieldLink RX11 178 "OverHill$Dance" "lengths" "[I") (by decide +kernel)) (fun _ h9 => h9) rfl dX11_count_96 ?_
    refine lv_iconst (v := 0) hx hb dX11_count_99 (by decide) ?_
    refine va_iald (D := D) hx hb hK hP 2 0 rfl rfl (tq_in (a := 0) (by decide) (by omega)) dX11_count_100 ?_
    refine lv_topi (fun z185 ez185 => ?_)
    obtain rfl : z185 = 0 := ez185
    have hP9 := hP.sub (ws' := []) [] rfl
    have hD9 := hD.sub (ws' := []) [] (by decide) rfl
    exact W.iret (v := 0) hx hb hr (fun t ht hW => ⟨⟨0, (), rfl, (Or.inl ⟨rfl, by omega⟩), by rw [ht]; exact hP9, hD9⟩, hS.F ht⟩) hS.2.2 dX11_count_101
  by_cases hq186 : x1.toInt = 4
  · refine lv_tableIn (tgt := 102) (off := 101) hx hb dX11_count_1 (by omega) (by omega) (by rw [hq186]; decide) (by decide) ?_
    refine lv_aload_n hx hb dX11_count_102 rfl (lv_at hl 0 rfl) ?_
    refine va_get (D := D) (ci := 11) (v := .ref (r 2)) (C := RX11) (T := TX11) (N := 16) hx hb hts hi11 hown hK hP 0 rfl rfl 2 (by decide) (hts (.fieldLink RX11 24 "OverHill" "now" "LOverHill$Dance;") (by decide +kernel)) (fun _ h9 => h9) rfl dX11_count_103 ?_
    refine va_get (D := D) (ci := 0) (v := .ref (r 25)) (C := RX0) (T := TX0) (N := 17) hx hb hts hi0 hown hK hP 1 rfl rfl 5 (by decide) (hts (.fieldLink RX11 178 "OverHill$Dance" "lengths" "[I") (by decide +kernel)) (fun _ h9 => h9) rfl dX11_count_106 ?_
    refine lv_iconst (v := 1) hx hb dX11_count_109 (by decide) ?_
    refine va_iald (D := D) hx hb hK hP 2 0 rfl rfl (tq_in (a := 1) (by decide) (by omega)) dX11_count_110 ?_
    refine lv_topi (fun z187 ez187 => ?_)
    obtain rfl : z187 = 0 := ez187
    have hP9 := hP.sub (ws' := []) [] rfl
    have hD9 := hD.sub (ws' := []) [] (by decide) rfl
    exact W.iret (v := 0) hx hb hr (fun t ht hW => ⟨⟨0, (), rfl, (Or.inl ⟨rfl, by omega⟩), by rw [ht]; exact hP9, hD9⟩, hS.F ht⟩) hS.2.2 dX11_count_111
  by_cases hq188 : x1.toInt = 5
  · refine lv_tableIn (tgt := 112) (off := 111) hx hb dX11_count_1 (by omega) (by omega) (by rw [hq188]; decide) (by decide) ?_
    refine lv_aload_n hx hb dX11_count_112 rfl (lv_at hl 0 rfl) ?_
    refine va_get (D := D) (ci := 11) (v := .ref (r 2)) (C := RX11) (T := TX11) (N := 16) hx hb hts hi11 hown hK hP 0 rfl rfl 2 (by decide) (hts (.fieldLink RX11 24 "OverHill" "now" "LOverHill$Dance;") (by decide +kernel)) (fun _ h9 => h9) rfl dX11_count_113 ?_
    refine va_get (D := D) (ci := 0) (v := .int 0) (C := RX0) (T := TX0) (N := 17) hx hb hts hi0 hown hK hP 1 rfl rfl 9 (by decide) (hts (.fieldLink RX11 216 "OverHill$Dance" "stumbleCount" "I") (by decide +kernel)) (fun _ h9 => h9) rfl dX11_count_116 ?_
    have hP9 := hP.sub (ws' := []) [] rfl
    have hD9 := hD.sub (ws' := []) [] (by decide) rfl
    exact W.iret (v := 0) hx hb hr (fun t ht hW => ⟨⟨0, (), rfl, (Or.inl ⟨rfl, by omega⟩), by rw [ht]; exact hP9, hD9⟩, hS.F ht⟩) hS.2.2 dX11_count_119
  by_cases hq189 : x1.toInt = 6
  · refine lv_tableIn (tgt := 120) (off := 119) hx hb dX11_count_1 (by omega) (by omega) (by rw [hq189]; decide) (by decide) ?_
    refine lv_aload_n hx hb dX11_count_120 rfl (lv_at hl 0 rfl) ?_
    refine va_get (D := D) (ci := 11) (v := .ref (r 2)) (C := RX11) (T := TX11) (N := 16) hx hb hts hi11 hown hK hP 0 rfl rfl 2 (by decide) (hts (.fieldLink RX11 24 "OverHill" "now" "LOverHill$Dance;") (by decide +kernel)) (fun _ h9 => h9) rfl dX11_count_121 ?_
    refine ct_calli (D := D) (wc := (w_c_X0_countMuds cI cJ cB cZ cO (r 2) (r 24) (r 25) (r 26) (r 27) (r 28) (r 30) (r 31) (r 33) (r 35))) (wr := [oo h r (r 2) (r 3), ((r 25), .inl (cI, 2, .inl (fun _ => 0))), ((r 1), .inr (8, [.ref (r 16), .int 0, .int 0, .int 0, .int 0, .int 0])), ((r 15), .inr (7, [.ref (r 17), .ref (r 18), .ref (r 19)])), ((r 18), .inl (cI, 4, .inl (szf)))]) (va_runV (As := []) (rest := []) ⟨hx, hb, hml, hown, hts⟩ (c_X0_countMuds l D cI cJ cB cZ cO (r 2) (r 24) (r 25) (r 26) (r 27) (r 28) (r 30) (r 31) (r 33) (r 35) H.size) (cwV 0 hts gX11_count_X0_countMuds rfl rfl rfl (by decide +kernel) ⟨Nat.le_of_ble_eq_true rfl, Nat.le_of_ble_eq_true rfl⟩) (ct_preV (T := ct_T cI cJ cB cZ cO) (ci := 0) (q0 := 1) hE hP hD [1, 3] (by decide) rfl rfl rfl) rfl rfl hl.1 rfl (lv_room (Nat.le_of_ble_eq_true rfl)) dX11_count_124 ⟨Nat.le_of_ble_eq_true rfl, Nat.le_of_ble_eq_true rfl⟩) hP hD hS hA [1, 3] [0, 2, 4, 5, 6] rfl rfl (by decide) (by decide) (fun rz u H locs hw hP hD hS => ?_)
    have hP : va_P D vwCl [oo h r (r 2) (r 3), ((r 25), .inl (cI, 2, .inl (fun _ => 0))), ((r 1), .inr (8, [.ref (r 16), .int 0, .int 0, .int 0, .int 0, .int 0])), ((r 15), .inr (7, [.ref (r 17), .ref (r 18), .ref (r 19)])), ((r 18), .inl (cI, 4, .inl (szf)))] H := hP
    have hD : va_D A [oo h r (r 2) (r 3), ((r 25), .inl (cI, 2, .inl (fun _ => 0))), ((r 1), .inr (8, [.ref (r 16), .int 0, .int 0, .int 0, .int 0, .int 0])), ((r 15), .inr (7, [.ref (r 17), .ref (r 18), .ref (r 19)])), ((r 18), .inl (cI, 4, .inl (szf)))] := hD
    obtain ⟨rfl, hq190⟩ := hw
    have hP9 := hP.sub (ws' := []) [] rfl
    have hD9 := hD.sub (ws' := []) [] (by decide) rfl
    exact W.iret (v := 0) hx hb hr (fun t ht hW => ⟨⟨0, (), rfl, (Or.inl ⟨rfl, by omega⟩), by rw [ht]; exact hP9, hD9⟩, hS.F ht⟩) hS.2.2 dX11_count_127
  by_cases hq191 : x1.toInt = 7
  · refine lv_tableIn (tgt := 128) (off := 127) hx hb dX11_count_1 (by omega) (by omega) (by rw [hq191]; decide) (by decide) ?_
    refine lv_aload_n hx hb dX11_count_128 rfl (lv_at hl 0 rfl) ?_
    refine va_get (D := D) (ci := 11) (v := .ref (r 2)) (C := RX11) (T := TX11) (N := 16) hx hb hts hi11 hown hK hP 0 rfl rfl 2 (by decide) (hts (.fieldLink RX11 24 "OverHill" "now" "LOverHill$Dance;") (by decide +kernel)) (fun _ h9 => h9) rfl dX11_count_129 ?_
    refine va_get (D := D) (ci := 0) (v := .int 0) (C := RX0) (T := TX0) (N := 17) hx hb hts hi0 hown hK hP 1 rfl rfl 12 (by decide) (hts (.fieldLink RX11 398 "OverHill$Dance" "cellCount" "I") (by decide +kernel)) (fun _ h9 => h9) rfl dX11_count_132 ?_
    have hP9 := hP.sub (ws' := []) [] rfl
    have hD9 := hD.sub (ws' := []) [] (by decide) rfl
    exact W.iret (v := 0) hx hb hr (fun t ht hW => ⟨⟨0, (), rfl, (Or.inl ⟨rfl, by omega⟩), by rw [ht]; exact hP9, hD9⟩, hS.F ht⟩) hS.2.2 dX11_count_135
  by_cases hq192 : x1.toInt = 8
  · refine lv_tableIn (tgt := 136) (off := 135) hx hb dX11_count_1 (by omega) (by omega) (by rw [hq192]; decide) (by decide) ?_
    refine lv_aload_n hx hb dX11_count_136 rfl (lv_at hl 0 rfl) ?_
    refine va_get (D := D) (ci := 11) (v := .ref (r 2)) (C := RX11) (T := TX11) (N := 16) hx hb hts hi11 hown hK hP 0 rfl rfl 2 (by decide) (hts (.fieldLink RX11 24 "OverHill" "now" "LOverHill$Dance;") (by decide +kernel)) (fun _ h9 => h9) rfl dX11_count_137 ?_
    refine va_get (D := D) (ci := 0) (v := .int 0) (C := RX0) (T := TX0) (N := 17) hx hb hts hi0 hown hK hP 1 rfl rfl 14 (by decide) (hts (.fieldLink RX11 401 "OverHill$Dance" "tuneCount" "I") (by decide +kernel)) (fun _ h9 => h9) rfl dX11_count_140 ?_
    have hP9 := hP.sub (ws' := []) [] rfl
    have hD9 := hD.sub (ws' := []) [] (by decide) rfl
    exact W.iret (v := 0) hx hb hr (fun t ht hW => ⟨⟨0, (), rfl, (Or.inl ⟨rfl, by omega⟩), by rw [ht]; exact hP9, hD9⟩, hS.F ht⟩) hS.2.2 dX11_count_143
  by_cases hq193 : x1.toInt = 9
  · refine lv_tableIn (tgt := 144) (off := 143) hx hb dX11_count_1 (by omega) (by omega) (by rw [hq193]; decide) (by decide) ?_
    refine lv_aload_n hx hb dX11_count_144 rfl (lv_at hl 0 rfl) ?_
    refine va_get (D := D) (ci := 11) (v := .ref (r 2)) (C := RX11) (T := TX11) (N := 16) hx hb hts hi11 hown hK hP 0 rfl rfl 2 (by decide) (hts (.fieldLink RX11 24 "OverHill" "now" "LOverHill$Dance;") (by decide +kernel)) (fun _ h9 => h9) rfl dX11_count_145 ?_
    refine va_get (D := D) (ci := 0) (v := .int 0) (C := RX0) (T := TX0) (N := 17) hx hb hts hi0 hown hK hP 1 rfl rfl 16 (by decide) (hts (.fieldLink RX11 369 "OverHill$Dance" "changeCount" "I") (by decide +kernel)) (fun _ h9 => h9) rfl dX11_count_148 ?_
    have hP9 := hP.sub (ws' := []) [] rfl
    have hD9 := hD.sub (ws' := []) [] (by decide) rfl
    exact W.iret (v := 0) hx hb hr (fun t ht hW => ⟨⟨0, (), rfl, (Or.inl ⟨rfl, by omega⟩), by rw [ht]; exact hP9, hD9⟩, hS.F ht⟩) hS.2.2 dX11_count_151
  by_cases hq194 : x1.toInt = 10
  · refine lv_tableIn (tgt := 152) (off := 151) hx hb dX11_count_1 (by omega) (by omega) (by rw [hq194]; decide) (by decide) ?_
    refine lv_aload_n hx hb dX11_count_152 rfl (lv_at hl 0 rfl) ?_
    refine va_get (D := D) (ci := 11) (v := .ref (r 2)) (C := RX11) (T := TX11) (N := 16) hx hb hts hi11 hown hK hP 0 rfl rfl 2 (by decide) (hts (.fieldLink RX11 24 "OverHill" "now" "LOverHill$Dance;") (by decide +kernel)) (fun _ h9 => h9) rfl dX11_count_153 ?_
    refine va_get (D := D) (ci := 0) (v := .int 0) (C := RX0) (T := TX0) (N := 17) hx hb hts hi0 hown hK hP 1 rfl rfl 3 (by decide) (hts (.fieldLink RX11 116 "OverHill$Dance" "lines" "I") (by decide +kernel)) (fun _ h9 => h9) rfl dX11_count_156 ?_
    have hP9 := hP.sub (ws' := []) [] rfl
    have hD9 := hD.sub (ws' := []) [] (by decide) rfl
    exact W.iret (v := 0) hx hb hr (fun t ht hW => ⟨⟨0, (), rfl, (Or.inl ⟨rfl, by omega⟩), by rw [ht]; exact hP9, hD9⟩, hS.F ht⟩) hS.2.2 dX11_count_159
  by_cases hq195 : x1.toInt = 11
  · refine lv_tableIn (tgt := 160) (off := 159) hx hb dX11_count_1 (by omega) (by omega) (by rw [hq195]; decide) (by decide) ?_
    refine lv_aload_n hx hb dX11_count_160 rfl (lv_at hl 0 rfl) ?_
    refine va_get (D := D) (ci := 11) (v := .ref (r 1)) (C := RX11) (T := TX11) (N := 16) hx hb hts hi11 hown hK hP 0 rfl rfl 1 (by decide) (hts (.fieldLink RX11 20 "OverHill" "tape" "LOverHill$Tape;") (by decide +kernel)) (fun _ h9 => h9) rfl dX11_count_161 ?_
    refine va_get (D := D) (ci := 8) (v := .int 0) (C := RX8) (T := TX8) (N := 6) hx hb hts hi8 hown hK hP 4 rfl rfl 1 (by decide) (hts (.fieldLink RX11 102 "OverHill$Tape" "length" "I") (by decide +kernel)) (fun _ h9 => h9) rfl dX11_count_164 ?_
    have hP9 := hP.sub (ws' := []) [] rfl
    have hD9 := hD.sub (ws' := []) [] (by decide) rfl
    exact W.iret (v := 0) hx hb hr (fun t ht hW => ⟨⟨0, (), rfl, (Or.inl ⟨rfl, by omega⟩), by rw [ht]; exact hP9, hD9⟩, hS.F ht⟩) hS.2.2 dX11_count_167
  by_cases hq196 : x1.toInt = 12
  · refine lv_tableIn (tgt := 168) (off := 167) hx hb dX11_count_1 (by omega) (by omega) (by rw [hq196]; decide) (by decide) ?_
    refine lv_aload_n hx hb dX11_count_168 rfl (lv_at hl 0 rfl) ?_
    refine va_get (D := D) (ci := 11) (v := .ref (r 15)) (C := RX11) (T := TX11) (N := 16) hx hb hts hi11 hown hK hP 0 rfl rfl 15 (by decide) (hts (.fieldLink RX11 98 "OverHill" "slots" "LOverHill$Slots;") (by decide +kernel)) (fun _ h9 => h9) rfl dX11_count_169 ?_
    refine ct_calli (D := D) (wc := (w_c_X7_countRows cI cJ cB cZ cO (r 15) (r 17) (r 18) (r 19))) (wr := [oo h r (r 2) (r 3), dn (r 2) (r 24) (r 25) (r 26) (r 27) (r 28) (r 30) (r 31) (r 33) (r 35), ((r 25), .inl (cI, 2, .inl (fun _ => 0))), ((r 30), .inl (cI, 200, .inl (fun _ => 0))), ((r 1), .inr (8, [.ref (r 16), .int 0, .int 0, .int 0, .int 0, .int 0]))]) (va_runV (As := []) (rest := []) ⟨hx, hb, hml, hown, hts⟩ (c_X7_countRows l D cI cJ cB cZ cO (r 15) (r 17) (r 18) (r 19) H.size) (cwV 0 hts gX11_count_X7_countRows rfl rfl rfl (by decide +kernel) ⟨Nat.le_of_ble_eq_true rfl, Nat.le_of_ble_eq_true rfl⟩) (ct_preV (T := ct_T cI cJ cB cZ cO) (ci := 7) (q0 := 5) hE hP hD [5, 6] (by decide) rfl rfl rfl) rfl rfl hl.1 rfl (lv_room (Nat.le_of_ble_eq_true rfl)) dX11_count_172 ⟨Nat.le_of_ble_eq_true rfl, Nat.le_of_ble_eq_true rfl⟩) hP hD hS hA [5, 6] [0, 1, 2, 3, 4] rfl rfl (by decide) (by decide) (fun rz u H locs hw hP hD hS => ?_)
    have hP : va_P D vwCl [oo h r (r 2) (r 3), dn (r 2) (r 24) (r 25) (r 26) (r 27) (r 28) (r 30) (r 31) (r 33) (r 35), ((r 25), .inl (cI, 2, .inl (fun _ => 0))), ((r 30), .inl (cI, 200, .inl (fun _ => 0))), ((r 1), .inr (8, [.ref (r 16), .int 0, .int 0, .int 0, .int 0, .int 0])), ((r 15), .inr (7, [.ref (r 17), .ref (r 18), .ref (r 19)])), ((r 18), .inl (cI, 4, .inl (szf)))] H := hP
    have hD : va_D A [oo h r (r 2) (r 3), dn (r 2) (r 24) (r 25) (r 26) (r 27) (r 28) (r 30) (r 31) (r 33) (r 35), ((r 25), .inl (cI, 2, .inl (fun _ => 0))), ((r 30), .inl (cI, 200, .inl (fun _ => 0))), ((r 1), .inr (8, [.ref (r 16), .int 0, .int 0, .int 0, .int 0, .int 0])), ((r 15), .inr (7, [.ref (r 17), .ref (r 18), .ref (r 19)])), ((r 18), .inl (cI, 4, .inl (szf)))] := hD
    obtain ⟨rfl, hq197⟩ := hw
    have hP9 := hP.sub (ws' := []) [] rfl
    have hD9 := hD.sub (ws' := []) [] (by decide) rfl
    exact W.iret (v := 0) hx hb hr (fun t ht hW => ⟨⟨0, (), rfl, (Or.inl ⟨rfl, by omega⟩), by rw [ht]; exact hP9, hD9⟩, hS.F ht⟩) hS.2.2 dX11_count_175
  refine lv_tableOut (tgt := 176) hx hb dX11_count_1 (by omega) (by decide) ?_
  refine lv_iconst (v := (-1)) hx hb dX11_count_176 (by decide) ?_
  have hP9 := hP.sub (ws' := []) [] rfl
  have hD9 := hD.sub (ws' := []) [] (by decide) rfl
  exact W.iret (v := (-1)) hx hb hr (fun t ht hW => ⟨⟨(-1), (), rfl, (Or.inr (⟨rfl, by omega⟩)), by rw [ht]; exact hP9, hD9⟩, hS.F ht⟩) hS.2.2 dX11_count_177
