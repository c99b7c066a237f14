set_option maxHeartbeats 4000000 in
set_option maxRecDepth 100000 in
/-- the loop of J7_fill_53178 at 5 -/
theorem lp_J7_fill_53178_5 {p : Program} {l : Launch} {e : Env} {Rm : Room} {s : State} {m : MethodId} {args : Array Value} {below : List Frame} {meth : Method} {c : Code} {cells slots : Nat} {Q : State → Prop} {A : Nat → Prop} (D : va_G) (cI cJ cB cZ cO : ClassId) (a : Nat) (n : Nat) (v : Int32) (h_n : n < 2 ^ 31) (hx : p.tables.exec = Jvm.exec) (hb : c.code = cJ7_fill_53178) (hown : s.vm.findClass RJ7 = some m.cls) (hts : ∀ w ∈ wsJ7_fill_53178, w.before args s = true) (hE : ct_E D (ct_T cI cJ cB cZ cO) s)
    (hk : ∀ (fl : Nat → Int32) (H : Heap) (locs : List Loc) (ls : Array Slot), va_P D vwCl [(a, .inl (cI, n, .inl (fl)))] H → va_D A [(a, .inl (cI, n, .inl (fl)))] → va_S A s.heap H locs → lv_has ls 4 [(3, .int (nI n)), (2, .int (nI n)), (0, .ref a), (1, .int v)] → W p l e Rm s m args below meth c H locs cells slots Q (F0 m 20 ls [])) :
    ∀ (fu i : Nat) (fl : Nat → Int32) (H : Heap) (locs : List Loc) (ls : Array Slot), i + fu = n → va_P D vwCl [(a, .inl (cI, n, .inl (fl)))] H → va_D A [(a, .inl (cI, n, .inl (fl)))] → va_S A s.heap H locs → lv_has ls 4 [(3, .int (nI n)), (2, .int (nI i)), (0, .ref a), (1, .int v)] → W p l e Rm s m args below meth c H locs cells slots Q (F0 m 5 ls []) := by
  have hK := hE.1
  intro fu
  induction fu with
  | zero =>
    intro i fl H locs ls hin hP hD hS hl
    obtain rfl : i = n := by omega
    refine lv_iload_n hx hb dJ7_fill_53178_5 rfl (lv_at hl 1 rfl) ?_
    refine lv_iload_n hx hb dJ7_fill_53178_6 rfl (lv_at hl 0 rfl) ?_
    refine lv_icmp_ge (tgt := 20) hx hb dJ7_fill_53178_7 (by decide) (fun _ => ?_) (fun hc => absurd hc (fun z => z (Int32.le_refl _)))
    exact hk fl H locs ls hP hD hS (lv_sub hl [0, 1, 2, 3] rfl)
  | succ fu ih =>
    intro i fl H locs ls hin hP hD hS hl
    refine lv_iload_n hx hb dJ7_fill_53178_5 rfl (lv_at hl 1 rfl) ?_
    refine lv_iload_n hx hb dJ7_fill_53178_6 rfl (lv_at hl 0 rfl) ?_
    refine lv_icmp_ge (tgt := 20) hx hb dJ7_fill_53178_7 (by decide) (fun hc => absurd hc (nI_ge (a := i) (b := n) (by omega) (by omega))) (fun _ => ?_)
    refine lv_aload_n hx hb dJ7_fill_53178_10 rfl (lv_at hl 2 rfl) ?_
    refine lv_iload_n hx hb dJ7_fill_53178_11 rfl (lv_at hl 1 rfl) ?_
    refine lv_iload_n hx hb dJ7_fill_53178_12 rfl (lv_at hl 3 rfl) ?_
    refine va_iast (D := D) hx hb hK hP hD hS 0 0 rfl rfl (tq_in (nI_toInt (by omega)) (by omega)) dJ7_fill_53178_13 (fun H locs hP hD hS => ?_)
    obtain ⟨g177, hP, hD⟩ : ∃ g177 : Nat → Int32, va_P D vwCl [(a, .inl (cI, n, .inl (g177)))] H ∧ va_D A [(a, .inl (cI, n, .inl (g177)))] := ⟨_, hP, hD⟩
    refine lv_iinc (v := (nI (i + 1))) (lv' := [(2, .int (nI (i + 1))), (3, .int (nI n)), (0, .ref a), (1, .int v)]) hx hb dJ7_fill_53178_14 hl (k := 1) rfl (nI_1 i) (by decide) rfl (fun ls hl => ?_)
    refine lv_goto (tgt := 5) hx hb dJ7_fill_53178_17 (by decide) ?_
    exact ih (i + 1) g177 H locs ls (by omega) hP hD hS (lv_sub hl [1, 0, 2, 3] rfl)
abbrev w_c_J7_fill (cI cJ cB cZ cO : ClassId) (a : Nat) (n : Nat) (f : Nat → Int32) : va_W := [(a, .inl (cI, n, .inl (f)))]
set_option maxHeartbeats 4000000 in
set_option maxRecDepth 100000 in
/-- Arrays.fill -/
theorem c_J7_fill (l : Launch) (D : va_G) (cI cJ cB cZ cO : ClassId) (a : Nat) (n : Nat) (f : Nat → Int32) (v : Int32) (h_n : n < 2 ^ 31) (sz : Nat) : Met l yJ7_fill_53178 wsJ7_fill_53178 ({ frames := 0, cells := 0, slots := 0, locals := 0 }) (va_Pc [.ref a, .int v] (ct_P D (ct_T cI cJ cB cZ cO) (w_c_J7_fill cI cJ cB cZ cO a n f) sz)) (va_Qv (fun (u : Unit) => True) (fun (u : Unit) t => ct_Q D (va_A (w_c_J7_fill cI cJ cB cZ cO a n f) sz) [] t) (va_A (w_c_J7_fill cI cJ cB cZ cO a n f) sz)) 0 0 (va_A (w_c_J7_fill cI cJ cB cZ cO a n f) sz) := by
  refine Met.ofW (cc := cJ7_fill_53178) (maxL := 4) (ret := none) (by decide) rfl ?_
  intro p e s m args below meth c s₁ B hml hv
  obtain ⟨rfl, hsz, hP, hE, hD0⟩ := hv
  have hx := B.exec
  have hb := B.bytes
  have hr := B.returns
  have hts := atoms_spec (ws := wsJ7_fill_53178) B.pre
  have hown : s.vm.findClass RJ7 = some m.cls := findClass_of_methodNamed B.named
  have hlocks := B.notSynchronized
  have hK := hE.1
  subst hsz
  have hD := hD0.self (sz := s.heap.size)
  generalize hAe : va_A (w_c_J7_fill cI cJ cB cZ cO a n f) s.heap.size = A at hD ⊢
  have hA : ∀ q : Nat, s.heap.size ≤ q → A q := fun q h => by rw [← hAe]; exact Or.inr h
  have hS : va_S A s.heap s.heap [] := va_S.rf
  have hP : va_P D vwCl [(a, .inl (cI, n, .inl (f)))] s.heap := hP
  have hD : va_D A [(a, .inl (cI, n, .inl (f)))] := hD
  have hl := lv_entry ([.ref a, .int v]) (n := 4) (Nat.le_of_ble_eq_true rfl)
  rw [lg_entry_eq]
  generalize (lg_sl ([.ref a, .int v]) ++ List.replicate (4 - (lg_sl ([.ref a, .int v])).length) Slot.unset).toArray = ls at hl ⊢
  have hl : lv_has ls 4 [(0, .ref a), (1, .int v)] := hl
  obtain ⟨H, hHe⟩ : ∃ H : Heap, H = s.heap := ⟨_, rfl⟩
  rw [← hHe] at hP
  have hS : va_S A s.heap H [] := by rw [hHe]; exact va_S.rf
  refine ct_start hHe ?_
  refine lv_iconst (v := 0) hx hb dJ7_fill_53178_0 (by decide) ?_
  refine lv_istore_n (lv' := [(2, .int 0), (0, .ref a), (1, .int v)]) hx hb dJ7_fill_53178_1 rfl hl (by decide) rfl (fun ls hl => ?_)
  refine lv_aload_n hx hb dJ7_fill_53178_2 rfl (lv_at hl 1 rfl) ?_
  refine va_alen (D := D) (v := (nI n)) hx hb hK hP 0 0 rfl rfl rfl dJ7_fill_53178_3 ?_
  refine lv_istore_n (lv' := [(3, .int (nI n)), (2, .int 0), (0, .ref a), (1, .int v)]) hx hb dJ7_fill_53178_4 rfl hl (by decide) rfl (fun ls hl => ?_)
  refine lp_J7_fill_53178_5 D cI cJ cB cZ cO a n v h_n hx hb hown hts hE (fun fl H locs ls hP hD hS hl => ?_) n 0 f _ _ _ (by omega) hP hD hS (lv_sub hl [0, 1, 2, 3] rfl)
  have hP9 := hP.sub (ws' := []) [] rfl
  have hD9 := hD.sub (ws' := []) [] (by decide) rfl
  exact W.vret hx hb hr (fun t ht hW => ⟨⟨(), rfl, trivial, by rw [ht]; exact hP9, hD9⟩, hS.F ht⟩) hS.2.2 dJ7_fill_53178_20
set_option maxHeartbeats 4000000 in
set_option maxRecDepth 100000 in
/-- the loop of X0_countMuds at 4 -/
theorem lp_X0_countMuds_4 {p : Program} {l : Launch} {e : Env} {Rm : Room} {s : State} {m : MethodId} {args : Array Value} {below : List Frame} {meth : Method} {c : Code} {cells slots : Nat} {Q : State → Prop} {A : Nat → Prop} (D : va_G) (cI cJ cB cZ cO : ClassId) (a : Nat) (b4 : Nat) (b5 : Nat) (b6 : Nat) (b7 : Nat) (b8 : Nat) (b10 : Nat) (b11 : Nat) (b13 : Nat) (b15 : Nat)  (hx : p.tables.exec = Jvm.exec) (hb : c.code = cX0_countMuds) (hown : s.vm.findClass RX0 = some m.cls) (hts : ∀ w ∈ wsX0_countMuds, w.before args s = true) (hE : ct_E D (ct_T cI cJ cB cZ cO) s)
    (hk : ∀  (H : Heap) (locs : List Loc) (ls : Array Slot), va_P D vwCl [dn a b4 b5 b6 b7 b8 b10 b11 b13 b15, (b10, .inl (cI, 200, .inl (fun _ => 0)))] H → va_D A [dn a b4 b5 b6 b7 b8 b10 b11 b13 b15, (b10, .inl (cI, 200, .inl (fun _ => 0)))] → va_S A s.heap H locs → lv_has ls 3 [(2, .int (nI 200)), (1, .int 0), (0, .ref a)] → W p l e Rm s m args below meth c H locs cells slots Q (F0 m 26 ls [])) :
    ∀ (fu i : Nat)  (H : Heap) (locs : List Loc) (ls : Array Slot), i + fu = 200 → va_P D vwCl [dn a b4 b5 b6 b7 b8 b10 b11 b13 b15, (b10, .inl (cI, 200, .inl (fun _ => 0)))] H → va_D A [dn a b4 b5 b6 b7 b8 b10 b11 b13 b15, (b10, .inl (cI, 200, .inl (fun _ => 0)))] → va_S A s.heap H locs → lv_has ls 3 [(2, .int (nI i)), (1, .int 0), (0, .ref a)] → W p l e Rm s m args below meth c H locs cells slots Q (F0 m 4 ls []) := by
  have hK := hE.1
  have hi0 : ∀ w ∈ u_ws RX0 TX0 17, w ∈ wsX0_countMuds := fun w h => List.mem_cons_of_mem _ (List.mem_append_right _ h)
  intro fu
  induction fu with
  | zero =>
    intro i  H locs ls hin hP hD hS hl
    obtain rfl : i = 200 := by omega
    refine lv_iload_n hx hb dX0_countMuds_4 rfl (lv_at hl 0 rfl) ?_
    refine lv_sipush (v := 200) hx hb dX0_countMuds_5 (by decide) ?_
    refine lv_icmp_ge (tgt := 26) hx hb dX0_countMuds_8 (by decide) (fun _ => ?_) (fun hc => absurd hc (by decide))
    exact hk  H locs ls hP hD hS (lv_sub hl [0, 1, 2] rfl)
  | succ fu ih =>
    intro i  H locs ls hin hP hD hS hl
    refine lv_iload_n hx hb dX0_countMuds_4 rfl (lv_at hl 0 rfl) ?_
    refine lv_sipush (v := 200) hx hb dX0_countMuds_5 (by decide) ?_
    refine lv_icmp_ge (tgt := 26) hx hb dX0_countMuds_8 (by decide) (fun hc => absurd hc (nI_ge (a := i) (b := 200) (by omega) (by omega))) (fun _ => ?_)
    refine lv_iload_n hx hb dX0_countMuds_11 rfl (lv_at hl 1 rfl) ?_
    refine lv_aload_n hx hb dX0_countMuds_12 rfl (lv_at hl 2 rfl) ?_
    refine va_get (D := D) (ci := 0) (v := .ref b10) (C := RX0) (T := TX0) (N := 17) hx hb hts hi0 hown hK hP 0 rfl rfl 10 (by decide) (hts (.fieldLink RX0 27 "OverHill$Dance" "muds" "[I") (by decide +kernel)) (fun _ h9 => h9) rfl dX0_countMuds_13 ?_
    refine lv_iload_n hx hb dX0_countMuds_16 rfl (lv_at hl 0 rfl) ?_
    refine va_iald (D := D) hx hb hK hP 1 0 rfl rfl (tq_in (nI_toInt (by omega)) (by omega)) dX0_countMuds_17 ?_
    refine lv_topi (fun z178 ez178 => ?_)
    obtain rfl : z178 = 0 := ez178
    refine lv_iadd hx hb dX0_countMuds_18 ?_
    refine lv_topi (fun z179 ez179 => ?_)
    obtain rfl : z179 = 0 := ez179.trans (by decide)
    refine lv_istore_n (lv' := [(1, .int 0), (2, .int (nI i)), (0, .ref a)]) hx hb dX0_countMuds_19 rfl hl (by decide) rfl (fun ls hl => ?_)
    refine lv_iinc (v := (nI (i + 1))) (lv' := [(2, .int (nI (i + 1))), (1, .int 0), (0, .ref a)]) hx hb dX0_countMuds_20 hl (k := 1) rfl (nI_1 i) (by decide) rfl (fun ls hl => ?_)
    refine lv_goto (tgt := 4) hx hb dX0_countMuds_23 (by decide) ?_
    exact ih (i + 1)  H locs ls (by omega) hP hD hS (lv_sub hl [0, 1, 2] rfl)
abbrev w_c_X0_countMuds (cI cJ cB cZ cO : ClassId) (a : Nat) (b4 : Nat) (b5 : Nat) (b6 : Nat) (b7 : Nat) (b8 : Nat) (b10 : Nat) (b11 : Nat) (b13 : Nat) (b15 : Nat) : va_W := [dn a b4 b5 b6 b7 b8 b10 b11 b13 b15, (b10, .inl (cI, 200, .inl (fun _ => 0)))]
set_option maxHeartbeats 4000000 in
set_option maxRecDepth 100000 in
/-- no MUD -/
theorem c_X0_countMuds (l : Launch) (D : va_G) (cI cJ cB cZ cO : ClassId) (a : Nat) (b4 : Nat) (b5 : Nat) (b6 : Nat) (b7 : Nat) (b8 : Nat) (b10 : Nat) (b11 : Nat) (b13 : Nat) (b15 : Nat) (sz : Nat) : Met l yX0_countMuds wsX0_countMuds ({ frames := 0, cells := 0, slots := 0, locals := 0 }) (va_Pc [.ref a] (ct_P D (ct_T cI cJ cB cZ cO) (w_c_X0_countMuds cI cJ cB cZ cO a b4 b5 b6 b7 b8 b10 b11 b13 b15) sz)) (va_Qi (fun (rz : Int32) (u : Unit) => (rz = 0 ∧ True)) (fun (u : Unit) t => ct_Q D (va_A (w_c_X0_countMuds cI cJ cB cZ cO a b4 b5 b6 b7 b8 b10 b11 b13 b15) sz) [] t) (va_A (w_c_X0_countMuds cI cJ cB cZ cO a b4 b5 b6 b7 b8 b10 b11 b13 b15) sz)) 0 0 (va_A (w_c_X0_countMuds cI cJ cB cZ cO a b4 b5 b6 b7 b8 b10 b11 b13 b15) sz) := by
  refine Met.ofW (cc := cX0_countMuds) (maxL := 3) (ret := (some .int)) (by decide) rfl ?_
  intro p e s m args below meth c s₁ B hml hv
  obtain ⟨rfl, hsz, hP, hE, hD0⟩ := hv
  have hx := B.exec
  have hb := B.bytes
  have hr := B.returns
  have hts := atoms_spec (ws := wsX0_countMuds) B.pre
  have hown : s.vm.findClass RX0 = some m.cls := findClass_of_methodNamed B.named
  have hlocks := B.notSynchronized
  have hK := hE.1
  subst hsz
  have hD := hD0.self (sz := s.heap.size)
  generalize hAe : va_A (w_c_X0_countMuds cI cJ cB cZ cO a b4 b5 b6 b7 b8 b10 b11 b13 b15) s.heap.size = A at hD ⊢
  have hA : ∀ q : Nat, s.heap.size ≤ q → A q := fun q h => by rw [← hAe]; exact Or.inr h
  have hS : va_S A s.heap s.heap [] := va_S.rf
  have hP : va_P D vwCl [dn a b4 b5 b6 b7 b8 b10 b11 b13 b15, (b10, .inl (cI, 200, .inl (fun _ => 0)))] s.heap := hP
  have hD : va_D A [dn a b4 b5 b6 b7 b8 b10 b11 b13 b15, (b10, .inl (cI, 200, .inl (fun _ => 0)))] := hD
  have hl := lv_entry ([.ref a]) (n := 3) (Nat.le_of_ble_eq_true rfl)
  rw [lg_entry_eq]
  generalize (lg_sl ([.ref a]) ++ List.replicate (3 - (lg_sl ([.ref a])).length) Slot.unset).toArray = ls at hl ⊢
  have hl : lv_has ls 3 [(0, .ref a)] := hl
  obtain ⟨H, hHe⟩ : ∃ H : Heap, H = s.heap := ⟨_, rfl⟩
  rw [← hHe] at hP
  have hS : va_S A s.heap H [] := by rw [hHe]; exact va_S.rf
  refine ct_start hHe ?_
  refine lv_iconst (v := 0) hx hb dX0_countMuds_0 (by decide) ?_
  refine lv_istore_n (lv' := [(1, .int 0), (0, .ref a)]) hx hb dX0_countMuds_1 rfl hl (by decide) rfl (fun ls hl => ?_)
  refine lv_iconst (v := 0) hx hb dX0_countMuds_2 (by decide) ?_
  refine lv_istore_n (lv' := [(2, .int 0), (1, .int 0), (0, .ref a)]) hx hb dX0_countMuds_3 rfl hl (by decide) rfl (fun ls hl => ?_)
  refine lp_X0_countMuds_4 D cI cJ cB cZ cO a b4 b5 b6 b7 b8 b10 b11 b13 b15  hx hb hown hts hE (fun  H locs ls hP hD hS hl => ?_) 200 0  _ _ _ (by omega) hP hD hS (lv_sub hl [0, 1, 2] rfl)
  refine lv_iload_n hx hb dX0_countMuds_26 rfl (lv_at hl 1 rfl) ?_
  have hP9 := hP.sub (ws' := []) [] rfl
  have hD9 := hD.sub (ws' := []) [] (by decide) rfl
  exact W.iret (v := 0) hx hb hr (fun t ht hW => ⟨⟨0, (), rfl, ⟨rfl, trivial⟩, by rw [ht]; exact hP9, hD9⟩, hS.F ht⟩) hS.2.2 dX0_countMuds_27
abbrev w_c_X0_clear (cI cJ cB cZ cO : ClassId) (a : Nat) (b4 : Nat) (b5 : Nat) (b6 : Nat) (b7 : Nat) (b8 : Nat) (b10 : Nat) (b11 : Nat) (b13 : Nat) (b15 : Nat) : va_W := [dn a b4 b5 b6 b7 b8 b10 b11 b13 b15, (b5, .inl (cI, 2, .inl (fun _ => 0))), (b6, .inl (cI, 2, .inl (fun _ => 0))), (b7, .inl (cI, 6, .inl (fun _ => 0))), (b10, .inl (cI, 200, .inl (fun _ => 0)))]
set_option maxHeartbeats 4000000 in
set_option maxRecDepth 100000 in
/-- a DANCE cleared -/
theorem c_X0_clear (l : Launch) (D : va_G) (cI cJ cB cZ cO : ClassId) (a : Nat) (b4 : Nat) (b5 : Nat) (b6 : Nat) (b7 : Nat) (b8 : Nat) (b10 : Nat) (b11 : Nat) (b13 : Nat) (b15 : Nat) (sz : Nat) : Met l yX0_clear wsX0_clear ({ frames := 1, cells := 0, slots := 0, locals := 23 }) (va_Pc [.ref a] (ct_P D (ct_T cI cJ cB cZ cO) (w_c_X0_clear cI cJ cB cZ cO a b4 b5 b6 b7 b8 b10 b11 b13 b15) sz)) (va_Qv (fun (u : Unit) => True) (fun (u : Unit) t => ct_Q D (va_A (w_c_X0_clear cI cJ cB cZ cO a b4 b5 b6 b7 b8 b10 b11 b13 b15) sz) [dn a b4 b5 b6 b7 b8 b10 b11 b13 b15] t) (va_A (w_c_X0_clear cI cJ cB cZ cO a b4 b5 b6 b7 b8 b10 b11 b13 b15) sz)) 0 0 (va_A (w_c_X0_clear cI cJ cB cZ cO a b4 b5 b6 b7 b8 b10 b11 b13 b15) sz) := by
  refine Met.ofW (cc := cX0_clear) (maxL := 1) (ret := none) (by decide) rfl ?_
  intro p e s m args below meth c s₁ B hml hv
  obtain ⟨rfl, hsz, hP, hE, hD0⟩ := hv
  have hx := B.exec
  have hb := B.bytes
  have hr := B.returns
  have hts := atoms_spec (ws := wsX0_clear) B.pre
  have hown : s.vm.findClass RX0 = some m.cls := findClass_of_methodNamed B.named
  have hlocks := B.notSynchronized
  have hK := hE.1
  have hi0 : ∀ w ∈ u_ws RX0 TX0 17, w ∈ wsX0_clear := fun w h => List.mem_cons_of_mem _ (List.mem_append_right _ h)
  subst hsz
  have hD := hD0.self (sz := s.heap.size)
  generalize hAe : va_A (w_c_X0_clear cI cJ cB cZ cO a b4 b5 b6 b7 b8 b10 b11 b13 b15) s.heap.size = A at hD ⊢
  have hA : ∀ q : Nat, s.heap.size ≤ q → A q := fun q h => by rw [← hAe]; exact Or.inr h
  have hS : va_S A s.heap s.heap [] := va_S.rf
  have hP : va_P D vwCl [dn a b4 b5 b6 b7 b8 b10 b11 b13 b15, (b5, .inl (cI, 2, .inl (fun _ => 0))), (b6, .inl (cI, 2, .inl (fun _ => 0))), (b7, .inl (cI, 6, .inl (fun _ => 0))), (b10, .inl (cI, 200, .inl (fun _ => 0)))] s.heap := hP
  have hD : va_D A [dn a b4 b5 b6 b7 b8 b10 b11 b13 b15, (b5, .inl (cI, 2, .inl (fun _ => 0))), (b6, .inl (cI, 2, .inl (fun _ => 0))), (b7, .inl (cI, 6, .inl (fun _ => 0))), (b10, .inl (cI, 200, .inl (fun _ => 0)))] := hD
  have hl := lv_entry ([.ref a]) (n := 1) (Nat.le_of_ble_eq_true rfl)
  rw [lg_entry_eq]
  generalize (lg_sl ([.ref a]) ++ List.replicate (1 - (lg_sl ([.ref a])).length) Slot.unset).toArray = ls at hl ⊢
  have hl : lv_has ls 1 [(0, .ref a)] := hl
  obtain ⟨H, hHe⟩ : ∃ H : Heap, H = s.heap := ⟨_, rfl⟩
  rw [← hHe] at hP
  have hS : va_S A s.heap H [] := by rw [hHe]; exact va_S.rf
  refine ct_start hHe ?_
  refine lv_aload_n hx hb dX0_clear_0 rfl (lv_at hl 0 rfl) ?_
  refine lv_iconst (v := 0) hx hb dX0_clear_1 (by decide) ?_
  refine va_put (D := D) (ci := 0) (v := .int 0) (ty := .int) (C := RX0) (T := TX0) (N := 17) hx hb hts hi0 tyX0 tyX0_ok nmX0 hown hK hP hD hS 0 rfl rfl 0 (by decide) (hts (.fieldLink RX0 39 "OverHill$Dance" "gap" "I") (by decide +kernel)) (fun _ h9 => h9) rfl (by decide +kernel) rfl rfl (Nat.le_of_ble_eq_true rfl) dX0_clear_2 (fun H locs hP hD hS => ?_)
  have hP : va_P D vwCl [dn a b4 b5 b6 b7 b8 b10 b11 b13 b15, (b5, .inl (cI, 2, .inl (fun _ => 0))), (b6, .inl (cI, 2, .inl (fun _ => 0))), (b7, .inl (cI, 6, .inl (fun _ => 0))), (b10, .inl (cI, 200, .inl (fun _ => 0)))] H := hP
  have hD : va_D A [dn a b4 b5 b6 b7 b8 b10 b11 b13 b15, (b5, .inl (cI, 2, .inl (fun _ => 0))), (b6, .inl (cI, 2, .inl (fun _ => 0))), (b7, .inl (cI, 6, .inl (fun _ => 0))), (b10, .inl (cI, 200, .inl (fun _ => 0)))] := hD
  refine lv_aload_n hx hb dX0_clear_5 rfl (lv_at hl 0 rfl) ?_
  refine lv_iconst (v := 0) hx hb dX0_clear_6 (by decide) ?_
  refine va_put (D := D) (ci := 0) (v := .int 0) (ty := .int) (C := RX0) (T := TX0) (N := 17) hx hb hts hi0 tyX0 tyX0_ok nmX0 hown hK hP hD hS 0 rfl rfl 1 (by decide) (hts (.fieldLink RX0 43 "OverHill$Dance" "odds" "I") (by decide +kernel)) (fun _ h9 => h9) rfl (by decide +kernel) rfl rfl (Nat.le_of_ble_eq_true rfl) dX0_clear_7 (fun H locs hP hD hS => ?_)
  have hP : va_P D vwCl [dn a b4 b5 b6 b7 b8 b10 b11 b13 b15, (b5, .inl (cI, 2, .inl (fun _ => 0))), (b6, .inl (cI, 2, .inl (fun _ => 0))), (b7, .inl (cI, 6, .inl (fun _ => 0))), (b10, .inl (cI, 200, .inl (fun _ => 0)))] H := hP
  have hD : va_D A [dn a b4 b5 b6 b7 b8 b10 b11 b13 b15, (b5, .inl (cI, 2, .inl (fun _ => 0))), (b6, .inl (cI, 2, .inl (fun _ => 0))), (b7, .inl (cI, 6, .inl (fun _ => 0))), (b10, .inl (cI, 200, .inl (fun _ => 0)))] := hD
  refine lv_aload_n hx hb dX0_clear_10 rfl (lv_at hl 0 rfl) ?_
  refine lv_iconst (v := 0) hx hb dX0_clear_11 (by decide) ?_
  refine va_put (D := D) (ci := 0) (v := .int 0) (ty := .int) (C := RX0) (T := TX0) (N := 17) hx hb hts hi0 tyX0 tyX0_ok nmX0 hown hK hP hD hS 0 rfl rfl 2 (by decide) (hts (.fieldLink RX0 46 "OverHill$Dance" "rain" "I") (by decide +kernel)) (fun _ h9 => h9) rfl (by decide +kernel) rfl rfl (Nat.le_of_ble_eq_true rfl) dX0_clear_12 (fun H locs hP hD hS => ?_)
  have hP : va_P D vwCl [dn a b4 b5 b6 b7 b8 b10 b11 b13 b15, (b5, .inl (cI, 2, .inl (fun _ => 0))), (b6, .inl (cI, 2, .inl (fun _ => 0))), (b7, .inl (cI, 6, .inl (fun _ => 0))), (b10, .inl (cI, 200, .inl (fun _ => 0)))] H := hP
  have hD : va_D A [dn a b4 b5 b6 b7 b8 b10 b11 b13 b15, (b5, .inl (cI, 2, .inl (fun _ => 0))), (b6, .inl (cI, 2, .inl (fun _ => 0))), (b7, .inl (cI, 6, .inl (fun _ => 0))), (b10, .inl (cI, 200, .inl (fun _ => 0)))] := hD
  refine lv_aload_n hx hb dX0_clear_15 rfl (lv_at hl 0 rfl) ?_
  refine lv_iconst (v := 0) hx hb dX0_clear_16 (by decide) ?_
  refine va_put (D := D) (ci := 0) (v := .int 0) (ty := .int) (C := RX0) (T := TX0) (N := 17) hx hb hts hi0 tyX0 tyX0_ok nmX0 hown hK hP hD hS 0 rfl rfl 3 (by decide) (hts (.fieldLink RX0 49 "OverHill$Dance" "lines" "I") (by decide +kernel)) (fun _ h9 => h9) rfl (by decide +kernel) rfl rfl (Nat.le_of_ble_eq_true rfl) dX0_clear_17 (fun H locs hP hD hS => ?_)
  have hP : va_P D vwCl [dn a b4 b5 b6 b7 b8 b10 b11 b13 b15, (b5, .inl (cI, 2, .inl (fun _ => 0))), (b6, .inl (cI, 2, .inl (fun _ => 0))), (b7, .inl (cI, 6, .inl (fun _ => 0))), (b10, .inl (cI, 200, .inl (fun _ => 0)))] H := hP
  have hD : va_D A [dn a b4 b5 b6 b7 b8 b10 b11 b13 b15, (b5, .inl (cI, 2, .inl (fun _ => 0))), (b6, .inl (cI, 2, .inl (fun _ => 0))), (b7, .inl (cI, 6, .inl (fun _ => 0))), (b10, .inl (cI, 200, .inl (fun _ => 0)))] := hD
  refine lv_aload_n hx hb dX0_clear_20 rfl (lv_at hl 0 rfl) ?_
  refine va_get (D := D) (ci := 0) (v := .ref b5) (C := RX0) (T := TX0) (N := 17) hx hb hts hi0 hown hK hP 0 rfl rfl 5 (by decide) (hts (.fieldLink RX0 15 "OverHill$Dance" "lengths" "[I") (by decide +kernel)) (fun _ h9 => h9) rfl dX0_clear_21 ?_
  refine lv_iconst (v := 0) hx hb dX0_clear_24 (by decide) ?_
  refine ct_callv (D := D) (wc := (w_c_J7_fill cI cJ cB cZ cO b5 2 (fun _ => 0))) (wr := [dn a b4 b5 b6 b7 b8 b10 b11 b13 b15, (b6, .inl (cI, 2, .inl (fun _ => 0))), (b7, .inl (cI, 6, .inl (fun _ => 0))), (b10, .inl (cI, 200, .inl (fun _ => 0)))]) (va_runS (As := [.ref b5, .int 0]) (rest := []) ⟨hx, hb, hml, hown, hts⟩ (c_J7_fill l D cI cJ cB cZ cO b5 2 (fun _ => 0) 0 (by omega) H.size) (va_cwS 2 hts gX0_clear_J7_fill_53178 rfl rfl rfl (by decide +kernel) ⟨Nat.le_of_ble_eq_true rfl, Nat.le_of_ble_eq_true rfl⟩) (ct_preS (T := ct_T cI cJ cB cZ cO) hE hP hD [1] (by decide) rfl) rfl rfl hl.1 rfl (lv_room (Nat.le_of_ble_eq_true rfl)) dX0_clear_25 ⟨Nat.le_of_ble_eq_true rfl, Nat.le_of_ble_eq_true rfl⟩) hP hD hS hA [1] [0, 2, 3, 4] rfl rfl (by decide) (by decide) (fun u H locs hw hP hD hS => ?_)
  have hP : va_P D vwCl [dn a b4 b5 b6 b7 b8 b10 b11 b13 b15, (b6, .inl (cI, 2, .inl (fun _ => 0))), (b7, .inl (cI, 6, .inl (fun _ => 0))), (b10, .inl (cI, 200, .inl (fun _ => 0)))] H := hP
  have hD : va_D A [dn a b4 b5 b6 b7 b8 b10 b11 b13 b15, (b6, .inl (cI, 2, .inl (fun _ => 0))), (b7, .inl (cI, 6, .inl (fun _ => 0))), (b10, .inl (cI, 200, .inl (fun _ => 0)))] := hD
  refine lv_aload_n hx hb dX0_clear_28 rfl (lv_at hl 0 rfl) ?_
  refine va_get (D := D) (ci := 0) (v := .ref b6) (C := RX0) (T := TX0) (N := 17) hx hb hts hi0 hown hK hP 0 rfl rfl 6 (by decide) (hts (.fieldLink RX0 18 "OverHill$Dance" "starts" "[I") (by decide +kernel)) (fun _ h9 => h9) rfl dX0_clear_29 ?_
  refine lv_iconst (v := 0) hx hb dX0_clear_32 (by decide) ?_
  refine ct_callv (D := D) (wc := (w_c_J7_fill cI cJ cB cZ cO b6 2 (fun _ => 0))) (wr := [dn a b4 b5 b6 b7 b8 b10 b11 b13 b15, (b7, .inl (cI, 6, .inl (fun _ => 0))), (b10, .inl (cI, 200, .inl (fun _ => 0)))]) (va_runS (As := [.ref b6, .int 0]) (rest := []) ⟨hx, hb, hml, hown, hts⟩ (c_J7_fill l D cI cJ cB cZ cO b6 2 (fun _ => 0) 0 (by omega) H.size) (va_cwS 2 hts gX0_clear_J7_fill_53178 rfl rfl rfl (by decide +kernel) ⟨Nat.le_of_ble_eq_true rfl, Nat.le_of_ble_eq_true rfl⟩) (ct_preS (T := ct_T cI cJ cB cZ cO) hE hP hD [1] (by decide) rfl) rfl rfl hl.1 rfl (lv_room (Nat.le_of_ble_eq_true rfl)) dX0_clear_33 ⟨Nat.le_of_ble_eq_true rfl, Nat.le_of_ble_eq_true rfl⟩) hP hD hS hA [1] [0, 2, 3] rfl rfl (by decide) (by decide) (fun u H locs hw hP hD hS => ?_)
  have hP : va_P D vwCl [dn a b4 b5 b6 b7 b8 b10 b11 b13 b15, (b7, .inl (cI, 6, .inl (fun _ => 0))), (b10, .inl (cI, 200, .inl (fun _ => 0)))] H := hP
  have hD : va_D A [dn a b4 b5 b6 b7 b8 b10 b11 b13 b15, (b7, .inl (cI, 6, .inl (fun _ => 0))), (b10, .inl (cI, 200, .inl (fun _ => 0)))] := hD
  refine lv_aload_n hx hb dX0_clear_36 rfl (lv_at hl 0 rfl) ?_
  refine va_get (D := D) (ci := 0) (v := .ref b7) (C := RX0) (T := TX0) (N := 17) hx hb hts hi0 hown hK hP 0 rfl rfl 7 (by decide) (hts (.fieldLink RX0 21 "OverHill$Dance" "met" "[I") (by decide +kernel)) (fun _ h9 => h9) rfl dX0_clear_37 ?_
  refine lv_bipush (v := 63) hx hb dX0_clear_40 (by decide) ?_
  refine ct_callv (D := D) (wc := (w_c_J7_fill cI cJ cB cZ cO b7 6 (fun _ => 0))) (wr := [dn a b4 b5 b6 b7 b8 b10 b11 b13 b15, (b10, .inl (cI, 200, .inl (fun _ => 0)))]) (va_runS (As := [.ref b7, .int 63]) (rest := []) ⟨hx, hb, hml, hown, hts⟩ (c_J7_fill l D cI cJ cB cZ cO b7 6 (fun _ => 0) 63 (by omega) H.size) (va_cwS 2 hts gX0_clear_J7_fill_53178 rfl rfl rfl (by decide +kernel) ⟨Nat.le_of_ble_eq_true rfl, Nat.le_of_ble_eq_true rfl⟩) (ct_preS (T := ct_T cI cJ cB cZ cO) hE hP hD [1] (by decide) rfl) rfl rfl hl.1 rfl (lv_room (Nat.le_of_ble_eq_true rfl)) dX0_clear_42 ⟨Nat.le_of_ble_eq_true rfl, Nat.le_of_ble_eq_true rfl⟩) hP hD hS hA [1] [0, 2] rfl rfl (by decide) (by decide) (fun u H locs hw hP hD hS => ?_)
  have hP : va_P D vwCl [dn a b4 b5 b6 b7 b8 b10 b11 b13 b15, (b10, .inl (cI, 200, .inl (fun _ => 0)))] H := hP
  have hD : va_D A [dn a b4 b5 b6 b7 b8 b10 b11 b13 b15, (b10, .inl (cI, 200, .inl (fun _ => 0)))] := hD
  refine lv_aload_n hx hb dX0_clear_45 rfl (lv_at hl 0 rfl) ?_
  refine va_get (D := D) (ci := 0) (v := .ref b10) (C := RX0) (T := TX0) (N := 17) hx hb hts hi0 hown hK hP 0 rfl rfl 10 (by decide) (hts (.fieldLink RX0 27 "OverHill$Dance" "muds" "[I") (by decide +kernel)) (fun _ h9 => h9) rfl dX0_clear_46 ?_
  refine lv_iconst (v := 0) hx hb dX0_clear_49 (by decide) ?_
  refine ct_callv (D := D) (wc := (w_c_J7_fill cI cJ cB cZ cO b10 200 (fun _ => 0))) (wr := [dn a b4 b5 b6 b7 b8 b10 b11 b13 b15]) (va_runS (As := [.ref b10, .int 0]) (rest := []) ⟨hx, hb, hml, hown, hts⟩ (c_J7_fill l D cI cJ cB cZ cO b10 200 (fun _ => 0) 0 (by omega) H.size) (va_cwS 2 hts gX0_clear_J7_fill_53178 rfl rfl rfl (by decide +kernel) ⟨Nat.le_of_ble_eq_true rfl, Nat.le_of_ble_eq_true rfl⟩) (ct_preS (T := ct_T cI cJ cB cZ cO) hE hP hD [1] (by decide) rfl) rfl rfl hl.1 rfl (lv_room (Nat.le_of_ble_eq_true rfl)) dX0_clear_50 ⟨Nat.le_of_ble_eq_true rfl, Nat.le_of_ble_eq_true rfl⟩) hP hD hS hA [1] [0] rfl rfl (by decide) (by decide) (fun u H locs hw hP hD hS => ?_)
  have hP : va_P D vwCl [dn a b4 b5 b6 b7 b8 b10 b11 b13 b15] H := hP
  have hD : va_D A [dn a b4 b5 b6 b7 b8 b10 b11 b13 b15] := hD
  refine lv_aload_n hx hb dX0_clear_53 rfl (lv_at hl 0 rfl) ?_
  refine lv_iconst (v := 0) hx hb dX0_clear_54 (by decide) ?_
  refine va_put (D := D) (ci := 0) (v := .int 0) (ty := .int) (C := RX0) (T := TX0) (N := 17) hx hb hts hi0 tyX0 tyX0_ok nmX0 hown hK hP hD hS 0 rfl rfl 9 (by decide) (hts (.fieldLink RX0 58 "OverHill$Dance" "stumbleCount" "I") (by decide +kernel)) (fun _ h9 => h9) rfl (by decide +kernel) rfl rfl (Nat.le_of_ble_eq_true rfl) dX0_clear_55 (fun H locs hP hD hS => ?_)
  have hP : va_P D vwCl [dn a b4 b5 b6 b7 b8 b10 b11 b13 b15] H := hP
  have hD : va_D A [dn a b4 b5 b6 b7 b8 b10 b11 b13 b15] := hD
  refine lv_aload_n hx hb dX0_clear_58 rfl (lv_at hl 0 rfl) ?_
  refine lv_iconst (v := 0) hx hb dX0_clear_59 (by decide) ?_
  refine va_put (D := D) (ci := 0) (v := .int 0) (ty := .int) (C := RX0) (T := TX0) (N := 17) hx hb hts hi0 tyX0 tyX0_ok nmX0 hown hK hP hD hS 0 rfl rfl 12 (by decide) (hts (.fieldLink RX0 61 "OverHill$Dance" "cellCount" "I") (by decide +kernel)) (fun _ h9 => h9) rfl (by decide +kernel) rfl rfl (Nat.le_of_ble_eq_true rfl) dX0_clear_60 (fun H locs hP hD hS => ?_)
  have hP : va_P D vwCl [dn a b4 b5 b6 b7 b8 b10 b11 b13 b15] H := hP
  have hD : va_D A [dn a b4 b5 b6 b7 b8 b10 b11 b13 b15] := hD
  refine lv_aload_n hx hb dX0_clear_63 rfl (lv_at hl 0 rfl) ?_
  refine lv_iconst (v := 0) hx hb dX0_clear_64 (by decide) ?_
  refine va_put (D := D) (ci := 0) (v := .int 0) (ty := .int) (C := RX0) (T := TX0) (N := 17) hx hb hts hi0 tyX0 tyX0_ok nmX0 hown hK hP hD hS 0 rfl rfl 14 (by decide) (hts (.fieldLink RX0 64 "OverHill$Dance" "tuneCount" "I") (by decide +kernel)) (fun _ h9 => h9) rfl (by decide +kernel) rfl rfl (Nat.le_of_ble_eq_true rfl) dX0_clear_65 (fun H locs hP hD hS => ?_)
  have hP : va_P D vwCl [dn a b4 b5 b6 b7 b8 b10 b11 b13 b15] H := hP
  have hD : va_D A [dn a b4 b5 b6 b7 b8 b10 b11 b13 b15] := hD
  refine lv_aload_n hx hb dX0_clear_68 rfl (lv_at hl 0 rfl) ?_
  refine lv_iconst (v := 0) hx hb dX0_clear_69 (by decide) ?_
  refine va_put (D := D) (ci := 0) (v := .int 0) (ty := .int) (C := RX0) (T := TX0) (N := 17) hx hb hts hi0 tyX0 tyX0_ok nmX0 hown hK hP hD hS 0 rfl rfl 16 (by decide) (hts (.fieldLink RX0 67 "OverHill$Dance" "changeCount" "I") (by decide +kernel)) (fun _ h9 => h9) rfl (by decide +kernel) rfl rfl (Nat.le_of_ble_eq_true rfl) dX0_clear_70 (fun H locs hP hD hS => ?_)
  have hP : va_P D vwCl [dn a b4 b5 b6 b7 b8 b10 b11 b13 b15] H := hP
  have hD : va_D A [dn a b4 b5 b6 b7 b8 b10 b11 b13 b15] := hD
  have hP9 := hP.sub (ws' := [dn a b4 b5 b6 b7 b8 b10 b11 b13 b15]) [0] rfl
  have hD9 := hD.sub (ws' := [dn a b4 b5 b6 b7 b8 b10 b11 b13 b15]) [0] (by decide) rfl
  exact W.vret hx hb hr (fun t ht hW => ⟨⟨(), rfl, trivial, by rw [ht]; exact hP9, hD9⟩, hS.F ht⟩) hS.2.2 dX0_clear_73
abbrev w_c_X8_advance (cI cJ cB cZ cO : ClassId) (a : Nat) (b : Nat) : va_W := [(a, .inr (8, [.ref b, .int 0, .int 0, .int 0, .int 0, .int 0]))]
set_option maxHeartbeats 4000000 in
set_option maxRecDepth 100000 in
/-- at the end of an empty TAPE -/
theorem c_X8_advance (l : Launch) (D : va_G) (cI cJ cB cZ cO : ClassId) (a : Nat) (b : Nat) (sz : Nat) : Met l yX8_advance wsX8_advance ({ frames := 0, cells := 0, slots := 0, locals := 0 }) (va_Pc [.ref a] (ct_P D (ct_T cI cJ cB cZ cO) (w_c_X8_advance cI cJ cB cZ cO a b) sz)) (va_Qv (fun (u : Unit) => True) (fun (u : Unit) t => ct_Q D (va_A (w_c_X8_advance cI cJ cB cZ cO a b) sz) [(a, .inr (8, [.ref b, .int 0, .int 0, .int 0, .int 0, .int 0]))] t) (va_A (w_c_X8_advance cI cJ cB cZ cO a b) sz)) 0 0 (va_A (w_c_X8_advance cI cJ cB cZ cO a b) sz) := by
  refine Met.ofW (cc := cX8_advance) (maxL := 1) (ret := none) (by decide) rfl ?_
  intro p e s m args below meth c s₁ B hml hv
  obtain ⟨rfl, hsz, hP, hE, hD0⟩ := hv
  have hx := B.exec
  have hb := B.bytes
  have hr := B.returns
  have hts := atoms_spec (ws := wsX8_advance) B.pre
  have hown : s.vm.findClass RX8 = some m.cls := findClass_of_methodNamed B.named
  have hlocks := B.notSynchronized
  have hK := hE.1
  have hi8 : ∀ w ∈ u_ws RX8 TX8 6, w ∈ wsX8_advance := fun w h => List.mem_cons_of_mem _ (List.mem_append_right _ h)
  subst hsz
  have hD := hD0.self (sz := s.heap.size)
  generalize hAe : va_A (w_c_X8_advance cI cJ cB cZ cO a b) s.heap.size = A at hD ⊢
  have hA : ∀ q : Nat, s.heap.size ≤ q → A q := fun q h => by rw [← hAe]; exact Or.inr h
  have hS : va_S A s.heap s.heap [] := va_S.rf
  have hP : va_P D vwCl [(a, .inr (8, [.ref b, .int 0, .int 0, .int 0, .int 0, .int 0]))] s.heap := hP
  have hD : va_D A [(a, .inr (8, [.ref b, .int 0, .int 0, .int 0, .int 0, .int 0]))] := hD
  have hl := lv_entry ([.ref a]) (n := 1) (Nat.le_of_ble_eq_true rfl)
  rw [lg_entry_eq]
  generalize (lg_sl ([.ref a]) ++ List.replicate (1 - (lg_sl ([.ref a])).length) Slot.unset).toArray = ls at hl ⊢
  have hl : lv_has ls 1 [(0, .ref a)] := hl
  obtain ⟨H, hHe⟩ : ∃ H : Heap, H = s.heap := ⟨_, rfl⟩
  rw [← hHe] at hP
  have hS : va_S A s.heap H [] := by rw [hHe]; exact va_S.rf
  refine ct_start hHe ?_
  refine lv_aload_n hx hb dX8_advance_0 rfl (lv_at hl 0 rfl) ?_
  refine lv_aload_n hx hb dX8_advance_1 rfl (lv_at hl 0 rfl) ?_
  refine va_get (D := D) (ci := 8) (v := .int 0) (C := RX8) (T := TX8) (N := 6) hx hb hts hi8 hown hK hP 0 rfl rfl 4 (by decide) (hts (.fieldLink RX8 19 "OverHill$Tape" "upto" "I") (by decide +kernel)) (fun _ h9 => h9) rfl dX8_advance_2 ?_
  refine va_put (D := D) (ci := 8) (v := .int 0) (ty := .int) (C := RX8) (T := TX8) (N := 6) hx hb hts hi8 tyX8 tyX8_ok nmX8 hown hK hP hD hS 0 rfl rfl 3 (by decide) (hts (.fieldLink RX8 25 "OverHill$Tape" "from" "I") (by decide +kernel)) (fun _ h9 => h9) rfl (by decide +kernel) rfl rfl (Nat.le_of_ble_eq_true rfl) dX8_advance_5 (fun H locs hP hD hS => ?_)
  have hP : va_P D vwCl [(a, .inr (8, [.ref b, .int 0, .int 0, .int 0, .int 0, .int 0]))] H := hP
  have hD : va_D A [(a, .inr (8, [.ref b, .int 0, .int 0, .int 0, .int 0, .int 0]))] := hD
  refine lv_aload_n hx hb dX8_advance_8 rfl (lv_at hl 0 rfl) ?_
  refine va_get (D := D) (ci := 8) (v := .int 0) (C := RX8) (T := TX8) (N := 6) hx hb hts hi8 hown hK hP 0 rfl rfl 3 (by decide) (hts (.fieldLink RX8 25 "OverHill$Tape" "from" "I") (by decide +kernel)) (fun _ h9 => h9) rfl dX8_advance_9 ?_
  refine lv_aload_n hx hb dX8_advance_12 rfl (lv_at hl 0 rfl) ?_
  refine va_get (D := D) (ci := 8) (v := .int 0) (C := RX8) (T := TX8) (N := 6) hx hb hts hi8 hown hK hP 0 rfl rfl 1 (by decide) (hts (.fieldLink RX8 15 "OverHill$Tape" "length" "I") (by decide +kernel)) (fun _ h9 => h9) rfl dX8_advance_13 ?_
  refine lv_icmp_ge (tgt := 48) hx hb dX8_advance_16 (by decide) (fun _ => ?_) (fun hc => absurd hc (by decide))
  refine lv_aload_n hx hb dX8_advance_48 rfl (lv_at hl 0 rfl) ?_
  refine lv_aload_n hx hb dX8_advance_49 rfl (lv_at hl 0 rfl) ?_
  refine va_get (D := D) (ci := 8) (v := .int 0) (C := RX8) (T := TX8) (N := 6) hx hb hts hi8 hown hK hP 0 rfl rfl 3 (by decide) (hts (.fieldLink RX8 25 "OverHill$Tape" "from" "I") (by decide +kernel)) (fun _ h9 => h9) rfl dX8_advance_50 ?_
  refine va_put (D := D) (ci := 8) (v := .int 0) (ty := .int) (C := RX8) (T := TX8) (N := 6) hx hb hts hi8 tyX8 tyX8_ok nmX8 hown hK hP hD hS 0 rfl rfl 4 (by decide) (hts (.fieldLink RX8 19 "OverHill$Tape" "upto" "I") (by decide +kernel)) (fun _ h9 => h9) rfl (by decide +kernel) rfl rfl (Nat.le_of_ble_eq_true rfl) dX8_advance_53 (fun H locs hP hD hS => ?_)
  have hP : va_P D vwCl [(a, .inr (8, [.ref b, .int 0, .int 0, .int 0, .int 0, .int 0]))] H := hP
  have hD : va_D A [(a, .inr (8, [.ref b, .int 0, .int 0, .int 0, .int 0, .int 0]))] := hD
  refine lv_aload_n hx hb dX8_advance_56 rfl (lv_at hl 0 rfl) ?_
  refine lv_iconst (v := 0) hx hb dX8_advance_57 (by decide) ?_
  refine va_put (D := D) (ci := 8) (v := .int 0) (ty := .int) (C := RX8) (T := TX8) (N := 6) hx hb hts hi8 tyX8 tyX8_ok nmX8 hown hK hP hD hS 0 rfl rfl 5 (by decide) (hts (.fieldLink RX8 32 "OverHill$Tape" "value" "I") (by decide +kernel)) (fun _ h9 => h9) rfl (by decide +kernel) rfl rfl (Nat.le_of_ble_eq_true rfl) dX8_advance_58 (fun H locs hP hD hS => ?_)
  have hP : va_P D vwCl [(a, .inr (8, [.ref b, .int 0, .int 0, .int 0, .int 0, .int 0]))] H := hP
  have hD : va_D A [(a, .inr (8, [.ref b, .int 0, .int 0, .int 0, .int 0, .int 0]))] := hD
  refine lv_aload_n hx hb dX8_advance_61 rfl (lv_at hl 0 rfl) ?_
  refine lv_aload_n hx hb dX8_advance_62 rfl (lv_at hl 0 rfl) ?_
  refine va_get (D := D) (ci := 8) (v := .int 0) (C := RX8) (T := TX8) (N := 6) hx hb hts hi8 hown hK hP 0 rfl rfl 3 (by decide) (hts (.fieldLink RX8 25 "OverHill$Tape" "from" "I") (by decide +kernel)) (fun _ h9 => h9) rfl dX8_advance_63 ?_
  refine lv_aload_n hx hb dX8_advance_66 rfl (lv_at hl 0 rfl) ?_
  refine va_get (D := D) (ci := 8) (v := .int 0) (C := RX8) (T := TX8) (N := 6) hx hb hts hi8 hown hK hP 0 rfl rfl 1 (by decide) (hts (.fieldLink RX8 15 "OverHill$Tape" "length" "I") (by decide +kernel)) (fun _ h9 => h9) rfl dX8_advance_67 ?_
  refine lv_icmp_ge (tgt := 88) hx hb dX8_advance_70 (by decide) (fun _ => ?_) (fun hc => absurd hc (by decide))
  refine lv_iconst (v := 0) hx hb dX8_advance_88 (by decide) ?_
  refine va_put (D := D) (ci := 8) (v := .int 0) (ty := .int) (C := RX8) (T := TX8) (N := 6) hx hb hts hi8 tyX8 tyX8_ok nmX8 hown hK hP hD hS 0 rfl rfl 2 (by decide) (hts (.fieldLink RX8 35 "OverHill$Tape" "kind" "I") (by decide +kernel)) (fun _ h9 => h9) rfl (by decide +kernel) rfl rfl (Nat.le_of_ble_eq_true rfl) dX8_advance_89 (fun H locs hP hD hS => ?_)
  have hP : va_P D vwCl [(a, .inr (8, [.ref b, .int 0, .int 0, .int 0, .int 0, .int 0]))] H := hP
  have hD : va_D A [(a, .inr (8, [.ref b, .int 0, .int 0, .int 0, .int 0, .int 0]))] := hD
  refine lv_aload_n hx hb dX8_advance_92 rfl (lv_at hl 0 rfl) ?_
  refine va_get (D := D) (ci := 8) (v := .int 0) (C := RX8) (T := TX8) (N := 6) hx hb hts hi8 hown hK hP 0 rfl rfl 2 (by decide) (hts (.fieldLink RX8 35 "OverHill$Tape" "kind" "I") (by decide +kernel)) (fun _ h9 => h9) rfl dX8_advance_93 ?_
  refine lv_iconst (v := 3) hx hb dX8_advance_96 (by decide) ?_
  refine lv_icmp_eq (tgt := 108) hx hb dX8_advance_97 (by decide) (fun hc => absurd hc (by decide)) (fun _ => ?_)
  refine lv_aload_n hx hb dX8_advance_100 rfl (lv_at hl 0 rfl) ?_
  refine va_get (D := D) (ci := 8) (v := .int 0) (C := RX8) (T := TX8) (N := 6) hx hb hts hi8 hown hK hP 0 rfl rfl 2 (by decide) (hts (.fieldLink RX8 35 "OverHill$Tape" "kind" "I") (by decide +kernel)) (fun _ h9 => h9) rfl dX8_advance_101 ?_
  refine lv_iconst (v := 5) hx hb dX8_advance_104 (by decide) ?_
  refine lv_icmp_ne (tgt := 119) hx hb dX8_advance_105 (by decide) (fun _ => ?_) (fun hc => absurd hc (by decide))
  refine lv_aload_n hx hb dX8_advance_119 rfl (lv_at hl 0 rfl) ?_
  refine va_get (D := D) (ci := 8) (v := .int 0) (C := RX8) (T := TX8) (N := 6) hx hb hts hi8 hown hK hP 0 rfl rfl 4 (by decide) (hts (.fieldLink RX8 19 "OverHill$Tape" "upto" "I") (by decide +kernel)) (fun _ h9 => h9) rfl dX8_advance_120 ?_
  refine lv_aload_n hx hb dX8_advance_123 rfl (lv_at hl 0 rfl) ?_
  refine va_get (D := D) (ci := 8) (v := .int 0) (C := RX8) (T := TX8) (N := 6) hx hb hts hi8 hown hK hP 0 rfl rfl 1 (by decide) (hts (.fieldLink RX8 15 "OverHill$Tape" "length" "I") (by decide +kernel)) (fun _ h9 => h9) rfl dX8_advance_124 ?_
  refine lv_icmp_ge (tgt := 192) hx hb dX8_advance_127 (by decide) (fun _ => ?_) (fun hc => absurd hc (by decide))
  have hP9 := hP.sub (ws' := [(a, .inr (8, [.ref b, .int 0, .int 0, .int 0, .int 0, .int 0]))]) [0] rfl
  have hD9 := hD.sub (ws' := [(a, .inr (8, [.ref b, .int 0, .int 0, .int 0, .int 0, .int 0]))]) [0] (by decide) rfl
  exact W.vret hx hb hr (fun t ht hW => ⟨⟨(), rfl, trivial, by rw [ht]; exact hP9, hD9⟩, hS.F ht⟩) hS.2.2 dX8_advance_192
abbrev w_c_X8_rewind (cI cJ cB cZ cO : ClassId) (a : Nat) (b : Nat) : va_W := [(a, .inr (8, [.ref b, .int 0, .int 0, .int 0, .int 0, .int 0]))]
set_option maxHeartbeats 4000000 in
set_option maxRecDepth 100000 in
/-- an empty TAPE from its begin -/
theorem c_X8_rewind (l : Launch) (D : va_G) (cI cJ cB cZ cO : ClassId) (a : Nat) (b : Nat) (sz : Nat) : Met l yX8_rewind wsX8_rewind ({ frames := 1, cells := 0, slots := 0, locals := 20 }) (va_Pc [.ref a] (ct_P D (ct_T cI cJ cB cZ cO) (w_c_X8_rewind cI cJ cB cZ cO a b) sz)) (va_Qv (fun (u : Unit) => True) (fun (u : Unit) t => ct_Q D (va_A (w_c_X8_rewind cI cJ cB cZ cO a b) sz) [(a, .inr (8, [.ref b, .int 0, .int 0, .int 0, .int 0, .int 0]))] t) (va_A (w_c_X8_rewind cI cJ cB cZ cO a b) sz)) 0 0 (va_A (w_c_X8_rewind cI cJ cB cZ cO a b) sz) := by
  refine Met.ofW (cc := cX8_rewind) (maxL := 1) (ret := none) (by decide) rfl ?_
  intro p e s m args below meth c s₁ B hml hv
  obtain ⟨rfl, hsz, hP, hE, hD0⟩ := hv
  have hx := B.exec
  have hb := B.bytes
  have hr := B.returns
  have hts := atoms_spec (ws := wsX8_rewind) B.pre
  have hown : s.vm.findClass RX8 = some m.cls := findClass_of_methodNamed B.named
  have hlocks := B.notSynchronized
  have hK := hE.1
  have hi8 : ∀ w ∈ u_ws RX8 TX8 6, w ∈ wsX8_rewind := fun w h => List.mem_cons_of_mem _ (List.mem_append_right _ h)
  subst hsz
  have hD := hD0.self (sz := s.heap.size)
  generalize hAe : va_A (w_c_X8_rewind cI cJ cB cZ cO a b) s.heap.size = A at hD ⊢
  have hA : ∀ q : Nat, s.heap.size ≤ q → A q := fun q h => by rw [← hAe]; exact Or.inr h
  have hS : va_S A s.heap s.heap [] := va_S.rf
  have hP : va_P D vwCl [(a, .inr (8, [.ref b, .int 0, .int 0, .int 0, .int 0, .int 0]))] s.heap := hP
  have hD : va_D A [(a, .inr (8, [.ref b, .int 0, .int 0, .int 0, .int 0, .int 0]))] := hD
  have hl := lv_entry ([.ref a]) (n := 1) (Nat.le_of_ble_eq_true rfl)
  rw [lg_entry_eq]
  generalize (lg_sl ([.ref a]) ++ List.replicate (1 - (lg_sl ([.ref a])).length) Slot.unset).toArray = ls at hl ⊢
  have hl : lv_has ls 1 [(0, .ref a)] := hl
  obtain ⟨H, hHe⟩ : ∃ H : Heap, H = s.heap := ⟨_, rfl⟩
  rw [← hHe] at hP
  have hS : va_S A s.heap H [] := by rw [hHe]; exact va_S.rf
  refine ct_start hHe ?_
  refine lv_aload_n hx hb dX8_rewind_0 rfl (lv_at hl 0 rfl) ?_
  refine lv_iconst (v := 0) hx hb dX8_rewind_1 (by decide) ?_
  refine va_put (D := D) (ci := 8) (v := .int 0) (ty := .int) (C := RX8) (T := TX8) (N := 6) hx hb hts hi8 tyX8 tyX8_ok nmX8 hown hK hP hD hS 0 rfl rfl 4 (by decide) (hts (.fieldLink RX8 19 "OverHill$Tape" "upto" "I") (by decide +kernel)) (fun _ h9 => h9) rfl (by decide +kernel) rfl rfl (Nat.le_of_ble_eq_true rfl) dX8_rewind_2 (fun H locs hP hD hS => ?_)
  have hP : va_P D vwCl [(a, .inr (8, [.ref b, .int 0, .int 0, .int 0, .int 0, .int 0]))] H := hP
  have hD : va_D A [(a, .inr (8, [.ref b, .int 0, .int 0, .int 0, .int 0, .int 0]))] := hD
  refine lv_aload_n hx hb dX8_rewind_5 rfl (lv_at hl 0 rfl) ?_
  refine ct_callv (D := D) (wc := (w_c_X8_advance cI cJ cB cZ cO a b)) (wr := []) (va_runV (As := []) (rest := []) ⟨hx, hb, hml, hown, hts⟩ (c_X8_advance l D cI cJ cB cZ cO a b H.size) (cwV 0 hts gX8_rewind_X8_advance rfl rfl rfl (by decide +kernel) ⟨Nat.le_of_ble_eq_true rfl, Nat.le_of_ble_eq_true rfl⟩) (ct_preV (T := ct_T cI cJ cB cZ cO) (ci := 8) (q0 := 0) hE hP hD [0] (by decide) rfl rfl rfl) rfl rfl hl.1 rfl (lv_room (Nat.le_of_ble_eq_true rfl)) dX8_rewind_6 ⟨Nat.le_of_ble_eq_true rfl, Nat.le_of_ble_eq_true rfl⟩) hP hD hS hA [0] [] rfl rfl (by decide) (by decide) (fun u H locs hw hP hD hS => ?_)
  have hP : va_P D vwCl [(a, .inr (8, [.ref b, .int 0, .int 0, .int 0, .int 0, .int 0]))] H := hP
  have hD : va_D A [(a, .inr (8, [.ref b, .int 0, .int 0, .int 0, .int 0, .int 0]))] := hD
  have hP9 := hP.sub (ws' := [(a, .inr (8, [.ref b, .int 0, .int 0, .int 0, .int 0, .int 0]))]) [0] rfl
  have hD9 := hD.sub (ws' := [(a, .inr (8, [.ref b, .int 0, .int 0, .int 0, .int 0, .int 0]))]) [0] (by decide) rfl
  exact W.vret hx hb hr (fun t ht hW => ⟨⟨(), rfl, trivial, by rw [ht]; exact hP9, hD9⟩, hS.F ht⟩) hS.2.2 dX8_rewind_9
